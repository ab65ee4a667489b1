set_option maxHeartbeats 4000000 in
set_option maxRecDepth 100000 in
theorem c_X5_mark (l : Launch) (G : gG) (sz : Nat) (q : Nat → Nat) (fs : Int32) (cd : Int32) (sp : Int32) (ln : Int32) (fr : Int32) (tm : Int32) (oc : Int32) (en : Int32) (tr : Int32) (ch : Int32) (kc : Int32) (re : Int32) (g1 : Nat → Int32) (g2 : Nat → Int32) (g3 : Nat → Int32) (gm : Nat → Int32) (gw : Nat → Int32) (gb : Nat → Int32) (gc : Nat → Int32) (gl : Nat → Int32) (gk : Nat → Int32) (go : Nat → Int32) (gt : Nat → Int32) (x : Int32) (o : Int32) (hl1 : ln.toInt ≤ 80) : Met l yX5_mark wsX5_mark { frames := 0, cells := 0, slots := 0, locals := 0 } (kPc G [.ref (q 0), .int x, .int o] [kO (q 0) 5 [.int cd, .int fs, .int sp, .ref (q 1), .ref (q 2), .ref (q 3), .ref (q 4), .int ln, .ref (q 5), .ref (q 6), .ref (q 7), .ref (q 8), .ref (q 9), .int fr, .int tm, .ref (q 10), .int oc, .int en, .int tr, .int ch, .ref (q 11), .int kc, .int re], kI (q 4) (G.2 1) 80 gm] sz (fun _ => True)) (kQi G (S := Int32 × (Nat → Int32)) (fun _ _ => True) (fun u => [kO (q 0) 5 [.int u.1, .int fs, .int sp, .ref (q 1), .ref (q 2), .ref (q 3), .ref (q 4), .int ln, .ref (q 5), .ref (q 6), .ref (q 7), .ref (q 8), .ref (q 9), .int fr, .int tm, .ref (q 10), .int oc, .int en, .int tr, .int ch, .ref (q 11), .int kc, .int re], kI (q 4) (G.2 1) 80 u.2]) (va_A [kO (q 0) 5 [.int cd, .int fs, .int sp, .ref (q 1), .ref (q 2), .ref (q 3), .ref (q 4), .int ln, .ref (q 5), .ref (q 6), .ref (q 7), .ref (q 8), .ref (q 9), .int fr, .int tm, .ref (q 10), .int oc, .int en, .int tr, .int ch, .ref (q 11), .int kc, .int re], kI (q 4) (G.2 1) 80 gm] sz)) 0 0 (va_A [kO (q 0) 5 [.int cd, .int fs, .int sp, .ref (q 1), .ref (q 2), .ref (q 3), .ref (q 4), .int ln, .ref (q 5), .ref (q 6), .ref (q 7), .ref (q 8), .ref (q 9), .int fr, .int tm, .ref (q 10), .int oc, .int en, .int tr, .int ch, .ref (q 11), .int kc, .int re], kI (q 4) (G.2 1) 80 gm] sz) := by
  refine kBeg (Qc := fun A => kQi G (S := Int32 × (Nat → Int32)) (fun _ _ => True) (fun u => [kO (q 0) 5 [.int u.1, .int fs, .int sp, .ref (q 1), .ref (q 2), .ref (q 3), .ref (q 4), .int ln, .ref (q 5), .ref (q 6), .ref (q 7), .ref (q 8), .ref (q 9), .int fr, .int tm, .ref (q 10), .int oc, .int en, .int tr, .int ch, .ref (q 11), .int kc, .int re], kI (q 4) (G.2 1) 80 u.2]) A) (by decide) rfl (Nat.le_of_ble_eq_true rfl) ?_
  intro A p e s m below meth c ls H locs hx hb hr hts hown hlocks hnm hml hsz hP hK hD hZ hA hS hl
  have hown : s.vm.findClass RX5 = some m.cls := hown
  have hl : lv_has ls 4 [(0, .ref (q 0)), (1, .int x), (2, .int o)] := hl
  have in5 : ∀ w ∈ wsX50, w ∈ wsX5_mark := by decide +kernel
  have kc0 : (0 : Int32).toInt = 0 := by decide
  have kc1 : (1 : Int32).toInt = 1 := by decide
  refine lv_aload_n hx hb dX5_mark_0 rfl (lv_at hl 0 rfl) ?_
  refine lv_iload_n hx hb dX5_mark_1 rfl (lv_at hl 1 rfl) ?_
  refine lv_if_lt (tgt := 17) hx hb dX5_mark_2 (by decide) (fun c1 => ?_) (fun c1 => ?_)
  · have t1 := i_lt.mp c1
    refine lv_iconst (v := 1) hx hb dX5_mark_17 (by decide) ?_
    refine va_put (D := G.1) (ci := 5) (v := .int 1) (ty := .int) (C := RX5) (T := TX5) (N := 23) hx hb hts in5 tyX5 tyX5_ok nmX5 hown hK hP hD hS 0 rfl rfl 0 (by decide) (hts (.fieldLink RX5 51 "TraceDebuggerModel" "code" "I") (by decide +kernel)) (fun _ h9 => h9) rfl (by decide +kernel) rfl rfl (Nat.le_of_ble_eq_true rfl) dX5_mark_18 (fun H locs hP hD hS => ?_)
    have hP : va_P G.1 vwCl [kO (q 0) 5 [.int 1, .int fs, .int sp, .ref (q 1), .ref (q 2), .ref (q 3), .ref (q 4), .int ln, .ref (q 5), .ref (q 6), .ref (q 7), .ref (q 8), .ref (q 9), .int fr, .int tm, .ref (q 10), .int oc, .int en, .int tr, .int ch, .ref (q 11), .int kc, .int re], kI (q 4) (G.2 1) 80 gm] H := hP
    have hD : va_D A [kO (q 0) 5 [.int 1, .int fs, .int sp, .ref (q 1), .ref (q 2), .ref (q 3), .ref (q 4), .int ln, .ref (q 5), .ref (q 6), .ref (q 7), .ref (q 8), .ref (q 9), .int fr, .int tm, .ref (q 10), .int oc, .int en, .int tr, .int ch, .ref (q 11), .int kc, .int re], kI (q 4) (G.2 1) 80 gm] := hD
    refine lv_aload_n hx hb dX5_mark_21 rfl (lv_at hl 0 rfl) ?_
    refine va_get (D := G.1) (ci := 5) (v := .int 1) (C := RX5) (T := TX5) (N := 23) hx hb hts in5 hown hK hP 0 rfl rfl 0 (by decide) (hts (.fieldLink RX5 51 "TraceDebuggerModel" "code" "I") (by decide +kernel)) (fun _ h9 => h9) rfl dX5_mark_22 ?_
    refine lv_if_le (tgt := 30) hx hb dX5_mark_25 (by decide) (fun c9 => absurd c9 (by decide)) (fun _ => ?_)
    refine lv_iconst (v := 0) hx hb dX5_mark_28 (by decide) ?_
    exact kRetZ (G := G) (1, gm) hx hb hr hlocks hS dX5_mark_29 rfl hP hD (by trivial)
  · have t1 := i_nlt.mp c1
    refine lv_iload_n hx hb dX5_mark_5 rfl (lv_at hl 1 rfl) ?_
    refine lv_aload_n hx hb dX5_mark_6 rfl (lv_at hl 0 rfl) ?_
    refine va_get (D := G.1) (ci := 5) (v := .int ln) (C := RX5) (T := TX5) (N := 23) hx hb hts in5 hown hK hP 0 rfl rfl 7 (by decide) (hts (.fieldLink RX5 93 "TraceDebuggerModel" "lines" "I") (by decide +kernel)) (fun _ h9 => h9) rfl dX5_mark_7 ?_
    refine lv_icmp_ge (tgt := 17) hx hb dX5_mark_10 (by decide) (fun c2 => ?_) (fun c2 => ?_)
    · have t2 := i_le.mp c2
      refine lv_iconst (v := 1) hx hb dX5_mark_17 (by decide) ?_
      refine va_put (D := G.1) (ci := 5) (v := .int 1) (ty := .int) (C := RX5) (T := TX5) (N := 23) hx hb hts in5 tyX5 tyX5_ok nmX5 hown hK hP hD hS 0 rfl rfl 0 (by decide) (hts (.fieldLink RX5 51 "TraceDebuggerModel" "code" "I") (by decide +kernel)) (fun _ h9 => h9) rfl (by decide +kernel) rfl rfl (Nat.le_of_ble_eq_true rfl) dX5_mark_18 (fun H locs hP hD hS => ?_)
      have hP : va_P G.1 vwCl [kO (q 0) 5 [.int 1, .int fs, .int sp, .ref (q 1), .ref (q 2), .ref (q 3), .ref (q 4), .int ln, .ref (q 5), .ref (q 6), .ref (q 7), .ref (q 8), .ref (q 9), .int fr, .int tm, .ref (q 10), .int oc, .int en, .int tr, .int ch, .ref (q 11), .int kc, .int re], kI (q 4) (G.2 1) 80 gm] H := hP
      have hD : va_D A [kO (q 0) 5 [.int 1, .int fs, .int sp, .ref (q 1), .ref (q 2), .ref (q 3), .ref (q 4), .int ln, .ref (q 5), .ref (q 6), .ref (q 7), .ref (q 8), .ref (q 9), .int fr, .int tm, .ref (q 10), .int oc, .int en, .int tr, .int ch, .ref (q 11), .int kc, .int re], kI (q 4) (G.2 1) 80 gm] := hD
      refine lv_aload_n hx hb dX5_mark_21 rfl (lv_at hl 0 rfl) ?_
      refine va_get (D := G.1) (ci := 5) (v := .int 1) (C := RX5) (T := TX5) (N := 23) hx hb hts in5 hown hK hP 0 rfl rfl 0 (by decide) (hts (.fieldLink RX5 51 "TraceDebuggerModel" "code" "I") (by decide +kernel)) (fun _ h9 => h9) rfl dX5_mark_22 ?_
      refine lv_if_le (tgt := 30) hx hb dX5_mark_25 (by decide) (fun c9 => absurd c9 (by decide)) (fun _ => ?_)
      refine lv_iconst (v := 0) hx hb dX5_mark_28 (by decide) ?_
      exact kRetZ (G := G) (1, gm) hx hb hr hlocks hS dX5_mark_29 rfl hP hD (by trivial)
    · have t2 := i_nle.mp c2
      refine lv_iconst (v := 0) hx hb dX5_mark_13 (by decide) ?_
      refine lv_goto (tgt := 18) hx hb dX5_mark_14 (by decide) ?_
      refine va_put (D := G.1) (ci := 5) (v := .int 0) (ty := .int) (C := RX5) (T := TX5) (N := 23) hx hb hts in5 tyX5 tyX5_ok nmX5 hown hK hP hD hS 0 rfl rfl 0 (by decide) (hts (.fieldLink RX5 51 "TraceDebuggerModel" "code" "I") (by decide +kernel)) (fun _ h9 => h9) rfl (by decide +kernel) rfl rfl (Nat.le_of_ble_eq_true rfl) dX5_mark_18 (fun H locs hP hD hS => ?_)
      have hP : va_P G.1 vwCl [kO (q 0) 5 [.int 0, .int fs, .int sp, .ref (q 1), .ref (q 2), .ref (q 3), .ref (q 4), .int ln, .ref (q 5), .ref (q 6), .ref (q 7), .ref (q 8), .ref (q 9), .int fr, .int tm, .ref (q 10), .int oc, .int en, .int tr, .int ch, .ref (q 11), .int kc, .int re], kI (q 4) (G.2 1) 80 gm] H := hP
      have hD : va_D A [kO (q 0) 5 [.int 0, .int fs, .int sp, .ref (q 1), .ref (q 2), .ref (q 3), .ref (q 4), .int ln, .ref (q 5), .ref (q 6), .ref (q 7), .ref (q 8), .ref (q 9), .int fr, .int tm, .ref (q 10), .int oc, .int en, .int tr, .int ch, .ref (q 11), .int kc, .int re], kI (q 4) (G.2 1) 80 gm] := hD
      refine lv_aload_n hx hb dX5_mark_21 rfl (lv_at hl 0 rfl) ?_
      refine va_get (D := G.1) (ci := 5) (v := .int 0) (C := RX5) (T := TX5) (N := 23) hx hb hts in5 hown hK hP 0 rfl rfl 0 (by decide) (hts (.fieldLink RX5 51 "TraceDebuggerModel" "code" "I") (by decide +kernel)) (fun _ h9 => h9) rfl dX5_mark_22 ?_
      refine lv_if_le (tgt := 30) hx hb dX5_mark_25 (by decide) (fun _ => ?_) (fun c9 => absurd c9 (by decide))
      refine lv_aload_n hx hb dX5_mark_30 rfl (lv_at hl 0 rfl) ?_
      refine va_get (D := G.1) (ci := 5) (v := .ref (q 4)) (C := RX5) (T := TX5) (N := 23) hx hb hts in5 hown hK hP 0 rfl rfl 6 (by decide) (hts (.fieldLink RX5 19 "TraceDebuggerModel" "marks" "[Z") (by decide +kernel)) (fun _ h9 => h9) rfl dX5_mark_31 ?_
      refine lv_iload_n hx hb dX5_mark_34 rfl (lv_at hl 1 rfl) ?_
      refine va_zald (D := G.1) hx hb hK hP 1 1 rfl rfl (vp_in_iff.mpr (by omega)) dX5_mark_35 ?_
      refine lv_iload_n hx hb dX5_mark_36 rfl (lv_at hl 2 rfl) ?_
      refine lv_icmp_eq (tgt := 44) hx hb dX5_mark_37 (by decide) (fun c3 => ?_) (fun c3 => ?_)
      · have t3 := i_eq.mp c3
        refine lv_iconst (v := 0) hx hb dX5_mark_44 (by decide) ?_
        refine lv_istore_n (lv' := [(3, .int 0), (0, .ref (q 0)), (1, .int x), (2, .int o)]) hx hb dX5_mark_45 rfl hl (by decide) rfl (fun ls hl => ?_)
        refine lv_aload_n hx hb dX5_mark_46 rfl (lv_at hl 1 rfl) ?_
        refine va_get (D := G.1) (ci := 5) (v := .ref (q 4)) (C := RX5) (T := TX5) (N := 23) hx hb hts in5 hown hK hP 0 rfl rfl 6 (by decide) (hts (.fieldLink RX5 19 "TraceDebuggerModel" "marks" "[Z") (by decide +kernel)) (fun _ h9 => h9) rfl dX5_mark_47 ?_
        refine lv_iload_n hx hb dX5_mark_50 rfl (lv_at hl 2 rfl) ?_
        refine lv_iload_n hx hb dX5_mark_51 rfl (lv_at hl 3 rfl) ?_
        refine va_zast (D := G.1) hx hb hK hP hD hS 1 1 rfl rfl (vp_in_iff.mpr (by omega)) dX5_mark_52 (fun H locs hP hD hS => ?_)
        have hP : va_P G.1 vwCl [kO (q 0) 5 [.int 0, .int fs, .int sp, .ref (q 1), .ref (q 2), .ref (q 3), .ref (q 4), .int ln, .ref (q 5), .ref (q 6), .ref (q 7), .ref (q 8), .ref (q 9), .int fr, .int tm, .ref (q 10), .int oc, .int en, .int tr, .int ch, .ref (q 11), .int kc, .int re], kI (q 4) (G.2 1) 80 (upd gm x.toNatClampNeg (vp_nar .boolean o))] H := hP
        have hD : va_D A [kO (q 0) 5 [.int 0, .int fs, .int sp, .ref (q 1), .ref (q 2), .ref (q 3), .ref (q 4), .int ln, .ref (q 5), .ref (q 6), .ref (q 7), .ref (q 8), .ref (q 9), .int fr, .int tm, .ref (q 10), .int oc, .int en, .int tr, .int ch, .ref (q 11), .int kc, .int re], kI (q 4) (G.2 1) 80 (upd gm x.toNatClampNeg (vp_nar .boolean o))] := hD
        refine lv_iload_n hx hb dX5_mark_53 rfl (lv_at hl 0 rfl) ?_
        exact kRetZ (G := G) (0, (upd gm x.toNatClampNeg (vp_nar .boolean o))) hx hb hr hlocks hS dX5_mark_54 rfl hP hD (by trivial)
      · have t3 := i_ne.mp c3
        refine lv_iconst (v := 1) hx hb dX5_mark_40 (by decide) ?_
        refine lv_goto (tgt := 45) hx hb dX5_mark_41 (by decide) ?_
        refine lv_istore_n (lv' := [(3, .int 1), (0, .ref (q 0)), (1, .int x), (2, .int o)]) hx hb dX5_mark_45 rfl hl (by decide) rfl (fun ls hl => ?_)
        refine lv_aload_n hx hb dX5_mark_46 rfl (lv_at hl 1 rfl) ?_
        refine va_get (D := G.1) (ci := 5) (v := .ref (q 4)) (C := RX5) (T := TX5) (N := 23) hx hb hts in5 hown hK hP 0 rfl rfl 6 (by decide) (hts (.fieldLink RX5 19 "TraceDebuggerModel" "marks" "[Z") (by decide +kernel)) (fun _ h9 => h9) rfl dX5_mark_47 ?_
        refine lv_iload_n hx hb dX5_mark_50 rfl (lv_at hl 2 rfl) ?_
        refine lv_iload_n hx hb dX5_mark_51 rfl (lv_at hl 3 rfl) ?_
        refine va_zast (D := G.1) hx hb hK hP hD hS 1 1 rfl rfl (vp_in_iff.mpr (by omega)) dX5_mark_52 (fun H locs hP hD hS => ?_)
        have hP : va_P G.1 vwCl [kO (q 0) 5 [.int 0, .int fs, .int sp, .ref (q 1), .ref (q 2), .ref (q 3), .ref (q 4), .int ln, .ref (q 5), .ref (q 6), .ref (q 7), .ref (q 8), .ref (q 9), .int fr, .int tm, .ref (q 10), .int oc, .int en, .int tr, .int ch, .ref (q 11), .int kc, .int re], kI (q 4) (G.2 1) 80 (upd gm x.toNatClampNeg (vp_nar .boolean o))] H := hP
        have hD : va_D A [kO (q 0) 5 [.int 0, .int fs, .int sp, .ref (q 1), .ref (q 2), .ref (q 3), .ref (q 4), .int ln, .ref (q 5), .ref (q 6), .ref (q 7), .ref (q 8), .ref (q 9), .int fr, .int tm, .ref (q 10), .int oc, .int en, .int tr, .int ch, .ref (q 11), .int kc, .int re], kI (q 4) (G.2 1) 80 (upd gm x.toNatClampNeg (vp_nar .boolean o))] := hD
        refine lv_iload_n hx hb dX5_mark_53 rfl (lv_at hl 0 rfl) ?_
        exact kRetZ (G := G) (0, (upd gm x.toNatClampNeg (vp_nar .boolean o))) hx hb hr hlocks hS dX5_mark_54 rfl hP hD (by trivial)

set_option maxHeartbeats 4000000 in
set_option maxRecDepth 100000 in
theorem c_X5_watch (l : Launch) (G : gG) (sz : Nat) (q : Nat → Nat) (fs : Int32) (cd : Int32) (sp : Int32) (ln : Int32) (fr : Int32) (tm : Int32) (oc : Int32) (en : Int32) (tr : Int32) (ch : Int32) (kc : Int32) (re : Int32) (g1 : Nat → Int32) (g2 : Nat → Int32) (g3 : Nat → Int32) (gm : Nat → Int32) (gw : Nat → Int32) (gb : Nat → Int32) (gc : Nat → Int32) (gl : Nat → Int32) (gk : Nat → Int32) (go : Nat → Int32) (gt : Nat → Int32) (x : Int32) (o : Int32)  : Met l yX5_watch wsX5_watch { frames := 0, cells := 0, slots := 0, locals := 0 } (kPc G [.ref (q 0), .int x, .int o] [kO (q 0) 5 [.int cd, .int fs, .int sp, .ref (q 1), .ref (q 2), .ref (q 3), .ref (q 4), .int ln, .ref (q 5), .ref (q 6), .ref (q 7), .ref (q 8), .ref (q 9), .int fr, .int tm, .ref (q 10), .int oc, .int en, .int tr, .int ch, .ref (q 11), .int kc, .int re], kI (q 5) (G.2 1) 64 gw] sz (fun _ => True)) (kQi G (S := Int32 × (Nat → Int32)) (fun r u => (u.1 = 0 ∧ (0 ≤ x.toInt ∧ x.toInt < 64) ∧ ((r = 0 ∧ gw x.toNatClampNeg = o) ∨ (r = 1 ∧ ¬ gw x.toNatClampNeg = o)) ∧ u.2 = upd gw x.toNatClampNeg (vp_nar .boolean o)) ∨ (u.1 = 1 ∧ ¬ (0 ≤ x.toInt ∧ x.toInt < 64) ∧ u.2 = gw)) (fun u => [kO (q 0) 5 [.int u.1, .int fs, .int sp, .ref (q 1), .ref (q 2), .ref (q 3), .ref (q 4), .int ln, .ref (q 5), .ref (q 6), .ref (q 7), .ref (q 8), .ref (q 9), .int fr, .int tm, .ref (q 10), .int oc, .int en, .int tr, .int ch, .ref (q 11), .int kc, .int re], kI (q 5) (G.2 1) 64 u.2]) (va_A [kO (q 0) 5 [.int cd, .int fs, .int sp, .ref (q 1), .ref (q 2), .ref (q 3), .ref (q 4), .int ln, .ref (q 5), .ref (q 6), .ref (q 7), .ref (q 8), .ref (q 9), .int fr, .int tm, .ref (q 10), .int oc, .int en, .int tr, .int ch, .ref (q 11), .int kc, .int re], kI (q 5) (G.2 1) 64 gw] sz)) 0 0 (va_A [kO (q 0) 5 [.int cd, .int fs, .int sp, .ref (q 1), .ref (q 2), .ref (q 3), .ref (q 4), .int ln, .ref (q 5), .ref (q 6), .ref (q 7), .ref (q 8), .ref (q 9), .int fr, .int tm, .ref (q 10), .int oc, .int en, .int tr, .int ch, .ref (q 11), .int kc, .int re], kI (q 5) (G.2 1) 64 gw] sz) := by
  refine kBeg (Qc := fun A => kQi G (S := Int32 × (Nat → Int32)) (fun r u => (u.1 = 0 ∧ (0 ≤ x.toInt ∧ x.toInt < 64) ∧ ((r = 0 ∧ gw x.toNatClampNeg = o) ∨ (r = 1 ∧ ¬ gw x.toNatClampNeg = o)) ∧ u.2 = upd gw x.toNatClampNeg (vp_nar .boolean o)) ∨ (u.1 = 1 ∧ ¬ (0 ≤ x.toInt ∧ x.toInt < 64) ∧ u.2 = gw)) (fun u => [kO (q 0) 5 [.int u.1, .int fs, .int sp, .ref (q 1), .ref (q 2), .ref (q 3), .ref (q 4), .int ln, .ref (q 5), .ref (q 6), .ref (q 7), .ref (q 8), .ref (q 9), .int fr, .int tm, .ref (q 10), .int oc, .int en, .int tr, .int ch, .ref (q 11), .int kc, .int re], kI (q 5) (G.2 1) 64 u.2]) A) (by decide) rfl (Nat.le_of_ble_eq_true rfl) ?_
  intro A p e s m below meth c ls H locs hx hb hr hts hown hlocks hnm hml hsz hP hK hD hZ hA hS hl
  have hown : s.vm.findClass RX5 = some m.cls := hown
  have hl : lv_has ls 4 [(0, .ref (q 0)), (1, .int x), (2, .int o)] := hl
  have in5 : ∀ w ∈ wsX50, w ∈ wsX5_watch := by decide +kernel
  have kc0 : (0 : Int32).toInt = 0 := by decide
  have kc1 : (1 : Int32).toInt = 1 := by decide
  have kc64 : (64 : Int32).toInt = 64 := by decide
  refine lv_aload_n hx hb dX5_watch_0 rfl (lv_at hl 0 rfl) ?_
  refine lv_iload_n hx hb dX5_watch_1 rfl (lv_at hl 1 rfl) ?_
  refine lv_if_lt (tgt := 15) hx hb dX5_watch_2 (by decide) (fun c1 => ?_) (fun c1 => ?_)
  · have t1 := i_lt.mp c1
    refine lv_iconst (v := 1) hx hb dX5_watch_15 (by decide) ?_
    refine va_put (D := G.1) (ci := 5) (v := .int 1) (ty := .int) (C := RX5) (T := TX5) (N := 23) hx hb hts in5 tyX5 tyX5_ok nmX5 hown hK hP hD hS 0 rfl rfl 0 (by decide) (hts (.fieldLink RX5 51 "TraceDebuggerModel" "code" "I") (by decide +kernel)) (fun _ h9 => h9) rfl (by decide +kernel) rfl rfl (Nat.le_of_ble_eq_true rfl) dX5_watch_16 (fun H locs hP hD hS => ?_)
    have hP : va_P G.1 vwCl [kO (q 0) 5 [.int 1, .int fs, .int sp, .ref (q 1), .ref (q 2), .ref (q 3), .ref (q 4), .int ln, .ref (q 5), .ref (q 6), .ref (q 7), .ref (q 8), .ref (q 9), .int fr, .int tm, .ref (q 10), .int oc, .int en, .int tr, .int ch, .ref (q 11), .int kc, .int re], kI (q 5) (G.2 1) 64 gw] H := hP
    have hD : va_D A [kO (q 0) 5 [.int 1, .int fs, .int sp, .ref (q 1), .ref (q 2), .ref (q 3), .ref (q 4), .int ln, .ref (q 5), .ref (q 6), .ref (q 7), .ref (q 8), .ref (q 9), .int fr, .int tm, .ref (q 10), .int oc, .int en, .int tr, .int ch, .ref (q 11), .int kc, .int re], kI (q 5) (G.2 1) 64 gw] := hD
    refine lv_aload_n hx hb dX5_watch_19 rfl (lv_at hl 0 rfl) ?_
    refine va_get (D := G.1) (ci := 5) (v := .int 1) (C := RX5) (T := TX5) (N := 23) hx hb hts in5 hown hK hP 0 rfl rfl 0 (by decide) (hts (.fieldLink RX5 51 "TraceDebuggerModel" "code" "I") (by decide +kernel)) (fun _ h9 => h9) rfl dX5_watch_20 ?_
    refine lv_if_le (tgt := 28) hx hb dX5_watch_23 (by decide) (fun c9 => absurd c9 (by decide)) (fun _ => ?_)
    refine lv_iconst (v := 0) hx hb dX5_watch_26 (by decide) ?_
    exact kRetZ (G := G) (1, gw) hx hb hr hlocks hS dX5_watch_27 rfl hP hD (by (try dsimp only); exact (by first | exact Or.inr ⟨rfl, by omega, rfl⟩ | exact Or.inl ⟨rfl, by omega, Or.inl ⟨rfl, by assumption⟩, rfl⟩ | exact Or.inl ⟨rfl, by omega, Or.inr ⟨rfl, by assumption⟩, rfl⟩))
  · have t1 := i_nlt.mp c1
    refine lv_iload_n hx hb dX5_watch_5 rfl (lv_at hl 1 rfl) ?_
    refine lv_bipush (v := 64) hx hb dX5_watch_6 (by decide) ?_
    refine lv_icmp_ge (tgt := 15) hx hb dX5_watch_8 (by decide) (fun c2 => ?_) (fun c2 => ?_)
    · have t2 := i_le.mp c2
      refine lv_iconst (v := 1) hx hb dX5_watch_15 (by decide) ?_
      refine va_put (D := G.1) (ci := 5) (v := .int 1) (ty := .int) (C := RX5) (T := TX5) (N := 23) hx hb hts in5 tyX5 tyX5_ok nmX5 hown hK hP hD hS 0 rfl rfl 0 (by decide) (hts (.fieldLink RX5 51 "TraceDebuggerModel" "code" "I") (by decide +kernel)) (fun _ h9 => h9) rfl (by decide +kernel) rfl rfl (Nat.le_of_ble_eq_true rfl) dX5_watch_16 (fun H locs hP hD hS => ?_)
      have hP : va_P G.1 vwCl [kO (q 0) 5 [.int 1, .int fs, .int sp, .ref (q 1), .ref (q 2), .ref (q 3), .ref (q 4), .int ln, .ref (q 5), .ref (q 6), .ref (q 7), .ref (q 8), .ref (q 9), .int fr, .int tm, .ref (q 10), .int oc, .int en, .int tr, .int ch, .ref (q 11), .int kc, .int re], kI (q 5) (G.2 1) 64 gw] H := hP
      have hD : va_D A [kO (q 0) 5 [.int 1, .int fs, .int sp, .ref (q 1), .ref (q 2), .ref (q 3), .ref (q 4), .int ln, .ref (q 5), .ref (q 6), .ref (q 7), .ref (q 8), .ref (q 9), .int fr, .int tm, .ref (q 10), .int oc, .int en, .int tr, .int ch, .ref (q 11), .int kc, .int re], kI (q 5) (G.2 1) 64 gw] := hD
      refine lv_aload_n hx hb dX5_watch_19 rfl (lv_at hl 0 rfl) ?_
      refine va_get (D := G.1) (ci := 5) (v := .int 1) (C := RX5) (T := TX5) (N := 23) hx hb hts in5 hown hK hP 0 rfl rfl 0 (by decide) (hts (.fieldLink RX5 51 "TraceDebuggerModel" "code" "I") (by decide +kernel)) (fun _ h9 => h9) rfl dX5_watch_20 ?_
      refine lv_if_le (tgt := 28) hx hb dX5_watch_23 (by decide) (fun c9 => absurd c9 (by decide)) (fun _ => ?_)
      refine lv_iconst (v := 0) hx hb dX5_watch_26 (by decide) ?_
      exact kRetZ (G := G) (1, gw) hx hb hr hlocks hS dX5_watch_27 rfl hP hD (by (try dsimp only); exact (by first | exact Or.inr ⟨rfl, by omega, rfl⟩ | exact Or.inl ⟨rfl, by omega, Or.inl ⟨rfl, by assumption⟩, rfl⟩ | exact Or.inl ⟨rfl, by omega, Or.inr ⟨rfl, by assumption⟩, rfl⟩))
    · have t2 := i_nle.mp c2
      refine lv_iconst (v := 0) hx hb dX5_watch_11 (by decide) ?_
      refine lv_goto (tgt := 16) hx hb dX5_watch_12 (by decide) ?_
      refine va_put (D := G.1) (ci := 5) (v := .int 0) (ty := .int) (C := RX5) (T := TX5) (N := 23) hx hb hts in5 tyX5 tyX5_ok nmX5 hown hK hP hD hS 0 rfl rfl 0 (by decide) (hts (.fieldLink RX5 51 "TraceDebuggerModel" "code" "I") (by decide +kernel)) (fun _ h9 => h9) rfl (by decide +kernel) rfl rfl (Nat.le_of_ble_eq_true rfl) dX5_watch_16 (fun H locs hP hD hS => ?_)
      have hP : va_P G.1 vwCl [kO (q 0) 5 [.int 0, .int fs, .int sp, .ref (q 1), .ref (q 2), .ref (q 3), .ref (q 4), .int ln, .ref (q 5), .ref (q 6), .ref (q 7), .ref (q 8), .ref (q 9), .int fr, .int tm, .ref (q 10), .int oc, .int en, .int tr, .int ch, .ref (q 11), .int kc, .int re], kI (q 5) (G.2 1) 64 gw] H := hP
      have hD : va_D A [kO (q 0) 5 [.int 0, .int fs, .int sp, .ref (q 1), .ref (q 2), .ref (q 3), .ref (q 4), .int ln, .ref (q 5), .ref (q 6), .ref (q 7), .ref (q 8), .ref (q 9), .int fr, .int tm, .ref (q 10), .int oc, .int en, .int tr, .int ch, .ref (q 11), .int kc, .int re], kI (q 5) (G.2 1) 64 gw] := hD
      refine lv_aload_n hx hb dX5_watch_19 rfl (lv_at hl 0 rfl) ?_
      refine va_get (D := G.1) (ci := 5) (v := .int 0) (C := RX5) (T := TX5) (N := 23) hx hb hts in5 hown hK hP 0 rfl rfl 0 (by decide) (hts (.fieldLink RX5 51 "TraceDebuggerModel" "code" "I") (by decide +kernel)) (fun _ h9 => h9) rfl dX5_watch_20 ?_
      refine lv_if_le (tgt := 28) hx hb dX5_watch_23 (by decide) (fun _ => ?_) (fun c9 => absurd c9 (by decide))
      refine lv_aload_n hx hb dX5_watch_28 rfl (lv_at hl 0 rfl) ?_
      refine va_get (D := G.1) (ci := 5) (v := .ref (q 5)) (C := RX5) (T := TX5) (N := 23) hx hb hts in5 hown hK hP 0 rfl rfl 8 (by decide) (hts (.fieldLink RX5 23 "TraceDebuggerModel" "watches" "[Z") (by decide +kernel)) (fun _ h9 => h9) rfl dX5_watch_29 ?_
      refine lv_iload_n hx hb dX5_watch_32 rfl (lv_at hl 1 rfl) ?_
      refine va_zald (D := G.1) hx hb hK hP 1 1 rfl rfl (vp_in_iff.mpr (by omega)) dX5_watch_33 ?_
      refine lv_iload_n hx hb dX5_watch_34 rfl (lv_at hl 2 rfl) ?_
      refine lv_icmp_eq (tgt := 42) hx hb dX5_watch_35 (by decide) (fun c3 => ?_) (fun c3 => ?_)
      · have t3 := i_eq.mp c3
        refine lv_iconst (v := 0) hx hb dX5_watch_42 (by decide) ?_
        refine lv_istore_n (lv' := [(3, .int 0), (0, .ref (q 0)), (1, .int x), (2, .int o)]) hx hb dX5_watch_43 rfl hl (by decide) rfl (fun ls hl => ?_)
        refine lv_aload_n hx hb dX5_watch_44 rfl (lv_at hl 1 rfl) ?_
        refine va_get (D := G.1) (ci := 5) (v := .ref (q 5)) (C := RX5) (T := TX5) (N := 23) hx hb hts in5 hown hK hP 0 rfl rfl 8 (by decide) (hts (.fieldLink RX5 23 "TraceDebuggerModel" "watches" "[Z") (by decide +kernel)) (fun _ h9 => h9) rfl dX5_watch_45 ?_
        refine lv_iload_n hx hb dX5_watch_48 rfl (lv_at hl 2 rfl) ?_
        refine lv_iload_n hx hb dX5_watch_49 rfl (lv_at hl 3 rfl) ?_
        refine va_zast (D := G.1) hx hb hK hP hD hS 1 1 rfl rfl (vp_in_iff.mpr (by omega)) dX5_watch_50 (fun H locs hP hD hS => ?_)
        have hP : va_P G.1 vwCl [kO (q 0) 5 [.int 0, .int fs, .int sp, .ref (q 1), .ref (q 2), .ref (q 3), .ref (q 4), .int ln, .ref (q 5), .ref (q 6), .ref (q 7), .ref (q 8), .ref (q 9), .int fr, .int tm, .ref (q 10), .int oc, .int en, .int tr, .int ch, .ref (q 11), .int kc, .int re], kI (q 5) (G.2 1) 64 (upd gw x.toNatClampNeg (vp_nar .boolean o))] H := hP
        have hD : va_D A [kO (q 0) 5 [.int 0, .int fs, .int sp, .ref (q 1), .ref (q 2), .ref (q 3), .ref (q 4), .int ln, .ref (q 5), .ref (q 6), .ref (q 7), .ref (q 8), .ref (q 9), .int fr, .int tm, .ref (q 10), .int oc, .int en, .int tr, .int ch, .ref (q 11), .int kc, .int re], kI (q 5) (G.2 1) 64 (upd gw x.toNatClampNeg (vp_nar .boolean o))] := hD
        refine lv_iload_n hx hb dX5_watch_51 rfl (lv_at hl 0 rfl) ?_
        exact kRetZ (G := G) (0, (upd gw x.toNatClampNeg (vp_nar .boolean o))) hx hb hr hlocks hS dX5_watch_52 rfl hP hD (by (try dsimp only); exact (by first | exact Or.inr ⟨rfl, by omega, rfl⟩ | exact Or.inl ⟨rfl, by omega, Or.inl ⟨rfl, by assumption⟩, rfl⟩ | exact Or.inl ⟨rfl, by omega, Or.inr ⟨rfl, by assumption⟩, rfl⟩))
      · have t3 := i_ne.mp c3
        refine lv_iconst (v := 1) hx hb dX5_watch_38 (by decide) ?_
        refine lv_goto (tgt := 43) hx hb dX5_watch_39 (by decide) ?_
        refine lv_istore_n (lv' := [(3, .int 1), (0, .ref (q 0)), (1, .int x), (2, .int o)]) hx hb dX5_watch_43 rfl hl (by decide) rfl (fun ls hl => ?_)
        refine lv_aload_n hx hb dX5_watch_44 rfl (lv_at hl 1 rfl) ?_
        refine va_get (D := G.1) (ci := 5) (v := .ref (q 5)) (C := RX5) (T := TX5) (N := 23) hx hb hts in5 hown hK hP 0 rfl rfl 8 (by decide) (hts (.fieldLink RX5 23 "TraceDebuggerModel" "watches" "[Z") (by decide +kernel)) (fun _ h9 => h9) rfl dX5_watch_45 ?_
        refine lv_iload_n hx hb dX5_watch_48 rfl (lv_at hl 2 rfl) ?_
        refine lv_iload_n hx hb dX5_watch_49 rfl (lv_at hl 3 rfl) ?_
        refine va_zast (D := G.1) hx hb hK hP hD hS 1 1 rfl rfl (vp_in_iff.mpr (by omega)) dX5_watch_50 (fun H locs hP hD hS => ?_)
        have hP : va_P G.1 vwCl [kO (q 0) 5 [.int 0, .int fs, .int sp, .ref (q 1), .ref (q 2), .ref (q 3), .ref (q 4), .int ln, .ref (q 5), .ref (q 6), .ref (q 7), .ref (q 8), .ref (q 9), .int fr, .int tm, .ref (q 10), .int oc, .int en, .int tr, .int ch, .ref (q 11), .int kc, .int re], kI (q 5) (G.2 1) 64 (upd gw x.toNatClampNeg (vp_nar .boolean o))] H := hP
        have hD : va_D A [kO (q 0) 5 [.int 0, .int fs, .int sp, .ref (q 1), .ref (q 2), .ref (q 3), .ref (q 4), .int ln, .ref (q 5), .ref (q 6), .ref (q 7), .ref (q 8), .ref (q 9), .int fr, .int tm, .ref (q 10), .int oc, .int en, .int tr, .int ch, .ref (q 11), .int kc, .int re], kI (q 5) (G.2 1) 64 (upd gw x.toNatClampNeg (vp_nar .boolean o))] := hD
        refine lv_iload_n hx hb dX5_watch_51 rfl (lv_at hl 0 rfl) ?_
        exact kRetZ (G := G) (0, (upd gw x.toNatClampNeg (vp_nar .boolean o))) hx hb hr hlocks hS dX5_watch_52 rfl hP hD (by (try dsimp only); exact (by first | exact Or.inr ⟨rfl, by omega, rfl⟩ | exact Or.inl ⟨rfl, by omega, Or.inl ⟨rfl, by assumption⟩, rfl⟩ | exact Or.inl ⟨rfl, by omega, Or.inr ⟨rfl, by assumption⟩, rfl⟩))

set_option maxHeartbeats 4000000 in
set_option maxRecDepth 100000 in
theorem c_X5_local (l : Launch) (G : gG) (sz : Nat) (q : Nat → Nat) (fs : Int32) (cd : Int32) (sp : Int32) (ln : Int32) (fr : Int32) (tm : Int32) (oc : Int32) (en : Int32) (tr : Int32) (ch : Int32) (kc : Int32) (re : Int32) (g1 : Nat → Int32) (g2 : Nat → Int32) (g3 : Nat → Int32) (gm : Nat → Int32) (gw : Nat → Int32) (gb : Nat → Int32) (gc : Nat → Int32) (gl : Nat → Int32) (gk : Nat → Int32) (go : Nat → Int32) (gt : Nat → Int32) (f : Int32) (x : Int32) (hf1 : 1 ≤ fr.toInt) (hf2 : fr.toInt ≤ 16) : Met l yX5_local wsX5_local { frames := 1, cells := 0, slots := 0, locals := 20 } (kPc G [.ref (q 0), .int f, .int x] [kO (q 0) 5 [.int cd, .int fs, .int sp, .ref (q 1), .ref (q 2), .ref (q 3), .ref (q 4), .int ln, .ref (q 5), .ref (q 6), .ref (q 7), .ref (q 8), .ref (q 9), .int fr, .int tm, .ref (q 10), .int oc, .int en, .int tr, .int ch, .ref (q 11), .int kc, .int re], kI (q 8) (G.2 0) 128 gl] sz (fun _ => True)) (kQi G (S := Int32) (fun _ _ => True) (fun u => [kO (q 0) 5 [.int u, .int fs, .int sp, .ref (q 1), .ref (q 2), .ref (q 3), .ref (q 4), .int ln, .ref (q 5), .ref (q 6), .ref (q 7), .ref (q 8), .ref (q 9), .int fr, .int tm, .ref (q 10), .int oc, .int en, .int tr, .int ch, .ref (q 11), .int kc, .int re], kI (q 8) (G.2 0) 128 gl]) (va_A [kO (q 0) 5 [.int cd, .int fs, .int sp, .ref (q 1), .ref (q 2), .ref (q 3), .ref (q 4), .int ln, .ref (q 5), .ref (q 6), .ref (q 7), .ref (q 8), .ref (q 9), .int fr, .int tm, .ref (q 10), .int oc, .int en, .int tr, .int ch, .ref (q 11), .int kc, .int re], kI (q 8) (G.2 0) 128 gl] sz)) 0 0 (va_A [kO (q 0) 5 [.int cd, .int fs, .int sp, .ref (q 1), .ref (q 2), .ref (q 3), .ref (q 4), .int ln, .ref (q 5), .ref (q 6), .ref (q 7), .ref (q 8), .ref (q 9), .int fr, .int tm, .ref (q 10), .int oc, .int en, .int tr, .int ch, .ref (q 11), .int kc, .int re], kI (q 8) (G.2 0) 128 gl] sz) := by
  refine kBeg (Qc := fun A => kQi G (S := Int32) (fun _ _ => True) (fun u => [kO (q 0) 5 [.int u, .int fs, .int sp, .ref (q 1), .ref (q 2), .ref (q 3), .ref (q 4), .int ln, .ref (q 5), .ref (q 6), .ref (q 7), .ref (q 8), .ref (q 9), .int fr, .int tm, .ref (q 10), .int oc, .int en, .int tr, .int ch, .ref (q 11), .int kc, .int re], kI (q 8) (G.2 0) 128 gl]) A) (by decide) rfl (Nat.le_of_ble_eq_true rfl) ?_
  intro A p e s m below meth c ls H locs hx hb hr hts hown hlocks hnm hml hsz hP hK hD hZ hA hS hl
  have hown : s.vm.findClass RX5 = some m.cls := hown
  have hl : lv_has ls 3 [(0, .ref (q 0)), (1, .int f), (2, .int x)] := hl
  have in5 : ∀ w ∈ wsX50, w ∈ wsX5_local := by decide +kernel
  have kc0 : (0 : Int32).toInt = 0 := by decide
  have kc1 : (1 : Int32).toInt = 1 := by decide
  have kc8 : (8 : Int32).toInt = 8 := by decide
  refine lv_aload_n hx hb dX5_local_0 rfl (lv_at hl 0 rfl) ?_
  refine lv_iload_n hx hb dX5_local_1 rfl (lv_at hl 1 rfl) ?_
  refine lv_if_lt (tgt := 24) hx hb dX5_local_2 (by decide) (fun c1 => ?_) (fun c1 => ?_)
  · have t1 := i_lt.mp c1
    refine lv_iconst (v := 1) hx hb dX5_local_24 (by decide) ?_
    refine va_put (D := G.1) (ci := 5) (v := .int 1) (ty := .int) (C := RX5) (T := TX5) (N := 23) hx hb hts in5 tyX5 tyX5_ok nmX5 hown hK hP hD hS 0 rfl rfl 0 (by decide) (hts (.fieldLink RX5 51 "TraceDebuggerModel" "code" "I") (by decide +kernel)) (fun _ h9 => h9) rfl (by decide +kernel) rfl rfl (Nat.le_of_ble_eq_true rfl) dX5_local_25 (fun H locs hP hD hS => ?_)
    have hP : va_P G.1 vwCl [kO (q 0) 5 [.int 1, .int fs, .int sp, .ref (q 1), .ref (q 2), .ref (q 3), .ref (q 4), .int ln, .ref (q 5), .ref (q 6), .ref (q 7), .ref (q 8), .ref (q 9), .int fr, .int tm, .ref (q 10), .int oc, .int en, .int tr, .int ch, .ref (q 11), .int kc, .int re], kI (q 8) (G.2 0) 128 gl] H := hP
    have hD : va_D A [kO (q 0) 5 [.int 1, .int fs, .int sp, .ref (q 1), .ref (q 2), .ref (q 3), .ref (q 4), .int ln, .ref (q 5), .ref (q 6), .ref (q 7), .ref (q 8), .ref (q 9), .int fr, .int tm, .ref (q 10), .int oc, .int en, .int tr, .int ch, .ref (q 11), .int kc, .int re], kI (q 8) (G.2 0) 128 gl] := hD
    refine lv_aload_n hx hb dX5_local_28 rfl (lv_at hl 0 rfl) ?_
    refine va_get (D := G.1) (ci := 5) (v := .int 1) (C := RX5) (T := TX5) (N := 23) hx hb hts in5 hown hK hP 0 rfl rfl 0 (by decide) (hts (.fieldLink RX5 51 "TraceDebuggerModel" "code" "I") (by decide +kernel)) (fun _ h9 => h9) rfl dX5_local_29 ?_
    refine lv_if_le (tgt := 39) hx hb dX5_local_32 (by decide) (fun c9 => absurd c9 (by decide)) (fun _ => ?_)
    refine lv_iconst (v := 0) hx hb dX5_local_35 (by decide) ?_
    refine lv_goto (tgt := 57) hx hb dX5_local_36 (by decide) ?_
    exact kRetI (G := G) 1 hx hb hr hlocks hS dX5_local_57 hP hD (by trivial)
  · have t1 := i_nlt.mp c1
    refine lv_iload_n hx hb dX5_local_5 rfl (lv_at hl 1 rfl) ?_
    refine lv_aload_n hx hb dX5_local_6 rfl (lv_at hl 0 rfl) ?_
    refine va_get (D := G.1) (ci := 5) (v := .int fr) (C := RX5) (T := TX5) (N := 23) hx hb hts in5 hown hK hP 0 rfl rfl 13 (by decide) (hts (.fieldLink RX5 70 "TraceDebuggerModel" "frames" "I") (by decide +kernel)) (fun _ h9 => h9) rfl dX5_local_7 ?_
    refine lv_icmp_ge (tgt := 24) hx hb dX5_local_10 (by decide) (fun c2 => ?_) (fun c2 => ?_)
    · have t2 := i_le.mp c2
      refine lv_iconst (v := 1) hx hb dX5_local_24 (by decide) ?_
      refine va_put (D := G.1) (ci := 5) (v := .int 1) (ty := .int) (C := RX5) (T := TX5) (N := 23) hx hb hts in5 tyX5 tyX5_ok nmX5 hown hK hP hD hS 0 rfl rfl 0 (by decide) (hts (.fieldLink RX5 51 "TraceDebuggerModel" "code" "I") (by decide +kernel)) (fun _ h9 => h9) rfl (by decide +kernel) rfl rfl (Nat.le_of_ble_eq_true rfl) dX5_local_25 (fun H locs hP hD hS => ?_)
      have hP : va_P G.1 vwCl [kO (q 0) 5 [.int 1, .int fs, .int sp, .ref (q 1), .ref (q 2), .ref (q 3), .ref (q 4), .int ln, .ref (q 5), .ref (q 6), .ref (q 7), .ref (q 8), .ref (q 9), .int fr, .int tm, .ref (q 10), .int oc, .int en, .int tr, .int ch, .ref (q 11), .int kc, .int re], kI (q 8) (G.2 0) 128 gl] H := hP
      have hD : va_D A [kO (q 0) 5 [.int 1, .int fs, .int sp, .ref (q 1), .ref (q 2), .ref (q 3), .ref (q 4), .int ln, .ref (q 5), .ref (q 6), .ref (q 7), .ref (q 8), .ref (q 9), .int fr, .int tm, .ref (q 10), .int oc, .int en, .int tr, .int ch, .ref (q 11), .int kc, .int re], kI (q 8) (G.2 0) 128 gl] := hD
      refine lv_aload_n hx hb dX5_local_28 rfl (lv_at hl 0 rfl) ?_
      refine va_get (D := G.1) (ci := 5) (v := .int 1) (C := RX5) (T := TX5) (N := 23) hx hb hts in5 hown hK hP 0 rfl rfl 0 (by decide) (hts (.fieldLink RX5 51 "TraceDebuggerModel" "code" "I") (by decide +kernel)) (fun _ h9 => h9) rfl dX5_local_29 ?_
      refine lv_if_le (tgt := 39) hx hb dX5_local_32 (by decide) (fun c9 => absurd c9 (by decide)) (fun _ => ?_)
      refine lv_iconst (v := 0) hx hb dX5_local_35 (by decide) ?_
      refine lv_goto (tgt := 57) hx hb dX5_local_36 (by decide) ?_
      exact kRetI (G := G) 1 hx hb hr hlocks hS dX5_local_57 hP hD (by trivial)
    · have t2 := i_nle.mp c2
      refine lv_iload_n hx hb dX5_local_13 rfl (lv_at hl 2 rfl) ?_
      refine kCi (G := G) (ws := [kO (q 0) 5 [.int cd, .int fs, .int sp, .ref (q 1), .ref (q 2), .ref (q 3), .ref (q 4), .int ln, .ref (q 5), .ref (q 6), .ref (q 7), .ref (q 8), .ref (q 9), .int fr, .int tm, .ref (q 10), .int oc, .int en, .int tr, .int ch, .ref (q 11), .int kc, .int re], kI (q 8) (G.2 0) 128 gl]) (wr := [kO (q 0) 5 [.int cd, .int fs, .int sp, .ref (q 1), .ref (q 2), .ref (q 3), .ref (q 4), .int ln, .ref (q 5), .ref (q 6), .ref (q 7), .ref (q 8), .ref (q 9), .int fr, .int tm, .ref (q 10), .int oc, .int en, .int tr, .int ch, .ref (q 11), .int kc, .int re], kI (q 8) (G.2 0) 128 gl]) (va_runS (As := [.int x]) (rest := [.ref (q 0)]) ⟨hx, hb, hml, hown, hts⟩ (c_X5_isLocal l G H.size x ) (va_cwS 1 hts gX5_local_X5_isLocal rfl rfl rfl (by decide +kernel) ⟨Nat.le_of_ble_eq_true rfl, Nat.le_of_ble_eq_true rfl⟩) (kPreS kZ0 kZt hK hP hD [] rfl (by decide +kernel)) rfl rfl hl.1 rfl (lv_room (Nat.le_of_ble_eq_true rfl)) dX5_local_14 ⟨Nat.le_of_ble_eq_true rfl, Nat.le_of_ble_eq_true rfl⟩) hP hD hS hA [] [0, 1] rfl rfl (by decide +kernel) (by decide +kernel) (fun r4 u3 H locs hw5 hP hD hS => ?_)
      try dsimp only at hw5
      have hP : va_P G.1 vwCl [kO (q 0) 5 [.int cd, .int fs, .int sp, .ref (q 1), .ref (q 2), .ref (q 3), .ref (q 4), .int ln, .ref (q 5), .ref (q 6), .ref (q 7), .ref (q 8), .ref (q 9), .int fr, .int tm, .ref (q 10), .int oc, .int en, .int tr, .int ch, .ref (q 11), .int kc, .int re], kI (q 8) (G.2 0) 128 gl] H := hP
      have hD : va_D A [kO (q 0) 5 [.int cd, .int fs, .int sp, .ref (q 1), .ref (q 2), .ref (q 3), .ref (q 4), .int ln, .ref (q 5), .ref (q 6), .ref (q 7), .ref (q 8), .ref (q 9), .int fr, .int tm, .ref (q 10), .int oc, .int en, .int tr, .int ch, .ref (q 11), .int kc, .int re], kI (q 8) (G.2 0) 128 gl] := hD
      rcases hw5 with ⟨rfl, hq6⟩ | ⟨rfl, hq6⟩
      · have _u := hsz
        refine lv_if_eq (tgt := 24) hx hb dX5_local_17 (by decide) (fun c9 => absurd c9 (by decide)) (fun _ => ?_)
        refine lv_iconst (v := 0) hx hb dX5_local_20 (by decide) ?_
        refine lv_goto (tgt := 25) hx hb dX5_local_21 (by decide) ?_
        refine va_put (D := G.1) (ci := 5) (v := .int 0) (ty := .int) (C := RX5) (T := TX5) (N := 23) hx hb hts in5 tyX5 tyX5_ok nmX5 hown hK hP hD hS 0 rfl rfl 0 (by decide) (hts (.fieldLink RX5 51 "TraceDebuggerModel" "code" "I") (by decide +kernel)) (fun _ h9 => h9) rfl (by decide +kernel) rfl rfl (Nat.le_of_ble_eq_true rfl) dX5_local_25 (fun H locs hP hD hS => ?_)
        have hP : va_P G.1 vwCl [kO (q 0) 5 [.int 0, .int fs, .int sp, .ref (q 1), .ref (q 2), .ref (q 3), .ref (q 4), .int ln, .ref (q 5), .ref (q 6), .ref (q 7), .ref (q 8), .ref (q 9), .int fr, .int tm, .ref (q 10), .int oc, .int en, .int tr, .int ch, .ref (q 11), .int kc, .int re], kI (q 8) (G.2 0) 128 gl] H := hP
        have hD : va_D A [kO (q 0) 5 [.int 0, .int fs, .int sp, .ref (q 1), .ref (q 2), .ref (q 3), .ref (q 4), .int ln, .ref (q 5), .ref (q 6), .ref (q 7), .ref (q 8), .ref (q 9), .int fr, .int tm, .ref (q 10), .int oc, .int en, .int tr, .int ch, .ref (q 11), .int kc, .int re], kI (q 8) (G.2 0) 128 gl] := hD
        refine lv_aload_n hx hb dX5_local_28 rfl (lv_at hl 0 rfl) ?_
        refine va_get (D := G.1) (ci := 5) (v := .int 0) (C := RX5) (T := TX5) (N := 23) hx hb hts in5 hown hK hP 0 rfl rfl 0 (by decide) (hts (.fieldLink RX5 51 "TraceDebuggerModel" "code" "I") (by decide +kernel)) (fun _ h9 => h9) rfl dX5_local_29 ?_
        refine lv_if_le (tgt := 39) hx hb dX5_local_32 (by decide) (fun _ => ?_) (fun c9 => absurd c9 (by decide))
        refine lv_aload_n hx hb dX5_local_39 rfl (lv_at hl 0 rfl) ?_
        refine va_get (D := G.1) (ci := 5) (v := .ref (q 8)) (C := RX5) (T := TX5) (N := 23) hx hb hts in5 hown hK hP 0 rfl rfl 11 (by decide) (hts (.fieldLink RX5 32 "TraceDebuggerModel" "locals" "[I") (by decide +kernel)) (fun _ h9 => h9) rfl dX5_local_40 ?_
        refine lv_bipush (v := 8) hx hb dX5_local_43 (by decide) ?_
        refine lv_aload_n hx hb dX5_local_45 rfl (lv_at hl 0 rfl) ?_
        refine va_get (D := G.1) (ci := 5) (v := .int fr) (C := RX5) (T := TX5) (N := 23) hx hb hts in5 hown hK hP 0 rfl rfl 13 (by decide) (hts (.fieldLink RX5 70 "TraceDebuggerModel" "frames" "I") (by decide +kernel)) (fun _ h9 => h9) rfl dX5_local_46 ?_
        refine lv_iconst (v := 1) hx hb dX5_local_49 (by decide) ?_
        refine lv_isub hx hb dX5_local_50 ?_
        have a7 : ((fr - 1) : Int32).toInt = (fr : Int32).toInt - (1 : Int32).toInt := i_sub (by omega) (by omega)
        refine lv_iload_n hx hb dX5_local_51 rfl (lv_at hl 1 rfl) ?_
        refine lv_isub hx hb dX5_local_52 ?_
        have a8 : (((fr - 1) - f) : Int32).toInt = ((fr - 1) : Int32).toInt - (f : Int32).toInt := i_sub (by omega) (by omega)
        refine lv_imul hx hb dX5_local_53 ?_
        have a9 : ((8 * ((fr - 1) - f)) : Int32).toInt = 8 * (((fr - 1) - f) : Int32).toInt := i_8m (by omega) (by omega)
        refine lv_iload_n hx hb dX5_local_54 rfl (lv_at hl 2 rfl) ?_
        refine lv_iadd hx hb dX5_local_55 ?_
        have a10 : (((8 * ((fr - 1) - f)) + x) : Int32).toInt = ((8 * ((fr - 1) - f)) : Int32).toInt + (x : Int32).toInt := i_add (by omega) (by omega)
        refine va_iald (D := G.1) hx hb hK hP 1 0 rfl rfl (vp_in_iff.mpr (by omega)) dX5_local_56 ?_
        exact kRetI (G := G) 0 hx hb hr hlocks hS dX5_local_57 hP hD (by trivial)
      · have _u := hsz
        refine lv_if_eq (tgt := 24) hx hb dX5_local_17 (by decide) (fun _ => ?_) (fun c9 => absurd c9 (by decide))
        refine lv_iconst (v := 1) hx hb dX5_local_24 (by decide) ?_
        refine va_put (D := G.1) (ci := 5) (v := .int 1) (ty := .int) (C := RX5) (T := TX5) (N := 23) hx hb hts in5 tyX5 tyX5_ok nmX5 hown hK hP hD hS 0 rfl rfl 0 (by decide) (hts (.fieldLink RX5 51 "TraceDebuggerModel" "code" "I") (by decide +kernel)) (fun _ h9 => h9) rfl (by decide +kernel) rfl rfl (Nat.le_of_ble_eq_true rfl) dX5_local_25 (fun H locs hP hD hS => ?_)
        have hP : va_P G.1 vwCl [kO (q 0) 5 [.int 1, .int fs, .int sp, .ref (q 1), .ref (q 2), .ref (q 3), .ref (q 4), .int ln, .ref (q 5), .ref (q 6), .ref (q 7), .ref (q 8), .ref (q 9), .int fr, .int tm, .ref (q 10), .int oc, .int en, .int tr, .int ch, .ref (q 11), .int kc, .int re], kI (q 8) (G.2 0) 128 gl] H := hP
        have hD : va_D A [kO (q 0) 5 [.int 1, .int fs, .int sp, .ref (q 1), .ref (q 2), .ref (q 3), .ref (q 4), .int ln, .ref (q 5), .ref (q 6), .ref (q 7), .ref (q 8), .ref (q 9), .int fr, .int tm, .ref (q 10), .int oc, .int en, .int tr, .int ch, .ref (q 11), .int kc, .int re], kI (q 8) (G.2 0) 128 gl] := hD
        refine lv_aload_n hx hb dX5_local_28 rfl (lv_at hl 0 rfl) ?_
        refine va_get (D := G.1) (ci := 5) (v := .int 1) (C := RX5) (T := TX5) (N := 23) hx hb hts in5 hown hK hP 0 rfl rfl 0 (by decide) (hts (.fieldLink RX5 51 "TraceDebuggerModel" "code" "I") (by decide +kernel)) (fun _ h9 => h9) rfl dX5_local_29 ?_
        refine lv_if_le (tgt := 39) hx hb dX5_local_32 (by decide) (fun c9 => absurd c9 (by decide)) (fun _ => ?_)
        refine lv_iconst (v := 0) hx hb dX5_local_35 (by decide) ?_
        refine lv_goto (tgt := 57) hx hb dX5_local_36 (by decide) ?_
        exact kRetI (G := G) 1 hx hb hr hlocks hS dX5_local_57 hP hD (by trivial)

set_option maxHeartbeats 4000000 in
set_option maxRecDepth 100000 in
theorem c_X5_at (l : Launch) (G : gG) (sz : Nat) (q : Nat → Nat) (fs : Int32) (cd : Int32) (sp : Int32) (ln : Int32) (fr : Int32) (tm : Int32) (oc : Int32) (en : Int32) (tr : Int32) (ch : Int32) (kc : Int32) (re : Int32) (g1 : Nat → Int32) (g2 : Nat → Int32) (g3 : Nat → Int32) (gm : Nat → Int32) (gw : Nat → Int32) (gb : Nat → Int32) (gc : Nat → Int32) (gl : Nat → Int32) (gk : Nat → Int32) (go : Nat → Int32) (gt : Nat → Int32) (f : Int32) (hf1 : 1 ≤ fr.toInt) (hf2 : fr.toInt ≤ 16) : Met l yX5_at wsX5_at { frames := 0, cells := 0, slots := 0, locals := 0 } (kPc G [.ref (q 0), .int f] [kO (q 0) 5 [.int cd, .int fs, .int sp, .ref (q 1), .ref (q 2), .ref (q 3), .ref (q 4), .int ln, .ref (q 5), .ref (q 6), .ref (q 7), .ref (q 8), .ref (q 9), .int fr, .int tm, .ref (q 10), .int oc, .int en, .int tr, .int ch, .ref (q 11), .int kc, .int re], kI (q 9) (G.2 0) 16 gk] sz (fun _ => True)) (kQi G (S := Int32) (fun _ _ => True) (fun u => [kO (q 0) 5 [.int u, .int fs, .int sp, .ref (q 1), .ref (q 2), .ref (q 3), .ref (q 4), .int ln, .ref (q 5), .ref (q 6), .ref (q 7), .ref (q 8), .ref (q 9), .int fr, .int tm, .ref (q 10), .int oc, .int en, .int tr, .int ch, .ref (q 11), .int kc, .int re], kI (q 9) (G.2 0) 16 gk]) (va_A [kO (q 0) 5 [.int cd, .int fs, .int sp, .ref (q 1), .ref (q 2), .ref (q 3), .ref (q 4), .int ln, .ref (q 5), .ref (q 6), .ref (q 7), .ref (q 8), .ref (q 9), .int fr, .int tm, .ref (q 10), .int oc, .int en, .int tr, .int ch, .ref (q 11), .int kc, .int re], kI (q 9) (G.2 0) 16 gk] sz)) 0 0 (va_A [kO (q 0) 5 [.int cd, .int fs, .int sp, .ref (q 1), .ref (q 2), .ref (q 3), .ref (q 4), .int ln, .ref (q 5), .ref (q 6), .ref (q 7), .ref (q 8), .ref (q 9), .int fr, .int tm, .ref (q 10), .int oc, .int en, .int tr, .int ch, .ref (q 11), .int kc, .int re], kI (q 9) (G.2 0) 16 gk] sz) := by
  refine kBeg (Qc := fun A => kQi G (S := Int32) (fun _ _ => True) (fun u => [kO (q 0) 5 [.int u, .int fs, .int sp, .ref (q 1), .ref (q 2), .ref (q 3), .ref (q 4), .int ln, .ref (q 5), .ref (q 6), .ref (q 7), .ref (q 8), .ref (q 9), .int fr, .int tm, .ref (q 10), .int oc, .int en, .int tr, .int ch, .ref (q 11), .int kc, .int re], kI (q 9) (G.2 0) 16 gk]) A) (by decide) rfl (Nat.le_of_ble_eq_true rfl) ?_
  intro A p e s m below meth c ls H locs hx hb hr hts hown hlocks hnm hml hsz hP hK hD hZ hA hS hl
  have hown : s.vm.findClass RX5 = some m.cls := hown
  have hl : lv_has ls 2 [(0, .ref (q 0)), (1, .int f)] := hl
  have in5 : ∀ w ∈ wsX50, w ∈ wsX5_at := by decide +kernel
  have kc0 : (0 : Int32).toInt = 0 := by decide
  have kc1 : (1 : Int32).toInt = 1 := by decide
  refine lv_aload_n hx hb dX5_at_0 rfl (lv_at hl 0 rfl) ?_
  refine lv_iload_n hx hb dX5_at_1 rfl (lv_at hl 1 rfl) ?_
  refine lv_if_lt (tgt := 17) hx hb dX5_at_2 (by decide) (fun c1 => ?_) (fun c1 => ?_)
  · have t1 := i_lt.mp c1
    refine lv_iconst (v := 1) hx hb dX5_at_17 (by decide) ?_
    refine va_put (D := G.1) (ci := 5) (v := .int 1) (ty := .int) (C := RX5) (T := TX5) (N := 23) hx hb hts in5 tyX5 tyX5_ok nmX5 hown hK hP hD hS 0 rfl rfl 0 (by decide) (hts (.fieldLink RX5 51 "TraceDebuggerModel" "code" "I") (by decide +kernel)) (fun _ h9 => h9) rfl (by decide +kernel) rfl rfl (Nat.le_of_ble_eq_true rfl) dX5_at_18 (fun H locs hP hD hS => ?_)
    have hP : va_P G.1 vwCl [kO (q 0) 5 [.int 1, .int fs, .int sp, .ref (q 1), .ref (q 2), .ref (q 3), .ref (q 4), .int ln, .ref (q 5), .ref (q 6), .ref (q 7), .ref (q 8), .ref (q 9), .int fr, .int tm, .ref (q 10), .int oc, .int en, .int tr, .int ch, .ref (q 11), .int kc, .int re], kI (q 9) (G.2 0) 16 gk] H := hP
    have hD : va_D A [kO (q 0) 5 [.int 1, .int fs, .int sp, .ref (q 1), .ref (q 2), .ref (q 3), .ref (q 4), .int ln, .ref (q 5), .ref (q 6), .ref (q 7), .ref (q 8), .ref (q 9), .int fr, .int tm, .ref (q 10), .int oc, .int en, .int tr, .int ch, .ref (q 11), .int kc, .int re], kI (q 9) (G.2 0) 16 gk] := hD
    refine lv_aload_n hx hb dX5_at_21 rfl (lv_at hl 0 rfl) ?_
    refine va_get (D := G.1) (ci := 5) (v := .int 1) (C := RX5) (T := TX5) (N := 23) hx hb hts in5 hown hK hP 0 rfl rfl 0 (by decide) (hts (.fieldLink RX5 51 "TraceDebuggerModel" "code" "I") (by decide +kernel)) (fun _ h9 => h9) rfl dX5_at_22 ?_
    refine lv_if_le (tgt := 32) hx hb dX5_at_25 (by decide) (fun c9 => absurd c9 (by decide)) (fun _ => ?_)
    refine lv_iconst (v := 0) hx hb dX5_at_28 (by decide) ?_
    refine lv_goto (tgt := 45) hx hb dX5_at_29 (by decide) ?_
    exact kRetI (G := G) 1 hx hb hr hlocks hS dX5_at_45 hP hD (by trivial)
  · have t1 := i_nlt.mp c1
    refine lv_iload_n hx hb dX5_at_5 rfl (lv_at hl 1 rfl) ?_
    refine lv_aload_n hx hb dX5_at_6 rfl (lv_at hl 0 rfl) ?_
    refine va_get (D := G.1) (ci := 5) (v := .int fr) (C := RX5) (T := TX5) (N := 23) hx hb hts in5 hown hK hP 0 rfl rfl 13 (by decide) (hts (.fieldLink RX5 70 "TraceDebuggerModel" "frames" "I") (by decide +kernel)) (fun _ h9 => h9) rfl dX5_at_7 ?_
    refine lv_icmp_ge (tgt := 17) hx hb dX5_at_10 (by decide) (fun c2 => ?_) (fun c2 => ?_)
    · have t2 := i_le.mp c2
      refine lv_iconst (v := 1) hx hb dX5_at_17 (by decide) ?_
      refine va_put (D := G.1) (ci := 5) (v := .int 1) (ty := .int) (C := RX5) (T := TX5) (N := 23) hx hb hts in5 tyX5 tyX5_ok nmX5 hown hK hP hD hS 0 rfl rfl 0 (by decide) (hts (.fieldLink RX5 51 "TraceDebuggerModel" "code" "I") (by decide +kernel)) (fun _ h9 => h9) rfl (by decide +kernel) rfl rfl (Nat.le_of_ble_eq_true rfl) dX5_at_18 (fun H locs hP hD hS => ?_)
      have hP : va_P G.1 vwCl [kO (q 0) 5 [.int 1, .int fs, .int sp, .ref (q 1), .ref (q 2), .ref (q 3), .ref (q 4), .int ln, .ref (q 5), .ref (q 6), .ref (q 7), .ref (q 8), .ref (q 9), .int fr, .int tm, .ref (q 10), .int oc, .int en, .int tr, .int ch, .ref (q 11), .int kc, .int re], kI (q 9) (G.2 0) 16 gk] H := hP
      have hD : va_D A [kO (q 0) 5 [.int 1, .int fs, .int sp, .ref (q 1), .ref (q 2), .ref (q 3), .ref (q 4), .int ln, .ref (q 5), .ref (q 6), .ref (q 7), .ref (q 8), .ref (q 9), .int fr, .int tm, .ref (q 10), .int oc, .int en, .int tr, .int ch, .ref (q 11), .int kc, .int re], kI (q 9) (G.2 0) 16 gk] := hD
      refine lv_aload_n hx hb dX5_at_21 rfl (lv_at hl 0 rfl) ?_
      refine va_get (D := G.1) (ci := 5) (v := .int 1) (C := RX5) (T := TX5) (N := 23) hx hb hts in5 hown hK hP 0 rfl rfl 0 (by decide) (hts (.fieldLink RX5 51 "TraceDebuggerModel" "code" "I") (by decide +kernel)) (fun _ h9 => h9) rfl dX5_at_22 ?_
      refine lv_if_le (tgt := 32) hx hb dX5_at_25 (by decide) (fun c9 => absurd c9 (by decide)) (fun _ => ?_)
      refine lv_iconst (v := 0) hx hb dX5_at_28 (by decide) ?_
      refine lv_goto (tgt := 45) hx hb dX5_at_29 (by decide) ?_
      exact kRetI (G := G) 1 hx hb hr hlocks hS dX5_at_45 hP hD (by trivial)
    · have t2 := i_nle.mp c2
      refine lv_iconst (v := 0) hx hb dX5_at_13 (by decide) ?_
      refine lv_goto (tgt := 18) hx hb dX5_at_14 (by decide) ?_
      refine va_put (D := G.1) (ci := 5) (v := .int 0) (ty := .int) (C := RX5) (T := TX5) (N := 23) hx hb hts in5 tyX5 tyX5_ok nmX5 hown hK hP hD hS 0 rfl rfl 0 (by decide) (hts (.fieldLink RX5 51 "TraceDebuggerModel" "code" "I") (by decide +kernel)) (fun _ h9 => h9) rfl (by decide +kernel) rfl rfl (Nat.le_of_ble_eq_true rfl) dX5_at_18 (fun H locs hP hD hS => ?_)
      have hP : va_P G.1 vwCl [kO (q 0) 5 [.int 0, .int fs, .int sp, .ref (q 1), .ref (q 2), .ref (q 3), .ref (q 4), .int ln, .ref (q 5), .ref (q 6), .ref (q 7), .ref (q 8), .ref (q 9), .int fr, .int tm, .ref (q 10), .int oc, .int en, .int tr, .int ch, .ref (q 11), .int kc, .int re], kI (q 9) (G.2 0) 16 gk] H := hP
      have hD : va_D A [kO (q 0) 5 [.int 0, .int fs, .int sp, .ref (q 1), .ref (q 2), .ref (q 3), .ref (q 4), .int ln, .ref (q 5), .ref (q 6), .ref (q 7), .ref (q 8), .ref (q 9), .int fr, .int tm, .ref (q 10), .int oc, .int en, .int tr, .int ch, .ref (q 11), .int kc, .int re], kI (q 9) (G.2 0) 16 gk] := hD
      refine lv_aload_n hx hb dX5_at_21 rfl (lv_at hl 0 rfl) ?_
      refine va_get (D := G.1) (ci := 5) (v := .int 0) (C := RX5) (T := TX5) (N := 23) hx hb hts in5 hown hK hP 0 rfl rfl 0 (by decide) (hts (.fieldLink RX5 51 "TraceDebuggerModel" "code" "I") (by decide +kernel)) (fun _ h9 => h9) rfl dX5_at_22 ?_
      refine lv_if_le (tgt := 32) hx hb dX5_at_25 (by decide) (fun _ => ?_) (fun c9 => absurd c9 (by decide))
      refine lv_aload_n hx hb dX5_at_32 rfl (lv_at hl 0 rfl) ?_
      refine va_get (D := G.1) (ci := 5) (v := .ref (q 9)) (C := RX5) (T := TX5) (N := 23) hx hb hts in5 hown hK hP 0 rfl rfl 12 (by decide) (hts (.fieldLink RX5 35 "TraceDebuggerModel" "comes" "[I") (by decide +kernel)) (fun _ h9 => h9) rfl dX5_at_33 ?_
      refine lv_aload_n hx hb dX5_at_36 rfl (lv_at hl 0 rfl) ?_
      refine va_get (D := G.1) (ci := 5) (v := .int fr) (C := RX5) (T := TX5) (N := 23) hx hb hts in5 hown hK hP 0 rfl rfl 13 (by decide) (hts (.fieldLink RX5 70 "TraceDebuggerModel" "frames" "I") (by decide +kernel)) (fun _ h9 => h9) rfl dX5_at_37 ?_
      refine lv_iconst (v := 1) hx hb dX5_at_40 (by decide) ?_
      refine lv_isub hx hb dX5_at_41 ?_
      have a3 : ((fr - 1) : Int32).toInt = (fr : Int32).toInt - (1 : Int32).toInt := i_sub (by omega) (by omega)
      refine lv_iload_n hx hb dX5_at_42 rfl (lv_at hl 1 rfl) ?_
      refine lv_isub hx hb dX5_at_43 ?_
      have a4 : (((fr - 1) - f) : Int32).toInt = ((fr - 1) : Int32).toInt - (f : Int32).toInt := i_sub (by omega) (by omega)
      refine va_iald (D := G.1) hx hb hK hP 1 0 rfl rfl (vp_in_iff.mpr (by omega)) dX5_at_44 ?_
      exact kRetI (G := G) 0 hx hb hr hlocks hS dX5_at_45 hP hD (by trivial)

set_option maxHeartbeats 4000000 in
set_option maxRecDepth 100000 in
theorem c_X5_cell (l : Launch) (G : gG) (sz : Nat) (q : Nat → Nat) (fs : Int32) (cd : Int32) (sp : Int32) (ln : Int32) (fr : Int32) (tm : Int32) (oc : Int32) (en : Int32) (tr : Int32) (ch : Int32) (kc : Int32) (re : Int32) (g1 : Nat → Int32) (g2 : Nat → Int32) (g3 : Nat → Int32) (gm : Nat → Int32) (gw : Nat → Int32) (gb : Nat → Int32) (gc : Nat → Int32) (gl : Nat → Int32) (gk : Nat → Int32) (go : Nat → Int32) (gt : Nat → Int32) (x : Int32)  : Met l yX5_cell wsX5_cell { frames := 0, cells := 0, slots := 0, locals := 0 } (kPc G [.ref (q 0), .int x] [kO (q 0) 5 [.int cd, .int fs, .int sp, .ref (q 1), .ref (q 2), .ref (q 3), .ref (q 4), .int ln, .ref (q 5), .ref (q 6), .ref (q 7), .ref (q 8), .ref (q 9), .int fr, .int tm, .ref (q 10), .int oc, .int en, .int tr, .int ch, .ref (q 11), .int kc, .int re], kI (q 7) (G.2 0) 64 gc] sz (fun _ => True)) (kQi G (S := Int32) (fun _ _ => True) (fun u => [kO (q 0) 5 [.int u, .int fs, .int sp, .ref (q 1), .ref (q 2), .ref (q 3), .ref (q 4), .int ln, .ref (q 5), .ref (q 6), .ref (q 7), .ref (q 8), .ref (q 9), .int fr, .int tm, .ref (q 10), .int oc, .int en, .int tr, .int ch, .ref (q 11), .int kc, .int re], kI (q 7) (G.2 0) 64 gc]) (va_A [kO (q 0) 5 [.int cd, .int fs, .int sp, .ref (q 1), .ref (q 2), .ref (q 3), .ref (q 4), .int ln, .ref (q 5), .ref (q 6), .ref (q 7), .ref (q 8), .ref (q 9), .int fr, .int tm, .ref (q 10), .int oc, .int en, .int tr, .int ch, .ref (q 11), .int kc, .int re], kI (q 7) (G.2 0) 64 gc] sz)) 0 0 (va_A [kO (q 0) 5 [.int cd, .int fs, .int sp, .ref (q 1), .ref (q 2), .ref (q 3), .ref (q 4), .int ln, .ref (q 5), .ref (q 6), .ref (q 7), .ref (q 8), .ref (q 9), .int fr, .int tm, .ref (q 10), .int oc, .int en, .int tr, .int ch, .ref (q 11), .int kc, .int re], kI (q 7) (G.2 0) 64 gc] sz) := by
  refine kBeg (Qc := fun A => kQi G (S := Int32) (fun _ _ => True) (fun u => [kO (q 0) 5 [.int u, .int fs, .int sp, .ref (q 1), .ref (q 2), .ref (q 3), .ref (q 4), .int ln, .ref (q 5), .ref (q 6), .ref (q 7), .ref (q 8), .ref (q 9), .int fr, .int tm, .ref (q 10), .int oc, .int en, .int tr, .int ch, .ref (q 11), .int kc, .int re], kI (q 7) (G.2 0) 64 gc]) A) (by decide) rfl (Nat.le_of_ble_eq_true rfl) ?_
  intro A p e s m below meth c ls H locs hx hb hr hts hown hlocks hnm hml hsz hP hK hD hZ hA hS hl
  have hown : s.vm.findClass RX5 = some m.cls := hown
  have hl : lv_has ls 2 [(0, .ref (q 0)), (1, .int x)] := hl
  have in5 : ∀ w ∈ wsX50, w ∈ wsX5_cell := by decide +kernel
  have kc0 : (0 : Int32).toInt = 0 := by decide
  have kc1 : (1 : Int32).toInt = 1 := by decide
  have kc64 : (64 : Int32).toInt = 64 := by decide
  refine lv_aload_n hx hb dX5_cell_0 rfl (lv_at hl 0 rfl) ?_
  refine lv_iload_n hx hb dX5_cell_1 rfl (lv_at hl 1 rfl) ?_
  refine lv_if_lt (tgt := 15) hx hb dX5_cell_2 (by decide) (fun c1 => ?_) (fun c1 => ?_)
  · have t1 := i_lt.mp c1
    refine lv_iconst (v := 1) hx hb dX5_cell_15 (by decide) ?_
    refine va_put (D := G.1) (ci := 5) (v := .int 1) (ty := .int) (C := RX5) (T := TX5) (N := 23) hx hb hts in5 tyX5 tyX5_ok nmX5 hown hK hP hD hS 0 rfl rfl 0 (by decide) (hts (.fieldLink RX5 51 "TraceDebuggerModel" "code" "I") (by decide +kernel)) (fun _ h9 => h9) rfl (by decide +kernel) rfl rfl (Nat.le_of_ble_eq_true rfl) dX5_cell_16 (fun H locs hP hD hS => ?_)
    have hP : va_P G.1 vwCl [kO (q 0) 5 [.int 1, .int fs, .int sp, .ref (q 1), .ref (q 2), .ref (q 3), .ref (q 4), .int ln, .ref (q 5), .ref (q 6), .ref (q 7), .ref (q 8), .ref (q 9), .int fr, .int tm, .ref (q 10), .int oc, .int en, .int tr, .int ch, .ref (q 11), .int kc, .int re], kI (q 7) (G.2 0) 64 gc] H := hP
    have hD : va_D A [kO (q 0) 5 [.int 1, .int fs, .int sp, .ref (q 1), .ref (q 2), .ref (q 3), .ref (q 4), .int ln, .ref (q 5), .ref (q 6), .ref (q 7), .ref (q 8), .ref (q 9), .int fr, .int tm, .ref (q 10), .int oc, .int en, .int tr, .int ch, .ref (q 11), .int kc, .int re], kI (q 7) (G.2 0) 64 gc] := hD
    refine lv_aload_n hx hb dX5_cell_19 rfl (lv_at hl 0 rfl) ?_
    refine va_get (D := G.1) (ci := 5) (v := .int 1) (C := RX5) (T := TX5) (N := 23) hx hb hts in5 hown hK hP 0 rfl rfl 0 (by decide) (hts (.fieldLink RX5 51 "TraceDebuggerModel" "code" "I") (by decide +kernel)) (fun _ h9 => h9) rfl dX5_cell_20 ?_
    refine lv_if_le (tgt := 30) hx hb dX5_cell_23 (by decide) (fun c9 => absurd c9 (by decide)) (fun _ => ?_)
    refine lv_iconst (v := 0) hx hb dX5_cell_26 (by decide) ?_
    refine lv_goto (tgt := 36) hx hb dX5_cell_27 (by decide) ?_
    exact kRetI (G := G) 1 hx hb hr hlocks hS dX5_cell_36 hP hD (by trivial)
  · have t1 := i_nlt.mp c1
    refine lv_iload_n hx hb dX5_cell_5 rfl (lv_at hl 1 rfl) ?_
    refine lv_bipush (v := 64) hx hb dX5_cell_6 (by decide) ?_
    refine lv_icmp_ge (tgt := 15) hx hb dX5_cell_8 (by decide) (fun c2 => ?_) (fun c2 => ?_)
    · have t2 := i_le.mp c2
      refine lv_iconst (v := 1) hx hb dX5_cell_15 (by decide) ?_
      refine va_put (D := G.1) (ci := 5) (v := .int 1) (ty := .int) (C := RX5) (T := TX5) (N := 23) hx hb hts in5 tyX5 tyX5_ok nmX5 hown hK hP hD hS 0 rfl rfl 0 (by decide) (hts (.fieldLink RX5 51 "TraceDebuggerModel" "code" "I") (by decide +kernel)) (fun _ h9 => h9) rfl (by decide +kernel) rfl rfl (Nat.le_of_ble_eq_true rfl) dX5_cell_16 (fun H locs hP hD hS => ?_)
      have hP : va_P G.1 vwCl [kO (q 0) 5 [.int 1, .int fs, .int sp, .ref (q 1), .ref (q 2), .ref (q 3), .ref (q 4), .int ln, .ref (q 5), .ref (q 6), .ref (q 7), .ref (q 8), .ref (q 9), .int fr, .int tm, .ref (q 10), .int oc, .int en, .int tr, .int ch, .ref (q 11), .int kc, .int re], kI (q 7) (G.2 0) 64 gc] H := hP
      have hD : va_D A [kO (q 0) 5 [.int 1, .int fs, .int sp, .ref (q 1), .ref (q 2), .ref (q 3), .ref (q 4), .int ln, .ref (q 5), .ref (q 6), .ref (q 7), .ref (q 8), .ref (q 9), .int fr, .int tm, .ref (q 10), .int oc, .int en, .int tr, .int ch, .ref (q 11), .int kc, .int re], kI (q 7) (G.2 0) 64 gc] := hD
      refine lv_aload_n hx hb dX5_cell_19 rfl (lv_at hl 0 rfl) ?_
      refine va_get (D := G.1) (ci := 5) (v := .int 1) (C := RX5) (T := TX5) (N := 23) hx hb hts in5 hown hK hP 0 rfl rfl 0 (by decide) (hts (.fieldLink RX5 51 "TraceDebuggerModel" "code" "I") (by decide +kernel)) (fun _ h9 => h9) rfl dX5_cell_20 ?_
      refine lv_if_le (tgt := 30) hx hb dX5_cell_23 (by decide) (fun c9 => absurd c9 (by decide)) (fun _ => ?_)
      refine lv_iconst (v := 0) hx hb dX5_cell_26 (by decide) ?_
      refine lv_goto (tgt := 36) hx hb dX5_cell_27 (by decide) ?_
      exact kRetI (G := G) 1 hx hb hr hlocks hS dX5_cell_36 hP hD (by trivial)
    · have t2 := i_nle.mp c2
      refine lv_iconst (v := 0) hx hb dX5_cell_11 (by decide) ?_
      refine lv_goto (tgt := 16) hx hb dX5_cell_12 (by decide) ?_
      refine va_put (D := G.1) (ci := 5) (v := .int 0) (ty := .int) (C := RX5) (T := TX5) (N := 23) hx hb hts in5 tyX5 tyX5_ok nmX5 hown hK hP hD hS 0 rfl rfl 0 (by decide) (hts (.fieldLink RX5 51 "TraceDebuggerModel" "code" "I") (by decide +kernel)) (fun _ h9 => h9) rfl (by decide +kernel) rfl rfl (Nat.le_of_ble_eq_true rfl) dX5_cell_16 (fun H locs hP hD hS => ?_)
      have hP : va_P G.1 vwCl [kO (q 0) 5 [.int 0, .int fs, .int sp, .ref (q 1), .ref (q 2), .ref (q 3), .ref (q 4), .int ln, .ref (q 5), .ref (q 6), .ref (q 7), .ref (q 8), .ref (q 9), .int fr, .int tm, .ref (q 10), .int oc, .int en, .int tr, .int ch, .ref (q 11), .int kc, .int re], kI (q 7) (G.2 0) 64 gc] H := hP
      have hD : va_D A [kO (q 0) 5 [.int 0, .int fs, .int sp, .ref (q 1), .ref (q 2), .ref (q 3), .ref (q 4), .int ln, .ref (q 5), .ref (q 6), .ref (q 7), .ref (q 8), .ref (q 9), .int fr, .int tm, .ref (q 10), .int oc, .int en, .int tr, .int ch, .ref (q 11), .int kc, .int re], kI (q 7) (G.2 0) 64 gc] := hD
      refine lv_aload_n hx hb dX5_cell_19 rfl (lv_at hl 0 rfl) ?_
      refine va_get (D := G.1) (ci := 5) (v := .int 0) (C := RX5) (T := TX5) (N := 23) hx hb hts in5 hown hK hP 0 rfl rfl 0 (by decide) (hts (.fieldLink RX5 51 "TraceDebuggerModel" "code" "I") (by decide +kernel)) (fun _ h9 => h9) rfl dX5_cell_20 ?_
      refine lv_if_le (tgt := 30) hx hb dX5_cell_23 (by decide) (fun _ => ?_) (fun c9 => absurd c9 (by decide))
      refine lv_aload_n hx hb dX5_cell_30 rfl (lv_at hl 0 rfl) ?_
      refine va_get (D := G.1) (ci := 5) (v := .ref (q 7)) (C := RX5) (T := TX5) (N := 23) hx hb hts in5 hown hK hP 0 rfl rfl 10 (by decide) (hts (.fieldLink RX5 29 "TraceDebuggerModel" "cells" "[I") (by decide +kernel)) (fun _ h9 => h9) rfl dX5_cell_31 ?_
      refine lv_iload_n hx hb dX5_cell_34 rfl (lv_at hl 1 rfl) ?_
      refine va_iald (D := G.1) hx hb hK hP 1 0 rfl rfl (vp_in_iff.mpr (by omega)) dX5_cell_35 ?_
      exact kRetI (G := G) 0 hx hb hr hlocks hS dX5_cell_36 hP hD (by trivial)

set_option maxHeartbeats 4000000 in
set_option maxRecDepth 100000 in
theorem c_X5_output (l : Launch) (G : gG) (sz : Nat) (q : Nat → Nat) (fs : Int32) (cd : Int32) (sp : Int32) (ln : Int32) (fr : Int32) (tm : Int32) (oc : Int32) (en : Int32) (tr : Int32) (ch : Int32) (kc : Int32) (re : Int32) (g1 : Nat → Int32) (g2 : Nat → Int32) (g3 : Nat → Int32) (gm : Nat → Int32) (gw : Nat → Int32) (gb : Nat → Int32) (gc : Nat → Int32) (gl : Nat → Int32) (gk : Nat → Int32) (go : Nat → Int32) (gt : Nat → Int32) (x : Int32) (ho1 : oc.toInt ≤ 200) : Met l yX5_output wsX5_output { frames := 0, cells := 0, slots := 0, locals := 0 } (kPc G [.ref (q 0), .int x] [kO (q 0) 5 [.int cd, .int fs, .int sp, .ref (q 1), .ref (q 2), .ref (q 3), .ref (q 4), .int ln, .ref (q 5), .ref (q 6), .ref (q 7), .ref (q 8), .ref (q 9), .int fr, .int tm, .ref (q 10), .int oc, .int en, .int tr, .int ch, .ref (q 11), .int kc, .int re], kI (q 10) (G.2 0) 200 go] sz (fun _ => True)) (kQi G (S := Int32) (fun _ _ => True) (fun u => [kO (q 0) 5 [.int u, .int fs, .int sp, .ref (q 1), .ref (q 2), .ref (q 3), .ref (q 4), .int ln, .ref (q 5), .ref (q 6), .ref (q 7), .ref (q 8), .ref (q 9), .int fr, .int tm, .ref (q 10), .int oc, .int en, .int tr, .int ch, .ref (q 11), .int kc, .int re], kI (q 10) (G.2 0) 200 go]) (va_A [kO (q 0) 5 [.int cd, .int fs, .int sp, .ref (q 1), .ref (q 2), .ref (q 3), .ref (q 4), .int ln, .ref (q 5), .ref (q 6), .ref (q 7), .ref (q 8), .ref (q 9), .int fr, .int tm, .ref (q 10), .int oc, .int en, .int tr, .int ch, .ref (q 11), .int kc, .int re], kI (q 10) (G.2 0) 200 go] sz)) 0 0 (va_A [kO (q 0) 5 [.int cd, .int fs, .int sp, .ref (q 1), .ref (q 2), .ref (q 3), .ref (q 4), .int ln, .ref (q 5), .ref (q 6), .ref (q 7), .ref (q 8), .ref (q 9), .int fr, .int tm, .ref (q 10), .int oc, .int en, .int tr, .int ch, .ref (q 11), .int kc, .int re], kI (q 10) (G.2 0) 200 go] sz) := by
  refine kBeg (Qc := fun A => kQi G (S := Int32) (fun _ _ => True) (fun u => [kO (q 0) 5 [.int u, .int fs, .int sp, .ref (q 1), .ref (q 2), .ref (q 3), .ref (q 4), .int ln, .ref (q 5), .ref (q 6), .ref (q 7), .ref (q 8), .ref (q 9), .int fr, .int tm, .ref (q 10), .int oc, .int en, .int tr, .int ch, .ref (q 11), .int kc, .int re], kI (q 10) (G.2 0) 200 go]) A) (by decide) rfl (Nat.le_of_ble_eq_true rfl) ?_
  intro A p e s m below meth c ls H locs hx hb hr hts hown hlocks hnm hml hsz hP hK hD hZ hA hS hl
  have hown : s.vm.findClass RX5 = some m.cls := hown
  have hl : lv_has ls 2 [(0, .ref (q 0)), (1, .int x)] := hl
  have in5 : ∀ w ∈ wsX50, w ∈ wsX5_output := by decide +kernel
  have kc0 : (0 : Int32).toInt = 0 := by decide
  have kc1 : (1 : Int32).toInt = 1 := by decide
  refine lv_aload_n hx hb dX5_output_0 rfl (lv_at hl 0 rfl) ?_
  refine lv_iload_n hx hb dX5_output_1 rfl (lv_at hl 1 rfl) ?_
  refine lv_if_lt (tgt := 17) hx hb dX5_output_2 (by decide) (fun c1 => ?_) (fun c1 => ?_)
  · have t1 := i_lt.mp c1
    refine lv_iconst (v := 1) hx hb dX5_output_17 (by decide) ?_
    refine va_put (D := G.1) (ci := 5) (v := .int 1) (ty := .int) (C := RX5) (T := TX5) (N := 23) hx hb hts in5 tyX5 tyX5_ok nmX5 hown hK hP hD hS 0 rfl rfl 0 (by decide) (hts (.fieldLink RX5 51 "TraceDebuggerModel" "code" "I") (by decide +kernel)) (fun _ h9 => h9) rfl (by decide +kernel) rfl rfl (Nat.le_of_ble_eq_true rfl) dX5_output_18 (fun H locs hP hD hS => ?_)
    have hP : va_P G.1 vwCl [kO (q 0) 5 [.int 1, .int fs, .int sp, .ref (q 1), .ref (q 2), .ref (q 3), .ref (q 4), .int ln, .ref (q 5), .ref (q 6), .ref (q 7), .ref (q 8), .ref (q 9), .int fr, .int tm, .ref (q 10), .int oc, .int en, .int tr, .int ch, .ref (q 11), .int kc, .int re], kI (q 10) (G.2 0) 200 go] H := hP
    have hD : va_D A [kO (q 0) 5 [.int 1, .int fs, .int sp, .ref (q 1), .ref (q 2), .ref (q 3), .ref (q 4), .int ln, .ref (q 5), .ref (q 6), .ref (q 7), .ref (q 8), .ref (q 9), .int fr, .int tm, .ref (q 10), .int oc, .int en, .int tr, .int ch, .ref (q 11), .int kc, .int re], kI (q 10) (G.2 0) 200 go] := hD
    refine lv_aload_n hx hb dX5_output_21 rfl (lv_at hl 0 rfl) ?_
    refine va_get (D := G.1) (ci := 5) (v := .int 1) (C := RX5) (T := TX5) (N := 23) hx hb hts in5 hown hK hP 0 rfl rfl 0 (by decide) (hts (.fieldLink RX5 51 "TraceDebuggerModel" "code" "I") (by decide +kernel)) (fun _ h9 => h9) rfl dX5_output_22 ?_
    refine lv_if_le (tgt := 32) hx hb dX5_output_25 (by decide) (fun c9 => absurd c9 (by decide)) (fun _ => ?_)
    refine lv_iconst (v := 0) hx hb dX5_output_28 (by decide) ?_
    refine lv_goto (tgt := 38) hx hb dX5_output_29 (by decide) ?_
    exact kRetI (G := G) 1 hx hb hr hlocks hS dX5_output_38 hP hD (by trivial)
  · have t1 := i_nlt.mp c1
    refine lv_iload_n hx hb dX5_output_5 rfl (lv_at hl 1 rfl) ?_
    refine lv_aload_n hx hb dX5_output_6 rfl (lv_at hl 0 rfl) ?_
    refine va_get (D := G.1) (ci := 5) (v := .int oc) (C := RX5) (T := TX5) (N := 23) hx hb hts in5 hown hK hP 0 rfl rfl 16 (by decide) (hts (.fieldLink RX5 76 "TraceDebuggerModel" "outCount" "I") (by decide +kernel)) (fun _ h9 => h9) rfl dX5_output_7 ?_
    refine lv_icmp_ge (tgt := 17) hx hb dX5_output_10 (by decide) (fun c2 => ?_) (fun c2 => ?_)
    · have t2 := i_le.mp c2
      refine lv_iconst (v := 1) hx hb dX5_output_17 (by decide) ?_
      refine va_put (D := G.1) (ci := 5) (v := .int 1) (ty := .int) (C := RX5) (T := TX5) (N := 23) hx hb hts in5 tyX5 tyX5_ok nmX5 hown hK hP hD hS 0 rfl rfl 0 (by decide) (hts (.fieldLink RX5 51 "TraceDebuggerModel" "code" "I") (by decide +kernel)) (fun _ h9 => h9) rfl (by decide +kernel) rfl rfl (Nat.le_of_ble_eq_true rfl) dX5_output_18 (fun H locs hP hD hS => ?_)
      have hP : va_P G.1 vwCl [kO (q 0) 5 [.int 1, .int fs, .int sp, .ref (q 1), .ref (q 2), .ref (q 3), .ref (q 4), .int ln, .ref (q 5), .ref (q 6), .ref (q 7), .ref (q 8), .ref (q 9), .int fr, .int tm, .ref (q 10), .int oc, .int en, .int tr, .int ch, .ref (q 11), .int kc, .int re], kI (q 10) (G.2 0) 200 go] H := hP
      have hD : va_D A [kO (q 0) 5 [.int 1, .int fs, .int sp, .ref (q 1), .ref (q 2), .ref (q 3), .ref (q 4), .int ln, .ref (q 5), .ref (q 6), .ref (q 7), .ref (q 8), .ref (q 9), .int fr, .int tm, .ref (q 10), .int oc, .int en, .int tr, .int ch, .ref (q 11), .int kc, .int re], kI (q 10) (G.2 0) 200 go] := hD
      refine lv_aload_n hx hb dX5_output_21 rfl (lv_at hl 0 rfl) ?_
      refine va_get (D := G.1) (ci := 5) (v := .int 1) (C := RX5) (T := TX5) (N := 23) hx hb hts in5 hown hK hP 0 rfl rfl 0 (by decide) (hts (.fieldLink RX5 51 "TraceDebuggerModel" "code" "I") (by decide +kernel)) (fun _ h9 => h9) rfl dX5_output_22 ?_
      refine lv_if_le (tgt := 32) hx hb dX5_output_25 (by decide) (fun c9 => absurd c9 (by decide)) (fun _ => ?_)
      refine lv_iconst (v := 0) hx hb dX5_output_28 (by decide) ?_
      refine lv_goto (tgt := 38) hx hb dX5_output_29 (by decide) ?_
      exact kRetI (G := G) 1 hx hb hr hlocks hS dX5_output_38 hP hD (by trivial)
    · have t2 := i_nle.mp c2
      refine lv_iconst (v := 0) hx hb dX5_output_13 (by decide) ?_
      refine lv_goto (tgt := 18) hx hb dX5_output_14 (by decide) ?_
      refine va_put (D := G.1) (ci := 5) (v := .int 0) (ty := .int) (C := RX5) (T := TX5) (N := 23) hx hb hts in5 tyX5 tyX5_ok nmX5 hown hK hP hD hS 0 rfl rfl 0 (by decide) (hts (.fieldLink RX5 51 "TraceDebuggerModel" "code" "I") (by decide +kernel)) (fun _ h9 => h9) rfl (by decide +kernel) rfl rfl (Nat.le_of_ble_eq_true rfl) dX5_output_18 (fun H locs hP hD hS => ?_)
      have hP : va_P G.1 vwCl [kO (q 0) 5 [.int 0, .int fs, .int sp, .ref (q 1), .ref (q 2), .ref (q 3), .ref (q 4), .int ln, .ref (q 5), .ref (q 6), .ref (q 7), .ref (q 8), .ref (q 9), .int fr, .int tm, .ref (q 10), .int oc, .int en, .int tr, .int ch, .ref (q 11), .int kc, .int re], kI (q 10) (G.2 0) 200 go] H := hP
      have hD : va_D A [kO (q 0) 5 [.int 0, .int fs, .int sp, .ref (q 1), .ref (q 2), .ref (q 3), .ref (q 4), .int ln, .ref (q 5), .ref (q 6), .ref (q 7), .ref (q 8), .ref (q 9), .int fr, .int tm, .ref (q 10), .int oc, .int en, .int tr, .int ch, .ref (q 11), .int kc, .int re], kI (q 10) (G.2 0) 200 go] := hD
      refine lv_aload_n hx hb dX5_output_21 rfl (lv_at hl 0 rfl) ?_
      refine va_get (D := G.1) (ci := 5) (v := .int 0) (C := RX5) (T := TX5) (N := 23) hx hb hts in5 hown hK hP 0 rfl rfl 0 (by decide) (hts (.fieldLink RX5 51 "TraceDebuggerModel" "code" "I") (by decide +kernel)) (fun _ h9 => h9) rfl dX5_output_22 ?_
      refine lv_if_le (tgt := 32) hx hb dX5_output_25 (by decide) (fun _ => ?_) (fun c9 => absurd c9 (by decide))
      refine lv_aload_n hx hb dX5_output_32 rfl (lv_at hl 0 rfl) ?_
      refine va_get (D := G.1) (ci := 5) (v := .ref (q 10)) (C := RX5) (T := TX5) (N := 23) hx hb hts in5 hown hK hP 0 rfl rfl 15 (by decide) (hts (.fieldLink RX5 38 "TraceDebuggerModel" "outs" "[I") (by decide +kernel)) (fun _ h9 => h9) rfl dX5_output_33 ?_
      refine lv_iload_n hx hb dX5_output_36 rfl (lv_at hl 1 rfl) ?_
      refine va_iald (D := G.1) hx hb hK hP 1 0 rfl rfl (vp_in_iff.mpr (by omega)) dX5_output_37 ?_
      exact kRetI (G := G) 0 hx hb hr hlocks hS dX5_output_38 hP hD (by trivial)

set_option maxHeartbeats 4000000 in
set_option maxRecDepth 100000 in
theorem c_X5_kept (l : Launch) (G : gG) (sz : Nat) (q : Nat → Nat) (fs : Int32) (cd : Int32) (sp : Int32) (ln : Int32) (fr : Int32) (tm : Int32) (oc : Int32) (en : Int32) (tr : Int32) (ch : Int32) (kc : Int32) (re : Int32) (g1 : Nat → Int32) (g2 : Nat → Int32) (g3 : Nat → Int32) (gm : Nat → Int32) (gw : Nat → Int32) (gb : Nat → Int32) (gc : Nat → Int32) (gl : Nat → Int32) (gk : Nat → Int32) (go : Nat → Int32) (gt : Nat → Int32) (x : Int32) (hz8 : kc.toInt ≤ 8) : Met l yX5_kept wsX5_kept { frames := 0, cells := 0, slots := 0, locals := 0 } (kPc G [.ref (q 0), .int x] [kO (q 0) 5 [.int cd, .int fs, .int sp, .ref (q 1), .ref (q 2), .ref (q 3), .ref (q 4), .int ln, .ref (q 5), .ref (q 6), .ref (q 7), .ref (q 8), .ref (q 9), .int fr, .int tm, .ref (q 10), .int oc, .int en, .int tr, .int ch, .ref (q 11), .int kc, .int re], kI (q 11) (G.2 0) 8 gt] sz (fun _ => True)) (kQi G (S := Int32) (fun _ _ => True) (fun u => [kO (q 0) 5 [.int u, .int fs, .int sp, .ref (q 1), .ref (q 2), .ref (q 3), .ref (q 4), .int ln, .ref (q 5), .ref (q 6), .ref (q 7), .ref (q 8), .ref (q 9), .int fr, .int tm, .ref (q 10), .int oc, .int en, .int tr, .int ch, .ref (q 11), .int kc, .int re], kI (q 11) (G.2 0) 8 gt]) (va_A [kO (q 0) 5 [.int cd, .int fs, .int sp, .ref (q 1), .ref (q 2), .ref (q 3), .ref (q 4), .int ln, .ref (q 5), .ref (q 6), .ref (q 7), .ref (q 8), .ref (q 9), .int fr, .int tm, .ref (q 10), .int oc, .int en, .int tr, .int ch, .ref (q 11), .int kc, .int re], kI (q 11) (G.2 0) 8 gt] sz)) 0 0 (va_A [kO (q 0) 5 [.int cd, .int fs, .int sp, .ref (q 1), .ref (q 2), .ref (q 3), .ref (q 4), .int ln, .ref (q 5), .ref (q 6), .ref (q 7), .ref (q 8), .ref (q 9), .int fr, .int tm, .ref (q 10), .int oc, .int en, .int tr, .int ch, .ref (q 11), .int kc, .int re], kI (q 11) (G.2 0) 8 gt] sz) := by
  refine kBeg (Qc := fun A => kQi G (S := Int32) (fun _ _ => True) (fun u => [kO (q 0) 5 [.int u, .int fs, .int sp, .ref (q 1), .ref (q 2), .ref (q 3), .ref (q 4), .int ln, .ref (q 5), .ref (q 6), .ref (q 7), .ref (q 8), .ref (q 9), .int fr, .int tm, .ref (q 10), .int oc, .int en, .int tr, .int ch, .ref (q 11), .int kc, .int re], kI (q 11) (G.2 0) 8 gt]) A) (by decide) rfl (Nat.le_of_ble_eq_true rfl) ?_
  intro A p e s m below meth c ls H locs hx hb hr hts hown hlocks hnm hml hsz hP hK hD hZ hA hS hl
  have hown : s.vm.findClass RX5 = some m.cls := hown
  have hl : lv_has ls 2 [(0, .ref (q 0)), (1, .int x)] := hl
  have in5 : ∀ w ∈ wsX50, w ∈ wsX5_kept := by decide +kernel
  have kc0 : (0 : Int32).toInt = 0 := by decide
  have kc1 : (1 : Int32).toInt = 1 := by decide
  refine lv_aload_n hx hb dX5_kept_0 rfl (lv_at hl 0 rfl) ?_
  refine lv_iload_n hx hb dX5_kept_1 rfl (lv_at hl 1 rfl) ?_
  refine lv_if_lt (tgt := 17) hx hb dX5_kept_2 (by decide) (fun c1 => ?_) (fun c1 => ?_)
  · have t1 := i_lt.mp c1
    refine lv_iconst (v := 1) hx hb dX5_kept_17 (by decide) ?_
    refine va_put (D := G.1) (ci := 5) (v := .int 1) (ty := .int) (C := RX5) (T := TX5) (N := 23) hx hb hts in5 tyX5 tyX5_ok nmX5 hown hK hP hD hS 0 rfl rfl 0 (by decide) (hts (.fieldLink RX5 51 "TraceDebuggerModel" "code" "I") (by decide +kernel)) (fun _ h9 => h9) rfl (by decide +kernel) rfl rfl (Nat.le_of_ble_eq_true rfl) dX5_kept_18 (fun H locs hP hD hS => ?_)
    have hP : va_P G.1 vwCl [kO (q 0) 5 [.int 1, .int fs, .int sp, .ref (q 1), .ref (q 2), .ref (q 3), .ref (q 4), .int ln, .ref (q 5), .ref (q 6), .ref (q 7), .ref (q 8), .ref (q 9), .int fr, .int tm, .ref (q 10), .int oc, .int en, .int tr, .int ch, .ref (q 11), .int kc, .int re], kI (q 11) (G.2 0) 8 gt] H := hP
    have hD : va_D A [kO (q 0) 5 [.int 1, .int fs, .int sp, .ref (q 1), .ref (q 2), .ref (q 3), .ref (q 4), .int ln, .ref (q 5), .ref (q 6), .ref (q 7), .ref (q 8), .ref (q 9), .int fr, .int tm, .ref (q 10), .int oc, .int en, .int tr, .int ch, .ref (q 11), .int kc, .int re], kI (q 11) (G.2 0) 8 gt] := hD
    refine lv_aload_n hx hb dX5_kept_21 rfl (lv_at hl 0 rfl) ?_
    refine va_get (D := G.1) (ci := 5) (v := .int 1) (C := RX5) (T := TX5) (N := 23) hx hb hts in5 hown hK hP 0 rfl rfl 0 (by decide) (hts (.fieldLink RX5 51 "TraceDebuggerModel" "code" "I") (by decide +kernel)) (fun _ h9 => h9) rfl dX5_kept_22 ?_
    refine lv_if_le (tgt := 32) hx hb dX5_kept_25 (by decide) (fun c9 => absurd c9 (by decide)) (fun _ => ?_)
    refine lv_iconst (v := 0) hx hb dX5_kept_28 (by decide) ?_
    refine lv_goto (tgt := 38) hx hb dX5_kept_29 (by decide) ?_
    exact kRetI (G := G) 1 hx hb hr hlocks hS dX5_kept_38 hP hD (by trivial)
  · have t1 := i_nlt.mp c1
    refine lv_iload_n hx hb dX5_kept_5 rfl (lv_at hl 1 rfl) ?_
    refine lv_aload_n hx hb dX5_kept_6 rfl (lv_at hl 0 rfl) ?_
    refine va_get (D := G.1) (ci := 5) (v := .int kc) (C := RX5) (T := TX5) (N := 23) hx hb hts in5 hown hK hP 0 rfl rfl 21 (by decide) (hts (.fieldLink RX5 57 "TraceDebuggerModel" "keptCount" "I") (by decide +kernel)) (fun _ h9 => h9) rfl dX5_kept_7 ?_
    refine lv_icmp_ge (tgt := 17) hx hb dX5_kept_10 (by decide) (fun c2 => ?_) (fun c2 => ?_)
    · have t2 := i_le.mp c2
      refine lv_iconst (v := 1) hx hb dX5_kept_17 (by decide) ?_
      refine va_put (D := G.1) (ci := 5) (v := .int 1) (ty := .int) (C := RX5) (T := TX5) (N := 23) hx hb hts in5 tyX5 tyX5_ok nmX5 hown hK hP hD hS 0 rfl rfl 0 (by decide) (hts (.fieldLink RX5 51 "TraceDebuggerModel" "code" "I") (by decide +kernel)) (fun _ h9 => h9) rfl (by decide +kernel) rfl rfl (Nat.le_of_ble_eq_true rfl) dX5_kept_18 (fun H locs hP hD hS => ?_)
      have hP : va_P G.1 vwCl [kO (q 0) 5 [.int 1, .int fs, .int sp, .ref (q 1), .ref (q 2), .ref (q 3), .ref (q 4), .int ln, .ref (q 5), .ref (q 6), .ref (q 7), .ref (q 8), .ref (q 9), .int fr, .int tm, .ref (q 10), .int oc, .int en, .int tr, .int ch, .ref (q 11), .int kc, .int re], kI (q 11) (G.2 0) 8 gt] H := hP
      have hD : va_D A [kO (q 0) 5 [.int 1, .int fs, .int sp, .ref (q 1), .ref (q 2), .ref (q 3), .ref (q 4), .int ln, .ref (q 5), .ref (q 6), .ref (q 7), .ref (q 8), .ref (q 9), .int fr, .int tm, .ref (q 10), .int oc, .int en, .int tr, .int ch, .ref (q 11), .int kc, .int re], kI (q 11) (G.2 0) 8 gt] := hD
      refine lv_aload_n hx hb dX5_kept_21 rfl (lv_at hl 0 rfl) ?_
      refine va_get (D := G.1) (ci := 5) (v := .int 1) (C := RX5) (T := TX5) (N := 23) hx hb hts in5 hown hK hP 0 rfl rfl 0 (by decide) (hts (.fieldLink RX5 51 "TraceDebuggerModel" "code" "I") (by decide +kernel)) (fun _ h9 => h9) rfl dX5_kept_22 ?_
      refine lv_if_le (tgt := 32) hx hb dX5_kept_25 (by decide) (fun c9 => absurd c9 (by decide)) (fun _ => ?_)
      refine lv_iconst (v := 0) hx hb dX5_kept_28 (by decide) ?_
      refine lv_goto (tgt := 38) hx hb dX5_kept_29 (by decide) ?_
      exact kRetI (G := G) 1 hx hb hr hlocks hS dX5_kept_38 hP hD (by trivial)
    · have t2 := i_nle.mp c2
      refine lv_iconst (v := 0) hx hb dX5_kept_13 (by decide) ?_
      refine lv_goto (tgt := 18) hx hb dX5_kept_14 (by decide) ?_
      refine va_put (D := G.1) (ci := 5) (v := .int 0) (ty := .int) (C := RX5) (T := TX5) (N := 23) hx hb hts in5 tyX5 tyX5_ok nmX5 hown hK hP hD hS 0 rfl rfl 0 (by decide) (hts (.fieldLink RX5 51 "TraceDebuggerModel" "code" "I") (by decide +kernel)) (fun _ h9 => h9) rfl (by decide +kernel) rfl rfl (Nat.le_of_ble_eq_true rfl) dX5_kept_18 (fun H locs hP hD hS => ?_)
      have hP : va_P G.1 vwCl [kO (q 0) 5 [.int 0, .int fs, .int sp, .ref (q 1), .ref (q 2), .ref (q 3), .ref (q 4), .int ln, .ref (q 5), .ref (q 6), .ref (q 7), .ref (q 8), .ref (q 9), .int fr, .int tm, .ref (q 10), .int oc, .int en, .int tr, .int ch, .ref (q 11), .int kc, .int re], kI (q 11) (G.2 0) 8 gt] H := hP
      have hD : va_D A [kO (q 0) 5 [.int 0, .int fs, .int sp, .ref (q 1), .ref (q 2), .ref (q 3), .ref (q 4), .int ln, .ref (q 5), .ref (q 6), .ref (q 7), .ref (q 8), .ref (q 9), .int fr, .int tm, .ref (q 10), .int oc, .int en, .int tr, .int ch, .ref (q 11), .int kc, .int re], kI (q 11) (G.2 0) 8 gt] := hD
      refine lv_aload_n hx hb dX5_kept_21 rfl (lv_at hl 0 rfl) ?_
      refine va_get (D := G.1) (ci := 5) (v := .int 0) (C := RX5) (T := TX5) (N := 23) hx hb hts in5 hown hK hP 0 rfl rfl 0 (by decide) (hts (.fieldLink RX5 51 "TraceDebuggerModel" "code" "I") (by decide +kernel)) (fun _ h9 => h9) rfl dX5_kept_22 ?_
      refine lv_if_le (tgt := 32) hx hb dX5_kept_25 (by decide) (fun _ => ?_) (fun c9 => absurd c9 (by decide))
      refine lv_aload_n hx hb dX5_kept_32 rfl (lv_at hl 0 rfl) ?_
      refine va_get (D := G.1) (ci := 5) (v := .ref (q 11)) (C := RX5) (T := TX5) (N := 23) hx hb hts in5 hown hK hP 0 rfl rfl 20 (by decide) (hts (.fieldLink RX5 41 "TraceDebuggerModel" "keptTimes" "[I") (by decide +kernel)) (fun _ h9 => h9) rfl dX5_kept_33 ?_
      refine lv_iload_n hx hb dX5_kept_36 rfl (lv_at hl 1 rfl) ?_
      refine va_iald (D := G.1) hx hb hK hP 1 0 rfl rfl (vp_in_iff.mpr (by omega)) dX5_kept_37 ?_
      exact kRetI (G := G) 0 hx hb hr hlocks hS dX5_kept_38 hP hD (by trivial)

set_option maxHeartbeats 4000000 in
set_option maxRecDepth 100000 in
theorem c_X5_told (l : Launch) (G : gG) (sz : Nat) (q : Nat → Nat) (fs : Int32) (cd : Int32) (sp : Int32) (ln : Int32) (fr : Int32) (tm : Int32) (oc : Int32) (en : Int32) (tr : Int32) (ch : Int32) (kc : Int32) (re : Int32) (g1 : Nat → Int32) (g2 : Nat → Int32) (g3 : Nat → Int32) (gm : Nat → Int32) (gw : Nat → Int32) (gb : Nat → Int32) (gc : Nat → Int32) (gl : Nat → Int32) (gk : Nat → Int32) (go : Nat → Int32) (gt : Nat → Int32) (x : Int32)  : Met l yX5_told wsX5_told { frames := 0, cells := 0, slots := 0, locals := 0 } (kPc G [.ref (q 0), .int x] [kO (q 0) 5 [.int cd, .int fs, .int sp, .ref (q 1), .ref (q 2), .ref (q 3), .ref (q 4), .int ln, .ref (q 5), .ref (q 6), .ref (q 7), .ref (q 8), .ref (q 9), .int fr, .int tm, .ref (q 10), .int oc, .int en, .int tr, .int ch, .ref (q 11), .int kc, .int re]] sz (fun _ => True)) (kQi G (S := Unit) (fun _ _ => True) (fun _ => [kO (q 0) 5 [.int 0, .int fs, .int sp, .ref (q 1), .ref (q 2), .ref (q 3), .ref (q 4), .int ln, .ref (q 5), .ref (q 6), .ref (q 7), .ref (q 8), .ref (q 9), .int fr, .int tm, .ref (q 10), .int oc, .int en, .int tr, .int ch, .ref (q 11), .int kc, .int re]]) (va_A [kO (q 0) 5 [.int cd, .int fs, .int sp, .ref (q 1), .ref (q 2), .ref (q 3), .ref (q 4), .int ln, .ref (q 5), .ref (q 6), .ref (q 7), .ref (q 8), .ref (q 9), .int fr, .int tm, .ref (q 10), .int oc, .int en, .int tr, .int ch, .ref (q 11), .int kc, .int re]] sz)) 0 0 (va_A [kO (q 0) 5 [.int cd, .int fs, .int sp, .ref (q 1), .ref (q 2), .ref (q 3), .ref (q 4), .int ln, .ref (q 5), .ref (q 6), .ref (q 7), .ref (q 8), .ref (q 9), .int fr, .int tm, .ref (q 10), .int oc, .int en, .int tr, .int ch, .ref (q 11), .int kc, .int re]] sz) := by
  refine kBeg (Qc := fun A => kQi G (S := Unit) (fun _ _ => True) (fun _ => [kO (q 0) 5 [.int 0, .int fs, .int sp, .ref (q 1), .ref (q 2), .ref (q 3), .ref (q 4), .int ln, .ref (q 5), .ref (q 6), .ref (q 7), .ref (q 8), .ref (q 9), .int fr, .int tm, .ref (q 10), .int oc, .int en, .int tr, .int ch, .ref (q 11), .int kc, .int re]]) A) (by decide) rfl (Nat.le_of_ble_eq_true rfl) ?_
  intro A p e s m below meth c ls H locs hx hb hr hts hown hlocks hnm hml hsz hP hK hD hZ hA hS hl
  have hown : s.vm.findClass RX5 = some m.cls := hown
  have hl : lv_has ls 2 [(0, .ref (q 0)), (1, .int x)] := hl
  have in5 : ∀ w ∈ wsX50, w ∈ wsX5_told := by decide +kernel
  have kcm1 : (-1 : Int32).toInt = -1 := by decide
  have kc0 : (0 : Int32).toInt = 0 := by decide
  have kc1 : (1 : Int32).toInt = 1 := by decide
  have kc2 : (2 : Int32).toInt = 2 := by decide
  refine lv_aload_n hx hb dX5_told_0 rfl (lv_at hl 0 rfl) ?_
  refine lv_iconst (v := 0) hx hb dX5_told_1 (by decide) ?_
  refine va_put (D := G.1) (ci := 5) (v := .int 0) (ty := .int) (C := RX5) (T := TX5) (N := 23) hx hb hts in5 tyX5 tyX5_ok nmX5 hown hK hP hD hS 0 rfl rfl 0 (by decide) (hts (.fieldLink RX5 51 "TraceDebuggerModel" "code" "I") (by decide +kernel)) (fun _ h9 => h9) rfl (by decide +kernel) rfl rfl (Nat.le_of_ble_eq_true rfl) dX5_told_2 (fun H locs hP hD hS => ?_)
  have hP : va_P G.1 vwCl [kO (q 0) 5 [.int 0, .int fs, .int sp, .ref (q 1), .ref (q 2), .ref (q 3), .ref (q 4), .int ln, .ref (q 5), .ref (q 6), .ref (q 7), .ref (q 8), .ref (q 9), .int fr, .int tm, .ref (q 10), .int oc, .int en, .int tr, .int ch, .ref (q 11), .int kc, .int re]] H := hP
  have hD : va_D A [kO (q 0) 5 [.int 0, .int fs, .int sp, .ref (q 1), .ref (q 2), .ref (q 3), .ref (q 4), .int ln, .ref (q 5), .ref (q 6), .ref (q 7), .ref (q 8), .ref (q 9), .int fr, .int tm, .ref (q 10), .int oc, .int en, .int tr, .int ch, .ref (q 11), .int kc, .int re]] := hD
  refine lv_iload_n hx hb dX5_told_5 rfl (lv_at hl 1 rfl) ?_
  rcases (show x.toInt = 0 ∨ x.toInt = 1 ∨ x.toInt = 2 ∨ x.toInt = 3 ∨ x.toInt = 4 ∨ x.toInt = 5 ∨ x.toInt = 6 ∨ (x.toInt < 0 ∨ 6 < x.toInt) by omega) with w1 | w1 | w1 | w1 | w1 | w1 | w1 | w1
  · refine lv_tableIn (off := 42) (tgt := 48) hx hb dX5_told_6 (by omega) (by omega) (by rw [w1]; rfl) (by decide) ?_
    refine lv_aload_n hx hb dX5_told_48 rfl (lv_at hl 0 rfl) ?_
    refine va_get (D := G.1) (ci := 5) (v := .int tm) (C := RX5) (T := TX5) (N := 23) hx hb hts in5 hown hK hP 0 rfl rfl 14 (by decide) (hts (.fieldLink RX5 73 "TraceDebuggerModel" "time" "I") (by decide +kernel)) (fun _ h9 => h9) rfl dX5_told_49 ?_
    exact kRetI (G := G) () hx hb hr hlocks hS dX5_told_52 hP hD (by trivial)
  · refine lv_tableIn (off := 47) (tgt := 53) hx hb dX5_told_6 (by omega) (by omega) (by rw [w1]; rfl) (by decide) ?_
    refine lv_aload_n hx hb dX5_told_53 rfl (lv_at hl 0 rfl) ?_
    refine va_get (D := G.1) (ci := 5) (v := .int fr) (C := RX5) (T := TX5) (N := 23) hx hb hts in5 hown hK hP 0 rfl rfl 13 (by decide) (hts (.fieldLink RX5 70 "TraceDebuggerModel" "frames" "I") (by decide +kernel)) (fun _ h9 => h9) rfl dX5_told_54 ?_
    exact kRetI (G := G) () hx hb hr hlocks hS dX5_told_57 hP hD (by trivial)
  · refine lv_tableIn (off := 52) (tgt := 58) hx hb dX5_told_6 (by omega) (by omega) (by rw [w1]; rfl) (by decide) ?_
    refine lv_aload_n hx hb dX5_told_58 rfl (lv_at hl 0 rfl) ?_
    refine va_get (D := G.1) (ci := 5) (v := .int oc) (C := RX5) (T := TX5) (N := 23) hx hb hts in5 hown hK hP 0 rfl rfl 16 (by decide) (hts (.fieldLink RX5 76 "TraceDebuggerModel" "outCount" "I") (by decide +kernel)) (fun _ h9 => h9) rfl dX5_told_59 ?_
    exact kRetI (G := G) () hx hb hr hlocks hS dX5_told_62 hP hD (by trivial)
  · refine lv_tableIn (off := 57) (tgt := 63) hx hb dX5_told_6 (by omega) (by omega) (by rw [w1]; rfl) (by decide) ?_
    refine lv_aload_n hx hb dX5_told_63 rfl (lv_at hl 0 rfl) ?_
    refine va_get (D := G.1) (ci := 5) (v := .int kc) (C := RX5) (T := TX5) (N := 23) hx hb hts in5 hown hK hP 0 rfl rfl 21 (by decide) (hts (.fieldLink RX5 57 "TraceDebuggerModel" "keptCount" "I") (by decide +kernel)) (fun _ h9 => h9) rfl dX5_told_64 ?_
    exact kRetI (G := G) () hx hb hr hlocks hS dX5_told_67 hP hD (by trivial)
  · refine lv_tableIn (off := 62) (tgt := 68) hx hb dX5_told_6 (by omega) (by omega) (by rw [w1]; rfl) (by decide) ?_
    refine lv_aload_n hx hb dX5_told_68 rfl (lv_at hl 0 rfl) ?_
    refine va_get (D := G.1) (ci := 5) (v := .int sp) (C := RX5) (T := TX5) (N := 23) hx hb hts in5 hown hK hP 0 rfl rfl 2 (by decide) (hts (.fieldLink RX5 54 "TraceDebuggerModel" "spacing" "I") (by decide +kernel)) (fun _ h9 => h9) rfl dX5_told_69 ?_
    exact kRetI (G := G) () hx hb hr hlocks hS dX5_told_72 hP hD (by trivial)
  · refine lv_tableIn (off := 67) (tgt := 73) hx hb dX5_told_6 (by omega) (by omega) (by rw [w1]; rfl) (by decide) ?_
    refine lv_aload_n hx hb dX5_told_73 rfl (lv_at hl 0 rfl) ?_
    refine va_get (D := G.1) (ci := 5) (v := .int ln) (C := RX5) (T := TX5) (N := 23) hx hb hts in5 hown hK hP 0 rfl rfl 7 (by decide) (hts (.fieldLink RX5 93 "TraceDebuggerModel" "lines" "I") (by decide +kernel)) (fun _ h9 => h9) rfl dX5_told_74 ?_
    exact kRetI (G := G) () hx hb hr hlocks hS dX5_told_77 hP hD (by trivial)
  · refine lv_tableIn (off := 72) (tgt := 78) hx hb dX5_told_6 (by omega) (by omega) (by rw [w1]; rfl) (by decide) ?_
    refine lv_aload_n hx hb dX5_told_78 rfl (lv_at hl 0 rfl) ?_
    refine va_get (D := G.1) (ci := 5) (v := .int tr) (C := RX5) (T := TX5) (N := 23) hx hb hts in5 hown hK hP 0 rfl rfl 18 (by decide) (hts (.fieldLink RX5 63 "TraceDebuggerModel" "trapped" "Z") (by decide +kernel)) (fun _ h9 => h9) rfl dX5_told_79 ?_
    refine lv_if_eq (tgt := 89) hx hb dX5_told_82 (by decide) (fun c2 => ?_) (fun c2 => ?_)
    · have t2 := i_eq.mp c2
      refine lv_aload_n hx hb dX5_told_89 rfl (lv_at hl 0 rfl) ?_
      refine va_get (D := G.1) (ci := 5) (v := .int en) (C := RX5) (T := TX5) (N := 23) hx hb hts in5 hown hK hP 0 rfl rfl 17 (by decide) (hts (.fieldLink RX5 79 "TraceDebuggerModel" "ended" "Z") (by decide +kernel)) (fun _ h9 => h9) rfl dX5_told_90 ?_
      refine lv_if_eq (tgt := 100) hx hb dX5_told_93 (by decide) (fun c3 => ?_) (fun c3 => ?_)
      · have t3 := i_eq.mp c3
        refine lv_iconst (v := 0) hx hb dX5_told_100 (by decide) ?_
        exact kRetI (G := G) () hx hb hr hlocks hS dX5_told_101 hP hD (by trivial)
      · have t3 := i_ne.mp c3
        refine lv_iconst (v := 1) hx hb dX5_told_96 (by decide) ?_
        refine lv_goto (tgt := 101) hx hb dX5_told_97 (by decide) ?_
        exact kRetI (G := G) () hx hb hr hlocks hS dX5_told_101 hP hD (by trivial)
    · have t2 := i_ne.mp c2
      refine lv_iconst (v := 2) hx hb dX5_told_85 (by decide) ?_
      refine lv_goto (tgt := 101) hx hb dX5_told_86 (by decide) ?_
      exact kRetI (G := G) () hx hb hr hlocks hS dX5_told_101 hP hD (by trivial)
  · refine lv_tableOut (tgt := 102) hx hb dX5_told_6 w1 (by decide) ?_
    refine lv_iconst (v := (-1)) hx hb dX5_told_102 (by decide) ?_
    exact kRetI (G := G) () hx hb hr hlocks hS dX5_told_103 hP hD (by trivial)

set_option maxHeartbeats 4000000 in
set_option maxRecDepth 100000 in
theorem c_X5_thrown (l : Launch) (G : gG) (sz : Nat) (q : Nat → Nat) (fs : Int32) (cd : Int32) (sp : Int32) (ln : Int32) (fr : Int32) (tm : Int32) (oc : Int32) (en : Int32) (tr : Int32) (ch : Int32) (kc : Int32) (re : Int32) (g1 : Nat → Int32) (g2 : Nat → Int32) (g3 : Nat → Int32) (gm : Nat → Int32) (gw : Nat → Int32) (gb : Nat → Int32) (gc : Nat → Int32) (gl : Nat → Int32) (gk : Nat → Int32) (go : Nat → Int32) (gt : Nat → Int32)  : Met l yX5_thrown wsX5_thrown { frames := 0, cells := 0, slots := 0, locals := 0 } (kPc G [.ref (q 0)] [kO (q 0) 5 [.int cd, .int fs, .int sp, .ref (q 1), .ref (q 2), .ref (q 3), .ref (q 4), .int ln, .ref (q 5), .ref (q 6), .ref (q 7), .ref (q 8), .ref (q 9), .int fr, .int tm, .ref (q 10), .int oc, .int en, .int tr, .int ch, .ref (q 11), .int kc, .int re]] sz (fun _ => True)) (kQi G (S := Unit) (fun r _ => r = cd) (fun _ => [kO (q 0) 5 [.int cd, .int fs, .int sp, .ref (q 1), .ref (q 2), .ref (q 3), .ref (q 4), .int ln, .ref (q 5), .ref (q 6), .ref (q 7), .ref (q 8), .ref (q 9), .int fr, .int tm, .ref (q 10), .int oc, .int en, .int tr, .int ch, .ref (q 11), .int kc, .int re]]) (va_A [kO (q 0) 5 [.int cd, .int fs, .int sp, .ref (q 1), .ref (q 2), .ref (q 3), .ref (q 4), .int ln, .ref (q 5), .ref (q 6), .ref (q 7), .ref (q 8), .ref (q 9), .int fr, .int tm, .ref (q 10), .int oc, .int en, .int tr, .int ch, .ref (q 11), .int kc, .int re]] sz)) 0 0 (va_A [kO (q 0) 5 [.int cd, .int fs, .int sp, .ref (q 1), .ref (q 2), .ref (q 3), .ref (q 4), .int ln, .ref (q 5), .ref (q 6), .ref (q 7), .ref (q 8), .ref (q 9), .int fr, .int tm, .ref (q 10), .int oc, .int en, .int tr, .int ch, .ref (q 11), .int kc, .int re]] sz) := by
  refine kBeg (Qc := fun A => kQi G (S := Unit) (fun r _ => r = cd) (fun _ => [kO (q 0) 5 [.int cd, .int fs, .int sp, .ref (q 1), .ref (q 2), .ref (q 3), .ref (q 4), .int ln, .ref (q 5), .ref (q 6), .ref (q 7), .ref (q 8), .ref (q 9), .int fr, .int tm, .ref (q 10), .int oc, .int en, .int tr, .int ch, .ref (q 11), .int kc, .int re]]) A) (by decide) rfl (Nat.le_of_ble_eq_true rfl) ?_
  intro A p e s m below meth c ls H locs hx hb hr hts hown hlocks hnm hml hsz hP hK hD hZ hA hS hl
  have hown : s.vm.findClass RX5 = some m.cls := hown
  have hl : lv_has ls 1 [(0, .ref (q 0))] := hl
  have in5 : ∀ w ∈ wsX50, w ∈ wsX5_thrown := by decide +kernel
  refine lv_aload_n hx hb dX5_thrown_0 rfl (lv_at hl 0 rfl) ?_
  refine va_get (D := G.1) (ci := 5) (v := .int cd) (C := RX5) (T := TX5) (N := 23) hx hb hts in5 hown hK hP 0 rfl rfl 0 (by decide) (hts (.fieldLink RX5 51 "TraceDebuggerModel" "code" "I") (by decide +kernel)) (fun _ h9 => h9) rfl dX5_thrown_1 ?_
  exact kRetI (G := G) () hx hb hr hlocks hS dX5_thrown_4 hP hD rfl
