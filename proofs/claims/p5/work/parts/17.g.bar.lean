set_option maxHeartbeats 4000000 in
set_option maxRecDepth 100000 in
theorem c_X5_barred (l : Launch) (G : gG) (sz : Nat) (q : Nat → Nat) (fs : Int32) (cd : Int32) (sp : Int32) (ln : Int32) (fr : Int32) (tm : Int32) (oc : Int32) (en : Int32) (tr : Int32) (ch : Int32) (kc : Int32) (re : Int32) (g1 : Nat → Int32) (g2 : Nat → Int32) (g3 : Nat → Int32) (gm : Nat → Int32) (gw : Nat → Int32) (gb : Nat → Int32) (gc : Nat → Int32) (gl : Nat → Int32) (gk : Nat → Int32) (go : Nat → Int32) (gt : Nat → Int32)  : Met l yX5_barred wsX5_barred { frames := 0, cells := 0, slots := 0, locals := 0 } (kPc G [.ref (q 0)] [kO (q 0) 5 [.int cd, .int fs, .int sp, .ref (q 1), .ref (q 2), .ref (q 3), .ref (q 4), .int ln, .ref (q 5), .ref (q 6), .ref (q 7), .ref (q 8), .ref (q 9), .int fr, .int tm, .ref (q 10), .int oc, .int en, .int tr, .int ch, .ref (q 11), .int kc, .int re]] sz (fun _ => True)) (kQi G (S := Unit) (fun r _ => r = 0 → (en = 0 ∧ tm.toInt ≠ 2000)) (fun _ => [kO (q 0) 5 [.int cd, .int fs, .int sp, .ref (q 1), .ref (q 2), .ref (q 3), .ref (q 4), .int ln, .ref (q 5), .ref (q 6), .ref (q 7), .ref (q 8), .ref (q 9), .int fr, .int tm, .ref (q 10), .int oc, .int en, .int tr, .int ch, .ref (q 11), .int kc, .int re]]) (va_A [kO (q 0) 5 [.int cd, .int fs, .int sp, .ref (q 1), .ref (q 2), .ref (q 3), .ref (q 4), .int ln, .ref (q 5), .ref (q 6), .ref (q 7), .ref (q 8), .ref (q 9), .int fr, .int tm, .ref (q 10), .int oc, .int en, .int tr, .int ch, .ref (q 11), .int kc, .int re]] sz)) 0 0 (va_A [kO (q 0) 5 [.int cd, .int fs, .int sp, .ref (q 1), .ref (q 2), .ref (q 3), .ref (q 4), .int ln, .ref (q 5), .ref (q 6), .ref (q 7), .ref (q 8), .ref (q 9), .int fr, .int tm, .ref (q 10), .int oc, .int en, .int tr, .int ch, .ref (q 11), .int kc, .int re]] sz) := by
  refine kBeg (Qc := fun A => kQi G (S := Unit) (fun r _ => r = 0 → (en = 0 ∧ tm.toInt ≠ 2000)) (fun _ => [kO (q 0) 5 [.int cd, .int fs, .int sp, .ref (q 1), .ref (q 2), .ref (q 3), .ref (q 4), .int ln, .ref (q 5), .ref (q 6), .ref (q 7), .ref (q 8), .ref (q 9), .int fr, .int tm, .ref (q 10), .int oc, .int en, .int tr, .int ch, .ref (q 11), .int kc, .int re]]) A) (by decide) rfl (Nat.le_of_ble_eq_true rfl) ?_
  intro A p e s m below meth c ls H locs hx hb hr hts hown hlocks hnm hml hsz hP hK hD hZ hA hS hl
  have hown : s.vm.findClass RX5 = some m.cls := hown
  have hl : lv_has ls 1 [(0, .ref (q 0))] := hl
  have in5 : ∀ w ∈ wsX50, w ∈ wsX5_barred := by decide +kernel
  have kc0 : (0 : Int32).toInt = 0 := by decide
  have kc3 : (3 : Int32).toInt = 3 := by decide
  have kc4 : (4 : Int32).toInt = 4 := by decide
  have kc5 : (5 : Int32).toInt = 5 := by decide
  have kc2000 : (2000 : Int32).toInt = 2000 := by decide
  refine lv_aload_n hx hb dX5_barred_0 rfl (lv_at hl 0 rfl) ?_
  refine va_get (D := G.1) (ci := 5) (v := .int tr) (C := RX5) (T := TX5) (N := 23) hx hb hts in5 hown hK hP 0 rfl rfl 18 (by decide) (hts (.fieldLink RX5 63 "TraceDebuggerModel" "trapped" "Z") (by decide +kernel)) (fun _ h9 => h9) rfl dX5_barred_1 ?_
  refine lv_if_eq (tgt := 11) hx hb dX5_barred_4 (by decide) (fun c1 => ?_) (fun c1 => ?_)
  · have t1 := i_eq.mp c1
    refine lv_aload_n hx hb dX5_barred_11 rfl (lv_at hl 0 rfl) ?_
    refine va_get (D := G.1) (ci := 5) (v := .int en) (C := RX5) (T := TX5) (N := 23) hx hb hts in5 hown hK hP 0 rfl rfl 17 (by decide) (hts (.fieldLink RX5 79 "TraceDebuggerModel" "ended" "Z") (by decide +kernel)) (fun _ h9 => h9) rfl dX5_barred_12 ?_
    refine lv_if_eq (tgt := 22) hx hb dX5_barred_15 (by decide) (fun c2 => ?_) (fun c2 => ?_)
    · have t2 := i_eq.mp c2
      refine lv_aload_n hx hb dX5_barred_22 rfl (lv_at hl 0 rfl) ?_
      refine va_get (D := G.1) (ci := 5) (v := .int tm) (C := RX5) (T := TX5) (N := 23) hx hb hts in5 hown hK hP 0 rfl rfl 14 (by decide) (hts (.fieldLink RX5 73 "TraceDebuggerModel" "time" "I") (by decide +kernel)) (fun _ h9 => h9) rfl dX5_barred_23 ?_
      refine lv_sipush (v := 2000) hx hb dX5_barred_26 (by decide) ?_
      refine lv_icmp_ne (tgt := 36) hx hb dX5_barred_29 (by decide) (fun c3 => ?_) (fun c3 => ?_)
      · have t3 := i_ne.mp c3
        refine lv_iconst (v := 0) hx hb dX5_barred_36 (by decide) ?_
        exact kRetI (G := G) () hx hb hr hlocks hS dX5_barred_37 hP hD (by (try dsimp only); exact (by first | exact fun h9 => absurd h9 (by decide) | exact fun _ => ⟨by assumption, by omega⟩))
      · have t3 := i_eq.mp c3
        refine lv_iconst (v := 5) hx hb dX5_barred_32 (by decide) ?_
        refine lv_goto (tgt := 37) hx hb dX5_barred_33 (by decide) ?_
        exact kRetI (G := G) () hx hb hr hlocks hS dX5_barred_37 hP hD (by (try dsimp only); exact (by first | exact fun h9 => absurd h9 (by decide) | exact fun _ => ⟨by assumption, by omega⟩))
    · have t2 := i_ne.mp c2
      refine lv_iconst (v := 3) hx hb dX5_barred_18 (by decide) ?_
      refine lv_goto (tgt := 37) hx hb dX5_barred_19 (by decide) ?_
      exact kRetI (G := G) () hx hb hr hlocks hS dX5_barred_37 hP hD (by (try dsimp only); exact (by first | exact fun h9 => absurd h9 (by decide) | exact fun _ => ⟨by assumption, by omega⟩))
  · have t1 := i_ne.mp c1
    refine lv_iconst (v := 4) hx hb dX5_barred_7 (by decide) ?_
    refine lv_goto (tgt := 37) hx hb dX5_barred_8 (by decide) ?_
    exact kRetI (G := G) () hx hb hr hlocks hS dX5_barred_37 hP hD (by (try dsimp only); exact (by first | exact fun h9 => absurd h9 (by decide) | exact fun _ => ⟨by assumption, by omega⟩))

set_option maxHeartbeats 4000000 in
set_option maxRecDepth 100000 in
theorem c_X5_isMarked (l : Launch) (G : gG) (sz : Nat) (q : Nat → Nat) (fs : Int32) (cd : Int32) (sp : Int32) (ln : Int32) (fr : Int32) (tm : Int32) (oc : Int32) (en : Int32) (tr : Int32) (ch : Int32) (kc : Int32) (re : Int32) (g1 : Nat → Int32) (g2 : Nat → Int32) (g3 : Nat → Int32) (gm : Nat → Int32) (gw : Nat → Int32) (gb : Nat → Int32) (gc : Nat → Int32) (gl : Nat → Int32) (gk : Nat → Int32) (go : Nat → Int32) (gt : Nat → Int32) (hf1 : 1 ≤ fr.toInt) (hf2 : fr.toInt ≤ 16) (hl0 : 0 ≤ ln.toInt) (hl1 : ln.toInt ≤ 80) : Met l yX5_isMarked wsX5_isMarked { frames := 0, cells := 0, slots := 0, locals := 0 } (kPc G [.ref (q 0)] [kO (q 0) 5 [.int cd, .int fs, .int sp, .ref (q 1), .ref (q 2), .ref (q 3), .ref (q 4), .int ln, .ref (q 5), .ref (q 6), .ref (q 7), .ref (q 8), .ref (q 9), .int fr, .int tm, .ref (q 10), .int oc, .int en, .int tr, .int ch, .ref (q 11), .int kc, .int re], kI (q 9) (G.2 0) 16 gk, kI (q 4) (G.2 1) 80 gm] sz (fun _ => True)) (kQi G (S := Unit) (fun r _ => r = 0 ∨ r = 1) (fun _ => [kO (q 0) 5 [.int cd, .int fs, .int sp, .ref (q 1), .ref (q 2), .ref (q 3), .ref (q 4), .int ln, .ref (q 5), .ref (q 6), .ref (q 7), .ref (q 8), .ref (q 9), .int fr, .int tm, .ref (q 10), .int oc, .int en, .int tr, .int ch, .ref (q 11), .int kc, .int re], kI (q 9) (G.2 0) 16 gk, kI (q 4) (G.2 1) 80 gm]) (va_A [kO (q 0) 5 [.int cd, .int fs, .int sp, .ref (q 1), .ref (q 2), .ref (q 3), .ref (q 4), .int ln, .ref (q 5), .ref (q 6), .ref (q 7), .ref (q 8), .ref (q 9), .int fr, .int tm, .ref (q 10), .int oc, .int en, .int tr, .int ch, .ref (q 11), .int kc, .int re], kI (q 9) (G.2 0) 16 gk, kI (q 4) (G.2 1) 80 gm] sz)) 0 0 (va_A [kO (q 0) 5 [.int cd, .int fs, .int sp, .ref (q 1), .ref (q 2), .ref (q 3), .ref (q 4), .int ln, .ref (q 5), .ref (q 6), .ref (q 7), .ref (q 8), .ref (q 9), .int fr, .int tm, .ref (q 10), .int oc, .int en, .int tr, .int ch, .ref (q 11), .int kc, .int re], kI (q 9) (G.2 0) 16 gk, kI (q 4) (G.2 1) 80 gm] sz) := by
  refine kBeg (Qc := fun A => kQi G (S := Unit) (fun r _ => r = 0 ∨ r = 1) (fun _ => [kO (q 0) 5 [.int cd, .int fs, .int sp, .ref (q 1), .ref (q 2), .ref (q 3), .ref (q 4), .int ln, .ref (q 5), .ref (q 6), .ref (q 7), .ref (q 8), .ref (q 9), .int fr, .int tm, .ref (q 10), .int oc, .int en, .int tr, .int ch, .ref (q 11), .int kc, .int re], kI (q 9) (G.2 0) 16 gk, kI (q 4) (G.2 1) 80 gm]) A) (by decide) rfl (Nat.le_of_ble_eq_true rfl) ?_
  intro A p e s m below meth c ls H locs hx hb hr hts hown hlocks hnm hml hsz hP hK hD hZ hA hS hl
  have hown : s.vm.findClass RX5 = some m.cls := hown
  have hl : lv_has ls 2 [(0, .ref (q 0))] := hl
  have in5 : ∀ w ∈ wsX50, w ∈ wsX5_isMarked := by decide +kernel
  have kc0 : (0 : Int32).toInt = 0 := by decide
  have kc1 : (1 : Int32).toInt = 1 := by decide
  refine lv_aload_n hx hb dX5_isMarked_0 rfl (lv_at hl 0 rfl) ?_
  refine va_get (D := G.1) (ci := 5) (v := .ref (q 9)) (C := RX5) (T := TX5) (N := 23) hx hb hts in5 hown hK hP 0 rfl rfl 12 (by decide) (hts (.fieldLink RX5 35 "TraceDebuggerModel" "comes" "[I") (by decide +kernel)) (fun _ h9 => h9) rfl dX5_isMarked_1 ?_
  refine lv_aload_n hx hb dX5_isMarked_4 rfl (lv_at hl 0 rfl) ?_
  refine va_get (D := G.1) (ci := 5) (v := .int fr) (C := RX5) (T := TX5) (N := 23) hx hb hts in5 hown hK hP 0 rfl rfl 13 (by decide) (hts (.fieldLink RX5 70 "TraceDebuggerModel" "frames" "I") (by decide +kernel)) (fun _ h9 => h9) rfl dX5_isMarked_5 ?_
  refine lv_iconst (v := 1) hx hb dX5_isMarked_8 (by decide) ?_
  refine lv_isub hx hb dX5_isMarked_9 ?_
  have a1 : ((fr - 1) : Int32).toInt = (fr : Int32).toInt - (1 : Int32).toInt := i_sub (by omega) (by omega)
  refine va_iald (D := G.1) hx hb hK hP 1 0 rfl rfl (vp_in_iff.mpr (by omega)) dX5_isMarked_10 ?_
  refine lv_istore_n (lv' := [(1, .int (gk (fr - 1).toNatClampNeg)), (0, .ref (q 0))]) hx hb dX5_isMarked_11 rfl hl (by decide) rfl (fun ls hl => ?_)
  refine lv_iload_n hx hb dX5_isMarked_12 rfl (lv_at hl 0 rfl) ?_
  refine lv_if_lt (tgt := 37) hx hb dX5_isMarked_13 (by decide) (fun c2 => ?_) (fun c2 => ?_)
  · have t2 := i_lt.mp c2
    refine lv_iconst (v := 0) hx hb dX5_isMarked_37 (by decide) ?_
    exact kRetZ (G := G) () hx hb hr hlocks hS dX5_isMarked_38 rfl hP hD (by (try dsimp only); exact (by first | exact Or.inl rfl | exact Or.inr rfl))
  · have t2 := i_nlt.mp c2
    refine lv_iload_n hx hb dX5_isMarked_16 rfl (lv_at hl 0 rfl) ?_
    refine lv_aload_n hx hb dX5_isMarked_17 rfl (lv_at hl 1 rfl) ?_
    refine va_get (D := G.1) (ci := 5) (v := .int ln) (C := RX5) (T := TX5) (N := 23) hx hb hts in5 hown hK hP 0 rfl rfl 7 (by decide) (hts (.fieldLink RX5 93 "TraceDebuggerModel" "lines" "I") (by decide +kernel)) (fun _ h9 => h9) rfl dX5_isMarked_18 ?_
    refine lv_icmp_ge (tgt := 37) hx hb dX5_isMarked_21 (by decide) (fun c3 => ?_) (fun c3 => ?_)
    · have t3 := i_le.mp c3
      refine lv_iconst (v := 0) hx hb dX5_isMarked_37 (by decide) ?_
      exact kRetZ (G := G) () hx hb hr hlocks hS dX5_isMarked_38 rfl hP hD (by (try dsimp only); exact (by first | exact Or.inl rfl | exact Or.inr rfl))
    · have t3 := i_nle.mp c3
      refine lv_aload_n hx hb dX5_isMarked_24 rfl (lv_at hl 1 rfl) ?_
      refine va_get (D := G.1) (ci := 5) (v := .ref (q 4)) (C := RX5) (T := TX5) (N := 23) hx hb hts in5 hown hK hP 0 rfl rfl 6 (by decide) (hts (.fieldLink RX5 19 "TraceDebuggerModel" "marks" "[Z") (by decide +kernel)) (fun _ h9 => h9) rfl dX5_isMarked_25 ?_
      refine lv_iload_n hx hb dX5_isMarked_28 rfl (lv_at hl 0 rfl) ?_
      refine va_zald (D := G.1) hx hb hK hP 2 1 rfl rfl (vp_in_iff.mpr (by omega)) dX5_isMarked_29 ?_
      refine lv_if_eq (tgt := 37) hx hb dX5_isMarked_30 (by decide) (fun c4 => ?_) (fun c4 => ?_)
      · have t4 := i_eq.mp c4
        refine lv_iconst (v := 0) hx hb dX5_isMarked_37 (by decide) ?_
        exact kRetZ (G := G) () hx hb hr hlocks hS dX5_isMarked_38 rfl hP hD (by (try dsimp only); exact (by first | exact Or.inl rfl | exact Or.inr rfl))
      · have t4 := i_ne.mp c4
        refine lv_iconst (v := 1) hx hb dX5_isMarked_33 (by decide) ?_
        refine lv_goto (tgt := 38) hx hb dX5_isMarked_34 (by decide) ?_
        exact kRetZ (G := G) () hx hb hr hlocks hS dX5_isMarked_38 rfl hP hD (by (try dsimp only); exact (by first | exact Or.inl rfl | exact Or.inr rfl))
