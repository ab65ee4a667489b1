set_option maxHeartbeats 4000000 in
set_option maxRecDepth 100000 in
theorem c_X2_append (l : Launch) (G : gG) (sz : Nat) (a : Nat) (o : Nat) (x : Nat) (y : Nat) (mk : Nat) (size : Int32) (f1 : Nat → Int32) (f2 : Nat → Int32) (f3 : Nat → Int32) (u1 : Int32) (v1 : Int32) (w1 : Int32) (hpg : ((0 ≤ size.toInt ∧ size.toInt ≤ 80) ∧ ∀ j : Nat, (j : Int) < size.toInt → ((0 ≤ (f1 j).toInt ∧ (f1 j).toInt ≤ 12) ∧ (((f1 j).toInt ≤ 6 ∨ (f1 j).toInt = 8 ∨ (f1 j).toInt = 10 ∨ (f1 j).toInt = 11) → (0 ≤ (f2 j).toInt ∧ (f2 j).toInt < 8)) ∧ ((1 ≤ (f1 j).toInt ∧ (f1 j).toInt ≤ 6) → (0 ≤ (f3 j).toInt ∧ (f3 j).toInt < 8)) ∧ ((f1 j).toInt = 9 → (0 ≤ (f3 j).toInt ∧ (f3 j).toInt ≤ 8))))) (hz : size.toInt < 80) (hok : ((0 ≤ u1.toInt ∧ u1.toInt ≤ 12) ∧ ((u1.toInt ≤ 6 ∨ u1.toInt = 8 ∨ u1.toInt = 10 ∨ u1.toInt = 11) → (0 ≤ v1.toInt ∧ v1.toInt < 8)) ∧ ((1 ≤ u1.toInt ∧ u1.toInt ≤ 6) → (0 ≤ w1.toInt ∧ w1.toInt < 8)) ∧ (u1.toInt = 9 → (0 ≤ w1.toInt ∧ w1.toInt ≤ 8)))) : Met l yX2_append wsX2_append { frames := 0, cells := 0, slots := 0, locals := 0 } (kPc G [.ref a, .int u1, .int v1, .int w1] [kO a 2 [.ref o, .ref x, .ref y, .ref mk, .int size], kI o (G.2 0) 80 f1, kI x (G.2 0) 80 f2, kI y (G.2 0) 80 f3] sz (fun _ => True)) (kQv G (S := Int32 × (Nat → Int32) × (Nat → Int32) × (Nat → Int32)) (fun u => ((0 ≤ u.1.toInt ∧ u.1.toInt ≤ 80) ∧ ∀ j : Nat, (j : Int) < u.1.toInt → ((0 ≤ (u.2.1 j).toInt ∧ (u.2.1 j).toInt ≤ 12) ∧ (((u.2.1 j).toInt ≤ 6 ∨ (u.2.1 j).toInt = 8 ∨ (u.2.1 j).toInt = 10 ∨ (u.2.1 j).toInt = 11) → (0 ≤ (u.2.2.1 j).toInt ∧ (u.2.2.1 j).toInt < 8)) ∧ ((1 ≤ (u.2.1 j).toInt ∧ (u.2.1 j).toInt ≤ 6) → (0 ≤ (u.2.2.2 j).toInt ∧ (u.2.2.2 j).toInt < 8)) ∧ ((u.2.1 j).toInt = 9 → (0 ≤ (u.2.2.2 j).toInt ∧ (u.2.2.2 j).toInt ≤ 8))))) (fun u => [kO a 2 [.ref o, .ref x, .ref y, .ref mk, .int u.1], kI o (G.2 0) 80 u.2.1, kI x (G.2 0) 80 u.2.2.1, kI y (G.2 0) 80 u.2.2.2]) (va_A [kO a 2 [.ref o, .ref x, .ref y, .ref mk, .int size], kI o (G.2 0) 80 f1, kI x (G.2 0) 80 f2, kI y (G.2 0) 80 f3] sz)) 0 0 (va_A [kO a 2 [.ref o, .ref x, .ref y, .ref mk, .int size], kI o (G.2 0) 80 f1, kI x (G.2 0) 80 f2, kI y (G.2 0) 80 f3] sz) := by
  refine kBeg (Qc := fun A => kQv G (S := Int32 × (Nat → Int32) × (Nat → Int32) × (Nat → Int32)) (fun u => ((0 ≤ u.1.toInt ∧ u.1.toInt ≤ 80) ∧ ∀ j : Nat, (j : Int) < u.1.toInt → ((0 ≤ (u.2.1 j).toInt ∧ (u.2.1 j).toInt ≤ 12) ∧ (((u.2.1 j).toInt ≤ 6 ∨ (u.2.1 j).toInt = 8 ∨ (u.2.1 j).toInt = 10 ∨ (u.2.1 j).toInt = 11) → (0 ≤ (u.2.2.1 j).toInt ∧ (u.2.2.1 j).toInt < 8)) ∧ ((1 ≤ (u.2.1 j).toInt ∧ (u.2.1 j).toInt ≤ 6) → (0 ≤ (u.2.2.2 j).toInt ∧ (u.2.2.2 j).toInt < 8)) ∧ ((u.2.1 j).toInt = 9 → (0 ≤ (u.2.2.2 j).toInt ∧ (u.2.2.2 j).toInt ≤ 8))))) (fun u => [kO a 2 [.ref o, .ref x, .ref y, .ref mk, .int u.1], kI o (G.2 0) 80 u.2.1, kI x (G.2 0) 80 u.2.2.1, kI y (G.2 0) 80 u.2.2.2]) A) (by decide) rfl (Nat.le_of_ble_eq_true rfl) ?_
  intro A p e s m below meth c ls H locs hx hb hr hts hown hlocks hnm hml hsz hP hK hD hZ hA hS hl
  have hown : s.vm.findClass RX2 = some m.cls := hown
  have hl : lv_has ls 4 [(0, .ref a), (1, .int u1), (2, .int v1), (3, .int w1)] := hl
  have in2 : ∀ w ∈ wsX20, w ∈ wsX2_append := by decide +kernel
  have kc1 : (1 : Int32).toInt = 1 := by decide
  have hz0 := hpg.1.1
  refine lv_aload_n hx hb dX2_append_0 rfl (lv_at hl 0 rfl) ?_
  refine va_get (D := G.1) (ci := 2) (v := .ref o) (C := RX2) (T := TX2) (N := 5) hx hb hts in2 hown hK hP 0 rfl rfl 0 (by decide) (hts (.fieldLink RX2 9 "TraceDebugger$Program" "operations" "[I") (by decide +kernel)) (fun _ h9 => h9) rfl dX2_append_1 ?_
  refine lv_aload_n hx hb dX2_append_4 rfl (lv_at hl 0 rfl) ?_
  refine va_get (D := G.1) (ci := 2) (v := .int size) (C := RX2) (T := TX2) (N := 5) hx hb hts in2 hown hK hP 0 rfl rfl 4 (by decide) (hts (.fieldLink RX2 32 "TraceDebugger$Program" "size" "I") (by decide +kernel)) (fun _ h9 => h9) rfl dX2_append_5 ?_
  refine lv_iload_n hx hb dX2_append_8 rfl (lv_at hl 1 rfl) ?_
  refine va_iast (D := G.1) hx hb hK hP hD hS 1 0 rfl rfl (vp_in_iff.mpr (by omega)) dX2_append_9 (fun H locs hP hD hS => ?_)
  have hP : va_P G.1 vwCl [kO a 2 [.ref o, .ref x, .ref y, .ref mk, .int size], kI o (G.2 0) 80 (upd f1 size.toNatClampNeg u1), kI x (G.2 0) 80 f2, kI y (G.2 0) 80 f3] H := hP
  have hD : va_D A [kO a 2 [.ref o, .ref x, .ref y, .ref mk, .int size], kI o (G.2 0) 80 (upd f1 size.toNatClampNeg u1), kI x (G.2 0) 80 f2, kI y (G.2 0) 80 f3] := hD
  refine lv_aload_n hx hb dX2_append_10 rfl (lv_at hl 0 rfl) ?_
  refine va_get (D := G.1) (ci := 2) (v := .ref x) (C := RX2) (T := TX2) (N := 5) hx hb hts in2 hown hK hP 0 rfl rfl 1 (by decide) (hts (.fieldLink RX2 15 "TraceDebugger$Program" "as" "[I") (by decide +kernel)) (fun _ h9 => h9) rfl dX2_append_11 ?_
  refine lv_aload_n hx hb dX2_append_14 rfl (lv_at hl 0 rfl) ?_
  refine va_get (D := G.1) (ci := 2) (v := .int size) (C := RX2) (T := TX2) (N := 5) hx hb hts in2 hown hK hP 0 rfl rfl 4 (by decide) (hts (.fieldLink RX2 32 "TraceDebugger$Program" "size" "I") (by decide +kernel)) (fun _ h9 => h9) rfl dX2_append_15 ?_
  refine lv_iload_n hx hb dX2_append_18 rfl (lv_at hl 2 rfl) ?_
  refine va_iast (D := G.1) hx hb hK hP hD hS 2 0 rfl rfl (vp_in_iff.mpr (by omega)) dX2_append_19 (fun H locs hP hD hS => ?_)
  have hP : va_P G.1 vwCl [kO a 2 [.ref o, .ref x, .ref y, .ref mk, .int size], kI o (G.2 0) 80 (upd f1 size.toNatClampNeg u1), kI x (G.2 0) 80 (upd f2 size.toNatClampNeg v1), kI y (G.2 0) 80 f3] H := hP
  have hD : va_D A [kO a 2 [.ref o, .ref x, .ref y, .ref mk, .int size], kI o (G.2 0) 80 (upd f1 size.toNatClampNeg u1), kI x (G.2 0) 80 (upd f2 size.toNatClampNeg v1), kI y (G.2 0) 80 f3] := hD
  refine lv_aload_n hx hb dX2_append_20 rfl (lv_at hl 0 rfl) ?_
  refine va_get (D := G.1) (ci := 2) (v := .ref y) (C := RX2) (T := TX2) (N := 5) hx hb hts in2 hown hK hP 0 rfl rfl 2 (by decide) (hts (.fieldLink RX2 18 "TraceDebugger$Program" "bs" "[I") (by decide +kernel)) (fun _ h9 => h9) rfl dX2_append_21 ?_
  refine lv_aload_n hx hb dX2_append_24 rfl (lv_at hl 0 rfl) ?_
  refine va_get (D := G.1) (ci := 2) (v := .int size) (C := RX2) (T := TX2) (N := 5) hx hb hts in2 hown hK hP 0 rfl rfl 4 (by decide) (hts (.fieldLink RX2 32 "TraceDebugger$Program" "size" "I") (by decide +kernel)) (fun _ h9 => h9) rfl dX2_append_25 ?_
  refine lv_iload_n hx hb dX2_append_28 rfl (lv_at hl 3 rfl) ?_
  refine va_iast (D := G.1) hx hb hK hP hD hS 3 0 rfl rfl (vp_in_iff.mpr (by omega)) dX2_append_29 (fun H locs hP hD hS => ?_)
  have hP : va_P G.1 vwCl [kO a 2 [.ref o, .ref x, .ref y, .ref mk, .int size], kI o (G.2 0) 80 (upd f1 size.toNatClampNeg u1), kI x (G.2 0) 80 (upd f2 size.toNatClampNeg v1), kI y (G.2 0) 80 (upd f3 size.toNatClampNeg w1)] H := hP
  have hD : va_D A [kO a 2 [.ref o, .ref x, .ref y, .ref mk, .int size], kI o (G.2 0) 80 (upd f1 size.toNatClampNeg u1), kI x (G.2 0) 80 (upd f2 size.toNatClampNeg v1), kI y (G.2 0) 80 (upd f3 size.toNatClampNeg w1)] := hD
  refine lv_aload_n hx hb dX2_append_30 rfl (lv_at hl 0 rfl) ?_
  refine lv_dup hx hb dX2_append_31 rfl ?_
  refine va_get (D := G.1) (ci := 2) (v := .int size) (C := RX2) (T := TX2) (N := 5) hx hb hts in2 hown hK hP 0 rfl rfl 4 (by decide) (hts (.fieldLink RX2 32 "TraceDebugger$Program" "size" "I") (by decide +kernel)) (fun _ h9 => h9) rfl dX2_append_32 ?_
  refine lv_iconst (v := 1) hx hb dX2_append_35 (by decide) ?_
  refine lv_iadd hx hb dX2_append_36 ?_
  have a1 : ((size + 1) : Int32).toInt = (size : Int32).toInt + (1 : Int32).toInt := i_add (by omega) (by omega)
  refine va_put (D := G.1) (ci := 2) (v := .int (size + 1)) (ty := .int) (C := RX2) (T := TX2) (N := 5) hx hb hts in2 tyX2 tyX2_ok nmX2 hown hK hP hD hS 0 rfl rfl 4 (by decide) (hts (.fieldLink RX2 32 "TraceDebugger$Program" "size" "I") (by decide +kernel)) (fun _ h9 => h9) rfl (by decide +kernel) rfl rfl (Nat.le_of_ble_eq_true rfl) dX2_append_37 (fun H locs hP hD hS => ?_)
  have hP : va_P G.1 vwCl [kO a 2 [.ref o, .ref x, .ref y, .ref mk, .int (size + 1)], kI o (G.2 0) 80 (upd f1 size.toNatClampNeg u1), kI x (G.2 0) 80 (upd f2 size.toNatClampNeg v1), kI y (G.2 0) 80 (upd f3 size.toNatClampNeg w1)] H := hP
  have hD : va_D A [kO a 2 [.ref o, .ref x, .ref y, .ref mk, .int (size + 1)], kI o (G.2 0) 80 (upd f1 size.toNatClampNeg u1), kI x (G.2 0) 80 (upd f2 size.toNatClampNeg v1), kI y (G.2 0) 80 (upd f3 size.toNatClampNeg w1)] := hD
  exact kRetV (G := G) ((size + 1), (upd f1 size.toNatClampNeg u1), (upd f2 size.toNatClampNeg v1), (upd f3 size.toNatClampNeg w1)) hx hb hr hlocks hS dX2_append_40 hP hD (by (try dsimp only); exact ⟨⟨by omega, by omega⟩, kAppOk (P := fun o9 x9 y9 => ((0 ≤ o9.toInt ∧ o9.toInt ≤ 12) ∧ ((o9.toInt ≤ 6 ∨ o9.toInt = 8 ∨ o9.toInt = 10 ∨ o9.toInt = 11) → (0 ≤ x9.toInt ∧ x9.toInt < 8)) ∧ ((1 ≤ o9.toInt ∧ o9.toInt ≤ 6) → (0 ≤ y9.toInt ∧ y9.toInt < 8)) ∧ (o9.toInt = 9 → (0 ≤ y9.toInt ∧ y9.toInt ≤ 8)))) hpg.2 hpg.1.1 hz hok⟩)

set_option maxHeartbeats 4000000 in
set_option maxRecDepth 100000 in
theorem c_X2_empty (l : Launch) (G : gG) (sz : Nat) (a : Nat) (o : Nat) (x : Nat) (y : Nat) (mk : Nat) (size : Int32) (fm : Nat → Int32) (hz0 : 0 ≤ size.toInt) (hz1 : size.toInt ≤ 80) : Met l yX2_empty wsX2_empty { frames := 0, cells := 0, slots := 0, locals := 0 } (kPc G [.ref a] [kO a 2 [.ref o, .ref x, .ref y, .ref mk, .int size], kI mk (G.2 1) 80 fm] sz (fun _ => True)) (kQv G (S := (Nat → Int32)) (fun _ => True) (fun u => [kO a 2 [.ref o, .ref x, .ref y, .ref mk, .int 0], kI mk (G.2 1) 80 u]) (va_A [kO a 2 [.ref o, .ref x, .ref y, .ref mk, .int size], kI mk (G.2 1) 80 fm] sz)) 0 0 (va_A [kO a 2 [.ref o, .ref x, .ref y, .ref mk, .int size], kI mk (G.2 1) 80 fm] sz) := by
  refine kBeg (Qc := fun A => kQv G (S := (Nat → Int32)) (fun _ => True) (fun u => [kO a 2 [.ref o, .ref x, .ref y, .ref mk, .int 0], kI mk (G.2 1) 80 u]) A) (by decide) rfl (Nat.le_of_ble_eq_true rfl) ?_
  intro A p e s m below meth c ls H locs hx hb hr hts hown hlocks hnm hml hsz hP hK hD hZ hA hS hl
  have hown : s.vm.findClass RX2 = some m.cls := hown
  have hl : lv_has ls 2 [(0, .ref a)] := hl
  have in2 : ∀ w ∈ wsX20, w ∈ wsX2_empty := by decide +kernel
  have kc0 : (0 : Int32).toInt = 0 := by decide
  have kc1 : (1 : Int32).toInt = 1 := by decide
  refine lv_iconst (v := 0) hx hb dX2_empty_0 (by decide) ?_
  refine lv_istore_n (lv' := [(1, .int 0), (0, .ref a)]) hx hb dX2_empty_1 rfl hl (by decide) rfl (fun ls hl => ?_)
  have loop2 : ∀ (n : Nat) (k : Int32) (d1 : Nat → Int32) (H : Heap) (locs : List Loc) (ls : Array Slot), (0 ≤ k.toInt) → (k.toInt ≤ size.toInt) → (size.toInt - k.toInt).toNat < n → va_P G.1 vwCl [kO a 2 [.ref o, .ref x, .ref y, .ref mk, .int size], kI mk (G.2 1) 80 d1] H → va_D A [kO a 2 [.ref o, .ref x, .ref y, .ref mk, .int size], kI mk (G.2 1) 80 d1] → va_S A s.heap H locs → lv_has ls 2 [(1, .int k), (0, .ref a)] → W p l e { frames := 0, cells := 0, slots := 0, locals := 0 } s m ([.ref a] : List Value).toArray below meth c H locs 0 0 (MQ below (kQv G (S := (Nat → Int32)) (fun _ => True) (fun u => [kO a 2 [.ref o, .ref x, .ref y, .ref mk, .int 0], kI mk (G.2 1) 80 u]) A) ([.ref a] : List Value).toArray s 0 0 A) (F0 m 2 ls []) := by
    intro n
    induction n with
    | zero =>
      intro k d1 H locs ls hk0 hk1 hm
      exact absurd hm (Nat.not_lt_zero _)
    | succ n ih2 =>
      intro k d1 H locs ls hk0 hk1 hm hP hD hS hl
      refine lv_iload_n hx hb dX2_empty_2 rfl (lv_at hl 0 rfl) ?_
      refine lv_aload_n hx hb dX2_empty_3 rfl (lv_at hl 1 rfl) ?_
      refine va_get (D := G.1) (ci := 2) (v := .int size) (C := RX2) (T := TX2) (N := 5) hx hb hts in2 hown hK hP 0 rfl rfl 4 (by decide) (hts (.fieldLink RX2 32 "TraceDebugger$Program" "size" "I") (by decide +kernel)) (fun _ h9 => h9) rfl dX2_empty_4 ?_
      refine lv_icmp_ge (tgt := 23) hx hb dX2_empty_7 (by decide) (fun c1 => ?_) (fun c1 => ?_)
      · have t1 := i_le.mp c1
        refine lv_aload_n hx hb dX2_empty_23 rfl (lv_at hl 1 rfl) ?_
        refine lv_iconst (v := 0) hx hb dX2_empty_24 (by decide) ?_
        refine va_put (D := G.1) (ci := 2) (v := .int 0) (ty := .int) (C := RX2) (T := TX2) (N := 5) hx hb hts in2 tyX2 tyX2_ok nmX2 hown hK hP hD hS 0 rfl rfl 4 (by decide) (hts (.fieldLink RX2 32 "TraceDebugger$Program" "size" "I") (by decide +kernel)) (fun _ h9 => h9) rfl (by decide +kernel) rfl rfl (Nat.le_of_ble_eq_true rfl) dX2_empty_25 (fun H locs hP hD hS => ?_)
        have hP : va_P G.1 vwCl [kO a 2 [.ref o, .ref x, .ref y, .ref mk, .int 0], kI mk (G.2 1) 80 d1] H := hP
        have hD : va_D A [kO a 2 [.ref o, .ref x, .ref y, .ref mk, .int 0], kI mk (G.2 1) 80 d1] := hD
        exact kRetV (G := G) d1 hx hb hr hlocks hS dX2_empty_28 hP hD (by trivial)
      · have t1 := i_nle.mp c1
        refine lv_aload_n hx hb dX2_empty_10 rfl (lv_at hl 1 rfl) ?_
        refine va_get (D := G.1) (ci := 2) (v := .ref mk) (C := RX2) (T := TX2) (N := 5) hx hb hts in2 hown hK hP 0 rfl rfl 3 (by decide) (hts (.fieldLink RX2 21 "TraceDebugger$Program" "marked" "[Z") (by decide +kernel)) (fun _ h9 => h9) rfl dX2_empty_11 ?_
        refine lv_iload_n hx hb dX2_empty_14 rfl (lv_at hl 0 rfl) ?_
        refine lv_iconst (v := 0) hx hb dX2_empty_15 (by decide) ?_
        refine va_zast (D := G.1) hx hb hK hP hD hS 1 1 rfl rfl (vp_in_iff.mpr (by omega)) dX2_empty_16 (fun H locs hP hD hS => ?_)
        have hP : va_P G.1 vwCl [kO a 2 [.ref o, .ref x, .ref y, .ref mk, .int size], kI mk (G.2 1) 80 (upd d1 k.toNatClampNeg (vp_nar .boolean 0))] H := hP
        have hD : va_D A [kO a 2 [.ref o, .ref x, .ref y, .ref mk, .int size], kI mk (G.2 1) 80 (upd d1 k.toNatClampNeg (vp_nar .boolean 0))] := hD
        refine lv_iinc (v := (k + 1)) (lv' := [(1, .int (k + 1)), (0, .ref a)]) hx hb dX2_empty_17 hl (k := 0) rfl rfl (by decide) rfl (fun ls hl => ?_)
        refine lv_goto (tgt := 2) hx hb dX2_empty_20 (by decide) ?_
        have a9 : (k + 1).toInt = k.toInt + (1 : Int32).toInt := i_add (by omega) (by omega)
        exact ih2 (k + 1) (upd d1 k.toNatClampNeg (vp_nar .boolean 0)) H locs ls (by omega) (by omega) (by omega) hP hD hS (lv_sub hl [0, 1] rfl)
  exact loop2 _ 0 fm H locs ls (by decide) hz0 (Nat.lt_succ_self _) hP hD hS (lv_sub hl [0, 1] rfl)

set_option maxHeartbeats 4000000 in
set_option maxRecDepth 100000 in
theorem c_X2_isMarked (l : Launch) (G : gG) (sz : Nat) (a : Nat) (o : Nat) (x : Nat) (y : Nat) (mk : Nat) (size : Int32) (fm : Nat → Int32) (f : Int32) (hz0 : 0 ≤ size.toInt) (hz1 : size.toInt ≤ 80) : Met l yX2_isMarked wsX2_isMarked { frames := 1, cells := 0, slots := 0, locals := 21 } (kPc G [.ref a, .int f] [kO a 2 [.ref o, .ref x, .ref y, .ref mk, .int size], kI mk (G.2 1) 80 fm] sz (fun _ => True)) (kQi G (S := Unit) (fun r _ => r = 0 ∨ r = 1) (fun _ => [kO a 2 [.ref o, .ref x, .ref y, .ref mk, .int size], kI mk (G.2 1) 80 fm]) (va_A [kO a 2 [.ref o, .ref x, .ref y, .ref mk, .int size], kI mk (G.2 1) 80 fm] sz)) 0 0 (va_A [kO a 2 [.ref o, .ref x, .ref y, .ref mk, .int size], kI mk (G.2 1) 80 fm] sz) := by
  refine kBeg (Qc := fun A => kQi G (S := Unit) (fun r _ => r = 0 ∨ r = 1) (fun _ => [kO a 2 [.ref o, .ref x, .ref y, .ref mk, .int size], kI mk (G.2 1) 80 fm]) A) (by decide) rfl (Nat.le_of_ble_eq_true rfl) ?_
  intro A p e s m below meth c ls H locs hx hb hr hts hown hlocks hnm hml hsz hP hK hD hZ hA hS hl
  have hown : s.vm.findClass RX2 = some m.cls := hown
  have hl : lv_has ls 2 [(0, .ref a), (1, .int f)] := hl
  have in2 : ∀ w ∈ wsX20, w ∈ wsX2_isMarked := by decide +kernel
  have kc0 : (0 : Int32).toInt = 0 := by decide
  have kc1 : (1 : Int32).toInt = 1 := by decide
  refine lv_aload_n hx hb dX2_isMarked_0 rfl (lv_at hl 0 rfl) ?_
  refine lv_iload_n hx hb dX2_isMarked_1 rfl (lv_at hl 1 rfl) ?_
  refine kCi (G := G) (ws := [kO a 2 [.ref o, .ref x, .ref y, .ref mk, .int size], kI mk (G.2 1) 80 fm]) (wr := [kI mk (G.2 1) 80 fm]) (va_runV (As := [.int f]) (rest := []) ⟨hx, hb, hml, hown, hts⟩ (c_X2_has l G H.size a o x y mk size f ) (cwV 1 hts gX2_isMarked_X2_has rfl rfl rfl (by decide +kernel) ⟨Nat.le_of_ble_eq_true rfl, Nat.le_of_ble_eq_true rfl⟩) (kPreV (va_recv hK hP (ci := 2) (q0 := 0) rfl rfl) kZ0 kZt hK hP hD [0] rfl (by decide +kernel)) rfl rfl hl.1 rfl (lv_room (Nat.le_of_ble_eq_true rfl)) dX2_isMarked_2 ⟨Nat.le_of_ble_eq_true rfl, Nat.le_of_ble_eq_true rfl⟩) hP hD hS hA [0] [1] rfl rfl (by decide +kernel) (by decide +kernel) (fun r2 u1 H locs hw3 hP hD hS => ?_)
  try dsimp only at hw3
  have hP : va_P G.1 vwCl [kI mk (G.2 1) 80 fm, kO a 2 [.ref o, .ref x, .ref y, .ref mk, .int size]] H := hP
  have hD : va_D A [kI mk (G.2 1) 80 fm, kO a 2 [.ref o, .ref x, .ref y, .ref mk, .int size]] := hD
  rcases hw3 with ⟨rfl, hq4⟩ | ⟨rfl, hq4⟩
  · have _u := hsz
    refine lv_if_eq (tgt := 21) hx hb dX2_isMarked_5 (by decide) (fun c9 => absurd c9 (by decide)) (fun _ => ?_)
    refine lv_aload_n hx hb dX2_isMarked_8 rfl (lv_at hl 0 rfl) ?_
    refine va_get (D := G.1) (ci := 2) (v := .ref mk) (C := RX2) (T := TX2) (N := 5) hx hb hts in2 hown hK hP 1 rfl rfl 3 (by decide) (hts (.fieldLink RX2 21 "TraceDebugger$Program" "marked" "[Z") (by decide +kernel)) (fun _ h9 => h9) rfl dX2_isMarked_9 ?_
    refine lv_iload_n hx hb dX2_isMarked_12 rfl (lv_at hl 1 rfl) ?_
    refine va_zald (D := G.1) hx hb hK hP 0 1 rfl rfl (vp_in_iff.mpr (by omega)) dX2_isMarked_13 ?_
    refine lv_if_eq (tgt := 21) hx hb dX2_isMarked_14 (by decide) (fun c5 => ?_) (fun c5 => ?_)
    · have t5 := i_eq.mp c5
      refine lv_iconst (v := 0) hx hb dX2_isMarked_21 (by decide) ?_
      exact kRetZ (G := G) () hx hb hr hlocks hS dX2_isMarked_22 rfl (kSubP (wc := [kO a 2 [.ref o, .ref x, .ref y, .ref mk, .int size], kI mk (G.2 1) 80 fm]) hP [1, 0] rfl) (hD.sub (ws' := [kO a 2 [.ref o, .ref x, .ref y, .ref mk, .int size], kI mk (G.2 1) 80 fm]) [1, 0] (by decide +kernel) rfl) (by (try dsimp only); exact (by first | exact Or.inl rfl | exact Or.inr rfl))
    · have t5 := i_ne.mp c5
      refine lv_iconst (v := 1) hx hb dX2_isMarked_17 (by decide) ?_
      refine lv_goto (tgt := 22) hx hb dX2_isMarked_18 (by decide) ?_
      exact kRetZ (G := G) () hx hb hr hlocks hS dX2_isMarked_22 rfl (kSubP (wc := [kO a 2 [.ref o, .ref x, .ref y, .ref mk, .int size], kI mk (G.2 1) 80 fm]) hP [1, 0] rfl) (hD.sub (ws' := [kO a 2 [.ref o, .ref x, .ref y, .ref mk, .int size], kI mk (G.2 1) 80 fm]) [1, 0] (by decide +kernel) rfl) (by (try dsimp only); exact (by first | exact Or.inl rfl | exact Or.inr rfl))
  · have _u := hsz
    refine lv_if_eq (tgt := 21) hx hb dX2_isMarked_5 (by decide) (fun _ => ?_) (fun c9 => absurd c9 (by decide))
    refine lv_iconst (v := 0) hx hb dX2_isMarked_21 (by decide) ?_
    exact kRetZ (G := G) () hx hb hr hlocks hS dX2_isMarked_22 rfl (kSubP (wc := [kO a 2 [.ref o, .ref x, .ref y, .ref mk, .int size], kI mk (G.2 1) 80 fm]) hP [1, 0] rfl) (hD.sub (ws' := [kO a 2 [.ref o, .ref x, .ref y, .ref mk, .int size], kI mk (G.2 1) 80 fm]) [1, 0] (by decide +kernel) rfl) (by (try dsimp only); exact (by first | exact Or.inl rfl | exact Or.inr rfl))
