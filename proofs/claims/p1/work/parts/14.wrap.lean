set_option maxHeartbeats 4000000 in
set_option maxRecDepth 100000 in
theorem c_L_line (l : Launch) (hst : l.stackTraces = false) (G : gG) (sz : Nat) (h : Nat → Nat) (g : Nat → Option Nat) (sp : Int32) (o : Int32) (x : Int32) (y : Int32) (o9 : Nat) (hg : g 0 = some (h 14)) : Met l yL_line wsL_line { frames := 7, cells := 1, slots := 6, locals := 129 } (kPc G [.ref (h 0), .int o, .int x, .int y, .ref o9] [kO (h 0) 4 [.ref (h 1), .ref (h 6), .ref (h 8), .ref (h 12), .ref (h 18), .int 0], kO (h 1) 2 [.ref (h 2), .ref (h 3), .ref (h 4), .ref (h 5), .int 0], kI (h 2) (G.2 0) 80 (fun _ => 0), kI (h 3) (G.2 0) 80 (fun _ => 0), kI (h 4) (G.2 0) 80 (fun _ => 0), kO (h 8) 3 [.ref (h 9), .ref (h 10), .ref (h 11), .int 1, .int 0, .int 0, .int 0], kI (h 9) (G.2 0) 64 (fun _ => 0), kI (h 10) (G.2 0) 128 (fun _ => 0), kI (h 11) (G.2 0) 16 (fun _ => 0), kO (h 12) 0 [.ref (h 13), .int sp, .int sp, .int 1, .int 0], kR (h 13) (G.2 2) 8 g, kO (h 14) 3 [.ref (h 15), .ref (h 16), .ref (h 17), .int 1, .int 0, .int 0, .int 0], kI (h 15) (G.2 0) 64 (fun _ => 0), kI (h 16) (G.2 0) 128 (fun _ => 0), kI (h 17) (G.2 0) 16 (fun _ => 0), kJ o9 (G.2 3) 1 (fun _ => 0)] sz (kZx kZT (va_A [kO (h 0) 4 [.ref (h 1), .ref (h 6), .ref (h 8), .ref (h 12), .ref (h 18), .int 0], kO (h 1) 2 [.ref (h 2), .ref (h 3), .ref (h 4), .ref (h 5), .int 0], kI (h 2) (G.2 0) 80 (fun _ => 0), kI (h 3) (G.2 0) 80 (fun _ => 0), kI (h 4) (G.2 0) 80 (fun _ => 0), kO (h 8) 3 [.ref (h 9), .ref (h 10), .ref (h 11), .int 1, .int 0, .int 0, .int 0], kI (h 9) (G.2 0) 64 (fun _ => 0), kI (h 10) (G.2 0) 128 (fun _ => 0), kI (h 11) (G.2 0) 16 (fun _ => 0), kO (h 12) 0 [.ref (h 13), .int sp, .int sp, .int 1, .int 0], kR (h 13) (G.2 2) 8 g, kO (h 14) 3 [.ref (h 15), .ref (h 16), .ref (h 17), .int 1, .int 0, .int 0, .int 0], kI (h 15) (G.2 0) 64 (fun _ => 0), kI (h 16) (G.2 0) 128 (fun _ => 0), kI (h 17) (G.2 0) 16 (fun _ => 0), kJ o9 (G.2 3) 1 (fun _ => 0)] sz))) (kQi G (S := (Nat → Int64)) (fun r u => (r = 0 ∧ u 0 = 0 ∧ ((0 ≤ o.toInt ∧ o.toInt ≤ 12) ∧ ((o.toInt ≤ 6 ∨ o.toInt = 8 ∨ o.toInt = 10 ∨ o.toInt = 11) → (0 ≤ x.toInt ∧ x.toInt < 8)) ∧ ((1 ≤ o.toInt ∧ o.toInt ≤ 6) → (0 ≤ y.toInt ∧ y.toInt < 8)) ∧ (o.toInt = 9 → (0 ≤ y.toInt ∧ y.toInt ≤ 8)))) ∨ (r = 1 ∧ ¬ ((0 ≤ o.toInt ∧ o.toInt ≤ 12) ∧ ((o.toInt ≤ 6 ∨ o.toInt = 8 ∨ o.toInt = 10 ∨ o.toInt = 11) → (0 ≤ x.toInt ∧ x.toInt < 8)) ∧ ((1 ≤ o.toInt ∧ o.toInt ≤ 6) → (0 ≤ y.toInt ∧ y.toInt < 8)) ∧ (o.toInt = 9 → (0 ≤ y.toInt ∧ y.toInt ≤ 8))))) (fun u => [kJ o9 (G.2 3) 1 u]) (va_A [kO (h 0) 4 [.ref (h 1), .ref (h 6), .ref (h 8), .ref (h 12), .ref (h 18), .int 0], kO (h 1) 2 [.ref (h 2), .ref (h 3), .ref (h 4), .ref (h 5), .int 0], kI (h 2) (G.2 0) 80 (fun _ => 0), kI (h 3) (G.2 0) 80 (fun _ => 0), kI (h 4) (G.2 0) 80 (fun _ => 0), kO (h 8) 3 [.ref (h 9), .ref (h 10), .ref (h 11), .int 1, .int 0, .int 0, .int 0], kI (h 9) (G.2 0) 64 (fun _ => 0), kI (h 10) (G.2 0) 128 (fun _ => 0), kI (h 11) (G.2 0) 16 (fun _ => 0), kO (h 12) 0 [.ref (h 13), .int sp, .int sp, .int 1, .int 0], kR (h 13) (G.2 2) 8 g, kO (h 14) 3 [.ref (h 15), .ref (h 16), .ref (h 17), .int 1, .int 0, .int 0, .int 0], kI (h 15) (G.2 0) 64 (fun _ => 0), kI (h 16) (G.2 0) 128 (fun _ => 0), kI (h 17) (G.2 0) 16 (fun _ => 0), kJ o9 (G.2 3) 1 (fun _ => 0)] sz)) 1 6 (va_A [kO (h 0) 4 [.ref (h 1), .ref (h 6), .ref (h 8), .ref (h 12), .ref (h 18), .int 0], kO (h 1) 2 [.ref (h 2), .ref (h 3), .ref (h 4), .ref (h 5), .int 0], kI (h 2) (G.2 0) 80 (fun _ => 0), kI (h 3) (G.2 0) 80 (fun _ => 0), kI (h 4) (G.2 0) 80 (fun _ => 0), kO (h 8) 3 [.ref (h 9), .ref (h 10), .ref (h 11), .int 1, .int 0, .int 0, .int 0], kI (h 9) (G.2 0) 64 (fun _ => 0), kI (h 10) (G.2 0) 128 (fun _ => 0), kI (h 11) (G.2 0) 16 (fun _ => 0), kO (h 12) 0 [.ref (h 13), .int sp, .int sp, .int 1, .int 0], kR (h 13) (G.2 2) 8 g, kO (h 14) 3 [.ref (h 15), .ref (h 16), .ref (h 17), .int 1, .int 0, .int 0, .int 0], kI (h 15) (G.2 0) 64 (fun _ => 0), kI (h 16) (G.2 0) 128 (fun _ => 0), kI (h 17) (G.2 0) 16 (fun _ => 0), kJ o9 (G.2 3) 1 (fun _ => 0)] sz) := by
  refine kBegW (Qc := fun A => kQi G (S := (Nat → Int64)) (fun r u => (r = 0 ∧ u 0 = 0 ∧ ((0 ≤ o.toInt ∧ o.toInt ≤ 12) ∧ ((o.toInt ≤ 6 ∨ o.toInt = 8 ∨ o.toInt = 10 ∨ o.toInt = 11) → (0 ≤ x.toInt ∧ x.toInt < 8)) ∧ ((1 ≤ o.toInt ∧ o.toInt ≤ 6) → (0 ≤ y.toInt ∧ y.toInt < 8)) ∧ (o.toInt = 9 → (0 ≤ y.toInt ∧ y.toInt ≤ 8)))) ∨ (r = 1 ∧ ¬ ((0 ≤ o.toInt ∧ o.toInt ≤ 12) ∧ ((o.toInt ≤ 6 ∨ o.toInt = 8 ∨ o.toInt = 10 ∨ o.toInt = 11) → (0 ≤ x.toInt ∧ x.toInt < 8)) ∧ ((1 ≤ o.toInt ∧ o.toInt ≤ 6) → (0 ≤ y.toInt ∧ y.toInt < 8)) ∧ (o.toInt = 9 → (0 ≤ y.toInt ∧ y.toInt ≤ 8))))) (fun u => [kJ o9 (G.2 3) 1 u]) A) (by decide) rfl (Nat.le_of_ble_eq_true rfl) ?_
  intro A p e s m below meth c ls H locs hx hb hr hts hown hlocks hml htb hsz hP hK hD hZ hA hS hl
  have hown : s.vm.findClass RL = some m.cls := hown
  have hl : lv_has ls 6 [(0, .ref (h 0)), (1, .int o), (2, .int x), (3, .int y), (4, .ref o9)] := hl
  have kc0 : (0 : Int32).toInt = 0 := by decide
  have kc1 : (1 : Int32).toInt = 1 := by decide
  refine lv_aload hx hb dL_line_0 (lv_at hl 4 rfl) ?_
  refine lv_iconst (v := 0) hx hb dL_line_2 (by decide) ?_
  refine lv_aload_n hx hb dL_line_3 rfl (lv_at hl 0 rfl) ?_
  refine lv_iload_n hx hb dL_line_4 rfl (lv_at hl 1 rfl) ?_
  refine lv_iload_n hx hb dL_line_5 rfl (lv_at hl 2 rfl) ?_
  refine lv_iload_n hx hb dL_line_6 rfl (lv_at hl 3 rfl) ?_
  refine kXi (G := G) (ws := [kO (h 0) 4 [.ref (h 1), .ref (h 6), .ref (h 8), .ref (h 12), .ref (h 18), .int 0], kO (h 1) 2 [.ref (h 2), .ref (h 3), .ref (h 4), .ref (h 5), .int 0], kI (h 2) (G.2 0) 80 (fun _ => 0), kI (h 3) (G.2 0) 80 (fun _ => 0), kI (h 4) (G.2 0) 80 (fun _ => 0), kO (h 8) 3 [.ref (h 9), .ref (h 10), .ref (h 11), .int 1, .int 0, .int 0, .int 0], kI (h 9) (G.2 0) 64 (fun _ => 0), kI (h 10) (G.2 0) 128 (fun _ => 0), kI (h 11) (G.2 0) 16 (fun _ => 0), kO (h 12) 0 [.ref (h 13), .int sp, .int sp, .int 1, .int 0], kR (h 13) (G.2 2) 8 g, kO (h 14) 3 [.ref (h 15), .ref (h 16), .ref (h 17), .int 1, .int 0, .int 0, .int 0], kI (h 15) (G.2 0) 64 (fun _ => 0), kI (h 16) (G.2 0) 128 (fun _ => 0), kI (h 17) (G.2 0) 16 (fun _ => 0), kJ o9 (G.2 3) 1 (fun _ => 0)]) (wr := [kJ o9 (G.2 3) 1 (fun _ => 0)]) (vx_runV (As := [.int o, .int x, .int y]) (rest := [.int 0, .ref o9]) ⟨hx, hb, hml, hown, hts⟩ (c_X4_line l hst G H.size h g sp o x y hg) (cwV 3 hts gL_line_X4_line rfl rfl rfl (by decide +kernel) ⟨Nat.le_of_ble_eq_true rfl, Nat.le_of_ble_eq_true rfl⟩) (kPreV (va_recv hK hP (ci := 4) (q0 := 0) rfl rfl) (kZxb kZTb) (kZxw hZ hS (va_free (wc := [kO (h 0) 4 [.ref (h 1), .ref (h 6), .ref (h 8), .ref (h 12), .ref (h 18), .int 0], kO (h 1) 2 [.ref (h 2), .ref (h 3), .ref (h 4), .ref (h 5), .int 0], kI (h 2) (G.2 0) 80 (fun _ => 0), kI (h 3) (G.2 0) 80 (fun _ => 0), kI (h 4) (G.2 0) 80 (fun _ => 0), kO (h 8) 3 [.ref (h 9), .ref (h 10), .ref (h 11), .int 1, .int 0, .int 0, .int 0], kI (h 9) (G.2 0) 64 (fun _ => 0), kI (h 10) (G.2 0) 128 (fun _ => 0), kI (h 11) (G.2 0) 16 (fun _ => 0), kO (h 12) 0 [.ref (h 13), .int sp, .int sp, .int 1, .int 0], kR (h 13) (G.2 2) 8 g, kO (h 14) 3 [.ref (h 15), .ref (h 16), .ref (h 17), .int 1, .int 0, .int 0, .int 0], kI (h 15) (G.2 0) 64 (fun _ => 0), kI (h 16) (G.2 0) 128 (fun _ => 0), kI (h 17) (G.2 0) 16 (fun _ => 0)]) hD hS hA [0, 1, 2, 3, 4, 5, 6, 7, 8, 9, 10, 11, 12, 13, 14] rfl)) hK hP hD [0, 1, 2, 3, 4, 5, 6, 7, 8, 9, 10, 11, 12, 13, 14] rfl (by decide)) rfl rfl hl.1 rfl (lv_room (Nat.le_of_ble_eq_true rfl)) dL_line_7 ⟨Nat.le_of_ble_eq_true rfl, Nat.le_of_ble_eq_true rfl⟩) hP hD hS hA [0, 1, 2, 3, 4, 5, 6, 7, 8, 9, 10, 11, 12, 13, 14] [15] rfl rfl (by decide) (by decide) (fun E9 ce9 q9 u9 t9 H locs hp3 hE9 hP hD hS hc1 hc2 hc3 => ?_) (fun r1 _ H locs hw2 hP hD hS => ?_)
  · subst hE9
    have hP : va_P G.1 vwCl [kJ o9 (G.2 3) 1 (fun _ => 0)] H := hP
    have hD : va_D A [kJ o9 (G.2 3) 1 (fun _ => 0)] := hD
    refine vx_catch (own := RL) (name := "java/lang/IllegalArgumentException") hown [] ⟨0, 12, 15, 13⟩ [⟨0, 12, 19, 15⟩, ⟨0, 12, 23, 17⟩] (by rw [htb]; rfl) (fun z h9 => nomatch h9) (by decide) (by decide) (hts (.classLink RL 13 "java/lang/IllegalArgumentException") (by decide +kernel)) (va_Nw.use rfl hZ.1.1) hc1 hc2 hc3 ?_
    refine W.eq (g2 := F0 m 15 ls [.ref q9]) rfl ?_
    refine W.widen (k := 1) (n := 6) (by omega) (by omega) ?_
    refine lv_astore (lv' := [(5, .ref q9), (0, .ref (h 0)), (1, .int o), (2, .int x), (3, .int y), (4, .ref o9)]) hx hb dL_line_15 hl (by decide) rfl (fun ls hl => ?_)
    refine lv_iconst (v := 1) hx hb dL_line_17 (by decide) ?_
    exact kRetI (G := G) (fun _ => 0) hx hb hr hlocks hS dL_line_18 (kSubP (wc := [kJ o9 (G.2 3) 1 (fun _ => 0)]) hP [0] rfl) (hD.sub (ws' := [kJ o9 (G.2 3) 1 (fun _ => 0)]) [0] (by decide) rfl) (Or.inr ⟨rfl, hp3⟩)
  · have _u := hsz
    have hP : va_P G.1 vwCl [kJ o9 (G.2 3) 1 (fun _ => 0)] H := hP
    have hD : va_D A [kJ o9 (G.2 3) 1 (fun _ => 0)] := hD
    refine W.widen (k := 1) (n := 6) (by omega) (by omega) ?_
    obtain ⟨rfl, hq4⟩ := hw2
    refine lv_i2l (v := 0) hx hb dL_line_10 (by decide) ?_
    refine va_last (D := G.1) hx hb hK hP hD hS 0 3 rfl rfl (show vp_in _ _ by unfold vp_in; decide) dL_line_11 (fun H locs hP hD hS => ?_)
    have hP : va_P G.1 vwCl [kJ o9 (G.2 3) 1 (vp_updL (fun _ => 0) (0 : Int32).toNatClampNeg 0)] H := hP
    have hD : va_D A [kJ o9 (G.2 3) 1 (vp_updL (fun _ => 0) (0 : Int32).toNatClampNeg 0)] := hD
    refine lv_goto (tgt := 27) hx hb dL_line_12 (by decide) ?_
    refine lv_iconst (v := 0) hx hb dL_line_27 (by decide) ?_
    exact kRetI (G := G) (vp_updL (fun _ => 0) (0 : Int32).toNatClampNeg 0) hx hb hr hlocks hS dL_line_28 (kSubP (wc := [kJ o9 (G.2 3) 1 (vp_updL (fun _ => 0) (0 : Int32).toNatClampNeg 0)]) hP [0] rfl) (hD.sub (ws' := [kJ o9 (G.2 3) 1 (vp_updL (fun _ => 0) (0 : Int32).toNatClampNeg 0)]) [0] (by decide) rfl) (Or.inl ⟨rfl, rfl, hq4⟩)

set_option maxHeartbeats 4000000 in
set_option maxRecDepth 100000 in
theorem c_L_poke (l : Launch) (hst : l.stackTraces = false) (G : gG) (sz : Nat) (h : Nat → Nat) (g : Nat → Option Nat) (sp : Int32) (x : Int32) (v : Int32) (o9 : Nat) (hg : g 0 = some (h 14)) : Met l yL_poke wsL_poke { frames := 7, cells := 1, slots := 6, locals := 129 } (kPc G [.ref (h 0), .int x, .int v, .ref o9] [kO (h 0) 4 [.ref (h 1), .ref (h 6), .ref (h 8), .ref (h 12), .ref (h 18), .int 0], kO (h 8) 3 [.ref (h 9), .ref (h 10), .ref (h 11), .int 1, .int 0, .int 0, .int 0], kI (h 9) (G.2 0) 64 (fun _ => 0), kI (h 10) (G.2 0) 128 (fun _ => 0), kI (h 11) (G.2 0) 16 (fun _ => 0), kO (h 12) 0 [.ref (h 13), .int sp, .int sp, .int 1, .int 0], kR (h 13) (G.2 2) 8 g, kO (h 14) 3 [.ref (h 15), .ref (h 16), .ref (h 17), .int 1, .int 0, .int 0, .int 0], kI (h 15) (G.2 0) 64 (fun _ => 0), kI (h 16) (G.2 0) 128 (fun _ => 0), kI (h 17) (G.2 0) 16 (fun _ => 0), kJ o9 (G.2 3) 1 (fun _ => 0)] sz (kZx kZT (va_A [kO (h 0) 4 [.ref (h 1), .ref (h 6), .ref (h 8), .ref (h 12), .ref (h 18), .int 0], kO (h 8) 3 [.ref (h 9), .ref (h 10), .ref (h 11), .int 1, .int 0, .int 0, .int 0], kI (h 9) (G.2 0) 64 (fun _ => 0), kI (h 10) (G.2 0) 128 (fun _ => 0), kI (h 11) (G.2 0) 16 (fun _ => 0), kO (h 12) 0 [.ref (h 13), .int sp, .int sp, .int 1, .int 0], kR (h 13) (G.2 2) 8 g, kO (h 14) 3 [.ref (h 15), .ref (h 16), .ref (h 17), .int 1, .int 0, .int 0, .int 0], kI (h 15) (G.2 0) 64 (fun _ => 0), kI (h 16) (G.2 0) 128 (fun _ => 0), kI (h 17) (G.2 0) 16 (fun _ => 0), kJ o9 (G.2 3) 1 (fun _ => 0)] sz))) (kQi G (S := (Nat → Int64)) (fun r u => (r = 0 ∧ u 0 = 0 ∧ (0 ≤ x.toInt ∧ x.toInt < 64)) ∨ (r = 1 ∧ ¬ (0 ≤ x.toInt ∧ x.toInt < 64))) (fun u => [kJ o9 (G.2 3) 1 u]) (va_A [kO (h 0) 4 [.ref (h 1), .ref (h 6), .ref (h 8), .ref (h 12), .ref (h 18), .int 0], kO (h 8) 3 [.ref (h 9), .ref (h 10), .ref (h 11), .int 1, .int 0, .int 0, .int 0], kI (h 9) (G.2 0) 64 (fun _ => 0), kI (h 10) (G.2 0) 128 (fun _ => 0), kI (h 11) (G.2 0) 16 (fun _ => 0), kO (h 12) 0 [.ref (h 13), .int sp, .int sp, .int 1, .int 0], kR (h 13) (G.2 2) 8 g, kO (h 14) 3 [.ref (h 15), .ref (h 16), .ref (h 17), .int 1, .int 0, .int 0, .int 0], kI (h 15) (G.2 0) 64 (fun _ => 0), kI (h 16) (G.2 0) 128 (fun _ => 0), kI (h 17) (G.2 0) 16 (fun _ => 0), kJ o9 (G.2 3) 1 (fun _ => 0)] sz)) 1 6 (va_A [kO (h 0) 4 [.ref (h 1), .ref (h 6), .ref (h 8), .ref (h 12), .ref (h 18), .int 0], kO (h 8) 3 [.ref (h 9), .ref (h 10), .ref (h 11), .int 1, .int 0, .int 0, .int 0], kI (h 9) (G.2 0) 64 (fun _ => 0), kI (h 10) (G.2 0) 128 (fun _ => 0), kI (h 11) (G.2 0) 16 (fun _ => 0), kO (h 12) 0 [.ref (h 13), .int sp, .int sp, .int 1, .int 0], kR (h 13) (G.2 2) 8 g, kO (h 14) 3 [.ref (h 15), .ref (h 16), .ref (h 17), .int 1, .int 0, .int 0, .int 0], kI (h 15) (G.2 0) 64 (fun _ => 0), kI (h 16) (G.2 0) 128 (fun _ => 0), kI (h 17) (G.2 0) 16 (fun _ => 0), kJ o9 (G.2 3) 1 (fun _ => 0)] sz) := by
  refine kBegW (Qc := fun A => kQi G (S := (Nat → Int64)) (fun r u => (r = 0 ∧ u 0 = 0 ∧ (0 ≤ x.toInt ∧ x.toInt < 64)) ∨ (r = 1 ∧ ¬ (0 ≤ x.toInt ∧ x.toInt < 64))) (fun u => [kJ o9 (G.2 3) 1 u]) A) (by decide) rfl (Nat.le_of_ble_eq_true rfl) ?_
  intro A p e s m below meth c ls H locs hx hb hr hts hown hlocks hml htb hsz hP hK hD hZ hA hS hl
  have hown : s.vm.findClass RL = some m.cls := hown
  have hl : lv_has ls 5 [(0, .ref (h 0)), (1, .int x), (2, .int v), (3, .ref o9)] := hl
  have kc0 : (0 : Int32).toInt = 0 := by decide
  have kc1 : (1 : Int32).toInt = 1 := by decide
  refine lv_aload_n hx hb dL_poke_0 rfl (lv_at hl 3 rfl) ?_
  refine lv_iconst (v := 0) hx hb dL_poke_1 (by decide) ?_
  refine lv_aload_n hx hb dL_poke_2 rfl (lv_at hl 0 rfl) ?_
  refine lv_iload_n hx hb dL_poke_3 rfl (lv_at hl 1 rfl) ?_
  refine lv_iload_n hx hb dL_poke_4 rfl (lv_at hl 2 rfl) ?_
  refine kXi (G := G) (ws := [kO (h 0) 4 [.ref (h 1), .ref (h 6), .ref (h 8), .ref (h 12), .ref (h 18), .int 0], kO (h 8) 3 [.ref (h 9), .ref (h 10), .ref (h 11), .int 1, .int 0, .int 0, .int 0], kI (h 9) (G.2 0) 64 (fun _ => 0), kI (h 10) (G.2 0) 128 (fun _ => 0), kI (h 11) (G.2 0) 16 (fun _ => 0), kO (h 12) 0 [.ref (h 13), .int sp, .int sp, .int 1, .int 0], kR (h 13) (G.2 2) 8 g, kO (h 14) 3 [.ref (h 15), .ref (h 16), .ref (h 17), .int 1, .int 0, .int 0, .int 0], kI (h 15) (G.2 0) 64 (fun _ => 0), kI (h 16) (G.2 0) 128 (fun _ => 0), kI (h 17) (G.2 0) 16 (fun _ => 0), kJ o9 (G.2 3) 1 (fun _ => 0)]) (wr := [kJ o9 (G.2 3) 1 (fun _ => 0)]) (vx_runV (As := [.int x, .int v]) (rest := [.int 0, .ref o9]) ⟨hx, hb, hml, hown, hts⟩ (c_X4_poke l hst G H.size h g sp x v hg) (cwV 2 hts gL_poke_X4_poke rfl rfl rfl (by decide +kernel) ⟨Nat.le_of_ble_eq_true rfl, Nat.le_of_ble_eq_true rfl⟩) (kPreV (va_recv hK hP (ci := 4) (q0 := 0) rfl rfl) (kZxb kZTb) (kZxw hZ hS (va_free (wc := [kO (h 0) 4 [.ref (h 1), .ref (h 6), .ref (h 8), .ref (h 12), .ref (h 18), .int 0], kO (h 8) 3 [.ref (h 9), .ref (h 10), .ref (h 11), .int 1, .int 0, .int 0, .int 0], kI (h 9) (G.2 0) 64 (fun _ => 0), kI (h 10) (G.2 0) 128 (fun _ => 0), kI (h 11) (G.2 0) 16 (fun _ => 0), kO (h 12) 0 [.ref (h 13), .int sp, .int sp, .int 1, .int 0], kR (h 13) (G.2 2) 8 g, kO (h 14) 3 [.ref (h 15), .ref (h 16), .ref (h 17), .int 1, .int 0, .int 0, .int 0], kI (h 15) (G.2 0) 64 (fun _ => 0), kI (h 16) (G.2 0) 128 (fun _ => 0), kI (h 17) (G.2 0) 16 (fun _ => 0)]) hD hS hA [0, 1, 2, 3, 4, 5, 6, 7, 8, 9, 10] rfl)) hK hP hD [0, 1, 2, 3, 4, 5, 6, 7, 8, 9, 10] rfl (by decide)) rfl rfl hl.1 rfl (lv_room (Nat.le_of_ble_eq_true rfl)) dL_poke_5 ⟨Nat.le_of_ble_eq_true rfl, Nat.le_of_ble_eq_true rfl⟩) hP hD hS hA [0, 1, 2, 3, 4, 5, 6, 7, 8, 9, 10] [11] rfl rfl (by decide) (by decide) (fun E9 ce9 q9 u9 t9 H locs hp3 hE9 hP hD hS hc1 hc2 hc3 => ?_) (fun r1 _ H locs hw2 hP hD hS => ?_)
  · subst hE9
    have hP : va_P G.1 vwCl [kJ o9 (G.2 3) 1 (fun _ => 0)] H := hP
    have hD : va_D A [kJ o9 (G.2 3) 1 (fun _ => 0)] := hD
    refine vx_catch (own := RL) (name := "java/lang/IndexOutOfBoundsException") hown [] ⟨0, 10, 13, 23⟩ [⟨0, 10, 17, 15⟩] (by rw [htb]; rfl) (fun z h9 => nomatch h9) (by decide) (by decide) (hts (.classLink RL 23 "java/lang/IndexOutOfBoundsException") (by decide +kernel)) (va_Nw.use rfl hZ.1.2.1) hc1 hc2 hc3 ?_
    refine W.eq (g2 := F0 m 13 ls [.ref q9]) rfl ?_
    refine W.widen (k := 1) (n := 6) (by omega) (by omega) ?_
    refine lv_astore (lv' := [(4, .ref q9), (0, .ref (h 0)), (1, .int x), (2, .int v), (3, .ref o9)]) hx hb dL_poke_13 hl (by decide) rfl (fun ls hl => ?_)
    refine lv_iconst (v := 1) hx hb dL_poke_15 (by decide) ?_
    exact kRetI (G := G) (fun _ => 0) hx hb hr hlocks hS dL_poke_16 (kSubP (wc := [kJ o9 (G.2 3) 1 (fun _ => 0)]) hP [0] rfl) (hD.sub (ws' := [kJ o9 (G.2 3) 1 (fun _ => 0)]) [0] (by decide) rfl) (Or.inr ⟨rfl, hp3⟩)
  · have _u := hsz
    have hP : va_P G.1 vwCl [kJ o9 (G.2 3) 1 (fun _ => 0)] H := hP
    have hD : va_D A [kJ o9 (G.2 3) 1 (fun _ => 0)] := hD
    refine W.widen (k := 1) (n := 6) (by omega) (by omega) ?_
    obtain ⟨rfl, hq4⟩ := hw2
    refine lv_i2l (v := 0) hx hb dL_poke_8 (by decide) ?_
    refine va_last (D := G.1) hx hb hK hP hD hS 0 3 rfl rfl (show vp_in _ _ by unfold vp_in; decide) dL_poke_9 (fun H locs hP hD hS => ?_)
    have hP : va_P G.1 vwCl [kJ o9 (G.2 3) 1 (vp_updL (fun _ => 0) (0 : Int32).toNatClampNeg 0)] H := hP
    have hD : va_D A [kJ o9 (G.2 3) 1 (vp_updL (fun _ => 0) (0 : Int32).toNatClampNeg 0)] := hD
    refine lv_goto (tgt := 21) hx hb dL_poke_10 (by decide) ?_
    refine lv_iconst (v := 0) hx hb dL_poke_21 (by decide) ?_
    exact kRetI (G := G) (vp_updL (fun _ => 0) (0 : Int32).toNatClampNeg 0) hx hb hr hlocks hS dL_poke_22 (kSubP (wc := [kJ o9 (G.2 3) 1 (vp_updL (fun _ => 0) (0 : Int32).toNatClampNeg 0)]) hP [0] rfl) (hD.sub (ws' := [kJ o9 (G.2 3) 1 (vp_updL (fun _ => 0) (0 : Int32).toNatClampNeg 0)]) [0] (by decide) rfl) (Or.inl ⟨rfl, rfl, hq4⟩)

set_option maxHeartbeats 4000000 in
set_option maxRecDepth 100000 in
theorem c_L_mark (l : Launch) (hst : l.stackTraces = false) (G : gG) (sz : Nat) (h : Nat → Nat) (x : Int32) (o : Int32) (o9 : Nat)  : Met l yL_mark wsL_mark { frames := 7, cells := 1, slots := 6, locals := 112 } (kPc G [.ref (h 0), .int x, .int o, .ref o9] [kO (h 0) 4 [.ref (h 1), .ref (h 6), .ref (h 8), .ref (h 12), .ref (h 18), .int 0], kO (h 1) 2 [.ref (h 2), .ref (h 3), .ref (h 4), .ref (h 5), .int 0], kJ o9 (G.2 3) 1 (fun _ => 0)] sz (kZx kZT (va_A [kO (h 0) 4 [.ref (h 1), .ref (h 6), .ref (h 8), .ref (h 12), .ref (h 18), .int 0], kO (h 1) 2 [.ref (h 2), .ref (h 3), .ref (h 4), .ref (h 5), .int 0], kJ o9 (G.2 3) 1 (fun _ => 0)] sz))) (kQi G (S := (Nat → Int64)) (fun r _ => r = 1) (fun u => [kJ o9 (G.2 3) 1 u]) (va_A [kO (h 0) 4 [.ref (h 1), .ref (h 6), .ref (h 8), .ref (h 12), .ref (h 18), .int 0], kO (h 1) 2 [.ref (h 2), .ref (h 3), .ref (h 4), .ref (h 5), .int 0], kJ o9 (G.2 3) 1 (fun _ => 0)] sz)) 1 6 (va_A [kO (h 0) 4 [.ref (h 1), .ref (h 6), .ref (h 8), .ref (h 12), .ref (h 18), .int 0], kO (h 1) 2 [.ref (h 2), .ref (h 3), .ref (h 4), .ref (h 5), .int 0], kJ o9 (G.2 3) 1 (fun _ => 0)] sz) := by
  refine kBegW (Qc := fun A => kQi G (S := (Nat → Int64)) (fun r _ => r = 1) (fun u => [kJ o9 (G.2 3) 1 u]) A) (by decide) rfl (Nat.le_of_ble_eq_true rfl) ?_
  intro A p e s m below meth c ls H locs hx hb hr hts hown hlocks hml htb hsz hP hK hD hZ hA hS hl
  have hown : s.vm.findClass RL = some m.cls := hown
  have hl : lv_has ls 5 [(0, .ref (h 0)), (1, .int x), (2, .int o), (3, .ref o9)] := hl
  have kc0 : (0 : Int32).toInt = 0 := by decide
  have kc1 : (1 : Int32).toInt = 1 := by decide
  refine lv_aload_n hx hb dL_mark_0 rfl (lv_at hl 3 rfl) ?_
  refine lv_iconst (v := 0) hx hb dL_mark_1 (by decide) ?_
  refine lv_aload_n hx hb dL_mark_2 rfl (lv_at hl 0 rfl) ?_
  refine lv_iload_n hx hb dL_mark_3 rfl (lv_at hl 1 rfl) ?_
  refine lv_iload_n hx hb dL_mark_4 rfl (lv_at hl 2 rfl) ?_
  refine kXi (G := G) (ws := [kO (h 0) 4 [.ref (h 1), .ref (h 6), .ref (h 8), .ref (h 12), .ref (h 18), .int 0], kO (h 1) 2 [.ref (h 2), .ref (h 3), .ref (h 4), .ref (h 5), .int 0], kJ o9 (G.2 3) 1 (fun _ => 0)]) (wr := [kJ o9 (G.2 3) 1 (fun _ => 0)]) (vx_runV (As := [.int x, .int o]) (rest := [.int 0, .ref o9]) ⟨hx, hb, hml, hown, hts⟩ (c_X4_mark l hst G H.size h x o ) (cwV 2 hts gL_mark_X4_mark rfl rfl rfl (by decide +kernel) ⟨Nat.le_of_ble_eq_true rfl, Nat.le_of_ble_eq_true rfl⟩) (kPreV (va_recv hK hP (ci := 4) (q0 := 0) rfl rfl) (kZxb kZTb) (kZxw hZ hS (va_free (wc := [kO (h 0) 4 [.ref (h 1), .ref (h 6), .ref (h 8), .ref (h 12), .ref (h 18), .int 0], kO (h 1) 2 [.ref (h 2), .ref (h 3), .ref (h 4), .ref (h 5), .int 0]]) hD hS hA [0, 1] rfl)) hK hP hD [0, 1] rfl (by decide)) rfl rfl hl.1 rfl (lv_room (Nat.le_of_ble_eq_true rfl)) dL_mark_5 ⟨Nat.le_of_ble_eq_true rfl, Nat.le_of_ble_eq_true rfl⟩) hP hD hS hA [0, 1] [2] rfl rfl (by decide) (by decide) (fun E9 ce9 q9 u9 t9 H locs hp3 hE9 hP hD hS hc1 hc2 hc3 => ?_) (fun r1 _ H locs hw2 hP hD hS => ?_)
  · subst hE9
    have hP : va_P G.1 vwCl [kJ o9 (G.2 3) 1 (fun _ => 0)] H := hP
    have hD : va_D A [kJ o9 (G.2 3) 1 (fun _ => 0)] := hD
    refine vx_catch (own := RL) (name := "java/lang/IndexOutOfBoundsException") hown [] ⟨0, 17, 20, 23⟩ [] (by rw [htb]; rfl) (fun z h9 => nomatch h9) (by decide) (by decide) (hts (.classLink RL 23 "java/lang/IndexOutOfBoundsException") (by decide +kernel)) (va_Nw.use rfl hZ.1.2.1) hc1 hc2 hc3 ?_
    refine W.eq (g2 := F0 m 20 ls [.ref q9]) rfl ?_
    refine W.widen (k := 1) (n := 6) (by omega) (by omega) ?_
    refine lv_astore (lv' := [(4, .ref q9), (0, .ref (h 0)), (1, .int x), (2, .int o), (3, .ref o9)]) hx hb dL_mark_20 hl (by decide) rfl (fun ls hl => ?_)
    refine lv_iconst (v := 1) hx hb dL_mark_22 (by decide) ?_
    exact kRetI (G := G) (fun _ => 0) hx hb hr hlocks hS dL_mark_23 (kSubP (wc := [kJ o9 (G.2 3) 1 (fun _ => 0)]) hP [0] rfl) (hD.sub (ws' := [kJ o9 (G.2 3) 1 (fun _ => 0)]) [0] (by decide) rfl) rfl
  · have _u := hsz
    have hP : va_P G.1 vwCl [kJ o9 (G.2 3) 1 (fun _ => 0)] H := hP
    have hD : va_D A [kJ o9 (G.2 3) 1 (fun _ => 0)] := hD
    refine W.widen (k := 1) (n := 6) (by omega) (by omega) ?_
    exact absurd hw2 id

set_option maxHeartbeats 4000000 in
set_option maxRecDepth 100000 in
theorem c_L_watch (l : Launch) (hst : l.stackTraces = false) (G : gG) (sz : Nat) (h : Nat → Nat) (x : Int32) (o : Int32) (o9 : Nat)  : Met l yL_watch wsL_watch { frames := 7, cells := 1, slots := 6, locals := 112 } (kPc G [.ref (h 0), .int x, .int o, .ref o9] [kO (h 0) 4 [.ref (h 1), .ref (h 6), .ref (h 8), .ref (h 12), .ref (h 18), .int 0], kI (h 18) (G.2 1) 64 (fun _ => 0), kJ o9 (G.2 3) 1 (fun _ => 0)] sz (kZx kZT (va_A [kO (h 0) 4 [.ref (h 1), .ref (h 6), .ref (h 8), .ref (h 12), .ref (h 18), .int 0], kI (h 18) (G.2 1) 64 (fun _ => 0), kJ o9 (G.2 3) 1 (fun _ => 0)] sz))) (kQi G (S := (Nat → Int64)) (fun r u => (r = 0 ∧ ((u 0 = 0 ∧ o = 0) ∨ (u 0 = 1 ∧ ¬ o = 0)) ∧ (0 ≤ x.toInt ∧ x.toInt < 64)) ∨ (r = 1 ∧ ¬ (0 ≤ x.toInt ∧ x.toInt < 64))) (fun u => [kJ o9 (G.2 3) 1 u]) (va_A [kO (h 0) 4 [.ref (h 1), .ref (h 6), .ref (h 8), .ref (h 12), .ref (h 18), .int 0], kI (h 18) (G.2 1) 64 (fun _ => 0), kJ o9 (G.2 3) 1 (fun _ => 0)] sz)) 1 6 (va_A [kO (h 0) 4 [.ref (h 1), .ref (h 6), .ref (h 8), .ref (h 12), .ref (h 18), .int 0], kI (h 18) (G.2 1) 64 (fun _ => 0), kJ o9 (G.2 3) 1 (fun _ => 0)] sz) := by
  refine kBegW (Qc := fun A => kQi G (S := (Nat → Int64)) (fun r u => (r = 0 ∧ ((u 0 = 0 ∧ o = 0) ∨ (u 0 = 1 ∧ ¬ o = 0)) ∧ (0 ≤ x.toInt ∧ x.toInt < 64)) ∨ (r = 1 ∧ ¬ (0 ≤ x.toInt ∧ x.toInt < 64))) (fun u => [kJ o9 (G.2 3) 1 u]) A) (by decide) rfl (Nat.le_of_ble_eq_true rfl) ?_
  intro A p e s m below meth c ls H locs hx hb hr hts hown hlocks hml htb hsz hP hK hD hZ hA hS hl
  have hown : s.vm.findClass RL = some m.cls := hown
  have hl : lv_has ls 5 [(0, .ref (h 0)), (1, .int x), (2, .int o), (3, .ref o9)] := hl
  have kc0 : (0 : Int32).toInt = 0 := by decide
  have kc1 : (1 : Int32).toInt = 1 := by decide
  refine lv_aload_n hx hb dL_watch_0 rfl (lv_at hl 3 rfl) ?_
  refine lv_iconst (v := 0) hx hb dL_watch_1 (by decide) ?_
  refine lv_aload_n hx hb dL_watch_2 rfl (lv_at hl 0 rfl) ?_
  refine lv_iload_n hx hb dL_watch_3 rfl (lv_at hl 1 rfl) ?_
  refine lv_iload_n hx hb dL_watch_4 rfl (lv_at hl 2 rfl) ?_
  refine kXi (G := G) (ws := [kO (h 0) 4 [.ref (h 1), .ref (h 6), .ref (h 8), .ref (h 12), .ref (h 18), .int 0], kI (h 18) (G.2 1) 64 (fun _ => 0), kJ o9 (G.2 3) 1 (fun _ => 0)]) (wr := [kJ o9 (G.2 3) 1 (fun _ => 0)]) (vx_runV (As := [.int x, .int o]) (rest := [.int 0, .ref o9]) ⟨hx, hb, hml, hown, hts⟩ (c_X4_watch l hst G H.size h x o ) (cwV 2 hts gL_watch_X4_watch rfl rfl rfl (by decide +kernel) ⟨Nat.le_of_ble_eq_true rfl, Nat.le_of_ble_eq_true rfl⟩) (kPreV (va_recv hK hP (ci := 4) (q0 := 0) rfl rfl) (kZxb kZTb) (kZxw hZ hS (va_free (wc := [kO (h 0) 4 [.ref (h 1), .ref (h 6), .ref (h 8), .ref (h 12), .ref (h 18), .int 0], kI (h 18) (G.2 1) 64 (fun _ => 0)]) hD hS hA [0, 1] rfl)) hK hP hD [0, 1] rfl (by decide)) rfl rfl hl.1 rfl (lv_room (Nat.le_of_ble_eq_true rfl)) dL_watch_5 ⟨Nat.le_of_ble_eq_true rfl, Nat.le_of_ble_eq_true rfl⟩) hP hD hS hA [0, 1] [2] rfl rfl (by decide) (by decide) (fun E9 ce9 q9 u9 t9 H locs hp3 hE9 hP hD hS hc1 hc2 hc3 => ?_) (fun r1 _ H locs hw2 hP hD hS => ?_)
  · subst hE9
    have hP : va_P G.1 vwCl [kJ o9 (G.2 3) 1 (fun _ => 0)] H := hP
    have hD : va_D A [kJ o9 (G.2 3) 1 (fun _ => 0)] := hD
    refine vx_catch (own := RL) (name := "java/lang/IndexOutOfBoundsException") hown [] ⟨0, 17, 20, 23⟩ [] (by rw [htb]; rfl) (fun z h9 => nomatch h9) (by decide) (by decide) (hts (.classLink RL 23 "java/lang/IndexOutOfBoundsException") (by decide +kernel)) (va_Nw.use rfl hZ.1.2.1) hc1 hc2 hc3 ?_
    refine W.eq (g2 := F0 m 20 ls [.ref q9]) rfl ?_
    refine W.widen (k := 1) (n := 6) (by omega) (by omega) ?_
    refine lv_astore (lv' := [(4, .ref q9), (0, .ref (h 0)), (1, .int x), (2, .int o), (3, .ref o9)]) hx hb dL_watch_20 hl (by decide) rfl (fun ls hl => ?_)
    refine lv_iconst (v := 1) hx hb dL_watch_22 (by decide) ?_
    exact kRetI (G := G) (fun _ => 0) hx hb hr hlocks hS dL_watch_23 (kSubP (wc := [kJ o9 (G.2 3) 1 (fun _ => 0)]) hP [0] rfl) (hD.sub (ws' := [kJ o9 (G.2 3) 1 (fun _ => 0)]) [0] (by decide) rfl) (Or.inr ⟨rfl, hp3⟩)
  · have _u := hsz
    have hP : va_P G.1 vwCl [kJ o9 (G.2 3) 1 (fun _ => 0)] H := hP
    have hD : va_D A [kJ o9 (G.2 3) 1 (fun _ => 0)] := hD
    refine W.widen (k := 1) (n := 6) (by omega) (by omega) ?_
    obtain ⟨hv9, hq4⟩ := hw2
    rcases hv9 with ⟨rfl, hv9⟩ | ⟨rfl, hv9⟩
    · have _u := hsz
      refine lv_if_eq (tgt := 15) hx hb dL_watch_8 (by decide) (fun _ => ?_) (fun c9 => absurd c9 (by decide))
      refine lv_lconst (v := 0) hx hb dL_watch_15 (by decide) ?_
      refine va_last (D := G.1) hx hb hK hP hD hS 0 3 rfl rfl (show vp_in _ _ by unfold vp_in; decide) dL_watch_16 (fun H locs hP hD hS => ?_)
      have hP : va_P G.1 vwCl [kJ o9 (G.2 3) 1 (vp_updL (fun _ => 0) (0 : Int32).toNatClampNeg 0)] H := hP
      have hD : va_D A [kJ o9 (G.2 3) 1 (vp_updL (fun _ => 0) (0 : Int32).toNatClampNeg 0)] := hD
      refine lv_goto (tgt := 24) hx hb dL_watch_17 (by decide) ?_
      refine lv_iconst (v := 0) hx hb dL_watch_24 (by decide) ?_
      exact kRetI (G := G) (vp_updL (fun _ => 0) (0 : Int32).toNatClampNeg 0) hx hb hr hlocks hS dL_watch_25 (kSubP (wc := [kJ o9 (G.2 3) 1 (vp_updL (fun _ => 0) (0 : Int32).toNatClampNeg 0)]) hP [0] rfl) (hD.sub (ws' := [kJ o9 (G.2 3) 1 (vp_updL (fun _ => 0) (0 : Int32).toNatClampNeg 0)]) [0] (by decide) rfl) (Or.inl ⟨rfl, (by first | exact Or.inl ⟨rfl, hv9⟩ | exact Or.inr ⟨rfl, hv9⟩), hq4⟩)
    · have _u := hsz
      refine lv_if_eq (tgt := 15) hx hb dL_watch_8 (by decide) (fun c9 => absurd c9 (by decide)) (fun _ => ?_)
      refine lv_lconst (v := 1) hx hb dL_watch_11 (by decide) ?_
      refine lv_goto (tgt := 16) hx hb dL_watch_12 (by decide) ?_
      refine va_last (D := G.1) hx hb hK hP hD hS 0 3 rfl rfl (show vp_in _ _ by unfold vp_in; decide) dL_watch_16 (fun H locs hP hD hS => ?_)
      have hP : va_P G.1 vwCl [kJ o9 (G.2 3) 1 (vp_updL (fun _ => 0) (0 : Int32).toNatClampNeg 1)] H := hP
      have hD : va_D A [kJ o9 (G.2 3) 1 (vp_updL (fun _ => 0) (0 : Int32).toNatClampNeg 1)] := hD
      refine lv_goto (tgt := 24) hx hb dL_watch_17 (by decide) ?_
      refine lv_iconst (v := 0) hx hb dL_watch_24 (by decide) ?_
      exact kRetI (G := G) (vp_updL (fun _ => 0) (0 : Int32).toNatClampNeg 1) hx hb hr hlocks hS dL_watch_25 (kSubP (wc := [kJ o9 (G.2 3) 1 (vp_updL (fun _ => 0) (0 : Int32).toNatClampNeg 1)]) hP [0] rfl) (hD.sub (ws' := [kJ o9 (G.2 3) 1 (vp_updL (fun _ => 0) (0 : Int32).toNatClampNeg 1)]) [0] (by decide) rfl) (Or.inl ⟨rfl, (by first | exact Or.inl ⟨rfl, hv9⟩ | exact Or.inr ⟨rfl, hv9⟩), hq4⟩)

set_option maxHeartbeats 4000000 in
set_option maxRecDepth 100000 in
theorem c_L_goTo (l : Launch) (hst : l.stackTraces = false) (G : gG) (sz : Nat) (h : Nat → Nat) (g : Nat → Option Nat) (sp : Int32) (t : Int32) (o9 : Nat) (hg : g 0 = some (h 14)) : Met l yL_goTo wsL_goTo { frames := 7, cells := 1, slots := 6, locals := 110 } (kPc G [.ref (h 0), .int t, .ref o9] [kO (h 0) 4 [.ref (h 1), .ref (h 6), .ref (h 8), .ref (h 12), .ref (h 18), .int 0], kO (h 6) 1 [.ref (h 8), .ref (h 7), .int (-1)], kO (h 8) 3 [.ref (h 9), .ref (h 10), .ref (h 11), .int 1, .int 0, .int 0, .int 0], kI (h 11) (G.2 0) 16 (fun _ => 0), kO (h 1) 2 [.ref (h 2), .ref (h 3), .ref (h 4), .ref (h 5), .int 0], kO (h 12) 0 [.ref (h 13), .int sp, .int sp, .int 1, .int 0], kR (h 13) (G.2 2) 8 g, kO (h 14) 3 [.ref (h 15), .ref (h 16), .ref (h 17), .int 1, .int 0, .int 0, .int 0], kJ o9 (G.2 3) 1 (fun _ => 0)] sz (kZx kZT (va_A [kO (h 0) 4 [.ref (h 1), .ref (h 6), .ref (h 8), .ref (h 12), .ref (h 18), .int 0], kO (h 6) 1 [.ref (h 8), .ref (h 7), .int (-1)], kO (h 8) 3 [.ref (h 9), .ref (h 10), .ref (h 11), .int 1, .int 0, .int 0, .int 0], kI (h 11) (G.2 0) 16 (fun _ => 0), kO (h 1) 2 [.ref (h 2), .ref (h 3), .ref (h 4), .ref (h 5), .int 0], kO (h 12) 0 [.ref (h 13), .int sp, .int sp, .int 1, .int 0], kR (h 13) (G.2 2) 8 g, kO (h 14) 3 [.ref (h 15), .ref (h 16), .ref (h 17), .int 1, .int 0, .int 0, .int 0], kJ o9 (G.2 3) 1 (fun _ => 0)] sz))) (kQi G (S := (Nat → Int64)) (fun r u => (r = 0 ∧ u 0 = 0 ∧ (0 ≤ t.toInt ∧ t.toInt ≤ 2000)) ∨ (r = 1 ∧ ¬ (0 ≤ t.toInt ∧ t.toInt ≤ 2000))) (fun u => [kJ o9 (G.2 3) 1 u]) (va_A [kO (h 0) 4 [.ref (h 1), .ref (h 6), .ref (h 8), .ref (h 12), .ref (h 18), .int 0], kO (h 6) 1 [.ref (h 8), .ref (h 7), .int (-1)], kO (h 8) 3 [.ref (h 9), .ref (h 10), .ref (h 11), .int 1, .int 0, .int 0, .int 0], kI (h 11) (G.2 0) 16 (fun _ => 0), kO (h 1) 2 [.ref (h 2), .ref (h 3), .ref (h 4), .ref (h 5), .int 0], kO (h 12) 0 [.ref (h 13), .int sp, .int sp, .int 1, .int 0], kR (h 13) (G.2 2) 8 g, kO (h 14) 3 [.ref (h 15), .ref (h 16), .ref (h 17), .int 1, .int 0, .int 0, .int 0], kJ o9 (G.2 3) 1 (fun _ => 0)] sz)) 1 6 (va_A [kO (h 0) 4 [.ref (h 1), .ref (h 6), .ref (h 8), .ref (h 12), .ref (h 18), .int 0], kO (h 6) 1 [.ref (h 8), .ref (h 7), .int (-1)], kO (h 8) 3 [.ref (h 9), .ref (h 10), .ref (h 11), .int 1, .int 0, .int 0, .int 0], kI (h 11) (G.2 0) 16 (fun _ => 0), kO (h 1) 2 [.ref (h 2), .ref (h 3), .ref (h 4), .ref (h 5), .int 0], kO (h 12) 0 [.ref (h 13), .int sp, .int sp, .int 1, .int 0], kR (h 13) (G.2 2) 8 g, kO (h 14) 3 [.ref (h 15), .ref (h 16), .ref (h 17), .int 1, .int 0, .int 0, .int 0], kJ o9 (G.2 3) 1 (fun _ => 0)] sz) := by
  refine kBegW (Qc := fun A => kQi G (S := (Nat → Int64)) (fun r u => (r = 0 ∧ u 0 = 0 ∧ (0 ≤ t.toInt ∧ t.toInt ≤ 2000)) ∨ (r = 1 ∧ ¬ (0 ≤ t.toInt ∧ t.toInt ≤ 2000))) (fun u => [kJ o9 (G.2 3) 1 u]) A) (by decide) rfl (Nat.le_of_ble_eq_true rfl) ?_
  intro A p e s m below meth c ls H locs hx hb hr hts hown hlocks hml htb hsz hP hK hD hZ hA hS hl
  have hown : s.vm.findClass RL = some m.cls := hown
  have hl : lv_has ls 4 [(0, .ref (h 0)), (1, .int t), (2, .ref o9)] := hl
  have kc0 : (0 : Int32).toInt = 0 := by decide
  have kc1 : (1 : Int32).toInt = 1 := by decide
  refine lv_aload_n hx hb dL_goTo_0 rfl (lv_at hl 2 rfl) ?_
  refine lv_iconst (v := 0) hx hb dL_goTo_1 (by decide) ?_
  refine lv_aload_n hx hb dL_goTo_2 rfl (lv_at hl 0 rfl) ?_
  refine lv_iload_n hx hb dL_goTo_3 rfl (lv_at hl 1 rfl) ?_
  refine kXi (G := G) (ws := [kO (h 0) 4 [.ref (h 1), .ref (h 6), .ref (h 8), .ref (h 12), .ref (h 18), .int 0], kO (h 6) 1 [.ref (h 8), .ref (h 7), .int (-1)], kO (h 8) 3 [.ref (h 9), .ref (h 10), .ref (h 11), .int 1, .int 0, .int 0, .int 0], kI (h 11) (G.2 0) 16 (fun _ => 0), kO (h 1) 2 [.ref (h 2), .ref (h 3), .ref (h 4), .ref (h 5), .int 0], kO (h 12) 0 [.ref (h 13), .int sp, .int sp, .int 1, .int 0], kR (h 13) (G.2 2) 8 g, kO (h 14) 3 [.ref (h 15), .ref (h 16), .ref (h 17), .int 1, .int 0, .int 0, .int 0], kJ o9 (G.2 3) 1 (fun _ => 0)]) (wr := [kJ o9 (G.2 3) 1 (fun _ => 0)]) (vx_runV (As := [.int t]) (rest := [.int 0, .ref o9]) ⟨hx, hb, hml, hown, hts⟩ (c_X4_goTo l hst G H.size h g sp t hg) (cwV 1 hts gL_goTo_X4_goTo rfl rfl rfl (by decide +kernel) ⟨Nat.le_of_ble_eq_true rfl, Nat.le_of_ble_eq_true rfl⟩) (kPreV (va_recv hK hP (ci := 4) (q0 := 0) rfl rfl) (kZxb kZTb) (kZxw hZ hS (va_free (wc := [kO (h 0) 4 [.ref (h 1), .ref (h 6), .ref (h 8), .ref (h 12), .ref (h 18), .int 0], kO (h 6) 1 [.ref (h 8), .ref (h 7), .int (-1)], kO (h 8) 3 [.ref (h 9), .ref (h 10), .ref (h 11), .int 1, .int 0, .int 0, .int 0], kI (h 11) (G.2 0) 16 (fun _ => 0), kO (h 1) 2 [.ref (h 2), .ref (h 3), .ref (h 4), .ref (h 5), .int 0], kO (h 12) 0 [.ref (h 13), .int sp, .int sp, .int 1, .int 0], kR (h 13) (G.2 2) 8 g, kO (h 14) 3 [.ref (h 15), .ref (h 16), .ref (h 17), .int 1, .int 0, .int 0, .int 0]]) hD hS hA [0, 1, 2, 3, 4, 5, 6, 7] rfl)) hK hP hD [0, 1, 2, 3, 4, 5, 6, 7] rfl (by decide)) rfl rfl hl.1 rfl (lv_room (Nat.le_of_ble_eq_true rfl)) dL_goTo_4 ⟨Nat.le_of_ble_eq_true rfl, Nat.le_of_ble_eq_true rfl⟩) hP hD hS hA [0, 1, 2, 3, 4, 5, 6, 7] [8] rfl rfl (by decide) (by decide) (fun E9 ce9 q9 u9 t9 H locs hp3 hE9 hP hD hS hc1 hc2 hc3 => ?_) (fun r1 _ H locs hw2 hP hD hS => ?_)
  · subst hE9
    have hP : va_P G.1 vwCl [kJ o9 (G.2 3) 1 (fun _ => 0)] H := hP
    have hD : va_D A [kJ o9 (G.2 3) 1 (fun _ => 0)] := hD
    refine vx_catch (own := RL) (name := "java/lang/IllegalArgumentException") hown [] ⟨0, 9, 12, 13⟩ [] (by rw [htb]; rfl) (fun z h9 => nomatch h9) (by decide) (by decide) (hts (.classLink RL 13 "java/lang/IllegalArgumentException") (by decide +kernel)) (va_Nw.use rfl hZ.1.1) hc1 hc2 hc3 ?_
    refine W.eq (g2 := F0 m 12 ls [.ref q9]) rfl ?_
    refine W.widen (k := 1) (n := 6) (by omega) (by omega) ?_
    refine lv_astore_n (lv' := [(3, .ref q9), (0, .ref (h 0)), (1, .int t), (2, .ref o9)]) hx hb dL_goTo_12 rfl hl (by decide) rfl (fun ls hl => ?_)
    refine lv_iconst (v := 1) hx hb dL_goTo_13 (by decide) ?_
    exact kRetI (G := G) (fun _ => 0) hx hb hr hlocks hS dL_goTo_14 (kSubP (wc := [kJ o9 (G.2 3) 1 (fun _ => 0)]) hP [0] rfl) (hD.sub (ws' := [kJ o9 (G.2 3) 1 (fun _ => 0)]) [0] (by decide) rfl) (Or.inr ⟨rfl, hp3⟩)
  · have _u := hsz
    have hP : va_P G.1 vwCl [kJ o9 (G.2 3) 1 (fun _ => 0)] H := hP
    have hD : va_D A [kJ o9 (G.2 3) 1 (fun _ => 0)] := hD
    refine W.widen (k := 1) (n := 6) (by omega) (by omega) ?_
    obtain ⟨rfl, hq4⟩ := hw2
    refine lv_i2l (v := 0) hx hb dL_goTo_7 (by decide) ?_
    refine va_last (D := G.1) hx hb hK hP hD hS 0 3 rfl rfl (show vp_in _ _ by unfold vp_in; decide) dL_goTo_8 (fun H locs hP hD hS => ?_)
    have hP : va_P G.1 vwCl [kJ o9 (G.2 3) 1 (vp_updL (fun _ => 0) (0 : Int32).toNatClampNeg 0)] H := hP
    have hD : va_D A [kJ o9 (G.2 3) 1 (vp_updL (fun _ => 0) (0 : Int32).toNatClampNeg 0)] := hD
    refine lv_goto (tgt := 15) hx hb dL_goTo_9 (by decide) ?_
    refine lv_iconst (v := 0) hx hb dL_goTo_15 (by decide) ?_
    exact kRetI (G := G) (vp_updL (fun _ => 0) (0 : Int32).toNatClampNeg 0) hx hb hr hlocks hS dL_goTo_16 (kSubP (wc := [kJ o9 (G.2 3) 1 (vp_updL (fun _ => 0) (0 : Int32).toNatClampNeg 0)]) hP [0] rfl) (hD.sub (ws' := [kJ o9 (G.2 3) 1 (vp_updL (fun _ => 0) (0 : Int32).toNatClampNeg 0)]) [0] (by decide) rfl) (Or.inl ⟨rfl, rfl, hq4⟩)

set_option maxHeartbeats 4000000 in
set_option maxRecDepth 100000 in
theorem c_L_local (l : Launch) (hst : l.stackTraces = false) (G : gG) (sz : Nat) (h : Nat → Nat) (f : Int32) (x : Int32) (o9 : Nat)  : Met l yL_local wsL_local { frames := 7, cells := 1, slots := 6, locals := 111 } (kPc G [.ref (h 0), .int f, .int x, .ref o9] [kO (h 0) 4 [.ref (h 1), .ref (h 6), .ref (h 8), .ref (h 12), .ref (h 18), .int 0], kO (h 8) 3 [.ref (h 9), .ref (h 10), .ref (h 11), .int 1, .int 0, .int 0, .int 0], kI (h 10) (G.2 0) 128 (fun _ => 0), kJ o9 (G.2 3) 1 (fun _ => 0)] sz (kZx kZT (va_A [kO (h 0) 4 [.ref (h 1), .ref (h 6), .ref (h 8), .ref (h 12), .ref (h 18), .int 0], kO (h 8) 3 [.ref (h 9), .ref (h 10), .ref (h 11), .int 1, .int 0, .int 0, .int 0], kI (h 10) (G.2 0) 128 (fun _ => 0), kJ o9 (G.2 3) 1 (fun _ => 0)] sz))) (kQi G (S := (Nat → Int64)) (fun r u => (r = 0 ∧ u 0 = 0 ∧ ((0 ≤ f.toInt ∧ f.toInt < 1) ∧ (0 ≤ x.toInt ∧ x.toInt < 8))) ∨ (r = 1 ∧ ¬ ((0 ≤ f.toInt ∧ f.toInt < 1) ∧ (0 ≤ x.toInt ∧ x.toInt < 8)))) (fun u => [kJ o9 (G.2 3) 1 u]) (va_A [kO (h 0) 4 [.ref (h 1), .ref (h 6), .ref (h 8), .ref (h 12), .ref (h 18), .int 0], kO (h 8) 3 [.ref (h 9), .ref (h 10), .ref (h 11), .int 1, .int 0, .int 0, .int 0], kI (h 10) (G.2 0) 128 (fun _ => 0), kJ o9 (G.2 3) 1 (fun _ => 0)] sz)) 1 6 (va_A [kO (h 0) 4 [.ref (h 1), .ref (h 6), .ref (h 8), .ref (h 12), .ref (h 18), .int 0], kO (h 8) 3 [.ref (h 9), .ref (h 10), .ref (h 11), .int 1, .int 0, .int 0, .int 0], kI (h 10) (G.2 0) 128 (fun _ => 0), kJ o9 (G.2 3) 1 (fun _ => 0)] sz) := by
  refine kBegW (Qc := fun A => kQi G (S := (Nat → Int64)) (fun r u => (r = 0 ∧ u 0 = 0 ∧ ((0 ≤ f.toInt ∧ f.toInt < 1) ∧ (0 ≤ x.toInt ∧ x.toInt < 8))) ∨ (r = 1 ∧ ¬ ((0 ≤ f.toInt ∧ f.toInt < 1) ∧ (0 ≤ x.toInt ∧ x.toInt < 8)))) (fun u => [kJ o9 (G.2 3) 1 u]) A) (by decide) rfl (Nat.le_of_ble_eq_true rfl) ?_
  intro A p e s m below meth c ls H locs hx hb hr hts hown hlocks hml htb hsz hP hK hD hZ hA hS hl
  have hown : s.vm.findClass RL = some m.cls := hown
  have hl : lv_has ls 5 [(0, .ref (h 0)), (1, .int f), (2, .int x), (3, .ref o9)] := hl
  have kc0 : (0 : Int32).toInt = 0 := by decide
  have kc1 : (1 : Int32).toInt = 1 := by decide
  refine lv_aload_n hx hb dL_local_0 rfl (lv_at hl 3 rfl) ?_
  refine lv_iconst (v := 0) hx hb dL_local_1 (by decide) ?_
  refine lv_aload_n hx hb dL_local_2 rfl (lv_at hl 0 rfl) ?_
  refine lv_iload_n hx hb dL_local_3 rfl (lv_at hl 1 rfl) ?_
  refine lv_iload_n hx hb dL_local_4 rfl (lv_at hl 2 rfl) ?_
  refine kXi (G := G) (ws := [kO (h 0) 4 [.ref (h 1), .ref (h 6), .ref (h 8), .ref (h 12), .ref (h 18), .int 0], kO (h 8) 3 [.ref (h 9), .ref (h 10), .ref (h 11), .int 1, .int 0, .int 0, .int 0], kI (h 10) (G.2 0) 128 (fun _ => 0), kJ o9 (G.2 3) 1 (fun _ => 0)]) (wr := [kJ o9 (G.2 3) 1 (fun _ => 0)]) (vx_runV (As := [.int f, .int x]) (rest := [.int 0, .ref o9]) ⟨hx, hb, hml, hown, hts⟩ (c_X4_local l hst G H.size h f x ) (cwV 2 hts gL_local_X4_local rfl rfl rfl (by decide +kernel) ⟨Nat.le_of_ble_eq_true rfl, Nat.le_of_ble_eq_true rfl⟩) (kPreV (va_recv hK hP (ci := 4) (q0 := 0) rfl rfl) (kZxb kZTb) (kZxw hZ hS (va_free (wc := [kO (h 0) 4 [.ref (h 1), .ref (h 6), .ref (h 8), .ref (h 12), .ref (h 18), .int 0], kO (h 8) 3 [.ref (h 9), .ref (h 10), .ref (h 11), .int 1, .int 0, .int 0, .int 0], kI (h 10) (G.2 0) 128 (fun _ => 0)]) hD hS hA [0, 1, 2] rfl)) hK hP hD [0, 1, 2] rfl (by decide)) rfl rfl hl.1 rfl (lv_room (Nat.le_of_ble_eq_true rfl)) dL_local_5 ⟨Nat.le_of_ble_eq_true rfl, Nat.le_of_ble_eq_true rfl⟩) hP hD hS hA [0, 1, 2] [3] rfl rfl (by decide) (by decide) (fun E9 ce9 q9 u9 t9 H locs hp3 hE9 hP hD hS hc1 hc2 hc3 => ?_) (fun r1 _ H locs hw2 hP hD hS => ?_)
  · subst hE9
    have hP : va_P G.1 vwCl [kJ o9 (G.2 3) 1 (fun _ => 0)] H := hP
    have hD : va_D A [kJ o9 (G.2 3) 1 (fun _ => 0)] := hD
    refine vx_catch (own := RL) (name := "java/lang/IndexOutOfBoundsException") hown [] ⟨0, 10, 13, 23⟩ [] (by rw [htb]; rfl) (fun z h9 => nomatch h9) (by decide) (by decide) (hts (.classLink RL 23 "java/lang/IndexOutOfBoundsException") (by decide +kernel)) (va_Nw.use rfl hZ.1.2.1) hc1 hc2 hc3 ?_
    refine W.eq (g2 := F0 m 13 ls [.ref q9]) rfl ?_
    refine W.widen (k := 1) (n := 6) (by omega) (by omega) ?_
    refine lv_astore (lv' := [(4, .ref q9), (0, .ref (h 0)), (1, .int f), (2, .int x), (3, .ref o9)]) hx hb dL_local_13 hl (by decide) rfl (fun ls hl => ?_)
    refine lv_iconst (v := 1) hx hb dL_local_15 (by decide) ?_
    exact kRetI (G := G) (fun _ => 0) hx hb hr hlocks hS dL_local_16 (kSubP (wc := [kJ o9 (G.2 3) 1 (fun _ => 0)]) hP [0] rfl) (hD.sub (ws' := [kJ o9 (G.2 3) 1 (fun _ => 0)]) [0] (by decide) rfl) (Or.inr ⟨rfl, hp3⟩)
  · have _u := hsz
    have hP : va_P G.1 vwCl [kJ o9 (G.2 3) 1 (fun _ => 0)] H := hP
    have hD : va_D A [kJ o9 (G.2 3) 1 (fun _ => 0)] := hD
    refine W.widen (k := 1) (n := 6) (by omega) (by omega) ?_
    obtain ⟨rfl, hq4⟩ := hw2
    refine lv_i2l (v := 0) hx hb dL_local_8 (by decide) ?_
    refine va_last (D := G.1) hx hb hK hP hD hS 0 3 rfl rfl (show vp_in _ _ by unfold vp_in; decide) dL_local_9 (fun H locs hP hD hS => ?_)
    have hP : va_P G.1 vwCl [kJ o9 (G.2 3) 1 (vp_updL (fun _ => 0) (0 : Int32).toNatClampNeg 0)] H := hP
    have hD : va_D A [kJ o9 (G.2 3) 1 (vp_updL (fun _ => 0) (0 : Int32).toNatClampNeg 0)] := hD
    refine lv_goto (tgt := 17) hx hb dL_local_10 (by decide) ?_
    refine lv_iconst (v := 0) hx hb dL_local_17 (by decide) ?_
    exact kRetI (G := G) (vp_updL (fun _ => 0) (0 : Int32).toNatClampNeg 0) hx hb hr hlocks hS dL_local_18 (kSubP (wc := [kJ o9 (G.2 3) 1 (vp_updL (fun _ => 0) (0 : Int32).toNatClampNeg 0)]) hP [0] rfl) (hD.sub (ws' := [kJ o9 (G.2 3) 1 (vp_updL (fun _ => 0) (0 : Int32).toNatClampNeg 0)]) [0] (by decide) rfl) (Or.inl ⟨rfl, rfl, hq4⟩)

set_option maxHeartbeats 4000000 in
set_option maxRecDepth 100000 in
theorem c_L_at (l : Launch) (hst : l.stackTraces = false) (G : gG) (sz : Nat) (h : Nat → Nat) (f : Int32) (o9 : Nat)  : Met l yL_at wsL_at { frames := 7, cells := 1, slots := 6, locals := 110 } (kPc G [.ref (h 0), .int f, .ref o9] [kO (h 0) 4 [.ref (h 1), .ref (h 6), .ref (h 8), .ref (h 12), .ref (h 18), .int 0], kO (h 8) 3 [.ref (h 9), .ref (h 10), .ref (h 11), .int 1, .int 0, .int 0, .int 0], kI (h 11) (G.2 0) 16 (fun _ => 0), kJ o9 (G.2 3) 1 (fun _ => 0)] sz (kZx kZT (va_A [kO (h 0) 4 [.ref (h 1), .ref (h 6), .ref (h 8), .ref (h 12), .ref (h 18), .int 0], kO (h 8) 3 [.ref (h 9), .ref (h 10), .ref (h 11), .int 1, .int 0, .int 0, .int 0], kI (h 11) (G.2 0) 16 (fun _ => 0), kJ o9 (G.2 3) 1 (fun _ => 0)] sz))) (kQi G (S := (Nat → Int64)) (fun r u => (r = 0 ∧ u 0 = 0 ∧ (0 ≤ f.toInt ∧ f.toInt < 1)) ∨ (r = 1 ∧ ¬ (0 ≤ f.toInt ∧ f.toInt < 1))) (fun u => [kJ o9 (G.2 3) 1 u]) (va_A [kO (h 0) 4 [.ref (h 1), .ref (h 6), .ref (h 8), .ref (h 12), .ref (h 18), .int 0], kO (h 8) 3 [.ref (h 9), .ref (h 10), .ref (h 11), .int 1, .int 0, .int 0, .int 0], kI (h 11) (G.2 0) 16 (fun _ => 0), kJ o9 (G.2 3) 1 (fun _ => 0)] sz)) 1 6 (va_A [kO (h 0) 4 [.ref (h 1), .ref (h 6), .ref (h 8), .ref (h 12), .ref (h 18), .int 0], kO (h 8) 3 [.ref (h 9), .ref (h 10), .ref (h 11), .int 1, .int 0, .int 0, .int 0], kI (h 11) (G.2 0) 16 (fun _ => 0), kJ o9 (G.2 3) 1 (fun _ => 0)] sz) := by
  refine kBegW (Qc := fun A => kQi G (S := (Nat → Int64)) (fun r u => (r = 0 ∧ u 0 = 0 ∧ (0 ≤ f.toInt ∧ f.toInt < 1)) ∨ (r = 1 ∧ ¬ (0 ≤ f.toInt ∧ f.toInt < 1))) (fun u => [kJ o9 (G.2 3) 1 u]) A) (by decide) rfl (Nat.le_of_ble_eq_true rfl) ?_
  intro A p e s m below meth c ls H locs hx hb hr hts hown hlocks hml htb hsz hP hK hD hZ hA hS hl
  have hown : s.vm.findClass RL = some m.cls := hown
  have hl : lv_has ls 4 [(0, .ref (h 0)), (1, .int f), (2, .ref o9)] := hl
  have kc0 : (0 : Int32).toInt = 0 := by decide
  have kc1 : (1 : Int32).toInt = 1 := by decide
  refine lv_aload_n hx hb dL_at_0 rfl (lv_at hl 2 rfl) ?_
  refine lv_iconst (v := 0) hx hb dL_at_1 (by decide) ?_
  refine lv_aload_n hx hb dL_at_2 rfl (lv_at hl 0 rfl) ?_
  refine lv_iload_n hx hb dL_at_3 rfl (lv_at hl 1 rfl) ?_
  refine kXi (G := G) (ws := [kO (h 0) 4 [.ref (h 1), .ref (h 6), .ref (h 8), .ref (h 12), .ref (h 18), .int 0], kO (h 8) 3 [.ref (h 9), .ref (h 10), .ref (h 11), .int 1, .int 0, .int 0, .int 0], kI (h 11) (G.2 0) 16 (fun _ => 0), kJ o9 (G.2 3) 1 (fun _ => 0)]) (wr := [kJ o9 (G.2 3) 1 (fun _ => 0)]) (vx_runV (As := [.int f]) (rest := [.int 0, .ref o9]) ⟨hx, hb, hml, hown, hts⟩ (c_X4_at l hst G H.size h f ) (cwV 1 hts gL_at_X4_at rfl rfl rfl (by decide +kernel) ⟨Nat.le_of_ble_eq_true rfl, Nat.le_of_ble_eq_true rfl⟩) (kPreV (va_recv hK hP (ci := 4) (q0 := 0) rfl rfl) (kZxb kZTb) (kZxw hZ hS (va_free (wc := [kO (h 0) 4 [.ref (h 1), .ref (h 6), .ref (h 8), .ref (h 12), .ref (h 18), .int 0], kO (h 8) 3 [.ref (h 9), .ref (h 10), .ref (h 11), .int 1, .int 0, .int 0, .int 0], kI (h 11) (G.2 0) 16 (fun _ => 0)]) hD hS hA [0, 1, 2] rfl)) hK hP hD [0, 1, 2] rfl (by decide)) rfl rfl hl.1 rfl (lv_room (Nat.le_of_ble_eq_true rfl)) dL_at_4 ⟨Nat.le_of_ble_eq_true rfl, Nat.le_of_ble_eq_true rfl⟩) hP hD hS hA [0, 1, 2] [3] rfl rfl (by decide) (by decide) (fun E9 ce9 q9 u9 t9 H locs hp3 hE9 hP hD hS hc1 hc2 hc3 => ?_) (fun r1 _ H locs hw2 hP hD hS => ?_)
  · subst hE9
    have hP : va_P G.1 vwCl [kJ o9 (G.2 3) 1 (fun _ => 0)] H := hP
    have hD : va_D A [kJ o9 (G.2 3) 1 (fun _ => 0)] := hD
    refine vx_catch (own := RL) (name := "java/lang/IndexOutOfBoundsException") hown [] ⟨0, 9, 12, 23⟩ [] (by rw [htb]; rfl) (fun z h9 => nomatch h9) (by decide) (by decide) (hts (.classLink RL 23 "java/lang/IndexOutOfBoundsException") (by decide +kernel)) (va_Nw.use rfl hZ.1.2.1) hc1 hc2 hc3 ?_
    refine W.eq (g2 := F0 m 12 ls [.ref q9]) rfl ?_
    refine W.widen (k := 1) (n := 6) (by omega) (by omega) ?_
    refine lv_astore_n (lv' := [(3, .ref q9), (0, .ref (h 0)), (1, .int f), (2, .ref o9)]) hx hb dL_at_12 rfl hl (by decide) rfl (fun ls hl => ?_)
    refine lv_iconst (v := 1) hx hb dL_at_13 (by decide) ?_
    exact kRetI (G := G) (fun _ => 0) hx hb hr hlocks hS dL_at_14 (kSubP (wc := [kJ o9 (G.2 3) 1 (fun _ => 0)]) hP [0] rfl) (hD.sub (ws' := [kJ o9 (G.2 3) 1 (fun _ => 0)]) [0] (by decide) rfl) (Or.inr ⟨rfl, hp3⟩)
  · have _u := hsz
    have hP : va_P G.1 vwCl [kJ o9 (G.2 3) 1 (fun _ => 0)] H := hP
    have hD : va_D A [kJ o9 (G.2 3) 1 (fun _ => 0)] := hD
    refine W.widen (k := 1) (n := 6) (by omega) (by omega) ?_
    obtain ⟨rfl, hq4⟩ := hw2
    refine lv_i2l (v := 0) hx hb dL_at_7 (by decide) ?_
    refine va_last (D := G.1) hx hb hK hP hD hS 0 3 rfl rfl (show vp_in _ _ by unfold vp_in; decide) dL_at_8 (fun H locs hP hD hS => ?_)
    have hP : va_P G.1 vwCl [kJ o9 (G.2 3) 1 (vp_updL (fun _ => 0) (0 : Int32).toNatClampNeg 0)] H := hP
    have hD : va_D A [kJ o9 (G.2 3) 1 (vp_updL (fun _ => 0) (0 : Int32).toNatClampNeg 0)] := hD
    refine lv_goto (tgt := 15) hx hb dL_at_9 (by decide) ?_
    refine lv_iconst (v := 0) hx hb dL_at_15 (by decide) ?_
    exact kRetI (G := G) (vp_updL (fun _ => 0) (0 : Int32).toNatClampNeg 0) hx hb hr hlocks hS dL_at_16 (kSubP (wc := [kJ o9 (G.2 3) 1 (vp_updL (fun _ => 0) (0 : Int32).toNatClampNeg 0)]) hP [0] rfl) (hD.sub (ws' := [kJ o9 (G.2 3) 1 (vp_updL (fun _ => 0) (0 : Int32).toNatClampNeg 0)]) [0] (by decide) rfl) (Or.inl ⟨rfl, rfl, hq4⟩)

set_option maxHeartbeats 4000000 in
set_option maxRecDepth 100000 in
theorem c_L_cell_ (l : Launch) (hst : l.stackTraces = false) (G : gG) (sz : Nat) (h : Nat → Nat) (x : Int32) (o9 : Nat)  : Met l yL_cell_ wsL_cell_ { frames := 7, cells := 1, slots := 6, locals := 110 } (kPc G [.ref (h 0), .int x, .ref o9] [kO (h 0) 4 [.ref (h 1), .ref (h 6), .ref (h 8), .ref (h 12), .ref (h 18), .int 0], kO (h 8) 3 [.ref (h 9), .ref (h 10), .ref (h 11), .int 1, .int 0, .int 0, .int 0], kI (h 9) (G.2 0) 64 (fun _ => 0), kJ o9 (G.2 3) 1 (fun _ => 0)] sz (kZx kZT (va_A [kO (h 0) 4 [.ref (h 1), .ref (h 6), .ref (h 8), .ref (h 12), .ref (h 18), .int 0], kO (h 8) 3 [.ref (h 9), .ref (h 10), .ref (h 11), .int 1, .int 0, .int 0, .int 0], kI (h 9) (G.2 0) 64 (fun _ => 0), kJ o9 (G.2 3) 1 (fun _ => 0)] sz))) (kQi G (S := (Nat → Int64)) (fun r u => (r = 0 ∧ u 0 = 0 ∧ (0 ≤ x.toInt ∧ x.toInt < 64)) ∨ (r = 1 ∧ ¬ (0 ≤ x.toInt ∧ x.toInt < 64))) (fun u => [kJ o9 (G.2 3) 1 u]) (va_A [kO (h 0) 4 [.ref (h 1), .ref (h 6), .ref (h 8), .ref (h 12), .ref (h 18), .int 0], kO (h 8) 3 [.ref (h 9), .ref (h 10), .ref (h 11), .int 1, .int 0, .int 0, .int 0], kI (h 9) (G.2 0) 64 (fun _ => 0), kJ o9 (G.2 3) 1 (fun _ => 0)] sz)) 1 6 (va_A [kO (h 0) 4 [.ref (h 1), .ref (h 6), .ref (h 8), .ref (h 12), .ref (h 18), .int 0], kO (h 8) 3 [.ref (h 9), .ref (h 10), .ref (h 11), .int 1, .int 0, .int 0, .int 0], kI (h 9) (G.2 0) 64 (fun _ => 0), kJ o9 (G.2 3) 1 (fun _ => 0)] sz) := by
  refine kBegW (Qc := fun A => kQi G (S := (Nat → Int64)) (fun r u => (r = 0 ∧ u 0 = 0 ∧ (0 ≤ x.toInt ∧ x.toInt < 64)) ∨ (r = 1 ∧ ¬ (0 ≤ x.toInt ∧ x.toInt < 64))) (fun u => [kJ o9 (G.2 3) 1 u]) A) (by decide) rfl (Nat.le_of_ble_eq_true rfl) ?_
  intro A p e s m below meth c ls H locs hx hb hr hts hown hlocks hml htb hsz hP hK hD hZ hA hS hl
  have hown : s.vm.findClass RL = some m.cls := hown
  have hl : lv_has ls 4 [(0, .ref (h 0)), (1, .int x), (2, .ref o9)] := hl
  have kc0 : (0 : Int32).toInt = 0 := by decide
  have kc1 : (1 : Int32).toInt = 1 := by decide
  refine lv_aload_n hx hb dL_cell__0 rfl (lv_at hl 2 rfl) ?_
  refine lv_iconst (v := 0) hx hb dL_cell__1 (by decide) ?_
  refine lv_aload_n hx hb dL_cell__2 rfl (lv_at hl 0 rfl) ?_
  refine lv_iload_n hx hb dL_cell__3 rfl (lv_at hl 1 rfl) ?_
  refine kXi (G := G) (ws := [kO (h 0) 4 [.ref (h 1), .ref (h 6), .ref (h 8), .ref (h 12), .ref (h 18), .int 0], kO (h 8) 3 [.ref (h 9), .ref (h 10), .ref (h 11), .int 1, .int 0, .int 0, .int 0], kI (h 9) (G.2 0) 64 (fun _ => 0), kJ o9 (G.2 3) 1 (fun _ => 0)]) (wr := [kJ o9 (G.2 3) 1 (fun _ => 0)]) (vx_runV (As := [.int x]) (rest := [.int 0, .ref o9]) ⟨hx, hb, hml, hown, hts⟩ (c_X4_cell l hst G H.size h x ) (cwV 1 hts gL_cell__X4_cell rfl rfl rfl (by decide +kernel) ⟨Nat.le_of_ble_eq_true rfl, Nat.le_of_ble_eq_true rfl⟩) (kPreV (va_recv hK hP (ci := 4) (q0 := 0) rfl rfl) (kZxb kZTb) (kZxw hZ hS (va_free (wc := [kO (h 0) 4 [.ref (h 1), .ref (h 6), .ref (h 8), .ref (h 12), .ref (h 18), .int 0], kO (h 8) 3 [.ref (h 9), .ref (h 10), .ref (h 11), .int 1, .int 0, .int 0, .int 0], kI (h 9) (G.2 0) 64 (fun _ => 0)]) hD hS hA [0, 1, 2] rfl)) hK hP hD [0, 1, 2] rfl (by decide)) rfl rfl hl.1 rfl (lv_room (Nat.le_of_ble_eq_true rfl)) dL_cell__4 ⟨Nat.le_of_ble_eq_true rfl, Nat.le_of_ble_eq_true rfl⟩) hP hD hS hA [0, 1, 2] [3] rfl rfl (by decide) (by decide) (fun E9 ce9 q9 u9 t9 H locs hp3 hE9 hP hD hS hc1 hc2 hc3 => ?_) (fun r1 _ H locs hw2 hP hD hS => ?_)
  · subst hE9
    have hP : va_P G.1 vwCl [kJ o9 (G.2 3) 1 (fun _ => 0)] H := hP
    have hD : va_D A [kJ o9 (G.2 3) 1 (fun _ => 0)] := hD
    refine vx_catch (own := RL) (name := "java/lang/IndexOutOfBoundsException") hown [] ⟨0, 9, 12, 23⟩ [] (by rw [htb]; rfl) (fun z h9 => nomatch h9) (by decide) (by decide) (hts (.classLink RL 23 "java/lang/IndexOutOfBoundsException") (by decide +kernel)) (va_Nw.use rfl hZ.1.2.1) hc1 hc2 hc3 ?_
    refine W.eq (g2 := F0 m 12 ls [.ref q9]) rfl ?_
    refine W.widen (k := 1) (n := 6) (by omega) (by omega) ?_
    refine lv_astore_n (lv' := [(3, .ref q9), (0, .ref (h 0)), (1, .int x), (2, .ref o9)]) hx hb dL_cell__12 rfl hl (by decide) rfl (fun ls hl => ?_)
    refine lv_iconst (v := 1) hx hb dL_cell__13 (by decide) ?_
    exact kRetI (G := G) (fun _ => 0) hx hb hr hlocks hS dL_cell__14 (kSubP (wc := [kJ o9 (G.2 3) 1 (fun _ => 0)]) hP [0] rfl) (hD.sub (ws' := [kJ o9 (G.2 3) 1 (fun _ => 0)]) [0] (by decide) rfl) (Or.inr ⟨rfl, hp3⟩)
  · have _u := hsz
    have hP : va_P G.1 vwCl [kJ o9 (G.2 3) 1 (fun _ => 0)] H := hP
    have hD : va_D A [kJ o9 (G.2 3) 1 (fun _ => 0)] := hD
    refine W.widen (k := 1) (n := 6) (by omega) (by omega) ?_
    obtain ⟨rfl, hq4⟩ := hw2
    refine lv_i2l (v := 0) hx hb dL_cell__7 (by decide) ?_
    refine va_last (D := G.1) hx hb hK hP hD hS 0 3 rfl rfl (show vp_in _ _ by unfold vp_in; decide) dL_cell__8 (fun H locs hP hD hS => ?_)
    have hP : va_P G.1 vwCl [kJ o9 (G.2 3) 1 (vp_updL (fun _ => 0) (0 : Int32).toNatClampNeg 0)] H := hP
    have hD : va_D A [kJ o9 (G.2 3) 1 (vp_updL (fun _ => 0) (0 : Int32).toNatClampNeg 0)] := hD
    refine lv_goto (tgt := 15) hx hb dL_cell__9 (by decide) ?_
    refine lv_iconst (v := 0) hx hb dL_cell__15 (by decide) ?_
    exact kRetI (G := G) (vp_updL (fun _ => 0) (0 : Int32).toNatClampNeg 0) hx hb hr hlocks hS dL_cell__16 (kSubP (wc := [kJ o9 (G.2 3) 1 (vp_updL (fun _ => 0) (0 : Int32).toNatClampNeg 0)]) hP [0] rfl) (hD.sub (ws' := [kJ o9 (G.2 3) 1 (vp_updL (fun _ => 0) (0 : Int32).toNatClampNeg 0)]) [0] (by decide) rfl) (Or.inl ⟨rfl, rfl, hq4⟩)

set_option maxHeartbeats 4000000 in
set_option maxRecDepth 100000 in
theorem c_L_output (l : Launch) (hst : l.stackTraces = false) (G : gG) (sz : Nat) (h : Nat → Nat) (x : Int32) (o9 : Nat)  : Met l yL_output wsL_output { frames := 7, cells := 1, slots := 6, locals := 110 } (kPc G [.ref (h 0), .int x, .ref o9] [kO (h 0) 4 [.ref (h 1), .ref (h 6), .ref (h 8), .ref (h 12), .ref (h 18), .int 0], kO (h 8) 3 [.ref (h 9), .ref (h 10), .ref (h 11), .int 1, .int 0, .int 0, .int 0], kJ o9 (G.2 3) 1 (fun _ => 0)] sz (kZx kZT (va_A [kO (h 0) 4 [.ref (h 1), .ref (h 6), .ref (h 8), .ref (h 12), .ref (h 18), .int 0], kO (h 8) 3 [.ref (h 9), .ref (h 10), .ref (h 11), .int 1, .int 0, .int 0, .int 0], kJ o9 (G.2 3) 1 (fun _ => 0)] sz))) (kQi G (S := (Nat → Int64)) (fun r _ => r = 1) (fun u => [kJ o9 (G.2 3) 1 u]) (va_A [kO (h 0) 4 [.ref (h 1), .ref (h 6), .ref (h 8), .ref (h 12), .ref (h 18), .int 0], kO (h 8) 3 [.ref (h 9), .ref (h 10), .ref (h 11), .int 1, .int 0, .int 0, .int 0], kJ o9 (G.2 3) 1 (fun _ => 0)] sz)) 1 6 (va_A [kO (h 0) 4 [.ref (h 1), .ref (h 6), .ref (h 8), .ref (h 12), .ref (h 18), .int 0], kO (h 8) 3 [.ref (h 9), .ref (h 10), .ref (h 11), .int 1, .int 0, .int 0, .int 0], kJ o9 (G.2 3) 1 (fun _ => 0)] sz) := by
  refine kBegW (Qc := fun A => kQi G (S := (Nat → Int64)) (fun r _ => r = 1) (fun u => [kJ o9 (G.2 3) 1 u]) A) (by decide) rfl (Nat.le_of_ble_eq_true rfl) ?_
  intro A p e s m below meth c ls H locs hx hb hr hts hown hlocks hml htb hsz hP hK hD hZ hA hS hl
  have hown : s.vm.findClass RL = some m.cls := hown
  have hl : lv_has ls 4 [(0, .ref (h 0)), (1, .int x), (2, .ref o9)] := hl
  have kc0 : (0 : Int32).toInt = 0 := by decide
  have kc1 : (1 : Int32).toInt = 1 := by decide
  refine lv_aload_n hx hb dL_output_0 rfl (lv_at hl 2 rfl) ?_
  refine lv_iconst (v := 0) hx hb dL_output_1 (by decide) ?_
  refine lv_aload_n hx hb dL_output_2 rfl (lv_at hl 0 rfl) ?_
  refine lv_iload_n hx hb dL_output_3 rfl (lv_at hl 1 rfl) ?_
  refine kXi (G := G) (ws := [kO (h 0) 4 [.ref (h 1), .ref (h 6), .ref (h 8), .ref (h 12), .ref (h 18), .int 0], kO (h 8) 3 [.ref (h 9), .ref (h 10), .ref (h 11), .int 1, .int 0, .int 0, .int 0], kJ o9 (G.2 3) 1 (fun _ => 0)]) (wr := [kJ o9 (G.2 3) 1 (fun _ => 0)]) (vx_runV (As := [.int x]) (rest := [.int 0, .ref o9]) ⟨hx, hb, hml, hown, hts⟩ (c_X4_output l hst G H.size h x ) (cwV 1 hts gL_output_X4_output rfl rfl rfl (by decide +kernel) ⟨Nat.le_of_ble_eq_true rfl, Nat.le_of_ble_eq_true rfl⟩) (kPreV (va_recv hK hP (ci := 4) (q0 := 0) rfl rfl) (kZxb kZTb) (kZxw hZ hS (va_free (wc := [kO (h 0) 4 [.ref (h 1), .ref (h 6), .ref (h 8), .ref (h 12), .ref (h 18), .int 0], kO (h 8) 3 [.ref (h 9), .ref (h 10), .ref (h 11), .int 1, .int 0, .int 0, .int 0]]) hD hS hA [0, 1] rfl)) hK hP hD [0, 1] rfl (by decide)) rfl rfl hl.1 rfl (lv_room (Nat.le_of_ble_eq_true rfl)) dL_output_4 ⟨Nat.le_of_ble_eq_true rfl, Nat.le_of_ble_eq_true rfl⟩) hP hD hS hA [0, 1] [2] rfl rfl (by decide) (by decide) (fun E9 ce9 q9 u9 t9 H locs hp3 hE9 hP hD hS hc1 hc2 hc3 => ?_) (fun r1 _ H locs hw2 hP hD hS => ?_)
  · subst hE9
    have hP : va_P G.1 vwCl [kJ o9 (G.2 3) 1 (fun _ => 0)] H := hP
    have hD : va_D A [kJ o9 (G.2 3) 1 (fun _ => 0)] := hD
    refine vx_catch (own := RL) (name := "java/lang/IndexOutOfBoundsException") hown [] ⟨0, 9, 12, 23⟩ [] (by rw [htb]; rfl) (fun z h9 => nomatch h9) (by decide) (by decide) (hts (.classLink RL 23 "java/lang/IndexOutOfBoundsException") (by decide +kernel)) (va_Nw.use rfl hZ.1.2.1) hc1 hc2 hc3 ?_
    refine W.eq (g2 := F0 m 12 ls [.ref q9]) rfl ?_
    refine W.widen (k := 1) (n := 6) (by omega) (by omega) ?_
    refine lv_astore_n (lv' := [(3, .ref q9), (0, .ref (h 0)), (1, .int x), (2, .ref o9)]) hx hb dL_output_12 rfl hl (by decide) rfl (fun ls hl => ?_)
    refine lv_iconst (v := 1) hx hb dL_output_13 (by decide) ?_
    exact kRetI (G := G) (fun _ => 0) hx hb hr hlocks hS dL_output_14 (kSubP (wc := [kJ o9 (G.2 3) 1 (fun _ => 0)]) hP [0] rfl) (hD.sub (ws' := [kJ o9 (G.2 3) 1 (fun _ => 0)]) [0] (by decide) rfl) rfl
  · have _u := hsz
    have hP : va_P G.1 vwCl [kJ o9 (G.2 3) 1 (fun _ => 0)] H := hP
    have hD : va_D A [kJ o9 (G.2 3) 1 (fun _ => 0)] := hD
    refine W.widen (k := 1) (n := 6) (by omega) (by omega) ?_
    exact absurd hw2 id

set_option maxHeartbeats 4000000 in
set_option maxRecDepth 100000 in
theorem c_L_kept (l : Launch) (hst : l.stackTraces = false) (G : gG) (sz : Nat) (h : Nat → Nat) (g : Nat → Option Nat) (sp : Int32) (x : Int32) (o9 : Nat) (hg : g 0 = some (h 14)) : Met l yL_kept wsL_kept { frames := 7, cells := 1, slots := 6, locals := 110 } (kPc G [.ref (h 0), .int x, .ref o9] [kO (h 0) 4 [.ref (h 1), .ref (h 6), .ref (h 8), .ref (h 12), .ref (h 18), .int 0], kO (h 12) 0 [.ref (h 13), .int sp, .int sp, .int 1, .int 0], kR (h 13) (G.2 2) 8 g, kO (h 14) 3 [.ref (h 15), .ref (h 16), .ref (h 17), .int 1, .int 0, .int 0, .int 0], kJ o9 (G.2 3) 1 (fun _ => 0)] sz (kZx kZT (va_A [kO (h 0) 4 [.ref (h 1), .ref (h 6), .ref (h 8), .ref (h 12), .ref (h 18), .int 0], kO (h 12) 0 [.ref (h 13), .int sp, .int sp, .int 1, .int 0], kR (h 13) (G.2 2) 8 g, kO (h 14) 3 [.ref (h 15), .ref (h 16), .ref (h 17), .int 1, .int 0, .int 0, .int 0], kJ o9 (G.2 3) 1 (fun _ => 0)] sz))) (kQi G (S := (Nat → Int64)) (fun r u => (r = 0 ∧ u 0 = 0 ∧ (0 ≤ x.toInt ∧ x.toInt < 1)) ∨ (r = 1 ∧ ¬ (0 ≤ x.toInt ∧ x.toInt < 1))) (fun u => [kJ o9 (G.2 3) 1 u]) (va_A [kO (h 0) 4 [.ref (h 1), .ref (h 6), .ref (h 8), .ref (h 12), .ref (h 18), .int 0], kO (h 12) 0 [.ref (h 13), .int sp, .int sp, .int 1, .int 0], kR (h 13) (G.2 2) 8 g, kO (h 14) 3 [.ref (h 15), .ref (h 16), .ref (h 17), .int 1, .int 0, .int 0, .int 0], kJ o9 (G.2 3) 1 (fun _ => 0)] sz)) 1 6 (va_A [kO (h 0) 4 [.ref (h 1), .ref (h 6), .ref (h 8), .ref (h 12), .ref (h 18), .int 0], kO (h 12) 0 [.ref (h 13), .int sp, .int sp, .int 1, .int 0], kR (h 13) (G.2 2) 8 g, kO (h 14) 3 [.ref (h 15), .ref (h 16), .ref (h 17), .int 1, .int 0, .int 0, .int 0], kJ o9 (G.2 3) 1 (fun _ => 0)] sz) := by
  refine kBegW (Qc := fun A => kQi G (S := (Nat → Int64)) (fun r u => (r = 0 ∧ u 0 = 0 ∧ (0 ≤ x.toInt ∧ x.toInt < 1)) ∨ (r = 1 ∧ ¬ (0 ≤ x.toInt ∧ x.toInt < 1))) (fun u => [kJ o9 (G.2 3) 1 u]) A) (by decide) rfl (Nat.le_of_ble_eq_true rfl) ?_
  intro A p e s m below meth c ls H locs hx hb hr hts hown hlocks hml htb hsz hP hK hD hZ hA hS hl
  have hown : s.vm.findClass RL = some m.cls := hown
  have hl : lv_has ls 4 [(0, .ref (h 0)), (1, .int x), (2, .ref o9)] := hl
  have kc0 : (0 : Int32).toInt = 0 := by decide
  have kc1 : (1 : Int32).toInt = 1 := by decide
  refine lv_aload_n hx hb dL_kept_0 rfl (lv_at hl 2 rfl) ?_
  refine lv_iconst (v := 0) hx hb dL_kept_1 (by decide) ?_
  refine lv_aload_n hx hb dL_kept_2 rfl (lv_at hl 0 rfl) ?_
  refine lv_iload_n hx hb dL_kept_3 rfl (lv_at hl 1 rfl) ?_
  refine kXi (G := G) (ws := [kO (h 0) 4 [.ref (h 1), .ref (h 6), .ref (h 8), .ref (h 12), .ref (h 18), .int 0], kO (h 12) 0 [.ref (h 13), .int sp, .int sp, .int 1, .int 0], kR (h 13) (G.2 2) 8 g, kO (h 14) 3 [.ref (h 15), .ref (h 16), .ref (h 17), .int 1, .int 0, .int 0, .int 0], kJ o9 (G.2 3) 1 (fun _ => 0)]) (wr := [kJ o9 (G.2 3) 1 (fun _ => 0)]) (vx_runV (As := [.int x]) (rest := [.int 0, .ref o9]) ⟨hx, hb, hml, hown, hts⟩ (c_X4_kept l hst G H.size h g sp x hg) (cwV 1 hts gL_kept_X4_kept rfl rfl rfl (by decide +kernel) ⟨Nat.le_of_ble_eq_true rfl, Nat.le_of_ble_eq_true rfl⟩) (kPreV (va_recv hK hP (ci := 4) (q0 := 0) rfl rfl) (kZxb kZTb) (kZxw hZ hS (va_free (wc := [kO (h 0) 4 [.ref (h 1), .ref (h 6), .ref (h 8), .ref (h 12), .ref (h 18), .int 0], kO (h 12) 0 [.ref (h 13), .int sp, .int sp, .int 1, .int 0], kR (h 13) (G.2 2) 8 g, kO (h 14) 3 [.ref (h 15), .ref (h 16), .ref (h 17), .int 1, .int 0, .int 0, .int 0]]) hD hS hA [0, 1, 2, 3] rfl)) hK hP hD [0, 1, 2, 3] rfl (by decide)) rfl rfl hl.1 rfl (lv_room (Nat.le_of_ble_eq_true rfl)) dL_kept_4 ⟨Nat.le_of_ble_eq_true rfl, Nat.le_of_ble_eq_true rfl⟩) hP hD hS hA [0, 1, 2, 3] [4] rfl rfl (by decide) (by decide) (fun E9 ce9 q9 u9 t9 H locs hp3 hE9 hP hD hS hc1 hc2 hc3 => ?_) (fun r1 _ H locs hw2 hP hD hS => ?_)
  · subst hE9
    have hP : va_P G.1 vwCl [kJ o9 (G.2 3) 1 (fun _ => 0)] H := hP
    have hD : va_D A [kJ o9 (G.2 3) 1 (fun _ => 0)] := hD
    refine vx_catch (own := RL) (name := "java/lang/IndexOutOfBoundsException") hown [] ⟨0, 9, 12, 23⟩ [] (by rw [htb]; rfl) (fun z h9 => nomatch h9) (by decide) (by decide) (hts (.classLink RL 23 "java/lang/IndexOutOfBoundsException") (by decide +kernel)) (va_Nw.use rfl hZ.1.2.1) hc1 hc2 hc3 ?_
    refine W.eq (g2 := F0 m 12 ls [.ref q9]) rfl ?_
    refine W.widen (k := 1) (n := 6) (by omega) (by omega) ?_
    refine lv_astore_n (lv' := [(3, .ref q9), (0, .ref (h 0)), (1, .int x), (2, .ref o9)]) hx hb dL_kept_12 rfl hl (by decide) rfl (fun ls hl => ?_)
    refine lv_iconst (v := 1) hx hb dL_kept_13 (by decide) ?_
    exact kRetI (G := G) (fun _ => 0) hx hb hr hlocks hS dL_kept_14 (kSubP (wc := [kJ o9 (G.2 3) 1 (fun _ => 0)]) hP [0] rfl) (hD.sub (ws' := [kJ o9 (G.2 3) 1 (fun _ => 0)]) [0] (by decide) rfl) (Or.inr ⟨rfl, hp3⟩)
  · have _u := hsz
    have hP : va_P G.1 vwCl [kJ o9 (G.2 3) 1 (fun _ => 0)] H := hP
    have hD : va_D A [kJ o9 (G.2 3) 1 (fun _ => 0)] := hD
    refine W.widen (k := 1) (n := 6) (by omega) (by omega) ?_
    obtain ⟨rfl, hq4⟩ := hw2
    refine lv_i2l (v := 0) hx hb dL_kept_7 (by decide) ?_
    refine va_last (D := G.1) hx hb hK hP hD hS 0 3 rfl rfl (show vp_in _ _ by unfold vp_in; decide) dL_kept_8 (fun H locs hP hD hS => ?_)
    have hP : va_P G.1 vwCl [kJ o9 (G.2 3) 1 (vp_updL (fun _ => 0) (0 : Int32).toNatClampNeg 0)] H := hP
    have hD : va_D A [kJ o9 (G.2 3) 1 (vp_updL (fun _ => 0) (0 : Int32).toNatClampNeg 0)] := hD
    refine lv_goto (tgt := 15) hx hb dL_kept_9 (by decide) ?_
    refine lv_iconst (v := 0) hx hb dL_kept_15 (by decide) ?_
    exact kRetI (G := G) (vp_updL (fun _ => 0) (0 : Int32).toNatClampNeg 0) hx hb hr hlocks hS dL_kept_16 (kSubP (wc := [kJ o9 (G.2 3) 1 (vp_updL (fun _ => 0) (0 : Int32).toNatClampNeg 0)]) hP [0] rfl) (hD.sub (ws' := [kJ o9 (G.2 3) 1 (vp_updL (fun _ => 0) (0 : Int32).toNatClampNeg 0)]) [0] (by decide) rfl) (Or.inl ⟨rfl, rfl, hq4⟩)
