set_option maxHeartbeats 4000000 in
set_option maxRecDepth 100000 in
theorem c_L_mark (l : Launch) (hst : l.stackTraces = false) (G : gG) (sz : Nat) (h : Nat → Nat) (size : Int32) (fs : Int32) (f1 : Nat → Int32) (f2 : Nat → Int32) (f3 : Nat → Int32) (fm : Nat → Int32) (fw : Nat → Int32) (tr : Int32) (ch : Int32) (fr : Int32) (pr : Int32) (tm : Int32) (en : Int32) (sp : Int32) (zs : Int32) (far : Int32) (fo : Nat → Int32) (fc : Nat → Int32) (fl : Nat → Int32) (fn : Nat → Int32) (g : Nat → Option Nat) (kd : Nat → Nat → Nat) (ks : Nat → Nat → Int32) (ka : Nat → Nat → Nat → Int32) (x : Int32) (o : Int32) (o9 : Nat) (fj : Nat → Int64) (hz0 : 0 ≤ size.toInt) (hz1 : size.toInt ≤ 80) : Met l yL_mark wsL_mark { frames := 7, cells := 1, slots := 6, locals := 112 } (kPc G [.ref (h 0), .int x, .int o, .ref o9] [kO (h 0) 4 [.ref (h 1), .ref (h 6), .ref (h 8), .ref (h 12), .ref (h 14), .int tr], kO (h 1) 2 [.ref (h 2), .ref (h 3), .ref (h 4), .ref (h 5), .int size], kI (h 5) (G.2 1) 80 fm, kJ o9 (G.2 3) 1 fj] sz (kZx kZT (va_A [kO (h 0) 4 [.ref (h 1), .ref (h 6), .ref (h 8), .ref (h 12), .ref (h 14), .int tr], kO (h 1) 2 [.ref (h 2), .ref (h 3), .ref (h 4), .ref (h 5), .int size], kI (h 5) (G.2 1) 80 fm, kJ o9 (G.2 3) 1 fj] sz))) (kQi G (S := (Nat → Int32) × (Nat → Int64)) (fun _ _ => True) (fun u => [kO (h 0) 4 [.ref (h 1), .ref (h 6), .ref (h 8), .ref (h 12), .ref (h 14), .int tr], kO (h 1) 2 [.ref (h 2), .ref (h 3), .ref (h 4), .ref (h 5), .int size], kI (h 5) (G.2 1) 80 u.1, kJ o9 (G.2 3) 1 u.2]) (va_A [kO (h 0) 4 [.ref (h 1), .ref (h 6), .ref (h 8), .ref (h 12), .ref (h 14), .int tr], kO (h 1) 2 [.ref (h 2), .ref (h 3), .ref (h 4), .ref (h 5), .int size], kI (h 5) (G.2 1) 80 fm, kJ o9 (G.2 3) 1 fj] sz)) 1 6 (va_A [kO (h 0) 4 [.ref (h 1), .ref (h 6), .ref (h 8), .ref (h 12), .ref (h 14), .int tr], kO (h 1) 2 [.ref (h 2), .ref (h 3), .ref (h 4), .ref (h 5), .int size], kI (h 5) (G.2 1) 80 fm, kJ o9 (G.2 3) 1 fj] sz) := by
  refine kBegW (Qc := fun A => kQi G (S := (Nat → Int32) × (Nat → Int64)) (fun _ _ => True) (fun u => [kO (h 0) 4 [.ref (h 1), .ref (h 6), .ref (h 8), .ref (h 12), .ref (h 14), .int tr], kO (h 1) 2 [.ref (h 2), .ref (h 3), .ref (h 4), .ref (h 5), .int size], kI (h 5) (G.2 1) 80 u.1, kJ o9 (G.2 3) 1 u.2]) A) (by decide) rfl (Nat.le_of_ble_eq_true rfl) ?_
  intro A p e s m below meth c ls H locs hx hb hr hts hown hlocks hml htb hsz hP hK hD hZ hA hS hl
  have hown : s.vm.findClass RL = some m.cls := hown
  have hl : lv_has ls 5 [(0, .ref (h 0)), (1, .int x), (2, .int o), (3, .ref o9)] := hl
  have kc0 : (0 : Int32).toInt = 0 := by decide
  have kc1 : (1 : Int32).toInt = 1 := by decide
  refine lv_aload_n hx hb dL_mark_0 rfl (lv_at hl 3 rfl) ?_
  refine lv_iconst (v := 0) hx hb dL_mark_1 (by decide) ?_
  refine lv_aload_n hx hb dL_mark_2 rfl (lv_at hl 0 rfl) ?_
  refine lv_iload_n hx hb dL_mark_3 rfl (lv_at hl 1 rfl) ?_
  refine lv_iload_n hx hb dL_mark_4 rfl (lv_at hl 2 rfl) ?_
  refine kXw (G := G) (ws := [kO (h 0) 4 [.ref (h 1), .ref (h 6), .ref (h 8), .ref (h 12), .ref (h 14), .int tr], kO (h 1) 2 [.ref (h 2), .ref (h 3), .ref (h 4), .ref (h 5), .int size], kI (h 5) (G.2 1) 80 fm, kJ o9 (G.2 3) 1 fj]) (wr := [kJ o9 (G.2 3) 1 fj]) (vx_runV (As := [.int x, .int o]) (rest := [.int 0, .ref o9]) ⟨hx, hb, hml, hown, hts⟩ (c_X4_mark l hst G H.size h size fs f1 f2 f3 fm fw tr ch fr pr tm en sp zs far fo fc fl fn g kd ks ka x o hz0 hz1) (cwV 2 hts gL_mark_X4_mark rfl rfl rfl (by decide +kernel) ⟨Nat.le_of_ble_eq_true rfl, Nat.le_of_ble_eq_true rfl⟩) (kPreV (va_recv hK hP (ci := 4) (q0 := 0) rfl rfl) (kZxb kZTb) (kZxw hZ hS (va_free (wc := [kO (h 0) 4 [.ref (h 1), .ref (h 6), .ref (h 8), .ref (h 12), .ref (h 14), .int tr], kO (h 1) 2 [.ref (h 2), .ref (h 3), .ref (h 4), .ref (h 5), .int size], kI (h 5) (G.2 1) 80 fm]) hD hS hA [0, 1, 2] rfl)) hK hP hD [0, 1, 2] rfl (by decide +kernel)) rfl rfl hl.1 rfl (lv_room (Nat.le_of_ble_eq_true rfl)) dL_mark_5 ⟨Nat.le_of_ble_eq_true rfl, Nat.le_of_ble_eq_true rfl⟩) hP hD hS hA [0, 1, 2] [3] rfl rfl (by decide +kernel) (by decide +kernel) (fun E9 ce9 q9 u9 t9 H locs hp3 hE9 hP hD hS hc1 hc2 hc3 => ?_) (fun r1 u4 H locs hw2 hP hD hS => ?_)
  · rcases hE9 with rfl
    · have _u := hsz
      have hP : va_P G.1 vwCl [kJ o9 (G.2 3) 1 fj, kO (h 0) 4 [.ref (h 1), .ref (h 6), .ref (h 8), .ref (h 12), .ref (h 14), .int tr], kO (h 1) 2 [.ref (h 2), .ref (h 3), .ref (h 4), .ref (h 5), .int size], kI (h 5) (G.2 1) 80 fm] H := hP
      have hD : va_D A [kJ o9 (G.2 3) 1 fj, kO (h 0) 4 [.ref (h 1), .ref (h 6), .ref (h 8), .ref (h 12), .ref (h 14), .int tr], kO (h 1) 2 [.ref (h 2), .ref (h 3), .ref (h 4), .ref (h 5), .int size], kI (h 5) (G.2 1) 80 fm] := hD
      refine vx_catch (own := RL) (name := "java/lang/IndexOutOfBoundsException") hown [] ⟨0, 17, 20, 23⟩ [] (by rw [htb]; rfl) (fun z h9 => nomatch h9) (by decide) (by decide) (hts (.classLink RL 23 "java/lang/IndexOutOfBoundsException") (by decide +kernel)) (va_Nw.use rfl hZ.1.1.2.1) hc1 hc2 hc3 ?_
      refine W.eq (g2 := F0 m 20 ls [.ref q9]) rfl ?_
      refine W.widen (k := 1) (n := 6) (by omega) (by omega) ?_
      refine lv_astore (lv' := [(4, .ref q9), (0, .ref (h 0)), (1, .int x), (2, .int o), (3, .ref o9)]) hx hb dL_mark_20 hl (by decide) rfl (fun ls hl => ?_)
      refine lv_iconst (v := 1) hx hb dL_mark_22 (by decide) ?_
      exact kRetI (G := G) (fm, fj) hx hb hr hlocks hS dL_mark_23 (kSubP (wc := [kO (h 0) 4 [.ref (h 1), .ref (h 6), .ref (h 8), .ref (h 12), .ref (h 14), .int tr], kO (h 1) 2 [.ref (h 2), .ref (h 3), .ref (h 4), .ref (h 5), .int size], kI (h 5) (G.2 1) 80 fm, kJ o9 (G.2 3) 1 fj]) hP [1, 2, 3, 0] rfl) (hD.sub (ws' := [kO (h 0) 4 [.ref (h 1), .ref (h 6), .ref (h 8), .ref (h 12), .ref (h 14), .int tr], kO (h 1) 2 [.ref (h 2), .ref (h 3), .ref (h 4), .ref (h 5), .int size], kI (h 5) (G.2 1) 80 fm, kJ o9 (G.2 3) 1 fj]) [1, 2, 3, 0] (by decide +kernel) rfl) (by trivial)
  · have _u := hsz
    obtain ⟨fm5, rfl⟩ : ∃ z, z = u4 := ⟨_, rfl⟩
    try dsimp only at hw2
    have hP : va_P G.1 vwCl [kJ o9 (G.2 3) 1 fj, kO (h 0) 4 [.ref (h 1), .ref (h 6), .ref (h 8), .ref (h 12), .ref (h 14), .int tr], kO (h 1) 2 [.ref (h 2), .ref (h 3), .ref (h 4), .ref (h 5), .int size], kI (h 5) (G.2 1) 80 fm5] H := hP
    have hD : va_D A [kJ o9 (G.2 3) 1 fj, kO (h 0) 4 [.ref (h 1), .ref (h 6), .ref (h 8), .ref (h 12), .ref (h 14), .int tr], kO (h 1) 2 [.ref (h 2), .ref (h 3), .ref (h 4), .ref (h 5), .int size], kI (h 5) (G.2 1) 80 fm5] := hD
    refine W.widen (k := 1) (n := 6) (by omega) (by omega) ?_
    refine lv_if_eq (tgt := 15) hx hb dL_mark_8 (by decide) (fun c6 => ?_) (fun c6 => ?_)
    · have t6 := i_eq.mp c6
      refine lv_lconst (v := 0) hx hb dL_mark_15 (by decide) ?_
      refine va_last (D := G.1) hx hb hK hP hD hS 0 3 rfl rfl (show vp_in _ _ by unfold vp_in; decide) dL_mark_16 (fun H locs hP hD hS => ?_)
      have hP : va_P G.1 vwCl [kJ o9 (G.2 3) 1 (vp_updL fj (0 : Int32).toNatClampNeg 0), kO (h 0) 4 [.ref (h 1), .ref (h 6), .ref (h 8), .ref (h 12), .ref (h 14), .int tr], kO (h 1) 2 [.ref (h 2), .ref (h 3), .ref (h 4), .ref (h 5), .int size], kI (h 5) (G.2 1) 80 fm5] H := hP
      have hD : va_D A [kJ o9 (G.2 3) 1 (vp_updL fj (0 : Int32).toNatClampNeg 0), kO (h 0) 4 [.ref (h 1), .ref (h 6), .ref (h 8), .ref (h 12), .ref (h 14), .int tr], kO (h 1) 2 [.ref (h 2), .ref (h 3), .ref (h 4), .ref (h 5), .int size], kI (h 5) (G.2 1) 80 fm5] := hD
      refine lv_goto (tgt := 24) hx hb dL_mark_17 (by decide) ?_
      refine lv_iconst (v := 0) hx hb dL_mark_24 (by decide) ?_
      exact kRetI (G := G) (fm5, (vp_updL fj (0 : Int32).toNatClampNeg 0)) hx hb hr hlocks hS dL_mark_25 (kSubP (wc := [kO (h 0) 4 [.ref (h 1), .ref (h 6), .ref (h 8), .ref (h 12), .ref (h 14), .int tr], kO (h 1) 2 [.ref (h 2), .ref (h 3), .ref (h 4), .ref (h 5), .int size], kI (h 5) (G.2 1) 80 fm5, kJ o9 (G.2 3) 1 (vp_updL fj (0 : Int32).toNatClampNeg 0)]) hP [1, 2, 3, 0] rfl) (hD.sub (ws' := [kO (h 0) 4 [.ref (h 1), .ref (h 6), .ref (h 8), .ref (h 12), .ref (h 14), .int tr], kO (h 1) 2 [.ref (h 2), .ref (h 3), .ref (h 4), .ref (h 5), .int size], kI (h 5) (G.2 1) 80 fm5, kJ o9 (G.2 3) 1 (vp_updL fj (0 : Int32).toNatClampNeg 0)]) [1, 2, 3, 0] (by decide +kernel) rfl) (by trivial)
    · have t6 := i_ne.mp c6
      refine lv_lconst (v := 1) hx hb dL_mark_11 (by decide) ?_
      refine lv_goto (tgt := 16) hx hb dL_mark_12 (by decide) ?_
      refine va_last (D := G.1) hx hb hK hP hD hS 0 3 rfl rfl (show vp_in _ _ by unfold vp_in; decide) dL_mark_16 (fun H locs hP hD hS => ?_)
      have hP : va_P G.1 vwCl [kJ o9 (G.2 3) 1 (vp_updL fj (0 : Int32).toNatClampNeg 1), kO (h 0) 4 [.ref (h 1), .ref (h 6), .ref (h 8), .ref (h 12), .ref (h 14), .int tr], kO (h 1) 2 [.ref (h 2), .ref (h 3), .ref (h 4), .ref (h 5), .int size], kI (h 5) (G.2 1) 80 fm5] H := hP
      have hD : va_D A [kJ o9 (G.2 3) 1 (vp_updL fj (0 : Int32).toNatClampNeg 1), kO (h 0) 4 [.ref (h 1), .ref (h 6), .ref (h 8), .ref (h 12), .ref (h 14), .int tr], kO (h 1) 2 [.ref (h 2), .ref (h 3), .ref (h 4), .ref (h 5), .int size], kI (h 5) (G.2 1) 80 fm5] := hD
      refine lv_goto (tgt := 24) hx hb dL_mark_17 (by decide) ?_
      refine lv_iconst (v := 0) hx hb dL_mark_24 (by decide) ?_
      exact kRetI (G := G) (fm5, (vp_updL fj (0 : Int32).toNatClampNeg 1)) hx hb hr hlocks hS dL_mark_25 (kSubP (wc := [kO (h 0) 4 [.ref (h 1), .ref (h 6), .ref (h 8), .ref (h 12), .ref (h 14), .int tr], kO (h 1) 2 [.ref (h 2), .ref (h 3), .ref (h 4), .ref (h 5), .int size], kI (h 5) (G.2 1) 80 fm5, kJ o9 (G.2 3) 1 (vp_updL fj (0 : Int32).toNatClampNeg 1)]) hP [1, 2, 3, 0] rfl) (hD.sub (ws' := [kO (h 0) 4 [.ref (h 1), .ref (h 6), .ref (h 8), .ref (h 12), .ref (h 14), .int tr], kO (h 1) 2 [.ref (h 2), .ref (h 3), .ref (h 4), .ref (h 5), .int size], kI (h 5) (G.2 1) 80 fm5, kJ o9 (G.2 3) 1 (vp_updL fj (0 : Int32).toNatClampNeg 1)]) [1, 2, 3, 0] (by decide +kernel) rfl) (by trivial)

set_option maxHeartbeats 4000000 in
set_option maxRecDepth 100000 in
theorem c_L_watch (l : Launch) (hst : l.stackTraces = false) (G : gG) (sz : Nat) (h : Nat → Nat) (size : Int32) (fs : Int32) (f1 : Nat → Int32) (f2 : Nat → Int32) (f3 : Nat → Int32) (fm : Nat → Int32) (fw : Nat → Int32) (tr : Int32) (ch : Int32) (fr : Int32) (pr : Int32) (tm : Int32) (en : Int32) (sp : Int32) (zs : Int32) (far : Int32) (fo : Nat → Int32) (fc : Nat → Int32) (fl : Nat → Int32) (fn : Nat → Int32) (g : Nat → Option Nat) (kd : Nat → Nat → Nat) (ks : Nat → Nat → Int32) (ka : Nat → Nat → Nat → Int32) (x : Int32) (o : Int32) (o9 : Nat) (fj : Nat → Int64)  : Met l yL_watch wsL_watch { frames := 7, cells := 1, slots := 6, locals := 112 } (kPc G [.ref (h 0), .int x, .int o, .ref o9] [kO (h 0) 4 [.ref (h 1), .ref (h 6), .ref (h 8), .ref (h 12), .ref (h 14), .int tr], kI (h 14) (G.2 1) 64 fw, kJ o9 (G.2 3) 1 fj] sz (kZx kZT (va_A [kO (h 0) 4 [.ref (h 1), .ref (h 6), .ref (h 8), .ref (h 12), .ref (h 14), .int tr], kI (h 14) (G.2 1) 64 fw, kJ o9 (G.2 3) 1 fj] sz))) (kQi G (S := (Nat → Int32) × (Nat → Int64)) (fun r u => (r = 0 ∧ (0 ≤ x.toInt ∧ x.toInt < 64) ∧ ((u.2 0 = 0 ∧ fw x.toNatClampNeg = o) ∨ (u.2 0 = 1 ∧ ¬ fw x.toNatClampNeg = o)) ∧ u.1 = upd fw x.toNatClampNeg (vp_nar .boolean o)) ∨ (r = 1 ∧ ¬ (0 ≤ x.toInt ∧ x.toInt < 64) ∧ u.1 = fw)) (fun u => [kO (h 0) 4 [.ref (h 1), .ref (h 6), .ref (h 8), .ref (h 12), .ref (h 14), .int tr], kI (h 14) (G.2 1) 64 u.1, kJ o9 (G.2 3) 1 u.2]) (va_A [kO (h 0) 4 [.ref (h 1), .ref (h 6), .ref (h 8), .ref (h 12), .ref (h 14), .int tr], kI (h 14) (G.2 1) 64 fw, kJ o9 (G.2 3) 1 fj] sz)) 1 6 (va_A [kO (h 0) 4 [.ref (h 1), .ref (h 6), .ref (h 8), .ref (h 12), .ref (h 14), .int tr], kI (h 14) (G.2 1) 64 fw, kJ o9 (G.2 3) 1 fj] sz) := by
  refine kBegW (Qc := fun A => kQi G (S := (Nat → Int32) × (Nat → Int64)) (fun r u => (r = 0 ∧ (0 ≤ x.toInt ∧ x.toInt < 64) ∧ ((u.2 0 = 0 ∧ fw x.toNatClampNeg = o) ∨ (u.2 0 = 1 ∧ ¬ fw x.toNatClampNeg = o)) ∧ u.1 = upd fw x.toNatClampNeg (vp_nar .boolean o)) ∨ (r = 1 ∧ ¬ (0 ≤ x.toInt ∧ x.toInt < 64) ∧ u.1 = fw)) (fun u => [kO (h 0) 4 [.ref (h 1), .ref (h 6), .ref (h 8), .ref (h 12), .ref (h 14), .int tr], kI (h 14) (G.2 1) 64 u.1, kJ o9 (G.2 3) 1 u.2]) A) (by decide) rfl (Nat.le_of_ble_eq_true rfl) ?_
  intro A p e s m below meth c ls H locs hx hb hr hts hown hlocks hml htb hsz hP hK hD hZ hA hS hl
  have hown : s.vm.findClass RL = some m.cls := hown
  have hl : lv_has ls 5 [(0, .ref (h 0)), (1, .int x), (2, .int o), (3, .ref o9)] := hl
  have kc0 : (0 : Int32).toInt = 0 := by decide
  have kc1 : (1 : Int32).toInt = 1 := by decide
  refine lv_aload_n hx hb dL_watch_0 rfl (lv_at hl 3 rfl) ?_
  refine lv_iconst (v := 0) hx hb dL_watch_1 (by decide) ?_
  refine lv_aload_n hx hb dL_watch_2 rfl (lv_at hl 0 rfl) ?_
  refine lv_iload_n hx hb dL_watch_3 rfl (lv_at hl 1 rfl) ?_
  refine lv_iload_n hx hb dL_watch_4 rfl (lv_at hl 2 rfl) ?_
  refine kXw (G := G) (ws := [kO (h 0) 4 [.ref (h 1), .ref (h 6), .ref (h 8), .ref (h 12), .ref (h 14), .int tr], kI (h 14) (G.2 1) 64 fw, kJ o9 (G.2 3) 1 fj]) (wr := [kJ o9 (G.2 3) 1 fj]) (vx_runV (As := [.int x, .int o]) (rest := [.int 0, .ref o9]) ⟨hx, hb, hml, hown, hts⟩ (c_X4_watch l hst G H.size h size fs f1 f2 f3 fm fw tr ch fr pr tm en sp zs far fo fc fl fn g kd ks ka x o ) (cwV 2 hts gL_watch_X4_watch rfl rfl rfl (by decide +kernel) ⟨Nat.le_of_ble_eq_true rfl, Nat.le_of_ble_eq_true rfl⟩) (kPreV (va_recv hK hP (ci := 4) (q0 := 0) rfl rfl) (kZxb kZTb) (kZxw hZ hS (va_free (wc := [kO (h 0) 4 [.ref (h 1), .ref (h 6), .ref (h 8), .ref (h 12), .ref (h 14), .int tr], kI (h 14) (G.2 1) 64 fw]) hD hS hA [0, 1] rfl)) hK hP hD [0, 1] rfl (by decide +kernel)) rfl rfl hl.1 rfl (lv_room (Nat.le_of_ble_eq_true rfl)) dL_watch_5 ⟨Nat.le_of_ble_eq_true rfl, Nat.le_of_ble_eq_true rfl⟩) hP hD hS hA [0, 1] [2] rfl rfl (by decide +kernel) (by decide +kernel) (fun E9 ce9 q9 u9 t9 H locs hp3 hE9 hP hD hS hc1 hc2 hc3 => ?_) (fun r1 u4 H locs hw2 hP hD hS => ?_)
  · rcases hE9 with rfl
    · have _u := hsz
      have hP : va_P G.1 vwCl [kJ o9 (G.2 3) 1 fj, kO (h 0) 4 [.ref (h 1), .ref (h 6), .ref (h 8), .ref (h 12), .ref (h 14), .int tr], kI (h 14) (G.2 1) 64 fw] H := hP
      have hD : va_D A [kJ o9 (G.2 3) 1 fj, kO (h 0) 4 [.ref (h 1), .ref (h 6), .ref (h 8), .ref (h 12), .ref (h 14), .int tr], kI (h 14) (G.2 1) 64 fw] := hD
      refine vx_catch (own := RL) (name := "java/lang/IndexOutOfBoundsException") hown [] ⟨0, 17, 20, 23⟩ [] (by rw [htb]; rfl) (fun z h9 => nomatch h9) (by decide) (by decide) (hts (.classLink RL 23 "java/lang/IndexOutOfBoundsException") (by decide +kernel)) (va_Nw.use rfl hZ.1.1.2.1) hc1 hc2 hc3 ?_
      refine W.eq (g2 := F0 m 20 ls [.ref q9]) rfl ?_
      refine W.widen (k := 1) (n := 6) (by omega) (by omega) ?_
      refine lv_astore (lv' := [(4, .ref q9), (0, .ref (h 0)), (1, .int x), (2, .int o), (3, .ref o9)]) hx hb dL_watch_20 hl (by decide) rfl (fun ls hl => ?_)
      refine lv_iconst (v := 1) hx hb dL_watch_22 (by decide) ?_
      exact kRetI (G := G) (fw, fj) hx hb hr hlocks hS dL_watch_23 (kSubP (wc := [kO (h 0) 4 [.ref (h 1), .ref (h 6), .ref (h 8), .ref (h 12), .ref (h 14), .int tr], kI (h 14) (G.2 1) 64 fw, kJ o9 (G.2 3) 1 fj]) hP [1, 2, 0] rfl) (hD.sub (ws' := [kO (h 0) 4 [.ref (h 1), .ref (h 6), .ref (h 8), .ref (h 12), .ref (h 14), .int tr], kI (h 14) (G.2 1) 64 fw, kJ o9 (G.2 3) 1 fj]) [1, 2, 0] (by decide +kernel) rfl) (by (try dsimp only); exact (Or.inr ⟨rfl, hp3, rfl⟩))
  · have _u := hsz
    try dsimp only at hw2
    have hP : va_P G.1 vwCl [kJ o9 (G.2 3) 1 fj, kO (h 0) 4 [.ref (h 1), .ref (h 6), .ref (h 8), .ref (h 12), .ref (h 14), .int tr], kI (h 14) (G.2 1) 64 (upd fw x.toNatClampNeg (vp_nar .boolean o))] H := hP
    have hD : va_D A [kJ o9 (G.2 3) 1 fj, kO (h 0) 4 [.ref (h 1), .ref (h 6), .ref (h 8), .ref (h 12), .ref (h 14), .int tr], kI (h 14) (G.2 1) 64 (upd fw x.toNatClampNeg (vp_nar .boolean o))] := hD
    refine W.widen (k := 1) (n := 6) (by omega) (by omega) ?_
    obtain ⟨hv9, hq9⟩ := hw2
    rcases hv9 with ⟨rfl, hv9⟩ | ⟨rfl, hv9⟩
    · have _u := hsz
      refine lv_if_eq (tgt := 15) hx hb dL_watch_8 (by decide) (fun _ => ?_) (fun c9 => absurd c9 (by decide))
      refine lv_lconst (v := 0) hx hb dL_watch_15 (by decide) ?_
      refine va_last (D := G.1) hx hb hK hP hD hS 0 3 rfl rfl (show vp_in _ _ by unfold vp_in; decide) dL_watch_16 (fun H locs hP hD hS => ?_)
      have hP : va_P G.1 vwCl [kJ o9 (G.2 3) 1 (vp_updL fj (0 : Int32).toNatClampNeg 0), kO (h 0) 4 [.ref (h 1), .ref (h 6), .ref (h 8), .ref (h 12), .ref (h 14), .int tr], kI (h 14) (G.2 1) 64 (upd fw x.toNatClampNeg (vp_nar .boolean o))] H := hP
      have hD : va_D A [kJ o9 (G.2 3) 1 (vp_updL fj (0 : Int32).toNatClampNeg 0), kO (h 0) 4 [.ref (h 1), .ref (h 6), .ref (h 8), .ref (h 12), .ref (h 14), .int tr], kI (h 14) (G.2 1) 64 (upd fw x.toNatClampNeg (vp_nar .boolean o))] := hD
      refine lv_goto (tgt := 24) hx hb dL_watch_17 (by decide) ?_
      refine lv_iconst (v := 0) hx hb dL_watch_24 (by decide) ?_
      exact kRetI (G := G) ((upd fw x.toNatClampNeg (vp_nar .boolean o)), (vp_updL fj (0 : Int32).toNatClampNeg 0)) hx hb hr hlocks hS dL_watch_25 (kSubP (wc := [kO (h 0) 4 [.ref (h 1), .ref (h 6), .ref (h 8), .ref (h 12), .ref (h 14), .int tr], kI (h 14) (G.2 1) 64 (upd fw x.toNatClampNeg (vp_nar .boolean o)), kJ o9 (G.2 3) 1 (vp_updL fj (0 : Int32).toNatClampNeg 0)]) hP [1, 2, 0] rfl) (hD.sub (ws' := [kO (h 0) 4 [.ref (h 1), .ref (h 6), .ref (h 8), .ref (h 12), .ref (h 14), .int tr], kI (h 14) (G.2 1) 64 (upd fw x.toNatClampNeg (vp_nar .boolean o)), kJ o9 (G.2 3) 1 (vp_updL fj (0 : Int32).toNatClampNeg 0)]) [1, 2, 0] (by decide +kernel) rfl) (by (try dsimp only); exact (Or.inl ⟨rfl, hq9, (by first | exact Or.inl ⟨rfl, hv9⟩ | exact Or.inr ⟨rfl, hv9⟩), rfl⟩))
    · have _u := hsz
      refine lv_if_eq (tgt := 15) hx hb dL_watch_8 (by decide) (fun c9 => absurd c9 (by decide)) (fun _ => ?_)
      refine lv_lconst (v := 1) hx hb dL_watch_11 (by decide) ?_
      refine lv_goto (tgt := 16) hx hb dL_watch_12 (by decide) ?_
      refine va_last (D := G.1) hx hb hK hP hD hS 0 3 rfl rfl (show vp_in _ _ by unfold vp_in; decide) dL_watch_16 (fun H locs hP hD hS => ?_)
      have hP : va_P G.1 vwCl [kJ o9 (G.2 3) 1 (vp_updL fj (0 : Int32).toNatClampNeg 1), kO (h 0) 4 [.ref (h 1), .ref (h 6), .ref (h 8), .ref (h 12), .ref (h 14), .int tr], kI (h 14) (G.2 1) 64 (upd fw x.toNatClampNeg (vp_nar .boolean o))] H := hP
      have hD : va_D A [kJ o9 (G.2 3) 1 (vp_updL fj (0 : Int32).toNatClampNeg 1), kO (h 0) 4 [.ref (h 1), .ref (h 6), .ref (h 8), .ref (h 12), .ref (h 14), .int tr], kI (h 14) (G.2 1) 64 (upd fw x.toNatClampNeg (vp_nar .boolean o))] := hD
      refine lv_goto (tgt := 24) hx hb dL_watch_17 (by decide) ?_
      refine lv_iconst (v := 0) hx hb dL_watch_24 (by decide) ?_
      exact kRetI (G := G) ((upd fw x.toNatClampNeg (vp_nar .boolean o)), (vp_updL fj (0 : Int32).toNatClampNeg 1)) hx hb hr hlocks hS dL_watch_25 (kSubP (wc := [kO (h 0) 4 [.ref (h 1), .ref (h 6), .ref (h 8), .ref (h 12), .ref (h 14), .int tr], kI (h 14) (G.2 1) 64 (upd fw x.toNatClampNeg (vp_nar .boolean o)), kJ o9 (G.2 3) 1 (vp_updL fj (0 : Int32).toNatClampNeg 1)]) hP [1, 2, 0] rfl) (hD.sub (ws' := [kO (h 0) 4 [.ref (h 1), .ref (h 6), .ref (h 8), .ref (h 12), .ref (h 14), .int tr], kI (h 14) (G.2 1) 64 (upd fw x.toNatClampNeg (vp_nar .boolean o)), kJ o9 (G.2 3) 1 (vp_updL fj (0 : Int32).toNatClampNeg 1)]) [1, 2, 0] (by decide +kernel) rfl) (by (try dsimp only); exact (Or.inl ⟨rfl, hq9, (by first | exact Or.inl ⟨rfl, hv9⟩ | exact Or.inr ⟨rfl, hv9⟩), rfl⟩))
