set_option maxHeartbeats 4000000 in
set_option maxRecDepth 100000 in
theorem c_X1_doLine (l : Launch) (G : gG) (sz : Nat) (h : Nat → Nat)  : Met l yX1_doLine wsX1_doLine { frames := 1, cells := 0, slots := 0, locals := 21 } (kPc G [.ref (h 6), .ref (h 1)] [kO (h 6) 1 [.ref (h 8), .ref (h 7), .int (-1)], kO (h 8) 3 [.ref (h 9), .ref (h 10), .ref (h 11), .int 1, .int 0, .int 0, .int 0], kI (h 11) (G.2 0) 16 (fun _ => 0), kO (h 1) 2 [.ref (h 2), .ref (h 3), .ref (h 4), .ref (h 5), .int 0]] sz (fun _ => True)) (kQi G (S := Unit) (fun r _ => r = 0) (fun _ => [kO (h 6) 1 [.ref (h 8), .ref (h 7), .int (-1)], kO (h 8) 3 [.ref (h 9), .ref (h 10), .ref (h 11), .int 1, .int 0, .int 0, .int 0], kI (h 11) (G.2 0) 16 (fun _ => 0), kO (h 1) 2 [.ref (h 2), .ref (h 3), .ref (h 4), .ref (h 5), .int 0]]) (va_A [kO (h 6) 1 [.ref (h 8), .ref (h 7), .int (-1)], kO (h 8) 3 [.ref (h 9), .ref (h 10), .ref (h 11), .int 1, .int 0, .int 0, .int 0], kI (h 11) (G.2 0) 16 (fun _ => 0), kO (h 1) 2 [.ref (h 2), .ref (h 3), .ref (h 4), .ref (h 5), .int 0]] sz)) 0 0 (va_A [kO (h 6) 1 [.ref (h 8), .ref (h 7), .int (-1)], kO (h 8) 3 [.ref (h 9), .ref (h 10), .ref (h 11), .int 1, .int 0, .int 0, .int 0], kI (h 11) (G.2 0) 16 (fun _ => 0), kO (h 1) 2 [.ref (h 2), .ref (h 3), .ref (h 4), .ref (h 5), .int 0]] sz) := by
  refine kBeg (Qc := fun A => kQi G (S := Unit) (fun r _ => r = 0) (fun _ => [kO (h 6) 1 [.ref (h 8), .ref (h 7), .int (-1)], kO (h 8) 3 [.ref (h 9), .ref (h 10), .ref (h 11), .int 1, .int 0, .int 0, .int 0], kI (h 11) (G.2 0) 16 (fun _ => 0), kO (h 1) 2 [.ref (h 2), .ref (h 3), .ref (h 4), .ref (h 5), .int 0]]) A) (by decide) rfl (Nat.le_of_ble_eq_true rfl) ?_
  intro A p e s m below meth c ls H locs hx hb hr hts hown hlocks hnm hml hsz hP hK hD hZ hA hS hl
  have hown : s.vm.findClass RX1 = some m.cls := hown
  have hl : lv_has ls 4 [(0, .ref (h 6)), (1, .ref (h 1))] := hl
  have in1 : ∀ w ∈ wsX10, w ∈ wsX1_doLine := by decide +kernel
  have in3 : ∀ w ∈ wsX30, w ∈ wsX1_doLine := by decide +kernel
  have kcm1 : (-1 : Int32).toInt = -1 := by decide
  have kc0 : (0 : Int32).toInt = 0 := by decide
  have kc1 : (1 : Int32).toInt = 1 := by decide
  refine lv_aload_n hx hb dX1_doLine_0 rfl (lv_at hl 0 rfl) ?_
  refine lv_iconst (v := (-1)) hx hb dX1_doLine_1 (by decide) ?_
  refine va_put (D := G.1) (ci := 1) (v := .int (-1)) (ty := .int) (C := RX1) (T := TX1) (N := 3) hx hb hts in1 tyX1 tyX1_ok nmX1 hown hK hP hD hS 0 rfl rfl 2 (by decide) (hts (.fieldLink RX1 22 "TraceDebugger$Machine" "changed" "I") (by decide +kernel)) (fun _ h9 => h9) rfl (by decide +kernel) rfl rfl (Nat.le_of_ble_eq_true rfl) dX1_doLine_2 (fun H locs hP hD hS => ?_)
  have hP : va_P G.1 vwCl [kO (h 6) 1 [.ref (h 8), .ref (h 7), .int (-1)], kO (h 8) 3 [.ref (h 9), .ref (h 10), .ref (h 11), .int 1, .int 0, .int 0, .int 0], kI (h 11) (G.2 0) 16 (fun _ => 0), kO (h 1) 2 [.ref (h 2), .ref (h 3), .ref (h 4), .ref (h 5), .int 0]] H := hP
  have hD : va_D A [kO (h 6) 1 [.ref (h 8), .ref (h 7), .int (-1)], kO (h 8) 3 [.ref (h 9), .ref (h 10), .ref (h 11), .int 1, .int 0, .int 0, .int 0], kI (h 11) (G.2 0) 16 (fun _ => 0), kO (h 1) 2 [.ref (h 2), .ref (h 3), .ref (h 4), .ref (h 5), .int 0]] := hD
  refine lv_aload_n hx hb dX1_doLine_5 rfl (lv_at hl 0 rfl) ?_
  refine va_get (D := G.1) (ci := 1) (v := .ref (h 8)) (C := RX1) (T := TX1) (N := 3) hx hb hts in1 hown hK hP 0 rfl rfl 0 (by decide) (hts (.fieldLink RX1 12 "TraceDebugger$Machine" "now" "LTraceDebugger$State;") (by decide +kernel)) (fun _ h9 => h9) rfl dX1_doLine_6 ?_
  refine va_get (D := G.1) (ci := 3) (v := .ref (h 11)) (C := RX3) (T := TX3) (N := 7) hx hb hts in3 hown hK hP 1 rfl rfl 2 (by decide) (hts (.fieldLink RX1 26 "TraceDebugger$State" "lines" "[I") (by decide +kernel)) (fun _ h9 => h9) rfl dX1_doLine_9 ?_
  refine lv_aload_n hx hb dX1_doLine_12 rfl (lv_at hl 0 rfl) ?_
  refine va_get (D := G.1) (ci := 1) (v := .ref (h 8)) (C := RX1) (T := TX1) (N := 3) hx hb hts in1 hown hK hP 0 rfl rfl 0 (by decide) (hts (.fieldLink RX1 12 "TraceDebugger$Machine" "now" "LTraceDebugger$State;") (by decide +kernel)) (fun _ h9 => h9) rfl dX1_doLine_13 ?_
  refine va_get (D := G.1) (ci := 3) (v := .int 1) (C := RX3) (T := TX3) (N := 7) hx hb hts in3 hown hK hP 1 rfl rfl 3 (by decide) (hts (.fieldLink RX1 29 "TraceDebugger$State" "frames" "I") (by decide +kernel)) (fun _ h9 => h9) rfl dX1_doLine_16 ?_
  refine lv_iconst (v := 1) hx hb dX1_doLine_19 (by decide) ?_
  refine lv_isub hx hb dX1_doLine_20 ?_
  refine kTop (y := 0) (by decide) ?_
  refine va_iald (D := G.1) hx hb hK hP 2 0 rfl rfl (show vp_in _ _ by unfold vp_in; decide) dX1_doLine_21 ?_
  refine kTop (y := 0) rfl ?_
  refine lv_istore_n (lv' := [(2, .int 0), (0, .ref (h 6)), (1, .ref (h 1))]) hx hb dX1_doLine_22 rfl hl (by decide) rfl (fun ls hl => ?_)
  refine lv_aload_n hx hb dX1_doLine_23 rfl (lv_at hl 2 rfl) ?_
  refine lv_iload_n hx hb dX1_doLine_24 rfl (lv_at hl 0 rfl) ?_
  refine kCi (G := G) (ws := [kO (h 6) 1 [.ref (h 8), .ref (h 7), .int (-1)], kO (h 8) 3 [.ref (h 9), .ref (h 10), .ref (h 11), .int 1, .int 0, .int 0, .int 0], kI (h 11) (G.2 0) 16 (fun _ => 0), kO (h 1) 2 [.ref (h 2), .ref (h 3), .ref (h 4), .ref (h 5), .int 0]]) (wr := [kO (h 6) 1 [.ref (h 8), .ref (h 7), .int (-1)], kO (h 8) 3 [.ref (h 9), .ref (h 10), .ref (h 11), .int 1, .int 0, .int 0, .int 0], kI (h 11) (G.2 0) 16 (fun _ => 0)]) (va_runV (As := [.int 0]) (rest := []) ⟨hx, hb, hml, hown, hts⟩ (c_X2_has l G H.size (h 1) (h 2) (h 3) (h 4) (h 5) 0 0 ) (cwV 1 hts gX1_doLine_X2_has rfl rfl rfl (by decide +kernel) ⟨Nat.le_of_ble_eq_true rfl, Nat.le_of_ble_eq_true rfl⟩) (kPreV (va_recv hK hP (ci := 2) (q0 := 3) rfl rfl) kZ0 kZt hK hP hD [3] rfl (by decide)) rfl rfl hl.1 rfl (lv_room (Nat.le_of_ble_eq_true rfl)) dX1_doLine_25 ⟨Nat.le_of_ble_eq_true rfl, Nat.le_of_ble_eq_true rfl⟩) hP hD hS hA [3] [0, 1, 2] rfl rfl (by decide) (by decide) (fun r2 u1 H locs hw3 hP hD hS => ?_)
  try dsimp only at hw3
  have hP : va_P G.1 vwCl [kO (h 6) 1 [.ref (h 8), .ref (h 7), .int (-1)], kO (h 8) 3 [.ref (h 9), .ref (h 10), .ref (h 11), .int 1, .int 0, .int 0, .int 0], kI (h 11) (G.2 0) 16 (fun _ => 0), kO (h 1) 2 [.ref (h 2), .ref (h 3), .ref (h 4), .ref (h 5), .int 0]] H := hP
  have hD : va_D A [kO (h 6) 1 [.ref (h 8), .ref (h 7), .int (-1)], kO (h 8) 3 [.ref (h 9), .ref (h 10), .ref (h 11), .int 1, .int 0, .int 0, .int 0], kI (h 11) (G.2 0) 16 (fun _ => 0), kO (h 1) 2 [.ref (h 2), .ref (h 3), .ref (h 4), .ref (h 5), .int 0]] := hD
  obtain rfl : r2 = 0 := by
    rcases hw3 with ⟨_, h9⟩ | ⟨h9, _⟩
    · exact absurd h9 (by decide)
    · exact h9
  refine lv_if_ne (tgt := 33) hx hb dX1_doLine_28 (by decide) (fun c9 => absurd c9 (by decide)) (fun _ => ?_)
  refine lv_iconst (v := 0) hx hb dX1_doLine_31 (by decide) ?_
  exact kRetZ (G := G) () hx hb hr hlocks hS dX1_doLine_32 rfl (kSubP (wc := [kO (h 6) 1 [.ref (h 8), .ref (h 7), .int (-1)], kO (h 8) 3 [.ref (h 9), .ref (h 10), .ref (h 11), .int 1, .int 0, .int 0, .int 0], kI (h 11) (G.2 0) 16 (fun _ => 0), kO (h 1) 2 [.ref (h 2), .ref (h 3), .ref (h 4), .ref (h 5), .int 0]]) hP [0, 1, 2, 3] rfl) (hD.sub (ws' := [kO (h 6) 1 [.ref (h 8), .ref (h 7), .int (-1)], kO (h 8) 3 [.ref (h 9), .ref (h 10), .ref (h 11), .int 1, .int 0, .int 0, .int 0], kI (h 11) (G.2 0) 16 (fun _ => 0), kO (h 1) 2 [.ref (h 2), .ref (h 3), .ref (h 4), .ref (h 5), .int 0]]) [0, 1, 2, 3] (by decide) rfl) rfl

set_option maxHeartbeats 4000000 in
set_option maxRecDepth 100000 in
theorem c_X4_advance0 (l : Launch) (G : gG) (sz : Nat) (h : Nat → Nat)  : Met l yX4_advance wsX4_advance { frames := 2, cells := 0, slots := 0, locals := 44 } (kPc G [.ref (h 0)] [kO (h 0) 4 [.ref (h 1), .ref (h 6), .ref (h 8), .ref (h 12), .ref (h 18), .int 0], kO (h 6) 1 [.ref (h 8), .ref (h 7), .int (-1)], kO (h 8) 3 [.ref (h 9), .ref (h 10), .ref (h 11), .int 1, .int 0, .int 0, .int 0], kI (h 11) (G.2 0) 16 (fun _ => 0), kO (h 1) 2 [.ref (h 2), .ref (h 3), .ref (h 4), .ref (h 5), .int 0]] sz (fun _ => True)) (kQi G (S := Unit) (fun r _ => r = 4) (fun _ => [kO (h 0) 4 [.ref (h 1), .ref (h 6), .ref (h 8), .ref (h 12), .ref (h 18), .int 1], kO (h 6) 1 [.ref (h 8), .ref (h 7), .int (-1)], kO (h 8) 3 [.ref (h 9), .ref (h 10), .ref (h 11), .int 1, .int 0, .int 0, .int 0], kI (h 11) (G.2 0) 16 (fun _ => 0), kO (h 1) 2 [.ref (h 2), .ref (h 3), .ref (h 4), .ref (h 5), .int 0]]) (va_A [kO (h 0) 4 [.ref (h 1), .ref (h 6), .ref (h 8), .ref (h 12), .ref (h 18), .int 0], kO (h 6) 1 [.ref (h 8), .ref (h 7), .int (-1)], kO (h 8) 3 [.ref (h 9), .ref (h 10), .ref (h 11), .int 1, .int 0, .int 0, .int 0], kI (h 11) (G.2 0) 16 (fun _ => 0), kO (h 1) 2 [.ref (h 2), .ref (h 3), .ref (h 4), .ref (h 5), .int 0]] sz)) 0 0 (va_A [kO (h 0) 4 [.ref (h 1), .ref (h 6), .ref (h 8), .ref (h 12), .ref (h 18), .int 0], kO (h 6) 1 [.ref (h 8), .ref (h 7), .int (-1)], kO (h 8) 3 [.ref (h 9), .ref (h 10), .ref (h 11), .int 1, .int 0, .int 0, .int 0], kI (h 11) (G.2 0) 16 (fun _ => 0), kO (h 1) 2 [.ref (h 2), .ref (h 3), .ref (h 4), .ref (h 5), .int 0]] sz) := by
  refine kBeg (Qc := fun A => kQi G (S := Unit) (fun r _ => r = 4) (fun _ => [kO (h 0) 4 [.ref (h 1), .ref (h 6), .ref (h 8), .ref (h 12), .ref (h 18), .int 1], kO (h 6) 1 [.ref (h 8), .ref (h 7), .int (-1)], kO (h 8) 3 [.ref (h 9), .ref (h 10), .ref (h 11), .int 1, .int 0, .int 0, .int 0], kI (h 11) (G.2 0) 16 (fun _ => 0), kO (h 1) 2 [.ref (h 2), .ref (h 3), .ref (h 4), .ref (h 5), .int 0]]) A) (by decide) rfl (Nat.le_of_ble_eq_true rfl) ?_
  intro A p e s m below meth c ls H locs hx hb hr hts hown hlocks hnm hml hsz hP hK hD hZ hA hS hl
  have hown : s.vm.findClass RX4 = some m.cls := hown
  have hl : lv_has ls 1 [(0, .ref (h 0))] := hl
  have in3 : ∀ w ∈ wsX30, w ∈ wsX4_advance := by decide +kernel
  have in4 : ∀ w ∈ wsX40, w ∈ wsX4_advance := by decide +kernel
  have kc1 : (1 : Int32).toInt = 1 := by decide
  have kc4 : (4 : Int32).toInt = 4 := by decide
  have kc2000 : (2000 : Int32).toInt = 2000 := by decide
  refine lv_aload_n hx hb dX4_advance_0 rfl (lv_at hl 0 rfl) ?_
  refine va_get (D := G.1) (ci := 4) (v := .int 0) (C := RX4) (T := TX4) (N := 6) hx hb hts in4 hown hK hP 0 rfl rfl 5 (by decide) (hts (.fieldLink RX4 108 "TraceDebugger" "trapped" "Z") (by decide +kernel)) (fun _ h9 => h9) rfl dX4_advance_1 ?_
  refine lv_if_eq (tgt := 9) hx hb dX4_advance_4 (by decide) (fun _ => ?_) (fun c9 => absurd c9 (by decide))
  refine lv_aload_n hx hb dX4_advance_9 rfl (lv_at hl 0 rfl) ?_
  refine va_get (D := G.1) (ci := 4) (v := .ref (h 8)) (C := RX4) (T := TX4) (N := 6) hx hb hts in4 hown hK hP 0 rfl rfl 2 (by decide) (hts (.fieldLink RX4 27 "TraceDebugger" "now" "LTraceDebugger$State;") (by decide +kernel)) (fun _ h9 => h9) rfl dX4_advance_10 ?_
  refine va_get (D := G.1) (ci := 3) (v := .int 0) (C := RX3) (T := TX3) (N := 7) hx hb hts in3 hown hK hP 2 rfl rfl 6 (by decide) (hts (.fieldLink RX4 147 "TraceDebugger$State" "ended" "Z") (by decide +kernel)) (fun _ h9 => h9) rfl dX4_advance_13 ?_
  refine lv_if_eq (tgt := 21) hx hb dX4_advance_16 (by decide) (fun _ => ?_) (fun c9 => absurd c9 (by decide))
  refine lv_aload_n hx hb dX4_advance_21 rfl (lv_at hl 0 rfl) ?_
  refine va_get (D := G.1) (ci := 4) (v := .ref (h 8)) (C := RX4) (T := TX4) (N := 6) hx hb hts in4 hown hK hP 0 rfl rfl 2 (by decide) (hts (.fieldLink RX4 27 "TraceDebugger" "now" "LTraceDebugger$State;") (by decide +kernel)) (fun _ h9 => h9) rfl dX4_advance_22 ?_
  refine va_get (D := G.1) (ci := 3) (v := .int 0) (C := RX3) (T := TX3) (N := 7) hx hb hts in3 hown hK hP 2 rfl rfl 5 (by decide) (hts (.fieldLink RX4 57 "TraceDebugger$State" "time" "I") (by decide +kernel)) (fun _ h9 => h9) rfl dX4_advance_25 ?_
  refine lv_sipush (v := 2000) hx hb dX4_advance_28 (by decide) ?_
  refine lv_icmp_ne (tgt := 36) hx hb dX4_advance_31 (by decide) (fun _ => ?_) (fun c9 => absurd c9 (by decide))
  refine lv_aload_n hx hb dX4_advance_36 rfl (lv_at hl 0 rfl) ?_
  refine va_get (D := G.1) (ci := 4) (v := .ref (h 6)) (C := RX4) (T := TX4) (N := 6) hx hb hts in4 hown hK hP 0 rfl rfl 1 (by decide) (hts (.fieldLink RX4 19 "TraceDebugger" "machine" "LTraceDebugger$Machine;") (by decide +kernel)) (fun _ h9 => h9) rfl dX4_advance_37 ?_
  refine lv_aload_n hx hb dX4_advance_40 rfl (lv_at hl 0 rfl) ?_
  refine va_get (D := G.1) (ci := 4) (v := .ref (h 1)) (C := RX4) (T := TX4) (N := 6) hx hb hts in4 hown hK hP 0 rfl rfl 0 (by decide) (hts (.fieldLink RX4 10 "TraceDebugger" "program" "LTraceDebugger$Program;") (by decide +kernel)) (fun _ h9 => h9) rfl dX4_advance_41 ?_
  refine kCi (G := G) (ws := [kO (h 0) 4 [.ref (h 1), .ref (h 6), .ref (h 8), .ref (h 12), .ref (h 18), .int 0], kO (h 6) 1 [.ref (h 8), .ref (h 7), .int (-1)], kO (h 8) 3 [.ref (h 9), .ref (h 10), .ref (h 11), .int 1, .int 0, .int 0, .int 0], kI (h 11) (G.2 0) 16 (fun _ => 0), kO (h 1) 2 [.ref (h 2), .ref (h 3), .ref (h 4), .ref (h 5), .int 0]]) (wr := [kO (h 0) 4 [.ref (h 1), .ref (h 6), .ref (h 8), .ref (h 12), .ref (h 18), .int 0]]) (va_runV (As := [.ref (h 1)]) (rest := []) ⟨hx, hb, hml, hown, hts⟩ (c_X1_doLine l G H.size h ) (cwV 1 hts gX4_advance_X1_doLine rfl rfl rfl (by decide +kernel) ⟨Nat.le_of_ble_eq_true rfl, Nat.le_of_ble_eq_true rfl⟩) (kPreV (va_recv hK hP (ci := 1) (q0 := 1) rfl rfl) kZ0 kZt hK hP hD [1, 2, 3, 4] rfl (by decide)) rfl rfl hl.1 rfl (lv_room (Nat.le_of_ble_eq_true rfl)) dX4_advance_44 ⟨Nat.le_of_ble_eq_true rfl, Nat.le_of_ble_eq_true rfl⟩) hP hD hS hA [1, 2, 3, 4] [0] rfl rfl (by decide) (by decide) (fun r2 u1 H locs hw3 hP hD hS => ?_)
  try dsimp only at hw3
  have hP : va_P G.1 vwCl [kO (h 0) 4 [.ref (h 1), .ref (h 6), .ref (h 8), .ref (h 12), .ref (h 18), .int 0], kO (h 6) 1 [.ref (h 8), .ref (h 7), .int (-1)], kO (h 8) 3 [.ref (h 9), .ref (h 10), .ref (h 11), .int 1, .int 0, .int 0, .int 0], kI (h 11) (G.2 0) 16 (fun _ => 0), kO (h 1) 2 [.ref (h 2), .ref (h 3), .ref (h 4), .ref (h 5), .int 0]] H := hP
  have hD : va_D A [kO (h 0) 4 [.ref (h 1), .ref (h 6), .ref (h 8), .ref (h 12), .ref (h 18), .int 0], kO (h 6) 1 [.ref (h 8), .ref (h 7), .int (-1)], kO (h 8) 3 [.ref (h 9), .ref (h 10), .ref (h 11), .int 1, .int 0, .int 0, .int 0], kI (h 11) (G.2 0) 16 (fun _ => 0), kO (h 1) 2 [.ref (h 2), .ref (h 3), .ref (h 4), .ref (h 5), .int 0]] := hD
  subst hw3
  refine lv_if_ne (tgt := 57) hx hb dX4_advance_47 (by decide) (fun c9 => absurd c9 (by decide)) (fun _ => ?_)
  refine lv_aload_n hx hb dX4_advance_50 rfl (lv_at hl 0 rfl) ?_
  refine lv_iconst (v := 1) hx hb dX4_advance_51 (by decide) ?_
  refine va_put (D := G.1) (ci := 4) (v := .int 1) (ty := .boolean) (C := RX4) (T := TX4) (N := 6) hx hb hts in4 tyX4 tyX4_ok nmX4 hown hK hP hD hS 0 rfl rfl 5 (by decide) (hts (.fieldLink RX4 108 "TraceDebugger" "trapped" "Z") (by decide +kernel)) (fun _ h9 => h9) rfl (by decide +kernel) rfl rfl (Nat.le_of_ble_eq_true rfl) dX4_advance_52 (fun H locs hP hD hS => ?_)
  have hP : va_P G.1 vwCl [kO (h 0) 4 [.ref (h 1), .ref (h 6), .ref (h 8), .ref (h 12), .ref (h 18), .int 1], kO (h 6) 1 [.ref (h 8), .ref (h 7), .int (-1)], kO (h 8) 3 [.ref (h 9), .ref (h 10), .ref (h 11), .int 1, .int 0, .int 0, .int 0], kI (h 11) (G.2 0) 16 (fun _ => 0), kO (h 1) 2 [.ref (h 2), .ref (h 3), .ref (h 4), .ref (h 5), .int 0]] H := hP
  have hD : va_D A [kO (h 0) 4 [.ref (h 1), .ref (h 6), .ref (h 8), .ref (h 12), .ref (h 18), .int 1], kO (h 6) 1 [.ref (h 8), .ref (h 7), .int (-1)], kO (h 8) 3 [.ref (h 9), .ref (h 10), .ref (h 11), .int 1, .int 0, .int 0, .int 0], kI (h 11) (G.2 0) 16 (fun _ => 0), kO (h 1) 2 [.ref (h 2), .ref (h 3), .ref (h 4), .ref (h 5), .int 0]] := hD
  refine lv_iconst (v := 4) hx hb dX4_advance_55 (by decide) ?_
  exact kRetI (G := G) () hx hb hr hlocks hS dX4_advance_56 (kSubP (wc := [kO (h 0) 4 [.ref (h 1), .ref (h 6), .ref (h 8), .ref (h 12), .ref (h 18), .int 1], kO (h 6) 1 [.ref (h 8), .ref (h 7), .int (-1)], kO (h 8) 3 [.ref (h 9), .ref (h 10), .ref (h 11), .int 1, .int 0, .int 0, .int 0], kI (h 11) (G.2 0) 16 (fun _ => 0), kO (h 1) 2 [.ref (h 2), .ref (h 3), .ref (h 4), .ref (h 5), .int 0]]) hP [0, 1, 2, 3, 4] rfl) (hD.sub (ws' := [kO (h 0) 4 [.ref (h 1), .ref (h 6), .ref (h 8), .ref (h 12), .ref (h 18), .int 1], kO (h 6) 1 [.ref (h 8), .ref (h 7), .int (-1)], kO (h 8) 3 [.ref (h 9), .ref (h 10), .ref (h 11), .int 1, .int 0, .int 0, .int 0], kI (h 11) (G.2 0) 16 (fun _ => 0), kO (h 1) 2 [.ref (h 2), .ref (h 3), .ref (h 4), .ref (h 5), .int 0]]) [0, 1, 2, 3, 4] (by decide) rfl) rfl

set_option maxHeartbeats 4000000 in
set_option maxRecDepth 100000 in
theorem c_X4_advance1 (l : Launch) (G : gG) (sz : Nat) (h : Nat → Nat)  : Met l yX4_advance wsX4_advance { frames := 0, cells := 0, slots := 0, locals := 0 } (kPc G [.ref (h 0)] [kO (h 0) 4 [.ref (h 1), .ref (h 6), .ref (h 8), .ref (h 12), .ref (h 18), .int 1], kO (h 6) 1 [.ref (h 8), .ref (h 7), .int (-1)], kO (h 8) 3 [.ref (h 9), .ref (h 10), .ref (h 11), .int 1, .int 0, .int 0, .int 0], kI (h 11) (G.2 0) 16 (fun _ => 0), kO (h 1) 2 [.ref (h 2), .ref (h 3), .ref (h 4), .ref (h 5), .int 0]] sz (fun _ => True)) (kQi G (S := Unit) (fun r _ => r = 4) (fun _ => [kO (h 0) 4 [.ref (h 1), .ref (h 6), .ref (h 8), .ref (h 12), .ref (h 18), .int 1], kO (h 6) 1 [.ref (h 8), .ref (h 7), .int (-1)], kO (h 8) 3 [.ref (h 9), .ref (h 10), .ref (h 11), .int 1, .int 0, .int 0, .int 0], kI (h 11) (G.2 0) 16 (fun _ => 0), kO (h 1) 2 [.ref (h 2), .ref (h 3), .ref (h 4), .ref (h 5), .int 0]]) (va_A [kO (h 0) 4 [.ref (h 1), .ref (h 6), .ref (h 8), .ref (h 12), .ref (h 18), .int 1], kO (h 6) 1 [.ref (h 8), .ref (h 7), .int (-1)], kO (h 8) 3 [.ref (h 9), .ref (h 10), .ref (h 11), .int 1, .int 0, .int 0, .int 0], kI (h 11) (G.2 0) 16 (fun _ => 0), kO (h 1) 2 [.ref (h 2), .ref (h 3), .ref (h 4), .ref (h 5), .int 0]] sz)) 0 0 (va_A [kO (h 0) 4 [.ref (h 1), .ref (h 6), .ref (h 8), .ref (h 12), .ref (h 18), .int 1], kO (h 6) 1 [.ref (h 8), .ref (h 7), .int (-1)], kO (h 8) 3 [.ref (h 9), .ref (h 10), .ref (h 11), .int 1, .int 0, .int 0, .int 0], kI (h 11) (G.2 0) 16 (fun _ => 0), kO (h 1) 2 [.ref (h 2), .ref (h 3), .ref (h 4), .ref (h 5), .int 0]] sz) := by
  refine kBeg (Qc := fun A => kQi G (S := Unit) (fun r _ => r = 4) (fun _ => [kO (h 0) 4 [.ref (h 1), .ref (h 6), .ref (h 8), .ref (h 12), .ref (h 18), .int 1], kO (h 6) 1 [.ref (h 8), .ref (h 7), .int (-1)], kO (h 8) 3 [.ref (h 9), .ref (h 10), .ref (h 11), .int 1, .int 0, .int 0, .int 0], kI (h 11) (G.2 0) 16 (fun _ => 0), kO (h 1) 2 [.ref (h 2), .ref (h 3), .ref (h 4), .ref (h 5), .int 0]]) A) (by decide) rfl (Nat.le_of_ble_eq_true rfl) ?_
  intro A p e s m below meth c ls H locs hx hb hr hts hown hlocks hnm hml hsz hP hK hD hZ hA hS hl
  have hown : s.vm.findClass RX4 = some m.cls := hown
  have hl : lv_has ls 1 [(0, .ref (h 0))] := hl
  have in4 : ∀ w ∈ wsX40, w ∈ wsX4_advance := by decide +kernel
  have kc4 : (4 : Int32).toInt = 4 := by decide
  refine lv_aload_n hx hb dX4_advance_0 rfl (lv_at hl 0 rfl) ?_
  refine va_get (D := G.1) (ci := 4) (v := .int 1) (C := RX4) (T := TX4) (N := 6) hx hb hts in4 hown hK hP 0 rfl rfl 5 (by decide) (hts (.fieldLink RX4 108 "TraceDebugger" "trapped" "Z") (by decide +kernel)) (fun _ h9 => h9) rfl dX4_advance_1 ?_
  refine lv_if_eq (tgt := 9) hx hb dX4_advance_4 (by decide) (fun c9 => absurd c9 (by decide)) (fun _ => ?_)
  refine lv_iconst (v := 4) hx hb dX4_advance_7 (by decide) ?_
  exact kRetI (G := G) () hx hb hr hlocks hS dX4_advance_8 (kSubP (wc := [kO (h 0) 4 [.ref (h 1), .ref (h 6), .ref (h 8), .ref (h 12), .ref (h 18), .int 1], kO (h 6) 1 [.ref (h 8), .ref (h 7), .int (-1)], kO (h 8) 3 [.ref (h 9), .ref (h 10), .ref (h 11), .int 1, .int 0, .int 0, .int 0], kI (h 11) (G.2 0) 16 (fun _ => 0), kO (h 1) 2 [.ref (h 2), .ref (h 3), .ref (h 4), .ref (h 5), .int 0]]) hP [0, 1, 2, 3, 4] rfl) (hD.sub (ws' := [kO (h 0) 4 [.ref (h 1), .ref (h 6), .ref (h 8), .ref (h 12), .ref (h 18), .int 1], kO (h 6) 1 [.ref (h 8), .ref (h 7), .int (-1)], kO (h 8) 3 [.ref (h 9), .ref (h 10), .ref (h 11), .int 1, .int 0, .int 0, .int 0], kI (h 11) (G.2 0) 16 (fun _ => 0), kO (h 1) 2 [.ref (h 2), .ref (h 3), .ref (h 4), .ref (h 5), .int 0]]) [0, 1, 2, 3, 4] (by decide) rfl) rfl

set_option maxHeartbeats 4000000 in
set_option maxRecDepth 100000 in
theorem c_X4_step (l : Launch) (G : gG) (sz : Nat) (h : Nat → Nat)  : Met l yX4_step wsX4_step { frames := 3, cells := 0, slots := 0, locals := 64 } (kPc G [.ref (h 0)] [kO (h 0) 4 [.ref (h 1), .ref (h 6), .ref (h 8), .ref (h 12), .ref (h 18), .int 0], kO (h 6) 1 [.ref (h 8), .ref (h 7), .int (-1)], kO (h 8) 3 [.ref (h 9), .ref (h 10), .ref (h 11), .int 1, .int 0, .int 0, .int 0], kI (h 11) (G.2 0) 16 (fun _ => 0), kO (h 1) 2 [.ref (h 2), .ref (h 3), .ref (h 4), .ref (h 5), .int 0]] sz (fun _ => True)) (kQi G (S := Unit) (fun r _ => r = 4) (fun _ => []) (va_A [kO (h 0) 4 [.ref (h 1), .ref (h 6), .ref (h 8), .ref (h 12), .ref (h 18), .int 0], kO (h 6) 1 [.ref (h 8), .ref (h 7), .int (-1)], kO (h 8) 3 [.ref (h 9), .ref (h 10), .ref (h 11), .int 1, .int 0, .int 0, .int 0], kI (h 11) (G.2 0) 16 (fun _ => 0), kO (h 1) 2 [.ref (h 2), .ref (h 3), .ref (h 4), .ref (h 5), .int 0]] sz)) 0 0 (va_A [kO (h 0) 4 [.ref (h 1), .ref (h 6), .ref (h 8), .ref (h 12), .ref (h 18), .int 0], kO (h 6) 1 [.ref (h 8), .ref (h 7), .int (-1)], kO (h 8) 3 [.ref (h 9), .ref (h 10), .ref (h 11), .int 1, .int 0, .int 0, .int 0], kI (h 11) (G.2 0) 16 (fun _ => 0), kO (h 1) 2 [.ref (h 2), .ref (h 3), .ref (h 4), .ref (h 5), .int 0]] sz) := by
  refine kBeg (Qc := fun A => kQi G (S := Unit) (fun r _ => r = 4) (fun _ => []) A) (by decide) rfl (Nat.le_of_ble_eq_true rfl) ?_
  intro A p e s m below meth c ls H locs hx hb hr hts hown hlocks hnm hml hsz hP hK hD hZ hA hS hl
  have hown : s.vm.findClass RX4 = some m.cls := hown
  have hl : lv_has ls 2 [(0, .ref (h 0))] := hl
  have kc1 : (1 : Int32).toInt = 1 := by decide
  refine lv_aload_n hx hb dX4_step_0 rfl (lv_at hl 0 rfl) ?_
  refine kCi (G := G) (ws := [kO (h 0) 4 [.ref (h 1), .ref (h 6), .ref (h 8), .ref (h 12), .ref (h 18), .int 0], kO (h 6) 1 [.ref (h 8), .ref (h 7), .int (-1)], kO (h 8) 3 [.ref (h 9), .ref (h 10), .ref (h 11), .int 1, .int 0, .int 0, .int 0], kI (h 11) (G.2 0) 16 (fun _ => 0), kO (h 1) 2 [.ref (h 2), .ref (h 3), .ref (h 4), .ref (h 5), .int 0]]) (wr := []) (va_runV (As := []) (rest := []) ⟨hx, hb, hml, hown, hts⟩ (c_X4_advance0 l G H.size h ) (cwV 0 hts gX4_step_X4_advance rfl rfl rfl (by decide +kernel) ⟨Nat.le_of_ble_eq_true rfl, Nat.le_of_ble_eq_true rfl⟩) (kPreV (va_recv hK hP (ci := 4) (q0 := 0) rfl rfl) kZ0 kZt hK hP hD [0, 1, 2, 3, 4] rfl (by decide)) rfl rfl hl.1 rfl (lv_room (Nat.le_of_ble_eq_true rfl)) dX4_step_1 ⟨Nat.le_of_ble_eq_true rfl, Nat.le_of_ble_eq_true rfl⟩) hP hD hS hA [0, 1, 2, 3, 4] [] rfl rfl (by decide) (by decide) (fun r2 u1 H locs hw3 hP hD hS => ?_)
  try dsimp only at hw3
  have hP : va_P G.1 vwCl [kO (h 0) 4 [.ref (h 1), .ref (h 6), .ref (h 8), .ref (h 12), .ref (h 18), .int 1], kO (h 6) 1 [.ref (h 8), .ref (h 7), .int (-1)], kO (h 8) 3 [.ref (h 9), .ref (h 10), .ref (h 11), .int 1, .int 0, .int 0, .int 0], kI (h 11) (G.2 0) 16 (fun _ => 0), kO (h 1) 2 [.ref (h 2), .ref (h 3), .ref (h 4), .ref (h 5), .int 0]] H := hP
  have hD : va_D A [kO (h 0) 4 [.ref (h 1), .ref (h 6), .ref (h 8), .ref (h 12), .ref (h 18), .int 1], kO (h 6) 1 [.ref (h 8), .ref (h 7), .int (-1)], kO (h 8) 3 [.ref (h 9), .ref (h 10), .ref (h 11), .int 1, .int 0, .int 0, .int 0], kI (h 11) (G.2 0) 16 (fun _ => 0), kO (h 1) 2 [.ref (h 2), .ref (h 3), .ref (h 4), .ref (h 5), .int 0]] := hD
  subst hw3
  refine lv_istore_n (lv' := [(1, .int 4), (0, .ref (h 0))]) hx hb dX4_step_4 rfl hl (by decide) rfl (fun ls hl => ?_)
  refine lv_iload_n hx hb dX4_step_5 rfl (lv_at hl 0 rfl) ?_
  refine lv_iconst (v := 1) hx hb dX4_step_6 (by decide) ?_
  refine lv_icmp_ne (tgt := 14) hx hb dX4_step_7 (by decide) (fun _ => ?_) (fun c9 => absurd c9 (by decide))
  refine lv_iload_n hx hb dX4_step_14 rfl (lv_at hl 0 rfl) ?_
  exact kRetI (G := G) () hx hb hr hlocks hS dX4_step_15 (kSubP (wc := []) hP [] rfl) (hD.sub (ws' := []) [] (by decide) rfl) rfl

set_option maxHeartbeats 4000000 in
set_option maxRecDepth 100000 in
theorem c_X4_till (l : Launch) (G : gG) (sz : Nat) (h : Nat → Nat) (t : Int32)  : Met l yX4_advanceTillFramesAre wsX4_advanceTillFramesAre { frames := 3, cells := 0, slots := 0, locals := 64 } (kPc G [.ref (h 0), .int t] [kO (h 0) 4 [.ref (h 1), .ref (h 6), .ref (h 8), .ref (h 12), .ref (h 18), .int 0], kO (h 6) 1 [.ref (h 8), .ref (h 7), .int (-1)], kO (h 8) 3 [.ref (h 9), .ref (h 10), .ref (h 11), .int 1, .int 0, .int 0, .int 0], kI (h 11) (G.2 0) 16 (fun _ => 0), kO (h 1) 2 [.ref (h 2), .ref (h 3), .ref (h 4), .ref (h 5), .int 0]] sz (fun _ => True)) (kQi G (S := Unit) (fun r _ => r = 4) (fun _ => []) (va_A [kO (h 0) 4 [.ref (h 1), .ref (h 6), .ref (h 8), .ref (h 12), .ref (h 18), .int 0], kO (h 6) 1 [.ref (h 8), .ref (h 7), .int (-1)], kO (h 8) 3 [.ref (h 9), .ref (h 10), .ref (h 11), .int 1, .int 0, .int 0, .int 0], kI (h 11) (G.2 0) 16 (fun _ => 0), kO (h 1) 2 [.ref (h 2), .ref (h 3), .ref (h 4), .ref (h 5), .int 0]] sz)) 0 0 (va_A [kO (h 0) 4 [.ref (h 1), .ref (h 6), .ref (h 8), .ref (h 12), .ref (h 18), .int 0], kO (h 6) 1 [.ref (h 8), .ref (h 7), .int (-1)], kO (h 8) 3 [.ref (h 9), .ref (h 10), .ref (h 11), .int 1, .int 0, .int 0, .int 0], kI (h 11) (G.2 0) 16 (fun _ => 0), kO (h 1) 2 [.ref (h 2), .ref (h 3), .ref (h 4), .ref (h 5), .int 0]] sz) := by
  refine kBeg (Qc := fun A => kQi G (S := Unit) (fun r _ => r = 4) (fun _ => []) A) (by decide) rfl (Nat.le_of_ble_eq_true rfl) ?_
  intro A p e s m below meth c ls H locs hx hb hr hts hown hlocks hnm hml hsz hP hK hD hZ hA hS hl
  have hown : s.vm.findClass RX4 = some m.cls := hown
  have hl : lv_has ls 4 [(0, .ref (h 0)), (1, .int t)] := hl
  have kc0 : (0 : Int32).toInt = 0 := by decide
  have kc2000 : (2000 : Int32).toInt = 2000 := by decide
  refine lv_iconst (v := 0) hx hb dX4_advanceTillFramesAre_0 (by decide) ?_
  refine lv_istore_n (lv' := [(2, .int 0), (0, .ref (h 0)), (1, .int t)]) hx hb dX4_advanceTillFramesAre_1 rfl hl (by decide) rfl (fun ls hl => ?_)
  refine lv_iload_n hx hb dX4_advanceTillFramesAre_2 rfl (lv_at hl 0 rfl) ?_
  refine lv_sipush (v := 2000) hx hb dX4_advanceTillFramesAre_3 (by decide) ?_
  refine lv_icmp_gt (tgt := 37) hx hb dX4_advanceTillFramesAre_6 (by decide) (fun c9 => absurd c9 (by decide)) (fun _ => ?_)
  refine lv_aload_n hx hb dX4_advanceTillFramesAre_9 rfl (lv_at hl 1 rfl) ?_
  refine kCi (G := G) (ws := [kO (h 0) 4 [.ref (h 1), .ref (h 6), .ref (h 8), .ref (h 12), .ref (h 18), .int 0], kO (h 6) 1 [.ref (h 8), .ref (h 7), .int (-1)], kO (h 8) 3 [.ref (h 9), .ref (h 10), .ref (h 11), .int 1, .int 0, .int 0, .int 0], kI (h 11) (G.2 0) 16 (fun _ => 0), kO (h 1) 2 [.ref (h 2), .ref (h 3), .ref (h 4), .ref (h 5), .int 0]]) (wr := []) (va_runV (As := []) (rest := []) ⟨hx, hb, hml, hown, hts⟩ (c_X4_advance0 l G H.size h ) (cwV 0 hts gX4_advanceTillFramesAre_X4_advance rfl rfl rfl (by decide +kernel) ⟨Nat.le_of_ble_eq_true rfl, Nat.le_of_ble_eq_true rfl⟩) (kPreV (va_recv hK hP (ci := 4) (q0 := 0) rfl rfl) kZ0 kZt hK hP hD [0, 1, 2, 3, 4] rfl (by decide)) rfl rfl hl.1 rfl (lv_room (Nat.le_of_ble_eq_true rfl)) dX4_advanceTillFramesAre_10 ⟨Nat.le_of_ble_eq_true rfl, Nat.le_of_ble_eq_true rfl⟩) hP hD hS hA [0, 1, 2, 3, 4] [] rfl rfl (by decide) (by decide) (fun r2 u1 H locs hw3 hP hD hS => ?_)
  try dsimp only at hw3
  have hP : va_P G.1 vwCl [kO (h 0) 4 [.ref (h 1), .ref (h 6), .ref (h 8), .ref (h 12), .ref (h 18), .int 1], kO (h 6) 1 [.ref (h 8), .ref (h 7), .int (-1)], kO (h 8) 3 [.ref (h 9), .ref (h 10), .ref (h 11), .int 1, .int 0, .int 0, .int 0], kI (h 11) (G.2 0) 16 (fun _ => 0), kO (h 1) 2 [.ref (h 2), .ref (h 3), .ref (h 4), .ref (h 5), .int 0]] H := hP
  have hD : va_D A [kO (h 0) 4 [.ref (h 1), .ref (h 6), .ref (h 8), .ref (h 12), .ref (h 18), .int 1], kO (h 6) 1 [.ref (h 8), .ref (h 7), .int (-1)], kO (h 8) 3 [.ref (h 9), .ref (h 10), .ref (h 11), .int 1, .int 0, .int 0, .int 0], kI (h 11) (G.2 0) 16 (fun _ => 0), kO (h 1) 2 [.ref (h 2), .ref (h 3), .ref (h 4), .ref (h 5), .int 0]] := hD
  subst hw3
  refine lv_istore_n (lv' := [(3, .int 4), (2, .int 0), (0, .ref (h 0)), (1, .int t)]) hx hb dX4_advanceTillFramesAre_13 rfl hl (by decide) rfl (fun ls hl => ?_)
  refine lv_iload_n hx hb dX4_advanceTillFramesAre_14 rfl (lv_at hl 0 rfl) ?_
  refine lv_if_ne (tgt := 29) hx hb dX4_advanceTillFramesAre_15 (by decide) (fun _ => ?_) (fun c9 => absurd c9 (by decide))
  refine lv_iload_n hx hb dX4_advanceTillFramesAre_29 rfl (lv_at hl 0 rfl) ?_
  exact kRetI (G := G) () hx hb hr hlocks hS dX4_advanceTillFramesAre_30 (kSubP (wc := []) hP [] rfl) (hD.sub (ws' := []) [] (by decide) rfl) rfl

set_option maxHeartbeats 4000000 in
set_option maxRecDepth 100000 in
theorem c_X4_next (l : Launch) (G : gG) (sz : Nat) (h : Nat → Nat)  : Met l yX4_next wsX4_next { frames := 4, cells := 0, slots := 0, locals := 87 } (kPc G [.ref (h 0)] [kO (h 0) 4 [.ref (h 1), .ref (h 6), .ref (h 8), .ref (h 12), .ref (h 18), .int 0], kO (h 6) 1 [.ref (h 8), .ref (h 7), .int (-1)], kO (h 8) 3 [.ref (h 9), .ref (h 10), .ref (h 11), .int 1, .int 0, .int 0, .int 0], kI (h 11) (G.2 0) 16 (fun _ => 0), kO (h 1) 2 [.ref (h 2), .ref (h 3), .ref (h 4), .ref (h 5), .int 0]] sz (fun _ => True)) (kQi G (S := Unit) (fun r _ => r = 4) (fun _ => []) (va_A [kO (h 0) 4 [.ref (h 1), .ref (h 6), .ref (h 8), .ref (h 12), .ref (h 18), .int 0], kO (h 6) 1 [.ref (h 8), .ref (h 7), .int (-1)], kO (h 8) 3 [.ref (h 9), .ref (h 10), .ref (h 11), .int 1, .int 0, .int 0, .int 0], kI (h 11) (G.2 0) 16 (fun _ => 0), kO (h 1) 2 [.ref (h 2), .ref (h 3), .ref (h 4), .ref (h 5), .int 0]] sz)) 0 0 (va_A [kO (h 0) 4 [.ref (h 1), .ref (h 6), .ref (h 8), .ref (h 12), .ref (h 18), .int 0], kO (h 6) 1 [.ref (h 8), .ref (h 7), .int (-1)], kO (h 8) 3 [.ref (h 9), .ref (h 10), .ref (h 11), .int 1, .int 0, .int 0, .int 0], kI (h 11) (G.2 0) 16 (fun _ => 0), kO (h 1) 2 [.ref (h 2), .ref (h 3), .ref (h 4), .ref (h 5), .int 0]] sz) := by
  refine kBeg (Qc := fun A => kQi G (S := Unit) (fun r _ => r = 4) (fun _ => []) A) (by decide) rfl (Nat.le_of_ble_eq_true rfl) ?_
  intro A p e s m below meth c ls H locs hx hb hr hts hown hlocks hnm hml hsz hP hK hD hZ hA hS hl
  have hown : s.vm.findClass RX4 = some m.cls := hown
  have hl : lv_has ls 1 [(0, .ref (h 0))] := hl
  have in3 : ∀ w ∈ wsX30, w ∈ wsX4_next := by decide +kernel
  have in4 : ∀ w ∈ wsX40, w ∈ wsX4_next := by decide +kernel
  refine lv_aload_n hx hb dX4_next_0 rfl (lv_at hl 0 rfl) ?_
  refine lv_aload_n hx hb dX4_next_1 rfl (lv_at hl 0 rfl) ?_
  refine va_get (D := G.1) (ci := 4) (v := .ref (h 8)) (C := RX4) (T := TX4) (N := 6) hx hb hts in4 hown hK hP 0 rfl rfl 2 (by decide) (hts (.fieldLink RX4 27 "TraceDebugger" "now" "LTraceDebugger$State;") (by decide +kernel)) (fun _ h9 => h9) rfl dX4_next_2 ?_
  refine va_get (D := G.1) (ci := 3) (v := .int 1) (C := RX3) (T := TX3) (N := 7) hx hb hts in3 hown hK hP 2 rfl rfl 3 (by decide) (hts (.fieldLink RX4 101 "TraceDebugger$State" "frames" "I") (by decide +kernel)) (fun _ h9 => h9) rfl dX4_next_5 ?_
  refine kCi (G := G) (ws := [kO (h 0) 4 [.ref (h 1), .ref (h 6), .ref (h 8), .ref (h 12), .ref (h 18), .int 0], kO (h 6) 1 [.ref (h 8), .ref (h 7), .int (-1)], kO (h 8) 3 [.ref (h 9), .ref (h 10), .ref (h 11), .int 1, .int 0, .int 0, .int 0], kI (h 11) (G.2 0) 16 (fun _ => 0), kO (h 1) 2 [.ref (h 2), .ref (h 3), .ref (h 4), .ref (h 5), .int 0]]) (wr := []) (va_runV (As := [.int 1]) (rest := []) ⟨hx, hb, hml, hown, hts⟩ (c_X4_till l G H.size h 1 ) (cwV 1 hts gX4_next_X4_advanceTillFramesAre rfl rfl rfl (by decide +kernel) ⟨Nat.le_of_ble_eq_true rfl, Nat.le_of_ble_eq_true rfl⟩) (kPreV (va_recv hK hP (ci := 4) (q0 := 0) rfl rfl) kZ0 kZt hK hP hD [0, 1, 2, 3, 4] rfl (by decide)) rfl rfl hl.1 rfl (lv_room (Nat.le_of_ble_eq_true rfl)) dX4_next_8 ⟨Nat.le_of_ble_eq_true rfl, Nat.le_of_ble_eq_true rfl⟩) hP hD hS hA [0, 1, 2, 3, 4] [] rfl rfl (by decide) (by decide) (fun r2 u1 H locs hw3 hP hD hS => ?_)
  try dsimp only at hw3
  have hP : va_P G.1 vwCl [] H := hP
  have hD : va_D A [] := hD
  subst hw3
  exact kRetI (G := G) () hx hb hr hlocks hS dX4_next_11 (kSubP (wc := []) hP [] rfl) (hD.sub (ws' := []) [] (by decide) rfl) rfl

set_option maxHeartbeats 4000000 in
set_option maxRecDepth 100000 in
theorem c_X4_finish (l : Launch) (G : gG) (sz : Nat) (h : Nat → Nat)  : Met l yX4_finish wsX4_finish { frames := 4, cells := 0, slots := 0, locals := 87 } (kPc G [.ref (h 0)] [kO (h 0) 4 [.ref (h 1), .ref (h 6), .ref (h 8), .ref (h 12), .ref (h 18), .int 0], kO (h 6) 1 [.ref (h 8), .ref (h 7), .int (-1)], kO (h 8) 3 [.ref (h 9), .ref (h 10), .ref (h 11), .int 1, .int 0, .int 0, .int 0], kI (h 11) (G.2 0) 16 (fun _ => 0), kO (h 1) 2 [.ref (h 2), .ref (h 3), .ref (h 4), .ref (h 5), .int 0]] sz (fun _ => True)) (kQi G (S := Unit) (fun r _ => r = 4) (fun _ => []) (va_A [kO (h 0) 4 [.ref (h 1), .ref (h 6), .ref (h 8), .ref (h 12), .ref (h 18), .int 0], kO (h 6) 1 [.ref (h 8), .ref (h 7), .int (-1)], kO (h 8) 3 [.ref (h 9), .ref (h 10), .ref (h 11), .int 1, .int 0, .int 0, .int 0], kI (h 11) (G.2 0) 16 (fun _ => 0), kO (h 1) 2 [.ref (h 2), .ref (h 3), .ref (h 4), .ref (h 5), .int 0]] sz)) 0 0 (va_A [kO (h 0) 4 [.ref (h 1), .ref (h 6), .ref (h 8), .ref (h 12), .ref (h 18), .int 0], kO (h 6) 1 [.ref (h 8), .ref (h 7), .int (-1)], kO (h 8) 3 [.ref (h 9), .ref (h 10), .ref (h 11), .int 1, .int 0, .int 0, .int 0], kI (h 11) (G.2 0) 16 (fun _ => 0), kO (h 1) 2 [.ref (h 2), .ref (h 3), .ref (h 4), .ref (h 5), .int 0]] sz) := by
  refine kBeg (Qc := fun A => kQi G (S := Unit) (fun r _ => r = 4) (fun _ => []) A) (by decide) rfl (Nat.le_of_ble_eq_true rfl) ?_
  intro A p e s m below meth c ls H locs hx hb hr hts hown hlocks hnm hml hsz hP hK hD hZ hA hS hl
  have hown : s.vm.findClass RX4 = some m.cls := hown
  have hl : lv_has ls 1 [(0, .ref (h 0))] := hl
  have in3 : ∀ w ∈ wsX30, w ∈ wsX4_finish := by decide +kernel
  have in4 : ∀ w ∈ wsX40, w ∈ wsX4_finish := by decide +kernel
  have kc0 : (0 : Int32).toInt = 0 := by decide
  have kc1 : (1 : Int32).toInt = 1 := by decide
  refine lv_aload_n hx hb dX4_finish_0 rfl (lv_at hl 0 rfl) ?_
  refine lv_aload_n hx hb dX4_finish_1 rfl (lv_at hl 0 rfl) ?_
  refine va_get (D := G.1) (ci := 4) (v := .ref (h 8)) (C := RX4) (T := TX4) (N := 6) hx hb hts in4 hown hK hP 0 rfl rfl 2 (by decide) (hts (.fieldLink RX4 27 "TraceDebugger" "now" "LTraceDebugger$State;") (by decide +kernel)) (fun _ h9 => h9) rfl dX4_finish_2 ?_
  refine va_get (D := G.1) (ci := 3) (v := .int 1) (C := RX3) (T := TX3) (N := 7) hx hb hts in3 hown hK hP 2 rfl rfl 3 (by decide) (hts (.fieldLink RX4 101 "TraceDebugger$State" "frames" "I") (by decide +kernel)) (fun _ h9 => h9) rfl dX4_finish_5 ?_
  refine lv_iconst (v := 1) hx hb dX4_finish_8 (by decide) ?_
  refine lv_isub hx hb dX4_finish_9 ?_
  refine kTop (y := 0) (by decide) ?_
  refine kCi (G := G) (ws := [kO (h 0) 4 [.ref (h 1), .ref (h 6), .ref (h 8), .ref (h 12), .ref (h 18), .int 0], kO (h 6) 1 [.ref (h 8), .ref (h 7), .int (-1)], kO (h 8) 3 [.ref (h 9), .ref (h 10), .ref (h 11), .int 1, .int 0, .int 0, .int 0], kI (h 11) (G.2 0) 16 (fun _ => 0), kO (h 1) 2 [.ref (h 2), .ref (h 3), .ref (h 4), .ref (h 5), .int 0]]) (wr := []) (va_runV (As := [.int 0]) (rest := []) ⟨hx, hb, hml, hown, hts⟩ (c_X4_till l G H.size h 0 ) (cwV 1 hts gX4_finish_X4_advanceTillFramesAre rfl rfl rfl (by decide +kernel) ⟨Nat.le_of_ble_eq_true rfl, Nat.le_of_ble_eq_true rfl⟩) (kPreV (va_recv hK hP (ci := 4) (q0 := 0) rfl rfl) kZ0 kZt hK hP hD [0, 1, 2, 3, 4] rfl (by decide)) rfl rfl hl.1 rfl (lv_room (Nat.le_of_ble_eq_true rfl)) dX4_finish_10 ⟨Nat.le_of_ble_eq_true rfl, Nat.le_of_ble_eq_true rfl⟩) hP hD hS hA [0, 1, 2, 3, 4] [] rfl rfl (by decide) (by decide) (fun r2 u1 H locs hw3 hP hD hS => ?_)
  try dsimp only at hw3
  have hP : va_P G.1 vwCl [] H := hP
  have hD : va_D A [] := hD
  subst hw3
  exact kRetI (G := G) () hx hb hr hlocks hS dX4_finish_13 (kSubP (wc := []) hP [] rfl) (hD.sub (ws' := []) [] (by decide) rfl) rfl

set_option maxHeartbeats 4000000 in
set_option maxRecDepth 100000 in
theorem c_X4_go (l : Launch) (G : gG) (sz : Nat) (h : Nat → Nat)  : Met l yX4_go wsX4_go { frames := 4, cells := 0, slots := 0, locals := 87 } (kPc G [.ref (h 0)] [kO (h 0) 4 [.ref (h 1), .ref (h 6), .ref (h 8), .ref (h 12), .ref (h 18), .int 0], kO (h 6) 1 [.ref (h 8), .ref (h 7), .int (-1)], kO (h 8) 3 [.ref (h 9), .ref (h 10), .ref (h 11), .int 1, .int 0, .int 0, .int 0], kI (h 11) (G.2 0) 16 (fun _ => 0), kO (h 1) 2 [.ref (h 2), .ref (h 3), .ref (h 4), .ref (h 5), .int 0]] sz (fun _ => True)) (kQi G (S := Unit) (fun r _ => r = 4) (fun _ => []) (va_A [kO (h 0) 4 [.ref (h 1), .ref (h 6), .ref (h 8), .ref (h 12), .ref (h 18), .int 0], kO (h 6) 1 [.ref (h 8), .ref (h 7), .int (-1)], kO (h 8) 3 [.ref (h 9), .ref (h 10), .ref (h 11), .int 1, .int 0, .int 0, .int 0], kI (h 11) (G.2 0) 16 (fun _ => 0), kO (h 1) 2 [.ref (h 2), .ref (h 3), .ref (h 4), .ref (h 5), .int 0]] sz)) 0 0 (va_A [kO (h 0) 4 [.ref (h 1), .ref (h 6), .ref (h 8), .ref (h 12), .ref (h 18), .int 0], kO (h 6) 1 [.ref (h 8), .ref (h 7), .int (-1)], kO (h 8) 3 [.ref (h 9), .ref (h 10), .ref (h 11), .int 1, .int 0, .int 0, .int 0], kI (h 11) (G.2 0) 16 (fun _ => 0), kO (h 1) 2 [.ref (h 2), .ref (h 3), .ref (h 4), .ref (h 5), .int 0]] sz) := by
  refine kBeg (Qc := fun A => kQi G (S := Unit) (fun r _ => r = 4) (fun _ => []) A) (by decide) rfl (Nat.le_of_ble_eq_true rfl) ?_
  intro A p e s m below meth c ls H locs hx hb hr hts hown hlocks hnm hml hsz hP hK hD hZ hA hS hl
  have hown : s.vm.findClass RX4 = some m.cls := hown
  have hl : lv_has ls 1 [(0, .ref (h 0))] := hl
  have kc0 : (0 : Int32).toInt = 0 := by decide
  refine lv_aload_n hx hb dX4_go_0 rfl (lv_at hl 0 rfl) ?_
  refine lv_iconst (v := 0) hx hb dX4_go_1 (by decide) ?_
  refine kCi (G := G) (ws := [kO (h 0) 4 [.ref (h 1), .ref (h 6), .ref (h 8), .ref (h 12), .ref (h 18), .int 0], kO (h 6) 1 [.ref (h 8), .ref (h 7), .int (-1)], kO (h 8) 3 [.ref (h 9), .ref (h 10), .ref (h 11), .int 1, .int 0, .int 0, .int 0], kI (h 11) (G.2 0) 16 (fun _ => 0), kO (h 1) 2 [.ref (h 2), .ref (h 3), .ref (h 4), .ref (h 5), .int 0]]) (wr := []) (va_runV (As := [.int 0]) (rest := []) ⟨hx, hb, hml, hown, hts⟩ (c_X4_till l G H.size h 0 ) (cwV 1 hts gX4_go_X4_advanceTillFramesAre rfl rfl rfl (by decide +kernel) ⟨Nat.le_of_ble_eq_true rfl, Nat.le_of_ble_eq_true rfl⟩) (kPreV (va_recv hK hP (ci := 4) (q0 := 0) rfl rfl) kZ0 kZt hK hP hD [0, 1, 2, 3, 4] rfl (by decide)) rfl rfl hl.1 rfl (lv_room (Nat.le_of_ble_eq_true rfl)) dX4_go_2 ⟨Nat.le_of_ble_eq_true rfl, Nat.le_of_ble_eq_true rfl⟩) hP hD hS hA [0, 1, 2, 3, 4] [] rfl rfl (by decide) (by decide) (fun r2 u1 H locs hw3 hP hD hS => ?_)
  try dsimp only at hw3
  have hP : va_P G.1 vwCl [] H := hP
  have hD : va_D A [] := hD
  subst hw3
  exact kRetI (G := G) () hx hb hr hlocks hS dX4_go_5 (kSubP (wc := []) hP [] rfl) (hD.sub (ws' := []) [] (by decide) rfl) rfl

set_option maxHeartbeats 4000000 in
set_option maxRecDepth 100000 in
theorem c_X4_back (l : Launch) (G : gG) (sz : Nat) (h : Nat → Nat)  : Met l yX4_back wsX4_back { frames := 0, cells := 0, slots := 0, locals := 0 } (kPc G [.ref (h 0)] [kO (h 0) 4 [.ref (h 1), .ref (h 6), .ref (h 8), .ref (h 12), .ref (h 18), .int 0], kO (h 8) 3 [.ref (h 9), .ref (h 10), .ref (h 11), .int 1, .int 0, .int 0, .int 0]] sz (fun _ => True)) (kQi G (S := Unit) (fun r _ => r = 6) (fun _ => []) (va_A [kO (h 0) 4 [.ref (h 1), .ref (h 6), .ref (h 8), .ref (h 12), .ref (h 18), .int 0], kO (h 8) 3 [.ref (h 9), .ref (h 10), .ref (h 11), .int 1, .int 0, .int 0, .int 0]] sz)) 0 0 (va_A [kO (h 0) 4 [.ref (h 1), .ref (h 6), .ref (h 8), .ref (h 12), .ref (h 18), .int 0], kO (h 8) 3 [.ref (h 9), .ref (h 10), .ref (h 11), .int 1, .int 0, .int 0, .int 0]] sz) := by
  refine kBeg (Qc := fun A => kQi G (S := Unit) (fun r _ => r = 6) (fun _ => []) A) (by decide) rfl (Nat.le_of_ble_eq_true rfl) ?_
  intro A p e s m below meth c ls H locs hx hb hr hts hown hlocks hnm hml hsz hP hK hD hZ hA hS hl
  have hown : s.vm.findClass RX4 = some m.cls := hown
  have hl : lv_has ls 1 [(0, .ref (h 0))] := hl
  have in3 : ∀ w ∈ wsX30, w ∈ wsX4_back := by decide +kernel
  have in4 : ∀ w ∈ wsX40, w ∈ wsX4_back := by decide +kernel
  have kc0 : (0 : Int32).toInt = 0 := by decide
  have kc6 : (6 : Int32).toInt = 6 := by decide
  refine lv_aload_n hx hb dX4_back_0 rfl (lv_at hl 0 rfl) ?_
  refine va_get (D := G.1) (ci := 4) (v := .ref (h 8)) (C := RX4) (T := TX4) (N := 6) hx hb hts in4 hown hK hP 0 rfl rfl 2 (by decide) (hts (.fieldLink RX4 27 "TraceDebugger" "now" "LTraceDebugger$State;") (by decide +kernel)) (fun _ h9 => h9) rfl dX4_back_1 ?_
  refine va_get (D := G.1) (ci := 3) (v := .int 0) (C := RX3) (T := TX3) (N := 7) hx hb hts in3 hown hK hP 1 rfl rfl 5 (by decide) (hts (.fieldLink RX4 57 "TraceDebugger$State" "time" "I") (by decide +kernel)) (fun _ h9 => h9) rfl dX4_back_4 ?_
  refine lv_if_ne (tgt := 18) hx hb dX4_back_7 (by decide) (fun c9 => absurd c9 (by decide)) (fun _ => ?_)
  refine lv_aload_n hx hb dX4_back_10 rfl (lv_at hl 0 rfl) ?_
  refine lv_iconst (v := 0) hx hb dX4_back_11 (by decide) ?_
  refine va_put (D := G.1) (ci := 4) (v := .int 0) (ty := .boolean) (C := RX4) (T := TX4) (N := 6) hx hb hts in4 tyX4 tyX4_ok nmX4 hown hK hP hD hS 0 rfl rfl 5 (by decide) (hts (.fieldLink RX4 108 "TraceDebugger" "trapped" "Z") (by decide +kernel)) (fun _ h9 => h9) rfl (by decide +kernel) rfl rfl (Nat.le_of_ble_eq_true rfl) dX4_back_12 (fun H locs hP hD hS => ?_)
  have hP : va_P G.1 vwCl [kO (h 0) 4 [.ref (h 1), .ref (h 6), .ref (h 8), .ref (h 12), .ref (h 18), .int 0], kO (h 8) 3 [.ref (h 9), .ref (h 10), .ref (h 11), .int 1, .int 0, .int 0, .int 0]] H := hP
  have hD : va_D A [kO (h 0) 4 [.ref (h 1), .ref (h 6), .ref (h 8), .ref (h 12), .ref (h 18), .int 0], kO (h 8) 3 [.ref (h 9), .ref (h 10), .ref (h 11), .int 1, .int 0, .int 0, .int 0]] := hD
  refine lv_bipush (v := 6) hx hb dX4_back_15 (by decide) ?_
  exact kRetI (G := G) () hx hb hr hlocks hS dX4_back_17 (kSubP (wc := []) hP [] rfl) (hD.sub (ws' := []) [] (by decide) rfl) rfl
