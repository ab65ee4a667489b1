theorem dX5_isDone_21 : decode cX5_isDone 21 = .ok (.ireturn, 1) := by decide +kernel

set_option maxHeartbeats 4000000 in
set_option maxRecDepth 100000 in
theorem c_X5_canDo (l : Launch) (G : gG) (sz : Nat) (q : Nat → Nat) (sp : Int32) (cd : Int32)  : Met l yX5_canDo wsX5_canDo { frames := 0, cells := 0, slots := 0, locals := 0 } (kPc G [.ref (q 0), .int 0] [kO (q 0) 5 [.int cd, .int sp, .int sp, .ref (q 1), .ref (q 2), .ref (q 3), .ref (q 4), .int 0, .ref (q 5), .ref (q 6), .ref (q 7), .ref (q 8), .ref (q 9), .int 1, .int 0, .ref (q 10), .int 0, .int 0, .int 0, .int (-1), .ref (q 11), .int 1, .int 0]] sz (fun _ => True)) (kQi G (S := Unit) (fun r _ => r = 0) (fun _ => [kO (q 0) 5 [.int cd, .int sp, .int sp, .ref (q 1), .ref (q 2), .ref (q 3), .ref (q 4), .int 0, .ref (q 5), .ref (q 6), .ref (q 7), .ref (q 8), .ref (q 9), .int 1, .int 0, .ref (q 10), .int 0, .int 0, .int 0, .int (-1), .ref (q 11), .int 1, .int 0]]) (va_A [kO (q 0) 5 [.int cd, .int sp, .int sp, .ref (q 1), .ref (q 2), .ref (q 3), .ref (q 4), .int 0, .ref (q 5), .ref (q 6), .ref (q 7), .ref (q 8), .ref (q 9), .int 1, .int 0, .ref (q 10), .int 0, .int 0, .int 0, .int (-1), .ref (q 11), .int 1, .int 0]] sz)) 0 0 (va_A [kO (q 0) 5 [.int cd, .int sp, .int sp, .ref (q 1), .ref (q 2), .ref (q 3), .ref (q 4), .int 0, .ref (q 5), .ref (q 6), .ref (q 7), .ref (q 8), .ref (q 9), .int 1, .int 0, .ref (q 10), .int 0, .int 0, .int 0, .int (-1), .ref (q 11), .int 1, .int 0]] sz) := by
  refine kBeg (Qc := fun A => kQi G (S := Unit) (fun r _ => r = 0) (fun _ => [kO (q 0) 5 [.int cd, .int sp, .int sp, .ref (q 1), .ref (q 2), .ref (q 3), .ref (q 4), .int 0, .ref (q 5), .ref (q 6), .ref (q 7), .ref (q 8), .ref (q 9), .int 1, .int 0, .ref (q 10), .int 0, .int 0, .int 0, .int (-1), .ref (q 11), .int 1, .int 0]]) A) (by decide) rfl (Nat.le_of_ble_eq_true rfl) ?_
  intro A p e s m below meth c ls H locs hx hb hr hts hown hlocks hnm hml hsz hP hK hD hZ hA hS hl
  have hown : s.vm.findClass RX5 = some m.cls := hown
  have hl : lv_has ls 5 [(0, .ref (q 0)), (1, .int 0)] := hl
  have in5 : ∀ w ∈ wsX50, w ∈ wsX5_canDo := by decide +kernel
  have kc0 : (0 : Int32).toInt = 0 := by decide
  refine lv_iload_n hx hb dX5_canDo_0 rfl (lv_at hl 1 rfl) ?_
  refine lv_if_lt (tgt := 12) hx hb dX5_canDo_1 (by decide) (fun c9 => absurd c9 (by decide)) (fun _ => ?_)
  refine lv_iload_n hx hb dX5_canDo_4 rfl (lv_at hl 1 rfl) ?_
  refine lv_aload_n hx hb dX5_canDo_5 rfl (lv_at hl 0 rfl) ?_
  refine va_get (D := G.1) (ci := 5) (v := .int 0) (C := RX5) (T := TX5) (N := 23) hx hb hts in5 hown hK hP 0 rfl rfl 7 (by decide) (hts (.fieldLink RX5 93 "TraceDebuggerModel" "lines" "I") (by decide +kernel)) (fun _ h9 => h9) rfl dX5_canDo_6 ?_
  refine lv_icmp_lt (tgt := 14) hx hb dX5_canDo_9 (by decide) (fun c9 => absurd c9 (by decide)) (fun _ => ?_)
  refine lv_iconst (v := 0) hx hb dX5_canDo_12 (by decide) ?_
  exact kRetZ (G := G) () hx hb hr hlocks hS dX5_canDo_13 rfl (kSubP (wc := [kO (q 0) 5 [.int cd, .int sp, .int sp, .ref (q 1), .ref (q 2), .ref (q 3), .ref (q 4), .int 0, .ref (q 5), .ref (q 6), .ref (q 7), .ref (q 8), .ref (q 9), .int 1, .int 0, .ref (q 10), .int 0, .int 0, .int 0, .int (-1), .ref (q 11), .int 1, .int 0]]) hP [0] rfl) (hD.sub (ws' := [kO (q 0) 5 [.int cd, .int sp, .int sp, .ref (q 1), .ref (q 2), .ref (q 3), .ref (q 4), .int 0, .ref (q 5), .ref (q 6), .ref (q 7), .ref (q 8), .ref (q 9), .int 1, .int 0, .ref (q 10), .int 0, .int 0, .int 0, .int (-1), .ref (q 11), .int 1, .int 0]]) [0] (by decide) rfl) rfl

set_option maxHeartbeats 4000000 in
set_option maxRecDepth 100000 in
theorem c_X5_isDone (l : Launch) (G : gG) (sz : Nat) (q : Nat → Nat) (sp : Int32) (cd : Int32)  : Met l yX5_isDone wsX5_isDone { frames := 1, cells := 0, slots := 0, locals := 24 } (kPc G [.ref (q 0)] [kO (q 0) 5 [.int cd, .int sp, .int sp, .ref (q 1), .ref (q 2), .ref (q 3), .ref (q 4), .int 0, .ref (q 5), .ref (q 6), .ref (q 7), .ref (q 8), .ref (q 9), .int 1, .int 0, .ref (q 10), .int 0, .int 0, .int 0, .int (-1), .ref (q 11), .int 1, .int 0], kI (q 9) (G.2 0) 16 (fun _ => 0)] sz (fun _ => True)) (kQi G (S := Unit) (fun r _ => r = 0) (fun _ => [kO (q 0) 5 [.int cd, .int sp, .int sp, .ref (q 1), .ref (q 2), .ref (q 3), .ref (q 4), .int 0, .ref (q 5), .ref (q 6), .ref (q 7), .ref (q 8), .ref (q 9), .int 1, .int 0, .ref (q 10), .int 0, .int 0, .int 0, .int (-1), .ref (q 11), .int 1, .int 0], kI (q 9) (G.2 0) 16 (fun _ => 0)]) (va_A [kO (q 0) 5 [.int cd, .int sp, .int sp, .ref (q 1), .ref (q 2), .ref (q 3), .ref (q 4), .int 0, .ref (q 5), .ref (q 6), .ref (q 7), .ref (q 8), .ref (q 9), .int 1, .int 0, .ref (q 10), .int 0, .int 0, .int 0, .int (-1), .ref (q 11), .int 1, .int 0], kI (q 9) (G.2 0) 16 (fun _ => 0)] sz)) 0 0 (va_A [kO (q 0) 5 [.int cd, .int sp, .int sp, .ref (q 1), .ref (q 2), .ref (q 3), .ref (q 4), .int 0, .ref (q 5), .ref (q 6), .ref (q 7), .ref (q 8), .ref (q 9), .int 1, .int 0, .ref (q 10), .int 0, .int 0, .int 0, .int (-1), .ref (q 11), .int 1, .int 0], kI (q 9) (G.2 0) 16 (fun _ => 0)] sz) := by
  refine kBeg (Qc := fun A => kQi G (S := Unit) (fun r _ => r = 0) (fun _ => [kO (q 0) 5 [.int cd, .int sp, .int sp, .ref (q 1), .ref (q 2), .ref (q 3), .ref (q 4), .int 0, .ref (q 5), .ref (q 6), .ref (q 7), .ref (q 8), .ref (q 9), .int 1, .int 0, .ref (q 10), .int 0, .int 0, .int 0, .int (-1), .ref (q 11), .int 1, .int 0], kI (q 9) (G.2 0) 16 (fun _ => 0)]) A) (by decide) rfl (Nat.le_of_ble_eq_true rfl) ?_
  intro A p e s m below meth c ls H locs hx hb hr hts hown hlocks hnm hml hsz hP hK hD hZ hA hS hl
  have hown : s.vm.findClass RX5 = some m.cls := hown
  have hl : lv_has ls 7 [(0, .ref (q 0))] := hl
  have in5 : ∀ w ∈ wsX50, w ∈ wsX5_isDone := by decide +kernel
  have kc0 : (0 : Int32).toInt = 0 := by decide
  have kc1 : (1 : Int32).toInt = 1 := by decide
  refine lv_aload_n hx hb dX5_isDone_0 rfl (lv_at hl 0 rfl) ?_
  refine va_get (D := G.1) (ci := 5) (v := .ref (q 9)) (C := RX5) (T := TX5) (N := 23) hx hb hts in5 hown hK hP 0 rfl rfl 12 (by decide) (hts (.fieldLink RX5 35 "TraceDebuggerModel" "comes" "[I") (by decide +kernel)) (fun _ h9 => h9) rfl dX5_isDone_1 ?_
  refine lv_aload_n hx hb dX5_isDone_4 rfl (lv_at hl 0 rfl) ?_
  refine va_get (D := G.1) (ci := 5) (v := .int 1) (C := RX5) (T := TX5) (N := 23) hx hb hts in5 hown hK hP 0 rfl rfl 13 (by decide) (hts (.fieldLink RX5 70 "TraceDebuggerModel" "frames" "I") (by decide +kernel)) (fun _ h9 => h9) rfl dX5_isDone_5 ?_
  refine lv_iconst (v := 1) hx hb dX5_isDone_8 (by decide) ?_
  refine lv_isub hx hb dX5_isDone_9 ?_
  refine kTop (y := 0) (by decide) ?_
  refine va_iald (D := G.1) hx hb hK hP 1 0 rfl rfl (show vp_in _ _ by unfold vp_in; decide) dX5_isDone_10 ?_
  refine kTop (y := 0) rfl ?_
  refine lv_istore_n (lv' := [(1, .int 0), (0, .ref (q 0))]) hx hb dX5_isDone_11 rfl hl (by decide) rfl (fun ls hl => ?_)
  refine lv_aload_n hx hb dX5_isDone_12 rfl (lv_at hl 1 rfl) ?_
  refine lv_iload_n hx hb dX5_isDone_13 rfl (lv_at hl 0 rfl) ?_
  refine kCi (G := G) (ws := [kO (q 0) 5 [.int cd, .int sp, .int sp, .ref (q 1), .ref (q 2), .ref (q 3), .ref (q 4), .int 0, .ref (q 5), .ref (q 6), .ref (q 7), .ref (q 8), .ref (q 9), .int 1, .int 0, .ref (q 10), .int 0, .int 0, .int 0, .int (-1), .ref (q 11), .int 1, .int 0], kI (q 9) (G.2 0) 16 (fun _ => 0)]) (wr := [kI (q 9) (G.2 0) 16 (fun _ => 0)]) (va_runV (As := [.int 0]) (rest := []) ⟨hx, hb, hml, hown, hts⟩ (c_X5_canDo l G H.size q sp cd ) (cwV 1 hts gX5_isDone_X5_canDo rfl rfl rfl (by decide +kernel) ⟨Nat.le_of_ble_eq_true rfl, Nat.le_of_ble_eq_true rfl⟩) (kPreV (va_recv hK hP (ci := 5) (q0 := 0) rfl rfl) kZ0 kZt hK hP hD [0] rfl (by decide)) rfl rfl hl.1 rfl (lv_room (Nat.le_of_ble_eq_true rfl)) dX5_isDone_14 ⟨Nat.le_of_ble_eq_true rfl, Nat.le_of_ble_eq_true rfl⟩) hP hD hS hA [0] [1] rfl rfl (by decide) (by decide) (fun r2 u1 H locs hw3 hP hD hS => ?_)
  try dsimp only at hw3
  have hP : va_P G.1 vwCl [kI (q 9) (G.2 0) 16 (fun _ => 0), kO (q 0) 5 [.int cd, .int sp, .int sp, .ref (q 1), .ref (q 2), .ref (q 3), .ref (q 4), .int 0, .ref (q 5), .ref (q 6), .ref (q 7), .ref (q 8), .ref (q 9), .int 1, .int 0, .ref (q 10), .int 0, .int 0, .int 0, .int (-1), .ref (q 11), .int 1, .int 0]] H := hP
  have hD : va_D A [kI (q 9) (G.2 0) 16 (fun _ => 0), kO (q 0) 5 [.int cd, .int sp, .int sp, .ref (q 1), .ref (q 2), .ref (q 3), .ref (q 4), .int 0, .ref (q 5), .ref (q 6), .ref (q 7), .ref (q 8), .ref (q 9), .int 1, .int 0, .ref (q 10), .int 0, .int 0, .int 0, .int (-1), .ref (q 11), .int 1, .int 0]] := hD
  subst hw3
  refine lv_if_ne (tgt := 22) hx hb dX5_isDone_17 (by decide) (fun c9 => absurd c9 (by decide)) (fun _ => ?_)
  refine lv_iconst (v := 0) hx hb dX5_isDone_20 (by decide) ?_
  exact kRetZ (G := G) () hx hb hr hlocks hS dX5_isDone_21 rfl (kSubP (wc := [kO (q 0) 5 [.int cd, .int sp, .int sp, .ref (q 1), .ref (q 2), .ref (q 3), .ref (q 4), .int 0, .ref (q 5), .ref (q 6), .ref (q 7), .ref (q 8), .ref (q 9), .int 1, .int 0, .ref (q 10), .int 0, .int 0, .int 0, .int (-1), .ref (q 11), .int 1, .int 0], kI (q 9) (G.2 0) 16 (fun _ => 0)]) hP [1, 0] rfl) (hD.sub (ws' := [kO (q 0) 5 [.int cd, .int sp, .int sp, .ref (q 1), .ref (q 2), .ref (q 3), .ref (q 4), .int 0, .ref (q 5), .ref (q 6), .ref (q 7), .ref (q 8), .ref (q 9), .int 1, .int 0, .ref (q 10), .int 0, .int 0, .int 0, .int (-1), .ref (q 11), .int 1, .int 0], kI (q 9) (G.2 0) 16 (fun _ => 0)]) [1, 0] (by decide) rfl) rfl

set_option maxHeartbeats 4000000 in
set_option maxRecDepth 100000 in
theorem c_X5_barred (l : Launch) (G : gG) (sz : Nat) (q : Nat → Nat) (sp : Int32) (cd : Int32)  : Met l yX5_barred wsX5_barred { frames := 0, cells := 0, slots := 0, locals := 0 } (kPc G [.ref (q 0)] [kO (q 0) 5 [.int cd, .int sp, .int sp, .ref (q 1), .ref (q 2), .ref (q 3), .ref (q 4), .int 0, .ref (q 5), .ref (q 6), .ref (q 7), .ref (q 8), .ref (q 9), .int 1, .int 0, .ref (q 10), .int 0, .int 0, .int 0, .int (-1), .ref (q 11), .int 1, .int 0]] sz (fun _ => True)) (kQi G (S := Unit) (fun r _ => r = 0) (fun _ => [kO (q 0) 5 [.int cd, .int sp, .int sp, .ref (q 1), .ref (q 2), .ref (q 3), .ref (q 4), .int 0, .ref (q 5), .ref (q 6), .ref (q 7), .ref (q 8), .ref (q 9), .int 1, .int 0, .ref (q 10), .int 0, .int 0, .int 0, .int (-1), .ref (q 11), .int 1, .int 0]]) (va_A [kO (q 0) 5 [.int cd, .int sp, .int sp, .ref (q 1), .ref (q 2), .ref (q 3), .ref (q 4), .int 0, .ref (q 5), .ref (q 6), .ref (q 7), .ref (q 8), .ref (q 9), .int 1, .int 0, .ref (q 10), .int 0, .int 0, .int 0, .int (-1), .ref (q 11), .int 1, .int 0]] sz)) 0 0 (va_A [kO (q 0) 5 [.int cd, .int sp, .int sp, .ref (q 1), .ref (q 2), .ref (q 3), .ref (q 4), .int 0, .ref (q 5), .ref (q 6), .ref (q 7), .ref (q 8), .ref (q 9), .int 1, .int 0, .ref (q 10), .int 0, .int 0, .int 0, .int (-1), .ref (q 11), .int 1, .int 0]] sz) := by
  refine kBeg (Qc := fun A => kQi G (S := Unit) (fun r _ => r = 0) (fun _ => [kO (q 0) 5 [.int cd, .int sp, .int sp, .ref (q 1), .ref (q 2), .ref (q 3), .ref (q 4), .int 0, .ref (q 5), .ref (q 6), .ref (q 7), .ref (q 8), .ref (q 9), .int 1, .int 0, .ref (q 10), .int 0, .int 0, .int 0, .int (-1), .ref (q 11), .int 1, .int 0]]) A) (by decide) rfl (Nat.le_of_ble_eq_true rfl) ?_
  intro A p e s m below meth c ls H locs hx hb hr hts hown hlocks hnm hml hsz hP hK hD hZ hA hS hl
  have hown : s.vm.findClass RX5 = some m.cls := hown
  have hl : lv_has ls 1 [(0, .ref (q 0))] := hl
  have in5 : ∀ w ∈ wsX50, w ∈ wsX5_barred := by decide +kernel
  have kc0 : (0 : Int32).toInt = 0 := by decide
  have kc2000 : (2000 : Int32).toInt = 2000 := by decide
  refine lv_aload_n hx hb dX5_barred_0 rfl (lv_at hl 0 rfl) ?_
  refine va_get (D := G.1) (ci := 5) (v := .int 0) (C := RX5) (T := TX5) (N := 23) hx hb hts in5 hown hK hP 0 rfl rfl 18 (by decide) (hts (.fieldLink RX5 63 "TraceDebuggerModel" "trapped" "Z") (by decide +kernel)) (fun _ h9 => h9) rfl dX5_barred_1 ?_
  refine lv_if_eq (tgt := 11) hx hb dX5_barred_4 (by decide) (fun _ => ?_) (fun c9 => absurd c9 (by decide))
  refine lv_aload_n hx hb dX5_barred_11 rfl (lv_at hl 0 rfl) ?_
  refine va_get (D := G.1) (ci := 5) (v := .int 0) (C := RX5) (T := TX5) (N := 23) hx hb hts in5 hown hK hP 0 rfl rfl 17 (by decide) (hts (.fieldLink RX5 79 "TraceDebuggerModel" "ended" "Z") (by decide +kernel)) (fun _ h9 => h9) rfl dX5_barred_12 ?_
  refine lv_if_eq (tgt := 22) hx hb dX5_barred_15 (by decide) (fun _ => ?_) (fun c9 => absurd c9 (by decide))
  refine lv_aload_n hx hb dX5_barred_22 rfl (lv_at hl 0 rfl) ?_
  refine va_get (D := G.1) (ci := 5) (v := .int 0) (C := RX5) (T := TX5) (N := 23) hx hb hts in5 hown hK hP 0 rfl rfl 14 (by decide) (hts (.fieldLink RX5 73 "TraceDebuggerModel" "time" "I") (by decide +kernel)) (fun _ h9 => h9) rfl dX5_barred_23 ?_
  refine lv_sipush (v := 2000) hx hb dX5_barred_26 (by decide) ?_
  refine lv_icmp_ne (tgt := 36) hx hb dX5_barred_29 (by decide) (fun _ => ?_) (fun c9 => absurd c9 (by decide))
  refine lv_iconst (v := 0) hx hb dX5_barred_36 (by decide) ?_
  exact kRetI (G := G) () hx hb hr hlocks hS dX5_barred_37 (kSubP (wc := [kO (q 0) 5 [.int cd, .int sp, .int sp, .ref (q 1), .ref (q 2), .ref (q 3), .ref (q 4), .int 0, .ref (q 5), .ref (q 6), .ref (q 7), .ref (q 8), .ref (q 9), .int 1, .int 0, .ref (q 10), .int 0, .int 0, .int 0, .int (-1), .ref (q 11), .int 1, .int 0]]) hP [0] rfl) (hD.sub (ws' := [kO (q 0) 5 [.int cd, .int sp, .int sp, .ref (q 1), .ref (q 2), .ref (q 3), .ref (q 4), .int 0, .ref (q 5), .ref (q 6), .ref (q 7), .ref (q 8), .ref (q 9), .int 1, .int 0, .ref (q 10), .int 0, .int 0, .int 0, .int (-1), .ref (q 11), .int 1, .int 0]]) [0] (by decide) rfl) rfl

set_option maxHeartbeats 4000000 in
set_option maxRecDepth 100000 in
theorem c_X5_oneMore (l : Launch) (G : gG) (sz : Nat) (q : Nat → Nat) (sp : Int32) (cd : Int32)  : Met l yX5_oneMore wsX5_oneMore { frames := 2, cells := 0, slots := 0, locals := 50 } (kPc G [.ref (q 0)] [kO (q 0) 5 [.int cd, .int sp, .int sp, .ref (q 1), .ref (q 2), .ref (q 3), .ref (q 4), .int 0, .ref (q 5), .ref (q 6), .ref (q 7), .ref (q 8), .ref (q 9), .int 1, .int 0, .ref (q 10), .int 0, .int 0, .int 0, .int (-1), .ref (q 11), .int 1, .int 0], kI (q 9) (G.2 0) 16 (fun _ => 0)] sz (fun _ => True)) (kQi G (S := Unit) (fun r _ => r = 4) (fun _ => [kO (q 0) 5 [.int cd, .int sp, .int sp, .ref (q 1), .ref (q 2), .ref (q 3), .ref (q 4), .int 0, .ref (q 5), .ref (q 6), .ref (q 7), .ref (q 8), .ref (q 9), .int 1, .int 0, .ref (q 10), .int 0, .int 0, .int 1, .int (-1), .ref (q 11), .int 1, .int 0], kI (q 9) (G.2 0) 16 (fun _ => 0)]) (va_A [kO (q 0) 5 [.int cd, .int sp, .int sp, .ref (q 1), .ref (q 2), .ref (q 3), .ref (q 4), .int 0, .ref (q 5), .ref (q 6), .ref (q 7), .ref (q 8), .ref (q 9), .int 1, .int 0, .ref (q 10), .int 0, .int 0, .int 0, .int (-1), .ref (q 11), .int 1, .int 0], kI (q 9) (G.2 0) 16 (fun _ => 0)] sz)) 0 0 (va_A [kO (q 0) 5 [.int cd, .int sp, .int sp, .ref (q 1), .ref (q 2), .ref (q 3), .ref (q 4), .int 0, .ref (q 5), .ref (q 6), .ref (q 7), .ref (q 8), .ref (q 9), .int 1, .int 0, .ref (q 10), .int 0, .int 0, .int 0, .int (-1), .ref (q 11), .int 1, .int 0], kI (q 9) (G.2 0) 16 (fun _ => 0)] sz) := by
  refine kBeg (Qc := fun A => kQi G (S := Unit) (fun r _ => r = 4) (fun _ => [kO (q 0) 5 [.int cd, .int sp, .int sp, .ref (q 1), .ref (q 2), .ref (q 3), .ref (q 4), .int 0, .ref (q 5), .ref (q 6), .ref (q 7), .ref (q 8), .ref (q 9), .int 1, .int 0, .ref (q 10), .int 0, .int 0, .int 1, .int (-1), .ref (q 11), .int 1, .int 0], kI (q 9) (G.2 0) 16 (fun _ => 0)]) A) (by decide) rfl (Nat.le_of_ble_eq_true rfl) ?_
  intro A p e s m below meth c ls H locs hx hb hr hts hown hlocks hnm hml hsz hP hK hD hZ hA hS hl
  have hown : s.vm.findClass RX5 = some m.cls := hown
  have hl : lv_has ls 1 [(0, .ref (q 0))] := hl
  have in5 : ∀ w ∈ wsX50, w ∈ wsX5_oneMore := by decide +kernel
  have kc1 : (1 : Int32).toInt = 1 := by decide
  have kc4 : (4 : Int32).toInt = 4 := by decide
  refine lv_aload_n hx hb dX5_oneMore_0 rfl (lv_at hl 0 rfl) ?_
  refine kCi (G := G) (ws := [kO (q 0) 5 [.int cd, .int sp, .int sp, .ref (q 1), .ref (q 2), .ref (q 3), .ref (q 4), .int 0, .ref (q 5), .ref (q 6), .ref (q 7), .ref (q 8), .ref (q 9), .int 1, .int 0, .ref (q 10), .int 0, .int 0, .int 0, .int (-1), .ref (q 11), .int 1, .int 0], kI (q 9) (G.2 0) 16 (fun _ => 0)]) (wr := []) (va_runV (As := []) (rest := []) ⟨hx, hb, hml, hown, hts⟩ (c_X5_isDone l G H.size q sp cd ) (cwV 0 hts gX5_oneMore_X5_isDone rfl rfl rfl (by decide +kernel) ⟨Nat.le_of_ble_eq_true rfl, Nat.le_of_ble_eq_true rfl⟩) (kPreV (va_recv hK hP (ci := 5) (q0 := 0) rfl rfl) kZ0 kZt hK hP hD [0, 1] rfl (by decide)) rfl rfl hl.1 rfl (lv_room (Nat.le_of_ble_eq_true rfl)) dX5_oneMore_1 ⟨Nat.le_of_ble_eq_true rfl, Nat.le_of_ble_eq_true rfl⟩) hP hD hS hA [0, 1] [] rfl rfl (by decide) (by decide) (fun r2 u1 H locs hw3 hP hD hS => ?_)
  try dsimp only at hw3
  have hP : va_P G.1 vwCl [kO (q 0) 5 [.int cd, .int sp, .int sp, .ref (q 1), .ref (q 2), .ref (q 3), .ref (q 4), .int 0, .ref (q 5), .ref (q 6), .ref (q 7), .ref (q 8), .ref (q 9), .int 1, .int 0, .ref (q 10), .int 0, .int 0, .int 0, .int (-1), .ref (q 11), .int 1, .int 0], kI (q 9) (G.2 0) 16 (fun _ => 0)] H := hP
  have hD : va_D A [kO (q 0) 5 [.int cd, .int sp, .int sp, .ref (q 1), .ref (q 2), .ref (q 3), .ref (q 4), .int 0, .ref (q 5), .ref (q 6), .ref (q 7), .ref (q 8), .ref (q 9), .int 1, .int 0, .ref (q 10), .int 0, .int 0, .int 0, .int (-1), .ref (q 11), .int 1, .int 0], kI (q 9) (G.2 0) 16 (fun _ => 0)] := hD
  subst hw3
  refine lv_if_ne (tgt := 14) hx hb dX5_oneMore_4 (by decide) (fun c9 => absurd c9 (by decide)) (fun _ => ?_)
  refine lv_aload_n hx hb dX5_oneMore_7 rfl (lv_at hl 0 rfl) ?_
  refine lv_iconst (v := 1) hx hb dX5_oneMore_8 (by decide) ?_
  refine va_put (D := G.1) (ci := 5) (v := .int 1) (ty := .boolean) (C := RX5) (T := TX5) (N := 23) hx hb hts in5 tyX5 tyX5_ok nmX5 hown hK hP hD hS 0 rfl rfl 18 (by decide) (hts (.fieldLink RX5 63 "TraceDebuggerModel" "trapped" "Z") (by decide +kernel)) (fun _ h9 => h9) rfl (by decide +kernel) rfl rfl (Nat.le_of_ble_eq_true rfl) dX5_oneMore_9 (fun H locs hP hD hS => ?_)
  have hP : va_P G.1 vwCl [kO (q 0) 5 [.int cd, .int sp, .int sp, .ref (q 1), .ref (q 2), .ref (q 3), .ref (q 4), .int 0, .ref (q 5), .ref (q 6), .ref (q 7), .ref (q 8), .ref (q 9), .int 1, .int 0, .ref (q 10), .int 0, .int 0, .int 1, .int (-1), .ref (q 11), .int 1, .int 0], kI (q 9) (G.2 0) 16 (fun _ => 0)] H := hP
  have hD : va_D A [kO (q 0) 5 [.int cd, .int sp, .int sp, .ref (q 1), .ref (q 2), .ref (q 3), .ref (q 4), .int 0, .ref (q 5), .ref (q 6), .ref (q 7), .ref (q 8), .ref (q 9), .int 1, .int 0, .ref (q 10), .int 0, .int 0, .int 1, .int (-1), .ref (q 11), .int 1, .int 0], kI (q 9) (G.2 0) 16 (fun _ => 0)] := hD
  refine lv_iconst (v := 4) hx hb dX5_oneMore_12 (by decide) ?_
  exact kRetI (G := G) () hx hb hr hlocks hS dX5_oneMore_13 (kSubP (wc := [kO (q 0) 5 [.int cd, .int sp, .int sp, .ref (q 1), .ref (q 2), .ref (q 3), .ref (q 4), .int 0, .ref (q 5), .ref (q 6), .ref (q 7), .ref (q 8), .ref (q 9), .int 1, .int 0, .ref (q 10), .int 0, .int 0, .int 1, .int (-1), .ref (q 11), .int 1, .int 0], kI (q 9) (G.2 0) 16 (fun _ => 0)]) hP [0, 1] rfl) (hD.sub (ws' := [kO (q 0) 5 [.int cd, .int sp, .int sp, .ref (q 1), .ref (q 2), .ref (q 3), .ref (q 4), .int 0, .ref (q 5), .ref (q 6), .ref (q 7), .ref (q 8), .ref (q 9), .int 1, .int 0, .ref (q 10), .int 0, .int 0, .int 1, .int (-1), .ref (q 11), .int 1, .int 0], kI (q 9) (G.2 0) 16 (fun _ => 0)]) [0, 1] (by decide) rfl) rfl

set_option maxHeartbeats 4000000 in
set_option maxRecDepth 100000 in
theorem c_X5_step (l : Launch) (G : gG) (sz : Nat) (q : Nat → Nat) (sp : Int32)  : Met l yX5_step wsX5_step { frames := 3, cells := 0, slots := 0, locals := 70 } (kPc G [.ref (q 0)] [kO (q 0) 5 [.int 0, .int sp, .int sp, .ref (q 1), .ref (q 2), .ref (q 3), .ref (q 4), .int 0, .ref (q 5), .ref (q 6), .ref (q 7), .ref (q 8), .ref (q 9), .int 1, .int 0, .ref (q 10), .int 0, .int 0, .int 0, .int (-1), .ref (q 11), .int 1, .int 0], kI (q 9) (G.2 0) 16 (fun _ => 0)] sz (fun _ => True)) (kQi G (S := Unit) (fun r _ => r = 4) (fun _ => []) (va_A [kO (q 0) 5 [.int 0, .int sp, .int sp, .ref (q 1), .ref (q 2), .ref (q 3), .ref (q 4), .int 0, .ref (q 5), .ref (q 6), .ref (q 7), .ref (q 8), .ref (q 9), .int 1, .int 0, .ref (q 10), .int 0, .int 0, .int 0, .int (-1), .ref (q 11), .int 1, .int 0], kI (q 9) (G.2 0) 16 (fun _ => 0)] sz)) 0 0 (va_A [kO (q 0) 5 [.int 0, .int sp, .int sp, .ref (q 1), .ref (q 2), .ref (q 3), .ref (q 4), .int 0, .ref (q 5), .ref (q 6), .ref (q 7), .ref (q 8), .ref (q 9), .int 1, .int 0, .ref (q 10), .int 0, .int 0, .int 0, .int (-1), .ref (q 11), .int 1, .int 0], kI (q 9) (G.2 0) 16 (fun _ => 0)] sz) := by
  refine kBeg (Qc := fun A => kQi G (S := Unit) (fun r _ => r = 4) (fun _ => []) A) (by decide) rfl (Nat.le_of_ble_eq_true rfl) ?_
  intro A p e s m below meth c ls H locs hx hb hr hts hown hlocks hnm hml hsz hP hK hD hZ hA hS hl
  have hown : s.vm.findClass RX5 = some m.cls := hown
  have hl : lv_has ls 2 [(0, .ref (q 0))] := hl
  have in5 : ∀ w ∈ wsX50, w ∈ wsX5_step := by decide +kernel
  have kc0 : (0 : Int32).toInt = 0 := by decide
  have kc1 : (1 : Int32).toInt = 1 := by decide
  refine lv_aload_n hx hb dX5_step_0 rfl (lv_at hl 0 rfl) ?_
  refine lv_iconst (v := 0) hx hb dX5_step_1 (by decide) ?_
  refine va_put (D := G.1) (ci := 5) (v := .int 0) (ty := .int) (C := RX5) (T := TX5) (N := 23) hx hb hts in5 tyX5 tyX5_ok nmX5 hown hK hP hD hS 0 rfl rfl 0 (by decide) (hts (.fieldLink RX5 51 "TraceDebuggerModel" "code" "I") (by decide +kernel)) (fun _ h9 => h9) rfl (by decide +kernel) rfl rfl (Nat.le_of_ble_eq_true rfl) dX5_step_2 (fun H locs hP hD hS => ?_)
  have hP : va_P G.1 vwCl [kO (q 0) 5 [.int 0, .int sp, .int sp, .ref (q 1), .ref (q 2), .ref (q 3), .ref (q 4), .int 0, .ref (q 5), .ref (q 6), .ref (q 7), .ref (q 8), .ref (q 9), .int 1, .int 0, .ref (q 10), .int 0, .int 0, .int 0, .int (-1), .ref (q 11), .int 1, .int 0], kI (q 9) (G.2 0) 16 (fun _ => 0)] H := hP
  have hD : va_D A [kO (q 0) 5 [.int 0, .int sp, .int sp, .ref (q 1), .ref (q 2), .ref (q 3), .ref (q 4), .int 0, .ref (q 5), .ref (q 6), .ref (q 7), .ref (q 8), .ref (q 9), .int 1, .int 0, .ref (q 10), .int 0, .int 0, .int 0, .int (-1), .ref (q 11), .int 1, .int 0], kI (q 9) (G.2 0) 16 (fun _ => 0)] := hD
  refine lv_aload_n hx hb dX5_step_5 rfl (lv_at hl 0 rfl) ?_
  refine kCi (G := G) (ws := [kO (q 0) 5 [.int 0, .int sp, .int sp, .ref (q 1), .ref (q 2), .ref (q 3), .ref (q 4), .int 0, .ref (q 5), .ref (q 6), .ref (q 7), .ref (q 8), .ref (q 9), .int 1, .int 0, .ref (q 10), .int 0, .int 0, .int 0, .int (-1), .ref (q 11), .int 1, .int 0], kI (q 9) (G.2 0) 16 (fun _ => 0)]) (wr := [kI (q 9) (G.2 0) 16 (fun _ => 0)]) (va_runV (As := []) (rest := []) ⟨hx, hb, hml, hown, hts⟩ (c_X5_barred l G H.size q sp 0 ) (cwV 0 hts gX5_step_X5_barred rfl rfl rfl (by decide +kernel) ⟨Nat.le_of_ble_eq_true rfl, Nat.le_of_ble_eq_true rfl⟩) (kPreV (va_recv hK hP (ci := 5) (q0 := 0) rfl rfl) kZ0 kZt hK hP hD [0] rfl (by decide)) rfl rfl hl.1 rfl (lv_room (Nat.le_of_ble_eq_true rfl)) dX5_step_6 ⟨Nat.le_of_ble_eq_true rfl, Nat.le_of_ble_eq_true rfl⟩) hP hD hS hA [0] [1] rfl rfl (by decide) (by decide) (fun r2 u1 H locs hw3 hP hD hS => ?_)
  try dsimp only at hw3
  have hP : va_P G.1 vwCl [kI (q 9) (G.2 0) 16 (fun _ => 0), kO (q 0) 5 [.int 0, .int sp, .int sp, .ref (q 1), .ref (q 2), .ref (q 3), .ref (q 4), .int 0, .ref (q 5), .ref (q 6), .ref (q 7), .ref (q 8), .ref (q 9), .int 1, .int 0, .ref (q 10), .int 0, .int 0, .int 0, .int (-1), .ref (q 11), .int 1, .int 0]] H := hP
  have hD : va_D A [kI (q 9) (G.2 0) 16 (fun _ => 0), kO (q 0) 5 [.int 0, .int sp, .int sp, .ref (q 1), .ref (q 2), .ref (q 3), .ref (q 4), .int 0, .ref (q 5), .ref (q 6), .ref (q 7), .ref (q 8), .ref (q 9), .int 1, .int 0, .ref (q 10), .int 0, .int 0, .int 0, .int (-1), .ref (q 11), .int 1, .int 0]] := hD
  subst hw3
  refine lv_istore_n (lv' := [(1, .int 0), (0, .ref (q 0))]) hx hb dX5_step_9 rfl hl (by decide) rfl (fun ls hl => ?_)
  refine lv_iload_n hx hb dX5_step_10 rfl (lv_at hl 0 rfl) ?_
  refine lv_if_eq (tgt := 16) hx hb dX5_step_11 (by decide) (fun _ => ?_) (fun c9 => absurd c9 (by decide))
  refine lv_aload_n hx hb dX5_step_16 rfl (lv_at hl 1 rfl) ?_
  refine kCi (G := G) (ws := [kI (q 9) (G.2 0) 16 (fun _ => 0), kO (q 0) 5 [.int 0, .int sp, .int sp, .ref (q 1), .ref (q 2), .ref (q 3), .ref (q 4), .int 0, .ref (q 5), .ref (q 6), .ref (q 7), .ref (q 8), .ref (q 9), .int 1, .int 0, .ref (q 10), .int 0, .int 0, .int 0, .int (-1), .ref (q 11), .int 1, .int 0]]) (wr := []) (va_runV (As := []) (rest := []) ⟨hx, hb, hml, hown, hts⟩ (c_X5_oneMore l G H.size q sp 0 ) (cwV 0 hts gX5_step_X5_oneMore rfl rfl rfl (by decide +kernel) ⟨Nat.le_of_ble_eq_true rfl, Nat.le_of_ble_eq_true rfl⟩) (kPreV (va_recv hK hP (ci := 5) (q0 := 1) rfl rfl) kZ0 kZt hK hP hD [1, 0] rfl (by decide)) rfl rfl hl.1 rfl (lv_room (Nat.le_of_ble_eq_true rfl)) dX5_step_17 ⟨Nat.le_of_ble_eq_true rfl, Nat.le_of_ble_eq_true rfl⟩) hP hD hS hA [1, 0] [] rfl rfl (by decide) (by decide) (fun r5 u4 H locs hw6 hP hD hS => ?_)
  try dsimp only at hw6
  have hP : va_P G.1 vwCl [kO (q 0) 5 [.int 0, .int sp, .int sp, .ref (q 1), .ref (q 2), .ref (q 3), .ref (q 4), .int 0, .ref (q 5), .ref (q 6), .ref (q 7), .ref (q 8), .ref (q 9), .int 1, .int 0, .ref (q 10), .int 0, .int 0, .int 1, .int (-1), .ref (q 11), .int 1, .int 0], kI (q 9) (G.2 0) 16 (fun _ => 0)] H := hP
  have hD : va_D A [kO (q 0) 5 [.int 0, .int sp, .int sp, .ref (q 1), .ref (q 2), .ref (q 3), .ref (q 4), .int 0, .ref (q 5), .ref (q 6), .ref (q 7), .ref (q 8), .ref (q 9), .int 1, .int 0, .ref (q 10), .int 0, .int 0, .int 1, .int (-1), .ref (q 11), .int 1, .int 0], kI (q 9) (G.2 0) 16 (fun _ => 0)] := hD
  subst hw6
  refine lv_istore_n (lv' := [(1, .int 4), (0, .ref (q 0))]) hx hb dX5_step_20 rfl hl (by decide) rfl (fun ls hl => ?_)
  refine lv_iload_n hx hb dX5_step_21 rfl (lv_at hl 0 rfl) ?_
  refine lv_iconst (v := 1) hx hb dX5_step_22 (by decide) ?_
  refine lv_icmp_ne (tgt := 30) hx hb dX5_step_23 (by decide) (fun _ => ?_) (fun c9 => absurd c9 (by decide))
  refine lv_iload_n hx hb dX5_step_30 rfl (lv_at hl 0 rfl) ?_
  exact kRetI (G := G) () hx hb hr hlocks hS dX5_step_31 (kSubP (wc := []) hP [] rfl) (hD.sub (ws' := []) [] (by decide) rfl) rfl

set_option maxHeartbeats 4000000 in
set_option maxRecDepth 100000 in
theorem c_X5_goTill (l : Launch) (G : gG) (sz : Nat) (q : Nat → Nat) (sp : Int32) (cd : Int32) (t : Int32)  : Met l yX5_goTill wsX5_goTill { frames := 3, cells := 0, slots := 0, locals := 70 } (kPc G [.ref (q 0), .int t] [kO (q 0) 5 [.int cd, .int sp, .int sp, .ref (q 1), .ref (q 2), .ref (q 3), .ref (q 4), .int 0, .ref (q 5), .ref (q 6), .ref (q 7), .ref (q 8), .ref (q 9), .int 1, .int 0, .ref (q 10), .int 0, .int 0, .int 0, .int (-1), .ref (q 11), .int 1, .int 0], kI (q 9) (G.2 0) 16 (fun _ => 0)] sz (fun _ => True)) (kQi G (S := Unit) (fun r _ => r = 4) (fun _ => []) (va_A [kO (q 0) 5 [.int cd, .int sp, .int sp, .ref (q 1), .ref (q 2), .ref (q 3), .ref (q 4), .int 0, .ref (q 5), .ref (q 6), .ref (q 7), .ref (q 8), .ref (q 9), .int 1, .int 0, .ref (q 10), .int 0, .int 0, .int 0, .int (-1), .ref (q 11), .int 1, .int 0], kI (q 9) (G.2 0) 16 (fun _ => 0)] sz)) 0 0 (va_A [kO (q 0) 5 [.int cd, .int sp, .int sp, .ref (q 1), .ref (q 2), .ref (q 3), .ref (q 4), .int 0, .ref (q 5), .ref (q 6), .ref (q 7), .ref (q 8), .ref (q 9), .int 1, .int 0, .ref (q 10), .int 0, .int 0, .int 0, .int (-1), .ref (q 11), .int 1, .int 0], kI (q 9) (G.2 0) 16 (fun _ => 0)] sz) := by
  refine kBeg (Qc := fun A => kQi G (S := Unit) (fun r _ => r = 4) (fun _ => []) A) (by decide) rfl (Nat.le_of_ble_eq_true rfl) ?_
  intro A p e s m below meth c ls H locs hx hb hr hts hown hlocks hnm hml hsz hP hK hD hZ hA hS hl
  have hown : s.vm.findClass RX5 = some m.cls := hown
  have hl : lv_has ls 3 [(0, .ref (q 0)), (1, .int t)] := hl
  refine lv_aload_n hx hb dX5_goTill_0 rfl (lv_at hl 0 rfl) ?_
  refine kCi (G := G) (ws := [kO (q 0) 5 [.int cd, .int sp, .int sp, .ref (q 1), .ref (q 2), .ref (q 3), .ref (q 4), .int 0, .ref (q 5), .ref (q 6), .ref (q 7), .ref (q 8), .ref (q 9), .int 1, .int 0, .ref (q 10), .int 0, .int 0, .int 0, .int (-1), .ref (q 11), .int 1, .int 0], kI (q 9) (G.2 0) 16 (fun _ => 0)]) (wr := [kI (q 9) (G.2 0) 16 (fun _ => 0)]) (va_runV (As := []) (rest := []) ⟨hx, hb, hml, hown, hts⟩ (c_X5_barred l G H.size q sp cd ) (cwV 0 hts gX5_goTill_X5_barred rfl rfl rfl (by decide +kernel) ⟨Nat.le_of_ble_eq_true rfl, Nat.le_of_ble_eq_true rfl⟩) (kPreV (va_recv hK hP (ci := 5) (q0 := 0) rfl rfl) kZ0 kZt hK hP hD [0] rfl (by decide)) rfl rfl hl.1 rfl (lv_room (Nat.le_of_ble_eq_true rfl)) dX5_goTill_1 ⟨Nat.le_of_ble_eq_true rfl, Nat.le_of_ble_eq_true rfl⟩) hP hD hS hA [0] [1] rfl rfl (by decide) (by decide) (fun r2 u1 H locs hw3 hP hD hS => ?_)
  try dsimp only at hw3
  have hP : va_P G.1 vwCl [kI (q 9) (G.2 0) 16 (fun _ => 0), kO (q 0) 5 [.int cd, .int sp, .int sp, .ref (q 1), .ref (q 2), .ref (q 3), .ref (q 4), .int 0, .ref (q 5), .ref (q 6), .ref (q 7), .ref (q 8), .ref (q 9), .int 1, .int 0, .ref (q 10), .int 0, .int 0, .int 0, .int (-1), .ref (q 11), .int 1, .int 0]] H := hP
  have hD : va_D A [kI (q 9) (G.2 0) 16 (fun _ => 0), kO (q 0) 5 [.int cd, .int sp, .int sp, .ref (q 1), .ref (q 2), .ref (q 3), .ref (q 4), .int 0, .ref (q 5), .ref (q 6), .ref (q 7), .ref (q 8), .ref (q 9), .int 1, .int 0, .ref (q 10), .int 0, .int 0, .int 0, .int (-1), .ref (q 11), .int 1, .int 0]] := hD
  subst hw3
  refine lv_istore_n (lv' := [(2, .int 0), (0, .ref (q 0)), (1, .int t)]) hx hb dX5_goTill_4 rfl hl (by decide) rfl (fun ls hl => ?_)
  refine lv_iload_n hx hb dX5_goTill_5 rfl (lv_at hl 0 rfl) ?_
  refine lv_if_ne (tgt := 51) hx hb dX5_goTill_6 (by decide) (fun c9 => absurd c9 (by decide)) (fun _ => ?_)
  refine lv_aload_n hx hb dX5_goTill_9 rfl (lv_at hl 1 rfl) ?_
  refine kCi (G := G) (ws := [kI (q 9) (G.2 0) 16 (fun _ => 0), kO (q 0) 5 [.int cd, .int sp, .int sp, .ref (q 1), .ref (q 2), .ref (q 3), .ref (q 4), .int 0, .ref (q 5), .ref (q 6), .ref (q 7), .ref (q 8), .ref (q 9), .int 1, .int 0, .ref (q 10), .int 0, .int 0, .int 0, .int (-1), .ref (q 11), .int 1, .int 0]]) (wr := []) (va_runV (As := []) (rest := []) ⟨hx, hb, hml, hown, hts⟩ (c_X5_oneMore l G H.size q sp cd ) (cwV 0 hts gX5_goTill_X5_oneMore rfl rfl rfl (by decide +kernel) ⟨Nat.le_of_ble_eq_true rfl, Nat.le_of_ble_eq_true rfl⟩) (kPreV (va_recv hK hP (ci := 5) (q0 := 1) rfl rfl) kZ0 kZt hK hP hD [1, 0] rfl (by decide)) rfl rfl hl.1 rfl (lv_room (Nat.le_of_ble_eq_true rfl)) dX5_goTill_10 ⟨Nat.le_of_ble_eq_true rfl, Nat.le_of_ble_eq_true rfl⟩) hP hD hS hA [1, 0] [] rfl rfl (by decide) (by decide) (fun r5 u4 H locs hw6 hP hD hS => ?_)
  try dsimp only at hw6
  have hP : va_P G.1 vwCl [kO (q 0) 5 [.int cd, .int sp, .int sp, .ref (q 1), .ref (q 2), .ref (q 3), .ref (q 4), .int 0, .ref (q 5), .ref (q 6), .ref (q 7), .ref (q 8), .ref (q 9), .int 1, .int 0, .ref (q 10), .int 0, .int 0, .int 1, .int (-1), .ref (q 11), .int 1, .int 0], kI (q 9) (G.2 0) 16 (fun _ => 0)] H := hP
  have hD : va_D A [kO (q 0) 5 [.int cd, .int sp, .int sp, .ref (q 1), .ref (q 2), .ref (q 3), .ref (q 4), .int 0, .ref (q 5), .ref (q 6), .ref (q 7), .ref (q 8), .ref (q 9), .int 1, .int 0, .ref (q 10), .int 0, .int 0, .int 1, .int (-1), .ref (q 11), .int 1, .int 0], kI (q 9) (G.2 0) 16 (fun _ => 0)] := hD
  subst hw6
  refine lv_istore_n (lv' := [(2, .int 4), (0, .ref (q 0)), (1, .int t)]) hx hb dX5_goTill_13 rfl hl (by decide) rfl (fun ls hl => ?_)
  refine lv_iload_n hx hb dX5_goTill_14 rfl (lv_at hl 0 rfl) ?_
  refine lv_if_ne (tgt := 28) hx hb dX5_goTill_15 (by decide) (fun _ => ?_) (fun c9 => absurd c9 (by decide))
  refine lv_iload_n hx hb dX5_goTill_28 rfl (lv_at hl 0 rfl) ?_
  refine lv_if_ne (tgt := 46) hx hb dX5_goTill_29 (by decide) (fun _ => ?_) (fun c9 => absurd c9 (by decide))
  refine lv_iload_n hx hb dX5_goTill_46 rfl (lv_at hl 0 rfl) ?_
  refine lv_istore_n (lv' := [(2, .int 4), (0, .ref (q 0)), (1, .int t)]) hx hb dX5_goTill_47 rfl hl (by decide) rfl (fun ls hl => ?_)
  refine lv_goto (tgt := 5) hx hb dX5_goTill_48 (by decide) ?_
  refine lv_iload_n hx hb dX5_goTill_5 rfl (lv_at hl 0 rfl) ?_
  refine lv_if_ne (tgt := 51) hx hb dX5_goTill_6 (by decide) (fun _ => ?_) (fun c9 => absurd c9 (by decide))
  refine lv_iload_n hx hb dX5_goTill_51 rfl (lv_at hl 0 rfl) ?_
  exact kRetI (G := G) () hx hb hr hlocks hS dX5_goTill_52 (kSubP (wc := []) hP [] rfl) (hD.sub (ws' := []) [] (by decide) rfl) rfl

set_option maxHeartbeats 4000000 in
set_option maxRecDepth 100000 in
theorem c_X5_next (l : Launch) (G : gG) (sz : Nat) (q : Nat → Nat) (sp : Int32)  : Met l yX5_next wsX5_next { frames := 4, cells := 0, slots := 0, locals := 92 } (kPc G [.ref (q 0)] [kO (q 0) 5 [.int 0, .int sp, .int sp, .ref (q 1), .ref (q 2), .ref (q 3), .ref (q 4), .int 0, .ref (q 5), .ref (q 6), .ref (q 7), .ref (q 8), .ref (q 9), .int 1, .int 0, .ref (q 10), .int 0, .int 0, .int 0, .int (-1), .ref (q 11), .int 1, .int 0], kI (q 9) (G.2 0) 16 (fun _ => 0)] sz (fun _ => True)) (kQi G (S := Unit) (fun r _ => r = 4) (fun _ => []) (va_A [kO (q 0) 5 [.int 0, .int sp, .int sp, .ref (q 1), .ref (q 2), .ref (q 3), .ref (q 4), .int 0, .ref (q 5), .ref (q 6), .ref (q 7), .ref (q 8), .ref (q 9), .int 1, .int 0, .ref (q 10), .int 0, .int 0, .int 0, .int (-1), .ref (q 11), .int 1, .int 0], kI (q 9) (G.2 0) 16 (fun _ => 0)] sz)) 0 0 (va_A [kO (q 0) 5 [.int 0, .int sp, .int sp, .ref (q 1), .ref (q 2), .ref (q 3), .ref (q 4), .int 0, .ref (q 5), .ref (q 6), .ref (q 7), .ref (q 8), .ref (q 9), .int 1, .int 0, .ref (q 10), .int 0, .int 0, .int 0, .int (-1), .ref (q 11), .int 1, .int 0], kI (q 9) (G.2 0) 16 (fun _ => 0)] sz) := by
  refine kBeg (Qc := fun A => kQi G (S := Unit) (fun r _ => r = 4) (fun _ => []) A) (by decide) rfl (Nat.le_of_ble_eq_true rfl) ?_
  intro A p e s m below meth c ls H locs hx hb hr hts hown hlocks hnm hml hsz hP hK hD hZ hA hS hl
  have hown : s.vm.findClass RX5 = some m.cls := hown
  have hl : lv_has ls 1 [(0, .ref (q 0))] := hl
  have in5 : ∀ w ∈ wsX50, w ∈ wsX5_next := by decide +kernel
  have kc0 : (0 : Int32).toInt = 0 := by decide
  refine lv_aload_n hx hb dX5_next_0 rfl (lv_at hl 0 rfl) ?_
  refine lv_iconst (v := 0) hx hb dX5_next_1 (by decide) ?_
  refine va_put (D := G.1) (ci := 5) (v := .int 0) (ty := .int) (C := RX5) (T := TX5) (N := 23) hx hb hts in5 tyX5 tyX5_ok nmX5 hown hK hP hD hS 0 rfl rfl 0 (by decide) (hts (.fieldLink RX5 51 "TraceDebuggerModel" "code" "I") (by decide +kernel)) (fun _ h9 => h9) rfl (by decide +kernel) rfl rfl (Nat.le_of_ble_eq_true rfl) dX5_next_2 (fun H locs hP hD hS => ?_)
  have hP : va_P G.1 vwCl [kO (q 0) 5 [.int 0, .int sp, .int sp, .ref (q 1), .ref (q 2), .ref (q 3), .ref (q 4), .int 0, .ref (q 5), .ref (q 6), .ref (q 7), .ref (q 8), .ref (q 9), .int 1, .int 0, .ref (q 10), .int 0, .int 0, .int 0, .int (-1), .ref (q 11), .int 1, .int 0], kI (q 9) (G.2 0) 16 (fun _ => 0)] H := hP
  have hD : va_D A [kO (q 0) 5 [.int 0, .int sp, .int sp, .ref (q 1), .ref (q 2), .ref (q 3), .ref (q 4), .int 0, .ref (q 5), .ref (q 6), .ref (q 7), .ref (q 8), .ref (q 9), .int 1, .int 0, .ref (q 10), .int 0, .int 0, .int 0, .int (-1), .ref (q 11), .int 1, .int 0], kI (q 9) (G.2 0) 16 (fun _ => 0)] := hD
  refine lv_aload_n hx hb dX5_next_5 rfl (lv_at hl 0 rfl) ?_
  refine lv_aload_n hx hb dX5_next_6 rfl (lv_at hl 0 rfl) ?_
  refine va_get (D := G.1) (ci := 5) (v := .int 1) (C := RX5) (T := TX5) (N := 23) hx hb hts in5 hown hK hP 0 rfl rfl 13 (by decide) (hts (.fieldLink RX5 70 "TraceDebuggerModel" "frames" "I") (by decide +kernel)) (fun _ h9 => h9) rfl dX5_next_7 ?_
  refine kCi (G := G) (ws := [kO (q 0) 5 [.int 0, .int sp, .int sp, .ref (q 1), .ref (q 2), .ref (q 3), .ref (q 4), .int 0, .ref (q 5), .ref (q 6), .ref (q 7), .ref (q 8), .ref (q 9), .int 1, .int 0, .ref (q 10), .int 0, .int 0, .int 0, .int (-1), .ref (q 11), .int 1, .int 0], kI (q 9) (G.2 0) 16 (fun _ => 0)]) (wr := []) (va_runV (As := [.int 1]) (rest := []) ⟨hx, hb, hml, hown, hts⟩ (c_X5_goTill l G H.size q sp 0 1 ) (cwV 1 hts gX5_next_X5_goTill rfl rfl rfl (by decide +kernel) ⟨Nat.le_of_ble_eq_true rfl, Nat.le_of_ble_eq_true rfl⟩) (kPreV (va_recv hK hP (ci := 5) (q0 := 0) rfl rfl) kZ0 kZt hK hP hD [0, 1] rfl (by decide)) rfl rfl hl.1 rfl (lv_room (Nat.le_of_ble_eq_true rfl)) dX5_next_10 ⟨Nat.le_of_ble_eq_true rfl, Nat.le_of_ble_eq_true rfl⟩) hP hD hS hA [0, 1] [] rfl rfl (by decide) (by decide) (fun r2 u1 H locs hw3 hP hD hS => ?_)
  try dsimp only at hw3
  have hP : va_P G.1 vwCl [] H := hP
  have hD : va_D A [] := hD
  subst hw3
  exact kRetI (G := G) () hx hb hr hlocks hS dX5_next_13 (kSubP (wc := []) hP [] rfl) (hD.sub (ws' := []) [] (by decide) rfl) rfl

set_option maxHeartbeats 4000000 in
set_option maxRecDepth 100000 in
theorem c_X5_finish (l : Launch) (G : gG) (sz : Nat) (q : Nat → Nat) (sp : Int32)  : Met l yX5_finish wsX5_finish { frames := 4, cells := 0, slots := 0, locals := 92 } (kPc G [.ref (q 0)] [kO (q 0) 5 [.int 0, .int sp, .int sp, .ref (q 1), .ref (q 2), .ref (q 3), .ref (q 4), .int 0, .ref (q 5), .ref (q 6), .ref (q 7), .ref (q 8), .ref (q 9), .int 1, .int 0, .ref (q 10), .int 0, .int 0, .int 0, .int (-1), .ref (q 11), .int 1, .int 0], kI (q 9) (G.2 0) 16 (fun _ => 0)] sz (fun _ => True)) (kQi G (S := Unit) (fun r _ => r = 4) (fun _ => []) (va_A [kO (q 0) 5 [.int 0, .int sp, .int sp, .ref (q 1), .ref (q 2), .ref (q 3), .ref (q 4), .int 0, .ref (q 5), .ref (q 6), .ref (q 7), .ref (q 8), .ref (q 9), .int 1, .int 0, .ref (q 10), .int 0, .int 0, .int 0, .int (-1), .ref (q 11), .int 1, .int 0], kI (q 9) (G.2 0) 16 (fun _ => 0)] sz)) 0 0 (va_A [kO (q 0) 5 [.int 0, .int sp, .int sp, .ref (q 1), .ref (q 2), .ref (q 3), .ref (q 4), .int 0, .ref (q 5), .ref (q 6), .ref (q 7), .ref (q 8), .ref (q 9), .int 1, .int 0, .ref (q 10), .int 0, .int 0, .int 0, .int (-1), .ref (q 11), .int 1, .int 0], kI (q 9) (G.2 0) 16 (fun _ => 0)] sz) := by
  refine kBeg (Qc := fun A => kQi G (S := Unit) (fun r _ => r = 4) (fun _ => []) A) (by decide) rfl (Nat.le_of_ble_eq_true rfl) ?_
  intro A p e s m below meth c ls H locs hx hb hr hts hown hlocks hnm hml hsz hP hK hD hZ hA hS hl
  have hown : s.vm.findClass RX5 = some m.cls := hown
  have hl : lv_has ls 1 [(0, .ref (q 0))] := hl
  have in5 : ∀ w ∈ wsX50, w ∈ wsX5_finish := by decide +kernel
  have kc0 : (0 : Int32).toInt = 0 := by decide
  have kc1 : (1 : Int32).toInt = 1 := by decide
  refine lv_aload_n hx hb dX5_finish_0 rfl (lv_at hl 0 rfl) ?_
  refine lv_iconst (v := 0) hx hb dX5_finish_1 (by decide) ?_
  refine va_put (D := G.1) (ci := 5) (v := .int 0) (ty := .int) (C := RX5) (T := TX5) (N := 23) hx hb hts in5 tyX5 tyX5_ok nmX5 hown hK hP hD hS 0 rfl rfl 0 (by decide) (hts (.fieldLink RX5 51 "TraceDebuggerModel" "code" "I") (by decide +kernel)) (fun _ h9 => h9) rfl (by decide +kernel) rfl rfl (Nat.le_of_ble_eq_true rfl) dX5_finish_2 (fun H locs hP hD hS => ?_)
  have hP : va_P G.1 vwCl [kO (q 0) 5 [.int 0, .int sp, .int sp, .ref (q 1), .ref (q 2), .ref (q 3), .ref (q 4), .int 0, .ref (q 5), .ref (q 6), .ref (q 7), .ref (q 8), .ref (q 9), .int 1, .int 0, .ref (q 10), .int 0, .int 0, .int 0, .int (-1), .ref (q 11), .int 1, .int 0], kI (q 9) (G.2 0) 16 (fun _ => 0)] H := hP
  have hD : va_D A [kO (q 0) 5 [.int 0, .int sp, .int sp, .ref (q 1), .ref (q 2), .ref (q 3), .ref (q 4), .int 0, .ref (q 5), .ref (q 6), .ref (q 7), .ref (q 8), .ref (q 9), .int 1, .int 0, .ref (q 10), .int 0, .int 0, .int 0, .int (-1), .ref (q 11), .int 1, .int 0], kI (q 9) (G.2 0) 16 (fun _ => 0)] := hD
  refine lv_aload_n hx hb dX5_finish_5 rfl (lv_at hl 0 rfl) ?_
  refine lv_aload_n hx hb dX5_finish_6 rfl (lv_at hl 0 rfl) ?_
  refine va_get (D := G.1) (ci := 5) (v := .int 1) (C := RX5) (T := TX5) (N := 23) hx hb hts in5 hown hK hP 0 rfl rfl 13 (by decide) (hts (.fieldLink RX5 70 "TraceDebuggerModel" "frames" "I") (by decide +kernel)) (fun _ h9 => h9) rfl dX5_finish_7 ?_
  refine lv_iconst (v := 1) hx hb dX5_finish_10 (by decide) ?_
  refine lv_isub hx hb dX5_finish_11 ?_
  refine kTop (y := 0) (by decide) ?_
  refine kCi (G := G) (ws := [kO (q 0) 5 [.int 0, .int sp, .int sp, .ref (q 1), .ref (q 2), .ref (q 3), .ref (q 4), .int 0, .ref (q 5), .ref (q 6), .ref (q 7), .ref (q 8), .ref (q 9), .int 1, .int 0, .ref (q 10), .int 0, .int 0, .int 0, .int (-1), .ref (q 11), .int 1, .int 0], kI (q 9) (G.2 0) 16 (fun _ => 0)]) (wr := []) (va_runV (As := [.int 0]) (rest := []) ⟨hx, hb, hml, hown, hts⟩ (c_X5_goTill l G H.size q sp 0 0 ) (cwV 1 hts gX5_finish_X5_goTill rfl rfl rfl (by decide +kernel) ⟨Nat.le_of_ble_eq_true rfl, Nat.le_of_ble_eq_true rfl⟩) (kPreV (va_recv hK hP (ci := 5) (q0 := 0) rfl rfl) kZ0 kZt hK hP hD [0, 1] rfl (by decide)) rfl rfl hl.1 rfl (lv_room (Nat.le_of_ble_eq_true rfl)) dX5_finish_12 ⟨Nat.le_of_ble_eq_true rfl, Nat.le_of_ble_eq_true rfl⟩) hP hD hS hA [0, 1] [] rfl rfl (by decide) (by decide) (fun r2 u1 H locs hw3 hP hD hS => ?_)
  try dsimp only at hw3
  have hP : va_P G.1 vwCl [] H := hP
  have hD : va_D A [] := hD
  subst hw3
  exact kRetI (G := G) () hx hb hr hlocks hS dX5_finish_15 (kSubP (wc := []) hP [] rfl) (hD.sub (ws' := []) [] (by decide) rfl) rfl

set_option maxHeartbeats 4000000 in
set_option maxRecDepth 100000 in
theorem c_X5_go (l : Launch) (G : gG) (sz : Nat) (q : Nat → Nat) (sp : Int32)  : Met l yX5_go wsX5_go { frames := 4, cells := 0, slots := 0, locals := 92 } (kPc G [.ref (q 0)] [kO (q 0) 5 [.int 0, .int sp, .int sp, .ref (q 1), .ref (q 2), .ref (q 3), .ref (q 4), .int 0, .ref (q 5), .ref (q 6), .ref (q 7), .ref (q 8), .ref (q 9), .int 1, .int 0, .ref (q 10), .int 0, .int 0, .int 0, .int (-1), .ref (q 11), .int 1, .int 0], kI (q 9) (G.2 0) 16 (fun _ => 0)] sz (fun _ => True)) (kQi G (S := Unit) (fun r _ => r = 4) (fun _ => []) (va_A [kO (q 0) 5 [.int 0, .int sp, .int sp, .ref (q 1), .ref (q 2), .ref (q 3), .ref (q 4), .int 0, .ref (q 5), .ref (q 6), .ref (q 7), .ref (q 8), .ref (q 9), .int 1, .int 0, .ref (q 10), .int 0, .int 0, .int 0, .int (-1), .ref (q 11), .int 1, .int 0], kI (q 9) (G.2 0) 16 (fun _ => 0)] sz)) 0 0 (va_A [kO (q 0) 5 [.int 0, .int sp, .int sp, .ref (q 1), .ref (q 2), .ref (q 3), .ref (q 4), .int 0, .ref (q 5), .ref (q 6), .ref (q 7), .ref (q 8), .ref (q 9), .int 1, .int 0, .ref (q 10), .int 0, .int 0, .int 0, .int (-1), .ref (q 11), .int 1, .int 0], kI (q 9) (G.2 0) 16 (fun _ => 0)] sz) := by
  refine kBeg (Qc := fun A => kQi G (S := Unit) (fun r _ => r = 4) (fun _ => []) A) (by decide) rfl (Nat.le_of_ble_eq_true rfl) ?_
  intro A p e s m below meth c ls H locs hx hb hr hts hown hlocks hnm hml hsz hP hK hD hZ hA hS hl
  have hown : s.vm.findClass RX5 = some m.cls := hown
  have hl : lv_has ls 1 [(0, .ref (q 0))] := hl
  have in5 : ∀ w ∈ wsX50, w ∈ wsX5_go := by decide +kernel
  have kcm1 : (-1 : Int32).toInt = -1 := by decide
  have kc0 : (0 : Int32).toInt = 0 := by decide
  refine lv_aload_n hx hb dX5_go_0 rfl (lv_at hl 0 rfl) ?_
  refine lv_iconst (v := 0) hx hb dX5_go_1 (by decide) ?_
  refine va_put (D := G.1) (ci := 5) (v := .int 0) (ty := .int) (C := RX5) (T := TX5) (N := 23) hx hb hts in5 tyX5 tyX5_ok nmX5 hown hK hP hD hS 0 rfl rfl 0 (by decide) (hts (.fieldLink RX5 51 "TraceDebuggerModel" "code" "I") (by decide +kernel)) (fun _ h9 => h9) rfl (by decide +kernel) rfl rfl (Nat.le_of_ble_eq_true rfl) dX5_go_2 (fun H locs hP hD hS => ?_)
  have hP : va_P G.1 vwCl [kO (q 0) 5 [.int 0, .int sp, .int sp, .ref (q 1), .ref (q 2), .ref (q 3), .ref (q 4), .int 0, .ref (q 5), .ref (q 6), .ref (q 7), .ref (q 8), .ref (q 9), .int 1, .int 0, .ref (q 10), .int 0, .int 0, .int 0, .int (-1), .ref (q 11), .int 1, .int 0], kI (q 9) (G.2 0) 16 (fun _ => 0)] H := hP
  have hD : va_D A [kO (q 0) 5 [.int 0, .int sp, .int sp, .ref (q 1), .ref (q 2), .ref (q 3), .ref (q 4), .int 0, .ref (q 5), .ref (q 6), .ref (q 7), .ref (q 8), .ref (q 9), .int 1, .int 0, .ref (q 10), .int 0, .int 0, .int 0, .int (-1), .ref (q 11), .int 1, .int 0], kI (q 9) (G.2 0) 16 (fun _ => 0)] := hD
  refine lv_aload_n hx hb dX5_go_5 rfl (lv_at hl 0 rfl) ?_
  refine lv_iconst (v := (-1)) hx hb dX5_go_6 (by decide) ?_
  refine kCi (G := G) (ws := [kO (q 0) 5 [.int 0, .int sp, .int sp, .ref (q 1), .ref (q 2), .ref (q 3), .ref (q 4), .int 0, .ref (q 5), .ref (q 6), .ref (q 7), .ref (q 8), .ref (q 9), .int 1, .int 0, .ref (q 10), .int 0, .int 0, .int 0, .int (-1), .ref (q 11), .int 1, .int 0], kI (q 9) (G.2 0) 16 (fun _ => 0)]) (wr := []) (va_runV (As := [.int (-1)]) (rest := []) ⟨hx, hb, hml, hown, hts⟩ (c_X5_goTill l G H.size q sp 0 (-1) ) (cwV 1 hts gX5_go_X5_goTill rfl rfl rfl (by decide +kernel) ⟨Nat.le_of_ble_eq_true rfl, Nat.le_of_ble_eq_true rfl⟩) (kPreV (va_recv hK hP (ci := 5) (q0 := 0) rfl rfl) kZ0 kZt hK hP hD [0, 1] rfl (by decide)) rfl rfl hl.1 rfl (lv_room (Nat.le_of_ble_eq_true rfl)) dX5_go_7 ⟨Nat.le_of_ble_eq_true rfl, Nat.le_of_ble_eq_true rfl⟩) hP hD hS hA [0, 1] [] rfl rfl (by decide) (by decide) (fun r2 u1 H locs hw3 hP hD hS => ?_)
  try dsimp only at hw3
  have hP : va_P G.1 vwCl [] H := hP
  have hD : va_D A [] := hD
  subst hw3
  exact kRetI (G := G) () hx hb hr hlocks hS dX5_go_10 (kSubP (wc := []) hP [] rfl) (hD.sub (ws' := []) [] (by decide) rfl) rfl

set_option maxHeartbeats 4000000 in
set_option maxRecDepth 100000 in
theorem c_X5_back (l : Launch) (G : gG) (sz : Nat) (q : Nat → Nat) (sp : Int32)  : Met l yX5_back wsX5_back { frames := 0, cells := 0, slots := 0, locals := 0 } (kPc G [.ref (q 0)] [kO (q 0) 5 [.int 0, .int sp, .int sp, .ref (q 1), .ref (q 2), .ref (q 3), .ref (q 4), .int 0, .ref (q 5), .ref (q 6), .ref (q 7), .ref (q 8), .ref (q 9), .int 1, .int 0, .ref (q 10), .int 0, .int 0, .int 0, .int (-1), .ref (q 11), .int 1, .int 0]] sz (fun _ => True)) (kQi G (S := Unit) (fun r _ => r = 6) (fun _ => []) (va_A [kO (q 0) 5 [.int 0, .int sp, .int sp, .ref (q 1), .ref (q 2), .ref (q 3), .ref (q 4), .int 0, .ref (q 5), .ref (q 6), .ref (q 7), .ref (q 8), .ref (q 9), .int 1, .int 0, .ref (q 10), .int 0, .int 0, .int 0, .int (-1), .ref (q 11), .int 1, .int 0]] sz)) 0 0 (va_A [kO (q 0) 5 [.int 0, .int sp, .int sp, .ref (q 1), .ref (q 2), .ref (q 3), .ref (q 4), .int 0, .ref (q 5), .ref (q 6), .ref (q 7), .ref (q 8), .ref (q 9), .int 1, .int 0, .ref (q 10), .int 0, .int 0, .int 0, .int (-1), .ref (q 11), .int 1, .int 0]] sz) := by
  refine kBeg (Qc := fun A => kQi G (S := Unit) (fun r _ => r = 6) (fun _ => []) A) (by decide) rfl (Nat.le_of_ble_eq_true rfl) ?_
  intro A p e s m below meth c ls H locs hx hb hr hts hown hlocks hnm hml hsz hP hK hD hZ hA hS hl
  have hown : s.vm.findClass RX5 = some m.cls := hown
  have hl : lv_has ls 1 [(0, .ref (q 0))] := hl
  have in5 : ∀ w ∈ wsX50, w ∈ wsX5_back := by decide +kernel
  have kc0 : (0 : Int32).toInt = 0 := by decide
  have kc6 : (6 : Int32).toInt = 6 := by decide
  refine lv_aload_n hx hb dX5_back_0 rfl (lv_at hl 0 rfl) ?_
  refine lv_iconst (v := 0) hx hb dX5_back_1 (by decide) ?_
  refine va_put (D := G.1) (ci := 5) (v := .int 0) (ty := .int) (C := RX5) (T := TX5) (N := 23) hx hb hts in5 tyX5 tyX5_ok nmX5 hown hK hP hD hS 0 rfl rfl 0 (by decide) (hts (.fieldLink RX5 51 "TraceDebuggerModel" "code" "I") (by decide +kernel)) (fun _ h9 => h9) rfl (by decide +kernel) rfl rfl (Nat.le_of_ble_eq_true rfl) dX5_back_2 (fun H locs hP hD hS => ?_)
  have hP : va_P G.1 vwCl [kO (q 0) 5 [.int 0, .int sp, .int sp, .ref (q 1), .ref (q 2), .ref (q 3), .ref (q 4), .int 0, .ref (q 5), .ref (q 6), .ref (q 7), .ref (q 8), .ref (q 9), .int 1, .int 0, .ref (q 10), .int 0, .int 0, .int 0, .int (-1), .ref (q 11), .int 1, .int 0]] H := hP
  have hD : va_D A [kO (q 0) 5 [.int 0, .int sp, .int sp, .ref (q 1), .ref (q 2), .ref (q 3), .ref (q 4), .int 0, .ref (q 5), .ref (q 6), .ref (q 7), .ref (q 8), .ref (q 9), .int 1, .int 0, .ref (q 10), .int 0, .int 0, .int 0, .int (-1), .ref (q 11), .int 1, .int 0]] := hD
  refine lv_aload_n hx hb dX5_back_5 rfl (lv_at hl 0 rfl) ?_
  refine lv_iconst (v := 0) hx hb dX5_back_6 (by decide) ?_
  refine va_put (D := G.1) (ci := 5) (v := .int 0) (ty := .boolean) (C := RX5) (T := TX5) (N := 23) hx hb hts in5 tyX5 tyX5_ok nmX5 hown hK hP hD hS 0 rfl rfl 18 (by decide) (hts (.fieldLink RX5 63 "TraceDebuggerModel" "trapped" "Z") (by decide +kernel)) (fun _ h9 => h9) rfl (by decide +kernel) rfl rfl (Nat.le_of_ble_eq_true rfl) dX5_back_7 (fun H locs hP hD hS => ?_)
  have hP : va_P G.1 vwCl [kO (q 0) 5 [.int 0, .int sp, .int sp, .ref (q 1), .ref (q 2), .ref (q 3), .ref (q 4), .int 0, .ref (q 5), .ref (q 6), .ref (q 7), .ref (q 8), .ref (q 9), .int 1, .int 0, .ref (q 10), .int 0, .int 0, .int 0, .int (-1), .ref (q 11), .int 1, .int 0]] H := hP
  have hD : va_D A [kO (q 0) 5 [.int 0, .int sp, .int sp, .ref (q 1), .ref (q 2), .ref (q 3), .ref (q 4), .int 0, .ref (q 5), .ref (q 6), .ref (q 7), .ref (q 8), .ref (q 9), .int 1, .int 0, .ref (q 10), .int 0, .int 0, .int 0, .int (-1), .ref (q 11), .int 1, .int 0]] := hD
  refine lv_aload_n hx hb dX5_back_10 rfl (lv_at hl 0 rfl) ?_
  refine va_get (D := G.1) (ci := 5) (v := .int 0) (C := RX5) (T := TX5) (N := 23) hx hb hts in5 hown hK hP 0 rfl rfl 14 (by decide) (hts (.fieldLink RX5 73 "TraceDebuggerModel" "time" "I") (by decide +kernel)) (fun _ h9 => h9) rfl dX5_back_11 ?_
  refine lv_if_ne (tgt := 20) hx hb dX5_back_14 (by decide) (fun c9 => absurd c9 (by decide)) (fun _ => ?_)
  refine lv_bipush (v := 6) hx hb dX5_back_17 (by decide) ?_
  exact kRetI (G := G) () hx hb hr hlocks hS dX5_back_19 (kSubP (wc := []) hP [] rfl) (hD.sub (ws' := []) [] (by decide) rfl) rfl

set_option maxHeartbeats 4000000 in
set_option maxRecDepth 100000 in
theorem c_X5_reverse (l : Launch) (G : gG) (sz : Nat) (q : Nat → Nat) (sp : Int32)  : Met l yX5_reverse wsX5_reverse { frames := 0, cells := 0, slots := 0, locals := 0 } (kPc G [.ref (q 0)] [kO (q 0) 5 [.int 0, .int sp, .int sp, .ref (q 1), .ref (q 2), .ref (q 3), .ref (q 4), .int 0, .ref (q 5), .ref (q 6), .ref (q 7), .ref (q 8), .ref (q 9), .int 1, .int 0, .ref (q 10), .int 0, .int 0, .int 0, .int (-1), .ref (q 11), .int 1, .int 0]] sz (fun _ => True)) (kQi G (S := Unit) (fun r _ => r = 6) (fun _ => []) (va_A [kO (q 0) 5 [.int 0, .int sp, .int sp, .ref (q 1), .ref (q 2), .ref (q 3), .ref (q 4), .int 0, .ref (q 5), .ref (q 6), .ref (q 7), .ref (q 8), .ref (q 9), .int 1, .int 0, .ref (q 10), .int 0, .int 0, .int 0, .int (-1), .ref (q 11), .int 1, .int 0]] sz)) 0 0 (va_A [kO (q 0) 5 [.int 0, .int sp, .int sp, .ref (q 1), .ref (q 2), .ref (q 3), .ref (q 4), .int 0, .ref (q 5), .ref (q 6), .ref (q 7), .ref (q 8), .ref (q 9), .int 1, .int 0, .ref (q 10), .int 0, .int 0, .int 0, .int (-1), .ref (q 11), .int 1, .int 0]] sz) := by
  refine kBeg (Qc := fun A => kQi G (S := Unit) (fun r _ => r = 6) (fun _ => []) A) (by decide) rfl (Nat.le_of_ble_eq_true rfl) ?_
  intro A p e s m below meth c ls H locs hx hb hr hts hown hlocks hnm hml hsz hP hK hD hZ hA hS hl
  have hown : s.vm.findClass RX5 = some m.cls := hown
  have hl : lv_has ls 6 [(0, .ref (q 0))] := hl
  have in5 : ∀ w ∈ wsX50, w ∈ wsX5_reverse := by decide +kernel
  have kc0 : (0 : Int32).toInt = 0 := by decide
  have kc6 : (6 : Int32).toInt = 6 := by decide
  refine lv_aload_n hx hb dX5_reverse_0 rfl (lv_at hl 0 rfl) ?_
  refine lv_iconst (v := 0) hx hb dX5_reverse_1 (by decide) ?_
  refine va_put (D := G.1) (ci := 5) (v := .int 0) (ty := .int) (C := RX5) (T := TX5) (N := 23) hx hb hts in5 tyX5 tyX5_ok nmX5 hown hK hP hD hS 0 rfl rfl 0 (by decide) (hts (.fieldLink RX5 51 "TraceDebuggerModel" "code" "I") (by decide +kernel)) (fun _ h9 => h9) rfl (by decide +kernel) rfl rfl (Nat.le_of_ble_eq_true rfl) dX5_reverse_2 (fun H locs hP hD hS => ?_)
  have hP : va_P G.1 vwCl [kO (q 0) 5 [.int 0, .int sp, .int sp, .ref (q 1), .ref (q 2), .ref (q 3), .ref (q 4), .int 0, .ref (q 5), .ref (q 6), .ref (q 7), .ref (q 8), .ref (q 9), .int 1, .int 0, .ref (q 10), .int 0, .int 0, .int 0, .int (-1), .ref (q 11), .int 1, .int 0]] H := hP
  have hD : va_D A [kO (q 0) 5 [.int 0, .int sp, .int sp, .ref (q 1), .ref (q 2), .ref (q 3), .ref (q 4), .int 0, .ref (q 5), .ref (q 6), .ref (q 7), .ref (q 8), .ref (q 9), .int 1, .int 0, .ref (q 10), .int 0, .int 0, .int 0, .int (-1), .ref (q 11), .int 1, .int 0]] := hD
  refine lv_aload_n hx hb dX5_reverse_5 rfl (lv_at hl 0 rfl) ?_
  refine lv_iconst (v := 0) hx hb dX5_reverse_6 (by decide) ?_
  refine va_put (D := G.1) (ci := 5) (v := .int 0) (ty := .boolean) (C := RX5) (T := TX5) (N := 23) hx hb hts in5 tyX5 tyX5_ok nmX5 hown hK hP hD hS 0 rfl rfl 18 (by decide) (hts (.fieldLink RX5 63 "TraceDebuggerModel" "trapped" "Z") (by decide +kernel)) (fun _ h9 => h9) rfl (by decide +kernel) rfl rfl (Nat.le_of_ble_eq_true rfl) dX5_reverse_7 (fun H locs hP hD hS => ?_)
  have hP : va_P G.1 vwCl [kO (q 0) 5 [.int 0, .int sp, .int sp, .ref (q 1), .ref (q 2), .ref (q 3), .ref (q 4), .int 0, .ref (q 5), .ref (q 6), .ref (q 7), .ref (q 8), .ref (q 9), .int 1, .int 0, .ref (q 10), .int 0, .int 0, .int 0, .int (-1), .ref (q 11), .int 1, .int 0]] H := hP
  have hD : va_D A [kO (q 0) 5 [.int 0, .int sp, .int sp, .ref (q 1), .ref (q 2), .ref (q 3), .ref (q 4), .int 0, .ref (q 5), .ref (q 6), .ref (q 7), .ref (q 8), .ref (q 9), .int 1, .int 0, .ref (q 10), .int 0, .int 0, .int 0, .int (-1), .ref (q 11), .int 1, .int 0]] := hD
  refine lv_aload_n hx hb dX5_reverse_10 rfl (lv_at hl 0 rfl) ?_
  refine va_get (D := G.1) (ci := 5) (v := .int 0) (C := RX5) (T := TX5) (N := 23) hx hb hts in5 hown hK hP 0 rfl rfl 14 (by decide) (hts (.fieldLink RX5 73 "TraceDebuggerModel" "time" "I") (by decide +kernel)) (fun _ h9 => h9) rfl dX5_reverse_11 ?_
  refine lv_if_ne (tgt := 20) hx hb dX5_reverse_14 (by decide) (fun c9 => absurd c9 (by decide)) (fun _ => ?_)
  refine lv_bipush (v := 6) hx hb dX5_reverse_17 (by decide) ?_
  exact kRetI (G := G) () hx hb hr hlocks hS dX5_reverse_19 (kSubP (wc := []) hP [] rfl) (hD.sub (ws' := []) [] (by decide) rfl) rfl

set_option maxHeartbeats 4000000 in
set_option maxRecDepth 100000 in
theorem c_X5_goTo (l : Launch) (G : gG) (sz : Nat) (q : Nat → Nat) (sp : Int32) (t : Int32)  : Met l yX5_goTo wsX5_goTo { frames := 2, cells := 0, slots := 0, locals := 50 } (kPc G [.ref (q 0), .int t] [kO (q 0) 5 [.int 0, .int sp, .int sp, .ref (q 1), .ref (q 2), .ref (q 3), .ref (q 4), .int 0, .ref (q 5), .ref (q 6), .ref (q 7), .ref (q 8), .ref (q 9), .int 1, .int 0, .ref (q 10), .int 0, .int 0, .int 0, .int (-1), .ref (q 11), .int 1, .int 0], kI (q 9) (G.2 0) 16 (fun _ => 0)] sz (fun _ => True)) (kQi G (S := Int32) (fun r u => (u = 0 ∧ r = 0 ∧ (0 ≤ t.toInt ∧ t.toInt ≤ 2000)) ∨ (u = 1 ∧ ¬ (0 ≤ t.toInt ∧ t.toInt ≤ 2000))) (fun u => [kO (q 0) 5 [.int u, .int sp, .int sp, .ref (q 1), .ref (q 2), .ref (q 3), .ref (q 4), .int 0, .ref (q 5), .ref (q 6), .ref (q 7), .ref (q 8), .ref (q 9), .int 1, .int 0, .ref (q 10), .int 0, .int 0, .int 0, .int (-1), .ref (q 11), .int 1, .int 0]]) (va_A [kO (q 0) 5 [.int 0, .int sp, .int sp, .ref (q 1), .ref (q 2), .ref (q 3), .ref (q 4), .int 0, .ref (q 5), .ref (q 6), .ref (q 7), .ref (q 8), .ref (q 9), .int 1, .int 0, .ref (q 10), .int 0, .int 0, .int 0, .int (-1), .ref (q 11), .int 1, .int 0], kI (q 9) (G.2 0) 16 (fun _ => 0)] sz)) 0 0 (va_A [kO (q 0) 5 [.int 0, .int sp, .int sp, .ref (q 1), .ref (q 2), .ref (q 3), .ref (q 4), .int 0, .ref (q 5), .ref (q 6), .ref (q 7), .ref (q 8), .ref (q 9), .int 1, .int 0, .ref (q 10), .int 0, .int 0, .int 0, .int (-1), .ref (q 11), .int 1, .int 0], kI (q 9) (G.2 0) 16 (fun _ => 0)] sz) := by
  refine kBeg (Qc := fun A => kQi G (S := Int32) (fun r u => (u = 0 ∧ r = 0 ∧ (0 ≤ t.toInt ∧ t.toInt ≤ 2000)) ∨ (u = 1 ∧ ¬ (0 ≤ t.toInt ∧ t.toInt ≤ 2000))) (fun u => [kO (q 0) 5 [.int u, .int sp, .int sp, .ref (q 1), .ref (q 2), .ref (q 3), .ref (q 4), .int 0, .ref (q 5), .ref (q 6), .ref (q 7), .ref (q 8), .ref (q 9), .int 1, .int 0, .ref (q 10), .int 0, .int 0, .int 0, .int (-1), .ref (q 11), .int 1, .int 0]]) A) (by decide) rfl (Nat.le_of_ble_eq_true rfl) ?_
  intro A p e s m below meth c ls H locs hx hb hr hts hown hlocks hnm hml hsz hP hK hD hZ hA hS hl
  have hown : s.vm.findClass RX5 = some m.cls := hown
  have hl : lv_has ls 3 [(0, .ref (q 0)), (1, .int t)] := hl
  have in5 : ∀ w ∈ wsX50, w ∈ wsX5_goTo := by decide +kernel
  have kc0 : (0 : Int32).toInt = 0 := by decide
  have kc1 : (1 : Int32).toInt = 1 := by decide
  have kc2000 : (2000 : Int32).toInt = 2000 := by decide
  refine lv_aload_n hx hb dX5_goTo_0 rfl (lv_at hl 0 rfl) ?_
  refine lv_iload_n hx hb dX5_goTo_1 rfl (lv_at hl 1 rfl) ?_
  refine lv_if_lt (tgt := 12) hx hb dX5_goTo_2 (by decide) (fun c1 => ?_) (fun c1 => ?_)
  · have t1 := i_lt.mp c1
    refine lv_iconst (v := 1) hx hb dX5_goTo_12 (by decide) ?_
    refine lv_goto (tgt := 17) hx hb dX5_goTo_13 (by decide) ?_
    refine va_put (D := G.1) (ci := 5) (v := .int 1) (ty := .int) (C := RX5) (T := TX5) (N := 23) hx hb hts in5 tyX5 tyX5_ok nmX5 hown hK hP hD hS 0 rfl rfl 0 (by decide) (hts (.fieldLink RX5 51 "TraceDebuggerModel" "code" "I") (by decide +kernel)) (fun _ h9 => h9) rfl (by decide +kernel) rfl rfl (Nat.le_of_ble_eq_true rfl) dX5_goTo_17 (fun H locs hP hD hS => ?_)
    have hP : va_P G.1 vwCl [kO (q 0) 5 [.int 1, .int sp, .int sp, .ref (q 1), .ref (q 2), .ref (q 3), .ref (q 4), .int 0, .ref (q 5), .ref (q 6), .ref (q 7), .ref (q 8), .ref (q 9), .int 1, .int 0, .ref (q 10), .int 0, .int 0, .int 0, .int (-1), .ref (q 11), .int 1, .int 0], kI (q 9) (G.2 0) 16 (fun _ => 0)] H := hP
    have hD : va_D A [kO (q 0) 5 [.int 1, .int sp, .int sp, .ref (q 1), .ref (q 2), .ref (q 3), .ref (q 4), .int 0, .ref (q 5), .ref (q 6), .ref (q 7), .ref (q 8), .ref (q 9), .int 1, .int 0, .ref (q 10), .int 0, .int 0, .int 0, .int (-1), .ref (q 11), .int 1, .int 0], kI (q 9) (G.2 0) 16 (fun _ => 0)] := hD
    refine lv_aload_n hx hb dX5_goTo_20 rfl (lv_at hl 0 rfl) ?_
    refine va_get (D := G.1) (ci := 5) (v := .int 1) (C := RX5) (T := TX5) (N := 23) hx hb hts in5 hown hK hP 0 rfl rfl 0 (by decide) (hts (.fieldLink RX5 51 "TraceDebuggerModel" "code" "I") (by decide +kernel)) (fun _ h9 => h9) rfl dX5_goTo_21 ?_
    refine lv_if_le (tgt := 29) hx hb dX5_goTo_24 (by decide) (fun c9 => absurd c9 (by decide)) (fun _ => ?_)
    refine lv_iconst (v := 0) hx hb dX5_goTo_27 (by decide) ?_
    exact kRetI (G := G) 1 hx hb hr hlocks hS dX5_goTo_28 (kSubP (wc := [kO (q 0) 5 [.int 1, .int sp, .int sp, .ref (q 1), .ref (q 2), .ref (q 3), .ref (q 4), .int 0, .ref (q 5), .ref (q 6), .ref (q 7), .ref (q 8), .ref (q 9), .int 1, .int 0, .ref (q 10), .int 0, .int 0, .int 0, .int (-1), .ref (q 11), .int 1, .int 0]]) hP [0] rfl) (hD.sub (ws' := [kO (q 0) 5 [.int 1, .int sp, .int sp, .ref (q 1), .ref (q 2), .ref (q 3), .ref (q 4), .int 0, .ref (q 5), .ref (q 6), .ref (q 7), .ref (q 8), .ref (q 9), .int 1, .int 0, .ref (q 10), .int 0, .int 0, .int 0, .int (-1), .ref (q 11), .int 1, .int 0]]) [0] (by decide) rfl) (by first | exact Or.inl ⟨rfl, rfl, by omega⟩ | exact Or.inr ⟨rfl, by omega⟩)
  · have t1 := i_nlt.mp c1
    refine lv_iload_n hx hb dX5_goTo_5 rfl (lv_at hl 1 rfl) ?_
    refine lv_sipush (v := 2000) hx hb dX5_goTo_6 (by decide) ?_
    refine lv_icmp_le (tgt := 16) hx hb dX5_goTo_9 (by decide) (fun c2 => ?_) (fun c2 => ?_)
    · have t2 := i_le.mp c2
      refine lv_iconst (v := 0) hx hb dX5_goTo_16 (by decide) ?_
      refine va_put (D := G.1) (ci := 5) (v := .int 0) (ty := .int) (C := RX5) (T := TX5) (N := 23) hx hb hts in5 tyX5 tyX5_ok nmX5 hown hK hP hD hS 0 rfl rfl 0 (by decide) (hts (.fieldLink RX5 51 "TraceDebuggerModel" "code" "I") (by decide +kernel)) (fun _ h9 => h9) rfl (by decide +kernel) rfl rfl (Nat.le_of_ble_eq_true rfl) dX5_goTo_17 (fun H locs hP hD hS => ?_)
      have hP : va_P G.1 vwCl [kO (q 0) 5 [.int 0, .int sp, .int sp, .ref (q 1), .ref (q 2), .ref (q 3), .ref (q 4), .int 0, .ref (q 5), .ref (q 6), .ref (q 7), .ref (q 8), .ref (q 9), .int 1, .int 0, .ref (q 10), .int 0, .int 0, .int 0, .int (-1), .ref (q 11), .int 1, .int 0], kI (q 9) (G.2 0) 16 (fun _ => 0)] H := hP
      have hD : va_D A [kO (q 0) 5 [.int 0, .int sp, .int sp, .ref (q 1), .ref (q 2), .ref (q 3), .ref (q 4), .int 0, .ref (q 5), .ref (q 6), .ref (q 7), .ref (q 8), .ref (q 9), .int 1, .int 0, .ref (q 10), .int 0, .int 0, .int 0, .int (-1), .ref (q 11), .int 1, .int 0], kI (q 9) (G.2 0) 16 (fun _ => 0)] := hD
      refine lv_aload_n hx hb dX5_goTo_20 rfl (lv_at hl 0 rfl) ?_
      refine va_get (D := G.1) (ci := 5) (v := .int 0) (C := RX5) (T := TX5) (N := 23) hx hb hts in5 hown hK hP 0 rfl rfl 0 (by decide) (hts (.fieldLink RX5 51 "TraceDebuggerModel" "code" "I") (by decide +kernel)) (fun _ h9 => h9) rfl dX5_goTo_21 ?_
      refine lv_if_le (tgt := 29) hx hb dX5_goTo_24 (by decide) (fun _ => ?_) (fun c9 => absurd c9 (by decide))
      refine lv_aload_n hx hb dX5_goTo_29 rfl (lv_at hl 0 rfl) ?_
      refine lv_iconst (v := 0) hx hb dX5_goTo_30 (by decide) ?_
      refine va_put (D := G.1) (ci := 5) (v := .int 0) (ty := .boolean) (C := RX5) (T := TX5) (N := 23) hx hb hts in5 tyX5 tyX5_ok nmX5 hown hK hP hD hS 0 rfl rfl 18 (by decide) (hts (.fieldLink RX5 63 "TraceDebuggerModel" "trapped" "Z") (by decide +kernel)) (fun _ h9 => h9) rfl (by decide +kernel) rfl rfl (Nat.le_of_ble_eq_true rfl) dX5_goTo_31 (fun H locs hP hD hS => ?_)
      have hP : va_P G.1 vwCl [kO (q 0) 5 [.int 0, .int sp, .int sp, .ref (q 1), .ref (q 2), .ref (q 3), .ref (q 4), .int 0, .ref (q 5), .ref (q 6), .ref (q 7), .ref (q 8), .ref (q 9), .int 1, .int 0, .ref (q 10), .int 0, .int 0, .int 0, .int (-1), .ref (q 11), .int 1, .int 0], kI (q 9) (G.2 0) 16 (fun _ => 0)] H := hP
      have hD : va_D A [kO (q 0) 5 [.int 0, .int sp, .int sp, .ref (q 1), .ref (q 2), .ref (q 3), .ref (q 4), .int 0, .ref (q 5), .ref (q 6), .ref (q 7), .ref (q 8), .ref (q 9), .int 1, .int 0, .ref (q 10), .int 0, .int 0, .int 0, .int (-1), .ref (q 11), .int 1, .int 0], kI (q 9) (G.2 0) 16 (fun _ => 0)] := hD
      refine lv_iload_n hx hb dX5_goTo_34 rfl (lv_at hl 1 rfl) ?_
      refine lv_aload_n hx hb dX5_goTo_35 rfl (lv_at hl 0 rfl) ?_
      refine va_get (D := G.1) (ci := 5) (v := .int 0) (C := RX5) (T := TX5) (N := 23) hx hb hts in5 hown hK hP 0 rfl rfl 14 (by decide) (hts (.fieldLink RX5 73 "TraceDebuggerModel" "time" "I") (by decide +kernel)) (fun _ h9 => h9) rfl dX5_goTo_36 ?_
      refine lv_icmp_ge (tgt := 47) hx hb dX5_goTo_39 (by decide) (fun c3 => ?_) (fun c3 => ?_)
      · have t3 := i_le.mp c3
        refine lv_iconst (v := 1) hx hb dX5_goTo_47 (by decide) ?_
        refine lv_istore_n (lv' := [(2, .int 1), (0, .ref (q 0)), (1, .int t)]) hx hb dX5_goTo_48 rfl hl (by decide) rfl (fun ls hl => ?_)
        refine lv_iload_n hx hb dX5_goTo_49 rfl (lv_at hl 0 rfl) ?_
        refine lv_if_eq (tgt := 84) hx hb dX5_goTo_50 (by decide) (fun c9 => absurd c9 (by decide)) (fun _ => ?_)
        refine lv_aload_n hx hb dX5_goTo_53 rfl (lv_at hl 1 rfl) ?_
        refine va_get (D := G.1) (ci := 5) (v := .int 0) (C := RX5) (T := TX5) (N := 23) hx hb hts in5 hown hK hP 0 rfl rfl 14 (by decide) (hts (.fieldLink RX5 73 "TraceDebuggerModel" "time" "I") (by decide +kernel)) (fun _ h9 => h9) rfl dX5_goTo_54 ?_
        refine lv_iload_n hx hb dX5_goTo_57 rfl (lv_at hl 2 rfl) ?_
        refine lv_icmp_ge (tgt := 84) hx hb dX5_goTo_58 (by decide) (fun c4 => ?_) (fun c4 => ?_)
        · have t4 := i_le.mp c4
          refine lv_aload_n hx hb dX5_goTo_84 rfl (lv_at hl 1 rfl) ?_
          refine va_get (D := G.1) (ci := 5) (v := .int 0) (C := RX5) (T := TX5) (N := 23) hx hb hts in5 hown hK hP 0 rfl rfl 14 (by decide) (hts (.fieldLink RX5 73 "TraceDebuggerModel" "time" "I") (by decide +kernel)) (fun _ h9 => h9) rfl dX5_goTo_85 ?_
          exact kRetI (G := G) 0 hx hb hr hlocks hS dX5_goTo_88 (kSubP (wc := [kO (q 0) 5 [.int 0, .int sp, .int sp, .ref (q 1), .ref (q 2), .ref (q 3), .ref (q 4), .int 0, .ref (q 5), .ref (q 6), .ref (q 7), .ref (q 8), .ref (q 9), .int 1, .int 0, .ref (q 10), .int 0, .int 0, .int 0, .int (-1), .ref (q 11), .int 1, .int 0]]) hP [0] rfl) (hD.sub (ws' := [kO (q 0) 5 [.int 0, .int sp, .int sp, .ref (q 1), .ref (q 2), .ref (q 3), .ref (q 4), .int 0, .ref (q 5), .ref (q 6), .ref (q 7), .ref (q 8), .ref (q 9), .int 1, .int 0, .ref (q 10), .int 0, .int 0, .int 0, .int (-1), .ref (q 11), .int 1, .int 0]]) [0] (by decide) rfl) (by first | exact Or.inl ⟨rfl, rfl, by omega⟩ | exact Or.inr ⟨rfl, by omega⟩)
        · have t4 := i_nle.mp c4
          refine lv_aload_n hx hb dX5_goTo_61 rfl (lv_at hl 1 rfl) ?_
          refine va_get (D := G.1) (ci := 5) (v := .int 0) (C := RX5) (T := TX5) (N := 23) hx hb hts in5 hown hK hP 0 rfl rfl 17 (by decide) (hts (.fieldLink RX5 79 "TraceDebuggerModel" "ended" "Z") (by decide +kernel)) (fun _ h9 => h9) rfl dX5_goTo_62 ?_
          refine lv_if_ne (tgt := 84) hx hb dX5_goTo_65 (by decide) (fun c9 => absurd c9 (by decide)) (fun _ => ?_)
          refine lv_aload_n hx hb dX5_goTo_68 rfl (lv_at hl 1 rfl) ?_
          refine kCi (G := G) (ws := [kO (q 0) 5 [.int 0, .int sp, .int sp, .ref (q 1), .ref (q 2), .ref (q 3), .ref (q 4), .int 0, .ref (q 5), .ref (q 6), .ref (q 7), .ref (q 8), .ref (q 9), .int 1, .int 0, .ref (q 10), .int 0, .int 0, .int 0, .int (-1), .ref (q 11), .int 1, .int 0], kI (q 9) (G.2 0) 16 (fun _ => 0)]) (wr := []) (va_runV (As := []) (rest := []) ⟨hx, hb, hml, hown, hts⟩ (c_X5_isDone l G H.size q sp 0 ) (cwV 0 hts gX5_goTo_X5_isDone rfl rfl rfl (by decide +kernel) ⟨Nat.le_of_ble_eq_true rfl, Nat.le_of_ble_eq_true rfl⟩) (kPreV (va_recv hK hP (ci := 5) (q0 := 0) rfl rfl) kZ0 kZt hK hP hD [0, 1] rfl (by decide)) rfl rfl hl.1 rfl (lv_room (Nat.le_of_ble_eq_true rfl)) dX5_goTo_69 ⟨Nat.le_of_ble_eq_true rfl, Nat.le_of_ble_eq_true rfl⟩) hP hD hS hA [0, 1] [] rfl rfl (by decide) (by decide) (fun r6 u5 H locs hw7 hP hD hS => ?_)
          try dsimp only at hw7
          have hP : va_P G.1 vwCl [kO (q 0) 5 [.int 0, .int sp, .int sp, .ref (q 1), .ref (q 2), .ref (q 3), .ref (q 4), .int 0, .ref (q 5), .ref (q 6), .ref (q 7), .ref (q 8), .ref (q 9), .int 1, .int 0, .ref (q 10), .int 0, .int 0, .int 0, .int (-1), .ref (q 11), .int 1, .int 0], kI (q 9) (G.2 0) 16 (fun _ => 0)] H := hP
          have hD : va_D A [kO (q 0) 5 [.int 0, .int sp, .int sp, .ref (q 1), .ref (q 2), .ref (q 3), .ref (q 4), .int 0, .ref (q 5), .ref (q 6), .ref (q 7), .ref (q 8), .ref (q 9), .int 1, .int 0, .ref (q 10), .int 0, .int 0, .int 0, .int (-1), .ref (q 11), .int 1, .int 0], kI (q 9) (G.2 0) 16 (fun _ => 0)] := hD
          subst hw7
          refine lv_istore_n (lv' := [(2, .int 0), (0, .ref (q 0)), (1, .int t)]) hx hb dX5_goTo_72 rfl hl (by decide) rfl (fun ls hl => ?_)
          refine lv_iload_n hx hb dX5_goTo_73 rfl (lv_at hl 0 rfl) ?_
          refine lv_if_eq (tgt := 49) hx hb dX5_goTo_74 (by decide) (fun _ => ?_) (fun c9 => absurd c9 (by decide))
          refine lv_iload_n hx hb dX5_goTo_49 rfl (lv_at hl 0 rfl) ?_
          refine lv_if_eq (tgt := 84) hx hb dX5_goTo_50 (by decide) (fun _ => ?_) (fun c9 => absurd c9 (by decide))
          refine lv_aload_n hx hb dX5_goTo_84 rfl (lv_at hl 1 rfl) ?_
          refine va_get (D := G.1) (ci := 5) (v := .int 0) (C := RX5) (T := TX5) (N := 23) hx hb hts in5 hown hK hP 0 rfl rfl 14 (by decide) (hts (.fieldLink RX5 73 "TraceDebuggerModel" "time" "I") (by decide +kernel)) (fun _ h9 => h9) rfl dX5_goTo_85 ?_
          exact kRetI (G := G) 0 hx hb hr hlocks hS dX5_goTo_88 (kSubP (wc := [kO (q 0) 5 [.int 0, .int sp, .int sp, .ref (q 1), .ref (q 2), .ref (q 3), .ref (q 4), .int 0, .ref (q 5), .ref (q 6), .ref (q 7), .ref (q 8), .ref (q 9), .int 1, .int 0, .ref (q 10), .int 0, .int 0, .int 0, .int (-1), .ref (q 11), .int 1, .int 0]]) hP [0] rfl) (hD.sub (ws' := [kO (q 0) 5 [.int 0, .int sp, .int sp, .ref (q 1), .ref (q 2), .ref (q 3), .ref (q 4), .int 0, .ref (q 5), .ref (q 6), .ref (q 7), .ref (q 8), .ref (q 9), .int 1, .int 0, .ref (q 10), .int 0, .int 0, .int 0, .int (-1), .ref (q 11), .int 1, .int 0]]) [0] (by decide) rfl) (by first | exact Or.inl ⟨rfl, rfl, by omega⟩ | exact Or.inr ⟨rfl, by omega⟩)
      · have t3 := i_nle.mp c3
        exact absurd (show False by omega) id
    · have t2 := i_nle.mp c2
      refine lv_iconst (v := 1) hx hb dX5_goTo_12 (by decide) ?_
      refine lv_goto (tgt := 17) hx hb dX5_goTo_13 (by decide) ?_
      refine va_put (D := G.1) (ci := 5) (v := .int 1) (ty := .int) (C := RX5) (T := TX5) (N := 23) hx hb hts in5 tyX5 tyX5_ok nmX5 hown hK hP hD hS 0 rfl rfl 0 (by decide) (hts (.fieldLink RX5 51 "TraceDebuggerModel" "code" "I") (by decide +kernel)) (fun _ h9 => h9) rfl (by decide +kernel) rfl rfl (Nat.le_of_ble_eq_true rfl) dX5_goTo_17 (fun H locs hP hD hS => ?_)
      have hP : va_P G.1 vwCl [kO (q 0) 5 [.int 1, .int sp, .int sp, .ref (q 1), .ref (q 2), .ref (q 3), .ref (q 4), .int 0, .ref (q 5), .ref (q 6), .ref (q 7), .ref (q 8), .ref (q 9), .int 1, .int 0, .ref (q 10), .int 0, .int 0, .int 0, .int (-1), .ref (q 11), .int 1, .int 0], kI (q 9) (G.2 0) 16 (fun _ => 0)] H := hP
      have hD : va_D A [kO (q 0) 5 [.int 1, .int sp, .int sp, .ref (q 1), .ref (q 2), .ref (q 3), .ref (q 4), .int 0, .ref (q 5), .ref (q 6), .ref (q 7), .ref (q 8), .ref (q 9), .int 1, .int 0, .ref (q 10), .int 0, .int 0, .int 0, .int (-1), .ref (q 11), .int 1, .int 0], kI (q 9) (G.2 0) 16 (fun _ => 0)] := hD
      refine lv_aload_n hx hb dX5_goTo_20 rfl (lv_at hl 0 rfl) ?_
      refine va_get (D := G.1) (ci := 5) (v := .int 1) (C := RX5) (T := TX5) (N := 23) hx hb hts in5 hown hK hP 0 rfl rfl 0 (by decide) (hts (.fieldLink RX5 51 "TraceDebuggerModel" "code" "I") (by decide +kernel)) (fun _ h9 => h9) rfl dX5_goTo_21 ?_
      refine lv_if_le (tgt := 29) hx hb dX5_goTo_24 (by decide) (fun c9 => absurd c9 (by decide)) (fun _ => ?_)
      refine lv_iconst (v := 0) hx hb dX5_goTo_27 (by decide) ?_
      exact kRetI (G := G) 1 hx hb hr hlocks hS dX5_goTo_28 (kSubP (wc := [kO (q 0) 5 [.int 1, .int sp, .int sp, .ref (q 1), .ref (q 2), .ref (q 3), .ref (q 4), .int 0, .ref (q 5), .ref (q 6), .ref (q 7), .ref (q 8), .ref (q 9), .int 1, .int 0, .ref (q 10), .int 0, .int 0, .int 0, .int (-1), .ref (q 11), .int 1, .int 0]]) hP [0] rfl) (hD.sub (ws' := [kO (q 0) 5 [.int 1, .int sp, .int sp, .ref (q 1), .ref (q 2), .ref (q 3), .ref (q 4), .int 0, .ref (q 5), .ref (q 6), .ref (q 7), .ref (q 8), .ref (q 9), .int 1, .int 0, .ref (q 10), .int 0, .int 0, .int 0, .int (-1), .ref (q 11), .int 1, .int 0]]) [0] (by decide) rfl) (by first | exact Or.inl ⟨rfl, rfl, by omega⟩ | exact Or.inr ⟨rfl, by omega⟩)

set_option maxHeartbeats 4000000 in
set_option maxRecDepth 100000 in
theorem c_X5_local (l : Launch) (G : gG) (sz : Nat) (q : Nat → Nat) (sp : Int32) (f : Int32) (x : Int32)  : Met l yX5_local wsX5_local { frames := 1, cells := 0, slots := 0, locals := 20 } (kPc G [.ref (q 0), .int f, .int x] [kO (q 0) 5 [.int 0, .int sp, .int sp, .ref (q 1), .ref (q 2), .ref (q 3), .ref (q 4), .int 0, .ref (q 5), .ref (q 6), .ref (q 7), .ref (q 8), .ref (q 9), .int 1, .int 0, .ref (q 10), .int 0, .int 0, .int 0, .int (-1), .ref (q 11), .int 1, .int 0], kI (q 8) (G.2 0) 128 (fun _ => 0)] sz (fun _ => True)) (kQi G (S := Int32) (fun r u => (u = 0 ∧ r = 0 ∧ ((0 ≤ f.toInt ∧ f.toInt < 1) ∧ (0 ≤ x.toInt ∧ x.toInt < 8))) ∨ (u = 1 ∧ ¬ ((0 ≤ f.toInt ∧ f.toInt < 1) ∧ (0 ≤ x.toInt ∧ x.toInt < 8)))) (fun u => [kO (q 0) 5 [.int u, .int sp, .int sp, .ref (q 1), .ref (q 2), .ref (q 3), .ref (q 4), .int 0, .ref (q 5), .ref (q 6), .ref (q 7), .ref (q 8), .ref (q 9), .int 1, .int 0, .ref (q 10), .int 0, .int 0, .int 0, .int (-1), .ref (q 11), .int 1, .int 0]]) (va_A [kO (q 0) 5 [.int 0, .int sp, .int sp, .ref (q 1), .ref (q 2), .ref (q 3), .ref (q 4), .int 0, .ref (q 5), .ref (q 6), .ref (q 7), .ref (q 8), .ref (q 9), .int 1, .int 0, .ref (q 10), .int 0, .int 0, .int 0, .int (-1), .ref (q 11), .int 1, .int 0], kI (q 8) (G.2 0) 128 (fun _ => 0)] sz)) 0 0 (va_A [kO (q 0) 5 [.int 0, .int sp, .int sp, .ref (q 1), .ref (q 2), .ref (q 3), .ref (q 4), .int 0, .ref (q 5), .ref (q 6), .ref (q 7), .ref (q 8), .ref (q 9), .int 1, .int 0, .ref (q 10), .int 0, .int 0, .int 0, .int (-1), .ref (q 11), .int 1, .int 0], kI (q 8) (G.2 0) 128 (fun _ => 0)] sz) := by
  refine kBeg (Qc := fun A => kQi G (S := Int32) (fun r u => (u = 0 ∧ r = 0 ∧ ((0 ≤ f.toInt ∧ f.toInt < 1) ∧ (0 ≤ x.toInt ∧ x.toInt < 8))) ∨ (u = 1 ∧ ¬ ((0 ≤ f.toInt ∧ f.toInt < 1) ∧ (0 ≤ x.toInt ∧ x.toInt < 8)))) (fun u => [kO (q 0) 5 [.int u, .int sp, .int sp, .ref (q 1), .ref (q 2), .ref (q 3), .ref (q 4), .int 0, .ref (q 5), .ref (q 6), .ref (q 7), .ref (q 8), .ref (q 9), .int 1, .int 0, .ref (q 10), .int 0, .int 0, .int 0, .int (-1), .ref (q 11), .int 1, .int 0]]) A) (by decide) rfl (Nat.le_of_ble_eq_true rfl) ?_
  intro A p e s m below meth c ls H locs hx hb hr hts hown hlocks hnm hml hsz hP hK hD hZ hA hS hl
  have hown : s.vm.findClass RX5 = some m.cls := hown
  have hl : lv_has ls 3 [(0, .ref (q 0)), (1, .int f), (2, .int x)] := hl
  have in5 : ∀ w ∈ wsX50, w ∈ wsX5_local := by decide +kernel
  have kc0 : (0 : Int32).toInt = 0 := by decide
  have kc1 : (1 : Int32).toInt = 1 := by decide
  have kc8 : (8 : Int32).toInt = 8 := by decide
  refine lv_aload_n hx hb dX5_local_0 rfl (lv_at hl 0 rfl) ?_
  refine lv_iload_n hx hb dX5_local_1 rfl (lv_at hl 1 rfl) ?_
  refine lv_if_lt (tgt := 24) hx hb dX5_local_2 (by decide) (fun c1 => ?_) (fun c1 => ?_)
  · have t1 := i_lt.mp c1
    refine lv_iconst (v := 1) hx hb dX5_local_24 (by decide) ?_
    refine va_put (D := G.1) (ci := 5) (v := .int 1) (ty := .int) (C := RX5) (T := TX5) (N := 23) hx hb hts in5 tyX5 tyX5_ok nmX5 hown hK hP hD hS 0 rfl rfl 0 (by decide) (hts (.fieldLink RX5 51 "TraceDebuggerModel" "code" "I") (by decide +kernel)) (fun _ h9 => h9) rfl (by decide +kernel) rfl rfl (Nat.le_of_ble_eq_true rfl) dX5_local_25 (fun H locs hP hD hS => ?_)
    have hP : va_P G.1 vwCl [kO (q 0) 5 [.int 1, .int sp, .int sp, .ref (q 1), .ref (q 2), .ref (q 3), .ref (q 4), .int 0, .ref (q 5), .ref (q 6), .ref (q 7), .ref (q 8), .ref (q 9), .int 1, .int 0, .ref (q 10), .int 0, .int 0, .int 0, .int (-1), .ref (q 11), .int 1, .int 0], kI (q 8) (G.2 0) 128 (fun _ => 0)] H := hP
    have hD : va_D A [kO (q 0) 5 [.int 1, .int sp, .int sp, .ref (q 1), .ref (q 2), .ref (q 3), .ref (q 4), .int 0, .ref (q 5), .ref (q 6), .ref (q 7), .ref (q 8), .ref (q 9), .int 1, .int 0, .ref (q 10), .int 0, .int 0, .int 0, .int (-1), .ref (q 11), .int 1, .int 0], kI (q 8) (G.2 0) 128 (fun _ => 0)] := hD
    refine lv_aload_n hx hb dX5_local_28 rfl (lv_at hl 0 rfl) ?_
    refine va_get (D := G.1) (ci := 5) (v := .int 1) (C := RX5) (T := TX5) (N := 23) hx hb hts in5 hown hK hP 0 rfl rfl 0 (by decide) (hts (.fieldLink RX5 51 "TraceDebuggerModel" "code" "I") (by decide +kernel)) (fun _ h9 => h9) rfl dX5_local_29 ?_
    refine lv_if_le (tgt := 39) hx hb dX5_local_32 (by decide) (fun c9 => absurd c9 (by decide)) (fun _ => ?_)
    refine lv_iconst (v := 0) hx hb dX5_local_35 (by decide) ?_
    refine lv_goto (tgt := 57) hx hb dX5_local_36 (by decide) ?_
    exact kRetI (G := G) 1 hx hb hr hlocks hS dX5_local_57 (kSubP (wc := [kO (q 0) 5 [.int 1, .int sp, .int sp, .ref (q 1), .ref (q 2), .ref (q 3), .ref (q 4), .int 0, .ref (q 5), .ref (q 6), .ref (q 7), .ref (q 8), .ref (q 9), .int 1, .int 0, .ref (q 10), .int 0, .int 0, .int 0, .int (-1), .ref (q 11), .int 1, .int 0]]) hP [0] rfl) (hD.sub (ws' := [kO (q 0) 5 [.int 1, .int sp, .int sp, .ref (q 1), .ref (q 2), .ref (q 3), .ref (q 4), .int 0, .ref (q 5), .ref (q 6), .ref (q 7), .ref (q 8), .ref (q 9), .int 1, .int 0, .ref (q 10), .int 0, .int 0, .int 0, .int (-1), .ref (q 11), .int 1, .int 0]]) [0] (by decide) rfl) (by first | exact Or.inl ⟨rfl, rfl, by omega⟩ | exact Or.inr ⟨rfl, by omega⟩)
  · have t1 := i_nlt.mp c1
    refine lv_iload_n hx hb dX5_local_5 rfl (lv_at hl 1 rfl) ?_
    refine lv_aload_n hx hb dX5_local_6 rfl (lv_at hl 0 rfl) ?_
    refine va_get (D := G.1) (ci := 5) (v := .int 1) (C := RX5) (T := TX5) (N := 23) hx hb hts in5 hown hK hP 0 rfl rfl 13 (by decide) (hts (.fieldLink RX5 70 "TraceDebuggerModel" "frames" "I") (by decide +kernel)) (fun _ h9 => h9) rfl dX5_local_7 ?_
    refine lv_icmp_ge (tgt := 24) hx hb dX5_local_10 (by decide) (fun c2 => ?_) (fun c2 => ?_)
    · have t2 := i_le.mp c2
      refine lv_iconst (v := 1) hx hb dX5_local_24 (by decide) ?_
      refine va_put (D := G.1) (ci := 5) (v := .int 1) (ty := .int) (C := RX5) (T := TX5) (N := 23) hx hb hts in5 tyX5 tyX5_ok nmX5 hown hK hP hD hS 0 rfl rfl 0 (by decide) (hts (.fieldLink RX5 51 "TraceDebuggerModel" "code" "I") (by decide +kernel)) (fun _ h9 => h9) rfl (by decide +kernel) rfl rfl (Nat.le_of_ble_eq_true rfl) dX5_local_25 (fun H locs hP hD hS => ?_)
      have hP : va_P G.1 vwCl [kO (q 0) 5 [.int 1, .int sp, .int sp, .ref (q 1), .ref (q 2), .ref (q 3), .ref (q 4), .int 0, .ref (q 5), .ref (q 6), .ref (q 7), .ref (q 8), .ref (q 9), .int 1, .int 0, .ref (q 10), .int 0, .int 0, .int 0, .int (-1), .ref (q 11), .int 1, .int 0], kI (q 8) (G.2 0) 128 (fun _ => 0)] H := hP
      have hD : va_D A [kO (q 0) 5 [.int 1, .int sp, .int sp, .ref (q 1), .ref (q 2), .ref (q 3), .ref (q 4), .int 0, .ref (q 5), .ref (q 6), .ref (q 7), .ref (q 8), .ref (q 9), .int 1, .int 0, .ref (q 10), .int 0, .int 0, .int 0, .int (-1), .ref (q 11), .int 1, .int 0], kI (q 8) (G.2 0) 128 (fun _ => 0)] := hD
      refine lv_aload_n hx hb dX5_local_28 rfl (lv_at hl 0 rfl) ?_
      refine va_get (D := G.1) (ci := 5) (v := .int 1) (C := RX5) (T := TX5) (N := 23) hx hb hts in5 hown hK hP 0 rfl rfl 0 (by decide) (hts (.fieldLink RX5 51 "TraceDebuggerModel" "code" "I") (by decide +kernel)) (fun _ h9 => h9) rfl dX5_local_29 ?_
      refine lv_if_le (tgt := 39) hx hb dX5_local_32 (by decide) (fun c9 => absurd c9 (by decide)) (fun _ => ?_)
      refine lv_iconst (v := 0) hx hb dX5_local_35 (by decide) ?_
      refine lv_goto (tgt := 57) hx hb dX5_local_36 (by decide) ?_
      exact kRetI (G := G) 1 hx hb hr hlocks hS dX5_local_57 (kSubP (wc := [kO (q 0) 5 [.int 1, .int sp, .int sp, .ref (q 1), .ref (q 2), .ref (q 3), .ref (q 4), .int 0, .ref (q 5), .ref (q 6), .ref (q 7), .ref (q 8), .ref (q 9), .int 1, .int 0, .ref (q 10), .int 0, .int 0, .int 0, .int (-1), .ref (q 11), .int 1, .int 0]]) hP [0] rfl) (hD.sub (ws' := [kO (q 0) 5 [.int 1, .int sp, .int sp, .ref (q 1), .ref (q 2), .ref (q 3), .ref (q 4), .int 0, .ref (q 5), .ref (q 6), .ref (q 7), .ref (q 8), .ref (q 9), .int 1, .int 0, .ref (q 10), .int 0, .int 0, .int 0, .int (-1), .ref (q 11), .int 1, .int 0]]) [0] (by decide) rfl) (by first | exact Or.inl ⟨rfl, rfl, by omega⟩ | exact Or.inr ⟨rfl, by omega⟩)
    · have t2 := i_nle.mp c2
      refine lv_iload_n hx hb dX5_local_13 rfl (lv_at hl 2 rfl) ?_
      refine kCi (G := G) (ws := [kO (q 0) 5 [.int 0, .int sp, .int sp, .ref (q 1), .ref (q 2), .ref (q 3), .ref (q 4), .int 0, .ref (q 5), .ref (q 6), .ref (q 7), .ref (q 8), .ref (q 9), .int 1, .int 0, .ref (q 10), .int 0, .int 0, .int 0, .int (-1), .ref (q 11), .int 1, .int 0], kI (q 8) (G.2 0) 128 (fun _ => 0)]) (wr := [kO (q 0) 5 [.int 0, .int sp, .int sp, .ref (q 1), .ref (q 2), .ref (q 3), .ref (q 4), .int 0, .ref (q 5), .ref (q 6), .ref (q 7), .ref (q 8), .ref (q 9), .int 1, .int 0, .ref (q 10), .int 0, .int 0, .int 0, .int (-1), .ref (q 11), .int 1, .int 0], kI (q 8) (G.2 0) 128 (fun _ => 0)]) (va_runS (As := [.int x]) (rest := [.ref (q 0)]) ⟨hx, hb, hml, hown, hts⟩ (c_X5_isLocal l G H.size x ) (va_cwS 1 hts gX5_local_X5_isLocal rfl rfl rfl (by decide +kernel) ⟨Nat.le_of_ble_eq_true rfl, Nat.le_of_ble_eq_true rfl⟩) (kPreS kZ0 kZt hK hP hD [] rfl (by decide)) rfl rfl hl.1 rfl (lv_room (Nat.le_of_ble_eq_true rfl)) dX5_local_14 ⟨Nat.le_of_ble_eq_true rfl, Nat.le_of_ble_eq_true rfl⟩) hP hD hS hA [] [0, 1] rfl rfl (by decide) (by decide) (fun r4 u3 H locs hw5 hP hD hS => ?_)
      try dsimp only at hw5
      have hP : va_P G.1 vwCl [kO (q 0) 5 [.int 0, .int sp, .int sp, .ref (q 1), .ref (q 2), .ref (q 3), .ref (q 4), .int 0, .ref (q 5), .ref (q 6), .ref (q 7), .ref (q 8), .ref (q 9), .int 1, .int 0, .ref (q 10), .int 0, .int 0, .int 0, .int (-1), .ref (q 11), .int 1, .int 0], kI (q 8) (G.2 0) 128 (fun _ => 0)] H := hP
      have hD : va_D A [kO (q 0) 5 [.int 0, .int sp, .int sp, .ref (q 1), .ref (q 2), .ref (q 3), .ref (q 4), .int 0, .ref (q 5), .ref (q 6), .ref (q 7), .ref (q 8), .ref (q 9), .int 1, .int 0, .ref (q 10), .int 0, .int 0, .int 0, .int (-1), .ref (q 11), .int 1, .int 0], kI (q 8) (G.2 0) 128 (fun _ => 0)] := hD
      rcases hw5 with ⟨rfl, hq6⟩ | ⟨rfl, hq6⟩
      · have _u := hsz
        refine lv_if_eq (tgt := 24) hx hb dX5_local_17 (by decide) (fun c9 => absurd c9 (by decide)) (fun _ => ?_)
        refine lv_iconst (v := 0) hx hb dX5_local_20 (by decide) ?_
        refine lv_goto (tgt := 25) hx hb dX5_local_21 (by decide) ?_
        refine va_put (D := G.1) (ci := 5) (v := .int 0) (ty := .int) (C := RX5) (T := TX5) (N := 23) hx hb hts in5 tyX5 tyX5_ok nmX5 hown hK hP hD hS 0 rfl rfl 0 (by decide) (hts (.fieldLink RX5 51 "TraceDebuggerModel" "code" "I") (by decide +kernel)) (fun _ h9 => h9) rfl (by decide +kernel) rfl rfl (Nat.le_of_ble_eq_true rfl) dX5_local_25 (fun H locs hP hD hS => ?_)
        have hP : va_P G.1 vwCl [kO (q 0) 5 [.int 0, .int sp, .int sp, .ref (q 1), .ref (q 2), .ref (q 3), .ref (q 4), .int 0, .ref (q 5), .ref (q 6), .ref (q 7), .ref (q 8), .ref (q 9), .int 1, .int 0, .ref (q 10), .int 0, .int 0, .int 0, .int (-1), .ref (q 11), .int 1, .int 0], kI (q 8) (G.2 0) 128 (fun _ => 0)] H := hP
        have hD : va_D A [kO (q 0) 5 [.int 0, .int sp, .int sp, .ref (q 1), .ref (q 2), .ref (q 3), .ref (q 4), .int 0, .ref (q 5), .ref (q 6), .ref (q 7), .ref (q 8), .ref (q 9), .int 1, .int 0, .ref (q 10), .int 0, .int 0, .int 0, .int (-1), .ref (q 11), .int 1, .int 0], kI (q 8) (G.2 0) 128 (fun _ => 0)] := hD
        refine lv_aload_n hx hb dX5_local_28 rfl (lv_at hl 0 rfl) ?_
        refine va_get (D := G.1) (ci := 5) (v := .int 0) (C := RX5) (T := TX5) (N := 23) hx hb hts in5 hown hK hP 0 rfl rfl 0 (by decide) (hts (.fieldLink RX5 51 "TraceDebuggerModel" "code" "I") (by decide +kernel)) (fun _ h9 => h9) rfl dX5_local_29 ?_
        refine lv_if_le (tgt := 39) hx hb dX5_local_32 (by decide) (fun _ => ?_) (fun c9 => absurd c9 (by decide))
        refine lv_aload_n hx hb dX5_local_39 rfl (lv_at hl 0 rfl) ?_
        refine va_get (D := G.1) (ci := 5) (v := .ref (q 8)) (C := RX5) (T := TX5) (N := 23) hx hb hts in5 hown hK hP 0 rfl rfl 11 (by decide) (hts (.fieldLink RX5 32 "TraceDebuggerModel" "locals" "[I") (by decide +kernel)) (fun _ h9 => h9) rfl dX5_local_40 ?_
        refine lv_bipush (v := 8) hx hb dX5_local_43 (by decide) ?_
        refine lv_aload_n hx hb dX5_local_45 rfl (lv_at hl 0 rfl) ?_
        refine va_get (D := G.1) (ci := 5) (v := .int 1) (C := RX5) (T := TX5) (N := 23) hx hb hts in5 hown hK hP 0 rfl rfl 13 (by decide) (hts (.fieldLink RX5 70 "TraceDebuggerModel" "frames" "I") (by decide +kernel)) (fun _ h9 => h9) rfl dX5_local_46 ?_
        refine lv_iconst (v := 1) hx hb dX5_local_49 (by decide) ?_
        refine lv_isub hx hb dX5_local_50 ?_
        refine kTop (y := 0) (by decide) ?_
        refine lv_iload_n hx hb dX5_local_51 rfl (lv_at hl 1 rfl) ?_
        refine lv_isub hx hb dX5_local_52 ?_
        have a1 : (0 - f).toInt = (0 : Int32).toInt - f.toInt := i_sub (by omega) (by omega)
        refine lv_imul hx hb dX5_local_53 ?_
        have a2 : (8 * (0 - f)).toInt = 0 := by rw [show f = 0 from i_eq.mpr (by omega)]; decide
        refine lv_iload_n hx hb dX5_local_54 rfl (lv_at hl 2 rfl) ?_
        refine lv_iadd hx hb dX5_local_55 ?_
        have a3 : (8 * (0 - f) + x).toInt = (8 * (0 - f)).toInt + x.toInt := i_add (by omega) (by omega)
        refine va_iald (D := G.1) hx hb hK hP 1 0 rfl rfl (vp_in_iff.mpr (by omega)) dX5_local_56 ?_
        refine kTop (y := 0) rfl ?_
        exact kRetI (G := G) 0 hx hb hr hlocks hS dX5_local_57 (kSubP (wc := [kO (q 0) 5 [.int 0, .int sp, .int sp, .ref (q 1), .ref (q 2), .ref (q 3), .ref (q 4), .int 0, .ref (q 5), .ref (q 6), .ref (q 7), .ref (q 8), .ref (q 9), .int 1, .int 0, .ref (q 10), .int 0, .int 0, .int 0, .int (-1), .ref (q 11), .int 1, .int 0]]) hP [0] rfl) (hD.sub (ws' := [kO (q 0) 5 [.int 0, .int sp, .int sp, .ref (q 1), .ref (q 2), .ref (q 3), .ref (q 4), .int 0, .ref (q 5), .ref (q 6), .ref (q 7), .ref (q 8), .ref (q 9), .int 1, .int 0, .ref (q 10), .int 0, .int 0, .int 0, .int (-1), .ref (q 11), .int 1, .int 0]]) [0] (by decide) rfl) (by first | exact Or.inl ⟨rfl, rfl, by omega⟩ | exact Or.inr ⟨rfl, by omega⟩)
      · have _u := hsz
        refine lv_if_eq (tgt := 24) hx hb dX5_local_17 (by decide) (fun _ => ?_) (fun c9 => absurd c9 (by decide))
        refine lv_iconst (v := 1) hx hb dX5_local_24 (by decide) ?_
        refine va_put (D := G.1) (ci := 5) (v := .int 1) (ty := .int) (C := RX5) (T := TX5) (N := 23) hx hb hts in5 tyX5 tyX5_ok nmX5 hown hK hP hD hS 0 rfl rfl 0 (by decide) (hts (.fieldLink RX5 51 "TraceDebuggerModel" "code" "I") (by decide +kernel)) (fun _ h9 => h9) rfl (by decide +kernel) rfl rfl (Nat.le_of_ble_eq_true rfl) dX5_local_25 (fun H locs hP hD hS => ?_)
        have hP : va_P G.1 vwCl [kO (q 0) 5 [.int 1, .int sp, .int sp, .ref (q 1), .ref (q 2), .ref (q 3), .ref (q 4), .int 0, .ref (q 5), .ref (q 6), .ref (q 7), .ref (q 8), .ref (q 9), .int 1, .int 0, .ref (q 10), .int 0, .int 0, .int 0, .int (-1), .ref (q 11), .int 1, .int 0], kI (q 8) (G.2 0) 128 (fun _ => 0)] H := hP
        have hD : va_D A [kO (q 0) 5 [.int 1, .int sp, .int sp, .ref (q 1), .ref (q 2), .ref (q 3), .ref (q 4), .int 0, .ref (q 5), .ref (q 6), .ref (q 7), .ref (q 8), .ref (q 9), .int 1, .int 0, .ref (q 10), .int 0, .int 0, .int 0, .int (-1), .ref (q 11), .int 1, .int 0], kI (q 8) (G.2 0) 128 (fun _ => 0)] := hD
        refine lv_aload_n hx hb dX5_local_28 rfl (lv_at hl 0 rfl) ?_
        refine va_get (D := G.1) (ci := 5) (v := .int 1) (C := RX5) (T := TX5) (N := 23) hx hb hts in5 hown hK hP 0 rfl rfl 0 (by decide) (hts (.fieldLink RX5 51 "TraceDebuggerModel" "code" "I") (by decide +kernel)) (fun _ h9 => h9) rfl dX5_local_29 ?_
        refine lv_if_le (tgt := 39) hx hb dX5_local_32 (by decide) (fun c9 => absurd c9 (by decide)) (fun _ => ?_)
        refine lv_iconst (v := 0) hx hb dX5_local_35 (by decide) ?_
        refine lv_goto (tgt := 57) hx hb dX5_local_36 (by decide) ?_
        exact kRetI (G := G) 1 hx hb hr hlocks hS dX5_local_57 (kSubP (wc := [kO (q 0) 5 [.int 1, .int sp, .int sp, .ref (q 1), .ref (q 2), .ref (q 3), .ref (q 4), .int 0, .ref (q 5), .ref (q 6), .ref (q 7), .ref (q 8), .ref (q 9), .int 1, .int 0, .ref (q 10), .int 0, .int 0, .int 0, .int (-1), .ref (q 11), .int 1, .int 0]]) hP [0] rfl) (hD.sub (ws' := [kO (q 0) 5 [.int 1, .int sp, .int sp, .ref (q 1), .ref (q 2), .ref (q 3), .ref (q 4), .int 0, .ref (q 5), .ref (q 6), .ref (q 7), .ref (q 8), .ref (q 9), .int 1, .int 0, .ref (q 10), .int 0, .int 0, .int 0, .int (-1), .ref (q 11), .int 1, .int 0]]) [0] (by decide) rfl) (by first | exact Or.inl ⟨rfl, rfl, by omega⟩ | exact Or.inr ⟨rfl, by omega⟩)

set_option maxHeartbeats 4000000 in
set_option maxRecDepth 100000 in
theorem c_X5_at (l : Launch) (G : gG) (sz : Nat) (q : Nat → Nat) (sp : Int32) (f : Int32)  : Met l yX5_at wsX5_at { frames := 0, cells := 0, slots := 0, locals := 0 } (kPc G [.ref (q 0), .int f] [kO (q 0) 5 [.int 0, .int sp, .int sp, .ref (q 1), .ref (q 2), .ref (q 3), .ref (q 4), .int 0, .ref (q 5), .ref (q 6), .ref (q 7), .ref (q 8), .ref (q 9), .int 1, .int 0, .ref (q 10), .int 0, .int 0, .int 0, .int (-1), .ref (q 11), .int 1, .int 0], kI (q 9) (G.2 0) 16 (fun _ => 0)] sz (fun _ => True)) (kQi G (S := Int32) (fun r u => (u = 0 ∧ r = 0 ∧ (0 ≤ f.toInt ∧ f.toInt < 1)) ∨ (u = 1 ∧ ¬ (0 ≤ f.toInt ∧ f.toInt < 1))) (fun u => [kO (q 0) 5 [.int u, .int sp, .int sp, .ref (q 1), .ref (q 2), .ref (q 3), .ref (q 4), .int 0, .ref (q 5), .ref (q 6), .ref (q 7), .ref (q 8), .ref (q 9), .int 1, .int 0, .ref (q 10), .int 0, .int 0, .int 0, .int (-1), .ref (q 11), .int 1, .int 0]]) (va_A [kO (q 0) 5 [.int 0, .int sp, .int sp, .ref (q 1), .ref (q 2), .ref (q 3), .ref (q 4), .int 0, .ref (q 5), .ref (q 6), .ref (q 7), .ref (q 8), .ref (q 9), .int 1, .int 0, .ref (q 10), .int 0, .int 0, .int 0, .int (-1), .ref (q 11), .int 1, .int 0], kI (q 9) (G.2 0) 16 (fun _ => 0)] sz)) 0 0 (va_A [kO (q 0) 5 [.int 0, .int sp, .int sp, .ref (q 1), .ref (q 2), .ref (q 3), .ref (q 4), .int 0, .ref (q 5), .ref (q 6), .ref (q 7), .ref (q 8), .ref (q 9), .int 1, .int 0, .ref (q 10), .int 0, .int 0, .int 0, .int (-1), .ref (q 11), .int 1, .int 0], kI (q 9) (G.2 0) 16 (fun _ => 0)] sz) := by
  refine kBeg (Qc := fun A => kQi G (S := Int32) (fun r u => (u = 0 ∧ r = 0 ∧ (0 ≤ f.toInt ∧ f.toInt < 1)) ∨ (u = 1 ∧ ¬ (0 ≤ f.toInt ∧ f.toInt < 1))) (fun u => [kO (q 0) 5 [.int u, .int sp, .int sp, .ref (q 1), .ref (q 2), .ref (q 3), .ref (q 4), .int 0, .ref (q 5), .ref (q 6), .ref (q 7), .ref (q 8), .ref (q 9), .int 1, .int 0, .ref (q 10), .int 0, .int 0, .int 0, .int (-1), .ref (q 11), .int 1, .int 0]]) A) (by decide) rfl (Nat.le_of_ble_eq_true rfl) ?_
  intro A p e s m below meth c ls H locs hx hb hr hts hown hlocks hnm hml hsz hP hK hD hZ hA hS hl
  have hown : s.vm.findClass RX5 = some m.cls := hown
  have hl : lv_has ls 2 [(0, .ref (q 0)), (1, .int f)] := hl
  have in5 : ∀ w ∈ wsX50, w ∈ wsX5_at := by decide +kernel
  have kc0 : (0 : Int32).toInt = 0 := by decide
  have kc1 : (1 : Int32).toInt = 1 := by decide
  refine lv_aload_n hx hb dX5_at_0 rfl (lv_at hl 0 rfl) ?_
  refine lv_iload_n hx hb dX5_at_1 rfl (lv_at hl 1 rfl) ?_
  refine lv_if_lt (tgt := 17) hx hb dX5_at_2 (by decide) (fun c1 => ?_) (fun c1 => ?_)
  · have t1 := i_lt.mp c1
    refine lv_iconst (v := 1) hx hb dX5_at_17 (by decide) ?_
    refine va_put (D := G.1) (ci := 5) (v := .int 1) (ty := .int) (C := RX5) (T := TX5) (N := 23) hx hb hts in5 tyX5 tyX5_ok nmX5 hown hK hP hD hS 0 rfl rfl 0 (by decide) (hts (.fieldLink RX5 51 "TraceDebuggerModel" "code" "I") (by decide +kernel)) (fun _ h9 => h9) rfl (by decide +kernel) rfl rfl (Nat.le_of_ble_eq_true rfl) dX5_at_18 (fun H locs hP hD hS => ?_)
    have hP : va_P G.1 vwCl [kO (q 0) 5 [.int 1, .int sp, .int sp, .ref (q 1), .ref (q 2), .ref (q 3), .ref (q 4), .int 0, .ref (q 5), .ref (q 6), .ref (q 7), .ref (q 8), .ref (q 9), .int 1, .int 0, .ref (q 10), .int 0, .int 0, .int 0, .int (-1), .ref (q 11), .int 1, .int 0], kI (q 9) (G.2 0) 16 (fun _ => 0)] H := hP
    have hD : va_D A [kO (q 0) 5 [.int 1, .int sp, .int sp, .ref (q 1), .ref (q 2), .ref (q 3), .ref (q 4), .int 0, .ref (q 5), .ref (q 6), .ref (q 7), .ref (q 8), .ref (q 9), .int 1, .int 0, .ref (q 10), .int 0, .int 0, .int 0, .int (-1), .ref (q 11), .int 1, .int 0], kI (q 9) (G.2 0) 16 (fun _ => 0)] := hD
    refine lv_aload_n hx hb dX5_at_21 rfl (lv_at hl 0 rfl) ?_
    refine va_get (D := G.1) (ci := 5) (v := .int 1) (C := RX5) (T := TX5) (N := 23) hx hb hts in5 hown hK hP 0 rfl rfl 0 (by decide) (hts (.fieldLink RX5 51 "TraceDebuggerModel" "code" "I") (by decide +kernel)) (fun _ h9 => h9) rfl dX5_at_22 ?_
    refine lv_if_le (tgt := 32) hx hb dX5_at_25 (by decide) (fun c9 => absurd c9 (by decide)) (fun _ => ?_)
    refine lv_iconst (v := 0) hx hb dX5_at_28 (by decide) ?_
    refine lv_goto (tgt := 45) hx hb dX5_at_29 (by decide) ?_
    exact kRetI (G := G) 1 hx hb hr hlocks hS dX5_at_45 (kSubP (wc := [kO (q 0) 5 [.int 1, .int sp, .int sp, .ref (q 1), .ref (q 2), .ref (q 3), .ref (q 4), .int 0, .ref (q 5), .ref (q 6), .ref (q 7), .ref (q 8), .ref (q 9), .int 1, .int 0, .ref (q 10), .int 0, .int 0, .int 0, .int (-1), .ref (q 11), .int 1, .int 0]]) hP [0] rfl) (hD.sub (ws' := [kO (q 0) 5 [.int 1, .int sp, .int sp, .ref (q 1), .ref (q 2), .ref (q 3), .ref (q 4), .int 0, .ref (q 5), .ref (q 6), .ref (q 7), .ref (q 8), .ref (q 9), .int 1, .int 0, .ref (q 10), .int 0, .int 0, .int 0, .int (-1), .ref (q 11), .int 1, .int 0]]) [0] (by decide) rfl) (by first | exact Or.inl ⟨rfl, rfl, by omega⟩ | exact Or.inr ⟨rfl, by omega⟩)
  · have t1 := i_nlt.mp c1
    refine lv_iload_n hx hb dX5_at_5 rfl (lv_at hl 1 rfl) ?_
    refine lv_aload_n hx hb dX5_at_6 rfl (lv_at hl 0 rfl) ?_
    refine va_get (D := G.1) (ci := 5) (v := .int 1) (C := RX5) (T := TX5) (N := 23) hx hb hts in5 hown hK hP 0 rfl rfl 13 (by decide) (hts (.fieldLink RX5 70 "TraceDebuggerModel" "frames" "I") (by decide +kernel)) (fun _ h9 => h9) rfl dX5_at_7 ?_
    refine lv_icmp_ge (tgt := 17) hx hb dX5_at_10 (by decide) (fun c2 => ?_) (fun c2 => ?_)
    · have t2 := i_le.mp c2
      refine lv_iconst (v := 1) hx hb dX5_at_17 (by decide) ?_
      refine va_put (D := G.1) (ci := 5) (v := .int 1) (ty := .int) (C := RX5) (T := TX5) (N := 23) hx hb hts in5 tyX5 tyX5_ok nmX5 hown hK hP hD hS 0 rfl rfl 0 (by decide) (hts (.fieldLink RX5 51 "TraceDebuggerModel" "code" "I") (by decide +kernel)) (fun _ h9 => h9) rfl (by decide +kernel) rfl rfl (Nat.le_of_ble_eq_true rfl) dX5_at_18 (fun H locs hP hD hS => ?_)
      have hP : va_P G.1 vwCl [kO (q 0) 5 [.int 1, .int sp, .int sp, .ref (q 1), .ref (q 2), .ref (q 3), .ref (q 4), .int 0, .ref (q 5), .ref (q 6), .ref (q 7), .ref (q 8), .ref (q 9), .int 1, .int 0, .ref (q 10), .int 0, .int 0, .int 0, .int (-1), .ref (q 11), .int 1, .int 0], kI (q 9) (G.2 0) 16 (fun _ => 0)] H := hP
      have hD : va_D A [kO (q 0) 5 [.int 1, .int sp, .int sp, .ref (q 1), .ref (q 2), .ref (q 3), .ref (q 4), .int 0, .ref (q 5), .ref (q 6), .ref (q 7), .ref (q 8), .ref (q 9), .int 1, .int 0, .ref (q 10), .int 0, .int 0, .int 0, .int (-1), .ref (q 11), .int 1, .int 0], kI (q 9) (G.2 0) 16 (fun _ => 0)] := hD
      refine lv_aload_n hx hb dX5_at_21 rfl (lv_at hl 0 rfl) ?_
      refine va_get (D := G.1) (ci := 5) (v := .int 1) (C := RX5) (T := TX5) (N := 23) hx hb hts in5 hown hK hP 0 rfl rfl 0 (by decide) (hts (.fieldLink RX5 51 "TraceDebuggerModel" "code" "I") (by decide +kernel)) (fun _ h9 => h9) rfl dX5_at_22 ?_
      refine lv_if_le (tgt := 32) hx hb dX5_at_25 (by decide) (fun c9 => absurd c9 (by decide)) (fun _ => ?_)
      refine lv_iconst (v := 0) hx hb dX5_at_28 (by decide) ?_
      refine lv_goto (tgt := 45) hx hb dX5_at_29 (by decide) ?_
      exact kRetI (G := G) 1 hx hb hr hlocks hS dX5_at_45 (kSubP (wc := [kO (q 0) 5 [.int 1, .int sp, .int sp, .ref (q 1), .ref (q 2), .ref (q 3), .ref (q 4), .int 0, .ref (q 5), .ref (q 6), .ref (q 7), .ref (q 8), .ref (q 9), .int 1, .int 0, .ref (q 10), .int 0, .int 0, .int 0, .int (-1), .ref (q 11), .int 1, .int 0]]) hP [0] rfl) (hD.sub (ws' := [kO (q 0) 5 [.int 1, .int sp, .int sp, .ref (q 1), .ref (q 2), .ref (q 3), .ref (q 4), .int 0, .ref (q 5), .ref (q 6), .ref (q 7), .ref (q 8), .ref (q 9), .int 1, .int 0, .ref (q 10), .int 0, .int 0, .int 0, .int (-1), .ref (q 11), .int 1, .int 0]]) [0] (by decide) rfl) (by first | exact Or.inl ⟨rfl, rfl, by omega⟩ | exact Or.inr ⟨rfl, by omega⟩)
    · have t2 := i_nle.mp c2
      refine lv_iconst (v := 0) hx hb dX5_at_13 (by decide) ?_
      refine lv_goto (tgt := 18) hx hb dX5_at_14 (by decide) ?_
      refine va_put (D := G.1) (ci := 5) (v := .int 0) (ty := .int) (C := RX5) (T := TX5) (N := 23) hx hb hts in5 tyX5 tyX5_ok nmX5 hown hK hP hD hS 0 rfl rfl 0 (by decide) (hts (.fieldLink RX5 51 "TraceDebuggerModel" "code" "I") (by decide +kernel)) (fun _ h9 => h9) rfl (by decide +kernel) rfl rfl (Nat.le_of_ble_eq_true rfl) dX5_at_18 (fun H locs hP hD hS => ?_)
      have hP : va_P G.1 vwCl [kO (q 0) 5 [.int 0, .int sp, .int sp, .ref (q 1), .ref (q 2), .ref (q 3), .ref (q 4), .int 0, .ref (q 5), .ref (q 6), .ref (q 7), .ref (q 8), .ref (q 9), .int 1, .int 0, .ref (q 10), .int 0, .int 0, .int 0, .int (-1), .ref (q 11), .int 1, .int 0], kI (q 9) (G.2 0) 16 (fun _ => 0)] H := hP
      have hD : va_D A [kO (q 0) 5 [.int 0, .int sp, .int sp, .ref (q 1), .ref (q 2), .ref (q 3), .ref (q 4), .int 0, .ref (q 5), .ref (q 6), .ref (q 7), .ref (q 8), .ref (q 9), .int 1, .int 0, .ref (q 10), .int 0, .int 0, .int 0, .int (-1), .ref (q 11), .int 1, .int 0], kI (q 9) (G.2 0) 16 (fun _ => 0)] := hD
      refine lv_aload_n hx hb dX5_at_21 rfl (lv_at hl 0 rfl) ?_
      refine va_get (D := G.1) (ci := 5) (v := .int 0) (C := RX5) (T := TX5) (N := 23) hx hb hts in5 hown hK hP 0 rfl rfl 0 (by decide) (hts (.fieldLink RX5 51 "TraceDebuggerModel" "code" "I") (by decide +kernel)) (fun _ h9 => h9) rfl dX5_at_22 ?_
      refine lv_if_le (tgt := 32) hx hb dX5_at_25 (by decide) (fun _ => ?_) (fun c9 => absurd c9 (by decide))
      refine lv_aload_n hx hb dX5_at_32 rfl (lv_at hl 0 rfl) ?_
      refine va_get (D := G.1) (ci := 5) (v := .ref (q 9)) (C := RX5) (T := TX5) (N := 23) hx hb hts in5 hown hK hP 0 rfl rfl 12 (by decide) (hts (.fieldLink RX5 35 "TraceDebuggerModel" "comes" "[I") (by decide +kernel)) (fun _ h9 => h9) rfl dX5_at_33 ?_
      refine lv_aload_n hx hb dX5_at_36 rfl (lv_at hl 0 rfl) ?_
      refine va_get (D := G.1) (ci := 5) (v := .int 1) (C := RX5) (T := TX5) (N := 23) hx hb hts in5 hown hK hP 0 rfl rfl 13 (by decide) (hts (.fieldLink RX5 70 "TraceDebuggerModel" "frames" "I") (by decide +kernel)) (fun _ h9 => h9) rfl dX5_at_37 ?_
      refine lv_iconst (v := 1) hx hb dX5_at_40 (by decide) ?_
      refine lv_isub hx hb dX5_at_41 ?_
      refine kTop (y := 0) (by decide) ?_
      refine lv_iload_n hx hb dX5_at_42 rfl (lv_at hl 1 rfl) ?_
      refine lv_isub hx hb dX5_at_43 ?_
      have a1 : (0 - f).toInt = (0 : Int32).toInt - f.toInt := i_sub (by omega) (by omega)
      refine va_iald (D := G.1) hx hb hK hP 1 0 rfl rfl (vp_in_iff.mpr (by omega)) dX5_at_44 ?_
      refine kTop (y := 0) rfl ?_
      exact kRetI (G := G) 0 hx hb hr hlocks hS dX5_at_45 (kSubP (wc := [kO (q 0) 5 [.int 0, .int sp, .int sp, .ref (q 1), .ref (q 2), .ref (q 3), .ref (q 4), .int 0, .ref (q 5), .ref (q 6), .ref (q 7), .ref (q 8), .ref (q 9), .int 1, .int 0, .ref (q 10), .int 0, .int 0, .int 0, .int (-1), .ref (q 11), .int 1, .int 0]]) hP [0] rfl) (hD.sub (ws' := [kO (q 0) 5 [.int 0, .int sp, .int sp, .ref (q 1), .ref (q 2), .ref (q 3), .ref (q 4), .int 0, .ref (q 5), .ref (q 6), .ref (q 7), .ref (q 8), .ref (q 9), .int 1, .int 0, .ref (q 10), .int 0, .int 0, .int 0, .int (-1), .ref (q 11), .int 1, .int 0]]) [0] (by decide) rfl) (by first | exact Or.inl ⟨rfl, rfl, by omega⟩ | exact Or.inr ⟨rfl, by omega⟩)

set_option maxHeartbeats 4000000 in
set_option maxRecDepth 100000 in
theorem c_X5_cell (l : Launch) (G : gG) (sz : Nat) (q : Nat → Nat) (sp : Int32) (x : Int32)  : Met l yX5_cell wsX5_cell { frames := 0, cells := 0, slots := 0, locals := 0 } (kPc G [.ref (q 0), .int x] [kO (q 0) 5 [.int 0, .int sp, .int sp, .ref (q 1), .ref (q 2), .ref (q 3), .ref (q 4), .int 0, .ref (q 5), .ref (q 6), .ref (q 7), .ref (q 8), .ref (q 9), .int 1, .int 0, .ref (q 10), .int 0, .int 0, .int 0, .int (-1), .ref (q 11), .int 1, .int 0], kI (q 7) (G.2 0) 64 (fun _ => 0)] sz (fun _ => True)) (kQi G (S := Int32) (fun r u => (u = 0 ∧ r = 0 ∧ (0 ≤ x.toInt ∧ x.toInt < 64)) ∨ (u = 1 ∧ ¬ (0 ≤ x.toInt ∧ x.toInt < 64))) (fun u => [kO (q 0) 5 [.int u, .int sp, .int sp, .ref (q 1), .ref (q 2), .ref (q 3), .ref (q 4), .int 0, .ref (q 5), .ref (q 6), .ref (q 7), .ref (q 8), .ref (q 9), .int 1, .int 0, .ref (q 10), .int 0, .int 0, .int 0, .int (-1), .ref (q 11), .int 1, .int 0]]) (va_A [kO (q 0) 5 [.int 0, .int sp, .int sp, .ref (q 1), .ref (q 2), .ref (q 3), .ref (q 4), .int 0, .ref (q 5), .ref (q 6), .ref (q 7), .ref (q 8), .ref (q 9), .int 1, .int 0, .ref (q 10), .int 0, .int 0, .int 0, .int (-1), .ref (q 11), .int 1, .int 0], kI (q 7) (G.2 0) 64 (fun _ => 0)] sz)) 0 0 (va_A [kO (q 0) 5 [.int 0, .int sp, .int sp, .ref (q 1), .ref (q 2), .ref (q 3), .ref (q 4), .int 0, .ref (q 5), .ref (q 6), .ref (q 7), .ref (q 8), .ref (q 9), .int 1, .int 0, .ref (q 10), .int 0, .int 0, .int 0, .int (-1), .ref (q 11), .int 1, .int 0], kI (q 7) (G.2 0) 64 (fun _ => 0)] sz) := by
  refine kBeg (Qc := fun A => kQi G (S := Int32) (fun r u => (u = 0 ∧ r = 0 ∧ (0 ≤ x.toInt ∧ x.toInt < 64)) ∨ (u = 1 ∧ ¬ (0 ≤ x.toInt ∧ x.toInt < 64))) (fun u => [kO (q 0) 5 [.int u, .int sp, .int sp, .ref (q 1), .ref (q 2), .ref (q 3), .ref (q 4), .int 0, .ref (q 5), .ref (q 6), .ref (q 7), .ref (q 8), .ref (q 9), .int 1, .int 0, .ref (q 10), .int 0, .int 0, .int 0, .int (-1), .ref (q 11), .int 1, .int 0]]) A) (by decide) rfl (Nat.le_of_ble_eq_true rfl) ?_
  intro A p e s m below meth c ls H locs hx hb hr hts hown hlocks hnm hml hsz hP hK hD hZ hA hS hl
  have hown : s.vm.findClass RX5 = some m.cls := hown
  have hl : lv_has ls 2 [(0, .ref (q 0)), (1, .int x)] := hl
  have in5 : ∀ w ∈ wsX50, w ∈ wsX5_cell := by decide +kernel
  have kc0 : (0 : Int32).toInt = 0 := by decide
  have kc1 : (1 : Int32).toInt = 1 := by decide
  have kc64 : (64 : Int32).toInt = 64 := by decide
  refine lv_aload_n hx hb dX5_cell_0 rfl (lv_at hl 0 rfl) ?_
  refine lv_iload_n hx hb dX5_cell_1 rfl (lv_at hl 1 rfl) ?_
  refine lv_if_lt (tgt := 15) hx hb dX5_cell_2 (by decide) (fun c1 => ?_) (fun c1 => ?_)
  · have t1 := i_lt.mp c1
    refine lv_iconst (v := 1) hx hb dX5_cell_15 (by decide) ?_
    refine va_put (D := G.1) (ci := 5) (v := .int 1) (ty := .int) (C := RX5) (T := TX5) (N := 23) hx hb hts in5 tyX5 tyX5_ok nmX5 hown hK hP hD hS 0 rfl rfl 0 (by decide) (hts (.fieldLink RX5 51 "TraceDebuggerModel" "code" "I") (by decide +kernel)) (fun _ h9 => h9) rfl (by decide +kernel) rfl rfl (Nat.le_of_ble_eq_true rfl) dX5_cell_16 (fun H locs hP hD hS => ?_)
    have hP : va_P G.1 vwCl [kO (q 0) 5 [.int 1, .int sp, .int sp, .ref (q 1), .ref (q 2), .ref (q 3), .ref (q 4), .int 0, .ref (q 5), .ref (q 6), .ref (q 7), .ref (q 8), .ref (q 9), .int 1, .int 0, .ref (q 10), .int 0, .int 0, .int 0, .int (-1), .ref (q 11), .int 1, .int 0], kI (q 7) (G.2 0) 64 (fun _ => 0)] H := hP
    have hD : va_D A [kO (q 0) 5 [.int 1, .int sp, .int sp, .ref (q 1), .ref (q 2), .ref (q 3), .ref (q 4), .int 0, .ref (q 5), .ref (q 6), .ref (q 7), .ref (q 8), .ref (q 9), .int 1, .int 0, .ref (q 10), .int 0, .int 0, .int 0, .int (-1), .ref (q 11), .int 1, .int 0], kI (q 7) (G.2 0) 64 (fun _ => 0)] := hD
    refine lv_aload_n hx hb dX5_cell_19 rfl (lv_at hl 0 rfl) ?_
    refine va_get (D := G.1) (ci := 5) (v := .int 1) (C := RX5) (T := TX5) (N := 23) hx hb hts in5 hown hK hP 0 rfl rfl 0 (by decide) (hts (.fieldLink RX5 51 "TraceDebuggerModel" "code" "I") (by decide +kernel)) (fun _ h9 => h9) rfl dX5_cell_20 ?_
    refine lv_if_le (tgt := 30) hx hb dX5_cell_23 (by decide) (fun c9 => absurd c9 (by decide)) (fun _ => ?_)
    refine lv_iconst (v := 0) hx hb dX5_cell_26 (by decide) ?_
    refine lv_goto (tgt := 36) hx hb dX5_cell_27 (by decide) ?_
    exact kRetI (G := G) 1 hx hb hr hlocks hS dX5_cell_36 (kSubP (wc := [kO (q 0) 5 [.int 1, .int sp, .int sp, .ref (q 1), .ref (q 2), .ref (q 3), .ref (q 4), .int 0, .ref (q 5), .ref (q 6), .ref (q 7), .ref (q 8), .ref (q 9), .int 1, .int 0, .ref (q 10), .int 0, .int 0, .int 0, .int (-1), .ref (q 11), .int 1, .int 0]]) hP [0] rfl) (hD.sub (ws' := [kO (q 0) 5 [.int 1, .int sp, .int sp, .ref (q 1), .ref (q 2), .ref (q 3), .ref (q 4), .int 0, .ref (q 5), .ref (q 6), .ref (q 7), .ref (q 8), .ref (q 9), .int 1, .int 0, .ref (q 10), .int 0, .int 0, .int 0, .int (-1), .ref (q 11), .int 1, .int 0]]) [0] (by decide) rfl) (by first | exact Or.inl ⟨rfl, rfl, by omega⟩ | exact Or.inr ⟨rfl, by omega⟩)
  · have t1 := i_nlt.mp c1
    refine lv_iload_n hx hb dX5_cell_5 rfl (lv_at hl 1 rfl) ?_
    refine lv_bipush (v := 64) hx hb dX5_cell_6 (by decide) ?_
    refine lv_icmp_ge (tgt := 15) hx hb dX5_cell_8 (by decide) (fun c2 => ?_) (fun c2 => ?_)
    · have t2 := i_le.mp c2
      refine lv_iconst (v := 1) hx hb dX5_cell_15 (by decide) ?_
      refine va_put (D := G.1) (ci := 5) (v := .int 1) (ty := .int) (C := RX5) (T := TX5) (N := 23) hx hb hts in5 tyX5 tyX5_ok nmX5 hown hK hP hD hS 0 rfl rfl 0 (by decide) (hts (.fieldLink RX5 51 "TraceDebuggerModel" "code" "I") (by decide +kernel)) (fun _ h9 => h9) rfl (by decide +kernel) rfl rfl (Nat.le_of_ble_eq_true rfl) dX5_cell_16 (fun H locs hP hD hS => ?_)
      have hP : va_P G.1 vwCl [kO (q 0) 5 [.int 1, .int sp, .int sp, .ref (q 1), .ref (q 2), .ref (q 3), .ref (q 4), .int 0, .ref (q 5), .ref (q 6), .ref (q 7), .ref (q 8), .ref (q 9), .int 1, .int 0, .ref (q 10), .int 0, .int 0, .int 0, .int (-1), .ref (q 11), .int 1, .int 0], kI (q 7) (G.2 0) 64 (fun _ => 0)] H := hP
      have hD : va_D A [kO (q 0) 5 [.int 1, .int sp, .int sp, .ref (q 1), .ref (q 2), .ref (q 3), .ref (q 4), .int 0, .ref (q 5), .ref (q 6), .ref (q 7), .ref (q 8), .ref (q 9), .int 1, .int 0, .ref (q 10), .int 0, .int 0, .int 0, .int (-1), .ref (q 11), .int 1, .int 0], kI (q 7) (G.2 0) 64 (fun _ => 0)] := hD
      refine lv_aload_n hx hb dX5_cell_19 rfl (lv_at hl 0 rfl) ?_
      refine va_get (D := G.1) (ci := 5) (v := .int 1) (C := RX5) (T := TX5) (N := 23) hx hb hts in5 hown hK hP 0 rfl rfl 0 (by decide) (hts (.fieldLink RX5 51 "TraceDebuggerModel" "code" "I") (by decide +kernel)) (fun _ h9 => h9) rfl dX5_cell_20 ?_
      refine lv_if_le (tgt := 30) hx hb dX5_cell_23 (by decide) (fun c9 => absurd c9 (by decide)) (fun _ => ?_)
      refine lv_iconst (v := 0) hx hb dX5_cell_26 (by decide) ?_
      refine lv_goto (tgt := 36) hx hb dX5_cell_27 (by decide) ?_
      exact kRetI (G := G) 1 hx hb hr hlocks hS dX5_cell_36 (kSubP (wc := [kO (q 0) 5 [.int 1, .int sp, .int sp, .ref (q 1), .ref (q 2), .ref (q 3), .ref (q 4), .int 0, .ref (q 5), .ref (q 6), .ref (q 7), .ref (q 8), .ref (q 9), .int 1, .int 0, .ref (q 10), .int 0, .int 0, .int 0, .int (-1), .ref (q 11), .int 1, .int 0]]) hP [0] rfl) (hD.sub (ws' := [kO (q 0) 5 [.int 1, .int sp, .int sp, .ref (q 1), .ref (q 2), .ref (q 3), .ref (q 4), .int 0, .ref (q 5), .ref (q 6), .ref (q 7), .ref (q 8), .ref (q 9), .int 1, .int 0, .ref (q 10), .int 0, .int 0, .int 0, .int (-1), .ref (q 11), .int 1, .int 0]]) [0] (by decide) rfl) (by first | exact Or.inl ⟨rfl, rfl, by omega⟩ | exact Or.inr ⟨rfl, by omega⟩)
    · have t2 := i_nle.mp c2
      refine lv_iconst (v := 0) hx hb dX5_cell_11 (by decide) ?_
      refine lv_goto (tgt := 16) hx hb dX5_cell_12 (by decide) ?_
      refine va_put (D := G.1) (ci := 5) (v := .int 0) (ty := .int) (C := RX5) (T := TX5) (N := 23) hx hb hts in5 tyX5 tyX5_ok nmX5 hown hK hP hD hS 0 rfl rfl 0 (by decide) (hts (.fieldLink RX5 51 "TraceDebuggerModel" "code" "I") (by decide +kernel)) (fun _ h9 => h9) rfl (by decide +kernel) rfl rfl (Nat.le_of_ble_eq_true rfl) dX5_cell_16 (fun H locs hP hD hS => ?_)
      have hP : va_P G.1 vwCl [kO (q 0) 5 [.int 0, .int sp, .int sp, .ref (q 1), .ref (q 2), .ref (q 3), .ref (q 4), .int 0, .ref (q 5), .ref (q 6), .ref (q 7), .ref (q 8), .ref (q 9), .int 1, .int 0, .ref (q 10), .int 0, .int 0, .int 0, .int (-1), .ref (q 11), .int 1, .int 0], kI (q 7) (G.2 0) 64 (fun _ => 0)] H := hP
      have hD : va_D A [kO (q 0) 5 [.int 0, .int sp, .int sp, .ref (q 1), .ref (q 2), .ref (q 3), .ref (q 4), .int 0, .ref (q 5), .ref (q 6), .ref (q 7), .ref (q 8), .ref (q 9), .int 1, .int 0, .ref (q 10), .int 0, .int 0, .int 0, .int (-1), .ref (q 11), .int 1, .int 0], kI (q 7) (G.2 0) 64 (fun _ => 0)] := hD
      refine lv_aload_n hx hb dX5_cell_19 rfl (lv_at hl 0 rfl) ?_
      refine va_get (D := G.1) (ci := 5) (v := .int 0) (C := RX5) (T := TX5) (N := 23) hx hb hts in5 hown hK hP 0 rfl rfl 0 (by decide) (hts (.fieldLink RX5 51 "TraceDebuggerModel" "code" "I") (by decide +kernel)) (fun _ h9 => h9) rfl dX5_cell_20 ?_
      refine lv_if_le (tgt := 30) hx hb dX5_cell_23 (by decide) (fun _ => ?_) (fun c9 => absurd c9 (by decide))
      refine lv_aload_n hx hb dX5_cell_30 rfl (lv_at hl 0 rfl) ?_
      refine va_get (D := G.1) (ci := 5) (v := .ref (q 7)) (C := RX5) (T := TX5) (N := 23) hx hb hts in5 hown hK hP 0 rfl rfl 10 (by decide) (hts (.fieldLink RX5 29 "TraceDebuggerModel" "cells" "[I") (by decide +kernel)) (fun _ h9 => h9) rfl dX5_cell_31 ?_
      refine lv_iload_n hx hb dX5_cell_34 rfl (lv_at hl 1 rfl) ?_
      refine va_iald (D := G.1) hx hb hK hP 1 0 rfl rfl (vp_in_iff.mpr (by omega)) dX5_cell_35 ?_
      refine kTop (y := 0) rfl ?_
      exact kRetI (G := G) 0 hx hb hr hlocks hS dX5_cell_36 (kSubP (wc := [kO (q 0) 5 [.int 0, .int sp, .int sp, .ref (q 1), .ref (q 2), .ref (q 3), .ref (q 4), .int 0, .ref (q 5), .ref (q 6), .ref (q 7), .ref (q 8), .ref (q 9), .int 1, .int 0, .ref (q 10), .int 0, .int 0, .int 0, .int (-1), .ref (q 11), .int 1, .int 0]]) hP [0] rfl) (hD.sub (ws' := [kO (q 0) 5 [.int 0, .int sp, .int sp, .ref (q 1), .ref (q 2), .ref (q 3), .ref (q 4), .int 0, .ref (q 5), .ref (q 6), .ref (q 7), .ref (q 8), .ref (q 9), .int 1, .int 0, .ref (q 10), .int 0, .int 0, .int 0, .int (-1), .ref (q 11), .int 1, .int 0]]) [0] (by decide) rfl) (by first | exact Or.inl ⟨rfl, rfl, by omega⟩ | exact Or.inr ⟨rfl, by omega⟩)

set_option maxHeartbeats 4000000 in
set_option maxRecDepth 100000 in
theorem c_X5_output (l : Launch) (G : gG) (sz : Nat) (q : Nat → Nat) (sp : Int32) (x : Int32)  : Met l yX5_output wsX5_output { frames := 0, cells := 0, slots := 0, locals := 0 } (kPc G [.ref (q 0), .int x] [kO (q 0) 5 [.int 0, .int sp, .int sp, .ref (q 1), .ref (q 2), .ref (q 3), .ref (q 4), .int 0, .ref (q 5), .ref (q 6), .ref (q 7), .ref (q 8), .ref (q 9), .int 1, .int 0, .ref (q 10), .int 0, .int 0, .int 0, .int (-1), .ref (q 11), .int 1, .int 0]] sz (fun _ => True)) (kQi G (S := Int32) (fun _ u => u = 1) (fun u => [kO (q 0) 5 [.int u, .int sp, .int sp, .ref (q 1), .ref (q 2), .ref (q 3), .ref (q 4), .int 0, .ref (q 5), .ref (q 6), .ref (q 7), .ref (q 8), .ref (q 9), .int 1, .int 0, .ref (q 10), .int 0, .int 0, .int 0, .int (-1), .ref (q 11), .int 1, .int 0]]) (va_A [kO (q 0) 5 [.int 0, .int sp, .int sp, .ref (q 1), .ref (q 2), .ref (q 3), .ref (q 4), .int 0, .ref (q 5), .ref (q 6), .ref (q 7), .ref (q 8), .ref (q 9), .int 1, .int 0, .ref (q 10), .int 0, .int 0, .int 0, .int (-1), .ref (q 11), .int 1, .int 0]] sz)) 0 0 (va_A [kO (q 0) 5 [.int 0, .int sp, .int sp, .ref (q 1), .ref (q 2), .ref (q 3), .ref (q 4), .int 0, .ref (q 5), .ref (q 6), .ref (q 7), .ref (q 8), .ref (q 9), .int 1, .int 0, .ref (q 10), .int 0, .int 0, .int 0, .int (-1), .ref (q 11), .int 1, .int 0]] sz) := by
  refine kBeg (Qc := fun A => kQi G (S := Int32) (fun _ u => u = 1) (fun u => [kO (q 0) 5 [.int u, .int sp, .int sp, .ref (q 1), .ref (q 2), .ref (q 3), .ref (q 4), .int 0, .ref (q 5), .ref (q 6), .ref (q 7), .ref (q 8), .ref (q 9), .int 1, .int 0, .ref (q 10), .int 0, .int 0, .int 0, .int (-1), .ref (q 11), .int 1, .int 0]]) A) (by decide) rfl (Nat.le_of_ble_eq_true rfl) ?_
  intro A p e s m below meth c ls H locs hx hb hr hts hown hlocks hnm hml hsz hP hK hD hZ hA hS hl
  have hown : s.vm.findClass RX5 = some m.cls := hown
  have hl : lv_has ls 2 [(0, .ref (q 0)), (1, .int x)] := hl
  have in5 : ∀ w ∈ wsX50, w ∈ wsX5_output := by decide +kernel
  have kc0 : (0 : Int32).toInt = 0 := by decide
  have kc1 : (1 : Int32).toInt = 1 := by decide
  refine lv_aload_n hx hb dX5_output_0 rfl (lv_at hl 0 rfl) ?_
  refine lv_iload_n hx hb dX5_output_1 rfl (lv_at hl 1 rfl) ?_
  refine lv_if_lt (tgt := 17) hx hb dX5_output_2 (by decide) (fun c1 => ?_) (fun c1 => ?_)
  · have t1 := i_lt.mp c1
    refine lv_iconst (v := 1) hx hb dX5_output_17 (by decide) ?_
    refine va_put (D := G.1) (ci := 5) (v := .int 1) (ty := .int) (C := RX5) (T := TX5) (N := 23) hx hb hts in5 tyX5 tyX5_ok nmX5 hown hK hP hD hS 0 rfl rfl 0 (by decide) (hts (.fieldLink RX5 51 "TraceDebuggerModel" "code" "I") (by decide +kernel)) (fun _ h9 => h9) rfl (by decide +kernel) rfl rfl (Nat.le_of_ble_eq_true rfl) dX5_output_18 (fun H locs hP hD hS => ?_)
    have hP : va_P G.1 vwCl [kO (q 0) 5 [.int 1, .int sp, .int sp, .ref (q 1), .ref (q 2), .ref (q 3), .ref (q 4), .int 0, .ref (q 5), .ref (q 6), .ref (q 7), .ref (q 8), .ref (q 9), .int 1, .int 0, .ref (q 10), .int 0, .int 0, .int 0, .int (-1), .ref (q 11), .int 1, .int 0]] H := hP
    have hD : va_D A [kO (q 0) 5 [.int 1, .int sp, .int sp, .ref (q 1), .ref (q 2), .ref (q 3), .ref (q 4), .int 0, .ref (q 5), .ref (q 6), .ref (q 7), .ref (q 8), .ref (q 9), .int 1, .int 0, .ref (q 10), .int 0, .int 0, .int 0, .int (-1), .ref (q 11), .int 1, .int 0]] := hD
    refine lv_aload_n hx hb dX5_output_21 rfl (lv_at hl 0 rfl) ?_
    refine va_get (D := G.1) (ci := 5) (v := .int 1) (C := RX5) (T := TX5) (N := 23) hx hb hts in5 hown hK hP 0 rfl rfl 0 (by decide) (hts (.fieldLink RX5 51 "TraceDebuggerModel" "code" "I") (by decide +kernel)) (fun _ h9 => h9) rfl dX5_output_22 ?_
    refine lv_if_le (tgt := 32) hx hb dX5_output_25 (by decide) (fun c9 => absurd c9 (by decide)) (fun _ => ?_)
    refine lv_iconst (v := 0) hx hb dX5_output_28 (by decide) ?_
    refine lv_goto (tgt := 38) hx hb dX5_output_29 (by decide) ?_
    exact kRetI (G := G) 1 hx hb hr hlocks hS dX5_output_38 (kSubP (wc := [kO (q 0) 5 [.int 1, .int sp, .int sp, .ref (q 1), .ref (q 2), .ref (q 3), .ref (q 4), .int 0, .ref (q 5), .ref (q 6), .ref (q 7), .ref (q 8), .ref (q 9), .int 1, .int 0, .ref (q 10), .int 0, .int 0, .int 0, .int (-1), .ref (q 11), .int 1, .int 0]]) hP [0] rfl) (hD.sub (ws' := [kO (q 0) 5 [.int 1, .int sp, .int sp, .ref (q 1), .ref (q 2), .ref (q 3), .ref (q 4), .int 0, .ref (q 5), .ref (q 6), .ref (q 7), .ref (q 8), .ref (q 9), .int 1, .int 0, .ref (q 10), .int 0, .int 0, .int 0, .int (-1), .ref (q 11), .int 1, .int 0]]) [0] (by decide) rfl) rfl
  · have t1 := i_nlt.mp c1
    refine lv_iload_n hx hb dX5_output_5 rfl (lv_at hl 1 rfl) ?_
    refine lv_aload_n hx hb dX5_output_6 rfl (lv_at hl 0 rfl) ?_
    refine va_get (D := G.1) (ci := 5) (v := .int 0) (C := RX5) (T := TX5) (N := 23) hx hb hts in5 hown hK hP 0 rfl rfl 16 (by decide) (hts (.fieldLink RX5 76 "TraceDebuggerModel" "outCount" "I") (by decide +kernel)) (fun _ h9 => h9) rfl dX5_output_7 ?_
    refine lv_icmp_ge (tgt := 17) hx hb dX5_output_10 (by decide) (fun c2 => ?_) (fun c2 => ?_)
    · have t2 := i_le.mp c2
      refine lv_iconst (v := 1) hx hb dX5_output_17 (by decide) ?_
      refine va_put (D := G.1) (ci := 5) (v := .int 1) (ty := .int) (C := RX5) (T := TX5) (N := 23) hx hb hts in5 tyX5 tyX5_ok nmX5 hown hK hP hD hS 0 rfl rfl 0 (by decide) (hts (.fieldLink RX5 51 "TraceDebuggerModel" "code" "I") (by decide +kernel)) (fun _ h9 => h9) rfl (by decide +kernel) rfl rfl (Nat.le_of_ble_eq_true rfl) dX5_output_18 (fun H locs hP hD hS => ?_)
      have hP : va_P G.1 vwCl [kO (q 0) 5 [.int 1, .int sp, .int sp, .ref (q 1), .ref (q 2), .ref (q 3), .ref (q 4), .int 0, .ref (q 5), .ref (q 6), .ref (q 7), .ref (q 8), .ref (q 9), .int 1, .int 0, .ref (q 10), .int 0, .int 0, .int 0, .int (-1), .ref (q 11), .int 1, .int 0]] H := hP
      have hD : va_D A [kO (q 0) 5 [.int 1, .int sp, .int sp, .ref (q 1), .ref (q 2), .ref (q 3), .ref (q 4), .int 0, .ref (q 5), .ref (q 6), .ref (q 7), .ref (q 8), .ref (q 9), .int 1, .int 0, .ref (q 10), .int 0, .int 0, .int 0, .int (-1), .ref (q 11), .int 1, .int 0]] := hD
      refine lv_aload_n hx hb dX5_output_21 rfl (lv_at hl 0 rfl) ?_
      refine va_get (D := G.1) (ci := 5) (v := .int 1) (C := RX5) (T := TX5) (N := 23) hx hb hts in5 hown hK hP 0 rfl rfl 0 (by decide) (hts (.fieldLink RX5 51 "TraceDebuggerModel" "code" "I") (by decide +kernel)) (fun _ h9 => h9) rfl dX5_output_22 ?_
      refine lv_if_le (tgt := 32) hx hb dX5_output_25 (by decide) (fun c9 => absurd c9 (by decide)) (fun _ => ?_)
      refine lv_iconst (v := 0) hx hb dX5_output_28 (by decide) ?_
      refine lv_goto (tgt := 38) hx hb dX5_output_29 (by decide) ?_
      exact kRetI (G := G) 1 hx hb hr hlocks hS dX5_output_38 (kSubP (wc := [kO (q 0) 5 [.int 1, .int sp, .int sp, .ref (q 1), .ref (q 2), .ref (q 3), .ref (q 4), .int 0, .ref (q 5), .ref (q 6), .ref (q 7), .ref (q 8), .ref (q 9), .int 1, .int 0, .ref (q 10), .int 0, .int 0, .int 0, .int (-1), .ref (q 11), .int 1, .int 0]]) hP [0] rfl) (hD.sub (ws' := [kO (q 0) 5 [.int 1, .int sp, .int sp, .ref (q 1), .ref (q 2), .ref (q 3), .ref (q 4), .int 0, .ref (q 5), .ref (q 6), .ref (q 7), .ref (q 8), .ref (q 9), .int 1, .int 0, .ref (q 10), .int 0, .int 0, .int 0, .int (-1), .ref (q 11), .int 1, .int 0]]) [0] (by decide) rfl) rfl
    · have t2 := i_nle.mp c2
      exact absurd (show False by omega) id

set_option maxHeartbeats 4000000 in
set_option maxRecDepth 100000 in
theorem c_X5_kept (l : Launch) (G : gG) (sz : Nat) (q : Nat → Nat) (sp : Int32) (x : Int32)  : Met l yX5_kept wsX5_kept { frames := 0, cells := 0, slots := 0, locals := 0 } (kPc G [.ref (q 0), .int x] [kO (q 0) 5 [.int 0, .int sp, .int sp, .ref (q 1), .ref (q 2), .ref (q 3), .ref (q 4), .int 0, .ref (q 5), .ref (q 6), .ref (q 7), .ref (q 8), .ref (q 9), .int 1, .int 0, .ref (q 10), .int 0, .int 0, .int 0, .int (-1), .ref (q 11), .int 1, .int 0], kI (q 11) (G.2 0) 8 (fun _ => 0)] sz (fun _ => True)) (kQi G (S := Int32) (fun r u => (u = 0 ∧ r = 0 ∧ (0 ≤ x.toInt ∧ x.toInt < 1)) ∨ (u = 1 ∧ ¬ (0 ≤ x.toInt ∧ x.toInt < 1))) (fun u => [kO (q 0) 5 [.int u, .int sp, .int sp, .ref (q 1), .ref (q 2), .ref (q 3), .ref (q 4), .int 0, .ref (q 5), .ref (q 6), .ref (q 7), .ref (q 8), .ref (q 9), .int 1, .int 0, .ref (q 10), .int 0, .int 0, .int 0, .int (-1), .ref (q 11), .int 1, .int 0]]) (va_A [kO (q 0) 5 [.int 0, .int sp, .int sp, .ref (q 1), .ref (q 2), .ref (q 3), .ref (q 4), .int 0, .ref (q 5), .ref (q 6), .ref (q 7), .ref (q 8), .ref (q 9), .int 1, .int 0, .ref (q 10), .int 0, .int 0, .int 0, .int (-1), .ref (q 11), .int 1, .int 0], kI (q 11) (G.2 0) 8 (fun _ => 0)] sz)) 0 0 (va_A [kO (q 0) 5 [.int 0, .int sp, .int sp, .ref (q 1), .ref (q 2), .ref (q 3), .ref (q 4), .int 0, .ref (q 5), .ref (q 6), .ref (q 7), .ref (q 8), .ref (q 9), .int 1, .int 0, .ref (q 10), .int 0, .int 0, .int 0, .int (-1), .ref (q 11), .int 1, .int 0], kI (q 11) (G.2 0) 8 (fun _ => 0)] sz) := by
  refine kBeg (Qc := fun A => kQi G (S := Int32) (fun r u => (u = 0 ∧ r = 0 ∧ (0 ≤ x.toInt ∧ x.toInt < 1)) ∨ (u = 1 ∧ ¬ (0 ≤ x.toInt ∧ x.toInt < 1))) (fun u => [kO (q 0) 5 [.int u, .int sp, .int sp, .ref (q 1), .ref (q 2), .ref (q 3), .ref (q 4), .int 0, .ref (q 5), .ref (q 6), .ref (q 7), .ref (q 8), .ref (q 9), .int 1, .int 0, .ref (q 10), .int 0, .int 0, .int 0, .int (-1), .ref (q 11), .int 1, .int 0]]) A) (by decide) rfl (Nat.le_of_ble_eq_true rfl) ?_
  intro A p e s m below meth c ls H locs hx hb hr hts hown hlocks hnm hml hsz hP hK hD hZ hA hS hl
  have hown : s.vm.findClass RX5 = some m.cls := hown
  have hl : lv_has ls 2 [(0, .ref (q 0)), (1, .int x)] := hl
  have in5 : ∀ w ∈ wsX50, w ∈ wsX5_kept := by decide +kernel
  have kc0 : (0 : Int32).toInt = 0 := by decide
  have kc1 : (1 : Int32).toInt = 1 := by decide
  refine lv_aload_n hx hb dX5_kept_0 rfl (lv_at hl 0 rfl) ?_
  refine lv_iload_n hx hb dX5_kept_1 rfl (lv_at hl 1 rfl) ?_
  refine lv_if_lt (tgt := 17) hx hb dX5_kept_2 (by decide) (fun c1 => ?_) (fun c1 => ?_)
  · have t1 := i_lt.mp c1
    refine lv_iconst (v := 1) hx hb dX5_kept_17 (by decide) ?_
    refine va_put (D := G.1) (ci := 5) (v := .int 1) (ty := .int) (C := RX5) (T := TX5) (N := 23) hx hb hts in5 tyX5 tyX5_ok nmX5 hown hK hP hD hS 0 rfl rfl 0 (by decide) (hts (.fieldLink RX5 51 "TraceDebuggerModel" "code" "I") (by decide +kernel)) (fun _ h9 => h9) rfl (by decide +kernel) rfl rfl (Nat.le_of_ble_eq_true rfl) dX5_kept_18 (fun H locs hP hD hS => ?_)
    have hP : va_P G.1 vwCl [kO (q 0) 5 [.int 1, .int sp, .int sp, .ref (q 1), .ref (q 2), .ref (q 3), .ref (q 4), .int 0, .ref (q 5), .ref (q 6), .ref (q 7), .ref (q 8), .ref (q 9), .int 1, .int 0, .ref (q 10), .int 0, .int 0, .int 0, .int (-1), .ref (q 11), .int 1, .int 0], kI (q 11) (G.2 0) 8 (fun _ => 0)] H := hP
    have hD : va_D A [kO (q 0) 5 [.int 1, .int sp, .int sp, .ref (q 1), .ref (q 2), .ref (q 3), .ref (q 4), .int 0, .ref (q 5), .ref (q 6), .ref (q 7), .ref (q 8), .ref (q 9), .int 1, .int 0, .ref (q 10), .int 0, .int 0, .int 0, .int (-1), .ref (q 11), .int 1, .int 0], kI (q 11) (G.2 0) 8 (fun _ => 0)] := hD
    refine lv_aload_n hx hb dX5_kept_21 rfl (lv_at hl 0 rfl) ?_
    refine va_get (D := G.1) (ci := 5) (v := .int 1) (C := RX5) (T := TX5) (N := 23) hx hb hts in5 hown hK hP 0 rfl rfl 0 (by decide) (hts (.fieldLink RX5 51 "TraceDebuggerModel" "code" "I") (by decide +kernel)) (fun _ h9 => h9) rfl dX5_kept_22 ?_
    refine lv_if_le (tgt := 32) hx hb dX5_kept_25 (by decide) (fun c9 => absurd c9 (by decide)) (fun _ => ?_)
    refine lv_iconst (v := 0) hx hb dX5_kept_28 (by decide) ?_
    refine lv_goto (tgt := 38) hx hb dX5_kept_29 (by decide) ?_
    exact kRetI (G := G) 1 hx hb hr hlocks hS dX5_kept_38 (kSubP (wc := [kO (q 0) 5 [.int 1, .int sp, .int sp, .ref (q 1), .ref (q 2), .ref (q 3), .ref (q 4), .int 0, .ref (q 5), .ref (q 6), .ref (q 7), .ref (q 8), .ref (q 9), .int 1, .int 0, .ref (q 10), .int 0, .int 0, .int 0, .int (-1), .ref (q 11), .int 1, .int 0]]) hP [0] rfl) (hD.sub (ws' := [kO (q 0) 5 [.int 1, .int sp, .int sp, .ref (q 1), .ref (q 2), .ref (q 3), .ref (q 4), .int 0, .ref (q 5), .ref (q 6), .ref (q 7), .ref (q 8), .ref (q 9), .int 1, .int 0, .ref (q 10), .int 0, .int 0, .int 0, .int (-1), .ref (q 11), .int 1, .int 0]]) [0] (by decide) rfl) (by first | exact Or.inl ⟨rfl, rfl, by omega⟩ | exact Or.inr ⟨rfl, by omega⟩)
  · have t1 := i_nlt.mp c1
    refine lv_iload_n hx hb dX5_kept_5 rfl (lv_at hl 1 rfl) ?_
    refine lv_aload_n hx hb dX5_kept_6 rfl (lv_at hl 0 rfl) ?_
    refine va_get (D := G.1) (ci := 5) (v := .int 1) (C := RX5) (T := TX5) (N := 23) hx hb hts in5 hown hK hP 0 rfl rfl 21 (by decide) (hts (.fieldLink RX5 57 "TraceDebuggerModel" "keptCount" "I") (by decide +kernel)) (fun _ h9 => h9) rfl dX5_kept_7 ?_
    refine lv_icmp_ge (tgt := 17) hx hb dX5_kept_10 (by decide) (fun c2 => ?_) (fun c2 => ?_)
    · have t2 := i_le.mp c2
      refine lv_iconst (v := 1) hx hb dX5_kept_17 (by decide) ?_
      refine va_put (D := G.1) (ci := 5) (v := .int 1) (ty := .int) (C := RX5) (T := TX5) (N := 23) hx hb hts in5 tyX5 tyX5_ok nmX5 hown hK hP hD hS 0 rfl rfl 0 (by decide) (hts (.fieldLink RX5 51 "TraceDebuggerModel" "code" "I") (by decide +kernel)) (fun _ h9 => h9) rfl (by decide +kernel) rfl rfl (Nat.le_of_ble_eq_true rfl) dX5_kept_18 (fun H locs hP hD hS => ?_)
      have hP : va_P G.1 vwCl [kO (q 0) 5 [.int 1, .int sp, .int sp, .ref (q 1), .ref (q 2), .ref (q 3), .ref (q 4), .int 0, .ref (q 5), .ref (q 6), .ref (q 7), .ref (q 8), .ref (q 9), .int 1, .int 0, .ref (q 10), .int 0, .int 0, .int 0, .int (-1), .ref (q 11), .int 1, .int 0], kI (q 11) (G.2 0) 8 (fun _ => 0)] H := hP
      have hD : va_D A [kO (q 0) 5 [.int 1, .int sp, .int sp, .ref (q 1), .ref (q 2), .ref (q 3), .ref (q 4), .int 0, .ref (q 5), .ref (q 6), .ref (q 7), .ref (q 8), .ref (q 9), .int 1, .int 0, .ref (q 10), .int 0, .int 0, .int 0, .int (-1), .ref (q 11), .int 1, .int 0], kI (q 11) (G.2 0) 8 (fun _ => 0)] := hD
      refine lv_aload_n hx hb dX5_kept_21 rfl (lv_at hl 0 rfl) ?_
      refine va_get (D := G.1) (ci := 5) (v := .int 1) (C := RX5) (T := TX5) (N := 23) hx hb hts in5 hown hK hP 0 rfl rfl 0 (by decide) (hts (.fieldLink RX5 51 "TraceDebuggerModel" "code" "I") (by decide +kernel)) (fun _ h9 => h9) rfl dX5_kept_22 ?_
      refine lv_if_le (tgt := 32) hx hb dX5_kept_25 (by decide) (fun c9 => absurd c9 (by decide)) (fun _ => ?_)
      refine lv_iconst (v := 0) hx hb dX5_kept_28 (by decide) ?_
      refine lv_goto (tgt := 38) hx hb dX5_kept_29 (by decide) ?_
      exact kRetI (G := G) 1 hx hb hr hlocks hS dX5_kept_38 (kSubP (wc := [kO (q 0) 5 [.int 1, .int sp, .int sp, .ref (q 1), .ref (q 2), .ref (q 3), .ref (q 4), .int 0, .ref (q 5), .ref (q 6), .ref (q 7), .ref (q 8), .ref (q 9), .int 1, .int 0, .ref (q 10), .int 0, .int 0, .int 0, .int (-1), .ref (q 11), .int 1, .int 0]]) hP [0] rfl) (hD.sub (ws' := [kO (q 0) 5 [.int 1, .int sp, .int sp, .ref (q 1), .ref (q 2), .ref (q 3), .ref (q 4), .int 0, .ref (q 5), .ref (q 6), .ref (q 7), .ref (q 8), .ref (q 9), .int 1, .int 0, .ref (q 10), .int 0, .int 0, .int 0, .int (-1), .ref (q 11), .int 1, .int 0]]) [0] (by decide) rfl) (by first | exact Or.inl ⟨rfl, rfl, by omega⟩ | exact Or.inr ⟨rfl, by omega⟩)
    · have t2 := i_nle.mp c2
      refine lv_iconst (v := 0) hx hb dX5_kept_13 (by decide) ?_
      refine lv_goto (tgt := 18) hx hb dX5_kept_14 (by decide) ?_
      refine va_put (D := G.1) (ci := 5) (v := .int 0) (ty := .int) (C := RX5) (T := TX5) (N := 23) hx hb hts in5 tyX5 tyX5_ok nmX5 hown hK hP hD hS 0 rfl rfl 0 (by decide) (hts (.fieldLink RX5 51 "TraceDebuggerModel" "code" "I") (by decide +kernel)) (fun _ h9 => h9) rfl (by decide +kernel) rfl rfl (Nat.le_of_ble_eq_true rfl) dX5_kept_18 (fun H locs hP hD hS => ?_)
      have hP : va_P G.1 vwCl [kO (q 0) 5 [.int 0, .int sp, .int sp, .ref (q 1), .ref (q 2), .ref (q 3), .ref (q 4), .int 0, .ref (q 5), .ref (q 6), .ref (q 7), .ref (q 8), .ref (q 9), .int 1, .int 0, .ref (q 10), .int 0, .int 0, .int 0, .int (-1), .ref (q 11), .int 1, .int 0], kI (q 11) (G.2 0) 8 (fun _ => 0)] H := hP
      have hD : va_D A [kO (q 0) 5 [.int 0, .int sp, .int sp, .ref (q 1), .ref (q 2), .ref (q 3), .ref (q 4), .int 0, .ref (q 5), .ref (q 6), .ref (q 7), .ref (q 8), .ref (q 9), .int 1, .int 0, .ref (q 10), .int 0, .int 0, .int 0, .int (-1), .ref (q 11), .int 1, .int 0], kI (q 11) (G.2 0) 8 (fun _ => 0)] := hD
      refine lv_aload_n hx hb dX5_kept_21 rfl (lv_at hl 0 rfl) ?_
      refine va_get (D := G.1) (ci := 5) (v := .int 0) (C := RX5) (T := TX5) (N := 23) hx hb hts in5 hown hK hP 0 rfl rfl 0 (by decide) (hts (.fieldLink RX5 51 "TraceDebuggerModel" "code" "I") (by decide +kernel)) (fun _ h9 => h9) rfl dX5_kept_22 ?_
      refine lv_if_le (tgt := 32) hx hb dX5_kept_25 (by decide) (fun _ => ?_) (fun c9 => absurd c9 (by decide))
      refine lv_aload_n hx hb dX5_kept_32 rfl (lv_at hl 0 rfl) ?_
      refine va_get (D := G.1) (ci := 5) (v := .ref (q 11)) (C := RX5) (T := TX5) (N := 23) hx hb hts in5 hown hK hP 0 rfl rfl 20 (by decide) (hts (.fieldLink RX5 41 "TraceDebuggerModel" "keptTimes" "[I") (by decide +kernel)) (fun _ h9 => h9) rfl dX5_kept_33 ?_
      refine lv_iload_n hx hb dX5_kept_36 rfl (lv_at hl 1 rfl) ?_
      refine va_iald (D := G.1) hx hb hK hP 1 0 rfl rfl (vp_in_iff.mpr (by omega)) dX5_kept_37 ?_
      refine kTop (y := 0) rfl ?_
      exact kRetI (G := G) 0 hx hb hr hlocks hS dX5_kept_38 (kSubP (wc := [kO (q 0) 5 [.int 0, .int sp, .int sp, .ref (q 1), .ref (q 2), .ref (q 3), .ref (q 4), .int 0, .ref (q 5), .ref (q 6), .ref (q 7), .ref (q 8), .ref (q 9), .int 1, .int 0, .ref (q 10), .int 0, .int 0, .int 0, .int (-1), .ref (q 11), .int 1, .int 0]]) hP [0] rfl) (hD.sub (ws' := [kO (q 0) 5 [.int 0, .int sp, .int sp, .ref (q 1), .ref (q 2), .ref (q 3), .ref (q 4), .int 0, .ref (q 5), .ref (q 6), .ref (q 7), .ref (q 8), .ref (q 9), .int 1, .int 0, .ref (q 10), .int 0, .int 0, .int 0, .int (-1), .ref (q 11), .int 1, .int 0]]) [0] (by decide) rfl) (by first | exact Or.inl ⟨rfl, rfl, by omega⟩ | exact Or.inr ⟨rfl, by omega⟩)

set_option maxHeartbeats 4000000 in
set_option maxRecDepth 100000 in
theorem c_X5_told (l : Launch) (G : gG) (sz : Nat) (q : Nat → Nat) (sp : Int32) (w : Int32)  : Met l yX5_told wsX5_told { frames := 0, cells := 0, slots := 0, locals := 0 } (kPc G [.ref (q 0), .int w] [kO (q 0) 5 [.int 0, .int sp, .int sp, .ref (q 1), .ref (q 2), .ref (q 3), .ref (q 4), .int 0, .ref (q 5), .ref (q 6), .ref (q 7), .ref (q 8), .ref (q 9), .int 1, .int 0, .ref (q 10), .int 0, .int 0, .int 0, .int (-1), .ref (q 11), .int 1, .int 0]] sz (fun _ => True)) (kQi G (S := Unit) (fun r _ => r = (if w.toInt = 1 then 1 else if w.toInt = 3 then 1 else if w.toInt = 4 then sp else if w.toInt = 0 ∨ w.toInt = 2 ∨ w.toInt = 5 ∨ w.toInt = 6 then 0 else (-1))) (fun _ => []) (va_A [kO (q 0) 5 [.int 0, .int sp, .int sp, .ref (q 1), .ref (q 2), .ref (q 3), .ref (q 4), .int 0, .ref (q 5), .ref (q 6), .ref (q 7), .ref (q 8), .ref (q 9), .int 1, .int 0, .ref (q 10), .int 0, .int 0, .int 0, .int (-1), .ref (q 11), .int 1, .int 0]] sz)) 0 0 (va_A [kO (q 0) 5 [.int 0, .int sp, .int sp, .ref (q 1), .ref (q 2), .ref (q 3), .ref (q 4), .int 0, .ref (q 5), .ref (q 6), .ref (q 7), .ref (q 8), .ref (q 9), .int 1, .int 0, .ref (q 10), .int 0, .int 0, .int 0, .int (-1), .ref (q 11), .int 1, .int 0]] sz) := by
  refine kBeg (Qc := fun A => kQi G (S := Unit) (fun r _ => r = (if w.toInt = 1 then 1 else if w.toInt = 3 then 1 else if w.toInt = 4 then sp else if w.toInt = 0 ∨ w.toInt = 2 ∨ w.toInt = 5 ∨ w.toInt = 6 then 0 else (-1))) (fun _ => []) A) (by decide) rfl (Nat.le_of_ble_eq_true rfl) ?_
  intro A p e s m below meth c ls H locs hx hb hr hts hown hlocks hnm hml hsz hP hK hD hZ hA hS hl
  have hown : s.vm.findClass RX5 = some m.cls := hown
  have hl : lv_has ls 2 [(0, .ref (q 0)), (1, .int w)] := hl
  have in5 : ∀ w ∈ wsX50, w ∈ wsX5_told := by decide +kernel
  have kcm1 : (-1 : Int32).toInt = -1 := by decide
  have kc0 : (0 : Int32).toInt = 0 := by decide
  refine lv_aload_n hx hb dX5_told_0 rfl (lv_at hl 0 rfl) ?_
  refine lv_iconst (v := 0) hx hb dX5_told_1 (by decide) ?_
  refine va_put (D := G.1) (ci := 5) (v := .int 0) (ty := .int) (C := RX5) (T := TX5) (N := 23) hx hb hts in5 tyX5 tyX5_ok nmX5 hown hK hP hD hS 0 rfl rfl 0 (by decide) (hts (.fieldLink RX5 51 "TraceDebuggerModel" "code" "I") (by decide +kernel)) (fun _ h9 => h9) rfl (by decide +kernel) rfl rfl (Nat.le_of_ble_eq_true rfl) dX5_told_2 (fun H locs hP hD hS => ?_)
  have hP : va_P G.1 vwCl [kO (q 0) 5 [.int 0, .int sp, .int sp, .ref (q 1), .ref (q 2), .ref (q 3), .ref (q 4), .int 0, .ref (q 5), .ref (q 6), .ref (q 7), .ref (q 8), .ref (q 9), .int 1, .int 0, .ref (q 10), .int 0, .int 0, .int 0, .int (-1), .ref (q 11), .int 1, .int 0]] H := hP
  have hD : va_D A [kO (q 0) 5 [.int 0, .int sp, .int sp, .ref (q 1), .ref (q 2), .ref (q 3), .ref (q 4), .int 0, .ref (q 5), .ref (q 6), .ref (q 7), .ref (q 8), .ref (q 9), .int 1, .int 0, .ref (q 10), .int 0, .int 0, .int 0, .int (-1), .ref (q 11), .int 1, .int 0]] := hD
  refine lv_iload_n hx hb dX5_told_5 rfl (lv_at hl 1 rfl) ?_
  rcases (show w.toInt = 0 ∨ w.toInt = 1 ∨ w.toInt = 2 ∨ w.toInt = 3 ∨ w.toInt = 4 ∨ w.toInt = 5 ∨ w.toInt = 6 ∨ (w.toInt < 0 ∨ 6 < w.toInt) by omega) with w1 | w1 | w1 | w1 | w1 | w1 | w1 | w1
  · refine lv_tableIn (off := 42) (tgt := 48) hx hb dX5_told_6 (by omega) (by omega) (by rw [w1]; rfl) (by decide) ?_
    refine lv_aload_n hx hb dX5_told_48 rfl (lv_at hl 0 rfl) ?_
    refine va_get (D := G.1) (ci := 5) (v := .int 0) (C := RX5) (T := TX5) (N := 23) hx hb hts in5 hown hK hP 0 rfl rfl 14 (by decide) (hts (.fieldLink RX5 73 "TraceDebuggerModel" "time" "I") (by decide +kernel)) (fun _ h9 => h9) rfl dX5_told_49 ?_
    exact kRetI (G := G) () hx hb hr hlocks hS dX5_told_52 (kSubP (wc := []) hP [] rfl) (hD.sub (ws' := []) [] (by decide) rfl) (by first | (rw [if_pos (by omega)]; done) | (rw [if_neg (by omega), if_pos (by omega)]; done) | (rw [if_neg (by omega), if_neg (by omega), if_pos (by omega)]; done) | (rw [if_neg (by omega), if_neg (by omega), if_neg (by omega), if_pos (by omega)]; done) | (rw [if_neg (by omega), if_neg (by omega), if_neg (by omega), if_neg (by omega)]; done))
  · refine lv_tableIn (off := 47) (tgt := 53) hx hb dX5_told_6 (by omega) (by omega) (by rw [w1]; rfl) (by decide) ?_
    refine lv_aload_n hx hb dX5_told_53 rfl (lv_at hl 0 rfl) ?_
    refine va_get (D := G.1) (ci := 5) (v := .int 1) (C := RX5) (T := TX5) (N := 23) hx hb hts in5 hown hK hP 0 rfl rfl 13 (by decide) (hts (.fieldLink RX5 70 "TraceDebuggerModel" "frames" "I") (by decide +kernel)) (fun _ h9 => h9) rfl dX5_told_54 ?_
    exact kRetI (G := G) () hx hb hr hlocks hS dX5_told_57 (kSubP (wc := []) hP [] rfl) (hD.sub (ws' := []) [] (by decide) rfl) (by first | (rw [if_pos (by omega)]; done) | (rw [if_neg (by omega), if_pos (by omega)]; done) | (rw [if_neg (by omega), if_neg (by omega), if_pos (by omega)]; done) | (rw [if_neg (by omega), if_neg (by omega), if_neg (by omega), if_pos (by omega)]; done) | (rw [if_neg (by omega), if_neg (by omega), if_neg (by omega), if_neg (by omega)]; done))
  · refine lv_tableIn (off := 52) (tgt := 58) hx hb dX5_told_6 (by omega) (by omega) (by rw [w1]; rfl) (by decide) ?_
    refine lv_aload_n hx hb dX5_told_58 rfl (lv_at hl 0 rfl) ?_
    refine va_get (D := G.1) (ci := 5) (v := .int 0) (C := RX5) (T := TX5) (N := 23) hx hb hts in5 hown hK hP 0 rfl rfl 16 (by decide) (hts (.fieldLink RX5 76 "TraceDebuggerModel" "outCount" "I") (by decide +kernel)) (fun _ h9 => h9) rfl dX5_told_59 ?_
    exact kRetI (G := G) () hx hb hr hlocks hS dX5_told_62 (kSubP (wc := []) hP [] rfl) (hD.sub (ws' := []) [] (by decide) rfl) (by first | (rw [if_pos (by omega)]; done) | (rw [if_neg (by omega), if_pos (by omega)]; done) | (rw [if_neg (by omega), if_neg (by omega), if_pos (by omega)]; done) | (rw [if_neg (by omega), if_neg (by omega), if_neg (by omega), if_pos (by omega)]; done) | (rw [if_neg (by omega), if_neg (by omega), if_neg (by omega), if_neg (by omega)]; done))
  · refine lv_tableIn (off := 57) (tgt := 63) hx hb dX5_told_6 (by omega) (by omega) (by rw [w1]; rfl) (by decide) ?_
    refine lv_aload_n hx hb dX5_told_63 rfl (lv_at hl 0 rfl) ?_
    refine va_get (D := G.1) (ci := 5) (v := .int 1) (C := RX5) (T := TX5) (N := 23) hx hb hts in5 hown hK hP 0 rfl rfl 21 (by decide) (hts (.fieldLink RX5 57 "TraceDebuggerModel" "keptCount" "I") (by decide +kernel)) (fun _ h9 => h9) rfl dX5_told_64 ?_
    exact kRetI (G := G) () hx hb hr hlocks hS dX5_told_67 (kSubP (wc := []) hP [] rfl) (hD.sub (ws' := []) [] (by decide) rfl) (by first | (rw [if_pos (by omega)]; done) | (rw [if_neg (by omega), if_pos (by omega)]; done) | (rw [if_neg (by omega), if_neg (by omega), if_pos (by omega)]; done) | (rw [if_neg (by omega), if_neg (by omega), if_neg (by omega), if_pos (by omega)]; done) | (rw [if_neg (by omega), if_neg (by omega), if_neg (by omega), if_neg (by omega)]; done))
  · refine lv_tableIn (off := 62) (tgt := 68) hx hb dX5_told_6 (by omega) (by omega) (by rw [w1]; rfl) (by decide) ?_
    refine lv_aload_n hx hb dX5_told_68 rfl (lv_at hl 0 rfl) ?_
    refine va_get (D := G.1) (ci := 5) (v := .int sp) (C := RX5) (T := TX5) (N := 23) hx hb hts in5 hown hK hP 0 rfl rfl 2 (by decide) (hts (.fieldLink RX5 54 "TraceDebuggerModel" "spacing" "I") (by decide +kernel)) (fun _ h9 => h9) rfl dX5_told_69 ?_
    exact kRetI (G := G) () hx hb hr hlocks hS dX5_told_72 (kSubP (wc := []) hP [] rfl) (hD.sub (ws' := []) [] (by decide) rfl) (by first | (rw [if_pos (by omega)]; done) | (rw [if_neg (by omega), if_pos (by omega)]; done) | (rw [if_neg (by omega), if_neg (by omega), if_pos (by omega)]; done) | (rw [if_neg (by omega), if_neg (by omega), if_neg (by omega), if_pos (by omega)]; done) | (rw [if_neg (by omega), if_neg (by omega), if_neg (by omega), if_neg (by omega)]; done))
  · refine lv_tableIn (off := 67) (tgt := 73) hx hb dX5_told_6 (by omega) (by omega) (by rw [w1]; rfl) (by decide) ?_
    refine lv_aload_n hx hb dX5_told_73 rfl (lv_at hl 0 rfl) ?_
    refine va_get (D := G.1) (ci := 5) (v := .int 0) (C := RX5) (T := TX5) (N := 23) hx hb hts in5 hown hK hP 0 rfl rfl 7 (by decide) (hts (.fieldLink RX5 93 "TraceDebuggerModel" "lines" "I") (by decide +kernel)) (fun _ h9 => h9) rfl dX5_told_74 ?_
    exact kRetI (G := G) () hx hb hr hlocks hS dX5_told_77 (kSubP (wc := []) hP [] rfl) (hD.sub (ws' := []) [] (by decide) rfl) (by first | (rw [if_pos (by omega)]; done) | (rw [if_neg (by omega), if_pos (by omega)]; done) | (rw [if_neg (by omega), if_neg (by omega), if_pos (by omega)]; done) | (rw [if_neg (by omega), if_neg (by omega), if_neg (by omega), if_pos (by omega)]; done) | (rw [if_neg (by omega), if_neg (by omega), if_neg (by omega), if_neg (by omega)]; done))
  · refine lv_tableIn (off := 72) (tgt := 78) hx hb dX5_told_6 (by omega) (by omega) (by rw [w1]; rfl) (by decide) ?_
    refine lv_aload_n hx hb dX5_told_78 rfl (lv_at hl 0 rfl) ?_
    refine va_get (D := G.1) (ci := 5) (v := .int 0) (C := RX5) (T := TX5) (N := 23) hx hb hts in5 hown hK hP 0 rfl rfl 18 (by decide) (hts (.fieldLink RX5 63 "TraceDebuggerModel" "trapped" "Z") (by decide +kernel)) (fun _ h9 => h9) rfl dX5_told_79 ?_
    refine lv_if_eq (tgt := 89) hx hb dX5_told_82 (by decide) (fun _ => ?_) (fun c9 => absurd c9 (by decide))
    refine lv_aload_n hx hb dX5_told_89 rfl (lv_at hl 0 rfl) ?_
    refine va_get (D := G.1) (ci := 5) (v := .int 0) (C := RX5) (T := TX5) (N := 23) hx hb hts in5 hown hK hP 0 rfl rfl 17 (by decide) (hts (.fieldLink RX5 79 "TraceDebuggerModel" "ended" "Z") (by decide +kernel)) (fun _ h9 => h9) rfl dX5_told_90 ?_
    refine lv_if_eq (tgt := 100) hx hb dX5_told_93 (by decide) (fun _ => ?_) (fun c9 => absurd c9 (by decide))
    refine lv_iconst (v := 0) hx hb dX5_told_100 (by decide) ?_
    exact kRetI (G := G) () hx hb hr hlocks hS dX5_told_101 (kSubP (wc := []) hP [] rfl) (hD.sub (ws' := []) [] (by decide) rfl) (by first | (rw [if_pos (by omega)]; done) | (rw [if_neg (by omega), if_pos (by omega)]; done) | (rw [if_neg (by omega), if_neg (by omega), if_pos (by omega)]; done) | (rw [if_neg (by omega), if_neg (by omega), if_neg (by omega), if_pos (by omega)]; done) | (rw [if_neg (by omega), if_neg (by omega), if_neg (by omega), if_neg (by omega)]; done))
  · refine lv_tableOut (tgt := 102) hx hb dX5_told_6 w1 (by decide) ?_
    refine lv_iconst (v := (-1)) hx hb dX5_told_102 (by decide) ?_
    exact kRetI (G := G) () hx hb hr hlocks hS dX5_told_103 (kSubP (wc := []) hP [] rfl) (hD.sub (ws' := []) [] (by decide) rfl) (by first | (rw [if_pos (by omega)]; done) | (rw [if_neg (by omega), if_pos (by omega)]; done) | (rw [if_neg (by omega), if_neg (by omega), if_pos (by omega)]; done) | (rw [if_neg (by omega), if_neg (by omega), if_neg (by omega), if_pos (by omega)]; done) | (rw [if_neg (by omega), if_neg (by omega), if_neg (by omega), if_neg (by omega)]; done))

set_option maxHeartbeats 4000000 in
set_option maxRecDepth 100000 in
theorem c_X5_clear (l : Launch) (G : gG) (sz : Nat) (q : Nat → Nat) (sp : Int32)  : Met l yX5_clear wsX5_clear { frames := 2, cells := 0, slots := 0, locals := 41 } (kPc G [.ref (q 0)] [kO (q 0) 5 [.int 0, .int sp, .int sp, .ref (q 1), .ref (q 2), .ref (q 3), .ref (q 4), .int 0, .ref (q 5), .ref (q 6), .ref (q 7), .ref (q 8), .ref (q 9), .int 1, .int 0, .ref (q 10), .int 0, .int 0, .int 0, .int (-1), .ref (q 11), .int 1, .int 0], kI (q 6) (G.2 0) 64 (fun _ => 0), kI (q 5) (G.2 1) 64 (fun _ => 0), kI (q 7) (G.2 0) 64 (fun _ => 0), kI (q 8) (G.2 0) 128 (fun _ => 0), kI (q 9) (G.2 0) 16 (fun _ => 0), kI (q 11) (G.2 0) 8 (fun _ => 0)] sz (fun _ => True)) (kQv G (S := Unit) (fun _ => True) (fun _ => []) (va_A [kO (q 0) 5 [.int 0, .int sp, .int sp, .ref (q 1), .ref (q 2), .ref (q 3), .ref (q 4), .int 0, .ref (q 5), .ref (q 6), .ref (q 7), .ref (q 8), .ref (q 9), .int 1, .int 0, .ref (q 10), .int 0, .int 0, .int 0, .int (-1), .ref (q 11), .int 1, .int 0], kI (q 6) (G.2 0) 64 (fun _ => 0), kI (q 5) (G.2 1) 64 (fun _ => 0), kI (q 7) (G.2 0) 64 (fun _ => 0), kI (q 8) (G.2 0) 128 (fun _ => 0), kI (q 9) (G.2 0) 16 (fun _ => 0), kI (q 11) (G.2 0) 8 (fun _ => 0)] sz)) 0 0 (va_A [kO (q 0) 5 [.int 0, .int sp, .int sp, .ref (q 1), .ref (q 2), .ref (q 3), .ref (q 4), .int 0, .ref (q 5), .ref (q 6), .ref (q 7), .ref (q 8), .ref (q 9), .int 1, .int 0, .ref (q 10), .int 0, .int 0, .int 0, .int (-1), .ref (q 11), .int 1, .int 0], kI (q 6) (G.2 0) 64 (fun _ => 0), kI (q 5) (G.2 1) 64 (fun _ => 0), kI (q 7) (G.2 0) 64 (fun _ => 0), kI (q 8) (G.2 0) 128 (fun _ => 0), kI (q 9) (G.2 0) 16 (fun _ => 0), kI (q 11) (G.2 0) 8 (fun _ => 0)] sz) := by
  refine kBeg (Qc := fun A => kQv G (S := Unit) (fun _ => True) (fun _ => []) A) (by decide) rfl (Nat.le_of_ble_eq_true rfl) ?_
  intro A p e s m below meth c ls H locs hx hb hr hts hown hlocks hnm hml hsz hP hK hD hZ hA hS hl
  have hown : s.vm.findClass RX5 = some m.cls := hown
  have hl : lv_has ls 2 [(0, .ref (q 0))] := hl
  have in5 : ∀ w ∈ wsX50, w ∈ wsX5_clear := by decide +kernel
  have kc0 : (0 : Int32).toInt = 0 := by decide
  have kc1 : (1 : Int32).toInt = 1 := by decide
  have kc64 : (64 : Int32).toInt = 64 := by decide
  refine lv_aload_n hx hb dX5_clear_0 rfl (lv_at hl 0 rfl) ?_
  refine lv_iconst (v := 0) hx hb dX5_clear_1 (by decide) ?_
  refine va_put (D := G.1) (ci := 5) (v := .int 0) (ty := .int) (C := RX5) (T := TX5) (N := 23) hx hb hts in5 tyX5 tyX5_ok nmX5 hown hK hP hD hS 0 rfl rfl 0 (by decide) (hts (.fieldLink RX5 51 "TraceDebuggerModel" "code" "I") (by decide +kernel)) (fun _ h9 => h9) rfl (by decide +kernel) rfl rfl (Nat.le_of_ble_eq_true rfl) dX5_clear_2 (fun H locs hP hD hS => ?_)
  have hP : va_P G.1 vwCl [kO (q 0) 5 [.int 0, .int sp, .int sp, .ref (q 1), .ref (q 2), .ref (q 3), .ref (q 4), .int 0, .ref (q 5), .ref (q 6), .ref (q 7), .ref (q 8), .ref (q 9), .int 1, .int 0, .ref (q 10), .int 0, .int 0, .int 0, .int (-1), .ref (q 11), .int 1, .int 0], kI (q 6) (G.2 0) 64 (fun _ => 0), kI (q 5) (G.2 1) 64 (fun _ => 0), kI (q 7) (G.2 0) 64 (fun _ => 0), kI (q 8) (G.2 0) 128 (fun _ => 0), kI (q 9) (G.2 0) 16 (fun _ => 0), kI (q 11) (G.2 0) 8 (fun _ => 0)] H := hP
  have hD : va_D A [kO (q 0) 5 [.int 0, .int sp, .int sp, .ref (q 1), .ref (q 2), .ref (q 3), .ref (q 4), .int 0, .ref (q 5), .ref (q 6), .ref (q 7), .ref (q 8), .ref (q 9), .int 1, .int 0, .ref (q 10), .int 0, .int 0, .int 0, .int (-1), .ref (q 11), .int 1, .int 0], kI (q 6) (G.2 0) 64 (fun _ => 0), kI (q 5) (G.2 1) 64 (fun _ => 0), kI (q 7) (G.2 0) 64 (fun _ => 0), kI (q 8) (G.2 0) 128 (fun _ => 0), kI (q 9) (G.2 0) 16 (fun _ => 0), kI (q 11) (G.2 0) 8 (fun _ => 0)] := hD
  refine lv_aload_n hx hb dX5_clear_5 rfl (lv_at hl 0 rfl) ?_
  refine lv_iconst (v := 0) hx hb dX5_clear_6 (by decide) ?_
  refine va_put (D := G.1) (ci := 5) (v := .int 0) (ty := .int) (C := RX5) (T := TX5) (N := 23) hx hb hts in5 tyX5 tyX5_ok nmX5 hown hK hP hD hS 0 rfl rfl 7 (by decide) (hts (.fieldLink RX5 93 "TraceDebuggerModel" "lines" "I") (by decide +kernel)) (fun _ h9 => h9) rfl (by decide +kernel) rfl rfl (Nat.le_of_ble_eq_true rfl) dX5_clear_7 (fun H locs hP hD hS => ?_)
  have hP : va_P G.1 vwCl [kO (q 0) 5 [.int 0, .int sp, .int sp, .ref (q 1), .ref (q 2), .ref (q 3), .ref (q 4), .int 0, .ref (q 5), .ref (q 6), .ref (q 7), .ref (q 8), .ref (q 9), .int 1, .int 0, .ref (q 10), .int 0, .int 0, .int 0, .int (-1), .ref (q 11), .int 1, .int 0], kI (q 6) (G.2 0) 64 (fun _ => 0), kI (q 5) (G.2 1) 64 (fun _ => 0), kI (q 7) (G.2 0) 64 (fun _ => 0), kI (q 8) (G.2 0) 128 (fun _ => 0), kI (q 9) (G.2 0) 16 (fun _ => 0), kI (q 11) (G.2 0) 8 (fun _ => 0)] H := hP
  have hD : va_D A [kO (q 0) 5 [.int 0, .int sp, .int sp, .ref (q 1), .ref (q 2), .ref (q 3), .ref (q 4), .int 0, .ref (q 5), .ref (q 6), .ref (q 7), .ref (q 8), .ref (q 9), .int 1, .int 0, .ref (q 10), .int 0, .int 0, .int 0, .int (-1), .ref (q 11), .int 1, .int 0], kI (q 6) (G.2 0) 64 (fun _ => 0), kI (q 5) (G.2 1) 64 (fun _ => 0), kI (q 7) (G.2 0) 64 (fun _ => 0), kI (q 8) (G.2 0) 128 (fun _ => 0), kI (q 9) (G.2 0) 16 (fun _ => 0), kI (q 11) (G.2 0) 8 (fun _ => 0)] := hD
  refine lv_iconst (v := 0) hx hb dX5_clear_10 (by decide) ?_
  refine lv_istore_n (lv' := [(1, .int 0), (0, .ref (q 0))]) hx hb dX5_clear_11 rfl hl (by decide) rfl (fun ls hl => ?_)
  have loop12 : ∀ (n : Nat) (k : Int32) (H : Heap) (locs : List Loc) (ls : Array Slot), (0 ≤ k.toInt) → (k.toInt ≤ 64) → (64 - k.toInt).toNat < n → va_P G.1 vwCl [kO (q 0) 5 [.int 0, .int sp, .int sp, .ref (q 1), .ref (q 2), .ref (q 3), .ref (q 4), .int 0, .ref (q 5), .ref (q 6), .ref (q 7), .ref (q 8), .ref (q 9), .int 1, .int 0, .ref (q 10), .int 0, .int 0, .int 0, .int (-1), .ref (q 11), .int 1, .int 0], kI (q 6) (G.2 0) 64 (fun _ => 0), kI (q 5) (G.2 1) 64 (fun _ => 0), kI (q 7) (G.2 0) 64 (fun _ => 0), kI (q 8) (G.2 0) 128 (fun _ => 0), kI (q 9) (G.2 0) 16 (fun _ => 0), kI (q 11) (G.2 0) 8 (fun _ => 0)] H → va_D A [kO (q 0) 5 [.int 0, .int sp, .int sp, .ref (q 1), .ref (q 2), .ref (q 3), .ref (q 4), .int 0, .ref (q 5), .ref (q 6), .ref (q 7), .ref (q 8), .ref (q 9), .int 1, .int 0, .ref (q 10), .int 0, .int 0, .int 0, .int (-1), .ref (q 11), .int 1, .int 0], kI (q 6) (G.2 0) 64 (fun _ => 0), kI (q 5) (G.2 1) 64 (fun _ => 0), kI (q 7) (G.2 0) 64 (fun _ => 0), kI (q 8) (G.2 0) 128 (fun _ => 0), kI (q 9) (G.2 0) 16 (fun _ => 0), kI (q 11) (G.2 0) 8 (fun _ => 0)] → va_S A s.heap H locs → lv_has ls 2 [(1, .int k), (0, .ref (q 0))] → W p l e { frames := 2, cells := 0, slots := 0, locals := 41 } s m ([.ref (q 0)] : List Value).toArray below meth c H locs 0 0 (MQ below (kQv G (S := Unit) (fun _ => True) (fun _ => []) A) ([.ref (q 0)] : List Value).toArray s 0 0 A) (F0 m 12 ls []) := by
    intro n
    induction n with
    | zero =>
      intro k H locs ls hk0 hk1 hm
      exact absurd hm (Nat.not_lt_zero _)
    | succ n ih12 =>
      intro k H locs ls hk0 hk1 hm hP hD hS hl
      refine lv_iload_n hx hb dX5_clear_12 rfl (lv_at hl 0 rfl) ?_
      refine lv_bipush (v := 64) hx hb dX5_clear_13 (by decide) ?_
      refine lv_icmp_ge (tgt := 38) hx hb dX5_clear_15 (by decide) (fun c1 => ?_) (fun c1 => ?_)
      · have t1 := i_le.mp c1
        refine lv_aload_n hx hb dX5_clear_38 rfl (lv_at hl 1 rfl) ?_
        refine kCv (G := G) (ws := [kO (q 0) 5 [.int 0, .int sp, .int sp, .ref (q 1), .ref (q 2), .ref (q 3), .ref (q 4), .int 0, .ref (q 5), .ref (q 6), .ref (q 7), .ref (q 8), .ref (q 9), .int 1, .int 0, .ref (q 10), .int 0, .int 0, .int 0, .int (-1), .ref (q 11), .int 1, .int 0], kI (q 6) (G.2 0) 64 (fun _ => 0), kI (q 5) (G.2 1) 64 (fun _ => 0), kI (q 7) (G.2 0) 64 (fun _ => 0), kI (q 8) (G.2 0) 128 (fun _ => 0), kI (q 9) (G.2 0) 16 (fun _ => 0), kI (q 11) (G.2 0) 8 (fun _ => 0)]) (wr := [kI (q 5) (G.2 1) 64 (fun _ => 0)]) (va_runV (As := []) (rest := []) ⟨hx, hb, hml, hown, hts⟩ (c_X5_anew l G H.size q sp 0 0 1 (-1) sp 1 (fun _ => 0) ) (cwV 0 hts gX5_clear_X5_anew rfl rfl rfl (by decide +kernel) ⟨Nat.le_of_ble_eq_true rfl, Nat.le_of_ble_eq_true rfl⟩) (kPreV (va_recv hK hP (ci := 5) (q0 := 0) rfl rfl) kZ0 kZt hK hP hD [0, 1, 3, 4, 5, 6] rfl (by decide)) rfl rfl hl.1 rfl (lv_room (Nat.le_of_ble_eq_true rfl)) dX5_clear_39 ⟨Nat.le_of_ble_eq_true rfl, Nat.le_of_ble_eq_true rfl⟩) hP hD hS hA [0, 1, 3, 4, 5, 6] [2] rfl rfl (by decide) (by decide) (fun u2 H locs hw4 hP hD hS => ?_)
        obtain ⟨fc5, rfl⟩ : ∃ z, z = u2 := ⟨_, rfl⟩
        try dsimp only at hw4
        have hP : va_P G.1 vwCl [kI (q 5) (G.2 1) 64 (fun _ => 0), kO (q 0) 5 [.int 0, .int sp, .int sp, .ref (q 1), .ref (q 2), .ref (q 3), .ref (q 4), .int 0, .ref (q 5), .ref (q 6), .ref (q 7), .ref (q 8), .ref (q 9), .int 1, .int 0, .ref (q 10), .int 0, .int 0, .int 0, .int (-1), .ref (q 11), .int 1, .int 0], kI (q 6) (G.2 0) 64 (fun _ => 0), kI (q 7) (G.2 0) 64 fc5, kI (q 8) (G.2 0) 128 (fun _ => 0), kI (q 9) (G.2 0) 16 (fun _ => 0), kI (q 11) (G.2 0) 8 (fun _ => 0)] H := hP
        have hD : va_D A [kI (q 5) (G.2 1) 64 (fun _ => 0), kO (q 0) 5 [.int 0, .int sp, .int sp, .ref (q 1), .ref (q 2), .ref (q 3), .ref (q 4), .int 0, .ref (q 5), .ref (q 6), .ref (q 7), .ref (q 8), .ref (q 9), .int 1, .int 0, .ref (q 10), .int 0, .int 0, .int 0, .int (-1), .ref (q 11), .int 1, .int 0], kI (q 6) (G.2 0) 64 (fun _ => 0), kI (q 7) (G.2 0) 64 fc5, kI (q 8) (G.2 0) 128 (fun _ => 0), kI (q 9) (G.2 0) 16 (fun _ => 0), kI (q 11) (G.2 0) 8 (fun _ => 0)] := hD
        exact kRetV (G := G) () hx hb hr hlocks hS dX5_clear_42 (kSubP (wc := []) hP [] rfl) (hD.sub (ws' := []) [] (by decide) rfl) (by trivial)
      · have t1 := i_nle.mp c1
        refine lv_aload_n hx hb dX5_clear_18 rfl (lv_at hl 1 rfl) ?_
        refine va_get (D := G.1) (ci := 5) (v := .ref (q 6)) (C := RX5) (T := TX5) (N := 23) hx hb hts in5 hown hK hP 0 rfl rfl 9 (by decide) (hts (.fieldLink RX5 26 "TraceDebuggerModel" "base" "[I") (by decide +kernel)) (fun _ h9 => h9) rfl dX5_clear_19 ?_
        refine lv_iload_n hx hb dX5_clear_22 rfl (lv_at hl 0 rfl) ?_
        refine lv_iconst (v := 0) hx hb dX5_clear_23 (by decide) ?_
        refine va_iast (D := G.1) hx hb hK hP hD hS 1 0 rfl rfl (vp_in_iff.mpr (by omega)) dX5_clear_24 (fun H locs hP hD hS => ?_)
        rw [kUpd0] at hP hD
        have hP : va_P G.1 vwCl [kO (q 0) 5 [.int 0, .int sp, .int sp, .ref (q 1), .ref (q 2), .ref (q 3), .ref (q 4), .int 0, .ref (q 5), .ref (q 6), .ref (q 7), .ref (q 8), .ref (q 9), .int 1, .int 0, .ref (q 10), .int 0, .int 0, .int 0, .int (-1), .ref (q 11), .int 1, .int 0], kI (q 6) (G.2 0) 64 (fun _ => 0), kI (q 5) (G.2 1) 64 (fun _ => 0), kI (q 7) (G.2 0) 64 (fun _ => 0), kI (q 8) (G.2 0) 128 (fun _ => 0), kI (q 9) (G.2 0) 16 (fun _ => 0), kI (q 11) (G.2 0) 8 (fun _ => 0)] H := hP
        have hD : va_D A [kO (q 0) 5 [.int 0, .int sp, .int sp, .ref (q 1), .ref (q 2), .ref (q 3), .ref (q 4), .int 0, .ref (q 5), .ref (q 6), .ref (q 7), .ref (q 8), .ref (q 9), .int 1, .int 0, .ref (q 10), .int 0, .int 0, .int 0, .int (-1), .ref (q 11), .int 1, .int 0], kI (q 6) (G.2 0) 64 (fun _ => 0), kI (q 5) (G.2 1) 64 (fun _ => 0), kI (q 7) (G.2 0) 64 (fun _ => 0), kI (q 8) (G.2 0) 128 (fun _ => 0), kI (q 9) (G.2 0) 16 (fun _ => 0), kI (q 11) (G.2 0) 8 (fun _ => 0)] := hD
        refine lv_aload_n hx hb dX5_clear_25 rfl (lv_at hl 1 rfl) ?_
        refine va_get (D := G.1) (ci := 5) (v := .ref (q 5)) (C := RX5) (T := TX5) (N := 23) hx hb hts in5 hown hK hP 0 rfl rfl 8 (by decide) (hts (.fieldLink RX5 23 "TraceDebuggerModel" "watches" "[Z") (by decide +kernel)) (fun _ h9 => h9) rfl dX5_clear_26 ?_
        refine lv_iload_n hx hb dX5_clear_29 rfl (lv_at hl 0 rfl) ?_
        refine lv_iconst (v := 0) hx hb dX5_clear_30 (by decide) ?_
        refine va_zast (D := G.1) hx hb hK hP hD hS 2 1 rfl rfl (vp_in_iff.mpr (by omega)) dX5_clear_31 (fun H locs hP hD hS => ?_)
        rw [kUpd0z] at hP hD
        have hP : va_P G.1 vwCl [kO (q 0) 5 [.int 0, .int sp, .int sp, .ref (q 1), .ref (q 2), .ref (q 3), .ref (q 4), .int 0, .ref (q 5), .ref (q 6), .ref (q 7), .ref (q 8), .ref (q 9), .int 1, .int 0, .ref (q 10), .int 0, .int 0, .int 0, .int (-1), .ref (q 11), .int 1, .int 0], kI (q 6) (G.2 0) 64 (fun _ => 0), kI (q 5) (G.2 1) 64 (fun _ => 0), kI (q 7) (G.2 0) 64 (fun _ => 0), kI (q 8) (G.2 0) 128 (fun _ => 0), kI (q 9) (G.2 0) 16 (fun _ => 0), kI (q 11) (G.2 0) 8 (fun _ => 0)] H := hP
        have hD : va_D A [kO (q 0) 5 [.int 0, .int sp, .int sp, .ref (q 1), .ref (q 2), .ref (q 3), .ref (q 4), .int 0, .ref (q 5), .ref (q 6), .ref (q 7), .ref (q 8), .ref (q 9), .int 1, .int 0, .ref (q 10), .int 0, .int 0, .int 0, .int (-1), .ref (q 11), .int 1, .int 0], kI (q 6) (G.2 0) 64 (fun _ => 0), kI (q 5) (G.2 1) 64 (fun _ => 0), kI (q 7) (G.2 0) 64 (fun _ => 0), kI (q 8) (G.2 0) 128 (fun _ => 0), kI (q 9) (G.2 0) 16 (fun _ => 0), kI (q 11) (G.2 0) 8 (fun _ => 0)] := hD
        refine lv_iinc (v := (k + 1)) (lv' := [(1, .int (k + 1)), (0, .ref (q 0))]) hx hb dX5_clear_32 hl (k := 0) rfl rfl (by decide) rfl (fun ls hl => ?_)
        refine lv_goto (tgt := 12) hx hb dX5_clear_35 (by decide) ?_
        have a9 : (k + 1).toInt = k.toInt + (1 : Int32).toInt := i_add (by omega) (by omega)
        exact ih12 (k + 1) H locs ls (by omega) (by omega) (by omega) (kSubP (wc := [kO (q 0) 5 [.int 0, .int sp, .int sp, .ref (q 1), .ref (q 2), .ref (q 3), .ref (q 4), .int 0, .ref (q 5), .ref (q 6), .ref (q 7), .ref (q 8), .ref (q 9), .int 1, .int 0, .ref (q 10), .int 0, .int 0, .int 0, .int (-1), .ref (q 11), .int 1, .int 0], kI (q 6) (G.2 0) 64 (fun _ => 0), kI (q 5) (G.2 1) 64 (fun _ => 0), kI (q 7) (G.2 0) 64 (fun _ => 0), kI (q 8) (G.2 0) 128 (fun _ => 0), kI (q 9) (G.2 0) 16 (fun _ => 0), kI (q 11) (G.2 0) 8 (fun _ => 0)]) hP [0, 1, 2, 3, 4, 5, 6] rfl) (hD.sub (ws' := [kO (q 0) 5 [.int 0, .int sp, .int sp, .ref (q 1), .ref (q 2), .ref (q 3), .ref (q 4), .int 0, .ref (q 5), .ref (q 6), .ref (q 7), .ref (q 8), .ref (q 9), .int 1, .int 0, .ref (q 10), .int 0, .int 0, .int 0, .int (-1), .ref (q 11), .int 1, .int 0], kI (q 6) (G.2 0) 64 (fun _ => 0), kI (q 5) (G.2 1) 64 (fun _ => 0), kI (q 7) (G.2 0) 64 (fun _ => 0), kI (q 8) (G.2 0) 128 (fun _ => 0), kI (q 9) (G.2 0) 16 (fun _ => 0), kI (q 11) (G.2 0) 8 (fun _ => 0)]) [0, 1, 2, 3, 4, 5, 6] (by decide) rfl) hS (lv_sub hl [0, 1] rfl)
  exact loop12 _ 0 H locs ls (by decide) (by decide) (Nat.lt_succ_self _) (kSubP (wc := [kO (q 0) 5 [.int 0, .int sp, .int sp, .ref (q 1), .ref (q 2), .ref (q 3), .ref (q 4), .int 0, .ref (q 5), .ref (q 6), .ref (q 7), .ref (q 8), .ref (q 9), .int 1, .int 0, .ref (q 10), .int 0, .int 0, .int 0, .int (-1), .ref (q 11), .int 1, .int 0], kI (q 6) (G.2 0) 64 (fun _ => 0), kI (q 5) (G.2 1) 64 (fun _ => 0), kI (q 7) (G.2 0) 64 (fun _ => 0), kI (q 8) (G.2 0) 128 (fun _ => 0), kI (q 9) (G.2 0) 16 (fun _ => 0), kI (q 11) (G.2 0) 8 (fun _ => 0)]) hP [0, 1, 2, 3, 4, 5, 6] rfl) (hD.sub (ws' := [kO (q 0) 5 [.int 0, .int sp, .int sp, .ref (q 1), .ref (q 2), .ref (q 3), .ref (q 4), .int 0, .ref (q 5), .ref (q 6), .ref (q 7), .ref (q 8), .ref (q 9), .int 1, .int 0, .ref (q 10), .int 0, .int 0, .int 0, .int (-1), .ref (q 11), .int 1, .int 0], kI (q 6) (G.2 0) 64 (fun _ => 0), kI (q 5) (G.2 1) 64 (fun _ => 0), kI (q 7) (G.2 0) 64 (fun _ => 0), kI (q 8) (G.2 0) 128 (fun _ => 0), kI (q 9) (G.2 0) 16 (fun _ => 0), kI (q 11) (G.2 0) 8 (fun _ => 0)]) [0, 1, 2, 3, 4, 5, 6] (by decide) rfl) hS (lv_sub hl [0, 1] rfl)
