set_option maxHeartbeats 4000000 in
set_option maxRecDepth 100000 in
theorem c_X5_init (l : Launch) (G : gG) (sz : Nat) (a : Nat) (x : Int32)  : Met l yX5_init wsX5_init { frames := 2, cells := 11, slots := 960, locals := 41 } (kPc G [.ref a, .int x] [kO a 5 [.int 0, .int 0, .int 0, .null, .null, .null, .null, .int 0, .null, .null, .null, .null, .null, .int 0, .int 0, .null, .int 0, .int 0, .int 0, .int 0, .null, .int 0, .int 0]] sz (fun _ => True)) (kQv G (S := (Nat → Nat)) (fun u => u 0 = a) (fun u => [kO (u 0) 5 [.int 0, .int (kSp x), .int (kSp x), .ref (u 1), .ref (u 2), .ref (u 3), .ref (u 4), .int 0, .ref (u 5), .ref (u 6), .ref (u 7), .ref (u 8), .ref (u 9), .int 1, .int 0, .ref (u 10), .int 0, .int 0, .int 0, .int (-1), .ref (u 11), .int 1, .int 0], kI (u 1) (G.2 0) 80 (fun _ => 0), kI (u 2) (G.2 0) 80 (fun _ => 0), kI (u 3) (G.2 0) 80 (fun _ => 0), kI (u 4) (G.2 1) 80 (fun _ => 0), kI (u 5) (G.2 1) 64 (fun _ => 0), kI (u 6) (G.2 0) 64 (fun _ => 0), kI (u 7) (G.2 0) 64 (fun _ => 0), kI (u 8) (G.2 0) 128 (fun _ => 0), kI (u 9) (G.2 0) 16 (fun _ => 0), kI (u 10) (G.2 0) 200 (fun _ => 0), kI (u 11) (G.2 0) 8 (fun _ => 0)]) (va_A [kO a 5 [.int 0, .int 0, .int 0, .null, .null, .null, .null, .int 0, .null, .null, .null, .null, .null, .int 0, .int 0, .null, .int 0, .int 0, .int 0, .int 0, .null, .int 0, .int 0]] sz)) 11 960 (va_A [kO a 5 [.int 0, .int 0, .int 0, .null, .null, .null, .null, .int 0, .null, .null, .null, .null, .null, .int 0, .int 0, .null, .int 0, .int 0, .int 0, .int 0, .null, .int 0, .int 0]] sz) := by
  refine kBeg (Qc := fun A => kQv G (S := (Nat → Nat)) (fun u => u 0 = a) (fun u => [kO (u 0) 5 [.int 0, .int (kSp x), .int (kSp x), .ref (u 1), .ref (u 2), .ref (u 3), .ref (u 4), .int 0, .ref (u 5), .ref (u 6), .ref (u 7), .ref (u 8), .ref (u 9), .int 1, .int 0, .ref (u 10), .int 0, .int 0, .int 0, .int (-1), .ref (u 11), .int 1, .int 0], kI (u 1) (G.2 0) 80 (fun _ => 0), kI (u 2) (G.2 0) 80 (fun _ => 0), kI (u 3) (G.2 0) 80 (fun _ => 0), kI (u 4) (G.2 1) 80 (fun _ => 0), kI (u 5) (G.2 1) 64 (fun _ => 0), kI (u 6) (G.2 0) 64 (fun _ => 0), kI (u 7) (G.2 0) 64 (fun _ => 0), kI (u 8) (G.2 0) 128 (fun _ => 0), kI (u 9) (G.2 0) 16 (fun _ => 0), kI (u 10) (G.2 0) 200 (fun _ => 0), kI (u 11) (G.2 0) 8 (fun _ => 0)]) A) (by decide) rfl (Nat.le_of_ble_eq_true rfl) ?_
  intro A p e s m below meth c ls H locs hx hb hr hts hown hlocks hnm hml hsz hP hK hD hZ hA hS hl
  have hown : s.vm.findClass RX5 = some m.cls := hown
  have hl : lv_has ls 2 [(0, .ref a), (1, .int x)] := hl
  have in5 : ∀ w ∈ wsX50, w ∈ wsX5_init := by decide +kernel
  have kc0 : (0 : Int32).toInt = 0 := by decide
  have kc1 : (1 : Int32).toInt = 1 := by decide
  have kc8 : (8 : Int32).toInt = 8 := by decide
  have kc16 : (16 : Int32).toInt = 16 := by decide
  have kc64 : (64 : Int32).toInt = 64 := by decide
  have kc80 : (80 : Int32).toInt = 80 := by decide
  have kc100 : (100 : Int32).toInt = 100 := by decide
  have kc128 : (128 : Int32).toInt = 128 := by decide
  have kc200 : (200 : Int32).toInt = 200 := by decide
  refine lv_aload_n hx hb dX5_init_0 rfl (lv_at hl 0 rfl) ?_
  refine W.objInit hx hb hown (hts (.methodLink RX5 1 objectInit) (by decide +kernel)) (hts (.instanceMethod objectInit) (by decide +kernel)) (hts (.code objectInit ⟨#[0xb1]⟩ 1 none) (by decide +kernel)) rfl (by rw [hml]; exact hl.1) rfl dX5_init_1 (Nat.le_of_ble_eq_true rfl) (Nat.le_of_ble_eq_true rfl) ?_
  refine W.eq (g2 := F0 m 4 ls []) rfl ?_
  refine lv_aload_n hx hb dX5_init_4 rfl (lv_at hl 0 rfl) ?_
  refine lv_bipush (v := 80) hx hb dX5_init_5 (by decide) ?_
  refine kNewI (N' := 80) hx hb (hts (.arrayClass .int) (by decide +kernel)) hK hP hD hS hA (by decide) (by decide) (by decide) (Nat.le_of_ble_eq_true rfl) (Nat.le_of_ble_eq_true rfl) dX5_init_7 (fun q1 H hP hD hS => ?_)
  have hP : va_P G.1 vwCl [kO a 5 [.int 0, .int 0, .int 0, .null, .null, .null, .null, .int 0, .null, .null, .null, .null, .null, .int 0, .int 0, .null, .int 0, .int 0, .int 0, .int 0, .null, .int 0, .int 0], kI q1 (G.2 0) 80 (fun _ => 0)] H := hP
  have hD : va_D A [kO a 5 [.int 0, .int 0, .int 0, .null, .null, .null, .null, .int 0, .null, .null, .null, .null, .null, .int 0, .int 0, .null, .int 0, .int 0, .int 0, .int 0, .null, .int 0, .int 0], kI q1 (G.2 0) 80 (fun _ => 0)] := hD
  refine W.widen (k := 1) (n := 80) (by omega) (by omega) ?_
  refine va_putF (D := G.1) (ci := 5) (v := .ref q1) (ty := (.array .int)) (C := RX5) (T := TX5) (N := 23) hx hb hts in5 tyX5 tyX5_ok nmX5 hown hK hP hD hS 0 rfl rfl 3 (by decide) (hts (.fieldLink RX5 7 "TraceDebuggerModel" "operations" "[I") (by decide +kernel)) (fun _ h9 => h9) rfl hnm rfl (by decide +kernel) rfl rfl (Nat.le_of_ble_eq_true rfl) dX5_init_9 (fun H locs hP hD hS => ?_)
  have hP : va_P G.1 vwCl [kO a 5 [.int 0, .int 0, .int 0, .ref q1, .null, .null, .null, .int 0, .null, .null, .null, .null, .null, .int 0, .int 0, .null, .int 0, .int 0, .int 0, .int 0, .null, .int 0, .int 0], kI q1 (G.2 0) 80 (fun _ => 0)] H := hP
  have hD : va_D A [kO a 5 [.int 0, .int 0, .int 0, .ref q1, .null, .null, .null, .int 0, .null, .null, .null, .null, .null, .int 0, .int 0, .null, .int 0, .int 0, .int 0, .int 0, .null, .int 0, .int 0], kI q1 (G.2 0) 80 (fun _ => 0)] := hD
  refine lv_aload_n hx hb dX5_init_12 rfl (lv_at hl 0 rfl) ?_
  refine lv_bipush (v := 80) hx hb dX5_init_13 (by decide) ?_
  refine kNewI (N' := 80) hx hb (hts (.arrayClass .int) (by decide +kernel)) hK hP hD hS hA (by decide) (by decide) (by decide) (Nat.le_of_ble_eq_true rfl) (Nat.le_of_ble_eq_true rfl) dX5_init_15 (fun q2 H hP hD hS => ?_)
  have hP : va_P G.1 vwCl [kO a 5 [.int 0, .int 0, .int 0, .ref q1, .null, .null, .null, .int 0, .null, .null, .null, .null, .null, .int 0, .int 0, .null, .int 0, .int 0, .int 0, .int 0, .null, .int 0, .int 0], kI q1 (G.2 0) 80 (fun _ => 0), kI q2 (G.2 0) 80 (fun _ => 0)] H := hP
  have hD : va_D A [kO a 5 [.int 0, .int 0, .int 0, .ref q1, .null, .null, .null, .int 0, .null, .null, .null, .null, .null, .int 0, .int 0, .null, .int 0, .int 0, .int 0, .int 0, .null, .int 0, .int 0], kI q1 (G.2 0) 80 (fun _ => 0), kI q2 (G.2 0) 80 (fun _ => 0)] := hD
  refine W.widen (k := 2) (n := 160) (by omega) (by omega) ?_
  refine va_putF (D := G.1) (ci := 5) (v := .ref q2) (ty := (.array .int)) (C := RX5) (T := TX5) (N := 23) hx hb hts in5 tyX5 tyX5_ok nmX5 hown hK hP hD hS 0 rfl rfl 4 (by decide) (hts (.fieldLink RX5 13 "TraceDebuggerModel" "as" "[I") (by decide +kernel)) (fun _ h9 => h9) rfl hnm rfl (by decide +kernel) rfl rfl (Nat.le_of_ble_eq_true rfl) dX5_init_17 (fun H locs hP hD hS => ?_)
  have hP : va_P G.1 vwCl [kO a 5 [.int 0, .int 0, .int 0, .ref q1, .ref q2, .null, .null, .int 0, .null, .null, .null, .null, .null, .int 0, .int 0, .null, .int 0, .int 0, .int 0, .int 0, .null, .int 0, .int 0], kI q1 (G.2 0) 80 (fun _ => 0), kI q2 (G.2 0) 80 (fun _ => 0)] H := hP
  have hD : va_D A [kO a 5 [.int 0, .int 0, .int 0, .ref q1, .ref q2, .null, .null, .int 0, .null, .null, .null, .null, .null, .int 0, .int 0, .null, .int 0, .int 0, .int 0, .int 0, .null, .int 0, .int 0], kI q1 (G.2 0) 80 (fun _ => 0), kI q2 (G.2 0) 80 (fun _ => 0)] := hD
  refine lv_aload_n hx hb dX5_init_20 rfl (lv_at hl 0 rfl) ?_
  refine lv_bipush (v := 80) hx hb dX5_init_21 (by decide) ?_
  refine kNewI (N' := 80) hx hb (hts (.arrayClass .int) (by decide +kernel)) hK hP hD hS hA (by decide) (by decide) (by decide) (Nat.le_of_ble_eq_true rfl) (Nat.le_of_ble_eq_true rfl) dX5_init_23 (fun q3 H hP hD hS => ?_)
  have hP : va_P G.1 vwCl [kO a 5 [.int 0, .int 0, .int 0, .ref q1, .ref q2, .null, .null, .int 0, .null, .null, .null, .null, .null, .int 0, .int 0, .null, .int 0, .int 0, .int 0, .int 0, .null, .int 0, .int 0], kI q1 (G.2 0) 80 (fun _ => 0), kI q2 (G.2 0) 80 (fun _ => 0), kI q3 (G.2 0) 80 (fun _ => 0)] H := hP
  have hD : va_D A [kO a 5 [.int 0, .int 0, .int 0, .ref q1, .ref q2, .null, .null, .int 0, .null, .null, .null, .null, .null, .int 0, .int 0, .null, .int 0, .int 0, .int 0, .int 0, .null, .int 0, .int 0], kI q1 (G.2 0) 80 (fun _ => 0), kI q2 (G.2 0) 80 (fun _ => 0), kI q3 (G.2 0) 80 (fun _ => 0)] := hD
  refine W.widen (k := 3) (n := 240) (by omega) (by omega) ?_
  refine va_putF (D := G.1) (ci := 5) (v := .ref q3) (ty := (.array .int)) (C := RX5) (T := TX5) (N := 23) hx hb hts in5 tyX5 tyX5_ok nmX5 hown hK hP hD hS 0 rfl rfl 5 (by decide) (hts (.fieldLink RX5 16 "TraceDebuggerModel" "bs" "[I") (by decide +kernel)) (fun _ h9 => h9) rfl hnm rfl (by decide +kernel) rfl rfl (Nat.le_of_ble_eq_true rfl) dX5_init_25 (fun H locs hP hD hS => ?_)
  have hP : va_P G.1 vwCl [kO a 5 [.int 0, .int 0, .int 0, .ref q1, .ref q2, .ref q3, .null, .int 0, .null, .null, .null, .null, .null, .int 0, .int 0, .null, .int 0, .int 0, .int 0, .int 0, .null, .int 0, .int 0], kI q1 (G.2 0) 80 (fun _ => 0), kI q2 (G.2 0) 80 (fun _ => 0), kI q3 (G.2 0) 80 (fun _ => 0)] H := hP
  have hD : va_D A [kO a 5 [.int 0, .int 0, .int 0, .ref q1, .ref q2, .ref q3, .null, .int 0, .null, .null, .null, .null, .null, .int 0, .int 0, .null, .int 0, .int 0, .int 0, .int 0, .null, .int 0, .int 0], kI q1 (G.2 0) 80 (fun _ => 0), kI q2 (G.2 0) 80 (fun _ => 0), kI q3 (G.2 0) 80 (fun _ => 0)] := hD
  refine lv_aload_n hx hb dX5_init_28 rfl (lv_at hl 0 rfl) ?_
  refine lv_bipush (v := 80) hx hb dX5_init_29 (by decide) ?_
  refine kNewZ (N' := 80) hx hb (hts (.arrayClass .boolean) (by decide +kernel)) hK hP hD hS hA (by decide) (by decide) (by decide) (Nat.le_of_ble_eq_true rfl) (Nat.le_of_ble_eq_true rfl) dX5_init_31 (fun q4 H hP hD hS => ?_)
  have hP : va_P G.1 vwCl [kO a 5 [.int 0, .int 0, .int 0, .ref q1, .ref q2, .ref q3, .null, .int 0, .null, .null, .null, .null, .null, .int 0, .int 0, .null, .int 0, .int 0, .int 0, .int 0, .null, .int 0, .int 0], kI q1 (G.2 0) 80 (fun _ => 0), kI q2 (G.2 0) 80 (fun _ => 0), kI q3 (G.2 0) 80 (fun _ => 0), kI q4 (G.2 1) 80 (fun _ => 0)] H := hP
  have hD : va_D A [kO a 5 [.int 0, .int 0, .int 0, .ref q1, .ref q2, .ref q3, .null, .int 0, .null, .null, .null, .null, .null, .int 0, .int 0, .null, .int 0, .int 0, .int 0, .int 0, .null, .int 0, .int 0], kI q1 (G.2 0) 80 (fun _ => 0), kI q2 (G.2 0) 80 (fun _ => 0), kI q3 (G.2 0) 80 (fun _ => 0), kI q4 (G.2 1) 80 (fun _ => 0)] := hD
  refine W.widen (k := 4) (n := 320) (by omega) (by omega) ?_
  refine va_putF (D := G.1) (ci := 5) (v := .ref q4) (ty := (.array .boolean)) (C := RX5) (T := TX5) (N := 23) hx hb hts in5 tyX5 tyX5_ok nmX5 hown hK hP hD hS 0 rfl rfl 6 (by decide) (hts (.fieldLink RX5 19 "TraceDebuggerModel" "marks" "[Z") (by decide +kernel)) (fun _ h9 => h9) rfl hnm rfl (by decide +kernel) rfl rfl (Nat.le_of_ble_eq_true rfl) dX5_init_33 (fun H locs hP hD hS => ?_)
  have hP : va_P G.1 vwCl [kO a 5 [.int 0, .int 0, .int 0, .ref q1, .ref q2, .ref q3, .ref q4, .int 0, .null, .null, .null, .null, .null, .int 0, .int 0, .null, .int 0, .int 0, .int 0, .int 0, .null, .int 0, .int 0], kI q1 (G.2 0) 80 (fun _ => 0), kI q2 (G.2 0) 80 (fun _ => 0), kI q3 (G.2 0) 80 (fun _ => 0), kI q4 (G.2 1) 80 (fun _ => 0)] H := hP
  have hD : va_D A [kO a 5 [.int 0, .int 0, .int 0, .ref q1, .ref q2, .ref q3, .ref q4, .int 0, .null, .null, .null, .null, .null, .int 0, .int 0, .null, .int 0, .int 0, .int 0, .int 0, .null, .int 0, .int 0], kI q1 (G.2 0) 80 (fun _ => 0), kI q2 (G.2 0) 80 (fun _ => 0), kI q3 (G.2 0) 80 (fun _ => 0), kI q4 (G.2 1) 80 (fun _ => 0)] := hD
  refine lv_aload_n hx hb dX5_init_36 rfl (lv_at hl 0 rfl) ?_
  refine lv_bipush (v := 64) hx hb dX5_init_37 (by decide) ?_
  refine kNewZ (N' := 64) hx hb (hts (.arrayClass .boolean) (by decide +kernel)) hK hP hD hS hA (by decide) (by decide) (by decide) (Nat.le_of_ble_eq_true rfl) (Nat.le_of_ble_eq_true rfl) dX5_init_39 (fun q5 H hP hD hS => ?_)
  have hP : va_P G.1 vwCl [kO a 5 [.int 0, .int 0, .int 0, .ref q1, .ref q2, .ref q3, .ref q4, .int 0, .null, .null, .null, .null, .null, .int 0, .int 0, .null, .int 0, .int 0, .int 0, .int 0, .null, .int 0, .int 0], kI q1 (G.2 0) 80 (fun _ => 0), kI q2 (G.2 0) 80 (fun _ => 0), kI q3 (G.2 0) 80 (fun _ => 0), kI q4 (G.2 1) 80 (fun _ => 0), kI q5 (G.2 1) 64 (fun _ => 0)] H := hP
  have hD : va_D A [kO a 5 [.int 0, .int 0, .int 0, .ref q1, .ref q2, .ref q3, .ref q4, .int 0, .null, .null, .null, .null, .null, .int 0, .int 0, .null, .int 0, .int 0, .int 0, .int 0, .null, .int 0, .int 0], kI q1 (G.2 0) 80 (fun _ => 0), kI q2 (G.2 0) 80 (fun _ => 0), kI q3 (G.2 0) 80 (fun _ => 0), kI q4 (G.2 1) 80 (fun _ => 0), kI q5 (G.2 1) 64 (fun _ => 0)] := hD
  refine W.widen (k := 5) (n := 384) (by omega) (by omega) ?_
  refine va_putF (D := G.1) (ci := 5) (v := .ref q5) (ty := (.array .boolean)) (C := RX5) (T := TX5) (N := 23) hx hb hts in5 tyX5 tyX5_ok nmX5 hown hK hP hD hS 0 rfl rfl 8 (by decide) (hts (.fieldLink RX5 23 "TraceDebuggerModel" "watches" "[Z") (by decide +kernel)) (fun _ h9 => h9) rfl hnm rfl (by decide +kernel) rfl rfl (Nat.le_of_ble_eq_true rfl) dX5_init_41 (fun H locs hP hD hS => ?_)
  have hP : va_P G.1 vwCl [kO a 5 [.int 0, .int 0, .int 0, .ref q1, .ref q2, .ref q3, .ref q4, .int 0, .ref q5, .null, .null, .null, .null, .int 0, .int 0, .null, .int 0, .int 0, .int 0, .int 0, .null, .int 0, .int 0], kI q1 (G.2 0) 80 (fun _ => 0), kI q2 (G.2 0) 80 (fun _ => 0), kI q3 (G.2 0) 80 (fun _ => 0), kI q4 (G.2 1) 80 (fun _ => 0), kI q5 (G.2 1) 64 (fun _ => 0)] H := hP
  have hD : va_D A [kO a 5 [.int 0, .int 0, .int 0, .ref q1, .ref q2, .ref q3, .ref q4, .int 0, .ref q5, .null, .null, .null, .null, .int 0, .int 0, .null, .int 0, .int 0, .int 0, .int 0, .null, .int 0, .int 0], kI q1 (G.2 0) 80 (fun _ => 0), kI q2 (G.2 0) 80 (fun _ => 0), kI q3 (G.2 0) 80 (fun _ => 0), kI q4 (G.2 1) 80 (fun _ => 0), kI q5 (G.2 1) 64 (fun _ => 0)] := hD
  refine lv_aload_n hx hb dX5_init_44 rfl (lv_at hl 0 rfl) ?_
  refine lv_bipush (v := 64) hx hb dX5_init_45 (by decide) ?_
  refine kNewI (N' := 64) hx hb (hts (.arrayClass .int) (by decide +kernel)) hK hP hD hS hA (by decide) (by decide) (by decide) (Nat.le_of_ble_eq_true rfl) (Nat.le_of_ble_eq_true rfl) dX5_init_47 (fun q6 H hP hD hS => ?_)
  have hP : va_P G.1 vwCl [kO a 5 [.int 0, .int 0, .int 0, .ref q1, .ref q2, .ref q3, .ref q4, .int 0, .ref q5, .null, .null, .null, .null, .int 0, .int 0, .null, .int 0, .int 0, .int 0, .int 0, .null, .int 0, .int 0], kI q1 (G.2 0) 80 (fun _ => 0), kI q2 (G.2 0) 80 (fun _ => 0), kI q3 (G.2 0) 80 (fun _ => 0), kI q4 (G.2 1) 80 (fun _ => 0), kI q5 (G.2 1) 64 (fun _ => 0), kI q6 (G.2 0) 64 (fun _ => 0)] H := hP
  have hD : va_D A [kO a 5 [.int 0, .int 0, .int 0, .ref q1, .ref q2, .ref q3, .ref q4, .int 0, .ref q5, .null, .null, .null, .null, .int 0, .int 0, .null, .int 0, .int 0, .int 0, .int 0, .null, .int 0, .int 0], kI q1 (G.2 0) 80 (fun _ => 0), kI q2 (G.2 0) 80 (fun _ => 0), kI q3 (G.2 0) 80 (fun _ => 0), kI q4 (G.2 1) 80 (fun _ => 0), kI q5 (G.2 1) 64 (fun _ => 0), kI q6 (G.2 0) 64 (fun _ => 0)] := hD
  refine W.widen (k := 6) (n := 448) (by omega) (by omega) ?_
  refine va_putF (D := G.1) (ci := 5) (v := .ref q6) (ty := (.array .int)) (C := RX5) (T := TX5) (N := 23) hx hb hts in5 tyX5 tyX5_ok nmX5 hown hK hP hD hS 0 rfl rfl 9 (by decide) (hts (.fieldLink RX5 26 "TraceDebuggerModel" "base" "[I") (by decide +kernel)) (fun _ h9 => h9) rfl hnm rfl (by decide +kernel) rfl rfl (Nat.le_of_ble_eq_true rfl) dX5_init_49 (fun H locs hP hD hS => ?_)
  have hP : va_P G.1 vwCl [kO a 5 [.int 0, .int 0, .int 0, .ref q1, .ref q2, .ref q3, .ref q4, .int 0, .ref q5, .ref q6, .null, .null, .null, .int 0, .int 0, .null, .int 0, .int 0, .int 0, .int 0, .null, .int 0, .int 0], kI q1 (G.2 0) 80 (fun _ => 0), kI q2 (G.2 0) 80 (fun _ => 0), kI q3 (G.2 0) 80 (fun _ => 0), kI q4 (G.2 1) 80 (fun _ => 0), kI q5 (G.2 1) 64 (fun _ => 0), kI q6 (G.2 0) 64 (fun _ => 0)] H := hP
  have hD : va_D A [kO a 5 [.int 0, .int 0, .int 0, .ref q1, .ref q2, .ref q3, .ref q4, .int 0, .ref q5, .ref q6, .null, .null, .null, .int 0, .int 0, .null, .int 0, .int 0, .int 0, .int 0, .null, .int 0, .int 0], kI q1 (G.2 0) 80 (fun _ => 0), kI q2 (G.2 0) 80 (fun _ => 0), kI q3 (G.2 0) 80 (fun _ => 0), kI q4 (G.2 1) 80 (fun _ => 0), kI q5 (G.2 1) 64 (fun _ => 0), kI q6 (G.2 0) 64 (fun _ => 0)] := hD
  refine lv_aload_n hx hb dX5_init_52 rfl (lv_at hl 0 rfl) ?_
  refine lv_bipush (v := 64) hx hb dX5_init_53 (by decide) ?_
  refine kNewI (N' := 64) hx hb (hts (.arrayClass .int) (by decide +kernel)) hK hP hD hS hA (by decide) (by decide) (by decide) (Nat.le_of_ble_eq_true rfl) (Nat.le_of_ble_eq_true rfl) dX5_init_55 (fun q7 H hP hD hS => ?_)
  have hP : va_P G.1 vwCl [kO a 5 [.int 0, .int 0, .int 0, .ref q1, .ref q2, .ref q3, .ref q4, .int 0, .ref q5, .ref q6, .null, .null, .null, .int 0, .int 0, .null, .int 0, .int 0, .int 0, .int 0, .null, .int 0, .int 0], kI q1 (G.2 0) 80 (fun _ => 0), kI q2 (G.2 0) 80 (fun _ => 0), kI q3 (G.2 0) 80 (fun _ => 0), kI q4 (G.2 1) 80 (fun _ => 0), kI q5 (G.2 1) 64 (fun _ => 0), kI q6 (G.2 0) 64 (fun _ => 0), kI q7 (G.2 0) 64 (fun _ => 0)] H := hP
  have hD : va_D A [kO a 5 [.int 0, .int 0, .int 0, .ref q1, .ref q2, .ref q3, .ref q4, .int 0, .ref q5, .ref q6, .null, .null, .null, .int 0, .int 0, .null, .int 0, .int 0, .int 0, .int 0, .null, .int 0, .int 0], kI q1 (G.2 0) 80 (fun _ => 0), kI q2 (G.2 0) 80 (fun _ => 0), kI q3 (G.2 0) 80 (fun _ => 0), kI q4 (G.2 1) 80 (fun _ => 0), kI q5 (G.2 1) 64 (fun _ => 0), kI q6 (G.2 0) 64 (fun _ => 0), kI q7 (G.2 0) 64 (fun _ => 0)] := hD
  refine W.widen (k := 7) (n := 512) (by omega) (by omega) ?_
  refine va_putF (D := G.1) (ci := 5) (v := .ref q7) (ty := (.array .int)) (C := RX5) (T := TX5) (N := 23) hx hb hts in5 tyX5 tyX5_ok nmX5 hown hK hP hD hS 0 rfl rfl 10 (by decide) (hts (.fieldLink RX5 29 "TraceDebuggerModel" "cells" "[I") (by decide +kernel)) (fun _ h9 => h9) rfl hnm rfl (by decide +kernel) rfl rfl (Nat.le_of_ble_eq_true rfl) dX5_init_57 (fun H locs hP hD hS => ?_)
  have hP : va_P G.1 vwCl [kO a 5 [.int 0, .int 0, .int 0, .ref q1, .ref q2, .ref q3, .ref q4, .int 0, .ref q5, .ref q6, .ref q7, .null, .null, .int 0, .int 0, .null, .int 0, .int 0, .int 0, .int 0, .null, .int 0, .int 0], kI q1 (G.2 0) 80 (fun _ => 0), kI q2 (G.2 0) 80 (fun _ => 0), kI q3 (G.2 0) 80 (fun _ => 0), kI q4 (G.2 1) 80 (fun _ => 0), kI q5 (G.2 1) 64 (fun _ => 0), kI q6 (G.2 0) 64 (fun _ => 0), kI q7 (G.2 0) 64 (fun _ => 0)] H := hP
  have hD : va_D A [kO a 5 [.int 0, .int 0, .int 0, .ref q1, .ref q2, .ref q3, .ref q4, .int 0, .ref q5, .ref q6, .ref q7, .null, .null, .int 0, .int 0, .null, .int 0, .int 0, .int 0, .int 0, .null, .int 0, .int 0], kI q1 (G.2 0) 80 (fun _ => 0), kI q2 (G.2 0) 80 (fun _ => 0), kI q3 (G.2 0) 80 (fun _ => 0), kI q4 (G.2 1) 80 (fun _ => 0), kI q5 (G.2 1) 64 (fun _ => 0), kI q6 (G.2 0) 64 (fun _ => 0), kI q7 (G.2 0) 64 (fun _ => 0)] := hD
  refine lv_aload_n hx hb dX5_init_60 rfl (lv_at hl 0 rfl) ?_
  refine lv_sipush (v := 128) hx hb dX5_init_61 (by decide) ?_
  refine kNewI (N' := 128) hx hb (hts (.arrayClass .int) (by decide +kernel)) hK hP hD hS hA (by decide) (by decide) (by decide) (Nat.le_of_ble_eq_true rfl) (Nat.le_of_ble_eq_true rfl) dX5_init_64 (fun q8 H hP hD hS => ?_)
  have hP : va_P G.1 vwCl [kO a 5 [.int 0, .int 0, .int 0, .ref q1, .ref q2, .ref q3, .ref q4, .int 0, .ref q5, .ref q6, .ref q7, .null, .null, .int 0, .int 0, .null, .int 0, .int 0, .int 0, .int 0, .null, .int 0, .int 0], kI q1 (G.2 0) 80 (fun _ => 0), kI q2 (G.2 0) 80 (fun _ => 0), kI q3 (G.2 0) 80 (fun _ => 0), kI q4 (G.2 1) 80 (fun _ => 0), kI q5 (G.2 1) 64 (fun _ => 0), kI q6 (G.2 0) 64 (fun _ => 0), kI q7 (G.2 0) 64 (fun _ => 0), kI q8 (G.2 0) 128 (fun _ => 0)] H := hP
  have hD : va_D A [kO a 5 [.int 0, .int 0, .int 0, .ref q1, .ref q2, .ref q3, .ref q4, .int 0, .ref q5, .ref q6, .ref q7, .null, .null, .int 0, .int 0, .null, .int 0, .int 0, .int 0, .int 0, .null, .int 0, .int 0], kI q1 (G.2 0) 80 (fun _ => 0), kI q2 (G.2 0) 80 (fun _ => 0), kI q3 (G.2 0) 80 (fun _ => 0), kI q4 (G.2 1) 80 (fun _ => 0), kI q5 (G.2 1) 64 (fun _ => 0), kI q6 (G.2 0) 64 (fun _ => 0), kI q7 (G.2 0) 64 (fun _ => 0), kI q8 (G.2 0) 128 (fun _ => 0)] := hD
  refine W.widen (k := 8) (n := 640) (by omega) (by omega) ?_
  refine va_putF (D := G.1) (ci := 5) (v := .ref q8) (ty := (.array .int)) (C := RX5) (T := TX5) (N := 23) hx hb hts in5 tyX5 tyX5_ok nmX5 hown hK hP hD hS 0 rfl rfl 11 (by decide) (hts (.fieldLink RX5 32 "TraceDebuggerModel" "locals" "[I") (by decide +kernel)) (fun _ h9 => h9) rfl hnm rfl (by decide +kernel) rfl rfl (Nat.le_of_ble_eq_true rfl) dX5_init_66 (fun H locs hP hD hS => ?_)
  have hP : va_P G.1 vwCl [kO a 5 [.int 0, .int 0, .int 0, .ref q1, .ref q2, .ref q3, .ref q4, .int 0, .ref q5, .ref q6, .ref q7, .ref q8, .null, .int 0, .int 0, .null, .int 0, .int 0, .int 0, .int 0, .null, .int 0, .int 0], kI q1 (G.2 0) 80 (fun _ => 0), kI q2 (G.2 0) 80 (fun _ => 0), kI q3 (G.2 0) 80 (fun _ => 0), kI q4 (G.2 1) 80 (fun _ => 0), kI q5 (G.2 1) 64 (fun _ => 0), kI q6 (G.2 0) 64 (fun _ => 0), kI q7 (G.2 0) 64 (fun _ => 0), kI q8 (G.2 0) 128 (fun _ => 0)] H := hP
  have hD : va_D A [kO a 5 [.int 0, .int 0, .int 0, .ref q1, .ref q2, .ref q3, .ref q4, .int 0, .ref q5, .ref q6, .ref q7, .ref q8, .null, .int 0, .int 0, .null, .int 0, .int 0, .int 0, .int 0, .null, .int 0, .int 0], kI q1 (G.2 0) 80 (fun _ => 0), kI q2 (G.2 0) 80 (fun _ => 0), kI q3 (G.2 0) 80 (fun _ => 0), kI q4 (G.2 1) 80 (fun _ => 0), kI q5 (G.2 1) 64 (fun _ => 0), kI q6 (G.2 0) 64 (fun _ => 0), kI q7 (G.2 0) 64 (fun _ => 0), kI q8 (G.2 0) 128 (fun _ => 0)] := hD
  refine lv_aload_n hx hb dX5_init_69 rfl (lv_at hl 0 rfl) ?_
  refine lv_bipush (v := 16) hx hb dX5_init_70 (by decide) ?_
  refine kNewI (N' := 16) hx hb (hts (.arrayClass .int) (by decide +kernel)) hK hP hD hS hA (by decide) (by decide) (by decide) (Nat.le_of_ble_eq_true rfl) (Nat.le_of_ble_eq_true rfl) dX5_init_72 (fun q9 H hP hD hS => ?_)
  have hP : va_P G.1 vwCl [kO a 5 [.int 0, .int 0, .int 0, .ref q1, .ref q2, .ref q3, .ref q4, .int 0, .ref q5, .ref q6, .ref q7, .ref q8, .null, .int 0, .int 0, .null, .int 0, .int 0, .int 0, .int 0, .null, .int 0, .int 0], kI q1 (G.2 0) 80 (fun _ => 0), kI q2 (G.2 0) 80 (fun _ => 0), kI q3 (G.2 0) 80 (fun _ => 0), kI q4 (G.2 1) 80 (fun _ => 0), kI q5 (G.2 1) 64 (fun _ => 0), kI q6 (G.2 0) 64 (fun _ => 0), kI q7 (G.2 0) 64 (fun _ => 0), kI q8 (G.2 0) 128 (fun _ => 0), kI q9 (G.2 0) 16 (fun _ => 0)] H := hP
  have hD : va_D A [kO a 5 [.int 0, .int 0, .int 0, .ref q1, .ref q2, .ref q3, .ref q4, .int 0, .ref q5, .ref q6, .ref q7, .ref q8, .null, .int 0, .int 0, .null, .int 0, .int 0, .int 0, .int 0, .null, .int 0, .int 0], kI q1 (G.2 0) 80 (fun _ => 0), kI q2 (G.2 0) 80 (fun _ => 0), kI q3 (G.2 0) 80 (fun _ => 0), kI q4 (G.2 1) 80 (fun _ => 0), kI q5 (G.2 1) 64 (fun _ => 0), kI q6 (G.2 0) 64 (fun _ => 0), kI q7 (G.2 0) 64 (fun _ => 0), kI q8 (G.2 0) 128 (fun _ => 0), kI q9 (G.2 0) 16 (fun _ => 0)] := hD
  refine W.widen (k := 9) (n := 656) (by omega) (by omega) ?_
  refine va_putF (D := G.1) (ci := 5) (v := .ref q9) (ty := (.array .int)) (C := RX5) (T := TX5) (N := 23) hx hb hts in5 tyX5 tyX5_ok nmX5 hown hK hP hD hS 0 rfl rfl 12 (by decide) (hts (.fieldLink RX5 35 "TraceDebuggerModel" "comes" "[I") (by decide +kernel)) (fun _ h9 => h9) rfl hnm rfl (by decide +kernel) rfl rfl (Nat.le_of_ble_eq_true rfl) dX5_init_74 (fun H locs hP hD hS => ?_)
  have hP : va_P G.1 vwCl [kO a 5 [.int 0, .int 0, .int 0, .ref q1, .ref q2, .ref q3, .ref q4, .int 0, .ref q5, .ref q6, .ref q7, .ref q8, .ref q9, .int 0, .int 0, .null, .int 0, .int 0, .int 0, .int 0, .null, .int 0, .int 0], kI q1 (G.2 0) 80 (fun _ => 0), kI q2 (G.2 0) 80 (fun _ => 0), kI q3 (G.2 0) 80 (fun _ => 0), kI q4 (G.2 1) 80 (fun _ => 0), kI q5 (G.2 1) 64 (fun _ => 0), kI q6 (G.2 0) 64 (fun _ => 0), kI q7 (G.2 0) 64 (fun _ => 0), kI q8 (G.2 0) 128 (fun _ => 0), kI q9 (G.2 0) 16 (fun _ => 0)] H := hP
  have hD : va_D A [kO a 5 [.int 0, .int 0, .int 0, .ref q1, .ref q2, .ref q3, .ref q4, .int 0, .ref q5, .ref q6, .ref q7, .ref q8, .ref q9, .int 0, .int 0, .null, .int 0, .int 0, .int 0, .int 0, .null, .int 0, .int 0], kI q1 (G.2 0) 80 (fun _ => 0), kI q2 (G.2 0) 80 (fun _ => 0), kI q3 (G.2 0) 80 (fun _ => 0), kI q4 (G.2 1) 80 (fun _ => 0), kI q5 (G.2 1) 64 (fun _ => 0), kI q6 (G.2 0) 64 (fun _ => 0), kI q7 (G.2 0) 64 (fun _ => 0), kI q8 (G.2 0) 128 (fun _ => 0), kI q9 (G.2 0) 16 (fun _ => 0)] := hD
  refine lv_aload_n hx hb dX5_init_77 rfl (lv_at hl 0 rfl) ?_
  refine lv_sipush (v := 200) hx hb dX5_init_78 (by decide) ?_
  refine kNewI (N' := 200) hx hb (hts (.arrayClass .int) (by decide +kernel)) hK hP hD hS hA (by decide) (by decide) (by decide) (Nat.le_of_ble_eq_true rfl) (Nat.le_of_ble_eq_true rfl) dX5_init_81 (fun q10 H hP hD hS => ?_)
  have hP : va_P G.1 vwCl [kO a 5 [.int 0, .int 0, .int 0, .ref q1, .ref q2, .ref q3, .ref q4, .int 0, .ref q5, .ref q6, .ref q7, .ref q8, .ref q9, .int 0, .int 0, .null, .int 0, .int 0, .int 0, .int 0, .null, .int 0, .int 0], kI q1 (G.2 0) 80 (fun _ => 0), kI q2 (G.2 0) 80 (fun _ => 0), kI q3 (G.2 0) 80 (fun _ => 0), kI q4 (G.2 1) 80 (fun _ => 0), kI q5 (G.2 1) 64 (fun _ => 0), kI q6 (G.2 0) 64 (fun _ => 0), kI q7 (G.2 0) 64 (fun _ => 0), kI q8 (G.2 0) 128 (fun _ => 0), kI q9 (G.2 0) 16 (fun _ => 0), kI q10 (G.2 0) 200 (fun _ => 0)] H := hP
  have hD : va_D A [kO a 5 [.int 0, .int 0, .int 0, .ref q1, .ref q2, .ref q3, .ref q4, .int 0, .ref q5, .ref q6, .ref q7, .ref q8, .ref q9, .int 0, .int 0, .null, .int 0, .int 0, .int 0, .int 0, .null, .int 0, .int 0], kI q1 (G.2 0) 80 (fun _ => 0), kI q2 (G.2 0) 80 (fun _ => 0), kI q3 (G.2 0) 80 (fun _ => 0), kI q4 (G.2 1) 80 (fun _ => 0), kI q5 (G.2 1) 64 (fun _ => 0), kI q6 (G.2 0) 64 (fun _ => 0), kI q7 (G.2 0) 64 (fun _ => 0), kI q8 (G.2 0) 128 (fun _ => 0), kI q9 (G.2 0) 16 (fun _ => 0), kI q10 (G.2 0) 200 (fun _ => 0)] := hD
  refine W.widen (k := 10) (n := 856) (by omega) (by omega) ?_
  refine va_putF (D := G.1) (ci := 5) (v := .ref q10) (ty := (.array .int)) (C := RX5) (T := TX5) (N := 23) hx hb hts in5 tyX5 tyX5_ok nmX5 hown hK hP hD hS 0 rfl rfl 15 (by decide) (hts (.fieldLink RX5 38 "TraceDebuggerModel" "outs" "[I") (by decide +kernel)) (fun _ h9 => h9) rfl hnm rfl (by decide +kernel) rfl rfl (Nat.le_of_ble_eq_true rfl) dX5_init_83 (fun H locs hP hD hS => ?_)
  have hP : va_P G.1 vwCl [kO a 5 [.int 0, .int 0, .int 0, .ref q1, .ref q2, .ref q3, .ref q4, .int 0, .ref q5, .ref q6, .ref q7, .ref q8, .ref q9, .int 0, .int 0, .ref q10, .int 0, .int 0, .int 0, .int 0, .null, .int 0, .int 0], kI q1 (G.2 0) 80 (fun _ => 0), kI q2 (G.2 0) 80 (fun _ => 0), kI q3 (G.2 0) 80 (fun _ => 0), kI q4 (G.2 1) 80 (fun _ => 0), kI q5 (G.2 1) 64 (fun _ => 0), kI q6 (G.2 0) 64 (fun _ => 0), kI q7 (G.2 0) 64 (fun _ => 0), kI q8 (G.2 0) 128 (fun _ => 0), kI q9 (G.2 0) 16 (fun _ => 0), kI q10 (G.2 0) 200 (fun _ => 0)] H := hP
  have hD : va_D A [kO a 5 [.int 0, .int 0, .int 0, .ref q1, .ref q2, .ref q3, .ref q4, .int 0, .ref q5, .ref q6, .ref q7, .ref q8, .ref q9, .int 0, .int 0, .ref q10, .int 0, .int 0, .int 0, .int 0, .null, .int 0, .int 0], kI q1 (G.2 0) 80 (fun _ => 0), kI q2 (G.2 0) 80 (fun _ => 0), kI q3 (G.2 0) 80 (fun _ => 0), kI q4 (G.2 1) 80 (fun _ => 0), kI q5 (G.2 1) 64 (fun _ => 0), kI q6 (G.2 0) 64 (fun _ => 0), kI q7 (G.2 0) 64 (fun _ => 0), kI q8 (G.2 0) 128 (fun _ => 0), kI q9 (G.2 0) 16 (fun _ => 0), kI q10 (G.2 0) 200 (fun _ => 0)] := hD
  refine lv_aload_n hx hb dX5_init_86 rfl (lv_at hl 0 rfl) ?_
  refine lv_bipush (v := 8) hx hb dX5_init_87 (by decide) ?_
  refine kNewI (N' := 8) hx hb (hts (.arrayClass .int) (by decide +kernel)) hK hP hD hS hA (by decide) (by decide) (by decide) (Nat.le_of_ble_eq_true rfl) (Nat.le_of_ble_eq_true rfl) dX5_init_89 (fun q11 H hP hD hS => ?_)
  have hP : va_P G.1 vwCl [kO a 5 [.int 0, .int 0, .int 0, .ref q1, .ref q2, .ref q3, .ref q4, .int 0, .ref q5, .ref q6, .ref q7, .ref q8, .ref q9, .int 0, .int 0, .ref q10, .int 0, .int 0, .int 0, .int 0, .null, .int 0, .int 0], kI q1 (G.2 0) 80 (fun _ => 0), kI q2 (G.2 0) 80 (fun _ => 0), kI q3 (G.2 0) 80 (fun _ => 0), kI q4 (G.2 1) 80 (fun _ => 0), kI q5 (G.2 1) 64 (fun _ => 0), kI q6 (G.2 0) 64 (fun _ => 0), kI q7 (G.2 0) 64 (fun _ => 0), kI q8 (G.2 0) 128 (fun _ => 0), kI q9 (G.2 0) 16 (fun _ => 0), kI q10 (G.2 0) 200 (fun _ => 0), kI q11 (G.2 0) 8 (fun _ => 0)] H := hP
  have hD : va_D A [kO a 5 [.int 0, .int 0, .int 0, .ref q1, .ref q2, .ref q3, .ref q4, .int 0, .ref q5, .ref q6, .ref q7, .ref q8, .ref q9, .int 0, .int 0, .ref q10, .int 0, .int 0, .int 0, .int 0, .null, .int 0, .int 0], kI q1 (G.2 0) 80 (fun _ => 0), kI q2 (G.2 0) 80 (fun _ => 0), kI q3 (G.2 0) 80 (fun _ => 0), kI q4 (G.2 1) 80 (fun _ => 0), kI q5 (G.2 1) 64 (fun _ => 0), kI q6 (G.2 0) 64 (fun _ => 0), kI q7 (G.2 0) 64 (fun _ => 0), kI q8 (G.2 0) 128 (fun _ => 0), kI q9 (G.2 0) 16 (fun _ => 0), kI q10 (G.2 0) 200 (fun _ => 0), kI q11 (G.2 0) 8 (fun _ => 0)] := hD
  refine W.widen (k := 11) (n := 864) (by omega) (by omega) ?_
  refine va_putF (D := G.1) (ci := 5) (v := .ref q11) (ty := (.array .int)) (C := RX5) (T := TX5) (N := 23) hx hb hts in5 tyX5 tyX5_ok nmX5 hown hK hP hD hS 0 rfl rfl 20 (by decide) (hts (.fieldLink RX5 41 "TraceDebuggerModel" "keptTimes" "[I") (by decide +kernel)) (fun _ h9 => h9) rfl hnm rfl (by decide +kernel) rfl rfl (Nat.le_of_ble_eq_true rfl) dX5_init_91 (fun H locs hP hD hS => ?_)
  have hP : va_P G.1 vwCl [kO a 5 [.int 0, .int 0, .int 0, .ref q1, .ref q2, .ref q3, .ref q4, .int 0, .ref q5, .ref q6, .ref q7, .ref q8, .ref q9, .int 0, .int 0, .ref q10, .int 0, .int 0, .int 0, .int 0, .ref q11, .int 0, .int 0], kI q1 (G.2 0) 80 (fun _ => 0), kI q2 (G.2 0) 80 (fun _ => 0), kI q3 (G.2 0) 80 (fun _ => 0), kI q4 (G.2 1) 80 (fun _ => 0), kI q5 (G.2 1) 64 (fun _ => 0), kI q6 (G.2 0) 64 (fun _ => 0), kI q7 (G.2 0) 64 (fun _ => 0), kI q8 (G.2 0) 128 (fun _ => 0), kI q9 (G.2 0) 16 (fun _ => 0), kI q10 (G.2 0) 200 (fun _ => 0), kI q11 (G.2 0) 8 (fun _ => 0)] H := hP
  have hD : va_D A [kO a 5 [.int 0, .int 0, .int 0, .ref q1, .ref q2, .ref q3, .ref q4, .int 0, .ref q5, .ref q6, .ref q7, .ref q8, .ref q9, .int 0, .int 0, .ref q10, .int 0, .int 0, .int 0, .int 0, .ref q11, .int 0, .int 0], kI q1 (G.2 0) 80 (fun _ => 0), kI q2 (G.2 0) 80 (fun _ => 0), kI q3 (G.2 0) 80 (fun _ => 0), kI q4 (G.2 1) 80 (fun _ => 0), kI q5 (G.2 1) 64 (fun _ => 0), kI q6 (G.2 0) 64 (fun _ => 0), kI q7 (G.2 0) 64 (fun _ => 0), kI q8 (G.2 0) 128 (fun _ => 0), kI q9 (G.2 0) 16 (fun _ => 0), kI q10 (G.2 0) 200 (fun _ => 0), kI q11 (G.2 0) 8 (fun _ => 0)] := hD
  refine lv_aload_n hx hb dX5_init_94 rfl (lv_at hl 0 rfl) ?_
  refine lv_iload_n hx hb dX5_init_95 rfl (lv_at hl 1 rfl) ?_
  refine lv_iconst (v := 1) hx hb dX5_init_96 (by decide) ?_
  refine lv_icmp_ge (tgt := 104) hx hb dX5_init_97 (by decide) (fun c12 => ?_) (fun c12 => ?_)
  · have t12 := i_le.mp c12
    refine lv_iload_n hx hb dX5_init_104 rfl (lv_at hl 1 rfl) ?_
    refine lv_bipush (v := 100) hx hb dX5_init_105 (by decide) ?_
    refine lv_icmp_le (tgt := 115) hx hb dX5_init_107 (by decide) (fun c13 => ?_) (fun c13 => ?_)
    · have t13 := i_le.mp c13
      refine lv_iload_n hx hb dX5_init_115 rfl (lv_at hl 1 rfl) ?_
      refine kTop (y := kSp x) (by unfold kSp; first | (rw [if_pos (i_lt.mpr (by omega))]; done) | (rw [if_neg (i_nlt.mpr (by omega)), if_pos (i_lt.mpr (by omega))]; done) | (rw [if_neg (i_nlt.mpr (by omega)), if_neg (i_nlt.mpr (by omega))]; done)) ?_
      refine va_put (D := G.1) (ci := 5) (v := .int (kSp x)) (ty := .int) (C := RX5) (T := TX5) (N := 23) hx hb hts in5 tyX5 tyX5_ok nmX5 hown hK hP hD hS 0 rfl rfl 1 (by decide) (hts (.fieldLink RX5 44 "TraceDebuggerModel" "first" "I") (by decide +kernel)) (fun _ h9 => h9) rfl (by decide +kernel) rfl rfl (Nat.le_of_ble_eq_true rfl) dX5_init_116 (fun H locs hP hD hS => ?_)
      have hP : va_P G.1 vwCl [kO a 5 [.int 0, .int (kSp x), .int 0, .ref q1, .ref q2, .ref q3, .ref q4, .int 0, .ref q5, .ref q6, .ref q7, .ref q8, .ref q9, .int 0, .int 0, .ref q10, .int 0, .int 0, .int 0, .int 0, .ref q11, .int 0, .int 0], kI q1 (G.2 0) 80 (fun _ => 0), kI q2 (G.2 0) 80 (fun _ => 0), kI q3 (G.2 0) 80 (fun _ => 0), kI q4 (G.2 1) 80 (fun _ => 0), kI q5 (G.2 1) 64 (fun _ => 0), kI q6 (G.2 0) 64 (fun _ => 0), kI q7 (G.2 0) 64 (fun _ => 0), kI q8 (G.2 0) 128 (fun _ => 0), kI q9 (G.2 0) 16 (fun _ => 0), kI q10 (G.2 0) 200 (fun _ => 0), kI q11 (G.2 0) 8 (fun _ => 0)] H := hP
      have hD : va_D A [kO a 5 [.int 0, .int (kSp x), .int 0, .ref q1, .ref q2, .ref q3, .ref q4, .int 0, .ref q5, .ref q6, .ref q7, .ref q8, .ref q9, .int 0, .int 0, .ref q10, .int 0, .int 0, .int 0, .int 0, .ref q11, .int 0, .int 0], kI q1 (G.2 0) 80 (fun _ => 0), kI q2 (G.2 0) 80 (fun _ => 0), kI q3 (G.2 0) 80 (fun _ => 0), kI q4 (G.2 1) 80 (fun _ => 0), kI q5 (G.2 1) 64 (fun _ => 0), kI q6 (G.2 0) 64 (fun _ => 0), kI q7 (G.2 0) 64 (fun _ => 0), kI q8 (G.2 0) 128 (fun _ => 0), kI q9 (G.2 0) 16 (fun _ => 0), kI q10 (G.2 0) 200 (fun _ => 0), kI q11 (G.2 0) 8 (fun _ => 0)] := hD
      refine lv_aload_n hx hb dX5_init_119 rfl (lv_at hl 0 rfl) ?_
      obtain ⟨q, hq⟩ : ∃ z : Nat → Nat, z = (fun k => match k with | 0 => a | 1 => q1 | 2 => q2 | 3 => q3 | 4 => q4 | 5 => q5 | 6 => q6 | 7 => q7 | 8 => q8 | 9 => q9 | 10 => q10 | _ => q11) := ⟨_, rfl⟩
      obtain rfl : q 0 = a := congrFun hq 0
      obtain rfl : q 1 = q1 := congrFun hq 1
      obtain rfl : q 2 = q2 := congrFun hq 2
      obtain rfl : q 3 = q3 := congrFun hq 3
      obtain rfl : q 4 = q4 := congrFun hq 4
      obtain rfl : q 5 = q5 := congrFun hq 5
      obtain rfl : q 6 = q6 := congrFun hq 6
      obtain rfl : q 7 = q7 := congrFun hq 7
      obtain rfl : q 8 = q8 := congrFun hq 8
      obtain rfl : q 9 = q9 := congrFun hq 9
      obtain rfl : q 10 = q10 := congrFun hq 10
      obtain rfl : q 11 = q11 := congrFun hq 11
      clear hq
      have hP : va_P G.1 vwCl [kO (q 0) 5 [.int 0, .int (kSp x), .int 0, .ref (q 1), .ref (q 2), .ref (q 3), .ref (q 4), .int 0, .ref (q 5), .ref (q 6), .ref (q 7), .ref (q 8), .ref (q 9), .int 0, .int 0, .ref (q 10), .int 0, .int 0, .int 0, .int 0, .ref (q 11), .int 0, .int 0], kI (q 1) (G.2 0) 80 (fun _ => 0), kI (q 2) (G.2 0) 80 (fun _ => 0), kI (q 3) (G.2 0) 80 (fun _ => 0), kI (q 4) (G.2 1) 80 (fun _ => 0), kI (q 5) (G.2 1) 64 (fun _ => 0), kI (q 6) (G.2 0) 64 (fun _ => 0), kI (q 7) (G.2 0) 64 (fun _ => 0), kI (q 8) (G.2 0) 128 (fun _ => 0), kI (q 9) (G.2 0) 16 (fun _ => 0), kI (q 10) (G.2 0) 200 (fun _ => 0), kI (q 11) (G.2 0) 8 (fun _ => 0)] H := hP
      have hD : va_D A [kO (q 0) 5 [.int 0, .int (kSp x), .int 0, .ref (q 1), .ref (q 2), .ref (q 3), .ref (q 4), .int 0, .ref (q 5), .ref (q 6), .ref (q 7), .ref (q 8), .ref (q 9), .int 0, .int 0, .ref (q 10), .int 0, .int 0, .int 0, .int 0, .ref (q 11), .int 0, .int 0], kI (q 1) (G.2 0) 80 (fun _ => 0), kI (q 2) (G.2 0) 80 (fun _ => 0), kI (q 3) (G.2 0) 80 (fun _ => 0), kI (q 4) (G.2 1) 80 (fun _ => 0), kI (q 5) (G.2 1) 64 (fun _ => 0), kI (q 6) (G.2 0) 64 (fun _ => 0), kI (q 7) (G.2 0) 64 (fun _ => 0), kI (q 8) (G.2 0) 128 (fun _ => 0), kI (q 9) (G.2 0) 16 (fun _ => 0), kI (q 10) (G.2 0) 200 (fun _ => 0), kI (q 11) (G.2 0) 8 (fun _ => 0)] := hD
      have hl : lv_has ls 2 [(0, .ref (q 0)), (1, .int x)] := hl
      refine kCv (G := G) (ws := [kO (q 0) 5 [.int 0, .int (kSp x), .int 0, .ref (q 1), .ref (q 2), .ref (q 3), .ref (q 4), .int 0, .ref (q 5), .ref (q 6), .ref (q 7), .ref (q 8), .ref (q 9), .int 0, .int 0, .ref (q 10), .int 0, .int 0, .int 0, .int 0, .ref (q 11), .int 0, .int 0], kI (q 1) (G.2 0) 80 (fun _ => 0), kI (q 2) (G.2 0) 80 (fun _ => 0), kI (q 3) (G.2 0) 80 (fun _ => 0), kI (q 4) (G.2 1) 80 (fun _ => 0), kI (q 5) (G.2 1) 64 (fun _ => 0), kI (q 6) (G.2 0) 64 (fun _ => 0), kI (q 7) (G.2 0) 64 (fun _ => 0), kI (q 8) (G.2 0) 128 (fun _ => 0), kI (q 9) (G.2 0) 16 (fun _ => 0), kI (q 10) (G.2 0) 200 (fun _ => 0), kI (q 11) (G.2 0) 8 (fun _ => 0)]) (wr := [kI (q 1) (G.2 0) 80 (fun _ => 0), kI (q 2) (G.2 0) 80 (fun _ => 0), kI (q 3) (G.2 0) 80 (fun _ => 0), kI (q 4) (G.2 1) 80 (fun _ => 0), kI (q 5) (G.2 1) 64 (fun _ => 0), kI (q 10) (G.2 0) 200 (fun _ => 0)]) (va_runV (As := []) (rest := []) ⟨hx, hb, hml, hown, hts⟩ (c_X5_anew l G H.size q (kSp x) 0 0 0 0 0 0 (fun _ => 0) ) (cwV 0 hts gX5_init_X5_anew rfl rfl rfl (by decide +kernel) ⟨Nat.le_of_ble_eq_true rfl, Nat.le_of_ble_eq_true rfl⟩) (kPreV (va_recv hK hP (ci := 5) (q0 := 0) rfl rfl) kZ0 kZt hK hP hD [0, 6, 7, 8, 9, 11] rfl (by decide)) rfl rfl hl.1 rfl (lv_room (Nat.le_of_ble_eq_true rfl)) dX5_init_120 ⟨Nat.le_of_ble_eq_true rfl, Nat.le_of_ble_eq_true rfl⟩) hP hD hS hA [0, 6, 7, 8, 9, 11] [1, 2, 3, 4, 5, 10] rfl rfl (by decide) (by decide) (fun u14 H locs hw16 hP hD hS => ?_)
      obtain ⟨fc17, rfl⟩ : ∃ z, z = u14 := ⟨_, rfl⟩
      try dsimp only at hw16
      have hP : va_P G.1 vwCl [kI (q 1) (G.2 0) 80 (fun _ => 0), kI (q 2) (G.2 0) 80 (fun _ => 0), kI (q 3) (G.2 0) 80 (fun _ => 0), kI (q 4) (G.2 1) 80 (fun _ => 0), kI (q 5) (G.2 1) 64 (fun _ => 0), kI (q 10) (G.2 0) 200 (fun _ => 0), kO (q 0) 5 [.int 0, .int (kSp x), .int (kSp x), .ref (q 1), .ref (q 2), .ref (q 3), .ref (q 4), .int 0, .ref (q 5), .ref (q 6), .ref (q 7), .ref (q 8), .ref (q 9), .int 1, .int 0, .ref (q 10), .int 0, .int 0, .int 0, .int (-1), .ref (q 11), .int 1, .int 0], kI (q 6) (G.2 0) 64 (fun _ => 0), kI (q 7) (G.2 0) 64 fc17, kI (q 8) (G.2 0) 128 (fun _ => 0), kI (q 9) (G.2 0) 16 (fun _ => 0), kI (q 11) (G.2 0) 8 (fun _ => 0)] H := hP
      have hD : va_D A [kI (q 1) (G.2 0) 80 (fun _ => 0), kI (q 2) (G.2 0) 80 (fun _ => 0), kI (q 3) (G.2 0) 80 (fun _ => 0), kI (q 4) (G.2 1) 80 (fun _ => 0), kI (q 5) (G.2 1) 64 (fun _ => 0), kI (q 10) (G.2 0) 200 (fun _ => 0), kO (q 0) 5 [.int 0, .int (kSp x), .int (kSp x), .ref (q 1), .ref (q 2), .ref (q 3), .ref (q 4), .int 0, .ref (q 5), .ref (q 6), .ref (q 7), .ref (q 8), .ref (q 9), .int 1, .int 0, .ref (q 10), .int 0, .int 0, .int 0, .int (-1), .ref (q 11), .int 1, .int 0], kI (q 6) (G.2 0) 64 (fun _ => 0), kI (q 7) (G.2 0) 64 fc17, kI (q 8) (G.2 0) 128 (fun _ => 0), kI (q 9) (G.2 0) 16 (fun _ => 0), kI (q 11) (G.2 0) 8 (fun _ => 0)] := hD
      have hP := kCong hP 8 rfl hw16
      have hP : va_P G.1 vwCl [kI (q 1) (G.2 0) 80 (fun _ => 0), kI (q 2) (G.2 0) 80 (fun _ => 0), kI (q 3) (G.2 0) 80 (fun _ => 0), kI (q 4) (G.2 1) 80 (fun _ => 0), kI (q 5) (G.2 1) 64 (fun _ => 0), kI (q 10) (G.2 0) 200 (fun _ => 0), kO (q 0) 5 [.int 0, .int (kSp x), .int (kSp x), .ref (q 1), .ref (q 2), .ref (q 3), .ref (q 4), .int 0, .ref (q 5), .ref (q 6), .ref (q 7), .ref (q 8), .ref (q 9), .int 1, .int 0, .ref (q 10), .int 0, .int 0, .int 0, .int (-1), .ref (q 11), .int 1, .int 0], kI (q 6) (G.2 0) 64 (fun _ => 0), kI (q 7) (G.2 0) 64 (fun _ => 0), kI (q 8) (G.2 0) 128 (fun _ => 0), kI (q 9) (G.2 0) 16 (fun _ => 0), kI (q 11) (G.2 0) 8 (fun _ => 0)] H := hP
      have hD := va_D.set (p := 8) (a := q 7) (e := .inl (G.2 0, 64, .inl (fun _ => 0))) hD rfl
      have hD : va_D A [kI (q 1) (G.2 0) 80 (fun _ => 0), kI (q 2) (G.2 0) 80 (fun _ => 0), kI (q 3) (G.2 0) 80 (fun _ => 0), kI (q 4) (G.2 1) 80 (fun _ => 0), kI (q 5) (G.2 1) 64 (fun _ => 0), kI (q 10) (G.2 0) 200 (fun _ => 0), kO (q 0) 5 [.int 0, .int (kSp x), .int (kSp x), .ref (q 1), .ref (q 2), .ref (q 3), .ref (q 4), .int 0, .ref (q 5), .ref (q 6), .ref (q 7), .ref (q 8), .ref (q 9), .int 1, .int 0, .ref (q 10), .int 0, .int 0, .int 0, .int (-1), .ref (q 11), .int 1, .int 0], kI (q 6) (G.2 0) 64 (fun _ => 0), kI (q 7) (G.2 0) 64 (fun _ => 0), kI (q 8) (G.2 0) 128 (fun _ => 0), kI (q 9) (G.2 0) 16 (fun _ => 0), kI (q 11) (G.2 0) 8 (fun _ => 0)] := hD
      refine W.widen (k := 11) (n := 960) (by omega) (by omega) ?_
      exact kRetV (G := G) q hx hb hr hlocks hS dX5_init_123 (kSubP (wc := [kO (q 0) 5 [.int 0, .int (kSp x), .int (kSp x), .ref (q 1), .ref (q 2), .ref (q 3), .ref (q 4), .int 0, .ref (q 5), .ref (q 6), .ref (q 7), .ref (q 8), .ref (q 9), .int 1, .int 0, .ref (q 10), .int 0, .int 0, .int 0, .int (-1), .ref (q 11), .int 1, .int 0], kI (q 1) (G.2 0) 80 (fun _ => 0), kI (q 2) (G.2 0) 80 (fun _ => 0), kI (q 3) (G.2 0) 80 (fun _ => 0), kI (q 4) (G.2 1) 80 (fun _ => 0), kI (q 5) (G.2 1) 64 (fun _ => 0), kI (q 6) (G.2 0) 64 (fun _ => 0), kI (q 7) (G.2 0) 64 (fun _ => 0), kI (q 8) (G.2 0) 128 (fun _ => 0), kI (q 9) (G.2 0) 16 (fun _ => 0), kI (q 10) (G.2 0) 200 (fun _ => 0), kI (q 11) (G.2 0) 8 (fun _ => 0)]) hP [6, 0, 1, 2, 3, 4, 7, 8, 9, 10, 5, 11] rfl) (hD.sub (ws' := [kO (q 0) 5 [.int 0, .int (kSp x), .int (kSp x), .ref (q 1), .ref (q 2), .ref (q 3), .ref (q 4), .int 0, .ref (q 5), .ref (q 6), .ref (q 7), .ref (q 8), .ref (q 9), .int 1, .int 0, .ref (q 10), .int 0, .int 0, .int 0, .int (-1), .ref (q 11), .int 1, .int 0], kI (q 1) (G.2 0) 80 (fun _ => 0), kI (q 2) (G.2 0) 80 (fun _ => 0), kI (q 3) (G.2 0) 80 (fun _ => 0), kI (q 4) (G.2 1) 80 (fun _ => 0), kI (q 5) (G.2 1) 64 (fun _ => 0), kI (q 6) (G.2 0) 64 (fun _ => 0), kI (q 7) (G.2 0) 64 (fun _ => 0), kI (q 8) (G.2 0) 128 (fun _ => 0), kI (q 9) (G.2 0) 16 (fun _ => 0), kI (q 10) (G.2 0) 200 (fun _ => 0), kI (q 11) (G.2 0) 8 (fun _ => 0)]) [6, 0, 1, 2, 3, 4, 7, 8, 9, 10, 5, 11] (by decide) rfl) rfl
    · have t13 := i_nle.mp c13
      refine lv_bipush (v := 100) hx hb dX5_init_110 (by decide) ?_
      refine lv_goto (tgt := 116) hx hb dX5_init_112 (by decide) ?_
      refine kTop (y := kSp x) (by unfold kSp; first | (rw [if_pos (i_lt.mpr (by omega))]; done) | (rw [if_neg (i_nlt.mpr (by omega)), if_pos (i_lt.mpr (by omega))]; done) | (rw [if_neg (i_nlt.mpr (by omega)), if_neg (i_nlt.mpr (by omega))]; done)) ?_
      refine va_put (D := G.1) (ci := 5) (v := .int (kSp x)) (ty := .int) (C := RX5) (T := TX5) (N := 23) hx hb hts in5 tyX5 tyX5_ok nmX5 hown hK hP hD hS 0 rfl rfl 1 (by decide) (hts (.fieldLink RX5 44 "TraceDebuggerModel" "first" "I") (by decide +kernel)) (fun _ h9 => h9) rfl (by decide +kernel) rfl rfl (Nat.le_of_ble_eq_true rfl) dX5_init_116 (fun H locs hP hD hS => ?_)
      have hP : va_P G.1 vwCl [kO a 5 [.int 0, .int (kSp x), .int 0, .ref q1, .ref q2, .ref q3, .ref q4, .int 0, .ref q5, .ref q6, .ref q7, .ref q8, .ref q9, .int 0, .int 0, .ref q10, .int 0, .int 0, .int 0, .int 0, .ref q11, .int 0, .int 0], kI q1 (G.2 0) 80 (fun _ => 0), kI q2 (G.2 0) 80 (fun _ => 0), kI q3 (G.2 0) 80 (fun _ => 0), kI q4 (G.2 1) 80 (fun _ => 0), kI q5 (G.2 1) 64 (fun _ => 0), kI q6 (G.2 0) 64 (fun _ => 0), kI q7 (G.2 0) 64 (fun _ => 0), kI q8 (G.2 0) 128 (fun _ => 0), kI q9 (G.2 0) 16 (fun _ => 0), kI q10 (G.2 0) 200 (fun _ => 0), kI q11 (G.2 0) 8 (fun _ => 0)] H := hP
      have hD : va_D A [kO a 5 [.int 0, .int (kSp x), .int 0, .ref q1, .ref q2, .ref q3, .ref q4, .int 0, .ref q5, .ref q6, .ref q7, .ref q8, .ref q9, .int 0, .int 0, .ref q10, .int 0, .int 0, .int 0, .int 0, .ref q11, .int 0, .int 0], kI q1 (G.2 0) 80 (fun _ => 0), kI q2 (G.2 0) 80 (fun _ => 0), kI q3 (G.2 0) 80 (fun _ => 0), kI q4 (G.2 1) 80 (fun _ => 0), kI q5 (G.2 1) 64 (fun _ => 0), kI q6 (G.2 0) 64 (fun _ => 0), kI q7 (G.2 0) 64 (fun _ => 0), kI q8 (G.2 0) 128 (fun _ => 0), kI q9 (G.2 0) 16 (fun _ => 0), kI q10 (G.2 0) 200 (fun _ => 0), kI q11 (G.2 0) 8 (fun _ => 0)] := hD
      refine lv_aload_n hx hb dX5_init_119 rfl (lv_at hl 0 rfl) ?_
      obtain ⟨q, hq⟩ : ∃ z : Nat → Nat, z = (fun k => match k with | 0 => a | 1 => q1 | 2 => q2 | 3 => q3 | 4 => q4 | 5 => q5 | 6 => q6 | 7 => q7 | 8 => q8 | 9 => q9 | 10 => q10 | _ => q11) := ⟨_, rfl⟩
      obtain rfl : q 0 = a := congrFun hq 0
      obtain rfl : q 1 = q1 := congrFun hq 1
      obtain rfl : q 2 = q2 := congrFun hq 2
      obtain rfl : q 3 = q3 := congrFun hq 3
      obtain rfl : q 4 = q4 := congrFun hq 4
      obtain rfl : q 5 = q5 := congrFun hq 5
      obtain rfl : q 6 = q6 := congrFun hq 6
      obtain rfl : q 7 = q7 := congrFun hq 7
      obtain rfl : q 8 = q8 := congrFun hq 8
      obtain rfl : q 9 = q9 := congrFun hq 9
      obtain rfl : q 10 = q10 := congrFun hq 10
      obtain rfl : q 11 = q11 := congrFun hq 11
      clear hq
      have hP : va_P G.1 vwCl [kO (q 0) 5 [.int 0, .int (kSp x), .int 0, .ref (q 1), .ref (q 2), .ref (q 3), .ref (q 4), .int 0, .ref (q 5), .ref (q 6), .ref (q 7), .ref (q 8), .ref (q 9), .int 0, .int 0, .ref (q 10), .int 0, .int 0, .int 0, .int 0, .ref (q 11), .int 0, .int 0], kI (q 1) (G.2 0) 80 (fun _ => 0), kI (q 2) (G.2 0) 80 (fun _ => 0), kI (q 3) (G.2 0) 80 (fun _ => 0), kI (q 4) (G.2 1) 80 (fun _ => 0), kI (q 5) (G.2 1) 64 (fun _ => 0), kI (q 6) (G.2 0) 64 (fun _ => 0), kI (q 7) (G.2 0) 64 (fun _ => 0), kI (q 8) (G.2 0) 128 (fun _ => 0), kI (q 9) (G.2 0) 16 (fun _ => 0), kI (q 10) (G.2 0) 200 (fun _ => 0), kI (q 11) (G.2 0) 8 (fun _ => 0)] H := hP
      have hD : va_D A [kO (q 0) 5 [.int 0, .int (kSp x), .int 0, .ref (q 1), .ref (q 2), .ref (q 3), .ref (q 4), .int 0, .ref (q 5), .ref (q 6), .ref (q 7), .ref (q 8), .ref (q 9), .int 0, .int 0, .ref (q 10), .int 0, .int 0, .int 0, .int 0, .ref (q 11), .int 0, .int 0], kI (q 1) (G.2 0) 80 (fun _ => 0), kI (q 2) (G.2 0) 80 (fun _ => 0), kI (q 3) (G.2 0) 80 (fun _ => 0), kI (q 4) (G.2 1) 80 (fun _ => 0), kI (q 5) (G.2 1) 64 (fun _ => 0), kI (q 6) (G.2 0) 64 (fun _ => 0), kI (q 7) (G.2 0) 64 (fun _ => 0), kI (q 8) (G.2 0) 128 (fun _ => 0), kI (q 9) (G.2 0) 16 (fun _ => 0), kI (q 10) (G.2 0) 200 (fun _ => 0), kI (q 11) (G.2 0) 8 (fun _ => 0)] := hD
      have hl : lv_has ls 2 [(0, .ref (q 0)), (1, .int x)] := hl
      refine kCv (G := G) (ws := [kO (q 0) 5 [.int 0, .int (kSp x), .int 0, .ref (q 1), .ref (q 2), .ref (q 3), .ref (q 4), .int 0, .ref (q 5), .ref (q 6), .ref (q 7), .ref (q 8), .ref (q 9), .int 0, .int 0, .ref (q 10), .int 0, .int 0, .int 0, .int 0, .ref (q 11), .int 0, .int 0], kI (q 1) (G.2 0) 80 (fun _ => 0), kI (q 2) (G.2 0) 80 (fun _ => 0), kI (q 3) (G.2 0) 80 (fun _ => 0), kI (q 4) (G.2 1) 80 (fun _ => 0), kI (q 5) (G.2 1) 64 (fun _ => 0), kI (q 6) (G.2 0) 64 (fun _ => 0), kI (q 7) (G.2 0) 64 (fun _ => 0), kI (q 8) (G.2 0) 128 (fun _ => 0), kI (q 9) (G.2 0) 16 (fun _ => 0), kI (q 10) (G.2 0) 200 (fun _ => 0), kI (q 11) (G.2 0) 8 (fun _ => 0)]) (wr := [kI (q 1) (G.2 0) 80 (fun _ => 0), kI (q 2) (G.2 0) 80 (fun _ => 0), kI (q 3) (G.2 0) 80 (fun _ => 0), kI (q 4) (G.2 1) 80 (fun _ => 0), kI (q 5) (G.2 1) 64 (fun _ => 0), kI (q 10) (G.2 0) 200 (fun _ => 0)]) (va_runV (As := []) (rest := []) ⟨hx, hb, hml, hown, hts⟩ (c_X5_anew l G H.size q (kSp x) 0 0 0 0 0 0 (fun _ => 0) ) (cwV 0 hts gX5_init_X5_anew rfl rfl rfl (by decide +kernel) ⟨Nat.le_of_ble_eq_true rfl, Nat.le_of_ble_eq_true rfl⟩) (kPreV (va_recv hK hP (ci := 5) (q0 := 0) rfl rfl) kZ0 kZt hK hP hD [0, 6, 7, 8, 9, 11] rfl (by decide)) rfl rfl hl.1 rfl (lv_room (Nat.le_of_ble_eq_true rfl)) dX5_init_120 ⟨Nat.le_of_ble_eq_true rfl, Nat.le_of_ble_eq_true rfl⟩) hP hD hS hA [0, 6, 7, 8, 9, 11] [1, 2, 3, 4, 5, 10] rfl rfl (by decide) (by decide) (fun u18 H locs hw20 hP hD hS => ?_)
      obtain ⟨fc21, rfl⟩ : ∃ z, z = u18 := ⟨_, rfl⟩
      try dsimp only at hw20
      have hP : va_P G.1 vwCl [kI (q 1) (G.2 0) 80 (fun _ => 0), kI (q 2) (G.2 0) 80 (fun _ => 0), kI (q 3) (G.2 0) 80 (fun _ => 0), kI (q 4) (G.2 1) 80 (fun _ => 0), kI (q 5) (G.2 1) 64 (fun _ => 0), kI (q 10) (G.2 0) 200 (fun _ => 0), kO (q 0) 5 [.int 0, .int (kSp x), .int (kSp x), .ref (q 1), .ref (q 2), .ref (q 3), .ref (q 4), .int 0, .ref (q 5), .ref (q 6), .ref (q 7), .ref (q 8), .ref (q 9), .int 1, .int 0, .ref (q 10), .int 0, .int 0, .int 0, .int (-1), .ref (q 11), .int 1, .int 0], kI (q 6) (G.2 0) 64 (fun _ => 0), kI (q 7) (G.2 0) 64 fc21, kI (q 8) (G.2 0) 128 (fun _ => 0), kI (q 9) (G.2 0) 16 (fun _ => 0), kI (q 11) (G.2 0) 8 (fun _ => 0)] H := hP
      have hD : va_D A [kI (q 1) (G.2 0) 80 (fun _ => 0), kI (q 2) (G.2 0) 80 (fun _ => 0), kI (q 3) (G.2 0) 80 (fun _ => 0), kI (q 4) (G.2 1) 80 (fun _ => 0), kI (q 5) (G.2 1) 64 (fun _ => 0), kI (q 10) (G.2 0) 200 (fun _ => 0), kO (q 0) 5 [.int 0, .int (kSp x), .int (kSp x), .ref (q 1), .ref (q 2), .ref (q 3), .ref (q 4), .int 0, .ref (q 5), .ref (q 6), .ref (q 7), .ref (q 8), .ref (q 9), .int 1, .int 0, .ref (q 10), .int 0, .int 0, .int 0, .int (-1), .ref (q 11), .int 1, .int 0], kI (q 6) (G.2 0) 64 (fun _ => 0), kI (q 7) (G.2 0) 64 fc21, kI (q 8) (G.2 0) 128 (fun _ => 0), kI (q 9) (G.2 0) 16 (fun _ => 0), kI (q 11) (G.2 0) 8 (fun _ => 0)] := hD
      have hP := kCong hP 8 rfl hw20
      have hP : va_P G.1 vwCl [kI (q 1) (G.2 0) 80 (fun _ => 0), kI (q 2) (G.2 0) 80 (fun _ => 0), kI (q 3) (G.2 0) 80 (fun _ => 0), kI (q 4) (G.2 1) 80 (fun _ => 0), kI (q 5) (G.2 1) 64 (fun _ => 0), kI (q 10) (G.2 0) 200 (fun _ => 0), kO (q 0) 5 [.int 0, .int (kSp x), .int (kSp x), .ref (q 1), .ref (q 2), .ref (q 3), .ref (q 4), .int 0, .ref (q 5), .ref (q 6), .ref (q 7), .ref (q 8), .ref (q 9), .int 1, .int 0, .ref (q 10), .int 0, .int 0, .int 0, .int (-1), .ref (q 11), .int 1, .int 0], kI (q 6) (G.2 0) 64 (fun _ => 0), kI (q 7) (G.2 0) 64 (fun _ => 0), kI (q 8) (G.2 0) 128 (fun _ => 0), kI (q 9) (G.2 0) 16 (fun _ => 0), kI (q 11) (G.2 0) 8 (fun _ => 0)] H := hP
      have hD := va_D.set (p := 8) (a := q 7) (e := .inl (G.2 0, 64, .inl (fun _ => 0))) hD rfl
      have hD : va_D A [kI (q 1) (G.2 0) 80 (fun _ => 0), kI (q 2) (G.2 0) 80 (fun _ => 0), kI (q 3) (G.2 0) 80 (fun _ => 0), kI (q 4) (G.2 1) 80 (fun _ => 0), kI (q 5) (G.2 1) 64 (fun _ => 0), kI (q 10) (G.2 0) 200 (fun _ => 0), kO (q 0) 5 [.int 0, .int (kSp x), .int (kSp x), .ref (q 1), .ref (q 2), .ref (q 3), .ref (q 4), .int 0, .ref (q 5), .ref (q 6), .ref (q 7), .ref (q 8), .ref (q 9), .int 1, .int 0, .ref (q 10), .int 0, .int 0, .int 0, .int (-1), .ref (q 11), .int 1, .int 0], kI (q 6) (G.2 0) 64 (fun _ => 0), kI (q 7) (G.2 0) 64 (fun _ => 0), kI (q 8) (G.2 0) 128 (fun _ => 0), kI (q 9) (G.2 0) 16 (fun _ => 0), kI (q 11) (G.2 0) 8 (fun _ => 0)] := hD
      refine W.widen (k := 11) (n := 960) (by omega) (by omega) ?_
      exact kRetV (G := G) q hx hb hr hlocks hS dX5_init_123 (kSubP (wc := [kO (q 0) 5 [.int 0, .int (kSp x), .int (kSp x), .ref (q 1), .ref (q 2), .ref (q 3), .ref (q 4), .int 0, .ref (q 5), .ref (q 6), .ref (q 7), .ref (q 8), .ref (q 9), .int 1, .int 0, .ref (q 10), .int 0, .int 0, .int 0, .int (-1), .ref (q 11), .int 1, .int 0], kI (q 1) (G.2 0) 80 (fun _ => 0), kI (q 2) (G.2 0) 80 (fun _ => 0), kI (q 3) (G.2 0) 80 (fun _ => 0), kI (q 4) (G.2 1) 80 (fun _ => 0), kI (q 5) (G.2 1) 64 (fun _ => 0), kI (q 6) (G.2 0) 64 (fun _ => 0), kI (q 7) (G.2 0) 64 (fun _ => 0), kI (q 8) (G.2 0) 128 (fun _ => 0), kI (q 9) (G.2 0) 16 (fun _ => 0), kI (q 10) (G.2 0) 200 (fun _ => 0), kI (q 11) (G.2 0) 8 (fun _ => 0)]) hP [6, 0, 1, 2, 3, 4, 7, 8, 9, 10, 5, 11] rfl) (hD.sub (ws' := [kO (q 0) 5 [.int 0, .int (kSp x), .int (kSp x), .ref (q 1), .ref (q 2), .ref (q 3), .ref (q 4), .int 0, .ref (q 5), .ref (q 6), .ref (q 7), .ref (q 8), .ref (q 9), .int 1, .int 0, .ref (q 10), .int 0, .int 0, .int 0, .int (-1), .ref (q 11), .int 1, .int 0], kI (q 1) (G.2 0) 80 (fun _ => 0), kI (q 2) (G.2 0) 80 (fun _ => 0), kI (q 3) (G.2 0) 80 (fun _ => 0), kI (q 4) (G.2 1) 80 (fun _ => 0), kI (q 5) (G.2 1) 64 (fun _ => 0), kI (q 6) (G.2 0) 64 (fun _ => 0), kI (q 7) (G.2 0) 64 (fun _ => 0), kI (q 8) (G.2 0) 128 (fun _ => 0), kI (q 9) (G.2 0) 16 (fun _ => 0), kI (q 10) (G.2 0) 200 (fun _ => 0), kI (q 11) (G.2 0) 8 (fun _ => 0)]) [6, 0, 1, 2, 3, 4, 7, 8, 9, 10, 5, 11] (by decide) rfl) rfl
  · have t12 := i_nle.mp c12
    refine lv_iconst (v := 1) hx hb dX5_init_100 (by decide) ?_
    refine lv_goto (tgt := 116) hx hb dX5_init_101 (by decide) ?_
    refine kTop (y := kSp x) (by unfold kSp; first | (rw [if_pos (i_lt.mpr (by omega))]; done) | (rw [if_neg (i_nlt.mpr (by omega)), if_pos (i_lt.mpr (by omega))]; done) | (rw [if_neg (i_nlt.mpr (by omega)), if_neg (i_nlt.mpr (by omega))]; done)) ?_
    refine va_put (D := G.1) (ci := 5) (v := .int (kSp x)) (ty := .int) (C := RX5) (T := TX5) (N := 23) hx hb hts in5 tyX5 tyX5_ok nmX5 hown hK hP hD hS 0 rfl rfl 1 (by decide) (hts (.fieldLink RX5 44 "TraceDebuggerModel" "first" "I") (by decide +kernel)) (fun _ h9 => h9) rfl (by decide +kernel) rfl rfl (Nat.le_of_ble_eq_true rfl) dX5_init_116 (fun H locs hP hD hS => ?_)
    have hP : va_P G.1 vwCl [kO a 5 [.int 0, .int (kSp x), .int 0, .ref q1, .ref q2, .ref q3, .ref q4, .int 0, .ref q5, .ref q6, .ref q7, .ref q8, .ref q9, .int 0, .int 0, .ref q10, .int 0, .int 0, .int 0, .int 0, .ref q11, .int 0, .int 0], kI q1 (G.2 0) 80 (fun _ => 0), kI q2 (G.2 0) 80 (fun _ => 0), kI q3 (G.2 0) 80 (fun _ => 0), kI q4 (G.2 1) 80 (fun _ => 0), kI q5 (G.2 1) 64 (fun _ => 0), kI q6 (G.2 0) 64 (fun _ => 0), kI q7 (G.2 0) 64 (fun _ => 0), kI q8 (G.2 0) 128 (fun _ => 0), kI q9 (G.2 0) 16 (fun _ => 0), kI q10 (G.2 0) 200 (fun _ => 0), kI q11 (G.2 0) 8 (fun _ => 0)] H := hP
    have hD : va_D A [kO a 5 [.int 0, .int (kSp x), .int 0, .ref q1, .ref q2, .ref q3, .ref q4, .int 0, .ref q5, .ref q6, .ref q7, .ref q8, .ref q9, .int 0, .int 0, .ref q10, .int 0, .int 0, .int 0, .int 0, .ref q11, .int 0, .int 0], kI q1 (G.2 0) 80 (fun _ => 0), kI q2 (G.2 0) 80 (fun _ => 0), kI q3 (G.2 0) 80 (fun _ => 0), kI q4 (G.2 1) 80 (fun _ => 0), kI q5 (G.2 1) 64 (fun _ => 0), kI q6 (G.2 0) 64 (fun _ => 0), kI q7 (G.2 0) 64 (fun _ => 0), kI q8 (G.2 0) 128 (fun _ => 0), kI q9 (G.2 0) 16 (fun _ => 0), kI q10 (G.2 0) 200 (fun _ => 0), kI q11 (G.2 0) 8 (fun _ => 0)] := hD
    refine lv_aload_n hx hb dX5_init_119 rfl (lv_at hl 0 rfl) ?_
    obtain ⟨q, hq⟩ : ∃ z : Nat → Nat, z = (fun k => match k with | 0 => a | 1 => q1 | 2 => q2 | 3 => q3 | 4 => q4 | 5 => q5 | 6 => q6 | 7 => q7 | 8 => q8 | 9 => q9 | 10 => q10 | _ => q11) := ⟨_, rfl⟩
    obtain rfl : q 0 = a := congrFun hq 0
    obtain rfl : q 1 = q1 := congrFun hq 1
    obtain rfl : q 2 = q2 := congrFun hq 2
    obtain rfl : q 3 = q3 := congrFun hq 3
    obtain rfl : q 4 = q4 := congrFun hq 4
    obtain rfl : q 5 = q5 := congrFun hq 5
    obtain rfl : q 6 = q6 := congrFun hq 6
    obtain rfl : q 7 = q7 := congrFun hq 7
    obtain rfl : q 8 = q8 := congrFun hq 8
    obtain rfl : q 9 = q9 := congrFun hq 9
    obtain rfl : q 10 = q10 := congrFun hq 10
    obtain rfl : q 11 = q11 := congrFun hq 11
    clear hq
    have hP : va_P G.1 vwCl [kO (q 0) 5 [.int 0, .int (kSp x), .int 0, .ref (q 1), .ref (q 2), .ref (q 3), .ref (q 4), .int 0, .ref (q 5), .ref (q 6), .ref (q 7), .ref (q 8), .ref (q 9), .int 0, .int 0, .ref (q 10), .int 0, .int 0, .int 0, .int 0, .ref (q 11), .int 0, .int 0], kI (q 1) (G.2 0) 80 (fun _ => 0), kI (q 2) (G.2 0) 80 (fun _ => 0), kI (q 3) (G.2 0) 80 (fun _ => 0), kI (q 4) (G.2 1) 80 (fun _ => 0), kI (q 5) (G.2 1) 64 (fun _ => 0), kI (q 6) (G.2 0) 64 (fun _ => 0), kI (q 7) (G.2 0) 64 (fun _ => 0), kI (q 8) (G.2 0) 128 (fun _ => 0), kI (q 9) (G.2 0) 16 (fun _ => 0), kI (q 10) (G.2 0) 200 (fun _ => 0), kI (q 11) (G.2 0) 8 (fun _ => 0)] H := hP
    have hD : va_D A [kO (q 0) 5 [.int 0, .int (kSp x), .int 0, .ref (q 1), .ref (q 2), .ref (q 3), .ref (q 4), .int 0, .ref (q 5), .ref (q 6), .ref (q 7), .ref (q 8), .ref (q 9), .int 0, .int 0, .ref (q 10), .int 0, .int 0, .int 0, .int 0, .ref (q 11), .int 0, .int 0], kI (q 1) (G.2 0) 80 (fun _ => 0), kI (q 2) (G.2 0) 80 (fun _ => 0), kI (q 3) (G.2 0) 80 (fun _ => 0), kI (q 4) (G.2 1) 80 (fun _ => 0), kI (q 5) (G.2 1) 64 (fun _ => 0), kI (q 6) (G.2 0) 64 (fun _ => 0), kI (q 7) (G.2 0) 64 (fun _ => 0), kI (q 8) (G.2 0) 128 (fun _ => 0), kI (q 9) (G.2 0) 16 (fun _ => 0), kI (q 10) (G.2 0) 200 (fun _ => 0), kI (q 11) (G.2 0) 8 (fun _ => 0)] := hD
    have hl : lv_has ls 2 [(0, .ref (q 0)), (1, .int x)] := hl
    refine kCv (G := G) (ws := [kO (q 0) 5 [.int 0, .int (kSp x), .int 0, .ref (q 1), .ref (q 2), .ref (q 3), .ref (q 4), .int 0, .ref (q 5), .ref (q 6), .ref (q 7), .ref (q 8), .ref (q 9), .int 0, .int 0, .ref (q 10), .int 0, .int 0, .int 0, .int 0, .ref (q 11), .int 0, .int 0], kI (q 1) (G.2 0) 80 (fun _ => 0), kI (q 2) (G.2 0) 80 (fun _ => 0), kI (q 3) (G.2 0) 80 (fun _ => 0), kI (q 4) (G.2 1) 80 (fun _ => 0), kI (q 5) (G.2 1) 64 (fun _ => 0), kI (q 6) (G.2 0) 64 (fun _ => 0), kI (q 7) (G.2 0) 64 (fun _ => 0), kI (q 8) (G.2 0) 128 (fun _ => 0), kI (q 9) (G.2 0) 16 (fun _ => 0), kI (q 10) (G.2 0) 200 (fun _ => 0), kI (q 11) (G.2 0) 8 (fun _ => 0)]) (wr := [kI (q 1) (G.2 0) 80 (fun _ => 0), kI (q 2) (G.2 0) 80 (fun _ => 0), kI (q 3) (G.2 0) 80 (fun _ => 0), kI (q 4) (G.2 1) 80 (fun _ => 0), kI (q 5) (G.2 1) 64 (fun _ => 0), kI (q 10) (G.2 0) 200 (fun _ => 0)]) (va_runV (As := []) (rest := []) ⟨hx, hb, hml, hown, hts⟩ (c_X5_anew l G H.size q (kSp x) 0 0 0 0 0 0 (fun _ => 0) ) (cwV 0 hts gX5_init_X5_anew rfl rfl rfl (by decide +kernel) ⟨Nat.le_of_ble_eq_true rfl, Nat.le_of_ble_eq_true rfl⟩) (kPreV (va_recv hK hP (ci := 5) (q0 := 0) rfl rfl) kZ0 kZt hK hP hD [0, 6, 7, 8, 9, 11] rfl (by decide)) rfl rfl hl.1 rfl (lv_room (Nat.le_of_ble_eq_true rfl)) dX5_init_120 ⟨Nat.le_of_ble_eq_true rfl, Nat.le_of_ble_eq_true rfl⟩) hP hD hS hA [0, 6, 7, 8, 9, 11] [1, 2, 3, 4, 5, 10] rfl rfl (by decide) (by decide) (fun u22 H locs hw24 hP hD hS => ?_)
    obtain ⟨fc25, rfl⟩ : ∃ z, z = u22 := ⟨_, rfl⟩
    try dsimp only at hw24
    have hP : va_P G.1 vwCl [kI (q 1) (G.2 0) 80 (fun _ => 0), kI (q 2) (G.2 0) 80 (fun _ => 0), kI (q 3) (G.2 0) 80 (fun _ => 0), kI (q 4) (G.2 1) 80 (fun _ => 0), kI (q 5) (G.2 1) 64 (fun _ => 0), kI (q 10) (G.2 0) 200 (fun _ => 0), kO (q 0) 5 [.int 0, .int (kSp x), .int (kSp x), .ref (q 1), .ref (q 2), .ref (q 3), .ref (q 4), .int 0, .ref (q 5), .ref (q 6), .ref (q 7), .ref (q 8), .ref (q 9), .int 1, .int 0, .ref (q 10), .int 0, .int 0, .int 0, .int (-1), .ref (q 11), .int 1, .int 0], kI (q 6) (G.2 0) 64 (fun _ => 0), kI (q 7) (G.2 0) 64 fc25, kI (q 8) (G.2 0) 128 (fun _ => 0), kI (q 9) (G.2 0) 16 (fun _ => 0), kI (q 11) (G.2 0) 8 (fun _ => 0)] H := hP
    have hD : va_D A [kI (q 1) (G.2 0) 80 (fun _ => 0), kI (q 2) (G.2 0) 80 (fun _ => 0), kI (q 3) (G.2 0) 80 (fun _ => 0), kI (q 4) (G.2 1) 80 (fun _ => 0), kI (q 5) (G.2 1) 64 (fun _ => 0), kI (q 10) (G.2 0) 200 (fun _ => 0), kO (q 0) 5 [.int 0, .int (kSp x), .int (kSp x), .ref (q 1), .ref (q 2), .ref (q 3), .ref (q 4), .int 0, .ref (q 5), .ref (q 6), .ref (q 7), .ref (q 8), .ref (q 9), .int 1, .int 0, .ref (q 10), .int 0, .int 0, .int 0, .int (-1), .ref (q 11), .int 1, .int 0], kI (q 6) (G.2 0) 64 (fun _ => 0), kI (q 7) (G.2 0) 64 fc25, kI (q 8) (G.2 0) 128 (fun _ => 0), kI (q 9) (G.2 0) 16 (fun _ => 0), kI (q 11) (G.2 0) 8 (fun _ => 0)] := hD
    have hP := kCong hP 8 rfl hw24
    have hP : va_P G.1 vwCl [kI (q 1) (G.2 0) 80 (fun _ => 0), kI (q 2) (G.2 0) 80 (fun _ => 0), kI (q 3) (G.2 0) 80 (fun _ => 0), kI (q 4) (G.2 1) 80 (fun _ => 0), kI (q 5) (G.2 1) 64 (fun _ => 0), kI (q 10) (G.2 0) 200 (fun _ => 0), kO (q 0) 5 [.int 0, .int (kSp x), .int (kSp x), .ref (q 1), .ref (q 2), .ref (q 3), .ref (q 4), .int 0, .ref (q 5), .ref (q 6), .ref (q 7), .ref (q 8), .ref (q 9), .int 1, .int 0, .ref (q 10), .int 0, .int 0, .int 0, .int (-1), .ref (q 11), .int 1, .int 0], kI (q 6) (G.2 0) 64 (fun _ => 0), kI (q 7) (G.2 0) 64 (fun _ => 0), kI (q 8) (G.2 0) 128 (fun _ => 0), kI (q 9) (G.2 0) 16 (fun _ => 0), kI (q 11) (G.2 0) 8 (fun _ => 0)] H := hP
    have hD := va_D.set (p := 8) (a := q 7) (e := .inl (G.2 0, 64, .inl (fun _ => 0))) hD rfl
    have hD : va_D A [kI (q 1) (G.2 0) 80 (fun _ => 0), kI (q 2) (G.2 0) 80 (fun _ => 0), kI (q 3) (G.2 0) 80 (fun _ => 0), kI (q 4) (G.2 1) 80 (fun _ => 0), kI (q 5) (G.2 1) 64 (fun _ => 0), kI (q 10) (G.2 0) 200 (fun _ => 0), kO (q 0) 5 [.int 0, .int (kSp x), .int (kSp x), .ref (q 1), .ref (q 2), .ref (q 3), .ref (q 4), .int 0, .ref (q 5), .ref (q 6), .ref (q 7), .ref (q 8), .ref (q 9), .int 1, .int 0, .ref (q 10), .int 0, .int 0, .int 0, .int (-1), .ref (q 11), .int 1, .int 0], kI (q 6) (G.2 0) 64 (fun _ => 0), kI (q 7) (G.2 0) 64 (fun _ => 0), kI (q 8) (G.2 0) 128 (fun _ => 0), kI (q 9) (G.2 0) 16 (fun _ => 0), kI (q 11) (G.2 0) 8 (fun _ => 0)] := hD
    refine W.widen (k := 11) (n := 960) (by omega) (by omega) ?_
    exact kRetV (G := G) q hx hb hr hlocks hS dX5_init_123 (kSubP (wc := [kO (q 0) 5 [.int 0, .int (kSp x), .int (kSp x), .ref (q 1), .ref (q 2), .ref (q 3), .ref (q 4), .int 0, .ref (q 5), .ref (q 6), .ref (q 7), .ref (q 8), .ref (q 9), .int 1, .int 0, .ref (q 10), .int 0, .int 0, .int 0, .int (-1), .ref (q 11), .int 1, .int 0], kI (q 1) (G.2 0) 80 (fun _ => 0), kI (q 2) (G.2 0) 80 (fun _ => 0), kI (q 3) (G.2 0) 80 (fun _ => 0), kI (q 4) (G.2 1) 80 (fun _ => 0), kI (q 5) (G.2 1) 64 (fun _ => 0), kI (q 6) (G.2 0) 64 (fun _ => 0), kI (q 7) (G.2 0) 64 (fun _ => 0), kI (q 8) (G.2 0) 128 (fun _ => 0), kI (q 9) (G.2 0) 16 (fun _ => 0), kI (q 10) (G.2 0) 200 (fun _ => 0), kI (q 11) (G.2 0) 8 (fun _ => 0)]) hP [6, 0, 1, 2, 3, 4, 7, 8, 9, 10, 5, 11] rfl) (hD.sub (ws' := [kO (q 0) 5 [.int 0, .int (kSp x), .int (kSp x), .ref (q 1), .ref (q 2), .ref (q 3), .ref (q 4), .int 0, .ref (q 5), .ref (q 6), .ref (q 7), .ref (q 8), .ref (q 9), .int 1, .int 0, .ref (q 10), .int 0, .int 0, .int 0, .int (-1), .ref (q 11), .int 1, .int 0], kI (q 1) (G.2 0) 80 (fun _ => 0), kI (q 2) (G.2 0) 80 (fun _ => 0), kI (q 3) (G.2 0) 80 (fun _ => 0), kI (q 4) (G.2 1) 80 (fun _ => 0), kI (q 5) (G.2 1) 64 (fun _ => 0), kI (q 6) (G.2 0) 64 (fun _ => 0), kI (q 7) (G.2 0) 64 (fun _ => 0), kI (q 8) (G.2 0) 128 (fun _ => 0), kI (q 9) (G.2 0) 16 (fun _ => 0), kI (q 10) (G.2 0) 200 (fun _ => 0), kI (q 11) (G.2 0) 8 (fun _ => 0)]) [6, 0, 1, 2, 3, 4, 7, 8, 9, 10, 5, 11] (by decide) rfl) rfl

set_option maxHeartbeats 4000000 in
set_option maxRecDepth 100000 in
theorem c_X5_isRight (l : Launch) (G : gG) (sz : Nat) (o : Int32) (x : Int32) (y : Int32)  : Met l yX5_isRight wsX5_isRight { frames := 1, cells := 0, slots := 0, locals := 20 } (kPc G [.int o, .int x, .int y] [] sz (fun _ => True)) (kQi G (S := Unit) (fun r _ => (r = 1 ∧ ((0 ≤ o.toInt ∧ o.toInt ≤ 12) ∧ ((o.toInt ≤ 6 ∨ o.toInt = 8 ∨ o.toInt = 10 ∨ o.toInt = 11) → (0 ≤ x.toInt ∧ x.toInt < 8)) ∧ ((1 ≤ o.toInt ∧ o.toInt ≤ 6) → (0 ≤ y.toInt ∧ y.toInt < 8)) ∧ (o.toInt = 9 → (0 ≤ y.toInt ∧ y.toInt ≤ 8)))) ∨ (r = 0 ∧ ¬ ((0 ≤ o.toInt ∧ o.toInt ≤ 12) ∧ ((o.toInt ≤ 6 ∨ o.toInt = 8 ∨ o.toInt = 10 ∨ o.toInt = 11) → (0 ≤ x.toInt ∧ x.toInt < 8)) ∧ ((1 ≤ o.toInt ∧ o.toInt ≤ 6) → (0 ≤ y.toInt ∧ y.toInt < 8)) ∧ (o.toInt = 9 → (0 ≤ y.toInt ∧ y.toInt ≤ 8))))) (fun _ => []) (va_A [] sz)) 0 0 (va_A [] sz) := by
  refine kBeg (Qc := fun A => kQi G (S := Unit) (fun r _ => (r = 1 ∧ ((0 ≤ o.toInt ∧ o.toInt ≤ 12) ∧ ((o.toInt ≤ 6 ∨ o.toInt = 8 ∨ o.toInt = 10 ∨ o.toInt = 11) → (0 ≤ x.toInt ∧ x.toInt < 8)) ∧ ((1 ≤ o.toInt ∧ o.toInt ≤ 6) → (0 ≤ y.toInt ∧ y.toInt < 8)) ∧ (o.toInt = 9 → (0 ≤ y.toInt ∧ y.toInt ≤ 8)))) ∨ (r = 0 ∧ ¬ ((0 ≤ o.toInt ∧ o.toInt ≤ 12) ∧ ((o.toInt ≤ 6 ∨ o.toInt = 8 ∨ o.toInt = 10 ∨ o.toInt = 11) → (0 ≤ x.toInt ∧ x.toInt < 8)) ∧ ((1 ≤ o.toInt ∧ o.toInt ≤ 6) → (0 ≤ y.toInt ∧ y.toInt < 8)) ∧ (o.toInt = 9 → (0 ≤ y.toInt ∧ y.toInt ≤ 8))))) (fun _ => []) A) (by decide) rfl (Nat.le_of_ble_eq_true rfl) ?_
  intro A p e s m below meth c ls H locs hx hb hr hts hown hlocks hnm hml hsz hP hK hD hZ hA hS hl
  have hown : s.vm.findClass RX5 = some m.cls := hown
  have hl : lv_has ls 3 [(0, .int o), (1, .int x), (2, .int y)] := hl
  have kc0 : (0 : Int32).toInt = 0 := by decide
  have kc1 : (1 : Int32).toInt = 1 := by decide
  have kc7 : (7 : Int32).toInt = 7 := by decide
  have kc8 : (8 : Int32).toInt = 8 := by decide
  have kc12 : (12 : Int32).toInt = 12 := by decide
  refine lv_iload_n hx hb dX5_isRight_0 rfl (lv_at hl 0 rfl) ?_
  rcases (show o.toInt = 0 ∨ o.toInt = 1 ∨ o.toInt = 2 ∨ o.toInt = 3 ∨ o.toInt = 4 ∨ o.toInt = 5 ∨ o.toInt = 6 ∨ o.toInt = 7 ∨ o.toInt = 8 ∨ o.toInt = 9 ∨ o.toInt = 10 ∨ o.toInt = 11 ∨ (o.toInt < 0 ∨ 11 < o.toInt) by omega) with w1 | w1 | w1 | w1 | w1 | w1 | w1 | w1 | w1 | w1 | w1 | w1 | w1
  · refine lv_tableIn (off := 63) (tgt := 64) hx hb dX5_isRight_1 (by omega) (by omega) (by rw [w1]; rfl) (by decide) ?_
    refine lv_iload_n hx hb dX5_isRight_64 rfl (lv_at hl 1 rfl) ?_
    refine kCi (G := G) (ws := []) (wr := []) (va_runS (As := [.int x]) (rest := []) ⟨hx, hb, hml, hown, hts⟩ (c_X5_isLocal l G H.size x ) (va_cwS 1 hts gX5_isRight_X5_isLocal rfl rfl rfl (by decide +kernel) ⟨Nat.le_of_ble_eq_true rfl, Nat.le_of_ble_eq_true rfl⟩) (kPreS kZ0 kZt hK hP hD [] rfl (by decide)) rfl rfl hl.1 rfl (lv_room (Nat.le_of_ble_eq_true rfl)) dX5_isRight_65 ⟨Nat.le_of_ble_eq_true rfl, Nat.le_of_ble_eq_true rfl⟩) hP hD hS hA [] [] rfl rfl (by decide) (by decide) (fun r3 u2 H locs hw4 hP hD hS => ?_)
    try dsimp only at hw4
    have hP : va_P G.1 vwCl [] H := hP
    have hD : va_D A [] := hD
    rcases hw4 with ⟨rfl, hq5⟩ | ⟨rfl, hq5⟩
    · have _u := hsz
      exact kRetZ (G := G) () hx hb hr hlocks hS dX5_isRight_68 rfl (kSubP (wc := []) hP [] rfl) (hD.sub (ws' := []) [] (by decide) rfl) (by first | exact Or.inl ⟨rfl, by omega⟩ | exact Or.inr ⟨rfl, by omega⟩)
    · have _u := hsz
      exact kRetZ (G := G) () hx hb hr hlocks hS dX5_isRight_68 rfl (kSubP (wc := []) hP [] rfl) (hD.sub (ws' := []) [] (by decide) rfl) (by first | exact Or.inl ⟨rfl, by omega⟩ | exact Or.inr ⟨rfl, by omega⟩)
  · refine lv_tableIn (off := 68) (tgt := 69) hx hb dX5_isRight_1 (by omega) (by omega) (by rw [w1]; rfl) (by decide) ?_
    refine lv_iload_n hx hb dX5_isRight_69 rfl (lv_at hl 1 rfl) ?_
    refine kCi (G := G) (ws := []) (wr := []) (va_runS (As := [.int x]) (rest := []) ⟨hx, hb, hml, hown, hts⟩ (c_X5_isLocal l G H.size x ) (va_cwS 1 hts gX5_isRight_X5_isLocal rfl rfl rfl (by decide +kernel) ⟨Nat.le_of_ble_eq_true rfl, Nat.le_of_ble_eq_true rfl⟩) (kPreS kZ0 kZt hK hP hD [] rfl (by decide)) rfl rfl hl.1 rfl (lv_room (Nat.le_of_ble_eq_true rfl)) dX5_isRight_70 ⟨Nat.le_of_ble_eq_true rfl, Nat.le_of_ble_eq_true rfl⟩) hP hD hS hA [] [] rfl rfl (by decide) (by decide) (fun r7 u6 H locs hw8 hP hD hS => ?_)
    try dsimp only at hw8
    have hP : va_P G.1 vwCl [] H := hP
    have hD : va_D A [] := hD
    rcases hw8 with ⟨rfl, hq9⟩ | ⟨rfl, hq9⟩
    · have _u := hsz
      refine lv_if_eq (tgt := 87) hx hb dX5_isRight_73 (by decide) (fun c9 => absurd c9 (by decide)) (fun _ => ?_)
      refine lv_iload_n hx hb dX5_isRight_76 rfl (lv_at hl 2 rfl) ?_
      refine kCi (G := G) (ws := []) (wr := []) (va_runS (As := [.int y]) (rest := []) ⟨hx, hb, hml, hown, hts⟩ (c_X5_isLocal l G H.size y ) (va_cwS 1 hts gX5_isRight_X5_isLocal rfl rfl rfl (by decide +kernel) ⟨Nat.le_of_ble_eq_true rfl, Nat.le_of_ble_eq_true rfl⟩) (kPreS kZ0 kZt hK hP hD [] rfl (by decide)) rfl rfl hl.1 rfl (lv_room (Nat.le_of_ble_eq_true rfl)) dX5_isRight_77 ⟨Nat.le_of_ble_eq_true rfl, Nat.le_of_ble_eq_true rfl⟩) hP hD hS hA [] [] rfl rfl (by decide) (by decide) (fun r11 u10 H locs hw12 hP hD hS => ?_)
      try dsimp only at hw12
      have hP : va_P G.1 vwCl [] H := hP
      have hD : va_D A [] := hD
      rcases hw12 with ⟨rfl, hq13⟩ | ⟨rfl, hq13⟩
      · have _u := hsz
        refine lv_if_eq (tgt := 87) hx hb dX5_isRight_80 (by decide) (fun c9 => absurd c9 (by decide)) (fun _ => ?_)
        refine lv_iconst (v := 1) hx hb dX5_isRight_83 (by decide) ?_
        refine lv_goto (tgt := 88) hx hb dX5_isRight_84 (by decide) ?_
        exact kRetZ (G := G) () hx hb hr hlocks hS dX5_isRight_88 rfl (kSubP (wc := []) hP [] rfl) (hD.sub (ws' := []) [] (by decide) rfl) (by first | exact Or.inl ⟨rfl, by omega⟩ | exact Or.inr ⟨rfl, by omega⟩)
      · have _u := hsz
        refine lv_if_eq (tgt := 87) hx hb dX5_isRight_80 (by decide) (fun _ => ?_) (fun c9 => absurd c9 (by decide))
        refine lv_iconst (v := 0) hx hb dX5_isRight_87 (by decide) ?_
        exact kRetZ (G := G) () hx hb hr hlocks hS dX5_isRight_88 rfl (kSubP (wc := []) hP [] rfl) (hD.sub (ws' := []) [] (by decide) rfl) (by first | exact Or.inl ⟨rfl, by omega⟩ | exact Or.inr ⟨rfl, by omega⟩)
    · have _u := hsz
      refine lv_if_eq (tgt := 87) hx hb dX5_isRight_73 (by decide) (fun _ => ?_) (fun c9 => absurd c9 (by decide))
      refine lv_iconst (v := 0) hx hb dX5_isRight_87 (by decide) ?_
      exact kRetZ (G := G) () hx hb hr hlocks hS dX5_isRight_88 rfl (kSubP (wc := []) hP [] rfl) (hD.sub (ws' := []) [] (by decide) rfl) (by first | exact Or.inl ⟨rfl, by omega⟩ | exact Or.inr ⟨rfl, by omega⟩)
  · refine lv_tableIn (off := 68) (tgt := 69) hx hb dX5_isRight_1 (by omega) (by omega) (by rw [w1]; rfl) (by decide) ?_
    refine lv_iload_n hx hb dX5_isRight_69 rfl (lv_at hl 1 rfl) ?_
    refine kCi (G := G) (ws := []) (wr := []) (va_runS (As := [.int x]) (rest := []) ⟨hx, hb, hml, hown, hts⟩ (c_X5_isLocal l G H.size x ) (va_cwS 1 hts gX5_isRight_X5_isLocal rfl rfl rfl (by decide +kernel) ⟨Nat.le_of_ble_eq_true rfl, Nat.le_of_ble_eq_true rfl⟩) (kPreS kZ0 kZt hK hP hD [] rfl (by decide)) rfl rfl hl.1 rfl (lv_room (Nat.le_of_ble_eq_true rfl)) dX5_isRight_70 ⟨Nat.le_of_ble_eq_true rfl, Nat.le_of_ble_eq_true rfl⟩) hP hD hS hA [] [] rfl rfl (by decide) (by decide) (fun r15 u14 H locs hw16 hP hD hS => ?_)
    try dsimp only at hw16
    have hP : va_P G.1 vwCl [] H := hP
    have hD : va_D A [] := hD
    rcases hw16 with ⟨rfl, hq17⟩ | ⟨rfl, hq17⟩
    · have _u := hsz
      refine lv_if_eq (tgt := 87) hx hb dX5_isRight_73 (by decide) (fun c9 => absurd c9 (by decide)) (fun _ => ?_)
      refine lv_iload_n hx hb dX5_isRight_76 rfl (lv_at hl 2 rfl) ?_
      refine kCi (G := G) (ws := []) (wr := []) (va_runS (As := [.int y]) (rest := []) ⟨hx, hb, hml, hown, hts⟩ (c_X5_isLocal l G H.size y ) (va_cwS 1 hts gX5_isRight_X5_isLocal rfl rfl rfl (by decide +kernel) ⟨Nat.le_of_ble_eq_true rfl, Nat.le_of_ble_eq_true rfl⟩) (kPreS kZ0 kZt hK hP hD [] rfl (by decide)) rfl rfl hl.1 rfl (lv_room (Nat.le_of_ble_eq_true rfl)) dX5_isRight_77 ⟨Nat.le_of_ble_eq_true rfl, Nat.le_of_ble_eq_true rfl⟩) hP hD hS hA [] [] rfl rfl (by decide) (by decide) (fun r19 u18 H locs hw20 hP hD hS => ?_)
      try dsimp only at hw20
      have hP : va_P G.1 vwCl [] H := hP
      have hD : va_D A [] := hD
      rcases hw20 with ⟨rfl, hq21⟩ | ⟨rfl, hq21⟩
      · have _u := hsz
        refine lv_if_eq (tgt := 87) hx hb dX5_isRight_80 (by decide) (fun c9 => absurd c9 (by decide)) (fun _ => ?_)
        refine lv_iconst (v := 1) hx hb dX5_isRight_83 (by decide) ?_
        refine lv_goto (tgt := 88) hx hb dX5_isRight_84 (by decide) ?_
        exact kRetZ (G := G) () hx hb hr hlocks hS dX5_isRight_88 rfl (kSubP (wc := []) hP [] rfl) (hD.sub (ws' := []) [] (by decide) rfl) (by first | exact Or.inl ⟨rfl, by omega⟩ | exact Or.inr ⟨rfl, by omega⟩)
      · have _u := hsz
        refine lv_if_eq (tgt := 87) hx hb dX5_isRight_80 (by decide) (fun _ => ?_) (fun c9 => absurd c9 (by decide))
        refine lv_iconst (v := 0) hx hb dX5_isRight_87 (by decide) ?_
        exact kRetZ (G := G) () hx hb hr hlocks hS dX5_isRight_88 rfl (kSubP (wc := []) hP [] rfl) (hD.sub (ws' := []) [] (by decide) rfl) (by first | exact Or.inl ⟨rfl, by omega⟩ | exact Or.inr ⟨rfl, by omega⟩)
    · have _u := hsz
      refine lv_if_eq (tgt := 87) hx hb dX5_isRight_73 (by decide) (fun _ => ?_) (fun c9 => absurd c9 (by decide))
      refine lv_iconst (v := 0) hx hb dX5_isRight_87 (by decide) ?_
      exact kRetZ (G := G) () hx hb hr hlocks hS dX5_isRight_88 rfl (kSubP (wc := []) hP [] rfl) (hD.sub (ws' := []) [] (by decide) rfl) (by first | exact Or.inl ⟨rfl, by omega⟩ | exact Or.inr ⟨rfl, by omega⟩)
  · refine lv_tableIn (off := 68) (tgt := 69) hx hb dX5_isRight_1 (by omega) (by omega) (by rw [w1]; rfl) (by decide) ?_
    refine lv_iload_n hx hb dX5_isRight_69 rfl (lv_at hl 1 rfl) ?_
    refine kCi (G := G) (ws := []) (wr := []) (va_runS (As := [.int x]) (rest := []) ⟨hx, hb, hml, hown, hts⟩ (c_X5_isLocal l G H.size x ) (va_cwS 1 hts gX5_isRight_X5_isLocal rfl rfl rfl (by decide +kernel) ⟨Nat.le_of_ble_eq_true rfl, Nat.le_of_ble_eq_true rfl⟩) (kPreS kZ0 kZt hK hP hD [] rfl (by decide)) rfl rfl hl.1 rfl (lv_room (Nat.le_of_ble_eq_true rfl)) dX5_isRight_70 ⟨Nat.le_of_ble_eq_true rfl, Nat.le_of_ble_eq_true rfl⟩) hP hD hS hA [] [] rfl rfl (by decide) (by decide) (fun r23 u22 H locs hw24 hP hD hS => ?_)
    try dsimp only at hw24
    have hP : va_P G.1 vwCl [] H := hP
    have hD : va_D A [] := hD
    rcases hw24 with ⟨rfl, hq25⟩ | ⟨rfl, hq25⟩
    · have _u := hsz
      refine lv_if_eq (tgt := 87) hx hb dX5_isRight_73 (by decide) (fun c9 => absurd c9 (by decide)) (fun _ => ?_)
      refine lv_iload_n hx hb dX5_isRight_76 rfl (lv_at hl 2 rfl) ?_
      refine kCi (G := G) (ws := []) (wr := []) (va_runS (As := [.int y]) (rest := []) ⟨hx, hb, hml, hown, hts⟩ (c_X5_isLocal l G H.size y ) (va_cwS 1 hts gX5_isRight_X5_isLocal rfl rfl rfl (by decide +kernel) ⟨Nat.le_of_ble_eq_true rfl, Nat.le_of_ble_eq_true rfl⟩) (kPreS kZ0 kZt hK hP hD [] rfl (by decide)) rfl rfl hl.1 rfl (lv_room (Nat.le_of_ble_eq_true rfl)) dX5_isRight_77 ⟨Nat.le_of_ble_eq_true rfl, Nat.le_of_ble_eq_true rfl⟩) hP hD hS hA [] [] rfl rfl (by decide) (by decide) (fun r27 u26 H locs hw28 hP hD hS => ?_)
      try dsimp only at hw28
      have hP : va_P G.1 vwCl [] H := hP
      have hD : va_D A [] := hD
      rcases hw28 with ⟨rfl, hq29⟩ | ⟨rfl, hq29⟩
      · have _u := hsz
        refine lv_if_eq (tgt := 87) hx hb dX5_isRight_80 (by decide) (fun c9 => absurd c9 (by decide)) (fun _ => ?_)
        refine lv_iconst (v := 1) hx hb dX5_isRight_83 (by decide) ?_
        refine lv_goto (tgt := 88) hx hb dX5_isRight_84 (by decide) ?_
        exact kRetZ (G := G) () hx hb hr hlocks hS dX5_isRight_88 rfl (kSubP (wc := []) hP [] rfl) (hD.sub (ws' := []) [] (by decide) rfl) (by first | exact Or.inl ⟨rfl, by omega⟩ | exact Or.inr ⟨rfl, by omega⟩)
      · have _u := hsz
        refine lv_if_eq (tgt := 87) hx hb dX5_isRight_80 (by decide) (fun _ => ?_) (fun c9 => absurd c9 (by decide))
        refine lv_iconst (v := 0) hx hb dX5_isRight_87 (by decide) ?_
        exact kRetZ (G := G) () hx hb hr hlocks hS dX5_isRight_88 rfl (kSubP (wc := []) hP [] rfl) (hD.sub (ws' := []) [] (by decide) rfl) (by first | exact Or.inl ⟨rfl, by omega⟩ | exact Or.inr ⟨rfl, by omega⟩)
    · have _u := hsz
      refine lv_if_eq (tgt := 87) hx hb dX5_isRight_73 (by decide) (fun _ => ?_) (fun c9 => absurd c9 (by decide))
      refine lv_iconst (v := 0) hx hb dX5_isRight_87 (by decide) ?_
      exact kRetZ (G := G) () hx hb hr hlocks hS dX5_isRight_88 rfl (kSubP (wc := []) hP [] rfl) (hD.sub (ws' := []) [] (by decide) rfl) (by first | exact Or.inl ⟨rfl, by omega⟩ | exact Or.inr ⟨rfl, by omega⟩)
  · refine lv_tableIn (off := 68) (tgt := 69) hx hb dX5_isRight_1 (by omega) (by omega) (by rw [w1]; rfl) (by decide) ?_
    refine lv_iload_n hx hb dX5_isRight_69 rfl (lv_at hl 1 rfl) ?_
    refine kCi (G := G) (ws := []) (wr := []) (va_runS (As := [.int x]) (rest := []) ⟨hx, hb, hml, hown, hts⟩ (c_X5_isLocal l G H.size x ) (va_cwS 1 hts gX5_isRight_X5_isLocal rfl rfl rfl (by decide +kernel) ⟨Nat.le_of_ble_eq_true rfl, Nat.le_of_ble_eq_true rfl⟩) (kPreS kZ0 kZt hK hP hD [] rfl (by decide)) rfl rfl hl.1 rfl (lv_room (Nat.le_of_ble_eq_true rfl)) dX5_isRight_70 ⟨Nat.le_of_ble_eq_true rfl, Nat.le_of_ble_eq_true rfl⟩) hP hD hS hA [] [] rfl rfl (by decide) (by decide) (fun r31 u30 H locs hw32 hP hD hS => ?_)
    try dsimp only at hw32
    have hP : va_P G.1 vwCl [] H := hP
    have hD : va_D A [] := hD
    rcases hw32 with ⟨rfl, hq33⟩ | ⟨rfl, hq33⟩
    · have _u := hsz
      refine lv_if_eq (tgt := 87) hx hb dX5_isRight_73 (by decide) (fun c9 => absurd c9 (by decide)) (fun _ => ?_)
      refine lv_iload_n hx hb dX5_isRight_76 rfl (lv_at hl 2 rfl) ?_
      refine kCi (G := G) (ws := []) (wr := []) (va_runS (As := [.int y]) (rest := []) ⟨hx, hb, hml, hown, hts⟩ (c_X5_isLocal l G H.size y ) (va_cwS 1 hts gX5_isRight_X5_isLocal rfl rfl rfl (by decide +kernel) ⟨Nat.le_of_ble_eq_true rfl, Nat.le_of_ble_eq_true rfl⟩) (kPreS kZ0 kZt hK hP hD [] rfl (by decide)) rfl rfl hl.1 rfl (lv_room (Nat.le_of_ble_eq_true rfl)) dX5_isRight_77 ⟨Nat.le_of_ble_eq_true rfl, Nat.le_of_ble_eq_true rfl⟩) hP hD hS hA [] [] rfl rfl (by decide) (by decide) (fun r35 u34 H locs hw36 hP hD hS => ?_)
      try dsimp only at hw36
      have hP : va_P G.1 vwCl [] H := hP
      have hD : va_D A [] := hD
      rcases hw36 with ⟨rfl, hq37⟩ | ⟨rfl, hq37⟩
      · have _u := hsz
        refine lv_if_eq (tgt := 87) hx hb dX5_isRight_80 (by decide) (fun c9 => absurd c9 (by decide)) (fun _ => ?_)
        refine lv_iconst (v := 1) hx hb dX5_isRight_83 (by decide) ?_
        refine lv_goto (tgt := 88) hx hb dX5_isRight_84 (by decide) ?_
        exact kRetZ (G := G) () hx hb hr hlocks hS dX5_isRight_88 rfl (kSubP (wc := []) hP [] rfl) (hD.sub (ws' := []) [] (by decide) rfl) (by first | exact Or.inl ⟨rfl, by omega⟩ | exact Or.inr ⟨rfl, by omega⟩)
      · have _u := hsz
        refine lv_if_eq (tgt := 87) hx hb dX5_isRight_80 (by decide) (fun _ => ?_) (fun c9 => absurd c9 (by decide))
        refine lv_iconst (v := 0) hx hb dX5_isRight_87 (by decide) ?_
        exact kRetZ (G := G) () hx hb hr hlocks hS dX5_isRight_88 rfl (kSubP (wc := []) hP [] rfl) (hD.sub (ws' := []) [] (by decide) rfl) (by first | exact Or.inl ⟨rfl, by omega⟩ | exact Or.inr ⟨rfl, by omega⟩)
    · have _u := hsz
      refine lv_if_eq (tgt := 87) hx hb dX5_isRight_73 (by decide) (fun _ => ?_) (fun c9 => absurd c9 (by decide))
      refine lv_iconst (v := 0) hx hb dX5_isRight_87 (by decide) ?_
      exact kRetZ (G := G) () hx hb hr hlocks hS dX5_isRight_88 rfl (kSubP (wc := []) hP [] rfl) (hD.sub (ws' := []) [] (by decide) rfl) (by first | exact Or.inl ⟨rfl, by omega⟩ | exact Or.inr ⟨rfl, by omega⟩)
  · refine lv_tableIn (off := 68) (tgt := 69) hx hb dX5_isRight_1 (by omega) (by omega) (by rw [w1]; rfl) (by decide) ?_
    refine lv_iload_n hx hb dX5_isRight_69 rfl (lv_at hl 1 rfl) ?_
    refine kCi (G := G) (ws := []) (wr := []) (va_runS (As := [.int x]) (rest := []) ⟨hx, hb, hml, hown, hts⟩ (c_X5_isLocal l G H.size x ) (va_cwS 1 hts gX5_isRight_X5_isLocal rfl rfl rfl (by decide +kernel) ⟨Nat.le_of_ble_eq_true rfl, Nat.le_of_ble_eq_true rfl⟩) (kPreS kZ0 kZt hK hP hD [] rfl (by decide)) rfl rfl hl.1 rfl (lv_room (Nat.le_of_ble_eq_true rfl)) dX5_isRight_70 ⟨Nat.le_of_ble_eq_true rfl, Nat.le_of_ble_eq_true rfl⟩) hP hD hS hA [] [] rfl rfl (by decide) (by decide) (fun r39 u38 H locs hw40 hP hD hS => ?_)
    try dsimp only at hw40
    have hP : va_P G.1 vwCl [] H := hP
    have hD : va_D A [] := hD
    rcases hw40 with ⟨rfl, hq41⟩ | ⟨rfl, hq41⟩
    · have _u := hsz
      refine lv_if_eq (tgt := 87) hx hb dX5_isRight_73 (by decide) (fun c9 => absurd c9 (by decide)) (fun _ => ?_)
      refine lv_iload_n hx hb dX5_isRight_76 rfl (lv_at hl 2 rfl) ?_
      refine kCi (G := G) (ws := []) (wr := []) (va_runS (As := [.int y]) (rest := []) ⟨hx, hb, hml, hown, hts⟩ (c_X5_isLocal l G H.size y ) (va_cwS 1 hts gX5_isRight_X5_isLocal rfl rfl rfl (by decide +kernel) ⟨Nat.le_of_ble_eq_true rfl, Nat.le_of_ble_eq_true rfl⟩) (kPreS kZ0 kZt hK hP hD [] rfl (by decide)) rfl rfl hl.1 rfl (lv_room (Nat.le_of_ble_eq_true rfl)) dX5_isRight_77 ⟨Nat.le_of_ble_eq_true rfl, Nat.le_of_ble_eq_true rfl⟩) hP hD hS hA [] [] rfl rfl (by decide) (by decide) (fun r43 u42 H locs hw44 hP hD hS => ?_)
      try dsimp only at hw44
      have hP : va_P G.1 vwCl [] H := hP
      have hD : va_D A [] := hD
      rcases hw44 with ⟨rfl, hq45⟩ | ⟨rfl, hq45⟩
      · have _u := hsz
        refine lv_if_eq (tgt := 87) hx hb dX5_isRight_80 (by decide) (fun c9 => absurd c9 (by decide)) (fun _ => ?_)
        refine lv_iconst (v := 1) hx hb dX5_isRight_83 (by decide) ?_
        refine lv_goto (tgt := 88) hx hb dX5_isRight_84 (by decide) ?_
        exact kRetZ (G := G) () hx hb hr hlocks hS dX5_isRight_88 rfl (kSubP (wc := []) hP [] rfl) (hD.sub (ws' := []) [] (by decide) rfl) (by first | exact Or.inl ⟨rfl, by omega⟩ | exact Or.inr ⟨rfl, by omega⟩)
      · have _u := hsz
        refine lv_if_eq (tgt := 87) hx hb dX5_isRight_80 (by decide) (fun _ => ?_) (fun c9 => absurd c9 (by decide))
        refine lv_iconst (v := 0) hx hb dX5_isRight_87 (by decide) ?_
        exact kRetZ (G := G) () hx hb hr hlocks hS dX5_isRight_88 rfl (kSubP (wc := []) hP [] rfl) (hD.sub (ws' := []) [] (by decide) rfl) (by first | exact Or.inl ⟨rfl, by omega⟩ | exact Or.inr ⟨rfl, by omega⟩)
    · have _u := hsz
      refine lv_if_eq (tgt := 87) hx hb dX5_isRight_73 (by decide) (fun _ => ?_) (fun c9 => absurd c9 (by decide))
      refine lv_iconst (v := 0) hx hb dX5_isRight_87 (by decide) ?_
      exact kRetZ (G := G) () hx hb hr hlocks hS dX5_isRight_88 rfl (kSubP (wc := []) hP [] rfl) (hD.sub (ws' := []) [] (by decide) rfl) (by first | exact Or.inl ⟨rfl, by omega⟩ | exact Or.inr ⟨rfl, by omega⟩)
  · refine lv_tableIn (off := 68) (tgt := 69) hx hb dX5_isRight_1 (by omega) (by omega) (by rw [w1]; rfl) (by decide) ?_
    refine lv_iload_n hx hb dX5_isRight_69 rfl (lv_at hl 1 rfl) ?_
    refine kCi (G := G) (ws := []) (wr := []) (va_runS (As := [.int x]) (rest := []) ⟨hx, hb, hml, hown, hts⟩ (c_X5_isLocal l G H.size x ) (va_cwS 1 hts gX5_isRight_X5_isLocal rfl rfl rfl (by decide +kernel) ⟨Nat.le_of_ble_eq_true rfl, Nat.le_of_ble_eq_true rfl⟩) (kPreS kZ0 kZt hK hP hD [] rfl (by decide)) rfl rfl hl.1 rfl (lv_room (Nat.le_of_ble_eq_true rfl)) dX5_isRight_70 ⟨Nat.le_of_ble_eq_true rfl, Nat.le_of_ble_eq_true rfl⟩) hP hD hS hA [] [] rfl rfl (by decide) (by decide) (fun r47 u46 H locs hw48 hP hD hS => ?_)
    try dsimp only at hw48
    have hP : va_P G.1 vwCl [] H := hP
    have hD : va_D A [] := hD
    rcases hw48 with ⟨rfl, hq49⟩ | ⟨rfl, hq49⟩
    · have _u := hsz
      refine lv_if_eq (tgt := 87) hx hb dX5_isRight_73 (by decide) (fun c9 => absurd c9 (by decide)) (fun _ => ?_)
      refine lv_iload_n hx hb dX5_isRight_76 rfl (lv_at hl 2 rfl) ?_
      refine kCi (G := G) (ws := []) (wr := []) (va_runS (As := [.int y]) (rest := []) ⟨hx, hb, hml, hown, hts⟩ (c_X5_isLocal l G H.size y ) (va_cwS 1 hts gX5_isRight_X5_isLocal rfl rfl rfl (by decide +kernel) ⟨Nat.le_of_ble_eq_true rfl, Nat.le_of_ble_eq_true rfl⟩) (kPreS kZ0 kZt hK hP hD [] rfl (by decide)) rfl rfl hl.1 rfl (lv_room (Nat.le_of_ble_eq_true rfl)) dX5_isRight_77 ⟨Nat.le_of_ble_eq_true rfl, Nat.le_of_ble_eq_true rfl⟩) hP hD hS hA [] [] rfl rfl (by decide) (by decide) (fun r51 u50 H locs hw52 hP hD hS => ?_)
      try dsimp only at hw52
      have hP : va_P G.1 vwCl [] H := hP
      have hD : va_D A [] := hD
      rcases hw52 with ⟨rfl, hq53⟩ | ⟨rfl, hq53⟩
      · have _u := hsz
        refine lv_if_eq (tgt := 87) hx hb dX5_isRight_80 (by decide) (fun c9 => absurd c9 (by decide)) (fun _ => ?_)
        refine lv_iconst (v := 1) hx hb dX5_isRight_83 (by decide) ?_
        refine lv_goto (tgt := 88) hx hb dX5_isRight_84 (by decide) ?_
        exact kRetZ (G := G) () hx hb hr hlocks hS dX5_isRight_88 rfl (kSubP (wc := []) hP [] rfl) (hD.sub (ws' := []) [] (by decide) rfl) (by first | exact Or.inl ⟨rfl, by omega⟩ | exact Or.inr ⟨rfl, by omega⟩)
      · have _u := hsz
        refine lv_if_eq (tgt := 87) hx hb dX5_isRight_80 (by decide) (fun _ => ?_) (fun c9 => absurd c9 (by decide))
        refine lv_iconst (v := 0) hx hb dX5_isRight_87 (by decide) ?_
        exact kRetZ (G := G) () hx hb hr hlocks hS dX5_isRight_88 rfl (kSubP (wc := []) hP [] rfl) (hD.sub (ws' := []) [] (by decide) rfl) (by first | exact Or.inl ⟨rfl, by omega⟩ | exact Or.inr ⟨rfl, by omega⟩)
    · have _u := hsz
      refine lv_if_eq (tgt := 87) hx hb dX5_isRight_73 (by decide) (fun _ => ?_) (fun c9 => absurd c9 (by decide))
      refine lv_iconst (v := 0) hx hb dX5_isRight_87 (by decide) ?_
      exact kRetZ (G := G) () hx hb hr hlocks hS dX5_isRight_88 rfl (kSubP (wc := []) hP [] rfl) (hD.sub (ws' := []) [] (by decide) rfl) (by first | exact Or.inl ⟨rfl, by omega⟩ | exact Or.inr ⟨rfl, by omega⟩)
  · refine lv_tableIn (off := 104) (tgt := 105) hx hb dX5_isRight_1 (by omega) (by omega) (by rw [w1]; rfl) (by decide) ?_
    refine lv_iload_n hx hb dX5_isRight_105 rfl (lv_at hl 0 rfl) ?_
    refine lv_bipush (v := 7) hx hb dX5_isRight_106 (by decide) ?_
    refine lv_icmp_eq (tgt := 117) hx hb dX5_isRight_108 (by decide) (fun c54 => ?_) (fun c54 => ?_)
    · have t54 := i_eq.mp c54
      refine lv_iconst (v := 1) hx hb dX5_isRight_117 (by decide) ?_
      refine lv_goto (tgt := 122) hx hb dX5_isRight_118 (by decide) ?_
      exact kRetZ (G := G) () hx hb hr hlocks hS dX5_isRight_122 rfl (kSubP (wc := []) hP [] rfl) (hD.sub (ws' := []) [] (by decide) rfl) (by first | exact Or.inl ⟨rfl, by omega⟩ | exact Or.inr ⟨rfl, by omega⟩)
    · have t54 := i_ne.mp c54
      refine lv_iload_n hx hb dX5_isRight_111 rfl (lv_at hl 0 rfl) ?_
      refine lv_bipush (v := 12) hx hb dX5_isRight_112 (by decide) ?_
      refine lv_icmp_ne (tgt := 121) hx hb dX5_isRight_114 (by decide) (fun c55 => ?_) (fun c55 => ?_)
      · have t55 := i_ne.mp c55
        refine lv_iconst (v := 0) hx hb dX5_isRight_121 (by decide) ?_
        exact kRetZ (G := G) () hx hb hr hlocks hS dX5_isRight_122 rfl (kSubP (wc := []) hP [] rfl) (hD.sub (ws' := []) [] (by decide) rfl) (by first | exact Or.inl ⟨rfl, by omega⟩ | exact Or.inr ⟨rfl, by omega⟩)
      · have t55 := i_eq.mp c55
        refine lv_iconst (v := 1) hx hb dX5_isRight_117 (by decide) ?_
        refine lv_goto (tgt := 122) hx hb dX5_isRight_118 (by decide) ?_
        exact kRetZ (G := G) () hx hb hr hlocks hS dX5_isRight_122 rfl (kSubP (wc := []) hP [] rfl) (hD.sub (ws' := []) [] (by decide) rfl) (by first | exact Or.inl ⟨rfl, by omega⟩ | exact Or.inr ⟨rfl, by omega⟩)
  · refine lv_tableIn (off := 63) (tgt := 64) hx hb dX5_isRight_1 (by omega) (by omega) (by rw [w1]; rfl) (by decide) ?_
    refine lv_iload_n hx hb dX5_isRight_64 rfl (lv_at hl 1 rfl) ?_
    refine kCi (G := G) (ws := []) (wr := []) (va_runS (As := [.int x]) (rest := []) ⟨hx, hb, hml, hown, hts⟩ (c_X5_isLocal l G H.size x ) (va_cwS 1 hts gX5_isRight_X5_isLocal rfl rfl rfl (by decide +kernel) ⟨Nat.le_of_ble_eq_true rfl, Nat.le_of_ble_eq_true rfl⟩) (kPreS kZ0 kZt hK hP hD [] rfl (by decide)) rfl rfl hl.1 rfl (lv_room (Nat.le_of_ble_eq_true rfl)) dX5_isRight_65 ⟨Nat.le_of_ble_eq_true rfl, Nat.le_of_ble_eq_true rfl⟩) hP hD hS hA [] [] rfl rfl (by decide) (by decide) (fun r57 u56 H locs hw58 hP hD hS => ?_)
    try dsimp only at hw58
    have hP : va_P G.1 vwCl [] H := hP
    have hD : va_D A [] := hD
    rcases hw58 with ⟨rfl, hq59⟩ | ⟨rfl, hq59⟩
    · have _u := hsz
      exact kRetZ (G := G) () hx hb hr hlocks hS dX5_isRight_68 rfl (kSubP (wc := []) hP [] rfl) (hD.sub (ws' := []) [] (by decide) rfl) (by first | exact Or.inl ⟨rfl, by omega⟩ | exact Or.inr ⟨rfl, by omega⟩)
    · have _u := hsz
      exact kRetZ (G := G) () hx hb hr hlocks hS dX5_isRight_68 rfl (kSubP (wc := []) hP [] rfl) (hD.sub (ws' := []) [] (by decide) rfl) (by first | exact Or.inl ⟨rfl, by omega⟩ | exact Or.inr ⟨rfl, by omega⟩)
  · refine lv_tableIn (off := 88) (tgt := 89) hx hb dX5_isRight_1 (by omega) (by omega) (by rw [w1]; rfl) (by decide) ?_
    refine lv_iload_n hx hb dX5_isRight_89 rfl (lv_at hl 2 rfl) ?_
    refine lv_if_lt (tgt := 103) hx hb dX5_isRight_90 (by decide) (fun c60 => ?_) (fun c60 => ?_)
    · have t60 := i_lt.mp c60
      refine lv_iconst (v := 0) hx hb dX5_isRight_103 (by decide) ?_
      exact kRetZ (G := G) () hx hb hr hlocks hS dX5_isRight_104 rfl (kSubP (wc := []) hP [] rfl) (hD.sub (ws' := []) [] (by decide) rfl) (by first | exact Or.inl ⟨rfl, by omega⟩ | exact Or.inr ⟨rfl, by omega⟩)
    · have t60 := i_nlt.mp c60
      refine lv_iload_n hx hb dX5_isRight_93 rfl (lv_at hl 2 rfl) ?_
      refine lv_bipush (v := 8) hx hb dX5_isRight_94 (by decide) ?_
      refine lv_icmp_gt (tgt := 103) hx hb dX5_isRight_96 (by decide) (fun c61 => ?_) (fun c61 => ?_)
      · have t61 := i_lt.mp c61
        refine lv_iconst (v := 0) hx hb dX5_isRight_103 (by decide) ?_
        exact kRetZ (G := G) () hx hb hr hlocks hS dX5_isRight_104 rfl (kSubP (wc := []) hP [] rfl) (hD.sub (ws' := []) [] (by decide) rfl) (by first | exact Or.inl ⟨rfl, by omega⟩ | exact Or.inr ⟨rfl, by omega⟩)
      · have t61 := i_nlt.mp c61
        refine lv_iconst (v := 1) hx hb dX5_isRight_99 (by decide) ?_
        refine lv_goto (tgt := 104) hx hb dX5_isRight_100 (by decide) ?_
        exact kRetZ (G := G) () hx hb hr hlocks hS dX5_isRight_104 rfl (kSubP (wc := []) hP [] rfl) (hD.sub (ws' := []) [] (by decide) rfl) (by first | exact Or.inl ⟨rfl, by omega⟩ | exact Or.inr ⟨rfl, by omega⟩)
  · refine lv_tableIn (off := 63) (tgt := 64) hx hb dX5_isRight_1 (by omega) (by omega) (by rw [w1]; rfl) (by decide) ?_
    refine lv_iload_n hx hb dX5_isRight_64 rfl (lv_at hl 1 rfl) ?_
    refine kCi (G := G) (ws := []) (wr := []) (va_runS (As := [.int x]) (rest := []) ⟨hx, hb, hml, hown, hts⟩ (c_X5_isLocal l G H.size x ) (va_cwS 1 hts gX5_isRight_X5_isLocal rfl rfl rfl (by decide +kernel) ⟨Nat.le_of_ble_eq_true rfl, Nat.le_of_ble_eq_true rfl⟩) (kPreS kZ0 kZt hK hP hD [] rfl (by decide)) rfl rfl hl.1 rfl (lv_room (Nat.le_of_ble_eq_true rfl)) dX5_isRight_65 ⟨Nat.le_of_ble_eq_true rfl, Nat.le_of_ble_eq_true rfl⟩) hP hD hS hA [] [] rfl rfl (by decide) (by decide) (fun r63 u62 H locs hw64 hP hD hS => ?_)
    try dsimp only at hw64
    have hP : va_P G.1 vwCl [] H := hP
    have hD : va_D A [] := hD
    rcases hw64 with ⟨rfl, hq65⟩ | ⟨rfl, hq65⟩
    · have _u := hsz
      exact kRetZ (G := G) () hx hb hr hlocks hS dX5_isRight_68 rfl (kSubP (wc := []) hP [] rfl) (hD.sub (ws' := []) [] (by decide) rfl) (by first | exact Or.inl ⟨rfl, by omega⟩ | exact Or.inr ⟨rfl, by omega⟩)
    · have _u := hsz
      exact kRetZ (G := G) () hx hb hr hlocks hS dX5_isRight_68 rfl (kSubP (wc := []) hP [] rfl) (hD.sub (ws' := []) [] (by decide) rfl) (by first | exact Or.inl ⟨rfl, by omega⟩ | exact Or.inr ⟨rfl, by omega⟩)
  · refine lv_tableIn (off := 63) (tgt := 64) hx hb dX5_isRight_1 (by omega) (by omega) (by rw [w1]; rfl) (by decide) ?_
    refine lv_iload_n hx hb dX5_isRight_64 rfl (lv_at hl 1 rfl) ?_
    refine kCi (G := G) (ws := []) (wr := []) (va_runS (As := [.int x]) (rest := []) ⟨hx, hb, hml, hown, hts⟩ (c_X5_isLocal l G H.size x ) (va_cwS 1 hts gX5_isRight_X5_isLocal rfl rfl rfl (by decide +kernel) ⟨Nat.le_of_ble_eq_true rfl, Nat.le_of_ble_eq_true rfl⟩) (kPreS kZ0 kZt hK hP hD [] rfl (by decide)) rfl rfl hl.1 rfl (lv_room (Nat.le_of_ble_eq_true rfl)) dX5_isRight_65 ⟨Nat.le_of_ble_eq_true rfl, Nat.le_of_ble_eq_true rfl⟩) hP hD hS hA [] [] rfl rfl (by decide) (by decide) (fun r67 u66 H locs hw68 hP hD hS => ?_)
    try dsimp only at hw68
    have hP : va_P G.1 vwCl [] H := hP
    have hD : va_D A [] := hD
    rcases hw68 with ⟨rfl, hq69⟩ | ⟨rfl, hq69⟩
    · have _u := hsz
      exact kRetZ (G := G) () hx hb hr hlocks hS dX5_isRight_68 rfl (kSubP (wc := []) hP [] rfl) (hD.sub (ws' := []) [] (by decide) rfl) (by first | exact Or.inl ⟨rfl, by omega⟩ | exact Or.inr ⟨rfl, by omega⟩)
    · have _u := hsz
      exact kRetZ (G := G) () hx hb hr hlocks hS dX5_isRight_68 rfl (kSubP (wc := []) hP [] rfl) (hD.sub (ws' := []) [] (by decide) rfl) (by first | exact Or.inl ⟨rfl, by omega⟩ | exact Or.inr ⟨rfl, by omega⟩)
  · refine lv_tableOut (tgt := 105) hx hb dX5_isRight_1 w1 (by decide) ?_
    refine lv_iload_n hx hb dX5_isRight_105 rfl (lv_at hl 0 rfl) ?_
    refine lv_bipush (v := 7) hx hb dX5_isRight_106 (by decide) ?_
    refine lv_icmp_eq (tgt := 117) hx hb dX5_isRight_108 (by decide) (fun c70 => ?_) (fun c70 => ?_)
    · have t70 := i_eq.mp c70
      refine lv_iconst (v := 1) hx hb dX5_isRight_117 (by decide) ?_
      refine lv_goto (tgt := 122) hx hb dX5_isRight_118 (by decide) ?_
      exact kRetZ (G := G) () hx hb hr hlocks hS dX5_isRight_122 rfl (kSubP (wc := []) hP [] rfl) (hD.sub (ws' := []) [] (by decide) rfl) (by first | exact Or.inl ⟨rfl, by omega⟩ | exact Or.inr ⟨rfl, by omega⟩)
    · have t70 := i_ne.mp c70
      refine lv_iload_n hx hb dX5_isRight_111 rfl (lv_at hl 0 rfl) ?_
      refine lv_bipush (v := 12) hx hb dX5_isRight_112 (by decide) ?_
      refine lv_icmp_ne (tgt := 121) hx hb dX5_isRight_114 (by decide) (fun c71 => ?_) (fun c71 => ?_)
      · have t71 := i_ne.mp c71
        refine lv_iconst (v := 0) hx hb dX5_isRight_121 (by decide) ?_
        exact kRetZ (G := G) () hx hb hr hlocks hS dX5_isRight_122 rfl (kSubP (wc := []) hP [] rfl) (hD.sub (ws' := []) [] (by decide) rfl) (by first | exact Or.inl ⟨rfl, by omega⟩ | exact Or.inr ⟨rfl, by omega⟩)
      · have t71 := i_eq.mp c71
        refine lv_iconst (v := 1) hx hb dX5_isRight_117 (by decide) ?_
        refine lv_goto (tgt := 122) hx hb dX5_isRight_118 (by decide) ?_
        exact kRetZ (G := G) () hx hb hr hlocks hS dX5_isRight_122 rfl (kSubP (wc := []) hP [] rfl) (hD.sub (ws' := []) [] (by decide) rfl) (by first | exact Or.inl ⟨rfl, by omega⟩ | exact Or.inr ⟨rfl, by omega⟩)

set_option maxHeartbeats 4000000 in
set_option maxRecDepth 100000 in
/-- thrown() -/
theorem c_X5_thrown (l : Launch) (G : gG) (sz : Nat) (a : Nat) (c0 : Int32) (vs : List Value) : Met l yX5_thrown wsX5_thrown { frames := 0, cells := 0, slots := 0, locals := 0 } (kPc G [.ref a] [kO a 5 (.int c0 :: vs)] sz (fun _ => True)) (kQi G (S := Unit) (fun r _ => r = c0) (fun _ => []) (va_A [kO a 5 (.int c0 :: vs)] sz)) 0 0 (va_A [kO a 5 (.int c0 :: vs)] sz) := by
  refine kBeg (Qc := fun A => kQi G (S := Unit) (fun r _ => r = c0) (fun _ => []) A) (by decide) rfl (Nat.le_of_ble_eq_true rfl) ?_
  intro A p e s m below meth c ls H locs hx hb hr hts hown hlocks hnm hml hsz hP hK hD hZ hA hS hl
  have hown : s.vm.findClass RX5 = some m.cls := hown
  have hl : lv_has ls 1 [(0, .ref a)] := hl
  have in5 : ∀ w ∈ wsX50, w ∈ wsX5_thrown := by decide +kernel
  refine lv_aload_n hx hb dX5_thrown_0 rfl (lv_at hl 0 rfl) ?_
  refine va_get (D := G.1) (ci := 5) (v := .int c0) (C := RX5) (T := TX5) (N := 23) hx hb hts in5 hown hK hP 0 rfl rfl 0 (by decide) (hts (.fieldLink RX5 51 "TraceDebuggerModel" "code" "I") (by decide +kernel)) (fun _ h9 => h9) rfl dX5_thrown_1 ?_
  exact kRetI (G := G) () hx hb hr hlocks hS dX5_thrown_4 (kSubP (wc := []) hP [] rfl) (hD.sub (ws' := []) [] (by decide) rfl) rfl

set_option maxHeartbeats 4000000 in
set_option maxRecDepth 100000 in
theorem c_X5_line (l : Launch) (G : gG) (sz : Nat) (q : Nat → Nat) (sp : Int32) (o : Int32) (x : Int32) (y : Int32)  : Met l yX5_line wsX5_line { frames := 2, cells := 0, slots := 0, locals := 42 } (kPc G [.ref (q 0), .int o, .int x, .int y] [kO (q 0) 5 [.int 0, .int sp, .int sp, .ref (q 1), .ref (q 2), .ref (q 3), .ref (q 4), .int 0, .ref (q 5), .ref (q 6), .ref (q 7), .ref (q 8), .ref (q 9), .int 1, .int 0, .ref (q 10), .int 0, .int 0, .int 0, .int (-1), .ref (q 11), .int 1, .int 0], kI (q 1) (G.2 0) 80 (fun _ => 0), kI (q 2) (G.2 0) 80 (fun _ => 0), kI (q 3) (G.2 0) 80 (fun _ => 0), kI (q 4) (G.2 1) 80 (fun _ => 0), kI (q 6) (G.2 0) 64 (fun _ => 0), kI (q 7) (G.2 0) 64 (fun _ => 0), kI (q 8) (G.2 0) 128 (fun _ => 0), kI (q 9) (G.2 0) 16 (fun _ => 0), kI (q 11) (G.2 0) 8 (fun _ => 0)] sz (fun _ => True)) (kQi G (S := Int32 × Int32) (fun r u => (u.1 = 0 ∧ r = 0 ∧ ((0 ≤ o.toInt ∧ o.toInt ≤ 12) ∧ ((o.toInt ≤ 6 ∨ o.toInt = 8 ∨ o.toInt = 10 ∨ o.toInt = 11) → (0 ≤ x.toInt ∧ x.toInt < 8)) ∧ ((1 ≤ o.toInt ∧ o.toInt ≤ 6) → (0 ≤ y.toInt ∧ y.toInt < 8)) ∧ (o.toInt = 9 → (0 ≤ y.toInt ∧ y.toInt ≤ 8)))) ∨ (u.1 = 1 ∧ ¬ ((0 ≤ o.toInt ∧ o.toInt ≤ 12) ∧ ((o.toInt ≤ 6 ∨ o.toInt = 8 ∨ o.toInt = 10 ∨ o.toInt = 11) → (0 ≤ x.toInt ∧ x.toInt < 8)) ∧ ((1 ≤ o.toInt ∧ o.toInt ≤ 6) → (0 ≤ y.toInt ∧ y.toInt < 8)) ∧ (o.toInt = 9 → (0 ≤ y.toInt ∧ y.toInt ≤ 8))))) (fun u => [kO (q 0) 5 [.int u.1, .int sp, .int sp, .ref (q 1), .ref (q 2), .ref (q 3), .ref (q 4), .int u.2, .ref (q 5), .ref (q 6), .ref (q 7), .ref (q 8), .ref (q 9), .int 1, .int 0, .ref (q 10), .int 0, .int 0, .int 0, .int (-1), .ref (q 11), .int 1, .int 0]]) (va_A [kO (q 0) 5 [.int 0, .int sp, .int sp, .ref (q 1), .ref (q 2), .ref (q 3), .ref (q 4), .int 0, .ref (q 5), .ref (q 6), .ref (q 7), .ref (q 8), .ref (q 9), .int 1, .int 0, .ref (q 10), .int 0, .int 0, .int 0, .int (-1), .ref (q 11), .int 1, .int 0], kI (q 1) (G.2 0) 80 (fun _ => 0), kI (q 2) (G.2 0) 80 (fun _ => 0), kI (q 3) (G.2 0) 80 (fun _ => 0), kI (q 4) (G.2 1) 80 (fun _ => 0), kI (q 6) (G.2 0) 64 (fun _ => 0), kI (q 7) (G.2 0) 64 (fun _ => 0), kI (q 8) (G.2 0) 128 (fun _ => 0), kI (q 9) (G.2 0) 16 (fun _ => 0), kI (q 11) (G.2 0) 8 (fun _ => 0)] sz)) 0 0 (va_A [kO (q 0) 5 [.int 0, .int sp, .int sp, .ref (q 1), .ref (q 2), .ref (q 3), .ref (q 4), .int 0, .ref (q 5), .ref (q 6), .ref (q 7), .ref (q 8), .ref (q 9), .int 1, .int 0, .ref (q 10), .int 0, .int 0, .int 0, .int (-1), .ref (q 11), .int 1, .int 0], kI (q 1) (G.2 0) 80 (fun _ => 0), kI (q 2) (G.2 0) 80 (fun _ => 0), kI (q 3) (G.2 0) 80 (fun _ => 0), kI (q 4) (G.2 1) 80 (fun _ => 0), kI (q 6) (G.2 0) 64 (fun _ => 0), kI (q 7) (G.2 0) 64 (fun _ => 0), kI (q 8) (G.2 0) 128 (fun _ => 0), kI (q 9) (G.2 0) 16 (fun _ => 0), kI (q 11) (G.2 0) 8 (fun _ => 0)] sz) := by
  refine kBeg (Qc := fun A => kQi G (S := Int32 × Int32) (fun r u => (u.1 = 0 ∧ r = 0 ∧ ((0 ≤ o.toInt ∧ o.toInt ≤ 12) ∧ ((o.toInt ≤ 6 ∨ o.toInt = 8 ∨ o.toInt = 10 ∨ o.toInt = 11) → (0 ≤ x.toInt ∧ x.toInt < 8)) ∧ ((1 ≤ o.toInt ∧ o.toInt ≤ 6) → (0 ≤ y.toInt ∧ y.toInt < 8)) ∧ (o.toInt = 9 → (0 ≤ y.toInt ∧ y.toInt ≤ 8)))) ∨ (u.1 = 1 ∧ ¬ ((0 ≤ o.toInt ∧ o.toInt ≤ 12) ∧ ((o.toInt ≤ 6 ∨ o.toInt = 8 ∨ o.toInt = 10 ∨ o.toInt = 11) → (0 ≤ x.toInt ∧ x.toInt < 8)) ∧ ((1 ≤ o.toInt ∧ o.toInt ≤ 6) → (0 ≤ y.toInt ∧ y.toInt < 8)) ∧ (o.toInt = 9 → (0 ≤ y.toInt ∧ y.toInt ≤ 8))))) (fun u => [kO (q 0) 5 [.int u.1, .int sp, .int sp, .ref (q 1), .ref (q 2), .ref (q 3), .ref (q 4), .int u.2, .ref (q 5), .ref (q 6), .ref (q 7), .ref (q 8), .ref (q 9), .int 1, .int 0, .ref (q 10), .int 0, .int 0, .int 0, .int (-1), .ref (q 11), .int 1, .int 0]]) A) (by decide) rfl (Nat.le_of_ble_eq_true rfl) ?_
  intro A p e s m below meth c ls H locs hx hb hr hts hown hlocks hnm hml hsz hP hK hD hZ hA hS hl
  have hown : s.vm.findClass RX5 = some m.cls := hown
  have hl : lv_has ls 4 [(0, .ref (q 0)), (1, .int o), (2, .int x), (3, .int y)] := hl
  have in5 : ∀ w ∈ wsX50, w ∈ wsX5_line := by decide +kernel
  have kc0 : (0 : Int32).toInt = 0 := by decide
  have kc1 : (1 : Int32).toInt = 1 := by decide
  have kc80 : (80 : Int32).toInt = 80 := by decide
  refine lv_aload_n hx hb dX5_line_0 rfl (lv_at hl 0 rfl) ?_
  refine lv_iload_n hx hb dX5_line_1 rfl (lv_at hl 1 rfl) ?_
  refine lv_iload_n hx hb dX5_line_2 rfl (lv_at hl 2 rfl) ?_
  refine lv_iload_n hx hb dX5_line_3 rfl (lv_at hl 3 rfl) ?_
  refine kCi (G := G) (ws := [kO (q 0) 5 [.int 0, .int sp, .int sp, .ref (q 1), .ref (q 2), .ref (q 3), .ref (q 4), .int 0, .ref (q 5), .ref (q 6), .ref (q 7), .ref (q 8), .ref (q 9), .int 1, .int 0, .ref (q 10), .int 0, .int 0, .int 0, .int (-1), .ref (q 11), .int 1, .int 0], kI (q 1) (G.2 0) 80 (fun _ => 0), kI (q 2) (G.2 0) 80 (fun _ => 0), kI (q 3) (G.2 0) 80 (fun _ => 0), kI (q 4) (G.2 1) 80 (fun _ => 0), kI (q 6) (G.2 0) 64 (fun _ => 0), kI (q 7) (G.2 0) 64 (fun _ => 0), kI (q 8) (G.2 0) 128 (fun _ => 0), kI (q 9) (G.2 0) 16 (fun _ => 0), kI (q 11) (G.2 0) 8 (fun _ => 0)]) (wr := [kO (q 0) 5 [.int 0, .int sp, .int sp, .ref (q 1), .ref (q 2), .ref (q 3), .ref (q 4), .int 0, .ref (q 5), .ref (q 6), .ref (q 7), .ref (q 8), .ref (q 9), .int 1, .int 0, .ref (q 10), .int 0, .int 0, .int 0, .int (-1), .ref (q 11), .int 1, .int 0], kI (q 1) (G.2 0) 80 (fun _ => 0), kI (q 2) (G.2 0) 80 (fun _ => 0), kI (q 3) (G.2 0) 80 (fun _ => 0), kI (q 4) (G.2 1) 80 (fun _ => 0), kI (q 6) (G.2 0) 64 (fun _ => 0), kI (q 7) (G.2 0) 64 (fun _ => 0), kI (q 8) (G.2 0) 128 (fun _ => 0), kI (q 9) (G.2 0) 16 (fun _ => 0), kI (q 11) (G.2 0) 8 (fun _ => 0)]) (va_runS (As := [.int o, .int x, .int y]) (rest := [.ref (q 0)]) ⟨hx, hb, hml, hown, hts⟩ (c_X5_isRight l G H.size o x y ) (va_cwS 3 hts gX5_line_X5_isRight rfl rfl rfl (by decide +kernel) ⟨Nat.le_of_ble_eq_true rfl, Nat.le_of_ble_eq_true rfl⟩) (kPreS kZ0 kZt hK hP hD [] rfl (by decide)) rfl rfl hl.1 rfl (lv_room (Nat.le_of_ble_eq_true rfl)) dX5_line_4 ⟨Nat.le_of_ble_eq_true rfl, Nat.le_of_ble_eq_true rfl⟩) hP hD hS hA [] [0, 1, 2, 3, 4, 5, 6, 7, 8, 9] rfl rfl (by decide) (by decide) (fun r2 u1 H locs hw3 hP hD hS => ?_)
  try dsimp only at hw3
  have hP : va_P G.1 vwCl [kO (q 0) 5 [.int 0, .int sp, .int sp, .ref (q 1), .ref (q 2), .ref (q 3), .ref (q 4), .int 0, .ref (q 5), .ref (q 6), .ref (q 7), .ref (q 8), .ref (q 9), .int 1, .int 0, .ref (q 10), .int 0, .int 0, .int 0, .int (-1), .ref (q 11), .int 1, .int 0], kI (q 1) (G.2 0) 80 (fun _ => 0), kI (q 2) (G.2 0) 80 (fun _ => 0), kI (q 3) (G.2 0) 80 (fun _ => 0), kI (q 4) (G.2 1) 80 (fun _ => 0), kI (q 6) (G.2 0) 64 (fun _ => 0), kI (q 7) (G.2 0) 64 (fun _ => 0), kI (q 8) (G.2 0) 128 (fun _ => 0), kI (q 9) (G.2 0) 16 (fun _ => 0), kI (q 11) (G.2 0) 8 (fun _ => 0)] H := hP
  have hD : va_D A [kO (q 0) 5 [.int 0, .int sp, .int sp, .ref (q 1), .ref (q 2), .ref (q 3), .ref (q 4), .int 0, .ref (q 5), .ref (q 6), .ref (q 7), .ref (q 8), .ref (q 9), .int 1, .int 0, .ref (q 10), .int 0, .int 0, .int 0, .int (-1), .ref (q 11), .int 1, .int 0], kI (q 1) (G.2 0) 80 (fun _ => 0), kI (q 2) (G.2 0) 80 (fun _ => 0), kI (q 3) (G.2 0) 80 (fun _ => 0), kI (q 4) (G.2 1) 80 (fun _ => 0), kI (q 6) (G.2 0) 64 (fun _ => 0), kI (q 7) (G.2 0) 64 (fun _ => 0), kI (q 8) (G.2 0) 128 (fun _ => 0), kI (q 9) (G.2 0) 16 (fun _ => 0), kI (q 11) (G.2 0) 8 (fun _ => 0)] := hD
  rcases hw3 with ⟨rfl, hq4⟩ | ⟨rfl, hq4⟩
  · have _u := hsz
    refine lv_if_ne (tgt := 14) hx hb dX5_line_7 (by decide) (fun _ => ?_) (fun c9 => absurd c9 (by decide))
    refine lv_aload_n hx hb dX5_line_14 rfl (lv_at hl 0 rfl) ?_
    refine va_get (D := G.1) (ci := 5) (v := .int 0) (C := RX5) (T := TX5) (N := 23) hx hb hts in5 hown hK hP 0 rfl rfl 14 (by decide) (hts (.fieldLink RX5 73 "TraceDebuggerModel" "time" "I") (by decide +kernel)) (fun _ h9 => h9) rfl dX5_line_15 ?_
    refine lv_if_eq (tgt := 25) hx hb dX5_line_18 (by decide) (fun _ => ?_) (fun c9 => absurd c9 (by decide))
    refine lv_aload_n hx hb dX5_line_25 rfl (lv_at hl 0 rfl) ?_
    refine va_get (D := G.1) (ci := 5) (v := .int 0) (C := RX5) (T := TX5) (N := 23) hx hb hts in5 hown hK hP 0 rfl rfl 7 (by decide) (hts (.fieldLink RX5 93 "TraceDebuggerModel" "lines" "I") (by decide +kernel)) (fun _ h9 => h9) rfl dX5_line_26 ?_
    refine lv_bipush (v := 80) hx hb dX5_line_29 (by decide) ?_
    refine lv_icmp_ne (tgt := 38) hx hb dX5_line_31 (by decide) (fun _ => ?_) (fun c9 => absurd c9 (by decide))
    refine lv_iconst (v := 0) hx hb dX5_line_38 (by decide) ?_
    refine va_put (D := G.1) (ci := 5) (v := .int 0) (ty := .int) (C := RX5) (T := TX5) (N := 23) hx hb hts in5 tyX5 tyX5_ok nmX5 hown hK hP hD hS 0 rfl rfl 0 (by decide) (hts (.fieldLink RX5 51 "TraceDebuggerModel" "code" "I") (by decide +kernel)) (fun _ h9 => h9) rfl (by decide +kernel) rfl rfl (Nat.le_of_ble_eq_true rfl) dX5_line_39 (fun H locs hP hD hS => ?_)
    have hP : va_P G.1 vwCl [kO (q 0) 5 [.int 0, .int sp, .int sp, .ref (q 1), .ref (q 2), .ref (q 3), .ref (q 4), .int 0, .ref (q 5), .ref (q 6), .ref (q 7), .ref (q 8), .ref (q 9), .int 1, .int 0, .ref (q 10), .int 0, .int 0, .int 0, .int (-1), .ref (q 11), .int 1, .int 0], kI (q 1) (G.2 0) 80 (fun _ => 0), kI (q 2) (G.2 0) 80 (fun _ => 0), kI (q 3) (G.2 0) 80 (fun _ => 0), kI (q 4) (G.2 1) 80 (fun _ => 0), kI (q 6) (G.2 0) 64 (fun _ => 0), kI (q 7) (G.2 0) 64 (fun _ => 0), kI (q 8) (G.2 0) 128 (fun _ => 0), kI (q 9) (G.2 0) 16 (fun _ => 0), kI (q 11) (G.2 0) 8 (fun _ => 0)] H := hP
    have hD : va_D A [kO (q 0) 5 [.int 0, .int sp, .int sp, .ref (q 1), .ref (q 2), .ref (q 3), .ref (q 4), .int 0, .ref (q 5), .ref (q 6), .ref (q 7), .ref (q 8), .ref (q 9), .int 1, .int 0, .ref (q 10), .int 0, .int 0, .int 0, .int (-1), .ref (q 11), .int 1, .int 0], kI (q 1) (G.2 0) 80 (fun _ => 0), kI (q 2) (G.2 0) 80 (fun _ => 0), kI (q 3) (G.2 0) 80 (fun _ => 0), kI (q 4) (G.2 1) 80 (fun _ => 0), kI (q 6) (G.2 0) 64 (fun _ => 0), kI (q 7) (G.2 0) 64 (fun _ => 0), kI (q 8) (G.2 0) 128 (fun _ => 0), kI (q 9) (G.2 0) 16 (fun _ => 0), kI (q 11) (G.2 0) 8 (fun _ => 0)] := hD
    refine lv_aload_n hx hb dX5_line_42 rfl (lv_at hl 0 rfl) ?_
    refine va_get (D := G.1) (ci := 5) (v := .int 0) (C := RX5) (T := TX5) (N := 23) hx hb hts in5 hown hK hP 0 rfl rfl 0 (by decide) (hts (.fieldLink RX5 51 "TraceDebuggerModel" "code" "I") (by decide +kernel)) (fun _ h9 => h9) rfl dX5_line_43 ?_
    refine lv_if_le (tgt := 51) hx hb dX5_line_46 (by decide) (fun _ => ?_) (fun c9 => absurd c9 (by decide))
    refine lv_aload_n hx hb dX5_line_51 rfl (lv_at hl 0 rfl) ?_
    refine va_get (D := G.1) (ci := 5) (v := .ref (q 1)) (C := RX5) (T := TX5) (N := 23) hx hb hts in5 hown hK hP 0 rfl rfl 3 (by decide) (hts (.fieldLink RX5 7 "TraceDebuggerModel" "operations" "[I") (by decide +kernel)) (fun _ h9 => h9) rfl dX5_line_52 ?_
    refine lv_aload_n hx hb dX5_line_55 rfl (lv_at hl 0 rfl) ?_
    refine va_get (D := G.1) (ci := 5) (v := .int 0) (C := RX5) (T := TX5) (N := 23) hx hb hts in5 hown hK hP 0 rfl rfl 7 (by decide) (hts (.fieldLink RX5 93 "TraceDebuggerModel" "lines" "I") (by decide +kernel)) (fun _ h9 => h9) rfl dX5_line_56 ?_
    refine lv_iload_n hx hb dX5_line_59 rfl (lv_at hl 1 rfl) ?_
    refine va_iast (D := G.1) hx hb hK hP hD hS 1 0 rfl rfl (show vp_in _ _ by unfold vp_in; decide) dX5_line_60 (fun H locs hP hD hS => ?_)
    have hP : va_P G.1 vwCl [kO (q 0) 5 [.int 0, .int sp, .int sp, .ref (q 1), .ref (q 2), .ref (q 3), .ref (q 4), .int 0, .ref (q 5), .ref (q 6), .ref (q 7), .ref (q 8), .ref (q 9), .int 1, .int 0, .ref (q 10), .int 0, .int 0, .int 0, .int (-1), .ref (q 11), .int 1, .int 0], kI (q 1) (G.2 0) 80 (upd (fun _ => 0) (0 : Int32).toNatClampNeg o), kI (q 2) (G.2 0) 80 (fun _ => 0), kI (q 3) (G.2 0) 80 (fun _ => 0), kI (q 4) (G.2 1) 80 (fun _ => 0), kI (q 6) (G.2 0) 64 (fun _ => 0), kI (q 7) (G.2 0) 64 (fun _ => 0), kI (q 8) (G.2 0) 128 (fun _ => 0), kI (q 9) (G.2 0) 16 (fun _ => 0), kI (q 11) (G.2 0) 8 (fun _ => 0)] H := hP
    have hD : va_D A [kO (q 0) 5 [.int 0, .int sp, .int sp, .ref (q 1), .ref (q 2), .ref (q 3), .ref (q 4), .int 0, .ref (q 5), .ref (q 6), .ref (q 7), .ref (q 8), .ref (q 9), .int 1, .int 0, .ref (q 10), .int 0, .int 0, .int 0, .int (-1), .ref (q 11), .int 1, .int 0], kI (q 1) (G.2 0) 80 (upd (fun _ => 0) (0 : Int32).toNatClampNeg o), kI (q 2) (G.2 0) 80 (fun _ => 0), kI (q 3) (G.2 0) 80 (fun _ => 0), kI (q 4) (G.2 1) 80 (fun _ => 0), kI (q 6) (G.2 0) 64 (fun _ => 0), kI (q 7) (G.2 0) 64 (fun _ => 0), kI (q 8) (G.2 0) 128 (fun _ => 0), kI (q 9) (G.2 0) 16 (fun _ => 0), kI (q 11) (G.2 0) 8 (fun _ => 0)] := hD
    refine lv_aload_n hx hb dX5_line_61 rfl (lv_at hl 0 rfl) ?_
    refine va_get (D := G.1) (ci := 5) (v := .ref (q 2)) (C := RX5) (T := TX5) (N := 23) hx hb hts in5 hown hK hP 0 rfl rfl 4 (by decide) (hts (.fieldLink RX5 13 "TraceDebuggerModel" "as" "[I") (by decide +kernel)) (fun _ h9 => h9) rfl dX5_line_62 ?_
    refine lv_aload_n hx hb dX5_line_65 rfl (lv_at hl 0 rfl) ?_
    refine va_get (D := G.1) (ci := 5) (v := .int 0) (C := RX5) (T := TX5) (N := 23) hx hb hts in5 hown hK hP 0 rfl rfl 7 (by decide) (hts (.fieldLink RX5 93 "TraceDebuggerModel" "lines" "I") (by decide +kernel)) (fun _ h9 => h9) rfl dX5_line_66 ?_
    refine lv_iload_n hx hb dX5_line_69 rfl (lv_at hl 2 rfl) ?_
    refine va_iast (D := G.1) hx hb hK hP hD hS 2 0 rfl rfl (show vp_in _ _ by unfold vp_in; decide) dX5_line_70 (fun H locs hP hD hS => ?_)
    have hP : va_P G.1 vwCl [kO (q 0) 5 [.int 0, .int sp, .int sp, .ref (q 1), .ref (q 2), .ref (q 3), .ref (q 4), .int 0, .ref (q 5), .ref (q 6), .ref (q 7), .ref (q 8), .ref (q 9), .int 1, .int 0, .ref (q 10), .int 0, .int 0, .int 0, .int (-1), .ref (q 11), .int 1, .int 0], kI (q 1) (G.2 0) 80 (upd (fun _ => 0) (0 : Int32).toNatClampNeg o), kI (q 2) (G.2 0) 80 (upd (fun _ => 0) (0 : Int32).toNatClampNeg x), kI (q 3) (G.2 0) 80 (fun _ => 0), kI (q 4) (G.2 1) 80 (fun _ => 0), kI (q 6) (G.2 0) 64 (fun _ => 0), kI (q 7) (G.2 0) 64 (fun _ => 0), kI (q 8) (G.2 0) 128 (fun _ => 0), kI (q 9) (G.2 0) 16 (fun _ => 0), kI (q 11) (G.2 0) 8 (fun _ => 0)] H := hP
    have hD : va_D A [kO (q 0) 5 [.int 0, .int sp, .int sp, .ref (q 1), .ref (q 2), .ref (q 3), .ref (q 4), .int 0, .ref (q 5), .ref (q 6), .ref (q 7), .ref (q 8), .ref (q 9), .int 1, .int 0, .ref (q 10), .int 0, .int 0, .int 0, .int (-1), .ref (q 11), .int 1, .int 0], kI (q 1) (G.2 0) 80 (upd (fun _ => 0) (0 : Int32).toNatClampNeg o), kI (q 2) (G.2 0) 80 (upd (fun _ => 0) (0 : Int32).toNatClampNeg x), kI (q 3) (G.2 0) 80 (fun _ => 0), kI (q 4) (G.2 1) 80 (fun _ => 0), kI (q 6) (G.2 0) 64 (fun _ => 0), kI (q 7) (G.2 0) 64 (fun _ => 0), kI (q 8) (G.2 0) 128 (fun _ => 0), kI (q 9) (G.2 0) 16 (fun _ => 0), kI (q 11) (G.2 0) 8 (fun _ => 0)] := hD
    refine lv_aload_n hx hb dX5_line_71 rfl (lv_at hl 0 rfl) ?_
    refine va_get (D := G.1) (ci := 5) (v := .ref (q 3)) (C := RX5) (T := TX5) (N := 23) hx hb hts in5 hown hK hP 0 rfl rfl 5 (by decide) (hts (.fieldLink RX5 16 "TraceDebuggerModel" "bs" "[I") (by decide +kernel)) (fun _ h9 => h9) rfl dX5_line_72 ?_
    refine lv_aload_n hx hb dX5_line_75 rfl (lv_at hl 0 rfl) ?_
    refine va_get (D := G.1) (ci := 5) (v := .int 0) (C := RX5) (T := TX5) (N := 23) hx hb hts in5 hown hK hP 0 rfl rfl 7 (by decide) (hts (.fieldLink RX5 93 "TraceDebuggerModel" "lines" "I") (by decide +kernel)) (fun _ h9 => h9) rfl dX5_line_76 ?_
    refine lv_iload_n hx hb dX5_line_79 rfl (lv_at hl 3 rfl) ?_
    refine va_iast (D := G.1) hx hb hK hP hD hS 3 0 rfl rfl (show vp_in _ _ by unfold vp_in; decide) dX5_line_80 (fun H locs hP hD hS => ?_)
    have hP : va_P G.1 vwCl [kO (q 0) 5 [.int 0, .int sp, .int sp, .ref (q 1), .ref (q 2), .ref (q 3), .ref (q 4), .int 0, .ref (q 5), .ref (q 6), .ref (q 7), .ref (q 8), .ref (q 9), .int 1, .int 0, .ref (q 10), .int 0, .int 0, .int 0, .int (-1), .ref (q 11), .int 1, .int 0], kI (q 1) (G.2 0) 80 (upd (fun _ => 0) (0 : Int32).toNatClampNeg o), kI (q 2) (G.2 0) 80 (upd (fun _ => 0) (0 : Int32).toNatClampNeg x), kI (q 3) (G.2 0) 80 (upd (fun _ => 0) (0 : Int32).toNatClampNeg y), kI (q 4) (G.2 1) 80 (fun _ => 0), kI (q 6) (G.2 0) 64 (fun _ => 0), kI (q 7) (G.2 0) 64 (fun _ => 0), kI (q 8) (G.2 0) 128 (fun _ => 0), kI (q 9) (G.2 0) 16 (fun _ => 0), kI (q 11) (G.2 0) 8 (fun _ => 0)] H := hP
    have hD : va_D A [kO (q 0) 5 [.int 0, .int sp, .int sp, .ref (q 1), .ref (q 2), .ref (q 3), .ref (q 4), .int 0, .ref (q 5), .ref (q 6), .ref (q 7), .ref (q 8), .ref (q 9), .int 1, .int 0, .ref (q 10), .int 0, .int 0, .int 0, .int (-1), .ref (q 11), .int 1, .int 0], kI (q 1) (G.2 0) 80 (upd (fun _ => 0) (0 : Int32).toNatClampNeg o), kI (q 2) (G.2 0) 80 (upd (fun _ => 0) (0 : Int32).toNatClampNeg x), kI (q 3) (G.2 0) 80 (upd (fun _ => 0) (0 : Int32).toNatClampNeg y), kI (q 4) (G.2 1) 80 (fun _ => 0), kI (q 6) (G.2 0) 64 (fun _ => 0), kI (q 7) (G.2 0) 64 (fun _ => 0), kI (q 8) (G.2 0) 128 (fun _ => 0), kI (q 9) (G.2 0) 16 (fun _ => 0), kI (q 11) (G.2 0) 8 (fun _ => 0)] := hD
    refine lv_aload_n hx hb dX5_line_81 rfl (lv_at hl 0 rfl) ?_
    refine va_get (D := G.1) (ci := 5) (v := .ref (q 4)) (C := RX5) (T := TX5) (N := 23) hx hb hts in5 hown hK hP 0 rfl rfl 6 (by decide) (hts (.fieldLink RX5 19 "TraceDebuggerModel" "marks" "[Z") (by decide +kernel)) (fun _ h9 => h9) rfl dX5_line_82 ?_
    refine lv_aload_n hx hb dX5_line_85 rfl (lv_at hl 0 rfl) ?_
    refine va_get (D := G.1) (ci := 5) (v := .int 0) (C := RX5) (T := TX5) (N := 23) hx hb hts in5 hown hK hP 0 rfl rfl 7 (by decide) (hts (.fieldLink RX5 93 "TraceDebuggerModel" "lines" "I") (by decide +kernel)) (fun _ h9 => h9) rfl dX5_line_86 ?_
    refine lv_iconst (v := 0) hx hb dX5_line_89 (by decide) ?_
    refine va_zast (D := G.1) hx hb hK hP hD hS 4 1 rfl rfl (show vp_in _ _ by unfold vp_in; decide) dX5_line_90 (fun H locs hP hD hS => ?_)
    rw [kUpd0z] at hP hD
    have hP : va_P G.1 vwCl [kO (q 0) 5 [.int 0, .int sp, .int sp, .ref (q 1), .ref (q 2), .ref (q 3), .ref (q 4), .int 0, .ref (q 5), .ref (q 6), .ref (q 7), .ref (q 8), .ref (q 9), .int 1, .int 0, .ref (q 10), .int 0, .int 0, .int 0, .int (-1), .ref (q 11), .int 1, .int 0], kI (q 1) (G.2 0) 80 (upd (fun _ => 0) (0 : Int32).toNatClampNeg o), kI (q 2) (G.2 0) 80 (upd (fun _ => 0) (0 : Int32).toNatClampNeg x), kI (q 3) (G.2 0) 80 (upd (fun _ => 0) (0 : Int32).toNatClampNeg y), kI (q 4) (G.2 1) 80 (fun _ => 0), kI (q 6) (G.2 0) 64 (fun _ => 0), kI (q 7) (G.2 0) 64 (fun _ => 0), kI (q 8) (G.2 0) 128 (fun _ => 0), kI (q 9) (G.2 0) 16 (fun _ => 0), kI (q 11) (G.2 0) 8 (fun _ => 0)] H := hP
    have hD : va_D A [kO (q 0) 5 [.int 0, .int sp, .int sp, .ref (q 1), .ref (q 2), .ref (q 3), .ref (q 4), .int 0, .ref (q 5), .ref (q 6), .ref (q 7), .ref (q 8), .ref (q 9), .int 1, .int 0, .ref (q 10), .int 0, .int 0, .int 0, .int (-1), .ref (q 11), .int 1, .int 0], kI (q 1) (G.2 0) 80 (upd (fun _ => 0) (0 : Int32).toNatClampNeg o), kI (q 2) (G.2 0) 80 (upd (fun _ => 0) (0 : Int32).toNatClampNeg x), kI (q 3) (G.2 0) 80 (upd (fun _ => 0) (0 : Int32).toNatClampNeg y), kI (q 4) (G.2 1) 80 (fun _ => 0), kI (q 6) (G.2 0) 64 (fun _ => 0), kI (q 7) (G.2 0) 64 (fun _ => 0), kI (q 8) (G.2 0) 128 (fun _ => 0), kI (q 9) (G.2 0) 16 (fun _ => 0), kI (q 11) (G.2 0) 8 (fun _ => 0)] := hD
    refine lv_aload_n hx hb dX5_line_91 rfl (lv_at hl 0 rfl) ?_
    refine lv_dup hx hb dX5_line_92 rfl ?_
    refine va_get (D := G.1) (ci := 5) (v := .int 0) (C := RX5) (T := TX5) (N := 23) hx hb hts in5 hown hK hP 0 rfl rfl 7 (by decide) (hts (.fieldLink RX5 93 "TraceDebuggerModel" "lines" "I") (by decide +kernel)) (fun _ h9 => h9) rfl dX5_line_93 ?_
    refine lv_iconst (v := 1) hx hb dX5_line_96 (by decide) ?_
    refine lv_iadd hx hb dX5_line_97 ?_
    refine kTop (y := 1) (by decide) ?_
    refine va_put (D := G.1) (ci := 5) (v := .int 1) (ty := .int) (C := RX5) (T := TX5) (N := 23) hx hb hts in5 tyX5 tyX5_ok nmX5 hown hK hP hD hS 0 rfl rfl 7 (by decide) (hts (.fieldLink RX5 93 "TraceDebuggerModel" "lines" "I") (by decide +kernel)) (fun _ h9 => h9) rfl (by decide +kernel) rfl rfl (Nat.le_of_ble_eq_true rfl) dX5_line_98 (fun H locs hP hD hS => ?_)
    have hP : va_P G.1 vwCl [kO (q 0) 5 [.int 0, .int sp, .int sp, .ref (q 1), .ref (q 2), .ref (q 3), .ref (q 4), .int 1, .ref (q 5), .ref (q 6), .ref (q 7), .ref (q 8), .ref (q 9), .int 1, .int 0, .ref (q 10), .int 0, .int 0, .int 0, .int (-1), .ref (q 11), .int 1, .int 0], kI (q 1) (G.2 0) 80 (upd (fun _ => 0) (0 : Int32).toNatClampNeg o), kI (q 2) (G.2 0) 80 (upd (fun _ => 0) (0 : Int32).toNatClampNeg x), kI (q 3) (G.2 0) 80 (upd (fun _ => 0) (0 : Int32).toNatClampNeg y), kI (q 4) (G.2 1) 80 (fun _ => 0), kI (q 6) (G.2 0) 64 (fun _ => 0), kI (q 7) (G.2 0) 64 (fun _ => 0), kI (q 8) (G.2 0) 128 (fun _ => 0), kI (q 9) (G.2 0) 16 (fun _ => 0), kI (q 11) (G.2 0) 8 (fun _ => 0)] H := hP
    have hD : va_D A [kO (q 0) 5 [.int 0, .int sp, .int sp, .ref (q 1), .ref (q 2), .ref (q 3), .ref (q 4), .int 1, .ref (q 5), .ref (q 6), .ref (q 7), .ref (q 8), .ref (q 9), .int 1, .int 0, .ref (q 10), .int 0, .int 0, .int 0, .int (-1), .ref (q 11), .int 1, .int 0], kI (q 1) (G.2 0) 80 (upd (fun _ => 0) (0 : Int32).toNatClampNeg o), kI (q 2) (G.2 0) 80 (upd (fun _ => 0) (0 : Int32).toNatClampNeg x), kI (q 3) (G.2 0) 80 (upd (fun _ => 0) (0 : Int32).toNatClampNeg y), kI (q 4) (G.2 1) 80 (fun _ => 0), kI (q 6) (G.2 0) 64 (fun _ => 0), kI (q 7) (G.2 0) 64 (fun _ => 0), kI (q 8) (G.2 0) 128 (fun _ => 0), kI (q 9) (G.2 0) 16 (fun _ => 0), kI (q 11) (G.2 0) 8 (fun _ => 0)] := hD
    refine lv_aload_n hx hb dX5_line_101 rfl (lv_at hl 0 rfl) ?_
    refine kCv (G := G) (ws := [kO (q 0) 5 [.int 0, .int sp, .int sp, .ref (q 1), .ref (q 2), .ref (q 3), .ref (q 4), .int 1, .ref (q 5), .ref (q 6), .ref (q 7), .ref (q 8), .ref (q 9), .int 1, .int 0, .ref (q 10), .int 0, .int 0, .int 0, .int (-1), .ref (q 11), .int 1, .int 0], kI (q 1) (G.2 0) 80 (upd (fun _ => 0) (0 : Int32).toNatClampNeg o), kI (q 2) (G.2 0) 80 (upd (fun _ => 0) (0 : Int32).toNatClampNeg x), kI (q 3) (G.2 0) 80 (upd (fun _ => 0) (0 : Int32).toNatClampNeg y), kI (q 4) (G.2 1) 80 (fun _ => 0), kI (q 6) (G.2 0) 64 (fun _ => 0), kI (q 7) (G.2 0) 64 (fun _ => 0), kI (q 8) (G.2 0) 128 (fun _ => 0), kI (q 9) (G.2 0) 16 (fun _ => 0), kI (q 11) (G.2 0) 8 (fun _ => 0)]) (wr := [kI (q 1) (G.2 0) 80 (upd (fun _ => 0) (0 : Int32).toNatClampNeg o), kI (q 2) (G.2 0) 80 (upd (fun _ => 0) (0 : Int32).toNatClampNeg x), kI (q 3) (G.2 0) 80 (upd (fun _ => 0) (0 : Int32).toNatClampNeg y), kI (q 4) (G.2 1) 80 (fun _ => 0)]) (va_runV (As := []) (rest := []) ⟨hx, hb, hml, hown, hts⟩ (c_X5_anew l G H.size q sp 0 1 1 (-1) sp 1 (fun _ => 0) ) (cwV 0 hts gX5_line_X5_anew rfl rfl rfl (by decide +kernel) ⟨Nat.le_of_ble_eq_true rfl, Nat.le_of_ble_eq_true rfl⟩) (kPreV (va_recv hK hP (ci := 5) (q0 := 0) rfl rfl) kZ0 kZt hK hP hD [0, 5, 6, 7, 8, 9] rfl (by decide)) rfl rfl hl.1 rfl (lv_room (Nat.le_of_ble_eq_true rfl)) dX5_line_102 ⟨Nat.le_of_ble_eq_true rfl, Nat.le_of_ble_eq_true rfl⟩) hP hD hS hA [0, 5, 6, 7, 8, 9] [1, 2, 3, 4] rfl rfl (by decide) (by decide) (fun u5 H locs hw7 hP hD hS => ?_)
    obtain ⟨fc8, rfl⟩ : ∃ z, z = u5 := ⟨_, rfl⟩
    try dsimp only at hw7
    have hP : va_P G.1 vwCl [kI (q 1) (G.2 0) 80 (upd (fun _ => 0) (0 : Int32).toNatClampNeg o), kI (q 2) (G.2 0) 80 (upd (fun _ => 0) (0 : Int32).toNatClampNeg x), kI (q 3) (G.2 0) 80 (upd (fun _ => 0) (0 : Int32).toNatClampNeg y), kI (q 4) (G.2 1) 80 (fun _ => 0), kO (q 0) 5 [.int 0, .int sp, .int sp, .ref (q 1), .ref (q 2), .ref (q 3), .ref (q 4), .int 1, .ref (q 5), .ref (q 6), .ref (q 7), .ref (q 8), .ref (q 9), .int 1, .int 0, .ref (q 10), .int 0, .int 0, .int 0, .int (-1), .ref (q 11), .int 1, .int 0], kI (q 6) (G.2 0) 64 (fun _ => 0), kI (q 7) (G.2 0) 64 fc8, kI (q 8) (G.2 0) 128 (fun _ => 0), kI (q 9) (G.2 0) 16 (fun _ => 0), kI (q 11) (G.2 0) 8 (fun _ => 0)] H := hP
    have hD : va_D A [kI (q 1) (G.2 0) 80 (upd (fun _ => 0) (0 : Int32).toNatClampNeg o), kI (q 2) (G.2 0) 80 (upd (fun _ => 0) (0 : Int32).toNatClampNeg x), kI (q 3) (G.2 0) 80 (upd (fun _ => 0) (0 : Int32).toNatClampNeg y), kI (q 4) (G.2 1) 80 (fun _ => 0), kO (q 0) 5 [.int 0, .int sp, .int sp, .ref (q 1), .ref (q 2), .ref (q 3), .ref (q 4), .int 1, .ref (q 5), .ref (q 6), .ref (q 7), .ref (q 8), .ref (q 9), .int 1, .int 0, .ref (q 10), .int 0, .int 0, .int 0, .int (-1), .ref (q 11), .int 1, .int 0], kI (q 6) (G.2 0) 64 (fun _ => 0), kI (q 7) (G.2 0) 64 fc8, kI (q 8) (G.2 0) 128 (fun _ => 0), kI (q 9) (G.2 0) 16 (fun _ => 0), kI (q 11) (G.2 0) 8 (fun _ => 0)] := hD
    refine lv_aload_n hx hb dX5_line_105 rfl (lv_at hl 0 rfl) ?_
    refine va_get (D := G.1) (ci := 5) (v := .int 1) (C := RX5) (T := TX5) (N := 23) hx hb hts in5 hown hK hP 4 rfl rfl 7 (by decide) (hts (.fieldLink RX5 93 "TraceDebuggerModel" "lines" "I") (by decide +kernel)) (fun _ h9 => h9) rfl dX5_line_106 ?_
    refine lv_iconst (v := 1) hx hb dX5_line_109 (by decide) ?_
    refine lv_isub hx hb dX5_line_110 ?_
    refine kTop (y := 0) (by decide) ?_
    exact kRetI (G := G) (0, 1) hx hb hr hlocks hS dX5_line_111 (kSubP (wc := [kO (q 0) 5 [.int 0, .int sp, .int sp, .ref (q 1), .ref (q 2), .ref (q 3), .ref (q 4), .int 1, .ref (q 5), .ref (q 6), .ref (q 7), .ref (q 8), .ref (q 9), .int 1, .int 0, .ref (q 10), .int 0, .int 0, .int 0, .int (-1), .ref (q 11), .int 1, .int 0]]) hP [4] rfl) (hD.sub (ws' := [kO (q 0) 5 [.int 0, .int sp, .int sp, .ref (q 1), .ref (q 2), .ref (q 3), .ref (q 4), .int 1, .ref (q 5), .ref (q 6), .ref (q 7), .ref (q 8), .ref (q 9), .int 1, .int 0, .ref (q 10), .int 0, .int 0, .int 0, .int (-1), .ref (q 11), .int 1, .int 0]]) [4] (by decide) rfl) (by first | exact Or.inl ⟨rfl, rfl, by assumption⟩ | exact Or.inr ⟨rfl, by assumption⟩)
  · have _u := hsz
    refine lv_if_ne (tgt := 14) hx hb dX5_line_7 (by decide) (fun c9 => absurd c9 (by decide)) (fun _ => ?_)
    refine lv_iconst (v := 1) hx hb dX5_line_10 (by decide) ?_
    refine lv_goto (tgt := 39) hx hb dX5_line_11 (by decide) ?_
    refine va_put (D := G.1) (ci := 5) (v := .int 1) (ty := .int) (C := RX5) (T := TX5) (N := 23) hx hb hts in5 tyX5 tyX5_ok nmX5 hown hK hP hD hS 0 rfl rfl 0 (by decide) (hts (.fieldLink RX5 51 "TraceDebuggerModel" "code" "I") (by decide +kernel)) (fun _ h9 => h9) rfl (by decide +kernel) rfl rfl (Nat.le_of_ble_eq_true rfl) dX5_line_39 (fun H locs hP hD hS => ?_)
    have hP : va_P G.1 vwCl [kO (q 0) 5 [.int 1, .int sp, .int sp, .ref (q 1), .ref (q 2), .ref (q 3), .ref (q 4), .int 0, .ref (q 5), .ref (q 6), .ref (q 7), .ref (q 8), .ref (q 9), .int 1, .int 0, .ref (q 10), .int 0, .int 0, .int 0, .int (-1), .ref (q 11), .int 1, .int 0], kI (q 1) (G.2 0) 80 (fun _ => 0), kI (q 2) (G.2 0) 80 (fun _ => 0), kI (q 3) (G.2 0) 80 (fun _ => 0), kI (q 4) (G.2 1) 80 (fun _ => 0), kI (q 6) (G.2 0) 64 (fun _ => 0), kI (q 7) (G.2 0) 64 (fun _ => 0), kI (q 8) (G.2 0) 128 (fun _ => 0), kI (q 9) (G.2 0) 16 (fun _ => 0), kI (q 11) (G.2 0) 8 (fun _ => 0)] H := hP
    have hD : va_D A [kO (q 0) 5 [.int 1, .int sp, .int sp, .ref (q 1), .ref (q 2), .ref (q 3), .ref (q 4), .int 0, .ref (q 5), .ref (q 6), .ref (q 7), .ref (q 8), .ref (q 9), .int 1, .int 0, .ref (q 10), .int 0, .int 0, .int 0, .int (-1), .ref (q 11), .int 1, .int 0], kI (q 1) (G.2 0) 80 (fun _ => 0), kI (q 2) (G.2 0) 80 (fun _ => 0), kI (q 3) (G.2 0) 80 (fun _ => 0), kI (q 4) (G.2 1) 80 (fun _ => 0), kI (q 6) (G.2 0) 64 (fun _ => 0), kI (q 7) (G.2 0) 64 (fun _ => 0), kI (q 8) (G.2 0) 128 (fun _ => 0), kI (q 9) (G.2 0) 16 (fun _ => 0), kI (q 11) (G.2 0) 8 (fun _ => 0)] := hD
    refine lv_aload_n hx hb dX5_line_42 rfl (lv_at hl 0 rfl) ?_
    refine va_get (D := G.1) (ci := 5) (v := .int 1) (C := RX5) (T := TX5) (N := 23) hx hb hts in5 hown hK hP 0 rfl rfl 0 (by decide) (hts (.fieldLink RX5 51 "TraceDebuggerModel" "code" "I") (by decide +kernel)) (fun _ h9 => h9) rfl dX5_line_43 ?_
    refine lv_if_le (tgt := 51) hx hb dX5_line_46 (by decide) (fun c9 => absurd c9 (by decide)) (fun _ => ?_)
    refine lv_iconst (v := 0) hx hb dX5_line_49 (by decide) ?_
    exact kRetI (G := G) (1, 0) hx hb hr hlocks hS dX5_line_50 (kSubP (wc := [kO (q 0) 5 [.int 1, .int sp, .int sp, .ref (q 1), .ref (q 2), .ref (q 3), .ref (q 4), .int 0, .ref (q 5), .ref (q 6), .ref (q 7), .ref (q 8), .ref (q 9), .int 1, .int 0, .ref (q 10), .int 0, .int 0, .int 0, .int (-1), .ref (q 11), .int 1, .int 0]]) hP [0] rfl) (hD.sub (ws' := [kO (q 0) 5 [.int 1, .int sp, .int sp, .ref (q 1), .ref (q 2), .ref (q 3), .ref (q 4), .int 0, .ref (q 5), .ref (q 6), .ref (q 7), .ref (q 8), .ref (q 9), .int 1, .int 0, .ref (q 10), .int 0, .int 0, .int 0, .int (-1), .ref (q 11), .int 1, .int 0]]) [0] (by decide) rfl) (by first | exact Or.inl ⟨rfl, rfl, by assumption⟩ | exact Or.inr ⟨rfl, by assumption⟩)

set_option maxHeartbeats 4000000 in
set_option maxRecDepth 100000 in
theorem c_X5_poke (l : Launch) (G : gG) (sz : Nat) (q : Nat → Nat) (sp : Int32) (x : Int32) (v : Int32)  : Met l yX5_poke wsX5_poke { frames := 2, cells := 0, slots := 0, locals := 41 } (kPc G [.ref (q 0), .int x, .int v] [kO (q 0) 5 [.int 0, .int sp, .int sp, .ref (q 1), .ref (q 2), .ref (q 3), .ref (q 4), .int 0, .ref (q 5), .ref (q 6), .ref (q 7), .ref (q 8), .ref (q 9), .int 1, .int 0, .ref (q 10), .int 0, .int 0, .int 0, .int (-1), .ref (q 11), .int 1, .int 0], kI (q 6) (G.2 0) 64 (fun _ => 0), kI (q 7) (G.2 0) 64 (fun _ => 0), kI (q 8) (G.2 0) 128 (fun _ => 0), kI (q 9) (G.2 0) 16 (fun _ => 0), kI (q 11) (G.2 0) 8 (fun _ => 0)] sz (fun _ => True)) (kQi G (S := Int32) (fun r u => (u = 0 ∧ r = 0 ∧ (0 ≤ x.toInt ∧ x.toInt < 64)) ∨ (u = 1 ∧ ¬ (0 ≤ x.toInt ∧ x.toInt < 64))) (fun u => [kO (q 0) 5 [.int u, .int sp, .int sp, .ref (q 1), .ref (q 2), .ref (q 3), .ref (q 4), .int 0, .ref (q 5), .ref (q 6), .ref (q 7), .ref (q 8), .ref (q 9), .int 1, .int 0, .ref (q 10), .int 0, .int 0, .int 0, .int (-1), .ref (q 11), .int 1, .int 0]]) (va_A [kO (q 0) 5 [.int 0, .int sp, .int sp, .ref (q 1), .ref (q 2), .ref (q 3), .ref (q 4), .int 0, .ref (q 5), .ref (q 6), .ref (q 7), .ref (q 8), .ref (q 9), .int 1, .int 0, .ref (q 10), .int 0, .int 0, .int 0, .int (-1), .ref (q 11), .int 1, .int 0], kI (q 6) (G.2 0) 64 (fun _ => 0), kI (q 7) (G.2 0) 64 (fun _ => 0), kI (q 8) (G.2 0) 128 (fun _ => 0), kI (q 9) (G.2 0) 16 (fun _ => 0), kI (q 11) (G.2 0) 8 (fun _ => 0)] sz)) 0 0 (va_A [kO (q 0) 5 [.int 0, .int sp, .int sp, .ref (q 1), .ref (q 2), .ref (q 3), .ref (q 4), .int 0, .ref (q 5), .ref (q 6), .ref (q 7), .ref (q 8), .ref (q 9), .int 1, .int 0, .ref (q 10), .int 0, .int 0, .int 0, .int (-1), .ref (q 11), .int 1, .int 0], kI (q 6) (G.2 0) 64 (fun _ => 0), kI (q 7) (G.2 0) 64 (fun _ => 0), kI (q 8) (G.2 0) 128 (fun _ => 0), kI (q 9) (G.2 0) 16 (fun _ => 0), kI (q 11) (G.2 0) 8 (fun _ => 0)] sz) := by
  refine kBeg (Qc := fun A => kQi G (S := Int32) (fun r u => (u = 0 ∧ r = 0 ∧ (0 ≤ x.toInt ∧ x.toInt < 64)) ∨ (u = 1 ∧ ¬ (0 ≤ x.toInt ∧ x.toInt < 64))) (fun u => [kO (q 0) 5 [.int u, .int sp, .int sp, .ref (q 1), .ref (q 2), .ref (q 3), .ref (q 4), .int 0, .ref (q 5), .ref (q 6), .ref (q 7), .ref (q 8), .ref (q 9), .int 1, .int 0, .ref (q 10), .int 0, .int 0, .int 0, .int (-1), .ref (q 11), .int 1, .int 0]]) A) (by decide) rfl (Nat.le_of_ble_eq_true rfl) ?_
  intro A p e s m below meth c ls H locs hx hb hr hts hown hlocks hnm hml hsz hP hK hD hZ hA hS hl
  have hown : s.vm.findClass RX5 = some m.cls := hown
  have hl : lv_has ls 4 [(0, .ref (q 0)), (1, .int x), (2, .int v)] := hl
  have in5 : ∀ w ∈ wsX50, w ∈ wsX5_poke := by decide +kernel
  have kc0 : (0 : Int32).toInt = 0 := by decide
  have kc1 : (1 : Int32).toInt = 1 := by decide
  have kc63 : (63 : Int32).toInt = 63 := by decide
  refine lv_aload_n hx hb dX5_poke_0 rfl (lv_at hl 0 rfl) ?_
  refine lv_iload_n hx hb dX5_poke_1 rfl (lv_at hl 1 rfl) ?_
  refine lv_if_lt (tgt := 11) hx hb dX5_poke_2 (by decide) (fun c1 => ?_) (fun c1 => ?_)
  · have t1 := i_lt.mp c1
    refine lv_iconst (v := 1) hx hb dX5_poke_11 (by decide) ?_
    refine lv_goto (tgt := 27) hx hb dX5_poke_12 (by decide) ?_
    refine va_put (D := G.1) (ci := 5) (v := .int 1) (ty := .int) (C := RX5) (T := TX5) (N := 23) hx hb hts in5 tyX5 tyX5_ok nmX5 hown hK hP hD hS 0 rfl rfl 0 (by decide) (hts (.fieldLink RX5 51 "TraceDebuggerModel" "code" "I") (by decide +kernel)) (fun _ h9 => h9) rfl (by decide +kernel) rfl rfl (Nat.le_of_ble_eq_true rfl) dX5_poke_27 (fun H locs hP hD hS => ?_)
    have hP : va_P G.1 vwCl [kO (q 0) 5 [.int 1, .int sp, .int sp, .ref (q 1), .ref (q 2), .ref (q 3), .ref (q 4), .int 0, .ref (q 5), .ref (q 6), .ref (q 7), .ref (q 8), .ref (q 9), .int 1, .int 0, .ref (q 10), .int 0, .int 0, .int 0, .int (-1), .ref (q 11), .int 1, .int 0], kI (q 6) (G.2 0) 64 (fun _ => 0), kI (q 7) (G.2 0) 64 (fun _ => 0), kI (q 8) (G.2 0) 128 (fun _ => 0), kI (q 9) (G.2 0) 16 (fun _ => 0), kI (q 11) (G.2 0) 8 (fun _ => 0)] H := hP
    have hD : va_D A [kO (q 0) 5 [.int 1, .int sp, .int sp, .ref (q 1), .ref (q 2), .ref (q 3), .ref (q 4), .int 0, .ref (q 5), .ref (q 6), .ref (q 7), .ref (q 8), .ref (q 9), .int 1, .int 0, .ref (q 10), .int 0, .int 0, .int 0, .int (-1), .ref (q 11), .int 1, .int 0], kI (q 6) (G.2 0) 64 (fun _ => 0), kI (q 7) (G.2 0) 64 (fun _ => 0), kI (q 8) (G.2 0) 128 (fun _ => 0), kI (q 9) (G.2 0) 16 (fun _ => 0), kI (q 11) (G.2 0) 8 (fun _ => 0)] := hD
    refine lv_aload_n hx hb dX5_poke_30 rfl (lv_at hl 0 rfl) ?_
    refine va_get (D := G.1) (ci := 5) (v := .int 1) (C := RX5) (T := TX5) (N := 23) hx hb hts in5 hown hK hP 0 rfl rfl 0 (by decide) (hts (.fieldLink RX5 51 "TraceDebuggerModel" "code" "I") (by decide +kernel)) (fun _ h9 => h9) rfl dX5_poke_31 ?_
    refine lv_if_le (tgt := 39) hx hb dX5_poke_34 (by decide) (fun c9 => absurd c9 (by decide)) (fun _ => ?_)
    refine lv_iconst (v := 0) hx hb dX5_poke_37 (by decide) ?_
    exact kRetI (G := G) 1 hx hb hr hlocks hS dX5_poke_38 (kSubP (wc := [kO (q 0) 5 [.int 1, .int sp, .int sp, .ref (q 1), .ref (q 2), .ref (q 3), .ref (q 4), .int 0, .ref (q 5), .ref (q 6), .ref (q 7), .ref (q 8), .ref (q 9), .int 1, .int 0, .ref (q 10), .int 0, .int 0, .int 0, .int (-1), .ref (q 11), .int 1, .int 0]]) hP [0] rfl) (hD.sub (ws' := [kO (q 0) 5 [.int 1, .int sp, .int sp, .ref (q 1), .ref (q 2), .ref (q 3), .ref (q 4), .int 0, .ref (q 5), .ref (q 6), .ref (q 7), .ref (q 8), .ref (q 9), .int 1, .int 0, .ref (q 10), .int 0, .int 0, .int 0, .int (-1), .ref (q 11), .int 1, .int 0]]) [0] (by decide) rfl) (by first | exact Or.inl ⟨rfl, rfl, by omega⟩ | exact Or.inr ⟨rfl, by omega⟩)
  · have t1 := i_nlt.mp c1
    refine lv_iload_n hx hb dX5_poke_5 rfl (lv_at hl 1 rfl) ?_
    refine lv_bipush (v := 63) hx hb dX5_poke_6 (by decide) ?_
    refine lv_icmp_le (tgt := 15) hx hb dX5_poke_8 (by decide) (fun c2 => ?_) (fun c2 => ?_)
    · have t2 := i_le.mp c2
      refine lv_aload_n hx hb dX5_poke_15 rfl (lv_at hl 0 rfl) ?_
      refine va_get (D := G.1) (ci := 5) (v := .int 0) (C := RX5) (T := TX5) (N := 23) hx hb hts in5 hown hK hP 0 rfl rfl 14 (by decide) (hts (.fieldLink RX5 73 "TraceDebuggerModel" "time" "I") (by decide +kernel)) (fun _ h9 => h9) rfl dX5_poke_16 ?_
      refine lv_if_eq (tgt := 26) hx hb dX5_poke_19 (by decide) (fun _ => ?_) (fun c9 => absurd c9 (by decide))
      refine lv_iconst (v := 0) hx hb dX5_poke_26 (by decide) ?_
      refine va_put (D := G.1) (ci := 5) (v := .int 0) (ty := .int) (C := RX5) (T := TX5) (N := 23) hx hb hts in5 tyX5 tyX5_ok nmX5 hown hK hP hD hS 0 rfl rfl 0 (by decide) (hts (.fieldLink RX5 51 "TraceDebuggerModel" "code" "I") (by decide +kernel)) (fun _ h9 => h9) rfl (by decide +kernel) rfl rfl (Nat.le_of_ble_eq_true rfl) dX5_poke_27 (fun H locs hP hD hS => ?_)
      have hP : va_P G.1 vwCl [kO (q 0) 5 [.int 0, .int sp, .int sp, .ref (q 1), .ref (q 2), .ref (q 3), .ref (q 4), .int 0, .ref (q 5), .ref (q 6), .ref (q 7), .ref (q 8), .ref (q 9), .int 1, .int 0, .ref (q 10), .int 0, .int 0, .int 0, .int (-1), .ref (q 11), .int 1, .int 0], kI (q 6) (G.2 0) 64 (fun _ => 0), kI (q 7) (G.2 0) 64 (fun _ => 0), kI (q 8) (G.2 0) 128 (fun _ => 0), kI (q 9) (G.2 0) 16 (fun _ => 0), kI (q 11) (G.2 0) 8 (fun _ => 0)] H := hP
      have hD : va_D A [kO (q 0) 5 [.int 0, .int sp, .int sp, .ref (q 1), .ref (q 2), .ref (q 3), .ref (q 4), .int 0, .ref (q 5), .ref (q 6), .ref (q 7), .ref (q 8), .ref (q 9), .int 1, .int 0, .ref (q 10), .int 0, .int 0, .int 0, .int (-1), .ref (q 11), .int 1, .int 0], kI (q 6) (G.2 0) 64 (fun _ => 0), kI (q 7) (G.2 0) 64 (fun _ => 0), kI (q 8) (G.2 0) 128 (fun _ => 0), kI (q 9) (G.2 0) 16 (fun _ => 0), kI (q 11) (G.2 0) 8 (fun _ => 0)] := hD
      refine lv_aload_n hx hb dX5_poke_30 rfl (lv_at hl 0 rfl) ?_
      refine va_get (D := G.1) (ci := 5) (v := .int 0) (C := RX5) (T := TX5) (N := 23) hx hb hts in5 hown hK hP 0 rfl rfl 0 (by decide) (hts (.fieldLink RX5 51 "TraceDebuggerModel" "code" "I") (by decide +kernel)) (fun _ h9 => h9) rfl dX5_poke_31 ?_
      refine lv_if_le (tgt := 39) hx hb dX5_poke_34 (by decide) (fun _ => ?_) (fun c9 => absurd c9 (by decide))
      refine lv_aload_n hx hb dX5_poke_39 rfl (lv_at hl 0 rfl) ?_
      refine va_get (D := G.1) (ci := 5) (v := .ref (q 6)) (C := RX5) (T := TX5) (N := 23) hx hb hts in5 hown hK hP 0 rfl rfl 9 (by decide) (hts (.fieldLink RX5 26 "TraceDebuggerModel" "base" "[I") (by decide +kernel)) (fun _ h9 => h9) rfl dX5_poke_40 ?_
      refine lv_iload_n hx hb dX5_poke_43 rfl (lv_at hl 1 rfl) ?_
      refine va_iald (D := G.1) hx hb hK hP 1 0 rfl rfl (vp_in_iff.mpr (by omega)) dX5_poke_44 ?_
      refine kTop (y := 0) rfl ?_
      refine lv_istore_n (lv' := [(3, .int 0), (0, .ref (q 0)), (1, .int x), (2, .int v)]) hx hb dX5_poke_45 rfl hl (by decide) rfl (fun ls hl => ?_)
      refine lv_aload_n hx hb dX5_poke_46 rfl (lv_at hl 1 rfl) ?_
      refine va_get (D := G.1) (ci := 5) (v := .ref (q 6)) (C := RX5) (T := TX5) (N := 23) hx hb hts in5 hown hK hP 0 rfl rfl 9 (by decide) (hts (.fieldLink RX5 26 "TraceDebuggerModel" "base" "[I") (by decide +kernel)) (fun _ h9 => h9) rfl dX5_poke_47 ?_
      refine lv_iload_n hx hb dX5_poke_50 rfl (lv_at hl 2 rfl) ?_
      refine lv_iload_n hx hb dX5_poke_51 rfl (lv_at hl 3 rfl) ?_
      refine va_iast (D := G.1) hx hb hK hP hD hS 1 0 rfl rfl (vp_in_iff.mpr (by omega)) dX5_poke_52 (fun H locs hP hD hS => ?_)
      have hP : va_P G.1 vwCl [kO (q 0) 5 [.int 0, .int sp, .int sp, .ref (q 1), .ref (q 2), .ref (q 3), .ref (q 4), .int 0, .ref (q 5), .ref (q 6), .ref (q 7), .ref (q 8), .ref (q 9), .int 1, .int 0, .ref (q 10), .int 0, .int 0, .int 0, .int (-1), .ref (q 11), .int 1, .int 0], kI (q 6) (G.2 0) 64 (upd (fun _ => 0) x.toNatClampNeg v), kI (q 7) (G.2 0) 64 (fun _ => 0), kI (q 8) (G.2 0) 128 (fun _ => 0), kI (q 9) (G.2 0) 16 (fun _ => 0), kI (q 11) (G.2 0) 8 (fun _ => 0)] H := hP
      have hD : va_D A [kO (q 0) 5 [.int 0, .int sp, .int sp, .ref (q 1), .ref (q 2), .ref (q 3), .ref (q 4), .int 0, .ref (q 5), .ref (q 6), .ref (q 7), .ref (q 8), .ref (q 9), .int 1, .int 0, .ref (q 10), .int 0, .int 0, .int 0, .int (-1), .ref (q 11), .int 1, .int 0], kI (q 6) (G.2 0) 64 (upd (fun _ => 0) x.toNatClampNeg v), kI (q 7) (G.2 0) 64 (fun _ => 0), kI (q 8) (G.2 0) 128 (fun _ => 0), kI (q 9) (G.2 0) 16 (fun _ => 0), kI (q 11) (G.2 0) 8 (fun _ => 0)] := hD
      refine lv_aload_n hx hb dX5_poke_53 rfl (lv_at hl 1 rfl) ?_
      refine kCv (G := G) (ws := [kO (q 0) 5 [.int 0, .int sp, .int sp, .ref (q 1), .ref (q 2), .ref (q 3), .ref (q 4), .int 0, .ref (q 5), .ref (q 6), .ref (q 7), .ref (q 8), .ref (q 9), .int 1, .int 0, .ref (q 10), .int 0, .int 0, .int 0, .int (-1), .ref (q 11), .int 1, .int 0], kI (q 6) (G.2 0) 64 (upd (fun _ => 0) x.toNatClampNeg v), kI (q 7) (G.2 0) 64 (fun _ => 0), kI (q 8) (G.2 0) 128 (fun _ => 0), kI (q 9) (G.2 0) 16 (fun _ => 0), kI (q 11) (G.2 0) 8 (fun _ => 0)]) (wr := []) (va_runV (As := []) (rest := []) ⟨hx, hb, hml, hown, hts⟩ (c_X5_anew l G H.size q sp 0 0 1 (-1) sp 1 (upd (fun _ => 0) x.toNatClampNeg v) ) (cwV 0 hts gX5_poke_X5_anew rfl rfl rfl (by decide +kernel) ⟨Nat.le_of_ble_eq_true rfl, Nat.le_of_ble_eq_true rfl⟩) (kPreV (va_recv hK hP (ci := 5) (q0 := 0) rfl rfl) kZ0 kZt hK hP hD [0, 1, 2, 3, 4, 5] rfl (by decide)) rfl rfl hl.1 rfl (lv_room (Nat.le_of_ble_eq_true rfl)) dX5_poke_54 ⟨Nat.le_of_ble_eq_true rfl, Nat.le_of_ble_eq_true rfl⟩) hP hD hS hA [0, 1, 2, 3, 4, 5] [] rfl rfl (by decide) (by decide) (fun u3 H locs hw5 hP hD hS => ?_)
      obtain ⟨fc6, rfl⟩ : ∃ z, z = u3 := ⟨_, rfl⟩
      try dsimp only at hw5
      have hP : va_P G.1 vwCl [kO (q 0) 5 [.int 0, .int sp, .int sp, .ref (q 1), .ref (q 2), .ref (q 3), .ref (q 4), .int 0, .ref (q 5), .ref (q 6), .ref (q 7), .ref (q 8), .ref (q 9), .int 1, .int 0, .ref (q 10), .int 0, .int 0, .int 0, .int (-1), .ref (q 11), .int 1, .int 0], kI (q 6) (G.2 0) 64 (upd (fun _ => 0) x.toNatClampNeg v), kI (q 7) (G.2 0) 64 fc6, kI (q 8) (G.2 0) 128 (fun _ => 0), kI (q 9) (G.2 0) 16 (fun _ => 0), kI (q 11) (G.2 0) 8 (fun _ => 0)] H := hP
      have hD : va_D A [kO (q 0) 5 [.int 0, .int sp, .int sp, .ref (q 1), .ref (q 2), .ref (q 3), .ref (q 4), .int 0, .ref (q 5), .ref (q 6), .ref (q 7), .ref (q 8), .ref (q 9), .int 1, .int 0, .ref (q 10), .int 0, .int 0, .int 0, .int (-1), .ref (q 11), .int 1, .int 0], kI (q 6) (G.2 0) 64 (upd (fun _ => 0) x.toNatClampNeg v), kI (q 7) (G.2 0) 64 fc6, kI (q 8) (G.2 0) 128 (fun _ => 0), kI (q 9) (G.2 0) 16 (fun _ => 0), kI (q 11) (G.2 0) 8 (fun _ => 0)] := hD
      refine lv_iload_n hx hb dX5_poke_57 rfl (lv_at hl 0 rfl) ?_
      exact kRetI (G := G) 0 hx hb hr hlocks hS dX5_poke_58 (kSubP (wc := [kO (q 0) 5 [.int 0, .int sp, .int sp, .ref (q 1), .ref (q 2), .ref (q 3), .ref (q 4), .int 0, .ref (q 5), .ref (q 6), .ref (q 7), .ref (q 8), .ref (q 9), .int 1, .int 0, .ref (q 10), .int 0, .int 0, .int 0, .int (-1), .ref (q 11), .int 1, .int 0]]) hP [0] rfl) (hD.sub (ws' := [kO (q 0) 5 [.int 0, .int sp, .int sp, .ref (q 1), .ref (q 2), .ref (q 3), .ref (q 4), .int 0, .ref (q 5), .ref (q 6), .ref (q 7), .ref (q 8), .ref (q 9), .int 1, .int 0, .ref (q 10), .int 0, .int 0, .int 0, .int (-1), .ref (q 11), .int 1, .int 0]]) [0] (by decide) rfl) (by first | exact Or.inl ⟨rfl, rfl, by omega⟩ | exact Or.inr ⟨rfl, by omega⟩)
    · have t2 := i_nle.mp c2
      refine lv_iconst (v := 1) hx hb dX5_poke_11 (by decide) ?_
      refine lv_goto (tgt := 27) hx hb dX5_poke_12 (by decide) ?_
      refine va_put (D := G.1) (ci := 5) (v := .int 1) (ty := .int) (C := RX5) (T := TX5) (N := 23) hx hb hts in5 tyX5 tyX5_ok nmX5 hown hK hP hD hS 0 rfl rfl 0 (by decide) (hts (.fieldLink RX5 51 "TraceDebuggerModel" "code" "I") (by decide +kernel)) (fun _ h9 => h9) rfl (by decide +kernel) rfl rfl (Nat.le_of_ble_eq_true rfl) dX5_poke_27 (fun H locs hP hD hS => ?_)
      have hP : va_P G.1 vwCl [kO (q 0) 5 [.int 1, .int sp, .int sp, .ref (q 1), .ref (q 2), .ref (q 3), .ref (q 4), .int 0, .ref (q 5), .ref (q 6), .ref (q 7), .ref (q 8), .ref (q 9), .int 1, .int 0, .ref (q 10), .int 0, .int 0, .int 0, .int (-1), .ref (q 11), .int 1, .int 0], kI (q 6) (G.2 0) 64 (fun _ => 0), kI (q 7) (G.2 0) 64 (fun _ => 0), kI (q 8) (G.2 0) 128 (fun _ => 0), kI (q 9) (G.2 0) 16 (fun _ => 0), kI (q 11) (G.2 0) 8 (fun _ => 0)] H := hP
      have hD : va_D A [kO (q 0) 5 [.int 1, .int sp, .int sp, .ref (q 1), .ref (q 2), .ref (q 3), .ref (q 4), .int 0, .ref (q 5), .ref (q 6), .ref (q 7), .ref (q 8), .ref (q 9), .int 1, .int 0, .ref (q 10), .int 0, .int 0, .int 0, .int (-1), .ref (q 11), .int 1, .int 0], kI (q 6) (G.2 0) 64 (fun _ => 0), kI (q 7) (G.2 0) 64 (fun _ => 0), kI (q 8) (G.2 0) 128 (fun _ => 0), kI (q 9) (G.2 0) 16 (fun _ => 0), kI (q 11) (G.2 0) 8 (fun _ => 0)] := hD
      refine lv_aload_n hx hb dX5_poke_30 rfl (lv_at hl 0 rfl) ?_
      refine va_get (D := G.1) (ci := 5) (v := .int 1) (C := RX5) (T := TX5) (N := 23) hx hb hts in5 hown hK hP 0 rfl rfl 0 (by decide) (hts (.fieldLink RX5 51 "TraceDebuggerModel" "code" "I") (by decide +kernel)) (fun _ h9 => h9) rfl dX5_poke_31 ?_
      refine lv_if_le (tgt := 39) hx hb dX5_poke_34 (by decide) (fun c9 => absurd c9 (by decide)) (fun _ => ?_)
      refine lv_iconst (v := 0) hx hb dX5_poke_37 (by decide) ?_
      exact kRetI (G := G) 1 hx hb hr hlocks hS dX5_poke_38 (kSubP (wc := [kO (q 0) 5 [.int 1, .int sp, .int sp, .ref (q 1), .ref (q 2), .ref (q 3), .ref (q 4), .int 0, .ref (q 5), .ref (q 6), .ref (q 7), .ref (q 8), .ref (q 9), .int 1, .int 0, .ref (q 10), .int 0, .int 0, .int 0, .int (-1), .ref (q 11), .int 1, .int 0]]) hP [0] rfl) (hD.sub (ws' := [kO (q 0) 5 [.int 1, .int sp, .int sp, .ref (q 1), .ref (q 2), .ref (q 3), .ref (q 4), .int 0, .ref (q 5), .ref (q 6), .ref (q 7), .ref (q 8), .ref (q 9), .int 1, .int 0, .ref (q 10), .int 0, .int 0, .int 0, .int (-1), .ref (q 11), .int 1, .int 0]]) [0] (by decide) rfl) (by first | exact Or.inl ⟨rfl, rfl, by omega⟩ | exact Or.inr ⟨rfl, by omega⟩)

set_option maxHeartbeats 4000000 in
set_option maxRecDepth 100000 in
theorem c_X5_mark (l : Launch) (G : gG) (sz : Nat) (q : Nat → Nat) (sp : Int32) (x : Int32) (o : Int32)  : Met l yX5_mark wsX5_mark { frames := 0, cells := 0, slots := 0, locals := 0 } (kPc G [.ref (q 0), .int x, .int o] [kO (q 0) 5 [.int 0, .int sp, .int sp, .ref (q 1), .ref (q 2), .ref (q 3), .ref (q 4), .int 0, .ref (q 5), .ref (q 6), .ref (q 7), .ref (q 8), .ref (q 9), .int 1, .int 0, .ref (q 10), .int 0, .int 0, .int 0, .int (-1), .ref (q 11), .int 1, .int 0], kI (q 4) (G.2 1) 80 (fun _ => 0)] sz (fun _ => True)) (kQi G (S := Int32) (fun _ u => u = 1) (fun u => [kO (q 0) 5 [.int u, .int sp, .int sp, .ref (q 1), .ref (q 2), .ref (q 3), .ref (q 4), .int 0, .ref (q 5), .ref (q 6), .ref (q 7), .ref (q 8), .ref (q 9), .int 1, .int 0, .ref (q 10), .int 0, .int 0, .int 0, .int (-1), .ref (q 11), .int 1, .int 0]]) (va_A [kO (q 0) 5 [.int 0, .int sp, .int sp, .ref (q 1), .ref (q 2), .ref (q 3), .ref (q 4), .int 0, .ref (q 5), .ref (q 6), .ref (q 7), .ref (q 8), .ref (q 9), .int 1, .int 0, .ref (q 10), .int 0, .int 0, .int 0, .int (-1), .ref (q 11), .int 1, .int 0], kI (q 4) (G.2 1) 80 (fun _ => 0)] sz)) 0 0 (va_A [kO (q 0) 5 [.int 0, .int sp, .int sp, .ref (q 1), .ref (q 2), .ref (q 3), .ref (q 4), .int 0, .ref (q 5), .ref (q 6), .ref (q 7), .ref (q 8), .ref (q 9), .int 1, .int 0, .ref (q 10), .int 0, .int 0, .int 0, .int (-1), .ref (q 11), .int 1, .int 0], kI (q 4) (G.2 1) 80 (fun _ => 0)] sz) := by
  refine kBeg (Qc := fun A => kQi G (S := Int32) (fun _ u => u = 1) (fun u => [kO (q 0) 5 [.int u, .int sp, .int sp, .ref (q 1), .ref (q 2), .ref (q 3), .ref (q 4), .int 0, .ref (q 5), .ref (q 6), .ref (q 7), .ref (q 8), .ref (q 9), .int 1, .int 0, .ref (q 10), .int 0, .int 0, .int 0, .int (-1), .ref (q 11), .int 1, .int 0]]) A) (by decide) rfl (Nat.le_of_ble_eq_true rfl) ?_
  intro A p e s m below meth c ls H locs hx hb hr hts hown hlocks hnm hml hsz hP hK hD hZ hA hS hl
  have hown : s.vm.findClass RX5 = some m.cls := hown
  have hl : lv_has ls 4 [(0, .ref (q 0)), (1, .int x), (2, .int o)] := hl
  have in5 : ∀ w ∈ wsX50, w ∈ wsX5_mark := by decide +kernel
  have kc0 : (0 : Int32).toInt = 0 := by decide
  have kc1 : (1 : Int32).toInt = 1 := by decide
  refine lv_aload_n hx hb dX5_mark_0 rfl (lv_at hl 0 rfl) ?_
  refine lv_iload_n hx hb dX5_mark_1 rfl (lv_at hl 1 rfl) ?_
  refine lv_if_lt (tgt := 17) hx hb dX5_mark_2 (by decide) (fun c1 => ?_) (fun c1 => ?_)
  · have t1 := i_lt.mp c1
    refine lv_iconst (v := 1) hx hb dX5_mark_17 (by decide) ?_
    refine va_put (D := G.1) (ci := 5) (v := .int 1) (ty := .int) (C := RX5) (T := TX5) (N := 23) hx hb hts in5 tyX5 tyX5_ok nmX5 hown hK hP hD hS 0 rfl rfl 0 (by decide) (hts (.fieldLink RX5 51 "TraceDebuggerModel" "code" "I") (by decide +kernel)) (fun _ h9 => h9) rfl (by decide +kernel) rfl rfl (Nat.le_of_ble_eq_true rfl) dX5_mark_18 (fun H locs hP hD hS => ?_)
    have hP : va_P G.1 vwCl [kO (q 0) 5 [.int 1, .int sp, .int sp, .ref (q 1), .ref (q 2), .ref (q 3), .ref (q 4), .int 0, .ref (q 5), .ref (q 6), .ref (q 7), .ref (q 8), .ref (q 9), .int 1, .int 0, .ref (q 10), .int 0, .int 0, .int 0, .int (-1), .ref (q 11), .int 1, .int 0], kI (q 4) (G.2 1) 80 (fun _ => 0)] H := hP
    have hD : va_D A [kO (q 0) 5 [.int 1, .int sp, .int sp, .ref (q 1), .ref (q 2), .ref (q 3), .ref (q 4), .int 0, .ref (q 5), .ref (q 6), .ref (q 7), .ref (q 8), .ref (q 9), .int 1, .int 0, .ref (q 10), .int 0, .int 0, .int 0, .int (-1), .ref (q 11), .int 1, .int 0], kI (q 4) (G.2 1) 80 (fun _ => 0)] := hD
    refine lv_aload_n hx hb dX5_mark_21 rfl (lv_at hl 0 rfl) ?_
    refine va_get (D := G.1) (ci := 5) (v := .int 1) (C := RX5) (T := TX5) (N := 23) hx hb hts in5 hown hK hP 0 rfl rfl 0 (by decide) (hts (.fieldLink RX5 51 "TraceDebuggerModel" "code" "I") (by decide +kernel)) (fun _ h9 => h9) rfl dX5_mark_22 ?_
    refine lv_if_le (tgt := 30) hx hb dX5_mark_25 (by decide) (fun c9 => absurd c9 (by decide)) (fun _ => ?_)
    refine lv_iconst (v := 0) hx hb dX5_mark_28 (by decide) ?_
    exact kRetZ (G := G) 1 hx hb hr hlocks hS dX5_mark_29 rfl (kSubP (wc := [kO (q 0) 5 [.int 1, .int sp, .int sp, .ref (q 1), .ref (q 2), .ref (q 3), .ref (q 4), .int 0, .ref (q 5), .ref (q 6), .ref (q 7), .ref (q 8), .ref (q 9), .int 1, .int 0, .ref (q 10), .int 0, .int 0, .int 0, .int (-1), .ref (q 11), .int 1, .int 0]]) hP [0] rfl) (hD.sub (ws' := [kO (q 0) 5 [.int 1, .int sp, .int sp, .ref (q 1), .ref (q 2), .ref (q 3), .ref (q 4), .int 0, .ref (q 5), .ref (q 6), .ref (q 7), .ref (q 8), .ref (q 9), .int 1, .int 0, .ref (q 10), .int 0, .int 0, .int 0, .int (-1), .ref (q 11), .int 1, .int 0]]) [0] (by decide) rfl) rfl
  · have t1 := i_nlt.mp c1
    refine lv_iload_n hx hb dX5_mark_5 rfl (lv_at hl 1 rfl) ?_
    refine lv_aload_n hx hb dX5_mark_6 rfl (lv_at hl 0 rfl) ?_
    refine va_get (D := G.1) (ci := 5) (v := .int 0) (C := RX5) (T := TX5) (N := 23) hx hb hts in5 hown hK hP 0 rfl rfl 7 (by decide) (hts (.fieldLink RX5 93 "TraceDebuggerModel" "lines" "I") (by decide +kernel)) (fun _ h9 => h9) rfl dX5_mark_7 ?_
    refine lv_icmp_ge (tgt := 17) hx hb dX5_mark_10 (by decide) (fun c2 => ?_) (fun c2 => ?_)
    · have t2 := i_le.mp c2
      refine lv_iconst (v := 1) hx hb dX5_mark_17 (by decide) ?_
      refine va_put (D := G.1) (ci := 5) (v := .int 1) (ty := .int) (C := RX5) (T := TX5) (N := 23) hx hb hts in5 tyX5 tyX5_ok nmX5 hown hK hP hD hS 0 rfl rfl 0 (by decide) (hts (.fieldLink RX5 51 "TraceDebuggerModel" "code" "I") (by decide +kernel)) (fun _ h9 => h9) rfl (by decide +kernel) rfl rfl (Nat.le_of_ble_eq_true rfl) dX5_mark_18 (fun H locs hP hD hS => ?_)
      have hP : va_P G.1 vwCl [kO (q 0) 5 [.int 1, .int sp, .int sp, .ref (q 1), .ref (q 2), .ref (q 3), .ref (q 4), .int 0, .ref (q 5), .ref (q 6), .ref (q 7), .ref (q 8), .ref (q 9), .int 1, .int 0, .ref (q 10), .int 0, .int 0, .int 0, .int (-1), .ref (q 11), .int 1, .int 0], kI (q 4) (G.2 1) 80 (fun _ => 0)] H := hP
      have hD : va_D A [kO (q 0) 5 [.int 1, .int sp, .int sp, .ref (q 1), .ref (q 2), .ref (q 3), .ref (q 4), .int 0, .ref (q 5), .ref (q 6), .ref (q 7), .ref (q 8), .ref (q 9), .int 1, .int 0, .ref (q 10), .int 0, .int 0, .int 0, .int (-1), .ref (q 11), .int 1, .int 0], kI (q 4) (G.2 1) 80 (fun _ => 0)] := hD
      refine lv_aload_n hx hb dX5_mark_21 rfl (lv_at hl 0 rfl) ?_
      refine va_get (D := G.1) (ci := 5) (v := .int 1) (C := RX5) (T := TX5) (N := 23) hx hb hts in5 hown hK hP 0 rfl rfl 0 (by decide) (hts (.fieldLink RX5 51 "TraceDebuggerModel" "code" "I") (by decide +kernel)) (fun _ h9 => h9) rfl dX5_mark_22 ?_
      refine lv_if_le (tgt := 30) hx hb dX5_mark_25 (by decide) (fun c9 => absurd c9 (by decide)) (fun _ => ?_)
      refine lv_iconst (v := 0) hx hb dX5_mark_28 (by decide) ?_
      exact kRetZ (G := G) 1 hx hb hr hlocks hS dX5_mark_29 rfl (kSubP (wc := [kO (q 0) 5 [.int 1, .int sp, .int sp, .ref (q 1), .ref (q 2), .ref (q 3), .ref (q 4), .int 0, .ref (q 5), .ref (q 6), .ref (q 7), .ref (q 8), .ref (q 9), .int 1, .int 0, .ref (q 10), .int 0, .int 0, .int 0, .int (-1), .ref (q 11), .int 1, .int 0]]) hP [0] rfl) (hD.sub (ws' := [kO (q 0) 5 [.int 1, .int sp, .int sp, .ref (q 1), .ref (q 2), .ref (q 3), .ref (q 4), .int 0, .ref (q 5), .ref (q 6), .ref (q 7), .ref (q 8), .ref (q 9), .int 1, .int 0, .ref (q 10), .int 0, .int 0, .int 0, .int (-1), .ref (q 11), .int 1, .int 0]]) [0] (by decide) rfl) rfl
    · have t2 := i_nle.mp c2
      exact absurd (show False by omega) id

set_option maxHeartbeats 4000000 in
set_option maxRecDepth 100000 in
theorem c_X5_watch (l : Launch) (G : gG) (sz : Nat) (q : Nat → Nat) (sp : Int32) (x : Int32) (o : Int32)  : Met l yX5_watch wsX5_watch { frames := 0, cells := 0, slots := 0, locals := 0 } (kPc G [.ref (q 0), .int x, .int o] [kO (q 0) 5 [.int 0, .int sp, .int sp, .ref (q 1), .ref (q 2), .ref (q 3), .ref (q 4), .int 0, .ref (q 5), .ref (q 6), .ref (q 7), .ref (q 8), .ref (q 9), .int 1, .int 0, .ref (q 10), .int 0, .int 0, .int 0, .int (-1), .ref (q 11), .int 1, .int 0], kI (q 5) (G.2 1) 64 (fun _ => 0)] sz (fun _ => True)) (kQi G (S := Int32) (fun r u => (u = 0 ∧ ((r = 0 ∧ o = 0) ∨ (r = 1 ∧ ¬ o = 0)) ∧ (0 ≤ x.toInt ∧ x.toInt < 64)) ∨ (u = 1 ∧ ¬ (0 ≤ x.toInt ∧ x.toInt < 64))) (fun u => [kO (q 0) 5 [.int u, .int sp, .int sp, .ref (q 1), .ref (q 2), .ref (q 3), .ref (q 4), .int 0, .ref (q 5), .ref (q 6), .ref (q 7), .ref (q 8), .ref (q 9), .int 1, .int 0, .ref (q 10), .int 0, .int 0, .int 0, .int (-1), .ref (q 11), .int 1, .int 0]]) (va_A [kO (q 0) 5 [.int 0, .int sp, .int sp, .ref (q 1), .ref (q 2), .ref (q 3), .ref (q 4), .int 0, .ref (q 5), .ref (q 6), .ref (q 7), .ref (q 8), .ref (q 9), .int 1, .int 0, .ref (q 10), .int 0, .int 0, .int 0, .int (-1), .ref (q 11), .int 1, .int 0], kI (q 5) (G.2 1) 64 (fun _ => 0)] sz)) 0 0 (va_A [kO (q 0) 5 [.int 0, .int sp, .int sp, .ref (q 1), .ref (q 2), .ref (q 3), .ref (q 4), .int 0, .ref (q 5), .ref (q 6), .ref (q 7), .ref (q 8), .ref (q 9), .int 1, .int 0, .ref (q 10), .int 0, .int 0, .int 0, .int (-1), .ref (q 11), .int 1, .int 0], kI (q 5) (G.2 1) 64 (fun _ => 0)] sz) := by
  refine kBeg (Qc := fun A => kQi G (S := Int32) (fun r u => (u = 0 ∧ ((r = 0 ∧ o = 0) ∨ (r = 1 ∧ ¬ o = 0)) ∧ (0 ≤ x.toInt ∧ x.toInt < 64)) ∨ (u = 1 ∧ ¬ (0 ≤ x.toInt ∧ x.toInt < 64))) (fun u => [kO (q 0) 5 [.int u, .int sp, .int sp, .ref (q 1), .ref (q 2), .ref (q 3), .ref (q 4), .int 0, .ref (q 5), .ref (q 6), .ref (q 7), .ref (q 8), .ref (q 9), .int 1, .int 0, .ref (q 10), .int 0, .int 0, .int 0, .int (-1), .ref (q 11), .int 1, .int 0]]) A) (by decide) rfl (Nat.le_of_ble_eq_true rfl) ?_
  intro A p e s m below meth c ls H locs hx hb hr hts hown hlocks hnm hml hsz hP hK hD hZ hA hS hl
  have hown : s.vm.findClass RX5 = some m.cls := hown
  have hl : lv_has ls 4 [(0, .ref (q 0)), (1, .int x), (2, .int o)] := hl
  have in5 : ∀ w ∈ wsX50, w ∈ wsX5_watch := by decide +kernel
  have kc0 : (0 : Int32).toInt = 0 := by decide
  have kc1 : (1 : Int32).toInt = 1 := by decide
  have kc64 : (64 : Int32).toInt = 64 := by decide
  refine lv_aload_n hx hb dX5_watch_0 rfl (lv_at hl 0 rfl) ?_
  refine lv_iload_n hx hb dX5_watch_1 rfl (lv_at hl 1 rfl) ?_
  refine lv_if_lt (tgt := 15) hx hb dX5_watch_2 (by decide) (fun c1 => ?_) (fun c1 => ?_)
  · have t1 := i_lt.mp c1
    refine lv_iconst (v := 1) hx hb dX5_watch_15 (by decide) ?_
    refine va_put (D := G.1) (ci := 5) (v := .int 1) (ty := .int) (C := RX5) (T := TX5) (N := 23) hx hb hts in5 tyX5 tyX5_ok nmX5 hown hK hP hD hS 0 rfl rfl 0 (by decide) (hts (.fieldLink RX5 51 "TraceDebuggerModel" "code" "I") (by decide +kernel)) (fun _ h9 => h9) rfl (by decide +kernel) rfl rfl (Nat.le_of_ble_eq_true rfl) dX5_watch_16 (fun H locs hP hD hS => ?_)
    have hP : va_P G.1 vwCl [kO (q 0) 5 [.int 1, .int sp, .int sp, .ref (q 1), .ref (q 2), .ref (q 3), .ref (q 4), .int 0, .ref (q 5), .ref (q 6), .ref (q 7), .ref (q 8), .ref (q 9), .int 1, .int 0, .ref (q 10), .int 0, .int 0, .int 0, .int (-1), .ref (q 11), .int 1, .int 0], kI (q 5) (G.2 1) 64 (fun _ => 0)] H := hP
    have hD : va_D A [kO (q 0) 5 [.int 1, .int sp, .int sp, .ref (q 1), .ref (q 2), .ref (q 3), .ref (q 4), .int 0, .ref (q 5), .ref (q 6), .ref (q 7), .ref (q 8), .ref (q 9), .int 1, .int 0, .ref (q 10), .int 0, .int 0, .int 0, .int (-1), .ref (q 11), .int 1, .int 0], kI (q 5) (G.2 1) 64 (fun _ => 0)] := hD
    refine lv_aload_n hx hb dX5_watch_19 rfl (lv_at hl 0 rfl) ?_
    refine va_get (D := G.1) (ci := 5) (v := .int 1) (C := RX5) (T := TX5) (N := 23) hx hb hts in5 hown hK hP 0 rfl rfl 0 (by decide) (hts (.fieldLink RX5 51 "TraceDebuggerModel" "code" "I") (by decide +kernel)) (fun _ h9 => h9) rfl dX5_watch_20 ?_
    refine lv_if_le (tgt := 28) hx hb dX5_watch_23 (by decide) (fun c9 => absurd c9 (by decide)) (fun _ => ?_)
    refine lv_iconst (v := 0) hx hb dX5_watch_26 (by decide) ?_
    exact kRetZ (G := G) 1 hx hb hr hlocks hS dX5_watch_27 rfl (kSubP (wc := [kO (q 0) 5 [.int 1, .int sp, .int sp, .ref (q 1), .ref (q 2), .ref (q 3), .ref (q 4), .int 0, .ref (q 5), .ref (q 6), .ref (q 7), .ref (q 8), .ref (q 9), .int 1, .int 0, .ref (q 10), .int 0, .int 0, .int 0, .int (-1), .ref (q 11), .int 1, .int 0]]) hP [0] rfl) (hD.sub (ws' := [kO (q 0) 5 [.int 1, .int sp, .int sp, .ref (q 1), .ref (q 2), .ref (q 3), .ref (q 4), .int 0, .ref (q 5), .ref (q 6), .ref (q 7), .ref (q 8), .ref (q 9), .int 1, .int 0, .ref (q 10), .int 0, .int 0, .int 0, .int (-1), .ref (q 11), .int 1, .int 0]]) [0] (by decide) rfl) (by first | exact Or.inr ⟨rfl, by omega⟩ | exact Or.inl ⟨rfl, Or.inl ⟨rfl, by assumption⟩, by omega⟩ | exact Or.inl ⟨rfl, Or.inr ⟨rfl, by assumption⟩, by omega⟩ | exact Or.inl ⟨rfl, Or.inl ⟨rfl, Eq.symm (by assumption)⟩, by omega⟩ | exact Or.inl ⟨rfl, Or.inr ⟨rfl, fun h9 => absurd h9.symm (by assumption)⟩, by omega⟩)
  · have t1 := i_nlt.mp c1
    refine lv_iload_n hx hb dX5_watch_5 rfl (lv_at hl 1 rfl) ?_
    refine lv_bipush (v := 64) hx hb dX5_watch_6 (by decide) ?_
    refine lv_icmp_ge (tgt := 15) hx hb dX5_watch_8 (by decide) (fun c2 => ?_) (fun c2 => ?_)
    · have t2 := i_le.mp c2
      refine lv_iconst (v := 1) hx hb dX5_watch_15 (by decide) ?_
      refine va_put (D := G.1) (ci := 5) (v := .int 1) (ty := .int) (C := RX5) (T := TX5) (N := 23) hx hb hts in5 tyX5 tyX5_ok nmX5 hown hK hP hD hS 0 rfl rfl 0 (by decide) (hts (.fieldLink RX5 51 "TraceDebuggerModel" "code" "I") (by decide +kernel)) (fun _ h9 => h9) rfl (by decide +kernel) rfl rfl (Nat.le_of_ble_eq_true rfl) dX5_watch_16 (fun H locs hP hD hS => ?_)
      have hP : va_P G.1 vwCl [kO (q 0) 5 [.int 1, .int sp, .int sp, .ref (q 1), .ref (q 2), .ref (q 3), .ref (q 4), .int 0, .ref (q 5), .ref (q 6), .ref (q 7), .ref (q 8), .ref (q 9), .int 1, .int 0, .ref (q 10), .int 0, .int 0, .int 0, .int (-1), .ref (q 11), .int 1, .int 0], kI (q 5) (G.2 1) 64 (fun _ => 0)] H := hP
      have hD : va_D A [kO (q 0) 5 [.int 1, .int sp, .int sp, .ref (q 1), .ref (q 2), .ref (q 3), .ref (q 4), .int 0, .ref (q 5), .ref (q 6), .ref (q 7), .ref (q 8), .ref (q 9), .int 1, .int 0, .ref (q 10), .int 0, .int 0, .int 0, .int (-1), .ref (q 11), .int 1, .int 0], kI (q 5) (G.2 1) 64 (fun _ => 0)] := hD
      refine lv_aload_n hx hb dX5_watch_19 rfl (lv_at hl 0 rfl) ?_
      refine va_get (D := G.1) (ci := 5) (v := .int 1) (C := RX5) (T := TX5) (N := 23) hx hb hts in5 hown hK hP 0 rfl rfl 0 (by decide) (hts (.fieldLink RX5 51 "TraceDebuggerModel" "code" "I") (by decide +kernel)) (fun _ h9 => h9) rfl dX5_watch_20 ?_
      refine lv_if_le (tgt := 28) hx hb dX5_watch_23 (by decide) (fun c9 => absurd c9 (by decide)) (fun _ => ?_)
      refine lv_iconst (v := 0) hx hb dX5_watch_26 (by decide) ?_
      exact kRetZ (G := G) 1 hx hb hr hlocks hS dX5_watch_27 rfl (kSubP (wc := [kO (q 0) 5 [.int 1, .int sp, .int sp, .ref (q 1), .ref (q 2), .ref (q 3), .ref (q 4), .int 0, .ref (q 5), .ref (q 6), .ref (q 7), .ref (q 8), .ref (q 9), .int 1, .int 0, .ref (q 10), .int 0, .int 0, .int 0, .int (-1), .ref (q 11), .int 1, .int 0]]) hP [0] rfl) (hD.sub (ws' := [kO (q 0) 5 [.int 1, .int sp, .int sp, .ref (q 1), .ref (q 2), .ref (q 3), .ref (q 4), .int 0, .ref (q 5), .ref (q 6), .ref (q 7), .ref (q 8), .ref (q 9), .int 1, .int 0, .ref (q 10), .int 0, .int 0, .int 0, .int (-1), .ref (q 11), .int 1, .int 0]]) [0] (by decide) rfl) (by first | exact Or.inr ⟨rfl, by omega⟩ | exact Or.inl ⟨rfl, Or.inl ⟨rfl, by assumption⟩, by omega⟩ | exact Or.inl ⟨rfl, Or.inr ⟨rfl, by assumption⟩, by omega⟩ | exact Or.inl ⟨rfl, Or.inl ⟨rfl, Eq.symm (by assumption)⟩, by omega⟩ | exact Or.inl ⟨rfl, Or.inr ⟨rfl, fun h9 => absurd h9.symm (by assumption)⟩, by omega⟩)
    · have t2 := i_nle.mp c2
      refine lv_iconst (v := 0) hx hb dX5_watch_11 (by decide) ?_
      refine lv_goto (tgt := 16) hx hb dX5_watch_12 (by decide) ?_
      refine va_put (D := G.1) (ci := 5) (v := .int 0) (ty := .int) (C := RX5) (T := TX5) (N := 23) hx hb hts in5 tyX5 tyX5_ok nmX5 hown hK hP hD hS 0 rfl rfl 0 (by decide) (hts (.fieldLink RX5 51 "TraceDebuggerModel" "code" "I") (by decide +kernel)) (fun _ h9 => h9) rfl (by decide +kernel) rfl rfl (Nat.le_of_ble_eq_true rfl) dX5_watch_16 (fun H locs hP hD hS => ?_)
      have hP : va_P G.1 vwCl [kO (q 0) 5 [.int 0, .int sp, .int sp, .ref (q 1), .ref (q 2), .ref (q 3), .ref (q 4), .int 0, .ref (q 5), .ref (q 6), .ref (q 7), .ref (q 8), .ref (q 9), .int 1, .int 0, .ref (q 10), .int 0, .int 0, .int 0, .int (-1), .ref (q 11), .int 1, .int 0], kI (q 5) (G.2 1) 64 (fun _ => 0)] H := hP
      have hD : va_D A [kO (q 0) 5 [.int 0, .int sp, .int sp, .ref (q 1), .ref (q 2), .ref (q 3), .ref (q 4), .int 0, .ref (q 5), .ref (q 6), .ref (q 7), .ref (q 8), .ref (q 9), .int 1, .int 0, .ref (q 10), .int 0, .int 0, .int 0, .int (-1), .ref (q 11), .int 1, .int 0], kI (q 5) (G.2 1) 64 (fun _ => 0)] := hD
      refine lv_aload_n hx hb dX5_watch_19 rfl (lv_at hl 0 rfl) ?_
      refine va_get (D := G.1) (ci := 5) (v := .int 0) (C := RX5) (T := TX5) (N := 23) hx hb hts in5 hown hK hP 0 rfl rfl 0 (by decide) (hts (.fieldLink RX5 51 "TraceDebuggerModel" "code" "I") (by decide +kernel)) (fun _ h9 => h9) rfl dX5_watch_20 ?_
      refine lv_if_le (tgt := 28) hx hb dX5_watch_23 (by decide) (fun _ => ?_) (fun c9 => absurd c9 (by decide))
      refine lv_aload_n hx hb dX5_watch_28 rfl (lv_at hl 0 rfl) ?_
      refine va_get (D := G.1) (ci := 5) (v := .ref (q 5)) (C := RX5) (T := TX5) (N := 23) hx hb hts in5 hown hK hP 0 rfl rfl 8 (by decide) (hts (.fieldLink RX5 23 "TraceDebuggerModel" "watches" "[Z") (by decide +kernel)) (fun _ h9 => h9) rfl dX5_watch_29 ?_
      refine lv_iload_n hx hb dX5_watch_32 rfl (lv_at hl 1 rfl) ?_
      refine va_zald (D := G.1) hx hb hK hP 1 1 rfl rfl (vp_in_iff.mpr (by omega)) dX5_watch_33 ?_
      refine kTop (y := 0) rfl ?_
      refine lv_iload_n hx hb dX5_watch_34 rfl (lv_at hl 2 rfl) ?_
      refine lv_icmp_eq (tgt := 42) hx hb dX5_watch_35 (by decide) (fun c3 => ?_) (fun c3 => ?_)
      · have t3 := i_eq.mp c3
        refine lv_iconst (v := 0) hx hb dX5_watch_42 (by decide) ?_
        refine lv_istore_n (lv' := [(3, .int 0), (0, .ref (q 0)), (1, .int x), (2, .int o)]) hx hb dX5_watch_43 rfl hl (by decide) rfl (fun ls hl => ?_)
        refine lv_aload_n hx hb dX5_watch_44 rfl (lv_at hl 1 rfl) ?_
        refine va_get (D := G.1) (ci := 5) (v := .ref (q 5)) (C := RX5) (T := TX5) (N := 23) hx hb hts in5 hown hK hP 0 rfl rfl 8 (by decide) (hts (.fieldLink RX5 23 "TraceDebuggerModel" "watches" "[Z") (by decide +kernel)) (fun _ h9 => h9) rfl dX5_watch_45 ?_
        refine lv_iload_n hx hb dX5_watch_48 rfl (lv_at hl 2 rfl) ?_
        refine lv_iload_n hx hb dX5_watch_49 rfl (lv_at hl 3 rfl) ?_
        refine va_zast (D := G.1) hx hb hK hP hD hS 1 1 rfl rfl (vp_in_iff.mpr (by omega)) dX5_watch_50 (fun H locs hP hD hS => ?_)
        have hP : va_P G.1 vwCl [kO (q 0) 5 [.int 0, .int sp, .int sp, .ref (q 1), .ref (q 2), .ref (q 3), .ref (q 4), .int 0, .ref (q 5), .ref (q 6), .ref (q 7), .ref (q 8), .ref (q 9), .int 1, .int 0, .ref (q 10), .int 0, .int 0, .int 0, .int (-1), .ref (q 11), .int 1, .int 0], kI (q 5) (G.2 1) 64 (upd (fun _ => 0) x.toNatClampNeg (vp_nar .boolean o))] H := hP
        have hD : va_D A [kO (q 0) 5 [.int 0, .int sp, .int sp, .ref (q 1), .ref (q 2), .ref (q 3), .ref (q 4), .int 0, .ref (q 5), .ref (q 6), .ref (q 7), .ref (q 8), .ref (q 9), .int 1, .int 0, .ref (q 10), .int 0, .int 0, .int 0, .int (-1), .ref (q 11), .int 1, .int 0], kI (q 5) (G.2 1) 64 (upd (fun _ => 0) x.toNatClampNeg (vp_nar .boolean o))] := hD
        refine lv_iload_n hx hb dX5_watch_51 rfl (lv_at hl 0 rfl) ?_
        exact kRetZ (G := G) 0 hx hb hr hlocks hS dX5_watch_52 rfl (kSubP (wc := [kO (q 0) 5 [.int 0, .int sp, .int sp, .ref (q 1), .ref (q 2), .ref (q 3), .ref (q 4), .int 0, .ref (q 5), .ref (q 6), .ref (q 7), .ref (q 8), .ref (q 9), .int 1, .int 0, .ref (q 10), .int 0, .int 0, .int 0, .int (-1), .ref (q 11), .int 1, .int 0]]) hP [0] rfl) (hD.sub (ws' := [kO (q 0) 5 [.int 0, .int sp, .int sp, .ref (q 1), .ref (q 2), .ref (q 3), .ref (q 4), .int 0, .ref (q 5), .ref (q 6), .ref (q 7), .ref (q 8), .ref (q 9), .int 1, .int 0, .ref (q 10), .int 0, .int 0, .int 0, .int (-1), .ref (q 11), .int 1, .int 0]]) [0] (by decide) rfl) (by first | exact Or.inr ⟨rfl, by omega⟩ | exact Or.inl ⟨rfl, Or.inl ⟨rfl, by assumption⟩, by omega⟩ | exact Or.inl ⟨rfl, Or.inr ⟨rfl, by assumption⟩, by omega⟩ | exact Or.inl ⟨rfl, Or.inl ⟨rfl, Eq.symm (by assumption)⟩, by omega⟩ | exact Or.inl ⟨rfl, Or.inr ⟨rfl, fun h9 => absurd h9.symm (by assumption)⟩, by omega⟩)
      · have t3 := i_ne.mp c3
        refine lv_iconst (v := 1) hx hb dX5_watch_38 (by decide) ?_
        refine lv_goto (tgt := 43) hx hb dX5_watch_39 (by decide) ?_
        refine lv_istore_n (lv' := [(3, .int 1), (0, .ref (q 0)), (1, .int x), (2, .int o)]) hx hb dX5_watch_43 rfl hl (by decide) rfl (fun ls hl => ?_)
        refine lv_aload_n hx hb dX5_watch_44 rfl (lv_at hl 1 rfl) ?_
        refine va_get (D := G.1) (ci := 5) (v := .ref (q 5)) (C := RX5) (T := TX5) (N := 23) hx hb hts in5 hown hK hP 0 rfl rfl 8 (by decide) (hts (.fieldLink RX5 23 "TraceDebuggerModel" "watches" "[Z") (by decide +kernel)) (fun _ h9 => h9) rfl dX5_watch_45 ?_
        refine lv_iload_n hx hb dX5_watch_48 rfl (lv_at hl 2 rfl) ?_
        refine lv_iload_n hx hb dX5_watch_49 rfl (lv_at hl 3 rfl) ?_
        refine va_zast (D := G.1) hx hb hK hP hD hS 1 1 rfl rfl (vp_in_iff.mpr (by omega)) dX5_watch_50 (fun H locs hP hD hS => ?_)
        have hP : va_P G.1 vwCl [kO (q 0) 5 [.int 0, .int sp, .int sp, .ref (q 1), .ref (q 2), .ref (q 3), .ref (q 4), .int 0, .ref (q 5), .ref (q 6), .ref (q 7), .ref (q 8), .ref (q 9), .int 1, .int 0, .ref (q 10), .int 0, .int 0, .int 0, .int (-1), .ref (q 11), .int 1, .int 0], kI (q 5) (G.2 1) 64 (upd (fun _ => 0) x.toNatClampNeg (vp_nar .boolean o))] H := hP
        have hD : va_D A [kO (q 0) 5 [.int 0, .int sp, .int sp, .ref (q 1), .ref (q 2), .ref (q 3), .ref (q 4), .int 0, .ref (q 5), .ref (q 6), .ref (q 7), .ref (q 8), .ref (q 9), .int 1, .int 0, .ref (q 10), .int 0, .int 0, .int 0, .int (-1), .ref (q 11), .int 1, .int 0], kI (q 5) (G.2 1) 64 (upd (fun _ => 0) x.toNatClampNeg (vp_nar .boolean o))] := hD
        refine lv_iload_n hx hb dX5_watch_51 rfl (lv_at hl 0 rfl) ?_
        exact kRetZ (G := G) 0 hx hb hr hlocks hS dX5_watch_52 rfl (kSubP (wc := [kO (q 0) 5 [.int 0, .int sp, .int sp, .ref (q 1), .ref (q 2), .ref (q 3), .ref (q 4), .int 0, .ref (q 5), .ref (q 6), .ref (q 7), .ref (q 8), .ref (q 9), .int 1, .int 0, .ref (q 10), .int 0, .int 0, .int 0, .int (-1), .ref (q 11), .int 1, .int 0]]) hP [0] rfl) (hD.sub (ws' := [kO (q 0) 5 [.int 0, .int sp, .int sp, .ref (q 1), .ref (q 2), .ref (q 3), .ref (q 4), .int 0, .ref (q 5), .ref (q 6), .ref (q 7), .ref (q 8), .ref (q 9), .int 1, .int 0, .ref (q 10), .int 0, .int 0, .int 0, .int (-1), .ref (q 11), .int 1, .int 0]]) [0] (by decide) rfl) (by first | exact Or.inr ⟨rfl, by omega⟩ | exact Or.inl ⟨rfl, Or.inl ⟨rfl, by assumption⟩, by omega⟩ | exact Or.inl ⟨rfl, Or.inr ⟨rfl, by assumption⟩, by omega⟩ | exact Or.inl ⟨rfl, Or.inl ⟨rfl, Eq.symm (by assumption)⟩, by omega⟩ | exact Or.inl ⟨rfl, Or.inr ⟨rfl, fun h9 => absurd h9.symm (by assumption)⟩, by omega⟩)
