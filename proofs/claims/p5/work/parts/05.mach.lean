set_option maxHeartbeats 4000000 in
set_option maxRecDepth 100000 in
theorem c_X1_read (l : Launch) (G : gG) (sz : Nat) (mq : Nat) (o : Nat) (a : Nat) (ca : Nat) (la : Nat) (na : Nat) (fr : Int32) (pr : Int32) (tm : Int32) (en : Int32) (ch : Int32) (fc : Nat → Int32) (fl : Nat → Int32) (fn : Nat → Int32) (fo : Nat → Int32) (x : Int32) (hf1 : 1 ≤ fr.toInt) (hf2 : fr.toInt ≤ 16) (hx0 : 0 ≤ x.toInt) (hx1 : x.toInt < 8) : Met l yX1_read wsX1_read { frames := 0, cells := 0, slots := 0, locals := 0 } (kPc G [.ref mq, .int x] [kO mq 1 [.ref a, .ref o, .int ch], kO a 3 [.ref ca, .ref la, .ref na, .int fr, .int pr, .int tm, .int en], kI la (G.2 0) 128 fl] sz (fun _ => True)) (kQi G (S := Unit) (fun r _ => r = (fl (((fr - 1) * 8 + x).toNatClampNeg))) (fun _ => [kO mq 1 [.ref a, .ref o, .int ch], kO a 3 [.ref ca, .ref la, .ref na, .int fr, .int pr, .int tm, .int en], kI la (G.2 0) 128 fl]) (va_A [kO mq 1 [.ref a, .ref o, .int ch], kO a 3 [.ref ca, .ref la, .ref na, .int fr, .int pr, .int tm, .int en], kI la (G.2 0) 128 fl] sz)) 0 0 (va_A [kO mq 1 [.ref a, .ref o, .int ch], kO a 3 [.ref ca, .ref la, .ref na, .int fr, .int pr, .int tm, .int en], kI la (G.2 0) 128 fl] sz) := by
  refine kBeg (Qc := fun A => kQi G (S := Unit) (fun r _ => r = (fl (((fr - 1) * 8 + x).toNatClampNeg))) (fun _ => [kO mq 1 [.ref a, .ref o, .int ch], kO a 3 [.ref ca, .ref la, .ref na, .int fr, .int pr, .int tm, .int en], kI la (G.2 0) 128 fl]) A) (by decide) rfl (Nat.le_of_ble_eq_true rfl) ?_
  intro A p e s m below meth c ls H locs hx hb hr hts hown hlocks hnm hml hsz hP hK hD hZ hA hS hl
  have hown : s.vm.findClass RX1 = some m.cls := hown
  have hl : lv_has ls 2 [(0, .ref mq), (1, .int x)] := hl
  have in1 : ∀ w ∈ wsX10, w ∈ wsX1_read := by decide +kernel
  have in3 : ∀ w ∈ wsX30, w ∈ wsX1_read := by decide +kernel
  have kc1 : (1 : Int32).toInt = 1 := by decide
  have kc8 : (8 : Int32).toInt = 8 := by decide
  refine lv_aload_n hx hb dX1_read_0 rfl (lv_at hl 0 rfl) ?_
  refine va_get (D := G.1) (ci := 1) (v := .ref a) (C := RX1) (T := TX1) (N := 3) hx hb hts in1 hown hK hP 0 rfl rfl 0 (by decide) (hts (.fieldLink RX1 12 "TraceDebugger$Machine" "now" "LTraceDebugger$State;") (by decide +kernel)) (fun _ h9 => h9) rfl dX1_read_1 ?_
  refine va_get (D := G.1) (ci := 3) (v := .ref la) (C := RX3) (T := TX3) (N := 7) hx hb hts in3 hown hK hP 1 rfl rfl 1 (by decide) (hts (.fieldLink RX1 90 "TraceDebugger$State" "locals" "[I") (by decide +kernel)) (fun _ h9 => h9) rfl dX1_read_4 ?_
  refine lv_aload_n hx hb dX1_read_7 rfl (lv_at hl 0 rfl) ?_
  refine va_get (D := G.1) (ci := 1) (v := .ref a) (C := RX1) (T := TX1) (N := 3) hx hb hts in1 hown hK hP 0 rfl rfl 0 (by decide) (hts (.fieldLink RX1 12 "TraceDebugger$Machine" "now" "LTraceDebugger$State;") (by decide +kernel)) (fun _ h9 => h9) rfl dX1_read_8 ?_
  refine va_get (D := G.1) (ci := 3) (v := .int fr) (C := RX3) (T := TX3) (N := 7) hx hb hts in3 hown hK hP 1 rfl rfl 3 (by decide) (hts (.fieldLink RX1 29 "TraceDebugger$State" "frames" "I") (by decide +kernel)) (fun _ h9 => h9) rfl dX1_read_11 ?_
  refine lv_iconst (v := 1) hx hb dX1_read_14 (by decide) ?_
  refine lv_isub hx hb dX1_read_15 ?_
  have a1 : ((fr - 1) : Int32).toInt = (fr : Int32).toInt - (1 : Int32).toInt := i_sub (by omega) (by omega)
  refine lv_bipush (v := 8) hx hb dX1_read_16 (by decide) ?_
  refine lv_imul hx hb dX1_read_18 ?_
  have a2 : (((fr - 1) * 8) : Int32).toInt = ((fr - 1) : Int32).toInt * 8 := i_m8 (by omega) (by omega)
  refine lv_iload_n hx hb dX1_read_19 rfl (lv_at hl 1 rfl) ?_
  refine lv_iadd hx hb dX1_read_20 ?_
  have a3 : ((((fr - 1) * 8) + x) : Int32).toInt = (((fr - 1) * 8) : Int32).toInt + (x : Int32).toInt := i_add (by omega) (by omega)
  refine va_iald (D := G.1) hx hb hK hP 2 0 rfl rfl (vp_in_iff.mpr (by omega)) dX1_read_21 ?_
  exact kRetI (G := G) () hx hb hr hlocks hS dX1_read_22 hP hD rfl

set_option maxHeartbeats 4000000 in
set_option maxRecDepth 100000 in
theorem c_X1_pass (l : Launch) (G : gG) (sz : Nat) (mq : Nat) (o : Nat) (a : Nat) (ca : Nat) (la : Nat) (na : Nat) (fr : Int32) (pr : Int32) (tm : Int32) (en : Int32) (ch : Int32) (fc : Nat → Int32) (fl : Nat → Int32) (fn : Nat → Int32) (fo : Nat → Int32) (hf1 : 1 ≤ fr.toInt) (hf2 : fr.toInt ≤ 16) : Met l yX1_pass wsX1_pass { frames := 0, cells := 0, slots := 0, locals := 0 } (kPc G [.ref mq] [kO mq 1 [.ref a, .ref o, .int ch], kO a 3 [.ref ca, .ref la, .ref na, .int fr, .int pr, .int tm, .int en], kI na (G.2 0) 16 fn] sz (fun _ => True)) (kQi G (S := (Nat → Int32)) (fun r _ => r = 1) (fun u => [kO mq 1 [.ref a, .ref o, .int ch], kO a 3 [.ref ca, .ref la, .ref na, .int fr, .int pr, .int tm, .int en], kI na (G.2 0) 16 u]) (va_A [kO mq 1 [.ref a, .ref o, .int ch], kO a 3 [.ref ca, .ref la, .ref na, .int fr, .int pr, .int tm, .int en], kI na (G.2 0) 16 fn] sz)) 0 0 (va_A [kO mq 1 [.ref a, .ref o, .int ch], kO a 3 [.ref ca, .ref la, .ref na, .int fr, .int pr, .int tm, .int en], kI na (G.2 0) 16 fn] sz) := by
  refine kBeg (Qc := fun A => kQi G (S := (Nat → Int32)) (fun r _ => r = 1) (fun u => [kO mq 1 [.ref a, .ref o, .int ch], kO a 3 [.ref ca, .ref la, .ref na, .int fr, .int pr, .int tm, .int en], kI na (G.2 0) 16 u]) A) (by decide) rfl (Nat.le_of_ble_eq_true rfl) ?_
  intro A p e s m below meth c ls H locs hx hb hr hts hown hlocks hnm hml hsz hP hK hD hZ hA hS hl
  have hown : s.vm.findClass RX1 = some m.cls := hown
  have hl : lv_has ls 1 [(0, .ref mq)] := hl
  have in1 : ∀ w ∈ wsX10, w ∈ wsX1_pass := by decide +kernel
  have in3 : ∀ w ∈ wsX30, w ∈ wsX1_pass := by decide +kernel
  have kc1 : (1 : Int32).toInt = 1 := by decide
  refine lv_aload_n hx hb dX1_pass_0 rfl (lv_at hl 0 rfl) ?_
  refine va_get (D := G.1) (ci := 1) (v := .ref a) (C := RX1) (T := TX1) (N := 3) hx hb hts in1 hown hK hP 0 rfl rfl 0 (by decide) (hts (.fieldLink RX1 12 "TraceDebugger$Machine" "now" "LTraceDebugger$State;") (by decide +kernel)) (fun _ h9 => h9) rfl dX1_pass_1 ?_
  refine va_get (D := G.1) (ci := 3) (v := .ref na) (C := RX3) (T := TX3) (N := 7) hx hb hts in3 hown hK hP 1 rfl rfl 2 (by decide) (hts (.fieldLink RX1 26 "TraceDebugger$State" "lines" "[I") (by decide +kernel)) (fun _ h9 => h9) rfl dX1_pass_4 ?_
  refine lv_aload_n hx hb dX1_pass_7 rfl (lv_at hl 0 rfl) ?_
  refine va_get (D := G.1) (ci := 1) (v := .ref a) (C := RX1) (T := TX1) (N := 3) hx hb hts in1 hown hK hP 0 rfl rfl 0 (by decide) (hts (.fieldLink RX1 12 "TraceDebugger$Machine" "now" "LTraceDebugger$State;") (by decide +kernel)) (fun _ h9 => h9) rfl dX1_pass_8 ?_
  refine va_get (D := G.1) (ci := 3) (v := .int fr) (C := RX3) (T := TX3) (N := 7) hx hb hts in3 hown hK hP 1 rfl rfl 3 (by decide) (hts (.fieldLink RX1 29 "TraceDebugger$State" "frames" "I") (by decide +kernel)) (fun _ h9 => h9) rfl dX1_pass_11 ?_
  refine lv_iconst (v := 1) hx hb dX1_pass_14 (by decide) ?_
  refine lv_isub hx hb dX1_pass_15 ?_
  have a1 : ((fr - 1) : Int32).toInt = (fr : Int32).toInt - (1 : Int32).toInt := i_sub (by omega) (by omega)
  refine lv_dup2_11 hx hb dX1_pass_16 rfl rfl ?_
  refine va_iald (D := G.1) hx hb hK hP 2 0 rfl rfl (vp_in_iff.mpr (by omega)) dX1_pass_17 ?_
  refine lv_iconst (v := 1) hx hb dX1_pass_18 (by decide) ?_
  refine lv_iadd hx hb dX1_pass_19 ?_
  refine va_iast (D := G.1) hx hb hK hP hD hS 2 0 rfl rfl (vp_in_iff.mpr (by omega)) dX1_pass_20 (fun H locs hP hD hS => ?_)
  have hP : va_P G.1 vwCl [kO mq 1 [.ref a, .ref o, .int ch], kO a 3 [.ref ca, .ref la, .ref na, .int fr, .int pr, .int tm, .int en], kI na (G.2 0) 16 (upd fn (fr - 1).toNatClampNeg ((fn (fr - 1).toNatClampNeg) + 1))] H := hP
  have hD : va_D A [kO mq 1 [.ref a, .ref o, .int ch], kO a 3 [.ref ca, .ref la, .ref na, .int fr, .int pr, .int tm, .int en], kI na (G.2 0) 16 (upd fn (fr - 1).toNatClampNeg ((fn (fr - 1).toNatClampNeg) + 1))] := hD
  refine lv_iconst (v := 1) hx hb dX1_pass_21 (by decide) ?_
  exact kRetZ (G := G) (upd fn (fr - 1).toNatClampNeg ((fn (fr - 1).toNatClampNeg) + 1)) hx hb hr hlocks hS dX1_pass_22 rfl hP hD rfl

set_option maxHeartbeats 4000000 in
set_option maxRecDepth 100000 in
theorem c_X1_jump (l : Launch) (G : gG) (sz : Nat) (mq : Nat) (o : Nat) (a : Nat) (ca : Nat) (la : Nat) (na : Nat) (fr : Int32) (pr : Int32) (tm : Int32) (en : Int32) (ch : Int32) (fc : Nat → Int32) (fl : Nat → Int32) (fn : Nat → Int32) (fo : Nat → Int32) (x : Int32) (hf1 : 1 ≤ fr.toInt) (hf2 : fr.toInt ≤ 16) : Met l yX1_jump wsX1_jump { frames := 0, cells := 0, slots := 0, locals := 0 } (kPc G [.ref mq, .int x] [kO mq 1 [.ref a, .ref o, .int ch], kO a 3 [.ref ca, .ref la, .ref na, .int fr, .int pr, .int tm, .int en], kI na (G.2 0) 16 fn] sz (fun _ => True)) (kQi G (S := (Nat → Int32)) (fun r _ => r = 1) (fun u => [kO mq 1 [.ref a, .ref o, .int ch], kO a 3 [.ref ca, .ref la, .ref na, .int fr, .int pr, .int tm, .int en], kI na (G.2 0) 16 u]) (va_A [kO mq 1 [.ref a, .ref o, .int ch], kO a 3 [.ref ca, .ref la, .ref na, .int fr, .int pr, .int tm, .int en], kI na (G.2 0) 16 fn] sz)) 0 0 (va_A [kO mq 1 [.ref a, .ref o, .int ch], kO a 3 [.ref ca, .ref la, .ref na, .int fr, .int pr, .int tm, .int en], kI na (G.2 0) 16 fn] sz) := by
  refine kBeg (Qc := fun A => kQi G (S := (Nat → Int32)) (fun r _ => r = 1) (fun u => [kO mq 1 [.ref a, .ref o, .int ch], kO a 3 [.ref ca, .ref la, .ref na, .int fr, .int pr, .int tm, .int en], kI na (G.2 0) 16 u]) A) (by decide) rfl (Nat.le_of_ble_eq_true rfl) ?_
  intro A p e s m below meth c ls H locs hx hb hr hts hown hlocks hnm hml hsz hP hK hD hZ hA hS hl
  have hown : s.vm.findClass RX1 = some m.cls := hown
  have hl : lv_has ls 2 [(0, .ref mq), (1, .int x)] := hl
  have in1 : ∀ w ∈ wsX10, w ∈ wsX1_jump := by decide +kernel
  have in3 : ∀ w ∈ wsX30, w ∈ wsX1_jump := by decide +kernel
  have kc1 : (1 : Int32).toInt = 1 := by decide
  refine lv_aload_n hx hb dX1_jump_0 rfl (lv_at hl 0 rfl) ?_
  refine va_get (D := G.1) (ci := 1) (v := .ref a) (C := RX1) (T := TX1) (N := 3) hx hb hts in1 hown hK hP 0 rfl rfl 0 (by decide) (hts (.fieldLink RX1 12 "TraceDebugger$Machine" "now" "LTraceDebugger$State;") (by decide +kernel)) (fun _ h9 => h9) rfl dX1_jump_1 ?_
  refine va_get (D := G.1) (ci := 3) (v := .ref na) (C := RX3) (T := TX3) (N := 7) hx hb hts in3 hown hK hP 1 rfl rfl 2 (by decide) (hts (.fieldLink RX1 26 "TraceDebugger$State" "lines" "[I") (by decide +kernel)) (fun _ h9 => h9) rfl dX1_jump_4 ?_
  refine lv_aload_n hx hb dX1_jump_7 rfl (lv_at hl 0 rfl) ?_
  refine va_get (D := G.1) (ci := 1) (v := .ref a) (C := RX1) (T := TX1) (N := 3) hx hb hts in1 hown hK hP 0 rfl rfl 0 (by decide) (hts (.fieldLink RX1 12 "TraceDebugger$Machine" "now" "LTraceDebugger$State;") (by decide +kernel)) (fun _ h9 => h9) rfl dX1_jump_8 ?_
  refine va_get (D := G.1) (ci := 3) (v := .int fr) (C := RX3) (T := TX3) (N := 7) hx hb hts in3 hown hK hP 1 rfl rfl 3 (by decide) (hts (.fieldLink RX1 29 "TraceDebugger$State" "frames" "I") (by decide +kernel)) (fun _ h9 => h9) rfl dX1_jump_11 ?_
  refine lv_iconst (v := 1) hx hb dX1_jump_14 (by decide) ?_
  refine lv_isub hx hb dX1_jump_15 ?_
  have a1 : ((fr - 1) : Int32).toInt = (fr : Int32).toInt - (1 : Int32).toInt := i_sub (by omega) (by omega)
  refine lv_iload_n hx hb dX1_jump_16 rfl (lv_at hl 1 rfl) ?_
  refine va_iast (D := G.1) hx hb hK hP hD hS 2 0 rfl rfl (vp_in_iff.mpr (by omega)) dX1_jump_17 (fun H locs hP hD hS => ?_)
  have hP : va_P G.1 vwCl [kO mq 1 [.ref a, .ref o, .int ch], kO a 3 [.ref ca, .ref la, .ref na, .int fr, .int pr, .int tm, .int en], kI na (G.2 0) 16 (upd fn (fr - 1).toNatClampNeg x)] H := hP
  have hD : va_D A [kO mq 1 [.ref a, .ref o, .int ch], kO a 3 [.ref ca, .ref la, .ref na, .int fr, .int pr, .int tm, .int en], kI na (G.2 0) 16 (upd fn (fr - 1).toNatClampNeg x)] := hD
  refine lv_iconst (v := 1) hx hb dX1_jump_18 (by decide) ?_
  exact kRetZ (G := G) (upd fn (fr - 1).toNatClampNeg x) hx hb hr hlocks hS dX1_jump_19 rfl hP hD rfl

set_option maxHeartbeats 4000000 in
set_option maxRecDepth 100000 in
theorem c_X1_end (l : Launch) (G : gG) (sz : Nat) (mq : Nat) (o : Nat) (a : Nat) (ca : Nat) (la : Nat) (na : Nat) (fr : Int32) (pr : Int32) (tm : Int32) (en : Int32) (ch : Int32) (fc : Nat → Int32) (fl : Nat → Int32) (fn : Nat → Int32) (fo : Nat → Int32)  : Met l yX1_end wsX1_end { frames := 0, cells := 0, slots := 0, locals := 0 } (kPc G [.ref mq] [kO mq 1 [.ref a, .ref o, .int ch], kO a 3 [.ref ca, .ref la, .ref na, .int fr, .int pr, .int tm, .int en]] sz (fun _ => True)) (kQi G (S := Unit) (fun r _ => r = 1) (fun _ => [kO mq 1 [.ref a, .ref o, .int ch], kO a 3 [.ref ca, .ref la, .ref na, .int fr, .int pr, .int tm, .int 1]]) (va_A [kO mq 1 [.ref a, .ref o, .int ch], kO a 3 [.ref ca, .ref la, .ref na, .int fr, .int pr, .int tm, .int en]] sz)) 0 0 (va_A [kO mq 1 [.ref a, .ref o, .int ch], kO a 3 [.ref ca, .ref la, .ref na, .int fr, .int pr, .int tm, .int en]] sz) := by
  refine kBeg (Qc := fun A => kQi G (S := Unit) (fun r _ => r = 1) (fun _ => [kO mq 1 [.ref a, .ref o, .int ch], kO a 3 [.ref ca, .ref la, .ref na, .int fr, .int pr, .int tm, .int 1]]) A) (by decide) rfl (Nat.le_of_ble_eq_true rfl) ?_
  intro A p e s m below meth c ls H locs hx hb hr hts hown hlocks hnm hml hsz hP hK hD hZ hA hS hl
  have hown : s.vm.findClass RX1 = some m.cls := hown
  have hl : lv_has ls 1 [(0, .ref mq)] := hl
  have in1 : ∀ w ∈ wsX10, w ∈ wsX1_end := by decide +kernel
  have in3 : ∀ w ∈ wsX30, w ∈ wsX1_end := by decide +kernel
  have kc1 : (1 : Int32).toInt = 1 := by decide
  refine lv_aload_n hx hb dX1_end_0 rfl (lv_at hl 0 rfl) ?_
  refine va_get (D := G.1) (ci := 1) (v := .ref a) (C := RX1) (T := TX1) (N := 3) hx hb hts in1 hown hK hP 0 rfl rfl 0 (by decide) (hts (.fieldLink RX1 12 "TraceDebugger$Machine" "now" "LTraceDebugger$State;") (by decide +kernel)) (fun _ h9 => h9) rfl dX1_end_1 ?_
  refine lv_iconst (v := 1) hx hb dX1_end_4 (by decide) ?_
  refine va_put (D := G.1) (ci := 3) (v := .int 1) (ty := .boolean) (C := RX3) (T := TX3) (N := 7) hx hb hts in3 tyX3 tyX3_ok nmX3 hown hK hP hD hS 1 rfl rfl 6 (by decide) (hts (.fieldLink RX1 93 "TraceDebugger$State" "ended" "Z") (by decide +kernel)) (fun _ h9 => h9) rfl (by decide +kernel) rfl rfl (Nat.le_of_ble_eq_true rfl) dX1_end_5 (fun H locs hP hD hS => ?_)
  have hP : va_P G.1 vwCl [kO mq 1 [.ref a, .ref o, .int ch], kO a 3 [.ref ca, .ref la, .ref na, .int fr, .int pr, .int tm, .int 1]] H := hP
  have hD : va_D A [kO mq 1 [.ref a, .ref o, .int ch], kO a 3 [.ref ca, .ref la, .ref na, .int fr, .int pr, .int tm, .int 1]] := hD
  refine lv_iconst (v := 1) hx hb dX1_end_8 (by decide) ?_
  exact kRetZ (G := G) () hx hb hr hlocks hS dX1_end_9 rfl hP hD rfl

set_option maxHeartbeats 4000000 in
set_option maxRecDepth 100000 in
theorem c_X1_put (l : Launch) (G : gG) (sz : Nat) (mq : Nat) (o : Nat) (a : Nat) (ca : Nat) (la : Nat) (na : Nat) (fr : Int32) (pr : Int32) (tm : Int32) (en : Int32) (ch : Int32) (fc : Nat → Int32) (fl : Nat → Int32) (fn : Nat → Int32) (fo : Nat → Int32) (x : Int32) (v : Int32) (hf1 : 1 ≤ fr.toInt) (hf2 : fr.toInt ≤ 16) (hx0 : 0 ≤ x.toInt) (hx1 : x.toInt < 8) : Met l yX1_put wsX1_put { frames := 1, cells := 0, slots := 0, locals := 20 } (kPc G [.ref mq, .int x, .int v] [kO mq 1 [.ref a, .ref o, .int ch], kO a 3 [.ref ca, .ref la, .ref na, .int fr, .int pr, .int tm, .int en], kI la (G.2 0) 128 fl, kI na (G.2 0) 16 fn] sz (fun _ => True)) (kQi G (S := (Nat → Int32) × (Nat → Int32)) (fun r _ => r = 1) (fun u => [kO mq 1 [.ref a, .ref o, .int ch], kO a 3 [.ref ca, .ref la, .ref na, .int fr, .int pr, .int tm, .int en], kI la (G.2 0) 128 u.1, kI na (G.2 0) 16 u.2]) (va_A [kO mq 1 [.ref a, .ref o, .int ch], kO a 3 [.ref ca, .ref la, .ref na, .int fr, .int pr, .int tm, .int en], kI la (G.2 0) 128 fl, kI na (G.2 0) 16 fn] sz)) 0 0 (va_A [kO mq 1 [.ref a, .ref o, .int ch], kO a 3 [.ref ca, .ref la, .ref na, .int fr, .int pr, .int tm, .int en], kI la (G.2 0) 128 fl, kI na (G.2 0) 16 fn] sz) := by
  refine kBeg (Qc := fun A => kQi G (S := (Nat → Int32) × (Nat → Int32)) (fun r _ => r = 1) (fun u => [kO mq 1 [.ref a, .ref o, .int ch], kO a 3 [.ref ca, .ref la, .ref na, .int fr, .int pr, .int tm, .int en], kI la (G.2 0) 128 u.1, kI na (G.2 0) 16 u.2]) A) (by decide) rfl (Nat.le_of_ble_eq_true rfl) ?_
  intro A p e s m below meth c ls H locs hx hb hr hts hown hlocks hnm hml hsz hP hK hD hZ hA hS hl
  have hown : s.vm.findClass RX1 = some m.cls := hown
  have hl : lv_has ls 3 [(0, .ref mq), (1, .int x), (2, .int v)] := hl
  have in1 : ∀ w ∈ wsX10, w ∈ wsX1_put := by decide +kernel
  have in3 : ∀ w ∈ wsX30, w ∈ wsX1_put := by decide +kernel
  have kc1 : (1 : Int32).toInt = 1 := by decide
  have kc8 : (8 : Int32).toInt = 8 := by decide
  refine lv_aload_n hx hb dX1_put_0 rfl (lv_at hl 0 rfl) ?_
  refine va_get (D := G.1) (ci := 1) (v := .ref a) (C := RX1) (T := TX1) (N := 3) hx hb hts in1 hown hK hP 0 rfl rfl 0 (by decide) (hts (.fieldLink RX1 12 "TraceDebugger$Machine" "now" "LTraceDebugger$State;") (by decide +kernel)) (fun _ h9 => h9) rfl dX1_put_1 ?_
  refine va_get (D := G.1) (ci := 3) (v := .ref la) (C := RX3) (T := TX3) (N := 7) hx hb hts in3 hown hK hP 1 rfl rfl 1 (by decide) (hts (.fieldLink RX1 90 "TraceDebugger$State" "locals" "[I") (by decide +kernel)) (fun _ h9 => h9) rfl dX1_put_4 ?_
  refine lv_aload_n hx hb dX1_put_7 rfl (lv_at hl 0 rfl) ?_
  refine va_get (D := G.1) (ci := 1) (v := .ref a) (C := RX1) (T := TX1) (N := 3) hx hb hts in1 hown hK hP 0 rfl rfl 0 (by decide) (hts (.fieldLink RX1 12 "TraceDebugger$Machine" "now" "LTraceDebugger$State;") (by decide +kernel)) (fun _ h9 => h9) rfl dX1_put_8 ?_
  refine va_get (D := G.1) (ci := 3) (v := .int fr) (C := RX3) (T := TX3) (N := 7) hx hb hts in3 hown hK hP 1 rfl rfl 3 (by decide) (hts (.fieldLink RX1 29 "TraceDebugger$State" "frames" "I") (by decide +kernel)) (fun _ h9 => h9) rfl dX1_put_11 ?_
  refine lv_iconst (v := 1) hx hb dX1_put_14 (by decide) ?_
  refine lv_isub hx hb dX1_put_15 ?_
  have a1 : ((fr - 1) : Int32).toInt = (fr : Int32).toInt - (1 : Int32).toInt := i_sub (by omega) (by omega)
  refine lv_bipush (v := 8) hx hb dX1_put_16 (by decide) ?_
  refine lv_imul hx hb dX1_put_18 ?_
  have a2 : (((fr - 1) * 8) : Int32).toInt = ((fr - 1) : Int32).toInt * 8 := i_m8 (by omega) (by omega)
  refine lv_iload_n hx hb dX1_put_19 rfl (lv_at hl 1 rfl) ?_
  refine lv_iadd hx hb dX1_put_20 ?_
  have a3 : ((((fr - 1) * 8) + x) : Int32).toInt = (((fr - 1) * 8) : Int32).toInt + (x : Int32).toInt := i_add (by omega) (by omega)
  refine lv_iload_n hx hb dX1_put_21 rfl (lv_at hl 2 rfl) ?_
  refine va_iast (D := G.1) hx hb hK hP hD hS 2 0 rfl rfl (vp_in_iff.mpr (by omega)) dX1_put_22 (fun H locs hP hD hS => ?_)
  have hP : va_P G.1 vwCl [kO mq 1 [.ref a, .ref o, .int ch], kO a 3 [.ref ca, .ref la, .ref na, .int fr, .int pr, .int tm, .int en], kI la (G.2 0) 128 (upd fl (((fr - 1) * 8) + x).toNatClampNeg v), kI na (G.2 0) 16 fn] H := hP
  have hD : va_D A [kO mq 1 [.ref a, .ref o, .int ch], kO a 3 [.ref ca, .ref la, .ref na, .int fr, .int pr, .int tm, .int en], kI la (G.2 0) 128 (upd fl (((fr - 1) * 8) + x).toNatClampNeg v), kI na (G.2 0) 16 fn] := hD
  refine lv_aload_n hx hb dX1_put_23 rfl (lv_at hl 0 rfl) ?_
  refine kCi (G := G) (ws := [kO mq 1 [.ref a, .ref o, .int ch], kO a 3 [.ref ca, .ref la, .ref na, .int fr, .int pr, .int tm, .int en], kI la (G.2 0) 128 (upd fl (((fr - 1) * 8) + x).toNatClampNeg v), kI na (G.2 0) 16 fn]) (wr := [kI la (G.2 0) 128 (upd fl (((fr - 1) * 8) + x).toNatClampNeg v)]) (va_runV (As := []) (rest := []) ⟨hx, hb, hml, hown, hts⟩ (c_X1_pass l G H.size mq o a ca la na fr pr tm en ch (fun _ => 0) (upd fl (((fr - 1) * 8) + x).toNatClampNeg v) fn (fun _ => 0) (by omega) (by omega)) (cwV 0 hts gX1_put_X1_pass rfl rfl rfl (by decide +kernel) ⟨Nat.le_of_ble_eq_true rfl, Nat.le_of_ble_eq_true rfl⟩) (kPreV (va_recv hK hP (ci := 1) (q0 := 0) rfl rfl) kZ0 kZt hK hP hD [0, 1, 3] rfl (by decide +kernel)) rfl rfl hl.1 rfl (lv_room (Nat.le_of_ble_eq_true rfl)) dX1_put_24 ⟨Nat.le_of_ble_eq_true rfl, Nat.le_of_ble_eq_true rfl⟩) hP hD hS hA [0, 1, 3] [2] rfl rfl (by decide +kernel) (by decide +kernel) (fun r5 u4 H locs hw6 hP hD hS => ?_)
  obtain ⟨fn7, rfl⟩ : ∃ z, z = u4 := ⟨_, rfl⟩
  try dsimp only at hw6
  have hP : va_P G.1 vwCl [kI la (G.2 0) 128 (upd fl (((fr - 1) * 8) + x).toNatClampNeg v), kO mq 1 [.ref a, .ref o, .int ch], kO a 3 [.ref ca, .ref la, .ref na, .int fr, .int pr, .int tm, .int en], kI na (G.2 0) 16 fn7] H := hP
  have hD : va_D A [kI la (G.2 0) 128 (upd fl (((fr - 1) * 8) + x).toNatClampNeg v), kO mq 1 [.ref a, .ref o, .int ch], kO a 3 [.ref ca, .ref la, .ref na, .int fr, .int pr, .int tm, .int en], kI na (G.2 0) 16 fn7] := hD
  subst hw6
  exact kRetZ (G := G) ((upd fl (((fr - 1) * 8) + x).toNatClampNeg v), fn7) hx hb hr hlocks hS dX1_put_27 rfl (kSubP (wc := [kO mq 1 [.ref a, .ref o, .int ch], kO a 3 [.ref ca, .ref la, .ref na, .int fr, .int pr, .int tm, .int en], kI la (G.2 0) 128 (upd fl (((fr - 1) * 8) + x).toNatClampNeg v), kI na (G.2 0) 16 fn7]) hP [1, 2, 0, 3] rfl) (hD.sub (ws' := [kO mq 1 [.ref a, .ref o, .int ch], kO a 3 [.ref ca, .ref la, .ref na, .int fr, .int pr, .int tm, .int en], kI la (G.2 0) 128 (upd fl (((fr - 1) * 8) + x).toNatClampNeg v), kI na (G.2 0) 16 fn7]) [1, 2, 0, 3] (by decide +kernel) rfl) rfl

set_option maxHeartbeats 4000000 in
set_option maxRecDepth 100000 in
theorem c_X1_store (l : Launch) (G : gG) (sz : Nat) (mq : Nat) (o : Nat) (a : Nat) (ca : Nat) (la : Nat) (na : Nat) (fr : Int32) (pr : Int32) (tm : Int32) (en : Int32) (ch : Int32) (fc : Nat → Int32) (fl : Nat → Int32) (fn : Nat → Int32) (fo : Nat → Int32) (x : Int32) (v : Int32) (hf1 : 1 ≤ fr.toInt) (hf2 : fr.toInt ≤ 16) (hch : (ch.toInt = -1 ∨ (0 ≤ ch.toInt ∧ ch.toInt < 64))) : Met l yX1_store wsX1_store { frames := 1, cells := 0, slots := 0, locals := 20 } (kPc G [.ref mq, .int x, .int v] [kO mq 1 [.ref a, .ref o, .int ch], kO a 3 [.ref ca, .ref la, .ref na, .int fr, .int pr, .int tm, .int en], kI ca (G.2 0) 64 fc, kI na (G.2 0) 16 fn] sz (va_Nw (.methodLinkNest RX1 62 yX4_isCell "TraceDebugger"))) (kQi G (S := (Nat → Int32) × (Nat → Int32) × Int32) (fun r u => (r = 0 ∨ r = 1) ∧ (u.2.2.toInt = -1 ∨ (0 ≤ u.2.2.toInt ∧ u.2.2.toInt < 64))) (fun u => [kO mq 1 [.ref a, .ref o, .int u.2.2], kO a 3 [.ref ca, .ref la, .ref na, .int fr, .int pr, .int tm, .int en], kI ca (G.2 0) 64 u.1, kI na (G.2 0) 16 u.2.1]) (va_A [kO mq 1 [.ref a, .ref o, .int ch], kO a 3 [.ref ca, .ref la, .ref na, .int fr, .int pr, .int tm, .int en], kI ca (G.2 0) 64 fc, kI na (G.2 0) 16 fn] sz)) 0 0 (va_A [kO mq 1 [.ref a, .ref o, .int ch], kO a 3 [.ref ca, .ref la, .ref na, .int fr, .int pr, .int tm, .int en], kI ca (G.2 0) 64 fc, kI na (G.2 0) 16 fn] sz) := by
  refine kBeg (Qc := fun A => kQi G (S := (Nat → Int32) × (Nat → Int32) × Int32) (fun r u => (r = 0 ∨ r = 1) ∧ (u.2.2.toInt = -1 ∨ (0 ≤ u.2.2.toInt ∧ u.2.2.toInt < 64))) (fun u => [kO mq 1 [.ref a, .ref o, .int u.2.2], kO a 3 [.ref ca, .ref la, .ref na, .int fr, .int pr, .int tm, .int en], kI ca (G.2 0) 64 u.1, kI na (G.2 0) 16 u.2.1]) A) (by decide) rfl (Nat.le_of_ble_eq_true rfl) ?_
  intro A p e s m below meth c ls H locs hx hb hr hts hown hlocks hnm hml hsz hP hK hD hZ hA hS hl
  have hown : s.vm.findClass RX1 = some m.cls := hown
  have hl : lv_has ls 3 [(0, .ref mq), (1, .int x), (2, .int v)] := hl
  have in1 : ∀ w ∈ wsX10, w ∈ wsX1_store := by decide +kernel
  have in3 : ∀ w ∈ wsX30, w ∈ wsX1_store := by decide +kernel
  have kc0 : (0 : Int32).toInt = 0 := by decide
  refine lv_iload_n hx hb dX1_store_0 rfl (lv_at hl 1 rfl) ?_
  refine kCi (G := G) (ws := [kO mq 1 [.ref a, .ref o, .int ch], kO a 3 [.ref ca, .ref la, .ref na, .int fr, .int pr, .int tm, .int en], kI ca (G.2 0) 64 fc, kI na (G.2 0) 16 fn]) (wr := [kO mq 1 [.ref a, .ref o, .int ch], kO a 3 [.ref ca, .ref la, .ref na, .int fr, .int pr, .int tm, .int en], kI ca (G.2 0) 64 fc, kI na (G.2 0) 16 fn]) (va_runSN (As := [.int x]) (rest := []) ⟨hx, hb, hml, hown, hts⟩ (c_X4_isCell l G H.size x ) ⟨va_cnB 1 hts gX1_store_X4_isCell_n62 rfl rfl rfl hZ (hts (.initialized RX4) (by decide +kernel)) (by decide +kernel) ⟨Nat.le_of_ble_eq_true rfl, Nat.le_of_ble_eq_true rfl⟩, hts (.static yX4_isCell) (by decide +kernel), trivial⟩ (kPreS kZ0 kZt hK hP hD [] rfl (by decide +kernel)) rfl rfl hl.1 rfl (lv_room (Nat.le_of_ble_eq_true rfl)) dX1_store_1 ⟨Nat.le_of_ble_eq_true rfl, Nat.le_of_ble_eq_true rfl⟩) hP hD hS hA [] [0, 1, 2, 3] rfl rfl (by decide +kernel) (by decide +kernel) (fun r2 u1 H locs hw3 hP hD hS => ?_)
  try dsimp only at hw3
  have hP : va_P G.1 vwCl [kO mq 1 [.ref a, .ref o, .int ch], kO a 3 [.ref ca, .ref la, .ref na, .int fr, .int pr, .int tm, .int en], kI ca (G.2 0) 64 fc, kI na (G.2 0) 16 fn] H := hP
  have hD : va_D A [kO mq 1 [.ref a, .ref o, .int ch], kO a 3 [.ref ca, .ref la, .ref na, .int fr, .int pr, .int tm, .int en], kI ca (G.2 0) 64 fc, kI na (G.2 0) 16 fn] := hD
  rcases hw3 with ⟨rfl, hq4⟩ | ⟨rfl, hq4⟩
  · have _u := hsz
    refine lv_if_ne (tgt := 9) hx hb dX1_store_4 (by decide) (fun _ => ?_) (fun c9 => absurd c9 (by decide))
    refine lv_aload_n hx hb dX1_store_9 rfl (lv_at hl 0 rfl) ?_
    refine va_get (D := G.1) (ci := 1) (v := .ref a) (C := RX1) (T := TX1) (N := 3) hx hb hts in1 hown hK hP 0 rfl rfl 0 (by decide) (hts (.fieldLink RX1 12 "TraceDebugger$Machine" "now" "LTraceDebugger$State;") (by decide +kernel)) (fun _ h9 => h9) rfl dX1_store_10 ?_
    refine va_get (D := G.1) (ci := 3) (v := .ref ca) (C := RX3) (T := TX3) (N := 7) hx hb hts in3 hown hK hP 1 rfl rfl 0 (by decide) (hts (.fieldLink RX1 65 "TraceDebugger$State" "cells" "[I") (by decide +kernel)) (fun _ h9 => h9) rfl dX1_store_13 ?_
    refine lv_iload_n hx hb dX1_store_16 rfl (lv_at hl 1 rfl) ?_
    refine va_iald (D := G.1) hx hb hK hP 2 0 rfl rfl (vp_in_iff.mpr (by omega)) dX1_store_17 ?_
    refine lv_iload_n hx hb dX1_store_18 rfl (lv_at hl 2 rfl) ?_
    refine lv_icmp_eq (tgt := 27) hx hb dX1_store_19 (by decide) (fun c5 => ?_) (fun c5 => ?_)
    · have t5 := i_eq.mp c5
      refine lv_aload_n hx hb dX1_store_27 rfl (lv_at hl 0 rfl) ?_
      refine va_get (D := G.1) (ci := 1) (v := .ref a) (C := RX1) (T := TX1) (N := 3) hx hb hts in1 hown hK hP 0 rfl rfl 0 (by decide) (hts (.fieldLink RX1 12 "TraceDebugger$Machine" "now" "LTraceDebugger$State;") (by decide +kernel)) (fun _ h9 => h9) rfl dX1_store_28 ?_
      refine va_get (D := G.1) (ci := 3) (v := .ref ca) (C := RX3) (T := TX3) (N := 7) hx hb hts in3 hown hK hP 1 rfl rfl 0 (by decide) (hts (.fieldLink RX1 65 "TraceDebugger$State" "cells" "[I") (by decide +kernel)) (fun _ h9 => h9) rfl dX1_store_31 ?_
      refine lv_iload_n hx hb dX1_store_34 rfl (lv_at hl 1 rfl) ?_
      refine lv_iload_n hx hb dX1_store_35 rfl (lv_at hl 2 rfl) ?_
      refine va_iast (D := G.1) hx hb hK hP hD hS 2 0 rfl rfl (vp_in_iff.mpr (by omega)) dX1_store_36 (fun H locs hP hD hS => ?_)
      have hP : va_P G.1 vwCl [kO mq 1 [.ref a, .ref o, .int ch], kO a 3 [.ref ca, .ref la, .ref na, .int fr, .int pr, .int tm, .int en], kI ca (G.2 0) 64 (upd fc x.toNatClampNeg v), kI na (G.2 0) 16 fn] H := hP
      have hD : va_D A [kO mq 1 [.ref a, .ref o, .int ch], kO a 3 [.ref ca, .ref la, .ref na, .int fr, .int pr, .int tm, .int en], kI ca (G.2 0) 64 (upd fc x.toNatClampNeg v), kI na (G.2 0) 16 fn] := hD
      refine lv_aload_n hx hb dX1_store_37 rfl (lv_at hl 0 rfl) ?_
      refine kCi (G := G) (ws := [kO mq 1 [.ref a, .ref o, .int ch], kO a 3 [.ref ca, .ref la, .ref na, .int fr, .int pr, .int tm, .int en], kI ca (G.2 0) 64 (upd fc x.toNatClampNeg v), kI na (G.2 0) 16 fn]) (wr := [kI ca (G.2 0) 64 (upd fc x.toNatClampNeg v)]) (va_runV (As := []) (rest := []) ⟨hx, hb, hml, hown, hts⟩ (c_X1_pass l G H.size mq o a ca la na fr pr tm en ch (upd fc x.toNatClampNeg v) (fun _ => 0) fn (fun _ => 0) (by omega) (by omega)) (cwV 0 hts gX1_store_X1_pass rfl rfl rfl (by decide +kernel) ⟨Nat.le_of_ble_eq_true rfl, Nat.le_of_ble_eq_true rfl⟩) (kPreV (va_recv hK hP (ci := 1) (q0 := 0) rfl rfl) kZ0 kZt hK hP hD [0, 1, 3] rfl (by decide +kernel)) rfl rfl hl.1 rfl (lv_room (Nat.le_of_ble_eq_true rfl)) dX1_store_38 ⟨Nat.le_of_ble_eq_true rfl, Nat.le_of_ble_eq_true rfl⟩) hP hD hS hA [0, 1, 3] [2] rfl rfl (by decide +kernel) (by decide +kernel) (fun r7 u6 H locs hw8 hP hD hS => ?_)
      obtain ⟨fn9, rfl⟩ : ∃ z, z = u6 := ⟨_, rfl⟩
      try dsimp only at hw8
      have hP : va_P G.1 vwCl [kI ca (G.2 0) 64 (upd fc x.toNatClampNeg v), kO mq 1 [.ref a, .ref o, .int ch], kO a 3 [.ref ca, .ref la, .ref na, .int fr, .int pr, .int tm, .int en], kI na (G.2 0) 16 fn9] H := hP
      have hD : va_D A [kI ca (G.2 0) 64 (upd fc x.toNatClampNeg v), kO mq 1 [.ref a, .ref o, .int ch], kO a 3 [.ref ca, .ref la, .ref na, .int fr, .int pr, .int tm, .int en], kI na (G.2 0) 16 fn9] := hD
      subst hw8
      exact kRetZ (G := G) ((upd fc x.toNatClampNeg v), fn9, ch) hx hb hr hlocks hS dX1_store_41 rfl (kSubP (wc := [kO mq 1 [.ref a, .ref o, .int ch], kO a 3 [.ref ca, .ref la, .ref na, .int fr, .int pr, .int tm, .int en], kI ca (G.2 0) 64 (upd fc x.toNatClampNeg v), kI na (G.2 0) 16 fn9]) hP [1, 2, 0, 3] rfl) (hD.sub (ws' := [kO mq 1 [.ref a, .ref o, .int ch], kO a 3 [.ref ca, .ref la, .ref na, .int fr, .int pr, .int tm, .int en], kI ca (G.2 0) 64 (upd fc x.toNatClampNeg v), kI na (G.2 0) 16 fn9]) [1, 2, 0, 3] (by decide +kernel) rfl) (by (try dsimp only); exact ⟨by first | exact Or.inl rfl | exact Or.inr rfl, by omega⟩)
    · have t5 := i_ne.mp c5
      refine lv_aload_n hx hb dX1_store_22 rfl (lv_at hl 0 rfl) ?_
      refine lv_iload_n hx hb dX1_store_23 rfl (lv_at hl 1 rfl) ?_
      refine va_put (D := G.1) (ci := 1) (v := .int x) (ty := .int) (C := RX1) (T := TX1) (N := 3) hx hb hts in1 tyX1 tyX1_ok nmX1 hown hK hP hD hS 0 rfl rfl 2 (by decide) (hts (.fieldLink RX1 22 "TraceDebugger$Machine" "changed" "I") (by decide +kernel)) (fun _ h9 => h9) rfl (by decide +kernel) rfl rfl (Nat.le_of_ble_eq_true rfl) dX1_store_24 (fun H locs hP hD hS => ?_)
      have hP : va_P G.1 vwCl [kO mq 1 [.ref a, .ref o, .int x], kO a 3 [.ref ca, .ref la, .ref na, .int fr, .int pr, .int tm, .int en], kI ca (G.2 0) 64 fc, kI na (G.2 0) 16 fn] H := hP
      have hD : va_D A [kO mq 1 [.ref a, .ref o, .int x], kO a 3 [.ref ca, .ref la, .ref na, .int fr, .int pr, .int tm, .int en], kI ca (G.2 0) 64 fc, kI na (G.2 0) 16 fn] := hD
      refine lv_aload_n hx hb dX1_store_27 rfl (lv_at hl 0 rfl) ?_
      refine va_get (D := G.1) (ci := 1) (v := .ref a) (C := RX1) (T := TX1) (N := 3) hx hb hts in1 hown hK hP 0 rfl rfl 0 (by decide) (hts (.fieldLink RX1 12 "TraceDebugger$Machine" "now" "LTraceDebugger$State;") (by decide +kernel)) (fun _ h9 => h9) rfl dX1_store_28 ?_
      refine va_get (D := G.1) (ci := 3) (v := .ref ca) (C := RX3) (T := TX3) (N := 7) hx hb hts in3 hown hK hP 1 rfl rfl 0 (by decide) (hts (.fieldLink RX1 65 "TraceDebugger$State" "cells" "[I") (by decide +kernel)) (fun _ h9 => h9) rfl dX1_store_31 ?_
      refine lv_iload_n hx hb dX1_store_34 rfl (lv_at hl 1 rfl) ?_
      refine lv_iload_n hx hb dX1_store_35 rfl (lv_at hl 2 rfl) ?_
      refine va_iast (D := G.1) hx hb hK hP hD hS 2 0 rfl rfl (vp_in_iff.mpr (by omega)) dX1_store_36 (fun H locs hP hD hS => ?_)
      have hP : va_P G.1 vwCl [kO mq 1 [.ref a, .ref o, .int x], kO a 3 [.ref ca, .ref la, .ref na, .int fr, .int pr, .int tm, .int en], kI ca (G.2 0) 64 (upd fc x.toNatClampNeg v), kI na (G.2 0) 16 fn] H := hP
      have hD : va_D A [kO mq 1 [.ref a, .ref o, .int x], kO a 3 [.ref ca, .ref la, .ref na, .int fr, .int pr, .int tm, .int en], kI ca (G.2 0) 64 (upd fc x.toNatClampNeg v), kI na (G.2 0) 16 fn] := hD
      refine lv_aload_n hx hb dX1_store_37 rfl (lv_at hl 0 rfl) ?_
      refine kCi (G := G) (ws := [kO mq 1 [.ref a, .ref o, .int x], kO a 3 [.ref ca, .ref la, .ref na, .int fr, .int pr, .int tm, .int en], kI ca (G.2 0) 64 (upd fc x.toNatClampNeg v), kI na (G.2 0) 16 fn]) (wr := [kI ca (G.2 0) 64 (upd fc x.toNatClampNeg v)]) (va_runV (As := []) (rest := []) ⟨hx, hb, hml, hown, hts⟩ (c_X1_pass l G H.size mq o a ca la na fr pr tm en x (upd fc x.toNatClampNeg v) (fun _ => 0) fn (fun _ => 0) (by omega) (by omega)) (cwV 0 hts gX1_store_X1_pass rfl rfl rfl (by decide +kernel) ⟨Nat.le_of_ble_eq_true rfl, Nat.le_of_ble_eq_true rfl⟩) (kPreV (va_recv hK hP (ci := 1) (q0 := 0) rfl rfl) kZ0 kZt hK hP hD [0, 1, 3] rfl (by decide +kernel)) rfl rfl hl.1 rfl (lv_room (Nat.le_of_ble_eq_true rfl)) dX1_store_38 ⟨Nat.le_of_ble_eq_true rfl, Nat.le_of_ble_eq_true rfl⟩) hP hD hS hA [0, 1, 3] [2] rfl rfl (by decide +kernel) (by decide +kernel) (fun r11 u10 H locs hw12 hP hD hS => ?_)
      obtain ⟨fn13, rfl⟩ : ∃ z, z = u10 := ⟨_, rfl⟩
      try dsimp only at hw12
      have hP : va_P G.1 vwCl [kI ca (G.2 0) 64 (upd fc x.toNatClampNeg v), kO mq 1 [.ref a, .ref o, .int x], kO a 3 [.ref ca, .ref la, .ref na, .int fr, .int pr, .int tm, .int en], kI na (G.2 0) 16 fn13] H := hP
      have hD : va_D A [kI ca (G.2 0) 64 (upd fc x.toNatClampNeg v), kO mq 1 [.ref a, .ref o, .int x], kO a 3 [.ref ca, .ref la, .ref na, .int fr, .int pr, .int tm, .int en], kI na (G.2 0) 16 fn13] := hD
      subst hw12
      exact kRetZ (G := G) ((upd fc x.toNatClampNeg v), fn13, x) hx hb hr hlocks hS dX1_store_41 rfl (kSubP (wc := [kO mq 1 [.ref a, .ref o, .int x], kO a 3 [.ref ca, .ref la, .ref na, .int fr, .int pr, .int tm, .int en], kI ca (G.2 0) 64 (upd fc x.toNatClampNeg v), kI na (G.2 0) 16 fn13]) hP [1, 2, 0, 3] rfl) (hD.sub (ws' := [kO mq 1 [.ref a, .ref o, .int x], kO a 3 [.ref ca, .ref la, .ref na, .int fr, .int pr, .int tm, .int en], kI ca (G.2 0) 64 (upd fc x.toNatClampNeg v), kI na (G.2 0) 16 fn13]) [1, 2, 0, 3] (by decide +kernel) rfl) (by (try dsimp only); exact ⟨by first | exact Or.inl rfl | exact Or.inr rfl, by omega⟩)
  · have _u := hsz
    refine lv_if_ne (tgt := 9) hx hb dX1_store_4 (by decide) (fun c9 => absurd c9 (by decide)) (fun _ => ?_)
    refine lv_iconst (v := 0) hx hb dX1_store_7 (by decide) ?_
    exact kRetZ (G := G) (fc, fn, ch) hx hb hr hlocks hS dX1_store_8 rfl hP hD (by (try dsimp only); exact ⟨by first | exact Or.inl rfl | exact Or.inr rfl, by omega⟩)

set_option maxHeartbeats 4000000 in
set_option maxRecDepth 100000 in
theorem c_X1_enter (l : Launch) (G : gG) (sz : Nat) (mq : Nat) (o : Nat) (a : Nat) (ca : Nat) (la : Nat) (na : Nat) (fr : Int32) (pr : Int32) (tm : Int32) (en : Int32) (ch : Int32) (fc : Nat → Int32) (fl : Nat → Int32) (fn : Nat → Int32) (fo : Nat → Int32) (x : Int32) (v : Int32) (hf1 : 1 ≤ fr.toInt) (hf2 : fr.toInt ≤ 16) : Met l yX1_enter wsX1_enter { frames := 1, cells := 0, slots := 0, locals := 21 } (kPc G [.ref mq, .int x, .int v] [kO mq 1 [.ref a, .ref o, .int ch], kO a 3 [.ref ca, .ref la, .ref na, .int fr, .int pr, .int tm, .int en], kI la (G.2 0) 128 fl, kI na (G.2 0) 16 fn] sz (fun _ => True)) (kQi G (S := Int32 × (Nat → Int32) × (Nat → Int32)) (fun r u => (r = 0 ∨ r = 1) ∧ 1 ≤ u.1.toInt ∧ u.1.toInt ≤ 16) (fun u => [kO mq 1 [.ref a, .ref o, .int ch], kO a 3 [.ref ca, .ref la, .ref na, .int u.1, .int pr, .int tm, .int en], kI la (G.2 0) 128 u.2.1, kI na (G.2 0) 16 u.2.2]) (va_A [kO mq 1 [.ref a, .ref o, .int ch], kO a 3 [.ref ca, .ref la, .ref na, .int fr, .int pr, .int tm, .int en], kI la (G.2 0) 128 fl, kI na (G.2 0) 16 fn] sz)) 0 0 (va_A [kO mq 1 [.ref a, .ref o, .int ch], kO a 3 [.ref ca, .ref la, .ref na, .int fr, .int pr, .int tm, .int en], kI la (G.2 0) 128 fl, kI na (G.2 0) 16 fn] sz) := by
  refine kBeg (Qc := fun A => kQi G (S := Int32 × (Nat → Int32) × (Nat → Int32)) (fun r u => (r = 0 ∨ r = 1) ∧ 1 ≤ u.1.toInt ∧ u.1.toInt ≤ 16) (fun u => [kO mq 1 [.ref a, .ref o, .int ch], kO a 3 [.ref ca, .ref la, .ref na, .int u.1, .int pr, .int tm, .int en], kI la (G.2 0) 128 u.2.1, kI na (G.2 0) 16 u.2.2]) A) (by decide) rfl (Nat.le_of_ble_eq_true rfl) ?_
  intro A p e s m below meth c ls H locs hx hb hr hts hown hlocks hnm hml hsz hP hK hD hZ hA hS hl
  have hown : s.vm.findClass RX1 = some m.cls := hown
  have hl : lv_has ls 5 [(0, .ref mq), (1, .int x), (2, .int v)] := hl
  have in1 : ∀ w ∈ wsX10, w ∈ wsX1_enter := by decide +kernel
  have in3 : ∀ w ∈ wsX30, w ∈ wsX1_enter := by decide +kernel
  have kc0 : (0 : Int32).toInt = 0 := by decide
  have kc1 : (1 : Int32).toInt = 1 := by decide
  have kc8 : (8 : Int32).toInt = 8 := by decide
  have kc16 : (16 : Int32).toInt = 16 := by decide
  refine lv_aload_n hx hb dX1_enter_0 rfl (lv_at hl 0 rfl) ?_
  refine va_get (D := G.1) (ci := 1) (v := .ref a) (C := RX1) (T := TX1) (N := 3) hx hb hts in1 hown hK hP 0 rfl rfl 0 (by decide) (hts (.fieldLink RX1 12 "TraceDebugger$Machine" "now" "LTraceDebugger$State;") (by decide +kernel)) (fun _ h9 => h9) rfl dX1_enter_1 ?_
  refine va_get (D := G.1) (ci := 3) (v := .int fr) (C := RX3) (T := TX3) (N := 7) hx hb hts in3 hown hK hP 1 rfl rfl 3 (by decide) (hts (.fieldLink RX1 29 "TraceDebugger$State" "frames" "I") (by decide +kernel)) (fun _ h9 => h9) rfl dX1_enter_4 ?_
  refine lv_bipush (v := 16) hx hb dX1_enter_7 (by decide) ?_
  refine lv_icmp_ne (tgt := 14) hx hb dX1_enter_9 (by decide) (fun c1 => ?_) (fun c1 => ?_)
  · have t1 := i_ne.mp c1
    refine lv_aload_n hx hb dX1_enter_14 rfl (lv_at hl 0 rfl) ?_
    refine kCi (G := G) (ws := [kO mq 1 [.ref a, .ref o, .int ch], kO a 3 [.ref ca, .ref la, .ref na, .int fr, .int pr, .int tm, .int en], kI la (G.2 0) 128 fl, kI na (G.2 0) 16 fn]) (wr := [kI la (G.2 0) 128 fl]) (va_runV (As := []) (rest := []) ⟨hx, hb, hml, hown, hts⟩ (c_X1_pass l G H.size mq o a ca la na fr pr tm en ch (fun _ => 0) fl fn (fun _ => 0) (by omega) (by omega)) (cwV 0 hts gX1_enter_X1_pass rfl rfl rfl (by decide +kernel) ⟨Nat.le_of_ble_eq_true rfl, Nat.le_of_ble_eq_true rfl⟩) (kPreV (va_recv hK hP (ci := 1) (q0 := 0) rfl rfl) kZ0 kZt hK hP hD [0, 1, 3] rfl (by decide +kernel)) rfl rfl hl.1 rfl (lv_room (Nat.le_of_ble_eq_true rfl)) dX1_enter_15 ⟨Nat.le_of_ble_eq_true rfl, Nat.le_of_ble_eq_true rfl⟩) hP hD hS hA [0, 1, 3] [2] rfl rfl (by decide +kernel) (by decide +kernel) (fun r3 u2 H locs hw4 hP hD hS => ?_)
    obtain ⟨fn5, rfl⟩ : ∃ z, z = u2 := ⟨_, rfl⟩
    try dsimp only at hw4
    have hP : va_P G.1 vwCl [kI la (G.2 0) 128 fl, kO mq 1 [.ref a, .ref o, .int ch], kO a 3 [.ref ca, .ref la, .ref na, .int fr, .int pr, .int tm, .int en], kI na (G.2 0) 16 fn5] H := hP
    have hD : va_D A [kI la (G.2 0) 128 fl, kO mq 1 [.ref a, .ref o, .int ch], kO a 3 [.ref ca, .ref la, .ref na, .int fr, .int pr, .int tm, .int en], kI na (G.2 0) 16 fn5] := hD
    subst hw4
    refine lv_pop hx hb dX1_enter_18 rfl ?_
    refine lv_aload_n hx hb dX1_enter_19 rfl (lv_at hl 0 rfl) ?_
    refine va_get (D := G.1) (ci := 1) (v := .ref a) (C := RX1) (T := TX1) (N := 3) hx hb hts in1 hown hK hP 1 rfl rfl 0 (by decide) (hts (.fieldLink RX1 12 "TraceDebugger$Machine" "now" "LTraceDebugger$State;") (by decide +kernel)) (fun _ h9 => h9) rfl dX1_enter_20 ?_
    refine va_get (D := G.1) (ci := 3) (v := .int fr) (C := RX3) (T := TX3) (N := 7) hx hb hts in3 hown hK hP 2 rfl rfl 3 (by decide) (hts (.fieldLink RX1 29 "TraceDebugger$State" "frames" "I") (by decide +kernel)) (fun _ h9 => h9) rfl dX1_enter_23 ?_
    refine lv_iconst (v := 1) hx hb dX1_enter_26 (by decide) ?_
    refine lv_isub hx hb dX1_enter_27 ?_
    have a6 : ((fr - 1) : Int32).toInt = (fr : Int32).toInt - (1 : Int32).toInt := i_sub (by omega) (by omega)
    refine lv_bipush (v := 8) hx hb dX1_enter_28 (by decide) ?_
    refine lv_imul hx hb dX1_enter_30 ?_
    have a7 : (((fr - 1) * 8) : Int32).toInt = ((fr - 1) : Int32).toInt * 8 := i_m8 (by omega) (by omega)
    refine lv_istore_n (lv' := [(3, .int ((fr - 1) * 8)), (0, .ref mq), (1, .int x), (2, .int v)]) hx hb dX1_enter_31 rfl hl (by decide) rfl (fun ls hl => ?_)
    refine lv_iconst (v := 0) hx hb dX1_enter_32 (by decide) ?_
    refine lv_istore (lv' := [(4, .int 0), (3, .int ((fr - 1) * 8)), (0, .ref mq), (1, .int x), (2, .int v)]) hx hb dX1_enter_33 hl (by decide) rfl (fun ls hl => ?_)
    have loop35 : ∀ (n : Nat) (k : Int32) (f1 : Nat → Int32) (H : Heap) (locs : List Loc) (ls : Array Slot), (0 ≤ k.toInt) → (k.toInt ≤ 8) → (8 - k.toInt).toNat < n → va_P G.1 vwCl [kI la (G.2 0) 128 f1, kO mq 1 [.ref a, .ref o, .int ch], kO a 3 [.ref ca, .ref la, .ref na, .int fr, .int pr, .int tm, .int en], kI na (G.2 0) 16 fn5] H → va_D A [kI la (G.2 0) 128 f1, kO mq 1 [.ref a, .ref o, .int ch], kO a 3 [.ref ca, .ref la, .ref na, .int fr, .int pr, .int tm, .int en], kI na (G.2 0) 16 fn5] → va_S A s.heap H locs → lv_has ls 5 [(4, .int k), (3, .int ((fr - 1) * 8)), (0, .ref mq), (1, .int x), (2, .int v)] → W p l e { frames := 1, cells := 0, slots := 0, locals := 21 } s m ([.ref mq, .int x, .int v] : List Value).toArray below meth c H locs 0 0 (MQ below (kQi G (S := Int32 × (Nat → Int32) × (Nat → Int32)) (fun r u => (r = 0 ∨ r = 1) ∧ 1 ≤ u.1.toInt ∧ u.1.toInt ≤ 16) (fun u => [kO mq 1 [.ref a, .ref o, .int ch], kO a 3 [.ref ca, .ref la, .ref na, .int u.1, .int pr, .int tm, .int en], kI la (G.2 0) 128 u.2.1, kI na (G.2 0) 16 u.2.2]) A) ([.ref mq, .int x, .int v] : List Value).toArray s 0 0 A) (F0 m 35 ls []) := by
      intro n
      induction n with
      | zero =>
        intro k f1 H locs ls hk0 hk1 hm
        exact absurd hm (Nat.not_lt_zero _)
      | succ n ih35 =>
        intro k f1 H locs ls hk0 hk1 hm hP hD hS hl
        refine lv_iload hx hb dX1_enter_35 (lv_at hl 0 rfl) ?_
        refine lv_bipush (v := 8) hx hb dX1_enter_37 (by decide) ?_
        refine lv_icmp_ge (tgt := 85) hx hb dX1_enter_39 (by decide) (fun c8 => ?_) (fun c8 => ?_)
        · have t8 := i_le.mp c8
          refine lv_aload_n hx hb dX1_enter_85 rfl (lv_at hl 2 rfl) ?_
          refine va_get (D := G.1) (ci := 1) (v := .ref a) (C := RX1) (T := TX1) (N := 3) hx hb hts in1 hown hK hP 1 rfl rfl 0 (by decide) (hts (.fieldLink RX1 12 "TraceDebugger$Machine" "now" "LTraceDebugger$State;") (by decide +kernel)) (fun _ h9 => h9) rfl dX1_enter_86 ?_
          refine lv_dup hx hb dX1_enter_89 rfl ?_
          refine va_get (D := G.1) (ci := 3) (v := .int fr) (C := RX3) (T := TX3) (N := 7) hx hb hts in3 hown hK hP 2 rfl rfl 3 (by decide) (hts (.fieldLink RX1 29 "TraceDebugger$State" "frames" "I") (by decide +kernel)) (fun _ h9 => h9) rfl dX1_enter_90 ?_
          refine lv_iconst (v := 1) hx hb dX1_enter_93 (by decide) ?_
          refine lv_iadd hx hb dX1_enter_94 ?_
          have a9 : ((fr + 1) : Int32).toInt = (fr : Int32).toInt + (1 : Int32).toInt := i_add (by omega) (by omega)
          refine va_put (D := G.1) (ci := 3) (v := .int (fr + 1)) (ty := .int) (C := RX3) (T := TX3) (N := 7) hx hb hts in3 tyX3 tyX3_ok nmX3 hown hK hP hD hS 2 rfl rfl 3 (by decide) (hts (.fieldLink RX1 29 "TraceDebugger$State" "frames" "I") (by decide +kernel)) (fun _ h9 => h9) rfl (by decide +kernel) rfl rfl (Nat.le_of_ble_eq_true rfl) dX1_enter_95 (fun H locs hP hD hS => ?_)
          have hP : va_P G.1 vwCl [kI la (G.2 0) 128 f1, kO mq 1 [.ref a, .ref o, .int ch], kO a 3 [.ref ca, .ref la, .ref na, .int (fr + 1), .int pr, .int tm, .int en], kI na (G.2 0) 16 fn5] H := hP
          have hD : va_D A [kI la (G.2 0) 128 f1, kO mq 1 [.ref a, .ref o, .int ch], kO a 3 [.ref ca, .ref la, .ref na, .int (fr + 1), .int pr, .int tm, .int en], kI na (G.2 0) 16 fn5] := hD
          refine lv_aload_n hx hb dX1_enter_98 rfl (lv_at hl 2 rfl) ?_
          refine lv_iload_n hx hb dX1_enter_99 rfl (lv_at hl 3 rfl) ?_
          refine kCi (G := G) (ws := [kI la (G.2 0) 128 f1, kO mq 1 [.ref a, .ref o, .int ch], kO a 3 [.ref ca, .ref la, .ref na, .int (fr + 1), .int pr, .int tm, .int en], kI na (G.2 0) 16 fn5]) (wr := [kI la (G.2 0) 128 f1]) (va_runV (As := [.int x]) (rest := []) ⟨hx, hb, hml, hown, hts⟩ (c_X1_jump l G H.size mq o a ca la na (fr + 1) pr tm en ch (fun _ => 0) f1 fn5 (fun _ => 0) x (by omega) (by omega)) (cwV 1 hts gX1_enter_X1_jump rfl rfl rfl (by decide +kernel) ⟨Nat.le_of_ble_eq_true rfl, Nat.le_of_ble_eq_true rfl⟩) (kPreV (va_recv hK hP (ci := 1) (q0 := 1) rfl rfl) kZ0 kZt hK hP hD [1, 2, 3] rfl (by decide +kernel)) rfl rfl hl.1 rfl (lv_room (Nat.le_of_ble_eq_true rfl)) dX1_enter_100 ⟨Nat.le_of_ble_eq_true rfl, Nat.le_of_ble_eq_true rfl⟩) hP hD hS hA [1, 2, 3] [0] rfl rfl (by decide +kernel) (by decide +kernel) (fun r11 u10 H locs hw12 hP hD hS => ?_)
          obtain ⟨fn13, rfl⟩ : ∃ z, z = u10 := ⟨_, rfl⟩
          try dsimp only at hw12
          have hP : va_P G.1 vwCl [kI la (G.2 0) 128 f1, kO mq 1 [.ref a, .ref o, .int ch], kO a 3 [.ref ca, .ref la, .ref na, .int (fr + 1), .int pr, .int tm, .int en], kI na (G.2 0) 16 fn13] H := hP
          have hD : va_D A [kI la (G.2 0) 128 f1, kO mq 1 [.ref a, .ref o, .int ch], kO a 3 [.ref ca, .ref la, .ref na, .int (fr + 1), .int pr, .int tm, .int en], kI na (G.2 0) 16 fn13] := hD
          subst hw12
          exact kRetZ (G := G) ((fr + 1), f1, fn13) hx hb hr hlocks hS dX1_enter_103 rfl (kSubP (wc := [kO mq 1 [.ref a, .ref o, .int ch], kO a 3 [.ref ca, .ref la, .ref na, .int (fr + 1), .int pr, .int tm, .int en], kI la (G.2 0) 128 f1, kI na (G.2 0) 16 fn13]) hP [1, 2, 0, 3] rfl) (hD.sub (ws' := [kO mq 1 [.ref a, .ref o, .int ch], kO a 3 [.ref ca, .ref la, .ref na, .int (fr + 1), .int pr, .int tm, .int en], kI la (G.2 0) 128 f1, kI na (G.2 0) 16 fn13]) [1, 2, 0, 3] (by decide +kernel) rfl) (by (try dsimp only); exact ⟨by first | exact Or.inl rfl | exact Or.inr rfl, by omega, by omega⟩)
        · have t8 := i_nle.mp c8
          refine lv_aload_n hx hb dX1_enter_42 rfl (lv_at hl 2 rfl) ?_
          refine va_get (D := G.1) (ci := 1) (v := .ref a) (C := RX1) (T := TX1) (N := 3) hx hb hts in1 hown hK hP 1 rfl rfl 0 (by decide) (hts (.fieldLink RX1 12 "TraceDebugger$Machine" "now" "LTraceDebugger$State;") (by decide +kernel)) (fun _ h9 => h9) rfl dX1_enter_43 ?_
          refine va_get (D := G.1) (ci := 3) (v := .ref la) (C := RX3) (T := TX3) (N := 7) hx hb hts in3 hown hK hP 2 rfl rfl 1 (by decide) (hts (.fieldLink RX1 90 "TraceDebugger$State" "locals" "[I") (by decide +kernel)) (fun _ h9 => h9) rfl dX1_enter_46 ?_
          refine lv_iload_n hx hb dX1_enter_49 rfl (lv_at hl 1 rfl) ?_
          refine lv_bipush (v := 8) hx hb dX1_enter_50 (by decide) ?_
          refine lv_iadd hx hb dX1_enter_52 ?_
          have a14 : ((((fr - 1) * 8) + 8) : Int32).toInt = (((fr - 1) * 8) : Int32).toInt + (8 : Int32).toInt := i_add (by omega) (by omega)
          refine lv_iload hx hb dX1_enter_53 (lv_at hl 0 rfl) ?_
          refine lv_iadd hx hb dX1_enter_55 ?_
          have a15 : (((((fr - 1) * 8) + 8) + k) : Int32).toInt = ((((fr - 1) * 8) + 8) : Int32).toInt + (k : Int32).toInt := i_add (by omega) (by omega)
          refine lv_iload hx hb dX1_enter_56 (lv_at hl 0 rfl) ?_
          refine lv_iload_n hx hb dX1_enter_58 rfl (lv_at hl 4 rfl) ?_
          refine lv_icmp_ge (tgt := 77) hx hb dX1_enter_59 (by decide) (fun c16 => ?_) (fun c16 => ?_)
          · have t16 := i_le.mp c16
            refine lv_iconst (v := 0) hx hb dX1_enter_77 (by decide) ?_
            refine va_iast (D := G.1) hx hb hK hP hD hS 0 0 rfl rfl (vp_in_iff.mpr (by omega)) dX1_enter_78 (fun H locs hP hD hS => ?_)
            have hP : va_P G.1 vwCl [kI la (G.2 0) 128 (upd f1 ((((fr - 1) * 8) + 8) + k).toNatClampNeg 0), kO mq 1 [.ref a, .ref o, .int ch], kO a 3 [.ref ca, .ref la, .ref na, .int fr, .int pr, .int tm, .int en], kI na (G.2 0) 16 fn5] H := hP
            have hD : va_D A [kI la (G.2 0) 128 (upd f1 ((((fr - 1) * 8) + 8) + k).toNatClampNeg 0), kO mq 1 [.ref a, .ref o, .int ch], kO a 3 [.ref ca, .ref la, .ref na, .int fr, .int pr, .int tm, .int en], kI na (G.2 0) 16 fn5] := hD
            refine lv_iinc (v := (k + 1)) (lv' := [(4, .int (k + 1)), (3, .int ((fr - 1) * 8)), (0, .ref mq), (1, .int x), (2, .int v)]) hx hb dX1_enter_79 hl (k := 0) rfl rfl (by decide) rfl (fun ls hl => ?_)
            refine lv_goto (tgt := 35) hx hb dX1_enter_82 (by decide) ?_
            have a9 : (k + 1).toInt = k.toInt + (1 : Int32).toInt := i_add (by omega) (by omega)
            exact ih35 (k + 1) (upd f1 ((((fr - 1) * 8) + 8) + k).toNatClampNeg 0) H locs ls (by omega) (by omega) (by omega) hP hD hS (lv_sub hl [0, 1, 2, 3, 4] rfl)
          · have t16 := i_nle.mp c16
            refine lv_aload_n hx hb dX1_enter_62 rfl (lv_at hl 2 rfl) ?_
            refine va_get (D := G.1) (ci := 1) (v := .ref a) (C := RX1) (T := TX1) (N := 3) hx hb hts in1 hown hK hP 1 rfl rfl 0 (by decide) (hts (.fieldLink RX1 12 "TraceDebugger$Machine" "now" "LTraceDebugger$State;") (by decide +kernel)) (fun _ h9 => h9) rfl dX1_enter_63 ?_
            refine va_get (D := G.1) (ci := 3) (v := .ref la) (C := RX3) (T := TX3) (N := 7) hx hb hts in3 hown hK hP 2 rfl rfl 1 (by decide) (hts (.fieldLink RX1 90 "TraceDebugger$State" "locals" "[I") (by decide +kernel)) (fun _ h9 => h9) rfl dX1_enter_66 ?_
            refine lv_iload_n hx hb dX1_enter_69 rfl (lv_at hl 1 rfl) ?_
            refine lv_iload hx hb dX1_enter_70 (lv_at hl 0 rfl) ?_
            refine lv_iadd hx hb dX1_enter_72 ?_
            have a17 : ((((fr - 1) * 8) + k) : Int32).toInt = (((fr - 1) * 8) : Int32).toInt + (k : Int32).toInt := i_add (by omega) (by omega)
            refine va_iald (D := G.1) hx hb hK hP 0 0 rfl rfl (vp_in_iff.mpr (by omega)) dX1_enter_73 ?_
            refine lv_goto (tgt := 78) hx hb dX1_enter_74 (by decide) ?_
            refine va_iast (D := G.1) hx hb hK hP hD hS 0 0 rfl rfl (vp_in_iff.mpr (by omega)) dX1_enter_78 (fun H locs hP hD hS => ?_)
            have hP : va_P G.1 vwCl [kI la (G.2 0) 128 (upd f1 ((((fr - 1) * 8) + 8) + k).toNatClampNeg (f1 (((fr - 1) * 8) + k).toNatClampNeg)), kO mq 1 [.ref a, .ref o, .int ch], kO a 3 [.ref ca, .ref la, .ref na, .int fr, .int pr, .int tm, .int en], kI na (G.2 0) 16 fn5] H := hP
            have hD : va_D A [kI la (G.2 0) 128 (upd f1 ((((fr - 1) * 8) + 8) + k).toNatClampNeg (f1 (((fr - 1) * 8) + k).toNatClampNeg)), kO mq 1 [.ref a, .ref o, .int ch], kO a 3 [.ref ca, .ref la, .ref na, .int fr, .int pr, .int tm, .int en], kI na (G.2 0) 16 fn5] := hD
            refine lv_iinc (v := (k + 1)) (lv' := [(4, .int (k + 1)), (3, .int ((fr - 1) * 8)), (0, .ref mq), (1, .int x), (2, .int v)]) hx hb dX1_enter_79 hl (k := 0) rfl rfl (by decide) rfl (fun ls hl => ?_)
            refine lv_goto (tgt := 35) hx hb dX1_enter_82 (by decide) ?_
            have a9 : (k + 1).toInt = k.toInt + (1 : Int32).toInt := i_add (by omega) (by omega)
            exact ih35 (k + 1) (upd f1 ((((fr - 1) * 8) + 8) + k).toNatClampNeg (f1 (((fr - 1) * 8) + k).toNatClampNeg)) H locs ls (by omega) (by omega) (by omega) hP hD hS (lv_sub hl [0, 1, 2, 3, 4] rfl)
    exact loop35 _ 0 fl H locs ls (by decide) (by decide) (Nat.lt_succ_self _) hP hD hS (lv_sub hl [0, 1, 2, 3, 4] rfl)
  · have t1 := i_eq.mp c1
    refine lv_iconst (v := 0) hx hb dX1_enter_12 (by decide) ?_
    exact kRetZ (G := G) (fr, fl, fn) hx hb hr hlocks hS dX1_enter_13 rfl hP hD (by (try dsimp only); exact ⟨by first | exact Or.inl rfl | exact Or.inr rfl, by omega, by omega⟩)

set_option maxHeartbeats 4000000 in
set_option maxRecDepth 100000 in
theorem c_X1_leave (l : Launch) (G : gG) (sz : Nat) (mq : Nat) (o : Nat) (a : Nat) (ca : Nat) (la : Nat) (na : Nat) (fr : Int32) (pr : Int32) (tm : Int32) (en : Int32) (ch : Int32) (fc : Nat → Int32) (fl : Nat → Int32) (fn : Nat → Int32) (fo : Nat → Int32) (v : Int32) (hf1 : 1 ≤ fr.toInt) (hf2 : fr.toInt ≤ 16) (hen : en = 0 ∨ en = 1) : Met l yX1_leave wsX1_leave { frames := 1, cells := 0, slots := 0, locals := 20 } (kPc G [.ref mq, .int v] [kO mq 1 [.ref a, .ref o, .int ch], kO a 3 [.ref ca, .ref la, .ref na, .int fr, .int pr, .int tm, .int en], kI la (G.2 0) 128 fl] sz (fun _ => True)) (kQi G (S := Int32 × Int32 × (Nat → Int32)) (fun r u => r = 1 ∧ (1 ≤ u.1.toInt ∧ u.1.toInt ≤ 16) ∧ (u.2.1 = 0 ∨ u.2.1 = 1)) (fun u => [kO mq 1 [.ref a, .ref o, .int ch], kO a 3 [.ref ca, .ref la, .ref na, .int u.1, .int pr, .int tm, .int u.2.1], kI la (G.2 0) 128 u.2.2]) (va_A [kO mq 1 [.ref a, .ref o, .int ch], kO a 3 [.ref ca, .ref la, .ref na, .int fr, .int pr, .int tm, .int en], kI la (G.2 0) 128 fl] sz)) 0 0 (va_A [kO mq 1 [.ref a, .ref o, .int ch], kO a 3 [.ref ca, .ref la, .ref na, .int fr, .int pr, .int tm, .int en], kI la (G.2 0) 128 fl] sz) := by
  refine kBeg (Qc := fun A => kQi G (S := Int32 × Int32 × (Nat → Int32)) (fun r u => r = 1 ∧ (1 ≤ u.1.toInt ∧ u.1.toInt ≤ 16) ∧ (u.2.1 = 0 ∨ u.2.1 = 1)) (fun u => [kO mq 1 [.ref a, .ref o, .int ch], kO a 3 [.ref ca, .ref la, .ref na, .int u.1, .int pr, .int tm, .int u.2.1], kI la (G.2 0) 128 u.2.2]) A) (by decide) rfl (Nat.le_of_ble_eq_true rfl) ?_
  intro A p e s m below meth c ls H locs hx hb hr hts hown hlocks hnm hml hsz hP hK hD hZ hA hS hl
  have hown : s.vm.findClass RX1 = some m.cls := hown
  have hl : lv_has ls 2 [(0, .ref mq), (1, .int v)] := hl
  have in1 : ∀ w ∈ wsX10, w ∈ wsX1_leave := by decide +kernel
  have in3 : ∀ w ∈ wsX30, w ∈ wsX1_leave := by decide +kernel
  have kc0 : (0 : Int32).toInt = 0 := by decide
  have kc1 : (1 : Int32).toInt = 1 := by decide
  have kc8 : (8 : Int32).toInt = 8 := by decide
  refine lv_aload_n hx hb dX1_leave_0 rfl (lv_at hl 0 rfl) ?_
  refine va_get (D := G.1) (ci := 1) (v := .ref a) (C := RX1) (T := TX1) (N := 3) hx hb hts in1 hown hK hP 0 rfl rfl 0 (by decide) (hts (.fieldLink RX1 12 "TraceDebugger$Machine" "now" "LTraceDebugger$State;") (by decide +kernel)) (fun _ h9 => h9) rfl dX1_leave_1 ?_
  refine va_get (D := G.1) (ci := 3) (v := .int fr) (C := RX3) (T := TX3) (N := 7) hx hb hts in3 hown hK hP 1 rfl rfl 3 (by decide) (hts (.fieldLink RX1 29 "TraceDebugger$State" "frames" "I") (by decide +kernel)) (fun _ h9 => h9) rfl dX1_leave_4 ?_
  refine lv_iconst (v := 1) hx hb dX1_leave_7 (by decide) ?_
  refine lv_icmp_ne (tgt := 16) hx hb dX1_leave_8 (by decide) (fun c1 => ?_) (fun c1 => ?_)
  · have t1 := i_ne.mp c1
    refine lv_aload_n hx hb dX1_leave_16 rfl (lv_at hl 0 rfl) ?_
    refine va_get (D := G.1) (ci := 1) (v := .ref a) (C := RX1) (T := TX1) (N := 3) hx hb hts in1 hown hK hP 0 rfl rfl 0 (by decide) (hts (.fieldLink RX1 12 "TraceDebugger$Machine" "now" "LTraceDebugger$State;") (by decide +kernel)) (fun _ h9 => h9) rfl dX1_leave_17 ?_
    refine lv_dup hx hb dX1_leave_20 rfl ?_
    refine va_get (D := G.1) (ci := 3) (v := .int fr) (C := RX3) (T := TX3) (N := 7) hx hb hts in3 hown hK hP 1 rfl rfl 3 (by decide) (hts (.fieldLink RX1 29 "TraceDebugger$State" "frames" "I") (by decide +kernel)) (fun _ h9 => h9) rfl dX1_leave_21 ?_
    refine lv_iconst (v := 1) hx hb dX1_leave_24 (by decide) ?_
    refine lv_isub hx hb dX1_leave_25 ?_
    have a2 : ((fr - 1) : Int32).toInt = (fr : Int32).toInt - (1 : Int32).toInt := i_sub (by omega) (by omega)
    refine va_put (D := G.1) (ci := 3) (v := .int (fr - 1)) (ty := .int) (C := RX3) (T := TX3) (N := 7) hx hb hts in3 tyX3 tyX3_ok nmX3 hown hK hP hD hS 1 rfl rfl 3 (by decide) (hts (.fieldLink RX1 29 "TraceDebugger$State" "frames" "I") (by decide +kernel)) (fun _ h9 => h9) rfl (by decide +kernel) rfl rfl (Nat.le_of_ble_eq_true rfl) dX1_leave_26 (fun H locs hP hD hS => ?_)
    have hP : va_P G.1 vwCl [kO mq 1 [.ref a, .ref o, .int ch], kO a 3 [.ref ca, .ref la, .ref na, .int (fr - 1), .int pr, .int tm, .int en], kI la (G.2 0) 128 fl] H := hP
    have hD : va_D A [kO mq 1 [.ref a, .ref o, .int ch], kO a 3 [.ref ca, .ref la, .ref na, .int (fr - 1), .int pr, .int tm, .int en], kI la (G.2 0) 128 fl] := hD
    refine lv_aload_n hx hb dX1_leave_29 rfl (lv_at hl 0 rfl) ?_
    refine va_get (D := G.1) (ci := 1) (v := .ref a) (C := RX1) (T := TX1) (N := 3) hx hb hts in1 hown hK hP 0 rfl rfl 0 (by decide) (hts (.fieldLink RX1 12 "TraceDebugger$Machine" "now" "LTraceDebugger$State;") (by decide +kernel)) (fun _ h9 => h9) rfl dX1_leave_30 ?_
    refine va_get (D := G.1) (ci := 3) (v := .ref la) (C := RX3) (T := TX3) (N := 7) hx hb hts in3 hown hK hP 1 rfl rfl 1 (by decide) (hts (.fieldLink RX1 90 "TraceDebugger$State" "locals" "[I") (by decide +kernel)) (fun _ h9 => h9) rfl dX1_leave_33 ?_
    refine lv_aload_n hx hb dX1_leave_36 rfl (lv_at hl 0 rfl) ?_
    refine va_get (D := G.1) (ci := 1) (v := .ref a) (C := RX1) (T := TX1) (N := 3) hx hb hts in1 hown hK hP 0 rfl rfl 0 (by decide) (hts (.fieldLink RX1 12 "TraceDebugger$Machine" "now" "LTraceDebugger$State;") (by decide +kernel)) (fun _ h9 => h9) rfl dX1_leave_37 ?_
    refine va_get (D := G.1) (ci := 3) (v := .int (fr - 1)) (C := RX3) (T := TX3) (N := 7) hx hb hts in3 hown hK hP 1 rfl rfl 3 (by decide) (hts (.fieldLink RX1 29 "TraceDebugger$State" "frames" "I") (by decide +kernel)) (fun _ h9 => h9) rfl dX1_leave_40 ?_
    refine lv_iconst (v := 1) hx hb dX1_leave_43 (by decide) ?_
    refine lv_isub hx hb dX1_leave_44 ?_
    have a3 : (((fr - 1) - 1) : Int32).toInt = ((fr - 1) : Int32).toInt - (1 : Int32).toInt := i_sub (by omega) (by omega)
    refine lv_bipush (v := 8) hx hb dX1_leave_45 (by decide) ?_
    refine lv_imul hx hb dX1_leave_47 ?_
    have a4 : ((((fr - 1) - 1) * 8) : Int32).toInt = (((fr - 1) - 1) : Int32).toInt * 8 := i_m8 (by omega) (by omega)
    refine lv_iload_n hx hb dX1_leave_48 rfl (lv_at hl 1 rfl) ?_
    refine va_iast (D := G.1) hx hb hK hP hD hS 2 0 rfl rfl (vp_in_iff.mpr (by omega)) dX1_leave_49 (fun H locs hP hD hS => ?_)
    have hP : va_P G.1 vwCl [kO mq 1 [.ref a, .ref o, .int ch], kO a 3 [.ref ca, .ref la, .ref na, .int (fr - 1), .int pr, .int tm, .int en], kI la (G.2 0) 128 (upd fl (((fr - 1) - 1) * 8).toNatClampNeg v)] H := hP
    have hD : va_D A [kO mq 1 [.ref a, .ref o, .int ch], kO a 3 [.ref ca, .ref la, .ref na, .int (fr - 1), .int pr, .int tm, .int en], kI la (G.2 0) 128 (upd fl (((fr - 1) - 1) * 8).toNatClampNeg v)] := hD
    refine lv_iconst (v := 1) hx hb dX1_leave_50 (by decide) ?_
    exact kRetZ (G := G) ((fr - 1), en, (upd fl (((fr - 1) - 1) * 8).toNatClampNeg v)) hx hb hr hlocks hS dX1_leave_51 rfl hP hD (by (try dsimp only); exact ⟨rfl, by omega, by first | exact Or.inr rfl | exact hen⟩)
  · have t1 := i_eq.mp c1
    refine lv_aload_n hx hb dX1_leave_11 rfl (lv_at hl 0 rfl) ?_
    refine kCi (G := G) (ws := [kO mq 1 [.ref a, .ref o, .int ch], kO a 3 [.ref ca, .ref la, .ref na, .int fr, .int pr, .int tm, .int en], kI la (G.2 0) 128 fl]) (wr := [kI la (G.2 0) 128 fl]) (va_runV (As := []) (rest := []) ⟨hx, hb, hml, hown, hts⟩ (c_X1_end l G H.size mq o a ca la na fr pr tm en ch (fun _ => 0) fl (fun _ => 0) (fun _ => 0) ) (cwV 0 hts gX1_leave_X1_end rfl rfl rfl (by decide +kernel) ⟨Nat.le_of_ble_eq_true rfl, Nat.le_of_ble_eq_true rfl⟩) (kPreV (va_recv hK hP (ci := 1) (q0 := 0) rfl rfl) kZ0 kZt hK hP hD [0, 1] rfl (by decide +kernel)) rfl rfl hl.1 rfl (lv_room (Nat.le_of_ble_eq_true rfl)) dX1_leave_12 ⟨Nat.le_of_ble_eq_true rfl, Nat.le_of_ble_eq_true rfl⟩) hP hD hS hA [0, 1] [2] rfl rfl (by decide +kernel) (by decide +kernel) (fun r6 u5 H locs hw7 hP hD hS => ?_)
    try dsimp only at hw7
    have hP : va_P G.1 vwCl [kI la (G.2 0) 128 fl, kO mq 1 [.ref a, .ref o, .int ch], kO a 3 [.ref ca, .ref la, .ref na, .int fr, .int pr, .int tm, .int 1]] H := hP
    have hD : va_D A [kI la (G.2 0) 128 fl, kO mq 1 [.ref a, .ref o, .int ch], kO a 3 [.ref ca, .ref la, .ref na, .int fr, .int pr, .int tm, .int 1]] := hD
    subst hw7
    exact kRetZ (G := G) (fr, 1, fl) hx hb hr hlocks hS dX1_leave_15 rfl (kSubP (wc := [kO mq 1 [.ref a, .ref o, .int ch], kO a 3 [.ref ca, .ref la, .ref na, .int fr, .int pr, .int tm, .int 1], kI la (G.2 0) 128 fl]) hP [1, 2, 0] rfl) (hD.sub (ws' := [kO mq 1 [.ref a, .ref o, .int ch], kO a 3 [.ref ca, .ref la, .ref na, .int fr, .int pr, .int tm, .int 1], kI la (G.2 0) 128 fl]) [1, 2, 0] (by decide +kernel) rfl) (by (try dsimp only); exact ⟨rfl, by omega, by first | exact Or.inr rfl | exact hen⟩)

set_option maxHeartbeats 4000000 in
set_option maxRecDepth 100000 in
theorem c_X1_print (l : Launch) (G : gG) (sz : Nat) (mq : Nat) (o : Nat) (a : Nat) (ca : Nat) (la : Nat) (na : Nat) (fr : Int32) (pr : Int32) (tm : Int32) (en : Int32) (ch : Int32) (fc : Nat → Int32) (fl : Nat → Int32) (fn : Nat → Int32) (fo : Nat → Int32) (v : Int32) (hf1 : 1 ≤ fr.toInt) (hf2 : fr.toInt ≤ 16) (hp0 : 0 ≤ pr.toInt) (hp1 : pr.toInt ≤ 200) : Met l yX1_print wsX1_print { frames := 1, cells := 0, slots := 0, locals := 20 } (kPc G [.ref mq, .int v] [kO mq 1 [.ref a, .ref o, .int ch], kI o (G.2 0) 200 fo, kO a 3 [.ref ca, .ref la, .ref na, .int fr, .int pr, .int tm, .int en], kI na (G.2 0) 16 fn] sz (fun _ => True)) (kQi G (S := Int32 × (Nat → Int32) × (Nat → Int32)) (fun r u => (r = 0 ∨ r = 1) ∧ 0 ≤ u.1.toInt ∧ u.1.toInt ≤ 200) (fun u => [kO mq 1 [.ref a, .ref o, .int ch], kI o (G.2 0) 200 u.2.1, kO a 3 [.ref ca, .ref la, .ref na, .int fr, .int u.1, .int tm, .int en], kI na (G.2 0) 16 u.2.2]) (va_A [kO mq 1 [.ref a, .ref o, .int ch], kI o (G.2 0) 200 fo, kO a 3 [.ref ca, .ref la, .ref na, .int fr, .int pr, .int tm, .int en], kI na (G.2 0) 16 fn] sz)) 0 0 (va_A [kO mq 1 [.ref a, .ref o, .int ch], kI o (G.2 0) 200 fo, kO a 3 [.ref ca, .ref la, .ref na, .int fr, .int pr, .int tm, .int en], kI na (G.2 0) 16 fn] sz) := by
  refine kBeg (Qc := fun A => kQi G (S := Int32 × (Nat → Int32) × (Nat → Int32)) (fun r u => (r = 0 ∨ r = 1) ∧ 0 ≤ u.1.toInt ∧ u.1.toInt ≤ 200) (fun u => [kO mq 1 [.ref a, .ref o, .int ch], kI o (G.2 0) 200 u.2.1, kO a 3 [.ref ca, .ref la, .ref na, .int fr, .int u.1, .int tm, .int en], kI na (G.2 0) 16 u.2.2]) A) (by decide) rfl (Nat.le_of_ble_eq_true rfl) ?_
  intro A p e s m below meth c ls H locs hx hb hr hts hown hlocks hnm hml hsz hP hK hD hZ hA hS hl
  have hown : s.vm.findClass RX1 = some m.cls := hown
  have hl : lv_has ls 2 [(0, .ref mq), (1, .int v)] := hl
  have in1 : ∀ w ∈ wsX10, w ∈ wsX1_print := by decide +kernel
  have in3 : ∀ w ∈ wsX30, w ∈ wsX1_print := by decide +kernel
  have kc0 : (0 : Int32).toInt = 0 := by decide
  have kc1 : (1 : Int32).toInt = 1 := by decide
  have kc200 : (200 : Int32).toInt = 200 := by decide
  refine lv_aload_n hx hb dX1_print_0 rfl (lv_at hl 0 rfl) ?_
  refine va_get (D := G.1) (ci := 1) (v := .ref a) (C := RX1) (T := TX1) (N := 3) hx hb hts in1 hown hK hP 0 rfl rfl 0 (by decide) (hts (.fieldLink RX1 12 "TraceDebugger$Machine" "now" "LTraceDebugger$State;") (by decide +kernel)) (fun _ h9 => h9) rfl dX1_print_1 ?_
  refine va_get (D := G.1) (ci := 3) (v := .int pr) (C := RX3) (T := TX3) (N := 7) hx hb hts in3 hown hK hP 2 rfl rfl 4 (by decide) (hts (.fieldLink RX1 97 "TraceDebugger$State" "printed" "I") (by decide +kernel)) (fun _ h9 => h9) rfl dX1_print_4 ?_
  refine lv_sipush (v := 200) hx hb dX1_print_7 (by decide) ?_
  refine lv_icmp_ne (tgt := 15) hx hb dX1_print_10 (by decide) (fun c1 => ?_) (fun c1 => ?_)
  · have t1 := i_ne.mp c1
    refine lv_aload_n hx hb dX1_print_15 rfl (lv_at hl 0 rfl) ?_
    refine va_get (D := G.1) (ci := 1) (v := .ref o) (C := RX1) (T := TX1) (N := 3) hx hb hts in1 hown hK hP 0 rfl rfl 1 (by decide) (hts (.fieldLink RX1 18 "TraceDebugger$Machine" "output" "[I") (by decide +kernel)) (fun _ h9 => h9) rfl dX1_print_16 ?_
    refine lv_aload_n hx hb dX1_print_19 rfl (lv_at hl 0 rfl) ?_
    refine va_get (D := G.1) (ci := 1) (v := .ref a) (C := RX1) (T := TX1) (N := 3) hx hb hts in1 hown hK hP 0 rfl rfl 0 (by decide) (hts (.fieldLink RX1 12 "TraceDebugger$Machine" "now" "LTraceDebugger$State;") (by decide +kernel)) (fun _ h9 => h9) rfl dX1_print_20 ?_
    refine va_get (D := G.1) (ci := 3) (v := .int pr) (C := RX3) (T := TX3) (N := 7) hx hb hts in3 hown hK hP 2 rfl rfl 4 (by decide) (hts (.fieldLink RX1 97 "TraceDebugger$State" "printed" "I") (by decide +kernel)) (fun _ h9 => h9) rfl dX1_print_23 ?_
    refine lv_iload_n hx hb dX1_print_26 rfl (lv_at hl 1 rfl) ?_
    refine va_iast (D := G.1) hx hb hK hP hD hS 1 0 rfl rfl (vp_in_iff.mpr (by omega)) dX1_print_27 (fun H locs hP hD hS => ?_)
    have hP : va_P G.1 vwCl [kO mq 1 [.ref a, .ref o, .int ch], kI o (G.2 0) 200 (upd fo pr.toNatClampNeg v), kO a 3 [.ref ca, .ref la, .ref na, .int fr, .int pr, .int tm, .int en], kI na (G.2 0) 16 fn] H := hP
    have hD : va_D A [kO mq 1 [.ref a, .ref o, .int ch], kI o (G.2 0) 200 (upd fo pr.toNatClampNeg v), kO a 3 [.ref ca, .ref la, .ref na, .int fr, .int pr, .int tm, .int en], kI na (G.2 0) 16 fn] := hD
    refine lv_aload_n hx hb dX1_print_28 rfl (lv_at hl 0 rfl) ?_
    refine va_get (D := G.1) (ci := 1) (v := .ref a) (C := RX1) (T := TX1) (N := 3) hx hb hts in1 hown hK hP 0 rfl rfl 0 (by decide) (hts (.fieldLink RX1 12 "TraceDebugger$Machine" "now" "LTraceDebugger$State;") (by decide +kernel)) (fun _ h9 => h9) rfl dX1_print_29 ?_
    refine lv_dup hx hb dX1_print_32 rfl ?_
    refine va_get (D := G.1) (ci := 3) (v := .int pr) (C := RX3) (T := TX3) (N := 7) hx hb hts in3 hown hK hP 2 rfl rfl 4 (by decide) (hts (.fieldLink RX1 97 "TraceDebugger$State" "printed" "I") (by decide +kernel)) (fun _ h9 => h9) rfl dX1_print_33 ?_
    refine lv_iconst (v := 1) hx hb dX1_print_36 (by decide) ?_
    refine lv_iadd hx hb dX1_print_37 ?_
    have a2 : ((pr + 1) : Int32).toInt = (pr : Int32).toInt + (1 : Int32).toInt := i_add (by omega) (by omega)
    refine va_put (D := G.1) (ci := 3) (v := .int (pr + 1)) (ty := .int) (C := RX3) (T := TX3) (N := 7) hx hb hts in3 tyX3 tyX3_ok nmX3 hown hK hP hD hS 2 rfl rfl 4 (by decide) (hts (.fieldLink RX1 97 "TraceDebugger$State" "printed" "I") (by decide +kernel)) (fun _ h9 => h9) rfl (by decide +kernel) rfl rfl (Nat.le_of_ble_eq_true rfl) dX1_print_38 (fun H locs hP hD hS => ?_)
    have hP : va_P G.1 vwCl [kO mq 1 [.ref a, .ref o, .int ch], kI o (G.2 0) 200 (upd fo pr.toNatClampNeg v), kO a 3 [.ref ca, .ref la, .ref na, .int fr, .int (pr + 1), .int tm, .int en], kI na (G.2 0) 16 fn] H := hP
    have hD : va_D A [kO mq 1 [.ref a, .ref o, .int ch], kI o (G.2 0) 200 (upd fo pr.toNatClampNeg v), kO a 3 [.ref ca, .ref la, .ref na, .int fr, .int (pr + 1), .int tm, .int en], kI na (G.2 0) 16 fn] := hD
    refine lv_aload_n hx hb dX1_print_41 rfl (lv_at hl 0 rfl) ?_
    refine kCi (G := G) (ws := [kO mq 1 [.ref a, .ref o, .int ch], kI o (G.2 0) 200 (upd fo pr.toNatClampNeg v), kO a 3 [.ref ca, .ref la, .ref na, .int fr, .int (pr + 1), .int tm, .int en], kI na (G.2 0) 16 fn]) (wr := [kI o (G.2 0) 200 (upd fo pr.toNatClampNeg v)]) (va_runV (As := []) (rest := []) ⟨hx, hb, hml, hown, hts⟩ (c_X1_pass l G H.size mq o a ca la na fr (pr + 1) tm en ch (fun _ => 0) (fun _ => 0) fn (upd fo pr.toNatClampNeg v) (by omega) (by omega)) (cwV 0 hts gX1_print_X1_pass rfl rfl rfl (by decide +kernel) ⟨Nat.le_of_ble_eq_true rfl, Nat.le_of_ble_eq_true rfl⟩) (kPreV (va_recv hK hP (ci := 1) (q0 := 0) rfl rfl) kZ0 kZt hK hP hD [0, 2, 3] rfl (by decide +kernel)) rfl rfl hl.1 rfl (lv_room (Nat.le_of_ble_eq_true rfl)) dX1_print_42 ⟨Nat.le_of_ble_eq_true rfl, Nat.le_of_ble_eq_true rfl⟩) hP hD hS hA [0, 2, 3] [1] rfl rfl (by decide +kernel) (by decide +kernel) (fun r4 u3 H locs hw5 hP hD hS => ?_)
    obtain ⟨fn6, rfl⟩ : ∃ z, z = u3 := ⟨_, rfl⟩
    try dsimp only at hw5
    have hP : va_P G.1 vwCl [kI o (G.2 0) 200 (upd fo pr.toNatClampNeg v), kO mq 1 [.ref a, .ref o, .int ch], kO a 3 [.ref ca, .ref la, .ref na, .int fr, .int (pr + 1), .int tm, .int en], kI na (G.2 0) 16 fn6] H := hP
    have hD : va_D A [kI o (G.2 0) 200 (upd fo pr.toNatClampNeg v), kO mq 1 [.ref a, .ref o, .int ch], kO a 3 [.ref ca, .ref la, .ref na, .int fr, .int (pr + 1), .int tm, .int en], kI na (G.2 0) 16 fn6] := hD
    subst hw5
    exact kRetZ (G := G) ((pr + 1), (upd fo pr.toNatClampNeg v), fn6) hx hb hr hlocks hS dX1_print_45 rfl (kSubP (wc := [kO mq 1 [.ref a, .ref o, .int ch], kI o (G.2 0) 200 (upd fo pr.toNatClampNeg v), kO a 3 [.ref ca, .ref la, .ref na, .int fr, .int (pr + 1), .int tm, .int en], kI na (G.2 0) 16 fn6]) hP [1, 0, 2, 3] rfl) (hD.sub (ws' := [kO mq 1 [.ref a, .ref o, .int ch], kI o (G.2 0) 200 (upd fo pr.toNatClampNeg v), kO a 3 [.ref ca, .ref la, .ref na, .int fr, .int (pr + 1), .int tm, .int en], kI na (G.2 0) 16 fn6]) [1, 0, 2, 3] (by decide +kernel) rfl) (by (try dsimp only); exact ⟨by first | exact Or.inl rfl | exact Or.inr rfl, by omega, by omega⟩)
  · have t1 := i_eq.mp c1
    refine lv_iconst (v := 0) hx hb dX1_print_13 (by decide) ?_
    exact kRetZ (G := G) (pr, fo, fn) hx hb hr hlocks hS dX1_print_14 rfl hP hD (by (try dsimp only); exact ⟨by first | exact Or.inl rfl | exact Or.inr rfl, by omega, by omega⟩)
