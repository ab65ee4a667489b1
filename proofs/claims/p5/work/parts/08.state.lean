set_option maxHeartbeats 4000000 in
set_option maxRecDepth 100000 in
theorem c_X3_copyFrom (l : Launch) (G : gG) (sz : Nat) (a : Nat) (ca : Nat) (la : Nat) (na : Nat) (fr : Int32) (pr : Int32) (tm : Int32) (en : Int32) (f1 : Nat → Int32) (f2 : Nat → Int32) (f3 : Nat → Int32) (b : Nat) (cb : Nat) (lb : Nat) (nb : Nat) (fs : Int32) (ps : Int32) (ts : Int32) (es : Int32) (g1 : Nat → Int32) (g2 : Nat → Int32) (g3 : Nat → Int32) (hes : es = 0 ∨ es = 1) : Met l yX3_copyFrom wsX3_copyFrom { frames := 1, cells := 0, slots := 0, locals := 64 } (kPc G [.ref a, .ref b] [kO a 3 [.ref ca, .ref la, .ref na, .int fr, .int pr, .int tm, .int en], kI ca (G.2 0) 64 f1, kI la (G.2 0) 128 f2, kI na (G.2 0) 16 f3, kO b 3 [.ref cb, .ref lb, .ref nb, .int fs, .int ps, .int ts, .int es], kI cb (G.2 0) 64 g1, kI lb (G.2 0) 128 g2, kI nb (G.2 0) 16 g3] sz (fun _ => True)) (kQv G (S := Unit) (fun _ => True) (fun _ => [kO a 3 [.ref ca, .ref la, .ref na, .int fs, .int ps, .int ts, .int es], kI ca (G.2 0) 64 (va_cpy g1 f1 (0 : Int32).toNatClampNeg (0 : Int32).toNatClampNeg (64 : Int32).toNatClampNeg), kI la (G.2 0) 128 (va_cpy g2 f2 (0 : Int32).toNatClampNeg (0 : Int32).toNatClampNeg (128 : Int32).toNatClampNeg), kI na (G.2 0) 16 (va_cpy g3 f3 (0 : Int32).toNatClampNeg (0 : Int32).toNatClampNeg (16 : Int32).toNatClampNeg), kO b 3 [.ref cb, .ref lb, .ref nb, .int fs, .int ps, .int ts, .int es], kI cb (G.2 0) 64 g1, kI lb (G.2 0) 128 g2, kI nb (G.2 0) 16 g3]) (va_A [kO a 3 [.ref ca, .ref la, .ref na, .int fr, .int pr, .int tm, .int en], kI ca (G.2 0) 64 f1, kI la (G.2 0) 128 f2, kI na (G.2 0) 16 f3, kO b 3 [.ref cb, .ref lb, .ref nb, .int fs, .int ps, .int ts, .int es], kI cb (G.2 0) 64 g1, kI lb (G.2 0) 128 g2, kI nb (G.2 0) 16 g3] sz)) 0 0 (va_A [kO a 3 [.ref ca, .ref la, .ref na, .int fr, .int pr, .int tm, .int en], kI ca (G.2 0) 64 f1, kI la (G.2 0) 128 f2, kI na (G.2 0) 16 f3, kO b 3 [.ref cb, .ref lb, .ref nb, .int fs, .int ps, .int ts, .int es], kI cb (G.2 0) 64 g1, kI lb (G.2 0) 128 g2, kI nb (G.2 0) 16 g3] sz) := by
  refine kBeg (Qc := fun A => kQv G (S := Unit) (fun _ => True) (fun _ => [kO a 3 [.ref ca, .ref la, .ref na, .int fs, .int ps, .int ts, .int es], kI ca (G.2 0) 64 (va_cpy g1 f1 (0 : Int32).toNatClampNeg (0 : Int32).toNatClampNeg (64 : Int32).toNatClampNeg), kI la (G.2 0) 128 (va_cpy g2 f2 (0 : Int32).toNatClampNeg (0 : Int32).toNatClampNeg (128 : Int32).toNatClampNeg), kI na (G.2 0) 16 (va_cpy g3 f3 (0 : Int32).toNatClampNeg (0 : Int32).toNatClampNeg (16 : Int32).toNatClampNeg), kO b 3 [.ref cb, .ref lb, .ref nb, .int fs, .int ps, .int ts, .int es], kI cb (G.2 0) 64 g1, kI lb (G.2 0) 128 g2, kI nb (G.2 0) 16 g3]) A) (by decide) rfl (Nat.le_of_ble_eq_true rfl) ?_
  intro A p e s m below meth c ls H locs hx hb hr hts hown hlocks hnm hml hsz hP hK hD hZ hA hS hl
  have hown : s.vm.findClass RX3 = some m.cls := hown
  have hl : lv_has ls 2 [(0, .ref a), (1, .ref b)] := hl
  have in3 : ∀ w ∈ wsX30, w ∈ wsX3_copyFrom := by decide +kernel
  have kc0 : (0 : Int32).toInt = 0 := by decide
  have kc16 : (16 : Int32).toInt = 16 := by decide
  have kc64 : (64 : Int32).toInt = 64 := by decide
  have kc128 : (128 : Int32).toInt = 128 := by decide
  refine lv_aload_n hx hb dX3_copyFrom_0 rfl (lv_at hl 1 rfl) ?_
  refine va_get (D := G.1) (ci := 3) (v := .ref cb) (C := RX3) (T := TX3) (N := 7) hx hb hts in3 hown hK hP 4 rfl rfl 0 (by decide) (hts (.fieldLink RX3 9 "TraceDebugger$State" "cells" "[I") (by decide +kernel)) (fun _ h9 => h9) rfl dX3_copyFrom_1 ?_
  refine lv_iconst (v := 0) hx hb dX3_copyFrom_4 (by decide) ?_
  refine lv_aload_n hx hb dX3_copyFrom_5 rfl (lv_at hl 0 rfl) ?_
  refine va_get (D := G.1) (ci := 3) (v := .ref ca) (C := RX3) (T := TX3) (N := 7) hx hb hts in3 hown hK hP 0 rfl rfl 0 (by decide) (hts (.fieldLink RX3 9 "TraceDebugger$State" "cells" "[I") (by decide +kernel)) (fun _ h9 => h9) rfl dX3_copyFrom_6 ?_
  refine lv_iconst (v := 0) hx hb dX3_copyFrom_9 (by decide) ?_
  refine lv_aload_n hx hb dX3_copyFrom_10 rfl (lv_at hl 0 rfl) ?_
  refine va_get (D := G.1) (ci := 3) (v := .ref ca) (C := RX3) (T := TX3) (N := 7) hx hb hts in3 hown hK hP 0 rfl rfl 0 (by decide) (hts (.fieldLink RX3 9 "TraceDebugger$State" "cells" "[I") (by decide +kernel)) (fun _ h9 => h9) rfl dX3_copyFrom_11 ?_
  refine va_alen (D := G.1) (v := 64) hx hb hK hP 1 0 rfl rfl rfl dX3_copyFrom_14 ?_
  refine va_copyi (D := G.1) hx hb (hml.trans hl.1.symm) hown (hts (.methodLink RX3 35 arraycopyName) (by decide +kernel)) (hts (.native arraycopyName) (by decide +kernel)) (hts (.static arraycopyName) (by decide +kernel)) (hts (.initialized "java/lang/System") (by decide +kernel)) hK hP hD hS 5 1 0 0 rfl rfl rfl rfl rfl (by decide) (by decide) (by decide) (by decide) (by decide) (fun _ _ => rfl) (Nat.le_of_ble_eq_true rfl) (by decide) dX3_copyFrom_15 (fun H locs hP hD hS => ?_)
  have hP : va_P G.1 vwCl [kO a 3 [.ref ca, .ref la, .ref na, .int fr, .int pr, .int tm, .int en], kI ca (G.2 0) 64 (va_cpy g1 f1 (0 : Int32).toNatClampNeg (0 : Int32).toNatClampNeg (64 : Int32).toNatClampNeg), kI la (G.2 0) 128 f2, kI na (G.2 0) 16 f3, kO b 3 [.ref cb, .ref lb, .ref nb, .int fs, .int ps, .int ts, .int es], kI cb (G.2 0) 64 g1, kI lb (G.2 0) 128 g2, kI nb (G.2 0) 16 g3] H := hP
  have hD : va_D A [kO a 3 [.ref ca, .ref la, .ref na, .int fr, .int pr, .int tm, .int en], kI ca (G.2 0) 64 (va_cpy g1 f1 (0 : Int32).toNatClampNeg (0 : Int32).toNatClampNeg (64 : Int32).toNatClampNeg), kI la (G.2 0) 128 f2, kI na (G.2 0) 16 f3, kO b 3 [.ref cb, .ref lb, .ref nb, .int fs, .int ps, .int ts, .int es], kI cb (G.2 0) 64 g1, kI lb (G.2 0) 128 g2, kI nb (G.2 0) 16 g3] := hD
  refine lv_aload_n hx hb dX3_copyFrom_18 rfl (lv_at hl 1 rfl) ?_
  refine va_get (D := G.1) (ci := 3) (v := .ref lb) (C := RX3) (T := TX3) (N := 7) hx hb hts in3 hown hK hP 4 rfl rfl 1 (by decide) (hts (.fieldLink RX3 15 "TraceDebugger$State" "locals" "[I") (by decide +kernel)) (fun _ h9 => h9) rfl dX3_copyFrom_19 ?_
  refine lv_iconst (v := 0) hx hb dX3_copyFrom_22 (by decide) ?_
  refine lv_aload_n hx hb dX3_copyFrom_23 rfl (lv_at hl 0 rfl) ?_
  refine va_get (D := G.1) (ci := 3) (v := .ref la) (C := RX3) (T := TX3) (N := 7) hx hb hts in3 hown hK hP 0 rfl rfl 1 (by decide) (hts (.fieldLink RX3 15 "TraceDebugger$State" "locals" "[I") (by decide +kernel)) (fun _ h9 => h9) rfl dX3_copyFrom_24 ?_
  refine lv_iconst (v := 0) hx hb dX3_copyFrom_27 (by decide) ?_
  refine lv_aload_n hx hb dX3_copyFrom_28 rfl (lv_at hl 0 rfl) ?_
  refine va_get (D := G.1) (ci := 3) (v := .ref la) (C := RX3) (T := TX3) (N := 7) hx hb hts in3 hown hK hP 0 rfl rfl 1 (by decide) (hts (.fieldLink RX3 15 "TraceDebugger$State" "locals" "[I") (by decide +kernel)) (fun _ h9 => h9) rfl dX3_copyFrom_29 ?_
  refine va_alen (D := G.1) (v := 128) hx hb hK hP 2 0 rfl rfl rfl dX3_copyFrom_32 ?_
  refine va_copyi (D := G.1) hx hb (hml.trans hl.1.symm) hown (hts (.methodLink RX3 35 arraycopyName) (by decide +kernel)) (hts (.native arraycopyName) (by decide +kernel)) (hts (.static arraycopyName) (by decide +kernel)) (hts (.initialized "java/lang/System") (by decide +kernel)) hK hP hD hS 6 2 0 0 rfl rfl rfl rfl rfl (by decide) (by decide) (by decide) (by decide) (by decide) (fun _ _ => rfl) (Nat.le_of_ble_eq_true rfl) (by decide) dX3_copyFrom_33 (fun H locs hP hD hS => ?_)
  have hP : va_P G.1 vwCl [kO a 3 [.ref ca, .ref la, .ref na, .int fr, .int pr, .int tm, .int en], kI ca (G.2 0) 64 (va_cpy g1 f1 (0 : Int32).toNatClampNeg (0 : Int32).toNatClampNeg (64 : Int32).toNatClampNeg), kI la (G.2 0) 128 (va_cpy g2 f2 (0 : Int32).toNatClampNeg (0 : Int32).toNatClampNeg (128 : Int32).toNatClampNeg), kI na (G.2 0) 16 f3, kO b 3 [.ref cb, .ref lb, .ref nb, .int fs, .int ps, .int ts, .int es], kI cb (G.2 0) 64 g1, kI lb (G.2 0) 128 g2, kI nb (G.2 0) 16 g3] H := hP
  have hD : va_D A [kO a 3 [.ref ca, .ref la, .ref na, .int fr, .int pr, .int tm, .int en], kI ca (G.2 0) 64 (va_cpy g1 f1 (0 : Int32).toNatClampNeg (0 : Int32).toNatClampNeg (64 : Int32).toNatClampNeg), kI la (G.2 0) 128 (va_cpy g2 f2 (0 : Int32).toNatClampNeg (0 : Int32).toNatClampNeg (128 : Int32).toNatClampNeg), kI na (G.2 0) 16 f3, kO b 3 [.ref cb, .ref lb, .ref nb, .int fs, .int ps, .int ts, .int es], kI cb (G.2 0) 64 g1, kI lb (G.2 0) 128 g2, kI nb (G.2 0) 16 g3] := hD
  refine lv_aload_n hx hb dX3_copyFrom_36 rfl (lv_at hl 1 rfl) ?_
  refine va_get (D := G.1) (ci := 3) (v := .ref nb) (C := RX3) (T := TX3) (N := 7) hx hb hts in3 hown hK hP 4 rfl rfl 2 (by decide) (hts (.fieldLink RX3 18 "TraceDebugger$State" "lines" "[I") (by decide +kernel)) (fun _ h9 => h9) rfl dX3_copyFrom_37 ?_
  refine lv_iconst (v := 0) hx hb dX3_copyFrom_40 (by decide) ?_
  refine lv_aload_n hx hb dX3_copyFrom_41 rfl (lv_at hl 0 rfl) ?_
  refine va_get (D := G.1) (ci := 3) (v := .ref na) (C := RX3) (T := TX3) (N := 7) hx hb hts in3 hown hK hP 0 rfl rfl 2 (by decide) (hts (.fieldLink RX3 18 "TraceDebugger$State" "lines" "[I") (by decide +kernel)) (fun _ h9 => h9) rfl dX3_copyFrom_42 ?_
  refine lv_iconst (v := 0) hx hb dX3_copyFrom_45 (by decide) ?_
  refine lv_aload_n hx hb dX3_copyFrom_46 rfl (lv_at hl 0 rfl) ?_
  refine va_get (D := G.1) (ci := 3) (v := .ref na) (C := RX3) (T := TX3) (N := 7) hx hb hts in3 hown hK hP 0 rfl rfl 2 (by decide) (hts (.fieldLink RX3 18 "TraceDebugger$State" "lines" "[I") (by decide +kernel)) (fun _ h9 => h9) rfl dX3_copyFrom_47 ?_
  refine va_alen (D := G.1) (v := 16) hx hb hK hP 3 0 rfl rfl rfl dX3_copyFrom_50 ?_
  refine va_copyi (D := G.1) hx hb (hml.trans hl.1.symm) hown (hts (.methodLink RX3 35 arraycopyName) (by decide +kernel)) (hts (.native arraycopyName) (by decide +kernel)) (hts (.static arraycopyName) (by decide +kernel)) (hts (.initialized "java/lang/System") (by decide +kernel)) hK hP hD hS 7 3 0 0 rfl rfl rfl rfl rfl (by decide) (by decide) (by decide) (by decide) (by decide) (fun _ _ => rfl) (Nat.le_of_ble_eq_true rfl) (by decide) dX3_copyFrom_51 (fun H locs hP hD hS => ?_)
  have hP : va_P G.1 vwCl [kO a 3 [.ref ca, .ref la, .ref na, .int fr, .int pr, .int tm, .int en], kI ca (G.2 0) 64 (va_cpy g1 f1 (0 : Int32).toNatClampNeg (0 : Int32).toNatClampNeg (64 : Int32).toNatClampNeg), kI la (G.2 0) 128 (va_cpy g2 f2 (0 : Int32).toNatClampNeg (0 : Int32).toNatClampNeg (128 : Int32).toNatClampNeg), kI na (G.2 0) 16 (va_cpy g3 f3 (0 : Int32).toNatClampNeg (0 : Int32).toNatClampNeg (16 : Int32).toNatClampNeg), kO b 3 [.ref cb, .ref lb, .ref nb, .int fs, .int ps, .int ts, .int es], kI cb (G.2 0) 64 g1, kI lb (G.2 0) 128 g2, kI nb (G.2 0) 16 g3] H := hP
  have hD : va_D A [kO a 3 [.ref ca, .ref la, .ref na, .int fr, .int pr, .int tm, .int en], kI ca (G.2 0) 64 (va_cpy g1 f1 (0 : Int32).toNatClampNeg (0 : Int32).toNatClampNeg (64 : Int32).toNatClampNeg), kI la (G.2 0) 128 (va_cpy g2 f2 (0 : Int32).toNatClampNeg (0 : Int32).toNatClampNeg (128 : Int32).toNatClampNeg), kI na (G.2 0) 16 (va_cpy g3 f3 (0 : Int32).toNatClampNeg (0 : Int32).toNatClampNeg (16 : Int32).toNatClampNeg), kO b 3 [.ref cb, .ref lb, .ref nb, .int fs, .int ps, .int ts, .int es], kI cb (G.2 0) 64 g1, kI lb (G.2 0) 128 g2, kI nb (G.2 0) 16 g3] := hD
  refine lv_aload_n hx hb dX3_copyFrom_54 rfl (lv_at hl 0 rfl) ?_
  refine lv_aload_n hx hb dX3_copyFrom_55 rfl (lv_at hl 1 rfl) ?_
  refine va_get (D := G.1) (ci := 3) (v := .int fs) (C := RX3) (T := TX3) (N := 7) hx hb hts in3 hown hK hP 4 rfl rfl 3 (by decide) (hts (.fieldLink RX3 21 "TraceDebugger$State" "frames" "I") (by decide +kernel)) (fun _ h9 => h9) rfl dX3_copyFrom_56 ?_
  refine va_put (D := G.1) (ci := 3) (v := .int fs) (ty := .int) (C := RX3) (T := TX3) (N := 7) hx hb hts in3 tyX3 tyX3_ok nmX3 hown hK hP hD hS 0 rfl rfl 3 (by decide) (hts (.fieldLink RX3 21 "TraceDebugger$State" "frames" "I") (by decide +kernel)) (fun _ h9 => h9) rfl (by decide +kernel) rfl rfl (Nat.le_of_ble_eq_true rfl) dX3_copyFrom_59 (fun H locs hP hD hS => ?_)
  have hP : va_P G.1 vwCl [kO a 3 [.ref ca, .ref la, .ref na, .int fs, .int pr, .int tm, .int en], kI ca (G.2 0) 64 (va_cpy g1 f1 (0 : Int32).toNatClampNeg (0 : Int32).toNatClampNeg (64 : Int32).toNatClampNeg), kI la (G.2 0) 128 (va_cpy g2 f2 (0 : Int32).toNatClampNeg (0 : Int32).toNatClampNeg (128 : Int32).toNatClampNeg), kI na (G.2 0) 16 (va_cpy g3 f3 (0 : Int32).toNatClampNeg (0 : Int32).toNatClampNeg (16 : Int32).toNatClampNeg), kO b 3 [.ref cb, .ref lb, .ref nb, .int fs, .int ps, .int ts, .int es], kI cb (G.2 0) 64 g1, kI lb (G.2 0) 128 g2, kI nb (G.2 0) 16 g3] H := hP
  have hD : va_D A [kO a 3 [.ref ca, .ref la, .ref na, .int fs, .int pr, .int tm, .int en], kI ca (G.2 0) 64 (va_cpy g1 f1 (0 : Int32).toNatClampNeg (0 : Int32).toNatClampNeg (64 : Int32).toNatClampNeg), kI la (G.2 0) 128 (va_cpy g2 f2 (0 : Int32).toNatClampNeg (0 : Int32).toNatClampNeg (128 : Int32).toNatClampNeg), kI na (G.2 0) 16 (va_cpy g3 f3 (0 : Int32).toNatClampNeg (0 : Int32).toNatClampNeg (16 : Int32).toNatClampNeg), kO b 3 [.ref cb, .ref lb, .ref nb, .int fs, .int ps, .int ts, .int es], kI cb (G.2 0) 64 g1, kI lb (G.2 0) 128 g2, kI nb (G.2 0) 16 g3] := hD
  refine lv_aload_n hx hb dX3_copyFrom_62 rfl (lv_at hl 0 rfl) ?_
  refine lv_aload_n hx hb dX3_copyFrom_63 rfl (lv_at hl 1 rfl) ?_
  refine va_get (D := G.1) (ci := 3) (v := .int ps) (C := RX3) (T := TX3) (N := 7) hx hb hts in3 hown hK hP 4 rfl rfl 4 (by decide) (hts (.fieldLink RX3 25 "TraceDebugger$State" "printed" "I") (by decide +kernel)) (fun _ h9 => h9) rfl dX3_copyFrom_64 ?_
  refine va_put (D := G.1) (ci := 3) (v := .int ps) (ty := .int) (C := RX3) (T := TX3) (N := 7) hx hb hts in3 tyX3 tyX3_ok nmX3 hown hK hP hD hS 0 rfl rfl 4 (by decide) (hts (.fieldLink RX3 25 "TraceDebugger$State" "printed" "I") (by decide +kernel)) (fun _ h9 => h9) rfl (by decide +kernel) rfl rfl (Nat.le_of_ble_eq_true rfl) dX3_copyFrom_67 (fun H locs hP hD hS => ?_)
  have hP : va_P G.1 vwCl [kO a 3 [.ref ca, .ref la, .ref na, .int fs, .int ps, .int tm, .int en], kI ca (G.2 0) 64 (va_cpy g1 f1 (0 : Int32).toNatClampNeg (0 : Int32).toNatClampNeg (64 : Int32).toNatClampNeg), kI la (G.2 0) 128 (va_cpy g2 f2 (0 : Int32).toNatClampNeg (0 : Int32).toNatClampNeg (128 : Int32).toNatClampNeg), kI na (G.2 0) 16 (va_cpy g3 f3 (0 : Int32).toNatClampNeg (0 : Int32).toNatClampNeg (16 : Int32).toNatClampNeg), kO b 3 [.ref cb, .ref lb, .ref nb, .int fs, .int ps, .int ts, .int es], kI cb (G.2 0) 64 g1, kI lb (G.2 0) 128 g2, kI nb (G.2 0) 16 g3] H := hP
  have hD : va_D A [kO a 3 [.ref ca, .ref la, .ref na, .int fs, .int ps, .int tm, .int en], kI ca (G.2 0) 64 (va_cpy g1 f1 (0 : Int32).toNatClampNeg (0 : Int32).toNatClampNeg (64 : Int32).toNatClampNeg), kI la (G.2 0) 128 (va_cpy g2 f2 (0 : Int32).toNatClampNeg (0 : Int32).toNatClampNeg (128 : Int32).toNatClampNeg), kI na (G.2 0) 16 (va_cpy g3 f3 (0 : Int32).toNatClampNeg (0 : Int32).toNatClampNeg (16 : Int32).toNatClampNeg), kO b 3 [.ref cb, .ref lb, .ref nb, .int fs, .int ps, .int ts, .int es], kI cb (G.2 0) 64 g1, kI lb (G.2 0) 128 g2, kI nb (G.2 0) 16 g3] := hD
  refine lv_aload_n hx hb dX3_copyFrom_70 rfl (lv_at hl 0 rfl) ?_
  refine lv_aload_n hx hb dX3_copyFrom_71 rfl (lv_at hl 1 rfl) ?_
  refine va_get (D := G.1) (ci := 3) (v := .int ts) (C := RX3) (T := TX3) (N := 7) hx hb hts in3 hown hK hP 4 rfl rfl 5 (by decide) (hts (.fieldLink RX3 28 "TraceDebugger$State" "time" "I") (by decide +kernel)) (fun _ h9 => h9) rfl dX3_copyFrom_72 ?_
  refine va_put (D := G.1) (ci := 3) (v := .int ts) (ty := .int) (C := RX3) (T := TX3) (N := 7) hx hb hts in3 tyX3 tyX3_ok nmX3 hown hK hP hD hS 0 rfl rfl 5 (by decide) (hts (.fieldLink RX3 28 "TraceDebugger$State" "time" "I") (by decide +kernel)) (fun _ h9 => h9) rfl (by decide +kernel) rfl rfl (Nat.le_of_ble_eq_true rfl) dX3_copyFrom_75 (fun H locs hP hD hS => ?_)
  have hP : va_P G.1 vwCl [kO a 3 [.ref ca, .ref la, .ref na, .int fs, .int ps, .int ts, .int en], kI ca (G.2 0) 64 (va_cpy g1 f1 (0 : Int32).toNatClampNeg (0 : Int32).toNatClampNeg (64 : Int32).toNatClampNeg), kI la (G.2 0) 128 (va_cpy g2 f2 (0 : Int32).toNatClampNeg (0 : Int32).toNatClampNeg (128 : Int32).toNatClampNeg), kI na (G.2 0) 16 (va_cpy g3 f3 (0 : Int32).toNatClampNeg (0 : Int32).toNatClampNeg (16 : Int32).toNatClampNeg), kO b 3 [.ref cb, .ref lb, .ref nb, .int fs, .int ps, .int ts, .int es], kI cb (G.2 0) 64 g1, kI lb (G.2 0) 128 g2, kI nb (G.2 0) 16 g3] H := hP
  have hD : va_D A [kO a 3 [.ref ca, .ref la, .ref na, .int fs, .int ps, .int ts, .int en], kI ca (G.2 0) 64 (va_cpy g1 f1 (0 : Int32).toNatClampNeg (0 : Int32).toNatClampNeg (64 : Int32).toNatClampNeg), kI la (G.2 0) 128 (va_cpy g2 f2 (0 : Int32).toNatClampNeg (0 : Int32).toNatClampNeg (128 : Int32).toNatClampNeg), kI na (G.2 0) 16 (va_cpy g3 f3 (0 : Int32).toNatClampNeg (0 : Int32).toNatClampNeg (16 : Int32).toNatClampNeg), kO b 3 [.ref cb, .ref lb, .ref nb, .int fs, .int ps, .int ts, .int es], kI cb (G.2 0) 64 g1, kI lb (G.2 0) 128 g2, kI nb (G.2 0) 16 g3] := hD
  refine lv_aload_n hx hb dX3_copyFrom_78 rfl (lv_at hl 0 rfl) ?_
  refine lv_aload_n hx hb dX3_copyFrom_79 rfl (lv_at hl 1 rfl) ?_
  refine va_get (D := G.1) (ci := 3) (v := .int es) (C := RX3) (T := TX3) (N := 7) hx hb hts in3 hown hK hP 4 rfl rfl 6 (by decide) (hts (.fieldLink RX3 31 "TraceDebugger$State" "ended" "Z") (by decide +kernel)) (fun _ h9 => h9) rfl dX3_copyFrom_80 ?_
  refine va_put (D := G.1) (ci := 3) (v := .int es) (ty := .boolean) (C := RX3) (T := TX3) (N := 7) hx hb hts in3 tyX3 tyX3_ok nmX3 hown hK hP hD hS 0 rfl rfl 6 (by decide) (hts (.fieldLink RX3 31 "TraceDebugger$State" "ended" "Z") (by decide +kernel)) (fun _ h9 => h9) rfl (by decide +kernel) (by rcases hes with h9 | h9 <;> rw [h9] <;> rfl) (by rcases hes with h9 | h9 <;> rw [h9] <;> rfl) (Nat.le_of_ble_eq_true rfl) dX3_copyFrom_83 (fun H locs hP hD hS => ?_)
  have hP : va_P G.1 vwCl [kO a 3 [.ref ca, .ref la, .ref na, .int fs, .int ps, .int ts, .int es], kI ca (G.2 0) 64 (va_cpy g1 f1 (0 : Int32).toNatClampNeg (0 : Int32).toNatClampNeg (64 : Int32).toNatClampNeg), kI la (G.2 0) 128 (va_cpy g2 f2 (0 : Int32).toNatClampNeg (0 : Int32).toNatClampNeg (128 : Int32).toNatClampNeg), kI na (G.2 0) 16 (va_cpy g3 f3 (0 : Int32).toNatClampNeg (0 : Int32).toNatClampNeg (16 : Int32).toNatClampNeg), kO b 3 [.ref cb, .ref lb, .ref nb, .int fs, .int ps, .int ts, .int es], kI cb (G.2 0) 64 g1, kI lb (G.2 0) 128 g2, kI nb (G.2 0) 16 g3] H := hP
  have hD : va_D A [kO a 3 [.ref ca, .ref la, .ref na, .int fs, .int ps, .int ts, .int es], kI ca (G.2 0) 64 (va_cpy g1 f1 (0 : Int32).toNatClampNeg (0 : Int32).toNatClampNeg (64 : Int32).toNatClampNeg), kI la (G.2 0) 128 (va_cpy g2 f2 (0 : Int32).toNatClampNeg (0 : Int32).toNatClampNeg (128 : Int32).toNatClampNeg), kI na (G.2 0) 16 (va_cpy g3 f3 (0 : Int32).toNatClampNeg (0 : Int32).toNatClampNeg (16 : Int32).toNatClampNeg), kO b 3 [.ref cb, .ref lb, .ref nb, .int fs, .int ps, .int ts, .int es], kI cb (G.2 0) 64 g1, kI lb (G.2 0) 128 g2, kI nb (G.2 0) 16 g3] := hD
  exact kRetV (G := G) () hx hb hr hlocks hS dX3_copyFrom_86 hP hD (by trivial)

set_option maxHeartbeats 4000000 in
set_option maxRecDepth 100000 in
theorem c_X3_reset (l : Launch) (G : gG) (sz : Nat) (a : Nat) (ca : Nat) (la : Nat) (na : Nat) (fr : Int32) (pr : Int32) (tm : Int32) (en : Int32) (f1 : Nat → Int32) (f2 : Nat → Int32) (f3 : Nat → Int32)  : Met l yX3_reset wsX3_reset { frames := 0, cells := 0, slots := 0, locals := 0 } (kPc G [.ref a] [kO a 3 [.ref ca, .ref la, .ref na, .int fr, .int pr, .int tm, .int en], kI ca (G.2 0) 64 f1, kI la (G.2 0) 128 f2, kI na (G.2 0) 16 f3] sz (fun _ => True)) (kQv G (S := (Nat → Int32) × (Nat → Int32) × (Nat → Int32)) (fun _ => True) (fun u => [kO a 3 [.ref ca, .ref la, .ref na, .int 1, .int 0, .int 0, .int 0], kI ca (G.2 0) 64 u.1, kI la (G.2 0) 128 u.2.1, kI na (G.2 0) 16 u.2.2]) (va_A [kO a 3 [.ref ca, .ref la, .ref na, .int fr, .int pr, .int tm, .int en], kI ca (G.2 0) 64 f1, kI la (G.2 0) 128 f2, kI na (G.2 0) 16 f3] sz)) 0 0 (va_A [kO a 3 [.ref ca, .ref la, .ref na, .int fr, .int pr, .int tm, .int en], kI ca (G.2 0) 64 f1, kI la (G.2 0) 128 f2, kI na (G.2 0) 16 f3] sz) := by
  refine kBeg (Qc := fun A => kQv G (S := (Nat → Int32) × (Nat → Int32) × (Nat → Int32)) (fun _ => True) (fun u => [kO a 3 [.ref ca, .ref la, .ref na, .int 1, .int 0, .int 0, .int 0], kI ca (G.2 0) 64 u.1, kI la (G.2 0) 128 u.2.1, kI na (G.2 0) 16 u.2.2]) A) (by decide) rfl (Nat.le_of_ble_eq_true rfl) ?_
  intro A p e s m below meth c ls H locs hx hb hr hts hown hlocks hnm hml hsz hP hK hD hZ hA hS hl
  have hown : s.vm.findClass RX3 = some m.cls := hown
  have hl : lv_has ls 2 [(0, .ref a)] := hl
  have in3 : ∀ w ∈ wsX30, w ∈ wsX3_reset := by decide +kernel
  have kc0 : (0 : Int32).toInt = 0 := by decide
  have kc1 : (1 : Int32).toInt = 1 := by decide
  have kc16 : (16 : Int32).toInt = 16 := by decide
  have kc64 : (64 : Int32).toInt = 64 := by decide
  have kc128 : (128 : Int32).toInt = 128 := by decide
  refine lv_iconst (v := 0) hx hb dX3_reset_0 (by decide) ?_
  refine lv_istore_n (lv' := [(1, .int 0), (0, .ref a)]) hx hb dX3_reset_1 rfl hl (by decide) rfl (fun ls hl => ?_)
  have loop2 : ∀ (n : Nat) (k1 : Int32) (d1 : Nat → Int32) (H : Heap) (locs : List Loc) (ls : Array Slot), (0 ≤ k1.toInt) → (k1.toInt ≤ 64) → (64 - k1.toInt).toNat < n → va_P G.1 vwCl [kO a 3 [.ref ca, .ref la, .ref na, .int fr, .int pr, .int tm, .int en], kI ca (G.2 0) 64 d1, kI la (G.2 0) 128 f2, kI na (G.2 0) 16 f3] H → va_D A [kO a 3 [.ref ca, .ref la, .ref na, .int fr, .int pr, .int tm, .int en], kI ca (G.2 0) 64 d1, kI la (G.2 0) 128 f2, kI na (G.2 0) 16 f3] → va_S A s.heap H locs → lv_has ls 2 [(1, .int k1), (0, .ref a)] → W p l e { frames := 0, cells := 0, slots := 0, locals := 0 } s m ([.ref a] : List Value).toArray below meth c H locs 0 0 (MQ below (kQv G (S := (Nat → Int32) × (Nat → Int32) × (Nat → Int32)) (fun _ => True) (fun u => [kO a 3 [.ref ca, .ref la, .ref na, .int 1, .int 0, .int 0, .int 0], kI ca (G.2 0) 64 u.1, kI la (G.2 0) 128 u.2.1, kI na (G.2 0) 16 u.2.2]) A) ([.ref a] : List Value).toArray s 0 0 A) (F0 m 2 ls []) := by
    intro n
    induction n with
    | zero =>
      intro k1 d1 H locs ls hk0 hk1 hm
      exact absurd hm (Nat.not_lt_zero _)
    | succ n ih2 =>
      intro k1 d1 H locs ls hk0 hk1 hm hP hD hS hl
      refine lv_iload_n hx hb dX3_reset_2 rfl (lv_at hl 0 rfl) ?_
      refine lv_aload_n hx hb dX3_reset_3 rfl (lv_at hl 1 rfl) ?_
      refine va_get (D := G.1) (ci := 3) (v := .ref ca) (C := RX3) (T := TX3) (N := 7) hx hb hts in3 hown hK hP 0 rfl rfl 0 (by decide) (hts (.fieldLink RX3 9 "TraceDebugger$State" "cells" "[I") (by decide +kernel)) (fun _ h9 => h9) rfl dX3_reset_4 ?_
      refine va_alen (D := G.1) (v := 64) hx hb hK hP 1 0 rfl rfl rfl dX3_reset_7 ?_
      refine lv_icmp_ge (tgt := 24) hx hb dX3_reset_8 (by decide) (fun c1 => ?_) (fun c1 => ?_)
      · have t1 := i_le.mp c1
        refine lv_iconst (v := 0) hx hb dX3_reset_24 (by decide) ?_
        refine lv_istore_n (lv' := [(1, .int 0), (0, .ref a)]) hx hb dX3_reset_25 rfl hl (by decide) rfl (fun ls hl => ?_)
        have loop26 : ∀ (n : Nat) (k2 : Int32) (d2 : Nat → Int32) (H : Heap) (locs : List Loc) (ls : Array Slot), (0 ≤ k2.toInt) → (k2.toInt ≤ 128) → (128 - k2.toInt).toNat < n → va_P G.1 vwCl [kO a 3 [.ref ca, .ref la, .ref na, .int fr, .int pr, .int tm, .int en], kI ca (G.2 0) 64 d1, kI la (G.2 0) 128 d2, kI na (G.2 0) 16 f3] H → va_D A [kO a 3 [.ref ca, .ref la, .ref na, .int fr, .int pr, .int tm, .int en], kI ca (G.2 0) 64 d1, kI la (G.2 0) 128 d2, kI na (G.2 0) 16 f3] → va_S A s.heap H locs → lv_has ls 2 [(1, .int k2), (0, .ref a)] → W p l e { frames := 0, cells := 0, slots := 0, locals := 0 } s m ([.ref a] : List Value).toArray below meth c H locs 0 0 (MQ below (kQv G (S := (Nat → Int32) × (Nat → Int32) × (Nat → Int32)) (fun _ => True) (fun u => [kO a 3 [.ref ca, .ref la, .ref na, .int 1, .int 0, .int 0, .int 0], kI ca (G.2 0) 64 u.1, kI la (G.2 0) 128 u.2.1, kI na (G.2 0) 16 u.2.2]) A) ([.ref a] : List Value).toArray s 0 0 A) (F0 m 26 ls []) := by
          intro n
          induction n with
          | zero =>
            intro k2 d2 H locs ls hk0 hk1 hm
            exact absurd hm (Nat.not_lt_zero _)
          | succ n ih26 =>
            intro k2 d2 H locs ls hk0 hk1 hm hP hD hS hl
            refine lv_iload_n hx hb dX3_reset_26 rfl (lv_at hl 0 rfl) ?_
            refine lv_aload_n hx hb dX3_reset_27 rfl (lv_at hl 1 rfl) ?_
            refine va_get (D := G.1) (ci := 3) (v := .ref la) (C := RX3) (T := TX3) (N := 7) hx hb hts in3 hown hK hP 0 rfl rfl 1 (by decide) (hts (.fieldLink RX3 15 "TraceDebugger$State" "locals" "[I") (by decide +kernel)) (fun _ h9 => h9) rfl dX3_reset_28 ?_
            refine va_alen (D := G.1) (v := 128) hx hb hK hP 2 0 rfl rfl rfl dX3_reset_31 ?_
            refine lv_icmp_ge (tgt := 48) hx hb dX3_reset_32 (by decide) (fun c2 => ?_) (fun c2 => ?_)
            · have t2 := i_le.mp c2
              refine lv_iconst (v := 0) hx hb dX3_reset_48 (by decide) ?_
              refine lv_istore_n (lv' := [(1, .int 0), (0, .ref a)]) hx hb dX3_reset_49 rfl hl (by decide) rfl (fun ls hl => ?_)
              have loop50 : ∀ (n : Nat) (k3 : Int32) (d3 : Nat → Int32) (H : Heap) (locs : List Loc) (ls : Array Slot), (0 ≤ k3.toInt) → (k3.toInt ≤ 16) → (16 - k3.toInt).toNat < n → va_P G.1 vwCl [kO a 3 [.ref ca, .ref la, .ref na, .int fr, .int pr, .int tm, .int en], kI ca (G.2 0) 64 d1, kI la (G.2 0) 128 d2, kI na (G.2 0) 16 d3] H → va_D A [kO a 3 [.ref ca, .ref la, .ref na, .int fr, .int pr, .int tm, .int en], kI ca (G.2 0) 64 d1, kI la (G.2 0) 128 d2, kI na (G.2 0) 16 d3] → va_S A s.heap H locs → lv_has ls 2 [(1, .int k3), (0, .ref a)] → W p l e { frames := 0, cells := 0, slots := 0, locals := 0 } s m ([.ref a] : List Value).toArray below meth c H locs 0 0 (MQ below (kQv G (S := (Nat → Int32) × (Nat → Int32) × (Nat → Int32)) (fun _ => True) (fun u => [kO a 3 [.ref ca, .ref la, .ref na, .int 1, .int 0, .int 0, .int 0], kI ca (G.2 0) 64 u.1, kI la (G.2 0) 128 u.2.1, kI na (G.2 0) 16 u.2.2]) A) ([.ref a] : List Value).toArray s 0 0 A) (F0 m 50 ls []) := by
                intro n
                induction n with
                | zero =>
                  intro k3 d3 H locs ls hk0 hk1 hm
                  exact absurd hm (Nat.not_lt_zero _)
                | succ n ih50 =>
                  intro k3 d3 H locs ls hk0 hk1 hm hP hD hS hl
                  refine lv_iload_n hx hb dX3_reset_50 rfl (lv_at hl 0 rfl) ?_
                  refine lv_aload_n hx hb dX3_reset_51 rfl (lv_at hl 1 rfl) ?_
                  refine va_get (D := G.1) (ci := 3) (v := .ref na) (C := RX3) (T := TX3) (N := 7) hx hb hts in3 hown hK hP 0 rfl rfl 2 (by decide) (hts (.fieldLink RX3 18 "TraceDebugger$State" "lines" "[I") (by decide +kernel)) (fun _ h9 => h9) rfl dX3_reset_52 ?_
                  refine va_alen (D := G.1) (v := 16) hx hb hK hP 3 0 rfl rfl rfl dX3_reset_55 ?_
                  refine lv_icmp_ge (tgt := 72) hx hb dX3_reset_56 (by decide) (fun c3 => ?_) (fun c3 => ?_)
                  · have t3 := i_le.mp c3
                    refine lv_aload_n hx hb dX3_reset_72 rfl (lv_at hl 1 rfl) ?_
                    refine lv_iconst (v := 1) hx hb dX3_reset_73 (by decide) ?_
                    refine va_put (D := G.1) (ci := 3) (v := .int 1) (ty := .int) (C := RX3) (T := TX3) (N := 7) hx hb hts in3 tyX3 tyX3_ok nmX3 hown hK hP hD hS 0 rfl rfl 3 (by decide) (hts (.fieldLink RX3 21 "TraceDebugger$State" "frames" "I") (by decide +kernel)) (fun _ h9 => h9) rfl (by decide +kernel) rfl rfl (Nat.le_of_ble_eq_true rfl) dX3_reset_74 (fun H locs hP hD hS => ?_)
                    have hP : va_P G.1 vwCl [kO a 3 [.ref ca, .ref la, .ref na, .int 1, .int pr, .int tm, .int en], kI ca (G.2 0) 64 d1, kI la (G.2 0) 128 d2, kI na (G.2 0) 16 d3] H := hP
                    have hD : va_D A [kO a 3 [.ref ca, .ref la, .ref na, .int 1, .int pr, .int tm, .int en], kI ca (G.2 0) 64 d1, kI la (G.2 0) 128 d2, kI na (G.2 0) 16 d3] := hD
                    refine lv_aload_n hx hb dX3_reset_77 rfl (lv_at hl 1 rfl) ?_
                    refine lv_iconst (v := 0) hx hb dX3_reset_78 (by decide) ?_
                    refine va_put (D := G.1) (ci := 3) (v := .int 0) (ty := .int) (C := RX3) (T := TX3) (N := 7) hx hb hts in3 tyX3 tyX3_ok nmX3 hown hK hP hD hS 0 rfl rfl 4 (by decide) (hts (.fieldLink RX3 25 "TraceDebugger$State" "printed" "I") (by decide +kernel)) (fun _ h9 => h9) rfl (by decide +kernel) rfl rfl (Nat.le_of_ble_eq_true rfl) dX3_reset_79 (fun H locs hP hD hS => ?_)
                    have hP : va_P G.1 vwCl [kO a 3 [.ref ca, .ref la, .ref na, .int 1, .int 0, .int tm, .int en], kI ca (G.2 0) 64 d1, kI la (G.2 0) 128 d2, kI na (G.2 0) 16 d3] H := hP
                    have hD : va_D A [kO a 3 [.ref ca, .ref la, .ref na, .int 1, .int 0, .int tm, .int en], kI ca (G.2 0) 64 d1, kI la (G.2 0) 128 d2, kI na (G.2 0) 16 d3] := hD
                    refine lv_aload_n hx hb dX3_reset_82 rfl (lv_at hl 1 rfl) ?_
                    refine lv_iconst (v := 0) hx hb dX3_reset_83 (by decide) ?_
                    refine va_put (D := G.1) (ci := 3) (v := .int 0) (ty := .int) (C := RX3) (T := TX3) (N := 7) hx hb hts in3 tyX3 tyX3_ok nmX3 hown hK hP hD hS 0 rfl rfl 5 (by decide) (hts (.fieldLink RX3 28 "TraceDebugger$State" "time" "I") (by decide +kernel)) (fun _ h9 => h9) rfl (by decide +kernel) rfl rfl (Nat.le_of_ble_eq_true rfl) dX3_reset_84 (fun H locs hP hD hS => ?_)
                    have hP : va_P G.1 vwCl [kO a 3 [.ref ca, .ref la, .ref na, .int 1, .int 0, .int 0, .int en], kI ca (G.2 0) 64 d1, kI la (G.2 0) 128 d2, kI na (G.2 0) 16 d3] H := hP
                    have hD : va_D A [kO a 3 [.ref ca, .ref la, .ref na, .int 1, .int 0, .int 0, .int en], kI ca (G.2 0) 64 d1, kI la (G.2 0) 128 d2, kI na (G.2 0) 16 d3] := hD
                    refine lv_aload_n hx hb dX3_reset_87 rfl (lv_at hl 1 rfl) ?_
                    refine lv_iconst (v := 0) hx hb dX3_reset_88 (by decide) ?_
                    refine va_put (D := G.1) (ci := 3) (v := .int 0) (ty := .boolean) (C := RX3) (T := TX3) (N := 7) hx hb hts in3 tyX3 tyX3_ok nmX3 hown hK hP hD hS 0 rfl rfl 6 (by decide) (hts (.fieldLink RX3 31 "TraceDebugger$State" "ended" "Z") (by decide +kernel)) (fun _ h9 => h9) rfl (by decide +kernel) rfl rfl (Nat.le_of_ble_eq_true rfl) dX3_reset_89 (fun H locs hP hD hS => ?_)
                    have hP : va_P G.1 vwCl [kO a 3 [.ref ca, .ref la, .ref na, .int 1, .int 0, .int 0, .int 0], kI ca (G.2 0) 64 d1, kI la (G.2 0) 128 d2, kI na (G.2 0) 16 d3] H := hP
                    have hD : va_D A [kO a 3 [.ref ca, .ref la, .ref na, .int 1, .int 0, .int 0, .int 0], kI ca (G.2 0) 64 d1, kI la (G.2 0) 128 d2, kI na (G.2 0) 16 d3] := hD
                    exact kRetV (G := G) (d1, d2, d3) hx hb hr hlocks hS dX3_reset_92 hP hD (by trivial)
                  · have t3 := i_nle.mp c3
                    refine lv_aload_n hx hb dX3_reset_59 rfl (lv_at hl 1 rfl) ?_
                    refine va_get (D := G.1) (ci := 3) (v := .ref na) (C := RX3) (T := TX3) (N := 7) hx hb hts in3 hown hK hP 0 rfl rfl 2 (by decide) (hts (.fieldLink RX3 18 "TraceDebugger$State" "lines" "[I") (by decide +kernel)) (fun _ h9 => h9) rfl dX3_reset_60 ?_
                    refine lv_iload_n hx hb dX3_reset_63 rfl (lv_at hl 0 rfl) ?_
                    refine lv_iconst (v := 0) hx hb dX3_reset_64 (by decide) ?_
                    refine va_iast (D := G.1) hx hb hK hP hD hS 3 0 rfl rfl (vp_in_iff.mpr (by omega)) dX3_reset_65 (fun H locs hP hD hS => ?_)
                    have hP : va_P G.1 vwCl [kO a 3 [.ref ca, .ref la, .ref na, .int fr, .int pr, .int tm, .int en], kI ca (G.2 0) 64 d1, kI la (G.2 0) 128 d2, kI na (G.2 0) 16 (upd d3 k3.toNatClampNeg 0)] H := hP
                    have hD : va_D A [kO a 3 [.ref ca, .ref la, .ref na, .int fr, .int pr, .int tm, .int en], kI ca (G.2 0) 64 d1, kI la (G.2 0) 128 d2, kI na (G.2 0) 16 (upd d3 k3.toNatClampNeg 0)] := hD
                    refine lv_iinc (v := (k3 + 1)) (lv' := [(1, .int (k3 + 1)), (0, .ref a)]) hx hb dX3_reset_66 hl (k := 0) rfl rfl (by decide) rfl (fun ls hl => ?_)
                    refine lv_goto (tgt := 50) hx hb dX3_reset_69 (by decide) ?_
                    have a9 : (k3 + 1).toInt = k3.toInt + (1 : Int32).toInt := i_add (by omega) (by omega)
                    exact ih50 (k3 + 1) (upd d3 k3.toNatClampNeg 0) H locs ls (by omega) (by omega) (by omega) hP hD hS (lv_sub hl [0, 1] rfl)
              exact loop50 _ 0 f3 H locs ls (by decide) (by decide) (Nat.lt_succ_self _) hP hD hS (lv_sub hl [0, 1] rfl)
            · have t2 := i_nle.mp c2
              refine lv_aload_n hx hb dX3_reset_35 rfl (lv_at hl 1 rfl) ?_
              refine va_get (D := G.1) (ci := 3) (v := .ref la) (C := RX3) (T := TX3) (N := 7) hx hb hts in3 hown hK hP 0 rfl rfl 1 (by decide) (hts (.fieldLink RX3 15 "TraceDebugger$State" "locals" "[I") (by decide +kernel)) (fun _ h9 => h9) rfl dX3_reset_36 ?_
              refine lv_iload_n hx hb dX3_reset_39 rfl (lv_at hl 0 rfl) ?_
              refine lv_iconst (v := 0) hx hb dX3_reset_40 (by decide) ?_
              refine va_iast (D := G.1) hx hb hK hP hD hS 2 0 rfl rfl (vp_in_iff.mpr (by omega)) dX3_reset_41 (fun H locs hP hD hS => ?_)
              have hP : va_P G.1 vwCl [kO a 3 [.ref ca, .ref la, .ref na, .int fr, .int pr, .int tm, .int en], kI ca (G.2 0) 64 d1, kI la (G.2 0) 128 (upd d2 k2.toNatClampNeg 0), kI na (G.2 0) 16 f3] H := hP
              have hD : va_D A [kO a 3 [.ref ca, .ref la, .ref na, .int fr, .int pr, .int tm, .int en], kI ca (G.2 0) 64 d1, kI la (G.2 0) 128 (upd d2 k2.toNatClampNeg 0), kI na (G.2 0) 16 f3] := hD
              refine lv_iinc (v := (k2 + 1)) (lv' := [(1, .int (k2 + 1)), (0, .ref a)]) hx hb dX3_reset_42 hl (k := 0) rfl rfl (by decide) rfl (fun ls hl => ?_)
              refine lv_goto (tgt := 26) hx hb dX3_reset_45 (by decide) ?_
              have a9 : (k2 + 1).toInt = k2.toInt + (1 : Int32).toInt := i_add (by omega) (by omega)
              exact ih26 (k2 + 1) (upd d2 k2.toNatClampNeg 0) H locs ls (by omega) (by omega) (by omega) hP hD hS (lv_sub hl [0, 1] rfl)
        exact loop26 _ 0 f2 H locs ls (by decide) (by decide) (Nat.lt_succ_self _) hP hD hS (lv_sub hl [0, 1] rfl)
      · have t1 := i_nle.mp c1
        refine lv_aload_n hx hb dX3_reset_11 rfl (lv_at hl 1 rfl) ?_
        refine va_get (D := G.1) (ci := 3) (v := .ref ca) (C := RX3) (T := TX3) (N := 7) hx hb hts in3 hown hK hP 0 rfl rfl 0 (by decide) (hts (.fieldLink RX3 9 "TraceDebugger$State" "cells" "[I") (by decide +kernel)) (fun _ h9 => h9) rfl dX3_reset_12 ?_
        refine lv_iload_n hx hb dX3_reset_15 rfl (lv_at hl 0 rfl) ?_
        refine lv_iconst (v := 0) hx hb dX3_reset_16 (by decide) ?_
        refine va_iast (D := G.1) hx hb hK hP hD hS 1 0 rfl rfl (vp_in_iff.mpr (by omega)) dX3_reset_17 (fun H locs hP hD hS => ?_)
        have hP : va_P G.1 vwCl [kO a 3 [.ref ca, .ref la, .ref na, .int fr, .int pr, .int tm, .int en], kI ca (G.2 0) 64 (upd d1 k1.toNatClampNeg 0), kI la (G.2 0) 128 f2, kI na (G.2 0) 16 f3] H := hP
        have hD : va_D A [kO a 3 [.ref ca, .ref la, .ref na, .int fr, .int pr, .int tm, .int en], kI ca (G.2 0) 64 (upd d1 k1.toNatClampNeg 0), kI la (G.2 0) 128 f2, kI na (G.2 0) 16 f3] := hD
        refine lv_iinc (v := (k1 + 1)) (lv' := [(1, .int (k1 + 1)), (0, .ref a)]) hx hb dX3_reset_18 hl (k := 0) rfl rfl (by decide) rfl (fun ls hl => ?_)
        refine lv_goto (tgt := 2) hx hb dX3_reset_21 (by decide) ?_
        have a9 : (k1 + 1).toInt = k1.toInt + (1 : Int32).toInt := i_add (by omega) (by omega)
        exact ih2 (k1 + 1) (upd d1 k1.toNatClampNeg 0) H locs ls (by omega) (by omega) (by omega) hP hD hS (lv_sub hl [0, 1] rfl)
  exact loop2 _ 0 f1 H locs ls (by decide) (by decide) (Nat.lt_succ_self _) hP hD hS (lv_sub hl [0, 1] rfl)

set_option maxHeartbeats 4000000 in
set_option maxRecDepth 100000 in
theorem c_X3_init (l : Launch) (G : gG) (sz : Nat) (a : Nat)  : Met l yX3_init wsX3_init { frames := 1, cells := 3, slots := 208, locals := 12 } (kPc G [.ref a] [kO a 3 [.null, .null, .null, .int 0, .int 0, .int 0, .int 0]] sz (fun _ => True)) (kQv G (S := Nat × Nat × Nat) (fun _ => True) (fun u => [kO a 3 [.ref u.1, .ref u.2.1, .ref u.2.2, .int 1, .int 0, .int 0, .int 0], kI u.1 (G.2 0) 64 (fun _ => 0), kI u.2.1 (G.2 0) 128 (fun _ => 0), kI u.2.2 (G.2 0) 16 (fun _ => 0)]) (va_A [kO a 3 [.null, .null, .null, .int 0, .int 0, .int 0, .int 0]] sz)) 3 208 (va_A [kO a 3 [.null, .null, .null, .int 0, .int 0, .int 0, .int 0]] sz) := by
  refine kBeg (Qc := fun A => kQv G (S := Nat × Nat × Nat) (fun _ => True) (fun u => [kO a 3 [.ref u.1, .ref u.2.1, .ref u.2.2, .int 1, .int 0, .int 0, .int 0], kI u.1 (G.2 0) 64 (fun _ => 0), kI u.2.1 (G.2 0) 128 (fun _ => 0), kI u.2.2 (G.2 0) 16 (fun _ => 0)]) A) (by decide) rfl (Nat.le_of_ble_eq_true rfl) ?_
  intro A p e s m below meth c ls H locs hx hb hr hts hown hlocks hnm hml hsz hP hK hD hZ hA hS hl
  have hown : s.vm.findClass RX3 = some m.cls := hown
  have hl : lv_has ls 1 [(0, .ref a)] := hl
  have in3 : ∀ w ∈ wsX30, w ∈ wsX3_init := by decide +kernel
  have kc1 : (1 : Int32).toInt = 1 := by decide
  have kc16 : (16 : Int32).toInt = 16 := by decide
  have kc64 : (64 : Int32).toInt = 64 := by decide
  have kc128 : (128 : Int32).toInt = 128 := by decide
  refine lv_aload_n hx hb dX3_init_0 rfl (lv_at hl 0 rfl) ?_
  refine W.objInit hx hb hown (hts (.methodLink RX3 3 objectInit) (by decide +kernel)) (hts (.instanceMethod objectInit) (by decide +kernel)) (hts (.code objectInit ⟨#[0xb1]⟩ 1 none) (by decide +kernel)) rfl (by rw [hml]; exact hl.1) rfl dX3_init_1 (Nat.le_of_ble_eq_true rfl) (Nat.le_of_ble_eq_true rfl) ?_
  refine W.eq (g2 := F0 m 4 ls []) rfl ?_
  refine lv_aload_n hx hb dX3_init_4 rfl (lv_at hl 0 rfl) ?_
  refine lv_bipush (v := 64) hx hb dX3_init_5 (by decide) ?_
  refine kNewI (N' := 64) hx hb (hts (.arrayClass .int) (by decide +kernel)) hK hP hD hS hA (by decide) (by decide) (by decide) (Nat.le_of_ble_eq_true rfl) (Nat.le_of_ble_eq_true rfl) dX3_init_7 (fun q1 H hP hD hS => ?_)
  have hP : va_P G.1 vwCl [kO a 3 [.null, .null, .null, .int 0, .int 0, .int 0, .int 0], kI q1 (G.2 0) 64 (fun _ => 0)] H := hP
  have hD : va_D A [kO a 3 [.null, .null, .null, .int 0, .int 0, .int 0, .int 0], kI q1 (G.2 0) 64 (fun _ => 0)] := hD
  refine W.widen (k := 1) (n := 64) (by omega) (by omega) ?_
  refine va_putF (D := G.1) (ci := 3) (v := .ref q1) (ty := (.array .int)) (C := RX3) (T := TX3) (N := 7) hx hb hts in3 tyX3 tyX3_ok nmX3 hown hK hP hD hS 0 rfl rfl 0 (by decide) (hts (.fieldLink RX3 9 "TraceDebugger$State" "cells" "[I") (by decide +kernel)) (fun _ h9 => h9) rfl hnm rfl (by decide +kernel) rfl rfl (Nat.le_of_ble_eq_true rfl) dX3_init_9 (fun H locs hP hD hS => ?_)
  have hP : va_P G.1 vwCl [kO a 3 [.ref q1, .null, .null, .int 0, .int 0, .int 0, .int 0], kI q1 (G.2 0) 64 (fun _ => 0)] H := hP
  have hD : va_D A [kO a 3 [.ref q1, .null, .null, .int 0, .int 0, .int 0, .int 0], kI q1 (G.2 0) 64 (fun _ => 0)] := hD
  refine lv_aload_n hx hb dX3_init_12 rfl (lv_at hl 0 rfl) ?_
  refine lv_sipush (v := 128) hx hb dX3_init_13 (by decide) ?_
  refine kNewI (N' := 128) hx hb (hts (.arrayClass .int) (by decide +kernel)) hK hP hD hS hA (by decide) (by decide) (by decide) (Nat.le_of_ble_eq_true rfl) (Nat.le_of_ble_eq_true rfl) dX3_init_16 (fun q2 H hP hD hS => ?_)
  have hP : va_P G.1 vwCl [kO a 3 [.ref q1, .null, .null, .int 0, .int 0, .int 0, .int 0], kI q1 (G.2 0) 64 (fun _ => 0), kI q2 (G.2 0) 128 (fun _ => 0)] H := hP
  have hD : va_D A [kO a 3 [.ref q1, .null, .null, .int 0, .int 0, .int 0, .int 0], kI q1 (G.2 0) 64 (fun _ => 0), kI q2 (G.2 0) 128 (fun _ => 0)] := hD
  refine W.widen (k := 2) (n := 192) (by omega) (by omega) ?_
  refine va_putF (D := G.1) (ci := 3) (v := .ref q2) (ty := (.array .int)) (C := RX3) (T := TX3) (N := 7) hx hb hts in3 tyX3 tyX3_ok nmX3 hown hK hP hD hS 0 rfl rfl 1 (by decide) (hts (.fieldLink RX3 15 "TraceDebugger$State" "locals" "[I") (by decide +kernel)) (fun _ h9 => h9) rfl hnm rfl (by decide +kernel) rfl rfl (Nat.le_of_ble_eq_true rfl) dX3_init_18 (fun H locs hP hD hS => ?_)
  have hP : va_P G.1 vwCl [kO a 3 [.ref q1, .ref q2, .null, .int 0, .int 0, .int 0, .int 0], kI q1 (G.2 0) 64 (fun _ => 0), kI q2 (G.2 0) 128 (fun _ => 0)] H := hP
  have hD : va_D A [kO a 3 [.ref q1, .ref q2, .null, .int 0, .int 0, .int 0, .int 0], kI q1 (G.2 0) 64 (fun _ => 0), kI q2 (G.2 0) 128 (fun _ => 0)] := hD
  refine lv_aload_n hx hb dX3_init_21 rfl (lv_at hl 0 rfl) ?_
  refine lv_bipush (v := 16) hx hb dX3_init_22 (by decide) ?_
  refine kNewI (N' := 16) hx hb (hts (.arrayClass .int) (by decide +kernel)) hK hP hD hS hA (by decide) (by decide) (by decide) (Nat.le_of_ble_eq_true rfl) (Nat.le_of_ble_eq_true rfl) dX3_init_24 (fun q3 H hP hD hS => ?_)
  have hP : va_P G.1 vwCl [kO a 3 [.ref q1, .ref q2, .null, .int 0, .int 0, .int 0, .int 0], kI q1 (G.2 0) 64 (fun _ => 0), kI q2 (G.2 0) 128 (fun _ => 0), kI q3 (G.2 0) 16 (fun _ => 0)] H := hP
  have hD : va_D A [kO a 3 [.ref q1, .ref q2, .null, .int 0, .int 0, .int 0, .int 0], kI q1 (G.2 0) 64 (fun _ => 0), kI q2 (G.2 0) 128 (fun _ => 0), kI q3 (G.2 0) 16 (fun _ => 0)] := hD
  refine W.widen (k := 3) (n := 208) (by omega) (by omega) ?_
  refine va_putF (D := G.1) (ci := 3) (v := .ref q3) (ty := (.array .int)) (C := RX3) (T := TX3) (N := 7) hx hb hts in3 tyX3 tyX3_ok nmX3 hown hK hP hD hS 0 rfl rfl 2 (by decide) (hts (.fieldLink RX3 18 "TraceDebugger$State" "lines" "[I") (by decide +kernel)) (fun _ h9 => h9) rfl hnm rfl (by decide +kernel) rfl rfl (Nat.le_of_ble_eq_true rfl) dX3_init_26 (fun H locs hP hD hS => ?_)
  have hP : va_P G.1 vwCl [kO a 3 [.ref q1, .ref q2, .ref q3, .int 0, .int 0, .int 0, .int 0], kI q1 (G.2 0) 64 (fun _ => 0), kI q2 (G.2 0) 128 (fun _ => 0), kI q3 (G.2 0) 16 (fun _ => 0)] H := hP
  have hD : va_D A [kO a 3 [.ref q1, .ref q2, .ref q3, .int 0, .int 0, .int 0, .int 0], kI q1 (G.2 0) 64 (fun _ => 0), kI q2 (G.2 0) 128 (fun _ => 0), kI q3 (G.2 0) 16 (fun _ => 0)] := hD
  refine lv_aload_n hx hb dX3_init_29 rfl (lv_at hl 0 rfl) ?_
  refine lv_iconst (v := 1) hx hb dX3_init_30 (by decide) ?_
  refine va_put (D := G.1) (ci := 3) (v := .int 1) (ty := .int) (C := RX3) (T := TX3) (N := 7) hx hb hts in3 tyX3 tyX3_ok nmX3 hown hK hP hD hS 0 rfl rfl 3 (by decide) (hts (.fieldLink RX3 21 "TraceDebugger$State" "frames" "I") (by decide +kernel)) (fun _ h9 => h9) rfl (by decide +kernel) rfl rfl (Nat.le_of_ble_eq_true rfl) dX3_init_31 (fun H locs hP hD hS => ?_)
  have hP : va_P G.1 vwCl [kO a 3 [.ref q1, .ref q2, .ref q3, .int 1, .int 0, .int 0, .int 0], kI q1 (G.2 0) 64 (fun _ => 0), kI q2 (G.2 0) 128 (fun _ => 0), kI q3 (G.2 0) 16 (fun _ => 0)] H := hP
  have hD : va_D A [kO a 3 [.ref q1, .ref q2, .ref q3, .int 1, .int 0, .int 0, .int 0], kI q1 (G.2 0) 64 (fun _ => 0), kI q2 (G.2 0) 128 (fun _ => 0), kI q3 (G.2 0) 16 (fun _ => 0)] := hD
  exact kRetV (G := G) (q1, q2, q3) hx hb hr hlocks hS dX3_init_34 hP hD (by trivial)
