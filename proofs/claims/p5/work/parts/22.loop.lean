set_option maxHeartbeats 4000000 in
set_option maxRecDepth 100000 in
theorem law_loop {p : Program} {l : Launch} {e : Env} {s : State} {m : MethodId} {below : List Frame} {meth : Method} {c : Code} {b L : Nat} {xs : Nat → Int32} (hst : l.stackTraces = false) (Q0 : lw_At p s m meth c b L xs) (hL : L ≤ 2049) (G : gG) (h q : Nat → Nat) (fs : Int32) (o9 : Nat) (A : Nat → Prop) (hAe : A = fun z => s.heap.size ≤ z) (hK : gK G s) (hZ : kZx kZT A s) : ∀ (n : Nat) (i : Int32) (cells slots : Nat), 1 ≤ i.toInt → i.toInt ≤ (L : Int) + 3 → (L : Int) + 4 - i.toInt < (n : Int) → cells + n ≤ 5000 → slots + 6 * n ≤ 50000 → lawK p l e s m below meth c G h q fs b o9 A i cells slots 33 := by
  have Q9 := Q0
  obtain ⟨hx, hb, hr, hml, hown, hts, hX, hbl, hlocks, hgv⟩ := Q0
  have hts := fun w h => hts w (wsL_law_in w h)
  have hown : s.vm.findClass RL = some m.cls := hown
  have hsz := hbl
  have hA : ∀ z : Nat, s.heap.size ≤ z → A z := fun z h9 => by rw [hAe]; exact h9
  have hbA : ¬ A b := by rw [hAe]; exact Nat.not_le.mpr hbl
  have kL : (Int32.ofNat L).toInt = (L : Int) := nI_toInt (n := L) (by omega)
  have kc0 : (0 : Int32).toInt = 0 := by decide
  have kc1 : (1 : Int32).toInt = 1 := by decide
  have kc4 : (4 : Int32).toInt = 4 := by decide
  have kc31 : (31 : Int32).toInt = 31 := by decide
  intro n
  induction n with
  | zero =>
    intro i cells slots h1 h2 h3
    exact absurd h3 (by omega)
  | succ n ih =>
    intro i cells slots hi1 hi2 hn9 hc9 hs9
    intro size f1 f2 f3 fm fw tr ch fr pr tm en sp zs far fo fc fl fn g kd ks ka Qcd Qsp Qln Qfr Qtm Qoc Qen Qtr Qch Qkc Qre Qg1 Qg2 Qg3 Qgm Qgw Qgb Qgc Qgl Qgk Qgo Qgt fj H locs ls hpg hti hpr hri hww hP hD hS hl
    refine lv_iload hx hb dL_law_33 (lv_at hl 0 rfl) ?_
    refine lv_aload_n hx hb dL_law_35 rfl (lv_at hl 4 rfl) ?_
    refine va_slen hx hb hX hbl hbA hS dL_law_36 ?_
    refine lv_iconst (v := 4) hx hb dL_law_37 (by decide) ?_
    refine lv_isub hx hb dL_law_38 ?_
    have a1 : (((Int32.ofNat L) - 4) : Int32).toInt = ((Int32.ofNat L) : Int32).toInt - (4 : Int32).toInt := i_sub (by omega) (by omega)
    refine lv_icmp_gt (tgt := 675) hx hb dL_law_39 (by decide) (fun c2 => ?_) (fun c2 => ?_)
    · have t2 := i_lt.mp c2
      exact law_exit Q9 A hAe H locs hS ls (by omega) (by omega)
    · have t2 := i_nlt.mp c2
      have a4 : (i + 4).toInt = i.toInt + (4 : Int32).toInt := i_add (by omega) (by omega)
      have hcl : cells + 1 ≤ room_1.cells := Nat.le_trans (show cells + 1 ≤ 5000 by omega) (Nat.le_of_ble_eq_true rfl)
      have hsl : slots + 6 ≤ room_1.slots := Nat.le_trans (show slots + 6 ≤ 50000 by omega) (Nat.le_of_ble_eq_true rfl)
      have kk : lawK p l e s m below meth c G h q fs b o9 A i (cells + 1) (slots + 6) 669 := by
        clear hl hS hD hP hww hri hpr hti hpg
        intro size f1 f2 f3 fm fw tr ch fr pr tm en sp zs far fo fc fl fn g kd ks ka Qcd Qsp Qln Qfr Qtm Qoc Qen Qtr Qch Qkc Qre Qg1 Qg2 Qg3 Qgm Qgw Qgb Qgc Qgl Qgk Qgo Qgt fj H locs ls hpg hti hpr hri hww hP hD hS hl
        refine lv_iinc (v := i + 4) (lv' := [(4, .int (i + 4)), (3, .ref o9), (2, .ref (q 0)), (1, .ref (h 0)), (0, .ref b)]) hx hb dL_law_669 hl (k := 0) rfl rfl (by decide) rfl (fun ls hl => ?_)
        refine lv_goto (tgt := 33) hx hb dL_law_672 (by decide) ?_
        exact ih (i + 4) (cells + 1) (slots + 6) (by omega) (by omega) (by omega) (by omega) (by omega) size f1 f2 f3 fm fw tr ch fr pr tm en sp zs far fo fc fl fn g kd ks ka Qcd Qsp Qln Qfr Qtm Qoc Qen Qtr Qch Qkc Qre Qg1 Qg2 Qg3 Qgm Qgw Qgb Qgc Qgl Qgk Qgo Qgt fj H locs ls hpg hti hpr hri hww hP hD hS hl
      refine lv_aload_n hx hb dL_law_42 rfl (lv_at hl 4 rfl) ?_
      refine lv_iload hx hb dL_law_43 (lv_at hl 0 rfl) ?_
      refine va_sld hx hb hX hbl hbA hS (vp_in_iff.mpr (by omega)) dL_law_45 ?_
      refine lv_bipush (v := 31) hx hb dL_law_46 (by decide) ?_
      refine lv_iand hx hb dL_law_48 ?_
      rcases (show ((xs i.toNatClampNeg) &&& 31).toInt = 0 ∨ ((xs i.toNatClampNeg) &&& 31).toInt = 1 ∨ ((xs i.toNatClampNeg) &&& 31).toInt = 2 ∨ ((xs i.toNatClampNeg) &&& 31).toInt = 3 ∨ ((xs i.toNatClampNeg) &&& 31).toInt = 4 ∨ ((xs i.toNatClampNeg) &&& 31).toInt = 5 ∨ ((xs i.toNatClampNeg) &&& 31).toInt = 6 ∨ ((xs i.toNatClampNeg) &&& 31).toInt = 7 ∨ ((xs i.toNatClampNeg) &&& 31).toInt = 8 ∨ ((xs i.toNatClampNeg) &&& 31).toInt = 9 ∨ ((xs i.toNatClampNeg) &&& 31).toInt = 10 ∨ ((xs i.toNatClampNeg) &&& 31).toInt = 11 ∨ ((xs i.toNatClampNeg) &&& 31).toInt = 12 ∨ ((xs i.toNatClampNeg) &&& 31).toInt = 13 ∨ ((xs i.toNatClampNeg) &&& 31).toInt = 14 ∨ ((xs i.toNatClampNeg) &&& 31).toInt = 15 ∨ ((xs i.toNatClampNeg) &&& 31).toInt = 16 ∨ ((xs i.toNatClampNeg) &&& 31).toInt = 17 ∨ (((xs i.toNatClampNeg) &&& 31).toInt < 0 ∨ 17 < ((xs i.toNatClampNeg) &&& 31).toInt) by omega) with w3 | w3 | w3 | w3 | w3 | w3 | w3 | w3 | w3 | w3 | w3 | w3 | w3 | w3 | w3 | w3 | w3 | w3 | w3
      · refine lv_tableIn (off := 87) (tgt := 136) hx hb dL_law_49 (by omega) (by omega) (by rw [w3]; rfl) (by decide) ?_
        exact law_0 hst Q9 hL G h q fs o9 A hAe hK hZ i hi1 (by omega) cells slots hcl hsl kk size f1 f2 f3 fm fw tr ch fr pr tm en sp zs far fo fc fl fn g kd ks ka Qcd Qsp Qln Qfr Qtm Qoc Qen Qtr Qch Qkc Qre Qg1 Qg2 Qg3 Qgm Qgw Qgb Qgc Qgl Qgk Qgo Qgt fj H locs ls hpg hti hpr hri hww hP hD hS hl
      · refine lv_tableIn (off := 139) (tgt := 188) hx hb dL_law_49 (by omega) (by omega) (by rw [w3]; rfl) (by decide) ?_
        exact law_1 hst Q9 hL G h q fs o9 A hAe hK hZ i hi1 (by omega) cells slots hcl hsl kk size f1 f2 f3 fm fw tr ch fr pr tm en sp zs far fo fc fl fn g kd ks ka Qcd Qsp Qln Qfr Qtm Qoc Qen Qtr Qch Qkc Qre Qg1 Qg2 Qg3 Qgm Qgw Qgb Qgc Qgl Qgk Qgo Qgt fj H locs ls hpg hti hpr hri hww hP hD hS hl
      · refine lv_tableIn (off := 179) (tgt := 228) hx hb dL_law_49 (by omega) (by omega) (by rw [w3]; rfl) (by decide) ?_
        exact law_2 hst Q9 hL G h q fs o9 A hAe hK hZ i hi1 (by omega) cells slots hcl hsl kk size f1 f2 f3 fm fw tr ch fr pr tm en sp zs far fo fc fl fn g kd ks ka Qcd Qsp Qln Qfr Qtm Qoc Qen Qtr Qch Qkc Qre Qg1 Qg2 Qg3 Qgm Qgw Qgb Qgc Qgl Qgk Qgo Qgt fj H locs ls hpg hti hpr hri hww hP hD hS hl
      · refine lv_tableIn (off := 235) (tgt := 284) hx hb dL_law_49 (by omega) (by omega) (by rw [w3]; rfl) (by decide) ?_
        exact law_3 hst Q9 hL G h q fs o9 A hAe hK hZ i hi1 (by omega) cells slots hcl hsl kk size f1 f2 f3 fm fw tr ch fr pr tm en sp zs far fo fc fl fn g kd ks ka Qcd Qsp Qln Qfr Qtm Qoc Qen Qtr Qch Qkc Qre Qg1 Qg2 Qg3 Qgm Qgw Qgb Qgc Qgl Qgk Qgo Qgt fj H locs ls hpg hti hpr hri hww hP hD hS hl
      · refine lv_tableIn (off := 326) (tgt := 375) hx hb dL_law_49 (by omega) (by omega) (by rw [w3]; rfl) (by decide) ?_
        exact law_4 hst Q9 hL G h q fs o9 A hAe hK hZ i hi1 (by omega) cells slots hcl hsl kk size f1 f2 f3 fm fw tr ch fr pr tm en sp zs far fo fc fl fn g kd ks ka Qcd Qsp Qln Qfr Qtm Qoc Qen Qtr Qch Qkc Qre Qg1 Qg2 Qg3 Qgm Qgw Qgb Qgc Qgl Qgk Qgo Qgt fj H locs ls hpg hti hpr hri hww hP hD hS hl
      · refine lv_tableIn (off := 339) (tgt := 388) hx hb dL_law_49 (by omega) (by omega) (by rw [w3]; rfl) (by decide) ?_
        exact law_5 hst Q9 hL G h q fs o9 A hAe hK hZ i hi1 (by omega) cells slots hcl hsl kk size f1 f2 f3 fm fw tr ch fr pr tm en sp zs far fo fc fl fn g kd ks ka Qcd Qsp Qln Qfr Qtm Qoc Qen Qtr Qch Qkc Qre Qg1 Qg2 Qg3 Qgm Qgw Qgb Qgc Qgl Qgk Qgo Qgt fj H locs ls hpg hti hpr hri hww hP hD hS hl
      · refine lv_tableIn (off := 352) (tgt := 401) hx hb dL_law_49 (by omega) (by omega) (by rw [w3]; rfl) (by decide) ?_
        exact law_6 hst Q9 hL G h q fs o9 A hAe hK hZ i hi1 (by omega) cells slots hcl hsl kk size f1 f2 f3 fm fw tr ch fr pr tm en sp zs far fo fc fl fn g kd ks ka Qcd Qsp Qln Qfr Qtm Qoc Qen Qtr Qch Qkc Qre Qg1 Qg2 Qg3 Qgm Qgw Qgb Qgc Qgl Qgk Qgo Qgt fj H locs ls hpg hti hpr hri hww hP hD hS hl
      · refine lv_tableIn (off := 365) (tgt := 414) hx hb dL_law_49 (by omega) (by omega) (by rw [w3]; rfl) (by decide) ?_
        exact law_7 hst Q9 hL G h q fs o9 A hAe hK hZ i hi1 (by omega) cells slots hcl hsl kk size f1 f2 f3 fm fw tr ch fr pr tm en sp zs far fo fc fl fn g kd ks ka Qcd Qsp Qln Qfr Qtm Qoc Qen Qtr Qch Qkc Qre Qg1 Qg2 Qg3 Qgm Qgw Qgb Qgc Qgl Qgk Qgo Qgt fj H locs ls hpg hti hpr hri hww hP hD hS hl
      · refine lv_tableIn (off := 378) (tgt := 427) hx hb dL_law_49 (by omega) (by omega) (by rw [w3]; rfl) (by decide) ?_
        exact law_8 hst Q9 hL G h q fs o9 A hAe hK hZ i hi1 (by omega) cells slots hcl hsl kk size f1 f2 f3 fm fw tr ch fr pr tm en sp zs far fo fc fl fn g kd ks ka Qcd Qsp Qln Qfr Qtm Qoc Qen Qtr Qch Qkc Qre Qg1 Qg2 Qg3 Qgm Qgw Qgb Qgc Qgl Qgk Qgo Qgt fj H locs ls hpg hti hpr hri hww hP hD hS hl
      · refine lv_tableIn (off := 391) (tgt := 440) hx hb dL_law_49 (by omega) (by omega) (by rw [w3]; rfl) (by decide) ?_
        exact law_9 hst Q9 hL G h q fs o9 A hAe hK hZ i hi1 (by omega) cells slots hcl hsl kk size f1 f2 f3 fm fw tr ch fr pr tm en sp zs far fo fc fl fn g kd ks ka Qcd Qsp Qln Qfr Qtm Qoc Qen Qtr Qch Qkc Qre Qg1 Qg2 Qg3 Qgm Qgw Qgb Qgc Qgl Qgk Qgo Qgt fj H locs ls hpg hti hpr hri hww hP hD hS hl
      · refine lv_tableIn (off := 404) (tgt := 453) hx hb dL_law_49 (by omega) (by omega) (by rw [w3]; rfl) (by decide) ?_
        exact law_10 hst Q9 hL G h q fs o9 A hAe hK hZ i hi1 (by omega) cells slots hcl hsl kk size f1 f2 f3 fm fw tr ch fr pr tm en sp zs far fo fc fl fn g kd ks ka Qcd Qsp Qln Qfr Qtm Qoc Qen Qtr Qch Qkc Qre Qg1 Qg2 Qg3 Qgm Qgw Qgb Qgc Qgl Qgk Qgo Qgt fj H locs ls hpg hti hpr hri hww hP hD hS hl
      · refine lv_tableIn (off := 432) (tgt := 481) hx hb dL_law_49 (by omega) (by omega) (by rw [w3]; rfl) (by decide) ?_
        exact law_11 hst Q9 hL G h q fs o9 A hAe hK hZ i hi1 (by omega) cells slots hcl hsl kk size f1 f2 f3 fm fw tr ch fr pr tm en sp zs far fo fc fl fn g kd ks ka Qcd Qsp Qln Qfr Qtm Qoc Qen Qtr Qch Qkc Qre Qg1 Qg2 Qg3 Qgm Qgw Qgb Qgc Qgl Qgk Qgo Qgt fj H locs ls hpg hti hpr hri hww hP hD hS hl
      · refine lv_tableIn (off := 472) (tgt := 521) hx hb dL_law_49 (by omega) (by omega) (by rw [w3]; rfl) (by decide) ?_
        exact law_12 hst Q9 hL G h q fs o9 A hAe hK hZ i hi1 (by omega) cells slots hcl hsl kk size f1 f2 f3 fm fw tr ch fr pr tm en sp zs far fo fc fl fn g kd ks ka Qcd Qsp Qln Qfr Qtm Qoc Qen Qtr Qch Qkc Qre Qg1 Qg2 Qg3 Qgm Qgw Qgb Qgc Qgl Qgk Qgo Qgt fj H locs ls hpg hti hpr hri hww hP hD hS hl
      · refine lv_tableIn (off := 500) (tgt := 549) hx hb dL_law_49 (by omega) (by omega) (by rw [w3]; rfl) (by decide) ?_
        exact law_13 hst Q9 hL G h q fs o9 A hAe hK hZ i hi1 (by omega) cells slots hcl hsl kk size f1 f2 f3 fm fw tr ch fr pr tm en sp zs far fo fc fl fn g kd ks ka Qcd Qsp Qln Qfr Qtm Qoc Qen Qtr Qch Qkc Qre Qg1 Qg2 Qg3 Qgm Qgw Qgb Qgc Qgl Qgk Qgo Qgt fj H locs ls hpg hti hpr hri hww hP hD hS hl
      · refine lv_tableIn (off := 528) (tgt := 577) hx hb dL_law_49 (by omega) (by omega) (by rw [w3]; rfl) (by decide) ?_
        exact law_14 hst Q9 hL G h q fs o9 A hAe hK hZ i hi1 (by omega) cells slots hcl hsl kk size f1 f2 f3 fm fw tr ch fr pr tm en sp zs far fo fc fl fn g kd ks ka Qcd Qsp Qln Qfr Qtm Qoc Qen Qtr Qch Qkc Qre Qg1 Qg2 Qg3 Qgm Qgw Qgb Qgc Qgl Qgk Qgo Qgt fj H locs ls hpg hti hpr hri hww hP hD hS hl
      · refine lv_tableIn (off := 556) (tgt := 605) hx hb dL_law_49 (by omega) (by omega) (by rw [w3]; rfl) (by decide) ?_
        exact law_15 hst Q9 hL G h q fs o9 A hAe hK hZ i hi1 (by omega) cells slots hcl hsl kk size f1 f2 f3 fm fw tr ch fr pr tm en sp zs far fo fc fl fn g kd ks ka Qcd Qsp Qln Qfr Qtm Qoc Qen Qtr Qch Qkc Qre Qg1 Qg2 Qg3 Qgm Qgw Qgb Qgc Qgl Qgk Qgo Qgt fj H locs ls hpg hti hpr hri hww hP hD hS hl
      · refine lv_tableIn (off := 584) (tgt := 633) hx hb dL_law_49 (by omega) (by omega) (by rw [w3]; rfl) (by decide) ?_
        exact law_16 hst Q9 hL G h q fs o9 A hAe hK hZ i hi1 (by omega) cells slots hcl hsl kk size f1 f2 f3 fm fw tr ch fr pr tm en sp zs far fo fc fl fn g kd ks ka Qcd Qsp Qln Qfr Qtm Qoc Qen Qtr Qch Qkc Qre Qg1 Qg2 Qg3 Qgm Qgw Qgb Qgc Qgl Qgk Qgo Qgt fj H locs ls hpg hti hpr hri hww hP hD hS hl
      · refine lv_tableIn (off := 609) (tgt := 658) hx hb dL_law_49 (by omega) (by omega) (by rw [w3]; rfl) (by decide) ?_
        exact law_17 hst Q9 hL G h q fs o9 A hAe hK hZ i hi1 (by omega) cells slots hcl hsl kk size f1 f2 f3 fm fw tr ch fr pr tm en sp zs far fo fc fl fn g kd ks ka Qcd Qsp Qln Qfr Qtm Qoc Qen Qtr Qch Qkc Qre Qg1 Qg2 Qg3 Qgm Qgw Qgb Qgc Qgl Qgk Qgo Qgt fj H locs ls hpg hti hpr hri hww hP hD hS hl
      · refine lv_tableOut (tgt := 669) hx hb dL_law_49 w3 (by decide) ?_
        refine W.widen (k := cells + 1) (n := slots + 6) (Nat.le_add_right _ _) (Nat.le_add_right _ _) ?_
        exact kk size f1 f2 f3 fm fw tr ch fr pr tm en sp zs far fo fc fl fn g kd ks ka Qcd Qsp Qln Qfr Qtm Qoc Qen Qtr Qch Qkc Qre Qg1 Qg2 Qg3 Qgm Qgw Qgb Qgc Qgl Qgk Qgo Qgt fj H locs ls hpg hti hpr hri hww hP hD hS (lv_sub hl [0, 1, 2, 3, 4] rfl)
