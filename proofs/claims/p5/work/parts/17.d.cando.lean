set_option maxHeartbeats 4000000 in
set_option maxRecDepth 100000 in
theorem c_X5_canDo (l : Launch) (G : gG) (sz : Nat) (q : Nat → Nat) (fs : Int32) (cd : Int32) (sp : Int32) (ln : Int32) (fr : Int32) (tm : Int32) (oc : Int32) (en : Int32) (tr : Int32) (ch : Int32) (kc : Int32) (re : Int32) (g1 : Nat → Int32) (g2 : Nat → Int32) (g3 : Nat → Int32) (gm : Nat → Int32) (gw : Nat → Int32) (gb : Nat → Int32) (gc : Nat → Int32) (gl : Nat → Int32) (gk : Nat → Int32) (go : Nat → Int32) (gt : Nat → Int32) (n : Int32) (hpg : ((0 ≤ ln.toInt ∧ ln.toInt ≤ 80) ∧ ∀ j : Nat, (j : Int) < ln.toInt → ((0 ≤ (g1 j).toInt ∧ (g1 j).toInt ≤ 12) ∧ (((g1 j).toInt ≤ 6 ∨ (g1 j).toInt = 8 ∨ (g1 j).toInt = 10 ∨ (g1 j).toInt = 11) → (0 ≤ (g2 j).toInt ∧ (g2 j).toInt < 8)) ∧ ((1 ≤ (g1 j).toInt ∧ (g1 j).toInt ≤ 6) → (0 ≤ (g3 j).toInt ∧ (g3 j).toInt < 8)) ∧ ((g1 j).toInt = 9 → (0 ≤ (g3 j).toInt ∧ (g3 j).toInt ≤ 8))))) (hf1 : 1 ≤ fr.toInt) (hf2 : fr.toInt ≤ 16) : Met l yX5_canDo wsX5_canDo { frames := 0, cells := 0, slots := 0, locals := 0 } (kPc G [.ref (q 0), .int n] [kO (q 0) 5 [.int cd, .int fs, .int sp, .ref (q 1), .ref (q 2), .ref (q 3), .ref (q 4), .int ln, .ref (q 5), .ref (q 6), .ref (q 7), .ref (q 8), .ref (q 9), .int fr, .int tm, .ref (q 10), .int oc, .int en, .int tr, .int ch, .ref (q 11), .int kc, .int re], kI (q 1) (G.2 0) 80 g1, kI (q 2) (G.2 0) 80 g2, kI (q 3) (G.2 0) 80 g3, kI (q 8) (G.2 0) 128 gl] sz (fun _ => True)) (kQi G (S := Unit) (fun r _ => (r = 1 ∧ (kOy ln (g1 n.toNatClampNeg) (g2 n.toNatClampNeg) (g3 n.toNatClampNeg) n gl fr oc)) ∨ (r = 0 ∧ ¬ (kOy ln (g1 n.toNatClampNeg) (g2 n.toNatClampNeg) (g3 n.toNatClampNeg) n gl fr oc))) (fun _ => [kO (q 0) 5 [.int cd, .int fs, .int sp, .ref (q 1), .ref (q 2), .ref (q 3), .ref (q 4), .int ln, .ref (q 5), .ref (q 6), .ref (q 7), .ref (q 8), .ref (q 9), .int fr, .int tm, .ref (q 10), .int oc, .int en, .int tr, .int ch, .ref (q 11), .int kc, .int re], kI (q 1) (G.2 0) 80 g1, kI (q 2) (G.2 0) 80 g2, kI (q 3) (G.2 0) 80 g3, kI (q 8) (G.2 0) 128 gl]) (va_A [kO (q 0) 5 [.int cd, .int fs, .int sp, .ref (q 1), .ref (q 2), .ref (q 3), .ref (q 4), .int ln, .ref (q 5), .ref (q 6), .ref (q 7), .ref (q 8), .ref (q 9), .int fr, .int tm, .ref (q 10), .int oc, .int en, .int tr, .int ch, .ref (q 11), .int kc, .int re], kI (q 1) (G.2 0) 80 g1, kI (q 2) (G.2 0) 80 g2, kI (q 3) (G.2 0) 80 g3, kI (q 8) (G.2 0) 128 gl] sz)) 0 0 (va_A [kO (q 0) 5 [.int cd, .int fs, .int sp, .ref (q 1), .ref (q 2), .ref (q 3), .ref (q 4), .int ln, .ref (q 5), .ref (q 6), .ref (q 7), .ref (q 8), .ref (q 9), .int fr, .int tm, .ref (q 10), .int oc, .int en, .int tr, .int ch, .ref (q 11), .int kc, .int re], kI (q 1) (G.2 0) 80 g1, kI (q 2) (G.2 0) 80 g2, kI (q 3) (G.2 0) 80 g3, kI (q 8) (G.2 0) 128 gl] sz) := by
  refine kBeg (Qc := fun A => kQi G (S := Unit) (fun r _ => (r = 1 ∧ (kOy ln (g1 n.toNatClampNeg) (g2 n.toNatClampNeg) (g3 n.toNatClampNeg) n gl fr oc)) ∨ (r = 0 ∧ ¬ (kOy ln (g1 n.toNatClampNeg) (g2 n.toNatClampNeg) (g3 n.toNatClampNeg) n gl fr oc))) (fun _ => [kO (q 0) 5 [.int cd, .int fs, .int sp, .ref (q 1), .ref (q 2), .ref (q 3), .ref (q 4), .int ln, .ref (q 5), .ref (q 6), .ref (q 7), .ref (q 8), .ref (q 9), .int fr, .int tm, .ref (q 10), .int oc, .int en, .int tr, .int ch, .ref (q 11), .int kc, .int re], kI (q 1) (G.2 0) 80 g1, kI (q 2) (G.2 0) 80 g2, kI (q 3) (G.2 0) 80 g3, kI (q 8) (G.2 0) 128 gl]) A) (by decide) rfl (Nat.le_of_ble_eq_true rfl) ?_
  intro A p e s m below meth c ls H locs hx hb hr hts hown hlocks hnm hml hsz hP hK hD hZ hA hS hl
  have hown : s.vm.findClass RX5 = some m.cls := hown
  have hl : lv_has ls 5 [(0, .ref (q 0)), (1, .int n)] := hl
  have in5 : ∀ w ∈ wsX50, w ∈ wsX5_canDo := by decide +kernel
  have kc0 : (0 : Int32).toInt = 0 := by decide
  have kc1 : (1 : Int32).toInt = 1 := by decide
  have kc8 : (8 : Int32).toInt = 8 := by decide
  have kc16 : (16 : Int32).toInt = 16 := by decide
  have kc64 : (64 : Int32).toInt = 64 := by decide
  have kc200 : (200 : Int32).toInt = 200 := by decide
  obtain ⟨hpz, hpp⟩ := hpg
  refine lv_iload_n hx hb dX5_canDo_0 rfl (lv_at hl 1 rfl) ?_
  refine lv_if_lt (tgt := 12) hx hb dX5_canDo_1 (by decide) (fun c1 => ?_) (fun c1 => ?_)
  · have t1 := i_lt.mp c1
    refine lv_iconst (v := 0) hx hb dX5_canDo_12 (by decide) ?_
    exact kRetZ (G := G) () hx hb hr hlocks hS dX5_canDo_13 rfl hP hD (by (try dsimp only); exact (by first | exact Or.inl ⟨rfl, by unfold kOy kIx; omega⟩ | exact Or.inr ⟨rfl, by unfold kOy kIx; omega⟩))
  · have t1 := i_nlt.mp c1
    refine lv_iload_n hx hb dX5_canDo_4 rfl (lv_at hl 1 rfl) ?_
    refine lv_aload_n hx hb dX5_canDo_5 rfl (lv_at hl 0 rfl) ?_
    refine va_get (D := G.1) (ci := 5) (v := .int ln) (C := RX5) (T := TX5) (N := 23) hx hb hts in5 hown hK hP 0 rfl rfl 7 (by decide) (hts (.fieldLink RX5 93 "TraceDebuggerModel" "lines" "I") (by decide +kernel)) (fun _ h9 => h9) rfl dX5_canDo_6 ?_
    refine lv_icmp_lt (tgt := 14) hx hb dX5_canDo_9 (by decide) (fun c2 => ?_) (fun c2 => ?_)
    · have t2 := i_lt.mp c2
      have hok := hpp n.toNatClampNeg (by rw [i_cl (by omega)]; omega)
      refine lv_bipush (v := 8) hx hb dX5_canDo_14 (by decide) ?_
      refine lv_aload_n hx hb dX5_canDo_16 rfl (lv_at hl 0 rfl) ?_
      refine va_get (D := G.1) (ci := 5) (v := .int fr) (C := RX5) (T := TX5) (N := 23) hx hb hts in5 hown hK hP 0 rfl rfl 13 (by decide) (hts (.fieldLink RX5 70 "TraceDebuggerModel" "frames" "I") (by decide +kernel)) (fun _ h9 => h9) rfl dX5_canDo_17 ?_
      refine lv_iconst (v := 1) hx hb dX5_canDo_20 (by decide) ?_
      refine lv_isub hx hb dX5_canDo_21 ?_
      have a3 : ((fr - 1) : Int32).toInt = (fr : Int32).toInt - (1 : Int32).toInt := i_sub (by omega) (by omega)
      refine lv_imul hx hb dX5_canDo_22 ?_
      have a4 : ((8 * (fr - 1)) : Int32).toInt = 8 * ((fr - 1) : Int32).toInt := i_8m (by omega) (by omega)
      refine lv_istore_n (lv' := [(2, .int (8 * (fr - 1))), (0, .ref (q 0)), (1, .int n)]) hx hb dX5_canDo_23 rfl hl (by decide) rfl (fun ls hl => ?_)
      refine lv_aload_n hx hb dX5_canDo_24 rfl (lv_at hl 1 rfl) ?_
      refine va_get (D := G.1) (ci := 5) (v := .ref (q 2)) (C := RX5) (T := TX5) (N := 23) hx hb hts in5 hown hK hP 0 rfl rfl 4 (by decide) (hts (.fieldLink RX5 13 "TraceDebuggerModel" "as" "[I") (by decide +kernel)) (fun _ h9 => h9) rfl dX5_canDo_25 ?_
      refine lv_iload_n hx hb dX5_canDo_28 rfl (lv_at hl 2 rfl) ?_
      refine va_iald (D := G.1) hx hb hK hP 2 0 rfl rfl (vp_in_iff.mpr (by omega)) dX5_canDo_29 ?_
      refine lv_istore_n (lv' := [(3, .int (g2 n.toNatClampNeg)), (2, .int (8 * (fr - 1))), (0, .ref (q 0)), (1, .int n)]) hx hb dX5_canDo_30 rfl hl (by decide) rfl (fun ls hl => ?_)
      refine lv_aload_n hx hb dX5_canDo_31 rfl (lv_at hl 2 rfl) ?_
      refine va_get (D := G.1) (ci := 5) (v := .ref (q 3)) (C := RX5) (T := TX5) (N := 23) hx hb hts in5 hown hK hP 0 rfl rfl 5 (by decide) (hts (.fieldLink RX5 16 "TraceDebuggerModel" "bs" "[I") (by decide +kernel)) (fun _ h9 => h9) rfl dX5_canDo_32 ?_
      refine lv_iload_n hx hb dX5_canDo_35 rfl (lv_at hl 3 rfl) ?_
      refine va_iald (D := G.1) hx hb hK hP 3 0 rfl rfl (vp_in_iff.mpr (by omega)) dX5_canDo_36 ?_
      refine lv_istore (lv' := [(4, .int (g3 n.toNatClampNeg)), (3, .int (g2 n.toNatClampNeg)), (2, .int (8 * (fr - 1))), (0, .ref (q 0)), (1, .int n)]) hx hb dX5_canDo_37 hl (by decide) rfl (fun ls hl => ?_)
      refine lv_aload_n hx hb dX5_canDo_39 rfl (lv_at hl 3 rfl) ?_
      refine va_get (D := G.1) (ci := 5) (v := .ref (q 1)) (C := RX5) (T := TX5) (N := 23) hx hb hts in5 hown hK hP 0 rfl rfl 3 (by decide) (hts (.fieldLink RX5 7 "TraceDebuggerModel" "operations" "[I") (by decide +kernel)) (fun _ h9 => h9) rfl dX5_canDo_40 ?_
      refine lv_iload_n hx hb dX5_canDo_43 rfl (lv_at hl 4 rfl) ?_
      refine va_iald (D := G.1) hx hb hK hP 1 0 rfl rfl (vp_in_iff.mpr (by omega)) dX5_canDo_44 ?_
      rcases (show (g1 n.toNatClampNeg).toInt = 4 ∨ (g1 n.toNatClampNeg).toInt = 5 ∨ (g1 n.toNatClampNeg).toInt = 6 ∨ (g1 n.toNatClampNeg).toInt = 7 ∨ (g1 n.toNatClampNeg).toInt = 8 ∨ (g1 n.toNatClampNeg).toInt = 9 ∨ (g1 n.toNatClampNeg).toInt = 10 ∨ (g1 n.toNatClampNeg).toInt = 11 ∨ ((g1 n.toNatClampNeg).toInt < 4 ∨ 11 < (g1 n.toNatClampNeg).toInt) by omega) with w5 | w5 | w5 | w5 | w5 | w5 | w5 | w5 | w5
      · refine lv_tableIn (off := 47) (tgt := 92) hx hb dX5_canDo_45 (by omega) (by omega) (by rw [w5]; rfl) (by decide) ?_
        refine lv_aload_n hx hb dX5_canDo_92 rfl (lv_at hl 3 rfl) ?_
        refine va_get (D := G.1) (ci := 5) (v := .ref (q 8)) (C := RX5) (T := TX5) (N := 23) hx hb hts in5 hown hK hP 0 rfl rfl 11 (by decide) (hts (.fieldLink RX5 32 "TraceDebuggerModel" "locals" "[I") (by decide +kernel)) (fun _ h9 => h9) rfl dX5_canDo_93 ?_
        refine lv_iload_n hx hb dX5_canDo_96 rfl (lv_at hl 2 rfl) ?_
        refine lv_iload hx hb dX5_canDo_97 (lv_at hl 0 rfl) ?_
        refine lv_iadd hx hb dX5_canDo_99 ?_
        have a6 : (((8 * (fr - 1)) + (g3 n.toNatClampNeg)) : Int32).toInt = ((8 * (fr - 1)) : Int32).toInt + ((g3 n.toNatClampNeg) : Int32).toInt := i_add (by omega) (by omega)
        refine va_iald (D := G.1) hx hb hK hP 4 0 rfl rfl (vp_in_iff.mpr (by omega)) dX5_canDo_100 ?_
        refine lv_if_eq (tgt := 108) hx hb dX5_canDo_101 (by decide) (fun c7 => ?_) (fun c7 => ?_)
        · have t7 := i_eq.mp c7
          refine lv_iconst (v := 0) hx hb dX5_canDo_108 (by decide) ?_
          exact kRetZ (G := G) () hx hb hr hlocks hS dX5_canDo_109 rfl hP hD (by (try dsimp only); exact (by first | exact Or.inl ⟨rfl, by unfold kOy kIx; omega⟩ | exact Or.inr ⟨rfl, by unfold kOy kIx; omega⟩))
        · have t7 := i_ne.mp c7
          refine lv_iconst (v := 1) hx hb dX5_canDo_104 (by decide) ?_
          refine lv_goto (tgt := 109) hx hb dX5_canDo_105 (by decide) ?_
          exact kRetZ (G := G) () hx hb hr hlocks hS dX5_canDo_109 rfl hP hD (by (try dsimp only); exact (by first | exact Or.inl ⟨rfl, by unfold kOy kIx; omega⟩ | exact Or.inr ⟨rfl, by unfold kOy kIx; omega⟩))
      · refine lv_tableIn (off := 65) (tgt := 110) hx hb dX5_canDo_45 (by omega) (by omega) (by rw [w5]; rfl) (by decide) ?_
        refine lv_aload_n hx hb dX5_canDo_110 rfl (lv_at hl 3 rfl) ?_
        refine va_get (D := G.1) (ci := 5) (v := .ref (q 8)) (C := RX5) (T := TX5) (N := 23) hx hb hts in5 hown hK hP 0 rfl rfl 11 (by decide) (hts (.fieldLink RX5 32 "TraceDebuggerModel" "locals" "[I") (by decide +kernel)) (fun _ h9 => h9) rfl dX5_canDo_111 ?_
        refine lv_iload_n hx hb dX5_canDo_114 rfl (lv_at hl 2 rfl) ?_
        refine lv_iload hx hb dX5_canDo_115 (lv_at hl 0 rfl) ?_
        refine lv_iadd hx hb dX5_canDo_117 ?_
        have a8 : (((8 * (fr - 1)) + (g3 n.toNatClampNeg)) : Int32).toInt = ((8 * (fr - 1)) : Int32).toInt + ((g3 n.toNatClampNeg) : Int32).toInt := i_add (by omega) (by omega)
        refine va_iald (D := G.1) hx hb hK hP 4 0 rfl rfl (vp_in_iff.mpr (by omega)) dX5_canDo_118 ?_
        refine lv_if_lt (tgt := 140) hx hb dX5_canDo_119 (by decide) (fun c9 => ?_) (fun c9 => ?_)
        · have t9 := i_lt.mp c9
          refine lv_iconst (v := 0) hx hb dX5_canDo_140 (by decide) ?_
          exact kRetZ (G := G) () hx hb hr hlocks hS dX5_canDo_141 rfl hP hD (by (try dsimp only); exact (by first | exact Or.inl ⟨rfl, by unfold kOy kIx; omega⟩ | exact Or.inr ⟨rfl, by unfold kOy kIx; omega⟩))
        · have t9 := i_nlt.mp c9
          refine lv_aload_n hx hb dX5_canDo_122 rfl (lv_at hl 3 rfl) ?_
          refine va_get (D := G.1) (ci := 5) (v := .ref (q 8)) (C := RX5) (T := TX5) (N := 23) hx hb hts in5 hown hK hP 0 rfl rfl 11 (by decide) (hts (.fieldLink RX5 32 "TraceDebuggerModel" "locals" "[I") (by decide +kernel)) (fun _ h9 => h9) rfl dX5_canDo_123 ?_
          refine lv_iload_n hx hb dX5_canDo_126 rfl (lv_at hl 2 rfl) ?_
          refine lv_iload hx hb dX5_canDo_127 (lv_at hl 0 rfl) ?_
          refine lv_iadd hx hb dX5_canDo_129 ?_
          have a10 : (((8 * (fr - 1)) + (g3 n.toNatClampNeg)) : Int32).toInt = ((8 * (fr - 1)) : Int32).toInt + ((g3 n.toNatClampNeg) : Int32).toInt := i_add (by omega) (by omega)
          refine va_iald (D := G.1) hx hb hK hP 4 0 rfl rfl (vp_in_iff.mpr (by omega)) dX5_canDo_130 ?_
          refine lv_bipush (v := 64) hx hb dX5_canDo_131 (by decide) ?_
          refine lv_icmp_ge (tgt := 140) hx hb dX5_canDo_133 (by decide) (fun c11 => ?_) (fun c11 => ?_)
          · have t11 := i_le.mp c11
            refine lv_iconst (v := 0) hx hb dX5_canDo_140 (by decide) ?_
            exact kRetZ (G := G) () hx hb hr hlocks hS dX5_canDo_141 rfl hP hD (by (try dsimp only); exact (by first | exact Or.inl ⟨rfl, by unfold kOy kIx; omega⟩ | exact Or.inr ⟨rfl, by unfold kOy kIx; omega⟩))
          · have t11 := i_nle.mp c11
            refine lv_iconst (v := 1) hx hb dX5_canDo_136 (by decide) ?_
            refine lv_goto (tgt := 141) hx hb dX5_canDo_137 (by decide) ?_
            exact kRetZ (G := G) () hx hb hr hlocks hS dX5_canDo_141 rfl hP hD (by (try dsimp only); exact (by first | exact Or.inl ⟨rfl, by unfold kOy kIx; omega⟩ | exact Or.inr ⟨rfl, by unfold kOy kIx; omega⟩))
      · refine lv_tableIn (off := 97) (tgt := 142) hx hb dX5_canDo_45 (by omega) (by omega) (by rw [w5]; rfl) (by decide) ?_
        refine lv_aload_n hx hb dX5_canDo_142 rfl (lv_at hl 3 rfl) ?_
        refine va_get (D := G.1) (ci := 5) (v := .ref (q 8)) (C := RX5) (T := TX5) (N := 23) hx hb hts in5 hown hK hP 0 rfl rfl 11 (by decide) (hts (.fieldLink RX5 32 "TraceDebuggerModel" "locals" "[I") (by decide +kernel)) (fun _ h9 => h9) rfl dX5_canDo_143 ?_
        refine lv_iload_n hx hb dX5_canDo_146 rfl (lv_at hl 2 rfl) ?_
        refine lv_iload_n hx hb dX5_canDo_147 rfl (lv_at hl 1 rfl) ?_
        refine lv_iadd hx hb dX5_canDo_148 ?_
        have a12 : (((8 * (fr - 1)) + (g2 n.toNatClampNeg)) : Int32).toInt = ((8 * (fr - 1)) : Int32).toInt + ((g2 n.toNatClampNeg) : Int32).toInt := i_add (by omega) (by omega)
        refine va_iald (D := G.1) hx hb hK hP 4 0 rfl rfl (vp_in_iff.mpr (by omega)) dX5_canDo_149 ?_
        refine lv_if_lt (tgt := 170) hx hb dX5_canDo_150 (by decide) (fun c13 => ?_) (fun c13 => ?_)
        · have t13 := i_lt.mp c13
          refine lv_iconst (v := 0) hx hb dX5_canDo_170 (by decide) ?_
          exact kRetZ (G := G) () hx hb hr hlocks hS dX5_canDo_171 rfl hP hD (by (try dsimp only); exact (by first | exact Or.inl ⟨rfl, by unfold kOy kIx; omega⟩ | exact Or.inr ⟨rfl, by unfold kOy kIx; omega⟩))
        · have t13 := i_nlt.mp c13
          refine lv_aload_n hx hb dX5_canDo_153 rfl (lv_at hl 3 rfl) ?_
          refine va_get (D := G.1) (ci := 5) (v := .ref (q 8)) (C := RX5) (T := TX5) (N := 23) hx hb hts in5 hown hK hP 0 rfl rfl 11 (by decide) (hts (.fieldLink RX5 32 "TraceDebuggerModel" "locals" "[I") (by decide +kernel)) (fun _ h9 => h9) rfl dX5_canDo_154 ?_
          refine lv_iload_n hx hb dX5_canDo_157 rfl (lv_at hl 2 rfl) ?_
          refine lv_iload_n hx hb dX5_canDo_158 rfl (lv_at hl 1 rfl) ?_
          refine lv_iadd hx hb dX5_canDo_159 ?_
          have a14 : (((8 * (fr - 1)) + (g2 n.toNatClampNeg)) : Int32).toInt = ((8 * (fr - 1)) : Int32).toInt + ((g2 n.toNatClampNeg) : Int32).toInt := i_add (by omega) (by omega)
          refine va_iald (D := G.1) hx hb hK hP 4 0 rfl rfl (vp_in_iff.mpr (by omega)) dX5_canDo_160 ?_
          refine lv_bipush (v := 64) hx hb dX5_canDo_161 (by decide) ?_
          refine lv_icmp_ge (tgt := 170) hx hb dX5_canDo_163 (by decide) (fun c15 => ?_) (fun c15 => ?_)
          · have t15 := i_le.mp c15
            refine lv_iconst (v := 0) hx hb dX5_canDo_170 (by decide) ?_
            exact kRetZ (G := G) () hx hb hr hlocks hS dX5_canDo_171 rfl hP hD (by (try dsimp only); exact (by first | exact Or.inl ⟨rfl, by unfold kOy kIx; omega⟩ | exact Or.inr ⟨rfl, by unfold kOy kIx; omega⟩))
          · have t15 := i_nle.mp c15
            refine lv_iconst (v := 1) hx hb dX5_canDo_166 (by decide) ?_
            refine lv_goto (tgt := 171) hx hb dX5_canDo_167 (by decide) ?_
            exact kRetZ (G := G) () hx hb hr hlocks hS dX5_canDo_171 rfl hP hD (by (try dsimp only); exact (by first | exact Or.inl ⟨rfl, by unfold kOy kIx; omega⟩ | exact Or.inr ⟨rfl, by unfold kOy kIx; omega⟩))
      · refine lv_tableIn (off := 158) (tgt := 203) hx hb dX5_canDo_45 (by omega) (by omega) (by rw [w5]; rfl) (by decide) ?_
        refine lv_iconst (v := 1) hx hb dX5_canDo_203 (by decide) ?_
        exact kRetZ (G := G) () hx hb hr hlocks hS dX5_canDo_204 rfl hP hD (by (try dsimp only); exact (by first | exact Or.inl ⟨rfl, by unfold kOy kIx; omega⟩ | exact Or.inr ⟨rfl, by unfold kOy kIx; omega⟩))
      · refine lv_tableIn (off := 158) (tgt := 203) hx hb dX5_canDo_45 (by omega) (by omega) (by rw [w5]; rfl) (by decide) ?_
        refine lv_iconst (v := 1) hx hb dX5_canDo_203 (by decide) ?_
        exact kRetZ (G := G) () hx hb hr hlocks hS dX5_canDo_204 rfl hP hD (by (try dsimp only); exact (by first | exact Or.inl ⟨rfl, by unfold kOy kIx; omega⟩ | exact Or.inr ⟨rfl, by unfold kOy kIx; omega⟩))
      · refine lv_tableIn (off := 127) (tgt := 172) hx hb dX5_canDo_45 (by omega) (by omega) (by rw [w5]; rfl) (by decide) ?_
        refine lv_aload_n hx hb dX5_canDo_172 rfl (lv_at hl 3 rfl) ?_
        refine va_get (D := G.1) (ci := 5) (v := .int fr) (C := RX5) (T := TX5) (N := 23) hx hb hts in5 hown hK hP 0 rfl rfl 13 (by decide) (hts (.fieldLink RX5 70 "TraceDebuggerModel" "frames" "I") (by decide +kernel)) (fun _ h9 => h9) rfl dX5_canDo_173 ?_
        refine lv_bipush (v := 16) hx hb dX5_canDo_176 (by decide) ?_
        refine lv_icmp_ge (tgt := 185) hx hb dX5_canDo_178 (by decide) (fun c16 => ?_) (fun c16 => ?_)
        · have t16 := i_le.mp c16
          refine lv_iconst (v := 0) hx hb dX5_canDo_185 (by decide) ?_
          exact kRetZ (G := G) () hx hb hr hlocks hS dX5_canDo_186 rfl hP hD (by (try dsimp only); exact (by first | exact Or.inl ⟨rfl, by unfold kOy kIx; omega⟩ | exact Or.inr ⟨rfl, by unfold kOy kIx; omega⟩))
        · have t16 := i_nle.mp c16
          refine lv_iconst (v := 1) hx hb dX5_canDo_181 (by decide) ?_
          refine lv_goto (tgt := 186) hx hb dX5_canDo_182 (by decide) ?_
          exact kRetZ (G := G) () hx hb hr hlocks hS dX5_canDo_186 rfl hP hD (by (try dsimp only); exact (by first | exact Or.inl ⟨rfl, by unfold kOy kIx; omega⟩ | exact Or.inr ⟨rfl, by unfold kOy kIx; omega⟩))
      · refine lv_tableIn (off := 158) (tgt := 203) hx hb dX5_canDo_45 (by omega) (by omega) (by rw [w5]; rfl) (by decide) ?_
        refine lv_iconst (v := 1) hx hb dX5_canDo_203 (by decide) ?_
        exact kRetZ (G := G) () hx hb hr hlocks hS dX5_canDo_204 rfl hP hD (by (try dsimp only); exact (by first | exact Or.inl ⟨rfl, by unfold kOy kIx; omega⟩ | exact Or.inr ⟨rfl, by unfold kOy kIx; omega⟩))
      · refine lv_tableIn (off := 142) (tgt := 187) hx hb dX5_canDo_45 (by omega) (by omega) (by rw [w5]; rfl) (by decide) ?_
        refine lv_aload_n hx hb dX5_canDo_187 rfl (lv_at hl 3 rfl) ?_
        refine va_get (D := G.1) (ci := 5) (v := .int oc) (C := RX5) (T := TX5) (N := 23) hx hb hts in5 hown hK hP 0 rfl rfl 16 (by decide) (hts (.fieldLink RX5 76 "TraceDebuggerModel" "outCount" "I") (by decide +kernel)) (fun _ h9 => h9) rfl dX5_canDo_188 ?_
        refine lv_sipush (v := 200) hx hb dX5_canDo_191 (by decide) ?_
        refine lv_icmp_ge (tgt := 201) hx hb dX5_canDo_194 (by decide) (fun c17 => ?_) (fun c17 => ?_)
        · have t17 := i_le.mp c17
          refine lv_iconst (v := 0) hx hb dX5_canDo_201 (by decide) ?_
          exact kRetZ (G := G) () hx hb hr hlocks hS dX5_canDo_202 rfl hP hD (by (try dsimp only); exact (by first | exact Or.inl ⟨rfl, by unfold kOy kIx; omega⟩ | exact Or.inr ⟨rfl, by unfold kOy kIx; omega⟩))
        · have t17 := i_nle.mp c17
          refine lv_iconst (v := 1) hx hb dX5_canDo_197 (by decide) ?_
          refine lv_goto (tgt := 202) hx hb dX5_canDo_198 (by decide) ?_
          exact kRetZ (G := G) () hx hb hr hlocks hS dX5_canDo_202 rfl hP hD (by (try dsimp only); exact (by first | exact Or.inl ⟨rfl, by unfold kOy kIx; omega⟩ | exact Or.inr ⟨rfl, by unfold kOy kIx; omega⟩))
      · refine lv_tableOut (tgt := 203) hx hb dX5_canDo_45 w5 (by decide) ?_
        refine lv_iconst (v := 1) hx hb dX5_canDo_203 (by decide) ?_
        exact kRetZ (G := G) () hx hb hr hlocks hS dX5_canDo_204 rfl hP hD (by (try dsimp only); exact (by first | exact Or.inl ⟨rfl, by unfold kOy kIx; omega⟩ | exact Or.inr ⟨rfl, by unfold kOy kIx; omega⟩))
    · have t2 := i_nlt.mp c2
      refine lv_iconst (v := 0) hx hb dX5_canDo_12 (by decide) ?_
      exact kRetZ (G := G) () hx hb hr hlocks hS dX5_canDo_13 rfl hP hD (by (try dsimp only); exact (by first | exact Or.inl ⟨rfl, by unfold kOy kIx; omega⟩ | exact Or.inr ⟨rfl, by unfold kOy kIx; omega⟩))
