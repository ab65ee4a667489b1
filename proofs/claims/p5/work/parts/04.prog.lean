set_option maxHeartbeats 4000000 in
set_option maxRecDepth 100000 in
theorem c_X3_hasFrame (l : Launch) (G : gG) (sz : Nat) (a : Nat) (ca : Nat) (la : Nat) (na : Nat) (fr : Int32) (pr : Int32) (tm : Int32) (f : Int32)  : Met l yX3_hasFrame wsX3_hasFrame { frames := 0, cells := 0, slots := 0, locals := 0 } (kPc G [.ref a, .int f] [kO a 3 [.ref ca, .ref la, .ref na, .int fr, .int pr, .int tm, .int 0]] sz (fun _ => True)) (kQi G (S := Unit) (fun r _ => (r = 1 ∧ (0 ≤ f.toInt ∧ f.toInt < fr.toInt)) ∨ (r = 0 ∧ ¬ (0 ≤ f.toInt ∧ f.toInt < fr.toInt))) (fun _ => [kO a 3 [.ref ca, .ref la, .ref na, .int fr, .int pr, .int tm, .int 0]]) (va_A [kO a 3 [.ref ca, .ref la, .ref na, .int fr, .int pr, .int tm, .int 0]] sz)) 0 0 (va_A [kO a 3 [.ref ca, .ref la, .ref na, .int fr, .int pr, .int tm, .int 0]] sz) := by
  refine kBeg (Qc := fun A => kQi G (S := Unit) (fun r _ => (r = 1 ∧ (0 ≤ f.toInt ∧ f.toInt < fr.toInt)) ∨ (r = 0 ∧ ¬ (0 ≤ f.toInt ∧ f.toInt < fr.toInt))) (fun _ => [kO a 3 [.ref ca, .ref la, .ref na, .int fr, .int pr, .int tm, .int 0]]) A) (by decide) rfl (Nat.le_of_ble_eq_true rfl) ?_
  intro A p e s m below meth c ls H locs hx hb hr hts hown hlocks hnm hml hsz hP hK hD hZ hA hS hl
  have hown : s.vm.findClass RX3 = some m.cls := hown
  have hl : lv_has ls 2 [(0, .ref a), (1, .int f)] := hl
  have in3 : ∀ w ∈ wsX30, w ∈ wsX3_hasFrame := by decide +kernel
  have kc0 : (0 : Int32).toInt = 0 := by decide
  have kc1 : (1 : Int32).toInt = 1 := by decide
  refine lv_iload_n hx hb dX3_hasFrame_0 rfl (lv_at hl 1 rfl) ?_
  refine lv_if_lt (tgt := 16) hx hb dX3_hasFrame_1 (by decide) (fun c1 => ?_) (fun c1 => ?_)
  · have t1 := i_lt.mp c1
    refine lv_iconst (v := 0) hx hb dX3_hasFrame_16 (by decide) ?_
    exact kRetZ (G := G) () hx hb hr hlocks hS dX3_hasFrame_17 rfl hP hD (by (try dsimp only); exact (by first | exact Or.inl ⟨rfl, by omega⟩ | exact Or.inr ⟨rfl, by omega⟩))
  · have t1 := i_nlt.mp c1
    refine lv_iload_n hx hb dX3_hasFrame_4 rfl (lv_at hl 1 rfl) ?_
    refine lv_aload_n hx hb dX3_hasFrame_5 rfl (lv_at hl 0 rfl) ?_
    refine va_get (D := G.1) (ci := 3) (v := .int fr) (C := RX3) (T := TX3) (N := 7) hx hb hts in3 hown hK hP 0 rfl rfl 3 (by decide) (hts (.fieldLink RX3 21 "TraceDebugger$State" "frames" "I") (by decide +kernel)) (fun _ h9 => h9) rfl dX3_hasFrame_6 ?_
    refine lv_icmp_ge (tgt := 16) hx hb dX3_hasFrame_9 (by decide) (fun c2 => ?_) (fun c2 => ?_)
    · have t2 := i_le.mp c2
      refine lv_iconst (v := 0) hx hb dX3_hasFrame_16 (by decide) ?_
      exact kRetZ (G := G) () hx hb hr hlocks hS dX3_hasFrame_17 rfl hP hD (by (try dsimp only); exact (by first | exact Or.inl ⟨rfl, by omega⟩ | exact Or.inr ⟨rfl, by omega⟩))
    · have t2 := i_nle.mp c2
      refine lv_iconst (v := 1) hx hb dX3_hasFrame_12 (by decide) ?_
      refine lv_goto (tgt := 17) hx hb dX3_hasFrame_13 (by decide) ?_
      exact kRetZ (G := G) () hx hb hr hlocks hS dX3_hasFrame_17 rfl hP hD (by (try dsimp only); exact (by first | exact Or.inl ⟨rfl, by omega⟩ | exact Or.inr ⟨rfl, by omega⟩))

set_option maxHeartbeats 4000000 in
set_option maxRecDepth 100000 in
theorem c_X2_has (l : Launch) (G : gG) (sz : Nat) (a : Nat) (o : Nat) (x : Nat) (y : Nat) (mk : Nat) (size : Int32) (f : Int32)  : Met l yX2_has wsX2_has { frames := 0, cells := 0, slots := 0, locals := 0 } (kPc G [.ref a, .int f] [kO a 2 [.ref o, .ref x, .ref y, .ref mk, .int size]] sz (fun _ => True)) (kQi G (S := Unit) (fun r _ => (r = 1 ∧ (0 ≤ (f : Int32).toInt ∧ (f : Int32).toInt < (size : Int32).toInt)) ∨ (r = 0 ∧ ¬ (0 ≤ (f : Int32).toInt ∧ (f : Int32).toInt < (size : Int32).toInt))) (fun _ => [kO a 2 [.ref o, .ref x, .ref y, .ref mk, .int size]]) (va_A [kO a 2 [.ref o, .ref x, .ref y, .ref mk, .int size]] sz)) 0 0 (va_A [kO a 2 [.ref o, .ref x, .ref y, .ref mk, .int size]] sz) := by
  refine kBeg (Qc := fun A => kQi G (S := Unit) (fun r _ => (r = 1 ∧ (0 ≤ (f : Int32).toInt ∧ (f : Int32).toInt < (size : Int32).toInt)) ∨ (r = 0 ∧ ¬ (0 ≤ (f : Int32).toInt ∧ (f : Int32).toInt < (size : Int32).toInt))) (fun _ => [kO a 2 [.ref o, .ref x, .ref y, .ref mk, .int size]]) A) (by decide) rfl (Nat.le_of_ble_eq_true rfl) ?_
  intro A p e s m below meth c ls H locs hx hb hr hts hown hlocks hnm hml hsz hP hK hD hZ hA hS hl
  have hown : s.vm.findClass RX2 = some m.cls := hown
  have hl : lv_has ls 2 [(0, .ref a), (1, .int f)] := hl
  have in2 : ∀ w ∈ wsX20, w ∈ wsX2_has := by decide +kernel
  have kc0 : (0 : Int32).toInt = 0 := by decide
  have kc1 : (1 : Int32).toInt = 1 := by decide
  refine lv_iload_n hx hb dX2_has_0 rfl (lv_at hl 1 rfl) ?_
  refine lv_if_lt (tgt := 16) hx hb dX2_has_1 (by decide) (fun c1 => ?_) (fun c1 => ?_)
  · have t1 := i_lt.mp c1
    refine lv_iconst (v := 0) hx hb dX2_has_16 (by decide) ?_
    exact kRetZ (G := G) () hx hb hr hlocks hS dX2_has_17 rfl hP hD (by (try dsimp only); exact (by first | exact Or.inl ⟨rfl, by omega⟩ | exact Or.inr ⟨rfl, by omega⟩))
  · have t1 := i_nlt.mp c1
    refine lv_iload_n hx hb dX2_has_4 rfl (lv_at hl 1 rfl) ?_
    refine lv_aload_n hx hb dX2_has_5 rfl (lv_at hl 0 rfl) ?_
    refine va_get (D := G.1) (ci := 2) (v := .int size) (C := RX2) (T := TX2) (N := 5) hx hb hts in2 hown hK hP 0 rfl rfl 4 (by decide) (hts (.fieldLink RX2 32 "TraceDebugger$Program" "size" "I") (by decide +kernel)) (fun _ h9 => h9) rfl dX2_has_6 ?_
    refine lv_icmp_ge (tgt := 16) hx hb dX2_has_9 (by decide) (fun c2 => ?_) (fun c2 => ?_)
    · have t2 := i_le.mp c2
      refine lv_iconst (v := 0) hx hb dX2_has_16 (by decide) ?_
      exact kRetZ (G := G) () hx hb hr hlocks hS dX2_has_17 rfl hP hD (by (try dsimp only); exact (by first | exact Or.inl ⟨rfl, by omega⟩ | exact Or.inr ⟨rfl, by omega⟩))
    · have t2 := i_nle.mp c2
      refine lv_iconst (v := 1) hx hb dX2_has_12 (by decide) ?_
      refine lv_goto (tgt := 17) hx hb dX2_has_13 (by decide) ?_
      exact kRetZ (G := G) () hx hb hr hlocks hS dX2_has_17 rfl hP hD (by (try dsimp only); exact (by first | exact Or.inl ⟨rfl, by omega⟩ | exact Or.inr ⟨rfl, by omega⟩))

set_option maxHeartbeats 4000000 in
set_option maxRecDepth 100000 in
theorem c_X2_allows (l : Launch) (G : gG) (sz : Nat) (o : Int32) (x : Int32) (y : Int32)  : Met l yX2_allows wsX2_allows { frames := 1, cells := 0, slots := 0, locals := 20 } (kPc G [.int o, .int x, .int y] [] sz (va_Nw (.methodLinkNest RX2 29 yX4_isLocal "TraceDebugger"))) (kQi G (S := Unit) (fun r _ => (r = 1 ∧ ((0 ≤ o.toInt ∧ o.toInt ≤ 12) ∧ ((o.toInt ≤ 6 ∨ o.toInt = 8 ∨ o.toInt = 10 ∨ o.toInt = 11) → (0 ≤ x.toInt ∧ x.toInt < 8)) ∧ ((1 ≤ o.toInt ∧ o.toInt ≤ 6) → (0 ≤ y.toInt ∧ y.toInt < 8)) ∧ (o.toInt = 9 → (0 ≤ y.toInt ∧ y.toInt ≤ 8)))) ∨ (r = 0 ∧ ¬ ((0 ≤ o.toInt ∧ o.toInt ≤ 12) ∧ ((o.toInt ≤ 6 ∨ o.toInt = 8 ∨ o.toInt = 10 ∨ o.toInt = 11) → (0 ≤ x.toInt ∧ x.toInt < 8)) ∧ ((1 ≤ o.toInt ∧ o.toInt ≤ 6) → (0 ≤ y.toInt ∧ y.toInt < 8)) ∧ (o.toInt = 9 → (0 ≤ y.toInt ∧ y.toInt ≤ 8))))) (fun _ => []) (va_A [] sz)) 0 0 (va_A [] sz) := by
  refine kBeg (Qc := fun A => kQi G (S := Unit) (fun r _ => (r = 1 ∧ ((0 ≤ o.toInt ∧ o.toInt ≤ 12) ∧ ((o.toInt ≤ 6 ∨ o.toInt = 8 ∨ o.toInt = 10 ∨ o.toInt = 11) → (0 ≤ x.toInt ∧ x.toInt < 8)) ∧ ((1 ≤ o.toInt ∧ o.toInt ≤ 6) → (0 ≤ y.toInt ∧ y.toInt < 8)) ∧ (o.toInt = 9 → (0 ≤ y.toInt ∧ y.toInt ≤ 8)))) ∨ (r = 0 ∧ ¬ ((0 ≤ o.toInt ∧ o.toInt ≤ 12) ∧ ((o.toInt ≤ 6 ∨ o.toInt = 8 ∨ o.toInt = 10 ∨ o.toInt = 11) → (0 ≤ x.toInt ∧ x.toInt < 8)) ∧ ((1 ≤ o.toInt ∧ o.toInt ≤ 6) → (0 ≤ y.toInt ∧ y.toInt < 8)) ∧ (o.toInt = 9 → (0 ≤ y.toInt ∧ y.toInt ≤ 8))))) (fun _ => []) A) (by decide) rfl (Nat.le_of_ble_eq_true rfl) ?_
  intro A p e s m below meth c ls H locs hx hb hr hts hown hlocks hnm hml hsz hP hK hD hZ hA hS hl
  have hown : s.vm.findClass RX2 = some m.cls := hown
  have hl : lv_has ls 3 [(0, .int o), (1, .int x), (2, .int y)] := hl
  have kc0 : (0 : Int32).toInt = 0 := by decide
  have kc1 : (1 : Int32).toInt = 1 := by decide
  have kc6 : (6 : Int32).toInt = 6 := by decide
  have kc8 : (8 : Int32).toInt = 8 := by decide
  have kc9 : (9 : Int32).toInt = 9 := by decide
  have kc12 : (12 : Int32).toInt = 12 := by decide
  refine lv_iload_n hx hb dX2_allows_0 rfl (lv_at hl 0 rfl) ?_
  refine lv_if_lt (tgt := 10) hx hb dX2_allows_1 (by decide) (fun c1 => ?_) (fun c1 => ?_)
  · have t1 := i_lt.mp c1
    refine lv_iconst (v := 0) hx hb dX2_allows_10 (by decide) ?_
    exact kRetZ (G := G) () hx hb hr hlocks hS dX2_allows_11 rfl hP hD (by (try dsimp only); exact (by first | exact Or.inl ⟨rfl, by omega⟩ | exact Or.inr ⟨rfl, by omega⟩))
  · have t1 := i_nlt.mp c1
    refine lv_iload_n hx hb dX2_allows_4 rfl (lv_at hl 0 rfl) ?_
    refine lv_bipush (v := 12) hx hb dX2_allows_5 (by decide) ?_
    refine lv_icmp_le (tgt := 12) hx hb dX2_allows_7 (by decide) (fun c2 => ?_) (fun c2 => ?_)
    · have t2 := i_le.mp c2
      refine lv_iload_n hx hb dX2_allows_12 rfl (lv_at hl 0 rfl) ?_
      refine kCi (G := G) (ws := []) (wr := []) (va_runS (As := [.int o]) (rest := []) ⟨hx, hb, hml, hown, hts⟩ (c_X2_takesLocalA l G H.size o ) (va_cwS 1 hts gX2_allows_X2_takesLocalA rfl rfl rfl (by decide +kernel) ⟨Nat.le_of_ble_eq_true rfl, Nat.le_of_ble_eq_true rfl⟩) (kPreS kZ0 kZt hK hP hD [] rfl (by decide +kernel)) rfl rfl hl.1 rfl (lv_room (Nat.le_of_ble_eq_true rfl)) dX2_allows_13 ⟨Nat.le_of_ble_eq_true rfl, Nat.le_of_ble_eq_true rfl⟩) hP hD hS hA [] [] rfl rfl (by decide +kernel) (by decide +kernel) (fun r4 u3 H locs hw5 hP hD hS => ?_)
      try dsimp only at hw5
      have hP : va_P G.1 vwCl [] H := hP
      have hD : va_D A [] := hD
      rcases hw5 with ⟨rfl, hq6⟩ | ⟨rfl, hq6⟩
      · have _u := hsz
        refine lv_if_eq (tgt := 28) hx hb dX2_allows_16 (by decide) (fun c9 => absurd c9 (by decide)) (fun _ => ?_)
        refine lv_iload_n hx hb dX2_allows_19 rfl (lv_at hl 1 rfl) ?_
        refine kCi (G := G) (ws := []) (wr := []) (va_runSN (As := [.int x]) (rest := []) ⟨hx, hb, hml, hown, hts⟩ (c_X4_isLocal l G H.size x ) ⟨va_cnB 1 hts gX2_allows_X4_isLocal_n29 rfl rfl rfl hZ (hts (.initialized RX4) (by decide +kernel)) (by decide +kernel) ⟨Nat.le_of_ble_eq_true rfl, Nat.le_of_ble_eq_true rfl⟩, hts (.static yX4_isLocal) (by decide +kernel), trivial⟩ (kPreS kZ0 kZt hK hP hD [] rfl (by decide +kernel)) rfl rfl hl.1 rfl (lv_room (Nat.le_of_ble_eq_true rfl)) dX2_allows_20 ⟨Nat.le_of_ble_eq_true rfl, Nat.le_of_ble_eq_true rfl⟩) hP hD hS hA [] [] rfl rfl (by decide +kernel) (by decide +kernel) (fun r8 u7 H locs hw9 hP hD hS => ?_)
        try dsimp only at hw9
        have hP : va_P G.1 vwCl [] H := hP
        have hD : va_D A [] := hD
        rcases hw9 with ⟨rfl, hq10⟩ | ⟨rfl, hq10⟩
        · have _u := hsz
          refine lv_if_ne (tgt := 28) hx hb dX2_allows_23 (by decide) (fun _ => ?_) (fun c9 => absurd c9 (by decide))
          refine lv_iload_n hx hb dX2_allows_28 rfl (lv_at hl 0 rfl) ?_
          refine lv_iconst (v := 1) hx hb dX2_allows_29 (by decide) ?_
          refine lv_icmp_lt (tgt := 48) hx hb dX2_allows_30 (by decide) (fun c11 => ?_) (fun c11 => ?_)
          · have t11 := i_lt.mp c11
            refine lv_iload_n hx hb dX2_allows_48 rfl (lv_at hl 0 rfl) ?_
            refine lv_bipush (v := 9) hx hb dX2_allows_49 (by decide) ?_
            refine lv_icmp_ne (tgt := 64) hx hb dX2_allows_51 (by decide) (fun c12 => ?_) (fun c12 => ?_)
            · have t12 := i_ne.mp c12
              refine lv_iconst (v := 1) hx hb dX2_allows_64 (by decide) ?_
              refine lv_goto (tgt := 69) hx hb dX2_allows_65 (by decide) ?_
              exact kRetZ (G := G) () hx hb hr hlocks hS dX2_allows_69 rfl hP hD (by (try dsimp only); exact (by first | exact Or.inl ⟨rfl, by omega⟩ | exact Or.inr ⟨rfl, by omega⟩))
            · have t12 := i_eq.mp c12
              refine lv_iload_n hx hb dX2_allows_54 rfl (lv_at hl 2 rfl) ?_
              refine lv_if_lt (tgt := 68) hx hb dX2_allows_55 (by decide) (fun c13 => ?_) (fun c13 => ?_)
              · have t13 := i_lt.mp c13
                refine lv_iconst (v := 0) hx hb dX2_allows_68 (by decide) ?_
                exact kRetZ (G := G) () hx hb hr hlocks hS dX2_allows_69 rfl hP hD (by (try dsimp only); exact (by first | exact Or.inl ⟨rfl, by omega⟩ | exact Or.inr ⟨rfl, by omega⟩))
              · have t13 := i_nlt.mp c13
                refine lv_iload_n hx hb dX2_allows_58 rfl (lv_at hl 2 rfl) ?_
                refine lv_bipush (v := 8) hx hb dX2_allows_59 (by decide) ?_
                refine lv_icmp_gt (tgt := 68) hx hb dX2_allows_61 (by decide) (fun c14 => ?_) (fun c14 => ?_)
                · have t14 := i_lt.mp c14
                  refine lv_iconst (v := 0) hx hb dX2_allows_68 (by decide) ?_
                  exact kRetZ (G := G) () hx hb hr hlocks hS dX2_allows_69 rfl hP hD (by (try dsimp only); exact (by first | exact Or.inl ⟨rfl, by omega⟩ | exact Or.inr ⟨rfl, by omega⟩))
                · have t14 := i_nlt.mp c14
                  refine lv_iconst (v := 1) hx hb dX2_allows_64 (by decide) ?_
                  refine lv_goto (tgt := 69) hx hb dX2_allows_65 (by decide) ?_
                  exact kRetZ (G := G) () hx hb hr hlocks hS dX2_allows_69 rfl hP hD (by (try dsimp only); exact (by first | exact Or.inl ⟨rfl, by omega⟩ | exact Or.inr ⟨rfl, by omega⟩))
          · have t11 := i_nlt.mp c11
            refine lv_iload_n hx hb dX2_allows_33 rfl (lv_at hl 0 rfl) ?_
            refine lv_bipush (v := 6) hx hb dX2_allows_34 (by decide) ?_
            refine lv_icmp_gt (tgt := 48) hx hb dX2_allows_36 (by decide) (fun c15 => ?_) (fun c15 => ?_)
            · have t15 := i_lt.mp c15
              refine lv_iload_n hx hb dX2_allows_48 rfl (lv_at hl 0 rfl) ?_
              refine lv_bipush (v := 9) hx hb dX2_allows_49 (by decide) ?_
              refine lv_icmp_ne (tgt := 64) hx hb dX2_allows_51 (by decide) (fun c16 => ?_) (fun c16 => ?_)
              · have t16 := i_ne.mp c16
                refine lv_iconst (v := 1) hx hb dX2_allows_64 (by decide) ?_
                refine lv_goto (tgt := 69) hx hb dX2_allows_65 (by decide) ?_
                exact kRetZ (G := G) () hx hb hr hlocks hS dX2_allows_69 rfl hP hD (by (try dsimp only); exact (by first | exact Or.inl ⟨rfl, by omega⟩ | exact Or.inr ⟨rfl, by omega⟩))
              · have t16 := i_eq.mp c16
                refine lv_iload_n hx hb dX2_allows_54 rfl (lv_at hl 2 rfl) ?_
                refine lv_if_lt (tgt := 68) hx hb dX2_allows_55 (by decide) (fun c17 => ?_) (fun c17 => ?_)
                · have t17 := i_lt.mp c17
                  refine lv_iconst (v := 0) hx hb dX2_allows_68 (by decide) ?_
                  exact kRetZ (G := G) () hx hb hr hlocks hS dX2_allows_69 rfl hP hD (by (try dsimp only); exact (by first | exact Or.inl ⟨rfl, by omega⟩ | exact Or.inr ⟨rfl, by omega⟩))
                · have t17 := i_nlt.mp c17
                  refine lv_iload_n hx hb dX2_allows_58 rfl (lv_at hl 2 rfl) ?_
                  refine lv_bipush (v := 8) hx hb dX2_allows_59 (by decide) ?_
                  refine lv_icmp_gt (tgt := 68) hx hb dX2_allows_61 (by decide) (fun c18 => ?_) (fun c18 => ?_)
                  · have t18 := i_lt.mp c18
                    refine lv_iconst (v := 0) hx hb dX2_allows_68 (by decide) ?_
                    exact kRetZ (G := G) () hx hb hr hlocks hS dX2_allows_69 rfl hP hD (by (try dsimp only); exact (by first | exact Or.inl ⟨rfl, by omega⟩ | exact Or.inr ⟨rfl, by omega⟩))
                  · have t18 := i_nlt.mp c18
                    refine lv_iconst (v := 1) hx hb dX2_allows_64 (by decide) ?_
                    refine lv_goto (tgt := 69) hx hb dX2_allows_65 (by decide) ?_
                    exact kRetZ (G := G) () hx hb hr hlocks hS dX2_allows_69 rfl hP hD (by (try dsimp only); exact (by first | exact Or.inl ⟨rfl, by omega⟩ | exact Or.inr ⟨rfl, by omega⟩))
            · have t15 := i_nlt.mp c15
              refine lv_iload_n hx hb dX2_allows_39 rfl (lv_at hl 2 rfl) ?_
              refine kCi (G := G) (ws := []) (wr := []) (va_runSN (As := [.int y]) (rest := []) ⟨hx, hb, hml, hown, hts⟩ (c_X4_isLocal l G H.size y ) ⟨va_cnB 1 hts gX2_allows_X4_isLocal_n29 rfl rfl rfl hZ (hts (.initialized RX4) (by decide +kernel)) (by decide +kernel) ⟨Nat.le_of_ble_eq_true rfl, Nat.le_of_ble_eq_true rfl⟩, hts (.static yX4_isLocal) (by decide +kernel), trivial⟩ (kPreS kZ0 kZt hK hP hD [] rfl (by decide +kernel)) rfl rfl hl.1 rfl (lv_room (Nat.le_of_ble_eq_true rfl)) dX2_allows_40 ⟨Nat.le_of_ble_eq_true rfl, Nat.le_of_ble_eq_true rfl⟩) hP hD hS hA [] [] rfl rfl (by decide +kernel) (by decide +kernel) (fun r20 u19 H locs hw21 hP hD hS => ?_)
              try dsimp only at hw21
              have hP : va_P G.1 vwCl [] H := hP
              have hD : va_D A [] := hD
              rcases hw21 with ⟨rfl, hq22⟩ | ⟨rfl, hq22⟩
              · have _u := hsz
                refine lv_if_ne (tgt := 48) hx hb dX2_allows_43 (by decide) (fun _ => ?_) (fun c9 => absurd c9 (by decide))
                refine lv_iload_n hx hb dX2_allows_48 rfl (lv_at hl 0 rfl) ?_
                refine lv_bipush (v := 9) hx hb dX2_allows_49 (by decide) ?_
                refine lv_icmp_ne (tgt := 64) hx hb dX2_allows_51 (by decide) (fun c23 => ?_) (fun c23 => ?_)
                · have t23 := i_ne.mp c23
                  refine lv_iconst (v := 1) hx hb dX2_allows_64 (by decide) ?_
                  refine lv_goto (tgt := 69) hx hb dX2_allows_65 (by decide) ?_
                  exact kRetZ (G := G) () hx hb hr hlocks hS dX2_allows_69 rfl hP hD (by (try dsimp only); exact (by first | exact Or.inl ⟨rfl, by omega⟩ | exact Or.inr ⟨rfl, by omega⟩))
                · have t23 := i_eq.mp c23
                  refine lv_iload_n hx hb dX2_allows_54 rfl (lv_at hl 2 rfl) ?_
                  refine lv_if_lt (tgt := 68) hx hb dX2_allows_55 (by decide) (fun c24 => ?_) (fun c24 => ?_)
                  · have t24 := i_lt.mp c24
                    refine lv_iconst (v := 0) hx hb dX2_allows_68 (by decide) ?_
                    exact kRetZ (G := G) () hx hb hr hlocks hS dX2_allows_69 rfl hP hD (by (try dsimp only); exact (by first | exact Or.inl ⟨rfl, by omega⟩ | exact Or.inr ⟨rfl, by omega⟩))
                  · have t24 := i_nlt.mp c24
                    refine lv_iload_n hx hb dX2_allows_58 rfl (lv_at hl 2 rfl) ?_
                    refine lv_bipush (v := 8) hx hb dX2_allows_59 (by decide) ?_
                    refine lv_icmp_gt (tgt := 68) hx hb dX2_allows_61 (by decide) (fun c25 => ?_) (fun c25 => ?_)
                    · have t25 := i_lt.mp c25
                      refine lv_iconst (v := 0) hx hb dX2_allows_68 (by decide) ?_
                      exact kRetZ (G := G) () hx hb hr hlocks hS dX2_allows_69 rfl hP hD (by (try dsimp only); exact (by first | exact Or.inl ⟨rfl, by omega⟩ | exact Or.inr ⟨rfl, by omega⟩))
                    · have t25 := i_nlt.mp c25
                      refine lv_iconst (v := 1) hx hb dX2_allows_64 (by decide) ?_
                      refine lv_goto (tgt := 69) hx hb dX2_allows_65 (by decide) ?_
                      exact kRetZ (G := G) () hx hb hr hlocks hS dX2_allows_69 rfl hP hD (by (try dsimp only); exact (by first | exact Or.inl ⟨rfl, by omega⟩ | exact Or.inr ⟨rfl, by omega⟩))
              · have _u := hsz
                refine lv_if_ne (tgt := 48) hx hb dX2_allows_43 (by decide) (fun c9 => absurd c9 (by decide)) (fun _ => ?_)
                refine lv_iconst (v := 0) hx hb dX2_allows_46 (by decide) ?_
                exact kRetZ (G := G) () hx hb hr hlocks hS dX2_allows_47 rfl hP hD (by (try dsimp only); exact (by first | exact Or.inl ⟨rfl, by omega⟩ | exact Or.inr ⟨rfl, by omega⟩))
        · have _u := hsz
          refine lv_if_ne (tgt := 28) hx hb dX2_allows_23 (by decide) (fun c9 => absurd c9 (by decide)) (fun _ => ?_)
          refine lv_iconst (v := 0) hx hb dX2_allows_26 (by decide) ?_
          exact kRetZ (G := G) () hx hb hr hlocks hS dX2_allows_27 rfl hP hD (by (try dsimp only); exact (by first | exact Or.inl ⟨rfl, by omega⟩ | exact Or.inr ⟨rfl, by omega⟩))
      · have _u := hsz
        refine lv_if_eq (tgt := 28) hx hb dX2_allows_16 (by decide) (fun _ => ?_) (fun c9 => absurd c9 (by decide))
        refine lv_iload_n hx hb dX2_allows_28 rfl (lv_at hl 0 rfl) ?_
        refine lv_iconst (v := 1) hx hb dX2_allows_29 (by decide) ?_
        refine lv_icmp_lt (tgt := 48) hx hb dX2_allows_30 (by decide) (fun c26 => ?_) (fun c26 => ?_)
        · have t26 := i_lt.mp c26
          refine lv_iload_n hx hb dX2_allows_48 rfl (lv_at hl 0 rfl) ?_
          refine lv_bipush (v := 9) hx hb dX2_allows_49 (by decide) ?_
          refine lv_icmp_ne (tgt := 64) hx hb dX2_allows_51 (by decide) (fun c27 => ?_) (fun c27 => ?_)
          · have t27 := i_ne.mp c27
            refine lv_iconst (v := 1) hx hb dX2_allows_64 (by decide) ?_
            refine lv_goto (tgt := 69) hx hb dX2_allows_65 (by decide) ?_
            exact kRetZ (G := G) () hx hb hr hlocks hS dX2_allows_69 rfl hP hD (by (try dsimp only); exact (by first | exact Or.inl ⟨rfl, by omega⟩ | exact Or.inr ⟨rfl, by omega⟩))
          · have t27 := i_eq.mp c27
            refine lv_iload_n hx hb dX2_allows_54 rfl (lv_at hl 2 rfl) ?_
            refine lv_if_lt (tgt := 68) hx hb dX2_allows_55 (by decide) (fun c28 => ?_) (fun c28 => ?_)
            · have t28 := i_lt.mp c28
              refine lv_iconst (v := 0) hx hb dX2_allows_68 (by decide) ?_
              exact kRetZ (G := G) () hx hb hr hlocks hS dX2_allows_69 rfl hP hD (by (try dsimp only); exact (by first | exact Or.inl ⟨rfl, by omega⟩ | exact Or.inr ⟨rfl, by omega⟩))
            · have t28 := i_nlt.mp c28
              refine lv_iload_n hx hb dX2_allows_58 rfl (lv_at hl 2 rfl) ?_
              refine lv_bipush (v := 8) hx hb dX2_allows_59 (by decide) ?_
              refine lv_icmp_gt (tgt := 68) hx hb dX2_allows_61 (by decide) (fun c29 => ?_) (fun c29 => ?_)
              · have t29 := i_lt.mp c29
                refine lv_iconst (v := 0) hx hb dX2_allows_68 (by decide) ?_
                exact kRetZ (G := G) () hx hb hr hlocks hS dX2_allows_69 rfl hP hD (by (try dsimp only); exact (by first | exact Or.inl ⟨rfl, by omega⟩ | exact Or.inr ⟨rfl, by omega⟩))
              · have t29 := i_nlt.mp c29
                refine lv_iconst (v := 1) hx hb dX2_allows_64 (by decide) ?_
                refine lv_goto (tgt := 69) hx hb dX2_allows_65 (by decide) ?_
                exact kRetZ (G := G) () hx hb hr hlocks hS dX2_allows_69 rfl hP hD (by (try dsimp only); exact (by first | exact Or.inl ⟨rfl, by omega⟩ | exact Or.inr ⟨rfl, by omega⟩))
        · have t26 := i_nlt.mp c26
          refine lv_iload_n hx hb dX2_allows_33 rfl (lv_at hl 0 rfl) ?_
          refine lv_bipush (v := 6) hx hb dX2_allows_34 (by decide) ?_
          refine lv_icmp_gt (tgt := 48) hx hb dX2_allows_36 (by decide) (fun c30 => ?_) (fun c30 => ?_)
          · have t30 := i_lt.mp c30
            refine lv_iload_n hx hb dX2_allows_48 rfl (lv_at hl 0 rfl) ?_
            refine lv_bipush (v := 9) hx hb dX2_allows_49 (by decide) ?_
            refine lv_icmp_ne (tgt := 64) hx hb dX2_allows_51 (by decide) (fun c31 => ?_) (fun c31 => ?_)
            · have t31 := i_ne.mp c31
              refine lv_iconst (v := 1) hx hb dX2_allows_64 (by decide) ?_
              refine lv_goto (tgt := 69) hx hb dX2_allows_65 (by decide) ?_
              exact kRetZ (G := G) () hx hb hr hlocks hS dX2_allows_69 rfl hP hD (by (try dsimp only); exact (by first | exact Or.inl ⟨rfl, by omega⟩ | exact Or.inr ⟨rfl, by omega⟩))
            · have t31 := i_eq.mp c31
              refine lv_iload_n hx hb dX2_allows_54 rfl (lv_at hl 2 rfl) ?_
              refine lv_if_lt (tgt := 68) hx hb dX2_allows_55 (by decide) (fun c32 => ?_) (fun c32 => ?_)
              · have t32 := i_lt.mp c32
                refine lv_iconst (v := 0) hx hb dX2_allows_68 (by decide) ?_
                exact kRetZ (G := G) () hx hb hr hlocks hS dX2_allows_69 rfl hP hD (by (try dsimp only); exact (by first | exact Or.inl ⟨rfl, by omega⟩ | exact Or.inr ⟨rfl, by omega⟩))
              · have t32 := i_nlt.mp c32
                refine lv_iload_n hx hb dX2_allows_58 rfl (lv_at hl 2 rfl) ?_
                refine lv_bipush (v := 8) hx hb dX2_allows_59 (by decide) ?_
                refine lv_icmp_gt (tgt := 68) hx hb dX2_allows_61 (by decide) (fun c33 => ?_) (fun c33 => ?_)
                · have t33 := i_lt.mp c33
                  refine lv_iconst (v := 0) hx hb dX2_allows_68 (by decide) ?_
                  exact kRetZ (G := G) () hx hb hr hlocks hS dX2_allows_69 rfl hP hD (by (try dsimp only); exact (by first | exact Or.inl ⟨rfl, by omega⟩ | exact Or.inr ⟨rfl, by omega⟩))
                · have t33 := i_nlt.mp c33
                  refine lv_iconst (v := 1) hx hb dX2_allows_64 (by decide) ?_
                  refine lv_goto (tgt := 69) hx hb dX2_allows_65 (by decide) ?_
                  exact kRetZ (G := G) () hx hb hr hlocks hS dX2_allows_69 rfl hP hD (by (try dsimp only); exact (by first | exact Or.inl ⟨rfl, by omega⟩ | exact Or.inr ⟨rfl, by omega⟩))
          · have t30 := i_nlt.mp c30
            refine lv_iload_n hx hb dX2_allows_39 rfl (lv_at hl 2 rfl) ?_
            refine kCi (G := G) (ws := []) (wr := []) (va_runSN (As := [.int y]) (rest := []) ⟨hx, hb, hml, hown, hts⟩ (c_X4_isLocal l G H.size y ) ⟨va_cnB 1 hts gX2_allows_X4_isLocal_n29 rfl rfl rfl hZ (hts (.initialized RX4) (by decide +kernel)) (by decide +kernel) ⟨Nat.le_of_ble_eq_true rfl, Nat.le_of_ble_eq_true rfl⟩, hts (.static yX4_isLocal) (by decide +kernel), trivial⟩ (kPreS kZ0 kZt hK hP hD [] rfl (by decide +kernel)) rfl rfl hl.1 rfl (lv_room (Nat.le_of_ble_eq_true rfl)) dX2_allows_40 ⟨Nat.le_of_ble_eq_true rfl, Nat.le_of_ble_eq_true rfl⟩) hP hD hS hA [] [] rfl rfl (by decide +kernel) (by decide +kernel) (fun r35 u34 H locs hw36 hP hD hS => ?_)
            try dsimp only at hw36
            have hP : va_P G.1 vwCl [] H := hP
            have hD : va_D A [] := hD
            rcases hw36 with ⟨rfl, hq37⟩ | ⟨rfl, hq37⟩
            · have _u := hsz
              refine lv_if_ne (tgt := 48) hx hb dX2_allows_43 (by decide) (fun _ => ?_) (fun c9 => absurd c9 (by decide))
              refine lv_iload_n hx hb dX2_allows_48 rfl (lv_at hl 0 rfl) ?_
              refine lv_bipush (v := 9) hx hb dX2_allows_49 (by decide) ?_
              refine lv_icmp_ne (tgt := 64) hx hb dX2_allows_51 (by decide) (fun c38 => ?_) (fun c38 => ?_)
              · have t38 := i_ne.mp c38
                refine lv_iconst (v := 1) hx hb dX2_allows_64 (by decide) ?_
                refine lv_goto (tgt := 69) hx hb dX2_allows_65 (by decide) ?_
                exact kRetZ (G := G) () hx hb hr hlocks hS dX2_allows_69 rfl hP hD (by (try dsimp only); exact (by first | exact Or.inl ⟨rfl, by omega⟩ | exact Or.inr ⟨rfl, by omega⟩))
              · have t38 := i_eq.mp c38
                refine lv_iload_n hx hb dX2_allows_54 rfl (lv_at hl 2 rfl) ?_
                refine lv_if_lt (tgt := 68) hx hb dX2_allows_55 (by decide) (fun c39 => ?_) (fun c39 => ?_)
                · have t39 := i_lt.mp c39
                  refine lv_iconst (v := 0) hx hb dX2_allows_68 (by decide) ?_
                  exact kRetZ (G := G) () hx hb hr hlocks hS dX2_allows_69 rfl hP hD (by (try dsimp only); exact (by first | exact Or.inl ⟨rfl, by omega⟩ | exact Or.inr ⟨rfl, by omega⟩))
                · have t39 := i_nlt.mp c39
                  refine lv_iload_n hx hb dX2_allows_58 rfl (lv_at hl 2 rfl) ?_
                  refine lv_bipush (v := 8) hx hb dX2_allows_59 (by decide) ?_
                  refine lv_icmp_gt (tgt := 68) hx hb dX2_allows_61 (by decide) (fun c40 => ?_) (fun c40 => ?_)
                  · have t40 := i_lt.mp c40
                    refine lv_iconst (v := 0) hx hb dX2_allows_68 (by decide) ?_
                    exact kRetZ (G := G) () hx hb hr hlocks hS dX2_allows_69 rfl hP hD (by (try dsimp only); exact (by first | exact Or.inl ⟨rfl, by omega⟩ | exact Or.inr ⟨rfl, by omega⟩))
                  · have t40 := i_nlt.mp c40
                    refine lv_iconst (v := 1) hx hb dX2_allows_64 (by decide) ?_
                    refine lv_goto (tgt := 69) hx hb dX2_allows_65 (by decide) ?_
                    exact kRetZ (G := G) () hx hb hr hlocks hS dX2_allows_69 rfl hP hD (by (try dsimp only); exact (by first | exact Or.inl ⟨rfl, by omega⟩ | exact Or.inr ⟨rfl, by omega⟩))
            · have _u := hsz
              refine lv_if_ne (tgt := 48) hx hb dX2_allows_43 (by decide) (fun c9 => absurd c9 (by decide)) (fun _ => ?_)
              refine lv_iconst (v := 0) hx hb dX2_allows_46 (by decide) ?_
              exact kRetZ (G := G) () hx hb hr hlocks hS dX2_allows_47 rfl hP hD (by (try dsimp only); exact (by first | exact Or.inl ⟨rfl, by omega⟩ | exact Or.inr ⟨rfl, by omega⟩))
    · have t2 := i_nle.mp c2
      refine lv_iconst (v := 0) hx hb dX2_allows_10 (by decide) ?_
      exact kRetZ (G := G) () hx hb hr hlocks hS dX2_allows_11 rfl hP hD (by (try dsimp only); exact (by first | exact Or.inl ⟨rfl, by omega⟩ | exact Or.inr ⟨rfl, by omega⟩))
