set_option maxHeartbeats 4000000 in
set_option maxRecDepth 100000 in
theorem c_X5_isRight (l : Launch) (G : gG) (sz : Nat) (o : Int32) (x : Int32) (y : Int32)  : Met l yX5_isRight wsX5_isRight { frames := 1, cells := 0, slots := 0, locals := 20 } (kPc G [.int o, .int x, .int y] [] sz (fun _ => True)) (kQi G (S := Unit) (fun r _ => (r = 1 ∧ ((0 ≤ o.toInt ∧ o.toInt ≤ 12) ∧ ((o.toInt ≤ 6 ∨ o.toInt = 8 ∨ o.toInt = 10 ∨ o.toInt = 11) → (0 ≤ x.toInt ∧ x.toInt < 8)) ∧ ((1 ≤ o.toInt ∧ o.toInt ≤ 6) → (0 ≤ y.toInt ∧ y.toInt < 8)) ∧ (o.toInt = 9 → (0 ≤ y.toInt ∧ y.toInt ≤ 8)))) ∨ (r = 0 ∧ ¬ ((0 ≤ o.toInt ∧ o.toInt ≤ 12) ∧ ((o.toInt ≤ 6 ∨ o.toInt = 8 ∨ o.toInt = 10 ∨ o.toInt = 11) → (0 ≤ x.toInt ∧ x.toInt < 8)) ∧ ((1 ≤ o.toInt ∧ o.toInt ≤ 6) → (0 ≤ y.toInt ∧ y.toInt < 8)) ∧ (o.toInt = 9 → (0 ≤ y.toInt ∧ y.toInt ≤ 8))))) (fun _ => []) (va_A [] sz)) 0 0 (va_A [] sz) := by
  refine kBeg (Qc := fun A => kQi G (S := Unit) (fun r _ => (r = 1 ∧ ((0 ≤ o.toInt ∧ o.toInt ≤ 12) ∧ ((o.toInt ≤ 6 ∨ o.toInt = 8 ∨ o.toInt = 10 ∨ o.toInt = 11) → (0 ≤ x.toInt ∧ x.toInt < 8)) ∧ ((1 ≤ o.toInt ∧ o.toInt ≤ 6) → (0 ≤ y.toInt ∧ y.toInt < 8)) ∧ (o.toInt = 9 → (0 ≤ y.toInt ∧ y.toInt ≤ 8)))) ∨ (r = 0 ∧ ¬ ((0 ≤ o.toInt ∧ o.toInt ≤ 12) ∧ ((o.toInt ≤ 6 ∨ o.toInt = 8 ∨ o.toInt = 10 ∨ o.toInt = 11) → (0 ≤ x.toInt ∧ x.toInt < 8)) ∧ ((1 ≤ o.toInt ∧ o.toInt ≤ 6) → (0 ≤ y.toInt ∧ y.toInt < 8)) ∧ (o.toInt = 9 → (0 ≤ y.toInt ∧ y.toInt ≤ 8))))) (fun _ => []) A) (by decide) rfl (Nat.le_of_ble_eq_true rfl) ?_
  intro A p e s m below meth c ls H locs hx hb hr hts hown hlocks hnm hml hsz hP hK hD hZ hA hS hl
  have hown : s.vm.findClass RX5 = some m.cls := hown
  have hl : lv_has ls 3 [(0, .int o), (1, .int x), (2, .int y)] := hl
  have kc0 : (0 : Int32).toInt = 0 := by decide
  have kc1 : (1 : Int32).toInt = 1 := by decide
  have kc7 : (7 : Int32).toInt = 7 := by decide
  have kc8 : (8 : Int32).toInt = 8 := by decide
  have kc12 : (12 : Int32).toInt = 12 := by decide
  refine lv_iload_n hx hb dX5_isRight_0 rfl (lv_at hl 0 rfl) ?_
  rcases (show o.toInt = 0 ∨ o.toInt = 1 ∨ o.toInt = 2 ∨ o.toInt = 3 ∨ o.toInt = 4 ∨ o.toInt = 5 ∨ o.toInt = 6 ∨ o.toInt = 7 ∨ o.toInt = 8 ∨ o.toInt = 9 ∨ o.toInt = 10 ∨ o.toInt = 11 ∨ (o.toInt < 0 ∨ 11 < o.toInt) by omega) with w1 | w1 | w1 | w1 | w1 | w1 | w1 | w1 | w1 | w1 | w1 | w1 | w1
  · refine lv_tableIn (off := 63) (tgt := 64) hx hb dX5_isRight_1 (by omega) (by omega) (by rw [w1]; rfl) (by decide) ?_
    refine lv_iload_n hx hb dX5_isRight_64 rfl (lv_at hl 1 rfl) ?_
    refine kCi (G := G) (ws := []) (wr := []) (va_runS (As := [.int x]) (rest := []) ⟨hx, hb, hml, hown, hts⟩ (c_X5_isLocal l G H.size x ) (va_cwS 1 hts gX5_isRight_X5_isLocal rfl rfl rfl (by decide +kernel) ⟨Nat.le_of_ble_eq_true rfl, Nat.le_of_ble_eq_true rfl⟩) (kPreS kZ0 kZt hK hP hD [] rfl (by decide +kernel)) rfl rfl hl.1 rfl (lv_room (Nat.le_of_ble_eq_true rfl)) dX5_isRight_65 ⟨Nat.le_of_ble_eq_true rfl, Nat.le_of_ble_eq_true rfl⟩) hP hD hS hA [] [] rfl rfl (by decide +kernel) (by decide +kernel) (fun r3 u2 H locs hw4 hP hD hS => ?_)
    try dsimp only at hw4
    have hP : va_P G.1 vwCl [] H := hP
    have hD : va_D A [] := hD
    rcases hw4 with ⟨rfl, hq5⟩ | ⟨rfl, hq5⟩
    · have _u := hsz
      exact kRetZ (G := G) () hx hb hr hlocks hS dX5_isRight_68 rfl hP hD (by (try dsimp only); exact (by first | exact Or.inl ⟨rfl, by omega⟩ | exact Or.inr ⟨rfl, by omega⟩))
    · have _u := hsz
      exact kRetZ (G := G) () hx hb hr hlocks hS dX5_isRight_68 rfl hP hD (by (try dsimp only); exact (by first | exact Or.inl ⟨rfl, by omega⟩ | exact Or.inr ⟨rfl, by omega⟩))
  · refine lv_tableIn (off := 68) (tgt := 69) hx hb dX5_isRight_1 (by omega) (by omega) (by rw [w1]; rfl) (by decide) ?_
    refine lv_iload_n hx hb dX5_isRight_69 rfl (lv_at hl 1 rfl) ?_
    refine kCi (G := G) (ws := []) (wr := []) (va_runS (As := [.int x]) (rest := []) ⟨hx, hb, hml, hown, hts⟩ (c_X5_isLocal l G H.size x ) (va_cwS 1 hts gX5_isRight_X5_isLocal rfl rfl rfl (by decide +kernel) ⟨Nat.le_of_ble_eq_true rfl, Nat.le_of_ble_eq_true rfl⟩) (kPreS kZ0 kZt hK hP hD [] rfl (by decide +kernel)) rfl rfl hl.1 rfl (lv_room (Nat.le_of_ble_eq_true rfl)) dX5_isRight_70 ⟨Nat.le_of_ble_eq_true rfl, Nat.le_of_ble_eq_true rfl⟩) hP hD hS hA [] [] rfl rfl (by decide +kernel) (by decide +kernel) (fun r7 u6 H locs hw8 hP hD hS => ?_)
    try dsimp only at hw8
    have hP : va_P G.1 vwCl [] H := hP
    have hD : va_D A [] := hD
    rcases hw8 with ⟨rfl, hq9⟩ | ⟨rfl, hq9⟩
    · have _u := hsz
      refine lv_if_eq (tgt := 87) hx hb dX5_isRight_73 (by decide) (fun c9 => absurd c9 (by decide)) (fun _ => ?_)
      refine lv_iload_n hx hb dX5_isRight_76 rfl (lv_at hl 2 rfl) ?_
      refine kCi (G := G) (ws := []) (wr := []) (va_runS (As := [.int y]) (rest := []) ⟨hx, hb, hml, hown, hts⟩ (c_X5_isLocal l G H.size y ) (va_cwS 1 hts gX5_isRight_X5_isLocal rfl rfl rfl (by decide +kernel) ⟨Nat.le_of_ble_eq_true rfl, Nat.le_of_ble_eq_true rfl⟩) (kPreS kZ0 kZt hK hP hD [] rfl (by decide +kernel)) rfl rfl hl.1 rfl (lv_room (Nat.le_of_ble_eq_true rfl)) dX5_isRight_77 ⟨Nat.le_of_ble_eq_true rfl, Nat.le_of_ble_eq_true rfl⟩) hP hD hS hA [] [] rfl rfl (by decide +kernel) (by decide +kernel) (fun r11 u10 H locs hw12 hP hD hS => ?_)
      try dsimp only at hw12
      have hP : va_P G.1 vwCl [] H := hP
      have hD : va_D A [] := hD
      rcases hw12 with ⟨rfl, hq13⟩ | ⟨rfl, hq13⟩
      · have _u := hsz
        refine lv_if_eq (tgt := 87) hx hb dX5_isRight_80 (by decide) (fun c9 => absurd c9 (by decide)) (fun _ => ?_)
        refine lv_iconst (v := 1) hx hb dX5_isRight_83 (by decide) ?_
        refine lv_goto (tgt := 88) hx hb dX5_isRight_84 (by decide) ?_
        exact kRetZ (G := G) () hx hb hr hlocks hS dX5_isRight_88 rfl hP hD (by (try dsimp only); exact (by first | exact Or.inl ⟨rfl, by omega⟩ | exact Or.inr ⟨rfl, by omega⟩))
      · have _u := hsz
        refine lv_if_eq (tgt := 87) hx hb dX5_isRight_80 (by decide) (fun _ => ?_) (fun c9 => absurd c9 (by decide))
        refine lv_iconst (v := 0) hx hb dX5_isRight_87 (by decide) ?_
        exact kRetZ (G := G) () hx hb hr hlocks hS dX5_isRight_88 rfl hP hD (by (try dsimp only); exact (by first | exact Or.inl ⟨rfl, by omega⟩ | exact Or.inr ⟨rfl, by omega⟩))
    · have _u := hsz
      refine lv_if_eq (tgt := 87) hx hb dX5_isRight_73 (by decide) (fun _ => ?_) (fun c9 => absurd c9 (by decide))
      refine lv_iconst (v := 0) hx hb dX5_isRight_87 (by decide) ?_
      exact kRetZ (G := G) () hx hb hr hlocks hS dX5_isRight_88 rfl hP hD (by (try dsimp only); exact (by first | exact Or.inl ⟨rfl, by omega⟩ | exact Or.inr ⟨rfl, by omega⟩))
  · refine lv_tableIn (off := 68) (tgt := 69) hx hb dX5_isRight_1 (by omega) (by omega) (by rw [w1]; rfl) (by decide) ?_
    refine lv_iload_n hx hb dX5_isRight_69 rfl (lv_at hl 1 rfl) ?_
    refine kCi (G := G) (ws := []) (wr := []) (va_runS (As := [.int x]) (rest := []) ⟨hx, hb, hml, hown, hts⟩ (c_X5_isLocal l G H.size x ) (va_cwS 1 hts gX5_isRight_X5_isLocal rfl rfl rfl (by decide +kernel) ⟨Nat.le_of_ble_eq_true rfl, Nat.le_of_ble_eq_true rfl⟩) (kPreS kZ0 kZt hK hP hD [] rfl (by decide +kernel)) rfl rfl hl.1 rfl (lv_room (Nat.le_of_ble_eq_true rfl)) dX5_isRight_70 ⟨Nat.le_of_ble_eq_true rfl, Nat.le_of_ble_eq_true rfl⟩) hP hD hS hA [] [] rfl rfl (by decide +kernel) (by decide +kernel) (fun r15 u14 H locs hw16 hP hD hS => ?_)
    try dsimp only at hw16
    have hP : va_P G.1 vwCl [] H := hP
    have hD : va_D A [] := hD
    rcases hw16 with ⟨rfl, hq17⟩ | ⟨rfl, hq17⟩
    · have _u := hsz
      refine lv_if_eq (tgt := 87) hx hb dX5_isRight_73 (by decide) (fun c9 => absurd c9 (by decide)) (fun _ => ?_)
      refine lv_iload_n hx hb dX5_isRight_76 rfl (lv_at hl 2 rfl) ?_
      refine kCi (G := G) (ws := []) (wr := []) (va_runS (As := [.int y]) (rest := []) ⟨hx, hb, hml, hown, hts⟩ (c_X5_isLocal l G H.size y ) (va_cwS 1 hts gX5_isRight_X5_isLocal rfl rfl rfl (by decide +kernel) ⟨Nat.le_of_ble_eq_true rfl, Nat.le_of_ble_eq_true rfl⟩) (kPreS kZ0 kZt hK hP hD [] rfl (by decide +kernel)) rfl rfl hl.1 rfl (lv_room (Nat.le_of_ble_eq_true rfl)) dX5_isRight_77 ⟨Nat.le_of_ble_eq_true rfl, Nat.le_of_ble_eq_true rfl⟩) hP hD hS hA [] [] rfl rfl (by decide +kernel) (by decide +kernel) (fun r19 u18 H locs hw20 hP hD hS => ?_)
      try dsimp only at hw20
      have hP : va_P G.1 vwCl [] H := hP
      have hD : va_D A [] := hD
      rcases hw20 with ⟨rfl, hq21⟩ | ⟨rfl, hq21⟩
      · have _u := hsz
        refine lv_if_eq (tgt := 87) hx hb dX5_isRight_80 (by decide) (fun c9 => absurd c9 (by decide)) (fun _ => ?_)
        refine lv_iconst (v := 1) hx hb dX5_isRight_83 (by decide) ?_
        refine lv_goto (tgt := 88) hx hb dX5_isRight_84 (by decide) ?_
        exact kRetZ (G := G) () hx hb hr hlocks hS dX5_isRight_88 rfl hP hD (by (try dsimp only); exact (by first | exact Or.inl ⟨rfl, by omega⟩ | exact Or.inr ⟨rfl, by omega⟩))
      · have _u := hsz
        refine lv_if_eq (tgt := 87) hx hb dX5_isRight_80 (by decide) (fun _ => ?_) (fun c9 => absurd c9 (by decide))
        refine lv_iconst (v := 0) hx hb dX5_isRight_87 (by decide) ?_
        exact kRetZ (G := G) () hx hb hr hlocks hS dX5_isRight_88 rfl hP hD (by (try dsimp only); exact (by first | exact Or.inl ⟨rfl, by omega⟩ | exact Or.inr ⟨rfl, by omega⟩))
    · have _u := hsz
      refine lv_if_eq (tgt := 87) hx hb dX5_isRight_73 (by decide) (fun _ => ?_) (fun c9 => absurd c9 (by decide))
      refine lv_iconst (v := 0) hx hb dX5_isRight_87 (by decide) ?_
      exact kRetZ (G := G) () hx hb hr hlocks hS dX5_isRight_88 rfl hP hD (by (try dsimp only); exact (by first | exact Or.inl ⟨rfl, by omega⟩ | exact Or.inr ⟨rfl, by omega⟩))
  · refine lv_tableIn (off := 68) (tgt := 69) hx hb dX5_isRight_1 (by omega) (by omega) (by rw [w1]; rfl) (by decide) ?_
    refine lv_iload_n hx hb dX5_isRight_69 rfl (lv_at hl 1 rfl) ?_
    refine kCi (G := G) (ws := []) (wr := []) (va_runS (As := [.int x]) (rest := []) ⟨hx, hb, hml, hown, hts⟩ (c_X5_isLocal l G H.size x ) (va_cwS 1 hts gX5_isRight_X5_isLocal rfl rfl rfl (by decide +kernel) ⟨Nat.le_of_ble_eq_true rfl, Nat.le_of_ble_eq_true rfl⟩) (kPreS kZ0 kZt hK hP hD [] rfl (by decide +kernel)) rfl rfl hl.1 rfl (lv_room (Nat.le_of_ble_eq_true rfl)) dX5_isRight_70 ⟨Nat.le_of_ble_eq_true rfl, Nat.le_of_ble_eq_true rfl⟩) hP hD hS hA [] [] rfl rfl (by decide +kernel) (by decide +kernel) (fun r23 u22 H locs hw24 hP hD hS => ?_)
    try dsimp only at hw24
    have hP : va_P G.1 vwCl [] H := hP
    have hD : va_D A [] := hD
    rcases hw24 with ⟨rfl, hq25⟩ | ⟨rfl, hq25⟩
    · have _u := hsz
      refine lv_if_eq (tgt := 87) hx hb dX5_isRight_73 (by decide) (fun c9 => absurd c9 (by decide)) (fun _ => ?_)
      refine lv_iload_n hx hb dX5_isRight_76 rfl (lv_at hl 2 rfl) ?_
      refine kCi (G := G) (ws := []) (wr := []) (va_runS (As := [.int y]) (rest := []) ⟨hx, hb, hml, hown, hts⟩ (c_X5_isLocal l G H.size y ) (va_cwS 1 hts gX5_isRight_X5_isLocal rfl rfl rfl (by decide +kernel) ⟨Nat.le_of_ble_eq_true rfl, Nat.le_of_ble_eq_true rfl⟩) (kPreS kZ0 kZt hK hP hD [] rfl (by decide +kernel)) rfl rfl hl.1 rfl (lv_room (Nat.le_of_ble_eq_true rfl)) dX5_isRight_77 ⟨Nat.le_of_ble_eq_true rfl, Nat.le_of_ble_eq_true rfl⟩) hP hD hS hA [] [] rfl rfl (by decide +kernel) (by decide +kernel) (fun r27 u26 H locs hw28 hP hD hS => ?_)
      try dsimp only at hw28
      have hP : va_P G.1 vwCl [] H := hP
      have hD : va_D A [] := hD
      rcases hw28 with ⟨rfl, hq29⟩ | ⟨rfl, hq29⟩
      · have _u := hsz
        refine lv_if_eq (tgt := 87) hx hb dX5_isRight_80 (by decide) (fun c9 => absurd c9 (by decide)) (fun _ => ?_)
        refine lv_iconst (v := 1) hx hb dX5_isRight_83 (by decide) ?_
        refine lv_goto (tgt := 88) hx hb dX5_isRight_84 (by decide) ?_
        exact kRetZ (G := G) () hx hb hr hlocks hS dX5_isRight_88 rfl hP hD (by (try dsimp only); exact (by first | exact Or.inl ⟨rfl, by omega⟩ | exact Or.inr ⟨rfl, by omega⟩))
      · have _u := hsz
        refine lv_if_eq (tgt := 87) hx hb dX5_isRight_80 (by decide) (fun _ => ?_) (fun c9 => absurd c9 (by decide))
        refine lv_iconst (v := 0) hx hb dX5_isRight_87 (by decide) ?_
        exact kRetZ (G := G) () hx hb hr hlocks hS dX5_isRight_88 rfl hP hD (by (try dsimp only); exact (by first | exact Or.inl ⟨rfl, by omega⟩ | exact Or.inr ⟨rfl, by omega⟩))
    · have _u := hsz
      refine lv_if_eq (tgt := 87) hx hb dX5_isRight_73 (by decide) (fun _ => ?_) (fun c9 => absurd c9 (by decide))
      refine lv_iconst (v := 0) hx hb dX5_isRight_87 (by decide) ?_
      exact kRetZ (G := G) () hx hb hr hlocks hS dX5_isRight_88 rfl hP hD (by (try dsimp only); exact (by first | exact Or.inl ⟨rfl, by omega⟩ | exact Or.inr ⟨rfl, by omega⟩))
  · refine lv_tableIn (off := 68) (tgt := 69) hx hb dX5_isRight_1 (by omega) (by omega) (by rw [w1]; rfl) (by decide) ?_
    refine lv_iload_n hx hb dX5_isRight_69 rfl (lv_at hl 1 rfl) ?_
    refine kCi (G := G) (ws := []) (wr := []) (va_runS (As := [.int x]) (rest := []) ⟨hx, hb, hml, hown, hts⟩ (c_X5_isLocal l G H.size x ) (va_cwS 1 hts gX5_isRight_X5_isLocal rfl rfl rfl (by decide +kernel) ⟨Nat.le_of_ble_eq_true rfl, Nat.le_of_ble_eq_true rfl⟩) (kPreS kZ0 kZt hK hP hD [] rfl (by decide +kernel)) rfl rfl hl.1 rfl (lv_room (Nat.le_of_ble_eq_true rfl)) dX5_isRight_70 ⟨Nat.le_of_ble_eq_true rfl, Nat.le_of_ble_eq_true rfl⟩) hP hD hS hA [] [] rfl rfl (by decide +kernel) (by decide +kernel) (fun r31 u30 H locs hw32 hP hD hS => ?_)
    try dsimp only at hw32
    have hP : va_P G.1 vwCl [] H := hP
    have hD : va_D A [] := hD
    rcases hw32 with ⟨rfl, hq33⟩ | ⟨rfl, hq33⟩
    · have _u := hsz
      refine lv_if_eq (tgt := 87) hx hb dX5_isRight_73 (by decide) (fun c9 => absurd c9 (by decide)) (fun _ => ?_)
      refine lv_iload_n hx hb dX5_isRight_76 rfl (lv_at hl 2 rfl) ?_
      refine kCi (G := G) (ws := []) (wr := []) (va_runS (As := [.int y]) (rest := []) ⟨hx, hb, hml, hown, hts⟩ (c_X5_isLocal l G H.size y ) (va_cwS 1 hts gX5_isRight_X5_isLocal rfl rfl rfl (by decide +kernel) ⟨Nat.le_of_ble_eq_true rfl, Nat.le_of_ble_eq_true rfl⟩) (kPreS kZ0 kZt hK hP hD [] rfl (by decide +kernel)) rfl rfl hl.1 rfl (lv_room (Nat.le_of_ble_eq_true rfl)) dX5_isRight_77 ⟨Nat.le_of_ble_eq_true rfl, Nat.le_of_ble_eq_true rfl⟩) hP hD hS hA [] [] rfl rfl (by decide +kernel) (by decide +kernel) (fun r35 u34 H locs hw36 hP hD hS => ?_)
      try dsimp only at hw36
      have hP : va_P G.1 vwCl [] H := hP
      have hD : va_D A [] := hD
      rcases hw36 with ⟨rfl, hq37⟩ | ⟨rfl, hq37⟩
      · have _u := hsz
        refine lv_if_eq (tgt := 87) hx hb dX5_isRight_80 (by decide) (fun c9 => absurd c9 (by decide)) (fun _ => ?_)
        refine lv_iconst (v := 1) hx hb dX5_isRight_83 (by decide) ?_
        refine lv_goto (tgt := 88) hx hb dX5_isRight_84 (by decide) ?_
        exact kRetZ (G := G) () hx hb hr hlocks hS dX5_isRight_88 rfl hP hD (by (try dsimp only); exact (by first | exact Or.inl ⟨rfl, by omega⟩ | exact Or.inr ⟨rfl, by omega⟩))
      · have _u := hsz
        refine lv_if_eq (tgt := 87) hx hb dX5_isRight_80 (by decide) (fun _ => ?_) (fun c9 => absurd c9 (by decide))
        refine lv_iconst (v := 0) hx hb dX5_isRight_87 (by decide) ?_
        exact kRetZ (G := G) () hx hb hr hlocks hS dX5_isRight_88 rfl hP hD (by (try dsimp only); exact (by first | exact Or.inl ⟨rfl, by omega⟩ | exact Or.inr ⟨rfl, by omega⟩))
    · have _u := hsz
      refine lv_if_eq (tgt := 87) hx hb dX5_isRight_73 (by decide) (fun _ => ?_) (fun c9 => absurd c9 (by decide))
      refine lv_iconst (v := 0) hx hb dX5_isRight_87 (by decide) ?_
      exact kRetZ (G := G) () hx hb hr hlocks hS dX5_isRight_88 rfl hP hD (by (try dsimp only); exact (by first | exact Or.inl ⟨rfl, by omega⟩ | exact Or.inr ⟨rfl, by omega⟩))
  · refine lv_tableIn (off := 68) (tgt := 69) hx hb dX5_isRight_1 (by omega) (by omega) (by rw [w1]; rfl) (by decide) ?_
    refine lv_iload_n hx hb dX5_isRight_69 rfl (lv_at hl 1 rfl) ?_
    refine kCi (G := G) (ws := []) (wr := []) (va_runS (As := [.int x]) (rest := []) ⟨hx, hb, hml, hown, hts⟩ (c_X5_isLocal l G H.size x ) (va_cwS 1 hts gX5_isRight_X5_isLocal rfl rfl rfl (by decide +kernel) ⟨Nat.le_of_ble_eq_true rfl, Nat.le_of_ble_eq_true rfl⟩) (kPreS kZ0 kZt hK hP hD [] rfl (by decide +kernel)) rfl rfl hl.1 rfl (lv_room (Nat.le_of_ble_eq_true rfl)) dX5_isRight_70 ⟨Nat.le_of_ble_eq_true rfl, Nat.le_of_ble_eq_true rfl⟩) hP hD hS hA [] [] rfl rfl (by decide +kernel) (by decide +kernel) (fun r39 u38 H locs hw40 hP hD hS => ?_)
    try dsimp only at hw40
    have hP : va_P G.1 vwCl [] H := hP
    have hD : va_D A [] := hD
    rcases hw40 with ⟨rfl, hq41⟩ | ⟨rfl, hq41⟩
    · have _u := hsz
      refine lv_if_eq (tgt := 87) hx hb dX5_isRight_73 (by decide) (fun c9 => absurd c9 (by decide)) (fun _ => ?_)
      refine lv_iload_n hx hb dX5_isRight_76 rfl (lv_at hl 2 rfl) ?_
      refine kCi (G := G) (ws := []) (wr := []) (va_runS (As := [.int y]) (rest := []) ⟨hx, hb, hml, hown, hts⟩ (c_X5_isLocal l G H.size y ) (va_cwS 1 hts gX5_isRight_X5_isLocal rfl rfl rfl (by decide +kernel) ⟨Nat.le_of_ble_eq_true rfl, Nat.le_of_ble_eq_true rfl⟩) (kPreS kZ0 kZt hK hP hD [] rfl (by decide +kernel)) rfl rfl hl.1 rfl (lv_room (Nat.le_of_ble_eq_true rfl)) dX5_isRight_77 ⟨Nat.le_of_ble_eq_true rfl, Nat.le_of_ble_eq_true rfl⟩) hP hD hS hA [] [] rfl rfl (by decide +kernel) (by decide +kernel) (fun r43 u42 H locs hw44 hP hD hS => ?_)
      try dsimp only at hw44
      have hP : va_P G.1 vwCl [] H := hP
      have hD : va_D A [] := hD
      rcases hw44 with ⟨rfl, hq45⟩ | ⟨rfl, hq45⟩
      · have _u := hsz
        refine lv_if_eq (tgt := 87) hx hb dX5_isRight_80 (by decide) (fun c9 => absurd c9 (by decide)) (fun _ => ?_)
        refine lv_iconst (v := 1) hx hb dX5_isRight_83 (by decide) ?_
        refine lv_goto (tgt := 88) hx hb dX5_isRight_84 (by decide) ?_
        exact kRetZ (G := G) () hx hb hr hlocks hS dX5_isRight_88 rfl hP hD (by (try dsimp only); exact (by first | exact Or.inl ⟨rfl, by omega⟩ | exact Or.inr ⟨rfl, by omega⟩))
      · have _u := hsz
        refine lv_if_eq (tgt := 87) hx hb dX5_isRight_80 (by decide) (fun _ => ?_) (fun c9 => absurd c9 (by decide))
        refine lv_iconst (v := 0) hx hb dX5_isRight_87 (by decide) ?_
        exact kRetZ (G := G) () hx hb hr hlocks hS dX5_isRight_88 rfl hP hD (by (try dsimp only); exact (by first | exact Or.inl ⟨rfl, by omega⟩ | exact Or.inr ⟨rfl, by omega⟩))
    · have _u := hsz
      refine lv_if_eq (tgt := 87) hx hb dX5_isRight_73 (by decide) (fun _ => ?_) (fun c9 => absurd c9 (by decide))
      refine lv_iconst (v := 0) hx hb dX5_isRight_87 (by decide) ?_
      exact kRetZ (G := G) () hx hb hr hlocks hS dX5_isRight_88 rfl hP hD (by (try dsimp only); exact (by first | exact Or.inl ⟨rfl, by omega⟩ | exact Or.inr ⟨rfl, by omega⟩))
  · refine lv_tableIn (off := 68) (tgt := 69) hx hb dX5_isRight_1 (by omega) (by omega) (by rw [w1]; rfl) (by decide) ?_
    refine lv_iload_n hx hb dX5_isRight_69 rfl (lv_at hl 1 rfl) ?_
    refine kCi (G := G) (ws := []) (wr := []) (va_runS (As := [.int x]) (rest := []) ⟨hx, hb, hml, hown, hts⟩ (c_X5_isLocal l G H.size x ) (va_cwS 1 hts gX5_isRight_X5_isLocal rfl rfl rfl (by decide +kernel) ⟨Nat.le_of_ble_eq_true rfl, Nat.le_of_ble_eq_true rfl⟩) (kPreS kZ0 kZt hK hP hD [] rfl (by decide +kernel)) rfl rfl hl.1 rfl (lv_room (Nat.le_of_ble_eq_true rfl)) dX5_isRight_70 ⟨Nat.le_of_ble_eq_true rfl, Nat.le_of_ble_eq_true rfl⟩) hP hD hS hA [] [] rfl rfl (by decide +kernel) (by decide +kernel) (fun r47 u46 H locs hw48 hP hD hS => ?_)
    try dsimp only at hw48
    have hP : va_P G.1 vwCl [] H := hP
    have hD : va_D A [] := hD
    rcases hw48 with ⟨rfl, hq49⟩ | ⟨rfl, hq49⟩
    · have _u := hsz
      refine lv_if_eq (tgt := 87) hx hb dX5_isRight_73 (by decide) (fun c9 => absurd c9 (by decide)) (fun _ => ?_)
      refine lv_iload_n hx hb dX5_isRight_76 rfl (lv_at hl 2 rfl) ?_
      refine kCi (G := G) (ws := []) (wr := []) (va_runS (As := [.int y]) (rest := []) ⟨hx, hb, hml, hown, hts⟩ (c_X5_isLocal l G H.size y ) (va_cwS 1 hts gX5_isRight_X5_isLocal rfl rfl rfl (by decide +kernel) ⟨Nat.le_of_ble_eq_true rfl, Nat.le_of_ble_eq_true rfl⟩) (kPreS kZ0 kZt hK hP hD [] rfl (by decide +kernel)) rfl rfl hl.1 rfl (lv_room (Nat.le_of_ble_eq_true rfl)) dX5_isRight_77 ⟨Nat.le_of_ble_eq_true rfl, Nat.le_of_ble_eq_true rfl⟩) hP hD hS hA [] [] rfl rfl (by decide +kernel) (by decide +kernel) (fun r51 u50 H locs hw52 hP hD hS => ?_)
      try dsimp only at hw52
      have hP : va_P G.1 vwCl [] H := hP
      have hD : va_D A [] := hD
      rcases hw52 with ⟨rfl, hq53⟩ | ⟨rfl, hq53⟩
      · have _u := hsz
        refine lv_if_eq (tgt := 87) hx hb dX5_isRight_80 (by decide) (fun c9 => absurd c9 (by decide)) (fun _ => ?_)
        refine lv_iconst (v := 1) hx hb dX5_isRight_83 (by decide) ?_
        refine lv_goto (tgt := 88) hx hb dX5_isRight_84 (by decide) ?_
        exact kRetZ (G := G) () hx hb hr hlocks hS dX5_isRight_88 rfl hP hD (by (try dsimp only); exact (by first | exact Or.inl ⟨rfl, by omega⟩ | exact Or.inr ⟨rfl, by omega⟩))
      · have _u := hsz
        refine lv_if_eq (tgt := 87) hx hb dX5_isRight_80 (by decide) (fun _ => ?_) (fun c9 => absurd c9 (by decide))
        refine lv_iconst (v := 0) hx hb dX5_isRight_87 (by decide) ?_
        exact kRetZ (G := G) () hx hb hr hlocks hS dX5_isRight_88 rfl hP hD (by (try dsimp only); exact (by first | exact Or.inl ⟨rfl, by omega⟩ | exact Or.inr ⟨rfl, by omega⟩))
    · have _u := hsz
      refine lv_if_eq (tgt := 87) hx hb dX5_isRight_73 (by decide) (fun _ => ?_) (fun c9 => absurd c9 (by decide))
      refine lv_iconst (v := 0) hx hb dX5_isRight_87 (by decide) ?_
      exact kRetZ (G := G) () hx hb hr hlocks hS dX5_isRight_88 rfl hP hD (by (try dsimp only); exact (by first | exact Or.inl ⟨rfl, by omega⟩ | exact Or.inr ⟨rfl, by omega⟩))
  · refine lv_tableIn (off := 104) (tgt := 105) hx hb dX5_isRight_1 (by omega) (by omega) (by rw [w1]; rfl) (by decide) ?_
    refine lv_iload_n hx hb dX5_isRight_105 rfl (lv_at hl 0 rfl) ?_
    refine lv_bipush (v := 7) hx hb dX5_isRight_106 (by decide) ?_
    refine lv_icmp_eq (tgt := 117) hx hb dX5_isRight_108 (by decide) (fun c54 => ?_) (fun c54 => ?_)
    · have t54 := i_eq.mp c54
      refine lv_iconst (v := 1) hx hb dX5_isRight_117 (by decide) ?_
      refine lv_goto (tgt := 122) hx hb dX5_isRight_118 (by decide) ?_
      exact kRetZ (G := G) () hx hb hr hlocks hS dX5_isRight_122 rfl hP hD (by (try dsimp only); exact (by first | exact Or.inl ⟨rfl, by omega⟩ | exact Or.inr ⟨rfl, by omega⟩))
    · have t54 := i_ne.mp c54
      refine lv_iload_n hx hb dX5_isRight_111 rfl (lv_at hl 0 rfl) ?_
      refine lv_bipush (v := 12) hx hb dX5_isRight_112 (by decide) ?_
      refine lv_icmp_ne (tgt := 121) hx hb dX5_isRight_114 (by decide) (fun c55 => ?_) (fun c55 => ?_)
      · have t55 := i_ne.mp c55
        refine lv_iconst (v := 0) hx hb dX5_isRight_121 (by decide) ?_
        exact kRetZ (G := G) () hx hb hr hlocks hS dX5_isRight_122 rfl hP hD (by (try dsimp only); exact (by first | exact Or.inl ⟨rfl, by omega⟩ | exact Or.inr ⟨rfl, by omega⟩))
      · have t55 := i_eq.mp c55
        refine lv_iconst (v := 1) hx hb dX5_isRight_117 (by decide) ?_
        refine lv_goto (tgt := 122) hx hb dX5_isRight_118 (by decide) ?_
        exact kRetZ (G := G) () hx hb hr hlocks hS dX5_isRight_122 rfl hP hD (by (try dsimp only); exact (by first | exact Or.inl ⟨rfl, by omega⟩ | exact Or.inr ⟨rfl, by omega⟩))
  · refine lv_tableIn (off := 63) (tgt := 64) hx hb dX5_isRight_1 (by omega) (by omega) (by rw [w1]; rfl) (by decide) ?_
    refine lv_iload_n hx hb dX5_isRight_64 rfl (lv_at hl 1 rfl) ?_
    refine kCi (G := G) (ws := []) (wr := []) (va_runS (As := [.int x]) (rest := []) ⟨hx, hb, hml, hown, hts⟩ (c_X5_isLocal l G H.size x ) (va_cwS 1 hts gX5_isRight_X5_isLocal rfl rfl rfl (by decide +kernel) ⟨Nat.le_of_ble_eq_true rfl, Nat.le_of_ble_eq_true rfl⟩) (kPreS kZ0 kZt hK hP hD [] rfl (by decide +kernel)) rfl rfl hl.1 rfl (lv_room (Nat.le_of_ble_eq_true rfl)) dX5_isRight_65 ⟨Nat.le_of_ble_eq_true rfl, Nat.le_of_ble_eq_true rfl⟩) hP hD hS hA [] [] rfl rfl (by decide +kernel) (by decide +kernel) (fun r57 u56 H locs hw58 hP hD hS => ?_)
    try dsimp only at hw58
    have hP : va_P G.1 vwCl [] H := hP
    have hD : va_D A [] := hD
    rcases hw58 with ⟨rfl, hq59⟩ | ⟨rfl, hq59⟩
    · have _u := hsz
      exact kRetZ (G := G) () hx hb hr hlocks hS dX5_isRight_68 rfl hP hD (by (try dsimp only); exact (by first | exact Or.inl ⟨rfl, by omega⟩ | exact Or.inr ⟨rfl, by omega⟩))
    · have _u := hsz
      exact kRetZ (G := G) () hx hb hr hlocks hS dX5_isRight_68 rfl hP hD (by (try dsimp only); exact (by first | exact Or.inl ⟨rfl, by omega⟩ | exact Or.inr ⟨rfl, by omega⟩))
  · refine lv_tableIn (off := 88) (tgt := 89) hx hb dX5_isRight_1 (by omega) (by omega) (by rw [w1]; rfl) (by decide) ?_
    refine lv_iload_n hx hb dX5_isRight_89 rfl (lv_at hl 2 rfl) ?_
    refine lv_if_lt (tgt := 103) hx hb dX5_isRight_90 (by decide) (fun c60 => ?_) (fun c60 => ?_)
    · have t60 := i_lt.mp c60
      refine lv_iconst (v := 0) hx hb dX5_isRight_103 (by decide) ?_
      exact kRetZ (G := G) () hx hb hr hlocks hS dX5_isRight_104 rfl hP hD (by (try dsimp only); exact (by first | exact Or.inl ⟨rfl, by omega⟩ | exact Or.inr ⟨rfl, by omega⟩))
    · have t60 := i_nlt.mp c60
      refine lv_iload_n hx hb dX5_isRight_93 rfl (lv_at hl 2 rfl) ?_
      refine lv_bipush (v := 8) hx hb dX5_isRight_94 (by decide) ?_
      refine lv_icmp_gt (tgt := 103) hx hb dX5_isRight_96 (by decide) (fun c61 => ?_) (fun c61 => ?_)
      · have t61 := i_lt.mp c61
        refine lv_iconst (v := 0) hx hb dX5_isRight_103 (by decide) ?_
        exact kRetZ (G := G) () hx hb hr hlocks hS dX5_isRight_104 rfl hP hD (by (try dsimp only); exact (by first | exact Or.inl ⟨rfl, by omega⟩ | exact Or.inr ⟨rfl, by omega⟩))
      · have t61 := i_nlt.mp c61
        refine lv_iconst (v := 1) hx hb dX5_isRight_99 (by decide) ?_
        refine lv_goto (tgt := 104) hx hb dX5_isRight_100 (by decide) ?_
        exact kRetZ (G := G) () hx hb hr hlocks hS dX5_isRight_104 rfl hP hD (by (try dsimp only); exact (by first | exact Or.inl ⟨rfl, by omega⟩ | exact Or.inr ⟨rfl, by omega⟩))
  · refine lv_tableIn (off := 63) (tgt := 64) hx hb dX5_isRight_1 (by omega) (by omega) (by rw [w1]; rfl) (by decide) ?_
    refine lv_iload_n hx hb dX5_isRight_64 rfl (lv_at hl 1 rfl) ?_
    refine kCi (G := G) (ws := []) (wr := []) (va_runS (As := [.int x]) (rest := []) ⟨hx, hb, hml, hown, hts⟩ (c_X5_isLocal l G H.size x ) (va_cwS 1 hts gX5_isRight_X5_isLocal rfl rfl rfl (by decide +kernel) ⟨Nat.le_of_ble_eq_true rfl, Nat.le_of_ble_eq_true rfl⟩) (kPreS kZ0 kZt hK hP hD [] rfl (by decide +kernel)) rfl rfl hl.1 rfl (lv_room (Nat.le_of_ble_eq_true rfl)) dX5_isRight_65 ⟨Nat.le_of_ble_eq_true rfl, Nat.le_of_ble_eq_true rfl⟩) hP hD hS hA [] [] rfl rfl (by decide +kernel) (by decide +kernel) (fun r63 u62 H locs hw64 hP hD hS => ?_)
    try dsimp only at hw64
    have hP : va_P G.1 vwCl [] H := hP
    have hD : va_D A [] := hD
    rcases hw64 with ⟨rfl, hq65⟩ | ⟨rfl, hq65⟩
    · have _u := hsz
      exact kRetZ (G := G) () hx hb hr hlocks hS dX5_isRight_68 rfl hP hD (by (try dsimp only); exact (by first | exact Or.inl ⟨rfl, by omega⟩ | exact Or.inr ⟨rfl, by omega⟩))
    · have _u := hsz
      exact kRetZ (G := G) () hx hb hr hlocks hS dX5_isRight_68 rfl hP hD (by (try dsimp only); exact (by first | exact Or.inl ⟨rfl, by omega⟩ | exact Or.inr ⟨rfl, by omega⟩))
  · refine lv_tableIn (off := 63) (tgt := 64) hx hb dX5_isRight_1 (by omega) (by omega) (by rw [w1]; rfl) (by decide) ?_
    refine lv_iload_n hx hb dX5_isRight_64 rfl (lv_at hl 1 rfl) ?_
    refine kCi (G := G) (ws := []) (wr := []) (va_runS (As := [.int x]) (rest := []) ⟨hx, hb, hml, hown, hts⟩ (c_X5_isLocal l G H.size x ) (va_cwS 1 hts gX5_isRight_X5_isLocal rfl rfl rfl (by decide +kernel) ⟨Nat.le_of_ble_eq_true rfl, Nat.le_of_ble_eq_true rfl⟩) (kPreS kZ0 kZt hK hP hD [] rfl (by decide +kernel)) rfl rfl hl.1 rfl (lv_room (Nat.le_of_ble_eq_true rfl)) dX5_isRight_65 ⟨Nat.le_of_ble_eq_true rfl, Nat.le_of_ble_eq_true rfl⟩) hP hD hS hA [] [] rfl rfl (by decide +kernel) (by decide +kernel) (fun r67 u66 H locs hw68 hP hD hS => ?_)
    try dsimp only at hw68
    have hP : va_P G.1 vwCl [] H := hP
    have hD : va_D A [] := hD
    rcases hw68 with ⟨rfl, hq69⟩ | ⟨rfl, hq69⟩
    · have _u := hsz
      exact kRetZ (G := G) () hx hb hr hlocks hS dX5_isRight_68 rfl hP hD (by (try dsimp only); exact (by first | exact Or.inl ⟨rfl, by omega⟩ | exact Or.inr ⟨rfl, by omega⟩))
    · have _u := hsz
      exact kRetZ (G := G) () hx hb hr hlocks hS dX5_isRight_68 rfl hP hD (by (try dsimp only); exact (by first | exact Or.inl ⟨rfl, by omega⟩ | exact Or.inr ⟨rfl, by omega⟩))
  · refine lv_tableOut (tgt := 105) hx hb dX5_isRight_1 w1 (by decide) ?_
    refine lv_iload_n hx hb dX5_isRight_105 rfl (lv_at hl 0 rfl) ?_
    refine lv_bipush (v := 7) hx hb dX5_isRight_106 (by decide) ?_
    refine lv_icmp_eq (tgt := 117) hx hb dX5_isRight_108 (by decide) (fun c70 => ?_) (fun c70 => ?_)
    · have t70 := i_eq.mp c70
      refine lv_iconst (v := 1) hx hb dX5_isRight_117 (by decide) ?_
      refine lv_goto (tgt := 122) hx hb dX5_isRight_118 (by decide) ?_
      exact kRetZ (G := G) () hx hb hr hlocks hS dX5_isRight_122 rfl hP hD (by (try dsimp only); exact (by first | exact Or.inl ⟨rfl, by omega⟩ | exact Or.inr ⟨rfl, by omega⟩))
    · have t70 := i_ne.mp c70
      refine lv_iload_n hx hb dX5_isRight_111 rfl (lv_at hl 0 rfl) ?_
      refine lv_bipush (v := 12) hx hb dX5_isRight_112 (by decide) ?_
      refine lv_icmp_ne (tgt := 121) hx hb dX5_isRight_114 (by decide) (fun c71 => ?_) (fun c71 => ?_)
      · have t71 := i_ne.mp c71
        refine lv_iconst (v := 0) hx hb dX5_isRight_121 (by decide) ?_
        exact kRetZ (G := G) () hx hb hr hlocks hS dX5_isRight_122 rfl hP hD (by (try dsimp only); exact (by first | exact Or.inl ⟨rfl, by omega⟩ | exact Or.inr ⟨rfl, by omega⟩))
      · have t71 := i_eq.mp c71
        refine lv_iconst (v := 1) hx hb dX5_isRight_117 (by decide) ?_
        refine lv_goto (tgt := 122) hx hb dX5_isRight_118 (by decide) ?_
        exact kRetZ (G := G) () hx hb hr hlocks hS dX5_isRight_122 rfl hP hD (by (try dsimp only); exact (by first | exact Or.inl ⟨rfl, by omega⟩ | exact Or.inr ⟨rfl, by omega⟩))

set_option maxHeartbeats 4000000 in
set_option maxRecDepth 100000 in
theorem c_X5_line (l : Launch) (G : gG) (sz : Nat) (q : Nat → Nat) (fs : Int32) (cd : Int32) (sp : Int32) (ln : Int32) (fr : Int32) (tm : Int32) (oc : Int32) (en : Int32) (tr : Int32) (ch : Int32) (kc : Int32) (re : Int32) (g1 : Nat → Int32) (g2 : Nat → Int32) (g3 : Nat → Int32) (gm : Nat → Int32) (gw : Nat → Int32) (gb : Nat → Int32) (gc : Nat → Int32) (gl : Nat → Int32) (gk : Nat → Int32) (go : Nat → Int32) (gt : Nat → Int32) (o : Int32) (x : Int32) (y : Int32) (hpg : ((0 ≤ ln.toInt ∧ ln.toInt ≤ 80) ∧ ∀ j : Nat, (j : Int) < ln.toInt → ((0 ≤ (g1 j).toInt ∧ (g1 j).toInt ≤ 12) ∧ (((g1 j).toInt ≤ 6 ∨ (g1 j).toInt = 8 ∨ (g1 j).toInt = 10 ∨ (g1 j).toInt = 11) → (0 ≤ (g2 j).toInt ∧ (g2 j).toInt < 8)) ∧ ((1 ≤ (g1 j).toInt ∧ (g1 j).toInt ≤ 6) → (0 ≤ (g3 j).toInt ∧ (g3 j).toInt < 8)) ∧ ((g1 j).toInt = 9 → (0 ≤ (g3 j).toInt ∧ (g3 j).toInt ≤ 8))))) (hri : ((1 ≤ fr.toInt ∧ fr.toInt ≤ 16) ∧ (0 ≤ oc.toInt ∧ oc.toInt ≤ 200) ∧ (0 ≤ tm.toInt ∧ tm.toInt ≤ 2000) ∧ kB01 en) ∧ kCP ch ∧ (kHI fs sp kc re) ∧ kB01 tr ∧ kCh g1 g2 g3 ln gb tm.toInt (gc, gl, gk, fr, oc, en)) : Met l yX5_line wsX5_line { frames := 2, cells := 0, slots := 0, locals := 42 } (kPc G [.ref (q 0), .int o, .int x, .int y] [kO (q 0) 5 [.int cd, .int fs, .int sp, .ref (q 1), .ref (q 2), .ref (q 3), .ref (q 4), .int ln, .ref (q 5), .ref (q 6), .ref (q 7), .ref (q 8), .ref (q 9), .int fr, .int tm, .ref (q 10), .int oc, .int en, .int tr, .int ch, .ref (q 11), .int kc, .int re], kI (q 1) (G.2 0) 80 g1, kI (q 2) (G.2 0) 80 g2, kI (q 3) (G.2 0) 80 g3, kI (q 4) (G.2 1) 80 gm, kI (q 5) (G.2 1) 64 gw, kI (q 6) (G.2 0) 64 gb, kI (q 7) (G.2 0) 64 gc, kI (q 8) (G.2 0) 128 gl, kI (q 9) (G.2 0) 16 gk, kI (q 10) (G.2 0) 200 go, kI (q 11) (G.2 0) 8 gt] sz (fun _ => True)) (kQi G (S := Int32 × Int32 × Int32 × Int32 × Int32 × Int32 × Int32 × Int32 × Int32 × Int32 × (Nat → Int32) × (Nat → Int32) × (Nat → Int32) × (Nat → Int32) × (Nat → Int32) × Int32 × (Nat → Int32) × (Nat → Int32) × (Nat → Int32) × (Nat → Int32)) (fun r u => ((0 ≤ u.2.2.2.2.2.2.2.2.2.2.2.2.2.2.2.1.toInt ∧ u.2.2.2.2.2.2.2.2.2.2.2.2.2.2.2.1.toInt ≤ 80) ∧ ∀ j : Nat, (j : Int) < u.2.2.2.2.2.2.2.2.2.2.2.2.2.2.2.1.toInt → ((0 ≤ (u.2.2.2.2.2.2.2.2.2.2.2.2.2.2.2.2.1 j).toInt ∧ (u.2.2.2.2.2.2.2.2.2.2.2.2.2.2.2.2.1 j).toInt ≤ 12) ∧ (((u.2.2.2.2.2.2.2.2.2.2.2.2.2.2.2.2.1 j).toInt ≤ 6 ∨ (u.2.2.2.2.2.2.2.2.2.2.2.2.2.2.2.2.1 j).toInt = 8 ∨ (u.2.2.2.2.2.2.2.2.2.2.2.2.2.2.2.2.1 j).toInt = 10 ∨ (u.2.2.2.2.2.2.2.2.2.2.2.2.2.2.2.2.1 j).toInt = 11) → (0 ≤ (u.2.2.2.2.2.2.2.2.2.2.2.2.2.2.2.2.2.1 j).toInt ∧ (u.2.2.2.2.2.2.2.2.2.2.2.2.2.2.2.2.2.1 j).toInt < 8)) ∧ ((1 ≤ (u.2.2.2.2.2.2.2.2.2.2.2.2.2.2.2.2.1 j).toInt ∧ (u.2.2.2.2.2.2.2.2.2.2.2.2.2.2.2.2.1 j).toInt ≤ 6) → (0 ≤ (u.2.2.2.2.2.2.2.2.2.2.2.2.2.2.2.2.2.2.1 j).toInt ∧ (u.2.2.2.2.2.2.2.2.2.2.2.2.2.2.2.2.2.2.1 j).toInt < 8)) ∧ ((u.2.2.2.2.2.2.2.2.2.2.2.2.2.2.2.2.1 j).toInt = 9 → (0 ≤ (u.2.2.2.2.2.2.2.2.2.2.2.2.2.2.2.2.2.2.1 j).toInt ∧ (u.2.2.2.2.2.2.2.2.2.2.2.2.2.2.2.2.2.2.1 j).toInt ≤ 8)))) ∧ ((1 ≤ u.2.2.1.toInt ∧ u.2.2.1.toInt ≤ 16) ∧ (0 ≤ u.2.2.2.2.1.toInt ∧ u.2.2.2.2.1.toInt ≤ 200) ∧ (0 ≤ u.2.2.2.1.toInt ∧ u.2.2.2.1.toInt ≤ 2000) ∧ kB01 u.2.2.2.2.2.1) ∧ kCP u.2.2.2.2.2.2.2.1 ∧ (kHI fs u.2.1 u.2.2.2.2.2.2.2.2.1 u.2.2.2.2.2.2.2.2.2.1) ∧ kB01 u.2.2.2.2.2.2.1 ∧ kCh u.2.2.2.2.2.2.2.2.2.2.2.2.2.2.2.2.1 u.2.2.2.2.2.2.2.2.2.2.2.2.2.2.2.2.2.1 u.2.2.2.2.2.2.2.2.2.2.2.2.2.2.2.2.2.2.1 u.2.2.2.2.2.2.2.2.2.2.2.2.2.2.2.1 gb u.2.2.2.1.toInt (u.2.2.2.2.2.2.2.2.2.2.1, u.2.2.2.2.2.2.2.2.2.2.2.1, u.2.2.2.2.2.2.2.2.2.2.2.2.1, u.2.2.1, u.2.2.2.2.1, u.2.2.2.2.2.1)) (fun u => [kO (q 0) 5 [.int u.1, .int fs, .int u.2.1, .ref (q 1), .ref (q 2), .ref (q 3), .ref (q 4), .int u.2.2.2.2.2.2.2.2.2.2.2.2.2.2.2.1, .ref (q 5), .ref (q 6), .ref (q 7), .ref (q 8), .ref (q 9), .int u.2.2.1, .int u.2.2.2.1, .ref (q 10), .int u.2.2.2.2.1, .int u.2.2.2.2.2.1, .int u.2.2.2.2.2.2.1, .int u.2.2.2.2.2.2.2.1, .ref (q 11), .int u.2.2.2.2.2.2.2.2.1, .int u.2.2.2.2.2.2.2.2.2.1], kI (q 1) (G.2 0) 80 u.2.2.2.2.2.2.2.2.2.2.2.2.2.2.2.2.1, kI (q 2) (G.2 0) 80 u.2.2.2.2.2.2.2.2.2.2.2.2.2.2.2.2.2.1, kI (q 3) (G.2 0) 80 u.2.2.2.2.2.2.2.2.2.2.2.2.2.2.2.2.2.2.1, kI (q 4) (G.2 1) 80 u.2.2.2.2.2.2.2.2.2.2.2.2.2.2.2.2.2.2.2, kI (q 5) (G.2 1) 64 gw, kI (q 6) (G.2 0) 64 gb, kI (q 7) (G.2 0) 64 u.2.2.2.2.2.2.2.2.2.2.1, kI (q 8) (G.2 0) 128 u.2.2.2.2.2.2.2.2.2.2.2.1, kI (q 9) (G.2 0) 16 u.2.2.2.2.2.2.2.2.2.2.2.2.1, kI (q 10) (G.2 0) 200 u.2.2.2.2.2.2.2.2.2.2.2.2.2.1, kI (q 11) (G.2 0) 8 u.2.2.2.2.2.2.2.2.2.2.2.2.2.2.1]) (va_A [kO (q 0) 5 [.int cd, .int fs, .int sp, .ref (q 1), .ref (q 2), .ref (q 3), .ref (q 4), .int ln, .ref (q 5), .ref (q 6), .ref (q 7), .ref (q 8), .ref (q 9), .int fr, .int tm, .ref (q 10), .int oc, .int en, .int tr, .int ch, .ref (q 11), .int kc, .int re], kI (q 1) (G.2 0) 80 g1, kI (q 2) (G.2 0) 80 g2, kI (q 3) (G.2 0) 80 g3, kI (q 4) (G.2 1) 80 gm, kI (q 5) (G.2 1) 64 gw, kI (q 6) (G.2 0) 64 gb, kI (q 7) (G.2 0) 64 gc, kI (q 8) (G.2 0) 128 gl, kI (q 9) (G.2 0) 16 gk, kI (q 10) (G.2 0) 200 go, kI (q 11) (G.2 0) 8 gt] sz)) 0 0 (va_A [kO (q 0) 5 [.int cd, .int fs, .int sp, .ref (q 1), .ref (q 2), .ref (q 3), .ref (q 4), .int ln, .ref (q 5), .ref (q 6), .ref (q 7), .ref (q 8), .ref (q 9), .int fr, .int tm, .ref (q 10), .int oc, .int en, .int tr, .int ch, .ref (q 11), .int kc, .int re], kI (q 1) (G.2 0) 80 g1, kI (q 2) (G.2 0) 80 g2, kI (q 3) (G.2 0) 80 g3, kI (q 4) (G.2 1) 80 gm, kI (q 5) (G.2 1) 64 gw, kI (q 6) (G.2 0) 64 gb, kI (q 7) (G.2 0) 64 gc, kI (q 8) (G.2 0) 128 gl, kI (q 9) (G.2 0) 16 gk, kI (q 10) (G.2 0) 200 go, kI (q 11) (G.2 0) 8 gt] sz) := by
  refine kBeg (Qc := fun A => kQi G (S := Int32 × Int32 × Int32 × Int32 × Int32 × Int32 × Int32 × Int32 × Int32 × Int32 × (Nat → Int32) × (Nat → Int32) × (Nat → Int32) × (Nat → Int32) × (Nat → Int32) × Int32 × (Nat → Int32) × (Nat → Int32) × (Nat → Int32) × (Nat → Int32)) (fun r u => ((0 ≤ u.2.2.2.2.2.2.2.2.2.2.2.2.2.2.2.1.toInt ∧ u.2.2.2.2.2.2.2.2.2.2.2.2.2.2.2.1.toInt ≤ 80) ∧ ∀ j : Nat, (j : Int) < u.2.2.2.2.2.2.2.2.2.2.2.2.2.2.2.1.toInt → ((0 ≤ (u.2.2.2.2.2.2.2.2.2.2.2.2.2.2.2.2.1 j).toInt ∧ (u.2.2.2.2.2.2.2.2.2.2.2.2.2.2.2.2.1 j).toInt ≤ 12) ∧ (((u.2.2.2.2.2.2.2.2.2.2.2.2.2.2.2.2.1 j).toInt ≤ 6 ∨ (u.2.2.2.2.2.2.2.2.2.2.2.2.2.2.2.2.1 j).toInt = 8 ∨ (u.2.2.2.2.2.2.2.2.2.2.2.2.2.2.2.2.1 j).toInt = 10 ∨ (u.2.2.2.2.2.2.2.2.2.2.2.2.2.2.2.2.1 j).toInt = 11) → (0 ≤ (u.2.2.2.2.2.2.2.2.2.2.2.2.2.2.2.2.2.1 j).toInt ∧ (u.2.2.2.2.2.2.2.2.2.2.2.2.2.2.2.2.2.1 j).toInt < 8)) ∧ ((1 ≤ (u.2.2.2.2.2.2.2.2.2.2.2.2.2.2.2.2.1 j).toInt ∧ (u.2.2.2.2.2.2.2.2.2.2.2.2.2.2.2.2.1 j).toInt ≤ 6) → (0 ≤ (u.2.2.2.2.2.2.2.2.2.2.2.2.2.2.2.2.2.2.1 j).toInt ∧ (u.2.2.2.2.2.2.2.2.2.2.2.2.2.2.2.2.2.2.1 j).toInt < 8)) ∧ ((u.2.2.2.2.2.2.2.2.2.2.2.2.2.2.2.2.1 j).toInt = 9 → (0 ≤ (u.2.2.2.2.2.2.2.2.2.2.2.2.2.2.2.2.2.2.1 j).toInt ∧ (u.2.2.2.2.2.2.2.2.2.2.2.2.2.2.2.2.2.2.1 j).toInt ≤ 8)))) ∧ ((1 ≤ u.2.2.1.toInt ∧ u.2.2.1.toInt ≤ 16) ∧ (0 ≤ u.2.2.2.2.1.toInt ∧ u.2.2.2.2.1.toInt ≤ 200) ∧ (0 ≤ u.2.2.2.1.toInt ∧ u.2.2.2.1.toInt ≤ 2000) ∧ kB01 u.2.2.2.2.2.1) ∧ kCP u.2.2.2.2.2.2.2.1 ∧ (kHI fs u.2.1 u.2.2.2.2.2.2.2.2.1 u.2.2.2.2.2.2.2.2.2.1) ∧ kB01 u.2.2.2.2.2.2.1 ∧ kCh u.2.2.2.2.2.2.2.2.2.2.2.2.2.2.2.2.1 u.2.2.2.2.2.2.2.2.2.2.2.2.2.2.2.2.2.1 u.2.2.2.2.2.2.2.2.2.2.2.2.2.2.2.2.2.2.1 u.2.2.2.2.2.2.2.2.2.2.2.2.2.2.2.1 gb u.2.2.2.1.toInt (u.2.2.2.2.2.2.2.2.2.2.1, u.2.2.2.2.2.2.2.2.2.2.2.1, u.2.2.2.2.2.2.2.2.2.2.2.2.1, u.2.2.1, u.2.2.2.2.1, u.2.2.2.2.2.1)) (fun u => [kO (q 0) 5 [.int u.1, .int fs, .int u.2.1, .ref (q 1), .ref (q 2), .ref (q 3), .ref (q 4), .int u.2.2.2.2.2.2.2.2.2.2.2.2.2.2.2.1, .ref (q 5), .ref (q 6), .ref (q 7), .ref (q 8), .ref (q 9), .int u.2.2.1, .int u.2.2.2.1, .ref (q 10), .int u.2.2.2.2.1, .int u.2.2.2.2.2.1, .int u.2.2.2.2.2.2.1, .int u.2.2.2.2.2.2.2.1, .ref (q 11), .int u.2.2.2.2.2.2.2.2.1, .int u.2.2.2.2.2.2.2.2.2.1], kI (q 1) (G.2 0) 80 u.2.2.2.2.2.2.2.2.2.2.2.2.2.2.2.2.1, kI (q 2) (G.2 0) 80 u.2.2.2.2.2.2.2.2.2.2.2.2.2.2.2.2.2.1, kI (q 3) (G.2 0) 80 u.2.2.2.2.2.2.2.2.2.2.2.2.2.2.2.2.2.2.1, kI (q 4) (G.2 1) 80 u.2.2.2.2.2.2.2.2.2.2.2.2.2.2.2.2.2.2.2, kI (q 5) (G.2 1) 64 gw, kI (q 6) (G.2 0) 64 gb, kI (q 7) (G.2 0) 64 u.2.2.2.2.2.2.2.2.2.2.1, kI (q 8) (G.2 0) 128 u.2.2.2.2.2.2.2.2.2.2.2.1, kI (q 9) (G.2 0) 16 u.2.2.2.2.2.2.2.2.2.2.2.2.1, kI (q 10) (G.2 0) 200 u.2.2.2.2.2.2.2.2.2.2.2.2.2.1, kI (q 11) (G.2 0) 8 u.2.2.2.2.2.2.2.2.2.2.2.2.2.2.1]) A) (by decide) rfl (Nat.le_of_ble_eq_true rfl) ?_
  intro A p e s m below meth c ls H locs hx hb hr hts hown hlocks hnm hml hsz hP hK hD hZ hA hS hl
  have hown : s.vm.findClass RX5 = some m.cls := hown
  have hl : lv_has ls 4 [(0, .ref (q 0)), (1, .int o), (2, .int x), (3, .int y)] := hl
  have in5 : ∀ w ∈ wsX50, w ∈ wsX5_line := by decide +kernel
  have kcm1 : (-1 : Int32).toInt = -1 := by decide
  have kc0 : (0 : Int32).toInt = 0 := by decide
  have kc1 : (1 : Int32).toInt = 1 := by decide
  have kc2 : (2 : Int32).toInt = 2 := by decide
  have kc3 : (3 : Int32).toInt = 3 := by decide
  have kc80 : (80 : Int32).toInt = 80 := by decide
  obtain ⟨hsn, hcp, hhi, htr, hkc⟩ := hri
  obtain ⟨hpz, hpp⟩ := hpg
  have kc80 : (80 : Int32).toInt = 80 := by decide
  refine lv_aload_n hx hb dX5_line_0 rfl (lv_at hl 0 rfl) ?_
  refine lv_iload_n hx hb dX5_line_1 rfl (lv_at hl 1 rfl) ?_
  refine lv_iload_n hx hb dX5_line_2 rfl (lv_at hl 2 rfl) ?_
  refine lv_iload_n hx hb dX5_line_3 rfl (lv_at hl 3 rfl) ?_
  refine kCi (G := G) (ws := [kO (q 0) 5 [.int cd, .int fs, .int sp, .ref (q 1), .ref (q 2), .ref (q 3), .ref (q 4), .int ln, .ref (q 5), .ref (q 6), .ref (q 7), .ref (q 8), .ref (q 9), .int fr, .int tm, .ref (q 10), .int oc, .int en, .int tr, .int ch, .ref (q 11), .int kc, .int re], kI (q 1) (G.2 0) 80 g1, kI (q 2) (G.2 0) 80 g2, kI (q 3) (G.2 0) 80 g3, kI (q 4) (G.2 1) 80 gm, kI (q 5) (G.2 1) 64 gw, kI (q 6) (G.2 0) 64 gb, kI (q 7) (G.2 0) 64 gc, kI (q 8) (G.2 0) 128 gl, kI (q 9) (G.2 0) 16 gk, kI (q 10) (G.2 0) 200 go, kI (q 11) (G.2 0) 8 gt]) (wr := [kO (q 0) 5 [.int cd, .int fs, .int sp, .ref (q 1), .ref (q 2), .ref (q 3), .ref (q 4), .int ln, .ref (q 5), .ref (q 6), .ref (q 7), .ref (q 8), .ref (q 9), .int fr, .int tm, .ref (q 10), .int oc, .int en, .int tr, .int ch, .ref (q 11), .int kc, .int re], kI (q 1) (G.2 0) 80 g1, kI (q 2) (G.2 0) 80 g2, kI (q 3) (G.2 0) 80 g3, kI (q 4) (G.2 1) 80 gm, kI (q 5) (G.2 1) 64 gw, kI (q 6) (G.2 0) 64 gb, kI (q 7) (G.2 0) 64 gc, kI (q 8) (G.2 0) 128 gl, kI (q 9) (G.2 0) 16 gk, kI (q 10) (G.2 0) 200 go, kI (q 11) (G.2 0) 8 gt]) (va_runS (As := [.int o, .int x, .int y]) (rest := [.ref (q 0)]) ⟨hx, hb, hml, hown, hts⟩ (c_X5_isRight l G H.size o x y ) (va_cwS 3 hts gX5_line_X5_isRight rfl rfl rfl (by decide +kernel) ⟨Nat.le_of_ble_eq_true rfl, Nat.le_of_ble_eq_true rfl⟩) (kPreS kZ0 kZt hK hP hD [] rfl (by decide +kernel)) rfl rfl hl.1 rfl (lv_room (Nat.le_of_ble_eq_true rfl)) dX5_line_4 ⟨Nat.le_of_ble_eq_true rfl, Nat.le_of_ble_eq_true rfl⟩) hP hD hS hA [] [0, 1, 2, 3, 4, 5, 6, 7, 8, 9, 10, 11] rfl rfl (by decide +kernel) (by decide +kernel) (fun r2 u1 H locs hw3 hP hD hS => ?_)
  try dsimp only at hw3
  have hP : va_P G.1 vwCl [kO (q 0) 5 [.int cd, .int fs, .int sp, .ref (q 1), .ref (q 2), .ref (q 3), .ref (q 4), .int ln, .ref (q 5), .ref (q 6), .ref (q 7), .ref (q 8), .ref (q 9), .int fr, .int tm, .ref (q 10), .int oc, .int en, .int tr, .int ch, .ref (q 11), .int kc, .int re], kI (q 1) (G.2 0) 80 g1, kI (q 2) (G.2 0) 80 g2, kI (q 3) (G.2 0) 80 g3, kI (q 4) (G.2 1) 80 gm, kI (q 5) (G.2 1) 64 gw, kI (q 6) (G.2 0) 64 gb, kI (q 7) (G.2 0) 64 gc, kI (q 8) (G.2 0) 128 gl, kI (q 9) (G.2 0) 16 gk, kI (q 10) (G.2 0) 200 go, kI (q 11) (G.2 0) 8 gt] H := hP
  have hD : va_D A [kO (q 0) 5 [.int cd, .int fs, .int sp, .ref (q 1), .ref (q 2), .ref (q 3), .ref (q 4), .int ln, .ref (q 5), .ref (q 6), .ref (q 7), .ref (q 8), .ref (q 9), .int fr, .int tm, .ref (q 10), .int oc, .int en, .int tr, .int ch, .ref (q 11), .int kc, .int re], kI (q 1) (G.2 0) 80 g1, kI (q 2) (G.2 0) 80 g2, kI (q 3) (G.2 0) 80 g3, kI (q 4) (G.2 1) 80 gm, kI (q 5) (G.2 1) 64 gw, kI (q 6) (G.2 0) 64 gb, kI (q 7) (G.2 0) 64 gc, kI (q 8) (G.2 0) 128 gl, kI (q 9) (G.2 0) 16 gk, kI (q 10) (G.2 0) 200 go, kI (q 11) (G.2 0) 8 gt] := hD
  rcases hw3 with ⟨rfl, hq4⟩ | ⟨rfl, hq4⟩
  · have _u := hsz
    refine lv_if_ne (tgt := 14) hx hb dX5_line_7 (by decide) (fun _ => ?_) (fun c9 => absurd c9 (by decide))
    refine lv_aload_n hx hb dX5_line_14 rfl (lv_at hl 0 rfl) ?_
    refine va_get (D := G.1) (ci := 5) (v := .int tm) (C := RX5) (T := TX5) (N := 23) hx hb hts in5 hown hK hP 0 rfl rfl 14 (by decide) (hts (.fieldLink RX5 73 "TraceDebuggerModel" "time" "I") (by decide +kernel)) (fun _ h9 => h9) rfl dX5_line_15 ?_
    refine lv_if_eq (tgt := 25) hx hb dX5_line_18 (by decide) (fun c5 => ?_) (fun c5 => ?_)
    · have t5 := i_eq.mp c5
      refine lv_aload_n hx hb dX5_line_25 rfl (lv_at hl 0 rfl) ?_
      refine va_get (D := G.1) (ci := 5) (v := .int ln) (C := RX5) (T := TX5) (N := 23) hx hb hts in5 hown hK hP 0 rfl rfl 7 (by decide) (hts (.fieldLink RX5 93 "TraceDebuggerModel" "lines" "I") (by decide +kernel)) (fun _ h9 => h9) rfl dX5_line_26 ?_
      refine lv_bipush (v := 80) hx hb dX5_line_29 (by decide) ?_
      refine lv_icmp_ne (tgt := 38) hx hb dX5_line_31 (by decide) (fun c6 => ?_) (fun c6 => ?_)
      · have t6 := i_ne.mp c6
        refine lv_iconst (v := 0) hx hb dX5_line_38 (by decide) ?_
        refine va_put (D := G.1) (ci := 5) (v := .int 0) (ty := .int) (C := RX5) (T := TX5) (N := 23) hx hb hts in5 tyX5 tyX5_ok nmX5 hown hK hP hD hS 0 rfl rfl 0 (by decide) (hts (.fieldLink RX5 51 "TraceDebuggerModel" "code" "I") (by decide +kernel)) (fun _ h9 => h9) rfl (by decide +kernel) rfl rfl (Nat.le_of_ble_eq_true rfl) dX5_line_39 (fun H locs hP hD hS => ?_)
        have hP : va_P G.1 vwCl [kO (q 0) 5 [.int 0, .int fs, .int sp, .ref (q 1), .ref (q 2), .ref (q 3), .ref (q 4), .int ln, .ref (q 5), .ref (q 6), .ref (q 7), .ref (q 8), .ref (q 9), .int fr, .int tm, .ref (q 10), .int oc, .int en, .int tr, .int ch, .ref (q 11), .int kc, .int re], kI (q 1) (G.2 0) 80 g1, kI (q 2) (G.2 0) 80 g2, kI (q 3) (G.2 0) 80 g3, kI (q 4) (G.2 1) 80 gm, kI (q 5) (G.2 1) 64 gw, kI (q 6) (G.2 0) 64 gb, kI (q 7) (G.2 0) 64 gc, kI (q 8) (G.2 0) 128 gl, kI (q 9) (G.2 0) 16 gk, kI (q 10) (G.2 0) 200 go, kI (q 11) (G.2 0) 8 gt] H := hP
        have hD : va_D A [kO (q 0) 5 [.int 0, .int fs, .int sp, .ref (q 1), .ref (q 2), .ref (q 3), .ref (q 4), .int ln, .ref (q 5), .ref (q 6), .ref (q 7), .ref (q 8), .ref (q 9), .int fr, .int tm, .ref (q 10), .int oc, .int en, .int tr, .int ch, .ref (q 11), .int kc, .int re], kI (q 1) (G.2 0) 80 g1, kI (q 2) (G.2 0) 80 g2, kI (q 3) (G.2 0) 80 g3, kI (q 4) (G.2 1) 80 gm, kI (q 5) (G.2 1) 64 gw, kI (q 6) (G.2 0) 64 gb, kI (q 7) (G.2 0) 64 gc, kI (q 8) (G.2 0) 128 gl, kI (q 9) (G.2 0) 16 gk, kI (q 10) (G.2 0) 200 go, kI (q 11) (G.2 0) 8 gt] := hD
        refine lv_aload_n hx hb dX5_line_42 rfl (lv_at hl 0 rfl) ?_
        refine va_get (D := G.1) (ci := 5) (v := .int 0) (C := RX5) (T := TX5) (N := 23) hx hb hts in5 hown hK hP 0 rfl rfl 0 (by decide) (hts (.fieldLink RX5 51 "TraceDebuggerModel" "code" "I") (by decide +kernel)) (fun _ h9 => h9) rfl dX5_line_43 ?_
        refine lv_if_le (tgt := 51) hx hb dX5_line_46 (by decide) (fun _ => ?_) (fun c9 => absurd c9 (by decide))
        refine lv_aload_n hx hb dX5_line_51 rfl (lv_at hl 0 rfl) ?_
        refine va_get (D := G.1) (ci := 5) (v := .ref (q 1)) (C := RX5) (T := TX5) (N := 23) hx hb hts in5 hown hK hP 0 rfl rfl 3 (by decide) (hts (.fieldLink RX5 7 "TraceDebuggerModel" "operations" "[I") (by decide +kernel)) (fun _ h9 => h9) rfl dX5_line_52 ?_
        refine lv_aload_n hx hb dX5_line_55 rfl (lv_at hl 0 rfl) ?_
        refine va_get (D := G.1) (ci := 5) (v := .int ln) (C := RX5) (T := TX5) (N := 23) hx hb hts in5 hown hK hP 0 rfl rfl 7 (by decide) (hts (.fieldLink RX5 93 "TraceDebuggerModel" "lines" "I") (by decide +kernel)) (fun _ h9 => h9) rfl dX5_line_56 ?_
        refine lv_iload_n hx hb dX5_line_59 rfl (lv_at hl 1 rfl) ?_
        refine va_iast (D := G.1) hx hb hK hP hD hS 1 0 rfl rfl (vp_in_iff.mpr (by omega)) dX5_line_60 (fun H locs hP hD hS => ?_)
        have hP : va_P G.1 vwCl [kO (q 0) 5 [.int 0, .int fs, .int sp, .ref (q 1), .ref (q 2), .ref (q 3), .ref (q 4), .int ln, .ref (q 5), .ref (q 6), .ref (q 7), .ref (q 8), .ref (q 9), .int fr, .int tm, .ref (q 10), .int oc, .int en, .int tr, .int ch, .ref (q 11), .int kc, .int re], kI (q 1) (G.2 0) 80 (upd g1 ln.toNatClampNeg o), kI (q 2) (G.2 0) 80 g2, kI (q 3) (G.2 0) 80 g3, kI (q 4) (G.2 1) 80 gm, kI (q 5) (G.2 1) 64 gw, kI (q 6) (G.2 0) 64 gb, kI (q 7) (G.2 0) 64 gc, kI (q 8) (G.2 0) 128 gl, kI (q 9) (G.2 0) 16 gk, kI (q 10) (G.2 0) 200 go, kI (q 11) (G.2 0) 8 gt] H := hP
        have hD : va_D A [kO (q 0) 5 [.int 0, .int fs, .int sp, .ref (q 1), .ref (q 2), .ref (q 3), .ref (q 4), .int ln, .ref (q 5), .ref (q 6), .ref (q 7), .ref (q 8), .ref (q 9), .int fr, .int tm, .ref (q 10), .int oc, .int en, .int tr, .int ch, .ref (q 11), .int kc, .int re], kI (q 1) (G.2 0) 80 (upd g1 ln.toNatClampNeg o), kI (q 2) (G.2 0) 80 g2, kI (q 3) (G.2 0) 80 g3, kI (q 4) (G.2 1) 80 gm, kI (q 5) (G.2 1) 64 gw, kI (q 6) (G.2 0) 64 gb, kI (q 7) (G.2 0) 64 gc, kI (q 8) (G.2 0) 128 gl, kI (q 9) (G.2 0) 16 gk, kI (q 10) (G.2 0) 200 go, kI (q 11) (G.2 0) 8 gt] := hD
        refine lv_aload_n hx hb dX5_line_61 rfl (lv_at hl 0 rfl) ?_
        refine va_get (D := G.1) (ci := 5) (v := .ref (q 2)) (C := RX5) (T := TX5) (N := 23) hx hb hts in5 hown hK hP 0 rfl rfl 4 (by decide) (hts (.fieldLink RX5 13 "TraceDebuggerModel" "as" "[I") (by decide +kernel)) (fun _ h9 => h9) rfl dX5_line_62 ?_
        refine lv_aload_n hx hb dX5_line_65 rfl (lv_at hl 0 rfl) ?_
        refine va_get (D := G.1) (ci := 5) (v := .int ln) (C := RX5) (T := TX5) (N := 23) hx hb hts in5 hown hK hP 0 rfl rfl 7 (by decide) (hts (.fieldLink RX5 93 "TraceDebuggerModel" "lines" "I") (by decide +kernel)) (fun _ h9 => h9) rfl dX5_line_66 ?_
        refine lv_iload_n hx hb dX5_line_69 rfl (lv_at hl 2 rfl) ?_
        refine va_iast (D := G.1) hx hb hK hP hD hS 2 0 rfl rfl (vp_in_iff.mpr (by omega)) dX5_line_70 (fun H locs hP hD hS => ?_)
        have hP : va_P G.1 vwCl [kO (q 0) 5 [.int 0, .int fs, .int sp, .ref (q 1), .ref (q 2), .ref (q 3), .ref (q 4), .int ln, .ref (q 5), .ref (q 6), .ref (q 7), .ref (q 8), .ref (q 9), .int fr, .int tm, .ref (q 10), .int oc, .int en, .int tr, .int ch, .ref (q 11), .int kc, .int re], kI (q 1) (G.2 0) 80 (upd g1 ln.toNatClampNeg o), kI (q 2) (G.2 0) 80 (upd g2 ln.toNatClampNeg x), kI (q 3) (G.2 0) 80 g3, kI (q 4) (G.2 1) 80 gm, kI (q 5) (G.2 1) 64 gw, kI (q 6) (G.2 0) 64 gb, kI (q 7) (G.2 0) 64 gc, kI (q 8) (G.2 0) 128 gl, kI (q 9) (G.2 0) 16 gk, kI (q 10) (G.2 0) 200 go, kI (q 11) (G.2 0) 8 gt] H := hP
        have hD : va_D A [kO (q 0) 5 [.int 0, .int fs, .int sp, .ref (q 1), .ref (q 2), .ref (q 3), .ref (q 4), .int ln, .ref (q 5), .ref (q 6), .ref (q 7), .ref (q 8), .ref (q 9), .int fr, .int tm, .ref (q 10), .int oc, .int en, .int tr, .int ch, .ref (q 11), .int kc, .int re], kI (q 1) (G.2 0) 80 (upd g1 ln.toNatClampNeg o), kI (q 2) (G.2 0) 80 (upd g2 ln.toNatClampNeg x), kI (q 3) (G.2 0) 80 g3, kI (q 4) (G.2 1) 80 gm, kI (q 5) (G.2 1) 64 gw, kI (q 6) (G.2 0) 64 gb, kI (q 7) (G.2 0) 64 gc, kI (q 8) (G.2 0) 128 gl, kI (q 9) (G.2 0) 16 gk, kI (q 10) (G.2 0) 200 go, kI (q 11) (G.2 0) 8 gt] := hD
        refine lv_aload_n hx hb dX5_line_71 rfl (lv_at hl 0 rfl) ?_
        refine va_get (D := G.1) (ci := 5) (v := .ref (q 3)) (C := RX5) (T := TX5) (N := 23) hx hb hts in5 hown hK hP 0 rfl rfl 5 (by decide) (hts (.fieldLink RX5 16 "TraceDebuggerModel" "bs" "[I") (by decide +kernel)) (fun _ h9 => h9) rfl dX5_line_72 ?_
        refine lv_aload_n hx hb dX5_line_75 rfl (lv_at hl 0 rfl) ?_
        refine va_get (D := G.1) (ci := 5) (v := .int ln) (C := RX5) (T := TX5) (N := 23) hx hb hts in5 hown hK hP 0 rfl rfl 7 (by decide) (hts (.fieldLink RX5 93 "TraceDebuggerModel" "lines" "I") (by decide +kernel)) (fun _ h9 => h9) rfl dX5_line_76 ?_
        refine lv_iload_n hx hb dX5_line_79 rfl (lv_at hl 3 rfl) ?_
        refine va_iast (D := G.1) hx hb hK hP hD hS 3 0 rfl rfl (vp_in_iff.mpr (by omega)) dX5_line_80 (fun H locs hP hD hS => ?_)
        have hP : va_P G.1 vwCl [kO (q 0) 5 [.int 0, .int fs, .int sp, .ref (q 1), .ref (q 2), .ref (q 3), .ref (q 4), .int ln, .ref (q 5), .ref (q 6), .ref (q 7), .ref (q 8), .ref (q 9), .int fr, .int tm, .ref (q 10), .int oc, .int en, .int tr, .int ch, .ref (q 11), .int kc, .int re], kI (q 1) (G.2 0) 80 (upd g1 ln.toNatClampNeg o), kI (q 2) (G.2 0) 80 (upd g2 ln.toNatClampNeg x), kI (q 3) (G.2 0) 80 (upd g3 ln.toNatClampNeg y), kI (q 4) (G.2 1) 80 gm, kI (q 5) (G.2 1) 64 gw, kI (q 6) (G.2 0) 64 gb, kI (q 7) (G.2 0) 64 gc, kI (q 8) (G.2 0) 128 gl, kI (q 9) (G.2 0) 16 gk, kI (q 10) (G.2 0) 200 go, kI (q 11) (G.2 0) 8 gt] H := hP
        have hD : va_D A [kO (q 0) 5 [.int 0, .int fs, .int sp, .ref (q 1), .ref (q 2), .ref (q 3), .ref (q 4), .int ln, .ref (q 5), .ref (q 6), .ref (q 7), .ref (q 8), .ref (q 9), .int fr, .int tm, .ref (q 10), .int oc, .int en, .int tr, .int ch, .ref (q 11), .int kc, .int re], kI (q 1) (G.2 0) 80 (upd g1 ln.toNatClampNeg o), kI (q 2) (G.2 0) 80 (upd g2 ln.toNatClampNeg x), kI (q 3) (G.2 0) 80 (upd g3 ln.toNatClampNeg y), kI (q 4) (G.2 1) 80 gm, kI (q 5) (G.2 1) 64 gw, kI (q 6) (G.2 0) 64 gb, kI (q 7) (G.2 0) 64 gc, kI (q 8) (G.2 0) 128 gl, kI (q 9) (G.2 0) 16 gk, kI (q 10) (G.2 0) 200 go, kI (q 11) (G.2 0) 8 gt] := hD
        refine lv_aload_n hx hb dX5_line_81 rfl (lv_at hl 0 rfl) ?_
        refine va_get (D := G.1) (ci := 5) (v := .ref (q 4)) (C := RX5) (T := TX5) (N := 23) hx hb hts in5 hown hK hP 0 rfl rfl 6 (by decide) (hts (.fieldLink RX5 19 "TraceDebuggerModel" "marks" "[Z") (by decide +kernel)) (fun _ h9 => h9) rfl dX5_line_82 ?_
        refine lv_aload_n hx hb dX5_line_85 rfl (lv_at hl 0 rfl) ?_
        refine va_get (D := G.1) (ci := 5) (v := .int ln) (C := RX5) (T := TX5) (N := 23) hx hb hts in5 hown hK hP 0 rfl rfl 7 (by decide) (hts (.fieldLink RX5 93 "TraceDebuggerModel" "lines" "I") (by decide +kernel)) (fun _ h9 => h9) rfl dX5_line_86 ?_
        refine lv_iconst (v := 0) hx hb dX5_line_89 (by decide) ?_
        refine va_zast (D := G.1) hx hb hK hP hD hS 4 1 rfl rfl (vp_in_iff.mpr (by omega)) dX5_line_90 (fun H locs hP hD hS => ?_)
        have hP : va_P G.1 vwCl [kO (q 0) 5 [.int 0, .int fs, .int sp, .ref (q 1), .ref (q 2), .ref (q 3), .ref (q 4), .int ln, .ref (q 5), .ref (q 6), .ref (q 7), .ref (q 8), .ref (q 9), .int fr, .int tm, .ref (q 10), .int oc, .int en, .int tr, .int ch, .ref (q 11), .int kc, .int re], kI (q 1) (G.2 0) 80 (upd g1 ln.toNatClampNeg o), kI (q 2) (G.2 0) 80 (upd g2 ln.toNatClampNeg x), kI (q 3) (G.2 0) 80 (upd g3 ln.toNatClampNeg y), kI (q 4) (G.2 1) 80 (upd gm ln.toNatClampNeg (vp_nar .boolean 0)), kI (q 5) (G.2 1) 64 gw, kI (q 6) (G.2 0) 64 gb, kI (q 7) (G.2 0) 64 gc, kI (q 8) (G.2 0) 128 gl, kI (q 9) (G.2 0) 16 gk, kI (q 10) (G.2 0) 200 go, kI (q 11) (G.2 0) 8 gt] H := hP
        have hD : va_D A [kO (q 0) 5 [.int 0, .int fs, .int sp, .ref (q 1), .ref (q 2), .ref (q 3), .ref (q 4), .int ln, .ref (q 5), .ref (q 6), .ref (q 7), .ref (q 8), .ref (q 9), .int fr, .int tm, .ref (q 10), .int oc, .int en, .int tr, .int ch, .ref (q 11), .int kc, .int re], kI (q 1) (G.2 0) 80 (upd g1 ln.toNatClampNeg o), kI (q 2) (G.2 0) 80 (upd g2 ln.toNatClampNeg x), kI (q 3) (G.2 0) 80 (upd g3 ln.toNatClampNeg y), kI (q 4) (G.2 1) 80 (upd gm ln.toNatClampNeg (vp_nar .boolean 0)), kI (q 5) (G.2 1) 64 gw, kI (q 6) (G.2 0) 64 gb, kI (q 7) (G.2 0) 64 gc, kI (q 8) (G.2 0) 128 gl, kI (q 9) (G.2 0) 16 gk, kI (q 10) (G.2 0) 200 go, kI (q 11) (G.2 0) 8 gt] := hD
        refine lv_aload_n hx hb dX5_line_91 rfl (lv_at hl 0 rfl) ?_
        refine lv_dup hx hb dX5_line_92 rfl ?_
        refine va_get (D := G.1) (ci := 5) (v := .int ln) (C := RX5) (T := TX5) (N := 23) hx hb hts in5 hown hK hP 0 rfl rfl 7 (by decide) (hts (.fieldLink RX5 93 "TraceDebuggerModel" "lines" "I") (by decide +kernel)) (fun _ h9 => h9) rfl dX5_line_93 ?_
        refine lv_iconst (v := 1) hx hb dX5_line_96 (by decide) ?_
        refine lv_iadd hx hb dX5_line_97 ?_
        have a7 : ((ln + 1) : Int32).toInt = (ln : Int32).toInt + (1 : Int32).toInt := i_add (by omega) (by omega)
        refine va_put (D := G.1) (ci := 5) (v := .int (ln + 1)) (ty := .int) (C := RX5) (T := TX5) (N := 23) hx hb hts in5 tyX5 tyX5_ok nmX5 hown hK hP hD hS 0 rfl rfl 7 (by decide) (hts (.fieldLink RX5 93 "TraceDebuggerModel" "lines" "I") (by decide +kernel)) (fun _ h9 => h9) rfl (by decide +kernel) rfl rfl (Nat.le_of_ble_eq_true rfl) dX5_line_98 (fun H locs hP hD hS => ?_)
        have hP : va_P G.1 vwCl [kO (q 0) 5 [.int 0, .int fs, .int sp, .ref (q 1), .ref (q 2), .ref (q 3), .ref (q 4), .int (ln + 1), .ref (q 5), .ref (q 6), .ref (q 7), .ref (q 8), .ref (q 9), .int fr, .int tm, .ref (q 10), .int oc, .int en, .int tr, .int ch, .ref (q 11), .int kc, .int re], kI (q 1) (G.2 0) 80 (upd g1 ln.toNatClampNeg o), kI (q 2) (G.2 0) 80 (upd g2 ln.toNatClampNeg x), kI (q 3) (G.2 0) 80 (upd g3 ln.toNatClampNeg y), kI (q 4) (G.2 1) 80 (upd gm ln.toNatClampNeg (vp_nar .boolean 0)), kI (q 5) (G.2 1) 64 gw, kI (q 6) (G.2 0) 64 gb, kI (q 7) (G.2 0) 64 gc, kI (q 8) (G.2 0) 128 gl, kI (q 9) (G.2 0) 16 gk, kI (q 10) (G.2 0) 200 go, kI (q 11) (G.2 0) 8 gt] H := hP
        have hD : va_D A [kO (q 0) 5 [.int 0, .int fs, .int sp, .ref (q 1), .ref (q 2), .ref (q 3), .ref (q 4), .int (ln + 1), .ref (q 5), .ref (q 6), .ref (q 7), .ref (q 8), .ref (q 9), .int fr, .int tm, .ref (q 10), .int oc, .int en, .int tr, .int ch, .ref (q 11), .int kc, .int re], kI (q 1) (G.2 0) 80 (upd g1 ln.toNatClampNeg o), kI (q 2) (G.2 0) 80 (upd g2 ln.toNatClampNeg x), kI (q 3) (G.2 0) 80 (upd g3 ln.toNatClampNeg y), kI (q 4) (G.2 1) 80 (upd gm ln.toNatClampNeg (vp_nar .boolean 0)), kI (q 5) (G.2 1) 64 gw, kI (q 6) (G.2 0) 64 gb, kI (q 7) (G.2 0) 64 gc, kI (q 8) (G.2 0) 128 gl, kI (q 9) (G.2 0) 16 gk, kI (q 10) (G.2 0) 200 go, kI (q 11) (G.2 0) 8 gt] := hD
        refine lv_aload_n hx hb dX5_line_101 rfl (lv_at hl 0 rfl) ?_
        refine kCv (G := G) (ws := [kO (q 0) 5 [.int 0, .int fs, .int sp, .ref (q 1), .ref (q 2), .ref (q 3), .ref (q 4), .int (ln + 1), .ref (q 5), .ref (q 6), .ref (q 7), .ref (q 8), .ref (q 9), .int fr, .int tm, .ref (q 10), .int oc, .int en, .int tr, .int ch, .ref (q 11), .int kc, .int re], kI (q 1) (G.2 0) 80 (upd g1 ln.toNatClampNeg o), kI (q 2) (G.2 0) 80 (upd g2 ln.toNatClampNeg x), kI (q 3) (G.2 0) 80 (upd g3 ln.toNatClampNeg y), kI (q 4) (G.2 1) 80 (upd gm ln.toNatClampNeg (vp_nar .boolean 0)), kI (q 5) (G.2 1) 64 gw, kI (q 6) (G.2 0) 64 gb, kI (q 7) (G.2 0) 64 gc, kI (q 8) (G.2 0) 128 gl, kI (q 9) (G.2 0) 16 gk, kI (q 10) (G.2 0) 200 go, kI (q 11) (G.2 0) 8 gt]) (wr := [kI (q 1) (G.2 0) 80 (upd g1 ln.toNatClampNeg o), kI (q 2) (G.2 0) 80 (upd g2 ln.toNatClampNeg x), kI (q 3) (G.2 0) 80 (upd g3 ln.toNatClampNeg y), kI (q 4) (G.2 1) 80 (upd gm ln.toNatClampNeg (vp_nar .boolean 0)), kI (q 5) (G.2 1) 64 gw, kI (q 10) (G.2 0) 200 go]) (va_runV (As := []) (rest := []) ⟨hx, hb, hml, hown, hts⟩ (c_X5_anew l G H.size q fs 0 sp (ln + 1) fr tm oc en tr ch kc re (upd g1 ln.toNatClampNeg o) (upd g2 ln.toNatClampNeg x) (upd g3 ln.toNatClampNeg y) (upd gm ln.toNatClampNeg (vp_nar .boolean 0)) gw gb gc gl gk go gt ) (cwV 0 hts gX5_line_X5_anew rfl rfl rfl (by decide +kernel) ⟨Nat.le_of_ble_eq_true rfl, Nat.le_of_ble_eq_true rfl⟩) (kPreV (va_recv hK hP (ci := 5) (q0 := 0) rfl rfl) kZ0 kZt hK hP hD [0, 6, 7, 8, 9, 11] rfl (by decide +kernel)) rfl rfl hl.1 rfl (lv_room (Nat.le_of_ble_eq_true rfl)) dX5_line_102 ⟨Nat.le_of_ble_eq_true rfl, Nat.le_of_ble_eq_true rfl⟩) hP hD hS hA [0, 6, 7, 8, 9, 11] [1, 2, 3, 4, 5, 10] rfl rfl (by decide +kernel) (by decide +kernel) (fun u8 H locs hw10 hP hD hS => ?_)
        obtain ⟨gt11, rfl⟩ : ∃ z, z = u8 := ⟨_, rfl⟩
        try dsimp only at hw10
        have hP : va_P G.1 vwCl [kI (q 1) (G.2 0) 80 (upd g1 ln.toNatClampNeg o), kI (q 2) (G.2 0) 80 (upd g2 ln.toNatClampNeg x), kI (q 3) (G.2 0) 80 (upd g3 ln.toNatClampNeg y), kI (q 4) (G.2 1) 80 (upd gm ln.toNatClampNeg (vp_nar .boolean 0)), kI (q 5) (G.2 1) 64 gw, kI (q 10) (G.2 0) 200 go, kO (q 0) 5 [.int 0, .int fs, .int fs, .ref (q 1), .ref (q 2), .ref (q 3), .ref (q 4), .int (ln + 1), .ref (q 5), .ref (q 6), .ref (q 7), .ref (q 8), .ref (q 9), .int 1, .int 0, .ref (q 10), .int 0, .int 0, .int 0, .int (-1), .ref (q 11), .int 1, .int 0], kI (q 6) (G.2 0) 64 gb, kI (q 7) (G.2 0) 64 gb, kI (q 8) (G.2 0) 128 (fun _ => 0), kI (q 9) (G.2 0) 16 (upd gk (0 : Int32).toNatClampNeg 0), kI (q 11) (G.2 0) 8 gt11] H := hP
        have hD : va_D A [kI (q 1) (G.2 0) 80 (upd g1 ln.toNatClampNeg o), kI (q 2) (G.2 0) 80 (upd g2 ln.toNatClampNeg x), kI (q 3) (G.2 0) 80 (upd g3 ln.toNatClampNeg y), kI (q 4) (G.2 1) 80 (upd gm ln.toNatClampNeg (vp_nar .boolean 0)), kI (q 5) (G.2 1) 64 gw, kI (q 10) (G.2 0) 200 go, kO (q 0) 5 [.int 0, .int fs, .int fs, .ref (q 1), .ref (q 2), .ref (q 3), .ref (q 4), .int (ln + 1), .ref (q 5), .ref (q 6), .ref (q 7), .ref (q 8), .ref (q 9), .int 1, .int 0, .ref (q 10), .int 0, .int 0, .int 0, .int (-1), .ref (q 11), .int 1, .int 0], kI (q 6) (G.2 0) 64 gb, kI (q 7) (G.2 0) 64 gb, kI (q 8) (G.2 0) 128 (fun _ => 0), kI (q 9) (G.2 0) 16 (upd gk (0 : Int32).toNatClampNeg 0), kI (q 11) (G.2 0) 8 gt11] := hD
        have hsn0 : ((1 ≤ (1 : Int32).toInt ∧ (1 : Int32).toInt ≤ 16) ∧ (0 ≤ (0 : Int32).toInt ∧ (0 : Int32).toInt ≤ 200) ∧ (0 ≤ (0 : Int32).toInt ∧ (0 : Int32).toInt ≤ 2000) ∧ kB01 (0 : Int32)) := ⟨⟨by omega, by omega⟩, ⟨by omega, by omega⟩, ⟨by omega, by omega⟩, Or.inl rfl⟩
        have hcp0 : kCP (-1) := Or.inl kcm1
        have hhi0 : kHI fs fs 1 0 := by unfold kHI at hhi ⊢; omega
        refine lv_aload_n hx hb dX5_line_105 rfl (lv_at hl 0 rfl) ?_
        refine va_get (D := G.1) (ci := 5) (v := .int (ln + 1)) (C := RX5) (T := TX5) (N := 23) hx hb hts in5 hown hK hP 6 rfl rfl 7 (by decide) (hts (.fieldLink RX5 93 "TraceDebuggerModel" "lines" "I") (by decide +kernel)) (fun _ h9 => h9) rfl dX5_line_106 ?_
        refine lv_iconst (v := 1) hx hb dX5_line_109 (by decide) ?_
        refine lv_isub hx hb dX5_line_110 ?_
        have a12 : (((ln + 1) - 1) : Int32).toInt = ((ln + 1) : Int32).toInt - (1 : Int32).toInt := i_sub (by omega) (by omega)
        exact kRetI (G := G) (0, fs, 1, 0, 0, 0, 0, (-1), 1, 0, gb, (fun _ => 0), (upd gk (0 : Int32).toNatClampNeg 0), go, gt11, (ln + 1), (upd g1 ln.toNatClampNeg o), (upd g2 ln.toNatClampNeg x), (upd g3 ln.toNatClampNeg y), (upd gm ln.toNatClampNeg (vp_nar .boolean 0))) hx hb hr hlocks hS dX5_line_111 (kSubP (wc := [kO (q 0) 5 [.int 0, .int fs, .int fs, .ref (q 1), .ref (q 2), .ref (q 3), .ref (q 4), .int (ln + 1), .ref (q 5), .ref (q 6), .ref (q 7), .ref (q 8), .ref (q 9), .int 1, .int 0, .ref (q 10), .int 0, .int 0, .int 0, .int (-1), .ref (q 11), .int 1, .int 0], kI (q 1) (G.2 0) 80 (upd g1 ln.toNatClampNeg o), kI (q 2) (G.2 0) 80 (upd g2 ln.toNatClampNeg x), kI (q 3) (G.2 0) 80 (upd g3 ln.toNatClampNeg y), kI (q 4) (G.2 1) 80 (upd gm ln.toNatClampNeg (vp_nar .boolean 0)), kI (q 5) (G.2 1) 64 gw, kI (q 6) (G.2 0) 64 gb, kI (q 7) (G.2 0) 64 gb, kI (q 8) (G.2 0) 128 (fun _ => 0), kI (q 9) (G.2 0) 16 (upd gk (0 : Int32).toNatClampNeg 0), kI (q 10) (G.2 0) 200 go, kI (q 11) (G.2 0) 8 gt11]) hP [6, 0, 1, 2, 3, 4, 7, 8, 9, 10, 5, 11] rfl) (hD.sub (ws' := [kO (q 0) 5 [.int 0, .int fs, .int fs, .ref (q 1), .ref (q 2), .ref (q 3), .ref (q 4), .int (ln + 1), .ref (q 5), .ref (q 6), .ref (q 7), .ref (q 8), .ref (q 9), .int 1, .int 0, .ref (q 10), .int 0, .int 0, .int 0, .int (-1), .ref (q 11), .int 1, .int 0], kI (q 1) (G.2 0) 80 (upd g1 ln.toNatClampNeg o), kI (q 2) (G.2 0) 80 (upd g2 ln.toNatClampNeg x), kI (q 3) (G.2 0) 80 (upd g3 ln.toNatClampNeg y), kI (q 4) (G.2 1) 80 (upd gm ln.toNatClampNeg (vp_nar .boolean 0)), kI (q 5) (G.2 1) 64 gw, kI (q 6) (G.2 0) 64 gb, kI (q 7) (G.2 0) 64 gb, kI (q 8) (G.2 0) 128 (fun _ => 0), kI (q 9) (G.2 0) 16 (upd gk (0 : Int32).toNatClampNeg 0), kI (q 10) (G.2 0) 200 go, kI (q 11) (G.2 0) 8 gt11]) [6, 0, 1, 2, 3, 4, 7, 8, 9, 10, 5, 11] (by decide +kernel) rfl) (by (try dsimp only); exact ⟨⟨⟨by omega, by omega⟩, kAppOk (P := fun o9 x9 y9 => ((0 ≤ o9.toInt ∧ o9.toInt ≤ 12) ∧ ((o9.toInt ≤ 6 ∨ o9.toInt = 8 ∨ o9.toInt = 10 ∨ o9.toInt = 11) → (0 ≤ x9.toInt ∧ x9.toInt < 8)) ∧ ((1 ≤ o9.toInt ∧ o9.toInt ≤ 6) → (0 ≤ y9.toInt ∧ y9.toInt < 8)) ∧ (o9.toInt = 9 → (0 ≤ y9.toInt ∧ y9.toInt ≤ 8)))) hpp hpz.1 (by omega) hq4⟩, hsn0, hcp0, hhi0, (by first | exact Or.inl rfl | exact Or.inr rfl | exact (Or.inl rfl)), kCh.start⟩)
      · have t6 := i_eq.mp c6
        refine lv_iconst (v := 3) hx hb dX5_line_34 (by decide) ?_
        refine lv_goto (tgt := 39) hx hb dX5_line_35 (by decide) ?_
        refine va_put (D := G.1) (ci := 5) (v := .int 3) (ty := .int) (C := RX5) (T := TX5) (N := 23) hx hb hts in5 tyX5 tyX5_ok nmX5 hown hK hP hD hS 0 rfl rfl 0 (by decide) (hts (.fieldLink RX5 51 "TraceDebuggerModel" "code" "I") (by decide +kernel)) (fun _ h9 => h9) rfl (by decide +kernel) rfl rfl (Nat.le_of_ble_eq_true rfl) dX5_line_39 (fun H locs hP hD hS => ?_)
        have hP : va_P G.1 vwCl [kO (q 0) 5 [.int 3, .int fs, .int sp, .ref (q 1), .ref (q 2), .ref (q 3), .ref (q 4), .int ln, .ref (q 5), .ref (q 6), .ref (q 7), .ref (q 8), .ref (q 9), .int fr, .int tm, .ref (q 10), .int oc, .int en, .int tr, .int ch, .ref (q 11), .int kc, .int re], kI (q 1) (G.2 0) 80 g1, kI (q 2) (G.2 0) 80 g2, kI (q 3) (G.2 0) 80 g3, kI (q 4) (G.2 1) 80 gm, kI (q 5) (G.2 1) 64 gw, kI (q 6) (G.2 0) 64 gb, kI (q 7) (G.2 0) 64 gc, kI (q 8) (G.2 0) 128 gl, kI (q 9) (G.2 0) 16 gk, kI (q 10) (G.2 0) 200 go, kI (q 11) (G.2 0) 8 gt] H := hP
        have hD : va_D A [kO (q 0) 5 [.int 3, .int fs, .int sp, .ref (q 1), .ref (q 2), .ref (q 3), .ref (q 4), .int ln, .ref (q 5), .ref (q 6), .ref (q 7), .ref (q 8), .ref (q 9), .int fr, .int tm, .ref (q 10), .int oc, .int en, .int tr, .int ch, .ref (q 11), .int kc, .int re], kI (q 1) (G.2 0) 80 g1, kI (q 2) (G.2 0) 80 g2, kI (q 3) (G.2 0) 80 g3, kI (q 4) (G.2 1) 80 gm, kI (q 5) (G.2 1) 64 gw, kI (q 6) (G.2 0) 64 gb, kI (q 7) (G.2 0) 64 gc, kI (q 8) (G.2 0) 128 gl, kI (q 9) (G.2 0) 16 gk, kI (q 10) (G.2 0) 200 go, kI (q 11) (G.2 0) 8 gt] := hD
        refine lv_aload_n hx hb dX5_line_42 rfl (lv_at hl 0 rfl) ?_
        refine va_get (D := G.1) (ci := 5) (v := .int 3) (C := RX5) (T := TX5) (N := 23) hx hb hts in5 hown hK hP 0 rfl rfl 0 (by decide) (hts (.fieldLink RX5 51 "TraceDebuggerModel" "code" "I") (by decide +kernel)) (fun _ h9 => h9) rfl dX5_line_43 ?_
        refine lv_if_le (tgt := 51) hx hb dX5_line_46 (by decide) (fun c9 => absurd c9 (by decide)) (fun _ => ?_)
        refine lv_iconst (v := 0) hx hb dX5_line_49 (by decide) ?_
        exact kRetI (G := G) (3, sp, fr, tm, oc, en, tr, ch, kc, re, gc, gl, gk, go, gt, ln, g1, g2, g3, gm) hx hb hr hlocks hS dX5_line_50 hP hD (by (try dsimp only); exact ⟨⟨hpz, hpp⟩, hsn, hcp, hhi, (by first | exact Or.inl rfl | exact Or.inr rfl | exact htr), hkc⟩)
    · have t5 := i_ne.mp c5
      refine lv_iconst (v := 2) hx hb dX5_line_21 (by decide) ?_
      refine lv_goto (tgt := 39) hx hb dX5_line_22 (by decide) ?_
      refine va_put (D := G.1) (ci := 5) (v := .int 2) (ty := .int) (C := RX5) (T := TX5) (N := 23) hx hb hts in5 tyX5 tyX5_ok nmX5 hown hK hP hD hS 0 rfl rfl 0 (by decide) (hts (.fieldLink RX5 51 "TraceDebuggerModel" "code" "I") (by decide +kernel)) (fun _ h9 => h9) rfl (by decide +kernel) rfl rfl (Nat.le_of_ble_eq_true rfl) dX5_line_39 (fun H locs hP hD hS => ?_)
      have hP : va_P G.1 vwCl [kO (q 0) 5 [.int 2, .int fs, .int sp, .ref (q 1), .ref (q 2), .ref (q 3), .ref (q 4), .int ln, .ref (q 5), .ref (q 6), .ref (q 7), .ref (q 8), .ref (q 9), .int fr, .int tm, .ref (q 10), .int oc, .int en, .int tr, .int ch, .ref (q 11), .int kc, .int re], kI (q 1) (G.2 0) 80 g1, kI (q 2) (G.2 0) 80 g2, kI (q 3) (G.2 0) 80 g3, kI (q 4) (G.2 1) 80 gm, kI (q 5) (G.2 1) 64 gw, kI (q 6) (G.2 0) 64 gb, kI (q 7) (G.2 0) 64 gc, kI (q 8) (G.2 0) 128 gl, kI (q 9) (G.2 0) 16 gk, kI (q 10) (G.2 0) 200 go, kI (q 11) (G.2 0) 8 gt] H := hP
      have hD : va_D A [kO (q 0) 5 [.int 2, .int fs, .int sp, .ref (q 1), .ref (q 2), .ref (q 3), .ref (q 4), .int ln, .ref (q 5), .ref (q 6), .ref (q 7), .ref (q 8), .ref (q 9), .int fr, .int tm, .ref (q 10), .int oc, .int en, .int tr, .int ch, .ref (q 11), .int kc, .int re], kI (q 1) (G.2 0) 80 g1, kI (q 2) (G.2 0) 80 g2, kI (q 3) (G.2 0) 80 g3, kI (q 4) (G.2 1) 80 gm, kI (q 5) (G.2 1) 64 gw, kI (q 6) (G.2 0) 64 gb, kI (q 7) (G.2 0) 64 gc, kI (q 8) (G.2 0) 128 gl, kI (q 9) (G.2 0) 16 gk, kI (q 10) (G.2 0) 200 go, kI (q 11) (G.2 0) 8 gt] := hD
      refine lv_aload_n hx hb dX5_line_42 rfl (lv_at hl 0 rfl) ?_
      refine va_get (D := G.1) (ci := 5) (v := .int 2) (C := RX5) (T := TX5) (N := 23) hx hb hts in5 hown hK hP 0 rfl rfl 0 (by decide) (hts (.fieldLink RX5 51 "TraceDebuggerModel" "code" "I") (by decide +kernel)) (fun _ h9 => h9) rfl dX5_line_43 ?_
      refine lv_if_le (tgt := 51) hx hb dX5_line_46 (by decide) (fun c9 => absurd c9 (by decide)) (fun _ => ?_)
      refine lv_iconst (v := 0) hx hb dX5_line_49 (by decide) ?_
      exact kRetI (G := G) (2, sp, fr, tm, oc, en, tr, ch, kc, re, gc, gl, gk, go, gt, ln, g1, g2, g3, gm) hx hb hr hlocks hS dX5_line_50 hP hD (by (try dsimp only); exact ⟨⟨hpz, hpp⟩, hsn, hcp, hhi, (by first | exact Or.inl rfl | exact Or.inr rfl | exact htr), hkc⟩)
  · have _u := hsz
    refine lv_if_ne (tgt := 14) hx hb dX5_line_7 (by decide) (fun c9 => absurd c9 (by decide)) (fun _ => ?_)
    refine lv_iconst (v := 1) hx hb dX5_line_10 (by decide) ?_
    refine lv_goto (tgt := 39) hx hb dX5_line_11 (by decide) ?_
    refine va_put (D := G.1) (ci := 5) (v := .int 1) (ty := .int) (C := RX5) (T := TX5) (N := 23) hx hb hts in5 tyX5 tyX5_ok nmX5 hown hK hP hD hS 0 rfl rfl 0 (by decide) (hts (.fieldLink RX5 51 "TraceDebuggerModel" "code" "I") (by decide +kernel)) (fun _ h9 => h9) rfl (by decide +kernel) rfl rfl (Nat.le_of_ble_eq_true rfl) dX5_line_39 (fun H locs hP hD hS => ?_)
    have hP : va_P G.1 vwCl [kO (q 0) 5 [.int 1, .int fs, .int sp, .ref (q 1), .ref (q 2), .ref (q 3), .ref (q 4), .int ln, .ref (q 5), .ref (q 6), .ref (q 7), .ref (q 8), .ref (q 9), .int fr, .int tm, .ref (q 10), .int oc, .int en, .int tr, .int ch, .ref (q 11), .int kc, .int re], kI (q 1) (G.2 0) 80 g1, kI (q 2) (G.2 0) 80 g2, kI (q 3) (G.2 0) 80 g3, kI (q 4) (G.2 1) 80 gm, kI (q 5) (G.2 1) 64 gw, kI (q 6) (G.2 0) 64 gb, kI (q 7) (G.2 0) 64 gc, kI (q 8) (G.2 0) 128 gl, kI (q 9) (G.2 0) 16 gk, kI (q 10) (G.2 0) 200 go, kI (q 11) (G.2 0) 8 gt] H := hP
    have hD : va_D A [kO (q 0) 5 [.int 1, .int fs, .int sp, .ref (q 1), .ref (q 2), .ref (q 3), .ref (q 4), .int ln, .ref (q 5), .ref (q 6), .ref (q 7), .ref (q 8), .ref (q 9), .int fr, .int tm, .ref (q 10), .int oc, .int en, .int tr, .int ch, .ref (q 11), .int kc, .int re], kI (q 1) (G.2 0) 80 g1, kI (q 2) (G.2 0) 80 g2, kI (q 3) (G.2 0) 80 g3, kI (q 4) (G.2 1) 80 gm, kI (q 5) (G.2 1) 64 gw, kI (q 6) (G.2 0) 64 gb, kI (q 7) (G.2 0) 64 gc, kI (q 8) (G.2 0) 128 gl, kI (q 9) (G.2 0) 16 gk, kI (q 10) (G.2 0) 200 go, kI (q 11) (G.2 0) 8 gt] := hD
    refine lv_aload_n hx hb dX5_line_42 rfl (lv_at hl 0 rfl) ?_
    refine va_get (D := G.1) (ci := 5) (v := .int 1) (C := RX5) (T := TX5) (N := 23) hx hb hts in5 hown hK hP 0 rfl rfl 0 (by decide) (hts (.fieldLink RX5 51 "TraceDebuggerModel" "code" "I") (by decide +kernel)) (fun _ h9 => h9) rfl dX5_line_43 ?_
    refine lv_if_le (tgt := 51) hx hb dX5_line_46 (by decide) (fun c9 => absurd c9 (by decide)) (fun _ => ?_)
    refine lv_iconst (v := 0) hx hb dX5_line_49 (by decide) ?_
    exact kRetI (G := G) (1, sp, fr, tm, oc, en, tr, ch, kc, re, gc, gl, gk, go, gt, ln, g1, g2, g3, gm) hx hb hr hlocks hS dX5_line_50 hP hD (by (try dsimp only); exact ⟨⟨hpz, hpp⟩, hsn, hcp, hhi, (by first | exact Or.inl rfl | exact Or.inr rfl | exact htr), hkc⟩)
