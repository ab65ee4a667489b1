set_option maxHeartbeats 4000000 in
set_option maxRecDepth 100000 in
/-- reference isLocal -/
theorem c_X5_isLocal (l : Launch) (G : gG) (sz : Nat) (x : Int32)  : Met l yX5_isLocal wsX5_isLocal { frames := 0, cells := 0, slots := 0, locals := 0 } (kPc G [.int x] [] sz (fun _ => True)) (kQi G (S := Unit) (fun r _ => (r = 1 ∧ (0 ≤ x.toInt ∧ x.toInt < 8)) ∨ (r = 0 ∧ ¬ (0 ≤ x.toInt ∧ x.toInt < 8))) (fun _ => []) (va_A [] sz)) 0 0 (va_A [] sz) := by
  refine kBeg (Qc := fun A => kQi G (S := Unit) (fun r _ => (r = 1 ∧ (0 ≤ x.toInt ∧ x.toInt < 8)) ∨ (r = 0 ∧ ¬ (0 ≤ x.toInt ∧ x.toInt < 8))) (fun _ => []) A) (by decide) rfl (Nat.le_of_ble_eq_true rfl) ?_
  intro A p e s m below meth c ls H locs hx hb hr hts hown hlocks hnm hml hsz hP hK hD hZ hA hS hl
  have hown : s.vm.findClass RX5 = some m.cls := hown
  have hl : lv_has ls 1 [(0, .int x)] := hl
  have kc0 : (0 : Int32).toInt = 0 := by decide
  have kc1 : (1 : Int32).toInt = 1 := by decide
  have kc8 : (8 : Int32).toInt = 8 := by decide
  refine lv_iload_n hx hb dX5_isLocal_0 rfl (lv_at hl 0 rfl) ?_
  refine lv_if_lt (tgt := 14) hx hb dX5_isLocal_1 (by decide) (fun c1 => ?_) (fun c1 => ?_)
  · have t1 := i_lt.mp c1
    refine lv_iconst (v := 0) hx hb dX5_isLocal_14 (by decide) ?_
    exact kRetZ (G := G) () hx hb hr hlocks hS dX5_isLocal_15 rfl hP hD (by (try dsimp only); exact (by first | exact Or.inl ⟨rfl, by omega⟩ | exact Or.inr ⟨rfl, by omega⟩))
  · have t1 := i_nlt.mp c1
    refine lv_iload_n hx hb dX5_isLocal_4 rfl (lv_at hl 0 rfl) ?_
    refine lv_bipush (v := 8) hx hb dX5_isLocal_5 (by decide) ?_
    refine lv_icmp_ge (tgt := 14) hx hb dX5_isLocal_7 (by decide) (fun c2 => ?_) (fun c2 => ?_)
    · have t2 := i_le.mp c2
      refine lv_iconst (v := 0) hx hb dX5_isLocal_14 (by decide) ?_
      exact kRetZ (G := G) () hx hb hr hlocks hS dX5_isLocal_15 rfl hP hD (by (try dsimp only); exact (by first | exact Or.inl ⟨rfl, by omega⟩ | exact Or.inr ⟨rfl, by omega⟩))
    · have t2 := i_nle.mp c2
      refine lv_iconst (v := 1) hx hb dX5_isLocal_10 (by decide) ?_
      refine lv_goto (tgt := 15) hx hb dX5_isLocal_11 (by decide) ?_
      exact kRetZ (G := G) () hx hb hr hlocks hS dX5_isLocal_15 rfl hP hD (by (try dsimp only); exact (by first | exact Or.inl ⟨rfl, by omega⟩ | exact Or.inr ⟨rfl, by omega⟩))

set_option maxHeartbeats 4000000 in
set_option maxRecDepth 100000 in
/-- isLocal -/
theorem c_X4_isLocal (l : Launch) (G : gG) (sz : Nat) (x : Int32)  : Met l yX4_isLocal wsX4_isLocal { frames := 0, cells := 0, slots := 0, locals := 0 } (kPc G [.int x] [] sz (fun _ => True)) (kQi G (S := Unit) (fun r _ => (r = 1 ∧ (0 ≤ x.toInt ∧ x.toInt < 8)) ∨ (r = 0 ∧ ¬ (0 ≤ x.toInt ∧ x.toInt < 8))) (fun _ => []) (va_A [] sz)) 0 0 (va_A [] sz) := by
  refine kBeg (Qc := fun A => kQi G (S := Unit) (fun r _ => (r = 1 ∧ (0 ≤ x.toInt ∧ x.toInt < 8)) ∨ (r = 0 ∧ ¬ (0 ≤ x.toInt ∧ x.toInt < 8))) (fun _ => []) A) (by decide) rfl (Nat.le_of_ble_eq_true rfl) ?_
  intro A p e s m below meth c ls H locs hx hb hr hts hown hlocks hnm hml hsz hP hK hD hZ hA hS hl
  have hown : s.vm.findClass RX4 = some m.cls := hown
  have hl : lv_has ls 1 [(0, .int x)] := hl
  have kc0 : (0 : Int32).toInt = 0 := by decide
  have kc1 : (1 : Int32).toInt = 1 := by decide
  have kc8 : (8 : Int32).toInt = 8 := by decide
  refine lv_iload_n hx hb dX4_isLocal_0 rfl (lv_at hl 0 rfl) ?_
  refine lv_if_lt (tgt := 14) hx hb dX4_isLocal_1 (by decide) (fun c1 => ?_) (fun c1 => ?_)
  · have t1 := i_lt.mp c1
    refine lv_iconst (v := 0) hx hb dX4_isLocal_14 (by decide) ?_
    exact kRetZ (G := G) () hx hb hr hlocks hS dX4_isLocal_15 rfl hP hD (by (try dsimp only); exact (by first | exact Or.inl ⟨rfl, by omega⟩ | exact Or.inr ⟨rfl, by omega⟩))
  · have t1 := i_nlt.mp c1
    refine lv_iload_n hx hb dX4_isLocal_4 rfl (lv_at hl 0 rfl) ?_
    refine lv_bipush (v := 8) hx hb dX4_isLocal_5 (by decide) ?_
    refine lv_icmp_ge (tgt := 14) hx hb dX4_isLocal_7 (by decide) (fun c2 => ?_) (fun c2 => ?_)
    · have t2 := i_le.mp c2
      refine lv_iconst (v := 0) hx hb dX4_isLocal_14 (by decide) ?_
      exact kRetZ (G := G) () hx hb hr hlocks hS dX4_isLocal_15 rfl hP hD (by (try dsimp only); exact (by first | exact Or.inl ⟨rfl, by omega⟩ | exact Or.inr ⟨rfl, by omega⟩))
    · have t2 := i_nle.mp c2
      refine lv_iconst (v := 1) hx hb dX4_isLocal_10 (by decide) ?_
      refine lv_goto (tgt := 15) hx hb dX4_isLocal_11 (by decide) ?_
      exact kRetZ (G := G) () hx hb hr hlocks hS dX4_isLocal_15 rfl hP hD (by (try dsimp only); exact (by first | exact Or.inl ⟨rfl, by omega⟩ | exact Or.inr ⟨rfl, by omega⟩))

set_option maxHeartbeats 4000000 in
set_option maxRecDepth 100000 in
/-- isCell -/
theorem c_X4_isCell (l : Launch) (G : gG) (sz : Nat) (x : Int32)  : Met l yX4_isCell wsX4_isCell { frames := 0, cells := 0, slots := 0, locals := 0 } (kPc G [.int x] [] sz (fun _ => True)) (kQi G (S := Unit) (fun r _ => (r = 1 ∧ (0 ≤ x.toInt ∧ x.toInt < 64)) ∨ (r = 0 ∧ ¬ (0 ≤ x.toInt ∧ x.toInt < 64))) (fun _ => []) (va_A [] sz)) 0 0 (va_A [] sz) := by
  refine kBeg (Qc := fun A => kQi G (S := Unit) (fun r _ => (r = 1 ∧ (0 ≤ x.toInt ∧ x.toInt < 64)) ∨ (r = 0 ∧ ¬ (0 ≤ x.toInt ∧ x.toInt < 64))) (fun _ => []) A) (by decide) rfl (Nat.le_of_ble_eq_true rfl) ?_
  intro A p e s m below meth c ls H locs hx hb hr hts hown hlocks hnm hml hsz hP hK hD hZ hA hS hl
  have hown : s.vm.findClass RX4 = some m.cls := hown
  have hl : lv_has ls 1 [(0, .int x)] := hl
  have kc0 : (0 : Int32).toInt = 0 := by decide
  have kc1 : (1 : Int32).toInt = 1 := by decide
  have kc64 : (64 : Int32).toInt = 64 := by decide
  refine lv_iload_n hx hb dX4_isCell_0 rfl (lv_at hl 0 rfl) ?_
  refine lv_if_lt (tgt := 14) hx hb dX4_isCell_1 (by decide) (fun c1 => ?_) (fun c1 => ?_)
  · have t1 := i_lt.mp c1
    refine lv_iconst (v := 0) hx hb dX4_isCell_14 (by decide) ?_
    exact kRetZ (G := G) () hx hb hr hlocks hS dX4_isCell_15 rfl hP hD (by (try dsimp only); exact (by first | exact Or.inl ⟨rfl, by omega⟩ | exact Or.inr ⟨rfl, by omega⟩))
  · have t1 := i_nlt.mp c1
    refine lv_iload_n hx hb dX4_isCell_4 rfl (lv_at hl 0 rfl) ?_
    refine lv_bipush (v := 64) hx hb dX4_isCell_5 (by decide) ?_
    refine lv_icmp_ge (tgt := 14) hx hb dX4_isCell_7 (by decide) (fun c2 => ?_) (fun c2 => ?_)
    · have t2 := i_le.mp c2
      refine lv_iconst (v := 0) hx hb dX4_isCell_14 (by decide) ?_
      exact kRetZ (G := G) () hx hb hr hlocks hS dX4_isCell_15 rfl hP hD (by (try dsimp only); exact (by first | exact Or.inl ⟨rfl, by omega⟩ | exact Or.inr ⟨rfl, by omega⟩))
    · have t2 := i_nle.mp c2
      refine lv_iconst (v := 1) hx hb dX4_isCell_10 (by decide) ?_
      refine lv_goto (tgt := 15) hx hb dX4_isCell_11 (by decide) ?_
      exact kRetZ (G := G) () hx hb hr hlocks hS dX4_isCell_15 rfl hP hD (by (try dsimp only); exact (by first | exact Or.inl ⟨rfl, by omega⟩ | exact Or.inr ⟨rfl, by omega⟩))

set_option maxHeartbeats 4000000 in
set_option maxRecDepth 100000 in
/-- takesLocalA -/
theorem c_X2_takesLocalA (l : Launch) (G : gG) (sz : Nat) (x : Int32)  : Met l yX2_takesLocalA wsX2_takesLocalA { frames := 0, cells := 0, slots := 0, locals := 0 } (kPc G [.int x] [] sz (fun _ => True)) (kQi G (S := Unit) (fun r _ => (r = 1 ∧ (x.toInt ≤ 6 ∨ x.toInt = 8 ∨ x.toInt = 10 ∨ x.toInt = 11)) ∨ (r = 0 ∧ ¬ (x.toInt ≤ 6 ∨ x.toInt = 8 ∨ x.toInt = 10 ∨ x.toInt = 11))) (fun _ => []) (va_A [] sz)) 0 0 (va_A [] sz) := by
  refine kBeg (Qc := fun A => kQi G (S := Unit) (fun r _ => (r = 1 ∧ (x.toInt ≤ 6 ∨ x.toInt = 8 ∨ x.toInt = 10 ∨ x.toInt = 11)) ∨ (r = 0 ∧ ¬ (x.toInt ≤ 6 ∨ x.toInt = 8 ∨ x.toInt = 10 ∨ x.toInt = 11))) (fun _ => []) A) (by decide) rfl (Nat.le_of_ble_eq_true rfl) ?_
  intro A p e s m below meth c ls H locs hx hb hr hts hown hlocks hnm hml hsz hP hK hD hZ hA hS hl
  have hown : s.vm.findClass RX2 = some m.cls := hown
  have hl : lv_has ls 1 [(0, .int x)] := hl
  have kc0 : (0 : Int32).toInt = 0 := by decide
  have kc1 : (1 : Int32).toInt = 1 := by decide
  have kc6 : (6 : Int32).toInt = 6 := by decide
  have kc8 : (8 : Int32).toInt = 8 := by decide
  have kc10 : (10 : Int32).toInt = 10 := by decide
  have kc11 : (11 : Int32).toInt = 11 := by decide
  refine lv_iload_n hx hb dX2_takesLocalA_0 rfl (lv_at hl 0 rfl) ?_
  refine lv_bipush (v := 6) hx hb dX2_takesLocalA_1 (by decide) ?_
  refine lv_icmp_le (tgt := 24) hx hb dX2_takesLocalA_3 (by decide) (fun c1 => ?_) (fun c1 => ?_)
  · have t1 := i_le.mp c1
    refine lv_iconst (v := 1) hx hb dX2_takesLocalA_24 (by decide) ?_
    refine lv_goto (tgt := 29) hx hb dX2_takesLocalA_25 (by decide) ?_
    exact kRetZ (G := G) () hx hb hr hlocks hS dX2_takesLocalA_29 rfl hP hD (by (try dsimp only); exact (by first | exact Or.inl ⟨rfl, by omega⟩ | exact Or.inr ⟨rfl, by omega⟩))
  · have t1 := i_nle.mp c1
    refine lv_iload_n hx hb dX2_takesLocalA_6 rfl (lv_at hl 0 rfl) ?_
    refine lv_bipush (v := 8) hx hb dX2_takesLocalA_7 (by decide) ?_
    refine lv_icmp_eq (tgt := 24) hx hb dX2_takesLocalA_9 (by decide) (fun c2 => ?_) (fun c2 => ?_)
    · have t2 := i_eq.mp c2
      refine lv_iconst (v := 1) hx hb dX2_takesLocalA_24 (by decide) ?_
      refine lv_goto (tgt := 29) hx hb dX2_takesLocalA_25 (by decide) ?_
      exact kRetZ (G := G) () hx hb hr hlocks hS dX2_takesLocalA_29 rfl hP hD (by (try dsimp only); exact (by first | exact Or.inl ⟨rfl, by omega⟩ | exact Or.inr ⟨rfl, by omega⟩))
    · have t2 := i_ne.mp c2
      refine lv_iload_n hx hb dX2_takesLocalA_12 rfl (lv_at hl 0 rfl) ?_
      refine lv_bipush (v := 10) hx hb dX2_takesLocalA_13 (by decide) ?_
      refine lv_icmp_eq (tgt := 24) hx hb dX2_takesLocalA_15 (by decide) (fun c3 => ?_) (fun c3 => ?_)
      · have t3 := i_eq.mp c3
        refine lv_iconst (v := 1) hx hb dX2_takesLocalA_24 (by decide) ?_
        refine lv_goto (tgt := 29) hx hb dX2_takesLocalA_25 (by decide) ?_
        exact kRetZ (G := G) () hx hb hr hlocks hS dX2_takesLocalA_29 rfl hP hD (by (try dsimp only); exact (by first | exact Or.inl ⟨rfl, by omega⟩ | exact Or.inr ⟨rfl, by omega⟩))
      · have t3 := i_ne.mp c3
        refine lv_iload_n hx hb dX2_takesLocalA_18 rfl (lv_at hl 0 rfl) ?_
        refine lv_bipush (v := 11) hx hb dX2_takesLocalA_19 (by decide) ?_
        refine lv_icmp_ne (tgt := 28) hx hb dX2_takesLocalA_21 (by decide) (fun c4 => ?_) (fun c4 => ?_)
        · have t4 := i_ne.mp c4
          refine lv_iconst (v := 0) hx hb dX2_takesLocalA_28 (by decide) ?_
          exact kRetZ (G := G) () hx hb hr hlocks hS dX2_takesLocalA_29 rfl hP hD (by (try dsimp only); exact (by first | exact Or.inl ⟨rfl, by omega⟩ | exact Or.inr ⟨rfl, by omega⟩))
        · have t4 := i_eq.mp c4
          refine lv_iconst (v := 1) hx hb dX2_takesLocalA_24 (by decide) ?_
          refine lv_goto (tgt := 29) hx hb dX2_takesLocalA_25 (by decide) ?_
          exact kRetZ (G := G) () hx hb hr hlocks hS dX2_takesLocalA_29 rfl hP hD (by (try dsimp only); exact (by first | exact Or.inl ⟨rfl, by omega⟩ | exact Or.inr ⟨rfl, by omega⟩))
