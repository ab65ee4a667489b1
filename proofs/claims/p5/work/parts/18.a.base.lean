/-- the spacings behind a new beginning -/
theorem kHI0 {f p z r : Int32} (h : kHI f p z r) : kHI f f 1 0 := by
  unfold kHI at h ⊢
  have k0 : (0 : Int32).toInt = 0 := by decide
  have k1 : (1 : Int32).toInt = 1 := by decide
  omega
theorem kSpB (x : Int32) : 1 ≤ (kSp x).toInt ∧ (kSp x).toInt ≤ 100 := by
  unfold kSp
  have k1 : (1 : Int32).toInt = 1 := by decide
  have k100 : (100 : Int32).toInt = 100 := by decide
  by_cases h1 : x < 1
  · rw [if_pos h1]; omega
  · rw [if_neg h1]
    by_cases h2 : (100 : Int32) < x
    · rw [if_pos h2]; omega
    · rw [if_neg h2]
      have t1 := i_nlt.mp h1
      have t2 := i_nlt.mp h2
      omega
/-- the spacings of a new object -/
theorem kHIs (x : Int32) : kHI (kSp x) (kSp x) 1 0 := by
  have hb9 := kSpB x
  unfold kHI
  have k0 : (0 : Int32).toInt = 0 := by decide
  have k1 : (1 : Int32).toInt = 1 := by decide
  omega
