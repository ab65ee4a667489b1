/-- the spacings behind a new beginning -/
theorem kHI0 {f p z r : Int32} (h : kHI f p z r) : kHI f f 1 0 := by
  unfold kHI at h ⊢
  have k0 : (0 : Int32).toInt = 0 := by decide
  have k1 : (1 : Int32).toInt = 1 := by decide
  omega
