def kB01 (x : Int32) : Prop := x = 0 ∨ x = 1
def kCP (c : Int32) : Prop := c.toInt = -1 ∨ (0 ≤ c.toInt ∧ c.toInt < 64)
def kHI (f9 p9 z9 r9 : Int32) : Prop := ((1 ≤ f9.toInt ∧ f9.toInt ≤ 100) ∧ (1 ≤ p9.toInt ∧ p9.toInt ≤ 600) ∧ (1 ≤ z9.toInt ∧ z9.toInt ≤ 8) ∧ (0 ≤ r9.toInt ∧ r9.toInt ≤ 2000) ∧ (z9.toInt = 2 → 1 * p9.toInt ≤ r9.toInt) ∧ (z9.toInt = 3 → 2 * p9.toInt ≤ r9.toInt) ∧ (z9.toInt = 4 → 3 * p9.toInt ≤ r9.toInt) ∧ (z9.toInt = 5 → 4 * p9.toInt ≤ r9.toInt) ∧ (z9.toInt = 6 → 5 * p9.toInt ≤ r9.toInt) ∧ (z9.toInt = 7 → 6 * p9.toInt ≤ r9.toInt) ∧ (z9.toInt = 8 → 7 * p9.toInt ≤ r9.toInt))
theorem kHIz {f p z r : Int32} (h : kHI f p z r) : 1 ≤ z.toInt ∧ z.toInt ≤ 8 := h.2.2.1
