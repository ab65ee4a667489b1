-- the reference's machine as a function: what one line makes of cells, locals, comes, frames, outCount, ended
abbrev kS : Type := (Nat → Int32) × (Nat → Int32) × (Nat → Int32) × Int32 × Int32 × Int32
/-- alike: comes counts below frames alone -/
def kEq (x y : kS) : Prop := x.1 = y.1 ∧ x.2.1 = y.2.1 ∧ x.2.2.2 = y.2.2.2 ∧ ∀ j : Nat, (j : Int) < x.2.2.2.1.toInt → x.2.2.1 j = y.2.2.1 j
theorem kEq.refl (x : kS) : kEq x x := ⟨rfl, rfl, rfl, fun _ _ => rfl⟩
theorem kEq.symm {x y : kS} (h : kEq x y) : kEq y x := ⟨h.1.symm, h.2.1.symm, h.2.2.1.symm, fun j hj => (h.2.2.2 j (by rw [h.2.2.1]; exact hj)).symm⟩
theorem kEq.trans {x y z : kS} (h : kEq x y) (k : kEq y z) : kEq x z := ⟨h.1.trans k.1, h.2.1.trans k.2.1, h.2.2.1.trans k.2.2.1, fun j hj => (h.2.2.2 j hj).trans (k.2.2.2 j (by rw [← h.2.2.1]; exact hj))⟩
/-- what a call leaves of the locals -/
def kEnt (fl : Nat → Int32) (fr b : Int32) : Nat → Int32 := fun j => if 8 * fr.toInt ≤ (j : Int) ∧ (j : Int) < 8 * fr.toInt + 8 then (if (j : Int) - 8 * fr.toInt < b.toInt then fl (j - 8) else 0) else fl j
/-- the place of a local of the newest frame -/
abbrev kIx (fr a : Int32) : Nat := ((8 * (fr - 1)) + a).toNatClampNeg
def kNy (o a b n : Int32) (fc fl fk : Nat → Int32) (fr oc : Int32) : kS :=
  if o.toInt = 0 then (fc, upd fl (kIx fr a) b, upd fk (fr - 1).toNatClampNeg (n + 1), fr, oc, 0)
  else if o.toInt = 1 then (fc, upd fl (kIx fr a) (fl (kIx fr a) + fl (kIx fr b)), upd fk (fr - 1).toNatClampNeg (n + 1), fr, oc, 0)
  else if o.toInt = 2 then (fc, upd fl (kIx fr a) (fl (kIx fr a) - fl (kIx fr b)), upd fk (fr - 1).toNatClampNeg (n + 1), fr, oc, 0)
  else if o.toInt = 3 then (fc, upd fl (kIx fr a) (fl (kIx fr a) * fl (kIx fr b)), upd fk (fr - 1).toNatClampNeg (n + 1), fr, oc, 0)
  else if o.toInt = 4 then (fc, upd fl (kIx fr a) (fl (kIx fr a) / fl (kIx fr b)), upd fk (fr - 1).toNatClampNeg (n + 1), fr, oc, 0)
  else if o.toInt = 5 then (fc, upd fl (kIx fr a) (fc (fl (kIx fr b)).toNatClampNeg), upd fk (fr - 1).toNatClampNeg (n + 1), fr, oc, 0)
  else if o.toInt = 6 then (upd fc (fl (kIx fr a)).toNatClampNeg (fl (kIx fr b)), fl, upd fk (fr - 1).toNatClampNeg (n + 1), fr, oc, 0)
  else if o.toInt = 7 then (fc, fl, upd fk (fr - 1).toNatClampNeg a, fr, oc, 0)
  else if o.toInt = 8 then (fc, fl, upd fk (fr - 1).toNatClampNeg (if fl (kIx fr a) = 0 then b else n + 1), fr, oc, 0)
  else if o.toInt = 9 then (fc, kEnt fl fr b, upd (upd fk (fr - 1).toNatClampNeg (n + 1)) ((fr + 1) - 1).toNatClampNeg a, fr + 1, oc, 0)
  else if o.toInt = 10 then (if fr.toInt = 1 then (fc, fl, upd fk (fr - 1).toNatClampNeg n, fr, oc, 1) else (fc, upd fl ((8 * (fr - 1)) - 8).toNatClampNeg (fl (kIx fr a)), upd fk ((fr - 1) - 1).toNatClampNeg (fk ((fr - 1) - 1).toNatClampNeg), fr - 1, oc, 0))
  else if o.toInt = 11 then (fc, fl, upd fk (fr - 1).toNatClampNeg (n + 1), fr, oc + 1, 0)
  else (fc, fl, upd fk (fr - 1).toNatClampNeg n, fr, oc, 1)
/-- whether a line can be done -/
def kOy (ln o a b n : Int32) (fl : Nat → Int32) (fr oc : Int32) : Prop := (0 ≤ n.toInt ∧ n.toInt < ln.toInt) ∧ (o.toInt = 4 → ¬ (fl (kIx fr b)).toInt = 0) ∧ (o.toInt = 5 → 0 ≤ (fl (kIx fr b)).toInt ∧ (fl (kIx fr b)).toInt < 64) ∧ (o.toInt = 6 → 0 ≤ (fl (kIx fr a)).toInt ∧ (fl (kIx fr a)).toInt < 64) ∧ (o.toInt = 9 → fr.toInt < 16) ∧ (o.toInt = 11 → oc.toInt < 200)
/-- the line that comes -/
abbrev kNn (x : kS) : Int32 := x.2.2.1 (x.2.2.2.1 - 1).toNatClampNeg
def kNx (g1 g2 g3 : Nat → Int32) (x : kS) : kS := kNy (g1 (kNn x).toNatClampNeg) (g2 (kNn x).toNatClampNeg) (g3 (kNn x).toNatClampNeg) (kNn x) x.1 x.2.1 x.2.2.1 x.2.2.2.1 x.2.2.2.2.1
def kOk (g1 g2 g3 : Nat → Int32) (ln : Int32) (x : kS) : Prop := x.2.2.2.2.2 = 0 ∧ kOy ln (g1 (kNn x).toNatClampNeg) (g2 (kNn x).toNatClampNeg) (g3 (kNn x).toNatClampNeg) (kNn x) x.2.1 x.2.2.2.1 x.2.2.2.2.1
theorem kNn_eq {x y : kS} (h : kEq x y) (h1 : 1 ≤ x.2.2.2.1.toInt) (h2 : x.2.2.2.1.toInt ≤ 16) : kNn x = kNn y := by
  have k1 : (1 : Int32).toInt = 1 := by decide
  have e1 : (x.2.2.2.1 - 1).toInt = x.2.2.2.1.toInt - (1 : Int32).toInt := i_sub (by omega) (by omega)
  unfold kNn
  rw [← h.2.2.1]
  exact h.2.2.2 _ (by rw [i_cl (by omega)]; omega)
theorem kOk_eq {g1 g2 g3 : Nat → Int32} {ln : Int32} {x y : kS} (h : kEq x y) (h1 : 1 ≤ x.2.2.2.1.toInt) (h2 : x.2.2.2.1.toInt ≤ 16) (hk : kOk g1 g2 g3 ln x) : kOk g1 g2 g3 ln y := by
  unfold kOk at hk ⊢
  rw [← kNn_eq h h1 h2, ← h.2.1, ← h.2.2.1]
  exact hk
theorem kUpE {f g : Nat → Int32} {a : Nat} {v w : Int32} {m : Int} (h : ∀ j : Nat, (j : Int) < m → f j = g j) (hv : v = w) : ∀ j : Nat, (j : Int) < m → upd f a v j = upd g a w j := by
  intro j hj
  unfold upd
  by_cases e9 : j = a
  · rw [if_pos e9, if_pos e9, hv]
  · rw [if_neg e9, if_neg e9]; exact h j hj
theorem kUpE1 {f g : Nat → Int32} {a : Nat} {v : Int32} {m : Int} (h : ∀ j : Nat, (j : Int) < m → f j = g j) (ha : (a : Int) = m) : ∀ j : Nat, (j : Int) < m + 1 → upd f a v j = upd g a v j := by
  intro j hj
  unfold upd
  by_cases e9 : j = a
  · rw [if_pos e9, if_pos e9]
  · rw [if_neg e9, if_neg e9]; exact h j (by omega)
theorem kNy_eq {o a b n fr oc : Int32} {fc fl fk fk' : Nat → Int32} (h1 : 1 ≤ fr.toInt) (h2 : fr.toInt ≤ 16) (h3 : o.toInt = 9 → fr.toInt < 16) (h : ∀ j : Nat, (j : Int) < fr.toInt → fk j = fk' j) : kEq (kNy o a b n fc fl fk fr oc) (kNy o a b n fc fl fk' fr oc) := by
  have k1 : (1 : Int32).toInt = 1 := by decide
  have e1 : (fr - 1).toInt = fr.toInt - (1 : Int32).toInt := i_sub (by omega) (by omega)
  unfold kNy
  by_cases o0 : o.toInt = 0
  · simp only [if_pos o0]; exact ⟨rfl, rfl, rfl, kUpE h rfl⟩
  simp only [if_neg o0]
  by_cases o1 : o.toInt = 1
  · simp only [if_pos o1]; exact ⟨rfl, rfl, rfl, kUpE h rfl⟩
  simp only [if_neg o1]
  by_cases o2 : o.toInt = 2
  · simp only [if_pos o2]; exact ⟨rfl, rfl, rfl, kUpE h rfl⟩
  simp only [if_neg o2]
  by_cases o3 : o.toInt = 3
  · simp only [if_pos o3]; exact ⟨rfl, rfl, rfl, kUpE h rfl⟩
  simp only [if_neg o3]
  by_cases o4 : o.toInt = 4
  · simp only [if_pos o4]; exact ⟨rfl, rfl, rfl, kUpE h rfl⟩
  simp only [if_neg o4]
  by_cases o5 : o.toInt = 5
  · simp only [if_pos o5]; exact ⟨rfl, rfl, rfl, kUpE h rfl⟩
  simp only [if_neg o5]
  by_cases o6 : o.toInt = 6
  · simp only [if_pos o6]; exact ⟨rfl, rfl, rfl, kUpE h rfl⟩
  simp only [if_neg o6]
  by_cases o7 : o.toInt = 7
  · simp only [if_pos o7]; exact ⟨rfl, rfl, rfl, kUpE h rfl⟩
  simp only [if_neg o7]
  by_cases o8 : o.toInt = 8
  · simp only [if_pos o8]; exact ⟨rfl, rfl, rfl, kUpE h rfl⟩
  simp only [if_neg o8]
  by_cases o9 : o.toInt = 9
  · simp only [if_pos o9]
    have e2 : (fr + 1).toInt = fr.toInt + (1 : Int32).toInt := i_add (by omega) (by omega)
    have e3 : ((fr + 1) - 1).toInt = (fr + 1).toInt - (1 : Int32).toInt := i_sub (by omega) (by omega)
    refine ⟨rfl, rfl, rfl, fun j hj => kUpE1 (m := fr.toInt) (kUpE h rfl) (by rw [i_cl (by omega)]; omega) j (by rw [e2, k1] at hj; exact hj)⟩
  simp only [if_neg o9]
  by_cases o10 : o.toInt = 10
  · simp only [if_pos o10]
    by_cases f1 : fr.toInt = 1
    · simp only [if_pos f1]; exact ⟨rfl, rfl, rfl, kUpE h rfl⟩
    · simp only [if_neg f1]
      have e2 : ((fr - 1) - 1).toInt = (fr - 1).toInt - (1 : Int32).toInt := i_sub (by omega) (by omega)
      refine ⟨rfl, rfl, rfl, kUpE (fun j hj => h j (by rw [e1] at hj; omega)) (h _ (by rw [i_cl (by omega)]; omega))⟩
  simp only [if_neg o10]
  by_cases o11 : o.toInt = 11
  · simp only [if_pos o11]; exact ⟨rfl, rfl, rfl, kUpE h rfl⟩
  simp only [if_neg o11]
  exact ⟨rfl, rfl, rfl, kUpE h rfl⟩
theorem kNx_eq {g1 g2 g3 : Nat → Int32} {ln : Int32} {x y : kS} (h : kEq x y) (h1 : 1 ≤ x.2.2.2.1.toInt) (h2 : x.2.2.2.1.toInt ≤ 16) (hk : kOk g1 g2 g3 ln x) : kEq (kNx g1 g2 g3 x) (kNx g1 g2 g3 y) := by
  unfold kNx
  rw [← kNn_eq h h1 h2, ← h.1, ← h.2.1, ← h.2.2.1]
  exact kNy_eq h1 h2 hk.2.2.2.2.2.1 h.2.2.2
/-- the state at a time is what so many lines make of the beginning -/
def kCh (g1 g2 g3 : Nat → Int32) (ln : Int32) (gb : Nat → Int32) (t : Int) (x : kS) : Prop := ∃ f : Nat → kS, kEq (f 0) (gb, (fun _ => 0), (fun _ => 0), 1, 0, 0) ∧ (∀ j : Nat, (j : Int) < t → kOk g1 g2 g3 ln (f j) ∧ (1 ≤ (f j).2.2.2.1.toInt ∧ (f j).2.2.2.1.toInt ≤ 16) ∧ kEq (kNx g1 g2 g3 (f j)) (f (j + 1))) ∧ kEq (f t.toNat) x
theorem kCh.step {g1 g2 g3 : Nat → Int32} {ln : Int32} {gb : Nat → Int32} {t : Int} {x : kS} (h : kCh g1 g2 g3 ln gb t x) (ht : 0 ≤ t) (hx : kOk g1 g2 g3 ln x) (h1 : 1 ≤ x.2.2.2.1.toInt) (h2 : x.2.2.2.1.toInt ≤ 16) : kCh g1 g2 g3 ln gb (t + 1) (kNx g1 g2 g3 x) := by
  obtain ⟨f, hf0, hfs, hft⟩ := h
  refine ⟨fun j => if j ≤ t.toNat then f j else kNx g1 g2 g3 x, ?_, ?_, ?_⟩
  · show kEq (if 0 ≤ t.toNat then f 0 else kNx g1 g2 g3 x) _
    rw [if_pos (Nat.zero_le _)]
    exact hf0
  · intro j hj
    have hj1 : j ≤ t.toNat := by omega
    show kOk g1 g2 g3 ln (if j ≤ t.toNat then f j else kNx g1 g2 g3 x) ∧ (1 ≤ (if j ≤ t.toNat then f j else kNx g1 g2 g3 x).2.2.2.1.toInt ∧ (if j ≤ t.toNat then f j else kNx g1 g2 g3 x).2.2.2.1.toInt ≤ 16) ∧ kEq (kNx g1 g2 g3 (if j ≤ t.toNat then f j else kNx g1 g2 g3 x)) (if j + 1 ≤ t.toNat then f (j + 1) else kNx g1 g2 g3 x)
    rw [if_pos hj1]
    by_cases e9 : j + 1 ≤ t.toNat
    · rw [if_pos e9]
      exact hfs j (by omega)
    · rw [if_neg e9]
      have e8 : j = t.toNat := by omega
      subst e8
      have b1 : (f t.toNat).2.2.2.1 = x.2.2.2.1 := by rw [hft.2.2.1]
      refine ⟨kOk_eq hft.symm h1 h2 hx, by rw [b1]; exact ⟨h1, h2⟩, (kNx_eq hft.symm h1 h2 hx).symm⟩
  · show kEq (if (t + 1).toNat ≤ t.toNat then f (t + 1).toNat else kNx g1 g2 g3 x) _
    rw [if_neg (by omega)]
    exact kEq.refl _
/-- the beginning -/
theorem kCh.start {g1 g2 g3 : Nat → Int32} {ln : Int32} {gb gk : Nat → Int32} : kCh g1 g2 g3 ln gb 0 (gb, (fun _ => 0), upd gk 0 0, 1, 0, 0) := by
  refine ⟨fun _ => (gb, (fun _ => 0), (fun _ => 0), 1, 0, 0), kEq.refl _, fun j hj => absurd hj (by omega), rfl, rfl, rfl, fun j hj => ?_⟩
  have k1 : (1 : Int32).toInt = 1 := by decide
  have e9 : j = 0 := by
    have hj' : (j : Int) < (1 : Int32).toInt := hj
    omega
  subst e9
  show (0 : Int32) = upd gk 0 0 0
  unfold upd
  rw [if_pos rfl]
theorem kBe {gb gk : Nat → Int32} : kEq (gb, (fun _ => 0), (fun _ => 0), 1, 0, 0) (gb, (fun _ => 0), upd gk 0 0, 1, 0, 0) := by
  refine ⟨rfl, rfl, rfl, fun j hj => ?_⟩
  have k1 : (1 : Int32).toInt = 1 := by decide
  have e9 : j = 0 := by
    have hj' : (j : Int) < (1 : Int32).toInt := hj
    omega
  subst e9
  show (0 : Int32) = upd gk 0 0 0
  unfold upd
  rw [if_pos rfl]
theorem kNy_0 {o a b n fr oc : Int32} {fc fl fk : Nat → Int32} (h : o.toInt = 0) : kNy o a b n fc fl fk fr oc = (fc, upd fl (kIx fr a) b, upd fk (fr - 1).toNatClampNeg (n + 1), fr, oc, 0) := by
  unfold kNy
  rw [if_pos h]
theorem kNy_1 {o a b n fr oc : Int32} {fc fl fk : Nat → Int32} (h : o.toInt = 1) : kNy o a b n fc fl fk fr oc = (fc, upd fl (kIx fr a) (fl (kIx fr a) + fl (kIx fr b)), upd fk (fr - 1).toNatClampNeg (n + 1), fr, oc, 0) := by
  unfold kNy
  rw [if_neg (show ¬ o.toInt = 0 by omega), if_pos h]
theorem kNy_2 {o a b n fr oc : Int32} {fc fl fk : Nat → Int32} (h : o.toInt = 2) : kNy o a b n fc fl fk fr oc = (fc, upd fl (kIx fr a) (fl (kIx fr a) - fl (kIx fr b)), upd fk (fr - 1).toNatClampNeg (n + 1), fr, oc, 0) := by
  unfold kNy
  rw [if_neg (show ¬ o.toInt = 0 by omega), if_neg (show ¬ o.toInt = 1 by omega), if_pos h]
theorem kNy_3 {o a b n fr oc : Int32} {fc fl fk : Nat → Int32} (h : o.toInt = 3) : kNy o a b n fc fl fk fr oc = (fc, upd fl (kIx fr a) (fl (kIx fr a) * fl (kIx fr b)), upd fk (fr - 1).toNatClampNeg (n + 1), fr, oc, 0) := by
  unfold kNy
  rw [if_neg (show ¬ o.toInt = 0 by omega), if_neg (show ¬ o.toInt = 1 by omega), if_neg (show ¬ o.toInt = 2 by omega), if_pos h]
theorem kNy_4 {o a b n fr oc : Int32} {fc fl fk : Nat → Int32} (h : o.toInt = 4) : kNy o a b n fc fl fk fr oc = (fc, upd fl (kIx fr a) (fl (kIx fr a) / fl (kIx fr b)), upd fk (fr - 1).toNatClampNeg (n + 1), fr, oc, 0) := by
  unfold kNy
  rw [if_neg (show ¬ o.toInt = 0 by omega), if_neg (show ¬ o.toInt = 1 by omega), if_neg (show ¬ o.toInt = 2 by omega), if_neg (show ¬ o.toInt = 3 by omega), if_pos h]
theorem kNy_5 {o a b n fr oc : Int32} {fc fl fk : Nat → Int32} (h : o.toInt = 5) : kNy o a b n fc fl fk fr oc = (fc, upd fl (kIx fr a) (fc (fl (kIx fr b)).toNatClampNeg), upd fk (fr - 1).toNatClampNeg (n + 1), fr, oc, 0) := by
  unfold kNy
  rw [if_neg (show ¬ o.toInt = 0 by omega), if_neg (show ¬ o.toInt = 1 by omega), if_neg (show ¬ o.toInt = 2 by omega), if_neg (show ¬ o.toInt = 3 by omega), if_neg (show ¬ o.toInt = 4 by omega), if_pos h]
theorem kNy_6 {o a b n fr oc : Int32} {fc fl fk : Nat → Int32} (h : o.toInt = 6) : kNy o a b n fc fl fk fr oc = (upd fc (fl (kIx fr a)).toNatClampNeg (fl (kIx fr b)), fl, upd fk (fr - 1).toNatClampNeg (n + 1), fr, oc, 0) := by
  unfold kNy
  rw [if_neg (show ¬ o.toInt = 0 by omega), if_neg (show ¬ o.toInt = 1 by omega), if_neg (show ¬ o.toInt = 2 by omega), if_neg (show ¬ o.toInt = 3 by omega), if_neg (show ¬ o.toInt = 4 by omega), if_neg (show ¬ o.toInt = 5 by omega), if_pos h]
theorem kNy_7 {o a b n fr oc : Int32} {fc fl fk : Nat → Int32} (h : o.toInt = 7) : kNy o a b n fc fl fk fr oc = (fc, fl, upd fk (fr - 1).toNatClampNeg a, fr, oc, 0) := by
  unfold kNy
  rw [if_neg (show ¬ o.toInt = 0 by omega), if_neg (show ¬ o.toInt = 1 by omega), if_neg (show ¬ o.toInt = 2 by omega), if_neg (show ¬ o.toInt = 3 by omega), if_neg (show ¬ o.toInt = 4 by omega), if_neg (show ¬ o.toInt = 5 by omega), if_neg (show ¬ o.toInt = 6 by omega), if_pos h]
theorem kNy_8 {o a b n fr oc : Int32} {fc fl fk : Nat → Int32} (h : o.toInt = 8) : kNy o a b n fc fl fk fr oc = (fc, fl, upd fk (fr - 1).toNatClampNeg (if fl (kIx fr a) = 0 then b else n + 1), fr, oc, 0) := by
  unfold kNy
  rw [if_neg (show ¬ o.toInt = 0 by omega), if_neg (show ¬ o.toInt = 1 by omega), if_neg (show ¬ o.toInt = 2 by omega), if_neg (show ¬ o.toInt = 3 by omega), if_neg (show ¬ o.toInt = 4 by omega), if_neg (show ¬ o.toInt = 5 by omega), if_neg (show ¬ o.toInt = 6 by omega), if_neg (show ¬ o.toInt = 7 by omega), if_pos h]
theorem kNy_9 {o a b n fr oc : Int32} {fc fl fk : Nat → Int32} (h : o.toInt = 9) : kNy o a b n fc fl fk fr oc = (fc, kEnt fl fr b, upd (upd fk (fr - 1).toNatClampNeg (n + 1)) ((fr + 1) - 1).toNatClampNeg a, fr + 1, oc, 0) := by
  unfold kNy
  rw [if_neg (show ¬ o.toInt = 0 by omega), if_neg (show ¬ o.toInt = 1 by omega), if_neg (show ¬ o.toInt = 2 by omega), if_neg (show ¬ o.toInt = 3 by omega), if_neg (show ¬ o.toInt = 4 by omega), if_neg (show ¬ o.toInt = 5 by omega), if_neg (show ¬ o.toInt = 6 by omega), if_neg (show ¬ o.toInt = 7 by omega), if_neg (show ¬ o.toInt = 8 by omega), if_pos h]
theorem kNy_10 {o a b n fr oc : Int32} {fc fl fk : Nat → Int32} (h : o.toInt = 10) : kNy o a b n fc fl fk fr oc = (if fr.toInt = 1 then (fc, fl, upd fk (fr - 1).toNatClampNeg n, fr, oc, 1) else (fc, upd fl ((8 * (fr - 1)) - 8).toNatClampNeg (fl (kIx fr a)), upd fk ((fr - 1) - 1).toNatClampNeg (fk ((fr - 1) - 1).toNatClampNeg), fr - 1, oc, 0)) := by
  unfold kNy
  rw [if_neg (show ¬ o.toInt = 0 by omega), if_neg (show ¬ o.toInt = 1 by omega), if_neg (show ¬ o.toInt = 2 by omega), if_neg (show ¬ o.toInt = 3 by omega), if_neg (show ¬ o.toInt = 4 by omega), if_neg (show ¬ o.toInt = 5 by omega), if_neg (show ¬ o.toInt = 6 by omega), if_neg (show ¬ o.toInt = 7 by omega), if_neg (show ¬ o.toInt = 8 by omega), if_neg (show ¬ o.toInt = 9 by omega), if_pos h]
theorem kNy_11 {o a b n fr oc : Int32} {fc fl fk : Nat → Int32} (h : o.toInt = 11) : kNy o a b n fc fl fk fr oc = (fc, fl, upd fk (fr - 1).toNatClampNeg (n + 1), fr, oc + 1, 0) := by
  unfold kNy
  rw [if_neg (show ¬ o.toInt = 0 by omega), if_neg (show ¬ o.toInt = 1 by omega), if_neg (show ¬ o.toInt = 2 by omega), if_neg (show ¬ o.toInt = 3 by omega), if_neg (show ¬ o.toInt = 4 by omega), if_neg (show ¬ o.toInt = 5 by omega), if_neg (show ¬ o.toInt = 6 by omega), if_neg (show ¬ o.toInt = 7 by omega), if_neg (show ¬ o.toInt = 8 by omega), if_neg (show ¬ o.toInt = 9 by omega), if_neg (show ¬ o.toInt = 10 by omega), if_pos h]
theorem kNy_12 {o a b n fr oc : Int32} {fc fl fk : Nat → Int32} (h : o.toInt = 12) : kNy o a b n fc fl fk fr oc = (fc, fl, upd fk (fr - 1).toNatClampNeg n, fr, oc, 1) := by
  unfold kNy
  rw [if_neg (show ¬ o.toInt = 0 by omega), if_neg (show ¬ o.toInt = 1 by omega), if_neg (show ¬ o.toInt = 2 by omega), if_neg (show ¬ o.toInt = 3 by omega), if_neg (show ¬ o.toInt = 4 by omega), if_neg (show ¬ o.toInt = 5 by omega), if_neg (show ¬ o.toInt = 6 by omega), if_neg (show ¬ o.toInt = 7 by omega), if_neg (show ¬ o.toInt = 8 by omega), if_neg (show ¬ o.toInt = 9 by omega), if_neg (show ¬ o.toInt = 10 by omega), if_neg (show ¬ o.toInt = 11 by omega)]
/-- a call's loop over the locals that are handed on: k of them are there -/
def kEnk (gl : Nat → Int32) (fr b k : Int32) (dl : Nat → Int32) : Prop := ∀ j : Nat, dl j = if 8 * fr.toInt ≤ (j : Int) ∧ (j : Int) < 8 * fr.toInt + k.toInt then (if (j : Int) - 8 * fr.toInt < b.toInt then gl (j - 8) else 0) else gl j
theorem kEnk.begin {gl : Nat → Int32} {fr b : Int32} : kEnk gl fr b 0 gl := by
  have k0 : (0 : Int32).toInt = 0 := by decide
  intro j
  rw [if_neg (by omega)]
theorem kEnk.done {gl dl : Nat → Int32} {fr b k : Int32} (h : kEnk gl fr b k dl) (hk : k.toInt = 8) : ∀ j : Nat, j < 128 → dl j = kEnt gl fr b j := by
  intro j _
  rw [h j, hk]
  rfl
theorem kEnk.step {gl dl : Nat → Int32} {fr b k v : Int32} {ix : Nat} (h : kEnk gl fr b k dl) (hk0 : 0 ≤ k.toInt) (hi : (ix : Int) = 8 * fr.toInt + k.toInt) (hv : v = if k.toInt < b.toInt then gl (ix - 8) else 0) (hk : (k + 1).toInt = k.toInt + (1 : Int32).toInt) : kEnk gl fr b (k + 1) (upd dl ix v) := by
  have k1 : (1 : Int32).toInt = 1 := by decide
  intro j
  unfold upd
  by_cases e9 : j = ix
  · rw [if_pos e9, hv]
    subst e9
    rw [if_pos (show 8 * fr.toInt ≤ (j : Int) ∧ (j : Int) < 8 * fr.toInt + (k + 1).toInt by omega)]
    by_cases e8 : k.toInt < b.toInt
    · rw [if_pos e8, if_pos (show (j : Int) - 8 * fr.toInt < b.toInt by omega)]
    · rw [if_neg e8, if_neg (show ¬ (j : Int) - 8 * fr.toInt < b.toInt by omega)]
  · rw [if_neg e9, h j]
    by_cases e8 : 8 * fr.toInt ≤ (j : Int) ∧ (j : Int) < 8 * fr.toInt + k.toInt
    · rw [if_pos e8, if_pos (show 8 * fr.toInt ≤ (j : Int) ∧ (j : Int) < 8 * fr.toInt + (k + 1).toInt by omega)]
    · rw [if_neg e8, if_neg (show ¬ (8 * fr.toInt ≤ (j : Int) ∧ (j : Int) < 8 * fr.toInt + (k + 1).toInt) by omega)]
theorem kEnk.val {gl dl : Nat → Int32} {fr b k : Int32} {ix jx : Nat} (h : kEnk gl fr b k dl) (hi : (ix : Int) = 8 * fr.toInt + k.toInt) (hj : (jx : Int) = 8 * fr.toInt + k.toInt - 8) (hk0 : k.toInt < 8) (hb : k.toInt < b.toInt) : dl jx = if k.toInt < b.toInt then gl (ix - 8) else 0 := by
  rw [if_pos hb, h jx, if_neg (by omega), show ix - 8 = jx by omega]
/-- a run of states from the beginning, T lines long -/
def kFs (g1 g2 g3 : Nat → Int32) (ln : Int32) (f : Nat → kS) (T : Int) : Prop := ∀ j : Nat, (j : Int) < T → kOk g1 g2 g3 ln (f j) ∧ (1 ≤ (f j).2.2.2.1.toInt ∧ (f j).2.2.2.1.toInt ≤ 16) ∧ kEq (kNx g1 g2 g3 (f j)) (f (j + 1))
theorem kFs.ok {g1 g2 g3 : Nat → Int32} {ln : Int32} {f : Nat → kS} {T t : Int} {x : kS} (h : kFs g1 g2 g3 ln f T) (h0 : 0 ≤ t) (h1 : t < T) (e : kEq (f t.toNat) x) : kOk g1 g2 g3 ln x := kOk_eq e (h t.toNat (by omega)).2.1.1 (h t.toNat (by omega)).2.1.2 (h t.toNat (by omega)).1
theorem kFs.nx {g1 g2 g3 : Nat → Int32} {ln : Int32} {f : Nat → kS} {T t : Int} {x : kS} (h : kFs g1 g2 g3 ln f T) (h0 : 0 ≤ t) (h1 : t < T) (e : kEq (f t.toNat) x) : kEq (f (t + 1).toNat) (kNx g1 g2 g3 x) := by
  have hj := h t.toNat (by omega)
  rw [show (t + 1).toNat = t.toNat + 1 by omega]
  exact hj.2.2.symm.trans (kNx_eq e hj.2.1.1 hj.2.1.2 hj.1)
