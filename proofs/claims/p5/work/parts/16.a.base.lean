/-- a world's cells in a heap that has grown alone -/
theorem kPx {D : va_G} {cl : List vw_C} {ws : va_W} {H : Heap} {t : State} (h : va_P D cl ws H) (h2 : ∀ q : Nat, q < H.size → t.heap[q]? = H[q]?) : va_P D cl ws t.heap := h.kept (fun k q hk => h2 q.1 (h k q hk).lt)
section KX4
variable {p : Program} {l : Launch} {e : Env} {R : Room} {s : State} {m : MethodId} {args : Array Value} {below : List Frame} {meth : Method} {c : Code} {H : Heap} {locs : List Loc} {cells slots : Nat} {Q : State → Prop}
variable {cc : ByteArray} {pc : Nat} {ls : Array Slot} {rest st0 : List Value} {A : Nat → Prop} {H0 : Heap} {mc ms : Nat} {a : Array Value} {G : gG} {wc wr ws : va_W}
/-- a call of a callee that returns an int, or throws and leaves a world too -/
theorem kXw {S SX : Type} {post : Int32 → S → Prop} {w1 : S → va_W} {wx : va_W} {px : SX → Prop} {N : String → Prop} (hr : vx_Run p l e R s m args below meth c H locs cells slots mc ms (F0 m pc ls st0) rest (kQi G post w1 (va_A wc H.size) a) (vx_X px (fun E _ t => N E ∧ va_P G.1 vwCl wx t.heap ∧ va_D (va_A wc H.size) wx) (va_A wc H.size)) (va_A wc H.size)) (hP : va_P G.1 vwCl ws H) (hD : va_D A ws) (hS : va_S A H0 H locs) (hA : ∀ q : Nat, H0.size ≤ q → A q) (isC isR : List Nat) (hC : isC.map (fun i => ws[i]?) = wc.map some) (hR : isR.map (fun i => ws[i]?) = wr.map some) (hn : va_nd isR = true) (hdis : ∀ i ∈ isR, i ∉ isC)
    (kx : ∀ (E : String) (ce : Cell) (q9 : Addr) (u : SX) (t : State) (H1 : Heap) (locs1 : List Loc), px u → N E → va_P G.1 vwCl (wr ++ wx) H1 → va_D A (wr ++ wx) → va_S A H0 H1 locs1 → H1[q9]? = some ce → ce.vm = .none → s.vm.findClass E = some ce.cls → vx_W p l e R s m args below meth c H1 locs1 (cells + mc) (slots + ms) Q (F0 m pc ls rest) q9)
    (kk : ∀ (r : Int32) (u : S) (H1 : Heap) (locs1 : List Loc), post r u → va_P G.1 vwCl (wr ++ w1 u) H1 → va_D A (wr ++ w1 u) → va_S A H0 H1 locs1 → W p l e R s m args below meth c H1 locs1 (cells + mc) (slots + ms) Q (F0 m (pc + 3) ls (.int r :: rest))) : W p l e R s m args below meth c H locs cells slots Q (F0 m pc ls st0) := by
  have hF := va_free (wc := wc) hD hS hA isC hC
  refine vx_calli hr hS (fun q _ h => hF q h) hF (fun q _ h => hF q h) (fun E ce q9 u t H1 locs1 ht hvm hp hB hz hk hS1 hc1 hc2 hc3 => ?_) (fun r u t H1 locs1 ht hvm hp hB hz hk hS1 => ?_)
  · obtain ⟨hN, hP1, hD1⟩ := hB
    rw [ht] at hP1
    obtain ⟨hP2, hD2⟩ := va_join (wr := wr) (w1 := wx) hP hD isC isR hC hR hn hdis hk hF hP1 hD1
    exact kx E ce q9 u t H1 locs1 hp hN hP2 hD2 hS1 hc1 hc2 hc3
  · obtain ⟨hP1, hD1⟩ := hB
    rw [ht] at hP1
    obtain ⟨hP2, hD2⟩ := va_join (wr := wr) (w1 := w1 u) hP hD isC isR hC hR hn hdis hk hF hP1 hD1
    exact kk r u H1 locs1 hp hP2 hD2 hS1
end KX4
theorem kCongD {A : Nat → Prop} {ws : va_W} {q n : Nat} {cA : ClassId} {f g : Nat → Int32} (hD : va_D A ws) (k : Nat) (hk : ws[k]? = some (kI q cA n f)) : va_D A (ws.set k (kI q cA n g)) := by
  have hl := (List.getElem?_eq_some_iff.mp hk).1
  have key : ∀ (i : Nat) (z : Nat × va_E), (ws.set k (kI q cA n g))[i]? = some z → ∃ y, ws[i]? = some y ∧ y.1 = z.1 := by
    intro i z hz
    by_cases hik : i = k
    · subst hik
      rw [List.getElem?_set_self hl] at hz
      cases hz
      exact ⟨_, hk, rfl⟩
    · rw [List.getElem?_set_ne (Ne.symm hik)] at hz
      exact ⟨z, hz, rfl⟩
  refine ⟨fun i j x y hi hj he => ?_, fun i z hz => ?_⟩
  · obtain ⟨x', hx', ex⟩ := key i x hi
    obtain ⟨y', hy', ey⟩ := key j y hj
    exact hD.1 i j x' y' hx' hy' (by rw [ex, ey]; exact he)
  · obtain ⟨y, hy, ey⟩ := key i z hz
    rw [← ey]
    exact hD.2 i y hy
/-- an array that is cleared from below -/
theorem kZf {f : Nat → Int32} {k : Int32} (h : ∀ j : Nat, (j : Int) < k.toInt → f j = 0) (h0 : 0 ≤ k.toInt) (h1 : (k + 1).toInt = k.toInt + (1 : Int32).toInt) : ∀ j : Nat, (j : Int) < (k + 1).toInt → upd f k.toNatClampNeg (vp_nar .boolean 0) j = 0 := by
  intro j hj
  have k1 : (1 : Int32).toInt = 1 := by decide
  unfold upd
  by_cases e9 : j = k.toNatClampNeg
  · rw [if_pos e9]; rfl
  · rw [if_neg e9]
    exact h j (by
      have e2 : (k.toNatClampNeg : Int) = k.toInt := i_cl h0
      omega)
theorem kZfi {f : Nat → Int32} {k : Int32} (h : ∀ j : Nat, (j : Int) < k.toInt → f j = 0) (h0 : 0 ≤ k.toInt) (h1 : (k + 1).toInt = k.toInt + (1 : Int32).toInt) : ∀ j : Nat, (j : Int) < (k + 1).toInt → upd f k.toNatClampNeg 0 j = 0 := by
  intro j hj
  have k1 : (1 : Int32).toInt = 1 := by decide
  unfold upd
  by_cases e9 : j = k.toNatClampNeg
  · rw [if_pos e9]
  · rw [if_neg e9]
    exact h j (by
      have e2 : (k.toNatClampNeg : Int) = k.toInt := i_cl h0
      omega)
