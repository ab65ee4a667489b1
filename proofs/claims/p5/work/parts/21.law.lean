/-! THE CLAIM OUT OF ONE WALK OF THE LAW'S BODY. Your part is whole_start (and what it stands on); all else here is the same for every law, but numbers. -/
def R_law : String := "TraceDebuggerLaw"
def lw_P (b : Addr) (xs : List Int32) (args : Array Value) (s : State) : Prop := args = #[.ref b] ∧ s.IntsAt b xs ∧ xs.length ≤ 2049 ∧ (Jvm.Cond.and given_1 narrow_1).before args s = true
def lw_Q (_ : Array Value) (s : State) (o : Outcome) (t : State) : Prop := o = .returned (some (.int 1)) ∧ Framed s o t [] 601024 7292999
def lw_Z (below : List Frame) (a : Array Value) (s : State) : State → Prop := fun t => ∃ o, t.status = .running ∧ Ended t below o ∧ lw_Q a s o t
/-- the law's own end, with 1 on the stack, nothing written that was there before, its room as the claim has it -/
theorem lw_ret {p : Program} {l : Launch} {e : Env} {s : State} {m : MethodId} {below : List Frame} {meth : Method} {c : Code} {b : Nat} (hx : p.tables.exec = Jvm.exec) (hb : c.code = code) (hr : meth.sig.returnType = ret) (hlocks : meth.locks = false) {pc : Nat} {H : Heap} {ls : Array Slot} (hdg : decode code pc = .ok (.ireturn, 1)) : W p l e room_1 s m #[Value.ref b] below meth c H [] 601024 7292999 (lw_Z below #[Value.ref b] s) (F0 m pc ls [.int 1]) := by
  intro T hT X
  obtain ⟨fs, hret, hrun, hended, hW, hframe⟩ := X.leave (v := some (.int 1)) (hlocks := hlocks) (fun h => by rw [hr] at h; cases h)
  have hmeth' : T.vm.method? m = some meth := X.method'
  refine ⟨T.setFrames fs, ?_, .returned (some (.int 1)), hrun, hended, rfl, ⟨_, rfl⟩, hW, hframe⟩
  jvm_step X.here [X.here.top, hx, hb, hdg, hmeth', hr, ret, narrow_b1]
  (try refine ⟨rfl, ?_⟩); (try refine ⟨rfl, ?_⟩)
  first | (intro acts; rw [hret _ acts rfl rfl rfl]) | rw [hret _ _ rfl rfl rfl]
  exact Steps.refl _
/-- what holds at the law's entry: the machine, the code, the tables' words (any of lw_tbl by 'hts w (by decide +kernel)'), the script of L ints xs at the cell b, what the Statement gives of the start (any of its parts by flat_of_before) -/
def lw_At (p : Program) (s : State) (m : MethodId) (meth : Method) (c : Code) (b L : Nat) (xs : Nat → Int32) : Prop :=
  p.tables.exec = Jvm.exec ∧ c.code = code ∧ meth.sig.returnType = ret ∧ c.maxLocals = 7 ∧ s.vm.findClass R_law = some m.cls ∧ (∀ w ∈ lw_tbl, w.before #[Value.ref b] s = true) ∧ va_X b L xs s s.heap ∧ b < s.heap.size ∧ meth.locks = false ∧ (Jvm.Cond.and given_1 narrow_1).before #[Value.ref b] s = true
theorem kZX {b L : Nat} {xs : Nat → Int32} : kZb (fun U => va_X b L xs U U.heap) := fun a U g mk h => va_X.moved (u := U) (U := U.calling g mk a) (Vm.Alike.refl U.vm) h
def kx0 (L : Nat) (xs : Nat → Int32) : Int32 := if L = 0 then 0 else xs 0
set_option maxHeartbeats 4000000 in
set_option maxRecDepth 100000 in
/-- cell(script, 0) -/
theorem c_L_cell (l : Launch) (G : gG) (sz b L : Nat) (xs : Nat → Int32) (hL : L ≤ 2049) : Met l yL_cell wsL_cell { frames := 0, cells := 0, slots := 0, locals := 0 } (kPc G [.ref b, .int 0] [] sz (fun U => va_X b L xs U U.heap)) (kQi G (S := Unit) (fun r _ => r = kx0 L xs) (fun _ => []) (va_A [] sz)) 0 0 (va_A [] sz) := by
  refine Met.ofW (cc := cL_cell) (maxL := 2) (ret := some .int) (by decide) rfl ?_
  intro p e s m args below meth c s₁ B hml hv
  obtain ⟨rfl, hsz, hP, hK, hD0, hX⟩ := hv
  rw [lg_entry_eq]
  have hx := B.exec
  have hb := B.bytes
  have hr := B.returns
  have hlocks := B.notSynchronized
  have hbl : b < s.heap.size := by
    obtain ⟨scr, h1, -⟩ := hX
    exact (Array.getElem?_eq_some_iff.mp h1).1
  have hbA : ¬ va_A [] sz b := by
    intro h9
    rcases h9 with ⟨k, e9, h9⟩ | h9
    · simp at h9
    · omega
  have hS : va_S (va_A [] sz) s.heap s.heap [] := va_S.rf
  have hl := lv_entry ([.ref b, .int 0] : List Value) (n := 2) (Nat.le_of_ble_eq_true rfl)
  generalize (lg_sl ([.ref b, .int 0] : List Value) ++ List.replicate (2 - (lg_sl ([.ref b, .int 0] : List Value)).length) Slot.unset).toArray = ls at hl ⊢
  have hl : lv_has ls 2 [(0, .ref b), (1, .int 0)] := hl
  have hD := hD0.self (sz := sz)
  have kL : (Int32.ofNat L).toInt = (L : Int) := nI_toInt (n := L) (by omega)
  have kc0 : (0 : Int32).toInt = 0 := by decide
  refine lv_iload_n hx hb dL_cell_0 rfl (lv_at hl 1 rfl) ?_
  refine lv_aload_n hx hb dL_cell_1 rfl (lv_at hl 0 rfl) ?_
  refine va_slen hx hb hX hbl hbA hS dL_cell_2 ?_
  refine lv_icmp_ge (tgt := 12) hx hb dL_cell_3 (by decide) (fun c1 => ?_) (fun c1 => ?_)
  · have t1 := i_le.mp c1
    refine lv_iconst (v := 0) hx hb dL_cell_12 (by decide) ?_
    exact kRetI (G := G) () hx hb hr hlocks hS dL_cell_13 (kSubP (wc := []) hP [] rfl) (hD.sub (ws' := []) [] (by decide) rfl) (by unfold kx0; rw [if_pos (by omega)])
  · have t1 := i_nle.mp c1
    refine lv_aload_n hx hb dL_cell_6 rfl (lv_at hl 0 rfl) ?_
    refine lv_iload_n hx hb dL_cell_7 rfl (lv_at hl 1 rfl) ?_
    refine va_sld hx hb hX hbl hbA hS (vp_in_iff.mpr (by omega)) dL_cell_8 ?_
    refine lv_goto (tgt := 13) hx hb dL_cell_9 (by decide) ?_
    refine kTop (y := xs 0) rfl ?_
    exact kRetI (G := G) () hx hb hr hlocks hS dL_cell_13 (kSubP (wc := []) hP [] rfl) (hD.sub (ws' := []) [] (by decide) rfl) (by unfold kx0; rw [if_neg (by omega)])
set_option maxHeartbeats 4000000 in
set_option maxRecDepth 100000 in
/-- the law's end: nothing more to read -/
theorem law_exit {p : Program} {l : Launch} {e : Env} {s : State} {m : MethodId} {below : List Frame} {meth : Method} {c : Code} {b L : Nat} {xs : Nat → Int32} (Q0 : lw_At p s m meth c b L xs) (A : Nat → Prop) (hAe : A = fun z => s.heap.size ≤ z) (H : Heap) (locs : List Loc) (hS : va_S A s.heap H locs) (ls : Array Slot) {cells slots : Nat} (hc : cells ≤ 601024) (hs : slots ≤ 7292999) : W p l e room_1 s m #[Value.ref b] below meth c H locs cells slots (lw_Z below #[Value.ref b] s) (F0 m 675 ls []) := by
  obtain ⟨hx, hb, hr, hml, hown, hts, hX, hbl, hlocks, hgv⟩ := Q0
  refine lv_iconst (v := 1) hx hb dL_law_675 (by decide) ?_
  refine va_forget (fun q hq => by have h9 := hS.2.2 q hq; rw [hAe] at h9; exact h9) ?_
  refine W.widen (k := 601024) (n := 7292999) hc hs ?_
  exact lw_ret hx hb hr hlocks dL_law_676
theorem kUw {f g : Nat → Int32} {n : Nat} {v : Int32} (h : ∀ j : Nat, j < 64 → f j = g j) : ∀ j : Nat, j < 64 → upd f n v j = upd g n v j := by
  intro j hj
  unfold upd
  by_cases e9 : j = n
  · rw [if_pos e9, if_pos e9]
  · rw [if_neg e9, if_neg e9]; exact h j hj
theorem kSI0 : ((1 ≤ (1 : Int32).toInt ∧ (1 : Int32).toInt ≤ 16) ∧ (0 ≤ (0 : Int32).toInt ∧ (0 : Int32).toInt ≤ 200) ∧ (0 ≤ (0 : Int32).toInt ∧ (0 : Int32).toInt ≤ 2000) ∧ kB01 (0 : Int32)) := ⟨⟨by decide, by decide⟩, ⟨by decide, by decide⟩, ⟨by decide, by decide⟩, Or.inl rfl⟩
theorem kPG0 {f1 f2 f3 : Nat → Int32} : ((0 ≤ (0 : Int32).toInt ∧ (0 : Int32).toInt ≤ 80) ∧ ∀ j : Nat, (j : Int) < (0 : Int32).toInt → ((0 ≤ (f1 j).toInt ∧ (f1 j).toInt ≤ 12) ∧ (((f1 j).toInt ≤ 6 ∨ (f1 j).toInt = 8 ∨ (f1 j).toInt = 10 ∨ (f1 j).toInt = 11) → (0 ≤ (f2 j).toInt ∧ (f2 j).toInt < 8)) ∧ ((1 ≤ (f1 j).toInt ∧ (f1 j).toInt ≤ 6) → (0 ≤ (f3 j).toInt ∧ (f3 j).toInt < 8)) ∧ ((f1 j).toInt = 9 → (0 ≤ (f3 j).toInt ∧ (f3 j).toInt ≤ 8)))) := ⟨⟨by decide, by decide⟩, fun j h9 => absurd h9 (by have k0 : (0 : Int32).toInt = 0 := (by decide); omega)⟩
abbrev lawK (p : Program) (l : Launch) (e : Env) (s : State) (m : MethodId) (below : List Frame) (meth : Method) (c : Code) (G : gG) (h q : Nat → Nat) (fs : Int32) (b o9 : Nat) (A : Nat → Prop) (i : Int32) (cells slots pc : Nat) : Prop :=
  ∀ (size : Int32) (f1 : Nat → Int32) (f2 : Nat → Int32) (f3 : Nat → Int32) (fm : Nat → Int32) (fw : Nat → Int32) (tr : Int32) (ch : Int32) (fr : Int32) (pr : Int32) (tm : Int32) (en : Int32) (sp : Int32) (zs : Int32) (far : Int32) (fo : Nat → Int32) (fc : Nat → Int32) (fl : Nat → Int32) (fn : Nat → Int32) (g : Nat → Option Nat) (kd : Nat → Nat → Nat) (ks : Nat → Nat → Int32) (ka : Nat → Nat → Nat → Int32) (Qcd : Int32) (Qsp : Int32) (Qln : Int32) (Qfr : Int32) (Qtm : Int32) (Qoc : Int32) (Qen : Int32) (Qtr : Int32) (Qch : Int32) (Qkc : Int32) (Qre : Int32) (Qg1 : Nat → Int32) (Qg2 : Nat → Int32) (Qg3 : Nat → Int32) (Qgm : Nat → Int32) (Qgw : Nat → Int32) (Qgb : Nat → Int32) (Qgc : Nat → Int32) (Qgl : Nat → Int32) (Qgk : Nat → Int32) (Qgo : Nat → Int32) (Qgt : Nat → Int32) (fj : Nat → Int64) (H : Heap) (locs : List Loc) (ls : Array Slot), (((0 ≤ size.toInt ∧ size.toInt ≤ 80) ∧ ∀ j : Nat, (j : Int) < size.toInt → ((0 ≤ (f1 j).toInt ∧ (f1 j).toInt ≤ 12) ∧ (((f1 j).toInt ≤ 6 ∨ (f1 j).toInt = 8 ∨ (f1 j).toInt = 10 ∨ (f1 j).toInt = 11) → (0 ≤ (f2 j).toInt ∧ (f2 j).toInt < 8)) ∧ ((1 ≤ (f1 j).toInt ∧ (f1 j).toInt ≤ 6) → (0 ≤ (f3 j).toInt ∧ (f3 j).toInt < 8)) ∧ ((f1 j).toInt = 9 → (0 ≤ (f3 j).toInt ∧ (f3 j).toInt ≤ 8))))) → (((1 ≤ fr.toInt ∧ fr.toInt ≤ 16) ∧ (0 ≤ pr.toInt ∧ pr.toInt ≤ 200) ∧ (0 ≤ tm.toInt ∧ tm.toInt ≤ 2000) ∧ kB01 en) ∧ kCP ch ∧ (kHI fs sp zs far) ∧ (∀ i : Nat, i < 8 → g i = some (kd i 0)) ∧ (∀ i : Nat, i < 8 → ((1 ≤ (ks i 0).toInt ∧ (ks i 0).toInt ≤ 16) ∧ (0 ≤ (ks i 1).toInt ∧ (ks i 1).toInt ≤ 200) ∧ (0 ≤ (ks i 2).toInt ∧ (ks i 2).toInt ≤ 2000) ∧ kB01 (ks i 3))) ∧ kB01 tr) → (((0 ≤ Qln.toInt ∧ Qln.toInt ≤ 80) ∧ ∀ j : Nat, (j : Int) < Qln.toInt → ((0 ≤ (Qg1 j).toInt ∧ (Qg1 j).toInt ≤ 12) ∧ (((Qg1 j).toInt ≤ 6 ∨ (Qg1 j).toInt = 8 ∨ (Qg1 j).toInt = 10 ∨ (Qg1 j).toInt = 11) → (0 ≤ (Qg2 j).toInt ∧ (Qg2 j).toInt < 8)) ∧ ((1 ≤ (Qg1 j).toInt ∧ (Qg1 j).toInt ≤ 6) → (0 ≤ (Qg3 j).toInt ∧ (Qg3 j).toInt < 8)) ∧ ((Qg1 j).toInt = 9 → (0 ≤ (Qg3 j).toInt ∧ (Qg3 j).toInt ≤ 8))))) → (((1 ≤ Qfr.toInt ∧ Qfr.toInt ≤ 16) ∧ (0 ≤ Qoc.toInt ∧ Qoc.toInt ≤ 200) ∧ (0 ≤ Qtm.toInt ∧ Qtm.toInt ≤ 2000) ∧ kB01 Qen) ∧ kCP Qch ∧ (kHI fs Qsp Qkc Qre) ∧ kB01 Qtr ∧ kCh Qg1 Qg2 Qg3 Qln Qgb Qtm.toInt (Qgc, Qgl, Qgk, Qfr, Qoc, Qen)) → (∀ j : Nat, j < 64 → fw j = Qgw j) → va_P G.1 vwCl [kO (h 0) 4 [.ref (h 1), .ref (h 6), .ref (h 8), .ref (h 12), .ref (h 14), .int tr], kO (h 1) 2 [.ref (h 2), .ref (h 3), .ref (h 4), .ref (h 5), .int size], kI (h 2) (G.2 0) 80 f1, kI (h 3) (G.2 0) 80 f2, kI (h 4) (G.2 0) 80 f3, kI (h 5) (G.2 1) 80 fm, kO (h 6) 1 [.ref (h 8), .ref (h 7), .int ch], kI (h 7) (G.2 0) 200 fo, kO (h 8) 3 [.ref (h 9), .ref (h 10), .ref (h 11), .int fr, .int pr, .int tm, .int en], kI (h 9) (G.2 0) 64 fc, kI (h 10) (G.2 0) 128 fl, kI (h 11) (G.2 0) 16 fn, kO (h 12) 0 [.ref (h 13), .int fs, .int sp, .int zs, .int far], kR (h 13) (G.2 2) 8 g, kI (h 14) (G.2 1) 64 fw, kO (kd 0 0) 3 [.ref (kd 0 1), .ref (kd 0 2), .ref (kd 0 3), .int (ks 0 0), .int (ks 0 1), .int (ks 0 2), .int (ks 0 3)], kI (kd 0 1) (G.2 0) 64 (ka 0 0), kI (kd 0 2) (G.2 0) 128 (ka 0 1), kI (kd 0 3) (G.2 0) 16 (ka 0 2), kO (kd 1 0) 3 [.ref (kd 1 1), .ref (kd 1 2), .ref (kd 1 3), .int (ks 1 0), .int (ks 1 1), .int (ks 1 2), .int (ks 1 3)], kI (kd 1 1) (G.2 0) 64 (ka 1 0), kI (kd 1 2) (G.2 0) 128 (ka 1 1), kI (kd 1 3) (G.2 0) 16 (ka 1 2), kO (kd 2 0) 3 [.ref (kd 2 1), .ref (kd 2 2), .ref (kd 2 3), .int (ks 2 0), .int (ks 2 1), .int (ks 2 2), .int (ks 2 3)], kI (kd 2 1) (G.2 0) 64 (ka 2 0), kI (kd 2 2) (G.2 0) 128 (ka 2 1), kI (kd 2 3) (G.2 0) 16 (ka 2 2), kO (kd 3 0) 3 [.ref (kd 3 1), .ref (kd 3 2), .ref (kd 3 3), .int (ks 3 0), .int (ks 3 1), .int (ks 3 2), .int (ks 3 3)], kI (kd 3 1) (G.2 0) 64 (ka 3 0), kI (kd 3 2) (G.2 0) 128 (ka 3 1), kI (kd 3 3) (G.2 0) 16 (ka 3 2), kO (kd 4 0) 3 [.ref (kd 4 1), .ref (kd 4 2), .ref (kd 4 3), .int (ks 4 0), .int (ks 4 1), .int (ks 4 2), .int (ks 4 3)], kI (kd 4 1) (G.2 0) 64 (ka 4 0), kI (kd 4 2) (G.2 0) 128 (ka 4 1), kI (kd 4 3) (G.2 0) 16 (ka 4 2), kO (kd 5 0) 3 [.ref (kd 5 1), .ref (kd 5 2), .ref (kd 5 3), .int (ks 5 0), .int (ks 5 1), .int (ks 5 2), .int (ks 5 3)], kI (kd 5 1) (G.2 0) 64 (ka 5 0), kI (kd 5 2) (G.2 0) 128 (ka 5 1), kI (kd 5 3) (G.2 0) 16 (ka 5 2), kO (kd 6 0) 3 [.ref (kd 6 1), .ref (kd 6 2), .ref (kd 6 3), .int (ks 6 0), .int (ks 6 1), .int (ks 6 2), .int (ks 6 3)], kI (kd 6 1) (G.2 0) 64 (ka 6 0), kI (kd 6 2) (G.2 0) 128 (ka 6 1), kI (kd 6 3) (G.2 0) 16 (ka 6 2), kO (kd 7 0) 3 [.ref (kd 7 1), .ref (kd 7 2), .ref (kd 7 3), .int (ks 7 0), .int (ks 7 1), .int (ks 7 2), .int (ks 7 3)], kI (kd 7 1) (G.2 0) 64 (ka 7 0), kI (kd 7 2) (G.2 0) 128 (ka 7 1), kI (kd 7 3) (G.2 0) 16 (ka 7 2), kO (q 0) 5 [.int Qcd, .int fs, .int Qsp, .ref (q 1), .ref (q 2), .ref (q 3), .ref (q 4), .int Qln, .ref (q 5), .ref (q 6), .ref (q 7), .ref (q 8), .ref (q 9), .int Qfr, .int Qtm, .ref (q 10), .int Qoc, .int Qen, .int Qtr, .int Qch, .ref (q 11), .int Qkc, .int Qre], kI (q 1) (G.2 0) 80 Qg1, kI (q 2) (G.2 0) 80 Qg2, kI (q 3) (G.2 0) 80 Qg3, kI (q 4) (G.2 1) 80 Qgm, kI (q 5) (G.2 1) 64 Qgw, kI (q 6) (G.2 0) 64 Qgb, kI (q 7) (G.2 0) 64 Qgc, kI (q 8) (G.2 0) 128 Qgl, kI (q 9) (G.2 0) 16 Qgk, kI (q 10) (G.2 0) 200 Qgo, kI (q 11) (G.2 0) 8 Qgt, kJ o9 (G.2 3) 1 fj] H → va_D A [kO (h 0) 4 [.ref (h 1), .ref (h 6), .ref (h 8), .ref (h 12), .ref (h 14), .int tr], kO (h 1) 2 [.ref (h 2), .ref (h 3), .ref (h 4), .ref (h 5), .int size], kI (h 2) (G.2 0) 80 f1, kI (h 3) (G.2 0) 80 f2, kI (h 4) (G.2 0) 80 f3, kI (h 5) (G.2 1) 80 fm, kO (h 6) 1 [.ref (h 8), .ref (h 7), .int ch], kI (h 7) (G.2 0) 200 fo, kO (h 8) 3 [.ref (h 9), .ref (h 10), .ref (h 11), .int fr, .int pr, .int tm, .int en], kI (h 9) (G.2 0) 64 fc, kI (h 10) (G.2 0) 128 fl, kI (h 11) (G.2 0) 16 fn, kO (h 12) 0 [.ref (h 13), .int fs, .int sp, .int zs, .int far], kR (h 13) (G.2 2) 8 g, kI (h 14) (G.2 1) 64 fw, kO (kd 0 0) 3 [.ref (kd 0 1), .ref (kd 0 2), .ref (kd 0 3), .int (ks 0 0), .int (ks 0 1), .int (ks 0 2), .int (ks 0 3)], kI (kd 0 1) (G.2 0) 64 (ka 0 0), kI (kd 0 2) (G.2 0) 128 (ka 0 1), kI (kd 0 3) (G.2 0) 16 (ka 0 2), kO (kd 1 0) 3 [.ref (kd 1 1), .ref (kd 1 2), .ref (kd 1 3), .int (ks 1 0), .int (ks 1 1), .int (ks 1 2), .int (ks 1 3)], kI (kd 1 1) (G.2 0) 64 (ka 1 0), kI (kd 1 2) (G.2 0) 128 (ka 1 1), kI (kd 1 3) (G.2 0) 16 (ka 1 2), kO (kd 2 0) 3 [.ref (kd 2 1), .ref (kd 2 2), .ref (kd 2 3), .int (ks 2 0), .int (ks 2 1), .int (ks 2 2), .int (ks 2 3)], kI (kd 2 1) (G.2 0) 64 (ka 2 0), kI (kd 2 2) (G.2 0) 128 (ka 2 1), kI (kd 2 3) (G.2 0) 16 (ka 2 2), kO (kd 3 0) 3 [.ref (kd 3 1), .ref (kd 3 2), .ref (kd 3 3), .int (ks 3 0), .int (ks 3 1), .int (ks 3 2), .int (ks 3 3)], kI (kd 3 1) (G.2 0) 64 (ka 3 0), kI (kd 3 2) (G.2 0) 128 (ka 3 1), kI (kd 3 3) (G.2 0) 16 (ka 3 2), kO (kd 4 0) 3 [.ref (kd 4 1), .ref (kd 4 2), .ref (kd 4 3), .int (ks 4 0), .int (ks 4 1), .int (ks 4 2), .int (ks 4 3)], kI (kd 4 1) (G.2 0) 64 (ka 4 0), kI (kd 4 2) (G.2 0) 128 (ka 4 1), kI (kd 4 3) (G.2 0) 16 (ka 4 2), kO (kd 5 0) 3 [.ref (kd 5 1), .ref (kd 5 2), .ref (kd 5 3), .int (ks 5 0), .int (ks 5 1), .int (ks 5 2), .int (ks 5 3)], kI (kd 5 1) (G.2 0) 64 (ka 5 0), kI (kd 5 2) (G.2 0) 128 (ka 5 1), kI (kd 5 3) (G.2 0) 16 (ka 5 2), kO (kd 6 0) 3 [.ref (kd 6 1), .ref (kd 6 2), .ref (kd 6 3), .int (ks 6 0), .int (ks 6 1), .int (ks 6 2), .int (ks 6 3)], kI (kd 6 1) (G.2 0) 64 (ka 6 0), kI (kd 6 2) (G.2 0) 128 (ka 6 1), kI (kd 6 3) (G.2 0) 16 (ka 6 2), kO (kd 7 0) 3 [.ref (kd 7 1), .ref (kd 7 2), .ref (kd 7 3), .int (ks 7 0), .int (ks 7 1), .int (ks 7 2), .int (ks 7 3)], kI (kd 7 1) (G.2 0) 64 (ka 7 0), kI (kd 7 2) (G.2 0) 128 (ka 7 1), kI (kd 7 3) (G.2 0) 16 (ka 7 2), kO (q 0) 5 [.int Qcd, .int fs, .int Qsp, .ref (q 1), .ref (q 2), .ref (q 3), .ref (q 4), .int Qln, .ref (q 5), .ref (q 6), .ref (q 7), .ref (q 8), .ref (q 9), .int Qfr, .int Qtm, .ref (q 10), .int Qoc, .int Qen, .int Qtr, .int Qch, .ref (q 11), .int Qkc, .int Qre], kI (q 1) (G.2 0) 80 Qg1, kI (q 2) (G.2 0) 80 Qg2, kI (q 3) (G.2 0) 80 Qg3, kI (q 4) (G.2 1) 80 Qgm, kI (q 5) (G.2 1) 64 Qgw, kI (q 6) (G.2 0) 64 Qgb, kI (q 7) (G.2 0) 64 Qgc, kI (q 8) (G.2 0) 128 Qgl, kI (q 9) (G.2 0) 16 Qgk, kI (q 10) (G.2 0) 200 Qgo, kI (q 11) (G.2 0) 8 Qgt, kJ o9 (G.2 3) 1 fj] → va_S A s.heap H locs → lv_has ls 7 [(4, .int i), (3, .ref o9), (2, .ref (q 0)), (1, .ref (h 0)), (0, .ref b)] → W p l e room_1 s m #[Value.ref b] below meth c H locs cells slots (lw_Z below #[Value.ref b] s) (F0 m pc ls [])
