-- a catch whose rows' classes may be asked for the first time: the search through one method's table, by the laws of the library on resolving
section KX
variable {e : Env} {s₀ : State} {f : JFrame} {a : Addr} {cell : Cell}
/-- one row that covers the pc and names a linked kind of thing: she takes it, or the search goes on, the tables noted -/
theorem kx_row {Q : Handler → Pre} {E : CtlPost} {d : Bool} {acts : List Action} {S : State} {x : ExceptionTableEntry} {t : List ExceptionTableEntry} {k : ClassId} (hx : covers x f.pc = true) (h0 : x.catchType ≠ 0)
    (hW : s₀.WarmedH S.vm) (hl : s₀.vm.ClassLinks e.platform f.method.cls x.catchType k) (hcell : S.heap[a]? = some cell) (hobj : ∀ z, cell.vm ≠ .statics z) (hk : ∃ z, s₀.vm.classes[cell.cls]? = some z) :
    wp (findHandler.go f a (x :: t)) Q E e d acts S ↔ if s₀.vm.assignable cell.cls k = true then Q (.found x.handlerPc) d acts (S.setVm (S.vm.noted f.method.cls x.catchType (.cls k))) else wp (findHandler.go f a t) Q E e d acts (S.setVm (S.vm.noted f.method.cls x.catchType (.cls k))) := by
  simp only [covers] at hx
  obtain ⟨dk, _, _, kt, hd, _, _, _, _, hkt, _, hopen⟩ := hl.here
  obtain ⟨z1, hz1⟩ := hk
  obtain ⟨ha, ht⟩ := (resolveClass_links e.toSetting (hW.classLinks hl)).op (op := VmOp.resolveClass f.method.cls x.catchType) rfl
  have hal : s₀.vm.Alike (S.vm.noted f.method.cls x.catchType (.cls k)) := hW.alike.noted _ _ _
  obtain ⟨k1, hk1, -⟩ := hal.2.2 _ _ hz1
  obtain ⟨k2, hk2, -⟩ := hal.2.2 _ _ hkt
  have hv := hal.assignable cell.cls k
  cases hfit : s₀.vm.assignable cell.cls k <;> rw [hfit] at hv <;> simp [findHandler.go, hx, h0, ha, ht, hcell, hobj, hk1, hk2, hv, VmOp.dirties, VmOp.acts]
/-- the search: rows that are passed, then the row that takes it -/
theorem kx_go (hobj : ∀ z, cell.vm ≠ .statics z) (hk : ∃ z, s₀.vm.classes[cell.cls]? = some z) (x : ExceptionTableEntry) (rest : List ExceptionTableEntry) (hx : covers x f.pc = true) (h0 : x.catchType ≠ 0) {k : ClassId} (hl : s₀.vm.ClassLinks e.platform f.method.cls x.catchType k) (hfit : s₀.vm.assignable cell.cls k = true) :
    ∀ (pre : List ExceptionTableEntry) (S : State), s₀.WarmedH S.vm → S.heap[a]? = some cell → (∀ y ∈ pre, covers y f.pc = false ∨ (y.catchType ≠ 0 ∧ ∃ z, s₀.vm.ClassLinks e.platform f.method.cls y.catchType z ∧ s₀.vm.assignable cell.cls z = false)) →
      ∃ vm', s₀.WarmedH vm' ∧ ∀ (Q : Handler → Pre) (E : CtlPost) (d : Bool) (acts : List Action), wp (findHandler.go f a (pre ++ x :: rest)) Q E e d acts S ↔ Q (.found x.handlerPc) d acts (S.setVm vm')
  | [], S, hW, hcell, _ => by
    obtain ⟨dk, _, _, kt, hd, _, _, _, _, hkt, _, hopen⟩ := hl.here
    exact ⟨_, hW.noted hd hopen (State.rightAt_cls hl), fun Q E d acts => by rw [List.nil_append, kx_row hx h0 hW hl hcell hobj hk, if_pos hfit]⟩
  | y :: ys, S, hW, hcell, hpass => by
    have hys := fun z hz => hpass z (List.mem_cons_of_mem _ hz)
    cases hc : covers y f.pc with
    | false =>
      obtain ⟨vm', h1, h2⟩ := kx_go hobj hk x rest hx h0 hl hfit ys S hW hcell hys
      exact ⟨vm', h1, fun Q E d acts => by rw [List.cons_append, W.findHandler_go_skip hc]; exact h2 Q E d acts⟩
    | true =>
      rcases hpass y List.mem_cons_self with h | ⟨hy0, z, hyl, hno⟩
      · rw [hc] at h; cases h
      · obtain ⟨dk, _, _, kt, hd, _, _, _, _, hkt, _, hopen⟩ := hyl.here
        obtain ⟨vm', h1, h2⟩ := kx_go hobj hk x rest hx h0 hl hfit ys (S.setVm (S.vm.noted f.method.cls y.catchType (.cls z))) (hW.noted hd hopen (State.rightAt_cls hyl)) hcell hys
        exact ⟨vm', h1, fun Q E d acts => by
          rw [List.cons_append, kx_row hc hy0 hW hyl hcell hobj hk, if_neg (by rw [hno]; decide)]
          exact h2 Q E d acts⟩
end KX
section KX2
variable {p : Program} {l : Launch} {e : Env} {R : Room} {s : State} {m : MethodId} {args : Array Value} {below : List Frame} {meth : Method} {c : Code} {T : State} {locs : List Loc} {cells slots : Nat}
theorem kx_through (X : Stand p l e R s m args below meth c T locs cells slots) (a : Addr) {g : JFrame} (hg : g.method = m) {s₁ : State} (hcome : Steps p.tables e below s₁ ((T.setTop g).pushFrame (.throwing a)))
    {cell : Cell} (hcell : T.heap[a]? = some cell) (hobj : cell.vm.isStatics = false) (hk : ∃ z, s.vm.classes[cell.cls]? = some z)
    (pre : List ExceptionTableEntry) (x : ExceptionTableEntry) (rest : List ExceptionTableEntry) (hsplit : c.exceptionTable.toList = pre ++ x :: rest)
    (hpass : ∀ y ∈ pre, covers y g.pc = false ∨ (y.catchType ≠ 0 ∧ ∃ z, s.vm.ClassLinks e.platform m.cls y.catchType z ∧ s.vm.assignable cell.cls z = false)) (hx : covers x g.pc = true) (h0 : x.catchType ≠ 0) {k : ClassId} (hl : s.vm.ClassLinks e.platform m.cls x.catchType k) (hfit : s.vm.assignable cell.cls k = true) :
    ∃ vm', Stand p l e R s m args below meth c (T.setVm vm') locs cells slots ∧ Steps p.tables e below s₁ ((T.setVm vm').setTop { g with pc := x.handlerPc, stack := [.ref a] }) := by
  subst hg
  obtain ⟨vm', hW', hq⟩ := kx_go (e := e) (s₀ := s) (f := g) (a := a) (cell := cell) (VmData.ne_statics_of hobj) hk x rest hx h0 hl hfit pre ((T.setTop g).pushFrame (.throwing a)) (by rw [Stand.throwing_vm]; exact X.warmed) (by rw [Stand.throwing_heap]; exact hcell) hpass
  refine ⟨vm', X.noted hW', hcome.trans ?_⟩
  have hm : ((T.setTop g).pushFrame (.throwing a)).vm.method? g.method = some meth := by rw [Stand.throwing_vm]; exact X.method'
  obtain ⟨hgo, hw⟩ := X.here.throwing (g := g) a
  have hfind : ∀ (Q : Handler → Pre) (E : CtlPost) (d : Bool) (acts : List Action), wp (findHandler g a) Q E e d acts ((T.setTop g).pushFrame (.throwing a)) ↔ Q (.found x.handlerPc) d acts (((T.setTop g).pushFrame (.throwing a)).setVm vm') := fun Q E d acts => by
    rw [W.findHandler_eq hm X.code, hsplit]
    exact hq Q E d acts
  have hIs : (stepThrowing e ((T.setTop g).pushFrame (.throwing a)) a (.java g :: T.frames.tail)).Is ((((T.setTop g).pushFrame (.throwing a)).setVm vm').setFrames (.java { g with pc := x.handlerPc, stack := [.ref a] } :: T.frames.tail)) [] := by
    simp only [stepThrowing, searchFrame, vmDo]
    generalize hr : Sem.go _ e false [] _ = res
    obtain ⟨as, rfl, ha⟩ := Sem.eq_ok_of hr (a := Handler.found x.handlerPc) (s' := ((T.setTop g).pushFrame (.throwing a)).setVm vm') (acts' := []) (by simp [hfind _ _ _ _])
    exact ⟨rfl, ha⟩
  obtain ⟨g₀, hfr⟩ := X.frames_eq
  have hfr' : (T.setVm vm').frames = .java g₀ :: below := hfr
  have hcur : T.cur < T.threads.size := State.cur_lt_of_frames hfr
  have hend : (((T.setTop g).pushFrame (.throwing a)).setVm vm').setFrames (.java { g with pc := x.handlerPc, stack := [.ref a] } :: T.frames.tail) = (T.setVm vm').setTop { g with pc := x.handlerPc, stack := [.ref a] } := by
    have h1 : ((T.setTop g).pushFrame (.throwing a)).setVm vm' = (T.setVm vm').setFrames (.throwing a :: .java g :: below) := by
      rw [State.pushFrame, State.frames_setTop _ hfr, State.setTop_of_frames _ hfr, State.setFrames_setFrames]
      rfl
    rw [h1, State.setFrames_setFrames, State.setTop_of_frames _ hfr', X.tail]
  refine Steps.head hgo hw ?_
  rw [stepThread_throwing (frames_entered X.here.top _), hIs.1, hend]
  exact Steps.refl _
end KX2
