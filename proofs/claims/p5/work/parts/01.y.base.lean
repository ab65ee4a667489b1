-- the words of this proof: one table of classes and array classes, contracts whose world is a list of cells
abbrev gG : Type := va_G × (Nat → ClassId)
abbrev gT (G : gG) : List (ClassId × FieldType) := [(G.2 0, .int), (G.2 1, .boolean), (G.2 2, .object "TraceDebugger$State"), (G.2 3, .long)]
abbrev gK (G : gG) (U : State) : Prop := va_K G.1 vwCl (gT G) U
def kPc (G : gG) (av : List Value) (wc : va_W) (sz : Nat) (Z : State → Prop) : Array Value → State → Prop := va_Pc av (fun U => U.heap.size = sz ∧ va_P G.1 vwCl wc U.heap ∧ gK G U ∧ va_D (fun _ => True) wc ∧ Z U)
abbrev kQi (G : gG) {S : Type} (post : Int32 → S → Prop) (w1 : S → va_W) (A : Nat → Prop) : Array Value → State → Outcome → State → Prop := va_Qi post (fun u t => va_P G.1 vwCl (w1 u) t.heap ∧ va_D A (w1 u)) A
abbrev kQv (G : gG) {S : Type} (post : S → Prop) (w1 : S → va_W) (A : Nat → Prop) : Array Value → State → Outcome → State → Prop := va_Qv post (fun u t => va_P G.1 vwCl (w1 u) t.heap ∧ va_D A (w1 u)) A
abbrev kO (a ci : Nat) (fs : List Value) : Nat × va_E := (a, .inr (ci, fs))
abbrev kI (a : Nat) (c : ClassId) (n : Nat) (f : Nat → Int32) : Nat × va_E := (a, .inl (c, n, .inl f))
abbrev kJ (a : Nat) (c : ClassId) (n : Nat) (f : Nat → Int64) : Nat × va_E := (a, .inl (c, n, .inr (.inl f)))
abbrev kR (a : Nat) (c : ClassId) (n : Nat) (f : Nat → Option Nat) : Nat × va_E := (a, .inl (c, n, .inr (.inr (.inr (.inr f)))))
def kZb (Z : State → Prop) : Prop := ∀ (a : Array Value) (U : State) (g : JFrame) (mk : MethodId), Z U → Z (U.calling g mk a)
theorem kZ0 : kZb (fun _ => True) := fun _ _ _ _ _ => trivial
theorem kBlind {G : gG} {av : List Value} {wc : va_W} {sz : Nat} {Z : State → Prop} (hZ : kZb Z) : FrameBlind (kPc G av wc sz Z) := by
  intro a U g mk h
  obtain ⟨q0, q1, qP, qK, qD, qZ⟩ := h
  exact ⟨q0, q1, qP, va_K.moved (u := U) (U := U.calling g mk a) (Vm.Alike.refl U.vm) qK, qD, hZ a U g mk qZ⟩
theorem kSubP {D : va_G} {cl : List vw_C} {ws wc : va_W} {H : Heap} (hP : va_P D cl ws H) (isC : List Nat) (hC : isC.map (fun i => ws[i]?) = wc.map some) : va_P D cl wc H := by
  intro k q hk
  obtain ⟨i, -, h2⟩ := va_in_of isC hC hk
  exact hP i q h2
theorem kPreS {G : gG} {As : List Value} {wc ws : va_W} {Z : State → Prop} {s : State} {H : Heap} {A : Nat → Prop} (hZb : kZb Z) (hZ : ∀ U : State, U.heap = H → s.WarmedH U.vm → Z U) (hK : gK G s) (hP : va_P G.1 vwCl ws H) (hD : va_D A ws) (isC : List Nat) (hC : isC.map (fun i => ws[i]?) = wc.map some) (hn : va_nd isC = true) : PreS s H (kPc G As wc H.size Z) As :=
  ⟨kBlind hZb, fun U hU hW => ⟨rfl, by rw [hU], by rw [hU]; exact kSubP hP isC hC, va_K.moved hW.alike hK, (hD.sub isC hn hC).weaken (fun _ _ _ _ => trivial), hZ U hU hW⟩⟩
theorem kPreV {G : gG} {C : String} {b : Addr} {As : List Value} {wc ws : va_W} {Z : State → Prop} {s : State} {H : Heap} {A : Nat → Prop} (hb : ∃ cellB : Cell, H[b]? = some cellB ∧ cellB.vm.isStatics = false ∧ s.vm.findClass C = some cellB.cls) (hZb : kZb Z) (hZ : ∀ U : State, U.heap = H → s.WarmedH U.vm → Z U) (hK : gK G s) (hP : va_P G.1 vwCl ws H) (hD : va_D A ws) (isC : List Nat) (hC : isC.map (fun i => ws[i]?) = wc.map some) (hn : va_nd isC = true) : PreV s H C b (kPc G (.ref b :: As) wc H.size Z) As :=
  ⟨kBlind hZb, hb, fun U hU hW => ⟨rfl, by rw [hU], by rw [hU]; exact kSubP hP isC hC, va_K.moved hW.alike hK, (hD.sub isC hn hC).weaken (fun _ _ _ _ => trivial), hZ U hU hW⟩⟩
theorem kZt {s : State} {H : Heap} : ∀ U : State, U.heap = H → s.WarmedH U.vm → (fun _ : State => True) U := fun _ _ _ => trivial
set_option maxHeartbeats 1000000 in
/-- a body, from its first instruction -/
theorem kStart {l : Launch} {y : MethodName} {ws ws' : List Cond} {rm : Room} {G : gG} {av : List Value} {wc : va_W} {sz : Nat} {Z : State → Prop} {Qc : (Nat → Prop) → Array Value → State → Outcome → State → Prop} {mc ms : Nat} {cc : ByteArray} {maxL : Nat} {ret : Option FieldType} (hy : plainName y.cls = true) (hw : ws = Cond.code y cc maxL ret :: ws') (hL : (lg_sl av).length ≤ maxL)
    (body : ∀ (A : Nat → Prop) (p : Program) (e : Env) (s : State) (m : MethodId) (below : List Frame) (meth : Method) (c : Code) (ls : Array Slot), p.tables.exec = Jvm.exec → c.code = cc → meth.sig.returnType = ret → (∀ w ∈ ws, w.before av.toArray s = true) → s.vm.findClass y.cls = some m.cls → meth.locks = false → meth.name = y.name → c.maxLocals = maxL → s.heap.size = sz →
      va_P G.1 vwCl wc s.heap → gK G s → va_D A wc → Z s → (∀ q : Nat, s.heap.size ≤ q → A q) → va_S A s.heap s.heap [] → lv_has ls maxL (lv_args 0 av) → W p l e rm s m av.toArray below meth c s.heap [] 0 0 (MQ below (Qc A) av.toArray s mc ms A) (F0 m 0 ls [])) : Met l y ws rm (kPc G av wc sz Z) (Qc (va_A wc sz)) mc ms (va_A wc sz) := by
  refine Met.ofW (cc := cc) (maxL := maxL) (ret := ret) hy hw ?_
  intro p e s m args below meth c s₁ B hml hv
  obtain ⟨rfl, hsz, hP, hK, hD0, hZ⟩ := hv
  rw [lg_entry_eq]
  exact body (va_A wc sz) p e s m below meth c _ B.exec B.bytes B.returns (atoms_spec (ws := ws) B.pre) (findClass_of_methodNamed B.named) B.notSynchronized (name_of_methodNamed B.named B.method).1 hml hsz hP hK hD0.self hZ (fun q h => Or.inr (by rw [← hsz]; exact h)) va_S.rf (lv_entry av hL)
section KR
variable {p : Program} {l : Launch} {e : Env} {R : Room} {s : State} {m : MethodId} {args : Array Value} {below : List Frame} {meth : Method} {c : Code} {H : Heap} {locs : List Loc} {cells slots : Nat} {Q : State → Prop}
variable {cc : ByteArray} {pc : Nat} {ls : Array Slot} {rest st0 : List Value} {A : Nat → Prop} {H0 : Heap} {mc ms : Nat} {a : Array Value} {G : gG} {wc wr ws : va_W}
theorem kRetI {S : Type} {post : Int32 → S → Prop} {w1 : S → va_W} {v : Int32} (u : S) (hx : p.tables.exec = Jvm.exec) (hb : c.code = cc) (hr : meth.sig.returnType = some .int) (hlocks : meth.locks = false) (hS : va_S A s.heap H locs) (hdg : decode cc pc = .ok (.ireturn, 1)) (hP : va_P G.1 vwCl (w1 u) H) (hD : va_D A (w1 u)) (hpost : post v u) :
    W p l e R s m args below meth c H locs cells slots (MQ below (kQi G post w1 A) args s cells slots A) (F0 m pc ls [.int v]) :=
  W.iret hx hb hr (fun t ht _ => ⟨⟨v, u, rfl, hpost, by rw [ht]; exact hP, hD⟩, hS.F ht⟩) hS.2.2 hdg hlocks
theorem kRetZ {S : Type} {post : Int32 → S → Prop} {w1 : S → va_W} {v : Int32} (u : S) (hx : p.tables.exec = Jvm.exec) (hb : c.code = cc) (hr : meth.sig.returnType = some .boolean) (hlocks : meth.locks = false) (hS : va_S A s.heap H locs) (hdg : decode cc pc = .ok (.ireturn, 1)) (hn : narrow .boolean (.int v) = .int v) (hP : va_P G.1 vwCl (w1 u) H) (hD : va_D A (w1 u)) (hpost : post v u) :
    W p l e R s m args below meth c H locs cells slots (MQ below (kQi G post w1 A) args s cells slots A) (F0 m pc ls [.int v]) :=
  W.zret hx hb hr hn (fun t ht _ => ⟨⟨v, u, rfl, hpost, by rw [ht]; exact hP, hD⟩, hS.F ht⟩) hS.2.2 hdg hlocks
theorem kRetV {S : Type} {post : S → Prop} {w1 : S → va_W} (u : S) (hx : p.tables.exec = Jvm.exec) (hb : c.code = cc) (hr : meth.sig.returnType = none) (hlocks : meth.locks = false) (hS : va_S A s.heap H locs) (hdg : decode cc pc = .ok (.return_, 1)) (hP : va_P G.1 vwCl (w1 u) H) (hD : va_D A (w1 u)) (hpost : post u) :
    W p l e R s m args below meth c H locs cells slots (MQ below (kQv G post w1 A) args s cells slots A) (F0 m pc ls []) :=
  W.vret hx hb hr (fun t ht _ => ⟨⟨u, rfl, hpost, by rw [ht]; exact hP, hD⟩, hS.F ht⟩) hS.2.2 hdg hlocks
theorem kCi {S : Type} {post : Int32 → S → Prop} {w1 : S → va_W} (hr : va_Run p l e R s m args below meth c H locs cells slots mc ms (F0 m pc ls st0) rest (kQi G post w1 (va_A wc H.size) a) (va_A wc H.size)) (hP : va_P G.1 vwCl ws H) (hD : va_D A ws) (hS : va_S A H0 H locs) (hA : ∀ q : Nat, H0.size ≤ q → A q) (isC isR : List Nat) (hC : isC.map (fun i => ws[i]?) = wc.map some) (hR : isR.map (fun i => ws[i]?) = wr.map some) (hn : va_nd isR = true) (hdis : ∀ i ∈ isR, i ∉ isC)
    (kk : ∀ (r : Int32) (u : S) (H1 : Heap) (locs1 : List Loc), post r u → va_P G.1 vwCl (wr ++ w1 u) H1 → va_D A (wr ++ w1 u) → va_S A H0 H1 locs1 → W p l e R s m args below meth c H1 locs1 (cells + mc) (slots + ms) Q (F0 m (pc + 3) ls (.int r :: rest))) : W p l e R s m args below meth c H locs cells slots Q (F0 m pc ls st0) := by
  have hF := va_free (wc := wc) hD hS hA isC hC
  refine va_calli hr hS (fun q _ h => hF q h) hF (fun r u t H1 locs1 ht hvm hp hB hz hk hS1 => ?_)
  obtain ⟨hP1, hD1⟩ := hB
  rw [ht] at hP1
  obtain ⟨hP2, hD2⟩ := va_join (wr := wr) (w1 := w1 u) hP hD isC isR hC hR hn hdis hk hF hP1 hD1
  exact kk r u H1 locs1 hp hP2 hD2 hS1
theorem kCv {S : Type} {post : S → Prop} {w1 : S → va_W} (hr : va_Run p l e R s m args below meth c H locs cells slots mc ms (F0 m pc ls st0) rest (kQv G post w1 (va_A wc H.size) a) (va_A wc H.size)) (hP : va_P G.1 vwCl ws H) (hD : va_D A ws) (hS : va_S A H0 H locs) (hA : ∀ q : Nat, H0.size ≤ q → A q) (isC isR : List Nat) (hC : isC.map (fun i => ws[i]?) = wc.map some) (hR : isR.map (fun i => ws[i]?) = wr.map some) (hn : va_nd isR = true) (hdis : ∀ i ∈ isR, i ∉ isC)
    (kk : ∀ (u : S) (H1 : Heap) (locs1 : List Loc), post u → va_P G.1 vwCl (wr ++ w1 u) H1 → va_D A (wr ++ w1 u) → va_S A H0 H1 locs1 → W p l e R s m args below meth c H1 locs1 (cells + mc) (slots + ms) Q (F0 m (pc + 3) ls rest)) : W p l e R s m args below meth c H locs cells slots Q (F0 m pc ls st0) := by
  have hF := va_free (wc := wc) hD hS hA isC hC
  refine va_callv hr hS (fun q _ h => hF q h) hF (fun u t H1 locs1 ht hvm hp hB hz hk hS1 => ?_)
  obtain ⟨hP1, hD1⟩ := hB
  rw [ht] at hP1
  obtain ⟨hP2, hD2⟩ := va_join (wr := wr) (w1 := w1 u) hP hD isC isR hC hR hn hdis hk hF hP1 hD1
  exact kk u H1 locs1 hp hP2 hD2 hS1
end KR
-- numbers
theorem i_add {x y : Int32} (h1 : -2147483648 ≤ x.toInt + y.toInt) (h2 : x.toInt + y.toInt ≤ 2147483647) : (x + y).toInt = x.toInt + y.toInt := by
  rw [Int32.toInt_add]
  exact Int.bmod_eq_of_le (by omega) (by omega)
theorem i_sub {x y : Int32} (h1 : -2147483648 ≤ x.toInt - y.toInt) (h2 : x.toInt - y.toInt ≤ 2147483647) : (x - y).toInt = x.toInt - y.toInt := by
  rw [Int32.toInt_sub]
  exact Int.bmod_eq_of_le (by omega) (by omega)
theorem i_mul {x y : Int32} (h1 : -2147483648 ≤ x.toInt * y.toInt) (h2 : x.toInt * y.toInt ≤ 2147483647) : (x * y).toInt = x.toInt * y.toInt := by
  rw [Int32.toInt_mul]
  exact Int.bmod_eq_of_le (by omega) (by omega)
theorem i_eq {x y : Int32} : x = y ↔ x.toInt = y.toInt := ⟨fun h => by rw [h], fun h => Int32.toInt_inj.mp h⟩
theorem i_ne {x y : Int32} : ¬ x = y ↔ ¬ x.toInt = y.toInt := not_congr i_eq
theorem i_le {x y : Int32} : x ≤ y ↔ x.toInt ≤ y.toInt := Int32.le_iff_toInt_le
theorem i_lt {x y : Int32} : x < y ↔ x.toInt < y.toInt := Int32.lt_iff_toInt_lt
theorem i_nle {x y : Int32} : ¬ x ≤ y ↔ y.toInt < x.toInt := by rw [i_le]; omega
theorem i_nlt {x y : Int32} : ¬ x < y ↔ y.toInt ≤ x.toInt := by rw [i_lt]; omega
