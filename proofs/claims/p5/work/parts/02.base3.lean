-- what throwing bodies are given beside their words: links and casts that the tables' words don't keep by themselves
def kZ6 (U : State) : Prop := va_Nw (.castable "java/lang/IllegalArgumentException" "java/lang/IllegalArgumentException") U ∧ va_Nw (.castable "java/lang/IndexOutOfBoundsException" "java/lang/IndexOutOfBoundsException") U ∧ va_Nw (.declares (Bundle.init0 "java/lang/RuntimeException")) U ∧ va_Nw (.declares (Bundle.init0 "java/lang/Exception")) U ∧ va_Nw (.declares (Bundle.init0 Bundle.tN)) U ∧ va_Nw (.methodLinkNest RX2 29 yX4_isLocal "TraceDebugger") U
theorem kZ6b : kZb kZ6 := fun a U g mk h => ⟨va_Nw.same (u := U) (U := U.calling g mk a) rfl rfl h.1, va_Nw.same (u := U) (U := U.calling g mk a) rfl rfl h.2.1, va_Nw.same (u := U) (U := U.calling g mk a) rfl rfl h.2.2.1, va_Nw.same (u := U) (U := U.calling g mk a) rfl rfl h.2.2.2.1, va_Nw.same (u := U) (U := U.calling g mk a) rfl rfl h.2.2.2.2.1, va_Nw.same (u := U) (U := U.calling g mk a) rfl rfl h.2.2.2.2.2⟩
theorem kZ6w {s U : State} (hW : s.WarmedH U.vm) (h : kZ6 s) : kZ6 U := ⟨va_Nw.warmC hW h.1, va_Nw.warmC hW h.2.1, va_Nw.warmD hW h.2.2.1, va_Nw.warmD hW h.2.2.2.1, va_Nw.warmD hW h.2.2.2.2.1, va_Nw.warmM hW h.2.2.2.2.2⟩
def kZ7 (U : State) : Prop := va_Nw (.castable "java/lang/IllegalStateException" "java/lang/IllegalStateException") U ∧ va_Nw (.castable "java/lang/UnsupportedOperationException" "java/lang/UnsupportedOperationException") U ∧ va_Nc "java/lang/IllegalStateException" "java/lang/IllegalArgumentException" U ∧ va_Nc "java/lang/UnsupportedOperationException" "java/lang/IllegalArgumentException" U ∧ va_Nc "java/lang/UnsupportedOperationException" "java/lang/IllegalStateException" U ∧ va_Nc "java/lang/IllegalStateException" "java/lang/IndexOutOfBoundsException" U
theorem kZ7b : kZb kZ7 := fun a U g mk h => ⟨va_Nw.same (u := U) (U := U.calling g mk a) rfl rfl h.1, va_Nw.same (u := U) (U := U.calling g mk a) rfl rfl h.2.1, va_Nc.moved (u := U) (U := U.calling g mk a) (Vm.Alike.refl U.vm) h.2.2.1, va_Nc.moved (u := U) (U := U.calling g mk a) (Vm.Alike.refl U.vm) h.2.2.2.1, va_Nc.moved (u := U) (U := U.calling g mk a) (Vm.Alike.refl U.vm) h.2.2.2.2.1, va_Nc.moved (u := U) (U := U.calling g mk a) (Vm.Alike.refl U.vm) h.2.2.2.2.2⟩
theorem kZ7w {s U : State} (hW : s.WarmedH U.vm) (h : kZ7 s) : kZ7 U := ⟨va_Nw.warmC hW h.1, va_Nw.warmC hW h.2.1, va_Nc.moved hW.alike h.2.2.1, va_Nc.moved hW.alike h.2.2.2.1, va_Nc.moved hW.alike h.2.2.2.2.1, va_Nc.moved hW.alike h.2.2.2.2.2⟩
/-- .. and the link from the machine to isCell -/
def kZm (U : State) : Prop := va_Nw (.methodLinkNest RX1 62 yX4_isCell "TraceDebugger") U
def kZT (U : State) : Prop := kZ6 U ∧ kZ7 U ∧ va_Nw (.methodLinkNest RX1 62 yX4_isCell "TraceDebugger") U
theorem kZTb : kZb kZT := fun a U g mk h => ⟨kZ6b a U g mk h.1, kZ7b a U g mk h.2.1, va_Nw.same (u := U) (U := U.calling g mk a) rfl rfl h.2.2⟩
theorem kZTw {s U : State} (hW : s.WarmedH U.vm) (h : kZT s) : kZT U := ⟨kZ6w hW h.1, kZ7w hW h.2.1, va_Nw.warmM hW h.2.2⟩
theorem kZxw {s : State} {A B : Nat → Prop} {H : Heap} {locs : List Loc} (hZ : kZx kZT A s) (hS : va_S A s.heap H locs) (hF : ∀ q, B q → A q) : ∀ U : State, U.heap = H → s.WarmedH U.vm → kZx kZT B U := by
  intro U hU hW
  refine ⟨kZTw hW hZ.1, ?_, ?_⟩
  · rw [hU]; exact vx_Zq.moved hW.alike ((hZ.2.1.kept hS.2.1).narrow hF)
  · rw [hU]; exact vx_Zq.moved hW.alike ((hZ.2.2.kept hS.2.1).narrow hF)
theorem kXF {s t : State} {A : Nat → Prop} {H : Heap} {locs : List Loc} (hS : va_S A s.heap H locs) (h1 : H.size ≤ t.heap.size) (h2 : ∀ q : Nat, q < H.size → t.heap[q]? = H[q]?) : va_F A s t :=
  ⟨Nat.le_trans hS.1 h1, fun q hq hA => (h2 q (Nat.lt_of_lt_of_le hq hS.1)).trans (hS.2.1 q hq hA)⟩
/-- the words of a throw that aren't good: three declarations and one cast -/
def kNg (X : String) : List Cond := [.declares (Bundle.init0 "java/lang/RuntimeException"), .declares (Bundle.init0 "java/lang/Exception"), .declares (Bundle.init0 Bundle.tN), .castable X X]
theorem kNgA {args : Array Value} {s : State} (h : kZT s) : ∀ w ∈ kNg "java/lang/IllegalArgumentException", w.before args s = true := vx_c (va_Nw.use rfl h.1.2.2.1) (vx_c (va_Nw.use rfl h.1.2.2.2.1) (vx_c (va_Nw.use rfl h.1.2.2.2.2.1) (vx_c (va_Nw.use rfl h.1.1) vx_n)))
theorem kNgI {args : Array Value} {s : State} (h : kZT s) : ∀ w ∈ kNg "java/lang/IndexOutOfBoundsException", w.before args s = true := vx_c (va_Nw.use rfl h.1.2.2.1) (vx_c (va_Nw.use rfl h.1.2.2.2.1) (vx_c (va_Nw.use rfl h.1.2.2.2.2.1) (vx_c (va_Nw.use rfl h.1.2.1) vx_n)))
theorem kNgS {args : Array Value} {s : State} (h : kZT s) : ∀ w ∈ kNg "java/lang/IllegalStateException", w.before args s = true := vx_c (va_Nw.use rfl h.1.2.2.1) (vx_c (va_Nw.use rfl h.1.2.2.2.1) (vx_c (va_Nw.use rfl h.1.2.2.2.2.1) (vx_c (va_Nw.use rfl h.2.1.1) vx_n)))
theorem kNgU {args : Array Value} {s : State} (h : kZT s) : ∀ w ∈ kNg "java/lang/UnsupportedOperationException", w.before args s = true := vx_c (va_Nw.use rfl h.1.2.2.1) (vx_c (va_Nw.use rfl h.1.2.2.2.1) (vx_c (va_Nw.use rfl h.1.2.2.2.2.1) (vx_c (va_Nw.use rfl h.2.1.2.1) vx_n)))
/-- the spacing in its range -/
def kSp (x : Int32) : Int32 := if x < 1 then 1 else if 100 < x then 100 else x
theorem kSpC (x : Int32) : (if (1 : Int32) < (if x < 100 then x else 100) then (if x < 100 then x else 100) else 1) = kSp x := by
  have k1 : (1 : Int32).toInt = 1 := by decide
  have k100 : (100 : Int32).toInt = 100 := by decide
  unfold kSp
  by_cases h1 : x < 100
  · rw [if_pos h1]
    have h1' := i_lt.mp h1
    by_cases h2 : (1 : Int32) < x
    · have h2' := i_lt.mp h2
      rw [if_pos h2, if_neg (i_nlt.mpr (by omega)), if_neg (i_nlt.mpr (by omega))]
    · have h2' := i_nlt.mp h2
      rw [if_neg h2]
      by_cases h3 : x < 1
      · rw [if_pos h3]
      · have h3' := i_nlt.mp h3
        rw [if_neg h3, if_neg (i_nlt.mpr (by omega))]
        exact i_eq.mpr (by omega)
  · have h1' := i_nlt.mp h1
    rw [if_neg h1, if_pos (by decide), if_neg (i_nlt.mpr (by omega))]
    by_cases h3 : 100 < x
    · rw [if_pos h3]
    · have h3' := i_nlt.mp h3
      rw [if_neg h3]
      exact i_eq.mpr (by omega)
/-- what TraceDebugger's constructor is given beside: an array of states, four links to nest mates' constructors -/
def kZi0 (U : State) : Prop := (va_AO RX3 U ∧ va_Nw (.methodLinkNest RX0 27 yX3_init "TraceDebugger") U) ∧ va_Nw (.methodLinkNest RX1 11 yX3_init "TraceDebugger") U ∧ va_Nw (.methodLinkNest RX4 9 yX2_init "TraceDebugger") U ∧ va_Nw (.methodLinkNest RX4 18 yX1_init "TraceDebugger") U
theorem kZi : kZb kZi0 := fun a U g mk h => ⟨⟨va_AO.moved (u := U) (U := U.calling g mk a) (Vm.Alike.refl U.vm) h.1.1, va_Nw.same (u := U) (U := U.calling g mk a) rfl rfl h.1.2⟩, va_Nw.same (u := U) (U := U.calling g mk a) rfl rfl h.2.1, va_Nw.same (u := U) (U := U.calling g mk a) rfl rfl h.2.2.1, va_Nw.same (u := U) (U := U.calling g mk a) rfl rfl h.2.2.2⟩
theorem kZiw {s : State} {H : Heap} (h : kZi0 s) : ∀ U : State, U.heap = H → s.WarmedH U.vm → kZi0 U := fun U _ hW => ⟨⟨va_AO.moved hW.alike h.1.1, va_Nw.warmM hW h.1.2⟩, va_Nw.warmM hW h.2.1, va_Nw.warmM hW h.2.2.1, va_Nw.warmM hW h.2.2.2⟩
theorem kUpS {k : Int32} {f b : Nat → Int32} (h0 : 0 ≤ k.toInt) (h1 : k.toInt < 1000000) (hf : ∀ j : Nat, (j : Int) < k.toInt → f j = b j) : ∀ j : Nat, (j : Int) < (k + 1).toInt → upd f k.toNatClampNeg (b k.toNatClampNeg) j = b j := by
  intro j hj
  have k1 : (1 : Int32).toInt = 1 := by decide
  rw [i_add (by omega) (by omega)] at hj
  by_cases e : j = k.toNatClampNeg
  · subst e
    exact pk_us
  · rw [pk_un e]
    apply hf
    have hc : k.toNatClampNeg = k.toInt.toNat := rfl
    omega
set_option maxHeartbeats 1000000 in
theorem kBeg {l : Launch} {y : MethodName} {ws ws' : List Cond} {rm : Room} {G : gG} {av : List Value} {wc : va_W} {sz : Nat} {Z : State → Prop} {Qc : (Nat → Prop) → Array Value → State → Outcome → State → Prop} {mc ms : Nat} {cc : ByteArray} {maxL : Nat} {ret : Option FieldType} (hy : plainName y.cls = true) (hw : ws = Cond.code y cc maxL ret :: ws') (hL : (lg_sl av).length ≤ maxL)
    (body : ∀ (A : Nat → Prop) (p : Program) (e : Env) (s : State) (m : MethodId) (below : List Frame) (meth : Method) (c : Code) (ls : Array Slot) (H : Heap) (locs : List Loc), p.tables.exec = Jvm.exec → c.code = cc → meth.sig.returnType = ret → (∀ w ∈ ws, w.before av.toArray s = true) → s.vm.findClass y.cls = some m.cls → meth.locks = false → meth.name = y.name → c.maxLocals = maxL → s.heap.size = sz →
      va_P G.1 vwCl wc H → gK G s → va_D A wc → Z s → (∀ q : Nat, s.heap.size ≤ q → A q) → va_S A s.heap H locs → lv_has ls maxL (lv_args 0 av) → W p l e rm s m av.toArray below meth c H locs 0 0 (MQ below (Qc A) av.toArray s mc ms A) (F0 m 0 ls [])) : Met l y ws rm (kPc G av wc sz Z) (Qc (va_A wc sz)) mc ms (va_A wc sz) :=
  kStart hy hw hL (fun A p e s m below meth c ls hx hb hr hts hown hlocks hnm hml hsz hP hK hD hZ hA hS hl => body A p e s m below meth c ls s.heap [] hx hb hr hts hown hlocks hnm hml hsz hP hK hD hZ hA hS hl)
set_option maxHeartbeats 1000000 in
theorem kBegX {l : Launch} {y : MethodName} {ws ws' : List Cond} {rm : Room} {G : gG} {av : List Value} {wc : va_W} {sz : Nat} {Z : State → Prop} {Qc : (Nat → Prop) → Array Value → State → Outcome → State → Prop} {XC : (Nat → Prop) → String → State → State → Prop} {mc ms : Nat} {cc : ByteArray} {maxL : Nat} {ret : Option FieldType} (hy : plainName y.cls = true) (hw : ws = Cond.code y cc maxL ret :: ws') (hL : (lg_sl av).length ≤ maxL)
    (body : ∀ (A : Nat → Prop) (p : Program) (e : Env) (s : State) (m : MethodId) (below : List Frame) (meth : Method) (c : Code) (ls : Array Slot) (H : Heap) (locs : List Loc), p.tables.exec = Jvm.exec → c.code = cc → meth.sig.returnType = ret → (∀ w ∈ ws, w.before av.toArray s = true) → s.vm.findClass y.cls = some m.cls → meth.locks = false → meth.name = y.name → c.maxLocals = maxL → (∀ x ∈ c.exceptionTable.toList, False) → s.heap.size = sz →
      va_P G.1 vwCl wc H → gK G s → va_D A wc → kZx Z A s → (∀ q : Nat, s.heap.size ≤ q → A q) → va_S A s.heap H locs → lv_has ls maxL (lv_args 0 av) → W p l e rm s m av.toArray below meth c H locs 0 0 (vx_MQ below (Qc A) (XC A) av.toArray s mc ms A) (F0 m 0 ls [])) : vx_Met l y ws rm (kPc G av wc sz (kZx Z (va_A wc sz))) (Qc (va_A wc sz)) (XC (va_A wc sz)) mc ms (va_A wc sz) :=
  kStartX hy hw hL (fun A p e s m below meth c ls hx hb hr hts hown hlocks hnm hml htb hsz hP hK hD hZ hA hS hl => body A p e s m below meth c ls s.heap [] hx hb hr hts hown hlocks hnm hml htb hsz hP hK hD hZ hA hS hl)
set_option maxHeartbeats 1000000 in
theorem kBegW {l : Launch} {y : MethodName} {ws ws' : List Cond} {rm : Room} {G : gG} {av : List Value} {wc : va_W} {sz : Nat} {Z : State → Prop} {Qc : (Nat → Prop) → Array Value → State → Outcome → State → Prop} {mc ms : Nat} {cc : ByteArray} {maxL : Nat} {ret : Option FieldType} {hh : List (Nat × Nat × Nat × Nat)} (hy : plainName y.cls = true) (hw : ws = Cond.codeWith y cc maxL ret hh :: ws') (hL : (lg_sl av).length ≤ maxL)
    (body : ∀ (A : Nat → Prop) (p : Program) (e : Env) (s : State) (m : MethodId) (below : List Frame) (meth : Method) (c : Code) (ls : Array Slot) (H : Heap) (locs : List Loc), p.tables.exec = Jvm.exec → c.code = cc → meth.sig.returnType = ret → (∀ w ∈ ws, w.before av.toArray s = true) → s.vm.findClass y.cls = some m.cls → meth.locks = false → c.maxLocals = maxL → c.exceptionTable.toList = tableOf hh → s.heap.size = sz →
      va_P G.1 vwCl wc H → gK G s → va_D A wc → kZx Z A s → (∀ q : Nat, s.heap.size ≤ q → A q) → va_S A s.heap H locs → lv_has ls maxL (lv_args 0 av) → W p l e rm s m av.toArray below meth c H locs 0 0 (MQ below (Qc A) av.toArray s mc ms A) (F0 m 0 ls [])) : Met l y ws rm (kPc G av wc sz (kZx Z (va_A wc sz))) (Qc (va_A wc sz)) mc ms (va_A wc sz) :=
  kStartW hy hw hL (fun A p e s m below meth c ls hx hb hr hts hown hlocks hml htb hsz hP hK hD hZ hA hS hl => body A p e s m below meth c ls s.heap [] hx hb hr hts hown hlocks hml htb hsz hP hK hD hZ hA hS hl)
theorem i_m8 {x : Int32} (h1 : -1000 ≤ x.toInt) (h2 : x.toInt ≤ 1000) : (x * 8).toInt = x.toInt * 8 := by
  have k : (8 : Int32).toInt = 8 := by decide
  rw [i_mul (by rw [k]; omega) (by rw [k]; omega), k]
theorem i_8m {x : Int32} (h1 : -1000 ≤ x.toInt) (h2 : x.toInt ≤ 1000) : (8 * x).toInt = 8 * x.toInt := by
  have k : (8 : Int32).toInt = 8 := by decide
  rw [i_mul (by rw [k]; omega) (by rw [k]; omega), k]
theorem i_m2 {x : Int32} (h1 : -100000 ≤ x.toInt) (h2 : x.toInt ≤ 100000) : (x * 2).toInt = x.toInt * 2 := by
  have k : (2 : Int32).toInt = 2 := by decide
  rw [i_mul (by rw [k]; omega) (by rw [k]; omega), k]
theorem i_2m {x : Int32} (h1 : -100000 ≤ x.toInt) (h2 : x.toInt ≤ 100000) : (2 * x).toInt = 2 * x.toInt := by
  have k : (2 : Int32).toInt = 2 := by decide
  rw [i_mul (by rw [k]; omega) (by rw [k]; omega), k]
theorem i_cl {x : Int32} (h : 0 ≤ x.toInt) : ((x.toNatClampNeg : Nat) : Int) = x.toInt := by
  show ((x.toInt.toNat : Nat) : Int) = x.toInt
  omega
/-- a kept state changed: all stay within their bounds -/
theorem kKeep {ks : Nat → Nat → Int32} {fr pr tm en : Int32} (hki : ∀ i : Nat, i < 8 → ((1 ≤ (ks i 0).toInt ∧ (ks i 0).toInt ≤ 16) ∧ (0 ≤ (ks i 1).toInt ∧ (ks i 1).toInt ≤ 200) ∧ (0 ≤ (ks i 2).toInt ∧ (ks i 2).toInt ≤ 2000) ∧ ((ks i 3) = 0 ∨ (ks i 3) = 1))) (hsn : ((1 ≤ fr.toInt ∧ fr.toInt ≤ 16) ∧ (0 ≤ pr.toInt ∧ pr.toInt ≤ 200) ∧ (0 ≤ tm.toInt ∧ tm.toInt ≤ 2000) ∧ (en = 0 ∨ en = 1))) (i0 i : Nat) (h : i < 8) :
    ((1 ≤ ((fun i9 j9 => if i9 = i0 then (match j9 with | 0 => fr | 1 => pr | 2 => tm | _ => en) else ks i9 j9) i 0 : Int32).toInt ∧ ((fun i9 j9 => if i9 = i0 then (match j9 with | 0 => fr | 1 => pr | 2 => tm | _ => en) else ks i9 j9) i 0 : Int32).toInt ≤ 16) ∧ (0 ≤ ((fun i9 j9 => if i9 = i0 then (match j9 with | 0 => fr | 1 => pr | 2 => tm | _ => en) else ks i9 j9) i 1 : Int32).toInt ∧ ((fun i9 j9 => if i9 = i0 then (match j9 with | 0 => fr | 1 => pr | 2 => tm | _ => en) else ks i9 j9) i 1 : Int32).toInt ≤ 200) ∧ (0 ≤ ((fun i9 j9 => if i9 = i0 then (match j9 with | 0 => fr | 1 => pr | 2 => tm | _ => en) else ks i9 j9) i 2 : Int32).toInt ∧ ((fun i9 j9 => if i9 = i0 then (match j9 with | 0 => fr | 1 => pr | 2 => tm | _ => en) else ks i9 j9) i 2 : Int32).toInt ≤ 2000) ∧ (((fun i9 j9 => if i9 = i0 then (match j9 with | 0 => fr | 1 => pr | 2 => tm | _ => en) else ks i9 j9) i 3 : Int32) = 0 ∨ ((fun i9 j9 => if i9 = i0 then (match j9 with | 0 => fr | 1 => pr | 2 => tm | _ => en) else ks i9 j9) i 3 : Int32) = 1)) := by
  by_cases e : i = i0
  · simp only [if_pos e]
    exact hsn
  · simp only [if_neg e]
    exact hki i h
/-- a time that the spacing divides, behind k spacings: not before k + 1 of them -/
theorem kRem {tm sp : Int32} (h0 : 0 ≤ tm.toInt) (h1 : 1 ≤ sp.toInt) (hr : tm - tm / sp * sp = 0) (k : Nat) (hc : (k : Int) * sp.toInt < tm.toInt) : ((k : Int) + 1) * sp.toInt ≤ tm.toInt := by
  have z0 : (0 : Int32).toInt = 0 := by decide
  obtain ⟨a, ha, rfl⟩ := nI_of (x := tm) (i_nlt.mpr (by omega))
  obtain ⟨d, hd, rfl⟩ := nI_of (x := sp) (i_nlt.mpr (by omega))
  rw [nI_toInt ha] at hc ⊢
  rw [nI_toInt hd] at h1 hc ⊢
  have hd0 : 0 < d := by omega
  rw [pk_rem ha hd0 hd] at hr
  have hz : a % d = 0 := by
    have hlt : a % d < 2 ^ 31 := Nat.lt_of_le_of_lt (Nat.mod_le a d) ha
    exact (nI_eq hlt (by decide)).mp (hr.trans nI_0.symm)
  obtain ⟨q, rfl⟩ := Nat.dvd_of_mod_eq_zero hz
  have hkq : k < q := by
    have h9 : (k : Int) * (d : Int) < (d : Int) * (q : Int) := by simpa using hc
    have h8 : d * k < d * q := by
      have : ((d * k : Nat) : Int) < ((d * q : Nat) : Int) := by
        rw [Int.natCast_mul, Int.natCast_mul, Int.mul_comm (d : Int) (k : Int)]
        exact h9
      exact Int.ofNat_lt.mp this
    exact Nat.lt_of_mul_lt_mul_left h8
  have h7 : d * (k + 1) ≤ d * q := Nat.mul_le_mul_left d hkq
  have h6 : ((d * (k + 1) : Nat) : Int) ≤ ((d * q : Nat) : Int) := Int.ofNat_le.mpr h7
  rw [Int.natCast_mul, Int.natCast_add, Int.mul_comm (d : Int)] at h6
  exact h6
/-- a right line behind right lines -/
theorem kAppOk {size u v w : Int32} {f g h : Nat → Int32} {P : Int32 → Int32 → Int32 → Prop} (hp : ∀ j : Nat, (j : Int) < size.toInt → P (f j) (g j) (h j)) (h0 : 0 ≤ size.toInt) (h1 : size.toInt < 80) (hok : P u v w) : ∀ j : Nat, (j : Int) < (size + 1).toInt → P (upd f size.toNatClampNeg u j) (upd g size.toNatClampNeg v j) (upd h size.toNatClampNeg w j) := by
  intro j hj
  have k1 : (1 : Int32).toInt = 1 := by decide
  rw [i_add (by omega) (by omega)] at hj
  by_cases e : j = size.toNatClampNeg
  · subst e
    rw [pk_us, pk_us, pk_us]
    exact hok
  · rw [pk_un e, pk_un e, pk_un e]
    apply hp
    have hc : size.toNatClampNeg = size.toInt.toNat := rfl
    omega

theorem i_dec {k : Int32} (h : -2000000000 < k.toInt) (h2 : k.toInt ≤ 2000000000) : (k + (-1)).toInt = k.toInt - 1 := by
  have kcm1 : (-1 : Int32).toInt = -1 := by decide
  have e9 : (k + (-1)).toInt = k.toInt + (-1 : Int32).toInt := i_add (by rw [kcm1]; omega) (by rw [kcm1]; omega)
  rw [e9, kcm1]
  rfl
