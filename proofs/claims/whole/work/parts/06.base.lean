-- CONTRACTS whose end may be a return or a throw; the calls over them
/-- how a method's end stands to its start -/
def XE (st t : State) (L : List Loc) (k n : Nat) : Prop := st.WarmedH t.vm ∧ st.sameButNew ({ t with vm := st.vm } : State) L k n
def XQ (below : List Frame) (Qc : Array Value → State → Outcome → State → Prop) (a : Array Value) (s : State) (mc ms : Nat) (free : Addr → Prop) : State → Prop := fun t =>
  ∃ o, t.status = .running ∧ Ended t below o ∧ Qc a s o t ∧ ∃ L, XE s t L mc ms ∧ ∀ q ∈ L, free q.base
/-- a method's contract: it ends, with Qc; at most rm.cells cells of rm.slots slots are new; nothing old is written but what free names -/
def Ct (l : Launch) (y : MethodName) (kw : Cond) (rm : Room) (Pc : Array Value → State → Prop) (Qc : Array Value → State → Outcome → State → Prop) (free : Addr → Prop) : Prop :=
  MetFree l y (headSpec [kw] rm) Pc (fun _ _ _ _ _ => True) (fun a st o t => Qc a st o t ∧ ∃ L, XE st t L rm.cells rm.slots ∧ ∀ q ∈ L, free q.base)
/-- a word that gives a method's code -/
def CW (kw : Cond) (y : MethodName) (cc : ByteArray) (maxL : Nat) (ret : Option FieldType) (hh : List (Nat × Nat × Nat × Nat)) : Prop := (kw = .code y cc maxL ret ∧ hh = []) ∨ kw = .codeWith y cc maxL ret hh
theorem CW.spec {kw : Cond} {y : MethodName} {cc : ByteArray} {maxL : Nat} {ret : Option FieldType} {hh : List (Nat × Nat × Nat × Nat)} (h : CW kw y cc maxL ret hh) {args : Array Value} {s : State} (hb : kw.before args s = true) :
    ∃ m meth c, s.methodNamed? y = some m ∧ s.vm.method? m = some meth ∧ meth.code = some c ∧ c.code = cc ∧ c.maxLocals = maxL ∧
      c.exceptionTable.toList.map (fun h => (h.startPc, h.endPc, h.handlerPc, h.catchType)) = hh ∧ meth.sig.returnType = ret ∧ meth.locks = false ∧ parseMethodDescriptor y.desc = some meth.sig := by
  rcases h with ⟨rfl, rfl⟩ | rfl
  · obtain ⟨m, hn⟩ := Cond.code_named hb
    obtain ⟨meth, c, h1, h2, h3, h4, h5, h6, h7, h8⟩ := Cond.code_spec hn hb
    refine ⟨m, meth, c, hn, h1, h2, h3, h4, ?_, h5, h6, h8⟩
    have h9 : c.exceptionTable = #[] := by simpa using h7
    rw [h9]
    rfl
  · exact Cond.codeWith_spec hb
/-- what a body knows of its machine, its own code and class -/
def BF (p : Program) (l : Launch) (e : Env) (s : State) (m : MethodId) (meth : Method) (c : Code) (y : MethodName) (cc : ByteArray) (maxL : Nat) (ret : Option FieldType) (hh : List (Nat × Nat × Nat × Nat)) : Prop :=
  p.tables.exec = Jvm.exec ∧ c.code = cc ∧ meth.sig.returnType = ret ∧ c.maxLocals = maxL ∧ s.vm.findClass y.cls = some m.cls ∧ meth.locks = false ∧ meth.name = y.name ∧
    c.exceptionTable.toList.map (fun h => (h.startPc, h.endPc, h.handlerPc, h.catchType)) = hh
theorem ct_of {l : Launch} {y : MethodName} {kw : Cond} {cc : ByteArray} {maxL : Nat} {ret : Option FieldType} {hh : List (Nat × Nat × Nat × Nat)} {rm : Room} {Pc : Array Value → State → Prop} {Qc : Array Value → State → Outcome → State → Prop} {free : Addr → Prop}
    (hy : plainName y.cls = true) (hk : CW kw y cc maxL ret hh)
    (body : ∀ p e s m args below meth c, BF p l e s m meth c y cc maxL ret hh → Pc args s → W p l e rm s m args below meth c s.heap [] 0 0 (XQ below Qc args s rm.cells rm.slots free) (entryFrame m args maxL)) : Ct l y kw rm Pc Qc free := by
  refine MetFree.of_bodyS (code := cc) (maxLocals := maxL) (ret := ret) hy ?_ ?_
  · intro args s m h hn
    obtain ⟨m9, meth, c, hn9, h1, h2, h3, h4, -, h5, h6, -⟩ := hk.spec (atoms_spec (ws := [kw]) h _ List.mem_cons_self)
    cases hn.symm.trans hn9
    exact ⟨meth, c, h1, h2, h3, h4, h5, h6⟩
  · intro p e s m args below meth c s₁ B hml hP _
    have hh0 : s₁.heap = s.heap := by rw [B.state]; rfl
    have hpre : kw.before args s = true := atoms_spec (ws := [kw]) B.pre _ List.mem_cons_self
    obtain ⟨m9, meth9, c9, hn9, h1, h2, h3, h4, h7, h5, h6, -⟩ := hk.spec hpre
    cases B.named.symm.trans hn9
    cases B.method.symm.trans h1
    cases (Stand.of_body B).code.symm.trans h2
    obtain ⟨t, a1, o, b1, b2, b3⟩ := body p e s m args below meth c ⟨B.exec, B.bytes, B.returns, hml, findClass_of_methodNamed B.named, B.notSynchronized, (name_of_methodNamed B.named B.method).1, h7⟩ hP s₁ hh0 (Stand.of_body B)
    exact ⟨t, o, a1, b1, b2, ⟨b3.1, b3.2⟩⟩
section CtCalls
variable {p : Program} {l : Launch} {e : Env} {R : Room} {s : State} {m : MethodId} {args : Array Value} {below : List Frame} {meth : Method} {c : Code} {H : Heap} {locs : List Loc} {cells slots : Nat} {Q : State → Prop}
theorem W.mono {Q' : State → Prop} {g : JFrame} (h : ∀ t, Q t → Q' t) (k : W p l e R s m args below meth c H locs cells slots Q g) : W p l e R s m args below meth c H locs cells slots Q' g := fun T hT X => by
  obtain ⟨t, a, b⟩ := k T hT X
  exact ⟨t, a, h t b⟩
theorem xq_of {Qc : Array Value → State → Outcome → State → Prop} {free : Addr → Prop} {mc ms : Nat} : ∀ t, MQ below Qc args s mc ms free t → XQ below Qc args s mc ms free t := by
  rintro t ⟨o, h1, h2, h3, L, ⟨-, h4, h5⟩, h6⟩
  exact ⟨o, h1, h2, h3, L, ⟨h4, h5⟩, h6⟩
/-- the frame g with x thrown over it -/
def WX (p : Program) (l : Launch) (e : Env) (R : Room) (s : State) (m : MethodId) (args : Array Value) (below : List Frame) (meth : Method) (c : Code) (H : Heap) (locs : List Loc) (cells slots : Nat) (Q : State → Prop) (g : JFrame) (x : Addr) : Prop :=
  ∀ T : State, T.heap = H → Stand p l e R s m args below meth c T locs cells slots → ∃ t, Steps p.tables e below ((T.setTop g).pushFrame (.throwing x)) t ∧ Q t
/-- a call comes back: with a value, or with an exception over the caller's frame -/
theorem ct_back {y : MethodName} {kw : Cond} {cc : ByteArray} {maxL : Nat} {ret : Option FieldType} {hh : List (Nat × Nat × Nat × Nat)} {rm : Room} {Pc : Array Value → State → Prop} {Qc : Array Value → State → Outcome → State → Prop} {free : Addr → Prop}
    (hM : Ct l y kw rm Pc Qc free) (hk : CW kw y cc maxL ret hh) (hbl : FrameBlind Pc) (hfr : rm.frames + 1 ≤ R.frames) (hlo : 8 + (maxL + 11) + rm.locals ≤ R.locals) (hce : cells + rm.cells ≤ R.cells) (hsl : slots + rm.slots ≤ R.slots)
    {U : State} (X : Stand p l e R s m args below meth c U locs cells slots) {g : JFrame} (hg : g.method = m) (hsize : g.locals.size = c.maxLocals) {ig : Instr} {len : Nat} (hdg : decode c.code g.pc = .ok (ig, len)) (hW : 2 * g.monitorRoom + (g.stack.map fun v => v.category).sum ≤ 8)
    {mk : MethodId} (hn : U.methodNamed? y = some mk) (hkw : ∀ a, kw.before a U = true) (hini : ∀ a, (Cond.initialized y.cls).before a U = true) {a : Array Value} (hp : Pc a U) :
    ∃ (o : Outcome) (t T' : State) (L : List Loc), Qc a (U.calling g mk a) o t ∧ T'.heap = t.heap ∧ T'.vm = t.vm ∧ (∀ q ∈ L, free q.base) ∧ Stand p l e R s m args below meth c T' (locs ++ L) (cells + rm.cells) (slots + rm.slots) ∧ U.WarmedH T'.vm ∧ U.sameButNew (T'.setVm U.vm) L rm.cells rm.slots ∧
      ((∃ v, o = .returned v ∧ Steps p.tables e below (doInvoke e (U.setTop g) [] mk a).1 (T'.setTop { g with pc := g.pc + len, stack := v.toList ++ g.stack })) ∨
       (∃ x, o = .threw x ∧ Steps p.tables e below (doInvoke e (U.setTop g) [] mk a).1 ((T'.setTop g).pushFrame (.throwing x)))) := by
  obtain ⟨m9, methY, cY, hn9, hmY, hcY, -, hlY, -⟩ := hk.spec (hkw a)
  cases hn.symm.trans hn9
  obtain ⟨kY, hkY, -⟩ := className_of_methodNamed hn
  have hinitY : kY.init = .initialized := Cond.initialized_spec (findClass_of_methodNamed hn) hkY (hini a)
  have h : At U g.method c below := by rw [hg]; exact X.here
  have hpre : (headSpec [kw] rm).pre.before a U = true := atoms_intro (fun w hw => by
    rcases List.mem_cons.mp hw with rfl | hw
    · exact hkw a
    · cases hw)
  have happ : (headSpec [kw] rm).appliesLoose y e.platform (U.calling g mk a) = true :=
    Spec.appliesLoose_calling (g := g) h hdg hn hkY hinitY (X.room_calling (g := g) (R' := rm) hsize hmY hcY hfr (by rw [hlY]; omega) hce hsl) hpre
  obtain ⟨g₀, hg0⟩ := X.frames_eq
  have hfrm : (U.setTop g).frames = .java g :: below := by rw [State.frames_setTop _ hg0]
  obtain ⟨o, t, hsteps, -, hend, hq, L, ⟨hWt, hsame⟩, hL⟩ := Steps.callFree hM p X.admits X.cas X.clock (acts := []) (mid := [.java g]) (below := below) hfrm happ (hbl _ _ g mk hp) trivial
  rw [hfrm] at hend
  cases o with
  | returned v =>
    obtain ⟨T', X', w1, w2, e1⟩ := X.outOf hg hdg hend hWt hsame
    refine ⟨_, t, T', L, hq, by rw [e1]; rfl, by rw [e1]; rfl, hL, X', w1, w2, Or.inl ⟨v, rfl, ?_⟩⟩
    rw [← e1]
    exact hsteps
  | threw x =>
    obtain ⟨T', X', w1, w2, e1⟩ := X.outOfThrown hg hend hWt hsame
    refine ⟨_, t, T', L, hq, by rw [e1]; rfl, by rw [e1]; rfl, hL, X', w1, w2, Or.inr ⟨x, rfl, ?_⟩⟩
    rw [← e1]
    exact hsteps
/-- behind a call: the heap t.heap = H1 grew by at most n cells, and nothing changed but what free names -/
def Af (s : State) (H : Heap) (free : Addr → Prop) (n : Nat) (t : State) (H1 : Heap) : Prop := t.heap = H1 ∧ s.WarmedH t.vm ∧ H.size ≤ H1.size ∧ H1.size ≤ H.size + n ∧ ∀ q : Nat, q < H.size → ¬ free q → H1[q]? = H[q]?
theorem same_kept {U T' : State} {L : List Loc} {k n : Nat} (h : U.sameButNew (T'.setVm U.vm) L k n) {free : Addr → Prop} (hL : ∀ q ∈ L, free q.base) : U.heap.size ≤ T'.heap.size ∧ T'.heap.size ≤ U.heap.size + k ∧ ∀ q : Nat, q < U.heap.size → ¬ free q → T'.heap[q]? = U.heap[q]? := by
  obtain ⟨-, h2, h3, -, -, h6⟩ := id h
  refine ⟨h2, h3, fun q hq hf => ?_⟩
  obtain ⟨c, hc⟩ : ∃ c, U.heap[q]? = some c := ⟨U.heap[q], Array.getElem?_eq_getElem hq⟩
  obtain ⟨c', e1, e2, -, e4⟩ := h6 q c hc
  have hs : c'.slots = c.slots := Array.ext_getElem? (fun i => e4 i (fun hm => hf (hL _ hm)))
  have e5 : T'.heap[q]? = some c' := e1
  rw [e5, hc, e2, hs]
theorem Af.same {H H1 : Heap} {free : Addr → Prop} {t : State} (h : Af s H free 0 t H1) (hf : ∀ q, ¬ free q) : H1 = H := by
  obtain ⟨-, -, h2, h3, h4⟩ := h
  refine Array.ext_getElem? (fun i => ?_)
  by_cases hi : i < H.size
  · exact h4 i hi (hf i)
  · rw [Array.getElem?_eq_none (by omega), Array.getElem?_eq_none (by omega)]
theorem Af.S {A0 free : Addr → Prop} {H0 H H1 : Heap} {locs L : List Loc} {n : Nat} {t : State} (h : Af s H free n t H1) (hS : va_S A0 H0 H locs) (hf : ∀ q, free q → A0 q) (hL : ∀ q ∈ L, free q.base) : va_S A0 H0 H1 (locs ++ L) := by
  obtain ⟨-, -, h2, h3, h4⟩ := h
  refine ⟨Nat.le_trans hS.1 h2, fun q h5 h6 => ?_, fun l hl => ?_⟩
  · rw [h4 q (Nat.lt_of_lt_of_le h5 hS.1) (fun h7 => h6 (hf q h7))]
    exact hS.2.1 q h5 h6
  · rcases List.mem_append.mp hl with hl | hl
    · exact hS.2.2 l hl
    · exact hf _ (hL l hl)
theorem Af.P {free : Addr → Prop} {H H1 : Heap} {n : Nat} {t : State} {D : va_G} {cl : List vw_C} {ws : va_W} (h : Af s H free n t H1) (hP : va_P D cl ws H) (hf : ∀ (k : Nat) (q : Nat × va_E), ws[k]? = some q → ¬ free q.1) : va_P D cl ws H1 :=
  hP.kept (fun k q hk => h.2.2.2.2 q.1 ((hP k q hk).lt) (hf k q hk))
-- the environment of every contract: the tables' words, the classes' and arrays' numbers
abbrev KG : Type := (Nat → ClassId) × (Nat → Nat → Nat) × (Nat → ClassId)
abbrev kD (K : KG) : va_G := (K.1, K.2.1)
abbrev kI (K : KG) : ClassId := K.2.2 0
abbrev kL (K : KG) : ClassId := K.2.2 1
abbrev kW (K : KG) : ClassId := K.2.2 2
abbrev kS (K : KG) : ClassId := K.2.2 3
abbrev kTY (K : KG) : List (ClassId × FieldType) := [(kI K, .int), (kL K, .long), (kW K, .object RW), (kS K, .object RS)]
def EN (K : KG) (U : State) : Prop := TB U ∧ va_K (kD K) vcl (kTY K) U
theorem EN.warm {K : KG} {U : State} (hW : s.WarmedH U.vm) (h : EN K s) : EN K U := ⟨h.1.warm hW, va_K.moved hW.alike h.2⟩
def PC (K : KG) (av : List Value) (B : Heap → Prop) : Array Value → State → Prop := fun v U => v = av.toArray ∧ EN K U ∧ B U.heap
theorem PC.blind {K : KG} {av : List Value} {B : Heap → Prop} : FrameBlind (PC K av B) := fun a U g mk h => ⟨h.1, h.2.1.warm (show U.WarmedH (U.calling g mk a).vm from State.WarmedH.refl U), h.2.2⟩
theorem PC.at {K : KG} {av : List Value} {B : Heap → Prop} (hE : EN K s) (hB : B H) : ∀ U : State, U.heap = H → s.WarmedH U.vm → PC K av B av.toArray U := fun U hU hW => ⟨rfl, hE.warm hW, by rw [hU]; exact hB⟩
-- ends
def QV (po : Heap → Prop) : Array Value → State → Outcome → State → Prop := fun _ _ o t => o = .returned none ∧ po t.heap
def QI (po : Int → Heap → Prop) : Array Value → State → Outcome → State → Prop := fun _ _ o t => ∃ r : Int, o = .returned (some (.int (iI r))) ∧ po r t.heap
def QL (po : Int → Heap → Prop) : Array Value → State → Outcome → State → Prop := fun _ _ o t => ∃ r : Int, o = .returned (some (.long (lI r))) ∧ po r t.heap
variable {cc : ByteArray} {pc : Nat} {ls : Array Slot} {rest : List Value} {free : Addr → Prop}
theorem iz_vret {po : Heap → Prop} (hx : p.tables.exec = Jvm.exec) (hb : c.code = cc) (hr : meth.sig.returnType = none) (hlocks : meth.locks = false) (hq : po H) (hf : ∀ q ∈ locs, free q.base) (hd : decode cc pc = .ok (.return_, 1)) : W p l e R s m args below meth c H locs cells slots (XQ below (QV po) args s cells slots free) (F0 m pc ls []) :=
  W.mono xq_of (W.vret (Qc := QV po) hx hb hr (fun t ht _ => ⟨rfl, by rw [ht]; exact hq⟩) hf hd hlocks)
theorem iz_iret {po : Int → Heap → Prop} {r : Int} (hx : p.tables.exec = Jvm.exec) (hb : c.code = cc) (hr : meth.sig.returnType = some .int) (hlocks : meth.locks = false) (hq : po r H) (hf : ∀ q ∈ locs, free q.base) (hd : decode cc pc = .ok (.ireturn, 1)) : W p l e R s m args below meth c H locs cells slots (XQ below (QI po) args s cells slots free) (F0 m pc ls [.int (iI r)]) :=
  W.mono xq_of (W.iret (Qc := QI po) hx hb hr (fun t ht _ => ⟨r, rfl, by rw [ht]; exact hq⟩) hf hd hlocks)
theorem iz_zret {po : Int → Heap → Prop} {r : Int} (hx : p.tables.exec = Jvm.exec) (hb : c.code = cc) (hr : meth.sig.returnType = some .boolean) (hlocks : meth.locks = false) (h01 : r = 0 ∨ r = 1) (hq : po r H) (hf : ∀ q ∈ locs, free q.base) (hd : decode cc pc = .ok (.ireturn, 1)) : W p l e R s m args below meth c H locs cells slots (XQ below (QI po) args s cells slots free) (F0 m pc ls [.int (iI r)]) :=
  W.mono xq_of (W.zret (Qc := QI po) hx hb hr (by rcases h01 with rfl | rfl <;> rfl) (fun t ht _ => ⟨r, rfl, by rw [ht]; exact hq⟩) hf hd hlocks)
theorem iz_lret {po : Int → Heap → Prop} {r : Int} (hx : p.tables.exec = Jvm.exec) (hb : c.code = cc) (hr : meth.sig.returnType = some .long) (hlocks : meth.locks = false) (hq : po r H) (hf : ∀ q ∈ locs, free q.base) (hd : decode cc pc = .ok (.lreturn, 1)) : W p l e R s m args below meth c H locs cells slots (XQ below (QL po) args s cells slots free) (F0 m pc ls [.long (lI r)]) :=
  W.mono xq_of (W.lret (Qc := QL po) hx hb hr (fun t ht _ => ⟨r, rfl, by rw [ht]; exact hq⟩) hf hd hlocks)
-- calls: what every kind of call has in common
/-- a callee: its contract, its words in the tables, its room within the caller's -/
def CL (l : Launch) (R : Room) (y : MethodName) (kw : Cond) (maxL n cells slots : Nat) (rm : Room) (Pc : Array Value → State → Prop) (Qc : Array Value → State → Outcome → State → Prop) (free : Addr → Prop) : Prop :=
  Ct l y kw rm Pc Qc free ∧ (∃ cc ret hh, CW kw y cc maxL ret hh) ∧ kw ∈ TW ∧ Cond.initialized y.cls ∈ TW ∧ (y.cls ≠ "java/lang/invoke/MethodHandle" ∧ y.cls ≠ "java/lang/invoke/VarHandle") ∧ (parseMethodDescriptor y.desc).map (fun d => d.parameters.length) = some n ∧
    rm.frames + 1 ≤ R.frames ∧ 8 + (maxL + 11) + rm.locals ≤ R.locals ∧ cells + rm.cells ≤ R.cells ∧ slots + rm.slots ≤ R.slots
/-- a call's two ends -/
def KR (p : Program) (l : Launch) (e : Env) (R : Room) (s : State) (m : MethodId) (args : Array Value) (below : List Frame) (meth : Method) (c : Code) (H : Heap) (locs : List Loc) (cells slots : Nat) (Q : State → Prop) (rm : Room) (free : Addr → Prop) (Qa : State → Outcome → State → Prop) (pc : Nat) (ls : Array Slot) (rest : List Value) : Prop :=
  ∀ (st0 t : State) (H1 : Heap) (L : List Loc), st0.heap = H → Af s H free rm.cells t H1 → (∀ q ∈ L, free q.base) →
    (∀ v, Qa st0 (.returned v) t → W p l e R s m args below meth c H1 (locs ++ L) (cells + rm.cells) (slots + rm.slots) Q (F0 m (pc + 3) ls (v.toList ++ rest))) ∧
    (∀ x, Qa st0 (.threw x) t → WX p l e R s m args below meth c H1 (locs ++ L) (cells + rm.cells) (slots + rm.slots) Q (F0 m pc ls rest) x)
variable {y : MethodName} {kw : Cond} {maxL nL n index : Nat} {rm : Room} {Pc : Array Value → State → Prop} {Qc : Array Value → State → Outcome → State → Prop} {own : String}
theorem ct_go {T : State} {g0 : JFrame} (hT : T.heap = H) (X : Stand p l e R s m args below meth c T locs cells slots) (hTB : TB s) (hC : CL l R y kw maxL n cells slots rm Pc Qc free) (hbl : FrameBlind Pc) {a : Array Value} (hpre : ∀ U : State, U.heap = H → s.WarmedH U.vm → Pc a U)
    (hsize : ls.size = c.maxLocals) (hW : (rest.map fun v => v.category).sum ≤ 8) {ig : Instr} (hd : decode c.code pc = .ok (ig, 3)) {mk : MethodId} (hn : s.methodNamed? y = some mk) {vm₁ : Vm} (hW₁ : s.WarmedH vm₁) (X₁ : Stand p l e R s m args below meth c (T.setVm vm₁) locs cells slots)
    (hst : ∀ target, (∀ acts, Steps p.tables e below (doInvoke e ((T.setVm vm₁).setTop (F0 m pc ls rest)) acts mk a).1 target) → Steps p.tables e below (T.setTop g0) target)
    (kr : KR p l e R s m args below meth c H locs cells slots Q rm free (Qc a) pc ls rest) : ∃ t, Steps p.tables e below (T.setTop g0) t ∧ Q t := by
  obtain ⟨hM, ⟨cc, ret, hh, hk⟩, m1, m2, -, -, hfr, hlo, hce, hsl⟩ := hC
  have hTB1 : TB (T.setVm vm₁) := hTB.warm hW₁
  obtain ⟨o, t, T', L, hq, eh, ev, hL, X', w1, w2, hs⟩ := ct_back hM hk hbl hfr hlo hce hsl X₁ (g := F0 m pc ls rest) rfl hsize hd (by show 2 * 0 + (rest.map fun v => v.category).sum ≤ 8; omega) (X₁.named hn) (hTB1 _ m1) (hTB1 _ m2) (hpre (T.setVm vm₁) hT hW₁)
  have hA : Af s H free rm.cells t T'.heap := by
    obtain ⟨z1, z2, z3⟩ := same_kept w2 hL
    have hT2 : (T.setVm vm₁).heap = H := hT
    rw [hT2] at z1 z2 z3
    exact ⟨eh.symm, by rw [← ev]; exact X'.warmed, z1, z2, z3⟩
  obtain ⟨k1, k2⟩ := kr ((T.setVm vm₁).calling (F0 m pc ls rest) mk a) t T'.heap L hT hA hL
  rcases hs with ⟨v, rfl, hs⟩ | ⟨x, rfl, hs⟩
  · obtain ⟨t', a1, b1⟩ := k1 v hq T' rfl X'
    exact ⟨t', hst _ (fun acts => by rw [doInvoke_state]; exact hs.trans a1), b1⟩
  · obtain ⟨t', a1, b1⟩ := k2 x hq T' rfl X'
    exact ⟨t', hst _ (fun acts => by rw [doInvoke_state]; exact hs.trans a1), b1⟩
end CtCalls
