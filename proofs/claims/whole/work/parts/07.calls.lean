-- THE CALLS, a row a kind
section CtRows
variable {p : Program} {l : Launch} {e : Env} {R : Room} {s : State} {m : MethodId} {args : Array Value} {below : List Frame} {meth : Method} {c : Code} {H : Heap} {locs : List Loc} {cells slots : Nat} {Q : State → Prop}
variable {cc : ByteArray} {pc : Nat} {ls : Array Slot} {rest : List Value} {free : Addr → Prop}
variable {y : MethodName} {kw : Cond} {maxL nL n index : Nat} {rm : Room} {Pc : Array Value → State → Prop} {Qc : Array Value → State → Outcome → State → Prop} {own C host : String}
theorem ct_len {sig : MethodDescriptor} {As : List Value} (hlen : (parseMethodDescriptor y.desc).map (fun d => d.parameters.length) = some n) (hs : parseMethodDescriptor y.desc = some sig) (hn : As.length = n) : As.length = sig.parameters.length := by
  rw [hs] at hlen
  rw [hn]
  exact (Option.some.inj hlen).symm
theorem ctS (hx : p.tables.exec = Jvm.exec) (hb : c.code = cc) (hml : c.maxLocals = nL) (hown : s.vm.findClass own = some m.cls) (hTB : TB s) (hC : CL l R y kw maxL n cells slots rm Pc Qc free) (hbl : FrameBlind Pc) (ml : Cond.methodLink own index y ∈ TW) (mst : Cond.static y ∈ TW)
    {As : List Value} (hn : As.length = n) (hpre : ∀ U : State, U.heap = H → s.WarmedH U.vm → Pc As.toArray U) (hsize : ls.size = nL) {st : List Value} (hst : st = As.reverse ++ rest) (hW : (rest.map fun v => v.category).sum ≤ 8) (hd : decode cc pc = .ok (.invokestatic index, 3))
    (kr : KR p l e R s m args below meth c H locs cells slots Q rm free (Qc As.toArray) pc ls rest) : W p l e R s m args below meth c H locs cells slots Q (F0 m pc ls st) := by
  intro T hT X
  obtain ⟨-, ⟨cc9, ret9, hh9, hk⟩, m1, m2, hy, hlen, -⟩ := id hC
  obtain ⟨mk, methM, cM, hnamed, hmethM, -, -, -, -, -, -, hsigM⟩ := hk.spec (hTB _ m1 #[])
  have hstatic : methM.isStatic = true := Cond.static_spec hnamed hmethM (hTB _ mst args)
  obtain ⟨kP, hkP, -⟩ := className_of_methodNamed hnamed
  have hinitP : kP.init = .initialized := Cond.initialized_spec (findClass_of_methodNamed hnamed) hkP (hTB _ m2 args)
  subst hst
  obtain ⟨vm₁, X₁, hstep₁⟩ := X.invokestatic hx hown (hTB _ ml args) hnamed hmethM hstatic hkP hinitP hy (g := F0 m pc ls (As.reverse ++ rest)) rfl (argsL := As) (rest := rest) (ct_len hlen hsigM hn) rfl (by rw [hb]; exact hd)
  exact ct_go hT X hTB hC hbl hpre (hsize.trans hml.symm) hW (ig := .invokestatic index) (by rw [hb]; exact hd) hnamed X₁.warmed X₁ hstep₁ kr
theorem ctSN (hx : p.tables.exec = Jvm.exec) (hb : c.code = cc) (hml : c.maxLocals = nL) (hown : s.vm.findClass own = some m.cls) (hTB : TB s) (hC : CL l R y kw maxL n cells slots rm Pc Qc free) (hbl : FrameBlind Pc) (ml : Cond.methodLinkNest own index y host ∈ TW) (mst : Cond.static y ∈ TW)
    {As : List Value} (hn : As.length = n) (hpre : ∀ U : State, U.heap = H → s.WarmedH U.vm → Pc As.toArray U) (hsize : ls.size = nL) {st : List Value} (hst : st = As.reverse ++ rest) (hW : (rest.map fun v => v.category).sum ≤ 8) (hd : decode cc pc = .ok (.invokestatic index, 3))
    (kr : KR p l e R s m args below meth c H locs cells slots Q rm free (Qc As.toArray) pc ls rest) : W p l e R s m args below meth c H locs cells slots Q (F0 m pc ls st) := by
  intro T hT X
  obtain ⟨-, ⟨cc9, ret9, hh9, hk⟩, m1, m2, hy, hlen, -⟩ := id hC
  obtain ⟨mk, methM, cM, hnamed, hmethM, -, -, -, -, -, -, hsigM⟩ := hk.spec (hTB _ m1 #[])
  have hstatic : methM.isStatic = true := Cond.static_spec hnamed hmethM (hTB _ mst args)
  obtain ⟨kP, hkP, -⟩ := className_of_methodNamed hnamed
  have hinitP : kP.init = .initialized := Cond.initialized_spec (findClass_of_methodNamed hnamed) hkP (hTB _ m2 args)
  subst hst
  obtain ⟨vm₁, X₁, hstep₁⟩ := X.invokestaticNest hx hown (hTB _ ml args) hnamed hmethM hstatic hkP hinitP hy (g := F0 m pc ls (As.reverse ++ rest)) rfl (argsL := As) (rest := rest) (ct_len hlen hsigM hn) rfl (by rw [hb]; exact hd)
  exact ct_go hT X hTB hC hbl hpre (hsize.trans hml.symm) hW (ig := .invokestatic index) (by rw [hb]; exact hd) hnamed X₁.warmed X₁ hstep₁ kr
/-- the receiver -/
def RV (s : State) (H : Heap) (C : String) (b : Addr) : Prop := ∃ cell : Cell, H[b]? = some cell ∧ cell.vm.isStatics = false ∧ s.vm.findClass C = some cell.cls
theorem ctV (hx : p.tables.exec = Jvm.exec) (hb : c.code = cc) (hml : c.maxLocals = nL) (hown : s.vm.findClass own = some m.cls) (hTB : TB s) (hC : CL l R y kw maxL n cells slots rm Pc Qc free) (hbl : FrameBlind Pc) (ml : Cond.methodLink own index y ∈ TW) (mi : Cond.instanceMethod y ∈ TW) (ms : Cond.selects C y y ∈ TW)
    {b : Addr} (hrv : RV s H C b) {As : List Value} (hn : As.length = n) (hpre : ∀ U : State, U.heap = H → s.WarmedH U.vm → Pc (Value.ref b :: As).toArray U) (hsize : ls.size = nL) {st : List Value} (hst : st = As.reverse ++ .ref b :: rest) (hW : (rest.map fun v => v.category).sum ≤ 8) (hd : decode cc pc = .ok (.invokevirtual index, 3))
    (kr : KR p l e R s m args below meth c H locs cells slots Q rm free (Qc (Value.ref b :: As).toArray) pc ls rest) : W p l e R s m args below meth c H locs cells slots Q (F0 m pc ls st) := by
  intro T hT X
  obtain ⟨-, ⟨cc9, ret9, hh9, hk⟩, m1, m2, hy, hlen, -⟩ := id hC
  obtain ⟨mk, methM, hnamed, hmethM, hstM, habM⟩ := Cond.instanceMethod_spec (hTB _ mi args)
  obtain ⟨mk9, methM', cM, hnamed9, hmethM', -, -, -, -, -, -, hsigM⟩ := hk.spec (hTB _ m1 #[])
  cases hnamed.symm.trans hnamed9
  cases hmethM.symm.trans hmethM'
  obtain ⟨cellB, hcB, hoB, hclB⟩ := hrv
  obtain ⟨c2, r2, m2', q1, q2, q3, q4, kP, hkP, hkPi⟩ := Cond.selects_spec (hTB _ ms args)
  cases hclB.symm.trans q1
  cases (State.methodFound?_of_named hnamed hy).symm.trans q2
  cases hnamed.symm.trans q3
  have hselP : selectMethod e.platform s.vm cellB.cls mk = .method mk := by rw [Launch.admits_selectMethod X.admits]; exact q4
  subst hst
  obtain ⟨vm₁, X₁, hstep₁⟩ := X.invokevirtual hx hown (hTB _ ml args) hnamed hmethM hstM hkP hkPi hy (a := b) (cell := cellB) (by rw [hT]; exact hcB)
    (fun z h => by rw [h] at hoB; cases hoB) hselP hmethM habM hkP hkPi (g := F0 m pc ls (As.reverse ++ .ref b :: rest)) rfl (argsL := As) (rest := rest) (ct_len hlen hsigM hn) rfl (by rw [hb]; exact hd)
  exact ct_go hT X hTB hC hbl hpre (hsize.trans hml.symm) hW (ig := .invokevirtual index) (by rw [hb]; exact hd) hnamed X₁.warmed X₁ hstep₁ kr
theorem ctVN (hx : p.tables.exec = Jvm.exec) (hb : c.code = cc) (hml : c.maxLocals = nL) (hown : s.vm.findClass own = some m.cls) (hTB : TB s) (hC : CL l R y kw maxL n cells slots rm Pc Qc free) (hbl : FrameBlind Pc) (ml : Cond.methodLinkNest own index y host ∈ TW) (mi : Cond.instanceMethod y ∈ TW) (ms : Cond.selects C y y ∈ TW)
    {b : Addr} (hrv : RV s H C b) {As : List Value} (hn : As.length = n) (hpre : ∀ U : State, U.heap = H → s.WarmedH U.vm → Pc (Value.ref b :: As).toArray U) (hsize : ls.size = nL) {st : List Value} (hst : st = As.reverse ++ .ref b :: rest) (hW : (rest.map fun v => v.category).sum ≤ 8) (hd : decode cc pc = .ok (.invokevirtual index, 3))
    (kr : KR p l e R s m args below meth c H locs cells slots Q rm free (Qc (Value.ref b :: As).toArray) pc ls rest) : W p l e R s m args below meth c H locs cells slots Q (F0 m pc ls st) := by
  intro T hT X
  obtain ⟨-, ⟨cc9, ret9, hh9, hk⟩, m1, m2, hy, hlen, -⟩ := id hC
  obtain ⟨mk, methM, hnamed, hmethM, hstM, habM⟩ := Cond.instanceMethod_spec (hTB _ mi args)
  obtain ⟨mk9, methM', cM, hnamed9, hmethM', -, -, -, -, -, -, hsigM⟩ := hk.spec (hTB _ m1 #[])
  cases hnamed.symm.trans hnamed9
  cases hmethM.symm.trans hmethM'
  obtain ⟨cellB, hcB, hoB, hclB⟩ := hrv
  obtain ⟨c2, r2, m2', q1, q2, q3, q4, kP, hkP, hkPi⟩ := Cond.selects_spec (hTB _ ms args)
  cases hclB.symm.trans q1
  cases (State.methodFound?_of_named hnamed hy).symm.trans q2
  cases hnamed.symm.trans q3
  have hselP : selectMethod e.platform s.vm cellB.cls mk = .method mk := by rw [Launch.admits_selectMethod X.admits]; exact q4
  subst hst
  obtain ⟨vm₁, X₁, hstep₁⟩ := X.invokevirtualNest hx hown (hTB _ ml args) hnamed hmethM hstM hkP hkPi hy (a := b) (cell := cellB) (by rw [hT]; exact hcB)
    (fun z h => by rw [h] at hoB; cases hoB) hselP hmethM habM hkP hkPi (g := F0 m pc ls (As.reverse ++ .ref b :: rest)) rfl (argsL := As) (rest := rest) (ct_len hlen hsigM hn) rfl (by rw [hb]; exact hd)
  exact ct_go hT X hTB hC hbl hpre (hsize.trans hml.symm) hW (ig := .invokevirtual index) (by rw [hb]; exact hd) hnamed X₁.warmed X₁ hstep₁ kr
theorem ctI (hx : p.tables.exec = Jvm.exec) (hb : c.code = cc) (hml : c.maxLocals = nL) (hown : s.vm.findClass own = some m.cls) (hTB : TB s) (hC : CL l R y kw maxL n cells slots rm Pc Qc free) (hbl : FrameBlind Pc) {bytes : ByteArray} (hkw : kw = .code y bytes maxL none) (hy1 : y.name = "<init>") (ml : Cond.methodLink own index y ∈ TW) (mi : Cond.instanceMethod y ∈ TW)
    {b : Addr} {As : List Value} (hn : As.length = n) (hpre : ∀ U : State, U.heap = H → s.WarmedH U.vm → Pc (Value.ref b :: As).toArray U) (hsize : ls.size = nL) {st : List Value} (hst : st = As.reverse ++ .ref b :: rest) (hW : (rest.map fun v => v.category).sum ≤ 8) (hd : decode cc pc = .ok (.invokespecial index, 3))
    (kr : KR p l e R s m args below meth c H locs cells slots Q rm free (Qc (Value.ref b :: As).toArray) pc ls rest) : W p l e R s m args below meth c H locs cells slots Q (F0 m pc ls st) := by
  intro T hT X
  obtain ⟨-, -, m1, m2, hy, hlen, -⟩ := id hC
  have hpl : e.platform.magicAccessors = ({} : Platform).magicAccessors := by rw [X.admits.platform]
  subst hst
  have hcode : (Cond.code y bytes maxL none).before args s = true := by rw [← hkw]; exact hTB _ m1 args
  obtain ⟨mk, methM, cM, kP, vm₁, hnamed, hmethM, hcodeM, -, hlocalsM, -, hkP, -, hW₁, hstep₁⟩ := Steps.initColdArgs (e := e) X.here hx X.warmed hpl hown hy1 hy (hTB _ ml args) (hTB _ mi args) hcode (f := F0 m pc ls (As.reverse ++ .ref b :: rest)) rfl (argsL := As) (rest := rest) (a := b) (fun sig h => ct_len hlen h hn) rfl (by rw [hb]; exact hd)
  exact ct_go hT X hTB hC hbl hpre (hsize.trans hml.symm) hW (ig := .invokespecial index) (by rw [hb]; exact hd) hnamed hW₁ (X.noted hW₁) hstep₁ kr
theorem ctIN (hx : p.tables.exec = Jvm.exec) (hb : c.code = cc) (hml : c.maxLocals = nL) (hown : s.vm.findClass own = some m.cls) (hTB : TB s) (hC : CL l R y kw maxL n cells slots rm Pc Qc free) (hbl : FrameBlind Pc) {bytes : ByteArray} (hkw : kw = .code y bytes maxL none) (hy1 : y.name = "<init>") (ml : Cond.methodLinkNest own index y host ∈ TW) (mi : Cond.instanceMethod y ∈ TW)
    {b : Addr} {As : List Value} (hn : As.length = n) (hpre : ∀ U : State, U.heap = H → s.WarmedH U.vm → Pc (Value.ref b :: As).toArray U) (hsize : ls.size = nL) {st : List Value} (hst : st = As.reverse ++ .ref b :: rest) (hW : (rest.map fun v => v.category).sum ≤ 8) (hd : decode cc pc = .ok (.invokespecial index, 3))
    (kr : KR p l e R s m args below meth c H locs cells slots Q rm free (Qc (Value.ref b :: As).toArray) pc ls rest) : W p l e R s m args below meth c H locs cells slots Q (F0 m pc ls st) := by
  intro T hT X
  obtain ⟨-, -, m1, m2, hy, hlen, -⟩ := id hC
  have hpl : e.platform.magicAccessors = ({} : Platform).magicAccessors := by rw [X.admits.platform]
  subst hst
  have hcode : (Cond.code y bytes maxL none).before args s = true := by rw [← hkw]; exact hTB _ m1 args
  obtain ⟨mk, methM, cM, kP, vm₁, hnamed, hmethM, hcodeM, -, hlocalsM, -, hkP, -, hW₁, hstep₁⟩ := Steps.initColdArgsNest (e := e) X.here hx X.warmed hpl hown hy1 hy (hTB _ ml args) (hTB _ mi args) hcode (f := F0 m pc ls (As.reverse ++ .ref b :: rest)) rfl (argsL := As) (rest := rest) (a := b) (fun sig h => ct_len hlen h hn) rfl (by rw [hb]; exact hd)
  exact ct_go hT X hTB hC hbl hpre (hsize.trans hml.symm) hW (ig := .invokespecial index) (by rw [hb]; exact hd) hnamed hW₁ (X.noted hW₁) hstep₁ kr
-- what comes back from a callee that does not throw
theorem krV {po : Heap → Prop} {a : Array Value} {c1 s1 : Nat} (hc1 : cells + rm.cells = c1) (hs1 : slots + rm.slots = s1) (k : ∀ (t : State) (H1 : Heap) (L : List Loc), Af s H free rm.cells t H1 → (∀ q ∈ L, free q.base) → po H1 → W p l e R s m args below meth c H1 (locs ++ L) c1 s1 Q (F0 m (pc + 3) ls rest)) :
    KR p l e R s m args below meth c H locs cells slots Q rm free (QV po a) pc ls rest := by
  subst hc1
  subst hs1
  intro st0 t H1 L _ hA hL
  refine ⟨fun v hq => ?_, fun x hq => ?_⟩
  · obtain ⟨e1, hp⟩ := hq
    cases e1
    exact k t H1 L hA hL (by rw [← hA.1]; exact hp)
  · obtain ⟨e1, -⟩ := hq
    cases e1
theorem krI {po : Int → Heap → Prop} {a : Array Value} {c1 s1 : Nat} (hc1 : cells + rm.cells = c1) (hs1 : slots + rm.slots = s1) (k : ∀ (r : Int) (t : State) (H1 : Heap) (L : List Loc), Af s H free rm.cells t H1 → (∀ q ∈ L, free q.base) → po r H1 → W p l e R s m args below meth c H1 (locs ++ L) c1 s1 Q (F0 m (pc + 3) ls (.int (iI r) :: rest))) :
    KR p l e R s m args below meth c H locs cells slots Q rm free (QI po a) pc ls rest := by
  subst hc1
  subst hs1
  intro st0 t H1 L _ hA hL
  refine ⟨fun v hq => ?_, fun x hq => ?_⟩
  · obtain ⟨r, e1, hp⟩ := hq
    cases e1
    exact k r t H1 L hA hL (by rw [← hA.1]; exact hp)
  · obtain ⟨r, e1, -⟩ := hq
    cases e1
theorem krL {po : Int → Heap → Prop} {a : Array Value} {c1 s1 : Nat} (hc1 : cells + rm.cells = c1) (hs1 : slots + rm.slots = s1) (k : ∀ (r : Int) (t : State) (H1 : Heap) (L : List Loc), Af s H free rm.cells t H1 → (∀ q ∈ L, free q.base) → po r H1 → W p l e R s m args below meth c H1 (locs ++ L) c1 s1 Q (F0 m (pc + 3) ls (.long (lI r) :: rest))) :
    KR p l e R s m args below meth c H locs cells slots Q rm free (QL po a) pc ls rest := by
  subst hc1
  subst hs1
  intro st0 t H1 L _ hA hL
  refine ⟨fun v hq => ?_, fun x hq => ?_⟩
  · obtain ⟨r, e1, hp⟩ := hq
    cases e1
    exact k r t H1 L hA hL (by rw [← hA.1]; exact hp)
  · obtain ⟨r, e1, -⟩ := hq
    cases e1
theorem nil_of {L : List Loc} (hL : ∀ q ∈ L, free q.base) (hf : ∀ q, ¬ free q) : L = [] := by
  cases L with
  | nil => rfl
  | cons x L => exact absurd (hL x List.mem_cons_self) (hf _)
-- .. from one that writes nothing and makes nothing
theorem krV0 {po : Heap → Prop} {a : Array Value} (h0 : rm.cells = 0) (h1 : rm.slots = 0) (hf : ∀ q, ¬ free q) (k : po H → W p l e R s m args below meth c H locs cells slots Q (F0 m (pc + 3) ls rest)) :
    KR p l e R s m args below meth c H locs cells slots Q rm free (QV po a) pc ls rest := by
  refine krV (c1 := cells) (s1 := slots) (by omega) (by omega) (fun t H1 L hA hL hp => ?_)
  rw [h0] at hA
  have e1 := hA.same hf
  subst e1
  rw [nil_of hL hf, List.append_nil]
  exact k hp
theorem krI0 {po : Int → Heap → Prop} {a : Array Value} (h0 : rm.cells = 0) (h1 : rm.slots = 0) (hf : ∀ q, ¬ free q) (k : ∀ r : Int, po r H → W p l e R s m args below meth c H locs cells slots Q (F0 m (pc + 3) ls (.int (iI r) :: rest))) :
    KR p l e R s m args below meth c H locs cells slots Q rm free (QI po a) pc ls rest := by
  refine krI (c1 := cells) (s1 := slots) (by omega) (by omega) (fun r t H1 L hA hL hp => ?_)
  rw [h0] at hA
  have e1 := hA.same hf
  subst e1
  rw [nil_of hL hf, List.append_nil]
  exact k r hp
theorem krL0 {po : Int → Heap → Prop} {a : Array Value} (h0 : rm.cells = 0) (h1 : rm.slots = 0) (hf : ∀ q, ¬ free q) (k : ∀ r : Int, po r H → W p l e R s m args below meth c H locs cells slots Q (F0 m (pc + 3) ls (.long (lI r) :: rest))) :
    KR p l e R s m args below meth c H locs cells slots Q rm free (QL po a) pc ls rest := by
  refine krL (c1 := cells) (s1 := slots) (by omega) (by omega) (fun r t H1 L hA hL hp => ?_)
  rw [h0] at hA
  have e1 := hA.same hf
  subst e1
  rw [nil_of hL hf, List.append_nil]
  exact k r hp
-- Math.min, Math.max
theorem iz_min (hx : p.tables.exec = Jvm.exec) (hb : c.code = cc) (hml : c.maxLocals = nL) (hsize : ls.size = nL) (hown : s.vm.findClass own = some m.cls) (hTB : TB s) (ml : Cond.methodLink own index Lib.Math.min.name ∈ TW) (hframes : 1 ≤ R.frames) (hlocals : (rest.map fun v => v.category).sum + 13 ≤ R.locals) (hc : cells ≤ R.cells) (hs : slots ≤ R.slots) {a b : Int} (ha : r32 a) (hb1 : r32 b) (hd : decode cc pc = .ok (.invokestatic index, 3))
    (kk : W p l e R s m args below meth c H locs cells slots Q (F0 m (pc + 3) ls (.int (iI (if b < a then b else a)) :: rest))) : W p l e R s m args below meth c H locs cells slots Q (F0 m pc ls (.int (iI b) :: .int (iI a) :: rest)) := by
  refine va_mmin hx hb (hml.trans hsize.symm) hown (hTB _ ml args) (hTB _ wa_stMin args) (hTB _ wa_inMath args) (hTB _ wa_cdMin args) hframes hlocals hc hs hd ?_
  rw [show (if iI b < iI a then iI b else iI a) = iI (if b < a then b else a) by simp only [iI_lt hb1 ha]; split <;> rfl]
  exact kk
theorem iz_max (hx : p.tables.exec = Jvm.exec) (hb : c.code = cc) (hml : c.maxLocals = nL) (hsize : ls.size = nL) (hown : s.vm.findClass own = some m.cls) (hTB : TB s) (ml : Cond.methodLink own index Lib.Math.max.name ∈ TW) (hframes : 1 ≤ R.frames) (hlocals : (rest.map fun v => v.category).sum + 13 ≤ R.locals) (hc : cells ≤ R.cells) (hs : slots ≤ R.slots) {a b : Int} (ha : r32 a) (hb1 : r32 b) (hd : decode cc pc = .ok (.invokestatic index, 3))
    (kk : W p l e R s m args below meth c H locs cells slots Q (F0 m (pc + 3) ls (.int (iI (if a < b then b else a)) :: rest))) : W p l e R s m args below meth c H locs cells slots Q (F0 m pc ls (.int (iI b) :: .int (iI a) :: rest)) := by
  refine va_mmax hx hb (hml.trans hsize.symm) hown (hTB _ ml args) (hTB _ wa_stMax args) (hTB _ wa_inMath args) (hTB _ wa_cdMax args) hframes hlocals hc hs hd ?_
  rw [show (if iI a < iI b then iI b else iI a) = iI (if a < b then b else a) by simp only [iI_lt ha hb1]; split <;> rfl]
  exact kk
theorem iz_minL (hx : p.tables.exec = Jvm.exec) (hb : c.code = cc) (hml : c.maxLocals = nL) (hsize : ls.size = nL) (hown : s.vm.findClass own = some m.cls) (hTB : TB s) (ml : Cond.methodLink own index Lib.MathLoose.min_long.x ∈ TW) (hframes : 1 ≤ R.frames) (hlocals : (rest.map fun v => v.category).sum + 15 ≤ R.locals) (hc : cells ≤ R.cells) (hs : slots ≤ R.slots) {a b : Int} (ha : r64 a) (hb1 : r64 b) (hd : decode cc pc = .ok (.invokestatic index, 3))
    (kk : W p l e R s m args below meth c H locs cells slots Q (F0 m (pc + 3) ls (.long (lI (if b < a then b else a)) :: rest))) : W p l e R s m args below meth c H locs cells slots Q (F0 m pc ls (.long (lI b) :: .long (lI a) :: rest)) := by
  refine va_mmin_long hx hb (hml.trans hsize.symm) hown (hTB _ ml args) (hTB _ wa_stMinL args) (hTB _ wa_inMath args) (hTB _ wa_cdMinL args) hframes hlocals hc hs hd ?_
  rw [show (if lI b < lI a then lI b else lI a) = lI (if b < a then b else a) by simp only [lI_lt hb1 ha]; split <;> rfl]
  exact kk
end CtRows
