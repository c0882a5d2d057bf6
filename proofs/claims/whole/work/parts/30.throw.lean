-- THROWS AND CATCHES
abbrev exA : String := "java/lang/IllegalArgumentException"
abbrev exS : String := "java/lang/IllegalStateException"
abbrev tNm : String := "java/lang/Throwable"
abbrev stD : String := "[Ljava/lang/StackTraceElement;"
abbrev liD : String := "Ljava/util/List;"
/-- a static field of Throwable, in the cell z: it holds a reference or null -/
def SL (n d : String) (z : Nat) (U : State) : Prop := ∃ (c : ClassId) (k : Class) (i : Nat) (f : Field) (cell : Cell) (u : RefV), U.vm.findClass tNm = some c ∧ U.fieldFound? tNm n d = some (c, k, i, f) ∧ f.isStatic = true ∧ k.statics = some z ∧ U.heap[z]? = some cell ∧ cell.vm.isStatics = true ∧ cell.cls = c ∧ f.slot < cell.slots.size ∧ k.staticTypes[f.slot]? = some f.type ∧ cell.slots[f.slot]? = some u.v
theorem SL.warm {n d : String} {z : Nat} {s U : State} (hW : s.WarmedH U.vm) (hh : U.heap[z]? = s.heap[z]?) (h : SL n d z s) : SL n d z U := by
  obtain ⟨c, k, i, f, cell, u, h1, h2, h3, h4, h5, h6, h7, h8, h9, h10⟩ := h
  obtain ⟨k', hi', he⟩ := State.fieldFound?_setVm hW.alike h2
  exact ⟨c, k', i, f, cell, u, by rw [hW.alike.findClass]; exact h1, hi', h3, by rw [he]; exact h4, by rw [hh]; exact h5, h6, h7, h8, by rw [he]; exact h9, h10⟩
theorem SL.lt {n d : String} {z : Nat} {s : State} (h : SL n d z s) : z < s.heap.size := by
  obtain ⟨c, k, i, f, cell, u, h1, h2, h3, h4, h5, h6⟩ := h
  exact (Array.getElem?_eq_some_iff.mp h5).1
theorem SL.lays {n d : String} {z : Nat} {s : State} {args : Array Value} (h : SL n d z s) : (Cond.laysStatic tNm n d).before args s = true := by
  obtain ⟨c, k, i, f, cell, u, h1, h2, h3, h4, h5, h6, h7, h8, h9, h10⟩ := h
  show (Cond.laysStatic tNm n d).holds args s none s [] = true
  exact Cond.laysStatic_of h1 h2 h3 h4 h5 h6 h7 h8 h9
theorem SL.isRef {n d : String} {z : Nat} {s : State} {args : Array Value} (h : SL n d z s) : (Cond.isRef (.static tNm n d)).before args s = true := by
  obtain ⟨c, k, i, f, cell, u, h1, h2, h3, h4, h5, h6, h7, h8, h9, h10⟩ := h
  have he : (Term.static tNm n d).eval args s none [] s = some u.v := by
    simp [Term.eval, State.fieldNamed?, h2, h3, h4, h5, h6, h10]
  obtain ⟨v, hv⟩ := u
  simp only [Cond.before, Cond.holds, Cond.value, he]
  cases v <;> first | rfl | exact absurd hv Bool.false_ne_true | simp
theorem SL.of {n d : String} {s : State} {args : Array Value} (hl : (Cond.laysStatic tNm n d).before args s = true) (hr : (Cond.isRef (.static tNm n d)).before args s = true) : ∃ z, SL n d z s ∧ ∃ c k, s.vm.findClass tNm = some c ∧ s.vm.classes[c]? = some k ∧ k.statics = some z := by
  obtain ⟨c, k, i, f, a, cell, h1, h2, h3, h4, h5, h6, h7, h8, h9⟩ := Cond.laysStatic_spec hl
  obtain ⟨u, hu⟩ := Cond.staticRefV h2 h3 h4 h5 h6 hr
  refine ⟨a, ⟨c, k, i, f, cell, u, h1, h2, h3, h4, h5, h6, h7, h8, h9, hu⟩, c, k, h1, ?_, h4⟩
  exact (State.fieldFound?_spec h2).1
/-- the environment of a method that may throw -/
def EX (K : KG) (z : Nat) (U : State) : Prop := EN K U ∧ SL "UNASSIGNED_STACK" stD z U ∧ SL "SUPPRESSED_SENTINEL" liD z U ∧ va_Nc exS exA U
theorem EX.warm {K : KG} {z : Nat} {s U : State} (hW : s.WarmedH U.vm) (hh : U.heap[z]? = s.heap[z]?) (h : EX K z s) : EX K z U := ⟨h.1.warm hW, h.2.1.warm hW hh, h.2.2.1.warm hW hh, va_Nc.moved hW.alike h.2.2.2⟩
def PX (K : KG) (z : Nat) (av : List Value) (B : Heap → Prop) : Array Value → State → Prop := fun v U => v = av.toArray ∧ EX K z U ∧ B U.heap
theorem PX.blind {K : KG} {z : Nat} {av : List Value} {B : Heap → Prop} : FrameBlind (PX K z av B) := fun a U g mk h => ⟨h.1, h.2.1.warm (show U.WarmedH (U.calling g mk a).vm from State.WarmedH.refl U) rfl, h.2.2⟩
theorem PX.at {K : KG} {z : Nat} {av : List Value} {B : Heap → Prop} {s : State} {H : Heap} (hE : EX K z s) (hz : H[z]? = s.heap[z]?) (hB : B H) : ∀ U : State, U.heap = H → s.WarmedH U.vm → PX K z av B av.toArray U := fun U hU hW => ⟨rfl, hE.warm hW (by rw [hU]; exact hz), by rw [hU]; exact hB⟩
/-- what was thrown: an object of the class E, at x -/
def TX (E : String) (x : Addr) (s : State) (H : Heap) : Prop := ∃ ce : Cell, H[x]? = some ce ∧ ce.vm = .none ∧ s.vm.findClass E = some ce.cls
/-- nothing old has changed -/
def KE (H0 H : Heap) : Prop := H0.size ≤ H.size ∧ ∀ q : Nat, q < H0.size → H[q]? = H0[q]?
theorem KE.trans {H0 H1 H2 : Heap} (h : KE H0 H1) (h' : KE H1 H2) : KE H0 H2 := ⟨Nat.le_trans h.1 h'.1, fun q hq => (h'.2 q (Nat.lt_of_lt_of_le hq h.1)).trans (h.2 q hq)⟩
theorem KE.rf (H : Heap) : KE H H := ⟨Nat.le_refl _, fun _ _ => rfl⟩
theorem KE.P {H0 H : Heap} {D : va_G} {cl : List vw_C} {ws : va_W} (h : KE H0 H) (hP : va_P D cl ws H0) : va_P D cl ws H := hP.kept (fun k q hk => h.2 q.1 ((hP k q hk).lt))
def TH (px : String → Prop) (st : State) (o : Outcome) (t : State) : Prop := ∃ (x : Addr) (E : String), o = .threw x ∧ TX E x t t.heap ∧ KE st.heap t.heap ∧ px E
def QTV (po : Heap → Heap → Prop) (px : String → Prop) : Array Value → State → Outcome → State → Prop := fun _ st o t => (o = .returned none ∧ po st.heap t.heap) ∨ TH px st o t
def QTI (po : Int → Heap → Heap → Prop) (px : String → Prop) : Array Value → State → Outcome → State → Prop := fun _ st o t => (∃ r : Int, o = .returned (some (.int (iI r))) ∧ po r st.heap t.heap) ∨ TH px st o t
def QTL (po : Int → Heap → Heap → Prop) (px : String → Prop) : Array Value → State → Outcome → State → Prop := fun _ st o t => (∃ r : Int, o = .returned (some (.long (lI r))) ∧ po r st.heap t.heap) ∨ TH px st o t
section Thr
variable {p : Program} {l : Launch} {e : Env} {R : Room} {s : State} {m : MethodId} {args : Array Value} {below : List Frame} {meth : Method} {c : Code} {H : Heap} {locs : List Loc} {cells slots : Nat} {Q : State → Prop}
variable {cc : ByteArray} {pc : Nat} {ls : Array Slot} {rest : List Value} {free : Addr → Prop} {Qc : Array Value → State → Outcome → State → Prop}
theorem WX.widen {g : JFrame} {x : Addr} {k n : Nat} (h1 : cells ≤ k) (h2 : slots ≤ n) (kk : WX p l e R s m args below meth c H locs k n Q g x) : WX p l e R s m args below meth c H locs cells slots Q g x := fun T hT X => kk T hT (stand_widen X h1 h2)
/-- the exception goes on to the caller -/
theorem wx_out {x : Addr} (htab : c.exceptionTable.toList.map (fun h => (h.startPc, h.endPc, h.handlerPc, h.catchType)) = []) (hlocks : meth.locks = false) (hq : ∀ t : State, t.heap = H → s.WarmedH t.vm → Qc args s (.threw x) t) (hf : ∀ q ∈ locs, free q.base) :
    WX p l e R s m args below meth c H locs cells slots (XQ below Qc args s cells slots free) (F0 m pc ls rest) x := by
  intro T hT X
  have hn : c.exceptionTable.toList = [] := List.map_eq_nil_iff.mp htab
  obtain ⟨st, hrun, hend, hW, hsm⟩ := X.leaveThrown x (g := F0 m pc ls rest) rfl rfl rfl (fun y hy => by rw [hn] at hy; cases hy) hlocks
  exact ⟨_, st, .threw x, hrun, hend, hq _ hT hW, locs, ⟨hW, hsm⟩, hf⟩
/-- the words of a throw that speak of the heap -/
def SWl : List Cond := [.isRef (.static tNm "UNASSIGNED_STACK" stD), .isRef (.static tNm "SUPPRESSED_SENTINEL" liD), .laysStatic tNm "UNASSIGNED_STACK" stD, .laysStatic tNm "SUPPRESSED_SENTINEL" liD]
set_option maxHeartbeats 4000000 in
/-- 'throw new E("text")' where nothing has been written yet -/
theorem tx_throw {K : KG} {z : Nat} (hx : p.tables.exec = Jvm.exec) (hb : c.code = cc) (htr : l.stackTraces = false) (hE : EX K z s) {own cls text : String} {names : List String} {ik is ic mc ms : Nat}
    (hown : s.vm.findClass own = some m.cls) (hcls : Bundle.fit cls = true) (hnames : ∀ n ∈ names, Bundle.fit n = true) (hat : ∀ w ∈ Bundle.ownAtoms own ic cls names, w ∈ TW ∨ w ∈ SWl)
    (m1 : Cond.classLink own ik cls ∈ TW) (m2 : Cond.initialized cls ∈ TW) (m3 : Cond.stringRef own is text ∈ TW) (hsize : ls.size = c.maxLocals)
    (d0 : decode cc pc = .ok (.new ik, 3)) (d3 : decode cc (pc + 3) = .ok (.dup, 1)) (d4 : decode cc (pc + 4) = .ok (.ldc is, 2)) (d6 : decode cc (pc + 6) = .ok (.invokespecial ic, 3)) (d9 : decode cc (pc + 9) = .ok (.athrow, 1))
    (htab : c.exceptionTable.toList.map (fun h => (h.startPc, h.endPc, h.handlerPc, h.catchType)) = []) (hlocks : meth.locks = false)
    (hRf : names.length + 3 < R.frames) (hRl : (rest.map fun v => v.category).sum + (13 * (names.length + 1) + 43) ≤ R.locals) (hRc : cells + 1 ≤ R.cells) (hRs : slots + 6 ≤ R.slots) (hc : cells + 1 ≤ mc) (hs : slots + 6 ≤ ms)
    (hq : ∀ (x : Addr) (t : State), s.WarmedH t.vm → TX cls x t t.heap → KE s.heap t.heap → Qc args s (.threw x) t) :
    W p l e R s m args below meth c s.heap [] cells slots (XQ below Qc args s mc ms free) (F0 m pc ls rest) := by
  intro T hT X
  have hn : c.exceptionTable.toList = [] := List.map_eq_nil_iff.mp htab
  have htr' : e.platform.stackTraces = false := (show e.platform.stackTraces = l.stackTraces by rw [X.admits.platform]).trans htr
  have hTB : TB s := hE.1.1
  have h : ∀ w ∈ Bundle.ownAtoms own ic cls names, w.before args s = true := by
    intro w hw
    rcases hat w hw with h1 | h1
    · exact hTB w h1 args
    · simp only [SWl, List.mem_cons, List.not_mem_nil, or_false] at h1
      rcases h1 with rfl | rfl | rfl | rfl
      · exact hE.2.1.isRef
      · exact hE.2.2.1.isRef
      · exact hE.2.1.lays
      · exact hE.2.2.1.lays
  have hins : (Cond.instantiable cls 6).before args s = true := h _ (by simp [Bundle.ownAtoms])
  obtain ⟨vm₁, cX, kX, hfX, hkX, -, -, X₁, st1⟩ := X.newCold hx (own := own) (C := cls) (index := ik) (n := 6) hown (hTB _ m1 args) hins (hTB _ m2 args) (g := F0 m pc ls rest) rfl (by rw [hb]; exact d0) hRc hRs
  obtain ⟨sk, scf, si, sa, -, -, -, -, -, hev⟩ := Cond.stringRef_spec (args := #[]) (first := s) (o := none) (idx := []) hown (hTB _ m3 #[])
  generalize hT1 : (T.setVm vm₁).pushCell { cls := cX, slots := kX.instanceTypes.map defaultValue, vm := .none } = T1 at X₁ st1
  have hcellA : T1.heap[T.heap.size]? = some (freshCell cX kX) := by rw [← hT1]; exact State.heap_pushCell_size _ _
  have d3' : decode c.code (pc + 3) = .ok (.dup, 1) := by rw [hb]; exact d3
  have d4' : decode c.code (pc + 4) = .ok (.ldc is, 2) := by rw [hb]; exact d4
  have hcat : (Value.ref T.heap.size).category = 1 := rfl
  obtain ⟨U, hsteps, hrun, hend, hW, hsame, ce, hce, hO⟩ := X₁.ctorThrowS hx htr' (own := own) (cls := cls) (names := names) (ic := ic) hown hcls hnames h (fun x hx => nomatch hx) hfX hkX hcellA (by rw [hT]; exact Nat.le_refl _) (msg := .ref sa) rfl
    (g := { method := m, pc := pc + 6, locals := ls, stack := .ref sa :: .ref T.heap.size :: .ref T.heap.size :: rest, locked := none }) rfl hsize rfl rfl (rest := rest) rfl
    (by rw [hb]; exact d6) (by rw [hb]; exact d9) (fun y hy => by rw [hn] at hy; cases hy) hRf (by simp only [List.map_cons, List.sum_cons, hcat]; omega) hlocks
  have hke : KE s.heap U.heap := by
    have h9 : s.sameButNew (U.setVm s.vm) [] (cells + 1) (slots + 6) := hsame
    obtain ⟨z1, -, z3⟩ := same_kept (free := fun _ => False) h9 (fun q hq => nomatch hq)
    exact ⟨z1, fun q hq => z3 q hq (fun h => h)⟩
  have htx : TX cls T.heap.size U U.heap := ⟨ce, hce, hO.vm, by rw [hW.alike.findClass]; exact hO.cls⟩
  refine ⟨U, ?_, .threw T.heap.size, hrun, hend, hq _ U hW htx hke, [], ⟨hW, hsame.mono hc hs⟩, fun q hq => nomatch hq⟩
  refine st1 _ ?_
  show Steps p.tables e below (T1.setTop { method := m, pc := pc + 3, locals := ls, stack := .ref T.heap.size :: rest, locked := none }) _
  jvm_step X₁.here [X₁.here.top, hx, d3', Value.category]
  exact X₁.ldcString hx (own := own) (text := text) (index := is) (a := sa) hown (hTB _ m3 #[]) hev
    (g := { method := m, pc := pc + 4, locals := ls, stack := .ref T.heap.size :: .ref T.heap.size :: rest, locked := none }) rfl d4' _ hsteps
-- the search for a handler, its class linked now if it wasn't
theorem fh_take {f : JFrame} {a : Addr} {S : State} {x : ExceptionTableEntry} {t : List ExceptionTableEntry} {k : ClassId} {cell : Cell} {P : Handler → Pre} {E : CtlPost} {d : Bool} {acts : List Action} (hx : covers x f.pc = true) (h0 : x.catchType ≠ 0) (hl : S.vm.ClassLinks e.platform f.method.cls x.catchType k) (hcell : S.heap[a]? = some cell) (hobj : ∀ j, cell.vm ≠ .statics j)
    (hk1 : ∃ j, S.vm.classes[cell.cls]? = some j) (hk2 : ∃ j, S.vm.classes[k]? = some j) :
    wp (findHandler.go f a (x :: t)) P E e d acts S ↔ if S.vm.assignable cell.cls k = true then P (.found x.handlerPc) d acts (S.setVm (S.vm.noted f.method.cls x.catchType (.cls k))) else wp (findHandler.go f a t) P E e d acts (S.setVm (S.vm.noted f.method.cls x.catchType (.cls k))) := by
  simp only [covers] at hx
  obtain ⟨ha, ht⟩ := (resolveClass_links e.toSetting hl).op (op := VmOp.resolveClass f.method.cls x.catchType) rfl
  have hal : S.vm.Alike (S.vm.noted f.method.cls x.catchType (.cls k)) := (Vm.Alike.refl S.vm).noted _ _ _
  obtain ⟨j1, hj1⟩ := hk1
  obtain ⟨j2, hj2⟩ := hk2
  obtain ⟨j1', hj1', -⟩ := hal.2.2 _ _ hj1
  obtain ⟨j2', hj2', -⟩ := hal.2.2 _ _ hj2
  have hfe := hal.assignable cell.cls k
  by_cases hfit : S.vm.assignable cell.cls k = true
  · have h9 : (S.vm.noted f.method.cls x.catchType (.cls k)).assignable cell.cls k = true := by rw [hfe]; exact hfit
    rw [if_pos hfit]
    simp [findHandler.go, hx, h0, ha, ht, hcell, hobj, hj1', hj2', h9, VmOp.dirties, VmOp.acts]
  · have h9 : (S.vm.noted f.method.cls x.catchType (.cls k)).assignable cell.cls k = false := by rw [hfe]; simpa using hfit
    rw [if_neg hfit]
    simp [findHandler.go, hx, h0, ha, ht, hcell, hobj, hj1', hj2', h9, VmOp.dirties, VmOp.acts]
end Thr
