-- CATCHES
section Cat
variable {p : Program} {l : Launch} {e : Env} {R : Room} {s : State} {m : MethodId} {args : Array Value} {below : List Frame} {meth : Method} {c : Code} {H : Heap} {locs : List Loc} {cells slots : Nat} {Q : State → Prop}
variable {pc : Nat} {ls : Array Slot} {rest : List Value} {own : String}
/-- a handler is found, the tables are warmer by it: the frame goes on there -/
theorem st_caught {T target : State} {g : JFrame} {x : Addr} {h : Nat} {vm' : Vm} (hA : At T g.method c below)
    (hf : ∀ (P : Handler → Pre) (E : CtlPost) (d : Bool) (acts : List Action), wp (findHandler g x) P E e d acts ((T.setTop g).pushFrame (.throwing x)) ↔ P (.found h) d acts (((T.setTop g).pushFrame (.throwing x)).setVm vm'))
    (hr : Steps p.tables e below ((T.setVm vm').setTop { g with pc := h, stack := [.ref x] }) target) : Steps p.tables e below ((T.setTop g).pushFrame (.throwing x)) target := by
  obtain ⟨hgo, hw⟩ := hA.throwing x
  refine Steps.head hgo hw ?_
  have hst : ∀ r : List Frame, (stepThrowing e ((T.setTop g).pushFrame (.throwing x)) x (.java g :: r)).Is ((((T.setTop g).pushFrame (.throwing x)).setVm vm').setFrames (.java { g with pc := h, stack := [.ref x] } :: r)) [] := by
    intro r
    simp only [stepThrowing, searchFrame, vmDo]
    generalize hgr : Sem.go _ e false [] ((T.setTop g).pushFrame (.throwing x)) = res
    obtain ⟨as, rfl, ha⟩ := Sem.eq_ok_of hgr (a := Handler.found h) (s' := ((T.setTop g).pushFrame (.throwing x)).setVm vm') (acts' := []) (by simp [hf _ _ _ _])
    exact ⟨rfl, ha⟩
  rw [stepThread_throwing (frames_entered hA.top _), (hst _).1]
  obtain ⟨g₀, hg⟩ := Option.isSome_iff_exists.mp hA.top
  obtain ⟨r, hr0⟩ := State.topJava?_eq_some.mp hg
  have e1 : ∀ F : List Frame, (((T.setTop g).pushFrame (.throwing x)).setVm vm').setFrames F = (T.setVm vm').setFrames F := by
    intro F
    rw [State.pushFrame, State.setTop_of_frames _ hr0, State.setFrames_setFrames]
    have e2 : ∀ G : List Frame, (T.setFrames G).setVm vm' = (T.setVm vm').setFrames G := fun _ => rfl
    rw [e2, State.setFrames_setFrames]
  rw [hr0, List.tail_cons, e1]
  rw [State.setTop_of_frames _ (show (T.setVm vm').frames = .java g₀ :: r from hr0)] at hr
  exact hr
theorem tab1 {es : List ExceptionTableEntry} {a b h t : Nat} {tl : List (Nat × Nat × Nat × Nat)} (he : es.map (fun x => (x.startPc, x.endPc, x.handlerPc, x.catchType)) = (a, b, h, t) :: tl) : ∃ x es', es = x :: es' ∧ x.startPc = a ∧ x.endPc = b ∧ x.handlerPc = h ∧ x.catchType = t ∧ es'.map (fun x => (x.startPc, x.endPc, x.handlerPc, x.catchType)) = tl := by
  cases es with
  | nil => cases he
  | cons x es' =>
    simp only [List.map_cons, List.cons.injEq, Prod.mk.injEq] at he
    exact ⟨x, es', rfl, he.1.1, he.1.2.1, he.1.2.2.1, he.1.2.2.2, he.2⟩
theorem cov_of {x : ExceptionTableEntry} {a b q : Nat} (h1 : x.startPc = a) (h2 : x.endPc = b) (h : a ≤ q ∧ q < b) : covers x q = true := by
  unfold covers
  rw [h1, h2]
  simp [h.1, h.2]
/-- the first row of the table takes it -/
theorem wx_catch1 {a1 b1 h1 t1 : Nat} {tl : List (Nat × Nat × Nat × Nat)} {E nm : String} {x : Addr} (hown : s.vm.findClass own = some m.cls) (hTB : TB s) (htab : c.exceptionTable.toList.map (fun h => (h.startPc, h.endPc, h.handlerPc, h.catchType)) = (a1, b1, h1, t1) :: tl) (hcov : a1 ≤ pc ∧ pc < b1) (ht0 : t1 ≠ 0)
    (ml : Cond.classLink own t1 nm ∈ TW) (mc : Cond.castable E nm ∈ TW) (hx : TX E x s H) (kk : W p l e R s m args below meth c H locs cells slots Q (F0 m h1 ls [.ref x])) : WX p l e R s m args below meth c H locs cells slots Q (F0 m pc ls rest) x := by
  intro T hT X
  have hpl : e.platform.magicAccessors = ({} : Platform).magicAccessors := by rw [X.admits.platform]
  obtain ⟨ce, hce, hv, hcl⟩ := hx
  obtain ⟨y, es', hes, y1, y2, y3, y4, -⟩ := tab1 htab
  subst y3; subst y4
  obtain ⟨c3, c4, hc3, hc4, hasg⟩ := Cond.castable_spec (hTB _ mc args)
  cases Option.some.inj (hc3.symm.trans hcl)
  obtain ⟨c5, hc5, hl5⟩ := Cond.classLink_spec hown (hTB _ ml args) e.platform hpl
  cases Option.some.inj (hc4.symm.trans hc5)
  obtain ⟨dk, _, _, kt, hd, _, _, _, _, hkt, _, hopen⟩ := hl5.here
  obtain ⟨ke, hke, -⟩ := Vm.findClass_spec hcl
  obtain ⟨kt', hkt', -⟩ := X.warmed.alike.2.2 _ _ hkt
  obtain ⟨ke', hke', -⟩ := X.warmed.alike.2.2 _ _ hke
  have hW1 := X.warmed.noted hd hopen (State.rightAt_cls hl5)
  obtain ⟨t, a1', b1'⟩ := kk _ (show (T.setVm (T.vm.noted m.cls y.catchType (.cls c4))).heap = H from hT) (X.noted hW1)
  refine ⟨t, st_caught (h := y.handlerPc) (vm' := T.vm.noted m.cls y.catchType (.cls c4)) X.here (fun P E d acts => ?_) a1', b1'⟩
  rw [W.findHandler_eq (meth := meth) (code := c) X.method' X.code, hes]
  have h9 := fh_take (e := e) (f := F0 m pc ls rest) (a := x) (S := ((T.setTop (F0 m pc ls rest)).pushFrame (.throwing x))) (x := y) (t := es') (k := c4) (cell := ce) (P := P) (E := E) (d := d) (acts := acts) (cov_of y1 y2 hcov) ht0 (X.warmed.classLinks hl5) (by show T.heap[x]? = some ce; rw [hT]; exact hce) (fun j hj => by rw [hv] at hj; cases hj) ⟨ke', hke'⟩ ⟨kt', hkt'⟩
  rw [h9]
  rw [if_pos (show ((T.setTop (F0 m pc ls rest)).pushFrame (Frame.throwing x)).vm.assignable ce.cls c4 = true by show T.vm.assignable ce.cls c4 = true; rw [X.warmed.alike.assignable]; exact hasg)]
  rfl
/-- the first row does not take it, the second does -/
theorem wx_catch2 {a1 b1 h1 t1 a2 b2 h2 t2 : Nat} {tl : List (Nat × Nat × Nat × Nat)} {E nm nm2 : String} {x : Addr} (hown : s.vm.findClass own = some m.cls) (hTB : TB s) (htab : c.exceptionTable.toList.map (fun h => (h.startPc, h.endPc, h.handlerPc, h.catchType)) = (a1, b1, h1, t1) :: (a2, b2, h2, t2) :: tl) (hcov : a1 ≤ pc ∧ pc < b1) (hcov2 : a2 ≤ pc ∧ pc < b2) (ht0 : t1 ≠ 0) (ht2 : t2 ≠ 0)
    (ml : Cond.classLink own t1 nm ∈ TW) (hno : va_Nc E nm s) (ml2 : Cond.classLink own t2 nm2 ∈ TW) (mc : Cond.castable E nm2 ∈ TW) (hx : TX E x s H) (kk : W p l e R s m args below meth c H locs cells slots Q (F0 m h2 ls [.ref x])) : WX p l e R s m args below meth c H locs cells slots Q (F0 m pc ls rest) x := by
  intro T hT X
  have hpl : e.platform.magicAccessors = ({} : Platform).magicAccessors := by rw [X.admits.platform]
  obtain ⟨ce, hce, hv, hcl⟩ := hx
  obtain ⟨y, es', hes, y1, y2, y3, y4, htl⟩ := tab1 htab
  obtain ⟨u, es2, hes2, u1, u2, u3, u4, -⟩ := tab1 htl
  subst y3; subst y4; subst u3; subst u4; subst hes2
  obtain ⟨c3, c4, hc3, hc4, hasg⟩ := Cond.castable_spec (hTB _ mc args)
  cases Option.some.inj (hc3.symm.trans hcl)
  obtain ⟨c5, hc5, hl5⟩ := Cond.classLink_spec hown (hTB _ ml2 args) e.platform hpl
  cases Option.some.inj (hc4.symm.trans hc5)
  obtain ⟨c6, hc6, hl6⟩ := Cond.classLink_spec hown (hTB _ ml args) e.platform hpl
  obtain ⟨a8, b8, g1, g2, g3⟩ := hno
  cases Option.some.inj (g1.symm.trans hcl)
  cases Option.some.inj (g2.symm.trans hc6)
  obtain ⟨dk, _, _, kt, hd, _, _, _, _, hkt, _, hopen⟩ := hl5.here
  obtain ⟨dk6, _, _, kt6, hd6, _, _, _, _, hkt6, _, hopen6⟩ := hl6.here
  obtain ⟨ke, hke, -⟩ := Vm.findClass_spec hcl
  obtain ⟨kt6', hkt6', -⟩ := X.warmed.alike.2.2 _ _ hkt6
  obtain ⟨ke', hke', -⟩ := X.warmed.alike.2.2 _ _ hke
  have hW1 := X.warmed.noted hd6 hopen6 (State.rightAt_cls hl6)
  have X1 := X.noted hW1
  obtain ⟨ke1, hke1, -⟩ := X1.warmed.alike.2.2 _ _ hke
  obtain ⟨kt1, hkt1, -⟩ := X1.warmed.alike.2.2 _ _ hkt
  have hW2 := X1.warmed.noted hd hopen (State.rightAt_cls hl5)
  obtain ⟨t, a1', b1'⟩ := kk _ (show ((T.setVm (T.vm.noted m.cls y.catchType (.cls c6))).setVm ((T.setVm (T.vm.noted m.cls y.catchType (.cls c6))).vm.noted m.cls u.catchType (.cls c4))).heap = H from hT) (X1.noted hW2)
  refine ⟨t, st_caught (h := u.handlerPc) (vm' := (T.vm.noted m.cls y.catchType (.cls c6)).noted m.cls u.catchType (.cls c4)) X.here (fun P E d acts => ?_) a1', b1'⟩
  rw [W.findHandler_eq (meth := meth) (code := c) X.method' X.code, hes]
  have h9 := fh_take (e := e) (f := F0 m pc ls rest) (a := x) (S := ((T.setTop (F0 m pc ls rest)).pushFrame (.throwing x))) (x := y) (t := u :: es2) (k := c6) (cell := ce) (P := P) (E := E) (d := d) (acts := acts) (cov_of y1 y2 hcov) ht0 (X.warmed.classLinks hl6) (by show T.heap[x]? = some ce; rw [hT]; exact hce) (fun j hj => by rw [hv] at hj; cases hj) ⟨ke', hke'⟩ ⟨kt6', hkt6'⟩
  rw [h9]
  rw [if_neg (show ¬ ((T.setTop (F0 m pc ls rest)).pushFrame (Frame.throwing x)).vm.assignable ce.cls c6 = true by show ¬ T.vm.assignable ce.cls c6 = true; rw [X.warmed.alike.assignable, g3]; exact Bool.false_ne_true)]
  have h8 := fh_take (e := e) (f := F0 m pc ls rest) (a := x) (S := ((T.setTop (F0 m pc ls rest)).pushFrame (.throwing x)).setVm (T.vm.noted m.cls y.catchType (.cls c6))) (x := u) (t := es2) (k := c4) (cell := ce) (P := P) (E := E) (d := d) (acts := acts) (cov_of u1 u2 hcov2) ht2 (X1.warmed.classLinks hl5) (by show T.heap[x]? = some ce; rw [hT]; exact hce) (fun j hj => by rw [hv] at hj; cases hj) ⟨ke1, hke1⟩ ⟨kt1, hkt1⟩
  refine Iff.trans h8 ?_
  rw [if_pos (show (((T.setTop (F0 m pc ls rest)).pushFrame (Frame.throwing x)).setVm (T.vm.noted m.cls y.catchType (.cls c6))).vm.assignable ce.cls c4 = true by show (T.setVm (T.vm.noted m.cls y.catchType (.cls c6))).vm.assignable ce.cls c4 = true; rw [X1.warmed.alike.assignable]; exact hasg)]
  rfl
end Cat
