-- what the class's own methods need: calls that may throw, read-only cells
section XH
variable {p : Program} {l : Launch} {e : Env} {R : Room} {s : State} {m : MethodId} {args : Array Value} {below : List Frame} {meth : Method} {c : Code} {H : Heap} {locs : List Loc} {cells slots : Nat} {Q : State → Prop}
variable {pc : Nat} {ls : Array Slot} {rest : List Value} {free : Addr → Prop} {rm : Room} {Qc : Array Value → State → Outcome → State → Prop}
theorem TX.back {E : String} {x : Addr} {t : State} {H1 : Heap} (hW : s.WarmedH t.vm) (ht : t.heap = H1) (h : TX E x t t.heap) : TX E x s H1 := by
  obtain ⟨ce, h1, h2, h3⟩ := h
  exact ⟨ce, by rw [← ht]; exact h1, h2, by rw [← hW.alike.findClass]; exact h3⟩
theorem TX.to {E : String} {x : Addr} {t : State} {H1 : Heap} (hW : s.WarmedH t.vm) (ht : t.heap = H1) (h : TX E x s H1) : TX E x t t.heap := by
  obtain ⟨ce, h1, h2, h3⟩ := h
  exact ⟨ce, by rw [ht]; exact h1, h2, by rw [hW.alike.findClass]; exact h3⟩
/-- a check: it comes back if all is well, and throws E0 otherwise -/
theorem krC {cnd : Prop} {E0 : String} {a : Array Value} {c1 s1 : Nat} (h0 : rm.cells = 1) (h1 : rm.slots = 6) (hf : ∀ q, ¬ free q) (hc1 : cells + 1 = c1) (hs1 : slots + 6 = s1) (k : cnd → W p l e R s m args below meth c H locs c1 s1 Q (F0 m (pc + 3) ls rest))
    (kx : ∀ (x : Addr) (H1 : Heap), TX E0 x s H1 → KE H H1 → ¬ cnd → WX p l e R s m args below meth c H1 locs c1 s1 Q (F0 m pc ls rest) x) :
    KR p l e R s m args below meth c H locs cells slots Q rm free (QTV (fun H0 H => H = H0 ∧ cnd) (fun E => E = E0 ∧ ¬ cnd) a) pc ls rest := by
  subst hc1
  subst hs1
  intro st0 t H1 L hst hA hL
  rw [h0, h1]
  have hL0 := nil_of hL hf
  subst hL0
  rw [List.append_nil]
  refine ⟨fun v hq => ?_, fun x hq => ?_⟩
  · rcases hq with ⟨e1, e2, hc⟩ | ⟨x, E, e1, -⟩
    · cases e1
      rw [hst, hA.1] at e2
      subst e2
      exact k hc
    · cases e1
  · rcases hq with ⟨e1, -⟩ | ⟨y, E, e1, hX, hk, rfl, hn⟩
    · cases e1
    · cases e1
      exact kx x H1 (hX.back hA.2.1 hA.1) (by rw [← hst, ← hA.1]; exact hk) hn
theorem x_out {px : String → Prop} {x : Addr} {E : String} {mc ms : Nat} (htab : c.exceptionTable.toList.map (fun h => (h.startPc, h.endPc, h.handlerPc, h.catchType)) = []) (hlocks : meth.locks = false) (hQ : ∀ o t, TH px s o t → Qc args s o t) (hX : TX E x s H) (hk : KE s.heap H) (hp : px E) (hc : cells ≤ mc) (hs : slots ≤ ms) :
    WX p l e R s m args below meth c H [] cells slots (XQ below Qc args s mc ms free) (F0 m pc ls rest) x :=
  WX.widen hc hs (wx_out htab hlocks (fun t ht hW => hQ _ _ ⟨x, E, rfl, hX.to hW ht, by rw [ht]; exact hk, hp⟩) (fun q hq => nomatch hq))
theorem ro_at {A : Nat → Prop} {H0 : Heap} {D : va_G} {cl : List vw_C} {rs : va_W} (hS : va_S A H0 H locs) (hR : va_P D cl rs H0) (hA : ∀ (k : Nat) (q : Nat × va_E), rs[k]? = some q → ¬ A q.1) : va_P D cl rs H := hR.kept (fun k q hk => hS.2.1 q.1 ((hR k q hk).lt) (hA k q hk))
variable {cc : ByteArray}
theorem ix_iret {po : Int → Heap → Heap → Prop} {px : String → Prop} {r : Int} {mc ms : Nat} (hx : p.tables.exec = Jvm.exec) (hb : c.code = cc) (hr : meth.sig.returnType = some .int) (hlocks : meth.locks = false) (hq : po r s.heap H) (hf : ∀ q ∈ locs, free q.base) (hc : cells ≤ mc) (hs : slots ≤ ms) (hd : decode cc pc = .ok (.ireturn, 1)) : W p l e R s m args below meth c H locs cells slots (XQ below (QTI po px) args s mc ms free) (F0 m pc ls [.int (iI r)]) :=
  W.widen hc hs (W.mono xq_of (W.iret (Qc := QTI po px) hx hb hr (fun t ht _ => Or.inl ⟨r, rfl, by rw [ht]; exact hq⟩) hf hd hlocks))
theorem ix_lret {po : Int → Heap → Heap → Prop} {px : String → Prop} {r : Int} {mc ms : Nat} (hx : p.tables.exec = Jvm.exec) (hb : c.code = cc) (hr : meth.sig.returnType = some .long) (hlocks : meth.locks = false) (hq : po r s.heap H) (hf : ∀ q ∈ locs, free q.base) (hc : cells ≤ mc) (hs : slots ≤ ms) (hd : decode cc pc = .ok (.lreturn, 1)) : W p l e R s m args below meth c H locs cells slots (XQ below (QTL po px) args s mc ms free) (F0 m pc ls [.long (lI r)]) :=
  W.widen hc hs (W.mono xq_of (W.lret (Qc := QTL po px) hx hb hr (fun t ht _ => Or.inl ⟨r, rfl, by rw [ht]; exact hq⟩) hf hd hlocks))
theorem ix_vret {po : Heap → Heap → Prop} {px : String → Prop} {mc ms : Nat} (hx : p.tables.exec = Jvm.exec) (hb : c.code = cc) (hr : meth.sig.returnType = none) (hlocks : meth.locks = false) (hq : po s.heap H) (hf : ∀ q ∈ locs, free q.base) (hc : cells ≤ mc) (hs : slots ≤ ms) (hd : decode cc pc = .ok (.return_, 1)) : W p l e R s m args below meth c H locs cells slots (XQ below (QTV po px) args s mc ms free) (F0 m pc ls []) :=
  W.widen hc hs (W.mono xq_of (W.vret (Qc := QTV po px) hx hb hr (fun t ht _ => Or.inl ⟨rfl, by rw [ht]; exact hq⟩) hf hd hlocks))
end XH
theorem at_A : ∀ w ∈ Bundle.ownAtoms RX 139 exA ["java/lang/RuntimeException", "java/lang/Exception"], w ∈ TW ∨ w ∈ SWl := by decide +kernel
theorem at_S : ∀ w ∈ Bundle.ownAtoms RX 59 exS ["java/lang/RuntimeException", "java/lang/Exception"], w ∈ TW ∨ w ∈ SWl := by decide +kernel
