/-- a stuff's need, as the class keeps its walls -/
def ndX (ar : Nat → Int) (th : Nat → Nat → Int) (wa : Nat → Int) (wn k : Nat) : Int := cdiv (sm (fun i => ar i * th i k) 0 wn * (100 + wa k)) 100
/-- bounds of the walls -/
def WB (wn : Nat) (ar oc lc : Nat → Int) (th : Nat → Nat → Int) (wa : Nat → Int) : Prop := wn ≤ 12 ∧ (∀ i, i < 12 → (0 ≤ ar i ∧ ar i ≤ 1000000) ∧ (0 ≤ oc i ∧ oc i ≤ 6) ∧ (0 ≤ lc i ∧ lc i ≤ 8) ∧ ∀ k, k < 10 → 0 ≤ th i k ∧ th i k ≤ 500 * lc i) ∧ ∀ k, k < 10 → 0 ≤ wa k ∧ wa k ≤ 100
theorem ndX_sum {ar oc lc : Nat → Int} {th : Nat → Nat → Int} {wa : Nat → Int} {wn k : Nat} (h : WB wn ar oc lc th wa) (hk : k < 10) : 0 ≤ sm (fun i => ar i * th i k) 0 wn ∧ sm (fun i => ar i * th i k) 0 wn ≤ 48000000000 := by
  obtain ⟨h1, h2, h3⟩ := h
  have hb : ∀ i, 0 ≤ i → i < 0 + wn → 0 ≤ ar i * th i k ∧ ar i * th i k ≤ 4000000000 := by
    intro i _ hi
    obtain ⟨q1, q2, q3, q4⟩ := h2 i (by omega)
    have q5 := q4 k hk
    have q6 := mul_bd q1.1 q1.2 q5.1 (show th i k ≤ 4000 by omega)
    omega
  refine ⟨sm_nn wn 0 (fun i a b => (hb i a b).1), ?_⟩
  have h9 := sm_le (f := fun i => ar i * th i k) (g := fun _ => 4000000000) wn 0 (fun i a b => (hb i a b).2)
  rw [sm_const] at h9
  omega
theorem ndX_bd {ar oc lc : Nat → Int} {th : Nat → Nat → Int} {wa : Nat → Int} {wn k : Nat} (h : WB wn ar oc lc th wa) (hk : k < 10) : (0 ≤ sm (fun i => ar i * th i k) 0 wn * (100 + wa k) ∧ sm (fun i => ar i * th i k) 0 wn * (100 + wa k) ≤ 9600000000000) ∧ 0 ≤ ndX ar th wa wn k ∧ ndX ar th wa wn k ≤ 100000000000 := by
  have h1 := ndX_sum h hk
  have h2 := h.2.2 k hk
  have h3 := mul_bd h1.1 h1.2 (show 0 ≤ 100 + wa k by omega) (show 100 + wa k ≤ 200 by omega)
  refine ⟨⟨h3.1, by omega⟩, cdiv_nn (by omega) h3.1, ?_⟩
  exact cdiv_le (by omega) (by omega)
section XH2
variable {p : Program} {l : Launch} {e : Env} {R : Room} {s : State} {m : MethodId} {args : Array Value} {below : List Frame} {meth : Method} {c : Code} {H : Heap} {locs : List Loc} {cells slots : Nat} {Q : State → Prop}
variable {pc : Nat} {ls : Array Slot} {rest : List Value} {free : Addr → Prop} {rm : Room}
/-- a call that could throw, but doesn't -/
theorem krN {C : Prop} {v : Int} {a : Array Value} {c1 s1 : Nat} (hC : C) (hf : ∀ q, ¬ free q) (hc1 : cells + rm.cells = c1) (hs1 : slots + rm.slots = s1) (k : W p l e R s m args below meth c H locs c1 s1 Q (F0 m (pc + 3) ls (.long (lI v) :: rest))) :
    KR p l e R s m args below meth c H locs cells slots Q rm free (QTL (fun r H0 H => C ∧ H = H0 ∧ r = v) (fun E => E = exA ∧ ¬ C) a) pc ls rest := by
  subst hc1
  subst hs1
  intro st0 t H1 L hst hA hL
  have hL0 := nil_of hL hf
  subst hL0
  rw [List.append_nil]
  refine ⟨fun w hq => ?_, fun x hq => ?_⟩
  · rcases hq with ⟨r, e1, -, e2, rfl⟩ | ⟨x, E, e1, -⟩
    · cases e1
      rw [hst, hA.1] at e2
      subst e2
      exact k
    · cases e1
  · rcases hq with ⟨r, e1, -⟩ | ⟨y, E, e1, -, -, -, hn⟩
    · cases e1
    · exact absurd hC hn
end XH2
/-- as QTI, of a method that may have written before it throws -/
def QTR (po : Int → Heap → Heap → Prop) (px : String → Heap → Prop) : Array Value → State → Outcome → State → Prop := fun _ st o t => (∃ r : Int, o = .returned (some (.int (iI r))) ∧ po r st.heap t.heap) ∨ ∃ (x : Addr) (E : String), o = .threw x ∧ TX E x t t.heap ∧ px E t.heap
