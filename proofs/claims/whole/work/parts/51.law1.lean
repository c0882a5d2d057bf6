-- THE LAW: what it catches
def QH (po : Int → Heap → Heap → Prop) : Array Value → State → Outcome → State → Prop := fun _ st o t => ∃ r : Int, o = .returned (some (.int (iI r))) ∧ po r st.heap t.heap
theorem arrl_congr {n : Nat} {f g : Nat → Int} (h : ∀ j, j < n → f j = g j) (cA : ClassId) : vp_cell cA (n, .inr (.inl (lA f))) = vp_cell cA (n, .inr (.inl (lA g))) := by
  show arrV cA n (fun j => .long (lI (f j))) = arrV cA n (fun j => .long (lI (g j)))
  unfold arrV
  congr 2
  funext j
  show Value.long (lI (f j.val)) = Value.long (lI (g j.val))
  rw [h j.val j.isLt]
/-- the law's own cell: it holds v, all else is as in H1 -/
def OB (K : KG) (ob : Nat) (v : Int) (H1 H : Heap) : Prop := H.size = H1.size ∧ (∀ q : Nat, q ≠ ob → H[q]? = H1[q]?) ∧ va_P (kD K) vcl [(ob, .inl (kL K, 1, .inr (.inl (lA (fun _ => v)))))] H
section LawRows
variable {p : Program} {l : Launch} {e : Env} {R : Room} {s : State} {m : MethodId} {args : Array Value} {below : List Frame} {meth : Method} {c : Code} {H : Heap} {locs : List Loc} {cells slots : Nat} {Q : State → Prop}
variable {pc : Nat} {ls : Array Slot} {rest : List Value} {free : Addr → Prop} {rm : Room} {cc : ByteArray} {K : KG} {A : Nat → Prop} {H0 : Heap} {a : Nat}
/-- a call that may throw -/
theorem krTI {po : Int → Heap → Heap → Prop} {px : String → Prop} {av : Array Value} {c1 s1 : Nat} (hc1 : cells + rm.cells = c1) (hs1 : slots + rm.slots = s1)
    (k : ∀ (r : Int) (t : State) (H1 : Heap) (L : List Loc), Af s H free rm.cells t H1 → (∀ q ∈ L, free q.base) → po r H H1 → W p l e R s m args below meth c H1 (locs ++ L) c1 s1 Q (F0 m (pc + 3) ls (.int (iI r) :: rest)))
    (kx : ∀ (x : Addr) (E : String) (t : State) (H1 : Heap) (L : List Loc), Af s H free rm.cells t H1 → (∀ q ∈ L, free q.base) → TX E x s H1 → KE H H1 → px E → WX p l e R s m args below meth c H1 (locs ++ L) c1 s1 Q (F0 m pc ls rest) x) :
    KR p l e R s m args below meth c H locs cells slots Q rm free (QTI po px av) pc ls rest := by
  subst hc1
  subst hs1
  intro st0 t H1 L hst hA hL
  refine ⟨fun w hq => ?_, fun x hq => ?_⟩
  · rcases hq with ⟨r, e1, hp⟩ | ⟨x, E, e1, -⟩
    · cases e1
      exact k r t H1 L hA hL (by rw [← hst, ← hA.1]; exact hp)
    · cases e1
  · rcases hq with ⟨r, e1, -⟩ | ⟨y, E, e1, hX, hk, hn⟩
    · cases e1
    · cases e1
      exact kx x E t H1 L hA hL (hX.back hA.2.1 hA.1) (by rw [← hst, ← hA.1]; exact hk) hn
/-- a call that may throw -/
theorem krTL2 {po : Int → Heap → Heap → Prop} {px : String → Prop} {av : Array Value} {c1 s1 : Nat} (hc1 : cells + rm.cells = c1) (hs1 : slots + rm.slots = s1)
    (k : ∀ (r : Int) (t : State) (H1 : Heap) (L : List Loc), Af s H free rm.cells t H1 → (∀ q ∈ L, free q.base) → po r H H1 → W p l e R s m args below meth c H1 (locs ++ L) c1 s1 Q (F0 m (pc + 3) ls (.long (lI r) :: rest)))
    (kx : ∀ (x : Addr) (E : String) (t : State) (H1 : Heap) (L : List Loc), Af s H free rm.cells t H1 → (∀ q ∈ L, free q.base) → TX E x s H1 → KE H H1 → px E → WX p l e R s m args below meth c H1 (locs ++ L) c1 s1 Q (F0 m pc ls rest) x) :
    KR p l e R s m args below meth c H locs cells slots Q rm free (QTL po px av) pc ls rest := by
  subst hc1
  subst hs1
  intro st0 t H1 L hst hA hL
  refine ⟨fun w hq => ?_, fun x hq => ?_⟩
  · rcases hq with ⟨r, e1, hp⟩ | ⟨x, E, e1, -⟩
    · cases e1
      exact k r t H1 L hA hL (by rw [← hst, ← hA.1]; exact hp)
    · cases e1
  · rcases hq with ⟨r, e1, -⟩ | ⟨y, E, e1, hX, hk, hn⟩
    · cases e1
    · cases e1
      exact kx x E t H1 L hA hL (hX.back hA.2.1 hA.1) (by rw [← hst, ← hA.1]; exact hk) hn
/-- a call that may throw -/
theorem krTR {po : Int → Heap → Heap → Prop} {px : String → Heap → Prop} {av : Array Value} {c1 s1 : Nat} (hc1 : cells + rm.cells = c1) (hs1 : slots + rm.slots = s1)
    (k : ∀ (r : Int) (t : State) (H1 : Heap) (L : List Loc), Af s H free rm.cells t H1 → (∀ q ∈ L, free q.base) → po r H H1 → W p l e R s m args below meth c H1 (locs ++ L) c1 s1 Q (F0 m (pc + 3) ls (.int (iI r) :: rest)))
    (kx : ∀ (x : Addr) (E : String) (t : State) (H1 : Heap) (L : List Loc), Af s H free rm.cells t H1 → (∀ q ∈ L, free q.base) → TX E x s H1 → px E H1 → WX p l e R s m args below meth c H1 (locs ++ L) c1 s1 Q (F0 m pc ls rest) x) :
    KR p l e R s m args below meth c H locs cells slots Q rm free (QTR po px av) pc ls rest := by
  subst hc1
  subst hs1
  intro st0 t H1 L hst hA hL
  refine ⟨fun w hq => ?_, fun x hq => ?_⟩
  · rcases hq with ⟨r, e1, hp⟩ | ⟨x, E, e1, -⟩
    · cases e1
      exact k r t H1 L hA hL (by rw [← hst, ← hA.1]; exact hp)
    · cases e1
  · rcases hq with ⟨r, e1, -⟩ | ⟨y, E, e1, hX, hn⟩
    · cases e1
    · cases e1
      exact kx x E t H1 L hA hL (hX.back hA.2.1 hA.1) (by rw [← hA.1]; exact hn)
theorem krTV2 {po : Heap → Heap → Prop} {px : String → Prop} {av : Array Value} {c1 s1 : Nat} (hc1 : cells + rm.cells = c1) (hs1 : slots + rm.slots = s1)
    (k : ∀ (t : State) (H1 : Heap) (L : List Loc), Af s H free rm.cells t H1 → (∀ q ∈ L, free q.base) → po H H1 → W p l e R s m args below meth c H1 (locs ++ L) c1 s1 Q (F0 m (pc + 3) ls rest))
    (kx : ∀ (x : Addr) (E : String) (t : State) (H1 : Heap) (L : List Loc), Af s H free rm.cells t H1 → (∀ q ∈ L, free q.base) → TX E x s H1 → KE H H1 → px E → WX p l e R s m args below meth c H1 (locs ++ L) c1 s1 Q (F0 m pc ls rest) x) :
    KR p l e R s m args below meth c H locs cells slots Q rm free (QTV po px av) pc ls rest := by
  subst hc1
  subst hs1
  intro st0 t H1 L hst hA hL
  refine ⟨fun w hq => ?_, fun x hq => ?_⟩
  · rcases hq with ⟨e1, hp⟩ | ⟨x, E, e1, -⟩
    · cases e1
      exact k t H1 L hA hL (by rw [← hst, ← hA.1]; exact hp)
    · cases e1
  · rcases hq with ⟨e1, -⟩ | ⟨y, E, e1, hX, hk, hn⟩
    · cases e1
    · cases e1
      exact kx x E t H1 L hA hL (hX.back hA.2.1 hA.1) (by rw [← hst, ← hA.1]; exact hk) hn
/-- what a call of a catching method leaves -/
theorem krH {po : Int → Heap → Heap → Prop} {av : Array Value} {c1 s1 : Nat} (hc1 : cells + rm.cells = c1) (hs1 : slots + rm.slots = s1)
    (k : ∀ (r : Int) (t : State) (H1 : Heap) (L : List Loc), Af s H free rm.cells t H1 → (∀ q ∈ L, free q.base) → po r H H1 → W p l e R s m args below meth c H1 (locs ++ L) c1 s1 Q (F0 m (pc + 3) ls (.int (iI r) :: rest))) :
    KR p l e R s m args below meth c H locs cells slots Q rm free (QH po av) pc ls rest := by
  subst hc1
  subst hs1
  intro st0 t H1 L hst hA hL
  refine ⟨fun w hq => ?_, fun x hq => ?_⟩
  · obtain ⟨r, e1, hp⟩ := hq
    cases e1
    exact k r t H1 L hA hL (by rw [← hst, ← hA.1]; exact hp)
  · obtain ⟨r, e1, -⟩ := hq
    cases e1
theorem ih_iret {po : Int → Heap → Heap → Prop} {r : Int} {mc ms : Nat} (hx : p.tables.exec = Jvm.exec) (hb : c.code = cc) (hr : meth.sig.returnType = some .int) (hlocks : meth.locks = false) (hq : po r s.heap H) (hf : ∀ q ∈ locs, free q.base) (hc : cells ≤ mc) (hs : slots ≤ ms) (hd : decode cc pc = .ok (.ireturn, 1)) : W p l e R s m args below meth c H locs cells slots (XQ below (QH po) args s mc ms free) (F0 m pc ls [.int (iI r)]) :=
  W.widen hc hs (W.mono xq_of (W.iret (Qc := QH po) hx hb hr (fun t ht _ => ⟨r, rfl, by rw [ht]; exact hq⟩) hf hd hlocks))
/-- into the law's own cell -/
theorem iz_last1 {g : Nat → Int} {v : Int} (hx : p.tables.exec = Jvm.exec) (hb : c.code = cc) (hK : va_K (kD K) vcl (kTY K) s) (hP : va_P (kD K) vcl [(a, .inl (kL K, 1, .inr (.inl (lA g))))] H) (hd : decode cc pc = .ok (.lastore, 1))
    (kk : ∀ H1 : Heap, OB K a v H H1 → W p l e R s m args below meth c H1 (locs ++ [⟨a, (iI 0).toNatClampNeg⟩]) cells slots Q (F0 m (pc + 1) ls rest)) : W p l e R s m args below meth c H locs cells slots Q (F0 m pc ls (.long (lI v) :: .int (iI 0) :: .ref a :: rest)) := by
  refine W.last hx hb (hP 0 _ rfl) ((hK.2 1 _ rfl).1 1 (fun j => .long (lA g j))) (fun q => by cases q) (by show ¬ (iI 0 < 0 ∨ (arrV _ _ _).slots.size ≤ _); rw [arrV_size]; exact iI_in (a := 0) (n := 1) (by decide) (by decide) (by decide)) rfl rfl hd fun H1 e z oq => ?_
  refine kk H1 ⟨z, oq, va_P_a1 ?_⟩
  rw [← arrl_congr (f := ut g 0 v) (fun j hj => by rw [show j = 0 by omega, ut_s]), e, vp_cell_l]
  rw [vp_cell_l, arrV_store]
  congr 2
  funext q
  have hcl : (iI 0).toNatClampNeg = 0 := iI_k (k := 0) (by omega)
  rw [hcl]
  by_cases hq : q = 0
  · subst hq
    show _ = Value.long (lI (ut g 0 v 0))
    rw [ut_s]
    simp [updV]
  · show _ = Value.long (lI (ut g 0 v q))
    rw [ut_n _ _ hq]
    simp [updV, hq]
/-- out of the script -/
theorem iz_sld {sb L : Nat} {xs : Nat → Int32} (hx : p.tables.exec = Jvm.exec) (hb : c.code = cc) (hX : va_X sb L xs s H0) (hbl : sb < H0.size) (hbA : ¬ A sb) (hS : va_S A H0 H locs) {i : Int} (k : Nat) (hi : i = (k : Int)) (hk : k < L) (hL : L ≤ 2048) (hd : decode cc pc = .ok (.iaload, 1))
    (kk : W p l e R s m args below meth c H locs cells slots Q (F0 m (pc + 1) ls (.int (iI (xs k).toInt) :: rest))) : W p l e R s m args below meth c H locs cells slots Q (F0 m pc ls (.int (iI i) :: .ref sb :: rest)) := by
  subst hi
  refine va_sld hx hb hX hbl hbA hS (iI_in (by omega) (by omega) (by omega)) hd ?_
  rw [iI_k (by omega), iI_of (xs k)]
  exact kk
end LawRows
abbrev rmL_wall : Room := { frames := 9, cells := 3, slots := 18, locals := 200 }
set_option maxHeartbeats 4000000 in
set_option maxRecDepth 100000 in
/-- wall: what x answers, or what it throws -/
theorem c_L_wall (l : Launch) (htr : l.stackTraces = false) (K : KG) (z : Nat) (b wn j : Nat) (ar oc lc x1 x2 : Int) (h1 : r32 x1) (h2 : r32 x2) (hn : wn ≤ 12) (hj : wn < 12 → j = wn) (ob : Nat) (o9 : Nat → Int) (hob : ¬ (fun q => q = b ∨ q = b + 2 + 2 * j) ob) : Ct l yL_wall kL_wall rmL_wall (PX K z [.ref b, .int (iI x1), .int (iI x2), .ref ob] (fun H => (fun H => va_P (kD K) vcl [(b, .inr (0, [.ref (b + 1), .int (iI (wn : Int)), .ref (b + 26), .ref (b + 27), .ref (b + 98)])), (b + 2 + 2 * j, .inr (1, [.int (iI ar), .int (iI oc), .int (iI lc), .ref (b + 2 + 2 * j + 1)]))] H ∧ va_P (kD K) vcl [(b + 1, .inl (kW K, 12, .inr (.inr (.inr (.inr (fun i => some (b + 2 + 2 * i)))))))] H) H ∧ va_P (kD K) vcl [(ob, .inl (kL K, 1, .inr (.inl (lA o9))))] H)) (QH (fun r H0 H => (r = 0 ∧ ∃ (r9 v : Int) (H1 : Heap), (fun (r : Int) (_ H : Heap) => (((1 ≤ x1 ∧ x1 ≤ 1000) ∧ (1 ≤ x2 ∧ x2 ≤ 1000)) ∧ wn < 12) ∧ r = wn ∧ va_P (kD K) vcl [(b, .inr (0, [.ref (b + 1), .int (iI ((wn + 1 : Nat) : Int)), .ref (b + 26), .ref (b + 27), .ref (b + 98)])), (b + 2 + 2 * j, .inr (1, [.int (iI (x1 * x2)), .int (iI oc), .int (iI lc), .ref (b + 2 + 2 * j + 1)]))] H) r9 H0 H1 ∧ iI r9 = iI v ∧ r32 v ∧ OB K ob v H1 H) ∨ (r = 1 ∧ KE H0 H ∧ (fun E => (E = exA ∧ ¬ ((1 ≤ x1 ∧ x1 ≤ 1000) ∧ (1 ≤ x2 ∧ x2 ≤ 1000))) ∨ (E = exS ∧ ((1 ≤ x1 ∧ x1 ≤ 1000) ∧ (1 ≤ x2 ∧ x2 ≤ 1000)) ∧ ¬ wn < 12)) exA) ∨ (r = 2 ∧ KE H0 H ∧ (fun E => (E = exA ∧ ¬ ((1 ≤ x1 ∧ x1 ≤ 1000) ∧ (1 ≤ x2 ∧ x2 ≤ 1000))) ∨ (E = exS ∧ ((1 ≤ x1 ∧ x1 ≤ 1000) ∧ (1 ≤ x2 ∧ x2 ≤ 1000)) ∧ ¬ wn < 12)) exS))) (fun q => (fun q => q = b ∨ q = b + 2 + 2 * j) q ∨ q = ob) := by
  refine ct_of (by decide) (Or.inr rfl) ?_
  intro p e s m args below meth c B0 hP0
  obtain ⟨hx, hb, hr, hml, hown, hlocks, hnm, htab⟩ := B0
  obtain ⟨ha, hE, hB⟩ := hP0
  obtain ⟨hT, hK⟩ := hE.1
  have hl := lv_entry ([.ref b, .int (iI x1), .int (iI x2), .ref ob]) (n := 5) (Nat.le_of_ble_eq_true rfl)
  obtain ⟨Q, hQ⟩ : ∃ Q, Q = XQ below (QH (fun r H0 H => (r = 0 ∧ ∃ (r9 v : Int) (H1 : Heap), (fun (r : Int) (_ H : Heap) => (((1 ≤ x1 ∧ x1 ≤ 1000) ∧ (1 ≤ x2 ∧ x2 ≤ 1000)) ∧ wn < 12) ∧ r = wn ∧ va_P (kD K) vcl [(b, .inr (0, [.ref (b + 1), .int (iI ((wn + 1 : Nat) : Int)), .ref (b + 26), .ref (b + 27), .ref (b + 98)])), (b + 2 + 2 * j, .inr (1, [.int (iI (x1 * x2)), .int (iI oc), .int (iI lc), .ref (b + 2 + 2 * j + 1)]))] H) r9 H0 H1 ∧ iI r9 = iI v ∧ r32 v ∧ OB K ob v H1 H) ∨ (r = 1 ∧ KE H0 H ∧ (fun E => (E = exA ∧ ¬ ((1 ≤ x1 ∧ x1 ≤ 1000) ∧ (1 ≤ x2 ∧ x2 ≤ 1000))) ∨ (E = exS ∧ ((1 ≤ x1 ∧ x1 ≤ 1000) ∧ (1 ≤ x2 ∧ x2 ≤ 1000)) ∧ ¬ wn < 12)) exA) ∨ (r = 2 ∧ KE H0 H ∧ (fun E => (E = exA ∧ ¬ ((1 ≤ x1 ∧ x1 ≤ 1000) ∧ (1 ≤ x2 ∧ x2 ≤ 1000))) ∨ (E = exS ∧ ((1 ≤ x1 ∧ x1 ≤ 1000) ∧ (1 ≤ x2 ∧ x2 ≤ 1000)) ∧ ¬ wn < 12)) exS))) args s (rmL_wall).cells (rmL_wall).slots (fun q => (fun q => q = b ∨ q = b + 2 + 2 * j) q ∨ q = ob) := ⟨_, rfl⟩
  rw [← hQ, ha, lg_entry_eq]
  rw [ha] at hQ
  generalize (lg_sl ([.ref b, .int (iI x1), .int (iI x2), .ref ob]) ++ List.replicate (5 - (lg_sl ([.ref b, .int (iI x1), .int (iI x2), .ref ob])).length) Slot.unset).toArray = ls at hl ⊢
  generalize ([.ref b, .int (iI x1), .int (iI x2), .ref ob] : List Value).toArray = args at hQ ⊢
  have hts : ∀ w ∈ TW, w.before args s = true := fun w h => hT w h args
  have hl : lv_has ls 5 [(0, .ref b), (1, .int (iI x1)), (2, .int (iI x2)), (3, .ref ob)] := hl
  obtain ⟨A, hAe⟩ : ∃ A : Addr → Prop, A = (fun q => (fun q => q = b ∨ q = b + 2 + 2 * j) q ∨ q = ob) := ⟨_, rfl⟩
  rw [← hAe] at hQ
  have hS : va_S A s.heap s.heap [] := va_S.rf
  obtain ⟨hBx, hO⟩ := hB
  refine lv_aload_n hx hb dL_wall_0 rfl (lv_at hl 3 rfl) ?_
  refine iz_iconst hx hb dL_wall_1 ?_
  refine lv_aload_n hx hb dL_wall_2 rfl (lv_at hl 0 rfl) ?_
  refine lv_iload_n hx hb dL_wall_3 rfl (lv_at hl 1 rfl) ?_
  refine lv_iload_n hx hb dL_wall_4 rfl (lv_at hl 2 rfl) ?_
  refine ctV (n := 2) hx hb hml hown hT ⟨c_X_wall l htr K z b wn j ar oc lc x1 x2 h1 h2 hn hj, ⟨_, _, _, Or.inl ⟨rfl, rfl⟩⟩, mt_309, mt_1, by decide, by decide +kernel, by decide, by decide, by decide, by decide⟩ PX.blind mt_306 mt_307 mt_308 (va_RVof (ci := 0) (q0 := 0) hK hBx.1 rfl rfl) (As := [.int (iI x1), .int (iI x2)]) (rest := [.int (iI 0), .ref ob]) rfl (PX.at hE rfl hBx) hl.1 rfl (Nat.le_of_ble_eq_true rfl) dL_wall_5 (krTI (c1 := 3) (s1 := 18) rfl rfl (fun r9 t9 H L9 hA9 hL9 hpo => ?_) (fun x E t9 H L9 hA9 hL9 hTX hKE hpx => ?_))
  · replace hO : va_P (kD K) vcl [(ob, .inl (kL K, 1, .inr (.inl (lA o9))))] H := va_P_k1 hO (hA9.2.2.2.2 ob ((hO 0 _ rfl).lt) hob)
    obtain ⟨v, hv, ev⟩ := iI_ex (iI r9)
    rw [ev]
    refine iz_i2l hx hb ⟨by omega, by omega⟩ dL_wall_8 ?_
    refine iz_last1 hx hb hK hO dL_wall_9 (fun H2 hOB => ?_)
    refine lv_goto (tgt := 21) hx hb dL_wall_10 (by decide) ?_
    refine iz_iconst hx hb dL_wall_21 ?_
    rw [hQ]
    exact ih_iret hx hb hr hlocks (Or.inl ⟨rfl, r9, v, H, hpo, ev, hv, hOB⟩) (fun q hq => by rw [hAe]; rcases List.mem_append.mp hq with hq | hq; exact Or.inl (hL9 q (by simpa using hq)); exact Or.inr (by rw [List.mem_singleton.mp hq])) (by decide) (by decide) dL_wall_22
  · have hEE : E = exA ∨ E = exS := by rcases hpx with ⟨h, -⟩ | ⟨h, -⟩; exact Or.inl h; exact Or.inr h
    rcases hEE with rfl | rfl
    · refine wx_catch1 (E := exA) hown hT htab (by decide) (by decide) mt_304 mt_155 hTX ?_
      refine lv_astore (lv' := [(4, .ref x), (0, .ref b), (1, .int (iI x1)), (2, .int (iI x2)), (3, .ref ob)]) hx hb dL_wall_13 hl (by decide) rfl (fun ls hl => ?_)
      refine iz_iconst hx hb dL_wall_15 ?_
      rw [hQ]
      exact ih_iret hx hb hr hlocks (Or.inr (Or.inl ⟨rfl, hKE, hpx⟩)) (fun q hq => by rw [hAe]; exact Or.inl (hL9 q (by simpa using hq))) (by decide) (by decide) dL_wall_16
    · refine wx_catch2 (E := exS) hown hT htab (by decide) (by decide) (by decide) (by decide) mt_304 hE.2.2.2 mt_305 mt_319 hTX ?_
      refine lv_astore (lv' := [(4, .ref x), (0, .ref b), (1, .int (iI x1)), (2, .int (iI x2)), (3, .ref ob)]) hx hb dL_wall_17 hl (by decide) rfl (fun ls hl => ?_)
      refine iz_iconst hx hb dL_wall_19 ?_
      rw [hQ]
      exact ih_iret hx hb hr hlocks (Or.inr (Or.inr ⟨rfl, hKE, hpx⟩)) (fun q hq => by rw [hAe]; exact Or.inl (hL9 q (by simpa using hq))) (by decide) (by decide) dL_wall_20
abbrev rmL_opening : Room := { frames := 9, cells := 5, slots := 30, locals := 200 }
set_option maxHeartbeats 4000000 in
set_option maxRecDepth 100000 in
/-- opening: what x answers, or what it throws -/
theorem c_L_opening (l : Launch) (htr : l.stackTraces = false) (K : KG) (z : Nat) (b wn j : Nat) (ar oc lc x1 x2 x3 : Int) (h1 : r32 x1) (h2 : r32 x2) (h3 : r32 x3) (hn : wn ≤ 12) (hj : j < 12) (hjw : 0 ≤ x1 → x1 < wn → x1 = j) (har : r32 ar) (hoc : r32 oc) (ob : Nat) (o9 : Nat → Int) (hob : ¬ (fun q => q = b + 2 + 2 * j) ob) : Ct l yL_opening kL_opening rmL_opening (PX K z [.ref b, .int (iI x1), .int (iI x2), .int (iI x3), .ref ob] (fun H => (fun H => va_P (kD K) vcl [(b + 2 + 2 * j, .inr (1, [.int (iI ar), .int (iI oc), .int (iI lc), .ref (b + 2 + 2 * j + 1)]))] H ∧ va_P (kD K) vcl [(b, .inr (0, [.ref (b + 1), .int (iI (wn : Int)), .ref (b + 26), .ref (b + 27), .ref (b + 98)])), (b + 1, .inl (kW K, 12, .inr (.inr (.inr (.inr (fun i => some (b + 2 + 2 * i)))))))] H) H ∧ va_P (kD K) vcl [(ob, .inl (kL K, 1, .inr (.inl (lA o9))))] H)) (QH (fun r H0 H => (r = 0 ∧ ∃ (r9 v : Int) (H1 : Heap), (fun (r : Int) (_ H : Heap) => (((0 ≤ x1 ∧ x1 < wn) ∧ (1 ≤ x2 ∧ x2 ≤ 1000) ∧ (1 ≤ x3 ∧ x3 ≤ 1000)) ∧ (oc < 6 ∧ x2 * x3 ≤ ar)) ∧ r = ar - x2 * x3 ∧ va_P (kD K) vcl [(b + 2 + 2 * j, .inr (1, [.int (iI (ar - x2 * x3)), .int (iI (oc + 1)), .int (iI lc), .ref (b + 2 + 2 * j + 1)]))] H) r9 H0 H1 ∧ iI r9 = iI v ∧ r32 v ∧ OB K ob v H1 H) ∨ (r = 1 ∧ KE H0 H ∧ (fun E => (E = exA ∧ ¬ ((0 ≤ x1 ∧ x1 < wn) ∧ (1 ≤ x2 ∧ x2 ≤ 1000) ∧ (1 ≤ x3 ∧ x3 ≤ 1000))) ∨ (E = exS ∧ ((0 ≤ x1 ∧ x1 < wn) ∧ (1 ≤ x2 ∧ x2 ≤ 1000) ∧ (1 ≤ x3 ∧ x3 ≤ 1000)) ∧ ¬ (oc < 6 ∧ x2 * x3 ≤ ar))) exA) ∨ (r = 2 ∧ KE H0 H ∧ (fun E => (E = exA ∧ ¬ ((0 ≤ x1 ∧ x1 < wn) ∧ (1 ≤ x2 ∧ x2 ≤ 1000) ∧ (1 ≤ x3 ∧ x3 ≤ 1000))) ∨ (E = exS ∧ ((0 ≤ x1 ∧ x1 < wn) ∧ (1 ≤ x2 ∧ x2 ≤ 1000) ∧ (1 ≤ x3 ∧ x3 ≤ 1000)) ∧ ¬ (oc < 6 ∧ x2 * x3 ≤ ar))) exS))) (fun q => (fun q => q = b + 2 + 2 * j) q ∨ q = ob) := by
  refine ct_of (by decide) (Or.inr rfl) ?_
  intro p e s m args below meth c B0 hP0
  obtain ⟨hx, hb, hr, hml, hown, hlocks, hnm, htab⟩ := B0
  obtain ⟨ha, hE, hB⟩ := hP0
  obtain ⟨hT, hK⟩ := hE.1
  have hl := lv_entry ([.ref b, .int (iI x1), .int (iI x2), .int (iI x3), .ref ob]) (n := 6) (Nat.le_of_ble_eq_true rfl)
  obtain ⟨Q, hQ⟩ : ∃ Q, Q = XQ below (QH (fun r H0 H => (r = 0 ∧ ∃ (r9 v : Int) (H1 : Heap), (fun (r : Int) (_ H : Heap) => (((0 ≤ x1 ∧ x1 < wn) ∧ (1 ≤ x2 ∧ x2 ≤ 1000) ∧ (1 ≤ x3 ∧ x3 ≤ 1000)) ∧ (oc < 6 ∧ x2 * x3 ≤ ar)) ∧ r = ar - x2 * x3 ∧ va_P (kD K) vcl [(b + 2 + 2 * j, .inr (1, [.int (iI (ar - x2 * x3)), .int (iI (oc + 1)), .int (iI lc), .ref (b + 2 + 2 * j + 1)]))] H) r9 H0 H1 ∧ iI r9 = iI v ∧ r32 v ∧ OB K ob v H1 H) ∨ (r = 1 ∧ KE H0 H ∧ (fun E => (E = exA ∧ ¬ ((0 ≤ x1 ∧ x1 < wn) ∧ (1 ≤ x2 ∧ x2 ≤ 1000) ∧ (1 ≤ x3 ∧ x3 ≤ 1000))) ∨ (E = exS ∧ ((0 ≤ x1 ∧ x1 < wn) ∧ (1 ≤ x2 ∧ x2 ≤ 1000) ∧ (1 ≤ x3 ∧ x3 ≤ 1000)) ∧ ¬ (oc < 6 ∧ x2 * x3 ≤ ar))) exA) ∨ (r = 2 ∧ KE H0 H ∧ (fun E => (E = exA ∧ ¬ ((0 ≤ x1 ∧ x1 < wn) ∧ (1 ≤ x2 ∧ x2 ≤ 1000) ∧ (1 ≤ x3 ∧ x3 ≤ 1000))) ∨ (E = exS ∧ ((0 ≤ x1 ∧ x1 < wn) ∧ (1 ≤ x2 ∧ x2 ≤ 1000) ∧ (1 ≤ x3 ∧ x3 ≤ 1000)) ∧ ¬ (oc < 6 ∧ x2 * x3 ≤ ar))) exS))) args s (rmL_opening).cells (rmL_opening).slots (fun q => (fun q => q = b + 2 + 2 * j) q ∨ q = ob) := ⟨_, rfl⟩
  rw [← hQ, ha, lg_entry_eq]
  rw [ha] at hQ
  generalize (lg_sl ([.ref b, .int (iI x1), .int (iI x2), .int (iI x3), .ref ob]) ++ List.replicate (6 - (lg_sl ([.ref b, .int (iI x1), .int (iI x2), .int (iI x3), .ref ob])).length) Slot.unset).toArray = ls at hl ⊢
  generalize ([.ref b, .int (iI x1), .int (iI x2), .int (iI x3), .ref ob] : List Value).toArray = args at hQ ⊢
  have hts : ∀ w ∈ TW, w.before args s = true := fun w h => hT w h args
  have hl : lv_has ls 6 [(0, .ref b), (1, .int (iI x1)), (2, .int (iI x2)), (3, .int (iI x3)), (4, .ref ob)] := hl
  obtain ⟨A, hAe⟩ : ∃ A : Addr → Prop, A = (fun q => (fun q => q = b + 2 + 2 * j) q ∨ q = ob) := ⟨_, rfl⟩
  rw [← hAe] at hQ
  have hS : va_S A s.heap s.heap [] := va_S.rf
  obtain ⟨hBx, hO⟩ := hB
  refine lv_aload hx hb dL_opening_0 (lv_at hl 4 rfl) ?_
  refine iz_iconst hx hb dL_opening_2 ?_
  refine lv_aload_n hx hb dL_opening_3 rfl (lv_at hl 0 rfl) ?_
  refine lv_iload_n hx hb dL_opening_4 rfl (lv_at hl 1 rfl) ?_
  refine lv_iload_n hx hb dL_opening_5 rfl (lv_at hl 2 rfl) ?_
  refine lv_iload_n hx hb dL_opening_6 rfl (lv_at hl 3 rfl) ?_
  refine ctV (n := 3) hx hb hml hown hT ⟨c_X_opening l htr K z b wn j ar oc lc x1 x2 x3 h1 h2 h3 hn hj hjw har hoc, ⟨_, _, _, Or.inl ⟨rfl, rfl⟩⟩, mt_339, mt_1, by decide, by decide +kernel, by decide, by decide, by decide, by decide⟩ PX.blind mt_336 mt_337 mt_338 (va_RVof (ci := 0) (q0 := 0) hK hBx.2 rfl rfl) (As := [.int (iI x1), .int (iI x2), .int (iI x3)]) (rest := [.int (iI 0), .ref ob]) rfl (PX.at hE rfl hBx) hl.1 rfl (Nat.le_of_ble_eq_true rfl) dL_opening_7 (krTI (c1 := 5) (s1 := 30) rfl rfl (fun r9 t9 H L9 hA9 hL9 hpo => ?_) (fun x E t9 H L9 hA9 hL9 hTX hKE hpx => ?_))
  · replace hO : va_P (kD K) vcl [(ob, .inl (kL K, 1, .inr (.inl (lA o9))))] H := va_P_k1 hO (hA9.2.2.2.2 ob ((hO 0 _ rfl).lt) hob)
    obtain ⟨v, hv, ev⟩ := iI_ex (iI r9)
    rw [ev]
    refine iz_i2l hx hb ⟨by omega, by omega⟩ dL_opening_10 ?_
    refine iz_last1 hx hb hK hO dL_opening_11 (fun H2 hOB => ?_)
    refine lv_goto (tgt := 23) hx hb dL_opening_12 (by decide) ?_
    refine iz_iconst hx hb dL_opening_23 ?_
    rw [hQ]
    exact ih_iret hx hb hr hlocks (Or.inl ⟨rfl, r9, v, H, hpo, ev, hv, hOB⟩) (fun q hq => by rw [hAe]; rcases List.mem_append.mp hq with hq | hq; exact Or.inl (hL9 q (by simpa using hq)); exact Or.inr (by rw [List.mem_singleton.mp hq])) (by decide) (by decide) dL_opening_24
  · have hEE : E = exA ∨ E = exS := by rcases hpx with ⟨h, -⟩ | ⟨h, -⟩; exact Or.inl h; exact Or.inr h
    rcases hEE with rfl | rfl
    · refine wx_catch1 (E := exA) hown hT htab (by decide) (by decide) mt_304 mt_155 hTX ?_
      refine lv_astore (lv' := [(5, .ref x), (0, .ref b), (1, .int (iI x1)), (2, .int (iI x2)), (3, .int (iI x3)), (4, .ref ob)]) hx hb dL_opening_15 hl (by decide) rfl (fun ls hl => ?_)
      refine iz_iconst hx hb dL_opening_17 ?_
      rw [hQ]
      exact ih_iret hx hb hr hlocks (Or.inr (Or.inl ⟨rfl, hKE, hpx⟩)) (fun q hq => by rw [hAe]; exact Or.inl (hL9 q (by simpa using hq))) (by decide) (by decide) dL_opening_18
    · refine wx_catch2 (E := exS) hown hT htab (by decide) (by decide) (by decide) (by decide) mt_304 hE.2.2.2 mt_305 mt_319 hTX ?_
      refine lv_astore (lv' := [(5, .ref x), (0, .ref b), (1, .int (iI x1)), (2, .int (iI x2)), (3, .int (iI x3)), (4, .ref ob)]) hx hb dL_opening_19 hl (by decide) rfl (fun ls hl => ?_)
      refine iz_iconst hx hb dL_opening_21 ?_
      rw [hQ]
      exact ih_iret hx hb hr hlocks (Or.inr (Or.inr ⟨rfl, hKE, hpx⟩)) (fun q hq => by rw [hAe]; exact Or.inl (hL9 q (by simpa using hq))) (by decide) (by decide) dL_opening_22
abbrev rmL_layer : Room := { frames := 9, cells := 4, slots := 24, locals := 200 }
set_option maxHeartbeats 4000000 in
set_option maxRecDepth 100000 in
/-- layer: what x answers, or what it throws -/
theorem c_L_layer (l : Launch) (htr : l.stackTraces = false) (K : KG) (z : Nat) (b wn j k2 : Nat) (ar oc lc x1 x2 x3 : Int) (th : Nat → Int) (h1 : r32 x1) (h2 : r32 x2) (h3 : r32 x3) (hn : wn ≤ 12) (hj : j < 12) (hjw : 0 ≤ x1 → x1 < wn → x1 = j) (hk2 : 0 ≤ x2 → x2 < 10 → x2 = k2) (hlc : r32 lc) (ob : Nat) (o9 : Nat → Int) (hob : ¬ (fun q => q = b + 2 + 2 * j ∨ q = b + 2 + 2 * j + 1) ob) : Ct l yL_layer kL_layer rmL_layer (PX K z [.ref b, .int (iI x1), .int (iI x2), .int (iI x3), .ref ob] (fun H => (fun H => va_P (kD K) vcl [(b + 2 + 2 * j, .inr (1, [.int (iI ar), .int (iI oc), .int (iI lc), .ref (b + 2 + 2 * j + 1)])), (b + 2 + 2 * j + 1, .inl (kI K, 10, .inl (iA th)))] H ∧ va_P (kD K) vcl [(b, .inr (0, [.ref (b + 1), .int (iI (wn : Int)), .ref (b + 26), .ref (b + 27), .ref (b + 98)])), (b + 1, .inl (kW K, 12, .inr (.inr (.inr (.inr (fun i => some (b + 2 + 2 * i)))))))] H) H ∧ va_P (kD K) vcl [(ob, .inl (kL K, 1, .inr (.inl (lA o9))))] H)) (QH (fun r H0 H => (r = 0 ∧ ∃ (r9 v : Int) (H1 : Heap), (fun (r : Int) (_ H : Heap) => (((0 ≤ x1 ∧ x1 < wn) ∧ (0 ≤ x2 ∧ x2 < 10) ∧ (1 ≤ x3 ∧ x3 ≤ 500)) ∧ lc < 8) ∧ r = lc + 1 ∧ va_P (kD K) vcl [(b + 2 + 2 * j, .inr (1, [.int (iI ar), .int (iI oc), .int (iI (lc + 1)), .ref (b + 2 + 2 * j + 1)])), (b + 2 + 2 * j + 1, .inl (kI K, 10, .inl (iA (ut th k2 (th k2 + x3)))))] H) r9 H0 H1 ∧ iI r9 = iI v ∧ r32 v ∧ OB K ob v H1 H) ∨ (r = 1 ∧ KE H0 H ∧ (fun E => (E = exA ∧ ¬ ((0 ≤ x1 ∧ x1 < wn) ∧ (0 ≤ x2 ∧ x2 < 10) ∧ (1 ≤ x3 ∧ x3 ≤ 500))) ∨ (E = exS ∧ ((0 ≤ x1 ∧ x1 < wn) ∧ (0 ≤ x2 ∧ x2 < 10) ∧ (1 ≤ x3 ∧ x3 ≤ 500)) ∧ ¬ lc < 8)) exA) ∨ (r = 2 ∧ KE H0 H ∧ (fun E => (E = exA ∧ ¬ ((0 ≤ x1 ∧ x1 < wn) ∧ (0 ≤ x2 ∧ x2 < 10) ∧ (1 ≤ x3 ∧ x3 ≤ 500))) ∨ (E = exS ∧ ((0 ≤ x1 ∧ x1 < wn) ∧ (0 ≤ x2 ∧ x2 < 10) ∧ (1 ≤ x3 ∧ x3 ≤ 500)) ∧ ¬ lc < 8)) exS))) (fun q => (fun q => q = b + 2 + 2 * j ∨ q = b + 2 + 2 * j + 1) q ∨ q = ob) := by
  refine ct_of (by decide) (Or.inr rfl) ?_
  intro p e s m args below meth c B0 hP0
  obtain ⟨hx, hb, hr, hml, hown, hlocks, hnm, htab⟩ := B0
  obtain ⟨ha, hE, hB⟩ := hP0
  obtain ⟨hT, hK⟩ := hE.1
  have hl := lv_entry ([.ref b, .int (iI x1), .int (iI x2), .int (iI x3), .ref ob]) (n := 6) (Nat.le_of_ble_eq_true rfl)
  obtain ⟨Q, hQ⟩ : ∃ Q, Q = XQ below (QH (fun r H0 H => (r = 0 ∧ ∃ (r9 v : Int) (H1 : Heap), (fun (r : Int) (_ H : Heap) => (((0 ≤ x1 ∧ x1 < wn) ∧ (0 ≤ x2 ∧ x2 < 10) ∧ (1 ≤ x3 ∧ x3 ≤ 500)) ∧ lc < 8) ∧ r = lc + 1 ∧ va_P (kD K) vcl [(b + 2 + 2 * j, .inr (1, [.int (iI ar), .int (iI oc), .int (iI (lc + 1)), .ref (b + 2 + 2 * j + 1)])), (b + 2 + 2 * j + 1, .inl (kI K, 10, .inl (iA (ut th k2 (th k2 + x3)))))] H) r9 H0 H1 ∧ iI r9 = iI v ∧ r32 v ∧ OB K ob v H1 H) ∨ (r = 1 ∧ KE H0 H ∧ (fun E => (E = exA ∧ ¬ ((0 ≤ x1 ∧ x1 < wn) ∧ (0 ≤ x2 ∧ x2 < 10) ∧ (1 ≤ x3 ∧ x3 ≤ 500))) ∨ (E = exS ∧ ((0 ≤ x1 ∧ x1 < wn) ∧ (0 ≤ x2 ∧ x2 < 10) ∧ (1 ≤ x3 ∧ x3 ≤ 500)) ∧ ¬ lc < 8)) exA) ∨ (r = 2 ∧ KE H0 H ∧ (fun E => (E = exA ∧ ¬ ((0 ≤ x1 ∧ x1 < wn) ∧ (0 ≤ x2 ∧ x2 < 10) ∧ (1 ≤ x3 ∧ x3 ≤ 500))) ∨ (E = exS ∧ ((0 ≤ x1 ∧ x1 < wn) ∧ (0 ≤ x2 ∧ x2 < 10) ∧ (1 ≤ x3 ∧ x3 ≤ 500)) ∧ ¬ lc < 8)) exS))) args s (rmL_layer).cells (rmL_layer).slots (fun q => (fun q => q = b + 2 + 2 * j ∨ q = b + 2 + 2 * j + 1) q ∨ q = ob) := ⟨_, rfl⟩
  rw [← hQ, ha, lg_entry_eq]
  rw [ha] at hQ
  generalize (lg_sl ([.ref b, .int (iI x1), .int (iI x2), .int (iI x3), .ref ob]) ++ List.replicate (6 - (lg_sl ([.ref b, .int (iI x1), .int (iI x2), .int (iI x3), .ref ob])).length) Slot.unset).toArray = ls at hl ⊢
  generalize ([.ref b, .int (iI x1), .int (iI x2), .int (iI x3), .ref ob] : List Value).toArray = args at hQ ⊢
  have hts : ∀ w ∈ TW, w.before args s = true := fun w h => hT w h args
  have hl : lv_has ls 6 [(0, .ref b), (1, .int (iI x1)), (2, .int (iI x2)), (3, .int (iI x3)), (4, .ref ob)] := hl
  obtain ⟨A, hAe⟩ : ∃ A : Addr → Prop, A = (fun q => (fun q => q = b + 2 + 2 * j ∨ q = b + 2 + 2 * j + 1) q ∨ q = ob) := ⟨_, rfl⟩
  rw [← hAe] at hQ
  have hS : va_S A s.heap s.heap [] := va_S.rf
  obtain ⟨hBx, hO⟩ := hB
  refine lv_aload hx hb dL_layer_0 (lv_at hl 4 rfl) ?_
  refine iz_iconst hx hb dL_layer_2 ?_
  refine lv_aload_n hx hb dL_layer_3 rfl (lv_at hl 0 rfl) ?_
  refine lv_iload_n hx hb dL_layer_4 rfl (lv_at hl 1 rfl) ?_
  refine lv_iload_n hx hb dL_layer_5 rfl (lv_at hl 2 rfl) ?_
  refine lv_iload_n hx hb dL_layer_6 rfl (lv_at hl 3 rfl) ?_
  refine ctV (n := 3) hx hb hml hown hT ⟨c_X_layer l htr K z b wn j k2 ar oc lc x1 x2 x3 th h1 h2 h3 hn hj hjw hk2 hlc, ⟨_, _, _, Or.inl ⟨rfl, rfl⟩⟩, mt_347, mt_1, by decide, by decide +kernel, by decide, by decide, by decide, by decide⟩ PX.blind mt_344 mt_345 mt_346 (va_RVof (ci := 0) (q0 := 0) hK hBx.2 rfl rfl) (As := [.int (iI x1), .int (iI x2), .int (iI x3)]) (rest := [.int (iI 0), .ref ob]) rfl (PX.at hE rfl hBx) hl.1 rfl (Nat.le_of_ble_eq_true rfl) dL_layer_7 (krTI (c1 := 4) (s1 := 24) rfl rfl (fun r9 t9 H L9 hA9 hL9 hpo => ?_) (fun x E t9 H L9 hA9 hL9 hTX hKE hpx => ?_))
  · replace hO : va_P (kD K) vcl [(ob, .inl (kL K, 1, .inr (.inl (lA o9))))] H := va_P_k1 hO (hA9.2.2.2.2 ob ((hO 0 _ rfl).lt) hob)
    obtain ⟨v, hv, ev⟩ := iI_ex (iI r9)
    rw [ev]
    refine iz_i2l hx hb ⟨by omega, by omega⟩ dL_layer_10 ?_
    refine iz_last1 hx hb hK hO dL_layer_11 (fun H2 hOB => ?_)
    refine lv_goto (tgt := 23) hx hb dL_layer_12 (by decide) ?_
    refine iz_iconst hx hb dL_layer_23 ?_
    rw [hQ]
    exact ih_iret hx hb hr hlocks (Or.inl ⟨rfl, r9, v, H, hpo, ev, hv, hOB⟩) (fun q hq => by rw [hAe]; rcases List.mem_append.mp hq with hq | hq; exact Or.inl (hL9 q (by simpa using hq)); exact Or.inr (by rw [List.mem_singleton.mp hq])) (by decide) (by decide) dL_layer_24
  · have hEE : E = exA ∨ E = exS := by rcases hpx with ⟨h, -⟩ | ⟨h, -⟩; exact Or.inl h; exact Or.inr h
    rcases hEE with rfl | rfl
    · refine wx_catch1 (E := exA) hown hT htab (by decide) (by decide) mt_304 mt_155 hTX ?_
      refine lv_astore (lv' := [(5, .ref x), (0, .ref b), (1, .int (iI x1)), (2, .int (iI x2)), (3, .int (iI x3)), (4, .ref ob)]) hx hb dL_layer_15 hl (by decide) rfl (fun ls hl => ?_)
      refine iz_iconst hx hb dL_layer_17 ?_
      rw [hQ]
      exact ih_iret hx hb hr hlocks (Or.inr (Or.inl ⟨rfl, hKE, hpx⟩)) (fun q hq => by rw [hAe]; exact Or.inl (hL9 q (by simpa using hq))) (by decide) (by decide) dL_layer_18
    · refine wx_catch2 (E := exS) hown hT htab (by decide) (by decide) (by decide) (by decide) mt_304 hE.2.2.2 mt_305 mt_319 hTX ?_
      refine lv_astore (lv' := [(5, .ref x), (0, .ref b), (1, .int (iI x1)), (2, .int (iI x2)), (3, .int (iI x3)), (4, .ref ob)]) hx hb dL_layer_19 hl (by decide) rfl (fun ls hl => ?_)
      refine iz_iconst hx hb dL_layer_21 ?_
      rw [hQ]
      exact ih_iret hx hb hr hlocks (Or.inr (Or.inr ⟨rfl, hKE, hpx⟩)) (fun q hq => by rw [hAe]; exact Or.inl (hL9 q (by simpa using hq))) (by decide) (by decide) dL_layer_22
abbrev rmL_waste : Room := { frames := 9, cells := 2, slots := 12, locals := 200 }
set_option maxHeartbeats 4000000 in
set_option maxRecDepth 100000 in
/-- waste: what x answers, or what it throws -/
theorem c_L_waste (l : Launch) (htr : l.stackTraces = false) (K : KG) (z : Nat) (b wn k : Nat) (x1 x2 : Int) (wa : Nat → Int) (h1 : r32 x1) (h2 : r32 x2) (hk : 0 ≤ x1 → x1 < 10 → x1 = k) (ob : Nat) (o9 : Nat → Int) (hob : ¬ (fun q => q = b + 26) ob) : Ct l yL_waste kL_waste rmL_waste (PX K z [.ref b, .int (iI x1), .int (iI x2), .ref ob] (fun H => (fun H => va_P (kD K) vcl [(b + 26, .inl (kI K, 10, .inl (iA wa)))] H ∧ va_P (kD K) vcl [(b, .inr (0, [.ref (b + 1), .int (iI (wn : Int)), .ref (b + 26), .ref (b + 27), .ref (b + 98)]))] H) H ∧ va_P (kD K) vcl [(ob, .inl (kL K, 1, .inr (.inl (lA o9))))] H)) (QH (fun r H0 H => (r = 0 ∧ ∃ (r9 v : Int) (H1 : Heap), (fun (r : Int) (_ H : Heap) => ((0 ≤ x1 ∧ x1 < 10) ∧ (0 ≤ x2 ∧ x2 ≤ 100)) ∧ r = wa k ∧ va_P (kD K) vcl [(b + 26, .inl (kI K, 10, .inl (iA (ut wa k x2))))] H) r9 H0 H1 ∧ iI r9 = iI v ∧ r32 v ∧ OB K ob v H1 H) ∨ (r = 1 ∧ KE H0 H ∧ (fun E => E = exA ∧ ¬ ((0 ≤ x1 ∧ x1 < 10) ∧ (0 ≤ x2 ∧ x2 ≤ 100))) exA))) (fun q => (fun q => q = b + 26) q ∨ q = ob) := by
  refine ct_of (by decide) (Or.inr rfl) ?_
  intro p e s m args below meth c B0 hP0
  obtain ⟨hx, hb, hr, hml, hown, hlocks, hnm, htab⟩ := B0
  obtain ⟨ha, hE, hB⟩ := hP0
  obtain ⟨hT, hK⟩ := hE.1
  have hl := lv_entry ([.ref b, .int (iI x1), .int (iI x2), .ref ob]) (n := 5) (Nat.le_of_ble_eq_true rfl)
  obtain ⟨Q, hQ⟩ : ∃ Q, Q = XQ below (QH (fun r H0 H => (r = 0 ∧ ∃ (r9 v : Int) (H1 : Heap), (fun (r : Int) (_ H : Heap) => ((0 ≤ x1 ∧ x1 < 10) ∧ (0 ≤ x2 ∧ x2 ≤ 100)) ∧ r = wa k ∧ va_P (kD K) vcl [(b + 26, .inl (kI K, 10, .inl (iA (ut wa k x2))))] H) r9 H0 H1 ∧ iI r9 = iI v ∧ r32 v ∧ OB K ob v H1 H) ∨ (r = 1 ∧ KE H0 H ∧ (fun E => E = exA ∧ ¬ ((0 ≤ x1 ∧ x1 < 10) ∧ (0 ≤ x2 ∧ x2 ≤ 100))) exA))) args s (rmL_waste).cells (rmL_waste).slots (fun q => (fun q => q = b + 26) q ∨ q = ob) := ⟨_, rfl⟩
  rw [← hQ, ha, lg_entry_eq]
  rw [ha] at hQ
  generalize (lg_sl ([.ref b, .int (iI x1), .int (iI x2), .ref ob]) ++ List.replicate (5 - (lg_sl ([.ref b, .int (iI x1), .int (iI x2), .ref ob])).length) Slot.unset).toArray = ls at hl ⊢
  generalize ([.ref b, .int (iI x1), .int (iI x2), .ref ob] : List Value).toArray = args at hQ ⊢
  have hts : ∀ w ∈ TW, w.before args s = true := fun w h => hT w h args
  have hl : lv_has ls 5 [(0, .ref b), (1, .int (iI x1)), (2, .int (iI x2)), (3, .ref ob)] := hl
  obtain ⟨A, hAe⟩ : ∃ A : Addr → Prop, A = (fun q => (fun q => q = b + 26) q ∨ q = ob) := ⟨_, rfl⟩
  rw [← hAe] at hQ
  have hS : va_S A s.heap s.heap [] := va_S.rf
  obtain ⟨hBx, hO⟩ := hB
  refine lv_aload_n hx hb dL_waste_0 rfl (lv_at hl 3 rfl) ?_
  refine iz_iconst hx hb dL_waste_1 ?_
  refine lv_aload_n hx hb dL_waste_2 rfl (lv_at hl 0 rfl) ?_
  refine lv_iload_n hx hb dL_waste_3 rfl (lv_at hl 1 rfl) ?_
  refine lv_iload_n hx hb dL_waste_4 rfl (lv_at hl 2 rfl) ?_
  refine ctV (n := 2) hx hb hml hown hT ⟨c_X_waste l htr K z b wn k x1 x2 wa h1 h2 hk, ⟨_, _, _, Or.inl ⟨rfl, rfl⟩⟩, mt_354, mt_1, by decide, by decide +kernel, by decide, by decide, by decide, by decide⟩ PX.blind mt_351 mt_352 mt_353 (va_RVof (ci := 0) (q0 := 0) hK hBx.2 rfl rfl) (As := [.int (iI x1), .int (iI x2)]) (rest := [.int (iI 0), .ref ob]) rfl (PX.at hE rfl hBx) hl.1 rfl (Nat.le_of_ble_eq_true rfl) dL_waste_5 (krTI (c1 := 2) (s1 := 12) rfl rfl (fun r9 t9 H L9 hA9 hL9 hpo => ?_) (fun x E t9 H L9 hA9 hL9 hTX hKE hpx => ?_))
  · replace hO : va_P (kD K) vcl [(ob, .inl (kL K, 1, .inr (.inl (lA o9))))] H := va_P_k1 hO (hA9.2.2.2.2 ob ((hO 0 _ rfl).lt) hob)
    obtain ⟨v, hv, ev⟩ := iI_ex (iI r9)
    rw [ev]
    refine iz_i2l hx hb ⟨by omega, by omega⟩ dL_waste_8 ?_
    refine iz_last1 hx hb hK hO dL_waste_9 (fun H2 hOB => ?_)
    refine lv_goto (tgt := 17) hx hb dL_waste_10 (by decide) ?_
    refine iz_iconst hx hb dL_waste_17 ?_
    rw [hQ]
    exact ih_iret hx hb hr hlocks (Or.inl ⟨rfl, r9, v, H, hpo, ev, hv, hOB⟩) (fun q hq => by rw [hAe]; rcases List.mem_append.mp hq with hq | hq; exact Or.inl (hL9 q (by simpa using hq)); exact Or.inr (by rw [List.mem_singleton.mp hq])) (by decide) (by decide) dL_waste_18
  · have hEE : E = exA := hpx.1
    subst hEE
    refine wx_catch1 (E := exA) hown hT htab (by decide) (by decide) mt_304 mt_155 hTX ?_
    refine lv_astore (lv' := [(4, .ref x), (0, .ref b), (1, .int (iI x1)), (2, .int (iI x2)), (3, .ref ob)]) hx hb dL_waste_13 hl (by decide) rfl (fun ls hl => ?_)
    refine iz_iconst hx hb dL_waste_15 ?_
    rw [hQ]
    exact ih_iret hx hb hr hlocks (Or.inr ⟨rfl, hKE, hpx⟩) (fun q hq => by rw [hAe]; exact Or.inl (hL9 q (by simpa using hq))) (by decide) (by decide) dL_waste_16
abbrev rmL_told : Room := { frames := 9, cells := 2, slots := 12, locals := 200 }
set_option maxHeartbeats 4000000 in
set_option maxRecDepth 100000 in
/-- told: what x answers, or what it throws -/
theorem c_L_told (l : Launch) (htr : l.stackTraces = false) (K : KG) (z : Nat) (b wn j : Nat) (ar oc lc x1 x2 : Int) (th : Nat → Int) (h1 : r32 x1) (h2 : r32 x2) (hn : wn ≤ 12) (hj : j < 12) (hjw : 0 ≤ x1 → x1 < wn → x1 = j) (ob : Nat) (o9 : Nat → Int) (hob : ¬ (fun _ => False) ob) : Ct l yL_told kL_told rmL_told (PX K z [.ref b, .int (iI x1), .int (iI x2), .ref ob] (fun H => (fun H => va_P (kD K) vcl [(b, .inr (0, [.ref (b + 1), .int (iI (wn : Int)), .ref (b + 26), .ref (b + 27), .ref (b + 98)])), (b + 1, .inl (kW K, 12, .inr (.inr (.inr (.inr (fun i => some (b + 2 + 2 * i))))))), (b + 2 + 2 * j, .inr (1, [.int (iI ar), .int (iI oc), .int (iI lc), .ref (b + 2 + 2 * j + 1)])), (b + 2 + 2 * j + 1, .inl (kI K, 10, .inl (iA th)))] H) H ∧ va_P (kD K) vcl [(ob, .inl (kL K, 1, .inr (.inl (lA o9))))] H)) (QH (fun r H0 H => (r = 0 ∧ ∃ (r9 v : Int) (H1 : Heap), (fun (r : Int) (H0 H : Heap) => ((0 ≤ x1 ∧ x1 < wn) ∧ (0 ≤ x2 ∧ x2 ≤ 2)) ∧ H = H0 ∧ r = (if x2 = 0 then ar else if x2 = 1 then sm th 0 10 else oc)) r9 H0 H1 ∧ iI r9 = iI v ∧ r32 v ∧ OB K ob v H1 H) ∨ (r = 1 ∧ KE H0 H ∧ (fun E => E = exA ∧ ¬ ((0 ≤ x1 ∧ x1 < wn) ∧ (0 ≤ x2 ∧ x2 ≤ 2))) exA))) (fun q => (fun _ => False) q ∨ q = ob) := by
  refine ct_of (by decide) (Or.inr rfl) ?_
  intro p e s m args below meth c B0 hP0
  obtain ⟨hx, hb, hr, hml, hown, hlocks, hnm, htab⟩ := B0
  obtain ⟨ha, hE, hB⟩ := hP0
  obtain ⟨hT, hK⟩ := hE.1
  have hl := lv_entry ([.ref b, .int (iI x1), .int (iI x2), .ref ob]) (n := 5) (Nat.le_of_ble_eq_true rfl)
  obtain ⟨Q, hQ⟩ : ∃ Q, Q = XQ below (QH (fun r H0 H => (r = 0 ∧ ∃ (r9 v : Int) (H1 : Heap), (fun (r : Int) (H0 H : Heap) => ((0 ≤ x1 ∧ x1 < wn) ∧ (0 ≤ x2 ∧ x2 ≤ 2)) ∧ H = H0 ∧ r = (if x2 = 0 then ar else if x2 = 1 then sm th 0 10 else oc)) r9 H0 H1 ∧ iI r9 = iI v ∧ r32 v ∧ OB K ob v H1 H) ∨ (r = 1 ∧ KE H0 H ∧ (fun E => E = exA ∧ ¬ ((0 ≤ x1 ∧ x1 < wn) ∧ (0 ≤ x2 ∧ x2 ≤ 2))) exA))) args s (rmL_told).cells (rmL_told).slots (fun q => (fun _ => False) q ∨ q = ob) := ⟨_, rfl⟩
  rw [← hQ, ha, lg_entry_eq]
  rw [ha] at hQ
  generalize (lg_sl ([.ref b, .int (iI x1), .int (iI x2), .ref ob]) ++ List.replicate (5 - (lg_sl ([.ref b, .int (iI x1), .int (iI x2), .ref ob])).length) Slot.unset).toArray = ls at hl ⊢
  generalize ([.ref b, .int (iI x1), .int (iI x2), .ref ob] : List Value).toArray = args at hQ ⊢
  have hts : ∀ w ∈ TW, w.before args s = true := fun w h => hT w h args
  have hl : lv_has ls 5 [(0, .ref b), (1, .int (iI x1)), (2, .int (iI x2)), (3, .ref ob)] := hl
  obtain ⟨A, hAe⟩ : ∃ A : Addr → Prop, A = (fun q => (fun _ => False) q ∨ q = ob) := ⟨_, rfl⟩
  rw [← hAe] at hQ
  have hS : va_S A s.heap s.heap [] := va_S.rf
  obtain ⟨hBx, hO⟩ := hB
  refine lv_aload_n hx hb dL_told_0 rfl (lv_at hl 3 rfl) ?_
  refine iz_iconst hx hb dL_told_1 ?_
  refine lv_aload_n hx hb dL_told_2 rfl (lv_at hl 0 rfl) ?_
  refine lv_iload_n hx hb dL_told_3 rfl (lv_at hl 1 rfl) ?_
  refine lv_iload_n hx hb dL_told_4 rfl (lv_at hl 2 rfl) ?_
  refine ctV (n := 2) hx hb hml hown hT ⟨c_X_told l htr K z b wn j ar oc lc x1 x2 th h1 h2 hn hj hjw, ⟨_, _, _, Or.inl ⟨rfl, rfl⟩⟩, mt_361, mt_1, by decide, by decide +kernel, by decide, by decide, by decide, by decide⟩ PX.blind mt_358 mt_359 mt_360 (va_RVof (ci := 0) (q0 := 0) hK hBx rfl rfl) (As := [.int (iI x1), .int (iI x2)]) (rest := [.int (iI 0), .ref ob]) rfl (PX.at hE rfl hBx) hl.1 rfl (Nat.le_of_ble_eq_true rfl) dL_told_5 (krTI (c1 := 2) (s1 := 12) rfl rfl (fun r9 t9 H L9 hA9 hL9 hpo => ?_) (fun x E t9 H L9 hA9 hL9 hTX hKE hpx => ?_))
  · replace hO : va_P (kD K) vcl [(ob, .inl (kL K, 1, .inr (.inl (lA o9))))] H := va_P_k1 hO (hA9.2.2.2.2 ob ((hO 0 _ rfl).lt) hob)
    obtain ⟨v, hv, ev⟩ := iI_ex (iI r9)
    rw [ev]
    refine iz_i2l hx hb ⟨by omega, by omega⟩ dL_told_8 ?_
    refine iz_last1 hx hb hK hO dL_told_9 (fun H2 hOB => ?_)
    refine lv_goto (tgt := 17) hx hb dL_told_10 (by decide) ?_
    refine iz_iconst hx hb dL_told_17 ?_
    rw [hQ]
    exact ih_iret hx hb hr hlocks (Or.inl ⟨rfl, r9, v, H, hpo, ev, hv, hOB⟩) (fun q hq => by rw [hAe]; rcases List.mem_append.mp hq with hq | hq; exact Or.inl (hL9 q (by simpa using hq)); exact Or.inr (by rw [List.mem_singleton.mp hq])) (by decide) (by decide) dL_told_18
  · have hEE : E = exA := hpx.1
    subst hEE
    refine wx_catch1 (E := exA) hown hT htab (by decide) (by decide) mt_304 mt_155 hTX ?_
    refine lv_astore (lv' := [(4, .ref x), (0, .ref b), (1, .int (iI x1)), (2, .int (iI x2)), (3, .ref ob)]) hx hb dL_told_13 hl (by decide) rfl (fun ls hl => ?_)
    refine iz_iconst hx hb dL_told_15 ?_
    rw [hQ]
    exact ih_iret hx hb hr hlocks (Or.inr ⟨rfl, hKE, hpx⟩) (fun q hq => by rw [hAe]; exact Or.inl (hL9 q (by simpa using hq))) (by decide) (by decide) dL_told_16
abbrev rmL_need : Room := { frames := 9, cells := 1, slots := 6, locals := 200 }
set_option maxHeartbeats 4000000 in
set_option maxRecDepth 100000 in
/-- need: what x answers, or what it throws -/
theorem c_L_need (l : Launch) (htr : l.stackTraces = false) (K : KG) (z : Nat) (b wn k : Nat) (ar oc lc : Nat → Int) (th : Nat → Nat → Int) (wa : Nat → Int) (x1 : Int) (h1 : r32 x1) (hk : 0 ≤ x1 → x1 < 10 → x1 = k) (hW9 : WB wn ar oc lc th wa) (ob : Nat) (o9 : Nat → Int) (hob : ¬ (fun _ => False) ob) : Ct l yL_need kL_need rmL_need (PX K z [.ref b, .int (iI x1), .ref ob] (fun H => (fun H => va_P (kD K) vcl [(b, .inr (0, [.ref (b + 1), .int (iI (wn : Int)), .ref (b + 26), .ref (b + 27), .ref (b + 98)])), (b + 1, .inl (kW K, 12, .inr (.inr (.inr (.inr (fun i => some (b + 2 + 2 * i))))))), (b + 26, .inl (kI K, 10, .inl (iA wa)))] H ∧ (∀ i, i < 12 → va_P (kD K) vcl [(b + 2 + 2 * i, .inr (1, [.int (iI (ar i)), .int (iI (oc i)), .int (iI (lc i)), .ref (b + 2 + 2 * i + 1)])), (b + 2 + 2 * i + 1, .inl (kI K, 10, .inl (iA (th i))))] H)) H ∧ va_P (kD K) vcl [(ob, .inl (kL K, 1, .inr (.inl (lA o9))))] H)) (QH (fun r H0 H => (r = 0 ∧ ∃ (r9 v : Int) (H1 : Heap), (fun (r : Int) (H0 H : Heap) => (0 ≤ x1 ∧ x1 < 10) ∧ H = H0 ∧ r = ndX ar th wa wn k) r9 H0 H1 ∧ r9 = v ∧ OB K ob v H1 H) ∨ (r = 1 ∧ KE H0 H ∧ (fun E => E = exA ∧ ¬ (0 ≤ x1 ∧ x1 < 10)) exA))) (fun q => (fun _ => False) q ∨ q = ob) := by
  refine ct_of (by decide) (Or.inr rfl) ?_
  intro p e s m args below meth c B0 hP0
  obtain ⟨hx, hb, hr, hml, hown, hlocks, hnm, htab⟩ := B0
  obtain ⟨ha, hE, hB⟩ := hP0
  obtain ⟨hT, hK⟩ := hE.1
  have hl := lv_entry ([.ref b, .int (iI x1), .ref ob]) (n := 4) (Nat.le_of_ble_eq_true rfl)
  obtain ⟨Q, hQ⟩ : ∃ Q, Q = XQ below (QH (fun r H0 H => (r = 0 ∧ ∃ (r9 v : Int) (H1 : Heap), (fun (r : Int) (H0 H : Heap) => (0 ≤ x1 ∧ x1 < 10) ∧ H = H0 ∧ r = ndX ar th wa wn k) r9 H0 H1 ∧ r9 = v ∧ OB K ob v H1 H) ∨ (r = 1 ∧ KE H0 H ∧ (fun E => E = exA ∧ ¬ (0 ≤ x1 ∧ x1 < 10)) exA))) args s (rmL_need).cells (rmL_need).slots (fun q => (fun _ => False) q ∨ q = ob) := ⟨_, rfl⟩
  rw [← hQ, ha, lg_entry_eq]
  rw [ha] at hQ
  generalize (lg_sl ([.ref b, .int (iI x1), .ref ob]) ++ List.replicate (4 - (lg_sl ([.ref b, .int (iI x1), .ref ob])).length) Slot.unset).toArray = ls at hl ⊢
  generalize ([.ref b, .int (iI x1), .ref ob] : List Value).toArray = args at hQ ⊢
  have hts : ∀ w ∈ TW, w.before args s = true := fun w h => hT w h args
  have hl : lv_has ls 4 [(0, .ref b), (1, .int (iI x1)), (2, .ref ob)] := hl
  obtain ⟨A, hAe⟩ : ∃ A : Addr → Prop, A = (fun q => (fun _ => False) q ∨ q = ob) := ⟨_, rfl⟩
  rw [← hAe] at hQ
  have hS : va_S A s.heap s.heap [] := va_S.rf
  obtain ⟨hBx, hO⟩ := hB
  refine lv_aload_n hx hb dL_need_0 rfl (lv_at hl 2 rfl) ?_
  refine iz_iconst hx hb dL_need_1 ?_
  refine lv_aload_n hx hb dL_need_2 rfl (lv_at hl 0 rfl) ?_
  refine lv_iload_n hx hb dL_need_3 rfl (lv_at hl 1 rfl) ?_
  refine ctV (n := 1) hx hb hml hown hT ⟨c_X_need l htr K z b wn k ar oc lc th wa x1 h1 hk hW9, ⟨_, _, _, Or.inl ⟨rfl, rfl⟩⟩, mt_223, mt_1, by decide, by decide +kernel, by decide, by decide, by decide, by decide⟩ PX.blind mt_369 mt_221 mt_222 (va_RVof (ci := 0) (q0 := 0) hK hBx.1 rfl rfl) (As := [.int (iI x1)]) (rest := [.int (iI 0), .ref ob]) rfl (PX.at hE rfl hBx) hl.1 rfl (Nat.le_of_ble_eq_true rfl) dL_need_4 (krTL2 (c1 := 1) (s1 := 6) rfl rfl (fun r9 t9 H L9 hA9 hL9 hpo => ?_) (fun x E t9 H L9 hA9 hL9 hTX hKE hpx => ?_))
  · replace hO : va_P (kD K) vcl [(ob, .inl (kL K, 1, .inr (.inl (lA o9))))] H := va_P_k1 hO (hA9.2.2.2.2 ob ((hO 0 _ rfl).lt) hob)
    refine iz_last1 hx hb hK hO dL_need_7 (fun H2 hOB => ?_)
    refine lv_goto (tgt := 14) hx hb dL_need_8 (by decide) ?_
    refine iz_iconst hx hb dL_need_14 ?_
    rw [hQ]
    exact ih_iret hx hb hr hlocks (Or.inl ⟨rfl, r9, r9, H, hpo, rfl, hOB⟩) (fun q hq => by rw [hAe]; rcases List.mem_append.mp hq with hq | hq; exact Or.inl (hL9 q (by simpa using hq)); exact Or.inr (by rw [List.mem_singleton.mp hq])) (by decide) (by decide) dL_need_15
  · have hEE : E = exA := hpx.1
    subst hEE
    refine wx_catch1 (E := exA) hown hT htab (by decide) (by decide) mt_304 mt_155 hTX ?_
    refine lv_astore_n (lv' := [(3, .ref x), (0, .ref b), (1, .int (iI x1)), (2, .ref ob)]) hx hb dL_need_11 rfl hl (by decide) rfl (fun ls hl => ?_)
    refine iz_iconst hx hb dL_need_12 ?_
    rw [hQ]
    exact ih_iret hx hb hr hlocks (Or.inr ⟨rfl, hKE, hpx⟩) (fun q hq => by rw [hAe]; exact Or.inl (hL9 q (by simpa using hq))) (by decide) (by decide) dL_need_13
abbrev rmL_pack : Room := { frames := 9, cells := 4, slots := 24, locals := 200 }
set_option maxHeartbeats 4000000 in
set_option maxRecDepth 100000 in
/-- pack: what x answers, or what it throws -/
theorem c_L_pack (l : Launch) (htr : l.stackTraces = false) (K : KG) (z : Nat) (b wn j : Nat) (Kn : Nat) (mu pr bg ch tr bn : Nat → Int) (bp bc sf : Int) (x1 x2 x3 : Int) (h1 : r32 x1) (h2 : r32 x2) (h3 : r32 x3) (hj : j < 10) (hjs : 0 ≤ x1 → x1 < 10 → x1 = j) (hok : ShOK Kn mu pr bg ch) (ob : Nat) (o9 : Nat → Int) (hob : ¬ (fun q => b + 28 + 7 * j ≤ q ∧ q < b + 28 + 7 * j + 7) ob) : Ct l yL_pack kL_pack rmL_pack (PX K z [.ref b, .int (iI x1), .int (iI x2), .int (iI x3), .ref ob] (fun H => (fun H => va_P (kD K) vcl (shW K (b + 28 + 7 * j) (Kn : Int) mu pr bg ch tr bn bp bc sf) H ∧ va_P (kD K) vcl [(b, .inr (0, [.ref (b + 1), .int (iI (wn : Int)), .ref (b + 26), .ref (b + 27), .ref (b + 98)])), (b + 27, .inl (kS K, 10, .inr (.inr (.inr (.inr (fun i => some (b + 28 + 7 * i)))))))] H) H ∧ va_P (kD K) vcl [(ob, .inl (kL K, 1, .inr (.inl (lA o9))))] H)) (QH (fun r H0 H => (r = 0 ∧ ∃ (r9 v : Int) (H1 : Heap), (fun (r : Int) (_ H : Heap) => (((0 ≤ x1 ∧ x1 < 10) ∧ (1 ≤ x2 ∧ x2 ≤ 1000000000) ∧ (1 ≤ x3 ∧ x3 ≤ 100000)) ∧ Kn < 4) ∧ r = Kn ∧ ∃ (bg' ch' : Nat → Int), ShOK (Kn + 1) (ut mu Kn x2) (ut pr Kn x3) bg' ch' ∧ va_P (kD K) vcl (shW K (b + 28 + 7 * j) ((Kn + 1 : Nat) : Int) (ut mu Kn x2) (ut pr Kn x3) bg' ch' tr bn bp bc (-1)) H) r9 H0 H1 ∧ iI r9 = iI v ∧ r32 v ∧ OB K ob v H1 H) ∨ (r = 1 ∧ KE H0 H ∧ (fun E => (E = exA ∧ ¬ ((0 ≤ x1 ∧ x1 < 10) ∧ (1 ≤ x2 ∧ x2 ≤ 1000000000) ∧ (1 ≤ x3 ∧ x3 ≤ 100000))) ∨ (E = exS ∧ ((0 ≤ x1 ∧ x1 < 10) ∧ (1 ≤ x2 ∧ x2 ≤ 1000000000) ∧ (1 ≤ x3 ∧ x3 ≤ 100000)) ∧ ¬ Kn < 4)) exA) ∨ (r = 2 ∧ KE H0 H ∧ (fun E => (E = exA ∧ ¬ ((0 ≤ x1 ∧ x1 < 10) ∧ (1 ≤ x2 ∧ x2 ≤ 1000000000) ∧ (1 ≤ x3 ∧ x3 ≤ 100000))) ∨ (E = exS ∧ ((0 ≤ x1 ∧ x1 < 10) ∧ (1 ≤ x2 ∧ x2 ≤ 1000000000) ∧ (1 ≤ x3 ∧ x3 ≤ 100000)) ∧ ¬ Kn < 4)) exS))) (fun q => (fun q => b + 28 + 7 * j ≤ q ∧ q < b + 28 + 7 * j + 7) q ∨ q = ob) := by
  refine ct_of (by decide) (Or.inr rfl) ?_
  intro p e s m args below meth c B0 hP0
  obtain ⟨hx, hb, hr, hml, hown, hlocks, hnm, htab⟩ := B0
  obtain ⟨ha, hE, hB⟩ := hP0
  obtain ⟨hT, hK⟩ := hE.1
  have hl := lv_entry ([.ref b, .int (iI x1), .int (iI x2), .int (iI x3), .ref ob]) (n := 6) (Nat.le_of_ble_eq_true rfl)
  obtain ⟨Q, hQ⟩ : ∃ Q, Q = XQ below (QH (fun r H0 H => (r = 0 ∧ ∃ (r9 v : Int) (H1 : Heap), (fun (r : Int) (_ H : Heap) => (((0 ≤ x1 ∧ x1 < 10) ∧ (1 ≤ x2 ∧ x2 ≤ 1000000000) ∧ (1 ≤ x3 ∧ x3 ≤ 100000)) ∧ Kn < 4) ∧ r = Kn ∧ ∃ (bg' ch' : Nat → Int), ShOK (Kn + 1) (ut mu Kn x2) (ut pr Kn x3) bg' ch' ∧ va_P (kD K) vcl (shW K (b + 28 + 7 * j) ((Kn + 1 : Nat) : Int) (ut mu Kn x2) (ut pr Kn x3) bg' ch' tr bn bp bc (-1)) H) r9 H0 H1 ∧ iI r9 = iI v ∧ r32 v ∧ OB K ob v H1 H) ∨ (r = 1 ∧ KE H0 H ∧ (fun E => (E = exA ∧ ¬ ((0 ≤ x1 ∧ x1 < 10) ∧ (1 ≤ x2 ∧ x2 ≤ 1000000000) ∧ (1 ≤ x3 ∧ x3 ≤ 100000))) ∨ (E = exS ∧ ((0 ≤ x1 ∧ x1 < 10) ∧ (1 ≤ x2 ∧ x2 ≤ 1000000000) ∧ (1 ≤ x3 ∧ x3 ≤ 100000)) ∧ ¬ Kn < 4)) exA) ∨ (r = 2 ∧ KE H0 H ∧ (fun E => (E = exA ∧ ¬ ((0 ≤ x1 ∧ x1 < 10) ∧ (1 ≤ x2 ∧ x2 ≤ 1000000000) ∧ (1 ≤ x3 ∧ x3 ≤ 100000))) ∨ (E = exS ∧ ((0 ≤ x1 ∧ x1 < 10) ∧ (1 ≤ x2 ∧ x2 ≤ 1000000000) ∧ (1 ≤ x3 ∧ x3 ≤ 100000)) ∧ ¬ Kn < 4)) exS))) args s (rmL_pack).cells (rmL_pack).slots (fun q => (fun q => b + 28 + 7 * j ≤ q ∧ q < b + 28 + 7 * j + 7) q ∨ q = ob) := ⟨_, rfl⟩
  rw [← hQ, ha, lg_entry_eq]
  rw [ha] at hQ
  generalize (lg_sl ([.ref b, .int (iI x1), .int (iI x2), .int (iI x3), .ref ob]) ++ List.replicate (6 - (lg_sl ([.ref b, .int (iI x1), .int (iI x2), .int (iI x3), .ref ob])).length) Slot.unset).toArray = ls at hl ⊢
  generalize ([.ref b, .int (iI x1), .int (iI x2), .int (iI x3), .ref ob] : List Value).toArray = args at hQ ⊢
  have hts : ∀ w ∈ TW, w.before args s = true := fun w h => hT w h args
  have hl : lv_has ls 6 [(0, .ref b), (1, .int (iI x1)), (2, .int (iI x2)), (3, .int (iI x3)), (4, .ref ob)] := hl
  obtain ⟨A, hAe⟩ : ∃ A : Addr → Prop, A = (fun q => (fun q => b + 28 + 7 * j ≤ q ∧ q < b + 28 + 7 * j + 7) q ∨ q = ob) := ⟨_, rfl⟩
  rw [← hAe] at hQ
  have hS : va_S A s.heap s.heap [] := va_S.rf
  obtain ⟨hBx, hO⟩ := hB
  refine lv_aload hx hb dL_pack_0 (lv_at hl 4 rfl) ?_
  refine iz_iconst hx hb dL_pack_2 ?_
  refine lv_aload_n hx hb dL_pack_3 rfl (lv_at hl 0 rfl) ?_
  refine lv_iload_n hx hb dL_pack_4 rfl (lv_at hl 1 rfl) ?_
  refine lv_iload_n hx hb dL_pack_5 rfl (lv_at hl 2 rfl) ?_
  refine lv_iload_n hx hb dL_pack_6 rfl (lv_at hl 3 rfl) ?_
  refine ctV (n := 3) hx hb hml hown hT ⟨c_X_pack l htr K z b wn j Kn mu pr bg ch tr bn bp bc sf x1 x2 x3 h1 h2 h3 hj hjs hok, ⟨_, _, _, Or.inl ⟨rfl, rfl⟩⟩, mt_376, mt_1, by decide, by decide +kernel, by decide, by decide, by decide, by decide⟩ PX.blind mt_373 mt_374 mt_375 (va_RVof (ci := 0) (q0 := 0) hK hBx.2 rfl rfl) (As := [.int (iI x1), .int (iI x2), .int (iI x3)]) (rest := [.int (iI 0), .ref ob]) rfl (PX.at hE rfl hBx) hl.1 rfl (Nat.le_of_ble_eq_true rfl) dL_pack_7 (krTI (c1 := 4) (s1 := 24) rfl rfl (fun r9 t9 H L9 hA9 hL9 hpo => ?_) (fun x E t9 H L9 hA9 hL9 hTX hKE hpx => ?_))
  · replace hO : va_P (kD K) vcl [(ob, .inl (kL K, 1, .inr (.inl (lA o9))))] H := va_P_k1 hO (hA9.2.2.2.2 ob ((hO 0 _ rfl).lt) hob)
    obtain ⟨v, hv, ev⟩ := iI_ex (iI r9)
    rw [ev]
    refine iz_i2l hx hb ⟨by omega, by omega⟩ dL_pack_10 ?_
    refine iz_last1 hx hb hK hO dL_pack_11 (fun H2 hOB => ?_)
    refine lv_goto (tgt := 23) hx hb dL_pack_12 (by decide) ?_
    refine iz_iconst hx hb dL_pack_23 ?_
    rw [hQ]
    exact ih_iret hx hb hr hlocks (Or.inl ⟨rfl, r9, v, H, hpo, ev, hv, hOB⟩) (fun q hq => by rw [hAe]; rcases List.mem_append.mp hq with hq | hq; exact Or.inl (hL9 q (by simpa using hq)); exact Or.inr (by rw [List.mem_singleton.mp hq])) (by decide) (by decide) dL_pack_24
  · have hEE : E = exA ∨ E = exS := by rcases hpx with ⟨h, -⟩ | ⟨h, -⟩; exact Or.inl h; exact Or.inr h
    rcases hEE with rfl | rfl
    · refine wx_catch1 (E := exA) hown hT htab (by decide) (by decide) mt_304 mt_155 hTX ?_
      refine lv_astore (lv' := [(5, .ref x), (0, .ref b), (1, .int (iI x1)), (2, .int (iI x2)), (3, .int (iI x3)), (4, .ref ob)]) hx hb dL_pack_15 hl (by decide) rfl (fun ls hl => ?_)
      refine iz_iconst hx hb dL_pack_17 ?_
      rw [hQ]
      exact ih_iret hx hb hr hlocks (Or.inr (Or.inl ⟨rfl, hKE, hpx⟩)) (fun q hq => by rw [hAe]; exact Or.inl (hL9 q (by simpa using hq))) (by decide) (by decide) dL_pack_18
    · refine wx_catch2 (E := exS) hown hT htab (by decide) (by decide) (by decide) (by decide) mt_304 hE.2.2.2 mt_305 mt_319 hTX ?_
      refine lv_astore (lv' := [(5, .ref x), (0, .ref b), (1, .int (iI x1)), (2, .int (iI x2)), (3, .int (iI x3)), (4, .ref ob)]) hx hb dL_pack_19 hl (by decide) rfl (fun ls hl => ?_)
      refine iz_iconst hx hb dL_pack_21 ?_
      rw [hQ]
      exact ih_iret hx hb hr hlocks (Or.inr (Or.inr ⟨rfl, hKE, hpx⟩)) (fun q hq => by rw [hAe]; exact Or.inl (hL9 q (by simpa using hq))) (by decide) (by decide) dL_pack_22
abbrev rmL_bought : Room := { frames := 17, cells := 3, slots := 18, locals := 960 }
set_option maxHeartbeats 4000000 in
set_option maxRecDepth 100000 in
/-- bought: what x answers, or what it throws -/
theorem c_L_bought (l : Launch) (htr : l.stackTraces = false) (K : KG) (z : Nat) (b wn j k2 : Nat) (ar oc lc : Nat → Int) (th : Nat → Nat → Int) (wa : Nat → Int) (Kn : Nat) (mu pr bg ch tr bn : Nat → Int) (bp bc sf : Int) (x1 x2 : Int) (h1 : r32 x1) (h2 : r32 x2) (hj : j < 10) (hjs : 0 ≤ x1 → x1 < 10 → x1 = j) (hk2 : 0 ≤ x2 → x2 < Kn → x2 = k2) (hW9 : WB wn ar oc lc th wa) (hI : ShI Kn mu pr bg ch bn bp bc sf) (ob : Nat) (o9 : Nat → Int) (hob : ¬ (fun q => b + 28 + 7 * j ≤ q ∧ q < b + 28 + 7 * j + 7) ob) : Ct l yL_bought kL_bought rmL_bought (PX K z [.ref b, .int (iI x1), .int (iI x2), .ref ob] (fun H => (fun H => va_P (kD K) vcl (shW K (b + 28 + 7 * j) (Kn : Int) mu pr bg ch tr bn bp bc sf) H ∧ va_P (kD K) vcl [(b, .inr (0, [.ref (b + 1), .int (iI (wn : Int)), .ref (b + 26), .ref (b + 27), .ref (b + 98)])), (b + 1, .inl (kW K, 12, .inr (.inr (.inr (.inr (fun i => some (b + 2 + 2 * i))))))), (b + 26, .inl (kI K, 10, .inl (iA wa))), (b + 27, .inl (kS K, 10, .inr (.inr (.inr (.inr (fun i => some (b + 28 + 7 * i)))))))] H ∧ (∀ i, i < 12 → va_P (kD K) vcl [(b + 2 + 2 * i, .inr (1, [.int (iI (ar i)), .int (iI (oc i)), .int (iI (lc i)), .ref (b + 2 + 2 * i + 1)])), (b + 2 + 2 * i + 1, .inl (kI K, 10, .inl (iA (th i))))] H)) H ∧ va_P (kD K) vcl [(ob, .inl (kL K, 1, .inr (.inl (lA o9))))] H)) (QH (fun r H0 H => (r = 0 ∧ ∃ (r9 v : Int) (H1 : Heap), (fun (r : Int) (_ H : Heap) => ((0 ≤ x1 ∧ x1 < 10) ∧ (0 ≤ x2 ∧ x2 < Kn)) ∧ ((r = -1 ∧ ∀ n, ¬ py_F mu 0 Kn (ndX ar th wa wn j) 0 n) ∨ ∃ n, py_Best mu pr Kn (ndX ar th wa wn j) n ∧ r = n k2) ∧ ∃ (tr' bn' : Nat → Int) (bp' bc' : Int), ShI Kn mu pr bg ch bn' bp' bc' (ndX ar th wa wn j) ∧ va_P (kD K) vcl (shW K (b + 28 + 7 * j) (Kn : Int) mu pr bg ch tr' bn' bp' bc' (ndX ar th wa wn j)) H) r9 H0 H1 ∧ iI r9 = iI v ∧ r32 v ∧ OB K ob v H1 H) ∨ (r = 1 ∧ KE H0 H ∧ (fun E => E = exA ∧ ¬ ((0 ≤ x1 ∧ x1 < 10) ∧ (0 ≤ x2 ∧ x2 < Kn))) exA))) (fun q => (fun q => b + 28 + 7 * j ≤ q ∧ q < b + 28 + 7 * j + 7) q ∨ q = ob) := by
  refine ct_of (by decide) (Or.inr rfl) ?_
  intro p e s m args below meth c B0 hP0
  obtain ⟨hx, hb, hr, hml, hown, hlocks, hnm, htab⟩ := B0
  obtain ⟨ha, hE, hB⟩ := hP0
  obtain ⟨hT, hK⟩ := hE.1
  have hl := lv_entry ([.ref b, .int (iI x1), .int (iI x2), .ref ob]) (n := 5) (Nat.le_of_ble_eq_true rfl)
  obtain ⟨Q, hQ⟩ : ∃ Q, Q = XQ below (QH (fun r H0 H => (r = 0 ∧ ∃ (r9 v : Int) (H1 : Heap), (fun (r : Int) (_ H : Heap) => ((0 ≤ x1 ∧ x1 < 10) ∧ (0 ≤ x2 ∧ x2 < Kn)) ∧ ((r = -1 ∧ ∀ n, ¬ py_F mu 0 Kn (ndX ar th wa wn j) 0 n) ∨ ∃ n, py_Best mu pr Kn (ndX ar th wa wn j) n ∧ r = n k2) ∧ ∃ (tr' bn' : Nat → Int) (bp' bc' : Int), ShI Kn mu pr bg ch bn' bp' bc' (ndX ar th wa wn j) ∧ va_P (kD K) vcl (shW K (b + 28 + 7 * j) (Kn : Int) mu pr bg ch tr' bn' bp' bc' (ndX ar th wa wn j)) H) r9 H0 H1 ∧ iI r9 = iI v ∧ r32 v ∧ OB K ob v H1 H) ∨ (r = 1 ∧ KE H0 H ∧ (fun E => E = exA ∧ ¬ ((0 ≤ x1 ∧ x1 < 10) ∧ (0 ≤ x2 ∧ x2 < Kn))) exA))) args s (rmL_bought).cells (rmL_bought).slots (fun q => (fun q => b + 28 + 7 * j ≤ q ∧ q < b + 28 + 7 * j + 7) q ∨ q = ob) := ⟨_, rfl⟩
  rw [← hQ, ha, lg_entry_eq]
  rw [ha] at hQ
  generalize (lg_sl ([.ref b, .int (iI x1), .int (iI x2), .ref ob]) ++ List.replicate (5 - (lg_sl ([.ref b, .int (iI x1), .int (iI x2), .ref ob])).length) Slot.unset).toArray = ls at hl ⊢
  generalize ([.ref b, .int (iI x1), .int (iI x2), .ref ob] : List Value).toArray = args at hQ ⊢
  have hts : ∀ w ∈ TW, w.before args s = true := fun w h => hT w h args
  have hl : lv_has ls 5 [(0, .ref b), (1, .int (iI x1)), (2, .int (iI x2)), (3, .ref ob)] := hl
  obtain ⟨A, hAe⟩ : ∃ A : Addr → Prop, A = (fun q => (fun q => b + 28 + 7 * j ≤ q ∧ q < b + 28 + 7 * j + 7) q ∨ q = ob) := ⟨_, rfl⟩
  rw [← hAe] at hQ
  have hS : va_S A s.heap s.heap [] := va_S.rf
  obtain ⟨hBx, hO⟩ := hB
  refine lv_aload_n hx hb dL_bought_0 rfl (lv_at hl 3 rfl) ?_
  refine iz_iconst hx hb dL_bought_1 ?_
  refine lv_aload_n hx hb dL_bought_2 rfl (lv_at hl 0 rfl) ?_
  refine lv_iload_n hx hb dL_bought_3 rfl (lv_at hl 1 rfl) ?_
  refine lv_iload_n hx hb dL_bought_4 rfl (lv_at hl 2 rfl) ?_
  refine ctV (n := 2) hx hb hml hown hT ⟨c_X_bought l htr K z b wn j k2 ar oc lc th wa Kn mu pr bg ch tr bn bp bc sf x1 x2 h1 h2 hj hjs hk2 hW9 hI, ⟨_, _, _, Or.inl ⟨rfl, rfl⟩⟩, mt_393, mt_1, by decide, by decide +kernel, by decide, by decide, by decide, by decide⟩ PX.blind mt_390 mt_391 mt_392 (va_RVof (ci := 0) (q0 := 0) hK hBx.2.1 rfl rfl) (As := [.int (iI x1), .int (iI x2)]) (rest := [.int (iI 0), .ref ob]) rfl (PX.at hE rfl hBx) hl.1 rfl (Nat.le_of_ble_eq_true rfl) dL_bought_5 (krTI (c1 := 3) (s1 := 18) rfl rfl (fun r9 t9 H L9 hA9 hL9 hpo => ?_) (fun x E t9 H L9 hA9 hL9 hTX hKE hpx => ?_))
  · replace hO : va_P (kD K) vcl [(ob, .inl (kL K, 1, .inr (.inl (lA o9))))] H := va_P_k1 hO (hA9.2.2.2.2 ob ((hO 0 _ rfl).lt) hob)
    obtain ⟨v, hv, ev⟩ := iI_ex (iI r9)
    rw [ev]
    refine iz_i2l hx hb ⟨by omega, by omega⟩ dL_bought_8 ?_
    refine iz_last1 hx hb hK hO dL_bought_9 (fun H2 hOB => ?_)
    refine lv_goto (tgt := 17) hx hb dL_bought_10 (by decide) ?_
    refine iz_iconst hx hb dL_bought_17 ?_
    rw [hQ]
    exact ih_iret hx hb hr hlocks (Or.inl ⟨rfl, r9, v, H, hpo, ev, hv, hOB⟩) (fun q hq => by rw [hAe]; rcases List.mem_append.mp hq with hq | hq; exact Or.inl (hL9 q (by simpa using hq)); exact Or.inr (by rw [List.mem_singleton.mp hq])) (by decide) (by decide) dL_bought_18
  · have hEE : E = exA := hpx.1
    subst hEE
    refine wx_catch1 (E := exA) hown hT htab (by decide) (by decide) mt_304 mt_155 hTX ?_
    refine lv_astore (lv' := [(4, .ref x), (0, .ref b), (1, .int (iI x1)), (2, .int (iI x2)), (3, .ref ob)]) hx hb dL_bought_13 hl (by decide) rfl (fun ls hl => ?_)
    refine iz_iconst hx hb dL_bought_15 ?_
    rw [hQ]
    exact ih_iret hx hb hr hlocks (Or.inr ⟨rfl, hKE, hpx⟩) (fun q hq => by rw [hAe]; exact Or.inl (hL9 q (by simpa using hq))) (by decide) (by decide) dL_bought_16
abbrev rmL_cents : Room := { frames := 17, cells := 2, slots := 12, locals := 960 }
set_option maxHeartbeats 4000000 in
set_option maxRecDepth 100000 in
/-- cents: what x answers, or what it throws -/
theorem c_L_cents (l : Launch) (htr : l.stackTraces = false) (K : KG) (z : Nat) (b wn j : Nat) (ar oc lc : Nat → Int) (th : Nat → Nat → Int) (wa : Nat → Int) (Kn : Nat) (mu pr bg ch tr bn : Nat → Int) (bp bc sf : Int) (x1 : Int) (h1 : r32 x1) (hj : j < 10) (hjs : 0 ≤ x1 → x1 < 10 → x1 = j) (hW9 : WB wn ar oc lc th wa) (hI : ShI Kn mu pr bg ch bn bp bc sf) (ob : Nat) (o9 : Nat → Int) (hob : ¬ (fun q => b + 28 + 7 * j ≤ q ∧ q < b + 28 + 7 * j + 7) ob) : Ct l yL_cents kL_cents rmL_cents (PX K z [.ref b, .int (iI x1), .ref ob] (fun H => (fun H => va_P (kD K) vcl (shW K (b + 28 + 7 * j) (Kn : Int) mu pr bg ch tr bn bp bc sf) H ∧ va_P (kD K) vcl [(b, .inr (0, [.ref (b + 1), .int (iI (wn : Int)), .ref (b + 26), .ref (b + 27), .ref (b + 98)])), (b + 1, .inl (kW K, 12, .inr (.inr (.inr (.inr (fun i => some (b + 2 + 2 * i))))))), (b + 26, .inl (kI K, 10, .inl (iA wa))), (b + 27, .inl (kS K, 10, .inr (.inr (.inr (.inr (fun i => some (b + 28 + 7 * i)))))))] H ∧ (∀ i, i < 12 → va_P (kD K) vcl [(b + 2 + 2 * i, .inr (1, [.int (iI (ar i)), .int (iI (oc i)), .int (iI (lc i)), .ref (b + 2 + 2 * i + 1)])), (b + 2 + 2 * i + 1, .inl (kI K, 10, .inl (iA (th i))))] H)) H ∧ va_P (kD K) vcl [(ob, .inl (kL K, 1, .inr (.inl (lA o9))))] H)) (QH (fun r H0 H => (r = 0 ∧ ∃ (r9 v : Int) (H1 : Heap), (fun (r : Int) (_ H : Heap) => (0 ≤ x1 ∧ x1 < 10) ∧ ((r = -1 ∧ ∀ n, ¬ py_F mu 0 Kn (ndX ar th wa wn j) 0 n) ∨ ∃ n, py_Best mu pr Kn (ndX ar th wa wn j) n ∧ r = py_co pr n 0 Kn) ∧ ∃ (tr' bn' : Nat → Int) (bp' bc' : Int), ShI Kn mu pr bg ch bn' bp' bc' (ndX ar th wa wn j) ∧ va_P (kD K) vcl (shW K (b + 28 + 7 * j) (Kn : Int) mu pr bg ch tr' bn' bp' bc' (ndX ar th wa wn j)) H) r9 H0 H1 ∧ r9 = v ∧ OB K ob v H1 H) ∨ (r = 1 ∧ KE H0 H ∧ (fun E => E = exA ∧ ¬ (0 ≤ x1 ∧ x1 < 10)) exA))) (fun q => (fun q => b + 28 + 7 * j ≤ q ∧ q < b + 28 + 7 * j + 7) q ∨ q = ob) := by
  refine ct_of (by decide) (Or.inr rfl) ?_
  intro p e s m args below meth c B0 hP0
  obtain ⟨hx, hb, hr, hml, hown, hlocks, hnm, htab⟩ := B0
  obtain ⟨ha, hE, hB⟩ := hP0
  obtain ⟨hT, hK⟩ := hE.1
  have hl := lv_entry ([.ref b, .int (iI x1), .ref ob]) (n := 4) (Nat.le_of_ble_eq_true rfl)
  obtain ⟨Q, hQ⟩ : ∃ Q, Q = XQ below (QH (fun r H0 H => (r = 0 ∧ ∃ (r9 v : Int) (H1 : Heap), (fun (r : Int) (_ H : Heap) => (0 ≤ x1 ∧ x1 < 10) ∧ ((r = -1 ∧ ∀ n, ¬ py_F mu 0 Kn (ndX ar th wa wn j) 0 n) ∨ ∃ n, py_Best mu pr Kn (ndX ar th wa wn j) n ∧ r = py_co pr n 0 Kn) ∧ ∃ (tr' bn' : Nat → Int) (bp' bc' : Int), ShI Kn mu pr bg ch bn' bp' bc' (ndX ar th wa wn j) ∧ va_P (kD K) vcl (shW K (b + 28 + 7 * j) (Kn : Int) mu pr bg ch tr' bn' bp' bc' (ndX ar th wa wn j)) H) r9 H0 H1 ∧ r9 = v ∧ OB K ob v H1 H) ∨ (r = 1 ∧ KE H0 H ∧ (fun E => E = exA ∧ ¬ (0 ≤ x1 ∧ x1 < 10)) exA))) args s (rmL_cents).cells (rmL_cents).slots (fun q => (fun q => b + 28 + 7 * j ≤ q ∧ q < b + 28 + 7 * j + 7) q ∨ q = ob) := ⟨_, rfl⟩
  rw [← hQ, ha, lg_entry_eq]
  rw [ha] at hQ
  generalize (lg_sl ([.ref b, .int (iI x1), .ref ob]) ++ List.replicate (4 - (lg_sl ([.ref b, .int (iI x1), .ref ob])).length) Slot.unset).toArray = ls at hl ⊢
  generalize ([.ref b, .int (iI x1), .ref ob] : List Value).toArray = args at hQ ⊢
  have hts : ∀ w ∈ TW, w.before args s = true := fun w h => hT w h args
  have hl : lv_has ls 4 [(0, .ref b), (1, .int (iI x1)), (2, .ref ob)] := hl
  obtain ⟨A, hAe⟩ : ∃ A : Addr → Prop, A = (fun q => (fun q => b + 28 + 7 * j ≤ q ∧ q < b + 28 + 7 * j + 7) q ∨ q = ob) := ⟨_, rfl⟩
  rw [← hAe] at hQ
  have hS : va_S A s.heap s.heap [] := va_S.rf
  obtain ⟨hBx, hO⟩ := hB
  refine lv_aload_n hx hb dL_cents_0 rfl (lv_at hl 2 rfl) ?_
  refine iz_iconst hx hb dL_cents_1 ?_
  refine lv_aload_n hx hb dL_cents_2 rfl (lv_at hl 0 rfl) ?_
  refine lv_iload_n hx hb dL_cents_3 rfl (lv_at hl 1 rfl) ?_
  refine ctV (n := 1) hx hb hml hown hT ⟨c_X_cents1 l htr K z b wn j ar oc lc th wa Kn mu pr bg ch tr bn bp bc sf x1 h1 hj hjs hW9 hI, ⟨_, _, _, Or.inl ⟨rfl, rfl⟩⟩, mt_149, mt_1, by decide, by decide +kernel, by decide, by decide, by decide, by decide⟩ PX.blind mt_401 mt_147 mt_148 (va_RVof (ci := 0) (q0 := 0) hK hBx.2.1 rfl rfl) (As := [.int (iI x1)]) (rest := [.int (iI 0), .ref ob]) rfl (PX.at hE rfl hBx) hl.1 rfl (Nat.le_of_ble_eq_true rfl) dL_cents_4 (krTL2 (c1 := 2) (s1 := 12) rfl rfl (fun r9 t9 H L9 hA9 hL9 hpo => ?_) (fun x E t9 H L9 hA9 hL9 hTX hKE hpx => ?_))
  · replace hO : va_P (kD K) vcl [(ob, .inl (kL K, 1, .inr (.inl (lA o9))))] H := va_P_k1 hO (hA9.2.2.2.2 ob ((hO 0 _ rfl).lt) hob)
    refine iz_last1 hx hb hK hO dL_cents_7 (fun H2 hOB => ?_)
    refine lv_goto (tgt := 14) hx hb dL_cents_8 (by decide) ?_
    refine iz_iconst hx hb dL_cents_14 ?_
    rw [hQ]
    exact ih_iret hx hb hr hlocks (Or.inl ⟨rfl, r9, r9, H, hpo, rfl, hOB⟩) (fun q hq => by rw [hAe]; rcases List.mem_append.mp hq with hq | hq; exact Or.inl (hL9 q (by simpa using hq)); exact Or.inr (by rw [List.mem_singleton.mp hq])) (by decide) (by decide) dL_cents_15
  · have hEE : E = exA := hpx.1
    subst hEE
    refine wx_catch1 (E := exA) hown hT htab (by decide) (by decide) mt_304 mt_155 hTX ?_
    refine lv_astore_n (lv' := [(3, .ref x), (0, .ref b), (1, .int (iI x1)), (2, .ref ob)]) hx hb dL_cents_11 rfl hl (by decide) rfl (fun ls hl => ?_)
    refine iz_iconst hx hb dL_cents_12 ?_
    rw [hQ]
    exact ih_iret hx hb hr hlocks (Or.inr ⟨rfl, hKE, hpx⟩) (fun q hq => by rw [hAe]; exact Or.inl (hL9 q (by simpa using hq))) (by decide) (by decide) dL_cents_13
abbrev rmL_bars : Room := { frames := 9, cells := 3, slots := 18, locals := 200 }
set_option maxHeartbeats 4000000 in
set_option maxRecDepth 100000 in
/-- bars: what x answers, or what it throws -/
theorem c_L_bars (l : Launch) (htr : l.stackTraces = false) (K : KG) (z : Nat) (b wn : Nat) (bl cu : Int) (Pn : Nat) (le : Nat → Int) (pl : Int) (Bn : Nat) (bo fr lo sl : Nat → Int) (x1 x2 : Int) (h1 : r32 x1) (h2 : r32 x2) (hB9 : SwB bl cu Pn le) : Ct l yL_bars kL_bars rmL_bars (PX K z [.ref b, .int (iI x1), .int (iI x2)] (fun H => (fun H => va_P (kD K) vcl (saW K (b + 98) bl cu Pn le pl Bn bo fr lo sl) H ∧ va_P (kD K) vcl [(b, .inr (0, [.ref (b + 1), .int (iI (wn : Int)), .ref (b + 26), .ref (b + 27), .ref (b + 98)]))] H) H)) (QH (fun r H0 H => (r = 0 ∧ (fun (_ H : Heap) => (((1 ≤ x1 ∧ x1 ≤ 10000) ∧ (0 ≤ x2 ∧ x2 ≤ 100)) ∧ ∀ i, i < Pn → le i ≤ x1) ∧ va_P (kD K) vcl (saW K (b + 98) x1 x2 Pn le 0 Bn bo fr lo sl) H) H0 H) ∨ (r = 1 ∧ KE H0 H ∧ (fun E => (E = exA ∧ ¬ ((1 ≤ x1 ∧ x1 ≤ 10000) ∧ (0 ≤ x2 ∧ x2 ≤ 100))) ∨ (E = exS ∧ ((1 ≤ x1 ∧ x1 ≤ 10000) ∧ (0 ≤ x2 ∧ x2 ≤ 100)) ∧ ∃ i, i < Pn ∧ x1 < le i)) exA) ∨ (r = 2 ∧ KE H0 H ∧ (fun E => (E = exA ∧ ¬ ((1 ≤ x1 ∧ x1 ≤ 10000) ∧ (0 ≤ x2 ∧ x2 ≤ 100))) ∨ (E = exS ∧ ((1 ≤ x1 ∧ x1 ≤ 10000) ∧ (0 ≤ x2 ∧ x2 ≤ 100)) ∧ ∃ i, i < Pn ∧ x1 < le i)) exS))) (fun q => (fun q => b + 98 ≤ q ∧ q < b + 98 + 6) q) := by
  refine ct_of (by decide) (Or.inr rfl) ?_
  intro p e s m args below meth c B0 hP0
  obtain ⟨hx, hb, hr, hml, hown, hlocks, hnm, htab⟩ := B0
  obtain ⟨ha, hE, hB⟩ := hP0
  obtain ⟨hT, hK⟩ := hE.1
  have hl := lv_entry ([.ref b, .int (iI x1), .int (iI x2)]) (n := 4) (Nat.le_of_ble_eq_true rfl)
  obtain ⟨Q, hQ⟩ : ∃ Q, Q = XQ below (QH (fun r H0 H => (r = 0 ∧ (fun (_ H : Heap) => (((1 ≤ x1 ∧ x1 ≤ 10000) ∧ (0 ≤ x2 ∧ x2 ≤ 100)) ∧ ∀ i, i < Pn → le i ≤ x1) ∧ va_P (kD K) vcl (saW K (b + 98) x1 x2 Pn le 0 Bn bo fr lo sl) H) H0 H) ∨ (r = 1 ∧ KE H0 H ∧ (fun E => (E = exA ∧ ¬ ((1 ≤ x1 ∧ x1 ≤ 10000) ∧ (0 ≤ x2 ∧ x2 ≤ 100))) ∨ (E = exS ∧ ((1 ≤ x1 ∧ x1 ≤ 10000) ∧ (0 ≤ x2 ∧ x2 ≤ 100)) ∧ ∃ i, i < Pn ∧ x1 < le i)) exA) ∨ (r = 2 ∧ KE H0 H ∧ (fun E => (E = exA ∧ ¬ ((1 ≤ x1 ∧ x1 ≤ 10000) ∧ (0 ≤ x2 ∧ x2 ≤ 100))) ∨ (E = exS ∧ ((1 ≤ x1 ∧ x1 ≤ 10000) ∧ (0 ≤ x2 ∧ x2 ≤ 100)) ∧ ∃ i, i < Pn ∧ x1 < le i)) exS))) args s (rmL_bars).cells (rmL_bars).slots (fun q => (fun q => b + 98 ≤ q ∧ q < b + 98 + 6) q) := ⟨_, rfl⟩
  rw [← hQ, ha, lg_entry_eq]
  rw [ha] at hQ
  generalize (lg_sl ([.ref b, .int (iI x1), .int (iI x2)]) ++ List.replicate (4 - (lg_sl ([.ref b, .int (iI x1), .int (iI x2)])).length) Slot.unset).toArray = ls at hl ⊢
  generalize ([.ref b, .int (iI x1), .int (iI x2)] : List Value).toArray = args at hQ ⊢
  have hts : ∀ w ∈ TW, w.before args s = true := fun w h => hT w h args
  have hl : lv_has ls 4 [(0, .ref b), (1, .int (iI x1)), (2, .int (iI x2))] := hl
  obtain ⟨A, hAe⟩ : ∃ A : Addr → Prop, A = (fun q => (fun q => b + 98 ≤ q ∧ q < b + 98 + 6) q) := ⟨_, rfl⟩
  rw [← hAe] at hQ
  have hS : va_S A s.heap s.heap [] := va_S.rf
  have hBx := hB
  refine lv_aload_n hx hb dL_bars_0 rfl (lv_at hl 0 rfl) ?_
  refine lv_iload_n hx hb dL_bars_1 rfl (lv_at hl 1 rfl) ?_
  refine lv_iload_n hx hb dL_bars_2 rfl (lv_at hl 2 rfl) ?_
  refine ctV (n := 2) hx hb hml hown hT ⟨c_X_bars l htr K z b wn bl cu Pn le pl Bn bo fr lo sl x1 x2 h1 h2 hB9, ⟨_, _, _, Or.inl ⟨rfl, rfl⟩⟩, mt_408, mt_1, by decide, by decide +kernel, by decide, by decide, by decide, by decide⟩ PX.blind mt_405 mt_406 mt_407 (va_RVof (ci := 0) (q0 := 0) hK hBx.2 rfl rfl) (As := [.int (iI x1), .int (iI x2)]) (rest := []) rfl (PX.at hE rfl hBx) hl.1 rfl (Nat.le_of_ble_eq_true rfl) dL_bars_3 (krTV2 (c1 := 3) (s1 := 18) rfl rfl (fun t9 H L9 hA9 hL9 hpo => ?_) (fun x E t9 H L9 hA9 hL9 hTX hKE hpx => ?_))
  · refine lv_goto (tgt := 15) hx hb dL_bars_6 (by decide) ?_
    refine iz_iconst hx hb dL_bars_15 ?_
    rw [hQ]
    exact ih_iret hx hb hr hlocks (Or.inl ⟨rfl, hpo⟩) (fun q hq => by rw [hAe]; exact hL9 q (by simpa using hq)) (by decide) (by decide) dL_bars_16
  · have hEE : E = exA ∨ E = exS := by rcases hpx with ⟨h, -⟩ | ⟨h, -⟩; exact Or.inl h; exact Or.inr h
    rcases hEE with rfl | rfl
    · refine wx_catch1 (E := exA) hown hT htab (by decide) (by decide) mt_304 mt_155 hTX ?_
      refine lv_astore_n (lv' := [(3, .ref x), (0, .ref b), (1, .int (iI x1)), (2, .int (iI x2))]) hx hb dL_bars_9 rfl hl (by decide) rfl (fun ls hl => ?_)
      refine iz_iconst hx hb dL_bars_10 ?_
      rw [hQ]
      exact ih_iret hx hb hr hlocks (Or.inr (Or.inl ⟨rfl, hKE, hpx⟩)) (fun q hq => by rw [hAe]; exact hL9 q (by simpa using hq)) (by decide) (by decide) dL_bars_11
    · refine wx_catch2 (E := exS) hown hT htab (by decide) (by decide) (by decide) (by decide) mt_304 hE.2.2.2 mt_305 mt_319 hTX ?_
      refine lv_astore_n (lv' := [(3, .ref x), (0, .ref b), (1, .int (iI x1)), (2, .int (iI x2))]) hx hb dL_bars_12 rfl hl (by decide) rfl (fun ls hl => ?_)
      refine iz_iconst hx hb dL_bars_13 ?_
      rw [hQ]
      exact ih_iret hx hb hr hlocks (Or.inr (Or.inr ⟨rfl, hKE, hpx⟩)) (fun q hq => by rw [hAe]; exact hL9 q (by simpa using hq)) (by decide) (by decide) dL_bars_14
abbrev rmL_piece : Room := { frames := 9, cells := 2, slots := 12, locals := 200 }
set_option maxHeartbeats 4000000 in
set_option maxRecDepth 100000 in
/-- piece: what x answers, or what it throws -/
theorem c_L_piece (l : Launch) (htr : l.stackTraces = false) (K : KG) (z : Nat) (b wn : Nat) (bl cu : Int) (Pn : Nat) (le : Nat → Int) (pl : Int) (Bn : Nat) (bo fr lo sl : Nat → Int) (x1 : Int) (h1 : r32 x1) (hB9 : SwB bl cu Pn le) (ob : Nat) (o9 : Nat → Int) (hob : ¬ (fun q => b + 98 ≤ q ∧ q < b + 98 + 6) ob) : Ct l yL_piece kL_piece rmL_piece (PX K z [.ref b, .int (iI x1), .ref ob] (fun H => (fun H => va_P (kD K) vcl (saW K (b + 98) bl cu Pn le pl Bn bo fr lo sl) H ∧ va_P (kD K) vcl [(b, .inr (0, [.ref (b + 1), .int (iI (wn : Int)), .ref (b + 26), .ref (b + 27), .ref (b + 98)]))] H) H ∧ va_P (kD K) vcl [(ob, .inl (kL K, 1, .inr (.inl (lA o9))))] H)) (QH (fun r H0 H => (r = 0 ∧ ∃ (r9 v : Int) (H1 : Heap), (fun (r : Int) (_ H : Heap) => ((1 ≤ x1 ∧ x1 ≤ bl) ∧ Pn < 10) ∧ r = Pn ∧ va_P (kD K) vcl (saW K (b + 98) bl cu (Pn + 1) (ut le Pn x1) 0 Bn bo fr lo sl) H) r9 H0 H1 ∧ iI r9 = iI v ∧ r32 v ∧ OB K ob v H1 H) ∨ (r = 1 ∧ KE H0 H ∧ (fun E => (E = exA ∧ ¬ (1 ≤ x1 ∧ x1 ≤ bl)) ∨ (E = exS ∧ (1 ≤ x1 ∧ x1 ≤ bl) ∧ ¬ Pn < 10)) exA) ∨ (r = 2 ∧ KE H0 H ∧ (fun E => (E = exA ∧ ¬ (1 ≤ x1 ∧ x1 ≤ bl)) ∨ (E = exS ∧ (1 ≤ x1 ∧ x1 ≤ bl) ∧ ¬ Pn < 10)) exS))) (fun q => (fun q => b + 98 ≤ q ∧ q < b + 98 + 6) q ∨ q = ob) := by
  refine ct_of (by decide) (Or.inr rfl) ?_
  intro p e s m args below meth c B0 hP0
  obtain ⟨hx, hb, hr, hml, hown, hlocks, hnm, htab⟩ := B0
  obtain ⟨ha, hE, hB⟩ := hP0
  obtain ⟨hT, hK⟩ := hE.1
  have hl := lv_entry ([.ref b, .int (iI x1), .ref ob]) (n := 4) (Nat.le_of_ble_eq_true rfl)
  obtain ⟨Q, hQ⟩ : ∃ Q, Q = XQ below (QH (fun r H0 H => (r = 0 ∧ ∃ (r9 v : Int) (H1 : Heap), (fun (r : Int) (_ H : Heap) => ((1 ≤ x1 ∧ x1 ≤ bl) ∧ Pn < 10) ∧ r = Pn ∧ va_P (kD K) vcl (saW K (b + 98) bl cu (Pn + 1) (ut le Pn x1) 0 Bn bo fr lo sl) H) r9 H0 H1 ∧ iI r9 = iI v ∧ r32 v ∧ OB K ob v H1 H) ∨ (r = 1 ∧ KE H0 H ∧ (fun E => (E = exA ∧ ¬ (1 ≤ x1 ∧ x1 ≤ bl)) ∨ (E = exS ∧ (1 ≤ x1 ∧ x1 ≤ bl) ∧ ¬ Pn < 10)) exA) ∨ (r = 2 ∧ KE H0 H ∧ (fun E => (E = exA ∧ ¬ (1 ≤ x1 ∧ x1 ≤ bl)) ∨ (E = exS ∧ (1 ≤ x1 ∧ x1 ≤ bl) ∧ ¬ Pn < 10)) exS))) args s (rmL_piece).cells (rmL_piece).slots (fun q => (fun q => b + 98 ≤ q ∧ q < b + 98 + 6) q ∨ q = ob) := ⟨_, rfl⟩
  rw [← hQ, ha, lg_entry_eq]
  rw [ha] at hQ
  generalize (lg_sl ([.ref b, .int (iI x1), .ref ob]) ++ List.replicate (4 - (lg_sl ([.ref b, .int (iI x1), .ref ob])).length) Slot.unset).toArray = ls at hl ⊢
  generalize ([.ref b, .int (iI x1), .ref ob] : List Value).toArray = args at hQ ⊢
  have hts : ∀ w ∈ TW, w.before args s = true := fun w h => hT w h args
  have hl : lv_has ls 4 [(0, .ref b), (1, .int (iI x1)), (2, .ref ob)] := hl
  obtain ⟨A, hAe⟩ : ∃ A : Addr → Prop, A = (fun q => (fun q => b + 98 ≤ q ∧ q < b + 98 + 6) q ∨ q = ob) := ⟨_, rfl⟩
  rw [← hAe] at hQ
  have hS : va_S A s.heap s.heap [] := va_S.rf
  obtain ⟨hBx, hO⟩ := hB
  refine lv_aload_n hx hb dL_piece_0 rfl (lv_at hl 2 rfl) ?_
  refine iz_iconst hx hb dL_piece_1 ?_
  refine lv_aload_n hx hb dL_piece_2 rfl (lv_at hl 0 rfl) ?_
  refine lv_iload_n hx hb dL_piece_3 rfl (lv_at hl 1 rfl) ?_
  refine ctV (n := 1) hx hb hml hown hT ⟨c_X_piece l htr K z b wn bl cu Pn le pl Bn bo fr lo sl x1 h1 hB9, ⟨_, _, _, Or.inl ⟨rfl, rfl⟩⟩, mt_427, mt_1, by decide, by decide +kernel, by decide, by decide, by decide, by decide⟩ PX.blind mt_424 mt_425 mt_426 (va_RVof (ci := 0) (q0 := 0) hK hBx.2 rfl rfl) (As := [.int (iI x1)]) (rest := [.int (iI 0), .ref ob]) rfl (PX.at hE rfl hBx) hl.1 rfl (Nat.le_of_ble_eq_true rfl) dL_piece_4 (krTI (c1 := 2) (s1 := 12) rfl rfl (fun r9 t9 H L9 hA9 hL9 hpo => ?_) (fun x E t9 H L9 hA9 hL9 hTX hKE hpx => ?_))
  · replace hO : va_P (kD K) vcl [(ob, .inl (kL K, 1, .inr (.inl (lA o9))))] H := va_P_k1 hO (hA9.2.2.2.2 ob ((hO 0 _ rfl).lt) hob)
    obtain ⟨v, hv, ev⟩ := iI_ex (iI r9)
    rw [ev]
    refine iz_i2l hx hb ⟨by omega, by omega⟩ dL_piece_7 ?_
    refine iz_last1 hx hb hK hO dL_piece_8 (fun H2 hOB => ?_)
    refine lv_goto (tgt := 18) hx hb dL_piece_9 (by decide) ?_
    refine iz_iconst hx hb dL_piece_18 ?_
    rw [hQ]
    exact ih_iret hx hb hr hlocks (Or.inl ⟨rfl, r9, v, H, hpo, ev, hv, hOB⟩) (fun q hq => by rw [hAe]; rcases List.mem_append.mp hq with hq | hq; exact Or.inl (hL9 q (by simpa using hq)); exact Or.inr (by rw [List.mem_singleton.mp hq])) (by decide) (by decide) dL_piece_19
  · have hEE : E = exA ∨ E = exS := by rcases hpx with ⟨h, -⟩ | ⟨h, -⟩; exact Or.inl h; exact Or.inr h
    rcases hEE with rfl | rfl
    · refine wx_catch1 (E := exA) hown hT htab (by decide) (by decide) mt_304 mt_155 hTX ?_
      refine lv_astore_n (lv' := [(3, .ref x), (0, .ref b), (1, .int (iI x1)), (2, .ref ob)]) hx hb dL_piece_12 rfl hl (by decide) rfl (fun ls hl => ?_)
      refine iz_iconst hx hb dL_piece_13 ?_
      rw [hQ]
      exact ih_iret hx hb hr hlocks (Or.inr (Or.inl ⟨rfl, hKE, hpx⟩)) (fun q hq => by rw [hAe]; exact Or.inl (hL9 q (by simpa using hq))) (by decide) (by decide) dL_piece_14
    · refine wx_catch2 (E := exS) hown hT htab (by decide) (by decide) (by decide) (by decide) mt_304 hE.2.2.2 mt_305 mt_319 hTX ?_
      refine lv_astore_n (lv' := [(3, .ref x), (0, .ref b), (1, .int (iI x1)), (2, .ref ob)]) hx hb dL_piece_15 rfl hl (by decide) rfl (fun ls hl => ?_)
      refine iz_iconst hx hb dL_piece_16 ?_
      rw [hQ]
      exact ih_iret hx hb hr hlocks (Or.inr (Or.inr ⟨rfl, hKE, hpx⟩)) (fun q hq => by rw [hAe]; exact Or.inl (hL9 q (by simpa using hq))) (by decide) (by decide) dL_piece_17
abbrev rmL_change : Room := { frames := 9, cells := 2, slots := 12, locals := 200 }
set_option maxHeartbeats 4000000 in
set_option maxRecDepth 100000 in
/-- change: what x answers, or what it throws -/
theorem c_L_change (l : Launch) (htr : l.stackTraces = false) (K : KG) (z : Nat) (b wn k : Nat) (bl cu : Int) (Pn : Nat) (le : Nat → Int) (pl : Int) (Bn : Nat) (bo fr lo sl : Nat → Int) (x1 x2 : Int) (h1 : r32 x1) (h2 : r32 x2) (hk : 0 ≤ x1 → x1 < Pn → x1 = k) (hB9 : SwB bl cu Pn le) (ob : Nat) (o9 : Nat → Int) (hob : ¬ (fun q => b + 98 ≤ q ∧ q < b + 98 + 6) ob) : Ct l yL_change kL_change rmL_change (PX K z [.ref b, .int (iI x1), .int (iI x2), .ref ob] (fun H => (fun H => va_P (kD K) vcl (saW K (b + 98) bl cu Pn le pl Bn bo fr lo sl) H ∧ va_P (kD K) vcl [(b, .inr (0, [.ref (b + 1), .int (iI (wn : Int)), .ref (b + 26), .ref (b + 27), .ref (b + 98)]))] H) H ∧ va_P (kD K) vcl [(ob, .inl (kL K, 1, .inr (.inl (lA o9))))] H)) (QH (fun r H0 H => (r = 0 ∧ ∃ (r9 v : Int) (H1 : Heap), (fun (r : Int) (_ H : Heap) => ((0 ≤ x1 ∧ x1 < Pn) ∧ (1 ≤ x2 ∧ x2 ≤ bl)) ∧ r = le k ∧ va_P (kD K) vcl (saW K (b + 98) bl cu Pn (ut le k x2) 0 Bn bo fr lo sl) H) r9 H0 H1 ∧ iI r9 = iI v ∧ r32 v ∧ OB K ob v H1 H) ∨ (r = 1 ∧ KE H0 H ∧ (fun E => E = exA ∧ ¬ ((0 ≤ x1 ∧ x1 < Pn) ∧ (1 ≤ x2 ∧ x2 ≤ bl))) exA))) (fun q => (fun q => b + 98 ≤ q ∧ q < b + 98 + 6) q ∨ q = ob) := by
  refine ct_of (by decide) (Or.inr rfl) ?_
  intro p e s m args below meth c B0 hP0
  obtain ⟨hx, hb, hr, hml, hown, hlocks, hnm, htab⟩ := B0
  obtain ⟨ha, hE, hB⟩ := hP0
  obtain ⟨hT, hK⟩ := hE.1
  have hl := lv_entry ([.ref b, .int (iI x1), .int (iI x2), .ref ob]) (n := 5) (Nat.le_of_ble_eq_true rfl)
  obtain ⟨Q, hQ⟩ : ∃ Q, Q = XQ below (QH (fun r H0 H => (r = 0 ∧ ∃ (r9 v : Int) (H1 : Heap), (fun (r : Int) (_ H : Heap) => ((0 ≤ x1 ∧ x1 < Pn) ∧ (1 ≤ x2 ∧ x2 ≤ bl)) ∧ r = le k ∧ va_P (kD K) vcl (saW K (b + 98) bl cu Pn (ut le k x2) 0 Bn bo fr lo sl) H) r9 H0 H1 ∧ iI r9 = iI v ∧ r32 v ∧ OB K ob v H1 H) ∨ (r = 1 ∧ KE H0 H ∧ (fun E => E = exA ∧ ¬ ((0 ≤ x1 ∧ x1 < Pn) ∧ (1 ≤ x2 ∧ x2 ≤ bl))) exA))) args s (rmL_change).cells (rmL_change).slots (fun q => (fun q => b + 98 ≤ q ∧ q < b + 98 + 6) q ∨ q = ob) := ⟨_, rfl⟩
  rw [← hQ, ha, lg_entry_eq]
  rw [ha] at hQ
  generalize (lg_sl ([.ref b, .int (iI x1), .int (iI x2), .ref ob]) ++ List.replicate (5 - (lg_sl ([.ref b, .int (iI x1), .int (iI x2), .ref ob])).length) Slot.unset).toArray = ls at hl ⊢
  generalize ([.ref b, .int (iI x1), .int (iI x2), .ref ob] : List Value).toArray = args at hQ ⊢
  have hts : ∀ w ∈ TW, w.before args s = true := fun w h => hT w h args
  have hl : lv_has ls 5 [(0, .ref b), (1, .int (iI x1)), (2, .int (iI x2)), (3, .ref ob)] := hl
  obtain ⟨A, hAe⟩ : ∃ A : Addr → Prop, A = (fun q => (fun q => b + 98 ≤ q ∧ q < b + 98 + 6) q ∨ q = ob) := ⟨_, rfl⟩
  rw [← hAe] at hQ
  have hS : va_S A s.heap s.heap [] := va_S.rf
  obtain ⟨hBx, hO⟩ := hB
  refine lv_aload_n hx hb dL_change_0 rfl (lv_at hl 3 rfl) ?_
  refine iz_iconst hx hb dL_change_1 ?_
  refine lv_aload_n hx hb dL_change_2 rfl (lv_at hl 0 rfl) ?_
  refine lv_iload_n hx hb dL_change_3 rfl (lv_at hl 1 rfl) ?_
  refine lv_iload_n hx hb dL_change_4 rfl (lv_at hl 2 rfl) ?_
  refine ctV (n := 2) hx hb hml hown hT ⟨c_X_change l htr K z b wn k bl cu Pn le pl Bn bo fr lo sl x1 x2 h1 h2 hk hB9, ⟨_, _, _, Or.inl ⟨rfl, rfl⟩⟩, mt_438, mt_1, by decide, by decide +kernel, by decide, by decide, by decide, by decide⟩ PX.blind mt_435 mt_436 mt_437 (va_RVof (ci := 0) (q0 := 0) hK hBx.2 rfl rfl) (As := [.int (iI x1), .int (iI x2)]) (rest := [.int (iI 0), .ref ob]) rfl (PX.at hE rfl hBx) hl.1 rfl (Nat.le_of_ble_eq_true rfl) dL_change_5 (krTI (c1 := 2) (s1 := 12) rfl rfl (fun r9 t9 H L9 hA9 hL9 hpo => ?_) (fun x E t9 H L9 hA9 hL9 hTX hKE hpx => ?_))
  · replace hO : va_P (kD K) vcl [(ob, .inl (kL K, 1, .inr (.inl (lA o9))))] H := va_P_k1 hO (hA9.2.2.2.2 ob ((hO 0 _ rfl).lt) hob)
    obtain ⟨v, hv, ev⟩ := iI_ex (iI r9)
    rw [ev]
    refine iz_i2l hx hb ⟨by omega, by omega⟩ dL_change_8 ?_
    refine iz_last1 hx hb hK hO dL_change_9 (fun H2 hOB => ?_)
    refine lv_goto (tgt := 17) hx hb dL_change_10 (by decide) ?_
    refine iz_iconst hx hb dL_change_17 ?_
    rw [hQ]
    exact ih_iret hx hb hr hlocks (Or.inl ⟨rfl, r9, v, H, hpo, ev, hv, hOB⟩) (fun q hq => by rw [hAe]; rcases List.mem_append.mp hq with hq | hq; exact Or.inl (hL9 q (by simpa using hq)); exact Or.inr (by rw [List.mem_singleton.mp hq])) (by decide) (by decide) dL_change_18
  · have hEE : E = exA := hpx.1
    subst hEE
    refine wx_catch1 (E := exA) hown hT htab (by decide) (by decide) mt_304 mt_155 hTX ?_
    refine lv_astore (lv' := [(4, .ref x), (0, .ref b), (1, .int (iI x1)), (2, .int (iI x2)), (3, .ref ob)]) hx hb dL_change_13 hl (by decide) rfl (fun ls hl => ?_)
    refine iz_iconst hx hb dL_change_15 ?_
    rw [hQ]
    exact ih_iret hx hb hr hlocks (Or.inr ⟨rfl, hKE, hpx⟩) (fun q hq => by rw [hAe]; exact Or.inl (hL9 q (by simpa using hq))) (by decide) (by decide) dL_change_16
abbrev rmL_bar : Room := { frames := 17, cells := 1, slots := 6, locals := 960 }
set_option maxHeartbeats 4000000 in
set_option maxRecDepth 100000 in
/-- bar: what x answers, or what it throws -/
theorem c_L_bar (l : Launch) (htr : l.stackTraces = false) (K : KG) (z : Nat) (b wn k : Nat) (bl cu : Int) (Pn : Nat) (le : Nat → Int) (pl : Int) (Bn : Nat) (bo fr lo sl : Nat → Int) (x1 : Int) (h1 : r32 x1) (hk : 0 ≤ x1 → x1 < Pn → x1 = k) (hI : SwI bl cu Pn le pl Bn bo fr) (ob : Nat) (o9 : Nat → Int) (hob : ¬ (fun q => b + 98 ≤ q ∧ q < b + 98 + 6) ob) : Ct l yL_bar kL_bar rmL_bar (PX K z [.ref b, .int (iI x1), .ref ob] (fun H => (fun H => va_P (kD K) vcl (saW K (b + 98) bl cu Pn le pl Bn bo fr lo sl) H ∧ va_P (kD K) vcl [(b, .inr (0, [.ref (b + 1), .int (iI (wn : Int)), .ref (b + 26), .ref (b + 27), .ref (b + 98)]))] H) H ∧ va_P (kD K) vcl [(ob, .inl (kL K, 1, .inr (.inl (lA o9))))] H)) (QH (fun r H0 H => (r = 0 ∧ ∃ (r9 v : Int) (H1 : Heap), (fun (r : Int) (_ H : Heap) => (0 ≤ x1 ∧ x1 < Pn) ∧ ∃ (Bn' : Nat) (bo' fr' lo' sl' : Nat → Int), r = bo' k ∧ Bn' ≤ Pn ∧ SwF bl cu Pn le Bn' bo' fr' ∧ va_P (kD K) vcl (saW K (b + 98) bl cu Pn le 1 Bn' bo' fr' lo' sl') H) r9 H0 H1 ∧ iI r9 = iI v ∧ r32 v ∧ OB K ob v H1 H) ∨ (r = 1 ∧ KE H0 H ∧ (fun E => E = exA ∧ ¬ (0 ≤ x1 ∧ x1 < Pn)) exA))) (fun q => (fun q => b + 98 ≤ q ∧ q < b + 98 + 6) q ∨ q = ob) := by
  refine ct_of (by decide) (Or.inr rfl) ?_
  intro p e s m args below meth c B0 hP0
  obtain ⟨hx, hb, hr, hml, hown, hlocks, hnm, htab⟩ := B0
  obtain ⟨ha, hE, hB⟩ := hP0
  obtain ⟨hT, hK⟩ := hE.1
  have hl := lv_entry ([.ref b, .int (iI x1), .ref ob]) (n := 4) (Nat.le_of_ble_eq_true rfl)
  obtain ⟨Q, hQ⟩ : ∃ Q, Q = XQ below (QH (fun r H0 H => (r = 0 ∧ ∃ (r9 v : Int) (H1 : Heap), (fun (r : Int) (_ H : Heap) => (0 ≤ x1 ∧ x1 < Pn) ∧ ∃ (Bn' : Nat) (bo' fr' lo' sl' : Nat → Int), r = bo' k ∧ Bn' ≤ Pn ∧ SwF bl cu Pn le Bn' bo' fr' ∧ va_P (kD K) vcl (saW K (b + 98) bl cu Pn le 1 Bn' bo' fr' lo' sl') H) r9 H0 H1 ∧ iI r9 = iI v ∧ r32 v ∧ OB K ob v H1 H) ∨ (r = 1 ∧ KE H0 H ∧ (fun E => E = exA ∧ ¬ (0 ≤ x1 ∧ x1 < Pn)) exA))) args s (rmL_bar).cells (rmL_bar).slots (fun q => (fun q => b + 98 ≤ q ∧ q < b + 98 + 6) q ∨ q = ob) := ⟨_, rfl⟩
  rw [← hQ, ha, lg_entry_eq]
  rw [ha] at hQ
  generalize (lg_sl ([.ref b, .int (iI x1), .ref ob]) ++ List.replicate (4 - (lg_sl ([.ref b, .int (iI x1), .ref ob])).length) Slot.unset).toArray = ls at hl ⊢
  generalize ([.ref b, .int (iI x1), .ref ob] : List Value).toArray = args at hQ ⊢
  have hts : ∀ w ∈ TW, w.before args s = true := fun w h => hT w h args
  have hl : lv_has ls 4 [(0, .ref b), (1, .int (iI x1)), (2, .ref ob)] := hl
  obtain ⟨A, hAe⟩ : ∃ A : Addr → Prop, A = (fun q => (fun q => b + 98 ≤ q ∧ q < b + 98 + 6) q ∨ q = ob) := ⟨_, rfl⟩
  rw [← hAe] at hQ
  have hS : va_S A s.heap s.heap [] := va_S.rf
  obtain ⟨hBx, hO⟩ := hB
  refine lv_aload_n hx hb dL_bar_0 rfl (lv_at hl 2 rfl) ?_
  refine iz_iconst hx hb dL_bar_1 ?_
  refine lv_aload_n hx hb dL_bar_2 rfl (lv_at hl 0 rfl) ?_
  refine lv_iload_n hx hb dL_bar_3 rfl (lv_at hl 1 rfl) ?_
  refine ctV (n := 1) hx hb hml hown hT ⟨c_X_bar l htr K z b wn k bl cu Pn le pl Bn bo fr lo sl x1 h1 hk hI, ⟨_, _, _, Or.inl ⟨rfl, rfl⟩⟩, mt_449, mt_1, by decide, by decide +kernel, by decide, by decide, by decide, by decide⟩ PX.blind mt_446 mt_447 mt_448 (va_RVof (ci := 0) (q0 := 0) hK hBx.2 rfl rfl) (As := [.int (iI x1)]) (rest := [.int (iI 0), .ref ob]) rfl (PX.at hE rfl hBx) hl.1 rfl (Nat.le_of_ble_eq_true rfl) dL_bar_4 (krTI (c1 := 1) (s1 := 6) rfl rfl (fun r9 t9 H L9 hA9 hL9 hpo => ?_) (fun x E t9 H L9 hA9 hL9 hTX hKE hpx => ?_))
  · replace hO : va_P (kD K) vcl [(ob, .inl (kL K, 1, .inr (.inl (lA o9))))] H := va_P_k1 hO (hA9.2.2.2.2 ob ((hO 0 _ rfl).lt) hob)
    obtain ⟨v, hv, ev⟩ := iI_ex (iI r9)
    rw [ev]
    refine iz_i2l hx hb ⟨by omega, by omega⟩ dL_bar_7 ?_
    refine iz_last1 hx hb hK hO dL_bar_8 (fun H2 hOB => ?_)
    refine lv_goto (tgt := 15) hx hb dL_bar_9 (by decide) ?_
    refine iz_iconst hx hb dL_bar_15 ?_
    rw [hQ]
    exact ih_iret hx hb hr hlocks (Or.inl ⟨rfl, r9, v, H, hpo, ev, hv, hOB⟩) (fun q hq => by rw [hAe]; rcases List.mem_append.mp hq with hq | hq; exact Or.inl (hL9 q (by simpa using hq)); exact Or.inr (by rw [List.mem_singleton.mp hq])) (by decide) (by decide) dL_bar_16
  · have hEE : E = exA := hpx.1
    subst hEE
    refine wx_catch1 (E := exA) hown hT htab (by decide) (by decide) mt_304 mt_155 hTX ?_
    refine lv_astore_n (lv' := [(3, .ref x), (0, .ref b), (1, .int (iI x1)), (2, .ref ob)]) hx hb dL_bar_12 rfl hl (by decide) rfl (fun ls hl => ?_)
    refine iz_iconst hx hb dL_bar_13 ?_
    rw [hQ]
    exact ih_iret hx hb hr hlocks (Or.inr ⟨rfl, hKE, hpx⟩) (fun q hq => by rw [hAe]; exact Or.inl (hL9 q (by simpa using hq))) (by decide) (by decide) dL_bar_14
abbrev rmL_rest : Room := { frames := 17, cells := 1, slots := 6, locals := 960 }
set_option maxHeartbeats 4000000 in
set_option maxRecDepth 100000 in
/-- rest: what x answers, or what it throws -/
theorem c_L_rest (l : Launch) (htr : l.stackTraces = false) (K : KG) (z : Nat) (b wn : Nat) (bl cu : Int) (Pn : Nat) (le : Nat → Int) (pl : Int) (Bn : Nat) (bo fr lo sl : Nat → Int) (x1 : Int) (h1 : r32 x1) (hI : SwI bl cu Pn le pl Bn bo fr) (hzb : z < b) (ob : Nat) (o9 : Nat → Int) (hob : ¬ (fun q => b + 98 ≤ q ∧ q < b + 98 + 6) ob) : Ct l yL_rest kL_rest rmL_rest (PX K z [.ref b, .int (iI x1), .ref ob] (fun H => (fun H => va_P (kD K) vcl (saW K (b + 98) bl cu Pn le pl Bn bo fr lo sl) H ∧ va_P (kD K) vcl [(b, .inr (0, [.ref (b + 1), .int (iI (wn : Int)), .ref (b + 26), .ref (b + 27), .ref (b + 98)]))] H) H ∧ va_P (kD K) vcl [(ob, .inl (kL K, 1, .inr (.inl (lA o9))))] H)) (QH (fun r H0 H => (r = 0 ∧ ∃ (r9 v : Int) (H1 : Heap), (fun (r : Int) (_ H : Heap) => ∃ (Bn' : Nat) (bo' fr' lo' sl' : Nat → Int), (0 ≤ x1 ∧ x1 < Bn') ∧ (∃ k : Nat, x1 = k ∧ r = fr' k) ∧ Bn' ≤ Pn ∧ SwF bl cu Pn le Bn' bo' fr' ∧ va_P (kD K) vcl (saW K (b + 98) bl cu Pn le 1 Bn' bo' fr' lo' sl') H) r9 H0 H1 ∧ iI r9 = iI v ∧ r32 v ∧ OB K ob v H1 H) ∨ (r = 1 ∧ (fun E H => E = exA ∧ ∃ (Bn' : Nat) (bo' fr' lo' sl' : Nat → Int), ¬ (0 ≤ x1 ∧ x1 < Bn') ∧ Bn' ≤ Pn ∧ SwF bl cu Pn le Bn' bo' fr' ∧ va_P (kD K) vcl (saW K (b + 98) bl cu Pn le 1 Bn' bo' fr' lo' sl') H) exA H ∧ va_P (kD K) vcl [(ob, .inl (kL K, 1, .inr (.inl (lA o9))))] H))) (fun q => (fun q => b + 98 ≤ q ∧ q < b + 98 + 6) q ∨ q = ob) := by
  refine ct_of (by decide) (Or.inr rfl) ?_
  intro p e s m args below meth c B0 hP0
  obtain ⟨hx, hb, hr, hml, hown, hlocks, hnm, htab⟩ := B0
  obtain ⟨ha, hE, hB⟩ := hP0
  obtain ⟨hT, hK⟩ := hE.1
  have hl := lv_entry ([.ref b, .int (iI x1), .ref ob]) (n := 4) (Nat.le_of_ble_eq_true rfl)
  obtain ⟨Q, hQ⟩ : ∃ Q, Q = XQ below (QH (fun r H0 H => (r = 0 ∧ ∃ (r9 v : Int) (H1 : Heap), (fun (r : Int) (_ H : Heap) => ∃ (Bn' : Nat) (bo' fr' lo' sl' : Nat → Int), (0 ≤ x1 ∧ x1 < Bn') ∧ (∃ k : Nat, x1 = k ∧ r = fr' k) ∧ Bn' ≤ Pn ∧ SwF bl cu Pn le Bn' bo' fr' ∧ va_P (kD K) vcl (saW K (b + 98) bl cu Pn le 1 Bn' bo' fr' lo' sl') H) r9 H0 H1 ∧ iI r9 = iI v ∧ r32 v ∧ OB K ob v H1 H) ∨ (r = 1 ∧ (fun E H => E = exA ∧ ∃ (Bn' : Nat) (bo' fr' lo' sl' : Nat → Int), ¬ (0 ≤ x1 ∧ x1 < Bn') ∧ Bn' ≤ Pn ∧ SwF bl cu Pn le Bn' bo' fr' ∧ va_P (kD K) vcl (saW K (b + 98) bl cu Pn le 1 Bn' bo' fr' lo' sl') H) exA H ∧ va_P (kD K) vcl [(ob, .inl (kL K, 1, .inr (.inl (lA o9))))] H))) args s (rmL_rest).cells (rmL_rest).slots (fun q => (fun q => b + 98 ≤ q ∧ q < b + 98 + 6) q ∨ q = ob) := ⟨_, rfl⟩
  rw [← hQ, ha, lg_entry_eq]
  rw [ha] at hQ
  generalize (lg_sl ([.ref b, .int (iI x1), .ref ob]) ++ List.replicate (4 - (lg_sl ([.ref b, .int (iI x1), .ref ob])).length) Slot.unset).toArray = ls at hl ⊢
  generalize ([.ref b, .int (iI x1), .ref ob] : List Value).toArray = args at hQ ⊢
  have hts : ∀ w ∈ TW, w.before args s = true := fun w h => hT w h args
  have hl : lv_has ls 4 [(0, .ref b), (1, .int (iI x1)), (2, .ref ob)] := hl
  obtain ⟨A, hAe⟩ : ∃ A : Addr → Prop, A = (fun q => (fun q => b + 98 ≤ q ∧ q < b + 98 + 6) q ∨ q = ob) := ⟨_, rfl⟩
  rw [← hAe] at hQ
  have hS : va_S A s.heap s.heap [] := va_S.rf
  obtain ⟨hBx, hO⟩ := hB
  refine lv_aload_n hx hb dL_rest_0 rfl (lv_at hl 2 rfl) ?_
  refine iz_iconst hx hb dL_rest_1 ?_
  refine lv_aload_n hx hb dL_rest_2 rfl (lv_at hl 0 rfl) ?_
  refine lv_iload_n hx hb dL_rest_3 rfl (lv_at hl 1 rfl) ?_
  refine ctV (n := 1) hx hb hml hown hT ⟨c_X_rest l htr K z b wn bl cu Pn le pl Bn bo fr lo sl x1 h1 hI hzb, ⟨_, _, _, Or.inl ⟨rfl, rfl⟩⟩, mt_456, mt_1, by decide, by decide +kernel, by decide, by decide, by decide, by decide⟩ PX.blind mt_453 mt_454 mt_455 (va_RVof (ci := 0) (q0 := 0) hK hBx.2 rfl rfl) (As := [.int (iI x1)]) (rest := [.int (iI 0), .ref ob]) rfl (PX.at hE rfl hBx) hl.1 rfl (Nat.le_of_ble_eq_true rfl) dL_rest_4 (krTR (c1 := 1) (s1 := 6) rfl rfl (fun r9 t9 H L9 hA9 hL9 hpo => ?_) (fun x E t9 H L9 hA9 hL9 hTX hpx => ?_))
  · replace hO : va_P (kD K) vcl [(ob, .inl (kL K, 1, .inr (.inl (lA o9))))] H := va_P_k1 hO (hA9.2.2.2.2 ob ((hO 0 _ rfl).lt) hob)
    obtain ⟨v, hv, ev⟩ := iI_ex (iI r9)
    rw [ev]
    refine iz_i2l hx hb ⟨by omega, by omega⟩ dL_rest_7 ?_
    refine iz_last1 hx hb hK hO dL_rest_8 (fun H2 hOB => ?_)
    refine lv_goto (tgt := 15) hx hb dL_rest_9 (by decide) ?_
    refine iz_iconst hx hb dL_rest_15 ?_
    rw [hQ]
    exact ih_iret hx hb hr hlocks (Or.inl ⟨rfl, r9, v, H, hpo, ev, hv, hOB⟩) (fun q hq => by rw [hAe]; rcases List.mem_append.mp hq with hq | hq; exact Or.inl (hL9 q (by simpa using hq)); exact Or.inr (by rw [List.mem_singleton.mp hq])) (by decide) (by decide) dL_rest_16
  · have hO9 : va_P (kD K) vcl [(ob, .inl (kL K, 1, .inr (.inl (lA o9))))] H := va_P_k1 hO (hA9.2.2.2.2 ob ((hO 0 _ rfl).lt) hob)
    have hEE : E = exA := hpx.1
    subst hEE
    refine wx_catch1 (E := exA) hown hT htab (by decide) (by decide) mt_304 mt_155 hTX ?_
    refine lv_astore_n (lv' := [(3, .ref x), (0, .ref b), (1, .int (iI x1)), (2, .ref ob)]) hx hb dL_rest_12 rfl hl (by decide) rfl (fun ls hl => ?_)
    refine iz_iconst hx hb dL_rest_13 ?_
    rw [hQ]
    exact ih_iret hx hb hr hlocks (Or.inr ⟨rfl, hpx, hO9⟩) (fun q hq => by rw [hAe]; exact Or.inl (hL9 q (by simpa using hq))) (by decide) (by decide) dL_rest_14
