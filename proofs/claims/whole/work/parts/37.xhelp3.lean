section XH3
variable {p : Program} {l : Launch} {e : Env} {R : Room} {s : State} {m : MethodId} {args : Array Value} {below : List Frame} {meth : Method} {c : Code} {H : Heap} {locs : List Loc} {cells slots : Nat} {Q : State → Prop}
variable {pc : Nat} {ls : Array Slot} {rest : List Value} {free : Addr → Prop} {rm : Room} {cc : ByteArray} {K : KG} {ws : va_W} {A : Nat → Prop} {H0 : Heap} {a n : Nat}
/-- a call that could throw, but doesn't -/
theorem krTL {po : Int → Heap → Heap → Prop} {px : String → Prop} {av : Array Value} {c1 s1 : Nat} (hno : ∀ E, ¬ px E) (hc1 : cells + rm.cells = c1) (hs1 : slots + rm.slots = s1)
    (k : ∀ (r : Int) (t : State) (H1 : Heap) (L : List Loc), Af s H free rm.cells t H1 → (∀ q ∈ L, free q.base) → po r H H1 → W p l e R s m args below meth c H1 (locs ++ L) c1 s1 Q (F0 m (pc + 3) ls (.long (lI r) :: rest))) :
    KR p l e R s m args below meth c H locs cells slots Q rm free (QTL po px av) pc ls rest := by
  subst hc1
  subst hs1
  intro st0 t H1 L hst hA hL
  refine ⟨fun w hq => ?_, fun x hq => ?_⟩
  · rcases hq with ⟨r, e1, hp⟩ | ⟨x, E, e1, -⟩
    · cases e1
      exact k r t H1 L hA hL (by rw [← hst, ← hA.1]; exact hp)
    · cases e1
  · rcases hq with ⟨r, e1, -⟩ | ⟨y, E, e1, -, -, hn⟩
    · cases e1
    · exact absurd hn (hno E)
/-- a new object, at the heap's end -/
theorem iz_new (hx : p.tables.exec = Jvm.exec) (hb : c.code = cc) (hTB : TB s) (hK : va_K (kD K) vcl (kTY K) s) {own C : String} {T : u_T} {N ci index : Nat} (hin : ∀ w ∈ u_ws C T N, w ∈ TW) (ty : Nat → FieldType) (hty : ∀ k, k < N → parseFieldDescriptor (T k).2.2.1 = some (ty k)) (hown : s.vm.findClass own = some m.cls) (m1 : Cond.classLink own index C ∈ TW) (m2 : Cond.instantiable C N ∈ TW) (m3 : Cond.initialized C ∈ TW)
    (hc : vcl[ci]? = some (C, T, N)) {fs : List Value} (hfs : ∀ j, j < N → defaultValue (ty j) = vp_V fs j) (hcells : cells + 1 ≤ R.cells) (hslots : slots + N ≤ R.slots) {z : Nat} (hz : H.size = z) (hd : decode cc pc = .ok (.new index, 3))
    (kk : ∀ H1 : Heap, H1.size = z + 1 → va_P (kD K) vcl [(z, .inr (ci, fs))] H1 → (∀ q, q < z → H1[q]? = H[q]?) → W p l e R s m args below meth c H1 locs (cells + 1) (slots + N) Q (F0 m (pc + 3) ls (.ref z :: rest))) : W p l e R s m args below meth c H locs cells slots Q (F0 m pc ls rest) := by
  subst hz
  have hKn := hK.1 ci _ hc
  have hts : ∀ w ∈ TW, w.before args s = true := fun w h => hTB w h args
  refine W.newcK hx hb hown (hts _ m1) (hts _ m2) (hts _ m3) rfl hd hcells hslots hKn.2.1 rfl fun H1 kC hkC e1 z1 o1 => ?_
  refine kk H1 z1 (fun k x hx => ?_) o1
  have hz : k < 1 := (List.getElem?_eq_some_iff.mp hx).1
  rw [show k = 0 by omega] at hx
  cases hx
  exact ⟨_, hc, (u_born ty hts hin hKn hkC e1 hty).to hfs⟩
/-- a new array of references -/
theorem iz_newq (hx : p.tables.exec = Jvm.exec) (hb : c.code = cc) (hTB : TB s) (hK : va_K (kD K) vcl (kTY K) s) {own C : String} {index : Nat} (hown : s.vm.findClass own = some m.cls) (m1 : Cond.classLink own index C ∈ TW) (m2 : Cond.arrayOver (.object C) ∈ TW) (t0 : Nat) {kA : ClassId} (ht : (kTY K)[t0]? = some (kA, .object C))
    (N : Nat) {i : Int} (hi : i = (N : Int)) (hN : N < 1000) (hcells : cells + 1 ≤ R.cells) (hslots : slots + N ≤ R.slots) {z : Nat} (hz : H.size = z) (hd : decode cc pc = .ok (.anewarray index, 3))
    (kk : ∀ H1 : Heap, H1.size = z + 1 → va_P (kD K) vcl [(z, .inl (kA, N, .inr (.inr (.inr (.inr (fun _ => none))))))] H1 → (∀ q, q < z → H1[q]? = H[q]?) → W p l e R s m args below meth c H1 locs (cells + 1) (slots + N) Q (F0 m (pc + 3) ls (.ref z :: rest))) : W p l e R s m args below meth c H locs cells slots Q (F0 m pc ls (.int (iI i) :: rest)) := by
  subst hi
  subst hz
  have hcl : (iI (N : Int)).toNatClampNeg = N := iI_k (by omega)
  refine W.anew hx hb hown (hTB _ m1 args) (hTB _ m2 args) rfl hd rfl (iI_nn ⟨by omega, by omega⟩ (by omega)) (by rw [hcl]; omega) hcells (by rw [hcl]; exact hslots) fun cA kA' comp f1 f2 f3 f4 => ?_
  have hcA : cA = kA := by
    obtain ⟨k9, c9, -, -, -, h9⟩ := (hK.2 t0 _ ht).2
    first
      | exact Option.some.inj (f1.symm.trans h9)
      | exact Option.some.inj (f4.symm.trans h9)
  subst hcA
  rw [hcl]
  refine kk _ (by rw [Array.size_push]) (fun k x hx => ?_) (fun q hq => by rw [Array.getElem?_push, if_neg (Nat.ne_of_lt hq)])
  have hz : k < 1 := (List.getElem?_eq_some_iff.mp hx).1
  rw [show k = 0 by omega] at hx
  cases hx
  show (H.push _)[H.size]? = some (vp_cell _ _)
  rw [Array.getElem?_push_size, vp_cell_q, arrV_new]
  rfl
/-- a reference into an array, with what else stays -/
theorem iz_aast (hx : p.tables.exec = Jvm.exec) (hb : c.code = cc) (hK : va_K (kD K) vcl (kTY K) s) (hP : va_P (kD K) vcl ws H) (q0 t0 qk ci : Nat) {cA : ClassId} {r : vw_C} {v : Nat} {vs : List Value} {f : Nat → Option Nat} (ha : ws[q0]? = some (a, .inl (cA, n, .inr (.inr (.inr (.inr f)))))) (ht : (kTY K)[t0]? = some (cA, .object r.1)) (hv : ws[qk]? = some (v, .inr (ci, vs))) (hc : vcl[ci]? = some r) {i : Int} (k : Nat) (hi : i = (k : Int)) (hk : k < n) (hn : n < 1000) (hd : decode cc pc = .ok (.aastore, 1))
    (kk : ∀ H1 : Heap, H1.size = H.size → (∀ q, q ≠ a → H1[q]? = H[q]?) → H1[a]? = some (vp_cell cA (n, .inr (.inr (.inr (.inr (va_up f k (some v))))))) → W p l e R s m args below meth c H1 (locs ++ [⟨a, k⟩]) cells slots Q (F0 m (pc + 1) ls rest)) : W p l e R s m args below meth c H locs cells slots Q (F0 m pc ls (.ref v :: .int (iI i) :: .ref a :: rest)) := by
  subst hi
  have hcl : (iI (k : Int)).toNatClampNeg = k := iI_k (by omega)
  obtain ⟨r', hr', cellV, g1, g2, g3, -⟩ := hP qk _ hv
  have hcls := (hK.1 ci r hc).2
  obtain ⟨kA, comp, k1, k2, k3, -⟩ := (hK.2 t0 _ ht).2
  have hcomp : comp = (kD K).1 ci := Option.some.inj (k3.symm.trans hcls.1)
  subst hcomp
  obtain ⟨kC, hkC, -⟩ := hcls.2
  refine W.aast hx hb (hP q0 _ ha) (fun q h => by cases h) (fun h => by cases h) k1 k2 rfl hkC ⟨iI_nn ⟨by omega, by omega⟩ (by omega), by show _ < (arrV _ _ _).slots.size; rw [arrV_size, hcl]; exact hk⟩ g1 (fun q h => by rw [g3] at h; cases h) (by rw [g2]; exact hkC) (by rw [g2]; exact va_assign hcls) rfl rfl hd fun H1 e z oq => ?_
  rw [hcl] at e ⊢
  refine kk H1 z oq ?_
  rw [e, vp_cell_q, vp_cell_q, arrV_store]
  congr 2
  funext q
  by_cases hq : q = k
  · subst hq
    simp [updV, va_up, va_rf]
  · simp [updV, va_up, hq]
end XH3
