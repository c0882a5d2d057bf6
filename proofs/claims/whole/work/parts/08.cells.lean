-- ARRAYS AND NEW CELLS over integers
section IzCells
variable {p : Program} {l : Launch} {e : Env} {R : Room} {s : State} {m : MethodId} {args : Array Value} {below : List Frame} {meth : Method} {c : Code} {H : Heap} {locs : List Loc} {cells slots : Nat} {Q : State → Prop}
variable {cc : ByteArray} {pc : Nat} {ls : Array Slot} {rest : List Value} {K : KG} {ws : va_W} {A : Nat → Prop} {H0 : Heap} {a n : Nat} {g : Nat → Int}
theorem iI_k {k : Nat} (h : k < 2147483648) : (iI (k : Int)).toNatClampNeg = k := by rw [iI_cl ⟨by omega, by omega⟩]; rfl
theorem iz_iald (hx : p.tables.exec = Jvm.exec) (hb : c.code = cc) (hK : va_K (kD K) vcl (kTY K) s) (hP : va_P (kD K) vcl ws H) (q0 : Nat) (ha : ws[q0]? = some (a, .inl (kI K, n, .inl (iA g)))) {i : Int} (k : Nat) (hi : i = (k : Int)) (hk : k < n) (hn : n < 2147483648) (hd : decode cc pc = .ok (.iaload, 1))
    (kk : W p l e R s m args below meth c H locs cells slots Q (F0 m (pc + 1) ls (.int (iI (g k)) :: rest))) : W p l e R s m args below meth c H locs cells slots Q (F0 m pc ls (.int (iI i) :: .ref a :: rest)) := by
  subst hi
  refine va_iald hx hb hK hP q0 0 ha rfl (iI_in (by omega) (by omega) (by omega)) hd ?_
  rw [iI_k (by omega)]
  exact kk
theorem iz_iast (hx : p.tables.exec = Jvm.exec) (hb : c.code = cc) (hK : va_K (kD K) vcl (kTY K) s) (hP : va_P (kD K) vcl ws H) (hD : va_D A ws) (hS : va_S A H0 H locs) (q0 : Nat) (ha : ws[q0]? = some (a, .inl (kI K, n, .inl (iA g)))) {i v : Int} (k : Nat) (hi : i = (k : Int)) (hk : k < n) (hn : n < 2147483648) (hd : decode cc pc = .ok (.iastore, 1))
    (kk : ∀ (H1 : Heap) (locs1 : List Loc), va_P (kD K) vcl (ws.set q0 (a, .inl (kI K, n, .inl (iA (ut g k v))))) H1 → va_D A (ws.set q0 (a, .inl (kI K, n, .inl (iA (ut g k v))))) → va_S A H0 H1 locs1 → W p l e R s m args below meth c H1 locs1 cells slots Q (F0 m (pc + 1) ls rest)) : W p l e R s m args below meth c H locs cells slots Q (F0 m pc ls (.int (iI v) :: .int (iI i) :: .ref a :: rest)) := by
  subst hi
  refine va_iast hx hb hK hP hD hS q0 0 ha rfl (iI_in (by omega) (by omega) (by omega)) hd (fun H1 locs1 h1 h2 h3 => ?_)
  rw [iI_k (by omega), iA_ut] at h1 h2
  exact kk H1 locs1 h1 h2 h3
theorem iz_lald (hx : p.tables.exec = Jvm.exec) (hb : c.code = cc) (hK : va_K (kD K) vcl (kTY K) s) (hP : va_P (kD K) vcl ws H) (q0 : Nat) (ha : ws[q0]? = some (a, .inl (kL K, n, .inr (.inl (lA g))))) {i : Int} (k : Nat) (hi : i = (k : Int)) (hk : k < n) (hn : n < 2147483648) (hd : decode cc pc = .ok (.laload, 1))
    (kk : W p l e R s m args below meth c H locs cells slots Q (F0 m (pc + 1) ls (.long (lI (g k)) :: rest))) : W p l e R s m args below meth c H locs cells slots Q (F0 m pc ls (.int (iI i) :: .ref a :: rest)) := by
  subst hi
  refine va_lald hx hb hK hP q0 1 ha rfl (iI_in (by omega) (by omega) (by omega)) hd ?_
  rw [iI_k (by omega)]
  exact kk
theorem iz_last (hx : p.tables.exec = Jvm.exec) (hb : c.code = cc) (hK : va_K (kD K) vcl (kTY K) s) (hP : va_P (kD K) vcl ws H) (hD : va_D A ws) (hS : va_S A H0 H locs) (q0 : Nat) (ha : ws[q0]? = some (a, .inl (kL K, n, .inr (.inl (lA g))))) {i v : Int} (k : Nat) (hi : i = (k : Int)) (hk : k < n) (hn : n < 2147483648) (hd : decode cc pc = .ok (.lastore, 1))
    (kk : ∀ (H1 : Heap) (locs1 : List Loc), va_P (kD K) vcl (ws.set q0 (a, .inl (kL K, n, .inr (.inl (lA (ut g k v)))))) H1 → va_D A (ws.set q0 (a, .inl (kL K, n, .inr (.inl (lA (ut g k v)))))) → va_S A H0 H1 locs1 → W p l e R s m args below meth c H1 locs1 cells slots Q (F0 m (pc + 1) ls rest)) : W p l e R s m args below meth c H locs cells slots Q (F0 m pc ls (.long (lI v) :: .int (iI i) :: .ref a :: rest)) := by
  subst hi
  refine va_last hx hb hK hP hD hS q0 1 ha rfl (iI_in (by omega) (by omega) (by omega)) hd (fun H1 locs1 h1 h2 h3 => ?_)
  rw [iI_k (by omega), lA_ut] at h1 h2
  exact kk H1 locs1 h1 h2 h3
theorem iz_alen (hx : p.tables.exec = Jvm.exec) (hb : c.code = cc) (hK : va_K (kD K) vcl (kTY K) s) (hP : va_P (kD K) vcl ws H) (q0 t0 : Nat) {cA : ClassId} {x : vp_A} (ha : ws[q0]? = some (a, .inl (cA, x))) {ty : FieldType} (ht : (kTY K)[t0]? = some (cA, ty)) (hd : decode cc pc = .ok (.arraylength, 1))
    (kk : W p l e R s m args below meth c H locs cells slots Q (F0 m (pc + 1) ls (.int (iI (x.1 : Nat)) :: rest))) : W p l e R s m args below meth c H locs cells slots Q (F0 m pc ls (.ref a :: rest)) :=
  va_alen hx hb hK hP q0 t0 ha ht (iI_nat _) hd kk
theorem iz_aald (hx : p.tables.exec = Jvm.exec) (hb : c.code = cc) (hK : va_K (kD K) vcl (kTY K) s) (hP : va_P (kD K) vcl ws H) (q0 t0 : Nat) {cA : ClassId} {C : String} {f : Nat → Option Nat} (ha : ws[q0]? = some (a, .inl (cA, n, .inr (.inr (.inr (.inr f)))))) (ht : (kTY K)[t0]? = some (cA, .object C)) {i : Int} (k : Nat) (hi : i = (k : Int)) (hk : k < n) (hn : n < 2147483648) {x : Nat} (hf : f k = some x) (hd : decode cc pc = .ok (.aaload, 1))
    (kk : W p l e R s m args below meth c H locs cells slots Q (F0 m (pc + 1) ls (.ref x :: rest))) : W p l e R s m args below meth c H locs cells slots Q (F0 m pc ls (.int (iI i) :: .ref a :: rest)) := by
  subst hi
  refine va_aldq hx hb hK hP q0 t0 ha ht (iI_in (by omega) (by omega) (by omega)) hd ?_
  rw [iI_k (by omega), hf]
  exact kk
theorem iz_ldc (hx : p.tables.exec = Jvm.exec) (hb : c.code = cc) {own : String} {index : Nat} {v : Int32} (z : Int) (hz : v = iI z) (hown : s.vm.findClass own = some m.cls) (hc : (Cond.constant own index v).before args s = true) (hd : decode cc pc = .ok (.ldc index, 2))
    (k : W p l e R s m args below meth c H locs cells slots Q (F0 m (pc + 2) ls (.int (iI z) :: rest))) : W p l e R s m args below meth c H locs cells slots Q (F0 m pc ls rest) := lv_ldc hx hb hown hc hd (by rw [hz]; exact k)
theorem iz_ldc2 (hx : p.tables.exec = Jvm.exec) (hb : c.code = cc) {own : String} {index : Nat} {v : Int64} (z : Int) (hz : v = lI z) (hown : s.vm.findClass own = some m.cls) (hc : (Cond.constantLong own index v).before args s = true) (hd : decode cc pc = .ok (.ldc2_w index, 3))
    (k : W p l e R s m args below meth c H locs cells slots Q (F0 m (pc + 3) ls (.long (lI z) :: rest))) : W p l e R s m args below meth c H locs cells slots Q (F0 m pc ls rest) := lv_ldc2 hx hb hown hc hd (by rw [hz]; exact k)
/-- a new array of ints: at the heap's end -/
theorem iz_newi (hx : p.tables.exec = Jvm.exec) (hb : c.code = cc) (hTB : TB s) (hK : va_K (kD K) vcl (kTY K) s) (hP : va_P (kD K) vcl ws H) (hD : va_D A ws) (hS : va_S A H0 H locs) (hA : ∀ q, H0.size ≤ q → A q) (N : Nat) {i : Int} (hi : i = (N : Int)) (hN : N < 1000) (hcells : cells + 1 ≤ R.cells) (hslots : slots + N ≤ R.slots) {z : Nat} (hz : H.size = z) (hd : decode cc pc = .ok (.newarray .int, 2))
    (kk : ∀ (H1 : Heap), H1.size = z + 1 → va_P (kD K) vcl (ws ++ [(z, .inl (kI K, N, .inl (iA (fun _ => 0))))]) H1 → va_D A (ws ++ [(z, .inl (kI K, N, .inl (iA (fun _ => 0))))]) → va_S A H0 H1 locs → W p l e R s m args below meth c H1 locs (cells + 1) (slots + N) Q (F0 m (pc + 2) ls (.ref z :: rest))) : W p l e R s m args below meth c H locs cells slots Q (F0 m pc ls (.int (iI i) :: rest)) := by
  subst hi
  subst hz
  refine va_newaK (atype := .int) hx hb (hTB _ wa_arrInt args) rfl hd rfl (iI_nn ⟨by omega, by omega⟩ (by omega)) (iI_k (by omega)) (by show N * 4 ≤ _; omega) hcells hslots rfl fun H1 cA e1 z1 o1 hAr hNm => ?_
  have hcA : cA = kI K := Option.some.inj (hNm.symm.trans (hK.2 0 _ rfl).2)
  subst hcA
  have hk : ∀ (k : Nat) (x : Nat × va_E), ws[k]? = some x → H1[x.1]? = H[x.1]? := fun k x hx => o1 x.1 ((hP k x hx).lt)
  refine kk H1 z1 ((hP.kept hk).app (fun k x hx => ?_)) (hD.push hP rfl (hA _ hS.1)) ⟨Nat.le_trans hS.1 (by omega), fun x h1 h2 => (o1 x (Nat.lt_of_lt_of_le h1 hS.1)).trans (hS.2.1 x h1 h2), hS.2.2⟩
  have hz : k < 1 := (List.getElem?_eq_some_iff.mp hx).1
  rw [show k = 0 by omega] at hx
  cases hx
  exact e1
theorem iz_newl (hx : p.tables.exec = Jvm.exec) (hb : c.code = cc) (hTB : TB s) (hK : va_K (kD K) vcl (kTY K) s) (hP : va_P (kD K) vcl ws H) (hD : va_D A ws) (hS : va_S A H0 H locs) (hA : ∀ q, H0.size ≤ q → A q) (N : Nat) {i : Int} (hi : i = (N : Int)) (hN : N < 1000) (hcells : cells + 1 ≤ R.cells) (hslots : slots + N ≤ R.slots) {z : Nat} (hz : H.size = z) (hd : decode cc pc = .ok (.newarray .long, 2))
    (kk : ∀ (H1 : Heap), H1.size = z + 1 → va_P (kD K) vcl (ws ++ [(z, .inl (kL K, N, .inr (.inl (lA (fun _ => 0)))))]) H1 → va_D A (ws ++ [(z, .inl (kL K, N, .inr (.inl (lA (fun _ => 0)))))]) → va_S A H0 H1 locs → W p l e R s m args below meth c H1 locs (cells + 1) (slots + N) Q (F0 m (pc + 2) ls (.ref z :: rest))) : W p l e R s m args below meth c H locs cells slots Q (F0 m pc ls (.int (iI i) :: rest)) := by
  subst hi
  subst hz
  refine va_newaK (atype := .long) hx hb (hTB _ wa_arrLong args) rfl hd rfl (iI_nn ⟨by omega, by omega⟩ (by omega)) (iI_k (by omega)) (by show N * 8 ≤ _; omega) hcells hslots rfl fun H1 cA e1 z1 o1 hAr hNm => ?_
  have hcA : cA = kL K := Option.some.inj (hNm.symm.trans (hK.2 1 _ rfl).2)
  subst hcA
  have hk : ∀ (k : Nat) (x : Nat × va_E), ws[k]? = some x → H1[x.1]? = H[x.1]? := fun k x hx => o1 x.1 ((hP k x hx).lt)
  refine kk H1 z1 ((hP.kept hk).app (fun k x hx => ?_)) (hD.push hP rfl (hA _ hS.1)) ⟨Nat.le_trans hS.1 (by omega), fun x h1 h2 => (o1 x (Nat.lt_of_lt_of_le h1 hS.1)).trans (hS.2.1 x h1 h2), hS.2.2⟩
  have hz : k < 1 := (List.getElem?_eq_some_iff.mp hx).1
  rw [show k = 0 by omega] at hx
  cases hx
  exact e1
/-- apart, by the addresses -/
theorem va_D_of {B : Nat → Prop} {ws : va_W} (h1 : (ws.map Prod.fst).Nodup) (h2 : ∀ q ∈ ws, B q.1) : va_D B ws := by
  refine ⟨fun i j p q hp hq hpq => ?_, fun k q hk => h2 q (List.mem_of_getElem? hk)⟩
  have hi : (ws.map Prod.fst)[i]? = some p.1 := by rw [List.getElem?_map, hp]; rfl
  have hj : (ws.map Prod.fst)[j]? = some p.1 := by rw [List.getElem?_map, hq, hpq]; rfl
  obtain ⟨gi, ei⟩ := List.getElem?_eq_some_iff.mp hi
  obtain ⟨gj, ej⟩ := List.getElem?_eq_some_iff.mp hj
  rcases Nat.lt_trichotomy i j with h | h | h
  · exact absurd (ei.trans ej.symm) (List.pairwise_iff_getElem.mp h1 i j gi gj h)
  · exact h
  · exact absurd (ej.trans ei.symm) (List.pairwise_iff_getElem.mp h1 j i gj gi h)
theorem va_RVof {ci q0 : Nat} {q : vw_C} {fs : List Value} (hK : va_K (kD K) vcl (kTY K) s) (hP : va_P (kD K) vcl ws H) (hc : vcl[ci]? = some q) (he : ws[q0]? = some (a, .inr (ci, fs))) : RV s H q.1 a := va_recv hK hP hc he
end IzCells
