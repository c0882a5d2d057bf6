-- THE LAW: what stays in the heap
abbrev rmLaw : Room := { frames := 2048, cells := 649577, slots := 7147374, locals := 84000 }
theorem P1 {D : va_G} {cl : List vw_C} {ws : va_W} {H : Heap} {q : Nat × va_E} (hP : va_P D cl ws H) (k : Nat) (hk : ws[k]? = some q) : va_P D cl [q] H := by
  intro k9 x hx
  have h1 : k9 < 1 := (List.getElem?_eq_some_iff.mp hx).1
  rw [show k9 = 0 by omega] at hx
  cases hx
  exact hP k q hk
theorem mem_mdW {K : KG} {b : Nat} {cd : Int} {wn : Nat} {ar oc lc st tk wa pk mu pr : Nat → Int} {co : Int} {cn bs : Nat → Int} {ln cu : Int} {pn : Nat} {le : Nat → Int} {bc : Int} {bb ld : Nat → Int} {x : Nat × va_E} (h : x ∈ mdW K b cd wn ar oc lc st tk wa pk mu pr co cn bs ln cu pn le bc bb ld) : b ≤ x.1 ∧ x.1 < b + 15 := by
  rcases List.mem_cons.mp h with rfl | h
  · exact ⟨(show b ≤ b by omega), (show b < b + 15 by omega)⟩
  rcases List.mem_cons.mp h with rfl | h
  · exact ⟨(show b ≤ b + 1 by omega), (show b + 1 < b + 15 by omega)⟩
  rcases List.mem_cons.mp h with rfl | h
  · exact ⟨(show b ≤ b + 2 by omega), (show b + 2 < b + 15 by omega)⟩
  rcases List.mem_cons.mp h with rfl | h
  · exact ⟨(show b ≤ b + 3 by omega), (show b + 3 < b + 15 by omega)⟩
  rcases List.mem_cons.mp h with rfl | h
  · exact ⟨(show b ≤ b + 4 by omega), (show b + 4 < b + 15 by omega)⟩
  rcases List.mem_cons.mp h with rfl | h
  · exact ⟨(show b ≤ b + 5 by omega), (show b + 5 < b + 15 by omega)⟩
  rcases List.mem_cons.mp h with rfl | h
  · exact ⟨(show b ≤ b + 6 by omega), (show b + 6 < b + 15 by omega)⟩
  rcases List.mem_cons.mp h with rfl | h
  · exact ⟨(show b ≤ b + 7 by omega), (show b + 7 < b + 15 by omega)⟩
  rcases List.mem_cons.mp h with rfl | h
  · exact ⟨(show b ≤ b + 8 by omega), (show b + 8 < b + 15 by omega)⟩
  rcases List.mem_cons.mp h with rfl | h
  · exact ⟨(show b ≤ b + 9 by omega), (show b + 9 < b + 15 by omega)⟩
  rcases List.mem_cons.mp h with rfl | h
  · exact ⟨(show b ≤ b + 10 by omega), (show b + 10 < b + 15 by omega)⟩
  rcases List.mem_cons.mp h with rfl | h
  · exact ⟨(show b ≤ b + 11 by omega), (show b + 11 < b + 15 by omega)⟩
  rcases List.mem_cons.mp h with rfl | h
  · exact ⟨(show b ≤ b + 12 by omega), (show b + 12 < b + 15 by omega)⟩
  rcases List.mem_cons.mp h with rfl | h
  · exact ⟨(show b ≤ b + 13 by omega), (show b + 13 < b + 15 by omega)⟩
  rcases List.mem_cons.mp h with rfl | h
  · exact ⟨(show b ≤ b + 14 by omega), (show b + 14 < b + 15 by omega)⟩
  cases h
theorem mem_shW {K : KG} {b : Nat} {kd : Int} {mu pr bg ch tr bn : Nat → Int} {bp bc sf : Int} {x : Nat × va_E} (h : x ∈ shW K b kd mu pr bg ch tr bn bp bc sf) : b ≤ x.1 ∧ x.1 < b + 7 := by
  rcases List.mem_cons.mp h with rfl | h
  · exact ⟨(show b ≤ b by omega), (show b < b + 7 by omega)⟩
  rcases List.mem_cons.mp h with rfl | h
  · exact ⟨(show b ≤ b + 1 by omega), (show b + 1 < b + 7 by omega)⟩
  rcases List.mem_cons.mp h with rfl | h
  · exact ⟨(show b ≤ b + 2 by omega), (show b + 2 < b + 7 by omega)⟩
  rcases List.mem_cons.mp h with rfl | h
  · exact ⟨(show b ≤ b + 3 by omega), (show b + 3 < b + 7 by omega)⟩
  rcases List.mem_cons.mp h with rfl | h
  · exact ⟨(show b ≤ b + 4 by omega), (show b + 4 < b + 7 by omega)⟩
  rcases List.mem_cons.mp h with rfl | h
  · exact ⟨(show b ≤ b + 5 by omega), (show b + 5 < b + 7 by omega)⟩
  rcases List.mem_cons.mp h with rfl | h
  · exact ⟨(show b ≤ b + 6 by omega), (show b + 6 < b + 7 by omega)⟩
  cases h
theorem mem_saW {K : KG} {b : Nat} {bl cu : Int} {Pn : Nat} {le : Nat → Int} {pl : Int} {Bn : Nat} {bo fr lo sl : Nat → Int} {x : Nat × va_E} (h : x ∈ saW K b bl cu Pn le pl Bn bo fr lo sl) : b ≤ x.1 ∧ x.1 < b + 6 := by
  rcases List.mem_cons.mp h with rfl | h
  · exact ⟨(show b ≤ b by omega), (show b < b + 6 by omega)⟩
  rcases List.mem_cons.mp h with rfl | h
  · exact ⟨(show b ≤ b + 1 by omega), (show b + 1 < b + 6 by omega)⟩
  rcases List.mem_cons.mp h with rfl | h
  · exact ⟨(show b ≤ b + 2 by omega), (show b + 2 < b + 6 by omega)⟩
  rcases List.mem_cons.mp h with rfl | h
  · exact ⟨(show b ≤ b + 3 by omega), (show b + 3 < b + 6 by omega)⟩
  rcases List.mem_cons.mp h with rfl | h
  · exact ⟨(show b ≤ b + 4 by omega), (show b + 4 < b + 6 by omega)⟩
  rcases List.mem_cons.mp h with rfl | h
  · exact ⟨(show b ≤ b + 5 by omega), (show b + 5 < b + 6 by omega)⟩
  cases h
/-- the class's cells but those of F are the same in both heaps -/
def KQ (b : Nat) (F : Nat → Prop) (H H2 : Heap) : Prop := ∀ q : Nat, b ≤ q → q < b + 104 → ¬ F q → H2[q]? = H[q]?
theorem Af.Pm {s t : State} {H H1 : Heap} {G : Addr → Prop} {n : Nat} {D : va_G} {cl : List vw_C} {ws : va_W} (h : Af s H G n t H1) (hP : va_P D cl ws H) (hf : ∀ x ∈ ws, ¬ G x.1) : va_P D cl ws H1 := h.P hP (fun _ q hk => hf q (List.mem_of_getElem? hk))
theorem KE.af {s t : State} {H H1 : Heap} {G : Addr → Prop} {n : Nat} (h0 : KE s.heap H) (h : Af s H G n t H1) (hG : ∀ q, G q → s.heap.size ≤ q) : KE s.heap H1 := ⟨Nat.le_trans h0.1 h.2.2.1, fun q hq => (h.2.2.2.2 q (Nat.lt_of_lt_of_le hq h0.1) (fun h9 => absurd (hG q h9) (by omega))).trans (h0.2 q hq)⟩
theorem Af.KQ1 {s t1 t2 : State} {b n1 n2 : Nat} {F G : Nat → Prop} {H H1 H2 : Heap} (h1 : Af s H G n1 t1 H1) (h2 : Af s H1 (fun x => b + 104 ≤ x ∧ x < b + 104 + 15) n2 t2 H2) (hsz : b + 119 < H.size) (hG : ∀ q, q < b + 104 → G q → F q) : KQ b F H H2 := fun q h3 h4 h5 => by
  have h6 := h1.2.2.1
  rw [h2.2.2.2.2 q (by omega) (by omega), h1.2.2.2.2 q (by omega) (fun h => h5 (hG q h4 h))]
theorem KE.KQ0 {s t2 : State} {b n2 : Nat} {H H1 H2 : Heap} (h1 : KE H H1) (h2 : Af s H1 (fun x => b + 104 ≤ x ∧ x < b + 104 + 15) n2 t2 H2) (hsz : b + 119 < H.size) : KQ b (fun _ => False) H H2 := fun q h3 h4 h5 => by
  have h6 := h1.1
  rw [h2.2.2.2.2 q (by omega) (by omega), h1.2 q (by omega)]
theorem OB.KQ0 {K : KG} {v : Int} {s t2 : State} {b n2 : Nat} {Hm H1 H2 : Heap} (h1 : OB K (b + 119) v Hm H1) (h2 : Af s H1 (fun x => b + 104 ≤ x ∧ x < b + 104 + 15) n2 t2 H2) : KQ b (fun _ => False) Hm H2 := fun q h3 h4 h5 => by
  have h6 := (h1.2.2 0 _ rfl).lt
  have h7 : b + 119 < H1.size := h6
  rw [h2.2.2.2.2 q (by omega) (by omega), h1.2.1 q (by omega)]
theorem Af.KQ2 {s t2 : State} {b n2 : Nat} {H1 H2 : Heap} (h2 : Af s H1 (fun x => b + 104 ≤ x ∧ x < b + 104 + 15) n2 t2 H2) (hsz : b + 119 < H1.size) : KQ b (fun _ => False) H1 H2 := fun q h3 h4 h5 => by
  rw [h2.2.2.2.2 q (by omega) (by omega)]
theorem Af.out {s t2 : State} {b n2 : Nat} {D : va_G} {cl : List vw_C} {x : va_E} {H1 H2 : Heap} (h2 : Af s H1 (fun x => b + 104 ≤ x ∧ x < b + 104 + 15) n2 t2 H2) (hP : va_P D cl [(b + 119, x)] H1) : va_P D cl [(b + 119, x)] H2 := va_P_k1 hP (h2.2.2.2.2 (b + 119) ((hP 0 _ rfl).lt) (fun h => absurd (show b + 119 < b + 104 + 15 from h.2) (by omega)))
section KQs
variable {D : va_G} {cl : List vw_C} {b : Nat} {F : Nat → Prop} {H H2 : Heap}
theorem KQ.P {ws : va_W} (h : KQ b F H H2) (hP : va_P D cl ws H) (hin : ∀ x ∈ ws, (b ≤ x.1 ∧ x.1 < b + 104) ∧ ¬ F x.1) : va_P D cl ws H2 := va_P_kp hP (fun x hx => h x.1 (hin x hx).1.1 (hin x hx).1.2 (hin x hx).2)
theorem KQ.c1 {a1 : Nat} {e1 : va_E} (h : KQ b F H H2) (hP : va_P D cl [(a1, e1)] H) (h1 : b ≤ a1) (h2 : a1 < b + 104) (h3 : ¬ F a1) : va_P D cl [(a1, e1)] H2 := va_P_k1 hP (h a1 h1 h2 h3)
theorem KQ.c2 {a1 a2 : Nat} {e1 e2 : va_E} (h : KQ b F H H2) (hP : va_P D cl [(a1, e1), (a2, e2)] H) (h1 : (b ≤ a1 ∧ a1 < b + 104) ∧ ¬ F a1) (h2 : (b ≤ a2 ∧ a2 < b + 104) ∧ ¬ F a2) : va_P D cl [(a1, e1), (a2, e2)] H2 := h.P hP (fun x hx => by
  rcases List.mem_cons.mp hx with rfl | hx
  · exact h1
  rcases List.mem_cons.mp hx with rfl | hx
  · exact h2
  cases hx)
end KQs
section XWs
variable {K : KG} {b wn : Nat} {ar oc lc : Nat → Int} {th : Nat → Nat → Int} {wa : Nat → Int} {Kn : Nat → Nat} {mu pr bg ch tr bn : Nat → Nat → Int} {bp bc sf : Nat → Int} {bl cu : Int} {Pn : Nat} {le : Nat → Int} {pl : Int} {Bn : Nat} {bo fr lo sl : Nat → Int} {H H2 : Heap}
theorem kq_main {F : Nat → Prop} (h : KQ b F H H2) (hF : ¬ F b ∧ ¬ F (b + 1) ∧ ¬ F (b + 26) ∧ ¬ F (b + 27)) (hP : va_P (kD K) vcl [(b, .inr (0, [.ref (b + 1), .int (iI ((wn : Nat) : Int)), .ref (b + 26), .ref (b + 27), .ref (b + 98)])), (b + 1, .inl (kW K, 12, .inr (.inr (.inr (.inr (fun i => some (b + 2 + 2 * i))))))), (b + 26, .inl (kI K, 10, .inl (iA wa))), (b + 27, .inl (kS K, 10, .inr (.inr (.inr (.inr (fun i => some (b + 28 + 7 * i)))))))] H) : va_P (kD K) vcl [(b, .inr (0, [.ref (b + 1), .int (iI ((wn : Nat) : Int)), .ref (b + 26), .ref (b + 27), .ref (b + 98)])), (b + 1, .inl (kW K, 12, .inr (.inr (.inr (.inr (fun i => some (b + 2 + 2 * i))))))), (b + 26, .inl (kI K, 10, .inl (iA wa))), (b + 27, .inl (kS K, 10, .inr (.inr (.inr (.inr (fun i => some (b + 28 + 7 * i)))))))] H2 := h.P hP (fun x hx => by
  rcases List.mem_cons.mp hx with rfl | hx
  · exact ⟨⟨Nat.le_refl _, (show b < b + 104 by omega)⟩, hF.1⟩
  rcases List.mem_cons.mp hx with rfl | hx
  · exact ⟨⟨(show b ≤ b + 1 by omega), (show b + 1 < b + 104 by omega)⟩, hF.2.1⟩
  rcases List.mem_cons.mp hx with rfl | hx
  · exact ⟨⟨(show b ≤ b + 26 by omega), (show b + 26 < b + 104 by omega)⟩, hF.2.2.1⟩
  rcases List.mem_cons.mp hx with rfl | hx
  · exact ⟨⟨(show b ≤ b + 27 by omega), (show b + 27 < b + 104 by omega)⟩, hF.2.2.2⟩
  cases hx)
theorem kq_wall {F : Nat → Prop} (h : KQ b F H H2) {i : Nat} (hi : i < 12) {x1 x2 x3 : Int} {t1 : Nat → Int} (h1 : ¬ F (b + 2 + 2 * i)) (h2 : ¬ F (b + 2 + 2 * i + 1)) (hP : va_P (kD K) vcl [(b + 2 + 2 * i, .inr (1, [.int (iI (x1)), .int (iI (x2)), .int (iI (x3)), .ref (b + 2 + 2 * i + 1)])), (b + 2 + 2 * i + 1, .inl (kI K, 10, .inl (iA (t1))))] H) : va_P (kD K) vcl [(b + 2 + 2 * i, .inr (1, [.int (iI (x1)), .int (iI (x2)), .int (iI (x3)), .ref (b + 2 + 2 * i + 1)])), (b + 2 + 2 * i + 1, .inl (kI K, 10, .inl (iA (t1))))] H2 := h.c2 hP ⟨⟨by omega, by omega⟩, h1⟩ ⟨⟨by omega, by omega⟩, h2⟩
theorem kq_shelf {F : Nat → Prop} (h : KQ b F H H2) {j : Nat} (hj : j < 10) {kd : Int} {m1 p1 b1 c1 t1 n1 : Nat → Int} {x1 x2 x3 : Int} (hF : ∀ q, b + 28 + 7 * j ≤ q → q < b + 28 + 7 * j + 7 → ¬ F q) (hP : va_P (kD K) vcl (shW K (b + 28 + 7 * j) kd m1 p1 b1 c1 t1 n1 x1 x2 x3) H) : va_P (kD K) vcl (shW K (b + 28 + 7 * j) kd m1 p1 b1 c1 t1 n1 x1 x2 x3) H2 := h.P hP (fun x hx => by
  have h9 := mem_shW hx
  exact ⟨⟨by omega, by omega⟩, hF x.1 h9.1 h9.2⟩)
theorem kq_saw {F : Nat → Prop} (h : KQ b F H H2) (hF : ∀ q, b + 98 ≤ q → q < b + 98 + 6 → ¬ F q) (hP : va_P (kD K) vcl (saW K (b + 98) bl cu Pn le pl Bn bo fr lo sl) H) : va_P (kD K) vcl (saW K (b + 98) bl cu Pn le pl Bn bo fr lo sl) H2 := h.P hP (fun x hx => by
  have h9 := mem_saW hx
  exact ⟨⟨by omega, by omega⟩, hF x.1 h9.1 h9.2⟩)
theorem xT_keep (hX : xW K b wn ar oc lc th wa Kn mu pr bg ch tr bn bp bc sf bl cu Pn le pl Bn bo fr lo sl H) (h : KQ b (fun _ => False) H H2) : xW K b wn ar oc lc th wa Kn mu pr bg ch tr bn bp bc sf bl cu Pn le pl Bn bo fr lo sl H2 := ⟨kq_main h ⟨id, id, id, id⟩ hX.1, fun i hi => kq_wall h hi id id (hX.2.1 i hi), fun j hj => kq_shelf h hj (fun _ _ _ => id) (hX.2.2.1 j hj), kq_saw h (fun _ _ _ => id) hX.2.2.2⟩
theorem xT_wall {j : Nat} {v : Int} (hX : xW K b wn ar oc lc th wa Kn mu pr bg ch tr bn bp bc sf bl cu Pn le pl Bn bo fr lo sl H) (h : KQ b (fun q => q = b ∨ q = b + 2 + 2 * j) H H2) (ej : j = wn) (hw : wn < 12) (hN : va_P (kD K) vcl [(b, .inr (0, [.ref (b + 1), .int (iI (((wn + 1) : Nat) : Int)), .ref (b + 26), .ref (b + 27), .ref (b + 98)])), (b + 2 + 2 * j, .inr (1, [.int (iI (v)), .int (iI (oc j)), .int (iI (lc j)), .ref (b + 2 + 2 * j + 1)]))] H2) : xW K b (wn + 1) (ut ar wn v) oc lc th wa Kn mu pr bg ch tr bn bp bc sf bl cu Pn le pl Bn bo fr lo sl H2 := by
  subst ej
  refine ⟨?_, fun i hi => ?_, fun i hi => kq_shelf h hi (fun q _ _ h9 => by (try dsimp only at h9); omega) (hX.2.2.1 i hi), kq_saw h (fun q _ _ h9 => by (try dsimp only at h9); omega) hX.2.2.2⟩
  · exact va_P_two (P1 hN 0 rfl) (h.P (hX.1.sub (ws' := [(b + 1, .inl (kW K, 12, .inr (.inr (.inr (.inr (fun i => some (b + 2 + 2 * i))))))), (b + 26, .inl (kI K, 10, .inl (iA wa))), (b + 27, .inl (kS K, 10, .inr (.inr (.inr (.inr (fun i => some (b + 28 + 7 * i)))))))]) [1, 2, 3] rfl) (fun x hx => by
      rcases List.mem_cons.mp hx with rfl | hx
      · exact ⟨⟨(show b ≤ b + 1 by omega), (show b + 1 < b + 104 by omega)⟩, (show ¬ (b + 1 = b ∨ b + 1 = b + 2 + 2 * j) by omega)⟩
      rcases List.mem_cons.mp hx with rfl | hx
      · exact ⟨⟨(show b ≤ b + 26 by omega), (show b + 26 < b + 104 by omega)⟩, (show ¬ (b + 26 = b ∨ b + 26 = b + 2 + 2 * j) by omega)⟩
      rcases List.mem_cons.mp hx with rfl | hx
      · exact ⟨⟨(show b ≤ b + 27 by omega), (show b + 27 < b + 104 by omega)⟩, (show ¬ (b + 27 = b ∨ b + 27 = b + 2 + 2 * j) by omega)⟩
      cases hx))
  · by_cases e : i = j
    · subst e
      rw [ut_s]
      exact va_P_two (P1 hN 1 rfl) (h.c1 (P1 (hX.2.1 i hi) 1 rfl) (by omega) (by omega) (by (try dsimp only); omega))
    · rw [ut_n _ _ e]
      exact kq_wall h hi (by (try dsimp only); omega) (by (try dsimp only); omega) (hX.2.1 i hi)
theorem xT_open {j : Nat} {v w : Int} (hX : xW K b wn ar oc lc th wa Kn mu pr bg ch tr bn bp bc sf bl cu Pn le pl Bn bo fr lo sl H) (hj : j < 12) (h : KQ b (fun q => q = b + 2 + 2 * j) H H2) (hN : va_P (kD K) vcl [(b + 2 + 2 * j, .inr (1, [.int (iI (v)), .int (iI (w)), .int (iI (lc j)), .ref (b + 2 + 2 * j + 1)]))] H2) : xW K b wn (ut ar j v) (ut oc j w) lc th wa Kn mu pr bg ch tr bn bp bc sf bl cu Pn le pl Bn bo fr lo sl H2 := by
  refine ⟨kq_main h ⟨by (try dsimp only); omega, by (try dsimp only); omega, by (try dsimp only); omega, by (try dsimp only); omega⟩ hX.1, fun i hi => ?_, fun i hi => kq_shelf h hi (fun q _ _ h9 => by (try dsimp only at h9); omega) (hX.2.2.1 i hi), kq_saw h (fun q _ _ h9 => by (try dsimp only at h9); omega) hX.2.2.2⟩
  by_cases e : i = j
  · subst e
    rw [ut_s, ut_s]
    exact va_P_two hN (h.c1 (P1 (hX.2.1 i hi) 1 rfl) (by omega) (by omega) (by (try dsimp only); omega))
  · rw [ut_n _ _ e, ut_n _ _ e]
    exact kq_wall h hi (by (try dsimp only); omega) (by (try dsimp only); omega) (hX.2.1 i hi)
theorem xT_layer {j : Nat} {v : Int} {t1 : Nat → Int} (hX : xW K b wn ar oc lc th wa Kn mu pr bg ch tr bn bp bc sf bl cu Pn le pl Bn bo fr lo sl H) (hj : j < 12) (h : KQ b (fun q => q = b + 2 + 2 * j ∨ q = b + 2 + 2 * j + 1) H H2) (hN : va_P (kD K) vcl [(b + 2 + 2 * j, .inr (1, [.int (iI (ar j)), .int (iI (oc j)), .int (iI (v)), .ref (b + 2 + 2 * j + 1)])), (b + 2 + 2 * j + 1, .inl (kI K, 10, .inl (iA (t1))))] H2) : xW K b wn ar oc (ut lc j v) (ut th j t1) wa Kn mu pr bg ch tr bn bp bc sf bl cu Pn le pl Bn bo fr lo sl H2 := by
  refine ⟨kq_main h ⟨by (try dsimp only); omega, by (try dsimp only); omega, by (try dsimp only); omega, by (try dsimp only); omega⟩ hX.1, fun i hi => ?_, fun i hi => kq_shelf h hi (fun q _ _ h9 => by (try dsimp only at h9); omega) (hX.2.2.1 i hi), kq_saw h (fun q _ _ h9 => by (try dsimp only at h9); omega) hX.2.2.2⟩
  by_cases e : i = j
  · subst e
    rw [ut_s, ut_s]
    exact hN
  · rw [ut_n _ _ e, ut_n _ _ e]
    exact kq_wall h hi (by (try dsimp only); omega) (by (try dsimp only); omega) (hX.2.1 i hi)
theorem xT_waste {w1 : Nat → Int} (hX : xW K b wn ar oc lc th wa Kn mu pr bg ch tr bn bp bc sf bl cu Pn le pl Bn bo fr lo sl H) (h : KQ b (fun q => q = b + 26) H H2) (hN : va_P (kD K) vcl [(b + 26, .inl (kI K, 10, .inl (iA w1)))] H2) : xW K b wn ar oc lc th w1 Kn mu pr bg ch tr bn bp bc sf bl cu Pn le pl Bn bo fr lo sl H2 := by
  refine ⟨?_, fun i hi => kq_wall h hi (by (try dsimp only); omega) (by (try dsimp only); omega) (hX.2.1 i hi), fun i hi => kq_shelf h hi (fun q _ _ h9 => by (try dsimp only at h9); omega) (hX.2.2.1 i hi), kq_saw h (fun q _ _ h9 => by (try dsimp only at h9); omega) hX.2.2.2⟩
  exact va_P_two (h.c2 (hX.1.sub (ws' := [(b, .inr (0, [.ref (b + 1), .int (iI ((wn : Nat) : Int)), .ref (b + 26), .ref (b + 27), .ref (b + 98)])), (b + 1, .inl (kW K, 12, .inr (.inr (.inr (.inr (fun i => some (b + 2 + 2 * i)))))))]) [0, 1] rfl) ⟨⟨by omega, by omega⟩, by (try dsimp only); omega⟩ ⟨⟨by omega, by omega⟩, by (try dsimp only); omega⟩) (va_P_two hN (h.c1 (P1 hX.1 3 rfl) (by omega) (by omega) (by (try dsimp only); omega)))
theorem xT_shelf {j k1 : Nat} {m1 p1 b1 c1 t1 n1 : Nat → Int} {x1 x2 x3 : Int} (hX : xW K b wn ar oc lc th wa Kn mu pr bg ch tr bn bp bc sf bl cu Pn le pl Bn bo fr lo sl H) (hj : j < 10) (h : KQ b (fun q => b + 28 + 7 * j ≤ q ∧ q < b + 28 + 7 * j + 7) H H2) (hN : va_P (kD K) vcl (shW K (b + 28 + 7 * j) ((k1 : Nat) : Int) m1 p1 b1 c1 t1 n1 x1 x2 x3) H2) : xW K b wn ar oc lc th wa (ut Kn j k1) (ut mu j m1) (ut pr j p1) (ut bg j b1) (ut ch j c1) (ut tr j t1) (ut bn j n1) (ut bp j x1) (ut bc j x2) (ut sf j x3) bl cu Pn le pl Bn bo fr lo sl H2 := by
  refine ⟨kq_main h ⟨by (try dsimp only); omega, by (try dsimp only); omega, by (try dsimp only); omega, by (try dsimp only); omega⟩ hX.1, fun i hi => kq_wall h hi (by (try dsimp only); omega) (by (try dsimp only); omega) (hX.2.1 i hi), fun i hi => ?_, kq_saw h (fun q _ _ h9 => by (try dsimp only at h9); omega) hX.2.2.2⟩
  by_cases e : i = j
  · subst e
    simp only [ut_s]
    exact hN
  · simp only [ut_n _ _ e]
    exact kq_shelf h hi (fun q _ _ h9 => by (try dsimp only at h9); omega) (hX.2.2.1 i hi)
theorem xT_saw {bl1 cu1 : Int} {Pn1 : Nat} {le1 : Nat → Int} {pl1 : Int} {Bn1 : Nat} {bo1 fr1 lo1 sl1 : Nat → Int} (hX : xW K b wn ar oc lc th wa Kn mu pr bg ch tr bn bp bc sf bl cu Pn le pl Bn bo fr lo sl H) (h : KQ b (fun q => b + 98 ≤ q ∧ q < b + 98 + 6) H H2) (hN : va_P (kD K) vcl (saW K (b + 98) bl1 cu1 Pn1 le1 pl1 Bn1 bo1 fr1 lo1 sl1) H2) : xW K b wn ar oc lc th wa Kn mu pr bg ch tr bn bp bc sf bl1 cu1 Pn1 le1 pl1 Bn1 bo1 fr1 lo1 sl1 H2 :=
  ⟨kq_main h ⟨by (try dsimp only); omega, by (try dsimp only); omega, by (try dsimp only); omega, by (try dsimp only); omega⟩ hX.1, fun i hi => kq_wall h hi (by (try dsimp only); omega) (by (try dsimp only); omega) (hX.2.1 i hi), fun i hi => kq_shelf h hi (fun q _ _ h9 => by (try dsimp only at h9); omega) (hX.2.2.1 i hi), hN⟩
theorem xT_shelves {t1 n1 : Nat → Nat → Int} {x1 x2 x3 : Nat → Int} (hX : xW K b wn ar oc lc th wa Kn mu pr bg ch tr bn bp bc sf bl cu Pn le pl Bn bo fr lo sl H) (h : KQ b (fun q => b + 28 ≤ q ∧ q < b + 98) H H2) (hN : ∀ j, j < 10 → va_P (kD K) vcl (shW K (b + 28 + 7 * j) (Kn j : Nat) (mu j) (pr j) (bg j) (ch j) (t1 j) (n1 j) (x1 j) (x2 j) (x3 j)) H2) : xW K b wn ar oc lc th wa Kn mu pr bg ch t1 n1 x1 x2 x3 bl cu Pn le pl Bn bo fr lo sl H2 :=
  ⟨kq_main h ⟨by (try dsimp only); omega, by (try dsimp only); omega, by (try dsimp only); omega, by (try dsimp only); omega⟩ hX.1, fun i hi => kq_wall h hi (by (try dsimp only); omega) (by (try dsimp only); omega) (hX.2.1 i hi), hN, kq_saw h (fun q _ _ h9 => by (try dsimp only at h9); omega) hX.2.2.2⟩
end XWs
/-- the law's invariant: the class at b, the reference at b + 104, the answer's cell at b + 119 -/
def LwI (K : KG) (b : Nat) (H : Heap) : Prop := ∃ (wn : Nat) (ar oc lc : Nat → Int) (th : Nat → Nat → Int) (wa : Nat → Int) (Kn : Nat → Nat) (mu pr bg ch tr bn : Nat → Nat → Int) (bp bc sf : Nat → Int) (bl cu : Int) (Pn : Nat) (le : Nat → Int) (pl : Int) (Bn : Nat) (bo fr lo sl : Nat → Int) (cd : Int) (st tk pk muM prM : Nat → Int) (co : Int) (cn bs : Nat → Int) (bcM : Int) (bb ld o9 : Nat → Int), liW wn ar oc lc st tk wa th ∧ liS pk muM prM Kn mu pr bg ch bn bp bc sf ∧ SwI bl cu Pn le pl Bn bo fr ∧ xW K b wn ar oc lc th wa Kn mu pr bg ch tr bn bp bc sf bl cu Pn le pl Bn bo fr lo sl H ∧ va_P (kD K) vcl (mdW K (b + 104) cd wn ar oc lc st tk wa pk muM prM co cn bs bl cu Pn le bcM bb ld) H ∧ va_P (kD K) vcl [(b + 119, .inl (kL K, 1, .inr (.inl (lA o9))))] H
theorem LwI.of {K : KG} {b : Nat} {H : Heap} {wn : Nat} {ar oc lc : Nat → Int} {th : Nat → Nat → Int} {wa : Nat → Int} {Kn : Nat → Nat} {mu pr bg ch tr bn : Nat → Nat → Int} {bp bc sf : Nat → Int} {bl cu : Int} {Pn : Nat} {le : Nat → Int} {pl : Int} {Bn : Nat} {bo fr lo sl : Nat → Int} {cd : Int} {st tk pk muM prM : Nat → Int} {co : Int} {cn bs : Nat → Int} {bcM : Int} {bb ld o9 : Nat → Int} (h0 : liW wn ar oc lc st tk wa th) (h1 : liS pk muM prM Kn mu pr bg ch bn bp bc sf) (h2 : SwI bl cu Pn le pl Bn bo fr) (h3 : xW K b wn ar oc lc th wa Kn mu pr bg ch tr bn bp bc sf bl cu Pn le pl Bn bo fr lo sl H) (h4 : va_P (kD K) vcl (mdW K (b + 104) cd wn ar oc lc st tk wa pk muM prM co cn bs bl cu Pn le bcM bb ld) H) (h5 : va_P (kD K) vcl [(b + 119, .inl (kL K, 1, .inr (.inl (lA o9))))] H) : LwI K b H := ⟨wn, ar, oc, lc, th, wa, Kn, mu, pr, bg, ch, tr, bn, bp, bc, sf, bl, cu, Pn, le, pl, Bn, bo, fr, lo, sl, cd, st, tk, pk, muM, prM, co, cn, bs, bcM, bb, ld, o9, h0, h1, h2, h3, h4, h5⟩
section LawRows2
variable {p : Program} {l : Launch} {e : Env} {R : Room} {s : State} {m : MethodId} {args : Array Value} {below : List Frame} {meth : Method} {c : Code} {H : Heap} {locs : List Loc} {cells slots : Nat} {Q : State → Prop}
variable {pc : Nat} {ls : Array Slot} {rest : List Value} {cc : ByteArray}
theorem iz_lcs (hx : p.tables.exec = Jvm.exec) (hb : c.code = cc) {v : Int} {off : Int} {tgt : Nat} (hd : decode cc pc = .ok (.lcmp, 1)) (hd2 : decode cc (pc + 1) = .ok (.ifCond .eq off, 3)) (ht : ((pc + 1 : Nat) : Int) + off = (tgt : Int)) (kt : W p l e R s m args below meth c H locs cells slots Q (F0 m tgt ls rest)) : W p l e R s m args below meth c H locs cells slots Q (F0 m pc ls (.long (lI v) :: .long (lI v) :: rest)) := by
  obtain ⟨w, hw, ew⟩ := lI_ex (lI v)
  rw [ew]
  exact iz_lc_eq hx hb hw hw hd hd2 ht (fun _ => kt) (fun h => absurd rfl h)
theorem iz_sldv {sb L : Nat} {xs : Nat → Int32} (hx : p.tables.exec = Jvm.exec) (hb : c.code = cc) (hX : va_X sb L xs s s.heap) (hbl : sb < s.heap.size) (hk0 : KE s.heap H) {i v : Int} (k : Nat) (hi : i = (k : Int)) (hk : k < L) (hL : L ≤ 2048) (hv : v = (xs k).toInt) (hd : decode cc pc = .ok (.iaload, 1))
    (kk : W p l e R s m args below meth c H [] cells slots Q (F0 m (pc + 1) ls (.int (iI v) :: rest))) : W p l e R s m args below meth c H [] cells slots Q (F0 m pc ls (.int (iI i) :: .ref sb :: rest)) := by
  subst hv
  exact iz_sld (A := fun q => s.heap.size ≤ q) hx hb hX hbl (by omega) ⟨hk0.1, fun q h _ => hk0.2 q h, fun _ h => by cases h⟩ k hi hk hL hd kk
end LawRows2
