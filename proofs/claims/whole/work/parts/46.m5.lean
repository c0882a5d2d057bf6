-- the reference: the plan
abbrev rmM_usedBefore : Room := { frames := 0, cells := 0, slots := 0, locals := 0 }
set_option maxHeartbeats 4000000 in
set_option maxRecDepth 100000 in
/-- usedBefore(piece) -/
theorem c_M_used (l : Launch) (K : KG) (b : Nat) (cd : Int) (wn : Nat) (ar oc lc st tk wa pk mu pr : Nat → Int) (co : Int) (cn bs : Nat → Int) (ln cu : Int) (pn : Nat) (le : Nat → Int) (bc : Int) (bb ld : Nat → Int) (pq u : Nat) (hp : pq ≤ 10) (hu : plU bb pq u) (hu10 : u ≤ 10) : Ct l yM_usedBefore kM_usedBefore rmM_usedBefore (PC K [.ref b, .int (iI (pq : Int))] (fun H => va_P (kD K) vcl (mdW K b cd wn ar oc lc st tk wa pk mu pr co cn bs ln cu pn le bc bb ld) H)) (QI (fun r _ => r = u)) (fun _ => False) := by
  refine ct_of (by decide) (Or.inl ⟨rfl, rfl⟩) ?_
  intro p e s m args below meth c B0 hP0
  obtain ⟨hx, hb, hr, hml, hown, hlocks, hnm, htab⟩ := B0
  obtain ⟨ha, ⟨hT, hK⟩, hB⟩ := hP0
  have hl := lv_entry ([.ref b, .int (iI (pq : Int))]) (n := 4) (Nat.le_of_ble_eq_true rfl)
  obtain ⟨Q, hQ⟩ : ∃ Q, Q = XQ below (QI (fun r _ => r = u)) args s rmM_usedBefore.cells rmM_usedBefore.slots (fun _ => False) := ⟨_, rfl⟩
  rw [← hQ, ha, lg_entry_eq]
  rw [ha] at hQ
  generalize (lg_sl ([.ref b, .int (iI (pq : Int))]) ++ List.replicate (4 - (lg_sl ([.ref b, .int (iI (pq : Int))])).length) Slot.unset).toArray = ls at hl ⊢
  generalize ([.ref b, .int (iI (pq : Int))] : List Value).toArray = args at hQ ⊢
  have hts : ∀ w ∈ TW, w.before args s = true := fun w h => hT w h args
  have hl : lv_has ls 4 [(0, .ref b), (1, .int (iI (pq : Int)))] := hl
  obtain ⟨A, hAe⟩ : ∃ A : Addr → Prop, A = (fun _ => False) := ⟨_, rfl⟩
  rw [← hAe] at hQ
  have hS : va_S A s.heap s.heap [] := va_S.rf
  have hP : va_P (kD K) vcl [(b, .inr (4, [.int (iI cd), .int (iI (wn : Int)), .ref (b + 1), .ref (b + 2), .ref (b + 3), .ref (b + 4), .ref (b + 5), .ref (b + 6), .ref (b + 7), .ref (b + 8), .ref (b + 9), .long (lI co), .ref (b + 10), .ref (b + 11), .int (iI ln), .int (iI cu), .int (iI (pn : Int)), .ref (b + 12), .int (iI bc), .ref (b + 13), .ref (b + 14)])), (b + 1, .inl (kI K, 12, .inl (iA ar))), (b + 2, .inl (kI K, 12, .inl (iA oc))), (b + 3, .inl (kI K, 12, .inl (iA lc))), (b + 4, .inl (kI K, 96, .inl (iA st))), (b + 5, .inl (kI K, 96, .inl (iA tk))), (b + 6, .inl (kI K, 10, .inl (iA wa))), (b + 7, .inl (kI K, 10, .inl (iA pk))), (b + 8, .inl (kL K, 40, .inr (.inl (lA mu)))), (b + 9, .inl (kL K, 40, .inr (.inl (lA pr)))), (b + 10, .inl (kI K, 4, .inl (iA cn))), (b + 11, .inl (kI K, 4, .inl (iA bs))), (b + 12, .inl (kI K, 10, .inl (iA le))), (b + 13, .inl (kI K, 10, .inl (iA bb))), (b + 14, .inl (kI K, 10, .inl (iA ld)))] s.heap := hB
  have loop : ∀ (n i : Nat) (z : Int), pq + 1 ≤ i + n → i ≤ pq → (0 ≤ z ∧ z ≤ 10) → plU bb i z → ∀ ls : Array Slot, lv_has ls 4 [(0, .ref b), (1, .int (iI (pq : Int))), (2, .int (iI z)), (3, .int (iI (i : Int)))] → W p l e rmM_usedBefore s m args below meth c s.heap [] 0 0 Q (F0 m 4 ls []) := by
    intro n
    induction n with
    | zero => intro i z h1 h2; omega
    | succ n ih =>
      intro i z h1 h2 hz hm ls hl
      refine lv_iload_n hx hb dM_usedBefore_4 rfl (lv_at hl 3 rfl) ?_
      refine lv_iload_n hx hb dM_usedBefore_5 rfl (lv_at hl 1 rfl) ?_
      refine iz_icmp_ge (tgt := 40) hx hb ⟨by omega, by omega⟩ ⟨by omega, by omega⟩ dM_usedBefore_6 (by decide) (fun g1 => ?_) (fun g1 => ?_)
      · have e : pq = i := by omega
        subst e
        refine lv_iload_n hx hb dM_usedBefore_40 rfl (lv_at hl 2 rfl) ?_
        rw [hQ]
        exact iz_iret hx hb hr hlocks (plU_eq hm hu) (fun _ h => absurd h List.not_mem_nil) dM_usedBefore_41
      · have qi := hu.1 i (by omega)
        refine lv_aload_n hx hb dM_usedBefore_9 rfl (lv_at hl 0 rfl) ?_
        refine va_get (D := kD K) (ci := 4) (v := .ref (b + 13)) (C := RM) (T := FM) (N := 21) hx hb hts jnM hown hK hP 0 rfl rfl 19 (by decide) (hts _ mt_482) (fun _ h9 => h9) rfl dM_usedBefore_10 ?_
        refine lv_iload_n hx hb dM_usedBefore_13 rfl (lv_at hl 3 rfl) ?_
        refine iz_iald hx hb hK hP 13 rfl i rfl (by omega) (by omega) dM_usedBefore_14 ?_
        refine iz_iconst hx hb dM_usedBefore_15 ?_
        refine iz_iadd hx hb dM_usedBefore_16 ?_
        refine lv_iload_n hx hb dM_usedBefore_17 rfl (lv_at hl 2 rfl) ?_
        refine iz_icmp_le (tgt := 32) hx hb ⟨by omega, by omega⟩ ⟨by omega, by omega⟩ dM_usedBefore_18 (by decide) (fun g2 => ?_) (fun g2 => ?_)
        · refine lv_iload_n hx hb dM_usedBefore_32 rfl (lv_at hl 2 rfl) ?_
          refine lv_istore_n (lv' := [(2, .int (iI z)), (0, .ref b), (1, .int (iI (pq : Int))), (3, .int (iI (i : Int)))]) hx hb dM_usedBefore_33 rfl hl (by decide) rfl (fun ls hl => ?_)
          refine iz_iinc (k := 3) (lv' := [(3, .int (iI ((i : Int) + 1))), (2, .int (iI z)), (0, .ref b), (1, .int (iI (pq : Int)))]) hx hb dM_usedBefore_34 hl rfl (by decide) rfl (fun ls hl => ?_)
          refine lv_goto (tgt := 4) hx hb dM_usedBefore_37 (by decide) ?_
          exact ih (i + 1) z (by omega) (by omega) hz ⟨fun k hk => by by_cases e : k = i; subst e; omega; exact hm.1 k (by omega), by rcases hm.2 with h | ⟨k, hk, h⟩; exact Or.inl h; exact Or.inr ⟨k, by omega, h⟩⟩ ls (lv_sub hl [2, 3, 1, 0] rfl)
        · refine lv_aload_n hx hb dM_usedBefore_21 rfl (lv_at hl 0 rfl) ?_
          refine va_get (D := kD K) (ci := 4) (v := .ref (b + 13)) (C := RM) (T := FM) (N := 21) hx hb hts jnM hown hK hP 0 rfl rfl 19 (by decide) (hts _ mt_482) (fun _ h9 => h9) rfl dM_usedBefore_22 ?_
          refine lv_iload_n hx hb dM_usedBefore_25 rfl (lv_at hl 3 rfl) ?_
          refine iz_iald hx hb hK hP 13 rfl i rfl (by omega) (by omega) dM_usedBefore_26 ?_
          refine iz_iconst hx hb dM_usedBefore_27 ?_
          refine iz_iadd hx hb dM_usedBefore_28 ?_
          refine lv_goto (tgt := 33) hx hb dM_usedBefore_29 (by decide) ?_
          refine lv_istore_n (lv' := [(2, .int (iI ((bb i) + 1))), (0, .ref b), (1, .int (iI (pq : Int))), (3, .int (iI (i : Int)))]) hx hb dM_usedBefore_33 rfl hl (by decide) rfl (fun ls hl => ?_)
          refine iz_iinc (k := 3) (lv' := [(3, .int (iI ((i : Int) + 1))), (2, .int (iI ((bb i) + 1))), (0, .ref b), (1, .int (iI (pq : Int)))]) hx hb dM_usedBefore_34 hl rfl (by decide) rfl (fun ls hl => ?_)
          refine lv_goto (tgt := 4) hx hb dM_usedBefore_37 (by decide) ?_
          exact ih (i + 1) (bb i + 1) (by omega) (by omega) ⟨by omega, by omega⟩ ⟨fun k hk => by by_cases e : k = i; subst e; omega; have := hm.1 k (by omega); omega, Or.inr ⟨i, by omega, rfl⟩⟩ ls (lv_sub hl [2, 3, 1, 0] rfl)
  refine iz_iconst hx hb dM_usedBefore_0 ?_
  refine lv_istore_n (lv' := [(2, .int (iI 0)), (0, .ref b), (1, .int (iI (pq : Int)))]) hx hb dM_usedBefore_1 rfl hl (by decide) rfl (fun ls hl => ?_)
  refine iz_iconst hx hb dM_usedBefore_2 ?_
  refine lv_istore_n (lv' := [(3, .int (iI 0)), (2, .int (iI 0)), (0, .ref b), (1, .int (iI (pq : Int)))]) hx hb dM_usedBefore_3 rfl hl (by decide) rfl (fun ls hl => ?_)
  exact loop (pq + 1) 0 0 (by omega) (by omega) ⟨by omega, by omega⟩ (plU_0 bb) ls (lv_sub hl [2, 3, 1, 0] rfl)
abbrev rmM_goInto : Room := { frames := 1, cells := 0, slots := 0, locals := 40 }
set_option maxHeartbeats 4000000 in
set_option maxRecDepth 100000 in
/-- goInto(many) -/
theorem c_M_goInto (l : Launch) (K : KG) (b : Nat) (cd : Int) (wn : Nat) (ar oc lc st tk wa pk mu pr : Nat → Int) (co : Int) (cn bs : Nat → Int) (ln cu : Int) (pn : Nat) (le : Nat → Int) (bc : Int) (bb ld : Nat → Int) (Bn : Nat) (hBn : Bn ≤ 10) (hB9 : SwB ln cu pn le) : Ct l yM_goInto kM_goInto rmM_goInto (PC K [.ref b, .int (iI (Bn : Int))] (fun H => va_P (kD K) vcl (mdW K b cd wn ar oc lc st tk wa pk mu pr co cn bs ln cu pn le bc bb ld) H)) (QI (fun r H => (r = 1 ∧ ∃ fr' bb' : Nat → Int, pl_R (swz le cu) Bn 0 pn (fun _ => (ln + cu)) bb 1 fr' bb' ∧ va_P (kD K) vcl (mdW K b cd wn ar oc lc st tk wa pk mu pr co cn bs ln cu pn le bc bb' (ldF (ln + cu) fr')) H) ∨ (r = 0 ∧ (¬ ∃ a, pl_X (swz le cu) Bn a 0 pn (fun _ => (ln + cu))) ∧ ∃ bb' ld' : Nat → Int, va_P (kD K) vcl (mdW K b cd wn ar oc lc st tk wa pk mu pr co cn bs ln cu pn le bc bb' ld') H))) (fun x => b ≤ x ∧ x < b + 15) := by
  refine ct_of (by decide) (Or.inl ⟨rfl, rfl⟩) ?_
  intro p e s m args below meth c B0 hP0
  obtain ⟨hx, hb, hr, hml, hown, hlocks, hnm, htab⟩ := B0
  obtain ⟨ha, ⟨hT, hK⟩, hB⟩ := hP0
  have hl := lv_entry ([.ref b, .int (iI (Bn : Int))]) (n := 7) (Nat.le_of_ble_eq_true rfl)
  obtain ⟨Q, hQ⟩ : ∃ Q, Q = XQ below (QI (fun r H => (r = 1 ∧ ∃ fr' bb' : Nat → Int, pl_R (swz le cu) Bn 0 pn (fun _ => (ln + cu)) bb 1 fr' bb' ∧ va_P (kD K) vcl (mdW K b cd wn ar oc lc st tk wa pk mu pr co cn bs ln cu pn le bc bb' (ldF (ln + cu) fr')) H) ∨ (r = 0 ∧ (¬ ∃ a, pl_X (swz le cu) Bn a 0 pn (fun _ => (ln + cu))) ∧ ∃ bb' ld' : Nat → Int, va_P (kD K) vcl (mdW K b cd wn ar oc lc st tk wa pk mu pr co cn bs ln cu pn le bc bb' ld') H))) args s rmM_goInto.cells rmM_goInto.slots (fun x => b ≤ x ∧ x < b + 15) := ⟨_, rfl⟩
  rw [← hQ, ha, lg_entry_eq]
  rw [ha] at hQ
  generalize (lg_sl ([.ref b, .int (iI (Bn : Int))]) ++ List.replicate (7 - (lg_sl ([.ref b, .int (iI (Bn : Int))])).length) Slot.unset).toArray = ls at hl ⊢
  generalize ([.ref b, .int (iI (Bn : Int))] : List Value).toArray = args at hQ ⊢
  have hts : ∀ w ∈ TW, w.before args s = true := fun w h => hT w h args
  have hl : lv_has ls 7 [(0, .ref b), (1, .int (iI (Bn : Int)))] := hl
  obtain ⟨A, hAe⟩ : ∃ A : Addr → Prop, A = (fun x => b ≤ x ∧ x < b + 15) := ⟨_, rfl⟩
  rw [← hAe] at hQ
  have hS : va_S A s.heap s.heap [] := va_S.rf
  have hP : va_P (kD K) vcl [(b, .inr (4, [.int (iI cd), .int (iI (wn : Int)), .ref (b + 1), .ref (b + 2), .ref (b + 3), .ref (b + 4), .ref (b + 5), .ref (b + 6), .ref (b + 7), .ref (b + 8), .ref (b + 9), .long (lI co), .ref (b + 10), .ref (b + 11), .int (iI ln), .int (iI cu), .int (iI (pn : Int)), .ref (b + 12), .int (iI bc), .ref (b + 13), .ref (b + 14)])), (b + 1, .inl (kI K, 12, .inl (iA ar))), (b + 2, .inl (kI K, 12, .inl (iA oc))), (b + 3, .inl (kI K, 12, .inl (iA lc))), (b + 4, .inl (kI K, 96, .inl (iA st))), (b + 5, .inl (kI K, 96, .inl (iA tk))), (b + 6, .inl (kI K, 10, .inl (iA wa))), (b + 7, .inl (kI K, 10, .inl (iA pk))), (b + 8, .inl (kL K, 40, .inr (.inl (lA mu)))), (b + 9, .inl (kL K, 40, .inr (.inl (lA pr)))), (b + 10, .inl (kI K, 4, .inl (iA cn))), (b + 11, .inl (kI K, 4, .inl (iA bs))), (b + 12, .inl (kI K, 10, .inl (iA le))), (b + 13, .inl (kI K, 10, .inl (iA bb))), (b + 14, .inl (kI K, 10, .inl (iA ld)))] s.heap := hB
  have hD : va_D A [(b, .inr (4, [.int (iI cd), .int (iI (wn : Int)), .ref (b + 1), .ref (b + 2), .ref (b + 3), .ref (b + 4), .ref (b + 5), .ref (b + 6), .ref (b + 7), .ref (b + 8), .ref (b + 9), .long (lI co), .ref (b + 10), .ref (b + 11), .int (iI ln), .int (iI cu), .int (iI (pn : Int)), .ref (b + 12), .int (iI bc), .ref (b + 13), .ref (b + 14)])), (b + 1, .inl (kI K, 12, .inl (iA ar))), (b + 2, .inl (kI K, 12, .inl (iA oc))), (b + 3, .inl (kI K, 12, .inl (iA lc))), (b + 4, .inl (kI K, 96, .inl (iA st))), (b + 5, .inl (kI K, 96, .inl (iA tk))), (b + 6, .inl (kI K, 10, .inl (iA wa))), (b + 7, .inl (kI K, 10, .inl (iA pk))), (b + 8, .inl (kL K, 40, .inr (.inl (lA mu)))), (b + 9, .inl (kL K, 40, .inr (.inl (lA pr)))), (b + 10, .inl (kI K, 4, .inl (iA cn))), (b + 11, .inl (kI K, 4, .inl (iA bs))), (b + 12, .inl (kI K, 10, .inl (iA le))), (b + 13, .inl (kI K, 10, .inl (iA bb))), (b + 14, .inl (kI K, 10, .inl (iA ld)))] := by rw [hAe]; exact va_D_of (by simp) (by simp <;> omega)
  obtain ⟨hbl, hcu, hP10, hle⟩ := hB9
  have search : ∀ (d pq : Nat), pq + d = pn → ∀ (fr1 bb1 : Nat → Int) (u : Nat), plU bb1 pq u → u ≤ Bn → (∀ y, 0 ≤ fr1 y ∧ fr1 y ≤ (ln + cu)) → (∀ y, u ≤ y → fr1 y = (ln + cu)) → (∀ (fr2 bb2 : Nat → Int) (f : Int) (H : Heap) (locs : List Loc), pl_R (swz le cu) Bn pq d fr1 bb1 1 fr2 bb2 → va_P (kD K) vcl [(b, .inr (4, [.int (iI cd), .int (iI (wn : Int)), .ref (b + 1), .ref (b + 2), .ref (b + 3), .ref (b + 4), .ref (b + 5), .ref (b + 6), .ref (b + 7), .ref (b + 8), .ref (b + 9), .long (lI co), .ref (b + 10), .ref (b + 11), .int (iI ln), .int (iI cu), .int (iI (pn : Int)), .ref (b + 12), .int (iI bc), .ref (b + 13), .ref (b + 14)])), (b + 1, .inl (kI K, 12, .inl (iA ar))), (b + 2, .inl (kI K, 12, .inl (iA oc))), (b + 3, .inl (kI K, 12, .inl (iA lc))), (b + 4, .inl (kI K, 96, .inl (iA st))), (b + 5, .inl (kI K, 96, .inl (iA tk))), (b + 6, .inl (kI K, 10, .inl (iA wa))), (b + 7, .inl (kI K, 10, .inl (iA pk))), (b + 8, .inl (kL K, 40, .inr (.inl (lA mu)))), (b + 9, .inl (kL K, 40, .inr (.inl (lA pr)))), (b + 10, .inl (kI K, 4, .inl (iA cn))), (b + 11, .inl (kI K, 4, .inl (iA bs))), (b + 12, .inl (kI K, 10, .inl (iA le))), (b + 13, .inl (kI K, 10, .inl (iA bb2))), (b + 14, .inl (kI K, 10, .inl (iA (ldF (ln + cu) fr2))))] H → va_D A [(b, .inr (4, [.int (iI cd), .int (iI (wn : Int)), .ref (b + 1), .ref (b + 2), .ref (b + 3), .ref (b + 4), .ref (b + 5), .ref (b + 6), .ref (b + 7), .ref (b + 8), .ref (b + 9), .long (lI co), .ref (b + 10), .ref (b + 11), .int (iI ln), .int (iI cu), .int (iI (pn : Int)), .ref (b + 12), .int (iI bc), .ref (b + 13), .ref (b + 14)])), (b + 1, .inl (kI K, 12, .inl (iA ar))), (b + 2, .inl (kI K, 12, .inl (iA oc))), (b + 3, .inl (kI K, 12, .inl (iA lc))), (b + 4, .inl (kI K, 96, .inl (iA st))), (b + 5, .inl (kI K, 96, .inl (iA tk))), (b + 6, .inl (kI K, 10, .inl (iA wa))), (b + 7, .inl (kI K, 10, .inl (iA pk))), (b + 8, .inl (kL K, 40, .inr (.inl (lA mu)))), (b + 9, .inl (kL K, 40, .inr (.inl (lA pr)))), (b + 10, .inl (kI K, 4, .inl (iA cn))), (b + 11, .inl (kI K, 4, .inl (iA bs))), (b + 12, .inl (kI K, 10, .inl (iA le))), (b + 13, .inl (kI K, 10, .inl (iA bb2))), (b + 14, .inl (kI K, 10, .inl (iA (ldF (ln + cu) fr2))))] → va_S A s.heap H locs → ∀ ls : Array Slot, lv_has ls 7 [(0, .ref b), (1, .int (iI (Bn : Int))), (2, .int (iI (pn : Int))), (3, .int (iI f))] → W p l e rmM_goInto s m args below meth c H locs 0 0 Q (F0 m 25 ls [])) → (∀ (bb2 : Nat → Int) (H : Heap) (locs : List Loc), (¬ ∃ a, pl_X (swz le cu) Bn a pq d fr1) → (∀ i, i < pq → bb2 i = bb1 i) → va_P (kD K) vcl [(b, .inr (4, [.int (iI cd), .int (iI (wn : Int)), .ref (b + 1), .ref (b + 2), .ref (b + 3), .ref (b + 4), .ref (b + 5), .ref (b + 6), .ref (b + 7), .ref (b + 8), .ref (b + 9), .long (lI co), .ref (b + 10), .ref (b + 11), .int (iI ln), .int (iI cu), .int (iI (pn : Int)), .ref (b + 12), .int (iI bc), .ref (b + 13), .ref (b + 14)])), (b + 1, .inl (kI K, 12, .inl (iA ar))), (b + 2, .inl (kI K, 12, .inl (iA oc))), (b + 3, .inl (kI K, 12, .inl (iA lc))), (b + 4, .inl (kI K, 96, .inl (iA st))), (b + 5, .inl (kI K, 96, .inl (iA tk))), (b + 6, .inl (kI K, 10, .inl (iA wa))), (b + 7, .inl (kI K, 10, .inl (iA pk))), (b + 8, .inl (kL K, 40, .inr (.inl (lA mu)))), (b + 9, .inl (kL K, 40, .inr (.inl (lA pr)))), (b + 10, .inl (kI K, 4, .inl (iA cn))), (b + 11, .inl (kI K, 4, .inl (iA bs))), (b + 12, .inl (kI K, 10, .inl (iA le))), (b + 13, .inl (kI K, 10, .inl (iA bb2))), (b + 14, .inl (kI K, 10, .inl (iA (ldF (ln + cu) fr1))))] H → va_D A [(b, .inr (4, [.int (iI cd), .int (iI (wn : Int)), .ref (b + 1), .ref (b + 2), .ref (b + 3), .ref (b + 4), .ref (b + 5), .ref (b + 6), .ref (b + 7), .ref (b + 8), .ref (b + 9), .long (lI co), .ref (b + 10), .ref (b + 11), .int (iI ln), .int (iI cu), .int (iI (pn : Int)), .ref (b + 12), .int (iI bc), .ref (b + 13), .ref (b + 14)])), (b + 1, .inl (kI K, 12, .inl (iA ar))), (b + 2, .inl (kI K, 12, .inl (iA oc))), (b + 3, .inl (kI K, 12, .inl (iA lc))), (b + 4, .inl (kI K, 96, .inl (iA st))), (b + 5, .inl (kI K, 96, .inl (iA tk))), (b + 6, .inl (kI K, 10, .inl (iA wa))), (b + 7, .inl (kI K, 10, .inl (iA pk))), (b + 8, .inl (kL K, 40, .inr (.inl (lA mu)))), (b + 9, .inl (kL K, 40, .inr (.inl (lA pr)))), (b + 10, .inl (kI K, 4, .inl (iA cn))), (b + 11, .inl (kI K, 4, .inl (iA bs))), (b + 12, .inl (kI K, 10, .inl (iA le))), (b + 13, .inl (kI K, 10, .inl (iA bb2))), (b + 14, .inl (kI K, 10, .inl (iA (ldF (ln + cu) fr1))))] → va_S A s.heap H locs → ∀ ls : Array Slot, lv_has ls 7 [(0, .ref b), (1, .int (iI (Bn : Int))), (2, .int (iI (pq : Int)))] → W p l e rmM_goInto s m args below meth c H locs 0 0 Q (F0 m 151 ls [])) → ∀  (H : Heap) (locs : List Loc), va_P (kD K) vcl [(b, .inr (4, [.int (iI cd), .int (iI (wn : Int)), .ref (b + 1), .ref (b + 2), .ref (b + 3), .ref (b + 4), .ref (b + 5), .ref (b + 6), .ref (b + 7), .ref (b + 8), .ref (b + 9), .long (lI co), .ref (b + 10), .ref (b + 11), .int (iI ln), .int (iI cu), .int (iI (pn : Int)), .ref (b + 12), .int (iI bc), .ref (b + 13), .ref (b + 14)])), (b + 1, .inl (kI K, 12, .inl (iA ar))), (b + 2, .inl (kI K, 12, .inl (iA oc))), (b + 3, .inl (kI K, 12, .inl (iA lc))), (b + 4, .inl (kI K, 96, .inl (iA st))), (b + 5, .inl (kI K, 96, .inl (iA tk))), (b + 6, .inl (kI K, 10, .inl (iA wa))), (b + 7, .inl (kI K, 10, .inl (iA pk))), (b + 8, .inl (kL K, 40, .inr (.inl (lA mu)))), (b + 9, .inl (kL K, 40, .inr (.inl (lA pr)))), (b + 10, .inl (kI K, 4, .inl (iA cn))), (b + 11, .inl (kI K, 4, .inl (iA bs))), (b + 12, .inl (kI K, 10, .inl (iA le))), (b + 13, .inl (kI K, 10, .inl (iA bb1))), (b + 14, .inl (kI K, 10, .inl (iA (ldF (ln + cu) fr1))))] H → va_D A [(b, .inr (4, [.int (iI cd), .int (iI (wn : Int)), .ref (b + 1), .ref (b + 2), .ref (b + 3), .ref (b + 4), .ref (b + 5), .ref (b + 6), .ref (b + 7), .ref (b + 8), .ref (b + 9), .long (lI co), .ref (b + 10), .ref (b + 11), .int (iI ln), .int (iI cu), .int (iI (pn : Int)), .ref (b + 12), .int (iI bc), .ref (b + 13), .ref (b + 14)])), (b + 1, .inl (kI K, 12, .inl (iA ar))), (b + 2, .inl (kI K, 12, .inl (iA oc))), (b + 3, .inl (kI K, 12, .inl (iA lc))), (b + 4, .inl (kI K, 96, .inl (iA st))), (b + 5, .inl (kI K, 96, .inl (iA tk))), (b + 6, .inl (kI K, 10, .inl (iA wa))), (b + 7, .inl (kI K, 10, .inl (iA pk))), (b + 8, .inl (kL K, 40, .inr (.inl (lA mu)))), (b + 9, .inl (kL K, 40, .inr (.inl (lA pr)))), (b + 10, .inl (kI K, 4, .inl (iA cn))), (b + 11, .inl (kI K, 4, .inl (iA bs))), (b + 12, .inl (kI K, 10, .inl (iA le))), (b + 13, .inl (kI K, 10, .inl (iA bb1))), (b + 14, .inl (kI K, 10, .inl (iA (ldF (ln + cu) fr1))))] → va_S A s.heap H locs → ∀ ls : Array Slot, lv_has ls 7 [(0, .ref b), (1, .int (iI (Bn : Int))), (2, .int (iI (pq : Int))), (3, .int (iI 0))] → W p l e rmM_goInto s m args below meth c H locs 0 0 Q (F0 m 25 ls []) := by
    intro d
    induction d with
    | zero =>
      intro pq hpd fr1 bb1 u hU huB hfr hfu ky kn H locs hP hD hS ls hl
      have e : pn = pq := by omega
      subst e
      exact ky fr1 bb1 0 H locs pl_R_0 hP hD hS ls hl
    | succ d ih =>
      intro pq hpd fr1 bb1 u hU huB hfr hfu ky kn
      have qp := hle pq (by omega)
      have go25 : ∀ (f : Int), 0 ≤ f → ∀ bb2 : Nat → Int, (∀ i, i < pq → bb2 i = bb1 i) → ∀ (H : Heap) (locs : List Loc), va_P (kD K) vcl [(b, .inr (4, [.int (iI cd), .int (iI (wn : Int)), .ref (b + 1), .ref (b + 2), .ref (b + 3), .ref (b + 4), .ref (b + 5), .ref (b + 6), .ref (b + 7), .ref (b + 8), .ref (b + 9), .long (lI co), .ref (b + 10), .ref (b + 11), .int (iI ln), .int (iI cu), .int (iI (pn : Int)), .ref (b + 12), .int (iI bc), .ref (b + 13), .ref (b + 14)])), (b + 1, .inl (kI K, 12, .inl (iA ar))), (b + 2, .inl (kI K, 12, .inl (iA oc))), (b + 3, .inl (kI K, 12, .inl (iA lc))), (b + 4, .inl (kI K, 96, .inl (iA st))), (b + 5, .inl (kI K, 96, .inl (iA tk))), (b + 6, .inl (kI K, 10, .inl (iA wa))), (b + 7, .inl (kI K, 10, .inl (iA pk))), (b + 8, .inl (kL K, 40, .inr (.inl (lA mu)))), (b + 9, .inl (kL K, 40, .inr (.inl (lA pr)))), (b + 10, .inl (kI K, 4, .inl (iA cn))), (b + 11, .inl (kI K, 4, .inl (iA bs))), (b + 12, .inl (kI K, 10, .inl (iA le))), (b + 13, .inl (kI K, 10, .inl (iA bb2))), (b + 14, .inl (kI K, 10, .inl (iA (ldF (ln + cu) fr1))))] H → (∀ (T : Int), ((T = u ∧ (u : Int) < Bn) ∨ (T = (Bn : Int) - 1 ∧ (Bn : Int) ≤ u)) → ∀ ls : Array Slot, lv_has ls 7 [(0, .ref b), (1, .int (iI (Bn : Int))), (2, .int (iI (pq : Int))), (5, .int (iI T)), (6, .int (iI f))] → W p l e rmM_goInto s m args below meth c H locs 0 0 Q (F0 m 63 ls [])) → ∀ ls : Array Slot, lv_has ls 7 [(0, .ref b), (1, .int (iI (Bn : Int))), (2, .int (iI (pq : Int))), (3, .int (iI f))] → W p l e rmM_goInto s m args below meth c H locs 0 0 Q (F0 m 25 ls []) := by
        intro f hf bb2 hag H locs hP kk ls hl
        refine lv_iload_n hx hb dM_goInto_25 rfl (lv_at hl 2 rfl) ?_
        refine iz_if_lt (tgt := 195) hx hb ⟨by omega, by omega⟩ dM_goInto_26 (by decide) (fun g1 => ?_) (fun g1 => ?_)
        · exact absurd g1 (by omega)
        · refine lv_iload_n hx hb dM_goInto_29 rfl (lv_at hl 2 rfl) ?_
          refine lv_aload_n hx hb dM_goInto_30 rfl (lv_at hl 0 rfl) ?_
          refine va_get (D := kD K) (ci := 4) (v := .int (iI (pn : Int))) (C := RM) (T := FM) (N := 21) hx hb hts jnM hown hK hP 0 rfl rfl 16 (by decide) (hts _ mt_479) (fun _ h9 => h9) rfl dM_goInto_31 ?_
          refine iz_icmp_ge (tgt := 195) hx hb ⟨by omega, by omega⟩ ⟨by omega, by omega⟩ dM_goInto_34 (by decide) (fun g2 => ?_) (fun g2 => ?_)
          · exact absurd g2 (by omega)
          · refine lv_aload_n hx hb dM_goInto_37 rfl (lv_at hl 0 rfl) ?_
            refine lv_iload_n hx hb dM_goInto_38 rfl (lv_at hl 2 rfl) ?_
            refine ctV (n := 1) hx hb hml hown hT ⟨c_M_used l K b cd wn ar oc lc st tk wa pk mu pr co cn bs ln cu pn le bc bb2 (ldF (ln + cu) fr1) pq u (by omega) (plU_congr hag hU) (by omega), ⟨_, _, _, Or.inl ⟨rfl, rfl⟩⟩, mt_639, mt_5, by decide, by decide +kernel, by decide, by decide, by decide, by decide⟩ PC.blind mt_636 mt_638 ms_29 (va_RVof (ci := 4) (q0 := 0) hK hP rfl rfl) (As := [.int (iI (pq : Int))]) (rest := []) rfl (PC.at ⟨hT, hK⟩ hP) hl.1 rfl (Nat.le_of_ble_eq_true rfl) dM_goInto_39 (krI0 rfl rfl (fun _ h => h) (fun r hr9 => ?_))
            subst hr9
            refine lv_istore (lv' := [(4, .int (iI (u : Int))), (0, .ref b), (1, .int (iI (Bn : Int))), (2, .int (iI (pq : Int))), (3, .int (iI f))]) hx hb dM_goInto_42 hl (by decide) rfl (fun ls hl => ?_)
            refine lv_iload hx hb dM_goInto_44 (lv_at hl 0 rfl) ?_
            refine lv_iload_n hx hb dM_goInto_46 rfl (lv_at hl 2 rfl) ?_
            refine iz_icmp_ge (tgt := 55) hx hb ⟨by omega, by omega⟩ ⟨by omega, by omega⟩ dM_goInto_47 (by decide) (fun g3 => ?_) (fun g3 => ?_)
            · refine lv_iload_n hx hb dM_goInto_55 rfl (lv_at hl 2 rfl) ?_
              refine iz_iconst hx hb dM_goInto_56 ?_
              refine iz_isub hx hb dM_goInto_57 ?_
              refine lv_istore (lv' := [(5, .int (iI ((Bn : Int) - 1))), (4, .int (iI (u : Int))), (0, .ref b), (1, .int (iI (Bn : Int))), (2, .int (iI (pq : Int))), (3, .int (iI f))]) hx hb dM_goInto_58 hl (by decide) rfl (fun ls hl => ?_)
              refine lv_iload_n hx hb dM_goInto_60 rfl (lv_at hl 5 rfl) ?_
              refine lv_istore (lv' := [(6, .int (iI f)), (5, .int (iI ((Bn : Int) - 1))), (4, .int (iI (u : Int))), (0, .ref b), (1, .int (iI (Bn : Int))), (2, .int (iI (pq : Int))), (3, .int (iI f))]) hx hb dM_goInto_61 hl (by decide) rfl (fun ls hl => ?_)
              exact kk _ (Or.inr ⟨rfl, by omega⟩) ls (lv_sub hl [3, 4, 5, 1, 0] rfl)
            · refine lv_iload hx hb dM_goInto_50 (lv_at hl 0 rfl) ?_
              refine lv_goto (tgt := 58) hx hb dM_goInto_52 (by decide) ?_
              refine lv_istore (lv' := [(5, .int (iI (u : Int))), (4, .int (iI (u : Int))), (0, .ref b), (1, .int (iI (Bn : Int))), (2, .int (iI (pq : Int))), (3, .int (iI f))]) hx hb dM_goInto_58 hl (by decide) rfl (fun ls hl => ?_)
              refine lv_iload_n hx hb dM_goInto_60 rfl (lv_at hl 5 rfl) ?_
              refine lv_istore (lv' := [(6, .int (iI f)), (5, .int (iI (u : Int))), (4, .int (iI (u : Int))), (0, .ref b), (1, .int (iI (Bn : Int))), (2, .int (iI (pq : Int))), (3, .int (iI f))]) hx hb dM_goInto_61 hl (by decide) rfl (fun ls hl => ?_)
              exact kk _ (Or.inl ⟨rfl, by omega⟩) ls (lv_sub hl [3, 4, 5, 1, 0] rfl)
      have tries : ∀ (n f : Nat), Bn + 1 ≤ f + n → f ≤ Bn → (∀ b', b' < f → ¬ ((swz le cu) pq ≤ fr1 b' ∧ ∃ a, pl_X (swz le cu) Bn a (pq + 1) d (ut fr1 b' (fr1 b' - (swz le cu) pq)))) → ∀ bb2 : Nat → Int, (∀ i, i < pq → bb2 i = bb1 i) → ∀ (T : Int), ((T = u ∧ (u : Int) < Bn) ∨ (T = (Bn : Int) - 1 ∧ (Bn : Int) ≤ u)) → ∀  (H : Heap) (locs : List Loc), va_P (kD K) vcl [(b, .inr (4, [.int (iI cd), .int (iI (wn : Int)), .ref (b + 1), .ref (b + 2), .ref (b + 3), .ref (b + 4), .ref (b + 5), .ref (b + 6), .ref (b + 7), .ref (b + 8), .ref (b + 9), .long (lI co), .ref (b + 10), .ref (b + 11), .int (iI ln), .int (iI cu), .int (iI (pn : Int)), .ref (b + 12), .int (iI bc), .ref (b + 13), .ref (b + 14)])), (b + 1, .inl (kI K, 12, .inl (iA ar))), (b + 2, .inl (kI K, 12, .inl (iA oc))), (b + 3, .inl (kI K, 12, .inl (iA lc))), (b + 4, .inl (kI K, 96, .inl (iA st))), (b + 5, .inl (kI K, 96, .inl (iA tk))), (b + 6, .inl (kI K, 10, .inl (iA wa))), (b + 7, .inl (kI K, 10, .inl (iA pk))), (b + 8, .inl (kL K, 40, .inr (.inl (lA mu)))), (b + 9, .inl (kL K, 40, .inr (.inl (lA pr)))), (b + 10, .inl (kI K, 4, .inl (iA cn))), (b + 11, .inl (kI K, 4, .inl (iA bs))), (b + 12, .inl (kI K, 10, .inl (iA le))), (b + 13, .inl (kI K, 10, .inl (iA bb2))), (b + 14, .inl (kI K, 10, .inl (iA (ldF (ln + cu) fr1))))] H → va_D A [(b, .inr (4, [.int (iI cd), .int (iI (wn : Int)), .ref (b + 1), .ref (b + 2), .ref (b + 3), .ref (b + 4), .ref (b + 5), .ref (b + 6), .ref (b + 7), .ref (b + 8), .ref (b + 9), .long (lI co), .ref (b + 10), .ref (b + 11), .int (iI ln), .int (iI cu), .int (iI (pn : Int)), .ref (b + 12), .int (iI bc), .ref (b + 13), .ref (b + 14)])), (b + 1, .inl (kI K, 12, .inl (iA ar))), (b + 2, .inl (kI K, 12, .inl (iA oc))), (b + 3, .inl (kI K, 12, .inl (iA lc))), (b + 4, .inl (kI K, 96, .inl (iA st))), (b + 5, .inl (kI K, 96, .inl (iA tk))), (b + 6, .inl (kI K, 10, .inl (iA wa))), (b + 7, .inl (kI K, 10, .inl (iA pk))), (b + 8, .inl (kL K, 40, .inr (.inl (lA mu)))), (b + 9, .inl (kL K, 40, .inr (.inl (lA pr)))), (b + 10, .inl (kI K, 4, .inl (iA cn))), (b + 11, .inl (kI K, 4, .inl (iA bs))), (b + 12, .inl (kI K, 10, .inl (iA le))), (b + 13, .inl (kI K, 10, .inl (iA bb2))), (b + 14, .inl (kI K, 10, .inl (iA (ldF (ln + cu) fr1))))] → va_S A s.heap H locs → ∀ ls : Array Slot, lv_has ls 7 [(0, .ref b), (1, .int (iI (Bn : Int))), (2, .int (iI (pq : Int))), (5, .int (iI T)), (6, .int (iI (f : Int)))] → W p l e rmM_goInto s m args below meth c H locs 0 0 Q (F0 m 63 ls []) := by
        intro n
        induction n with
        | zero => intro f h1 h2; omega
        | succ n ih2 =>
          intro f h1 h2 hno bb2 hag T hT9 H locs hP hD hS ls hl
          have eL := ldF_at (ln + cu) fr1 f
          have qf := hfr f
          refine lv_iload hx hb dM_goInto_63 (lv_at hl 4 rfl) ?_
          refine lv_iload hx hb dM_goInto_65 (lv_at hl 3 rfl) ?_
          refine iz_icmp_gt (tgt := 107) hx hb ⟨by omega, by omega⟩ ⟨by omega, by omega⟩ dM_goInto_67 (by decide) (fun g1 => ?_) (fun g1 => ?_)
          · refine lv_iload hx hb dM_goInto_107 (lv_at hl 4 rfl) ?_
            refine lv_iload hx hb dM_goInto_109 (lv_at hl 3 rfl) ?_
            refine iz_icmp_gt (tgt := 151) hx hb ⟨by omega, by omega⟩ ⟨by omega, by omega⟩ dM_goInto_111 (by decide) (fun g5 => ?_) (fun g5 => ?_)
            · exact kn bb2 H locs (pl_all (f := f) hfu (by omega) hno) hag hP hD hS ls (lv_sub hl [0, 1, 2] rfl)
            · exact absurd g5 (by omega)
          · refine lv_aload_n hx hb dM_goInto_70 rfl (lv_at hl 0 rfl) ?_
            refine va_get (D := kD K) (ci := 4) (v := .ref (b + 14)) (C := RM) (T := FM) (N := 21) hx hb hts jnM hown hK hP 0 rfl rfl 20 (by decide) (hts _ mt_483) (fun _ h9 => h9) rfl dM_goInto_71 ?_
            refine lv_iload hx hb dM_goInto_74 (lv_at hl 4 rfl) ?_
            refine iz_iald hx hb hK hP 14 rfl f rfl (by omega) (by omega) dM_goInto_76 ?_
            refine lv_aload_n hx hb dM_goInto_77 rfl (lv_at hl 0 rfl) ?_
            refine va_get (D := kD K) (ci := 4) (v := .ref (b + 12)) (C := RM) (T := FM) (N := 21) hx hb hts jnM hown hK hP 0 rfl rfl 17 (by decide) (hts _ mt_480) (fun _ h9 => h9) rfl dM_goInto_78 ?_
            refine lv_iload_n hx hb dM_goInto_81 rfl (lv_at hl 2 rfl) ?_
            refine iz_iald hx hb hK hP 12 rfl pq rfl (by omega) (by omega) dM_goInto_82 ?_
            refine iz_iadd hx hb dM_goInto_83 ?_
            refine lv_aload_n hx hb dM_goInto_84 rfl (lv_at hl 0 rfl) ?_
            refine va_get (D := kD K) (ci := 4) (v := .int (iI cu)) (C := RM) (T := FM) (N := 21) hx hb hts jnM hown hK hP 0 rfl rfl 15 (by decide) (hts _ mt_478) (fun _ h9 => h9) rfl dM_goInto_85 ?_
            refine iz_iadd hx hb dM_goInto_88 ?_
            refine lv_aload_n hx hb dM_goInto_89 rfl (lv_at hl 0 rfl) ?_
            refine va_get (D := kD K) (ci := 4) (v := .int (iI ln)) (C := RM) (T := FM) (N := 21) hx hb hts jnM hown hK hP 0 rfl rfl 14 (by decide) (hts _ mt_477) (fun _ h9 => h9) rfl dM_goInto_90 ?_
            refine lv_aload_n hx hb dM_goInto_93 rfl (lv_at hl 0 rfl) ?_
            refine va_get (D := kD K) (ci := 4) (v := .int (iI cu)) (C := RM) (T := FM) (N := 21) hx hb hts jnM hown hK hP 0 rfl rfl 15 (by decide) (hts _ mt_478) (fun _ h9 => h9) rfl dM_goInto_94 ?_
            refine iz_iadd hx hb dM_goInto_97 ?_
            refine iz_icmp_le (tgt := 107) hx hb ⟨by omega, by omega⟩ ⟨by omega, by omega⟩ dM_goInto_98 (by decide) (fun g2 => ?_) (fun g2 => ?_)
            · have hfit : (swz le cu) pq ≤ fr1 f := by show le pq + cu ≤ fr1 f; omega
              refine lv_iload hx hb dM_goInto_107 (lv_at hl 4 rfl) ?_
              refine lv_iload hx hb dM_goInto_109 (lv_at hl 3 rfl) ?_
              refine iz_icmp_gt (tgt := 151) hx hb ⟨by omega, by omega⟩ ⟨by omega, by omega⟩ dM_goInto_111 (by decide) (fun g5 => ?_) (fun g5 => ?_)
              · exact absurd g5 (by omega)
              · refine lv_aload_n hx hb dM_goInto_114 rfl (lv_at hl 0 rfl) ?_
                refine va_get (D := kD K) (ci := 4) (v := .ref (b + 13)) (C := RM) (T := FM) (N := 21) hx hb hts jnM hown hK hP 0 rfl rfl 19 (by decide) (hts _ mt_482) (fun _ h9 => h9) rfl dM_goInto_115 ?_
                refine lv_iload_n hx hb dM_goInto_118 rfl (lv_at hl 2 rfl) ?_
                refine lv_iload hx hb dM_goInto_119 (lv_at hl 4 rfl) ?_
                refine iz_iast hx hb hK hP hD hS 13 rfl pq rfl (by omega) (by omega) dM_goInto_121 ?_
                clear hP hD hS
                intro H locs hP hD hS
                replace hP : va_P (kD K) vcl [(b, .inr (4, [.int (iI cd), .int (iI (wn : Int)), .ref (b + 1), .ref (b + 2), .ref (b + 3), .ref (b + 4), .ref (b + 5), .ref (b + 6), .ref (b + 7), .ref (b + 8), .ref (b + 9), .long (lI co), .ref (b + 10), .ref (b + 11), .int (iI ln), .int (iI cu), .int (iI (pn : Int)), .ref (b + 12), .int (iI bc), .ref (b + 13), .ref (b + 14)])), (b + 1, .inl (kI K, 12, .inl (iA ar))), (b + 2, .inl (kI K, 12, .inl (iA oc))), (b + 3, .inl (kI K, 12, .inl (iA lc))), (b + 4, .inl (kI K, 96, .inl (iA st))), (b + 5, .inl (kI K, 96, .inl (iA tk))), (b + 6, .inl (kI K, 10, .inl (iA wa))), (b + 7, .inl (kI K, 10, .inl (iA pk))), (b + 8, .inl (kL K, 40, .inr (.inl (lA mu)))), (b + 9, .inl (kL K, 40, .inr (.inl (lA pr)))), (b + 10, .inl (kI K, 4, .inl (iA cn))), (b + 11, .inl (kI K, 4, .inl (iA bs))), (b + 12, .inl (kI K, 10, .inl (iA le))), (b + 13, .inl (kI K, 10, .inl (iA (ut bb2 pq (f : Int))))), (b + 14, .inl (kI K, 10, .inl (iA (ldF (ln + cu) fr1))))] H := hP
                replace hD : va_D A [(b, .inr (4, [.int (iI cd), .int (iI (wn : Int)), .ref (b + 1), .ref (b + 2), .ref (b + 3), .ref (b + 4), .ref (b + 5), .ref (b + 6), .ref (b + 7), .ref (b + 8), .ref (b + 9), .long (lI co), .ref (b + 10), .ref (b + 11), .int (iI ln), .int (iI cu), .int (iI (pn : Int)), .ref (b + 12), .int (iI bc), .ref (b + 13), .ref (b + 14)])), (b + 1, .inl (kI K, 12, .inl (iA ar))), (b + 2, .inl (kI K, 12, .inl (iA oc))), (b + 3, .inl (kI K, 12, .inl (iA lc))), (b + 4, .inl (kI K, 96, .inl (iA st))), (b + 5, .inl (kI K, 96, .inl (iA tk))), (b + 6, .inl (kI K, 10, .inl (iA wa))), (b + 7, .inl (kI K, 10, .inl (iA pk))), (b + 8, .inl (kL K, 40, .inr (.inl (lA mu)))), (b + 9, .inl (kL K, 40, .inr (.inl (lA pr)))), (b + 10, .inl (kI K, 4, .inl (iA cn))), (b + 11, .inl (kI K, 4, .inl (iA bs))), (b + 12, .inl (kI K, 10, .inl (iA le))), (b + 13, .inl (kI K, 10, .inl (iA (ut bb2 pq (f : Int))))), (b + 14, .inl (kI K, 10, .inl (iA (ldF (ln + cu) fr1))))] := hD
                refine lv_aload_n hx hb dM_goInto_122 rfl (lv_at hl 0 rfl) ?_
                refine va_get (D := kD K) (ci := 4) (v := .ref (b + 14)) (C := RM) (T := FM) (N := 21) hx hb hts jnM hown hK hP 0 rfl rfl 20 (by decide) (hts _ mt_483) (fun _ h9 => h9) rfl dM_goInto_123 ?_
                refine lv_iload hx hb dM_goInto_126 (lv_at hl 4 rfl) ?_
                refine lv_dup2_11 hx hb dM_goInto_128 rfl rfl ?_
                refine iz_iald hx hb hK hP 14 rfl f rfl (by omega) (by omega) dM_goInto_129 ?_
                refine lv_aload_n hx hb dM_goInto_130 rfl (lv_at hl 0 rfl) ?_
                refine va_get (D := kD K) (ci := 4) (v := .ref (b + 12)) (C := RM) (T := FM) (N := 21) hx hb hts jnM hown hK hP 0 rfl rfl 17 (by decide) (hts _ mt_480) (fun _ h9 => h9) rfl dM_goInto_131 ?_
                refine lv_iload_n hx hb dM_goInto_134 rfl (lv_at hl 2 rfl) ?_
                refine iz_iald hx hb hK hP 12 rfl pq rfl (by omega) (by omega) dM_goInto_135 ?_
                refine lv_aload_n hx hb dM_goInto_136 rfl (lv_at hl 0 rfl) ?_
                refine va_get (D := kD K) (ci := 4) (v := .int (iI cu)) (C := RM) (T := FM) (N := 21) hx hb hts jnM hown hK hP 0 rfl rfl 15 (by decide) (hts _ mt_478) (fun _ h9 => h9) rfl dM_goInto_137 ?_
                refine iz_iadd hx hb dM_goInto_140 ?_
                refine iz_iadd hx hb dM_goInto_141 ?_
                refine iz_iast hx hb hK hP hD hS 14 rfl f rfl (by omega) (by omega) dM_goInto_142 ?_
                clear hP hD hS
                intro H locs hP hD hS
                replace hP : va_P (kD K) vcl [(b, .inr (4, [.int (iI cd), .int (iI (wn : Int)), .ref (b + 1), .ref (b + 2), .ref (b + 3), .ref (b + 4), .ref (b + 5), .ref (b + 6), .ref (b + 7), .ref (b + 8), .ref (b + 9), .long (lI co), .ref (b + 10), .ref (b + 11), .int (iI ln), .int (iI cu), .int (iI (pn : Int)), .ref (b + 12), .int (iI bc), .ref (b + 13), .ref (b + 14)])), (b + 1, .inl (kI K, 12, .inl (iA ar))), (b + 2, .inl (kI K, 12, .inl (iA oc))), (b + 3, .inl (kI K, 12, .inl (iA lc))), (b + 4, .inl (kI K, 96, .inl (iA st))), (b + 5, .inl (kI K, 96, .inl (iA tk))), (b + 6, .inl (kI K, 10, .inl (iA wa))), (b + 7, .inl (kI K, 10, .inl (iA pk))), (b + 8, .inl (kL K, 40, .inr (.inl (lA mu)))), (b + 9, .inl (kL K, 40, .inr (.inl (lA pr)))), (b + 10, .inl (kI K, 4, .inl (iA cn))), (b + 11, .inl (kI K, 4, .inl (iA bs))), (b + 12, .inl (kI K, 10, .inl (iA le))), (b + 13, .inl (kI K, 10, .inl (iA (ut bb2 pq (f : Int))))), (b + 14, .inl (kI K, 10, .inl (iA (ut (ldF (ln + cu) fr1) f (((ldF (ln + cu) fr1) f) + ((le pq) + cu))))))] H := hP
                replace hD : va_D A [(b, .inr (4, [.int (iI cd), .int (iI (wn : Int)), .ref (b + 1), .ref (b + 2), .ref (b + 3), .ref (b + 4), .ref (b + 5), .ref (b + 6), .ref (b + 7), .ref (b + 8), .ref (b + 9), .long (lI co), .ref (b + 10), .ref (b + 11), .int (iI ln), .int (iI cu), .int (iI (pn : Int)), .ref (b + 12), .int (iI bc), .ref (b + 13), .ref (b + 14)])), (b + 1, .inl (kI K, 12, .inl (iA ar))), (b + 2, .inl (kI K, 12, .inl (iA oc))), (b + 3, .inl (kI K, 12, .inl (iA lc))), (b + 4, .inl (kI K, 96, .inl (iA st))), (b + 5, .inl (kI K, 96, .inl (iA tk))), (b + 6, .inl (kI K, 10, .inl (iA wa))), (b + 7, .inl (kI K, 10, .inl (iA pk))), (b + 8, .inl (kL K, 40, .inr (.inl (lA mu)))), (b + 9, .inl (kL K, 40, .inr (.inl (lA pr)))), (b + 10, .inl (kI K, 4, .inl (iA cn))), (b + 11, .inl (kI K, 4, .inl (iA bs))), (b + 12, .inl (kI K, 10, .inl (iA le))), (b + 13, .inl (kI K, 10, .inl (iA (ut bb2 pq (f : Int))))), (b + 14, .inl (kI K, 10, .inl (iA (ut (ldF (ln + cu) fr1) f (((ldF (ln + cu) fr1) f) + ((le pq) + cu))))))] := hD
                rw [ldF_put (x := (swz le cu) pq) (by rw [eL]; show _ = ln + cu - (fr1 f - (le pq + cu)); omega)] at hP hD
                refine iz_iinc (k := 2) (lv' := [(2, .int (iI ((pq : Int) + 1))), (0, .ref b), (1, .int (iI (Bn : Int))), (5, .int (iI T)), (6, .int (iI (f : Int)))]) hx hb dM_goInto_143 hl rfl (by decide) rfl (fun ls hl => ?_)
                refine iz_iconst hx hb dM_goInto_146 ?_
                refine lv_istore_n (lv' := [(3, .int (iI 0)), (2, .int (iI ((pq : Int) + 1))), (0, .ref b), (1, .int (iI (Bn : Int))), (5, .int (iI T)), (6, .int (iI (f : Int)))]) hx hb dM_goInto_147 rfl hl (by decide) rfl (fun ls hl => ?_)
                refine lv_goto (tgt := 192) hx hb dM_goInto_148 (by decide) ?_
                refine lv_goto (tgt := 25) hx hb dM_goInto_192 (by decide) ?_
                have hU2 : plU (ut bb2 pq (f : Int)) (pq + 1) ((if u < f + 1 then f + 1 else u) : Nat) := by
                  have h9 := plU_s (plU_congr hag hU) (show (0 : Int) ≤ (f : Int) by omega)
                  have e9 : (((if u < f + 1 then f + 1 else u) : Nat) : Int) = if (u : Int) < (f : Int) + 1 then (f : Int) + 1 else (u : Int) := by split <;> split <;> omega
                  rw [e9]
                  exact h9
                refine ih (pq + 1) (by omega) (ut fr1 f (fr1 f - (swz le cu) pq)) (ut bb2 pq (f : Int)) (if u < f + 1 then f + 1 else u) hU2 (by split <;> omega) (fun y => ?_) (fun y hy => ?_) (fun fr2 bb3 f9 H locs hR hP hD hS ls hl => ?_) (fun bb3 H locs hN hag3 hP hD hS ls hl => ?_) H _ hP hD hS ls (lv_sub hl [2, 3, 1, 0] rfl)
                · by_cases e : y = f
                  · subst e; rw [ut_s]; have : swz le cu pq = le pq + cu := rfl; have := hfr y; omega
                  · rw [ut_n _ _ e]; exact hfr y
                · have hy1 : u ≤ y ∧ y ≠ f := by split at hy <;> omega
                  rw [ut_n _ _ hy1.2]; exact hfu y hy1.1
                · exact ky fr2 bb3 f9 H locs (pl_R_ba hag (pl_R_yes (by omega) hfit hno hR)) hP hD hS ls hl
                · have hbp : bb3 pq = (f : Int) := by rw [hag3 pq (by omega), ut_s]
                  have hag4 : ∀ i, i < pq → bb3 i = bb1 i := fun i hi => by rw [hag3 i (by omega), ut_n _ _ (by omega)]; exact hag i hi
                  have eL2 := ldF_at (ln + cu) (ut fr1 f (fr1 f - (swz le cu) pq)) f
                  rw [ut_s] at eL2
                  refine iz_iinc (k := 2) (lv' := [(2, .int (iI (((pq + 1 : Nat) : Int) + (-1)))), (0, .ref b), (1, .int (iI (Bn : Int)))]) hx hb dM_goInto_151 hl rfl (by decide) rfl (fun ls hl => ?_)
                  rw [show ((pq + 1 : Nat) : Int) + (-1) = (pq : Int) by omega] at hl
                  refine lv_iload_n hx hb dM_goInto_154 rfl (lv_at hl 0 rfl) ?_
                  refine iz_if_lt (tgt := 192) hx hb ⟨by omega, by omega⟩ dM_goInto_155 (by decide) (fun g6 => ?_) (fun g6 => ?_)
                  · exact absurd g6 (by omega)
                  · refine lv_aload_n hx hb dM_goInto_158 rfl (lv_at hl 1 rfl) ?_
                    refine va_get (D := kD K) (ci := 4) (v := .ref (b + 14)) (C := RM) (T := FM) (N := 21) hx hb hts jnM hown hK hP 0 rfl rfl 20 (by decide) (hts _ mt_483) (fun _ h9 => h9) rfl dM_goInto_159 ?_
                    refine lv_aload_n hx hb dM_goInto_162 rfl (lv_at hl 1 rfl) ?_
                    refine va_get (D := kD K) (ci := 4) (v := .ref (b + 13)) (C := RM) (T := FM) (N := 21) hx hb hts jnM hown hK hP 0 rfl rfl 19 (by decide) (hts _ mt_482) (fun _ h9 => h9) rfl dM_goInto_163 ?_
                    refine lv_iload_n hx hb dM_goInto_166 rfl (lv_at hl 0 rfl) ?_
                    refine iz_iald hx hb hK hP 13 rfl pq rfl (by omega) (by omega) dM_goInto_167 ?_
                    refine lv_dup2_11 hx hb dM_goInto_168 rfl rfl ?_
                    refine iz_iald hx hb hK hP 14 rfl f hbp (by omega) (by omega) dM_goInto_169 ?_
                    refine lv_aload_n hx hb dM_goInto_170 rfl (lv_at hl 1 rfl) ?_
                    refine va_get (D := kD K) (ci := 4) (v := .ref (b + 12)) (C := RM) (T := FM) (N := 21) hx hb hts jnM hown hK hP 0 rfl rfl 17 (by decide) (hts _ mt_480) (fun _ h9 => h9) rfl dM_goInto_171 ?_
                    refine lv_iload_n hx hb dM_goInto_174 rfl (lv_at hl 0 rfl) ?_
                    refine iz_iald hx hb hK hP 12 rfl pq rfl (by omega) (by omega) dM_goInto_175 ?_
                    refine lv_aload_n hx hb dM_goInto_176 rfl (lv_at hl 1 rfl) ?_
                    refine va_get (D := kD K) (ci := 4) (v := .int (iI cu)) (C := RM) (T := FM) (N := 21) hx hb hts jnM hown hK hP 0 rfl rfl 15 (by decide) (hts _ mt_478) (fun _ h9 => h9) rfl dM_goInto_177 ?_
                    refine iz_iadd hx hb dM_goInto_180 ?_
                    refine iz_isub hx hb dM_goInto_181 ?_
                    refine iz_iast hx hb hK hP hD hS 14 rfl f hbp (by omega) (by omega) dM_goInto_182 ?_
                    clear hP hD hS
                    intro H locs hP hD hS
                    replace hP : va_P (kD K) vcl [(b, .inr (4, [.int (iI cd), .int (iI (wn : Int)), .ref (b + 1), .ref (b + 2), .ref (b + 3), .ref (b + 4), .ref (b + 5), .ref (b + 6), .ref (b + 7), .ref (b + 8), .ref (b + 9), .long (lI co), .ref (b + 10), .ref (b + 11), .int (iI ln), .int (iI cu), .int (iI (pn : Int)), .ref (b + 12), .int (iI bc), .ref (b + 13), .ref (b + 14)])), (b + 1, .inl (kI K, 12, .inl (iA ar))), (b + 2, .inl (kI K, 12, .inl (iA oc))), (b + 3, .inl (kI K, 12, .inl (iA lc))), (b + 4, .inl (kI K, 96, .inl (iA st))), (b + 5, .inl (kI K, 96, .inl (iA tk))), (b + 6, .inl (kI K, 10, .inl (iA wa))), (b + 7, .inl (kI K, 10, .inl (iA pk))), (b + 8, .inl (kL K, 40, .inr (.inl (lA mu)))), (b + 9, .inl (kL K, 40, .inr (.inl (lA pr)))), (b + 10, .inl (kI K, 4, .inl (iA cn))), (b + 11, .inl (kI K, 4, .inl (iA bs))), (b + 12, .inl (kI K, 10, .inl (iA le))), (b + 13, .inl (kI K, 10, .inl (iA bb3))), (b + 14, .inl (kI K, 10, .inl (iA (ut (ldF (ln + cu) (ut fr1 f (fr1 f - (swz le cu) pq))) f (((ldF (ln + cu) (ut fr1 f (fr1 f - (swz le cu) pq))) f) - ((le pq) + cu))))))] H := hP
                    replace hD : va_D A [(b, .inr (4, [.int (iI cd), .int (iI (wn : Int)), .ref (b + 1), .ref (b + 2), .ref (b + 3), .ref (b + 4), .ref (b + 5), .ref (b + 6), .ref (b + 7), .ref (b + 8), .ref (b + 9), .long (lI co), .ref (b + 10), .ref (b + 11), .int (iI ln), .int (iI cu), .int (iI (pn : Int)), .ref (b + 12), .int (iI bc), .ref (b + 13), .ref (b + 14)])), (b + 1, .inl (kI K, 12, .inl (iA ar))), (b + 2, .inl (kI K, 12, .inl (iA oc))), (b + 3, .inl (kI K, 12, .inl (iA lc))), (b + 4, .inl (kI K, 96, .inl (iA st))), (b + 5, .inl (kI K, 96, .inl (iA tk))), (b + 6, .inl (kI K, 10, .inl (iA wa))), (b + 7, .inl (kI K, 10, .inl (iA pk))), (b + 8, .inl (kL K, 40, .inr (.inl (lA mu)))), (b + 9, .inl (kL K, 40, .inr (.inl (lA pr)))), (b + 10, .inl (kI K, 4, .inl (iA cn))), (b + 11, .inl (kI K, 4, .inl (iA bs))), (b + 12, .inl (kI K, 10, .inl (iA le))), (b + 13, .inl (kI K, 10, .inl (iA bb3))), (b + 14, .inl (kI K, 10, .inl (iA (ut (ldF (ln + cu) (ut fr1 f (fr1 f - (swz le cu) pq))) f (((ldF (ln + cu) (ut fr1 f (fr1 f - (swz le cu) pq))) f) - ((le pq) + cu))))))] := hD
                    rw [ldF_back (by rw [eL2]; show _ = ln + cu - fr1 f; have : swz le cu pq = le pq + cu := rfl; omega)] at hP hD
                    refine lv_aload_n hx hb dM_goInto_183 rfl (lv_at hl 1 rfl) ?_
                    refine va_get (D := kD K) (ci := 4) (v := .ref (b + 13)) (C := RM) (T := FM) (N := 21) hx hb hts jnM hown hK hP 0 rfl rfl 19 (by decide) (hts _ mt_482) (fun _ h9 => h9) rfl dM_goInto_184 ?_
                    refine lv_iload_n hx hb dM_goInto_187 rfl (lv_at hl 0 rfl) ?_
                    refine iz_iald hx hb hK hP 13 rfl pq rfl (by omega) (by omega) dM_goInto_188 ?_
                    refine iz_iconst hx hb dM_goInto_189 ?_
                    refine iz_iadd hx hb dM_goInto_190 ?_
                    rw [hbp]
                    refine lv_istore_n (lv' := [(3, .int (iI ((f : Int) + 1))), (2, .int (iI (pq : Int))), (0, .ref b), (1, .int (iI (Bn : Int)))]) hx hb dM_goInto_191 rfl hl (by decide) rfl (fun ls hl => ?_)
                    refine lv_goto (tgt := 25) hx hb dM_goInto_192 (by decide) ?_
                    exact go25 ((f : Int) + 1) (by omega) bb3 hag4 H _ hP (fun T2 hT2 ls hl => ih2 (f + 1) (by omega) (by omega) (fun b' hb' => by by_cases e : b' = f; subst e; rintro ⟨-, q⟩; exact hN q; exact hno b' (by omega)) bb3 hag4 T2 hT2 H _ hP hD hS ls hl) ls (lv_sub hl [2, 3, 1, 0] rfl)
            · refine iz_iinc (k := 4) (lv' := [(6, .int (iI ((f : Int) + 1))), (0, .ref b), (1, .int (iI (Bn : Int))), (2, .int (iI (pq : Int))), (5, .int (iI T))]) hx hb dM_goInto_101 hl rfl (by decide) rfl (fun ls hl => ?_)
              refine lv_goto (tgt := 63) hx hb dM_goInto_104 (by decide) ?_
              exact ih2 (f + 1) (by omega) (by omega) (fun b' hb' => by by_cases e : b' = f; subst e; rintro ⟨q, -⟩; have q : le pq + cu ≤ fr1 b' := q; omega; exact hno b' (by omega)) bb2 hag T hT9 H locs hP hD hS ls (lv_sub hl [1, 2, 3, 4, 0] rfl)
      intro H locs hP hD hS ls hl
      exact go25 0 (by omega) bb1 (fun _ _ => rfl) H locs hP (fun T hT9 ls hl => tries (Bn + 1) 0 (by omega) (by omega) (fun b' hb' => absurd hb' (by omega)) bb1 (fun _ _ => rfl) T hT9 H locs hP hD hS ls hl) ls hl
  have zl : ∀ (n i : Nat), 11 ≤ i + n → i ≤ 10 → ∀  (H : Heap) (locs : List Loc), va_P (kD K) vcl [(b, .inr (4, [.int (iI cd), .int (iI (wn : Int)), .ref (b + 1), .ref (b + 2), .ref (b + 3), .ref (b + 4), .ref (b + 5), .ref (b + 6), .ref (b + 7), .ref (b + 8), .ref (b + 9), .long (lI co), .ref (b + 10), .ref (b + 11), .int (iI ln), .int (iI cu), .int (iI (pn : Int)), .ref (b + 12), .int (iI bc), .ref (b + 13), .ref (b + 14)])), (b + 1, .inl (kI K, 12, .inl (iA ar))), (b + 2, .inl (kI K, 12, .inl (iA oc))), (b + 3, .inl (kI K, 12, .inl (iA lc))), (b + 4, .inl (kI K, 96, .inl (iA st))), (b + 5, .inl (kI K, 96, .inl (iA tk))), (b + 6, .inl (kI K, 10, .inl (iA wa))), (b + 7, .inl (kI K, 10, .inl (iA pk))), (b + 8, .inl (kL K, 40, .inr (.inl (lA mu)))), (b + 9, .inl (kL K, 40, .inr (.inl (lA pr)))), (b + 10, .inl (kI K, 4, .inl (iA cn))), (b + 11, .inl (kI K, 4, .inl (iA bs))), (b + 12, .inl (kI K, 10, .inl (iA le))), (b + 13, .inl (kI K, 10, .inl (iA bb))), (b + 14, .inl (kI K, 10, .inl (iA (flz ld 0 i))))] H → va_D A [(b, .inr (4, [.int (iI cd), .int (iI (wn : Int)), .ref (b + 1), .ref (b + 2), .ref (b + 3), .ref (b + 4), .ref (b + 5), .ref (b + 6), .ref (b + 7), .ref (b + 8), .ref (b + 9), .long (lI co), .ref (b + 10), .ref (b + 11), .int (iI ln), .int (iI cu), .int (iI (pn : Int)), .ref (b + 12), .int (iI bc), .ref (b + 13), .ref (b + 14)])), (b + 1, .inl (kI K, 12, .inl (iA ar))), (b + 2, .inl (kI K, 12, .inl (iA oc))), (b + 3, .inl (kI K, 12, .inl (iA lc))), (b + 4, .inl (kI K, 96, .inl (iA st))), (b + 5, .inl (kI K, 96, .inl (iA tk))), (b + 6, .inl (kI K, 10, .inl (iA wa))), (b + 7, .inl (kI K, 10, .inl (iA pk))), (b + 8, .inl (kL K, 40, .inr (.inl (lA mu)))), (b + 9, .inl (kL K, 40, .inr (.inl (lA pr)))), (b + 10, .inl (kI K, 4, .inl (iA cn))), (b + 11, .inl (kI K, 4, .inl (iA bs))), (b + 12, .inl (kI K, 10, .inl (iA le))), (b + 13, .inl (kI K, 10, .inl (iA bb))), (b + 14, .inl (kI K, 10, .inl (iA (flz ld 0 i))))] → va_S A s.heap H locs → ∀ ls : Array Slot, lv_has ls 7 [(0, .ref b), (1, .int (iI (Bn : Int))), (2, .int (iI (i : Int)))] → W p l e rmM_goInto s m args below meth c H locs 0 0 Q (F0 m 2 ls []) := by
    intro n
    induction n with
    | zero => intro i h1 h2; omega
    | succ n ih =>
      intro i h1 h2 H locs hP hD hS ls hl
      refine lv_iload_n hx hb dM_goInto_2 rfl (lv_at hl 2 rfl) ?_
      refine iz_bipush hx hb dM_goInto_3 (by decide) ?_
      refine iz_icmp_ge (tgt := 21) hx hb ⟨by omega, by omega⟩ ⟨by omega, by omega⟩ dM_goInto_5 (by decide) (fun g1 => ?_) (fun g1 => ?_)
      · have e : 10 = i := by omega
        subst e
        replace hP : va_P (kD K) vcl [(b, .inr (4, [.int (iI cd), .int (iI (wn : Int)), .ref (b + 1), .ref (b + 2), .ref (b + 3), .ref (b + 4), .ref (b + 5), .ref (b + 6), .ref (b + 7), .ref (b + 8), .ref (b + 9), .long (lI co), .ref (b + 10), .ref (b + 11), .int (iI ln), .int (iI cu), .int (iI (pn : Int)), .ref (b + 12), .int (iI bc), .ref (b + 13), .ref (b + 14)])), (b + 1, .inl (kI K, 12, .inl (iA ar))), (b + 2, .inl (kI K, 12, .inl (iA oc))), (b + 3, .inl (kI K, 12, .inl (iA lc))), (b + 4, .inl (kI K, 96, .inl (iA st))), (b + 5, .inl (kI K, 96, .inl (iA tk))), (b + 6, .inl (kI K, 10, .inl (iA wa))), (b + 7, .inl (kI K, 10, .inl (iA pk))), (b + 8, .inl (kL K, 40, .inr (.inl (lA mu)))), (b + 9, .inl (kL K, 40, .inr (.inl (lA pr)))), (b + 10, .inl (kI K, 4, .inl (iA cn))), (b + 11, .inl (kI K, 4, .inl (iA bs))), (b + 12, .inl (kI K, 10, .inl (iA le))), (b + 13, .inl (kI K, 10, .inl (iA bb))), (b + 14, .inl (kI K, 10, .inl (iA (ldF (ln + cu) (fun _ => (ln + cu))))))] H := va_P_arr hP (k := 14) rfl (fun i hi => by show (if i < 10 then (0 : Int) else ld i) = ln + cu - (ln + cu); rw [if_pos hi]; omega)
        clear hD
        have hD : va_D A [(b, .inr (4, [.int (iI cd), .int (iI (wn : Int)), .ref (b + 1), .ref (b + 2), .ref (b + 3), .ref (b + 4), .ref (b + 5), .ref (b + 6), .ref (b + 7), .ref (b + 8), .ref (b + 9), .long (lI co), .ref (b + 10), .ref (b + 11), .int (iI ln), .int (iI cu), .int (iI (pn : Int)), .ref (b + 12), .int (iI bc), .ref (b + 13), .ref (b + 14)])), (b + 1, .inl (kI K, 12, .inl (iA ar))), (b + 2, .inl (kI K, 12, .inl (iA oc))), (b + 3, .inl (kI K, 12, .inl (iA lc))), (b + 4, .inl (kI K, 96, .inl (iA st))), (b + 5, .inl (kI K, 96, .inl (iA tk))), (b + 6, .inl (kI K, 10, .inl (iA wa))), (b + 7, .inl (kI K, 10, .inl (iA pk))), (b + 8, .inl (kL K, 40, .inr (.inl (lA mu)))), (b + 9, .inl (kL K, 40, .inr (.inl (lA pr)))), (b + 10, .inl (kI K, 4, .inl (iA cn))), (b + 11, .inl (kI K, 4, .inl (iA bs))), (b + 12, .inl (kI K, 10, .inl (iA le))), (b + 13, .inl (kI K, 10, .inl (iA bb))), (b + 14, .inl (kI K, 10, .inl (iA (ldF (ln + cu) (fun _ => (ln + cu))))))] := by rw [hAe]; exact mdD
        refine iz_iconst hx hb dM_goInto_21 ?_
        refine lv_istore_n (lv' := [(2, .int (iI 0)), (0, .ref b), (1, .int (iI (Bn : Int)))]) hx hb dM_goInto_22 rfl hl (by decide) rfl (fun ls hl => ?_)
        refine iz_iconst hx hb dM_goInto_23 ?_
        refine lv_istore_n (lv' := [(3, .int (iI 0)), (2, .int (iI 0)), (0, .ref b), (1, .int (iI (Bn : Int)))]) hx hb dM_goInto_24 rfl hl (by decide) rfl (fun ls hl => ?_)
        refine search pn 0 (by omega) (fun _ => (ln + cu)) bb 0 (plU_0 bb) (by omega) (fun y => ⟨by omega, by omega⟩) (fun y _ => rfl) (fun fr2 bb2 f H locs hR hP hD hS ls hl => ?_) (fun bb2 H locs hN hag hP hD hS ls hl => ?_) H _ hP hD hS ls (lv_sub hl [2, 3, 1, 0] rfl)
        · refine lv_iload_n hx hb dM_goInto_25 rfl (lv_at hl 2 rfl) ?_
          refine iz_if_lt (tgt := 195) hx hb ⟨by omega, by omega⟩ dM_goInto_26 (by decide) (fun q1 => ?_) (fun q1 => ?_)
          · exact absurd q1 (by omega)
          · refine lv_iload_n hx hb dM_goInto_29 rfl (lv_at hl 2 rfl) ?_
            refine lv_aload_n hx hb dM_goInto_30 rfl (lv_at hl 0 rfl) ?_
            refine va_get (D := kD K) (ci := 4) (v := .int (iI (pn : Int))) (C := RM) (T := FM) (N := 21) hx hb hts jnM hown hK hP 0 rfl rfl 16 (by decide) (hts _ mt_479) (fun _ h9 => h9) rfl dM_goInto_31 ?_
            refine iz_icmp_ge (tgt := 195) hx hb ⟨by omega, by omega⟩ ⟨by omega, by omega⟩ dM_goInto_34 (by decide) (fun q2 => ?_) (fun q2 => ?_)
            · refine lv_iload_n hx hb dM_goInto_195 rfl (lv_at hl 2 rfl) ?_
              refine lv_aload_n hx hb dM_goInto_196 rfl (lv_at hl 0 rfl) ?_
              refine va_get (D := kD K) (ci := 4) (v := .int (iI (pn : Int))) (C := RM) (T := FM) (N := 21) hx hb hts jnM hown hK hP 0 rfl rfl 16 (by decide) (hts _ mt_479) (fun _ h9 => h9) rfl dM_goInto_197 ?_
              refine iz_icmp_ne (tgt := 207) hx hb ⟨by omega, by omega⟩ ⟨by omega, by omega⟩ dM_goInto_200 (by decide) (fun q3 => ?_) (fun q3 => ?_)
              · exact absurd rfl q3
              · refine iz_iconst hx hb dM_goInto_203 ?_
                refine lv_goto (tgt := 208) hx hb dM_goInto_204 (by decide) ?_
                rw [hQ]
                exact iz_zret hx hb hr hlocks (Or.inr rfl) (Or.inl ⟨rfl, fr2, bb2, hR, hP⟩) hS.2.2 dM_goInto_208
            · exact absurd q2 (by omega)
        · refine iz_iinc (k := 2) (lv' := [(2, .int (iI (((0 : Nat) : Int) + (-1)))), (0, .ref b), (1, .int (iI (Bn : Int)))]) hx hb dM_goInto_151 hl rfl (by decide) rfl (fun ls hl => ?_)
          refine lv_iload_n hx hb dM_goInto_154 rfl (lv_at hl 0 rfl) ?_
          refine iz_if_lt (tgt := 192) hx hb ⟨by omega, by omega⟩ dM_goInto_155 (by decide) (fun q1 => ?_) (fun q1 => ?_)
          · refine lv_goto (tgt := 25) hx hb dM_goInto_192 (by decide) ?_
            refine lv_iload_n hx hb dM_goInto_25 rfl (lv_at hl 0 rfl) ?_
            refine iz_if_lt (tgt := 195) hx hb ⟨by omega, by omega⟩ dM_goInto_26 (by decide) (fun q2 => ?_) (fun q2 => ?_)
            · refine lv_iload_n hx hb dM_goInto_195 rfl (lv_at hl 0 rfl) ?_
              refine lv_aload_n hx hb dM_goInto_196 rfl (lv_at hl 1 rfl) ?_
              refine va_get (D := kD K) (ci := 4) (v := .int (iI (pn : Int))) (C := RM) (T := FM) (N := 21) hx hb hts jnM hown hK hP 0 rfl rfl 16 (by decide) (hts _ mt_479) (fun _ h9 => h9) rfl dM_goInto_197 ?_
              refine iz_icmp_ne (tgt := 207) hx hb ⟨by omega, by omega⟩ ⟨by omega, by omega⟩ dM_goInto_200 (by decide) (fun q3 => ?_) (fun q3 => ?_)
              · refine iz_iconst hx hb dM_goInto_207 ?_
                rw [hQ]
                exact iz_zret hx hb hr hlocks (Or.inl rfl) (Or.inr ⟨rfl, hN, bb2, _, hP⟩) hS.2.2 dM_goInto_208
              · exact absurd q3 (by omega)
            · exact absurd q2 (by omega)
          · exact absurd q1 (by omega)
      · refine lv_aload_n hx hb dM_goInto_8 rfl (lv_at hl 0 rfl) ?_
        refine va_get (D := kD K) (ci := 4) (v := .ref (b + 14)) (C := RM) (T := FM) (N := 21) hx hb hts jnM hown hK hP 0 rfl rfl 20 (by decide) (hts _ mt_483) (fun _ h9 => h9) rfl dM_goInto_9 ?_
        refine lv_iload_n hx hb dM_goInto_12 rfl (lv_at hl 2 rfl) ?_
        refine iz_iconst hx hb dM_goInto_13 ?_
        refine iz_iast hx hb hK hP hD hS 14 rfl i rfl (by omega) (by omega) dM_goInto_14 ?_
        clear hP hD hS
        intro H locs hP hD hS
        replace hP : va_P (kD K) vcl [(b, .inr (4, [.int (iI cd), .int (iI (wn : Int)), .ref (b + 1), .ref (b + 2), .ref (b + 3), .ref (b + 4), .ref (b + 5), .ref (b + 6), .ref (b + 7), .ref (b + 8), .ref (b + 9), .long (lI co), .ref (b + 10), .ref (b + 11), .int (iI ln), .int (iI cu), .int (iI (pn : Int)), .ref (b + 12), .int (iI bc), .ref (b + 13), .ref (b + 14)])), (b + 1, .inl (kI K, 12, .inl (iA ar))), (b + 2, .inl (kI K, 12, .inl (iA oc))), (b + 3, .inl (kI K, 12, .inl (iA lc))), (b + 4, .inl (kI K, 96, .inl (iA st))), (b + 5, .inl (kI K, 96, .inl (iA tk))), (b + 6, .inl (kI K, 10, .inl (iA wa))), (b + 7, .inl (kI K, 10, .inl (iA pk))), (b + 8, .inl (kL K, 40, .inr (.inl (lA mu)))), (b + 9, .inl (kL K, 40, .inr (.inl (lA pr)))), (b + 10, .inl (kI K, 4, .inl (iA cn))), (b + 11, .inl (kI K, 4, .inl (iA bs))), (b + 12, .inl (kI K, 10, .inl (iA le))), (b + 13, .inl (kI K, 10, .inl (iA bb))), (b + 14, .inl (kI K, 10, .inl (iA (ut (flz ld 0 i) i 0))))] H := hP
        replace hD : va_D A [(b, .inr (4, [.int (iI cd), .int (iI (wn : Int)), .ref (b + 1), .ref (b + 2), .ref (b + 3), .ref (b + 4), .ref (b + 5), .ref (b + 6), .ref (b + 7), .ref (b + 8), .ref (b + 9), .long (lI co), .ref (b + 10), .ref (b + 11), .int (iI ln), .int (iI cu), .int (iI (pn : Int)), .ref (b + 12), .int (iI bc), .ref (b + 13), .ref (b + 14)])), (b + 1, .inl (kI K, 12, .inl (iA ar))), (b + 2, .inl (kI K, 12, .inl (iA oc))), (b + 3, .inl (kI K, 12, .inl (iA lc))), (b + 4, .inl (kI K, 96, .inl (iA st))), (b + 5, .inl (kI K, 96, .inl (iA tk))), (b + 6, .inl (kI K, 10, .inl (iA wa))), (b + 7, .inl (kI K, 10, .inl (iA pk))), (b + 8, .inl (kL K, 40, .inr (.inl (lA mu)))), (b + 9, .inl (kL K, 40, .inr (.inl (lA pr)))), (b + 10, .inl (kI K, 4, .inl (iA cn))), (b + 11, .inl (kI K, 4, .inl (iA bs))), (b + 12, .inl (kI K, 10, .inl (iA le))), (b + 13, .inl (kI K, 10, .inl (iA bb))), (b + 14, .inl (kI K, 10, .inl (iA (ut (flz ld 0 i) i 0))))] := hD
        rw [flz_s] at hP hD
        refine iz_iinc (k := 2) (lv' := [(2, .int (iI ((i : Int) + 1))), (0, .ref b), (1, .int (iI (Bn : Int)))]) hx hb dM_goInto_15 hl rfl (by decide) rfl (fun ls hl => ?_)
        refine lv_goto (tgt := 2) hx hb dM_goInto_18 (by decide) ?_
        exact ih (i + 1) (by omega) (by omega) H _ hP hD hS ls (lv_sub hl [1, 2, 0] rfl)
  refine iz_iconst hx hb dM_goInto_0 ?_
  refine lv_istore_n (lv' := [(2, .int (iI 0)), (0, .ref b), (1, .int (iI (Bn : Int)))]) hx hb dM_goInto_1 rfl hl (by decide) rfl (fun ls hl => ?_)
  exact zl 11 0 (by omega) (by omega) s.heap [] (by rw [flz_0]; exact hP) (by rw [flz_0]; exact hD) hS ls (lv_sub hl [1, 2, 0] rfl)
