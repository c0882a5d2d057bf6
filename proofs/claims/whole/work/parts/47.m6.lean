-- the reference: findPlan, plan, bar, rest
abbrev rmM_findPlan : Room := { frames := 2, cells := 0, slots := 0, locals := 80 }
set_option maxHeartbeats 4000000 in
set_option maxRecDepth 100000 in
/-- findPlan() -/
theorem c_M_findPlan (l : Launch) (K : KG) (b : Nat) (cd : Int) (wn : Nat) (ar oc lc st tk wa pk mu pr : Nat → Int) (co : Int) (cn bs : Nat → Int) (ln cu : Int) (pn : Nat) (le : Nat → Int) (bc : Int) (bb ld : Nat → Int) (hB9 : SwB ln cu pn le) : Ct l yM_findPlan kM_findPlan rmM_findPlan (PC K [.ref b] (fun H => va_P (kD K) vcl (mdW K b cd wn ar oc lc st tk wa pk mu pr co cn bs ln cu pn le bc bb ld) H)) (QV (fun H => ∃ (Bn' : Nat) (bb' fr' : Nat → Int), Bn' ≤ pn ∧ SwF ln cu pn le Bn' bb' fr' ∧ va_P (kD K) vcl (mdW K b cd wn ar oc lc st tk wa pk mu pr co cn bs ln cu pn le (Bn' : Int) bb' (ldF (ln + cu) fr')) H)) (fun x => b ≤ x ∧ x < b + 15) := by
  refine ct_of (by decide) (Or.inl ⟨rfl, rfl⟩) ?_
  intro p e s m args below meth c B0 hP0
  obtain ⟨hx, hb, hr, hml, hown, hlocks, hnm, htab⟩ := B0
  obtain ⟨ha, ⟨hT, hK⟩, hB⟩ := hP0
  have hl := lv_entry ([.ref b]) (n := 4) (Nat.le_of_ble_eq_true rfl)
  obtain ⟨Q, hQ⟩ : ∃ Q, Q = XQ below (QV (fun H => ∃ (Bn' : Nat) (bb' fr' : Nat → Int), Bn' ≤ pn ∧ SwF ln cu pn le Bn' bb' fr' ∧ va_P (kD K) vcl (mdW K b cd wn ar oc lc st tk wa pk mu pr co cn bs ln cu pn le (Bn' : Int) bb' (ldF (ln + cu) fr')) H)) args s rmM_findPlan.cells rmM_findPlan.slots (fun x => b ≤ x ∧ x < b + 15) := ⟨_, rfl⟩
  rw [← hQ, ha, lg_entry_eq]
  rw [ha] at hQ
  generalize (lg_sl ([.ref b]) ++ List.replicate (4 - (lg_sl ([.ref b])).length) Slot.unset).toArray = ls at hl ⊢
  generalize ([.ref b] : List Value).toArray = args at hQ ⊢
  have hts : ∀ w ∈ TW, w.before args s = true := fun w h => hT w h args
  have hl : lv_has ls 4 [(0, .ref b)] := hl
  obtain ⟨A, hAe⟩ : ∃ A : Addr → Prop, A = (fun x => b ≤ x ∧ x < b + 15) := ⟨_, rfl⟩
  rw [← hAe] at hQ
  have hS : va_S A s.heap s.heap [] := va_S.rf
  have hP : va_P (kD K) vcl [(b, .inr (4, [.int (iI cd), .int (iI (wn : Int)), .ref (b + 1), .ref (b + 2), .ref (b + 3), .ref (b + 4), .ref (b + 5), .ref (b + 6), .ref (b + 7), .ref (b + 8), .ref (b + 9), .long (lI co), .ref (b + 10), .ref (b + 11), .int (iI ln), .int (iI cu), .int (iI (pn : Int)), .ref (b + 12), .int (iI bc), .ref (b + 13), .ref (b + 14)])), (b + 1, .inl (kI K, 12, .inl (iA ar))), (b + 2, .inl (kI K, 12, .inl (iA oc))), (b + 3, .inl (kI K, 12, .inl (iA lc))), (b + 4, .inl (kI K, 96, .inl (iA st))), (b + 5, .inl (kI K, 96, .inl (iA tk))), (b + 6, .inl (kI K, 10, .inl (iA wa))), (b + 7, .inl (kI K, 10, .inl (iA pk))), (b + 8, .inl (kL K, 40, .inr (.inl (lA mu)))), (b + 9, .inl (kL K, 40, .inr (.inl (lA pr)))), (b + 10, .inl (kI K, 4, .inl (iA cn))), (b + 11, .inl (kI K, 4, .inl (iA bs))), (b + 12, .inl (kI K, 10, .inl (iA le))), (b + 13, .inl (kI K, 10, .inl (iA bb))), (b + 14, .inl (kI K, 10, .inl (iA ld)))] s.heap := hB
  have hD : va_D A [(b, .inr (4, [.int (iI cd), .int (iI (wn : Int)), .ref (b + 1), .ref (b + 2), .ref (b + 3), .ref (b + 4), .ref (b + 5), .ref (b + 6), .ref (b + 7), .ref (b + 8), .ref (b + 9), .long (lI co), .ref (b + 10), .ref (b + 11), .int (iI ln), .int (iI cu), .int (iI (pn : Int)), .ref (b + 12), .int (iI bc), .ref (b + 13), .ref (b + 14)])), (b + 1, .inl (kI K, 12, .inl (iA ar))), (b + 2, .inl (kI K, 12, .inl (iA oc))), (b + 3, .inl (kI K, 12, .inl (iA lc))), (b + 4, .inl (kI K, 96, .inl (iA st))), (b + 5, .inl (kI K, 96, .inl (iA tk))), (b + 6, .inl (kI K, 10, .inl (iA wa))), (b + 7, .inl (kI K, 10, .inl (iA pk))), (b + 8, .inl (kL K, 40, .inr (.inl (lA mu)))), (b + 9, .inl (kL K, 40, .inr (.inl (lA pr)))), (b + 10, .inl (kI K, 4, .inl (iA cn))), (b + 11, .inl (kI K, 4, .inl (iA bs))), (b + 12, .inl (kI K, 10, .inl (iA le))), (b + 13, .inl (kI K, 10, .inl (iA bb))), (b + 14, .inl (kI K, 10, .inl (iA ld)))] := by rw [hAe]; exact va_D_of (by simp) (by simp <;> omega)
  have hB0 := hB9
  obtain ⟨hbl, hcu, hP10, hle⟩ := hB9
  have wloop : ∀ (n Bn : Nat), pn + 1 ≤ Bn + n → Bn ≤ pn → (∀ B' : Nat, B' < Bn → ¬ ∃ a, pl_X (swz le cu) B' a 0 pn (fun _ => (ln + cu))) → ∀ (bb1 ld1 : Nat → Int) (H : Heap) (locs : List Loc), va_P (kD K) vcl [(b, .inr (4, [.int (iI cd), .int (iI (wn : Int)), .ref (b + 1), .ref (b + 2), .ref (b + 3), .ref (b + 4), .ref (b + 5), .ref (b + 6), .ref (b + 7), .ref (b + 8), .ref (b + 9), .long (lI co), .ref (b + 10), .ref (b + 11), .int (iI ln), .int (iI cu), .int (iI (pn : Int)), .ref (b + 12), .int (iI (Bn : Int)), .ref (b + 13), .ref (b + 14)])), (b + 1, .inl (kI K, 12, .inl (iA ar))), (b + 2, .inl (kI K, 12, .inl (iA oc))), (b + 3, .inl (kI K, 12, .inl (iA lc))), (b + 4, .inl (kI K, 96, .inl (iA st))), (b + 5, .inl (kI K, 96, .inl (iA tk))), (b + 6, .inl (kI K, 10, .inl (iA wa))), (b + 7, .inl (kI K, 10, .inl (iA pk))), (b + 8, .inl (kL K, 40, .inr (.inl (lA mu)))), (b + 9, .inl (kL K, 40, .inr (.inl (lA pr)))), (b + 10, .inl (kI K, 4, .inl (iA cn))), (b + 11, .inl (kI K, 4, .inl (iA bs))), (b + 12, .inl (kI K, 10, .inl (iA le))), (b + 13, .inl (kI K, 10, .inl (iA bb1))), (b + 14, .inl (kI K, 10, .inl (iA ld1)))] H → va_D A [(b, .inr (4, [.int (iI cd), .int (iI (wn : Int)), .ref (b + 1), .ref (b + 2), .ref (b + 3), .ref (b + 4), .ref (b + 5), .ref (b + 6), .ref (b + 7), .ref (b + 8), .ref (b + 9), .long (lI co), .ref (b + 10), .ref (b + 11), .int (iI ln), .int (iI cu), .int (iI (pn : Int)), .ref (b + 12), .int (iI (Bn : Int)), .ref (b + 13), .ref (b + 14)])), (b + 1, .inl (kI K, 12, .inl (iA ar))), (b + 2, .inl (kI K, 12, .inl (iA oc))), (b + 3, .inl (kI K, 12, .inl (iA lc))), (b + 4, .inl (kI K, 96, .inl (iA st))), (b + 5, .inl (kI K, 96, .inl (iA tk))), (b + 6, .inl (kI K, 10, .inl (iA wa))), (b + 7, .inl (kI K, 10, .inl (iA pk))), (b + 8, .inl (kL K, 40, .inr (.inl (lA mu)))), (b + 9, .inl (kL K, 40, .inr (.inl (lA pr)))), (b + 10, .inl (kI K, 4, .inl (iA cn))), (b + 11, .inl (kI K, 4, .inl (iA bs))), (b + 12, .inl (kI K, 10, .inl (iA le))), (b + 13, .inl (kI K, 10, .inl (iA bb1))), (b + 14, .inl (kI K, 10, .inl (iA ld1)))] → va_S A s.heap H locs → ∀ ls : Array Slot, lv_has ls 4 [(0, .ref b)] → W p l e rmM_findPlan s m args below meth c H locs 0 0 Q (F0 m 64 ls []) := by
    intro n
    induction n with
    | zero => intro Bn h1 h2; omega
    | succ n ih =>
      intro Bn h1 h2 hno bb1 ld1 H locs hP hD hS ls hl
      refine lv_aload_n hx hb dM_findPlan_64 rfl (lv_at hl 0 rfl) ?_
      refine lv_aload_n hx hb dM_findPlan_65 rfl (lv_at hl 0 rfl) ?_
      refine va_get (D := kD K) (ci := 4) (v := .int (iI (Bn : Int))) (C := RM) (T := FM) (N := 21) hx hb hts jnM hown hK hP 0 rfl rfl 18 (by decide) (hts _ mt_481) (fun _ h9 => h9) rfl dM_findPlan_66 ?_
      refine ctV (n := 1) hx hb hml hown hT ⟨c_M_goInto l K b cd wn ar oc lc st tk wa pk mu pr co cn bs ln cu pn le (Bn : Int) bb1 ld1 Bn (by omega) hB0, ⟨_, _, _, Or.inl ⟨rfl, rfl⟩⟩, mt_635, mt_5, by decide, by decide +kernel, by decide, by decide, by decide, by decide⟩ PC.blind mt_632 mt_634 ms_28 (va_RVof (ci := 4) (q0 := 0) hK hP rfl rfl) (As := [.int (iI (Bn : Int))]) (rest := []) rfl (PC.at ⟨hT, hK⟩ hP) hl.1 rfl (Nat.le_of_ble_eq_true rfl) dM_findPlan_69 (krI (c1 := 0) (s1 := 0) rfl rfl (fun r t9 H L9 hA9 hL9 hpo => ?_))
      replace hS := hA9.S hS (fun q hq => by rw [hAe]; exact hq) hL9
      clear hA9 hL9 hP hD
      rcases hpo with ⟨rfl, fr2, bb2, hR, hP⟩ | ⟨rfl, hN, bb2, ld2, hP⟩
      · replace hP : va_P (kD K) vcl [(b, .inr (4, [.int (iI cd), .int (iI (wn : Int)), .ref (b + 1), .ref (b + 2), .ref (b + 3), .ref (b + 4), .ref (b + 5), .ref (b + 6), .ref (b + 7), .ref (b + 8), .ref (b + 9), .long (lI co), .ref (b + 10), .ref (b + 11), .int (iI ln), .int (iI cu), .int (iI (pn : Int)), .ref (b + 12), .int (iI (Bn : Int)), .ref (b + 13), .ref (b + 14)])), (b + 1, .inl (kI K, 12, .inl (iA ar))), (b + 2, .inl (kI K, 12, .inl (iA oc))), (b + 3, .inl (kI K, 12, .inl (iA lc))), (b + 4, .inl (kI K, 96, .inl (iA st))), (b + 5, .inl (kI K, 96, .inl (iA tk))), (b + 6, .inl (kI K, 10, .inl (iA wa))), (b + 7, .inl (kI K, 10, .inl (iA pk))), (b + 8, .inl (kL K, 40, .inr (.inl (lA mu)))), (b + 9, .inl (kL K, 40, .inr (.inl (lA pr)))), (b + 10, .inl (kI K, 4, .inl (iA cn))), (b + 11, .inl (kI K, 4, .inl (iA bs))), (b + 12, .inl (kI K, 10, .inl (iA le))), (b + 13, .inl (kI K, 10, .inl (iA bb2))), (b + 14, .inl (kI K, 10, .inl (iA (ldF (ln + cu) fr2))))] H := hP
        refine iz_if_ne (tgt := 88) hx hb ⟨by omega, by omega⟩ dM_findPlan_72 (by decide) (fun _ => ?_) (fun g => absurd g (by decide))
        rw [hQ]
        exact iz_vret hx hb hr hlocks (by rcases hR with ⟨-, a, x1, x2, x3, x4⟩ | ⟨h9, -⟩; exact ⟨Bn, bb2, fr2, h2, ⟨a, x1, x2, hno, x3, fun i hi => by rw [x4 i (by omega), if_pos (by omega)]⟩, hP⟩; exact absurd h9 (by decide)) hS.2.2 dM_findPlan_88
      · replace hP : va_P (kD K) vcl [(b, .inr (4, [.int (iI cd), .int (iI (wn : Int)), .ref (b + 1), .ref (b + 2), .ref (b + 3), .ref (b + 4), .ref (b + 5), .ref (b + 6), .ref (b + 7), .ref (b + 8), .ref (b + 9), .long (lI co), .ref (b + 10), .ref (b + 11), .int (iI ln), .int (iI cu), .int (iI (pn : Int)), .ref (b + 12), .int (iI (Bn : Int)), .ref (b + 13), .ref (b + 14)])), (b + 1, .inl (kI K, 12, .inl (iA ar))), (b + 2, .inl (kI K, 12, .inl (iA oc))), (b + 3, .inl (kI K, 12, .inl (iA lc))), (b + 4, .inl (kI K, 96, .inl (iA st))), (b + 5, .inl (kI K, 96, .inl (iA tk))), (b + 6, .inl (kI K, 10, .inl (iA wa))), (b + 7, .inl (kI K, 10, .inl (iA pk))), (b + 8, .inl (kL K, 40, .inr (.inl (lA mu)))), (b + 9, .inl (kL K, 40, .inr (.inl (lA pr)))), (b + 10, .inl (kI K, 4, .inl (iA cn))), (b + 11, .inl (kI K, 4, .inl (iA bs))), (b + 12, .inl (kI K, 10, .inl (iA le))), (b + 13, .inl (kI K, 10, .inl (iA bb2))), (b + 14, .inl (kI K, 10, .inl (iA ld2)))] H := hP
        have hD : va_D A [(b, .inr (4, [.int (iI cd), .int (iI (wn : Int)), .ref (b + 1), .ref (b + 2), .ref (b + 3), .ref (b + 4), .ref (b + 5), .ref (b + 6), .ref (b + 7), .ref (b + 8), .ref (b + 9), .long (lI co), .ref (b + 10), .ref (b + 11), .int (iI ln), .int (iI cu), .int (iI (pn : Int)), .ref (b + 12), .int (iI (Bn : Int)), .ref (b + 13), .ref (b + 14)])), (b + 1, .inl (kI K, 12, .inl (iA ar))), (b + 2, .inl (kI K, 12, .inl (iA oc))), (b + 3, .inl (kI K, 12, .inl (iA lc))), (b + 4, .inl (kI K, 96, .inl (iA st))), (b + 5, .inl (kI K, 96, .inl (iA tk))), (b + 6, .inl (kI K, 10, .inl (iA wa))), (b + 7, .inl (kI K, 10, .inl (iA pk))), (b + 8, .inl (kL K, 40, .inr (.inl (lA mu)))), (b + 9, .inl (kL K, 40, .inr (.inl (lA pr)))), (b + 10, .inl (kI K, 4, .inl (iA cn))), (b + 11, .inl (kI K, 4, .inl (iA bs))), (b + 12, .inl (kI K, 10, .inl (iA le))), (b + 13, .inl (kI K, 10, .inl (iA bb2))), (b + 14, .inl (kI K, 10, .inl (iA ld2)))] := by rw [hAe]; exact mdD
        have hlt : Bn < pn := by
          rcases Nat.lt_or_ge Bn pn with q | q
          · exact q
          · exact absurd ⟨fun i => i, pl_own pn 0 _ (by omega) (fun i _ hi => by show le i + cu ≤ ln + cu; have := hle i (by omega); omega)⟩ hN
        refine iz_if_ne (tgt := 88) hx hb ⟨by omega, by omega⟩ dM_findPlan_72 (by decide) (fun g => absurd g (by decide)) (fun _ => ?_)
        refine lv_aload_n hx hb dM_findPlan_75 rfl (lv_at hl 0 rfl) ?_
        refine lv_dup hx hb dM_findPlan_76 rfl ?_
        refine va_get (D := kD K) (ci := 4) (v := .int (iI (Bn : Int))) (C := RM) (T := FM) (N := 21) hx hb hts jnM hown hK hP 0 rfl rfl 18 (by decide) (hts _ mt_481) (fun _ h9 => h9) rfl dM_findPlan_77 ?_
        refine iz_iconst hx hb dM_findPlan_80 ?_
        refine iz_iadd hx hb dM_findPlan_81 ?_
        refine va_put (D := kD K) (ci := 4) (v := .int (iI ((Bn : Int) + 1))) (ty := .int) (C := RM) (T := FM) (N := 21) hx hb hts jnM tM tM_ok nM hown hK hP hD hS 0 rfl rfl 18 (by decide) (hts _ mt_481) (fun _ h9 => h9) rfl (by decide +kernel) rfl rfl (Nat.le_of_ble_eq_true rfl) dM_findPlan_82 ?_
        clear hP hD hS
        intro H locs hP hD hS
        replace hP : va_P (kD K) vcl [(b, .inr (4, [.int (iI cd), .int (iI (wn : Int)), .ref (b + 1), .ref (b + 2), .ref (b + 3), .ref (b + 4), .ref (b + 5), .ref (b + 6), .ref (b + 7), .ref (b + 8), .ref (b + 9), .long (lI co), .ref (b + 10), .ref (b + 11), .int (iI ln), .int (iI cu), .int (iI (pn : Int)), .ref (b + 12), .int (iI ((Bn : Int) + 1)), .ref (b + 13), .ref (b + 14)])), (b + 1, .inl (kI K, 12, .inl (iA ar))), (b + 2, .inl (kI K, 12, .inl (iA oc))), (b + 3, .inl (kI K, 12, .inl (iA lc))), (b + 4, .inl (kI K, 96, .inl (iA st))), (b + 5, .inl (kI K, 96, .inl (iA tk))), (b + 6, .inl (kI K, 10, .inl (iA wa))), (b + 7, .inl (kI K, 10, .inl (iA pk))), (b + 8, .inl (kL K, 40, .inr (.inl (lA mu)))), (b + 9, .inl (kL K, 40, .inr (.inl (lA pr)))), (b + 10, .inl (kI K, 4, .inl (iA cn))), (b + 11, .inl (kI K, 4, .inl (iA bs))), (b + 12, .inl (kI K, 10, .inl (iA le))), (b + 13, .inl (kI K, 10, .inl (iA bb2))), (b + 14, .inl (kI K, 10, .inl (iA ld2)))] H := hP
        replace hD : va_D A [(b, .inr (4, [.int (iI cd), .int (iI (wn : Int)), .ref (b + 1), .ref (b + 2), .ref (b + 3), .ref (b + 4), .ref (b + 5), .ref (b + 6), .ref (b + 7), .ref (b + 8), .ref (b + 9), .long (lI co), .ref (b + 10), .ref (b + 11), .int (iI ln), .int (iI cu), .int (iI (pn : Int)), .ref (b + 12), .int (iI ((Bn : Int) + 1)), .ref (b + 13), .ref (b + 14)])), (b + 1, .inl (kI K, 12, .inl (iA ar))), (b + 2, .inl (kI K, 12, .inl (iA oc))), (b + 3, .inl (kI K, 12, .inl (iA lc))), (b + 4, .inl (kI K, 96, .inl (iA st))), (b + 5, .inl (kI K, 96, .inl (iA tk))), (b + 6, .inl (kI K, 10, .inl (iA wa))), (b + 7, .inl (kI K, 10, .inl (iA pk))), (b + 8, .inl (kL K, 40, .inr (.inl (lA mu)))), (b + 9, .inl (kL K, 40, .inr (.inl (lA pr)))), (b + 10, .inl (kI K, 4, .inl (iA cn))), (b + 11, .inl (kI K, 4, .inl (iA bs))), (b + 12, .inl (kI K, 10, .inl (iA le))), (b + 13, .inl (kI K, 10, .inl (iA bb2))), (b + 14, .inl (kI K, 10, .inl (iA ld2)))] := hD
        refine lv_goto (tgt := 64) hx hb dM_findPlan_85 (by decide) ?_
        exact ih (Bn + 1) (by omega) (by omega) (fun B' hB' => by by_cases e : B' = Bn; subst e; exact hN; exact hno B' (by omega)) bb2 ld2 H _ hP hD hS ls (lv_sub hl [0] rfl)
  have loop : ∀ (n i : Nat) (ac : Int), pn + 1 ≤ i + n → i ≤ pn → ac = sm (swz le cu) 0 i → ∀ ls : Array Slot, lv_has ls 4 [(0, .ref b), (1, .long (lI ac)), (3, .int (iI (i : Int)))] → W p l e rmM_findPlan s m args below meth c s.heap [] 0 0 Q (F0 m 4 ls []) := by
    intro n
    induction n with
    | zero => intro i ac h1 h2; omega
    | succ n ih =>
      intro i ac h1 h2 hac ls hl
      refine lv_iload_n hx hb dM_findPlan_4 rfl (lv_at hl 2 rfl) ?_
      refine lv_aload_n hx hb dM_findPlan_5 rfl (lv_at hl 0 rfl) ?_
      refine va_get (D := kD K) (ci := 4) (v := .int (iI (pn : Int))) (C := RM) (T := FM) (N := 21) hx hb hts jnM hown hK hP 0 rfl rfl 16 (by decide) (hts _ mt_479) (fun _ h9 => h9) rfl dM_findPlan_6 ?_
      refine iz_icmp_ge (tgt := 33) hx hb ⟨by omega, by omega⟩ ⟨by omega, by omega⟩ dM_findPlan_9 (by decide) (fun g1 => ?_) (fun g1 => ?_)
      · have e : pn = i := by omega
        subst e
        have hsb : ∀ i, 0 ≤ i → i < 0 + pn → 1 ≤ swz le cu i ∧ swz le cu i ≤ ln + cu := fun i _ hi => by have q := hle i (by omega); have e : swz le cu i = le i + cu := rfl; omega
        have hs1 : 0 ≤ ac ∧ ac ≤ pn * (ln + cu) := by
          rw [hac]
          refine ⟨sm_nn pn 0 (fun i a b => by have := hsb i a b; omega), ?_⟩
          have h9 := sm_le (f := swz le cu) (g := fun _ => ln + cu) pn 0 (fun i a b => (hsb i a b).2)
          rw [sm_const] at h9
          exact h9
        have hs2 := mul_bd (a := (pn : Int)) (b := ln + cu) (A := 10) (B := 10100) (by omega) (by omega) (by omega) (by omega)
        refine lv_aload_n hx hb dM_findPlan_33 rfl (lv_at hl 0 rfl) ?_
        refine lv_lload_n hx hb dM_findPlan_34 rfl (lv_at hl 1 rfl) ?_
        refine lv_aload_n hx hb dM_findPlan_35 rfl (lv_at hl 0 rfl) ?_
        refine va_get (D := kD K) (ci := 4) (v := .int (iI ln)) (C := RM) (T := FM) (N := 21) hx hb hts jnM hown hK hP 0 rfl rfl 14 (by decide) (hts _ mt_477) (fun _ h9 => h9) rfl dM_findPlan_36 ?_
        refine iz_i2l hx hb ⟨by omega, by omega⟩ dM_findPlan_39 ?_
        refine iz_ladd hx hb dM_findPlan_40 ?_
        refine lv_aload_n hx hb dM_findPlan_41 rfl (lv_at hl 0 rfl) ?_
        refine va_get (D := kD K) (ci := 4) (v := .int (iI cu)) (C := RM) (T := FM) (N := 21) hx hb hts jnM hown hK hP 0 rfl rfl 15 (by decide) (hts _ mt_478) (fun _ h9 => h9) rfl dM_findPlan_42 ?_
        refine iz_i2l hx hb ⟨by omega, by omega⟩ dM_findPlan_45 ?_
        refine iz_ladd hx hb dM_findPlan_46 ?_
        refine iz_lconst hx hb 1 rfl dM_findPlan_47 ?_
        refine iz_lsub hx hb dM_findPlan_48 ?_
        refine lv_aload_n hx hb dM_findPlan_49 rfl (lv_at hl 0 rfl) ?_
        refine va_get (D := kD K) (ci := 4) (v := .int (iI ln)) (C := RM) (T := FM) (N := 21) hx hb hts jnM hown hK hP 0 rfl rfl 14 (by decide) (hts _ mt_477) (fun _ h9 => h9) rfl dM_findPlan_50 ?_
        refine lv_aload_n hx hb dM_findPlan_53 rfl (lv_at hl 0 rfl) ?_
        refine va_get (D := kD K) (ci := 4) (v := .int (iI cu)) (C := RM) (T := FM) (N := 21) hx hb hts jnM hown hK hP 0 rfl rfl 15 (by decide) (hts _ mt_478) (fun _ h9 => h9) rfl dM_findPlan_54 ?_
        refine iz_iadd hx hb dM_findPlan_57 ?_
        refine iz_i2l hx hb ⟨by omega, by omega⟩ dM_findPlan_58 ?_
        refine iz_ldiv hx hb ⟨by omega, by omega⟩ (by omega) ⟨by omega, by omega⟩ (by omega) dM_findPlan_59 ?_
        have hcd : (((ac + ln) + cu) - 1) / (ln + cu) = cdiv ac (ln + cu) := by unfold cdiv; rw [show ac + ln + cu - 1 = ac + (ln + cu) - 1 by omega]
        have hcn : 0 ≤ cdiv ac (ln + cu) := cdiv_nn (by omega) hs1.1
        have hcl : cdiv ac (ln + cu) ≤ pn := cdiv_le (by omega) hs1.2
        obtain ⟨B0, hB0n⟩ : ∃ B0 : Nat, cdiv ac (ln + cu) = B0 := ⟨(cdiv ac (ln + cu)).toNat, by omega⟩
        rw [hcd, hB0n]
        refine iz_l2i hx hb dM_findPlan_60 ?_
        refine va_put (D := kD K) (ci := 4) (v := .int (iI (B0 : Int))) (ty := .int) (C := RM) (T := FM) (N := 21) hx hb hts jnM tM tM_ok nM hown hK hP hD hS 0 rfl rfl 18 (by decide) (hts _ mt_481) (fun _ h9 => h9) rfl (by decide +kernel) rfl rfl (Nat.le_of_ble_eq_true rfl) dM_findPlan_61 ?_
        clear hP hD hS
        intro H locs hP hD hS
        replace hP : va_P (kD K) vcl [(b, .inr (4, [.int (iI cd), .int (iI (wn : Int)), .ref (b + 1), .ref (b + 2), .ref (b + 3), .ref (b + 4), .ref (b + 5), .ref (b + 6), .ref (b + 7), .ref (b + 8), .ref (b + 9), .long (lI co), .ref (b + 10), .ref (b + 11), .int (iI ln), .int (iI cu), .int (iI (pn : Int)), .ref (b + 12), .int (iI (B0 : Int)), .ref (b + 13), .ref (b + 14)])), (b + 1, .inl (kI K, 12, .inl (iA ar))), (b + 2, .inl (kI K, 12, .inl (iA oc))), (b + 3, .inl (kI K, 12, .inl (iA lc))), (b + 4, .inl (kI K, 96, .inl (iA st))), (b + 5, .inl (kI K, 96, .inl (iA tk))), (b + 6, .inl (kI K, 10, .inl (iA wa))), (b + 7, .inl (kI K, 10, .inl (iA pk))), (b + 8, .inl (kL K, 40, .inr (.inl (lA mu)))), (b + 9, .inl (kL K, 40, .inr (.inl (lA pr)))), (b + 10, .inl (kI K, 4, .inl (iA cn))), (b + 11, .inl (kI K, 4, .inl (iA bs))), (b + 12, .inl (kI K, 10, .inl (iA le))), (b + 13, .inl (kI K, 10, .inl (iA bb))), (b + 14, .inl (kI K, 10, .inl (iA ld)))] H := hP
        replace hD : va_D A [(b, .inr (4, [.int (iI cd), .int (iI (wn : Int)), .ref (b + 1), .ref (b + 2), .ref (b + 3), .ref (b + 4), .ref (b + 5), .ref (b + 6), .ref (b + 7), .ref (b + 8), .ref (b + 9), .long (lI co), .ref (b + 10), .ref (b + 11), .int (iI ln), .int (iI cu), .int (iI (pn : Int)), .ref (b + 12), .int (iI (B0 : Int)), .ref (b + 13), .ref (b + 14)])), (b + 1, .inl (kI K, 12, .inl (iA ar))), (b + 2, .inl (kI K, 12, .inl (iA oc))), (b + 3, .inl (kI K, 12, .inl (iA lc))), (b + 4, .inl (kI K, 96, .inl (iA st))), (b + 5, .inl (kI K, 96, .inl (iA tk))), (b + 6, .inl (kI K, 10, .inl (iA wa))), (b + 7, .inl (kI K, 10, .inl (iA pk))), (b + 8, .inl (kL K, 40, .inr (.inl (lA mu)))), (b + 9, .inl (kL K, 40, .inr (.inl (lA pr)))), (b + 10, .inl (kI K, 4, .inl (iA cn))), (b + 11, .inl (kI K, 4, .inl (iA bs))), (b + 12, .inl (kI K, 10, .inl (iA le))), (b + 13, .inl (kI K, 10, .inl (iA bb))), (b + 14, .inl (kI K, 10, .inl (iA ld)))] := hD
        exact wloop (pn + 1) B0 (by omega) (by omega) (fun B' hB' hx9 => by have h9 := pl_few (show 0 < ln + cu by omega) (fun i hi => by have := hsb i (by omega) (by omega); omega) hx9; rw [← hac, hB0n] at h9; omega) bb ld H _ hP hD hS ls (lv_sub hl [0] rfl)
      · have qi := hle i (by omega)
        refine lv_lload_n hx hb dM_findPlan_12 rfl (lv_at hl 1 rfl) ?_
        refine lv_aload_n hx hb dM_findPlan_13 rfl (lv_at hl 0 rfl) ?_
        refine va_get (D := kD K) (ci := 4) (v := .ref (b + 12)) (C := RM) (T := FM) (N := 21) hx hb hts jnM hown hK hP 0 rfl rfl 17 (by decide) (hts _ mt_480) (fun _ h9 => h9) rfl dM_findPlan_14 ?_
        refine lv_iload_n hx hb dM_findPlan_17 rfl (lv_at hl 2 rfl) ?_
        refine iz_iald hx hb hK hP 12 rfl i rfl (by omega) (by omega) dM_findPlan_18 ?_
        refine lv_aload_n hx hb dM_findPlan_19 rfl (lv_at hl 0 rfl) ?_
        refine va_get (D := kD K) (ci := 4) (v := .int (iI cu)) (C := RM) (T := FM) (N := 21) hx hb hts jnM hown hK hP 0 rfl rfl 15 (by decide) (hts _ mt_478) (fun _ h9 => h9) rfl dM_findPlan_20 ?_
        refine iz_iadd hx hb dM_findPlan_23 ?_
        refine iz_i2l hx hb ⟨by omega, by omega⟩ dM_findPlan_24 ?_
        refine iz_ladd hx hb dM_findPlan_25 ?_
        refine lv_lstore_n (lv' := [(1, .long (lI (ac + ((le i) + cu)))), (0, .ref b), (3, .int (iI (i : Int)))]) hx hb dM_findPlan_26 rfl hl (by decide) rfl (fun ls hl => ?_)
        refine iz_iinc (k := 2) (lv' := [(3, .int (iI ((i : Int) + 1))), (1, .long (lI (ac + ((le i) + cu)))), (0, .ref b)]) hx hb dM_findPlan_27 hl rfl (by decide) rfl (fun ls hl => ?_)
        refine lv_goto (tgt := 4) hx hb dM_findPlan_30 (by decide) ?_
        exact ih (i + 1) (ac + (le i + cu)) (by omega) (by omega) (by rw [sm_snoc, Nat.zero_add, hac]) ls (lv_sub hl [2, 1, 0] rfl)
  refine iz_lconst hx hb 0 rfl dM_findPlan_0 ?_
  refine lv_lstore_n (lv' := [(1, .long (lI 0)), (0, .ref b)]) hx hb dM_findPlan_1 rfl hl (by decide) rfl (fun ls hl => ?_)
  refine iz_iconst hx hb dM_findPlan_2 ?_
  refine lv_istore_n (lv' := [(3, .int (iI 0)), (1, .long (lI 0)), (0, .ref b)]) hx hb dM_findPlan_3 rfl hl (by decide) rfl (fun ls hl => ?_)
  exact loop (pn + 1) 0 0 (by omega) (by omega) rfl ls (lv_sub hl [2, 1, 0] rfl)
abbrev rmM_plan : Room := { frames := 3, cells := 0, slots := 0, locals := 120 }
set_option maxHeartbeats 4000000 in
set_option maxRecDepth 100000 in
/-- plan() -/
theorem c_M_plan (l : Launch) (K : KG) (b : Nat) (cd : Int) (wn : Nat) (ar oc lc st tk wa pk mu pr : Nat → Int) (co : Int) (cn bs : Nat → Int) (ln cu : Int) (pn : Nat) (le : Nat → Int) (bc : Int) (bb ld : Nat → Int) (hB9 : SwB ln cu pn le) : Ct l yM_plan kM_plan rmM_plan (PC K [.ref b] (fun H => va_P (kD K) vcl (mdW K b cd wn ar oc lc st tk wa pk mu pr co cn bs ln cu pn le bc bb ld) H)) (QI (fun r H => ∃ (Bn' : Nat) (bb' fr' : Nat → Int), r = Bn' ∧ Bn' ≤ pn ∧ SwF ln cu pn le Bn' bb' fr' ∧ va_P (kD K) vcl (mdW K b 0 wn ar oc lc st tk wa pk mu pr co cn bs ln cu pn le (Bn' : Int) bb' (ldF (ln + cu) fr')) H)) (fun x => b ≤ x ∧ x < b + 15) := by
  refine ct_of (by decide) (Or.inl ⟨rfl, rfl⟩) ?_
  intro p e s m args below meth c B0 hP0
  obtain ⟨hx, hb, hr, hml, hown, hlocks, hnm, htab⟩ := B0
  obtain ⟨ha, ⟨hT, hK⟩, hB⟩ := hP0
  have hl := lv_entry ([.ref b]) (n := 1) (Nat.le_of_ble_eq_true rfl)
  obtain ⟨Q, hQ⟩ : ∃ Q, Q = XQ below (QI (fun r H => ∃ (Bn' : Nat) (bb' fr' : Nat → Int), r = Bn' ∧ Bn' ≤ pn ∧ SwF ln cu pn le Bn' bb' fr' ∧ va_P (kD K) vcl (mdW K b 0 wn ar oc lc st tk wa pk mu pr co cn bs ln cu pn le (Bn' : Int) bb' (ldF (ln + cu) fr')) H)) args s rmM_plan.cells rmM_plan.slots (fun x => b ≤ x ∧ x < b + 15) := ⟨_, rfl⟩
  rw [← hQ, ha, lg_entry_eq]
  rw [ha] at hQ
  generalize (lg_sl ([.ref b]) ++ List.replicate (1 - (lg_sl ([.ref b])).length) Slot.unset).toArray = ls at hl ⊢
  generalize ([.ref b] : List Value).toArray = args at hQ ⊢
  have hts : ∀ w ∈ TW, w.before args s = true := fun w h => hT w h args
  have hl : lv_has ls 1 [(0, .ref b)] := hl
  obtain ⟨A, hAe⟩ : ∃ A : Addr → Prop, A = (fun x => b ≤ x ∧ x < b + 15) := ⟨_, rfl⟩
  rw [← hAe] at hQ
  have hS : va_S A s.heap s.heap [] := va_S.rf
  have hP : va_P (kD K) vcl [(b, .inr (4, [.int (iI cd), .int (iI (wn : Int)), .ref (b + 1), .ref (b + 2), .ref (b + 3), .ref (b + 4), .ref (b + 5), .ref (b + 6), .ref (b + 7), .ref (b + 8), .ref (b + 9), .long (lI co), .ref (b + 10), .ref (b + 11), .int (iI ln), .int (iI cu), .int (iI (pn : Int)), .ref (b + 12), .int (iI bc), .ref (b + 13), .ref (b + 14)])), (b + 1, .inl (kI K, 12, .inl (iA ar))), (b + 2, .inl (kI K, 12, .inl (iA oc))), (b + 3, .inl (kI K, 12, .inl (iA lc))), (b + 4, .inl (kI K, 96, .inl (iA st))), (b + 5, .inl (kI K, 96, .inl (iA tk))), (b + 6, .inl (kI K, 10, .inl (iA wa))), (b + 7, .inl (kI K, 10, .inl (iA pk))), (b + 8, .inl (kL K, 40, .inr (.inl (lA mu)))), (b + 9, .inl (kL K, 40, .inr (.inl (lA pr)))), (b + 10, .inl (kI K, 4, .inl (iA cn))), (b + 11, .inl (kI K, 4, .inl (iA bs))), (b + 12, .inl (kI K, 10, .inl (iA le))), (b + 13, .inl (kI K, 10, .inl (iA bb))), (b + 14, .inl (kI K, 10, .inl (iA ld)))] s.heap := hB
  have hD : va_D A [(b, .inr (4, [.int (iI cd), .int (iI (wn : Int)), .ref (b + 1), .ref (b + 2), .ref (b + 3), .ref (b + 4), .ref (b + 5), .ref (b + 6), .ref (b + 7), .ref (b + 8), .ref (b + 9), .long (lI co), .ref (b + 10), .ref (b + 11), .int (iI ln), .int (iI cu), .int (iI (pn : Int)), .ref (b + 12), .int (iI bc), .ref (b + 13), .ref (b + 14)])), (b + 1, .inl (kI K, 12, .inl (iA ar))), (b + 2, .inl (kI K, 12, .inl (iA oc))), (b + 3, .inl (kI K, 12, .inl (iA lc))), (b + 4, .inl (kI K, 96, .inl (iA st))), (b + 5, .inl (kI K, 96, .inl (iA tk))), (b + 6, .inl (kI K, 10, .inl (iA wa))), (b + 7, .inl (kI K, 10, .inl (iA pk))), (b + 8, .inl (kL K, 40, .inr (.inl (lA mu)))), (b + 9, .inl (kL K, 40, .inr (.inl (lA pr)))), (b + 10, .inl (kI K, 4, .inl (iA cn))), (b + 11, .inl (kI K, 4, .inl (iA bs))), (b + 12, .inl (kI K, 10, .inl (iA le))), (b + 13, .inl (kI K, 10, .inl (iA bb))), (b + 14, .inl (kI K, 10, .inl (iA ld)))] := by rw [hAe]; exact va_D_of (by simp) (by simp <;> omega)
  refine lv_aload_n hx hb dM_plan_0 rfl (lv_at hl 0 rfl) ?_
  refine iz_iconst hx hb dM_plan_1 ?_
  refine va_put (D := kD K) (ci := 4) (v := .int (iI 0)) (ty := .int) (C := RM) (T := FM) (N := 21) hx hb hts jnM tM tM_ok nM hown hK hP hD hS 0 rfl rfl 0 (by decide) (hts _ mt_463) (fun _ h9 => h9) rfl (by decide +kernel) rfl rfl (Nat.le_of_ble_eq_true rfl) dM_plan_2 ?_
  clear hP hD hS
  intro H locs hP hD hS
  replace hP : va_P (kD K) vcl [(b, .inr (4, [.int (iI 0), .int (iI (wn : Int)), .ref (b + 1), .ref (b + 2), .ref (b + 3), .ref (b + 4), .ref (b + 5), .ref (b + 6), .ref (b + 7), .ref (b + 8), .ref (b + 9), .long (lI co), .ref (b + 10), .ref (b + 11), .int (iI ln), .int (iI cu), .int (iI (pn : Int)), .ref (b + 12), .int (iI bc), .ref (b + 13), .ref (b + 14)])), (b + 1, .inl (kI K, 12, .inl (iA ar))), (b + 2, .inl (kI K, 12, .inl (iA oc))), (b + 3, .inl (kI K, 12, .inl (iA lc))), (b + 4, .inl (kI K, 96, .inl (iA st))), (b + 5, .inl (kI K, 96, .inl (iA tk))), (b + 6, .inl (kI K, 10, .inl (iA wa))), (b + 7, .inl (kI K, 10, .inl (iA pk))), (b + 8, .inl (kL K, 40, .inr (.inl (lA mu)))), (b + 9, .inl (kL K, 40, .inr (.inl (lA pr)))), (b + 10, .inl (kI K, 4, .inl (iA cn))), (b + 11, .inl (kI K, 4, .inl (iA bs))), (b + 12, .inl (kI K, 10, .inl (iA le))), (b + 13, .inl (kI K, 10, .inl (iA bb))), (b + 14, .inl (kI K, 10, .inl (iA ld)))] H := hP
  replace hD : va_D A [(b, .inr (4, [.int (iI 0), .int (iI (wn : Int)), .ref (b + 1), .ref (b + 2), .ref (b + 3), .ref (b + 4), .ref (b + 5), .ref (b + 6), .ref (b + 7), .ref (b + 8), .ref (b + 9), .long (lI co), .ref (b + 10), .ref (b + 11), .int (iI ln), .int (iI cu), .int (iI (pn : Int)), .ref (b + 12), .int (iI bc), .ref (b + 13), .ref (b + 14)])), (b + 1, .inl (kI K, 12, .inl (iA ar))), (b + 2, .inl (kI K, 12, .inl (iA oc))), (b + 3, .inl (kI K, 12, .inl (iA lc))), (b + 4, .inl (kI K, 96, .inl (iA st))), (b + 5, .inl (kI K, 96, .inl (iA tk))), (b + 6, .inl (kI K, 10, .inl (iA wa))), (b + 7, .inl (kI K, 10, .inl (iA pk))), (b + 8, .inl (kL K, 40, .inr (.inl (lA mu)))), (b + 9, .inl (kL K, 40, .inr (.inl (lA pr)))), (b + 10, .inl (kI K, 4, .inl (iA cn))), (b + 11, .inl (kI K, 4, .inl (iA bs))), (b + 12, .inl (kI K, 10, .inl (iA le))), (b + 13, .inl (kI K, 10, .inl (iA bb))), (b + 14, .inl (kI K, 10, .inl (iA ld)))] := hD
  refine lv_aload_n hx hb dM_plan_5 rfl (lv_at hl 0 rfl) ?_
  refine ctV (n := 0) hx hb hml hown hT ⟨c_M_findPlan l K b 0 wn ar oc lc st tk wa pk mu pr co cn bs ln cu pn le bc bb ld hB9, ⟨_, _, _, Or.inl ⟨rfl, rfl⟩⟩, mt_631, mt_5, by decide, by decide +kernel, by decide, by decide, by decide, by decide⟩ PC.blind mt_628 mt_630 ms_27 (va_RVof (ci := 4) (q0 := 0) hK hP rfl rfl) (As := []) (rest := []) rfl (PC.at ⟨hT, hK⟩ hP) hl.1 rfl (Nat.le_of_ble_eq_true rfl) dM_plan_6 (krV (c1 := 0) (s1 := 0) rfl rfl (fun t9 H L9 hA9 hL9 hpo => ?_))
  replace hS := hA9.S hS (fun q hq => by rw [hAe]; exact hq) hL9
  clear hA9 hL9 hP hD
  obtain ⟨Bn1, bb1, fr1, hBp, hSw, hP⟩ := hpo
  replace hP : va_P (kD K) vcl [(b, .inr (4, [.int (iI 0), .int (iI (wn : Int)), .ref (b + 1), .ref (b + 2), .ref (b + 3), .ref (b + 4), .ref (b + 5), .ref (b + 6), .ref (b + 7), .ref (b + 8), .ref (b + 9), .long (lI co), .ref (b + 10), .ref (b + 11), .int (iI ln), .int (iI cu), .int (iI (pn : Int)), .ref (b + 12), .int (iI (Bn1 : Int)), .ref (b + 13), .ref (b + 14)])), (b + 1, .inl (kI K, 12, .inl (iA ar))), (b + 2, .inl (kI K, 12, .inl (iA oc))), (b + 3, .inl (kI K, 12, .inl (iA lc))), (b + 4, .inl (kI K, 96, .inl (iA st))), (b + 5, .inl (kI K, 96, .inl (iA tk))), (b + 6, .inl (kI K, 10, .inl (iA wa))), (b + 7, .inl (kI K, 10, .inl (iA pk))), (b + 8, .inl (kL K, 40, .inr (.inl (lA mu)))), (b + 9, .inl (kL K, 40, .inr (.inl (lA pr)))), (b + 10, .inl (kI K, 4, .inl (iA cn))), (b + 11, .inl (kI K, 4, .inl (iA bs))), (b + 12, .inl (kI K, 10, .inl (iA le))), (b + 13, .inl (kI K, 10, .inl (iA bb1))), (b + 14, .inl (kI K, 10, .inl (iA (ldF (ln + cu) fr1))))] H := hP
  have hD : va_D A [(b, .inr (4, [.int (iI 0), .int (iI (wn : Int)), .ref (b + 1), .ref (b + 2), .ref (b + 3), .ref (b + 4), .ref (b + 5), .ref (b + 6), .ref (b + 7), .ref (b + 8), .ref (b + 9), .long (lI co), .ref (b + 10), .ref (b + 11), .int (iI ln), .int (iI cu), .int (iI (pn : Int)), .ref (b + 12), .int (iI (Bn1 : Int)), .ref (b + 13), .ref (b + 14)])), (b + 1, .inl (kI K, 12, .inl (iA ar))), (b + 2, .inl (kI K, 12, .inl (iA oc))), (b + 3, .inl (kI K, 12, .inl (iA lc))), (b + 4, .inl (kI K, 96, .inl (iA st))), (b + 5, .inl (kI K, 96, .inl (iA tk))), (b + 6, .inl (kI K, 10, .inl (iA wa))), (b + 7, .inl (kI K, 10, .inl (iA pk))), (b + 8, .inl (kL K, 40, .inr (.inl (lA mu)))), (b + 9, .inl (kL K, 40, .inr (.inl (lA pr)))), (b + 10, .inl (kI K, 4, .inl (iA cn))), (b + 11, .inl (kI K, 4, .inl (iA bs))), (b + 12, .inl (kI K, 10, .inl (iA le))), (b + 13, .inl (kI K, 10, .inl (iA bb1))), (b + 14, .inl (kI K, 10, .inl (iA (ldF (ln + cu) fr1))))] := by rw [hAe]; exact mdD
  refine lv_aload_n hx hb dM_plan_9 rfl (lv_at hl 0 rfl) ?_
  refine va_get (D := kD K) (ci := 4) (v := .int (iI (Bn1 : Int))) (C := RM) (T := FM) (N := 21) hx hb hts jnM hown hK hP 0 rfl rfl 18 (by decide) (hts _ mt_481) (fun _ h9 => h9) rfl dM_plan_10 ?_
  rw [hQ]
  exact iz_iret hx hb hr hlocks (⟨Bn1, bb1, fr1, rfl, hBp, hSw, hP⟩) hS.2.2 dM_plan_13
abbrev rmM_bar : Room := { frames := 3, cells := 0, slots := 0, locals := 120 }
set_option maxHeartbeats 4000000 in
set_option maxRecDepth 100000 in
/-- bar(piece) -/
theorem c_M_bar (l : Launch) (K : KG) (b : Nat) (cd : Int) (wn : Nat) (ar oc lc st tk wa pk mu pr : Nat → Int) (co : Int) (cn bs : Nat → Int) (ln cu : Int) (pn : Nat) (le : Nat → Int) (bc : Int) (bb ld : Nat → Int) (k : Nat) (x1 : Int) (h1 : r32 x1) (hk : 0 ≤ x1 → x1 < pn → x1 = k) (hB9 : SwB ln cu pn le) : Ct l yM_bar kM_bar rmM_bar (PC K [.ref b, .int (iI x1)] (fun H => va_P (kD K) vcl (mdW K b cd wn ar oc lc st tk wa pk mu pr co cn bs ln cu pn le bc bb ld) H)) (QI (fun r H => (¬ (0 ≤ x1 ∧ x1 < pn) ∧ va_P (kD K) vcl (mdW K b 1 wn ar oc lc st tk wa pk mu pr co cn bs ln cu pn le bc bb ld) H) ∨ ((0 ≤ x1 ∧ x1 < pn) ∧ ∃ (Bn' : Nat) (bb' fr' : Nat → Int), r = bb' k ∧ Bn' ≤ pn ∧ SwF ln cu pn le Bn' bb' fr' ∧ va_P (kD K) vcl (mdW K b 0 wn ar oc lc st tk wa pk mu pr co cn bs ln cu pn le (Bn' : Int) bb' (ldF (ln + cu) fr')) H))) (fun x => b ≤ x ∧ x < b + 15) := by
  refine ct_of (by decide) (Or.inl ⟨rfl, rfl⟩) ?_
  intro p e s m args below meth c B0 hP0
  obtain ⟨hx, hb, hr, hml, hown, hlocks, hnm, htab⟩ := B0
  obtain ⟨ha, ⟨hT, hK⟩, hB⟩ := hP0
  have hl := lv_entry ([.ref b, .int (iI x1)]) (n := 2) (Nat.le_of_ble_eq_true rfl)
  obtain ⟨Q, hQ⟩ : ∃ Q, Q = XQ below (QI (fun r H => (¬ (0 ≤ x1 ∧ x1 < pn) ∧ va_P (kD K) vcl (mdW K b 1 wn ar oc lc st tk wa pk mu pr co cn bs ln cu pn le bc bb ld) H) ∨ ((0 ≤ x1 ∧ x1 < pn) ∧ ∃ (Bn' : Nat) (bb' fr' : Nat → Int), r = bb' k ∧ Bn' ≤ pn ∧ SwF ln cu pn le Bn' bb' fr' ∧ va_P (kD K) vcl (mdW K b 0 wn ar oc lc st tk wa pk mu pr co cn bs ln cu pn le (Bn' : Int) bb' (ldF (ln + cu) fr')) H))) args s rmM_bar.cells rmM_bar.slots (fun x => b ≤ x ∧ x < b + 15) := ⟨_, rfl⟩
  rw [← hQ, ha, lg_entry_eq]
  rw [ha] at hQ
  generalize (lg_sl ([.ref b, .int (iI x1)]) ++ List.replicate (2 - (lg_sl ([.ref b, .int (iI x1)])).length) Slot.unset).toArray = ls at hl ⊢
  generalize ([.ref b, .int (iI x1)] : List Value).toArray = args at hQ ⊢
  have hts : ∀ w ∈ TW, w.before args s = true := fun w h => hT w h args
  have hl : lv_has ls 2 [(0, .ref b), (1, .int (iI x1))] := hl
  obtain ⟨A, hAe⟩ : ∃ A : Addr → Prop, A = (fun x => b ≤ x ∧ x < b + 15) := ⟨_, rfl⟩
  rw [← hAe] at hQ
  have hS : va_S A s.heap s.heap [] := va_S.rf
  have hP : va_P (kD K) vcl [(b, .inr (4, [.int (iI cd), .int (iI (wn : Int)), .ref (b + 1), .ref (b + 2), .ref (b + 3), .ref (b + 4), .ref (b + 5), .ref (b + 6), .ref (b + 7), .ref (b + 8), .ref (b + 9), .long (lI co), .ref (b + 10), .ref (b + 11), .int (iI ln), .int (iI cu), .int (iI (pn : Int)), .ref (b + 12), .int (iI bc), .ref (b + 13), .ref (b + 14)])), (b + 1, .inl (kI K, 12, .inl (iA ar))), (b + 2, .inl (kI K, 12, .inl (iA oc))), (b + 3, .inl (kI K, 12, .inl (iA lc))), (b + 4, .inl (kI K, 96, .inl (iA st))), (b + 5, .inl (kI K, 96, .inl (iA tk))), (b + 6, .inl (kI K, 10, .inl (iA wa))), (b + 7, .inl (kI K, 10, .inl (iA pk))), (b + 8, .inl (kL K, 40, .inr (.inl (lA mu)))), (b + 9, .inl (kL K, 40, .inr (.inl (lA pr)))), (b + 10, .inl (kI K, 4, .inl (iA cn))), (b + 11, .inl (kI K, 4, .inl (iA bs))), (b + 12, .inl (kI K, 10, .inl (iA le))), (b + 13, .inl (kI K, 10, .inl (iA bb))), (b + 14, .inl (kI K, 10, .inl (iA ld)))] s.heap := hB
  have hD : va_D A [(b, .inr (4, [.int (iI cd), .int (iI (wn : Int)), .ref (b + 1), .ref (b + 2), .ref (b + 3), .ref (b + 4), .ref (b + 5), .ref (b + 6), .ref (b + 7), .ref (b + 8), .ref (b + 9), .long (lI co), .ref (b + 10), .ref (b + 11), .int (iI ln), .int (iI cu), .int (iI (pn : Int)), .ref (b + 12), .int (iI bc), .ref (b + 13), .ref (b + 14)])), (b + 1, .inl (kI K, 12, .inl (iA ar))), (b + 2, .inl (kI K, 12, .inl (iA oc))), (b + 3, .inl (kI K, 12, .inl (iA lc))), (b + 4, .inl (kI K, 96, .inl (iA st))), (b + 5, .inl (kI K, 96, .inl (iA tk))), (b + 6, .inl (kI K, 10, .inl (iA wa))), (b + 7, .inl (kI K, 10, .inl (iA pk))), (b + 8, .inl (kL K, 40, .inr (.inl (lA mu)))), (b + 9, .inl (kL K, 40, .inr (.inl (lA pr)))), (b + 10, .inl (kI K, 4, .inl (iA cn))), (b + 11, .inl (kI K, 4, .inl (iA bs))), (b + 12, .inl (kI K, 10, .inl (iA le))), (b + 13, .inl (kI K, 10, .inl (iA bb))), (b + 14, .inl (kI K, 10, .inl (iA ld)))] := by rw [hAe]; exact va_D_of (by simp) (by simp <;> omega)
  have hP10 := hB9.2.2.1
  refine lv_aload_n hx hb dM_bar_0 rfl (lv_at hl 0 rfl) ?_
  refine lv_iload_n hx hb dM_bar_1 rfl (lv_at hl 1 rfl) ?_
  refine iz_i2l hx hb ⟨by omega, by omega⟩ dM_bar_2 ?_
  refine iz_lconst hx hb 0 rfl dM_bar_3 ?_
  refine lv_aload_n hx hb dM_bar_4 rfl (lv_at hl 0 rfl) ?_
  refine va_get (D := kD K) (ci := 4) (v := .int (iI (pn : Int))) (C := RM) (T := FM) (N := 21) hx hb hts jnM hown hK hP 0 rfl rfl 16 (by decide) (hts _ mt_479) (fun _ h9 => h9) rfl dM_bar_5 ?_
  refine iz_iconst hx hb dM_bar_8 ?_
  refine iz_isub hx hb dM_bar_9 ?_
  refine iz_i2l hx hb ⟨by omega, by omega⟩ dM_bar_10 ?_
  refine ctS (n := 3) hx hb hml hown hT ⟨c_M_isIn l K x1 0 ((pn : Int) - 1) ⟨by omega, by omega⟩ ⟨by omega, by omega⟩ ⟨by omega, by omega⟩, ⟨_, _, _, Or.inl ⟨rfl, rfl⟩⟩, mt_539, mt_5, by decide, by decide +kernel, by decide, by decide, by decide, by decide⟩ PC.blind mt_537 mt_538 (As := [.long (lI x1), .long (lI 0), .long (lI ((pn : Int) - 1))]) (rest := [.ref b]) rfl (PC.at ⟨hT, hK⟩ trivial) hl.1 rfl (Nat.le_of_ble_eq_true rfl) dM_bar_11 (krI0 rfl rfl (fun _ h => h) (fun r g1 => ?_))
  rcases g1 with ⟨rfl, g1⟩ | ⟨rfl, g1⟩
  · refine iz_if_eq (tgt := 21) hx hb ⟨by omega, by omega⟩ dM_bar_14 (by decide) (fun g => absurd g (by decide)) (fun _ => ?_)
    refine iz_iconst hx hb dM_bar_17 ?_
    refine lv_goto (tgt := 22) hx hb dM_bar_18 (by decide) ?_
    refine va_put (D := kD K) (ci := 4) (v := .int (iI 0)) (ty := .int) (C := RM) (T := FM) (N := 21) hx hb hts jnM tM tM_ok nM hown hK hP hD hS 0 rfl rfl 0 (by decide) (hts _ mt_463) (fun _ h9 => h9) rfl (by decide +kernel) rfl rfl (Nat.le_of_ble_eq_true rfl) dM_bar_22 ?_
    clear hP hD hS
    intro H locs hP hD hS
    replace hP : va_P (kD K) vcl [(b, .inr (4, [.int (iI 0), .int (iI (wn : Int)), .ref (b + 1), .ref (b + 2), .ref (b + 3), .ref (b + 4), .ref (b + 5), .ref (b + 6), .ref (b + 7), .ref (b + 8), .ref (b + 9), .long (lI co), .ref (b + 10), .ref (b + 11), .int (iI ln), .int (iI cu), .int (iI (pn : Int)), .ref (b + 12), .int (iI bc), .ref (b + 13), .ref (b + 14)])), (b + 1, .inl (kI K, 12, .inl (iA ar))), (b + 2, .inl (kI K, 12, .inl (iA oc))), (b + 3, .inl (kI K, 12, .inl (iA lc))), (b + 4, .inl (kI K, 96, .inl (iA st))), (b + 5, .inl (kI K, 96, .inl (iA tk))), (b + 6, .inl (kI K, 10, .inl (iA wa))), (b + 7, .inl (kI K, 10, .inl (iA pk))), (b + 8, .inl (kL K, 40, .inr (.inl (lA mu)))), (b + 9, .inl (kL K, 40, .inr (.inl (lA pr)))), (b + 10, .inl (kI K, 4, .inl (iA cn))), (b + 11, .inl (kI K, 4, .inl (iA bs))), (b + 12, .inl (kI K, 10, .inl (iA le))), (b + 13, .inl (kI K, 10, .inl (iA bb))), (b + 14, .inl (kI K, 10, .inl (iA ld)))] H := hP
    replace hD : va_D A [(b, .inr (4, [.int (iI 0), .int (iI (wn : Int)), .ref (b + 1), .ref (b + 2), .ref (b + 3), .ref (b + 4), .ref (b + 5), .ref (b + 6), .ref (b + 7), .ref (b + 8), .ref (b + 9), .long (lI co), .ref (b + 10), .ref (b + 11), .int (iI ln), .int (iI cu), .int (iI (pn : Int)), .ref (b + 12), .int (iI bc), .ref (b + 13), .ref (b + 14)])), (b + 1, .inl (kI K, 12, .inl (iA ar))), (b + 2, .inl (kI K, 12, .inl (iA oc))), (b + 3, .inl (kI K, 12, .inl (iA lc))), (b + 4, .inl (kI K, 96, .inl (iA st))), (b + 5, .inl (kI K, 96, .inl (iA tk))), (b + 6, .inl (kI K, 10, .inl (iA wa))), (b + 7, .inl (kI K, 10, .inl (iA pk))), (b + 8, .inl (kL K, 40, .inr (.inl (lA mu)))), (b + 9, .inl (kL K, 40, .inr (.inl (lA pr)))), (b + 10, .inl (kI K, 4, .inl (iA cn))), (b + 11, .inl (kI K, 4, .inl (iA bs))), (b + 12, .inl (kI K, 10, .inl (iA le))), (b + 13, .inl (kI K, 10, .inl (iA bb))), (b + 14, .inl (kI K, 10, .inl (iA ld)))] := hD
    refine lv_aload_n hx hb dM_bar_25 rfl (lv_at hl 0 rfl) ?_
    refine va_get (D := kD K) (ci := 4) (v := .int (iI 0)) (C := RM) (T := FM) (N := 21) hx hb hts jnM hown hK hP 0 rfl rfl 0 (by decide) (hts _ mt_463) (fun _ h9 => h9) rfl dM_bar_26 ?_
    refine iz_if_le (tgt := 34) hx hb ⟨by omega, by omega⟩ dM_bar_29 (by decide) (fun _ => ?_) (fun g => absurd g (by decide))
    have e1 := hk (by omega) (by omega)
    subst e1
    clear hk
    refine lv_aload_n hx hb dM_bar_34 rfl (lv_at hl 0 rfl) ?_
    refine ctV (n := 0) hx hb hml hown hT ⟨c_M_findPlan l K b 0 wn ar oc lc st tk wa pk mu pr co cn bs ln cu pn le bc bb ld hB9, ⟨_, _, _, Or.inl ⟨rfl, rfl⟩⟩, mt_631, mt_5, by decide, by decide +kernel, by decide, by decide, by decide, by decide⟩ PC.blind mt_628 mt_630 ms_27 (va_RVof (ci := 4) (q0 := 0) hK hP rfl rfl) (As := []) (rest := []) rfl (PC.at ⟨hT, hK⟩ hP) hl.1 rfl (Nat.le_of_ble_eq_true rfl) dM_bar_35 (krV (c1 := 0) (s1 := 0) rfl rfl (fun t9 H L9 hA9 hL9 hpo => ?_))
    replace hS := hA9.S hS (fun q hq => by rw [hAe]; exact hq) hL9
    clear hA9 hL9 hP hD
    obtain ⟨Bn1, bb1, fr1, hBp, hSw, hP⟩ := hpo
    replace hP : va_P (kD K) vcl [(b, .inr (4, [.int (iI 0), .int (iI (wn : Int)), .ref (b + 1), .ref (b + 2), .ref (b + 3), .ref (b + 4), .ref (b + 5), .ref (b + 6), .ref (b + 7), .ref (b + 8), .ref (b + 9), .long (lI co), .ref (b + 10), .ref (b + 11), .int (iI ln), .int (iI cu), .int (iI (pn : Int)), .ref (b + 12), .int (iI (Bn1 : Int)), .ref (b + 13), .ref (b + 14)])), (b + 1, .inl (kI K, 12, .inl (iA ar))), (b + 2, .inl (kI K, 12, .inl (iA oc))), (b + 3, .inl (kI K, 12, .inl (iA lc))), (b + 4, .inl (kI K, 96, .inl (iA st))), (b + 5, .inl (kI K, 96, .inl (iA tk))), (b + 6, .inl (kI K, 10, .inl (iA wa))), (b + 7, .inl (kI K, 10, .inl (iA pk))), (b + 8, .inl (kL K, 40, .inr (.inl (lA mu)))), (b + 9, .inl (kL K, 40, .inr (.inl (lA pr)))), (b + 10, .inl (kI K, 4, .inl (iA cn))), (b + 11, .inl (kI K, 4, .inl (iA bs))), (b + 12, .inl (kI K, 10, .inl (iA le))), (b + 13, .inl (kI K, 10, .inl (iA bb1))), (b + 14, .inl (kI K, 10, .inl (iA (ldF (ln + cu) fr1))))] H := hP
    have hD : va_D A [(b, .inr (4, [.int (iI 0), .int (iI (wn : Int)), .ref (b + 1), .ref (b + 2), .ref (b + 3), .ref (b + 4), .ref (b + 5), .ref (b + 6), .ref (b + 7), .ref (b + 8), .ref (b + 9), .long (lI co), .ref (b + 10), .ref (b + 11), .int (iI ln), .int (iI cu), .int (iI (pn : Int)), .ref (b + 12), .int (iI (Bn1 : Int)), .ref (b + 13), .ref (b + 14)])), (b + 1, .inl (kI K, 12, .inl (iA ar))), (b + 2, .inl (kI K, 12, .inl (iA oc))), (b + 3, .inl (kI K, 12, .inl (iA lc))), (b + 4, .inl (kI K, 96, .inl (iA st))), (b + 5, .inl (kI K, 96, .inl (iA tk))), (b + 6, .inl (kI K, 10, .inl (iA wa))), (b + 7, .inl (kI K, 10, .inl (iA pk))), (b + 8, .inl (kL K, 40, .inr (.inl (lA mu)))), (b + 9, .inl (kL K, 40, .inr (.inl (lA pr)))), (b + 10, .inl (kI K, 4, .inl (iA cn))), (b + 11, .inl (kI K, 4, .inl (iA bs))), (b + 12, .inl (kI K, 10, .inl (iA le))), (b + 13, .inl (kI K, 10, .inl (iA bb1))), (b + 14, .inl (kI K, 10, .inl (iA (ldF (ln + cu) fr1))))] := by rw [hAe]; exact mdD
    refine lv_aload_n hx hb dM_bar_38 rfl (lv_at hl 0 rfl) ?_
    refine va_get (D := kD K) (ci := 4) (v := .ref (b + 13)) (C := RM) (T := FM) (N := 21) hx hb hts jnM hown hK hP 0 rfl rfl 19 (by decide) (hts _ mt_482) (fun _ h9 => h9) rfl dM_bar_39 ?_
    refine lv_iload_n hx hb dM_bar_42 rfl (lv_at hl 1 rfl) ?_
    refine iz_iald hx hb hK hP 13 rfl k rfl (by omega) (by omega) dM_bar_43 ?_
    rw [hQ]
    exact iz_iret hx hb hr hlocks (Or.inr ⟨by omega, Bn1, bb1, fr1, rfl, hBp, hSw, hP⟩) hS.2.2 dM_bar_44
  · refine iz_if_eq (tgt := 21) hx hb ⟨by omega, by omega⟩ dM_bar_14 (by decide) (fun _ => ?_) (fun g => absurd g (by decide))
    refine iz_iconst hx hb dM_bar_21 ?_
    refine va_put (D := kD K) (ci := 4) (v := .int (iI 1)) (ty := .int) (C := RM) (T := FM) (N := 21) hx hb hts jnM tM tM_ok nM hown hK hP hD hS 0 rfl rfl 0 (by decide) (hts _ mt_463) (fun _ h9 => h9) rfl (by decide +kernel) rfl rfl (Nat.le_of_ble_eq_true rfl) dM_bar_22 ?_
    clear hP hD hS
    intro H locs hP hD hS
    replace hP : va_P (kD K) vcl [(b, .inr (4, [.int (iI 1), .int (iI (wn : Int)), .ref (b + 1), .ref (b + 2), .ref (b + 3), .ref (b + 4), .ref (b + 5), .ref (b + 6), .ref (b + 7), .ref (b + 8), .ref (b + 9), .long (lI co), .ref (b + 10), .ref (b + 11), .int (iI ln), .int (iI cu), .int (iI (pn : Int)), .ref (b + 12), .int (iI bc), .ref (b + 13), .ref (b + 14)])), (b + 1, .inl (kI K, 12, .inl (iA ar))), (b + 2, .inl (kI K, 12, .inl (iA oc))), (b + 3, .inl (kI K, 12, .inl (iA lc))), (b + 4, .inl (kI K, 96, .inl (iA st))), (b + 5, .inl (kI K, 96, .inl (iA tk))), (b + 6, .inl (kI K, 10, .inl (iA wa))), (b + 7, .inl (kI K, 10, .inl (iA pk))), (b + 8, .inl (kL K, 40, .inr (.inl (lA mu)))), (b + 9, .inl (kL K, 40, .inr (.inl (lA pr)))), (b + 10, .inl (kI K, 4, .inl (iA cn))), (b + 11, .inl (kI K, 4, .inl (iA bs))), (b + 12, .inl (kI K, 10, .inl (iA le))), (b + 13, .inl (kI K, 10, .inl (iA bb))), (b + 14, .inl (kI K, 10, .inl (iA ld)))] H := hP
    replace hD : va_D A [(b, .inr (4, [.int (iI 1), .int (iI (wn : Int)), .ref (b + 1), .ref (b + 2), .ref (b + 3), .ref (b + 4), .ref (b + 5), .ref (b + 6), .ref (b + 7), .ref (b + 8), .ref (b + 9), .long (lI co), .ref (b + 10), .ref (b + 11), .int (iI ln), .int (iI cu), .int (iI (pn : Int)), .ref (b + 12), .int (iI bc), .ref (b + 13), .ref (b + 14)])), (b + 1, .inl (kI K, 12, .inl (iA ar))), (b + 2, .inl (kI K, 12, .inl (iA oc))), (b + 3, .inl (kI K, 12, .inl (iA lc))), (b + 4, .inl (kI K, 96, .inl (iA st))), (b + 5, .inl (kI K, 96, .inl (iA tk))), (b + 6, .inl (kI K, 10, .inl (iA wa))), (b + 7, .inl (kI K, 10, .inl (iA pk))), (b + 8, .inl (kL K, 40, .inr (.inl (lA mu)))), (b + 9, .inl (kL K, 40, .inr (.inl (lA pr)))), (b + 10, .inl (kI K, 4, .inl (iA cn))), (b + 11, .inl (kI K, 4, .inl (iA bs))), (b + 12, .inl (kI K, 10, .inl (iA le))), (b + 13, .inl (kI K, 10, .inl (iA bb))), (b + 14, .inl (kI K, 10, .inl (iA ld)))] := hD
    refine lv_aload_n hx hb dM_bar_25 rfl (lv_at hl 0 rfl) ?_
    refine va_get (D := kD K) (ci := 4) (v := .int (iI 1)) (C := RM) (T := FM) (N := 21) hx hb hts jnM hown hK hP 0 rfl rfl 0 (by decide) (hts _ mt_463) (fun _ h9 => h9) rfl dM_bar_26 ?_
    refine iz_if_le (tgt := 34) hx hb ⟨by omega, by omega⟩ dM_bar_29 (by decide) (fun g => absurd g (by decide)) (fun _ => ?_)
    refine iz_iconst hx hb dM_bar_32 ?_
    rw [hQ]
    exact iz_iret hx hb hr hlocks (Or.inl ⟨by omega, hP⟩) hS.2.2 dM_bar_33
abbrev rmM_rest : Room := { frames := 3, cells := 0, slots := 0, locals := 120 }
set_option maxHeartbeats 4000000 in
set_option maxRecDepth 100000 in
/-- rest(bar) -/
theorem c_M_rest (l : Launch) (K : KG) (b : Nat) (cd : Int) (wn : Nat) (ar oc lc st tk wa pk mu pr : Nat → Int) (co : Int) (cn bs : Nat → Int) (ln cu : Int) (pn : Nat) (le : Nat → Int) (bc : Int) (bb ld : Nat → Int) (x1 : Int) (h1 : r32 x1) (hB9 : SwB ln cu pn le) : Ct l yM_rest kM_rest rmM_rest (PC K [.ref b, .int (iI x1)] (fun H => va_P (kD K) vcl (mdW K b cd wn ar oc lc st tk wa pk mu pr co cn bs ln cu pn le bc bb ld) H)) (QI (fun r H => ∃ (Bn' : Nat) (bb' fr' : Nat → Int), Bn' ≤ pn ∧ SwF ln cu pn le Bn' bb' fr' ∧ ((¬ (0 ≤ x1 ∧ x1 < Bn') ∧ va_P (kD K) vcl (mdW K b 1 wn ar oc lc st tk wa pk mu pr co cn bs ln cu pn le (Bn' : Int) bb' (ldF (ln + cu) fr')) H) ∨ ((0 ≤ x1 ∧ x1 < Bn') ∧ (∃ k : Nat, x1 = k ∧ r = fr' k) ∧ va_P (kD K) vcl (mdW K b 0 wn ar oc lc st tk wa pk mu pr co cn bs ln cu pn le (Bn' : Int) bb' (ldF (ln + cu) fr')) H)))) (fun x => b ≤ x ∧ x < b + 15) := by
  refine ct_of (by decide) (Or.inl ⟨rfl, rfl⟩) ?_
  intro p e s m args below meth c B0 hP0
  obtain ⟨hx, hb, hr, hml, hown, hlocks, hnm, htab⟩ := B0
  obtain ⟨ha, ⟨hT, hK⟩, hB⟩ := hP0
  have hl := lv_entry ([.ref b, .int (iI x1)]) (n := 2) (Nat.le_of_ble_eq_true rfl)
  obtain ⟨Q, hQ⟩ : ∃ Q, Q = XQ below (QI (fun r H => ∃ (Bn' : Nat) (bb' fr' : Nat → Int), Bn' ≤ pn ∧ SwF ln cu pn le Bn' bb' fr' ∧ ((¬ (0 ≤ x1 ∧ x1 < Bn') ∧ va_P (kD K) vcl (mdW K b 1 wn ar oc lc st tk wa pk mu pr co cn bs ln cu pn le (Bn' : Int) bb' (ldF (ln + cu) fr')) H) ∨ ((0 ≤ x1 ∧ x1 < Bn') ∧ (∃ k : Nat, x1 = k ∧ r = fr' k) ∧ va_P (kD K) vcl (mdW K b 0 wn ar oc lc st tk wa pk mu pr co cn bs ln cu pn le (Bn' : Int) bb' (ldF (ln + cu) fr')) H)))) args s rmM_rest.cells rmM_rest.slots (fun x => b ≤ x ∧ x < b + 15) := ⟨_, rfl⟩
  rw [← hQ, ha, lg_entry_eq]
  rw [ha] at hQ
  generalize (lg_sl ([.ref b, .int (iI x1)]) ++ List.replicate (2 - (lg_sl ([.ref b, .int (iI x1)])).length) Slot.unset).toArray = ls at hl ⊢
  generalize ([.ref b, .int (iI x1)] : List Value).toArray = args at hQ ⊢
  have hts : ∀ w ∈ TW, w.before args s = true := fun w h => hT w h args
  have hl : lv_has ls 2 [(0, .ref b), (1, .int (iI x1))] := hl
  obtain ⟨A, hAe⟩ : ∃ A : Addr → Prop, A = (fun x => b ≤ x ∧ x < b + 15) := ⟨_, rfl⟩
  rw [← hAe] at hQ
  have hS : va_S A s.heap s.heap [] := va_S.rf
  have hP : va_P (kD K) vcl [(b, .inr (4, [.int (iI cd), .int (iI (wn : Int)), .ref (b + 1), .ref (b + 2), .ref (b + 3), .ref (b + 4), .ref (b + 5), .ref (b + 6), .ref (b + 7), .ref (b + 8), .ref (b + 9), .long (lI co), .ref (b + 10), .ref (b + 11), .int (iI ln), .int (iI cu), .int (iI (pn : Int)), .ref (b + 12), .int (iI bc), .ref (b + 13), .ref (b + 14)])), (b + 1, .inl (kI K, 12, .inl (iA ar))), (b + 2, .inl (kI K, 12, .inl (iA oc))), (b + 3, .inl (kI K, 12, .inl (iA lc))), (b + 4, .inl (kI K, 96, .inl (iA st))), (b + 5, .inl (kI K, 96, .inl (iA tk))), (b + 6, .inl (kI K, 10, .inl (iA wa))), (b + 7, .inl (kI K, 10, .inl (iA pk))), (b + 8, .inl (kL K, 40, .inr (.inl (lA mu)))), (b + 9, .inl (kL K, 40, .inr (.inl (lA pr)))), (b + 10, .inl (kI K, 4, .inl (iA cn))), (b + 11, .inl (kI K, 4, .inl (iA bs))), (b + 12, .inl (kI K, 10, .inl (iA le))), (b + 13, .inl (kI K, 10, .inl (iA bb))), (b + 14, .inl (kI K, 10, .inl (iA ld)))] s.heap := hB
  have hD : va_D A [(b, .inr (4, [.int (iI cd), .int (iI (wn : Int)), .ref (b + 1), .ref (b + 2), .ref (b + 3), .ref (b + 4), .ref (b + 5), .ref (b + 6), .ref (b + 7), .ref (b + 8), .ref (b + 9), .long (lI co), .ref (b + 10), .ref (b + 11), .int (iI ln), .int (iI cu), .int (iI (pn : Int)), .ref (b + 12), .int (iI bc), .ref (b + 13), .ref (b + 14)])), (b + 1, .inl (kI K, 12, .inl (iA ar))), (b + 2, .inl (kI K, 12, .inl (iA oc))), (b + 3, .inl (kI K, 12, .inl (iA lc))), (b + 4, .inl (kI K, 96, .inl (iA st))), (b + 5, .inl (kI K, 96, .inl (iA tk))), (b + 6, .inl (kI K, 10, .inl (iA wa))), (b + 7, .inl (kI K, 10, .inl (iA pk))), (b + 8, .inl (kL K, 40, .inr (.inl (lA mu)))), (b + 9, .inl (kL K, 40, .inr (.inl (lA pr)))), (b + 10, .inl (kI K, 4, .inl (iA cn))), (b + 11, .inl (kI K, 4, .inl (iA bs))), (b + 12, .inl (kI K, 10, .inl (iA le))), (b + 13, .inl (kI K, 10, .inl (iA bb))), (b + 14, .inl (kI K, 10, .inl (iA ld)))] := by rw [hAe]; exact va_D_of (by simp) (by simp <;> omega)
  have hP10 := hB9.2.2.1
  refine lv_aload_n hx hb dM_rest_0 rfl (lv_at hl 0 rfl) ?_
  refine ctV (n := 0) hx hb hml hown hT ⟨c_M_findPlan l K b cd wn ar oc lc st tk wa pk mu pr co cn bs ln cu pn le bc bb ld hB9, ⟨_, _, _, Or.inl ⟨rfl, rfl⟩⟩, mt_631, mt_5, by decide, by decide +kernel, by decide, by decide, by decide, by decide⟩ PC.blind mt_628 mt_630 ms_27 (va_RVof (ci := 4) (q0 := 0) hK hP rfl rfl) (As := []) (rest := []) rfl (PC.at ⟨hT, hK⟩ hP) hl.1 rfl (Nat.le_of_ble_eq_true rfl) dM_rest_1 (krV (c1 := 0) (s1 := 0) rfl rfl (fun t9 H L9 hA9 hL9 hpo => ?_))
  replace hS := hA9.S hS (fun q hq => by rw [hAe]; exact hq) hL9
  clear hA9 hL9 hP hD
  obtain ⟨Bn1, bb1, fr1, hBp, hSw, hP⟩ := hpo
  replace hP : va_P (kD K) vcl [(b, .inr (4, [.int (iI cd), .int (iI (wn : Int)), .ref (b + 1), .ref (b + 2), .ref (b + 3), .ref (b + 4), .ref (b + 5), .ref (b + 6), .ref (b + 7), .ref (b + 8), .ref (b + 9), .long (lI co), .ref (b + 10), .ref (b + 11), .int (iI ln), .int (iI cu), .int (iI (pn : Int)), .ref (b + 12), .int (iI (Bn1 : Int)), .ref (b + 13), .ref (b + 14)])), (b + 1, .inl (kI K, 12, .inl (iA ar))), (b + 2, .inl (kI K, 12, .inl (iA oc))), (b + 3, .inl (kI K, 12, .inl (iA lc))), (b + 4, .inl (kI K, 96, .inl (iA st))), (b + 5, .inl (kI K, 96, .inl (iA tk))), (b + 6, .inl (kI K, 10, .inl (iA wa))), (b + 7, .inl (kI K, 10, .inl (iA pk))), (b + 8, .inl (kL K, 40, .inr (.inl (lA mu)))), (b + 9, .inl (kL K, 40, .inr (.inl (lA pr)))), (b + 10, .inl (kI K, 4, .inl (iA cn))), (b + 11, .inl (kI K, 4, .inl (iA bs))), (b + 12, .inl (kI K, 10, .inl (iA le))), (b + 13, .inl (kI K, 10, .inl (iA bb1))), (b + 14, .inl (kI K, 10, .inl (iA (ldF (ln + cu) fr1))))] H := hP
  have hD : va_D A [(b, .inr (4, [.int (iI cd), .int (iI (wn : Int)), .ref (b + 1), .ref (b + 2), .ref (b + 3), .ref (b + 4), .ref (b + 5), .ref (b + 6), .ref (b + 7), .ref (b + 8), .ref (b + 9), .long (lI co), .ref (b + 10), .ref (b + 11), .int (iI ln), .int (iI cu), .int (iI (pn : Int)), .ref (b + 12), .int (iI (Bn1 : Int)), .ref (b + 13), .ref (b + 14)])), (b + 1, .inl (kI K, 12, .inl (iA ar))), (b + 2, .inl (kI K, 12, .inl (iA oc))), (b + 3, .inl (kI K, 12, .inl (iA lc))), (b + 4, .inl (kI K, 96, .inl (iA st))), (b + 5, .inl (kI K, 96, .inl (iA tk))), (b + 6, .inl (kI K, 10, .inl (iA wa))), (b + 7, .inl (kI K, 10, .inl (iA pk))), (b + 8, .inl (kL K, 40, .inr (.inl (lA mu)))), (b + 9, .inl (kL K, 40, .inr (.inl (lA pr)))), (b + 10, .inl (kI K, 4, .inl (iA cn))), (b + 11, .inl (kI K, 4, .inl (iA bs))), (b + 12, .inl (kI K, 10, .inl (iA le))), (b + 13, .inl (kI K, 10, .inl (iA bb1))), (b + 14, .inl (kI K, 10, .inl (iA (ldF (ln + cu) fr1))))] := by rw [hAe]; exact mdD
  refine lv_aload_n hx hb dM_rest_4 rfl (lv_at hl 0 rfl) ?_
  refine lv_iload_n hx hb dM_rest_5 rfl (lv_at hl 1 rfl) ?_
  refine iz_i2l hx hb ⟨by omega, by omega⟩ dM_rest_6 ?_
  refine iz_lconst hx hb 0 rfl dM_rest_7 ?_
  refine lv_aload_n hx hb dM_rest_8 rfl (lv_at hl 0 rfl) ?_
  refine va_get (D := kD K) (ci := 4) (v := .int (iI (Bn1 : Int))) (C := RM) (T := FM) (N := 21) hx hb hts jnM hown hK hP 0 rfl rfl 18 (by decide) (hts _ mt_481) (fun _ h9 => h9) rfl dM_rest_9 ?_
  refine iz_iconst hx hb dM_rest_12 ?_
  refine iz_isub hx hb dM_rest_13 ?_
  refine iz_i2l hx hb ⟨by omega, by omega⟩ dM_rest_14 ?_
  refine ctS (n := 3) hx hb hml hown hT ⟨c_M_isIn l K x1 0 ((Bn1 : Int) - 1) ⟨by omega, by omega⟩ ⟨by omega, by omega⟩ ⟨by omega, by omega⟩, ⟨_, _, _, Or.inl ⟨rfl, rfl⟩⟩, mt_539, mt_5, by decide, by decide +kernel, by decide, by decide, by decide, by decide⟩ PC.blind mt_537 mt_538 (As := [.long (lI x1), .long (lI 0), .long (lI ((Bn1 : Int) - 1))]) (rest := [.ref b]) rfl (PC.at ⟨hT, hK⟩ trivial) hl.1 rfl (Nat.le_of_ble_eq_true rfl) dM_rest_15 (krI0 rfl rfl (fun _ h => h) (fun r g1 => ?_))
  rcases g1 with ⟨rfl, g1⟩ | ⟨rfl, g1⟩
  · refine iz_if_eq (tgt := 25) hx hb ⟨by omega, by omega⟩ dM_rest_18 (by decide) (fun g => absurd g (by decide)) (fun _ => ?_)
    refine iz_iconst hx hb dM_rest_21 ?_
    refine lv_goto (tgt := 26) hx hb dM_rest_22 (by decide) ?_
    refine va_put (D := kD K) (ci := 4) (v := .int (iI 0)) (ty := .int) (C := RM) (T := FM) (N := 21) hx hb hts jnM tM tM_ok nM hown hK hP hD hS 0 rfl rfl 0 (by decide) (hts _ mt_463) (fun _ h9 => h9) rfl (by decide +kernel) rfl rfl (Nat.le_of_ble_eq_true rfl) dM_rest_26 ?_
    clear hP hD hS
    intro H locs hP hD hS
    replace hP : va_P (kD K) vcl [(b, .inr (4, [.int (iI 0), .int (iI (wn : Int)), .ref (b + 1), .ref (b + 2), .ref (b + 3), .ref (b + 4), .ref (b + 5), .ref (b + 6), .ref (b + 7), .ref (b + 8), .ref (b + 9), .long (lI co), .ref (b + 10), .ref (b + 11), .int (iI ln), .int (iI cu), .int (iI (pn : Int)), .ref (b + 12), .int (iI (Bn1 : Int)), .ref (b + 13), .ref (b + 14)])), (b + 1, .inl (kI K, 12, .inl (iA ar))), (b + 2, .inl (kI K, 12, .inl (iA oc))), (b + 3, .inl (kI K, 12, .inl (iA lc))), (b + 4, .inl (kI K, 96, .inl (iA st))), (b + 5, .inl (kI K, 96, .inl (iA tk))), (b + 6, .inl (kI K, 10, .inl (iA wa))), (b + 7, .inl (kI K, 10, .inl (iA pk))), (b + 8, .inl (kL K, 40, .inr (.inl (lA mu)))), (b + 9, .inl (kL K, 40, .inr (.inl (lA pr)))), (b + 10, .inl (kI K, 4, .inl (iA cn))), (b + 11, .inl (kI K, 4, .inl (iA bs))), (b + 12, .inl (kI K, 10, .inl (iA le))), (b + 13, .inl (kI K, 10, .inl (iA bb1))), (b + 14, .inl (kI K, 10, .inl (iA (ldF (ln + cu) fr1))))] H := hP
    replace hD : va_D A [(b, .inr (4, [.int (iI 0), .int (iI (wn : Int)), .ref (b + 1), .ref (b + 2), .ref (b + 3), .ref (b + 4), .ref (b + 5), .ref (b + 6), .ref (b + 7), .ref (b + 8), .ref (b + 9), .long (lI co), .ref (b + 10), .ref (b + 11), .int (iI ln), .int (iI cu), .int (iI (pn : Int)), .ref (b + 12), .int (iI (Bn1 : Int)), .ref (b + 13), .ref (b + 14)])), (b + 1, .inl (kI K, 12, .inl (iA ar))), (b + 2, .inl (kI K, 12, .inl (iA oc))), (b + 3, .inl (kI K, 12, .inl (iA lc))), (b + 4, .inl (kI K, 96, .inl (iA st))), (b + 5, .inl (kI K, 96, .inl (iA tk))), (b + 6, .inl (kI K, 10, .inl (iA wa))), (b + 7, .inl (kI K, 10, .inl (iA pk))), (b + 8, .inl (kL K, 40, .inr (.inl (lA mu)))), (b + 9, .inl (kL K, 40, .inr (.inl (lA pr)))), (b + 10, .inl (kI K, 4, .inl (iA cn))), (b + 11, .inl (kI K, 4, .inl (iA bs))), (b + 12, .inl (kI K, 10, .inl (iA le))), (b + 13, .inl (kI K, 10, .inl (iA bb1))), (b + 14, .inl (kI K, 10, .inl (iA (ldF (ln + cu) fr1))))] := hD
    refine lv_aload_n hx hb dM_rest_29 rfl (lv_at hl 0 rfl) ?_
    refine va_get (D := kD K) (ci := 4) (v := .int (iI 0)) (C := RM) (T := FM) (N := 21) hx hb hts jnM hown hK hP 0 rfl rfl 0 (by decide) (hts _ mt_463) (fun _ h9 => h9) rfl dM_rest_30 ?_
    refine iz_if_le (tgt := 40) hx hb ⟨by omega, by omega⟩ dM_rest_33 (by decide) (fun _ => ?_) (fun g => absurd g (by decide))
    obtain ⟨k, hk9⟩ : ∃ k : Nat, x1 = k := ⟨x1.toNat, by omega⟩
    refine lv_aload_n hx hb dM_rest_40 rfl (lv_at hl 0 rfl) ?_
    refine va_get (D := kD K) (ci := 4) (v := .int (iI ln)) (C := RM) (T := FM) (N := 21) hx hb hts jnM hown hK hP 0 rfl rfl 14 (by decide) (hts _ mt_477) (fun _ h9 => h9) rfl dM_rest_41 ?_
    refine lv_aload_n hx hb dM_rest_44 rfl (lv_at hl 0 rfl) ?_
    refine va_get (D := kD K) (ci := 4) (v := .int (iI cu)) (C := RM) (T := FM) (N := 21) hx hb hts jnM hown hK hP 0 rfl rfl 15 (by decide) (hts _ mt_478) (fun _ h9 => h9) rfl dM_rest_45 ?_
    refine iz_iadd hx hb dM_rest_48 ?_
    refine lv_aload_n hx hb dM_rest_49 rfl (lv_at hl 0 rfl) ?_
    refine va_get (D := kD K) (ci := 4) (v := .ref (b + 14)) (C := RM) (T := FM) (N := 21) hx hb hts jnM hown hK hP 0 rfl rfl 20 (by decide) (hts _ mt_483) (fun _ h9 => h9) rfl dM_rest_50 ?_
    refine lv_iload_n hx hb dM_rest_53 rfl (lv_at hl 1 rfl) ?_
    refine iz_iald hx hb hK hP 14 rfl k hk9 (by omega) (by omega) dM_rest_54 ?_
    refine iz_isub hx hb dM_rest_55 ?_
    rw [hQ]
    exact iz_iret hx hb hr hlocks (⟨Bn1, bb1, fr1, hBp, hSw, Or.inr ⟨by omega, ⟨k, hk9, by rw [ldF_at]; omega⟩, hP⟩⟩) hS.2.2 dM_rest_56
  · refine iz_if_eq (tgt := 25) hx hb ⟨by omega, by omega⟩ dM_rest_18 (by decide) (fun _ => ?_) (fun g => absurd g (by decide))
    refine iz_iconst hx hb dM_rest_25 ?_
    refine va_put (D := kD K) (ci := 4) (v := .int (iI 1)) (ty := .int) (C := RM) (T := FM) (N := 21) hx hb hts jnM tM tM_ok nM hown hK hP hD hS 0 rfl rfl 0 (by decide) (hts _ mt_463) (fun _ h9 => h9) rfl (by decide +kernel) rfl rfl (Nat.le_of_ble_eq_true rfl) dM_rest_26 ?_
    clear hP hD hS
    intro H locs hP hD hS
    replace hP : va_P (kD K) vcl [(b, .inr (4, [.int (iI 1), .int (iI (wn : Int)), .ref (b + 1), .ref (b + 2), .ref (b + 3), .ref (b + 4), .ref (b + 5), .ref (b + 6), .ref (b + 7), .ref (b + 8), .ref (b + 9), .long (lI co), .ref (b + 10), .ref (b + 11), .int (iI ln), .int (iI cu), .int (iI (pn : Int)), .ref (b + 12), .int (iI (Bn1 : Int)), .ref (b + 13), .ref (b + 14)])), (b + 1, .inl (kI K, 12, .inl (iA ar))), (b + 2, .inl (kI K, 12, .inl (iA oc))), (b + 3, .inl (kI K, 12, .inl (iA lc))), (b + 4, .inl (kI K, 96, .inl (iA st))), (b + 5, .inl (kI K, 96, .inl (iA tk))), (b + 6, .inl (kI K, 10, .inl (iA wa))), (b + 7, .inl (kI K, 10, .inl (iA pk))), (b + 8, .inl (kL K, 40, .inr (.inl (lA mu)))), (b + 9, .inl (kL K, 40, .inr (.inl (lA pr)))), (b + 10, .inl (kI K, 4, .inl (iA cn))), (b + 11, .inl (kI K, 4, .inl (iA bs))), (b + 12, .inl (kI K, 10, .inl (iA le))), (b + 13, .inl (kI K, 10, .inl (iA bb1))), (b + 14, .inl (kI K, 10, .inl (iA (ldF (ln + cu) fr1))))] H := hP
    replace hD : va_D A [(b, .inr (4, [.int (iI 1), .int (iI (wn : Int)), .ref (b + 1), .ref (b + 2), .ref (b + 3), .ref (b + 4), .ref (b + 5), .ref (b + 6), .ref (b + 7), .ref (b + 8), .ref (b + 9), .long (lI co), .ref (b + 10), .ref (b + 11), .int (iI ln), .int (iI cu), .int (iI (pn : Int)), .ref (b + 12), .int (iI (Bn1 : Int)), .ref (b + 13), .ref (b + 14)])), (b + 1, .inl (kI K, 12, .inl (iA ar))), (b + 2, .inl (kI K, 12, .inl (iA oc))), (b + 3, .inl (kI K, 12, .inl (iA lc))), (b + 4, .inl (kI K, 96, .inl (iA st))), (b + 5, .inl (kI K, 96, .inl (iA tk))), (b + 6, .inl (kI K, 10, .inl (iA wa))), (b + 7, .inl (kI K, 10, .inl (iA pk))), (b + 8, .inl (kL K, 40, .inr (.inl (lA mu)))), (b + 9, .inl (kL K, 40, .inr (.inl (lA pr)))), (b + 10, .inl (kI K, 4, .inl (iA cn))), (b + 11, .inl (kI K, 4, .inl (iA bs))), (b + 12, .inl (kI K, 10, .inl (iA le))), (b + 13, .inl (kI K, 10, .inl (iA bb1))), (b + 14, .inl (kI K, 10, .inl (iA (ldF (ln + cu) fr1))))] := hD
    refine lv_aload_n hx hb dM_rest_29 rfl (lv_at hl 0 rfl) ?_
    refine va_get (D := kD K) (ci := 4) (v := .int (iI 1)) (C := RM) (T := FM) (N := 21) hx hb hts jnM hown hK hP 0 rfl rfl 0 (by decide) (hts _ mt_463) (fun _ h9 => h9) rfl dM_rest_30 ?_
    refine iz_if_le (tgt := 40) hx hb ⟨by omega, by omega⟩ dM_rest_33 (by decide) (fun g => absurd g (by decide)) (fun _ => ?_)
    refine iz_iconst hx hb dM_rest_36 ?_
    refine lv_goto (tgt := 56) hx hb dM_rest_37 (by decide) ?_
    rw [hQ]
    exact iz_iret hx hb hr hlocks (⟨Bn1, bb1, fr1, hBp, hSw, Or.inl ⟨by omega, hP⟩⟩) hS.2.2 dM_rest_56
