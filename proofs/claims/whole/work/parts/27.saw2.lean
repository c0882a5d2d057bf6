-- class Saw: the plan
abbrev rmF (d : Nat) : Room := { frames := 2 + d, cells := 0, slots := 0, locals := 60 + 40 * d }
set_option maxHeartbeats 8000000 in
set_option maxRecDepth 100000 in
/-- Saw.placeFrom(piece) -/
theorem c_A_placeFrom (l : Launch) (K : KG) (q : Nat) (bl cu : Int) (Pn : Nat) (le : Nat → Int) (pl : Int) (Bn : Nat) (lo sl : Nat → Int) (hB9 : SwB bl cu Pn le) (hBn : Bn ≤ 10) (hL9 : SwL Pn 0 (swz le cu) lo sl) : ∀ (d p0 : Nat), p0 + d = Pn → ∀ (bo fr : Nat → Int), (∀ b, b < Bn → 0 ≤ fr b ∧ fr b ≤ 10100) → Ct l yA_placeFrom kA_placeFrom (rmF d) (PC K [.ref q, .int (iI (p0 : Int))] (fun H => va_P (kD K) vcl (saW K q bl cu Pn le pl Bn bo fr lo sl) H)) (QI (fun r H => ∃ fr' bo' : Nat → Int, pl_R (swz le cu) Bn p0 d fr bo r fr' bo' ∧ va_P (kD K) vcl (saW K q bl cu Pn le pl Bn bo' fr' lo sl) H)) (fun x => q ≤ x ∧ x < q + 6) := by
  obtain ⟨hbl, hcu, hP10, hle⟩ := id hB9
  intro d
  induction d with
  | zero =>
    intro p0 hpd bo fr hfr
    refine ct_of (by decide) (Or.inl ⟨rfl, rfl⟩) ?_
    intro p e s m args below meth c B0 hP0
    obtain ⟨hx, hb, hr, hml, hown, hlocks, hnm, htab⟩ := B0
    obtain ⟨ha, ⟨hT, hK⟩, hB⟩ := hP0
    have hl := lv_entry ([.ref q, .int (iI (p0 : Int))]) (n := 4) (Nat.le_of_ble_eq_true rfl)
    obtain ⟨Q, hQ⟩ : ∃ Q, Q = XQ below (QI (fun r H => ∃ fr' bo' : Nat → Int, pl_R (swz le cu) Bn p0 0 fr bo r fr' bo' ∧ va_P (kD K) vcl (saW K q bl cu Pn le pl Bn bo' fr' lo sl) H)) args s (rmF 0).cells (rmF 0).slots (fun x => q ≤ x ∧ x < q + 6) := ⟨_, rfl⟩
    rw [← hQ, ha, lg_entry_eq]
    rw [ha] at hQ
    generalize (lg_sl ([.ref q, .int (iI (p0 : Int))]) ++ List.replicate (4 - (lg_sl ([.ref q, .int (iI (p0 : Int))])).length) Slot.unset).toArray = ls at hl ⊢
    generalize ([.ref q, .int (iI (p0 : Int))] : List Value).toArray = args at hQ ⊢
    have hts : ∀ w ∈ TW, w.before args s = true := fun w h => hT w h args
    have hl : lv_has ls 4 [(0, .ref q), (1, .int (iI (p0 : Int)))] := hl
    obtain ⟨A, hAe⟩ : ∃ A : Addr → Prop, A = (fun x => q ≤ x ∧ x < q + 6) := ⟨_, rfl⟩
    rw [← hAe] at hQ
    have hS : va_S A s.heap s.heap [] := va_S.rf
    have hP : va_P (kD K) vcl [(q, .inr (3, [.int (iI bl), .int (iI cu), .int (iI (Pn : Int)), .ref (q + 1), .int (iI pl), .int (iI (Bn : Int)), .ref (q + 2), .ref (q + 3), .ref (q + 4), .ref (q + 5)])), (q + 1, .inl (kI K, 10, .inl (iA le))), (q + 2, .inl (kI K, 10, .inl (iA bo))), (q + 3, .inl (kI K, 10, .inl (iA fr))), (q + 4, .inl (kI K, 10, .inl (iA lo))), (q + 5, .inl (kI K, 10, .inl (iA sl)))] s.heap := hB
    have hD : va_D A [(q, .inr (3, [.int (iI bl), .int (iI cu), .int (iI (Pn : Int)), .ref (q + 1), .int (iI pl), .int (iI (Bn : Int)), .ref (q + 2), .ref (q + 3), .ref (q + 4), .ref (q + 5)])), (q + 1, .inl (kI K, 10, .inl (iA le))), (q + 2, .inl (kI K, 10, .inl (iA bo))), (q + 3, .inl (kI K, 10, .inl (iA fr))), (q + 4, .inl (kI K, 10, .inl (iA lo))), (q + 5, .inl (kI K, 10, .inl (iA sl)))] := by rw [hAe]; exact va_D_of (by simp) (by simp <;> omega)
    refine lv_iload_n hx hb dA_placeFrom_0 rfl (lv_at hl 1 rfl) ?_
    refine lv_aload_n hx hb dA_placeFrom_1 rfl (lv_at hl 0 rfl) ?_
    refine va_get (D := kD K) (ci := 3) (v := .int (iI (Pn : Int))) (C := RA) (T := FA) (N := 10) hx hb hts jnA hown hK hP 0 rfl rfl 2 (by decide) (hts _ mt_93) (fun _ h9 => h9) rfl dA_placeFrom_2 ?_
    refine iz_icmp_lt (tgt := 10) hx hb ⟨by omega, by omega⟩ ⟨by omega, by omega⟩ dA_placeFrom_5 (by decide) (fun g1 => ?_) (fun g1 => ?_)
    · exact absurd g1 (by omega)
    · refine iz_iconst hx hb dA_placeFrom_8 ?_
      rw [hQ]
      exact iz_zret hx hb hr hlocks (Or.inr rfl) (⟨fr, bo, pl_R_0, hP⟩) hS.2.2 dA_placeFrom_9
  | succ d ih =>
    intro p0 hpd bo fr hfr
    refine ct_of (by decide) (Or.inl ⟨rfl, rfl⟩) ?_
    intro p e s m args below meth c B0 hP0
    obtain ⟨hx, hb, hr, hml, hown, hlocks, hnm, htab⟩ := B0
    obtain ⟨ha, ⟨hT, hK⟩, hB⟩ := hP0
    have hl := lv_entry ([.ref q, .int (iI (p0 : Int))]) (n := 4) (Nat.le_of_ble_eq_true rfl)
    obtain ⟨Q, hQ⟩ : ∃ Q, Q = XQ below (QI (fun r H => ∃ fr' bo' : Nat → Int, pl_R (swz le cu) Bn p0 (d + 1) fr bo r fr' bo' ∧ va_P (kD K) vcl (saW K q bl cu Pn le pl Bn bo' fr' lo sl) H)) args s (rmF (d + 1)).cells (rmF (d + 1)).slots (fun x => q ≤ x ∧ x < q + 6) := ⟨_, rfl⟩
    rw [← hQ, ha, lg_entry_eq]
    rw [ha] at hQ
    generalize (lg_sl ([.ref q, .int (iI (p0 : Int))]) ++ List.replicate (4 - (lg_sl ([.ref q, .int (iI (p0 : Int))])).length) Slot.unset).toArray = ls at hl ⊢
    generalize ([.ref q, .int (iI (p0 : Int))] : List Value).toArray = args at hQ ⊢
    have hts : ∀ w ∈ TW, w.before args s = true := fun w h => hT w h args
    have hl : lv_has ls 4 [(0, .ref q), (1, .int (iI (p0 : Int)))] := hl
    obtain ⟨A, hAe⟩ : ∃ A : Addr → Prop, A = (fun x => q ≤ x ∧ x < q + 6) := ⟨_, rfl⟩
    rw [← hAe] at hQ
    have hS : va_S A s.heap s.heap [] := va_S.rf
    have hP : va_P (kD K) vcl [(q, .inr (3, [.int (iI bl), .int (iI cu), .int (iI (Pn : Int)), .ref (q + 1), .int (iI pl), .int (iI (Bn : Int)), .ref (q + 2), .ref (q + 3), .ref (q + 4), .ref (q + 5)])), (q + 1, .inl (kI K, 10, .inl (iA le))), (q + 2, .inl (kI K, 10, .inl (iA bo))), (q + 3, .inl (kI K, 10, .inl (iA fr))), (q + 4, .inl (kI K, 10, .inl (iA lo))), (q + 5, .inl (kI K, 10, .inl (iA sl)))] s.heap := hB
    have hD : va_D A [(q, .inr (3, [.int (iI bl), .int (iI cu), .int (iI (Pn : Int)), .ref (q + 1), .int (iI pl), .int (iI (Bn : Int)), .ref (q + 2), .ref (q + 3), .ref (q + 4), .ref (q + 5)])), (q + 1, .inl (kI K, 10, .inl (iA le))), (q + 2, .inl (kI K, 10, .inl (iA bo))), (q + 3, .inl (kI K, 10, .inl (iA fr))), (q + 4, .inl (kI K, 10, .inl (iA lo))), (q + 5, .inl (kI K, 10, .inl (iA sl)))] := by rw [hAe]; exact va_D_of (by simp) (by simp <;> omega)
    refine lv_iload_n hx hb dA_placeFrom_0 rfl (lv_at hl 1 rfl) ?_
    refine lv_aload_n hx hb dA_placeFrom_1 rfl (lv_at hl 0 rfl) ?_
    refine va_get (D := kD K) (ci := 3) (v := .int (iI (Pn : Int))) (C := RA) (T := FA) (N := 10) hx hb hts jnA hown hK hP 0 rfl rfl 2 (by decide) (hts _ mt_93) (fun _ h9 => h9) rfl dA_placeFrom_2 ?_
    refine iz_icmp_lt (tgt := 10) hx hb ⟨by omega, by omega⟩ ⟨by omega, by omega⟩ dA_placeFrom_5 (by decide) (fun g1 => ?_) (fun g1 => ?_)
    · obtain ⟨hlo, hsl, hsk⟩ := hL9 p0 (Nat.zero_le _) (by omega)
      have hsz := hle p0 (by omega)
      have hszb : ∀ i, p0 ≤ i → i < p0 + (d + 1) → 1 ≤ swz le cu i ∧ swz le cu i ≤ 10100 := fun i h1 h2 => by have := hle i (by omega); show 1 ≤ le i + cu ∧ le i + cu ≤ 10100; omega
      have hsum : 0 ≤ sm (swz le cu) p0 (Pn - p0) ∧ sm (swz le cu) p0 (Pn - p0) ≤ 101000 := by
        rw [show Pn - p0 = d + 1 by omega]
        refine ⟨sm_nn _ _ (fun i h1 h2 => by have := hszb i h1 h2; omega), ?_⟩
        have h9 := sm_le (f := swz le cu) (g := fun _ => 10100) (d + 1) p0 (fun i h1 h2 => (hszb i h1 h2).2)
        rw [sm_const] at h9
        omega
      have hus : 0 ≤ pl_us fr (sl p0) Bn ∧ pl_us fr (sl p0) Bn ≤ 101000 := by
        refine ⟨sm_nn _ _ (fun i h1 h2 => ?_), ?_⟩
        · show 0 ≤ if sl p0 ≤ fr i then fr i else 0
          have := hfr i (by omega)
          split <;> omega
        · have h9 := sm_le (f := fun b => if sl p0 ≤ fr b then fr b else 0) (g := fun _ => 10100) Bn 0 (fun i h1 h2 => by
            have := hfr i (by omega)
            show (if sl p0 ≤ fr i then fr i else 0) ≤ 10100
            split <;> omega)
          rw [sm_const] at h9
          exact Int.le_trans h9 (by omega)
      refine lv_aload_n hx hb dA_placeFrom_10 rfl (lv_at hl 0 rfl) ?_
      refine va_get (D := kD K) (ci := 3) (v := .ref (q + 4)) (C := RA) (T := FA) (N := 10) hx hb hts jnA hown hK hP 0 rfl rfl 8 (by decide) (hts _ mt_103) (fun _ h9 => h9) rfl dA_placeFrom_11 ?_
      refine lv_iload_n hx hb dA_placeFrom_14 rfl (lv_at hl 1 rfl) ?_
      refine iz_iald hx hb hK hP 4 rfl p0 rfl (by omega) (by omega) dA_placeFrom_15 ?_
      refine lv_aload_n hx hb dA_placeFrom_16 rfl (lv_at hl 0 rfl) ?_
      refine lv_aload_n hx hb dA_placeFrom_17 rfl (lv_at hl 0 rfl) ?_
      refine va_get (D := kD K) (ci := 3) (v := .ref (q + 5)) (C := RA) (T := FA) (N := 10) hx hb hts jnA hown hK hP 0 rfl rfl 9 (by decide) (hts _ mt_104) (fun _ h9 => h9) rfl dA_placeFrom_18 ?_
      refine lv_iload_n hx hb dA_placeFrom_21 rfl (lv_at hl 1 rfl) ?_
      refine iz_iald hx hb hK hP 5 rfl p0 rfl (by omega) (by omega) dA_placeFrom_22 ?_
      refine ctV (n := 1) hx hb hml hown hT ⟨c_A_usable l K q bl cu Pn le pl Bn bo fr lo sl (sl p0) ⟨by omega, by omega⟩ hBn hfr, ⟨_, _, _, Or.inl ⟨rfl, rfl⟩⟩, mt_296, mt_4, by decide, by decide +kernel, by show 0 + 1 ≤ 2 + (d + 1); omega, by show 8 + (4 + 11) + 0 ≤ 60 + 40 * (d + 1); omega, Nat.le_of_ble_eq_true rfl, Nat.le_of_ble_eq_true rfl⟩ PC.blind mt_293 mt_295 ms_12 (va_RVof (ci := 3) (q0 := 0) hK hP rfl rfl) (As := [.int (iI (sl p0))]) (rest := [.int (iI (lo p0))]) rfl (PC.at ⟨hT, hK⟩ hP) hl.1 rfl (Nat.le_of_ble_eq_true rfl) dA_placeFrom_23 (krI0 rfl rfl (fun _ h => h) (fun us hu => ?_))
      subst hu
      refine iz_icmp_le (tgt := 31) hx hb ⟨by omega, by omega⟩ ⟨by omega, by omega⟩ dA_placeFrom_26 (by decide) (fun g2 => ?_) (fun g2 => ?_)
      · refine lv_aload_n hx hb dA_placeFrom_31 rfl (lv_at hl 0 rfl) ?_
        refine va_get (D := kD K) (ci := 3) (v := .ref (q + 1)) (C := RA) (T := FA) (N := 10) hx hb hts jnA hown hK hP 0 rfl rfl 3 (by decide) (hts _ mt_95) (fun _ h9 => h9) rfl dA_placeFrom_32 ?_
        refine lv_iload_n hx hb dA_placeFrom_35 rfl (lv_at hl 1 rfl) ?_
        refine iz_iald hx hb hK hP 1 rfl p0 rfl (by omega) (by omega) dA_placeFrom_36 ?_
        refine lv_aload_n hx hb dA_placeFrom_37 rfl (lv_at hl 0 rfl) ?_
        refine va_get (D := kD K) (ci := 3) (v := .int (iI cu)) (C := RA) (T := FA) (N := 10) hx hb hts jnA hown hK hP 0 rfl rfl 1 (by decide) (hts _ mt_92) (fun _ h9 => h9) rfl dA_placeFrom_38 ?_
        refine iz_iadd hx hb dA_placeFrom_41 ?_
        refine lv_istore_n (lv' := [(2, .int (iI ((le p0) + cu))), (0, .ref q), (1, .int (iI (p0 : Int)))]) hx hb dA_placeFrom_42 rfl hl (by decide) rfl (fun ls hl => ?_)
        have loop : ∀ (j b : Nat), Bn + 1 ≤ b + j → b ≤ Bn → ∀ (bo1 : Nat → Int), (∀ i, i < p0 → bo1 i = bo i) → (∀ b', b' < b → ¬ (swz le cu p0 ≤ fr b' ∧ ∃ a, pl_X (swz le cu) Bn a (p0 + 1) d (ut fr b' (fr b' - swz le cu p0)))) → ∀ (H : Heap) (locs : List Loc), va_P (kD K) vcl [(q, .inr (3, [.int (iI bl), .int (iI cu), .int (iI (Pn : Int)), .ref (q + 1), .int (iI pl), .int (iI (Bn : Int)), .ref (q + 2), .ref (q + 3), .ref (q + 4), .ref (q + 5)])), (q + 1, .inl (kI K, 10, .inl (iA le))), (q + 2, .inl (kI K, 10, .inl (iA bo1))), (q + 3, .inl (kI K, 10, .inl (iA fr))), (q + 4, .inl (kI K, 10, .inl (iA lo))), (q + 5, .inl (kI K, 10, .inl (iA sl)))] H → va_D A [(q, .inr (3, [.int (iI bl), .int (iI cu), .int (iI (Pn : Int)), .ref (q + 1), .int (iI pl), .int (iI (Bn : Int)), .ref (q + 2), .ref (q + 3), .ref (q + 4), .ref (q + 5)])), (q + 1, .inl (kI K, 10, .inl (iA le))), (q + 2, .inl (kI K, 10, .inl (iA bo1))), (q + 3, .inl (kI K, 10, .inl (iA fr))), (q + 4, .inl (kI K, 10, .inl (iA lo))), (q + 5, .inl (kI K, 10, .inl (iA sl)))] → va_S A s.heap H locs → ∀ ls : Array Slot, lv_has ls 4 [(0, .ref q), (1, .int (iI (p0 : Int))), (2, .int (iI (le p0 + cu))), (3, .int (iI (b : Int)))] → W p l e (rmF (d + 1)) s m args below meth c H locs 0 0 Q (F0 m 45 ls []) := by
          intro j
          induction j with
          | zero => intro b h1 h2; omega
          | succ j ihj =>
            intro b h1 h2 bo1 hbo hno H locs hP hD hS ls hl
            refine lv_iload_n hx hb dA_placeFrom_45 rfl (lv_at hl 3 rfl) ?_
            refine lv_aload_n hx hb dA_placeFrom_46 rfl (lv_at hl 0 rfl) ?_
            refine va_get (D := kD K) (ci := 3) (v := .int (iI (Bn : Int))) (C := RA) (T := FA) (N := 10) hx hb hts jnA hown hK hP 0 rfl rfl 5 (by decide) (hts _ mt_97) (fun _ h9 => h9) rfl dA_placeFrom_47 ?_
            refine iz_icmp_ge (tgt := 116) hx hb ⟨by omega, by omega⟩ ⟨by omega, by omega⟩ dA_placeFrom_50 (by decide) (fun g3 => ?_) (fun g3 => ?_)
            · have e : b = Bn := by omega
              subst e
              refine iz_iconst hx hb dA_placeFrom_116 ?_
              rw [hQ]
              exact iz_zret hx hb hr hlocks (Or.inl rfl) (⟨fr, bo1, Or.inr ⟨rfl, pl_R_nobar hno, rfl, hbo⟩, hP⟩) hS.2.2 dA_placeFrom_117
            · have qb := hfr b (by omega)
              refine lv_aload_n hx hb dA_placeFrom_53 rfl (lv_at hl 0 rfl) ?_
              refine va_get (D := kD K) (ci := 3) (v := .ref (q + 3)) (C := RA) (T := FA) (N := 10) hx hb hts jnA hown hK hP 0 rfl rfl 7 (by decide) (hts _ mt_101) (fun _ h9 => h9) rfl dA_placeFrom_54 ?_
              refine lv_iload_n hx hb dA_placeFrom_57 rfl (lv_at hl 3 rfl) ?_
              refine iz_iald hx hb hK hP 3 rfl b rfl (by omega) (by omega) dA_placeFrom_58 ?_
              refine lv_iload_n hx hb dA_placeFrom_59 rfl (lv_at hl 2 rfl) ?_
              refine iz_icmp_lt (tgt := 110) hx hb ⟨by omega, by omega⟩ ⟨by omega, by omega⟩ dA_placeFrom_60 (by decide) (fun g4 => ?_) (fun g4 => ?_)
              · refine iz_iinc (k := 3) (lv' := [(3, .int (iI ((b : Int) + 1))), (0, .ref q), (1, .int (iI (p0 : Int))), (2, .int (iI (le p0 + cu)))]) hx hb dA_placeFrom_110 hl rfl (by decide) rfl (fun ls hl => ?_)
                refine lv_goto (tgt := 45) hx hb dA_placeFrom_113 (by decide) ?_
                exact ihj (b + 1) (by omega) (by omega) bo1 hbo (fun b' hb' => by by_cases e : b' = b; subst e; exact (fun h => absurd h.1 (show ¬ le p0 + cu ≤ fr b' by omega)); exact hno b' (by omega)) H _ hP hD hS ls (lv_sub hl [1, 2, 3, 0] rfl)
              · refine lv_aload_n hx hb dA_placeFrom_63 rfl (lv_at hl 0 rfl) ?_
                refine lv_iload_n hx hb dA_placeFrom_64 rfl (lv_at hl 3 rfl) ?_
                refine ctV (n := 1) hx hb hml hown hT ⟨c_A_like l K q bl cu Pn le pl Bn bo1 fr lo sl b (by omega) hBn hfr, ⟨_, _, _, Or.inl ⟨rfl, rfl⟩⟩, mt_300, mt_4, by decide, by decide +kernel, by show 0 + 1 ≤ 2 + (d + 1); omega, by show 8 + (3 + 11) + 0 ≤ 60 + 40 * (d + 1); omega, Nat.le_of_ble_eq_true rfl, Nat.le_of_ble_eq_true rfl⟩ PC.blind mt_297 mt_299 ms_13 (va_RVof (ci := 3) (q0 := 0) hK hP rfl rfl) (As := [.int (iI (b : Int))]) (rest := []) rfl (PC.at ⟨hT, hK⟩ hP) hl.1 rfl (Nat.le_of_ble_eq_true rfl) dA_placeFrom_65 (krI0 rfl rfl (fun _ h => h) (fun r hr9 => ?_))
                refine iz_if_ne (tgt := 110) hx hb (by rcases hr9 with ⟨rfl, -⟩ | ⟨rfl, -⟩ <;> exact ⟨by omega, by omega⟩) dA_placeFrom_68 (by decide) (fun g5 => ?_) (fun g5 => ?_)
                · obtain ⟨x9, hx9, hf9⟩ : ∃ x, x < b ∧ fr x = fr b := by rcases hr9 with ⟨-, h⟩ | ⟨h, -⟩; exact h; exact absurd h g5
                  refine iz_iinc (k := 3) (lv' := [(3, .int (iI ((b : Int) + 1))), (0, .ref q), (1, .int (iI (p0 : Int))), (2, .int (iI (le p0 + cu)))]) hx hb dA_placeFrom_110 hl rfl (by decide) rfl (fun ls hl => ?_)
                  refine lv_goto (tgt := 45) hx hb dA_placeFrom_113 (by decide) ?_
                  exact ihj (b + 1) (by omega) (by omega) bo1 hbo (fun b' hb' => by by_cases e : b' = b; subst e; exact (fun h => hno x9 hx9 ⟨by rw [hf9]; exact h.1, pl_like (show x9 < Bn by omega) (show b' < Bn by omega) hf9 h.2⟩); exact hno b' (by omega)) H _ hP hD hS ls (lv_sub hl [1, 2, 3, 0] rfl)
                · refine lv_aload_n hx hb dA_placeFrom_71 rfl (lv_at hl 0 rfl) ?_
                  refine va_get (D := kD K) (ci := 3) (v := .ref (q + 3)) (C := RA) (T := FA) (N := 10) hx hb hts jnA hown hK hP 0 rfl rfl 7 (by decide) (hts _ mt_101) (fun _ h9 => h9) rfl dA_placeFrom_72 ?_
                  refine lv_iload_n hx hb dA_placeFrom_75 rfl (lv_at hl 3 rfl) ?_
                  refine lv_dup2_11 hx hb dA_placeFrom_76 rfl rfl ?_
                  refine iz_iald hx hb hK hP 3 rfl b rfl (by omega) (by omega) dA_placeFrom_77 ?_
                  refine lv_iload_n hx hb dA_placeFrom_78 rfl (lv_at hl 2 rfl) ?_
                  refine iz_isub hx hb dA_placeFrom_79 ?_
                  refine iz_iast hx hb hK hP hD hS 3 rfl b rfl (by omega) (by omega) dA_placeFrom_80 ?_
                  clear hP hD hS
                  intro H locs hP hD hS
                  replace hP : va_P (kD K) vcl [(q, .inr (3, [.int (iI bl), .int (iI cu), .int (iI (Pn : Int)), .ref (q + 1), .int (iI pl), .int (iI (Bn : Int)), .ref (q + 2), .ref (q + 3), .ref (q + 4), .ref (q + 5)])), (q + 1, .inl (kI K, 10, .inl (iA le))), (q + 2, .inl (kI K, 10, .inl (iA bo1))), (q + 3, .inl (kI K, 10, .inl (iA (ut fr b ((fr b) - (le p0 + cu)))))), (q + 4, .inl (kI K, 10, .inl (iA lo))), (q + 5, .inl (kI K, 10, .inl (iA sl)))] H := hP
                  replace hD : va_D A [(q, .inr (3, [.int (iI bl), .int (iI cu), .int (iI (Pn : Int)), .ref (q + 1), .int (iI pl), .int (iI (Bn : Int)), .ref (q + 2), .ref (q + 3), .ref (q + 4), .ref (q + 5)])), (q + 1, .inl (kI K, 10, .inl (iA le))), (q + 2, .inl (kI K, 10, .inl (iA bo1))), (q + 3, .inl (kI K, 10, .inl (iA (ut fr b ((fr b) - (le p0 + cu)))))), (q + 4, .inl (kI K, 10, .inl (iA lo))), (q + 5, .inl (kI K, 10, .inl (iA sl)))] := hD
                  refine lv_aload_n hx hb dA_placeFrom_81 rfl (lv_at hl 0 rfl) ?_
                  refine va_get (D := kD K) (ci := 3) (v := .ref (q + 2)) (C := RA) (T := FA) (N := 10) hx hb hts jnA hown hK hP 0 rfl rfl 6 (by decide) (hts _ mt_99) (fun _ h9 => h9) rfl dA_placeFrom_82 ?_
                  refine lv_iload_n hx hb dA_placeFrom_85 rfl (lv_at hl 1 rfl) ?_
                  refine lv_iload_n hx hb dA_placeFrom_86 rfl (lv_at hl 3 rfl) ?_
                  refine iz_iast hx hb hK hP hD hS 2 rfl p0 rfl (by omega) (by omega) dA_placeFrom_87 ?_
                  clear hP hD hS
                  intro H locs hP hD hS
                  replace hP : va_P (kD K) vcl [(q, .inr (3, [.int (iI bl), .int (iI cu), .int (iI (Pn : Int)), .ref (q + 1), .int (iI pl), .int (iI (Bn : Int)), .ref (q + 2), .ref (q + 3), .ref (q + 4), .ref (q + 5)])), (q + 1, .inl (kI K, 10, .inl (iA le))), (q + 2, .inl (kI K, 10, .inl (iA (ut bo1 p0 (b : Int))))), (q + 3, .inl (kI K, 10, .inl (iA (ut fr b ((fr b) - (le p0 + cu)))))), (q + 4, .inl (kI K, 10, .inl (iA lo))), (q + 5, .inl (kI K, 10, .inl (iA sl)))] H := hP
                  replace hD : va_D A [(q, .inr (3, [.int (iI bl), .int (iI cu), .int (iI (Pn : Int)), .ref (q + 1), .int (iI pl), .int (iI (Bn : Int)), .ref (q + 2), .ref (q + 3), .ref (q + 4), .ref (q + 5)])), (q + 1, .inl (kI K, 10, .inl (iA le))), (q + 2, .inl (kI K, 10, .inl (iA (ut bo1 p0 (b : Int))))), (q + 3, .inl (kI K, 10, .inl (iA (ut fr b ((fr b) - (le p0 + cu)))))), (q + 4, .inl (kI K, 10, .inl (iA lo))), (q + 5, .inl (kI K, 10, .inl (iA sl)))] := hD
                  refine lv_aload_n hx hb dA_placeFrom_88 rfl (lv_at hl 0 rfl) ?_
                  refine lv_iload_n hx hb dA_placeFrom_89 rfl (lv_at hl 1 rfl) ?_
                  refine iz_iconst hx hb dA_placeFrom_90 ?_
                  refine iz_iadd hx hb dA_placeFrom_91 ?_
                  refine ctV (n := 1) hx hb hml hown hT ⟨ih (p0 + 1) (by omega) (ut bo1 p0 b) (ut fr b (fr b - (le p0 + cu))) (fun x hx9 => by by_cases e : x = b; subst e; rw [ut_s]; omega; rw [ut_n _ _ e]; exact hfr x hx9), ⟨_, _, _, Or.inl ⟨rfl, rfl⟩⟩, mt_292, mt_4, by decide, by decide +kernel, by show 2 + d + 1 ≤ 2 + (d + 1); omega, by show 8 + (4 + 11) + (60 + 40 * d) ≤ 60 + 40 * (d + 1); omega, Nat.le_of_ble_eq_true rfl, Nat.le_of_ble_eq_true rfl⟩ PC.blind mt_289 mt_291 ms_11 (va_RVof (ci := 3) (q0 := 0) hK hP rfl rfl) (As := [.int (iI ((p0 : Int) + 1))]) (rest := []) rfl (PC.at ⟨hT, hK⟩ hP) hl.1 rfl (Nat.le_of_ble_eq_true rfl) dA_placeFrom_92 (krI (c1 := 0) (s1 := 0) rfl rfl (fun r2 t1 H1 L hA hL hpo => ?_))
                  obtain ⟨fr2, bo2, hR, hP⟩ := hpo
                  have hS := hA.S hS (fun x hx => by rw [hAe]; exact hx) hL
                  have hD : va_D A [(q, .inr (3, [.int (iI bl), .int (iI cu), .int (iI (Pn : Int)), .ref (q + 1), .int (iI pl), .int (iI (Bn : Int)), .ref (q + 2), .ref (q + 3), .ref (q + 4), .ref (q + 5)])), (q + 1, .inl (kI K, 10, .inl (iA le))), (q + 2, .inl (kI K, 10, .inl (iA bo2))), (q + 3, .inl (kI K, 10, .inl (iA fr2))), (q + 4, .inl (kI K, 10, .inl (iA lo))), (q + 5, .inl (kI K, 10, .inl (iA sl)))] := by rw [hAe]; exact va_D_of (by simp) (by simp <;> omega)
                  have hP : va_P (kD K) vcl [(q, .inr (3, [.int (iI bl), .int (iI cu), .int (iI (Pn : Int)), .ref (q + 1), .int (iI pl), .int (iI (Bn : Int)), .ref (q + 2), .ref (q + 3), .ref (q + 4), .ref (q + 5)])), (q + 1, .inl (kI K, 10, .inl (iA le))), (q + 2, .inl (kI K, 10, .inl (iA bo2))), (q + 3, .inl (kI K, 10, .inl (iA fr2))), (q + 4, .inl (kI K, 10, .inl (iA lo))), (q + 5, .inl (kI K, 10, .inl (iA sl)))] H1 := hP
                  generalize H1 = H at hP hS ⊢
                  refine iz_if_eq (tgt := 100) hx hb (by rcases hR with ⟨rfl, -⟩ | ⟨rfl, -⟩ <;> exact ⟨by omega, by omega⟩) dA_placeFrom_95 (by decide) (fun g6 => ?_) (fun g6 => ?_)
                  · obtain ⟨hne, e2, hb2⟩ : (¬ ∃ a, pl_X (swz le cu) Bn a (p0 + 1) d (ut fr b (fr b - swz le cu p0))) ∧ fr2 = ut fr b (fr b - (le p0 + cu)) ∧ ∀ i, i < p0 + 1 → bo2 i = ut bo1 p0 b i := by
                      rcases hR with ⟨h, -⟩ | ⟨-, h3, h4, h5⟩
                      · exact absurd (h.symm.trans g6) (by omega)
                      · exact ⟨h3, h4, h5⟩
                    refine lv_aload_n hx hb dA_placeFrom_100 rfl (lv_at hl 0 rfl) ?_
                    refine va_get (D := kD K) (ci := 3) (v := .ref (q + 3)) (C := RA) (T := FA) (N := 10) hx hb hts jnA hown hK hP 0 rfl rfl 7 (by decide) (hts _ mt_101) (fun _ h9 => h9) rfl dA_placeFrom_101 ?_
                    refine lv_iload_n hx hb dA_placeFrom_104 rfl (lv_at hl 3 rfl) ?_
                    refine lv_dup2_11 hx hb dA_placeFrom_105 rfl rfl ?_
                    refine iz_iald hx hb hK hP 3 rfl b rfl (by omega) (by omega) dA_placeFrom_106 ?_
                    refine lv_iload_n hx hb dA_placeFrom_107 rfl (lv_at hl 2 rfl) ?_
                    refine iz_iadd hx hb dA_placeFrom_108 ?_
                    refine iz_iast hx hb hK hP hD hS 3 rfl b rfl (by omega) (by omega) dA_placeFrom_109 ?_
                    clear hP hD hS
                    intro H locs hP hD hS
                    replace hP : va_P (kD K) vcl [(q, .inr (3, [.int (iI bl), .int (iI cu), .int (iI (Pn : Int)), .ref (q + 1), .int (iI pl), .int (iI (Bn : Int)), .ref (q + 2), .ref (q + 3), .ref (q + 4), .ref (q + 5)])), (q + 1, .inl (kI K, 10, .inl (iA le))), (q + 2, .inl (kI K, 10, .inl (iA bo2))), (q + 3, .inl (kI K, 10, .inl (iA (ut fr2 b ((fr2 b) + (le p0 + cu)))))), (q + 4, .inl (kI K, 10, .inl (iA lo))), (q + 5, .inl (kI K, 10, .inl (iA sl)))] H := hP
                    replace hD : va_D A [(q, .inr (3, [.int (iI bl), .int (iI cu), .int (iI (Pn : Int)), .ref (q + 1), .int (iI pl), .int (iI (Bn : Int)), .ref (q + 2), .ref (q + 3), .ref (q + 4), .ref (q + 5)])), (q + 1, .inl (kI K, 10, .inl (iA le))), (q + 2, .inl (kI K, 10, .inl (iA bo2))), (q + 3, .inl (kI K, 10, .inl (iA (ut fr2 b ((fr2 b) + (le p0 + cu)))))), (q + 4, .inl (kI K, 10, .inl (iA lo))), (q + 5, .inl (kI K, 10, .inl (iA sl)))] := hD
                    have e3 : ut fr2 b (fr2 b + (le p0 + cu)) = fr := by rw [e2, ut_ut, ut_s]; exact ut_id fr b (by omega)
                    rw [e3] at hP hD
                    refine iz_iinc (k := 3) (lv' := [(3, .int (iI ((b : Int) + 1))), (0, .ref q), (1, .int (iI (p0 : Int))), (2, .int (iI (le p0 + cu)))]) hx hb dA_placeFrom_110 hl rfl (by decide) rfl (fun ls hl => ?_)
                    refine lv_goto (tgt := 45) hx hb dA_placeFrom_113 (by decide) ?_
                    exact ihj (b + 1) (by omega) (by omega) bo2 (fun i hi => by rw [hb2 i (by omega), ut_n _ _ (show i ≠ p0 by omega)]; exact hbo i hi) (fun b' hb' => by by_cases e : b' = b; subst e; exact (fun h => hne h.2); exact hno b' (by omega)) H _ hP hD hS ls (lv_sub hl [1, 2, 3, 0] rfl)
                  · have e1 : r2 = 1 := by rcases hR with ⟨h, -⟩ | ⟨h, -⟩; exact h; exact absurd h g6
                    subst e1
                    refine iz_iconst hx hb dA_placeFrom_98 ?_
                    rw [hQ]
                    exact iz_zret hx hb hr hlocks (Or.inr rfl) (⟨fr2, bo2, pl_R_ba hbo (pl_R_yes (by omega) (show le p0 + cu ≤ fr b by omega) hno hR), hP⟩) hS.2.2 dA_placeFrom_99
        refine iz_iconst hx hb dA_placeFrom_43 ?_
        refine lv_istore_n (lv' := [(3, .int (iI 0)), (2, .int (iI ((le p0) + cu))), (0, .ref q), (1, .int (iI (p0 : Int)))]) hx hb dA_placeFrom_44 rfl hl (by decide) rfl (fun ls hl => ?_)
        exact loop (Bn + 1) 0 (by omega) (by omega) bo (fun _ _ => rfl) (fun b' hb' => absurd hb' (by omega)) s.heap [] hP hD hS ls (lv_sub hl [2, 3, 1, 0] rfl)
      · refine iz_iconst hx hb dA_placeFrom_29 ?_
        rw [hQ]
        exact iz_zret hx hb hr hlocks (Or.inl rfl) (⟨fr, bo, pl_R_no (fun ⟨a9, ha9⟩ => by have h9 := pl_load (s := sl p0) (d + 1) p0 fr (fun i h1 h2 => hsk i h1 (by omega)) (fun x hx9 => (hfr x hx9).1) ha9; rw [show Pn - p0 = d + 1 by omega] at hlo; omega), hP⟩) hS.2.2 dA_placeFrom_30
    · exact absurd g1 (by omega)
abbrev rmA_placeAll : Room := { frames := 13, cells := 0, slots := 0, locals := 500 }
set_option maxHeartbeats 4000000 in
set_option maxRecDepth 100000 in
/-- Saw.placeAll() -/
theorem c_A_placeAll (l : Launch) (K : KG) (q : Nat) (bl cu : Int) (Pn : Nat) (le : Nat → Int) (pl : Int) (Bn : Nat) (bo fr lo sl : Nat → Int) (hB9 : SwB bl cu Pn le) (hBn : Bn ≤ 10) (hL9 : SwL Pn 0 (swz le cu) lo sl) : Ct l yA_placeAll kA_placeAll rmA_placeAll (PC K [.ref q] (fun H => va_P (kD K) vcl (saW K q bl cu Pn le pl Bn bo fr lo sl) H)) (QI (fun r H => ∃ fr' bo' : Nat → Int, pl_R (swz le cu) Bn 0 Pn (fun _ => bl + cu) bo r fr' bo' ∧ va_P (kD K) vcl (saW K q bl cu Pn le pl Bn bo' fr' lo sl) H)) (fun x => q ≤ x ∧ x < q + 6) := by
  refine ct_of (by decide) (Or.inl ⟨rfl, rfl⟩) ?_
  intro p e s m args below meth c B0 hP0
  obtain ⟨hx, hb, hr, hml, hown, hlocks, hnm, htab⟩ := B0
  obtain ⟨ha, ⟨hT, hK⟩, hB⟩ := hP0
  have hl := lv_entry ([.ref q]) (n := 1) (Nat.le_of_ble_eq_true rfl)
  obtain ⟨Q, hQ⟩ : ∃ Q, Q = XQ below (QI (fun r H => ∃ fr' bo' : Nat → Int, pl_R (swz le cu) Bn 0 Pn (fun _ => bl + cu) bo r fr' bo' ∧ va_P (kD K) vcl (saW K q bl cu Pn le pl Bn bo' fr' lo sl) H)) args s rmA_placeAll.cells rmA_placeAll.slots (fun x => q ≤ x ∧ x < q + 6) := ⟨_, rfl⟩
  rw [← hQ, ha, lg_entry_eq]
  rw [ha] at hQ
  generalize (lg_sl ([.ref q]) ++ List.replicate (1 - (lg_sl ([.ref q])).length) Slot.unset).toArray = ls at hl ⊢
  generalize ([.ref q] : List Value).toArray = args at hQ ⊢
  have hts : ∀ w ∈ TW, w.before args s = true := fun w h => hT w h args
  have hl : lv_has ls 1 [(0, .ref q)] := hl
  obtain ⟨A, hAe⟩ : ∃ A : Addr → Prop, A = (fun x => q ≤ x ∧ x < q + 6) := ⟨_, rfl⟩
  rw [← hAe] at hQ
  have hS : va_S A s.heap s.heap [] := va_S.rf
  have hP : va_P (kD K) vcl [(q, .inr (3, [.int (iI bl), .int (iI cu), .int (iI (Pn : Int)), .ref (q + 1), .int (iI pl), .int (iI (Bn : Int)), .ref (q + 2), .ref (q + 3), .ref (q + 4), .ref (q + 5)])), (q + 1, .inl (kI K, 10, .inl (iA le))), (q + 2, .inl (kI K, 10, .inl (iA bo))), (q + 3, .inl (kI K, 10, .inl (iA fr))), (q + 4, .inl (kI K, 10, .inl (iA lo))), (q + 5, .inl (kI K, 10, .inl (iA sl)))] s.heap := hB
  have hD : va_D A [(q, .inr (3, [.int (iI bl), .int (iI cu), .int (iI (Pn : Int)), .ref (q + 1), .int (iI pl), .int (iI (Bn : Int)), .ref (q + 2), .ref (q + 3), .ref (q + 4), .ref (q + 5)])), (q + 1, .inl (kI K, 10, .inl (iA le))), (q + 2, .inl (kI K, 10, .inl (iA bo))), (q + 3, .inl (kI K, 10, .inl (iA fr))), (q + 4, .inl (kI K, 10, .inl (iA lo))), (q + 5, .inl (kI K, 10, .inl (iA sl)))] := by rw [hAe]; exact va_D_of (by simp) (by simp <;> omega)
  obtain ⟨hbl, hcu, hP10, hle⟩ := id hB9
  refine lv_aload_n hx hb dA_placeAll_0 rfl (lv_at hl 0 rfl) ?_
  refine va_get (D := kD K) (ci := 3) (v := .ref (q + 3)) (C := RA) (T := FA) (N := 10) hx hb hts jnA hown hK hP 0 rfl rfl 7 (by decide) (hts _ mt_101) (fun _ h9 => h9) rfl dA_placeAll_1 ?_
  refine lv_aload_n hx hb dA_placeAll_4 rfl (lv_at hl 0 rfl) ?_
  refine va_get (D := kD K) (ci := 3) (v := .int (iI bl)) (C := RA) (T := FA) (N := 10) hx hb hts jnA hown hK hP 0 rfl rfl 0 (by decide) (hts _ mt_90) (fun _ h9 => h9) rfl dA_placeAll_5 ?_
  refine lv_aload_n hx hb dA_placeAll_8 rfl (lv_at hl 0 rfl) ?_
  refine va_get (D := kD K) (ci := 3) (v := .int (iI cu)) (C := RA) (T := FA) (N := 10) hx hb hts jnA hown hK hP 0 rfl rfl 1 (by decide) (hts _ mt_92) (fun _ h9 => h9) rfl dA_placeAll_9 ?_
  refine iz_iadd hx hb dA_placeAll_12 ?_
  refine ctS (n := 2) hx hb hml hown hT ⟨c_Y_fill l K (q + 3) 10 fr (bl + cu) (by omega), ⟨_, _, _, Or.inl ⟨rfl, rfl⟩⟩, mt_247, mt_12, by decide, by decide +kernel, by decide, by decide, by decide, by decide⟩ PC.blind mt_288 mt_246 (As := [.ref (q + 3), .int (iI (bl + cu))]) (rest := []) rfl (PC.at ⟨hT, hK⟩ (hP.sub (ws' := [(q + 3, .inl (kI K, 10, .inl (iA fr)))]) [3] rfl)) hl.1 rfl (Nat.le_of_ble_eq_true rfl) dA_placeAll_13 (krV (c1 := 0) (s1 := 0) rfl rfl (fun t1 H1 L hA hL hpo => ?_))
  have hP5 := va_P_arr (k := 0) hpo rfl (g := fun _ => bl + cu) (fun j hj => by simp [flz, hj])
  have hPr := hA.P (hP.sub (ws' := [(q, .inr (3, [.int (iI bl), .int (iI cu), .int (iI (Pn : Int)), .ref (q + 1), .int (iI pl), .int (iI (Bn : Int)), .ref (q + 2), .ref (q + 3), .ref (q + 4), .ref (q + 5)])), (q + 1, .inl (kI K, 10, .inl (iA le))), (q + 2, .inl (kI K, 10, .inl (iA bo))), (q + 4, .inl (kI K, 10, .inl (iA lo))), (q + 5, .inl (kI K, 10, .inl (iA sl)))]) [0, 1, 2, 4, 5] rfl) (fun k x hk => by
    have hx9 := List.mem_of_getElem? hk
    simp at hx9
    rcases hx9 with rfl | rfl | rfl | rfl | rfl <;> (show ¬ (_ = q + 3)) <;> omega)
  have hP : va_P (kD K) vcl [(q, .inr (3, [.int (iI bl), .int (iI cu), .int (iI (Pn : Int)), .ref (q + 1), .int (iI pl), .int (iI (Bn : Int)), .ref (q + 2), .ref (q + 3), .ref (q + 4), .ref (q + 5)])), (q + 1, .inl (kI K, 10, .inl (iA le))), (q + 2, .inl (kI K, 10, .inl (iA bo))), (q + 3, .inl (kI K, 10, .inl (iA (fun _ => bl + cu)))), (q + 4, .inl (kI K, 10, .inl (iA lo))), (q + 5, .inl (kI K, 10, .inl (iA sl)))] H1 := by
    have h9 := hPr.app hP5
    exact h9.sub [0, 1, 2, 5, 3, 4] rfl
  have hS := hA.S hS (fun x hx => by rw [hAe]; have hx : x = q + 3 := hx; subst hx; exact ⟨Nat.le_add_right _ _, Nat.add_lt_add_left (by decide) _⟩) hL
  refine lv_aload_n hx hb dA_placeAll_16 rfl (lv_at hl 0 rfl) ?_
  refine iz_iconst hx hb dA_placeAll_17 ?_
  refine ctV (n := 1) hx hb hml hown hT ⟨c_A_placeFrom l K q bl cu Pn le pl Bn lo sl hB9 hBn hL9 Pn 0 (by omega) bo (fun _ => bl + cu) (fun b hb9 => by constructor <;> omega), ⟨_, _, _, Or.inl ⟨rfl, rfl⟩⟩, mt_292, mt_4, by decide, by decide +kernel, by show 2 + Pn + 1 ≤ 13; omega, by show 8 + (4 + 11) + (60 + 40 * Pn) ≤ 500; omega, Nat.le_of_ble_eq_true rfl, Nat.le_of_ble_eq_true rfl⟩ PC.blind mt_289 mt_291 ms_11 (va_RVof (ci := 3) (q0 := 0) hK hP rfl rfl) (As := [.int (iI 0)]) (rest := []) rfl (PC.at ⟨hT, hK⟩ hP) hl.1 rfl (Nat.le_of_ble_eq_true rfl) dA_placeAll_18 (krI (c1 := 0) (s1 := 0) rfl rfl (fun r2 t2 H2 L2 hA2 hL2 hpo2 => ?_))
  have hS := hA2.S hS (fun x hx => by rw [hAe]; exact hx) hL2
  rw [hQ]
  exact iz_zret hx hb hr hlocks (by obtain ⟨fr', bo', hR, -⟩ := hpo2; rcases hR with ⟨h, -⟩ | ⟨h, -⟩; exact Or.inr h; exact Or.inl h) (hpo2) hS.2.2 dA_placeAll_21
/-- the plan: the fewest bars, the first choice, what is free then, who is where -/
def SwF (bl cu : Int) (Pn : Nat) (le : Nat → Int) (Bn : Nat) (bo fr : Nat → Int) : Prop := ∃ a, pl_X (swz le cu) Bn a 0 Pn (fun _ => bl + cu) ∧ (∀ a', pl_X (swz le cu) Bn a' 0 Pn (fun _ => bl + cu) → pl_lx a a' 0 Pn) ∧ (∀ B', B' < Bn → ¬ ∃ a, pl_X (swz le cu) B' a 0 Pn (fun _ => bl + cu)) ∧ fr = pl_fr (swz le cu) a 0 Pn (fun _ => bl + cu) ∧ ∀ i, i < Pn → bo i = a i
def SwI (bl cu : Int) (Pn : Nat) (le : Nat → Int) (pl : Int) (Bn : Nat) (bo fr : Nat → Int) : Prop := SwB bl cu Pn le ∧ (pl = 0 ∨ (pl = 1 ∧ Bn ≤ Pn ∧ SwF bl cu Pn le Bn bo fr))
abbrev rmA_makePlan : Room := { frames := 14, cells := 0, slots := 0, locals := 600 }
set_option maxHeartbeats 4000000 in
set_option maxRecDepth 100000 in
/-- Saw.makePlan() -/
theorem c_A_makePlan (l : Launch) (K : KG) (q : Nat) (bl cu : Int) (Pn : Nat) (le : Nat → Int) (pl : Int) (Bn : Nat) (bo fr lo sl : Nat → Int) (hI : SwI bl cu Pn le pl Bn bo fr) : Ct l yA_makePlan kA_makePlan rmA_makePlan (PC K [.ref q] (fun H => va_P (kD K) vcl (saW K q bl cu Pn le pl Bn bo fr lo sl) H)) (QV (fun H => ∃ (Bn' : Nat) (bo' fr' lo' sl' : Nat → Int), Bn' ≤ Pn ∧ SwF bl cu Pn le Bn' bo' fr' ∧ va_P (kD K) vcl (saW K q bl cu Pn le 1 Bn' bo' fr' lo' sl') H)) (fun x => q ≤ x ∧ x < q + 6) := by
  refine ct_of (by decide) (Or.inl ⟨rfl, rfl⟩) ?_
  intro p e s m args below meth c B0 hP0
  obtain ⟨hx, hb, hr, hml, hown, hlocks, hnm, htab⟩ := B0
  obtain ⟨ha, ⟨hT, hK⟩, hB⟩ := hP0
  have hl := lv_entry ([.ref q]) (n := 1) (Nat.le_of_ble_eq_true rfl)
  obtain ⟨Q, hQ⟩ : ∃ Q, Q = XQ below (QV (fun H => ∃ (Bn' : Nat) (bo' fr' lo' sl' : Nat → Int), Bn' ≤ Pn ∧ SwF bl cu Pn le Bn' bo' fr' ∧ va_P (kD K) vcl (saW K q bl cu Pn le 1 Bn' bo' fr' lo' sl') H)) args s rmA_makePlan.cells rmA_makePlan.slots (fun x => q ≤ x ∧ x < q + 6) := ⟨_, rfl⟩
  rw [← hQ, ha, lg_entry_eq]
  rw [ha] at hQ
  generalize (lg_sl ([.ref q]) ++ List.replicate (1 - (lg_sl ([.ref q])).length) Slot.unset).toArray = ls at hl ⊢
  generalize ([.ref q] : List Value).toArray = args at hQ ⊢
  have hts : ∀ w ∈ TW, w.before args s = true := fun w h => hT w h args
  have hl : lv_has ls 1 [(0, .ref q)] := hl
  obtain ⟨A, hAe⟩ : ∃ A : Addr → Prop, A = (fun x => q ≤ x ∧ x < q + 6) := ⟨_, rfl⟩
  rw [← hAe] at hQ
  have hS : va_S A s.heap s.heap [] := va_S.rf
  have hP : va_P (kD K) vcl [(q, .inr (3, [.int (iI bl), .int (iI cu), .int (iI (Pn : Int)), .ref (q + 1), .int (iI pl), .int (iI (Bn : Int)), .ref (q + 2), .ref (q + 3), .ref (q + 4), .ref (q + 5)])), (q + 1, .inl (kI K, 10, .inl (iA le))), (q + 2, .inl (kI K, 10, .inl (iA bo))), (q + 3, .inl (kI K, 10, .inl (iA fr))), (q + 4, .inl (kI K, 10, .inl (iA lo))), (q + 5, .inl (kI K, 10, .inl (iA sl)))] s.heap := hB
  have hD : va_D A [(q, .inr (3, [.int (iI bl), .int (iI cu), .int (iI (Pn : Int)), .ref (q + 1), .int (iI pl), .int (iI (Bn : Int)), .ref (q + 2), .ref (q + 3), .ref (q + 4), .ref (q + 5)])), (q + 1, .inl (kI K, 10, .inl (iA le))), (q + 2, .inl (kI K, 10, .inl (iA bo))), (q + 3, .inl (kI K, 10, .inl (iA fr))), (q + 4, .inl (kI K, 10, .inl (iA lo))), (q + 5, .inl (kI K, 10, .inl (iA sl)))] := by rw [hAe]; exact va_D_of (by simp) (by simp <;> omega)
  obtain ⟨hB9, hpl⟩ := hI
  obtain ⟨hbl, hcu, hP10, hle⟩ := id hB9
  refine lv_aload_n hx hb dA_makePlan_0 rfl (lv_at hl 0 rfl) ?_
  refine va_get (D := kD K) (ci := 3) (v := .int (iI pl)) (C := RA) (T := FA) (N := 10) hx hb hts jnA hown hK hP 0 rfl rfl 4 (by decide) (hts _ mt_96) (fun _ h9 => h9) rfl dA_makePlan_1 ?_
  refine iz_if_eq (tgt := 8) hx hb (by rcases hpl with h | ⟨h, -⟩ <;> exact ⟨by omega, by omega⟩) dA_makePlan_4 (by decide) (fun g1 => ?_) (fun g1 => ?_)
  · refine lv_aload_n hx hb dA_makePlan_8 rfl (lv_at hl 0 rfl) ?_
    refine iz_iconst hx hb dA_makePlan_9 ?_
    refine va_put (D := kD K) (ci := 3) (v := .int (iI 1)) (ty := .boolean) (C := RA) (T := FA) (N := 10) hx hb hts jnA tA tA_ok nA hown hK hP hD hS 0 rfl rfl 4 (by decide) (hts _ mt_96) (fun _ h9 => h9) rfl (by decide +kernel) rfl rfl (Nat.le_of_ble_eq_true rfl) dA_makePlan_10 ?_
    clear hP hD hS
    intro H locs hP hD hS
    replace hP : va_P (kD K) vcl [(q, .inr (3, [.int (iI bl), .int (iI cu), .int (iI (Pn : Int)), .ref (q + 1), .int (iI 1), .int (iI (Bn : Int)), .ref (q + 2), .ref (q + 3), .ref (q + 4), .ref (q + 5)])), (q + 1, .inl (kI K, 10, .inl (iA le))), (q + 2, .inl (kI K, 10, .inl (iA bo))), (q + 3, .inl (kI K, 10, .inl (iA fr))), (q + 4, .inl (kI K, 10, .inl (iA lo))), (q + 5, .inl (kI K, 10, .inl (iA sl)))] H := hP
    replace hD : va_D A [(q, .inr (3, [.int (iI bl), .int (iI cu), .int (iI (Pn : Int)), .ref (q + 1), .int (iI 1), .int (iI (Bn : Int)), .ref (q + 2), .ref (q + 3), .ref (q + 4), .ref (q + 5)])), (q + 1, .inl (kI K, 10, .inl (iA le))), (q + 2, .inl (kI K, 10, .inl (iA bo))), (q + 3, .inl (kI K, 10, .inl (iA fr))), (q + 4, .inl (kI K, 10, .inl (iA lo))), (q + 5, .inl (kI K, 10, .inl (iA sl)))] := hD
    refine lv_aload_n hx hb dA_makePlan_13 rfl (lv_at hl 0 rfl) ?_
    refine ctV (n := 0) hx hb hml hown hT ⟨c_A_sum l K q bl cu Pn le 1 Bn bo fr lo sl hB9, ⟨_, _, _, Or.inl ⟨rfl, rfl⟩⟩, mt_280, mt_4, by decide, by decide +kernel, by decide, by decide, by decide, by decide⟩ PC.blind mt_277 mt_279 ms_9 (va_RVof (ci := 3) (q0 := 0) hK hP rfl rfl) (As := []) (rest := []) rfl (PC.at ⟨hT, hK⟩ hP) hl.1 rfl (Nat.le_of_ble_eq_true rfl) dA_makePlan_14 (krV (c1 := 0) (s1 := 0) rfl rfl (fun t1 H1 L hA hL hpo => ?_))
    obtain ⟨lo1, sl1, hL9, hP⟩ := hpo
    have hS := hA.S hS (fun x hx => by rw [hAe]; exact hx) hL
    have hP : va_P (kD K) vcl [(q, .inr (3, [.int (iI bl), .int (iI cu), .int (iI (Pn : Int)), .ref (q + 1), .int (iI 1), .int (iI (Bn : Int)), .ref (q + 2), .ref (q + 3), .ref (q + 4), .ref (q + 5)])), (q + 1, .inl (kI K, 10, .inl (iA le))), (q + 2, .inl (kI K, 10, .inl (iA bo))), (q + 3, .inl (kI K, 10, .inl (iA fr))), (q + 4, .inl (kI K, 10, .inl (iA lo1))), (q + 5, .inl (kI K, 10, .inl (iA sl1)))] H1 := hP
    have hD : va_D A [(q, .inr (3, [.int (iI bl), .int (iI cu), .int (iI (Pn : Int)), .ref (q + 1), .int (iI 1), .int (iI (Bn : Int)), .ref (q + 2), .ref (q + 3), .ref (q + 4), .ref (q + 5)])), (q + 1, .inl (kI K, 10, .inl (iA le))), (q + 2, .inl (kI K, 10, .inl (iA bo))), (q + 3, .inl (kI K, 10, .inl (iA fr))), (q + 4, .inl (kI K, 10, .inl (iA lo1))), (q + 5, .inl (kI K, 10, .inl (iA sl1)))] := by rw [hAe]; exact va_D_of (by simp) (by simp <;> omega)
    generalize H1 = H at hP hS ⊢
    generalize (_ ++ L) = locs at hS ⊢
    refine lv_aload_n hx hb dA_makePlan_17 rfl (lv_at hl 0 rfl) ?_
    refine iz_iconst hx hb dA_makePlan_18 ?_
    refine va_put (D := kD K) (ci := 3) (v := .int (iI 0)) (ty := .int) (C := RA) (T := FA) (N := 10) hx hb hts jnA tA tA_ok nA hown hK hP hD hS 0 rfl rfl 5 (by decide) (hts _ mt_97) (fun _ h9 => h9) rfl (by decide +kernel) rfl rfl (Nat.le_of_ble_eq_true rfl) dA_makePlan_19 ?_
    clear hP hD hS
    intro H locs hP hD hS
    replace hP : va_P (kD K) vcl [(q, .inr (3, [.int (iI bl), .int (iI cu), .int (iI (Pn : Int)), .ref (q + 1), .int (iI 1), .int (iI 0), .ref (q + 2), .ref (q + 3), .ref (q + 4), .ref (q + 5)])), (q + 1, .inl (kI K, 10, .inl (iA le))), (q + 2, .inl (kI K, 10, .inl (iA bo))), (q + 3, .inl (kI K, 10, .inl (iA fr))), (q + 4, .inl (kI K, 10, .inl (iA lo1))), (q + 5, .inl (kI K, 10, .inl (iA sl1)))] H := hP
    replace hD : va_D A [(q, .inr (3, [.int (iI bl), .int (iI cu), .int (iI (Pn : Int)), .ref (q + 1), .int (iI 1), .int (iI 0), .ref (q + 2), .ref (q + 3), .ref (q + 4), .ref (q + 5)])), (q + 1, .inl (kI K, 10, .inl (iA le))), (q + 2, .inl (kI K, 10, .inl (iA bo))), (q + 3, .inl (kI K, 10, .inl (iA fr))), (q + 4, .inl (kI K, 10, .inl (iA lo1))), (q + 5, .inl (kI K, 10, .inl (iA sl1)))] := hD
    have loop : ∀ (j b : Nat), Pn + 1 ≤ b + j → b ≤ Pn → ∀ (bo1 fr1 : Nat → Int), (∀ B', B' < b → ¬ ∃ a, pl_X (swz le cu) B' a 0 Pn (fun _ => bl + cu)) → ∀ (H : Heap) (locs : List Loc), va_P (kD K) vcl [(q, .inr (3, [.int (iI bl), .int (iI cu), .int (iI (Pn : Int)), .ref (q + 1), .int (iI 1), .int (iI (b : Int)), .ref (q + 2), .ref (q + 3), .ref (q + 4), .ref (q + 5)])), (q + 1, .inl (kI K, 10, .inl (iA le))), (q + 2, .inl (kI K, 10, .inl (iA bo1))), (q + 3, .inl (kI K, 10, .inl (iA fr1))), (q + 4, .inl (kI K, 10, .inl (iA lo1))), (q + 5, .inl (kI K, 10, .inl (iA sl1)))] H → va_D A [(q, .inr (3, [.int (iI bl), .int (iI cu), .int (iI (Pn : Int)), .ref (q + 1), .int (iI 1), .int (iI (b : Int)), .ref (q + 2), .ref (q + 3), .ref (q + 4), .ref (q + 5)])), (q + 1, .inl (kI K, 10, .inl (iA le))), (q + 2, .inl (kI K, 10, .inl (iA bo1))), (q + 3, .inl (kI K, 10, .inl (iA fr1))), (q + 4, .inl (kI K, 10, .inl (iA lo1))), (q + 5, .inl (kI K, 10, .inl (iA sl1)))] → va_S A s.heap H locs → ∀ ls : Array Slot, lv_has ls 1 [(0, .ref q)] → W p l e rmA_makePlan s m args below meth c H locs 0 0 Q (F0 m 22 ls []) := by
      intro j
      induction j with
      | zero => intro b h1 h2; omega
      | succ j ihj =>
        intro b h1 h2 bo1 fr1 hno H locs hP hD hS ls hl
        refine lv_aload_n hx hb dA_makePlan_22 rfl (lv_at hl 0 rfl) ?_
        refine ctV (n := 0) hx hb hml hown hT ⟨c_A_placeAll l K q bl cu Pn le 1 b bo1 fr1 lo1 sl1 hB9 (by omega) hL9, ⟨_, _, _, Or.inl ⟨rfl, rfl⟩⟩, mt_287, mt_4, by decide, by decide +kernel, by decide, by decide, by decide, by decide⟩ PC.blind mt_284 mt_286 ms_10 (va_RVof (ci := 3) (q0 := 0) hK hP rfl rfl) (As := []) (rest := []) rfl (PC.at ⟨hT, hK⟩ hP) hl.1 rfl (Nat.le_of_ble_eq_true rfl) dA_makePlan_23 (krI (c1 := 0) (s1 := 0) rfl rfl (fun r t2 H2 L2 hA2 hL2 hpo => ?_))
        obtain ⟨fr2, bo2, hR, hP⟩ := hpo
        have hS := hA2.S hS (fun x hx => by rw [hAe]; exact hx) hL2
        have hP : va_P (kD K) vcl [(q, .inr (3, [.int (iI bl), .int (iI cu), .int (iI (Pn : Int)), .ref (q + 1), .int (iI 1), .int (iI (b : Int)), .ref (q + 2), .ref (q + 3), .ref (q + 4), .ref (q + 5)])), (q + 1, .inl (kI K, 10, .inl (iA le))), (q + 2, .inl (kI K, 10, .inl (iA bo2))), (q + 3, .inl (kI K, 10, .inl (iA fr2))), (q + 4, .inl (kI K, 10, .inl (iA lo1))), (q + 5, .inl (kI K, 10, .inl (iA sl1)))] H2 := hP
        have hD : va_D A [(q, .inr (3, [.int (iI bl), .int (iI cu), .int (iI (Pn : Int)), .ref (q + 1), .int (iI 1), .int (iI (b : Int)), .ref (q + 2), .ref (q + 3), .ref (q + 4), .ref (q + 5)])), (q + 1, .inl (kI K, 10, .inl (iA le))), (q + 2, .inl (kI K, 10, .inl (iA bo2))), (q + 3, .inl (kI K, 10, .inl (iA fr2))), (q + 4, .inl (kI K, 10, .inl (iA lo1))), (q + 5, .inl (kI K, 10, .inl (iA sl1)))] := by rw [hAe]; exact va_D_of (by simp) (by simp <;> omega)
        generalize H2 = H at hP hS ⊢
        refine iz_if_ne (tgt := 53) hx hb (by rcases hR with ⟨rfl, -⟩ | ⟨rfl, -⟩ <;> exact ⟨by omega, by omega⟩) dA_makePlan_26 (by decide) (fun g2 => ?_) (fun g2 => ?_)
        · obtain ⟨a9, h3, h4, h5, h6⟩ : ∃ a, pl_X (swz le cu) b a 0 Pn (fun _ => bl + cu) ∧ (∀ a', pl_X (swz le cu) b a' 0 Pn (fun _ => bl + cu) → pl_lx a a' 0 Pn) ∧ fr2 = pl_fr (swz le cu) a 0 Pn (fun _ => bl + cu) ∧ ∀ i, i < 0 + Pn → bo2 i = if 0 ≤ i then (a i : Int) else bo1 i := by
            rcases hR with ⟨-, h⟩ | ⟨h, -⟩
            · exact h
            · exact absurd h g2
          rw [hQ]
          exact iz_vret hx hb hr hlocks (⟨b, bo2, fr2, lo1, sl1, h2, ⟨a9, h3, h4, hno, h5, fun i hi => by rw [h6 i (by omega), if_pos (Nat.zero_le i)]⟩, hP⟩) hS.2.2 dA_makePlan_53
        · have hne : ¬ ∃ a, pl_X (swz le cu) b a 0 Pn (fun _ => bl + cu) := by rcases hR with ⟨h, -⟩ | ⟨-, h, -⟩; exact absurd (h.symm.trans g2) (by omega); exact h
          refine lv_aload_n hx hb dA_makePlan_29 rfl (lv_at hl 0 rfl) ?_
          refine va_get (D := kD K) (ci := 3) (v := .int (iI (b : Int))) (C := RA) (T := FA) (N := 10) hx hb hts jnA hown hK hP 0 rfl rfl 5 (by decide) (hts _ mt_97) (fun _ h9 => h9) rfl dA_makePlan_30 ?_
          refine lv_aload_n hx hb dA_makePlan_33 rfl (lv_at hl 0 rfl) ?_
          refine va_get (D := kD K) (ci := 3) (v := .int (iI (Pn : Int))) (C := RA) (T := FA) (N := 10) hx hb hts jnA hown hK hP 0 rfl rfl 2 (by decide) (hts _ mt_93) (fun _ h9 => h9) rfl dA_makePlan_34 ?_
          refine iz_icmp_ge (tgt := 53) hx hb ⟨by omega, by omega⟩ ⟨by omega, by omega⟩ dA_makePlan_37 (by decide) (fun g3 => ?_) (fun g3 => ?_)
          · have e9 : b = Pn := by omega
            subst e9
            exact absurd ⟨fun i => i, pl_own b 0 (fun _ => bl + cu) (by omega) (fun i h7 h8 => by have := hle i (by omega); show le i + cu ≤ bl + cu; omega)⟩ hne
          · refine lv_aload_n hx hb dA_makePlan_40 rfl (lv_at hl 0 rfl) ?_
            refine lv_dup hx hb dA_makePlan_41 rfl ?_
            refine va_get (D := kD K) (ci := 3) (v := .int (iI (b : Int))) (C := RA) (T := FA) (N := 10) hx hb hts jnA hown hK hP 0 rfl rfl 5 (by decide) (hts _ mt_97) (fun _ h9 => h9) rfl dA_makePlan_42 ?_
            refine iz_iconst hx hb dA_makePlan_45 ?_
            refine iz_iadd hx hb dA_makePlan_46 ?_
            refine va_put (D := kD K) (ci := 3) (v := .int (iI ((b : Int) + 1))) (ty := .int) (C := RA) (T := FA) (N := 10) hx hb hts jnA tA tA_ok nA hown hK hP hD hS 0 rfl rfl 5 (by decide) (hts _ mt_97) (fun _ h9 => h9) rfl (by decide +kernel) rfl rfl (Nat.le_of_ble_eq_true rfl) dA_makePlan_47 ?_
            clear hP hD hS
            intro H locs hP hD hS
            replace hP : va_P (kD K) vcl [(q, .inr (3, [.int (iI bl), .int (iI cu), .int (iI (Pn : Int)), .ref (q + 1), .int (iI 1), .int (iI ((b : Int) + 1)), .ref (q + 2), .ref (q + 3), .ref (q + 4), .ref (q + 5)])), (q + 1, .inl (kI K, 10, .inl (iA le))), (q + 2, .inl (kI K, 10, .inl (iA bo2))), (q + 3, .inl (kI K, 10, .inl (iA fr2))), (q + 4, .inl (kI K, 10, .inl (iA lo1))), (q + 5, .inl (kI K, 10, .inl (iA sl1)))] H := hP
            replace hD : va_D A [(q, .inr (3, [.int (iI bl), .int (iI cu), .int (iI (Pn : Int)), .ref (q + 1), .int (iI 1), .int (iI ((b : Int) + 1)), .ref (q + 2), .ref (q + 3), .ref (q + 4), .ref (q + 5)])), (q + 1, .inl (kI K, 10, .inl (iA le))), (q + 2, .inl (kI K, 10, .inl (iA bo2))), (q + 3, .inl (kI K, 10, .inl (iA fr2))), (q + 4, .inl (kI K, 10, .inl (iA lo1))), (q + 5, .inl (kI K, 10, .inl (iA sl1)))] := hD
            refine lv_goto (tgt := 22) hx hb dA_makePlan_50 (by decide) ?_
            exact ihj (b + 1) (by omega) (by omega) bo2 fr2 (fun B' hB' => by by_cases e : B' = b; subst e; exact hne; exact hno B' (by omega)) H _ hP hD hS ls (lv_sub hl [0] rfl)
    exact loop (Pn + 1) 0 (by omega) (by omega) bo fr (fun B' hB' => absurd hB' (by omega)) H _ hP hD hS ls (lv_sub hl [0] rfl)
  · obtain ⟨e1, h2, h3⟩ : pl = 1 ∧ Bn ≤ Pn ∧ SwF bl cu Pn le Bn bo fr := by rcases hpl with h | h; exact absurd h g1; exact h
    subst e1
    rw [hQ]
    exact iz_vret hx hb hr hlocks (⟨Bn, bo, fr, lo, sl, h2, h3, hP⟩) hS.2.2 dA_makePlan_7
