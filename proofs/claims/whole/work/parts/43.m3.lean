-- the reference: the purchase
theorem mdD {K : KG} {b : Nat} {cd : Int} {wn : Nat} {ar oc lc st tk wa pk mu pr : Nat → Int} {co : Int} {cn bs : Nat → Int} {ln cu : Int} {pn : Nat} {le : Nat → Int} {bc : Int} {bb ld : Nat → Int} : va_D (fun x => b ≤ x ∧ x < b + 15) (mdW K b cd wn ar oc lc st tk wa pk mu pr co cn bs ln cu pn le bc bb ld) := va_D_of (by simp) (by simp <;> omega)
theorem va_P_one {D : va_G} {cl : List vw_C} {ws : va_W} {H : Heap} {q : Nat × va_E} (hP : va_P D cl ws H) (k : Nat) (hk : ws[k]? = some q) : va_P D cl [q] H := by
  intro i q9 h
  have hi : i < 1 := (List.getElem?_eq_some_iff.mp h).1
  rw [show i = 0 by omega] at h
  cases h
  exact hP k q hk
theorem ut4 (g f : Nat → Int) : ∀ i, i < 4 → ut (ut (ut (ut g 0 (f 0)) 1 (f 1)) 2 (f 2)) 3 (f 3) i = f i := by
  intro i hi
  have hc : i = 0 ∨ i = 1 ∨ i = 2 ∨ i = 3 := by omega
  rcases hc with rfl | rfl | rfl | rfl <;> rfl
theorem ut4v (g : Nat → Int) (x y z : Int) : ∀ i, i < 4 → ut (ut (ut (ut g 0 x) 1 y) 2 z) 3 0 i = by_v x y z i := ut4 g (by_v x y z)
/-- what a purchase has found -/
def byR (mu c : Nat → Int) (K : Nat) (N co : Int) (bs : Nat → Int) : Prop := (co = -1 ∧ ∀ n, ¬ py_F mu 0 K N 0 n) ∨ (∃ n, py_Best mu c K N n ∧ co = py_co c n 0 K ∧ (0 ≤ co ∧ co ≤ 6000000) ∧ ∀ i, i < K → bs i = n i)
abbrev rmM_together : Room := { frames := 0, cells := 0, slots := 0, locals := 0 }
set_option maxHeartbeats 4000000 in
set_option maxRecDepth 100000 in
/-- together(some) -/
theorem c_M_together (l : Launch) (K : KG) (q : Nat) (g : Nat → Int) : Ct l yM_together kM_together rmM_together (PC K [.ref q] (fun H => va_P (kD K) vcl [(q, .inl (kI K, 4, .inl (iA g)))] H)) (QI (fun r _ => r = g 0 + g 1 + g 2 + g 3)) (fun _ => False) := by
  refine ct_of (by decide) (Or.inl ⟨rfl, rfl⟩) ?_
  intro p e s m args below meth c B0 hP0
  obtain ⟨hx, hb, hr, hml, hown, hlocks, hnm, htab⟩ := B0
  obtain ⟨ha, ⟨hT, hK⟩, hB⟩ := hP0
  have hl := lv_entry ([.ref q]) (n := 1) (Nat.le_of_ble_eq_true rfl)
  obtain ⟨Q, hQ⟩ : ∃ Q, Q = XQ below (QI (fun r _ => r = g 0 + g 1 + g 2 + g 3)) args s rmM_together.cells rmM_together.slots (fun _ => False) := ⟨_, rfl⟩
  rw [← hQ, ha, lg_entry_eq]
  rw [ha] at hQ
  generalize (lg_sl ([.ref q]) ++ List.replicate (1 - (lg_sl ([.ref q])).length) Slot.unset).toArray = ls at hl ⊢
  generalize ([.ref q] : List Value).toArray = args at hQ ⊢
  have hts : ∀ w ∈ TW, w.before args s = true := fun w h => hT w h args
  have hl : lv_has ls 1 [(0, .ref q)] := hl
  obtain ⟨A, hAe⟩ : ∃ A : Addr → Prop, A = (fun _ => False) := ⟨_, rfl⟩
  rw [← hAe] at hQ
  have hS : va_S A s.heap s.heap [] := va_S.rf
  have hP : va_P (kD K) vcl [(q, .inl (kI K, 4, .inl (iA g)))] s.heap := hB
  refine lv_aload_n hx hb dM_together_0 rfl (lv_at hl 0 rfl) ?_
  refine iz_iconst hx hb dM_together_1 ?_
  refine iz_iald hx hb hK hP 0 rfl 0 rfl (by omega) (by omega) dM_together_2 ?_
  refine lv_aload_n hx hb dM_together_3 rfl (lv_at hl 0 rfl) ?_
  refine iz_iconst hx hb dM_together_4 ?_
  refine iz_iald hx hb hK hP 0 rfl 1 rfl (by omega) (by omega) dM_together_5 ?_
  refine iz_iadd hx hb dM_together_6 ?_
  refine lv_aload_n hx hb dM_together_7 rfl (lv_at hl 0 rfl) ?_
  refine iz_iconst hx hb dM_together_8 ?_
  refine iz_iald hx hb hK hP 0 rfl 2 rfl (by omega) (by omega) dM_together_9 ?_
  refine iz_iadd hx hb dM_together_10 ?_
  refine lv_aload_n hx hb dM_together_11 rfl (lv_at hl 0 rfl) ?_
  refine iz_iconst hx hb dM_together_12 ?_
  refine iz_iald hx hb hK hP 0 rfl 3 rfl (by omega) (by omega) dM_together_13 ?_
  refine iz_iadd hx hb dM_together_14 ?_
  rw [hQ]
  exact iz_iret hx hb hr hlocks (rfl) (fun _ h => absurd h List.not_mem_nil) dM_together_15
abbrev rmM_isBetter : Room := { frames := 1, cells := 0, slots := 0, locals := 40 }
set_option maxHeartbeats 4000000 in
set_option maxRecDepth 100000 in
/-- isBetter(own) -/
theorem c_M_isBetter (l : Launch) (K : KG) (b : Nat) (cd : Int) (wn : Nat) (ar oc lc st tk wa pk mu pr : Nat → Int) (co : Int) (cn bs : Nat → Int) (ln cu : Int) (pn : Nat) (le : Nat → Int) (bc : Int) (bb ld : Nat → Int) (own : Int) (ho : 0 ≤ own ∧ own ≤ 6000000) (hco : -1 ≤ co ∧ co ≤ 6000000) (hcn : (∀ i, i < 4 → 0 ≤ cn i ∧ cn i ≤ 60)) (hbs : (∀ i, i < 4 → 0 ≤ bs i ∧ bs i ≤ 60)) : Ct l yM_isBetter kM_isBetter rmM_isBetter (PC K [.ref b, .long (lI own)] (fun H => va_P (kD K) vcl (mdW K b cd wn ar oc lc st tk wa pk mu pr co cn bs ln cu pn le bc bb ld) H)) (QI (fun r _ => (r = 1 ∧ (co < 0 ∨ py_bt own (sm cn 0 4) co (sm bs 0 4) ∨ (own = co ∧ sm cn 0 4 = sm bs 0 4 ∧ ¬ py_lx bs cn 0 4))) ∨ (r = 0 ∧ 0 ≤ co ∧ ¬ py_bt own (sm cn 0 4) co (sm bs 0 4) ∧ (own = co → sm cn 0 4 = sm bs 0 4 → py_lx bs cn 0 4)))) (fun _ => False) := by
  refine ct_of (by decide) (Or.inl ⟨rfl, rfl⟩) ?_
  intro p e s m args below meth c B0 hP0
  obtain ⟨hx, hb, hr, hml, hown, hlocks, hnm, htab⟩ := B0
  obtain ⟨ha, ⟨hT, hK⟩, hB⟩ := hP0
  have hl := lv_entry ([.ref b, .long (lI own)]) (n := 4) (Nat.le_of_ble_eq_true rfl)
  obtain ⟨Q, hQ⟩ : ∃ Q, Q = XQ below (QI (fun r _ => (r = 1 ∧ (co < 0 ∨ py_bt own (sm cn 0 4) co (sm bs 0 4) ∨ (own = co ∧ sm cn 0 4 = sm bs 0 4 ∧ ¬ py_lx bs cn 0 4))) ∨ (r = 0 ∧ 0 ≤ co ∧ ¬ py_bt own (sm cn 0 4) co (sm bs 0 4) ∧ (own = co → sm cn 0 4 = sm bs 0 4 → py_lx bs cn 0 4)))) args s rmM_isBetter.cells rmM_isBetter.slots (fun _ => False) := ⟨_, rfl⟩
  rw [← hQ, ha, lg_entry_eq]
  rw [ha] at hQ
  generalize (lg_sl ([.ref b, .long (lI own)]) ++ List.replicate (4 - (lg_sl ([.ref b, .long (lI own)])).length) Slot.unset).toArray = ls at hl ⊢
  generalize ([.ref b, .long (lI own)] : List Value).toArray = args at hQ ⊢
  have hts : ∀ w ∈ TW, w.before args s = true := fun w h => hT w h args
  have hl : lv_has ls 4 [(0, .ref b), (1, .long (lI own))] := hl
  obtain ⟨A, hAe⟩ : ∃ A : Addr → Prop, A = (fun _ => False) := ⟨_, rfl⟩
  rw [← hAe] at hQ
  have hS : va_S A s.heap s.heap [] := va_S.rf
  have hP : va_P (kD K) vcl [(b, .inr (4, [.int (iI cd), .int (iI (wn : Int)), .ref (b + 1), .ref (b + 2), .ref (b + 3), .ref (b + 4), .ref (b + 5), .ref (b + 6), .ref (b + 7), .ref (b + 8), .ref (b + 9), .long (lI co), .ref (b + 10), .ref (b + 11), .int (iI ln), .int (iI cu), .int (iI (pn : Int)), .ref (b + 12), .int (iI bc), .ref (b + 13), .ref (b + 14)])), (b + 1, .inl (kI K, 12, .inl (iA ar))), (b + 2, .inl (kI K, 12, .inl (iA oc))), (b + 3, .inl (kI K, 12, .inl (iA lc))), (b + 4, .inl (kI K, 96, .inl (iA st))), (b + 5, .inl (kI K, 96, .inl (iA tk))), (b + 6, .inl (kI K, 10, .inl (iA wa))), (b + 7, .inl (kI K, 10, .inl (iA pk))), (b + 8, .inl (kL K, 40, .inr (.inl (lA mu)))), (b + 9, .inl (kL K, 40, .inr (.inl (lA pr)))), (b + 10, .inl (kI K, 4, .inl (iA cn))), (b + 11, .inl (kI K, 4, .inl (iA bs))), (b + 12, .inl (kI K, 10, .inl (iA le))), (b + 13, .inl (kI K, 10, .inl (iA bb))), (b + 14, .inl (kI K, 10, .inl (iA ld)))] s.heap := hB
  have qcn0 := hcn 0 (by omega)
  have qcn1 := hcn 1 (by omega)
  have qcn2 := hcn 2 (by omega)
  have qcn3 := hcn 3 (by omega)
  have qbs0 := hbs 0 (by omega)
  have qbs1 := hbs 1 (by omega)
  have qbs2 := hbs 2 (by omega)
  have qbs3 := hbs 3 (by omega)
  refine lv_aload_n hx hb dM_isBetter_0 rfl (lv_at hl 0 rfl) ?_
  refine va_get (D := kD K) (ci := 4) (v := .long (lI co)) (C := RM) (T := FM) (N := 21) hx hb hts jnM hown hK hP 0 rfl rfl 11 (by decide) (hts _ mt_474) (fun _ h9 => h9) rfl dM_isBetter_1 ?_
  refine iz_lconst hx hb 0 rfl dM_isBetter_4 ?_
  refine iz_lc_lt (tgt := 18) hx hb ⟨by omega, by omega⟩ ⟨by omega, by omega⟩ dM_isBetter_5 dM_isBetter_6 (by decide) (fun g1 => ?_) (fun g1 => ?_)
  · refine lv_aload_n hx hb dM_isBetter_18 rfl (lv_at hl 0 rfl) ?_
    refine va_get (D := kD K) (ci := 4) (v := .long (lI co)) (C := RM) (T := FM) (N := 21) hx hb hts jnM hown hK hP 0 rfl rfl 11 (by decide) (hts _ mt_474) (fun _ h9 => h9) rfl dM_isBetter_19 ?_
    refine iz_lconst hx hb 0 rfl dM_isBetter_22 ?_
    refine iz_lc_lt (tgt := 36) hx hb ⟨by omega, by omega⟩ ⟨by omega, by omega⟩ dM_isBetter_23 dM_isBetter_24 (by decide) (fun g2 => ?_) (fun g2 => ?_)
    · refine iz_iconst hx hb dM_isBetter_36 ?_
      refine lv_goto (tgt := 41) hx hb dM_isBetter_37 (by decide) ?_
      rw [hQ]
      exact iz_zret hx hb hr hlocks (Or.inr rfl) (Or.inl ⟨rfl, by simp only [py_bt, py_lx4, sm4]; omega⟩) (fun _ h => absurd h List.not_mem_nil) dM_isBetter_41
    · refine lv_lload_n hx hb dM_isBetter_27 rfl (lv_at hl 1 rfl) ?_
      refine lv_aload_n hx hb dM_isBetter_28 rfl (lv_at hl 0 rfl) ?_
      refine va_get (D := kD K) (ci := 4) (v := .long (lI co)) (C := RM) (T := FM) (N := 21) hx hb hts jnM hown hK hP 0 rfl rfl 11 (by decide) (hts _ mt_474) (fun _ h9 => h9) rfl dM_isBetter_29 ?_
      refine iz_lc_ge (tgt := 40) hx hb ⟨by omega, by omega⟩ ⟨by omega, by omega⟩ dM_isBetter_32 dM_isBetter_33 (by decide) (fun g3 => ?_) (fun g3 => ?_)
      · refine iz_iconst hx hb dM_isBetter_40 ?_
        rw [hQ]
        exact iz_zret hx hb hr hlocks (Or.inl rfl) (Or.inr ⟨rfl, by simp only [py_bt, py_lx4, sm4]; omega⟩) (fun _ h => absurd h List.not_mem_nil) dM_isBetter_41
      · refine iz_iconst hx hb dM_isBetter_36 ?_
        refine lv_goto (tgt := 41) hx hb dM_isBetter_37 (by decide) ?_
        rw [hQ]
        exact iz_zret hx hb hr hlocks (Or.inr rfl) (Or.inl ⟨rfl, by simp only [py_bt, py_lx4, sm4]; omega⟩) (fun _ h => absurd h List.not_mem_nil) dM_isBetter_41
  · refine lv_lload_n hx hb dM_isBetter_9 rfl (lv_at hl 1 rfl) ?_
    refine lv_aload_n hx hb dM_isBetter_10 rfl (lv_at hl 0 rfl) ?_
    refine va_get (D := kD K) (ci := 4) (v := .long (lI co)) (C := RM) (T := FM) (N := 21) hx hb hts jnM hown hK hP 0 rfl rfl 11 (by decide) (hts _ mt_474) (fun _ h9 => h9) rfl dM_isBetter_11 ?_
    refine iz_lc_eq (tgt := 42) hx hb ⟨by omega, by omega⟩ ⟨by omega, by omega⟩ dM_isBetter_14 dM_isBetter_15 (by decide) (fun g4 => ?_) (fun g4 => ?_)
    · refine lv_aload_n hx hb dM_isBetter_42 rfl (lv_at hl 0 rfl) ?_
      refine va_get (D := kD K) (ci := 4) (v := .ref (b + 10)) (C := RM) (T := FM) (N := 21) hx hb hts jnM hown hK hP 0 rfl rfl 12 (by decide) (hts _ mt_475) (fun _ h9 => h9) rfl dM_isBetter_43 ?_
      refine ctS (n := 1) hx hb hml hown hT ⟨c_M_together l K (b + 10) cn, ⟨_, _, _, Or.inl ⟨rfl, rfl⟩⟩, mt_597, mt_5, by decide, by decide +kernel, by decide, by decide, by decide, by decide⟩ PC.blind mt_595 mt_596 (As := [.ref (b + 10)]) (rest := []) rfl (PC.at ⟨hT, hK⟩ (va_P_one hP 10 rfl)) hl.1 rfl (Nat.le_of_ble_eq_true rfl) dM_isBetter_46 (krI0 rfl rfl (fun _ h => h) (fun r hr9 => ?_))
      subst hr9
      refine lv_aload_n hx hb dM_isBetter_49 rfl (lv_at hl 0 rfl) ?_
      refine va_get (D := kD K) (ci := 4) (v := .ref (b + 11)) (C := RM) (T := FM) (N := 21) hx hb hts jnM hown hK hP 0 rfl rfl 13 (by decide) (hts _ mt_476) (fun _ h9 => h9) rfl dM_isBetter_50 ?_
      refine ctS (n := 1) hx hb hml hown hT ⟨c_M_together l K (b + 11) bs, ⟨_, _, _, Or.inl ⟨rfl, rfl⟩⟩, mt_597, mt_5, by decide, by decide +kernel, by decide, by decide, by decide, by decide⟩ PC.blind mt_595 mt_596 (As := [.ref (b + 11)]) (rest := [.int (iI (cn 0 + cn 1 + cn 2 + cn 3))]) rfl (PC.at ⟨hT, hK⟩ (va_P_one hP 11 rfl)) hl.1 rfl (Nat.le_of_ble_eq_true rfl) dM_isBetter_53 (krI0 rfl rfl (fun _ h => h) (fun r hr9 => ?_))
      subst hr9
      refine iz_icmp_eq (tgt := 82) hx hb ⟨by omega, by omega⟩ ⟨by omega, by omega⟩ dM_isBetter_56 (by decide) (fun g5 => ?_) (fun g5 => ?_)
      · refine iz_iconst hx hb dM_isBetter_82 ?_
        refine lv_istore_n (lv' := [(3, .int (iI 0)), (0, .ref b), (1, .long (lI own))]) hx hb dM_isBetter_83 rfl hl (by decide) rfl (fun ls hl => ?_)
        refine lv_iload_n hx hb dM_isBetter_84 rfl (lv_at hl 0 rfl) ?_
        refine iz_iconst hx hb dM_isBetter_85 ?_
        refine iz_icmp_ge (tgt := 110) hx hb ⟨by omega, by omega⟩ ⟨by omega, by omega⟩ dM_isBetter_86 (by decide) (fun g => absurd g (by decide)) (fun _ => ?_)
        refine lv_aload_n hx hb dM_isBetter_89 rfl (lv_at hl 1 rfl) ?_
        refine va_get (D := kD K) (ci := 4) (v := .ref (b + 10)) (C := RM) (T := FM) (N := 21) hx hb hts jnM hown hK hP 0 rfl rfl 12 (by decide) (hts _ mt_475) (fun _ h9 => h9) rfl dM_isBetter_90 ?_
        refine lv_iload_n hx hb dM_isBetter_93 rfl (lv_at hl 0 rfl) ?_
        refine iz_iald hx hb hK hP 10 rfl 0 rfl (by omega) (by omega) dM_isBetter_94 ?_
        refine lv_aload_n hx hb dM_isBetter_95 rfl (lv_at hl 1 rfl) ?_
        refine va_get (D := kD K) (ci := 4) (v := .ref (b + 11)) (C := RM) (T := FM) (N := 21) hx hb hts jnM hown hK hP 0 rfl rfl 13 (by decide) (hts _ mt_476) (fun _ h9 => h9) rfl dM_isBetter_96 ?_
        refine lv_iload_n hx hb dM_isBetter_99 rfl (lv_at hl 0 rfl) ?_
        refine iz_iald hx hb hK hP 11 rfl 0 rfl (by omega) (by omega) dM_isBetter_100 ?_
        refine iz_icmp_ne (tgt := 110) hx hb ⟨by omega, by omega⟩ ⟨by omega, by omega⟩ dM_isBetter_101 (by decide) (fun g6 => ?_) (fun g6 => ?_)
        · refine lv_aload_n hx hb dM_isBetter_110 rfl (lv_at hl 1 rfl) ?_
          refine va_get (D := kD K) (ci := 4) (v := .ref (b + 10)) (C := RM) (T := FM) (N := 21) hx hb hts jnM hown hK hP 0 rfl rfl 12 (by decide) (hts _ mt_475) (fun _ h9 => h9) rfl dM_isBetter_111 ?_
          refine lv_iload_n hx hb dM_isBetter_114 rfl (lv_at hl 0 rfl) ?_
          refine iz_iald hx hb hK hP 10 rfl 0 rfl (by omega) (by omega) dM_isBetter_115 ?_
          refine lv_aload_n hx hb dM_isBetter_116 rfl (lv_at hl 1 rfl) ?_
          refine va_get (D := kD K) (ci := 4) (v := .ref (b + 11)) (C := RM) (T := FM) (N := 21) hx hb hts jnM hown hK hP 0 rfl rfl 13 (by decide) (hts _ mt_476) (fun _ h9 => h9) rfl dM_isBetter_117 ?_
          refine lv_iload_n hx hb dM_isBetter_120 rfl (lv_at hl 0 rfl) ?_
          refine iz_iald hx hb hK hP 11 rfl 0 rfl (by omega) (by omega) dM_isBetter_121 ?_
          refine iz_icmp_le (tgt := 129) hx hb ⟨by omega, by omega⟩ ⟨by omega, by omega⟩ dM_isBetter_122 (by decide) (fun g7 => ?_) (fun g7 => ?_)
          · refine iz_iconst hx hb dM_isBetter_129 ?_
            rw [hQ]
            exact iz_zret hx hb hr hlocks (Or.inl rfl) (Or.inr ⟨rfl, by simp only [py_bt, py_lx4, sm4]; omega⟩) (fun _ h => absurd h List.not_mem_nil) dM_isBetter_130
          · refine iz_iconst hx hb dM_isBetter_125 ?_
            refine lv_goto (tgt := 130) hx hb dM_isBetter_126 (by decide) ?_
            rw [hQ]
            exact iz_zret hx hb hr hlocks (Or.inr rfl) (Or.inl ⟨rfl, by simp only [py_bt, py_lx4, sm4]; omega⟩) (fun _ h => absurd h List.not_mem_nil) dM_isBetter_130
        · refine iz_iinc (k := 0) (lv' := [(3, .int (iI 1)), (0, .ref b), (1, .long (lI own))]) hx hb dM_isBetter_104 hl rfl (by decide) rfl (fun ls hl => ?_)
          refine lv_goto (tgt := 84) hx hb dM_isBetter_107 (by decide) ?_
          refine lv_iload_n hx hb dM_isBetter_84 rfl (lv_at hl 0 rfl) ?_
          refine iz_iconst hx hb dM_isBetter_85 ?_
          refine iz_icmp_ge (tgt := 110) hx hb ⟨by omega, by omega⟩ ⟨by omega, by omega⟩ dM_isBetter_86 (by decide) (fun g => absurd g (by decide)) (fun _ => ?_)
          refine lv_aload_n hx hb dM_isBetter_89 rfl (lv_at hl 1 rfl) ?_
          refine va_get (D := kD K) (ci := 4) (v := .ref (b + 10)) (C := RM) (T := FM) (N := 21) hx hb hts jnM hown hK hP 0 rfl rfl 12 (by decide) (hts _ mt_475) (fun _ h9 => h9) rfl dM_isBetter_90 ?_
          refine lv_iload_n hx hb dM_isBetter_93 rfl (lv_at hl 0 rfl) ?_
          refine iz_iald hx hb hK hP 10 rfl 1 rfl (by omega) (by omega) dM_isBetter_94 ?_
          refine lv_aload_n hx hb dM_isBetter_95 rfl (lv_at hl 1 rfl) ?_
          refine va_get (D := kD K) (ci := 4) (v := .ref (b + 11)) (C := RM) (T := FM) (N := 21) hx hb hts jnM hown hK hP 0 rfl rfl 13 (by decide) (hts _ mt_476) (fun _ h9 => h9) rfl dM_isBetter_96 ?_
          refine lv_iload_n hx hb dM_isBetter_99 rfl (lv_at hl 0 rfl) ?_
          refine iz_iald hx hb hK hP 11 rfl 1 rfl (by omega) (by omega) dM_isBetter_100 ?_
          refine iz_icmp_ne (tgt := 110) hx hb ⟨by omega, by omega⟩ ⟨by omega, by omega⟩ dM_isBetter_101 (by decide) (fun g8 => ?_) (fun g8 => ?_)
          · refine lv_aload_n hx hb dM_isBetter_110 rfl (lv_at hl 1 rfl) ?_
            refine va_get (D := kD K) (ci := 4) (v := .ref (b + 10)) (C := RM) (T := FM) (N := 21) hx hb hts jnM hown hK hP 0 rfl rfl 12 (by decide) (hts _ mt_475) (fun _ h9 => h9) rfl dM_isBetter_111 ?_
            refine lv_iload_n hx hb dM_isBetter_114 rfl (lv_at hl 0 rfl) ?_
            refine iz_iald hx hb hK hP 10 rfl 1 rfl (by omega) (by omega) dM_isBetter_115 ?_
            refine lv_aload_n hx hb dM_isBetter_116 rfl (lv_at hl 1 rfl) ?_
            refine va_get (D := kD K) (ci := 4) (v := .ref (b + 11)) (C := RM) (T := FM) (N := 21) hx hb hts jnM hown hK hP 0 rfl rfl 13 (by decide) (hts _ mt_476) (fun _ h9 => h9) rfl dM_isBetter_117 ?_
            refine lv_iload_n hx hb dM_isBetter_120 rfl (lv_at hl 0 rfl) ?_
            refine iz_iald hx hb hK hP 11 rfl 1 rfl (by omega) (by omega) dM_isBetter_121 ?_
            refine iz_icmp_le (tgt := 129) hx hb ⟨by omega, by omega⟩ ⟨by omega, by omega⟩ dM_isBetter_122 (by decide) (fun g9 => ?_) (fun g9 => ?_)
            · refine iz_iconst hx hb dM_isBetter_129 ?_
              rw [hQ]
              exact iz_zret hx hb hr hlocks (Or.inl rfl) (Or.inr ⟨rfl, by simp only [py_bt, py_lx4, sm4]; omega⟩) (fun _ h => absurd h List.not_mem_nil) dM_isBetter_130
            · refine iz_iconst hx hb dM_isBetter_125 ?_
              refine lv_goto (tgt := 130) hx hb dM_isBetter_126 (by decide) ?_
              rw [hQ]
              exact iz_zret hx hb hr hlocks (Or.inr rfl) (Or.inl ⟨rfl, by simp only [py_bt, py_lx4, sm4]; omega⟩) (fun _ h => absurd h List.not_mem_nil) dM_isBetter_130
          · refine iz_iinc (k := 0) (lv' := [(3, .int (iI 2)), (0, .ref b), (1, .long (lI own))]) hx hb dM_isBetter_104 hl rfl (by decide) rfl (fun ls hl => ?_)
            refine lv_goto (tgt := 84) hx hb dM_isBetter_107 (by decide) ?_
            refine lv_iload_n hx hb dM_isBetter_84 rfl (lv_at hl 0 rfl) ?_
            refine iz_iconst hx hb dM_isBetter_85 ?_
            refine iz_icmp_ge (tgt := 110) hx hb ⟨by omega, by omega⟩ ⟨by omega, by omega⟩ dM_isBetter_86 (by decide) (fun g => absurd g (by decide)) (fun _ => ?_)
            refine lv_aload_n hx hb dM_isBetter_89 rfl (lv_at hl 1 rfl) ?_
            refine va_get (D := kD K) (ci := 4) (v := .ref (b + 10)) (C := RM) (T := FM) (N := 21) hx hb hts jnM hown hK hP 0 rfl rfl 12 (by decide) (hts _ mt_475) (fun _ h9 => h9) rfl dM_isBetter_90 ?_
            refine lv_iload_n hx hb dM_isBetter_93 rfl (lv_at hl 0 rfl) ?_
            refine iz_iald hx hb hK hP 10 rfl 2 rfl (by omega) (by omega) dM_isBetter_94 ?_
            refine lv_aload_n hx hb dM_isBetter_95 rfl (lv_at hl 1 rfl) ?_
            refine va_get (D := kD K) (ci := 4) (v := .ref (b + 11)) (C := RM) (T := FM) (N := 21) hx hb hts jnM hown hK hP 0 rfl rfl 13 (by decide) (hts _ mt_476) (fun _ h9 => h9) rfl dM_isBetter_96 ?_
            refine lv_iload_n hx hb dM_isBetter_99 rfl (lv_at hl 0 rfl) ?_
            refine iz_iald hx hb hK hP 11 rfl 2 rfl (by omega) (by omega) dM_isBetter_100 ?_
            refine iz_icmp_ne (tgt := 110) hx hb ⟨by omega, by omega⟩ ⟨by omega, by omega⟩ dM_isBetter_101 (by decide) (fun g10 => ?_) (fun g10 => ?_)
            · refine lv_aload_n hx hb dM_isBetter_110 rfl (lv_at hl 1 rfl) ?_
              refine va_get (D := kD K) (ci := 4) (v := .ref (b + 10)) (C := RM) (T := FM) (N := 21) hx hb hts jnM hown hK hP 0 rfl rfl 12 (by decide) (hts _ mt_475) (fun _ h9 => h9) rfl dM_isBetter_111 ?_
              refine lv_iload_n hx hb dM_isBetter_114 rfl (lv_at hl 0 rfl) ?_
              refine iz_iald hx hb hK hP 10 rfl 2 rfl (by omega) (by omega) dM_isBetter_115 ?_
              refine lv_aload_n hx hb dM_isBetter_116 rfl (lv_at hl 1 rfl) ?_
              refine va_get (D := kD K) (ci := 4) (v := .ref (b + 11)) (C := RM) (T := FM) (N := 21) hx hb hts jnM hown hK hP 0 rfl rfl 13 (by decide) (hts _ mt_476) (fun _ h9 => h9) rfl dM_isBetter_117 ?_
              refine lv_iload_n hx hb dM_isBetter_120 rfl (lv_at hl 0 rfl) ?_
              refine iz_iald hx hb hK hP 11 rfl 2 rfl (by omega) (by omega) dM_isBetter_121 ?_
              refine iz_icmp_le (tgt := 129) hx hb ⟨by omega, by omega⟩ ⟨by omega, by omega⟩ dM_isBetter_122 (by decide) (fun g11 => ?_) (fun g11 => ?_)
              · refine iz_iconst hx hb dM_isBetter_129 ?_
                rw [hQ]
                exact iz_zret hx hb hr hlocks (Or.inl rfl) (Or.inr ⟨rfl, by simp only [py_bt, py_lx4, sm4]; omega⟩) (fun _ h => absurd h List.not_mem_nil) dM_isBetter_130
              · refine iz_iconst hx hb dM_isBetter_125 ?_
                refine lv_goto (tgt := 130) hx hb dM_isBetter_126 (by decide) ?_
                rw [hQ]
                exact iz_zret hx hb hr hlocks (Or.inr rfl) (Or.inl ⟨rfl, by simp only [py_bt, py_lx4, sm4]; omega⟩) (fun _ h => absurd h List.not_mem_nil) dM_isBetter_130
            · refine iz_iinc (k := 0) (lv' := [(3, .int (iI 3)), (0, .ref b), (1, .long (lI own))]) hx hb dM_isBetter_104 hl rfl (by decide) rfl (fun ls hl => ?_)
              refine lv_goto (tgt := 84) hx hb dM_isBetter_107 (by decide) ?_
              refine lv_iload_n hx hb dM_isBetter_84 rfl (lv_at hl 0 rfl) ?_
              refine iz_iconst hx hb dM_isBetter_85 ?_
              refine iz_icmp_ge (tgt := 110) hx hb ⟨by omega, by omega⟩ ⟨by omega, by omega⟩ dM_isBetter_86 (by decide) (fun _ => ?_) (fun g => absurd g (by decide))
              refine lv_aload_n hx hb dM_isBetter_110 rfl (lv_at hl 1 rfl) ?_
              refine va_get (D := kD K) (ci := 4) (v := .ref (b + 10)) (C := RM) (T := FM) (N := 21) hx hb hts jnM hown hK hP 0 rfl rfl 12 (by decide) (hts _ mt_475) (fun _ h9 => h9) rfl dM_isBetter_111 ?_
              refine lv_iload_n hx hb dM_isBetter_114 rfl (lv_at hl 0 rfl) ?_
              refine iz_iald hx hb hK hP 10 rfl 3 rfl (by omega) (by omega) dM_isBetter_115 ?_
              refine lv_aload_n hx hb dM_isBetter_116 rfl (lv_at hl 1 rfl) ?_
              refine va_get (D := kD K) (ci := 4) (v := .ref (b + 11)) (C := RM) (T := FM) (N := 21) hx hb hts jnM hown hK hP 0 rfl rfl 13 (by decide) (hts _ mt_476) (fun _ h9 => h9) rfl dM_isBetter_117 ?_
              refine lv_iload_n hx hb dM_isBetter_120 rfl (lv_at hl 0 rfl) ?_
              refine iz_iald hx hb hK hP 11 rfl 3 rfl (by omega) (by omega) dM_isBetter_121 ?_
              refine iz_icmp_le (tgt := 129) hx hb ⟨by omega, by omega⟩ ⟨by omega, by omega⟩ dM_isBetter_122 (by decide) (fun g12 => ?_) (fun g12 => ?_)
              · refine iz_iconst hx hb dM_isBetter_129 ?_
                rw [hQ]
                exact iz_zret hx hb hr hlocks (Or.inl rfl) (Or.inr ⟨rfl, by simp only [py_bt, py_lx4, sm4]; omega⟩) (fun _ h => absurd h List.not_mem_nil) dM_isBetter_130
              · refine iz_iconst hx hb dM_isBetter_125 ?_
                refine lv_goto (tgt := 130) hx hb dM_isBetter_126 (by decide) ?_
                rw [hQ]
                exact iz_zret hx hb hr hlocks (Or.inr rfl) (Or.inl ⟨rfl, by simp only [py_bt, py_lx4, sm4]; omega⟩) (fun _ h => absurd h List.not_mem_nil) dM_isBetter_130
      · refine lv_aload_n hx hb dM_isBetter_59 rfl (lv_at hl 0 rfl) ?_
        refine va_get (D := kD K) (ci := 4) (v := .ref (b + 10)) (C := RM) (T := FM) (N := 21) hx hb hts jnM hown hK hP 0 rfl rfl 12 (by decide) (hts _ mt_475) (fun _ h9 => h9) rfl dM_isBetter_60 ?_
        refine ctS (n := 1) hx hb hml hown hT ⟨c_M_together l K (b + 10) cn, ⟨_, _, _, Or.inl ⟨rfl, rfl⟩⟩, mt_597, mt_5, by decide, by decide +kernel, by decide, by decide, by decide, by decide⟩ PC.blind mt_595 mt_596 (As := [.ref (b + 10)]) (rest := []) rfl (PC.at ⟨hT, hK⟩ (va_P_one hP 10 rfl)) hl.1 rfl (Nat.le_of_ble_eq_true rfl) dM_isBetter_63 (krI0 rfl rfl (fun _ h => h) (fun r hr9 => ?_))
        subst hr9
        refine lv_aload_n hx hb dM_isBetter_66 rfl (lv_at hl 0 rfl) ?_
        refine va_get (D := kD K) (ci := 4) (v := .ref (b + 11)) (C := RM) (T := FM) (N := 21) hx hb hts jnM hown hK hP 0 rfl rfl 13 (by decide) (hts _ mt_476) (fun _ h9 => h9) rfl dM_isBetter_67 ?_
        refine ctS (n := 1) hx hb hml hown hT ⟨c_M_together l K (b + 11) bs, ⟨_, _, _, Or.inl ⟨rfl, rfl⟩⟩, mt_597, mt_5, by decide, by decide +kernel, by decide, by decide, by decide, by decide⟩ PC.blind mt_595 mt_596 (As := [.ref (b + 11)]) (rest := [.int (iI (cn 0 + cn 1 + cn 2 + cn 3))]) rfl (PC.at ⟨hT, hK⟩ (va_P_one hP 11 rfl)) hl.1 rfl (Nat.le_of_ble_eq_true rfl) dM_isBetter_70 (krI0 rfl rfl (fun _ h => h) (fun r hr9 => ?_))
        subst hr9
        refine iz_icmp_ge (tgt := 80) hx hb ⟨by omega, by omega⟩ ⟨by omega, by omega⟩ dM_isBetter_73 (by decide) (fun g13 => ?_) (fun g13 => ?_)
        · refine iz_iconst hx hb dM_isBetter_80 ?_
          rw [hQ]
          exact iz_zret hx hb hr hlocks (Or.inl rfl) (Or.inr ⟨rfl, by simp only [py_bt, py_lx4, sm4]; omega⟩) (fun _ h => absurd h List.not_mem_nil) dM_isBetter_81
        · refine iz_iconst hx hb dM_isBetter_76 ?_
          refine lv_goto (tgt := 81) hx hb dM_isBetter_77 (by decide) ?_
          rw [hQ]
          exact iz_zret hx hb hr hlocks (Or.inr rfl) (Or.inl ⟨rfl, by simp only [py_bt, py_lx4, sm4]; omega⟩) (fun _ h => absurd h List.not_mem_nil) dM_isBetter_81
    · refine lv_aload_n hx hb dM_isBetter_18 rfl (lv_at hl 0 rfl) ?_
      refine va_get (D := kD K) (ci := 4) (v := .long (lI co)) (C := RM) (T := FM) (N := 21) hx hb hts jnM hown hK hP 0 rfl rfl 11 (by decide) (hts _ mt_474) (fun _ h9 => h9) rfl dM_isBetter_19 ?_
      refine iz_lconst hx hb 0 rfl dM_isBetter_22 ?_
      refine iz_lc_lt (tgt := 36) hx hb ⟨by omega, by omega⟩ ⟨by omega, by omega⟩ dM_isBetter_23 dM_isBetter_24 (by decide) (fun g14 => ?_) (fun g14 => ?_)
      · refine iz_iconst hx hb dM_isBetter_36 ?_
        refine lv_goto (tgt := 41) hx hb dM_isBetter_37 (by decide) ?_
        rw [hQ]
        exact iz_zret hx hb hr hlocks (Or.inr rfl) (Or.inl ⟨rfl, by simp only [py_bt, py_lx4, sm4]; omega⟩) (fun _ h => absurd h List.not_mem_nil) dM_isBetter_41
      · refine lv_lload_n hx hb dM_isBetter_27 rfl (lv_at hl 1 rfl) ?_
        refine lv_aload_n hx hb dM_isBetter_28 rfl (lv_at hl 0 rfl) ?_
        refine va_get (D := kD K) (ci := 4) (v := .long (lI co)) (C := RM) (T := FM) (N := 21) hx hb hts jnM hown hK hP 0 rfl rfl 11 (by decide) (hts _ mt_474) (fun _ h9 => h9) rfl dM_isBetter_29 ?_
        refine iz_lc_ge (tgt := 40) hx hb ⟨by omega, by omega⟩ ⟨by omega, by omega⟩ dM_isBetter_32 dM_isBetter_33 (by decide) (fun g15 => ?_) (fun g15 => ?_)
        · refine iz_iconst hx hb dM_isBetter_40 ?_
          rw [hQ]
          exact iz_zret hx hb hr hlocks (Or.inl rfl) (Or.inr ⟨rfl, by simp only [py_bt, py_lx4, sm4]; omega⟩) (fun _ h => absurd h List.not_mem_nil) dM_isBetter_41
        · refine iz_iconst hx hb dM_isBetter_36 ?_
          refine lv_goto (tgt := 41) hx hb dM_isBetter_37 (by decide) ?_
          rw [hQ]
          exact iz_zret hx hb hr hlocks (Or.inr rfl) (Or.inl ⟨rfl, by simp only [py_bt, py_lx4, sm4]; omega⟩) (fun _ h => absurd h List.not_mem_nil) dM_isBetter_41
abbrev rmM_tryLast : Room := { frames := 2, cells := 0, slots := 0, locals := 80 }
set_option maxHeartbeats 4000000 in
set_option maxRecDepth 100000 in
/-- tryLast(stuff, need) -/
theorem c_M_tryLast (l : Launch) (K : KG) (b : Nat) (cd : Int) (wn : Nat) (ar oc lc st tk wa pk mu pr : Nat → Int) (co : Int) (bs : Nat → Int) (ln cu : Int) (pn : Nat) (le : Nat → Int) (bc : Int) (bb ld : Nat → Int) (j L : Nat) (N x y z : Int) (E : Int → Int → Int → Prop) (hj : j < 10) (hL : L < 4) (hpk : pk j = (L : Int) + 1) (hN : 0 ≤ N ∧ N ≤ 100000000000) (hmp : ∀ i, i < L + 1 → (1 ≤ mu (4 * j + i) ∧ mu (4 * j + i) ≤ 1000000000) ∧ (1 ≤ pr (4 * j + i) ∧ pr (4 * j + i) ≤ 100000)) (hv : ∀ i, 0 ≤ by_v x y z i ∧ by_v x y z i ≤ 60) (hz : ∀ i, L ≤ i → i < 4 → by_v x y z i = 0) (hbs : (∀ i, i < 4 → 0 ≤ bs i ∧ bs i ≤ 60)) (hI : by_I (fun i => mu (4 * j + i)) (fun i => pr (4 * j + i)) L N E co bs) : Ct l yM_tryLast kM_tryLast rmM_tryLast (PC K [.ref b, .int (iI (j : Int)), .long (lI N)] (fun H => va_P (kD K) vcl (mdW K b cd wn ar oc lc st tk wa pk mu pr co (by_v x y z) bs ln cu pn le bc bb ld) H)) (QV (fun H => ∃ (co' : Int) (cn' bs' : Nat → Int), (∀ i, i < 4 → 0 ≤ bs' i ∧ bs' i ≤ 60) ∧ by_I (fun i => mu (4 * j + i)) (fun i => pr (4 * j + i)) L N (fun x1 y1 z1 => E x1 y1 z1 ∨ (x1 = x ∧ y1 = y ∧ z1 = z)) co' bs' ∧ va_P (kD K) vcl (mdW K b cd wn ar oc lc st tk wa pk mu pr co' cn' bs' ln cu pn le bc bb ld) H)) (fun x => b ≤ x ∧ x < b + 15) := by
  refine ct_of (by decide) (Or.inl ⟨rfl, rfl⟩) ?_
  intro p e s m args below meth c B0 hP0
  obtain ⟨hx, hb, hr, hml, hown, hlocks, hnm, htab⟩ := B0
  obtain ⟨ha, ⟨hT, hK⟩, hB⟩ := hP0
  have hl := lv_entry ([.ref b, .int (iI (j : Int)), .long (lI N)]) (n := 14) (Nat.le_of_ble_eq_true rfl)
  obtain ⟨Q, hQ⟩ : ∃ Q, Q = XQ below (QV (fun H => ∃ (co' : Int) (cn' bs' : Nat → Int), (∀ i, i < 4 → 0 ≤ bs' i ∧ bs' i ≤ 60) ∧ by_I (fun i => mu (4 * j + i)) (fun i => pr (4 * j + i)) L N (fun x1 y1 z1 => E x1 y1 z1 ∨ (x1 = x ∧ y1 = y ∧ z1 = z)) co' bs' ∧ va_P (kD K) vcl (mdW K b cd wn ar oc lc st tk wa pk mu pr co' cn' bs' ln cu pn le bc bb ld) H)) args s rmM_tryLast.cells rmM_tryLast.slots (fun x => b ≤ x ∧ x < b + 15) := ⟨_, rfl⟩
  rw [← hQ, ha, lg_entry_eq]
  rw [ha] at hQ
  generalize (lg_sl ([.ref b, .int (iI (j : Int)), .long (lI N)]) ++ List.replicate (14 - (lg_sl ([.ref b, .int (iI (j : Int)), .long (lI N)])).length) Slot.unset).toArray = ls at hl ⊢
  generalize ([.ref b, .int (iI (j : Int)), .long (lI N)] : List Value).toArray = args at hQ ⊢
  have hts : ∀ w ∈ TW, w.before args s = true := fun w h => hT w h args
  have hl : lv_has ls 14 [(0, .ref b), (1, .int (iI (j : Int))), (2, .long (lI N))] := hl
  obtain ⟨A, hAe⟩ : ∃ A : Addr → Prop, A = (fun x => b ≤ x ∧ x < b + 15) := ⟨_, rfl⟩
  rw [← hAe] at hQ
  have hS : va_S A s.heap s.heap [] := va_S.rf
  have hP : va_P (kD K) vcl [(b, .inr (4, [.int (iI cd), .int (iI (wn : Int)), .ref (b + 1), .ref (b + 2), .ref (b + 3), .ref (b + 4), .ref (b + 5), .ref (b + 6), .ref (b + 7), .ref (b + 8), .ref (b + 9), .long (lI co), .ref (b + 10), .ref (b + 11), .int (iI ln), .int (iI cu), .int (iI (pn : Int)), .ref (b + 12), .int (iI bc), .ref (b + 13), .ref (b + 14)])), (b + 1, .inl (kI K, 12, .inl (iA ar))), (b + 2, .inl (kI K, 12, .inl (iA oc))), (b + 3, .inl (kI K, 12, .inl (iA lc))), (b + 4, .inl (kI K, 96, .inl (iA st))), (b + 5, .inl (kI K, 96, .inl (iA tk))), (b + 6, .inl (kI K, 10, .inl (iA wa))), (b + 7, .inl (kI K, 10, .inl (iA pk))), (b + 8, .inl (kL K, 40, .inr (.inl (lA mu)))), (b + 9, .inl (kL K, 40, .inr (.inl (lA pr)))), (b + 10, .inl (kI K, 4, .inl (iA (by_v x y z)))), (b + 11, .inl (kI K, 4, .inl (iA bs))), (b + 12, .inl (kI K, 10, .inl (iA le))), (b + 13, .inl (kI K, 10, .inl (iA bb))), (b + 14, .inl (kI K, 10, .inl (iA ld)))] s.heap := hB
  have hD : va_D A [(b, .inr (4, [.int (iI cd), .int (iI (wn : Int)), .ref (b + 1), .ref (b + 2), .ref (b + 3), .ref (b + 4), .ref (b + 5), .ref (b + 6), .ref (b + 7), .ref (b + 8), .ref (b + 9), .long (lI co), .ref (b + 10), .ref (b + 11), .int (iI ln), .int (iI cu), .int (iI (pn : Int)), .ref (b + 12), .int (iI bc), .ref (b + 13), .ref (b + 14)])), (b + 1, .inl (kI K, 12, .inl (iA ar))), (b + 2, .inl (kI K, 12, .inl (iA oc))), (b + 3, .inl (kI K, 12, .inl (iA lc))), (b + 4, .inl (kI K, 96, .inl (iA st))), (b + 5, .inl (kI K, 96, .inl (iA tk))), (b + 6, .inl (kI K, 10, .inl (iA wa))), (b + 7, .inl (kI K, 10, .inl (iA pk))), (b + 8, .inl (kL K, 40, .inr (.inl (lA mu)))), (b + 9, .inl (kL K, 40, .inr (.inl (lA pr)))), (b + 10, .inl (kI K, 4, .inl (iA (by_v x y z)))), (b + 11, .inl (kI K, 4, .inl (iA bs))), (b + 12, .inl (kI K, 10, .inl (iA le))), (b + 13, .inl (kI K, 10, .inl (iA bb))), (b + 14, .inl (kI K, 10, .inl (iA ld)))] := by rw [hAe]; exact va_D_of (by simp) (by simp <;> omega)
  have qv0 := hv 0
  have qv1 := hv 1
  have qv2 := hv 2
  have qv3 := hv 3
  have hmL := hmp L (by omega)
  have hco := by_I_bd hI
  refine lv_aload_n hx hb dM_tryLast_0 rfl (lv_at hl 0 rfl) ?_
  refine va_get (D := kD K) (ci := 4) (v := .ref (b + 7)) (C := RM) (T := FM) (N := 21) hx hb hts jnM hown hK hP 0 rfl rfl 8 (by decide) (hts _ mt_471) (fun _ h9 => h9) rfl dM_tryLast_1 ?_
  refine lv_iload_n hx hb dM_tryLast_4 rfl (lv_at hl 1 rfl) ?_
  refine iz_iald hx hb hK hP 7 rfl j rfl (by omega) (by omega) dM_tryLast_5 ?_
  refine iz_iconst hx hb dM_tryLast_6 ?_
  refine iz_isub hx hb dM_tryLast_7 ?_
  rw [show pk j - 1 = (L : Int) by omega]
  refine lv_istore (lv' := [(4, .int (iI (L : Int))), (0, .ref b), (1, .int (iI (j : Int))), (2, .long (lI N))]) hx hb dM_tryLast_8 hl (by decide) rfl (fun ls hl => ?_)
  refine lv_aload_n hx hb dM_tryLast_10 rfl (lv_at hl 1 rfl) ?_
  refine va_get (D := kD K) (ci := 4) (v := .ref (b + 10)) (C := RM) (T := FM) (N := 21) hx hb hts jnM hown hK hP 0 rfl rfl 12 (by decide) (hts _ mt_475) (fun _ h9 => h9) rfl dM_tryLast_11 ?_
  refine lv_iload hx hb dM_tryLast_14 (lv_at hl 0 rfl) ?_
  refine iz_iconst hx hb dM_tryLast_16 ?_
  refine iz_iast hx hb hK hP hD hS 10 rfl L rfl (by omega) (by omega) dM_tryLast_17 ?_
  clear hP hD hS
  intro H locs hP hD hS
  replace hP : va_P (kD K) vcl [(b, .inr (4, [.int (iI cd), .int (iI (wn : Int)), .ref (b + 1), .ref (b + 2), .ref (b + 3), .ref (b + 4), .ref (b + 5), .ref (b + 6), .ref (b + 7), .ref (b + 8), .ref (b + 9), .long (lI co), .ref (b + 10), .ref (b + 11), .int (iI ln), .int (iI cu), .int (iI (pn : Int)), .ref (b + 12), .int (iI bc), .ref (b + 13), .ref (b + 14)])), (b + 1, .inl (kI K, 12, .inl (iA ar))), (b + 2, .inl (kI K, 12, .inl (iA oc))), (b + 3, .inl (kI K, 12, .inl (iA lc))), (b + 4, .inl (kI K, 96, .inl (iA st))), (b + 5, .inl (kI K, 96, .inl (iA tk))), (b + 6, .inl (kI K, 10, .inl (iA wa))), (b + 7, .inl (kI K, 10, .inl (iA pk))), (b + 8, .inl (kL K, 40, .inr (.inl (lA mu)))), (b + 9, .inl (kL K, 40, .inr (.inl (lA pr)))), (b + 10, .inl (kI K, 4, .inl (iA (ut (by_v x y z) L 0)))), (b + 11, .inl (kI K, 4, .inl (iA bs))), (b + 12, .inl (kI K, 10, .inl (iA le))), (b + 13, .inl (kI K, 10, .inl (iA bb))), (b + 14, .inl (kI K, 10, .inl (iA ld)))] H := hP
  replace hD : va_D A [(b, .inr (4, [.int (iI cd), .int (iI (wn : Int)), .ref (b + 1), .ref (b + 2), .ref (b + 3), .ref (b + 4), .ref (b + 5), .ref (b + 6), .ref (b + 7), .ref (b + 8), .ref (b + 9), .long (lI co), .ref (b + 10), .ref (b + 11), .int (iI ln), .int (iI cu), .int (iI (pn : Int)), .ref (b + 12), .int (iI bc), .ref (b + 13), .ref (b + 14)])), (b + 1, .inl (kI K, 12, .inl (iA ar))), (b + 2, .inl (kI K, 12, .inl (iA oc))), (b + 3, .inl (kI K, 12, .inl (iA lc))), (b + 4, .inl (kI K, 96, .inl (iA st))), (b + 5, .inl (kI K, 96, .inl (iA tk))), (b + 6, .inl (kI K, 10, .inl (iA wa))), (b + 7, .inl (kI K, 10, .inl (iA pk))), (b + 8, .inl (kL K, 40, .inr (.inl (lA mu)))), (b + 9, .inl (kL K, 40, .inr (.inl (lA pr)))), (b + 10, .inl (kI K, 4, .inl (iA (ut (by_v x y z) L 0)))), (b + 11, .inl (kI K, 4, .inl (iA bs))), (b + 12, .inl (kI K, 10, .inl (iA le))), (b + 13, .inl (kI K, 10, .inl (iA bb))), (b + 14, .inl (kI K, 10, .inl (iA ld)))] := hD
  rw [ut_id _ _ (hz L (Nat.le_refl _) hL)] at hP hD
  have loop : ∀ (n i : Nat) (ha ow : Int), L + 1 ≤ i + n → i ≤ L → ha = py_co (fun i => mu (4 * j + i)) (by_v x y z) 0 i → ow = py_co (fun i => pr (4 * j + i)) (by_v x y z) 0 i → ∀ ls : Array Slot, lv_has ls 14 [(0, .ref b), (1, .int (iI (j : Int))), (2, .long (lI N)), (4, .int (iI (L : Int))), (5, .long (lI ha)), (7, .long (lI ow)), (9, .int (iI (i : Int)))] → W p l e rmM_tryLast s m args below meth c H locs 0 0 Q (F0 m 27 ls []) := by
    intro n
    induction n with
    | zero => intro i ha ow h1 h2; omega
    | succ n ih =>
      intro i ha ow h1 h2 hha how ls hl
      refine lv_iload hx hb dM_tryLast_27 (lv_at hl 6 rfl) ?_
      refine lv_iload hx hb dM_tryLast_29 (lv_at hl 3 rfl) ?_
      refine iz_icmp_ge (tgt := 90) hx hb ⟨by omega, by omega⟩ ⟨by omega, by omega⟩ dM_tryLast_31 (by decide) (fun g1 => ?_) (fun g1 => ?_)
      · have e : L = i := by omega
        subst e
        have hha9 : 0 ≤ ha ∧ ha ≤ 240000000000 := by
          have hb : ∀ i, 0 ≤ i → i < 0 + L → 0 ≤ (by_v x y z) i * mu (4 * j + i) ∧ (by_v x y z) i * mu (4 * j + i) ≤ 60000000000 := fun i _ hi => by have q1 := hv i; have q2 := hmp i (by omega); have q3 := mul_bd q1.1 q1.2 (show 0 ≤ mu (4 * j + i) by omega) q2.1.2; omega
          rw [hha]
          unfold py_co
          refine ⟨sm_nn L 0 (fun i a b => (hb i a b).1), ?_⟩
          have h9 := sm_le (f := fun i => (by_v x y z) i * mu (4 * j + i)) (g := fun _ => 60000000000) L 0 (fun i a b => (hb i a b).2)
          rw [sm_const] at h9
          exact Int.le_trans h9 (by omega)
        have tail : ∀ mo : Int, mo = by_mo (fun i => mu (4 * j + i)) L N (by_v x y z) → ∀ ls : Array Slot, lv_has ls 14 [(0, .ref b), (1, .int (iI (j : Int))), (2, .long (lI N)), (4, .int (iI (L : Int))), (7, .long (lI ow))] → W p l e rmM_tryLast s m args below meth c H locs 0 0 Q (F0 m 126 ls [.long (lI mo)]) := by
          intro mo hmo ls hl
          have hmo9 : 0 ≤ mo ∧ mo ≤ 100000000000 := by
            rw [hmo]
            refine ⟨by_mo_nn (show 1 ≤ mu (4 * j + L) by omega), ?_⟩
            unfold by_mo
            rw [← hha]
            split
            · omega
            · exact Int.le_trans (cdiv_bd (show 0 < mu (4 * j + L) by omega) (by omega)).2 (by omega)
          have hca : ut (by_v x y z) L mo = by_ca (fun i => mu (4 * j + i)) L N (by_v x y z) := by rw [hmo]; rfl
          have hsm : sm (by_ca (fun i => mu (4 * j + i)) L N (by_v x y z)) 0 4 = by_v x y z 0 + by_v x y z 1 + by_v x y z 2 + by_v x y z 3 + mo := by rw [by_sm hL (hz L (Nat.le_refl _) hL), sm4, ← hmo]
          refine lv_lstore (lv' := [(11, .long (lI mo)), (0, .ref b), (1, .int (iI (j : Int))), (2, .long (lI N)), (4, .int (iI (L : Int))), (7, .long (lI ow))]) hx hb dM_tryLast_126 hl (by decide) rfl (fun ls hl => ?_)
          refine lv_lload hx hb dM_tryLast_128 (lv_at hl 0 rfl) ?_
          refine lv_aload_n hx hb dM_tryLast_130 rfl (lv_at hl 1 rfl) ?_
          refine va_get (D := kD K) (ci := 4) (v := .ref (b + 10)) (C := RM) (T := FM) (N := 21) hx hb hts jnM hown hK hP 0 rfl rfl 12 (by decide) (hts _ mt_475) (fun _ h9 => h9) rfl dM_tryLast_131 ?_
          refine ctS (n := 1) hx hb hml hown hT ⟨c_M_together l K (b + 10) (by_v x y z), ⟨_, _, _, Or.inl ⟨rfl, rfl⟩⟩, mt_597, mt_5, by decide, by decide +kernel, by decide, by decide, by decide, by decide⟩ PC.blind mt_595 mt_596 (As := [.ref (b + 10)]) (rest := [.long (lI mo)]) rfl (PC.at ⟨hT, hK⟩ (va_P_one hP 10 rfl)) hl.1 rfl (Nat.le_of_ble_eq_true rfl) dM_tryLast_134 (krI0 rfl rfl (fun _ h => h) (fun r hr9 => ?_))
          subst hr9
          refine iz_i2l hx hb ⟨by omega, by omega⟩ dM_tryLast_137 ?_
          refine iz_ladd hx hb dM_tryLast_138 ?_
          refine iz_ldc2 hx hb (60) (by decide) hown (hts _ mt_598) dM_tryLast_139 ?_
          refine iz_lc_le (tgt := 147) hx hb ⟨by omega, by omega⟩ ⟨by omega, by omega⟩ dM_tryLast_142 dM_tryLast_143 (by decide) (fun g2 => ?_) (fun g2 => ?_)
          · have hown9 : ow + mo * pr (4 * j + L) = py_co (fun i => pr (4 * j + i)) (by_ca (fun i => mu (4 * j + i)) L N (by_v x y z)) 0 (L + 1) := by rw [by_co, ← hmo, how]
            have hF9 : py_F (fun i => mu (4 * j + i)) 0 (L + 1) N 0 (by_ca (fun i => mu (4 * j + i)) L N (by_v x y z)) := by_F hL (show 1 ≤ mu (4 * j + L) by omega) (fun i => (hv i).1) hz (by omega)
            have hob : 0 ≤ ow + mo * pr (4 * j + L) ∧ ow + mo * pr (4 * j + L) ≤ 6000000 := by
              rw [hown9]
              refine ⟨sm_nn (L + 1) 0 (fun i a b => Int.mul_nonneg (hF9.1 i a b) (show 0 ≤ pr (4 * j + i) by have := hmp i (by omega); omega)), py_cost_le (fun i hi => (hmp i hi).2.2) hF9⟩
            have hcb : (∀ i, i < 4 → 0 ≤ (ut (by_v x y z) L mo) i ∧ (ut (by_v x y z) L mo) i ≤ 60) := by
              intro i hi
              by_cases e : i = L
              · subst e; rw [ut_s]; omega
              · rw [ut_n _ _ e]; exact hv i
            refine lv_aload_n hx hb dM_tryLast_147 rfl (lv_at hl 1 rfl) ?_
            refine va_get (D := kD K) (ci := 4) (v := .ref (b + 10)) (C := RM) (T := FM) (N := 21) hx hb hts jnM hown hK hP 0 rfl rfl 12 (by decide) (hts _ mt_475) (fun _ h9 => h9) rfl dM_tryLast_148 ?_
            refine lv_iload hx hb dM_tryLast_151 (lv_at hl 4 rfl) ?_
            refine lv_lload hx hb dM_tryLast_153 (lv_at hl 0 rfl) ?_
            refine iz_l2i hx hb dM_tryLast_155 ?_
            refine iz_iast hx hb hK hP hD hS 10 rfl L rfl (by omega) (by omega) dM_tryLast_156 ?_
            clear hP hD hS
            intro H locs hP hD hS
            replace hP : va_P (kD K) vcl [(b, .inr (4, [.int (iI cd), .int (iI (wn : Int)), .ref (b + 1), .ref (b + 2), .ref (b + 3), .ref (b + 4), .ref (b + 5), .ref (b + 6), .ref (b + 7), .ref (b + 8), .ref (b + 9), .long (lI co), .ref (b + 10), .ref (b + 11), .int (iI ln), .int (iI cu), .int (iI (pn : Int)), .ref (b + 12), .int (iI bc), .ref (b + 13), .ref (b + 14)])), (b + 1, .inl (kI K, 12, .inl (iA ar))), (b + 2, .inl (kI K, 12, .inl (iA oc))), (b + 3, .inl (kI K, 12, .inl (iA lc))), (b + 4, .inl (kI K, 96, .inl (iA st))), (b + 5, .inl (kI K, 96, .inl (iA tk))), (b + 6, .inl (kI K, 10, .inl (iA wa))), (b + 7, .inl (kI K, 10, .inl (iA pk))), (b + 8, .inl (kL K, 40, .inr (.inl (lA mu)))), (b + 9, .inl (kL K, 40, .inr (.inl (lA pr)))), (b + 10, .inl (kI K, 4, .inl (iA (ut (by_v x y z) L mo)))), (b + 11, .inl (kI K, 4, .inl (iA bs))), (b + 12, .inl (kI K, 10, .inl (iA le))), (b + 13, .inl (kI K, 10, .inl (iA bb))), (b + 14, .inl (kI K, 10, .inl (iA ld)))] H := hP
            replace hD : va_D A [(b, .inr (4, [.int (iI cd), .int (iI (wn : Int)), .ref (b + 1), .ref (b + 2), .ref (b + 3), .ref (b + 4), .ref (b + 5), .ref (b + 6), .ref (b + 7), .ref (b + 8), .ref (b + 9), .long (lI co), .ref (b + 10), .ref (b + 11), .int (iI ln), .int (iI cu), .int (iI (pn : Int)), .ref (b + 12), .int (iI bc), .ref (b + 13), .ref (b + 14)])), (b + 1, .inl (kI K, 12, .inl (iA ar))), (b + 2, .inl (kI K, 12, .inl (iA oc))), (b + 3, .inl (kI K, 12, .inl (iA lc))), (b + 4, .inl (kI K, 96, .inl (iA st))), (b + 5, .inl (kI K, 96, .inl (iA tk))), (b + 6, .inl (kI K, 10, .inl (iA wa))), (b + 7, .inl (kI K, 10, .inl (iA pk))), (b + 8, .inl (kL K, 40, .inr (.inl (lA mu)))), (b + 9, .inl (kL K, 40, .inr (.inl (lA pr)))), (b + 10, .inl (kI K, 4, .inl (iA (ut (by_v x y z) L mo)))), (b + 11, .inl (kI K, 4, .inl (iA bs))), (b + 12, .inl (kI K, 10, .inl (iA le))), (b + 13, .inl (kI K, 10, .inl (iA bb))), (b + 14, .inl (kI K, 10, .inl (iA ld)))] := hD
            refine lv_lload hx hb dM_tryLast_157 (lv_at hl 5 rfl) ?_
            refine lv_lload hx hb dM_tryLast_159 (lv_at hl 0 rfl) ?_
            refine lv_aload_n hx hb dM_tryLast_161 rfl (lv_at hl 1 rfl) ?_
            refine va_get (D := kD K) (ci := 4) (v := .ref (b + 9)) (C := RM) (T := FM) (N := 21) hx hb hts jnM hown hK hP 0 rfl rfl 10 (by decide) (hts _ mt_473) (fun _ h9 => h9) rfl dM_tryLast_162 ?_
            refine iz_iconst hx hb dM_tryLast_165 ?_
            refine lv_iload_n hx hb dM_tryLast_166 rfl (lv_at hl 2 rfl) ?_
            refine iz_imul hx hb dM_tryLast_167 ?_
            refine lv_iload hx hb dM_tryLast_168 (lv_at hl 4 rfl) ?_
            refine iz_iadd hx hb dM_tryLast_170 ?_
            refine iz_lald hx hb hK hP 9 rfl (4 * j + L) (by omega) (by omega) (by omega) dM_tryLast_171 ?_
            refine iz_lmul hx hb dM_tryLast_172 ?_
            refine iz_ladd hx hb dM_tryLast_173 ?_
            refine lv_lstore (lv' := [(7, .long (lI (ow + (mo * (pr (4 * j + L)))))), (11, .long (lI mo)), (0, .ref b), (1, .int (iI (j : Int))), (2, .long (lI N)), (4, .int (iI (L : Int)))]) hx hb dM_tryLast_174 hl (by decide) rfl (fun ls hl => ?_)
            refine lv_aload_n hx hb dM_tryLast_176 rfl (lv_at hl 2 rfl) ?_
            refine lv_lload hx hb dM_tryLast_177 (lv_at hl 0 rfl) ?_
            refine ctV (n := 1) hx hb hml hown hT ⟨c_M_isBetter l K b cd wn ar oc lc st tk wa pk mu pr co (ut (by_v x y z) L mo) bs ln cu pn le bc bb ld (ow + mo * pr (4 * j + L)) hob hco hcb hbs, ⟨_, _, _, Or.inl ⟨rfl, rfl⟩⟩, mt_602, mt_5, by decide, by decide +kernel, by decide, by decide, by decide, by decide⟩ PC.blind mt_599 mt_601 ms_26 (va_RVof (ci := 4) (q0 := 0) hK hP rfl rfl) (As := [.long (lI (ow + (mo * (pr (4 * j + L)))))]) (rest := []) rfl (PC.at ⟨hT, hK⟩ hP) hl.1 rfl (Nat.le_of_ble_eq_true rfl) dM_tryLast_179 (krI0 rfl rfl (fun _ h => h) (fun r hb9 => ?_))
            rcases hb9 with ⟨rfl, hb9⟩ | ⟨rfl, hb9⟩
            · rw [hca] at hb9
              refine iz_if_eq (tgt := 220) hx hb ⟨by omega, by omega⟩ dM_tryLast_182 (by decide) (fun g => absurd g (by decide)) (fun _ => ?_)
              refine lv_aload_n hx hb dM_tryLast_185 rfl (lv_at hl 2 rfl) ?_
              refine lv_lload hx hb dM_tryLast_186 (lv_at hl 0 rfl) ?_
              refine va_put (D := kD K) (ci := 4) (v := .long (lI (ow + (mo * (pr (4 * j + L)))))) (ty := .long) (C := RM) (T := FM) (N := 21) hx hb hts jnM tM tM_ok nM hown hK hP hD hS 0 rfl rfl 11 (by decide) (hts _ mt_474) (fun _ h9 => h9) rfl (by decide +kernel) rfl rfl (Nat.le_of_ble_eq_true rfl) dM_tryLast_188 ?_
              clear hP hD hS
              intro H locs hP hD hS
              replace hP : va_P (kD K) vcl [(b, .inr (4, [.int (iI cd), .int (iI (wn : Int)), .ref (b + 1), .ref (b + 2), .ref (b + 3), .ref (b + 4), .ref (b + 5), .ref (b + 6), .ref (b + 7), .ref (b + 8), .ref (b + 9), .long (lI (ow + (mo * (pr (4 * j + L))))), .ref (b + 10), .ref (b + 11), .int (iI ln), .int (iI cu), .int (iI (pn : Int)), .ref (b + 12), .int (iI bc), .ref (b + 13), .ref (b + 14)])), (b + 1, .inl (kI K, 12, .inl (iA ar))), (b + 2, .inl (kI K, 12, .inl (iA oc))), (b + 3, .inl (kI K, 12, .inl (iA lc))), (b + 4, .inl (kI K, 96, .inl (iA st))), (b + 5, .inl (kI K, 96, .inl (iA tk))), (b + 6, .inl (kI K, 10, .inl (iA wa))), (b + 7, .inl (kI K, 10, .inl (iA pk))), (b + 8, .inl (kL K, 40, .inr (.inl (lA mu)))), (b + 9, .inl (kL K, 40, .inr (.inl (lA pr)))), (b + 10, .inl (kI K, 4, .inl (iA (ut (by_v x y z) L mo)))), (b + 11, .inl (kI K, 4, .inl (iA bs))), (b + 12, .inl (kI K, 10, .inl (iA le))), (b + 13, .inl (kI K, 10, .inl (iA bb))), (b + 14, .inl (kI K, 10, .inl (iA ld)))] H := hP
              replace hD : va_D A [(b, .inr (4, [.int (iI cd), .int (iI (wn : Int)), .ref (b + 1), .ref (b + 2), .ref (b + 3), .ref (b + 4), .ref (b + 5), .ref (b + 6), .ref (b + 7), .ref (b + 8), .ref (b + 9), .long (lI (ow + (mo * (pr (4 * j + L))))), .ref (b + 10), .ref (b + 11), .int (iI ln), .int (iI cu), .int (iI (pn : Int)), .ref (b + 12), .int (iI bc), .ref (b + 13), .ref (b + 14)])), (b + 1, .inl (kI K, 12, .inl (iA ar))), (b + 2, .inl (kI K, 12, .inl (iA oc))), (b + 3, .inl (kI K, 12, .inl (iA lc))), (b + 4, .inl (kI K, 96, .inl (iA st))), (b + 5, .inl (kI K, 96, .inl (iA tk))), (b + 6, .inl (kI K, 10, .inl (iA wa))), (b + 7, .inl (kI K, 10, .inl (iA pk))), (b + 8, .inl (kL K, 40, .inr (.inl (lA mu)))), (b + 9, .inl (kL K, 40, .inr (.inl (lA pr)))), (b + 10, .inl (kI K, 4, .inl (iA (ut (by_v x y z) L mo)))), (b + 11, .inl (kI K, 4, .inl (iA bs))), (b + 12, .inl (kI K, 10, .inl (iA le))), (b + 13, .inl (kI K, 10, .inl (iA bb))), (b + 14, .inl (kI K, 10, .inl (iA ld)))] := hD
              refine iz_iconst hx hb dM_tryLast_191 ?_
              refine lv_istore (lv' := [(13, .int (iI 0)), (7, .long (lI (ow + (mo * (pr (4 * j + L)))))), (11, .long (lI mo)), (0, .ref b), (1, .int (iI (j : Int))), (2, .long (lI N)), (4, .int (iI (L : Int)))]) hx hb dM_tryLast_192 hl (by decide) rfl (fun ls hl => ?_)
              refine lv_iload hx hb dM_tryLast_194 (lv_at hl 0 rfl) ?_
              refine iz_iconst hx hb dM_tryLast_196 ?_
              refine iz_icmp_ge (tgt := 220) hx hb ⟨by omega, by omega⟩ ⟨by omega, by omega⟩ dM_tryLast_197 (by decide) (fun g => absurd g (by decide)) (fun _ => ?_)
              refine lv_aload_n hx hb dM_tryLast_200 rfl (lv_at hl 3 rfl) ?_
              refine va_get (D := kD K) (ci := 4) (v := .ref (b + 11)) (C := RM) (T := FM) (N := 21) hx hb hts jnM hown hK hP 0 rfl rfl 13 (by decide) (hts _ mt_476) (fun _ h9 => h9) rfl dM_tryLast_201 ?_
              refine lv_iload hx hb dM_tryLast_204 (lv_at hl 0 rfl) ?_
              refine lv_aload_n hx hb dM_tryLast_206 rfl (lv_at hl 3 rfl) ?_
              refine va_get (D := kD K) (ci := 4) (v := .ref (b + 10)) (C := RM) (T := FM) (N := 21) hx hb hts jnM hown hK hP 0 rfl rfl 12 (by decide) (hts _ mt_475) (fun _ h9 => h9) rfl dM_tryLast_207 ?_
              refine lv_iload hx hb dM_tryLast_210 (lv_at hl 0 rfl) ?_
              refine iz_iald hx hb hK hP 10 rfl 0 rfl (by omega) (by omega) dM_tryLast_212 ?_
              refine iz_iast hx hb hK hP hD hS 11 rfl 0 rfl (by omega) (by omega) dM_tryLast_213 ?_
              clear hP hD hS
              intro H locs hP hD hS
              replace hP : va_P (kD K) vcl [(b, .inr (4, [.int (iI cd), .int (iI (wn : Int)), .ref (b + 1), .ref (b + 2), .ref (b + 3), .ref (b + 4), .ref (b + 5), .ref (b + 6), .ref (b + 7), .ref (b + 8), .ref (b + 9), .long (lI (ow + (mo * (pr (4 * j + L))))), .ref (b + 10), .ref (b + 11), .int (iI ln), .int (iI cu), .int (iI (pn : Int)), .ref (b + 12), .int (iI bc), .ref (b + 13), .ref (b + 14)])), (b + 1, .inl (kI K, 12, .inl (iA ar))), (b + 2, .inl (kI K, 12, .inl (iA oc))), (b + 3, .inl (kI K, 12, .inl (iA lc))), (b + 4, .inl (kI K, 96, .inl (iA st))), (b + 5, .inl (kI K, 96, .inl (iA tk))), (b + 6, .inl (kI K, 10, .inl (iA wa))), (b + 7, .inl (kI K, 10, .inl (iA pk))), (b + 8, .inl (kL K, 40, .inr (.inl (lA mu)))), (b + 9, .inl (kL K, 40, .inr (.inl (lA pr)))), (b + 10, .inl (kI K, 4, .inl (iA (ut (by_v x y z) L mo)))), (b + 11, .inl (kI K, 4, .inl (iA (ut bs 0 ((ut (by_v x y z) L mo) 0))))), (b + 12, .inl (kI K, 10, .inl (iA le))), (b + 13, .inl (kI K, 10, .inl (iA bb))), (b + 14, .inl (kI K, 10, .inl (iA ld)))] H := hP
              replace hD : va_D A [(b, .inr (4, [.int (iI cd), .int (iI (wn : Int)), .ref (b + 1), .ref (b + 2), .ref (b + 3), .ref (b + 4), .ref (b + 5), .ref (b + 6), .ref (b + 7), .ref (b + 8), .ref (b + 9), .long (lI (ow + (mo * (pr (4 * j + L))))), .ref (b + 10), .ref (b + 11), .int (iI ln), .int (iI cu), .int (iI (pn : Int)), .ref (b + 12), .int (iI bc), .ref (b + 13), .ref (b + 14)])), (b + 1, .inl (kI K, 12, .inl (iA ar))), (b + 2, .inl (kI K, 12, .inl (iA oc))), (b + 3, .inl (kI K, 12, .inl (iA lc))), (b + 4, .inl (kI K, 96, .inl (iA st))), (b + 5, .inl (kI K, 96, .inl (iA tk))), (b + 6, .inl (kI K, 10, .inl (iA wa))), (b + 7, .inl (kI K, 10, .inl (iA pk))), (b + 8, .inl (kL K, 40, .inr (.inl (lA mu)))), (b + 9, .inl (kL K, 40, .inr (.inl (lA pr)))), (b + 10, .inl (kI K, 4, .inl (iA (ut (by_v x y z) L mo)))), (b + 11, .inl (kI K, 4, .inl (iA (ut bs 0 ((ut (by_v x y z) L mo) 0))))), (b + 12, .inl (kI K, 10, .inl (iA le))), (b + 13, .inl (kI K, 10, .inl (iA bb))), (b + 14, .inl (kI K, 10, .inl (iA ld)))] := hD
              refine iz_iinc (k := 0) (lv' := [(13, .int (iI 1)), (7, .long (lI (ow + (mo * (pr (4 * j + L)))))), (11, .long (lI mo)), (0, .ref b), (1, .int (iI (j : Int))), (2, .long (lI N)), (4, .int (iI (L : Int)))]) hx hb dM_tryLast_214 hl rfl (by decide) rfl (fun ls hl => ?_)
              refine lv_goto (tgt := 194) hx hb dM_tryLast_217 (by decide) ?_
              refine lv_iload hx hb dM_tryLast_194 (lv_at hl 0 rfl) ?_
              refine iz_iconst hx hb dM_tryLast_196 ?_
              refine iz_icmp_ge (tgt := 220) hx hb ⟨by omega, by omega⟩ ⟨by omega, by omega⟩ dM_tryLast_197 (by decide) (fun g => absurd g (by decide)) (fun _ => ?_)
              refine lv_aload_n hx hb dM_tryLast_200 rfl (lv_at hl 3 rfl) ?_
              refine va_get (D := kD K) (ci := 4) (v := .ref (b + 11)) (C := RM) (T := FM) (N := 21) hx hb hts jnM hown hK hP 0 rfl rfl 13 (by decide) (hts _ mt_476) (fun _ h9 => h9) rfl dM_tryLast_201 ?_
              refine lv_iload hx hb dM_tryLast_204 (lv_at hl 0 rfl) ?_
              refine lv_aload_n hx hb dM_tryLast_206 rfl (lv_at hl 3 rfl) ?_
              refine va_get (D := kD K) (ci := 4) (v := .ref (b + 10)) (C := RM) (T := FM) (N := 21) hx hb hts jnM hown hK hP 0 rfl rfl 12 (by decide) (hts _ mt_475) (fun _ h9 => h9) rfl dM_tryLast_207 ?_
              refine lv_iload hx hb dM_tryLast_210 (lv_at hl 0 rfl) ?_
              refine iz_iald hx hb hK hP 10 rfl 1 rfl (by omega) (by omega) dM_tryLast_212 ?_
              refine iz_iast hx hb hK hP hD hS 11 rfl 1 rfl (by omega) (by omega) dM_tryLast_213 ?_
              clear hP hD hS
              intro H locs hP hD hS
              replace hP : va_P (kD K) vcl [(b, .inr (4, [.int (iI cd), .int (iI (wn : Int)), .ref (b + 1), .ref (b + 2), .ref (b + 3), .ref (b + 4), .ref (b + 5), .ref (b + 6), .ref (b + 7), .ref (b + 8), .ref (b + 9), .long (lI (ow + (mo * (pr (4 * j + L))))), .ref (b + 10), .ref (b + 11), .int (iI ln), .int (iI cu), .int (iI (pn : Int)), .ref (b + 12), .int (iI bc), .ref (b + 13), .ref (b + 14)])), (b + 1, .inl (kI K, 12, .inl (iA ar))), (b + 2, .inl (kI K, 12, .inl (iA oc))), (b + 3, .inl (kI K, 12, .inl (iA lc))), (b + 4, .inl (kI K, 96, .inl (iA st))), (b + 5, .inl (kI K, 96, .inl (iA tk))), (b + 6, .inl (kI K, 10, .inl (iA wa))), (b + 7, .inl (kI K, 10, .inl (iA pk))), (b + 8, .inl (kL K, 40, .inr (.inl (lA mu)))), (b + 9, .inl (kL K, 40, .inr (.inl (lA pr)))), (b + 10, .inl (kI K, 4, .inl (iA (ut (by_v x y z) L mo)))), (b + 11, .inl (kI K, 4, .inl (iA (ut (ut bs 0 ((ut (by_v x y z) L mo) 0)) 1 ((ut (by_v x y z) L mo) 1))))), (b + 12, .inl (kI K, 10, .inl (iA le))), (b + 13, .inl (kI K, 10, .inl (iA bb))), (b + 14, .inl (kI K, 10, .inl (iA ld)))] H := hP
              replace hD : va_D A [(b, .inr (4, [.int (iI cd), .int (iI (wn : Int)), .ref (b + 1), .ref (b + 2), .ref (b + 3), .ref (b + 4), .ref (b + 5), .ref (b + 6), .ref (b + 7), .ref (b + 8), .ref (b + 9), .long (lI (ow + (mo * (pr (4 * j + L))))), .ref (b + 10), .ref (b + 11), .int (iI ln), .int (iI cu), .int (iI (pn : Int)), .ref (b + 12), .int (iI bc), .ref (b + 13), .ref (b + 14)])), (b + 1, .inl (kI K, 12, .inl (iA ar))), (b + 2, .inl (kI K, 12, .inl (iA oc))), (b + 3, .inl (kI K, 12, .inl (iA lc))), (b + 4, .inl (kI K, 96, .inl (iA st))), (b + 5, .inl (kI K, 96, .inl (iA tk))), (b + 6, .inl (kI K, 10, .inl (iA wa))), (b + 7, .inl (kI K, 10, .inl (iA pk))), (b + 8, .inl (kL K, 40, .inr (.inl (lA mu)))), (b + 9, .inl (kL K, 40, .inr (.inl (lA pr)))), (b + 10, .inl (kI K, 4, .inl (iA (ut (by_v x y z) L mo)))), (b + 11, .inl (kI K, 4, .inl (iA (ut (ut bs 0 ((ut (by_v x y z) L mo) 0)) 1 ((ut (by_v x y z) L mo) 1))))), (b + 12, .inl (kI K, 10, .inl (iA le))), (b + 13, .inl (kI K, 10, .inl (iA bb))), (b + 14, .inl (kI K, 10, .inl (iA ld)))] := hD
              refine iz_iinc (k := 0) (lv' := [(13, .int (iI 2)), (7, .long (lI (ow + (mo * (pr (4 * j + L)))))), (11, .long (lI mo)), (0, .ref b), (1, .int (iI (j : Int))), (2, .long (lI N)), (4, .int (iI (L : Int)))]) hx hb dM_tryLast_214 hl rfl (by decide) rfl (fun ls hl => ?_)
              refine lv_goto (tgt := 194) hx hb dM_tryLast_217 (by decide) ?_
              refine lv_iload hx hb dM_tryLast_194 (lv_at hl 0 rfl) ?_
              refine iz_iconst hx hb dM_tryLast_196 ?_
              refine iz_icmp_ge (tgt := 220) hx hb ⟨by omega, by omega⟩ ⟨by omega, by omega⟩ dM_tryLast_197 (by decide) (fun g => absurd g (by decide)) (fun _ => ?_)
              refine lv_aload_n hx hb dM_tryLast_200 rfl (lv_at hl 3 rfl) ?_
              refine va_get (D := kD K) (ci := 4) (v := .ref (b + 11)) (C := RM) (T := FM) (N := 21) hx hb hts jnM hown hK hP 0 rfl rfl 13 (by decide) (hts _ mt_476) (fun _ h9 => h9) rfl dM_tryLast_201 ?_
              refine lv_iload hx hb dM_tryLast_204 (lv_at hl 0 rfl) ?_
              refine lv_aload_n hx hb dM_tryLast_206 rfl (lv_at hl 3 rfl) ?_
              refine va_get (D := kD K) (ci := 4) (v := .ref (b + 10)) (C := RM) (T := FM) (N := 21) hx hb hts jnM hown hK hP 0 rfl rfl 12 (by decide) (hts _ mt_475) (fun _ h9 => h9) rfl dM_tryLast_207 ?_
              refine lv_iload hx hb dM_tryLast_210 (lv_at hl 0 rfl) ?_
              refine iz_iald hx hb hK hP 10 rfl 2 rfl (by omega) (by omega) dM_tryLast_212 ?_
              refine iz_iast hx hb hK hP hD hS 11 rfl 2 rfl (by omega) (by omega) dM_tryLast_213 ?_
              clear hP hD hS
              intro H locs hP hD hS
              replace hP : va_P (kD K) vcl [(b, .inr (4, [.int (iI cd), .int (iI (wn : Int)), .ref (b + 1), .ref (b + 2), .ref (b + 3), .ref (b + 4), .ref (b + 5), .ref (b + 6), .ref (b + 7), .ref (b + 8), .ref (b + 9), .long (lI (ow + (mo * (pr (4 * j + L))))), .ref (b + 10), .ref (b + 11), .int (iI ln), .int (iI cu), .int (iI (pn : Int)), .ref (b + 12), .int (iI bc), .ref (b + 13), .ref (b + 14)])), (b + 1, .inl (kI K, 12, .inl (iA ar))), (b + 2, .inl (kI K, 12, .inl (iA oc))), (b + 3, .inl (kI K, 12, .inl (iA lc))), (b + 4, .inl (kI K, 96, .inl (iA st))), (b + 5, .inl (kI K, 96, .inl (iA tk))), (b + 6, .inl (kI K, 10, .inl (iA wa))), (b + 7, .inl (kI K, 10, .inl (iA pk))), (b + 8, .inl (kL K, 40, .inr (.inl (lA mu)))), (b + 9, .inl (kL K, 40, .inr (.inl (lA pr)))), (b + 10, .inl (kI K, 4, .inl (iA (ut (by_v x y z) L mo)))), (b + 11, .inl (kI K, 4, .inl (iA (ut (ut (ut bs 0 ((ut (by_v x y z) L mo) 0)) 1 ((ut (by_v x y z) L mo) 1)) 2 ((ut (by_v x y z) L mo) 2))))), (b + 12, .inl (kI K, 10, .inl (iA le))), (b + 13, .inl (kI K, 10, .inl (iA bb))), (b + 14, .inl (kI K, 10, .inl (iA ld)))] H := hP
              replace hD : va_D A [(b, .inr (4, [.int (iI cd), .int (iI (wn : Int)), .ref (b + 1), .ref (b + 2), .ref (b + 3), .ref (b + 4), .ref (b + 5), .ref (b + 6), .ref (b + 7), .ref (b + 8), .ref (b + 9), .long (lI (ow + (mo * (pr (4 * j + L))))), .ref (b + 10), .ref (b + 11), .int (iI ln), .int (iI cu), .int (iI (pn : Int)), .ref (b + 12), .int (iI bc), .ref (b + 13), .ref (b + 14)])), (b + 1, .inl (kI K, 12, .inl (iA ar))), (b + 2, .inl (kI K, 12, .inl (iA oc))), (b + 3, .inl (kI K, 12, .inl (iA lc))), (b + 4, .inl (kI K, 96, .inl (iA st))), (b + 5, .inl (kI K, 96, .inl (iA tk))), (b + 6, .inl (kI K, 10, .inl (iA wa))), (b + 7, .inl (kI K, 10, .inl (iA pk))), (b + 8, .inl (kL K, 40, .inr (.inl (lA mu)))), (b + 9, .inl (kL K, 40, .inr (.inl (lA pr)))), (b + 10, .inl (kI K, 4, .inl (iA (ut (by_v x y z) L mo)))), (b + 11, .inl (kI K, 4, .inl (iA (ut (ut (ut bs 0 ((ut (by_v x y z) L mo) 0)) 1 ((ut (by_v x y z) L mo) 1)) 2 ((ut (by_v x y z) L mo) 2))))), (b + 12, .inl (kI K, 10, .inl (iA le))), (b + 13, .inl (kI K, 10, .inl (iA bb))), (b + 14, .inl (kI K, 10, .inl (iA ld)))] := hD
              refine iz_iinc (k := 0) (lv' := [(13, .int (iI 3)), (7, .long (lI (ow + (mo * (pr (4 * j + L)))))), (11, .long (lI mo)), (0, .ref b), (1, .int (iI (j : Int))), (2, .long (lI N)), (4, .int (iI (L : Int)))]) hx hb dM_tryLast_214 hl rfl (by decide) rfl (fun ls hl => ?_)
              refine lv_goto (tgt := 194) hx hb dM_tryLast_217 (by decide) ?_
              refine lv_iload hx hb dM_tryLast_194 (lv_at hl 0 rfl) ?_
              refine iz_iconst hx hb dM_tryLast_196 ?_
              refine iz_icmp_ge (tgt := 220) hx hb ⟨by omega, by omega⟩ ⟨by omega, by omega⟩ dM_tryLast_197 (by decide) (fun g => absurd g (by decide)) (fun _ => ?_)
              refine lv_aload_n hx hb dM_tryLast_200 rfl (lv_at hl 3 rfl) ?_
              refine va_get (D := kD K) (ci := 4) (v := .ref (b + 11)) (C := RM) (T := FM) (N := 21) hx hb hts jnM hown hK hP 0 rfl rfl 13 (by decide) (hts _ mt_476) (fun _ h9 => h9) rfl dM_tryLast_201 ?_
              refine lv_iload hx hb dM_tryLast_204 (lv_at hl 0 rfl) ?_
              refine lv_aload_n hx hb dM_tryLast_206 rfl (lv_at hl 3 rfl) ?_
              refine va_get (D := kD K) (ci := 4) (v := .ref (b + 10)) (C := RM) (T := FM) (N := 21) hx hb hts jnM hown hK hP 0 rfl rfl 12 (by decide) (hts _ mt_475) (fun _ h9 => h9) rfl dM_tryLast_207 ?_
              refine lv_iload hx hb dM_tryLast_210 (lv_at hl 0 rfl) ?_
              refine iz_iald hx hb hK hP 10 rfl 3 rfl (by omega) (by omega) dM_tryLast_212 ?_
              refine iz_iast hx hb hK hP hD hS 11 rfl 3 rfl (by omega) (by omega) dM_tryLast_213 ?_
              clear hP hD hS
              intro H locs hP hD hS
              replace hP : va_P (kD K) vcl [(b, .inr (4, [.int (iI cd), .int (iI (wn : Int)), .ref (b + 1), .ref (b + 2), .ref (b + 3), .ref (b + 4), .ref (b + 5), .ref (b + 6), .ref (b + 7), .ref (b + 8), .ref (b + 9), .long (lI (ow + (mo * (pr (4 * j + L))))), .ref (b + 10), .ref (b + 11), .int (iI ln), .int (iI cu), .int (iI (pn : Int)), .ref (b + 12), .int (iI bc), .ref (b + 13), .ref (b + 14)])), (b + 1, .inl (kI K, 12, .inl (iA ar))), (b + 2, .inl (kI K, 12, .inl (iA oc))), (b + 3, .inl (kI K, 12, .inl (iA lc))), (b + 4, .inl (kI K, 96, .inl (iA st))), (b + 5, .inl (kI K, 96, .inl (iA tk))), (b + 6, .inl (kI K, 10, .inl (iA wa))), (b + 7, .inl (kI K, 10, .inl (iA pk))), (b + 8, .inl (kL K, 40, .inr (.inl (lA mu)))), (b + 9, .inl (kL K, 40, .inr (.inl (lA pr)))), (b + 10, .inl (kI K, 4, .inl (iA (ut (by_v x y z) L mo)))), (b + 11, .inl (kI K, 4, .inl (iA (ut (ut (ut (ut bs 0 ((ut (by_v x y z) L mo) 0)) 1 ((ut (by_v x y z) L mo) 1)) 2 ((ut (by_v x y z) L mo) 2)) 3 ((ut (by_v x y z) L mo) 3))))), (b + 12, .inl (kI K, 10, .inl (iA le))), (b + 13, .inl (kI K, 10, .inl (iA bb))), (b + 14, .inl (kI K, 10, .inl (iA ld)))] H := hP
              replace hD : va_D A [(b, .inr (4, [.int (iI cd), .int (iI (wn : Int)), .ref (b + 1), .ref (b + 2), .ref (b + 3), .ref (b + 4), .ref (b + 5), .ref (b + 6), .ref (b + 7), .ref (b + 8), .ref (b + 9), .long (lI (ow + (mo * (pr (4 * j + L))))), .ref (b + 10), .ref (b + 11), .int (iI ln), .int (iI cu), .int (iI (pn : Int)), .ref (b + 12), .int (iI bc), .ref (b + 13), .ref (b + 14)])), (b + 1, .inl (kI K, 12, .inl (iA ar))), (b + 2, .inl (kI K, 12, .inl (iA oc))), (b + 3, .inl (kI K, 12, .inl (iA lc))), (b + 4, .inl (kI K, 96, .inl (iA st))), (b + 5, .inl (kI K, 96, .inl (iA tk))), (b + 6, .inl (kI K, 10, .inl (iA wa))), (b + 7, .inl (kI K, 10, .inl (iA pk))), (b + 8, .inl (kL K, 40, .inr (.inl (lA mu)))), (b + 9, .inl (kL K, 40, .inr (.inl (lA pr)))), (b + 10, .inl (kI K, 4, .inl (iA (ut (by_v x y z) L mo)))), (b + 11, .inl (kI K, 4, .inl (iA (ut (ut (ut (ut bs 0 ((ut (by_v x y z) L mo) 0)) 1 ((ut (by_v x y z) L mo) 1)) 2 ((ut (by_v x y z) L mo) 2)) 3 ((ut (by_v x y z) L mo) 3))))), (b + 12, .inl (kI K, 10, .inl (iA le))), (b + 13, .inl (kI K, 10, .inl (iA bb))), (b + 14, .inl (kI K, 10, .inl (iA ld)))] := hD
              refine iz_iinc (k := 0) (lv' := [(13, .int (iI 4)), (7, .long (lI (ow + (mo * (pr (4 * j + L)))))), (11, .long (lI mo)), (0, .ref b), (1, .int (iI (j : Int))), (2, .long (lI N)), (4, .int (iI (L : Int)))]) hx hb dM_tryLast_214 hl rfl (by decide) rfl (fun ls hl => ?_)
              refine lv_goto (tgt := 194) hx hb dM_tryLast_217 (by decide) ?_
              refine lv_iload hx hb dM_tryLast_194 (lv_at hl 0 rfl) ?_
              refine iz_iconst hx hb dM_tryLast_196 ?_
              refine iz_icmp_ge (tgt := 220) hx hb ⟨by omega, by omega⟩ ⟨by omega, by omega⟩ dM_tryLast_197 (by decide) (fun _ => ?_) (fun g => absurd g (by decide))
              rw [hQ]
              exact iz_vret hx hb hr hlocks (⟨_, _, _, fun i hi => by rw [ut4 bs (ut (by_v x y z) L mo) i hi]; exact hcb i hi, by_I_new hI hown9 hob (by omega) (fun i hi => by rw [ut4 bs (ut (by_v x y z) L mo) i hi, hca]) hb9, hP⟩) hS.2.2 dM_tryLast_220
            · rw [hca, hown9] at hb9
              refine iz_if_eq (tgt := 220) hx hb ⟨by omega, by omega⟩ dM_tryLast_182 (by decide) (fun _ => ?_) (fun g => absurd g (by decide))
              rw [hQ]
              exact iz_vret hx hb hr hlocks (⟨co, _, bs, hbs, by_I_keep hI hb9.1 hb9.2.1 hb9.2.2, hP⟩) hS.2.2 dM_tryLast_220
          · rw [hQ]
            exact iz_vret hx hb hr hlocks (⟨co, _, bs, hbs, by_I_no hI (by omega), hP⟩) hS.2.2 dM_tryLast_146
        refine lv_aload_n hx hb dM_tryLast_90 rfl (lv_at hl 0 rfl) ?_
        refine va_get (D := kD K) (ci := 4) (v := .ref (b + 8)) (C := RM) (T := FM) (N := 21) hx hb hts jnM hown hK hP 0 rfl rfl 9 (by decide) (hts _ mt_472) (fun _ h9 => h9) rfl dM_tryLast_91 ?_
        refine iz_iconst hx hb dM_tryLast_94 ?_
        refine lv_iload_n hx hb dM_tryLast_95 rfl (lv_at hl 1 rfl) ?_
        refine iz_imul hx hb dM_tryLast_96 ?_
        refine lv_iload hx hb dM_tryLast_97 (lv_at hl 3 rfl) ?_
        refine iz_iadd hx hb dM_tryLast_99 ?_
        refine iz_lald hx hb hK hP 8 rfl (4 * j + L) (by omega) (by omega) (by omega) dM_tryLast_100 ?_
        refine lv_lstore (lv' := [(9, .long (lI (mu (4 * j + L)))), (0, .ref b), (1, .int (iI (j : Int))), (2, .long (lI N)), (4, .int (iI (L : Int))), (5, .long (lI ha)), (7, .long (lI ow))]) hx hb dM_tryLast_101 hl (by decide) rfl (fun ls hl => ?_)
        refine lv_lload hx hb dM_tryLast_103 (lv_at hl 5 rfl) ?_
        refine lv_lload_n hx hb dM_tryLast_105 rfl (lv_at hl 3 rfl) ?_
        refine iz_lc_lt (tgt := 114) hx hb ⟨by omega, by omega⟩ ⟨by omega, by omega⟩ dM_tryLast_106 dM_tryLast_107 (by decide) (fun g3 => ?_) (fun g3 => ?_)
        · refine lv_lload_n hx hb dM_tryLast_114 rfl (lv_at hl 3 rfl) ?_
          refine lv_lload hx hb dM_tryLast_115 (lv_at hl 5 rfl) ?_
          refine iz_lsub hx hb dM_tryLast_117 ?_
          refine lv_lload hx hb dM_tryLast_118 (lv_at hl 0 rfl) ?_
          refine iz_ladd hx hb dM_tryLast_120 ?_
          refine iz_lconst hx hb 1 rfl dM_tryLast_121 ?_
          refine iz_lsub hx hb dM_tryLast_122 ?_
          refine lv_lload hx hb dM_tryLast_123 (lv_at hl 0 rfl) ?_
          refine iz_ldiv hx hb ⟨by omega, by omega⟩ (by omega) ⟨by omega, by omega⟩ (by omega) dM_tryLast_125 ?_
          exact tail _ (by unfold by_mo; rw [← hha, if_neg (by omega)]; rfl) ls (lv_sub hl [1, 2, 3, 4, 6] rfl)
        · refine iz_lconst hx hb 0 rfl dM_tryLast_110 ?_
          refine lv_goto (tgt := 126) hx hb dM_tryLast_111 (by decide) ?_
          exact tail _ (by unfold by_mo; rw [← hha, if_pos (by omega)]) ls (lv_sub hl [1, 2, 3, 4, 6] rfl)
      · have qvi := hv i
        refine lv_lload hx hb dM_tryLast_34 (lv_at hl 4 rfl) ?_
        refine lv_aload_n hx hb dM_tryLast_36 rfl (lv_at hl 0 rfl) ?_
        refine va_get (D := kD K) (ci := 4) (v := .ref (b + 10)) (C := RM) (T := FM) (N := 21) hx hb hts jnM hown hK hP 0 rfl rfl 12 (by decide) (hts _ mt_475) (fun _ h9 => h9) rfl dM_tryLast_37 ?_
        refine lv_iload hx hb dM_tryLast_40 (lv_at hl 6 rfl) ?_
        refine iz_iald hx hb hK hP 10 rfl i rfl (by omega) (by omega) dM_tryLast_42 ?_
        refine iz_i2l hx hb ⟨by omega, by omega⟩ dM_tryLast_43 ?_
        refine lv_aload_n hx hb dM_tryLast_44 rfl (lv_at hl 0 rfl) ?_
        refine va_get (D := kD K) (ci := 4) (v := .ref (b + 8)) (C := RM) (T := FM) (N := 21) hx hb hts jnM hown hK hP 0 rfl rfl 9 (by decide) (hts _ mt_472) (fun _ h9 => h9) rfl dM_tryLast_45 ?_
        refine iz_iconst hx hb dM_tryLast_48 ?_
        refine lv_iload_n hx hb dM_tryLast_49 rfl (lv_at hl 1 rfl) ?_
        refine iz_imul hx hb dM_tryLast_50 ?_
        refine lv_iload hx hb dM_tryLast_51 (lv_at hl 6 rfl) ?_
        refine iz_iadd hx hb dM_tryLast_53 ?_
        refine iz_lald hx hb hK hP 8 rfl (4 * j + i) (by omega) (by omega) (by omega) dM_tryLast_54 ?_
        refine iz_lmul hx hb dM_tryLast_55 ?_
        refine iz_ladd hx hb dM_tryLast_56 ?_
        refine lv_lstore (lv' := [(5, .long (lI (ha + (((by_v x y z) i) * (mu (4 * j + i)))))), (0, .ref b), (1, .int (iI (j : Int))), (2, .long (lI N)), (4, .int (iI (L : Int))), (7, .long (lI ow)), (9, .int (iI (i : Int)))]) hx hb dM_tryLast_57 hl (by decide) rfl (fun ls hl => ?_)
        refine lv_lload hx hb dM_tryLast_59 (lv_at hl 5 rfl) ?_
        refine lv_aload_n hx hb dM_tryLast_61 rfl (lv_at hl 1 rfl) ?_
        refine va_get (D := kD K) (ci := 4) (v := .ref (b + 10)) (C := RM) (T := FM) (N := 21) hx hb hts jnM hown hK hP 0 rfl rfl 12 (by decide) (hts _ mt_475) (fun _ h9 => h9) rfl dM_tryLast_62 ?_
        refine lv_iload hx hb dM_tryLast_65 (lv_at hl 6 rfl) ?_
        refine iz_iald hx hb hK hP 10 rfl i rfl (by omega) (by omega) dM_tryLast_67 ?_
        refine iz_i2l hx hb ⟨by omega, by omega⟩ dM_tryLast_68 ?_
        refine lv_aload_n hx hb dM_tryLast_69 rfl (lv_at hl 1 rfl) ?_
        refine va_get (D := kD K) (ci := 4) (v := .ref (b + 9)) (C := RM) (T := FM) (N := 21) hx hb hts jnM hown hK hP 0 rfl rfl 10 (by decide) (hts _ mt_473) (fun _ h9 => h9) rfl dM_tryLast_70 ?_
        refine iz_iconst hx hb dM_tryLast_73 ?_
        refine lv_iload_n hx hb dM_tryLast_74 rfl (lv_at hl 2 rfl) ?_
        refine iz_imul hx hb dM_tryLast_75 ?_
        refine lv_iload hx hb dM_tryLast_76 (lv_at hl 6 rfl) ?_
        refine iz_iadd hx hb dM_tryLast_78 ?_
        refine iz_lald hx hb hK hP 9 rfl (4 * j + i) (by omega) (by omega) (by omega) dM_tryLast_79 ?_
        refine iz_lmul hx hb dM_tryLast_80 ?_
        refine iz_ladd hx hb dM_tryLast_81 ?_
        refine lv_lstore (lv' := [(7, .long (lI (ow + (((by_v x y z) i) * (pr (4 * j + i)))))), (5, .long (lI (ha + (((by_v x y z) i) * (mu (4 * j + i)))))), (0, .ref b), (1, .int (iI (j : Int))), (2, .long (lI N)), (4, .int (iI (L : Int))), (9, .int (iI (i : Int)))]) hx hb dM_tryLast_82 hl (by decide) rfl (fun ls hl => ?_)
        refine iz_iinc (k := 6) (lv' := [(9, .int (iI ((i : Int) + 1))), (7, .long (lI (ow + (((by_v x y z) i) * (pr (4 * j + i)))))), (5, .long (lI (ha + (((by_v x y z) i) * (mu (4 * j + i)))))), (0, .ref b), (1, .int (iI (j : Int))), (2, .long (lI N)), (4, .int (iI (L : Int)))]) hx hb dM_tryLast_84 hl rfl (by decide) rfl (fun ls hl => ?_)
        refine lv_goto (tgt := 27) hx hb dM_tryLast_87 (by decide) ?_
        exact ih (i + 1) (ha + (by_v x y z) i * mu (4 * j + i)) (ow + (by_v x y z) i * pr (4 * j + i)) (by omega) (by omega) (by unfold py_co; rw [sm_snoc, Nat.zero_add, hha]; rfl) (by unfold py_co; rw [sm_snoc, Nat.zero_add, how]; rfl) ls (lv_sub hl [3, 4, 5, 6, 2, 1, 0] rfl)
  refine iz_lconst hx hb 0 rfl dM_tryLast_18 ?_
  refine lv_lstore (lv' := [(5, .long (lI 0)), (4, .int (iI (L : Int))), (0, .ref b), (1, .int (iI (j : Int))), (2, .long (lI N))]) hx hb dM_tryLast_19 hl (by decide) rfl (fun ls hl => ?_)
  refine iz_lconst hx hb 0 rfl dM_tryLast_21 ?_
  refine lv_lstore (lv' := [(7, .long (lI 0)), (5, .long (lI 0)), (4, .int (iI (L : Int))), (0, .ref b), (1, .int (iI (j : Int))), (2, .long (lI N))]) hx hb dM_tryLast_22 hl (by decide) rfl (fun ls hl => ?_)
  refine iz_iconst hx hb dM_tryLast_24 ?_
  refine lv_istore (lv' := [(9, .int (iI 0)), (7, .long (lI 0)), (5, .long (lI 0)), (4, .int (iI (L : Int))), (0, .ref b), (1, .int (iI (j : Int))), (2, .long (lI N))]) hx hb dM_tryLast_25 hl (by decide) rfl (fun ls hl => ?_)
  exact loop (L + 1) 0 0 0 (by omega) (by omega) rfl rfl ls (lv_sub hl [4, 5, 6, 3, 2, 1, 0] rfl)
