-- class Shelf: what its cells are
/-- a shelf at q: how many kinds; much, price, biggest, cheapest, tried, best; the best price and count; the need that was searched for -/
abbrev shW (K : KG) (q : Nat) (kd : Int) (mu pr bg ch tr bn : Nat → Int) (bp bc sf : Int) : va_W := [(q, .inr (2, [.int (iI kd), .ref (q + 1), .ref (q + 2), .ref (q + 3), .ref (q + 4), .ref (q + 5), .ref (q + 6), .int (iI bp), .int (iI bc), .long (lI sf)])), (q + 1, .inl (kI K, 4, .inl (iA mu))), (q + 2, .inl (kI K, 4, .inl (iA pr))), (q + 3, .inl (kI K, 4, .inl (iA bg))), (q + 4, .inl (kI K, 4, .inl (iA ch))), (q + 5, .inl (kI K, 4, .inl (iA tr))), (q + 6, .inl (kI K, 4, .inl (iA bn)))]
abbrev rmX_ratioRoundedUp : Room := { frames := 0, cells := 0, slots := 0, locals := 0 }
set_option maxHeartbeats 4000000 in
set_option maxRecDepth 100000 in
/-- ratioRoundedUp(a, b), b above 0 -/
theorem c_X_ratio (l : Launch) (K : KG) (a b : Int) (h0 : 0 ≤ a) (h1 : a < 4000000000000000000) (h2 : 0 < b) (h3 : b < 2147483648) : Ct l yX_ratioRoundedUp kX_ratioRoundedUp rmX_ratioRoundedUp (PC K [.long (lI a), .int (iI b)] (fun H => True)) (QL (fun r _ => r = cdiv a b)) (fun _ => False) := by
  refine ct_of (by decide) (Or.inl ⟨rfl, rfl⟩) ?_
  intro p e s m args below meth c B0 hP0
  obtain ⟨hx, hb, hr, hml, hown, hlocks, hnm, htab⟩ := B0
  obtain ⟨ha, ⟨hT, hK⟩, hB⟩ := hP0
  have hl := lv_entry ([.long (lI a), .int (iI b)]) (n := 3) (Nat.le_of_ble_eq_true rfl)
  obtain ⟨Q, hQ⟩ : ∃ Q, Q = XQ below (QL (fun r _ => r = cdiv a b)) args s rmX_ratioRoundedUp.cells rmX_ratioRoundedUp.slots (fun _ => False) := ⟨_, rfl⟩
  rw [← hQ, ha, lg_entry_eq]
  rw [ha] at hQ
  generalize (lg_sl ([.long (lI a), .int (iI b)]) ++ List.replicate (3 - (lg_sl ([.long (lI a), .int (iI b)])).length) Slot.unset).toArray = ls at hl ⊢
  generalize ([.long (lI a), .int (iI b)] : List Value).toArray = args at hQ ⊢
  have hts : ∀ w ∈ TW, w.before args s = true := fun w h => hT w h args
  have hl : lv_has ls 3 [(0, .long (lI a)), (2, .int (iI b))] := hl
  obtain ⟨A, hAe⟩ : ∃ A : Addr → Prop, A = (fun _ => False) := ⟨_, rfl⟩
  rw [← hAe] at hQ
  have hS : va_S A s.heap s.heap [] := va_S.rf
  refine lv_iload_n hx hb dX_ratioRoundedUp_0 rfl (lv_at hl 1 rfl) ?_
  refine iz_if_gt (tgt := 8) hx hb ⟨by omega, by omega⟩ dX_ratioRoundedUp_1 (by decide) (fun h4 => ?_) (fun h4 => ?_)
  · refine lv_lload_n hx hb dX_ratioRoundedUp_8 rfl (lv_at hl 0 rfl) ?_
    refine lv_iload_n hx hb dX_ratioRoundedUp_9 rfl (lv_at hl 1 rfl) ?_
    refine iz_i2l hx hb ⟨by omega, by omega⟩ dX_ratioRoundedUp_10 ?_
    refine iz_ladd hx hb dX_ratioRoundedUp_11 ?_
    refine iz_lconst hx hb 1 rfl dX_ratioRoundedUp_12 ?_
    refine iz_lsub hx hb dX_ratioRoundedUp_13 ?_
    refine lv_iload_n hx hb dX_ratioRoundedUp_14 rfl (lv_at hl 1 rfl) ?_
    refine iz_i2l hx hb ⟨by omega, by omega⟩ dX_ratioRoundedUp_15 ?_
    refine iz_ldiv hx hb ⟨by omega, by omega⟩ (by omega) ⟨by omega, by omega⟩ (by omega) dX_ratioRoundedUp_16 ?_
    rw [hQ]
    exact iz_lret hx hb hr hlocks (rfl) (fun _ h => absurd h List.not_mem_nil) dX_ratioRoundedUp_17
  · exact absurd h4 (by omega)
abbrev rmS_isBetter : Room := { frames := 0, cells := 0, slots := 0, locals := 0 }
set_option maxHeartbeats 4000000 in
set_option maxRecDepth 100000 in
/-- Shelf.isBetter(count, cost) -/
theorem c_S_isBetter (l : Launch) (K : KG) (q : Nat) (kd : Int) (mu pr bg ch tr bn : Nat → Int) (bp bc sf : Int) (ct co : Int) (h1 : r64 ct) (h2 : r64 co) (h3 : r32 bp) (h4 : r32 bc) : Ct l yS_isBetter kS_isBetter rmS_isBetter (PC K [.ref q, .long (lI ct), .long (lI co)] (fun H => va_P (kD K) vcl (shW K q kd mu pr bg ch tr bn bp bc sf) H)) (QI (fun r _ => (r = 1 ∧ py_bt co ct bp bc) ∨ (r = 0 ∧ ¬ py_bt co ct bp bc))) (fun _ => False) := by
  refine ct_of (by decide) (Or.inl ⟨rfl, rfl⟩) ?_
  intro p e s m args below meth c B0 hP0
  obtain ⟨hx, hb, hr, hml, hown, hlocks, hnm, htab⟩ := B0
  obtain ⟨ha, ⟨hT, hK⟩, hB⟩ := hP0
  have hl := lv_entry ([.ref q, .long (lI ct), .long (lI co)]) (n := 5) (Nat.le_of_ble_eq_true rfl)
  obtain ⟨Q, hQ⟩ : ∃ Q, Q = XQ below (QI (fun r _ => (r = 1 ∧ py_bt co ct bp bc) ∨ (r = 0 ∧ ¬ py_bt co ct bp bc))) args s rmS_isBetter.cells rmS_isBetter.slots (fun _ => False) := ⟨_, rfl⟩
  rw [← hQ, ha, lg_entry_eq]
  rw [ha] at hQ
  generalize (lg_sl ([.ref q, .long (lI ct), .long (lI co)]) ++ List.replicate (5 - (lg_sl ([.ref q, .long (lI ct), .long (lI co)])).length) Slot.unset).toArray = ls at hl ⊢
  generalize ([.ref q, .long (lI ct), .long (lI co)] : List Value).toArray = args at hQ ⊢
  have hts : ∀ w ∈ TW, w.before args s = true := fun w h => hT w h args
  have hl : lv_has ls 5 [(0, .ref q), (1, .long (lI ct)), (3, .long (lI co))] := hl
  obtain ⟨A, hAe⟩ : ∃ A : Addr → Prop, A = (fun _ => False) := ⟨_, rfl⟩
  rw [← hAe] at hQ
  have hS : va_S A s.heap s.heap [] := va_S.rf
  have hP : va_P (kD K) vcl [(q, .inr (2, [.int (iI kd), .ref (q + 1), .ref (q + 2), .ref (q + 3), .ref (q + 4), .ref (q + 5), .ref (q + 6), .int (iI bp), .int (iI bc), .long (lI sf)])), (q + 1, .inl (kI K, 4, .inl (iA mu))), (q + 2, .inl (kI K, 4, .inl (iA pr))), (q + 3, .inl (kI K, 4, .inl (iA bg))), (q + 4, .inl (kI K, 4, .inl (iA ch))), (q + 5, .inl (kI K, 4, .inl (iA tr))), (q + 6, .inl (kI K, 4, .inl (iA bn)))] s.heap := hB
  refine lv_lload_n hx hb dS_isBetter_0 rfl (lv_at hl 2 rfl) ?_
  refine lv_aload_n hx hb dS_isBetter_1 rfl (lv_at hl 0 rfl) ?_
  refine va_get (D := kD K) (ci := 2) (v := .int (iI bp)) (C := RS) (T := FS) (N := 10) hx hb hts jnS hown hK hP 0 rfl rfl 7 (by decide) (hts _ mt_60) (fun _ h9 => h9) rfl dS_isBetter_2 ?_
  refine iz_i2l hx hb ⟨by omega, by omega⟩ dS_isBetter_5 ?_
  refine iz_lc_lt (tgt := 30) hx hb ⟨by omega, by omega⟩ ⟨by omega, by omega⟩ dS_isBetter_6 dS_isBetter_7 (by decide) (fun g1 => ?_) (fun g1 => ?_)
  · refine iz_iconst hx hb dS_isBetter_30 ?_
    refine lv_goto (tgt := 35) hx hb dS_isBetter_31 (by decide) ?_
    rw [hQ]
    exact iz_zret hx hb hr hlocks (Or.inr rfl) (Or.inl ⟨rfl, (Or.inl g1)⟩) (fun _ h => absurd h List.not_mem_nil) dS_isBetter_35
  · refine lv_lload_n hx hb dS_isBetter_10 rfl (lv_at hl 2 rfl) ?_
    refine lv_aload_n hx hb dS_isBetter_11 rfl (lv_at hl 0 rfl) ?_
    refine va_get (D := kD K) (ci := 2) (v := .int (iI bp)) (C := RS) (T := FS) (N := 10) hx hb hts jnS hown hK hP 0 rfl rfl 7 (by decide) (hts _ mt_60) (fun _ h9 => h9) rfl dS_isBetter_12 ?_
    refine iz_i2l hx hb ⟨by omega, by omega⟩ dS_isBetter_15 ?_
    refine iz_lc_ne (tgt := 34) hx hb ⟨by omega, by omega⟩ ⟨by omega, by omega⟩ dS_isBetter_16 dS_isBetter_17 (by decide) (fun g2 => ?_) (fun g2 => ?_)
    · refine iz_iconst hx hb dS_isBetter_34 ?_
      rw [hQ]
      exact iz_zret hx hb hr hlocks (Or.inl rfl) (Or.inr ⟨rfl, (by unfold py_bt; omega)⟩) (fun _ h => absurd h List.not_mem_nil) dS_isBetter_35
    · refine lv_lload_n hx hb dS_isBetter_20 rfl (lv_at hl 1 rfl) ?_
      refine lv_aload_n hx hb dS_isBetter_21 rfl (lv_at hl 0 rfl) ?_
      refine va_get (D := kD K) (ci := 2) (v := .int (iI bc)) (C := RS) (T := FS) (N := 10) hx hb hts jnS hown hK hP 0 rfl rfl 8 (by decide) (hts _ mt_61) (fun _ h9 => h9) rfl dS_isBetter_22 ?_
      refine iz_i2l hx hb ⟨by omega, by omega⟩ dS_isBetter_25 ?_
      refine iz_lc_ge (tgt := 34) hx hb ⟨by omega, by omega⟩ ⟨by omega, by omega⟩ dS_isBetter_26 dS_isBetter_27 (by decide) (fun g3 => ?_) (fun g3 => ?_)
      · refine iz_iconst hx hb dS_isBetter_34 ?_
        rw [hQ]
        exact iz_zret hx hb hr hlocks (Or.inl rfl) (Or.inr ⟨rfl, (by unfold py_bt; omega)⟩) (fun _ h => absurd h List.not_mem_nil) dS_isBetter_35
      · refine iz_iconst hx hb dS_isBetter_30 ?_
        refine lv_goto (tgt := 35) hx hb dS_isBetter_31 (by decide) ?_
        rw [hQ]
        exact iz_zret hx hb hr hlocks (Or.inr rfl) (Or.inl ⟨rfl, (by unfold py_bt; omega)⟩) (fun _ h => absurd h List.not_mem_nil) dS_isBetter_35
abbrev rmS_keepIfBetter : Room := { frames := 1, cells := 0, slots := 0, locals := 60 }
set_option maxHeartbeats 4000000 in
set_option maxRecDepth 100000 in
/-- Shelf.keepIfBetter(count, cost) -/
theorem c_S_keep (l : Launch) (K : KG) (q : Nat) (kd : Int) (mu pr bg ch tr bn : Nat → Int) (bp bc sf : Int) (ct co : Int) (h1 : r32 ct) (h2 : r32 co) (h3 : r32 bp) (h4 : r32 bc) : Ct l yS_keepIfBetter kS_keepIfBetter rmS_keepIfBetter (PC K [.ref q, .int (iI ct), .int (iI co)] (fun H => va_P (kD K) vcl (shW K q kd mu pr bg ch tr bn bp bc sf) H)) (QV (fun H => (¬ py_bt co ct bp bc ∧ va_P (kD K) vcl (shW K q kd mu pr bg ch tr bn bp bc sf) H) ∨ (py_bt co ct bp bc ∧ va_P (kD K) vcl (shW K q kd mu pr bg ch tr (fun j => if j < 4 then tr j else bn j) co ct sf) H))) (fun x => q ≤ x ∧ x < q + 7) := by
  refine ct_of (by decide) (Or.inl ⟨rfl, rfl⟩) ?_
  intro p e s m args below meth c B0 hP0
  obtain ⟨hx, hb, hr, hml, hown, hlocks, hnm, htab⟩ := B0
  obtain ⟨ha, ⟨hT, hK⟩, hB⟩ := hP0
  have hl := lv_entry ([.ref q, .int (iI ct), .int (iI co)]) (n := 3) (Nat.le_of_ble_eq_true rfl)
  obtain ⟨Q, hQ⟩ : ∃ Q, Q = XQ below (QV (fun H => (¬ py_bt co ct bp bc ∧ va_P (kD K) vcl (shW K q kd mu pr bg ch tr bn bp bc sf) H) ∨ (py_bt co ct bp bc ∧ va_P (kD K) vcl (shW K q kd mu pr bg ch tr (fun j => if j < 4 then tr j else bn j) co ct sf) H))) args s rmS_keepIfBetter.cells rmS_keepIfBetter.slots (fun x => q ≤ x ∧ x < q + 7) := ⟨_, rfl⟩
  rw [← hQ, ha, lg_entry_eq]
  rw [ha] at hQ
  generalize (lg_sl ([.ref q, .int (iI ct), .int (iI co)]) ++ List.replicate (3 - (lg_sl ([.ref q, .int (iI ct), .int (iI co)])).length) Slot.unset).toArray = ls at hl ⊢
  generalize ([.ref q, .int (iI ct), .int (iI co)] : List Value).toArray = args at hQ ⊢
  have hts : ∀ w ∈ TW, w.before args s = true := fun w h => hT w h args
  have hl : lv_has ls 3 [(0, .ref q), (1, .int (iI ct)), (2, .int (iI co))] := hl
  obtain ⟨A, hAe⟩ : ∃ A : Addr → Prop, A = (fun x => q ≤ x ∧ x < q + 7) := ⟨_, rfl⟩
  rw [← hAe] at hQ
  have hS : va_S A s.heap s.heap [] := va_S.rf
  have hP : va_P (kD K) vcl [(q, .inr (2, [.int (iI kd), .ref (q + 1), .ref (q + 2), .ref (q + 3), .ref (q + 4), .ref (q + 5), .ref (q + 6), .int (iI bp), .int (iI bc), .long (lI sf)])), (q + 1, .inl (kI K, 4, .inl (iA mu))), (q + 2, .inl (kI K, 4, .inl (iA pr))), (q + 3, .inl (kI K, 4, .inl (iA bg))), (q + 4, .inl (kI K, 4, .inl (iA ch))), (q + 5, .inl (kI K, 4, .inl (iA tr))), (q + 6, .inl (kI K, 4, .inl (iA bn)))] s.heap := hB
  have hD : va_D A [(q, .inr (2, [.int (iI kd), .ref (q + 1), .ref (q + 2), .ref (q + 3), .ref (q + 4), .ref (q + 5), .ref (q + 6), .int (iI bp), .int (iI bc), .long (lI sf)])), (q + 1, .inl (kI K, 4, .inl (iA mu))), (q + 2, .inl (kI K, 4, .inl (iA pr))), (q + 3, .inl (kI K, 4, .inl (iA bg))), (q + 4, .inl (kI K, 4, .inl (iA ch))), (q + 5, .inl (kI K, 4, .inl (iA tr))), (q + 6, .inl (kI K, 4, .inl (iA bn)))] := by rw [hAe]; exact va_D_of (by simp) (by simp <;> omega)
  refine lv_aload_n hx hb dS_keepIfBetter_0 rfl (lv_at hl 0 rfl) ?_
  refine lv_iload_n hx hb dS_keepIfBetter_1 rfl (lv_at hl 1 rfl) ?_
  refine iz_i2l hx hb ⟨by omega, by omega⟩ dS_keepIfBetter_2 ?_
  refine lv_iload_n hx hb dS_keepIfBetter_3 rfl (lv_at hl 2 rfl) ?_
  refine iz_i2l hx hb ⟨by omega, by omega⟩ dS_keepIfBetter_4 ?_
  refine ctV (n := 2) hx hb hml hown hT ⟨c_S_isBetter l K q kd mu pr bg ch tr bn bp bc sf ct co ⟨by omega, by omega⟩ ⟨by omega, by omega⟩ h3 h4, ⟨_, _, _, Or.inl ⟨rfl, rfl⟩⟩, mt_259, mt_3, by decide, by decide +kernel, by decide, by decide, by decide, by decide⟩ PC.blind mt_256 mt_258 ms_6 (va_RVof (ci := 2) (q0 := 0) hK hP rfl rfl) (As := [.long (lI ct), .long (lI co)]) (rest := []) rfl (PC.at ⟨hT, hK⟩ hP) hl.1 rfl (Nat.le_of_ble_eq_true rfl) dS_keepIfBetter_5 (krI0 rfl rfl (fun _ h => h) (fun r hr9 => ?_))
  refine iz_if_eq (tgt := 35) hx hb (by rcases hr9 with ⟨rfl, -⟩ | ⟨rfl, -⟩ <;> exact ⟨by omega, by omega⟩) dS_keepIfBetter_8 (by decide) (fun g1 => ?_) (fun g1 => ?_)
  · rw [hQ]
    exact iz_vret hx hb hr hlocks (Or.inl ⟨by rcases hr9 with ⟨rfl, -⟩ | ⟨-, h⟩; exact absurd g1 (by omega); exact h, hP⟩) hS.2.2 dS_keepIfBetter_35
  · refine lv_aload_n hx hb dS_keepIfBetter_11 rfl (lv_at hl 0 rfl) ?_
    refine lv_iload_n hx hb dS_keepIfBetter_12 rfl (lv_at hl 1 rfl) ?_
    refine va_put (D := kD K) (ci := 2) (v := .int (iI ct)) (ty := .int) (C := RS) (T := FS) (N := 10) hx hb hts jnS tS tS_ok nS hown hK hP hD hS 0 rfl rfl 8 (by decide) (hts _ mt_61) (fun _ h9 => h9) rfl (by decide +kernel) rfl rfl (Nat.le_of_ble_eq_true rfl) dS_keepIfBetter_13 ?_
    clear hP hD hS
    intro H locs hP hD hS
    replace hP : va_P (kD K) vcl [(q, .inr (2, [.int (iI kd), .ref (q + 1), .ref (q + 2), .ref (q + 3), .ref (q + 4), .ref (q + 5), .ref (q + 6), .int (iI bp), .int (iI ct), .long (lI sf)])), (q + 1, .inl (kI K, 4, .inl (iA mu))), (q + 2, .inl (kI K, 4, .inl (iA pr))), (q + 3, .inl (kI K, 4, .inl (iA bg))), (q + 4, .inl (kI K, 4, .inl (iA ch))), (q + 5, .inl (kI K, 4, .inl (iA tr))), (q + 6, .inl (kI K, 4, .inl (iA bn)))] H := hP
    replace hD : va_D A [(q, .inr (2, [.int (iI kd), .ref (q + 1), .ref (q + 2), .ref (q + 3), .ref (q + 4), .ref (q + 5), .ref (q + 6), .int (iI bp), .int (iI ct), .long (lI sf)])), (q + 1, .inl (kI K, 4, .inl (iA mu))), (q + 2, .inl (kI K, 4, .inl (iA pr))), (q + 3, .inl (kI K, 4, .inl (iA bg))), (q + 4, .inl (kI K, 4, .inl (iA ch))), (q + 5, .inl (kI K, 4, .inl (iA tr))), (q + 6, .inl (kI K, 4, .inl (iA bn)))] := hD
    refine lv_aload_n hx hb dS_keepIfBetter_16 rfl (lv_at hl 0 rfl) ?_
    refine lv_iload_n hx hb dS_keepIfBetter_17 rfl (lv_at hl 2 rfl) ?_
    refine va_put (D := kD K) (ci := 2) (v := .int (iI co)) (ty := .int) (C := RS) (T := FS) (N := 10) hx hb hts jnS tS tS_ok nS hown hK hP hD hS 0 rfl rfl 7 (by decide) (hts _ mt_60) (fun _ h9 => h9) rfl (by decide +kernel) rfl rfl (Nat.le_of_ble_eq_true rfl) dS_keepIfBetter_18 ?_
    clear hP hD hS
    intro H locs hP hD hS
    replace hP : va_P (kD K) vcl [(q, .inr (2, [.int (iI kd), .ref (q + 1), .ref (q + 2), .ref (q + 3), .ref (q + 4), .ref (q + 5), .ref (q + 6), .int (iI co), .int (iI ct), .long (lI sf)])), (q + 1, .inl (kI K, 4, .inl (iA mu))), (q + 2, .inl (kI K, 4, .inl (iA pr))), (q + 3, .inl (kI K, 4, .inl (iA bg))), (q + 4, .inl (kI K, 4, .inl (iA ch))), (q + 5, .inl (kI K, 4, .inl (iA tr))), (q + 6, .inl (kI K, 4, .inl (iA bn)))] H := hP
    replace hD : va_D A [(q, .inr (2, [.int (iI kd), .ref (q + 1), .ref (q + 2), .ref (q + 3), .ref (q + 4), .ref (q + 5), .ref (q + 6), .int (iI co), .int (iI ct), .long (lI sf)])), (q + 1, .inl (kI K, 4, .inl (iA mu))), (q + 2, .inl (kI K, 4, .inl (iA pr))), (q + 3, .inl (kI K, 4, .inl (iA bg))), (q + 4, .inl (kI K, 4, .inl (iA ch))), (q + 5, .inl (kI K, 4, .inl (iA tr))), (q + 6, .inl (kI K, 4, .inl (iA bn)))] := hD
    refine lv_aload_n hx hb dS_keepIfBetter_21 rfl (lv_at hl 0 rfl) ?_
    refine va_get (D := kD K) (ci := 2) (v := .ref (q + 5)) (C := RS) (T := FS) (N := 10) hx hb hts jnS hown hK hP 0 rfl rfl 5 (by decide) (hts _ mt_58) (fun _ h9 => h9) rfl dS_keepIfBetter_22 ?_
    refine iz_iconst hx hb dS_keepIfBetter_25 ?_
    refine lv_aload_n hx hb dS_keepIfBetter_26 rfl (lv_at hl 0 rfl) ?_
    refine va_get (D := kD K) (ci := 2) (v := .ref (q + 6)) (C := RS) (T := FS) (N := 10) hx hb hts jnS hown hK hP 0 rfl rfl 6 (by decide) (hts _ mt_59) (fun _ h9 => h9) rfl dS_keepIfBetter_27 ?_
    refine iz_iconst hx hb dS_keepIfBetter_30 ?_
    refine iz_iconst hx hb dS_keepIfBetter_31 ?_
    refine va_copyi hx hb (hml.trans hl.1.symm) hown (hts _ mt_260) (hts _ mt_262) (hts _ mt_261) (hts _ mt_13) hK hP hD hS 5 6 0 0 rfl rfl rfl rfl rfl (iI_nn ⟨by omega, by omega⟩ (by omega)) (iI_nn ⟨by omega, by omega⟩ (by omega)) (iI_nn ⟨by omega, by omega⟩ (by omega)) (by decide) (by decide) (fun i _ => rfl) (by decide) (by decide) dS_keepIfBetter_32 (fun H locs hP hD hS => ?_)
    have hcp : va_cpy (iA tr) (iA bn) (iI 0).toNatClampNeg (iI 0).toNatClampNeg (iI 4).toNatClampNeg = iA (fun j => if j < 4 then tr j else bn j) := by
      funext j
      show (if 0 ≤ j ∧ j < 0 + 4 then iI (tr (0 + (j - 0))) else iI (bn j)) = iI (if j < 4 then tr j else bn j)
      by_cases hj : j < 4
      · rw [if_pos ⟨by omega, by omega⟩, if_pos hj, show 0 + (j - 0) = j by omega]
      · rw [if_neg (by omega), if_neg hj]
    rw [hcp] at hP
    have hP : va_P (kD K) vcl [(q, .inr (2, [.int (iI kd), .ref (q + 1), .ref (q + 2), .ref (q + 3), .ref (q + 4), .ref (q + 5), .ref (q + 6), .int (iI co), .int (iI ct), .long (lI sf)])), (q + 1, .inl (kI K, 4, .inl (iA mu))), (q + 2, .inl (kI K, 4, .inl (iA pr))), (q + 3, .inl (kI K, 4, .inl (iA bg))), (q + 4, .inl (kI K, 4, .inl (iA ch))), (q + 5, .inl (kI K, 4, .inl (iA tr))), (q + 6, .inl (kI K, 4, .inl (iA (fun j => if j < 4 then tr j else bn j))))] H := hP
    rw [hQ]
    exact iz_vret hx hb hr hlocks (Or.inr ⟨by rcases hr9 with ⟨-, h⟩ | ⟨rfl, -⟩; exact h; exact absurd rfl g1, hP⟩) hS.2.2 dS_keepIfBetter_35
