-- class Shelf: the search
abbrev rmS_isHopeless : Room := { frames := 1, cells := 0, slots := 0, locals := 60 }
set_option maxHeartbeats 4000000 in
set_option maxRecDepth 100000 in
/-- Shelf.isHopeless(kind, missing, count, cost) -/
theorem c_S_hopeless (l : Launch) (K : KG) (q : Nat) (kd : Int) (mu pr bg ch tr bn : Nat → Int) (bp bc sf : Int) (k bi ci : Nat) (mi ct co : Int) (hk : k < 4) (hbi : bg k = bi) (hb4 : bi < 4) (hci : ch k = ci) (hc4 : ci < 4) (hmb : 0 < mu bi ∧ mu bi < 2147483648) (hmc : 0 < mu ci ∧ mu ci < 2147483648) (hpc : 0 ≤ pr ci ∧ pr ci ≤ 100000) (hmi : 0 < mi ∧ mi ≤ 100000000000) (hct : 0 ≤ ct ∧ ct ≤ 60) (hco : 0 ≤ co ∧ co ≤ 6000000) (h3 : r32 bp) (h4 : r32 bc) : Ct l yS_isHopeless kS_isHopeless rmS_isHopeless (PC K [.ref q, .int (iI (k : Int)), .long (lI mi), .int (iI ct), .int (iI co)] (fun H => va_P (kD K) vcl (shW K q kd mu pr bg ch tr bn bp bc sf) H)) (QI (fun r _ => (r = 1 ∧ (60 < ct + cdiv mi (mu bi) ∨ ¬ py_bt (co + cdiv (mi * pr ci) (mu ci)) (ct + cdiv mi (mu bi)) bp bc)) ∨ r = 0)) (fun _ => False) := by
  refine ct_of (by decide) (Or.inl ⟨rfl, rfl⟩) ?_
  intro p e s m args below meth c B0 hP0
  obtain ⟨hx, hb, hr, hml, hown, hlocks, hnm, htab⟩ := B0
  obtain ⟨ha, ⟨hT, hK⟩, hB⟩ := hP0
  have hl := lv_entry ([.ref q, .int (iI (k : Int)), .long (lI mi), .int (iI ct), .int (iI co)]) (n := 11) (Nat.le_of_ble_eq_true rfl)
  obtain ⟨Q, hQ⟩ : ∃ Q, Q = XQ below (QI (fun r _ => (r = 1 ∧ (60 < ct + cdiv mi (mu bi) ∨ ¬ py_bt (co + cdiv (mi * pr ci) (mu ci)) (ct + cdiv mi (mu bi)) bp bc)) ∨ r = 0)) args s rmS_isHopeless.cells rmS_isHopeless.slots (fun _ => False) := ⟨_, rfl⟩
  rw [← hQ, ha, lg_entry_eq]
  rw [ha] at hQ
  generalize (lg_sl ([.ref q, .int (iI (k : Int)), .long (lI mi), .int (iI ct), .int (iI co)]) ++ List.replicate (11 - (lg_sl ([.ref q, .int (iI (k : Int)), .long (lI mi), .int (iI ct), .int (iI co)])).length) Slot.unset).toArray = ls at hl ⊢
  generalize ([.ref q, .int (iI (k : Int)), .long (lI mi), .int (iI ct), .int (iI co)] : List Value).toArray = args at hQ ⊢
  have hts : ∀ w ∈ TW, w.before args s = true := fun w h => hT w h args
  have hl : lv_has ls 11 [(0, .ref q), (1, .int (iI (k : Int))), (2, .long (lI mi)), (4, .int (iI ct)), (5, .int (iI co))] := hl
  obtain ⟨A, hAe⟩ : ∃ A : Addr → Prop, A = (fun _ => False) := ⟨_, rfl⟩
  rw [← hAe] at hQ
  have hS : va_S A s.heap s.heap [] := va_S.rf
  have hP : va_P (kD K) vcl [(q, .inr (2, [.int (iI kd), .ref (q + 1), .ref (q + 2), .ref (q + 3), .ref (q + 4), .ref (q + 5), .ref (q + 6), .int (iI bp), .int (iI bc), .long (lI sf)])), (q + 1, .inl (kI K, 4, .inl (iA mu))), (q + 2, .inl (kI K, 4, .inl (iA pr))), (q + 3, .inl (kI K, 4, .inl (iA bg))), (q + 4, .inl (kI K, 4, .inl (iA ch))), (q + 5, .inl (kI K, 4, .inl (iA tr))), (q + 6, .inl (kI K, 4, .inl (iA bn)))] s.heap := hB
  have hc1 := cdiv_bd hmb.1 (show 0 ≤ mi by omega)
  have hmp := mul_bd (show 0 ≤ mi by omega) hmi.2 hpc.1 hpc.2
  have hc2 := cdiv_bd hmc.1 hmp.1
  refine lv_iload hx hb dS_isHopeless_0 (lv_at hl 3 rfl) ?_
  refine iz_i2l hx hb ⟨by omega, by omega⟩ dS_isHopeless_2 ?_
  refine lv_lload_n hx hb dS_isHopeless_3 rfl (lv_at hl 2 rfl) ?_
  refine lv_aload_n hx hb dS_isHopeless_4 rfl (lv_at hl 0 rfl) ?_
  refine va_get (D := kD K) (ci := 2) (v := .ref (q + 1)) (C := RS) (T := FS) (N := 10) hx hb hts jnS hown hK hP 0 rfl rfl 1 (by decide) (hts _ mt_54) (fun _ h9 => h9) rfl dS_isHopeless_5 ?_
  refine lv_aload_n hx hb dS_isHopeless_8 rfl (lv_at hl 0 rfl) ?_
  refine va_get (D := kD K) (ci := 2) (v := .ref (q + 3)) (C := RS) (T := FS) (N := 10) hx hb hts jnS hown hK hP 0 rfl rfl 3 (by decide) (hts _ mt_56) (fun _ h9 => h9) rfl dS_isHopeless_9 ?_
  refine lv_iload_n hx hb dS_isHopeless_12 rfl (lv_at hl 1 rfl) ?_
  refine iz_iald hx hb hK hP 3 rfl k rfl hk (by omega) dS_isHopeless_13 ?_
  refine iz_iald hx hb hK hP 1 rfl bi hbi hb4 (by omega) dS_isHopeless_14 ?_
  refine ctSN (n := 2) hx hb hml hown hT ⟨c_X_ratio l K mi (mu bi) (by omega) (by omega) hmb.1 hmb.2, ⟨_, _, _, Or.inl ⟨rfl, rfl⟩⟩, mt_226, mt_1, by decide, by decide +kernel, by decide, by decide, by decide, by decide⟩ PC.blind mt_240 mt_225 (As := [.long (lI mi), .int (iI (mu bi))]) (rest := [.long (lI ct)]) rfl (PC.at ⟨hT, hK⟩ trivial) hl.1 rfl (Nat.le_of_ble_eq_true rfl) dS_isHopeless_15 (krL0 rfl rfl (fun _ h => h) (fun r1 hr1 => ?_))
  subst hr1
  refine iz_ladd hx hb dS_isHopeless_18 ?_
  refine lv_lstore (lv' := [(6, .long (lI (ct + (cdiv mi (mu bi))))), (0, .ref q), (1, .int (iI (k : Int))), (2, .long (lI mi)), (4, .int (iI ct)), (5, .int (iI co))]) hx hb dS_isHopeless_19 hl (by decide) rfl (fun ls hl => ?_)
  refine lv_lload hx hb dS_isHopeless_21 (lv_at hl 0 rfl) ?_
  refine iz_ldc2 hx hb (60) (by decide) hown (hts _ mt_241) dS_isHopeless_23 ?_
  refine iz_lc_le (tgt := 32) hx hb ⟨by omega, by omega⟩ ⟨by omega, by omega⟩ dS_isHopeless_26 dS_isHopeless_27 (by decide) (fun g1 => ?_) (fun g1 => ?_)
  · refine lv_aload_n hx hb dS_isHopeless_32 rfl (lv_at hl 1 rfl) ?_
    refine va_get (D := kD K) (ci := 2) (v := .ref (q + 4)) (C := RS) (T := FS) (N := 10) hx hb hts jnS hown hK hP 0 rfl rfl 4 (by decide) (hts _ mt_57) (fun _ h9 => h9) rfl dS_isHopeless_33 ?_
    refine lv_iload_n hx hb dS_isHopeless_36 rfl (lv_at hl 2 rfl) ?_
    refine iz_iald hx hb hK hP 4 rfl k rfl hk (by omega) dS_isHopeless_37 ?_
    rw [hci]
    refine lv_istore (lv' := [(8, .int (iI (ci : Int))), (6, .long (lI (ct + (cdiv mi (mu bi))))), (0, .ref q), (1, .int (iI (k : Int))), (2, .long (lI mi)), (4, .int (iI ct)), (5, .int (iI co))]) hx hb dS_isHopeless_38 hl (by decide) rfl (fun ls hl => ?_)
    refine lv_iload hx hb dS_isHopeless_40 (lv_at hl 6 rfl) ?_
    refine iz_i2l hx hb ⟨by omega, by omega⟩ dS_isHopeless_42 ?_
    refine lv_lload_n hx hb dS_isHopeless_43 rfl (lv_at hl 4 rfl) ?_
    refine lv_aload_n hx hb dS_isHopeless_44 rfl (lv_at hl 2 rfl) ?_
    refine va_get (D := kD K) (ci := 2) (v := .ref (q + 2)) (C := RS) (T := FS) (N := 10) hx hb hts jnS hown hK hP 0 rfl rfl 2 (by decide) (hts _ mt_55) (fun _ h9 => h9) rfl dS_isHopeless_45 ?_
    refine lv_iload hx hb dS_isHopeless_48 (lv_at hl 0 rfl) ?_
    refine iz_iald hx hb hK hP 2 rfl ci rfl hc4 (by omega) dS_isHopeless_50 ?_
    refine iz_i2l hx hb ⟨by omega, by omega⟩ dS_isHopeless_51 ?_
    refine iz_lmul hx hb dS_isHopeless_52 ?_
    refine lv_aload_n hx hb dS_isHopeless_53 rfl (lv_at hl 2 rfl) ?_
    refine va_get (D := kD K) (ci := 2) (v := .ref (q + 1)) (C := RS) (T := FS) (N := 10) hx hb hts jnS hown hK hP 0 rfl rfl 1 (by decide) (hts _ mt_54) (fun _ h9 => h9) rfl dS_isHopeless_54 ?_
    refine lv_iload hx hb dS_isHopeless_57 (lv_at hl 0 rfl) ?_
    refine iz_iald hx hb hK hP 1 rfl ci rfl hc4 (by omega) dS_isHopeless_59 ?_
    refine ctSN (n := 2) hx hb hml hown hT ⟨c_X_ratio l K (mi * pr ci) (mu ci) (by omega) (by omega) hmc.1 hmc.2, ⟨_, _, _, Or.inl ⟨rfl, rfl⟩⟩, mt_226, mt_1, by decide, by decide +kernel, by decide, by decide, by decide, by decide⟩ PC.blind mt_240 mt_225 (As := [.long (lI (mi * (pr ci))), .int (iI (mu ci))]) (rest := [.long (lI co)]) rfl (PC.at ⟨hT, hK⟩ trivial) hl.1 rfl (Nat.le_of_ble_eq_true rfl) dS_isHopeless_60 (krL0 rfl rfl (fun _ h => h) (fun r2 hr2 => ?_))
    subst hr2
    refine iz_ladd hx hb dS_isHopeless_63 ?_
    refine lv_lstore (lv' := [(9, .long (lI (co + (cdiv (mi * pr ci) (mu ci))))), (8, .int (iI (ci : Int))), (6, .long (lI (ct + (cdiv mi (mu bi))))), (0, .ref q), (1, .int (iI (k : Int))), (2, .long (lI mi)), (4, .int (iI ct)), (5, .int (iI co))]) hx hb dS_isHopeless_64 hl (by decide) rfl (fun ls hl => ?_)
    refine lv_aload_n hx hb dS_isHopeless_66 rfl (lv_at hl 3 rfl) ?_
    refine lv_lload hx hb dS_isHopeless_67 (lv_at hl 2 rfl) ?_
    refine lv_lload hx hb dS_isHopeless_69 (lv_at hl 0 rfl) ?_
    refine ctV (n := 2) hx hb hml hown hT ⟨c_S_isBetter l K q kd mu pr bg ch tr bn bp bc sf (ct + cdiv mi (mu bi)) (co + cdiv (mi * pr ci) (mu ci)) ⟨by omega, by omega⟩ ⟨by omega, by omega⟩ h3 h4, ⟨_, _, _, Or.inl ⟨rfl, rfl⟩⟩, mt_259, mt_3, by decide, by decide +kernel, by decide, by decide, by decide, by decide⟩ PC.blind mt_256 mt_258 ms_6 (va_RVof (ci := 2) (q0 := 0) hK hP rfl rfl) (As := [.long (lI (ct + (cdiv mi (mu bi)))), .long (lI (co + (cdiv (mi * pr ci) (mu ci))))]) (rest := []) rfl (PC.at ⟨hT, hK⟩ hP) hl.1 rfl (Nat.le_of_ble_eq_true rfl) dS_isHopeless_71 (krI0 rfl rfl (fun _ h => h) (fun r3 hr3 => ?_))
    refine iz_if_ne (tgt := 81) hx hb (by rcases hr3 with ⟨rfl, -⟩ | ⟨rfl, -⟩ <;> exact ⟨by omega, by omega⟩) dS_isHopeless_74 (by decide) (fun g2 => ?_) (fun g2 => ?_)
    · refine iz_iconst hx hb dS_isHopeless_81 ?_
      rw [hQ]
      exact iz_zret hx hb hr hlocks (Or.inl rfl) (Or.inr rfl) (fun _ h => absurd h List.not_mem_nil) dS_isHopeless_82
    · refine iz_iconst hx hb dS_isHopeless_77 ?_
      refine lv_goto (tgt := 82) hx hb dS_isHopeless_78 (by decide) ?_
      rw [hQ]
      exact iz_zret hx hb hr hlocks (Or.inr rfl) (Or.inl ⟨rfl, Or.inr (by rcases hr3 with ⟨rfl, -⟩ | ⟨-, h⟩; exact absurd g2 (by omega); exact h)⟩) (fun _ h => absurd h List.not_mem_nil) dS_isHopeless_82
  · refine iz_iconst hx hb dS_isHopeless_30 ?_
    rw [hQ]
    exact iz_zret hx hb hr hlocks (Or.inr rfl) (Or.inl ⟨rfl, Or.inl (by omega)⟩) (fun _ h => absurd h List.not_mem_nil) dS_isHopeless_31
abbrev rmT (d : Nat) : Room := { frames := 3 + d, cells := 0, slots := 0, locals := 100 + 40 * d }
set_option maxHeartbeats 8000000 in
set_option maxRecDepth 100000 in
/-- Shelf.tryKind(kind, missing, count, cost): the best of all choices of this kind and those behind it -/
theorem c_S_tryKind (l : Launch) (K : KG) (q Kn : Nat) (mu pr bg ch : Nat → Int) (sf : Int) (hok : ShOK Kn mu pr bg ch) : ∀ (d k : Nat), k + d = Kn → ∀ (tr bn : Nat → Int) (bp bc mi ct co : Int), (∀ i, k ≤ i → tr i = 0) → (0 ≤ bp ∧ bp ≤ 6000001) → (0 ≤ bc ∧ bc ≤ 61) → (mi ≤ 100000000000 ∧ -2000000000 ≤ mi) → (0 ≤ ct ∧ ct ≤ 60) → (0 ≤ co ∧ co ≤ ct * 100000) → Ct l yS_tryKind kS_tryKind (rmT d) (PC K [.ref q, .int (iI (k : Int)), .long (lI mi), .int (iI ct), .int (iI co)] (fun H => va_P (kD K) vcl (shW K q (Kn : Int) mu pr bg ch tr bn bp bc sf) H)) (QV (fun H => ∃ (bp' bc' : Int) (bn' : Nat → Int), py_R pr k d co ct tr (py_F mu k d mi ct) bp bc bn bp' bc' bn' ∧ (0 ≤ bp' ∧ bp' ≤ 6000001) ∧ (0 ≤ bc' ∧ bc' ≤ 61) ∧ va_P (kD K) vcl (shW K q (Kn : Int) mu pr bg ch tr bn' bp' bc' sf) H)) (fun x => q ≤ x ∧ x < q + 7) := by
  obtain ⟨hK4, hbd, hrk⟩ := id hok
  intro d
  induction d with
  | zero =>
    intro k hkd tr bn bp bc mi ct co htr hbp hbc hmi hct hco
    refine ct_of (by decide) (Or.inl ⟨rfl, rfl⟩) ?_
    intro p e s m args below meth c B0 hP0
    obtain ⟨hx, hb, hr, hml, hown, hlocks, hnm, htab⟩ := B0
    obtain ⟨ha, ⟨hT, hK⟩, hB⟩ := hP0
    have hl := lv_entry ([.ref q, .int (iI (k : Int)), .long (lI mi), .int (iI ct), .int (iI co)]) (n := 11) (Nat.le_of_ble_eq_true rfl)
    obtain ⟨Q, hQ⟩ : ∃ Q, Q = XQ below (QV (fun H => ∃ (bp' bc' : Int) (bn' : Nat → Int), py_R pr k 0 co ct tr (py_F mu k 0 mi ct) bp bc bn bp' bc' bn' ∧ (0 ≤ bp' ∧ bp' ≤ 6000001) ∧ (0 ≤ bc' ∧ bc' ≤ 61) ∧ va_P (kD K) vcl (shW K q (Kn : Int) mu pr bg ch tr bn' bp' bc' sf) H)) args s (rmT 0).cells (rmT 0).slots (fun x => q ≤ x ∧ x < q + 7) := ⟨_, rfl⟩
    rw [← hQ, ha, lg_entry_eq]
    rw [ha] at hQ
    generalize (lg_sl ([.ref q, .int (iI (k : Int)), .long (lI mi), .int (iI ct), .int (iI co)]) ++ List.replicate (11 - (lg_sl ([.ref q, .int (iI (k : Int)), .long (lI mi), .int (iI ct), .int (iI co)])).length) Slot.unset).toArray = ls at hl ⊢
    generalize ([.ref q, .int (iI (k : Int)), .long (lI mi), .int (iI ct), .int (iI co)] : List Value).toArray = args at hQ ⊢
    have hts : ∀ w ∈ TW, w.before args s = true := fun w h => hT w h args
    have hl : lv_has ls 11 [(0, .ref q), (1, .int (iI (k : Int))), (2, .long (lI mi)), (4, .int (iI ct)), (5, .int (iI co))] := hl
    obtain ⟨A, hAe⟩ : ∃ A : Addr → Prop, A = (fun x => q ≤ x ∧ x < q + 7) := ⟨_, rfl⟩
    rw [← hAe] at hQ
    have hS : va_S A s.heap s.heap [] := va_S.rf
    have hP : va_P (kD K) vcl [(q, .inr (2, [.int (iI (Kn : Int)), .ref (q + 1), .ref (q + 2), .ref (q + 3), .ref (q + 4), .ref (q + 5), .ref (q + 6), .int (iI bp), .int (iI bc), .long (lI sf)])), (q + 1, .inl (kI K, 4, .inl (iA mu))), (q + 2, .inl (kI K, 4, .inl (iA pr))), (q + 3, .inl (kI K, 4, .inl (iA bg))), (q + 4, .inl (kI K, 4, .inl (iA ch))), (q + 5, .inl (kI K, 4, .inl (iA tr))), (q + 6, .inl (kI K, 4, .inl (iA bn)))] s.heap := hB
    have hD : va_D A [(q, .inr (2, [.int (iI (Kn : Int)), .ref (q + 1), .ref (q + 2), .ref (q + 3), .ref (q + 4), .ref (q + 5), .ref (q + 6), .int (iI bp), .int (iI bc), .long (lI sf)])), (q + 1, .inl (kI K, 4, .inl (iA mu))), (q + 2, .inl (kI K, 4, .inl (iA pr))), (q + 3, .inl (kI K, 4, .inl (iA bg))), (q + 4, .inl (kI K, 4, .inl (iA ch))), (q + 5, .inl (kI K, 4, .inl (iA tr))), (q + 6, .inl (kI K, 4, .inl (iA bn)))] := by rw [hAe]; exact va_D_of (by simp) (by simp <;> omega)
    have hcp : ∀ i, k ≤ i → i < k + 0 → 1 ≤ pr i := fun i h1 h2 => (hbd i (by omega)).2.2.1
    refine lv_lload_n hx hb dS_tryKind_0 rfl (lv_at hl 2 rfl) ?_
    refine iz_lconst hx hb 0 rfl dS_tryKind_1 ?_
    refine iz_lc_gt (tgt := 15) hx hb ⟨by omega, by omega⟩ ⟨by omega, by omega⟩ dS_tryKind_2 dS_tryKind_3 (by decide) (fun g1 => ?_) (fun g1 => ?_)
    · refine lv_iload_n hx hb dS_tryKind_15 rfl (lv_at hl 1 rfl) ?_
      refine lv_aload_n hx hb dS_tryKind_16 rfl (lv_at hl 0 rfl) ?_
      refine va_get (D := kD K) (ci := 2) (v := .int (iI (Kn : Int))) (C := RS) (T := FS) (N := 10) hx hb hts jnS hown hK hP 0 rfl rfl 0 (by decide) (hts _ mt_52) (fun _ h9 => h9) rfl dS_tryKind_17 ?_
      refine iz_icmp_ge (tgt := 36) hx hb ⟨by omega, by omega⟩ ⟨by omega, by omega⟩ dS_tryKind_20 (by decide) (fun g2 => ?_) (fun g2 => ?_)
      · rw [hQ]
        exact iz_vret hx hb hr hlocks (⟨bp, bc, bn, py_R_end g1, hbp, hbc, hP⟩) hS.2.2 dS_tryKind_36
      · exact absurd g2 (by omega)
    · refine lv_aload_n hx hb dS_tryKind_6 rfl (lv_at hl 0 rfl) ?_
      refine lv_iload hx hb dS_tryKind_7 (lv_at hl 3 rfl) ?_
      refine lv_iload hx hb dS_tryKind_9 (lv_at hl 4 rfl) ?_
      refine ctV (n := 2) hx hb hml hown hT ⟨c_S_keep l K q (Kn : Int) mu pr bg ch tr bn bp bc sf ct co ⟨by omega, by omega⟩ ⟨by omega, by omega⟩ ⟨by omega, by omega⟩ ⟨by omega, by omega⟩, ⟨_, _, _, Or.inl ⟨rfl, rfl⟩⟩, mt_255, mt_3, by decide, by decide +kernel, by show 1 + 1 ≤ 3 + 0; omega, by show 8 + (3 + 11) + 60 ≤ 100 + 40 * 0; omega, Nat.le_of_ble_eq_true rfl, Nat.le_of_ble_eq_true rfl⟩ PC.blind mt_252 mt_254 ms_5 (va_RVof (ci := 2) (q0 := 0) hK hP rfl rfl) (As := [.int (iI ct), .int (iI co)]) (rest := []) rfl (PC.at ⟨hT, hK⟩ hP) hl.1 rfl (Nat.le_of_ble_eq_true rfl) dS_tryKind_11 (krV (c1 := 0) (s1 := 0) rfl rfl (fun t1 H L hA hL hpo => ?_))
      rcases hpo with ⟨hn, hP⟩ | ⟨hn, hP⟩
      · rw [hQ]
        exact iz_vret hx hb hr hlocks (⟨bp, bc, bn, (py_R_zero (mu := mu) (mi := mi) (tr := tr) (by omega) hct.2 hcp htr).1 hn, hbp, hbc, hP⟩) (fun x hx => by rw [hAe]; exact hL x (by simpa using hx)) dS_tryKind_14
      · obtain ⟨hR, -⟩ : py_R pr k 0 co ct tr (py_F mu k 0 mi ct) bp bc bn co ct (fun j => if j < 4 then tr j else bn j) ∧ True := by
          refine ⟨?_, trivial⟩
          rcases (py_R_zero (mu := mu) (mi := mi) (tr := tr) (bn := bn) (by omega) hct.2 hcp htr).2 hn with ⟨e1, e2, -, e4⟩ | ⟨n, e1, e2, e3, e4, e5⟩
          · exact absurd hn (by rw [← e1, ← e2]; unfold py_bt; omega)
          · exact Or.inr ⟨n, e1, e2, e3, fun i hi => (show (if i < 4 then tr i else bn i) = tr i from if_pos hi).trans (e4 i hi), e5⟩
        rw [hQ]
        exact iz_vret hx hb hr hlocks (⟨co, ct, (fun j => if j < 4 then tr j else bn j), hR, ⟨by omega, by omega⟩, ⟨by omega, by omega⟩, hP⟩) (fun x hx => by rw [hAe]; exact hL x (by simpa using hx)) dS_tryKind_14
  | succ d ih =>
    intro k hkd tr bn bp bc mi ct co htr hbp hbc hmi hct hco
    refine ct_of (by decide) (Or.inl ⟨rfl, rfl⟩) ?_
    intro p e s m args below meth c B0 hP0
    obtain ⟨hx, hb, hr, hml, hown, hlocks, hnm, htab⟩ := B0
    obtain ⟨ha, ⟨hT, hK⟩, hB⟩ := hP0
    have hl := lv_entry ([.ref q, .int (iI (k : Int)), .long (lI mi), .int (iI ct), .int (iI co)]) (n := 11) (Nat.le_of_ble_eq_true rfl)
    obtain ⟨Q, hQ⟩ : ∃ Q, Q = XQ below (QV (fun H => ∃ (bp' bc' : Int) (bn' : Nat → Int), py_R pr k (d + 1) co ct tr (py_F mu k (d + 1) mi ct) bp bc bn bp' bc' bn' ∧ (0 ≤ bp' ∧ bp' ≤ 6000001) ∧ (0 ≤ bc' ∧ bc' ≤ 61) ∧ va_P (kD K) vcl (shW K q (Kn : Int) mu pr bg ch tr bn' bp' bc' sf) H)) args s (rmT (d + 1)).cells (rmT (d + 1)).slots (fun x => q ≤ x ∧ x < q + 7) := ⟨_, rfl⟩
    rw [← hQ, ha, lg_entry_eq]
    rw [ha] at hQ
    generalize (lg_sl ([.ref q, .int (iI (k : Int)), .long (lI mi), .int (iI ct), .int (iI co)]) ++ List.replicate (11 - (lg_sl ([.ref q, .int (iI (k : Int)), .long (lI mi), .int (iI ct), .int (iI co)])).length) Slot.unset).toArray = ls at hl ⊢
    generalize ([.ref q, .int (iI (k : Int)), .long (lI mi), .int (iI ct), .int (iI co)] : List Value).toArray = args at hQ ⊢
    have hts : ∀ w ∈ TW, w.before args s = true := fun w h => hT w h args
    have hl : lv_has ls 11 [(0, .ref q), (1, .int (iI (k : Int))), (2, .long (lI mi)), (4, .int (iI ct)), (5, .int (iI co))] := hl
    obtain ⟨A, hAe⟩ : ∃ A : Addr → Prop, A = (fun x => q ≤ x ∧ x < q + 7) := ⟨_, rfl⟩
    rw [← hAe] at hQ
    have hS : va_S A s.heap s.heap [] := va_S.rf
    have hP : va_P (kD K) vcl [(q, .inr (2, [.int (iI (Kn : Int)), .ref (q + 1), .ref (q + 2), .ref (q + 3), .ref (q + 4), .ref (q + 5), .ref (q + 6), .int (iI bp), .int (iI bc), .long (lI sf)])), (q + 1, .inl (kI K, 4, .inl (iA mu))), (q + 2, .inl (kI K, 4, .inl (iA pr))), (q + 3, .inl (kI K, 4, .inl (iA bg))), (q + 4, .inl (kI K, 4, .inl (iA ch))), (q + 5, .inl (kI K, 4, .inl (iA tr))), (q + 6, .inl (kI K, 4, .inl (iA bn)))] s.heap := hB
    have hD : va_D A [(q, .inr (2, [.int (iI (Kn : Int)), .ref (q + 1), .ref (q + 2), .ref (q + 3), .ref (q + 4), .ref (q + 5), .ref (q + 6), .int (iI bp), .int (iI bc), .long (lI sf)])), (q + 1, .inl (kI K, 4, .inl (iA mu))), (q + 2, .inl (kI K, 4, .inl (iA pr))), (q + 3, .inl (kI K, 4, .inl (iA bg))), (q + 4, .inl (kI K, 4, .inl (iA ch))), (q + 5, .inl (kI K, 4, .inl (iA tr))), (q + 6, .inl (kI K, 4, .inl (iA bn)))] := by rw [hAe]; exact va_D_of (by simp) (by simp <;> omega)
    have hcp : ∀ i, k ≤ i → i < k + (d + 1) → 1 ≤ pr i := fun i h1 h2 => (hbd i (by omega)).2.2.1
    refine lv_lload_n hx hb dS_tryKind_0 rfl (lv_at hl 2 rfl) ?_
    refine iz_lconst hx hb 0 rfl dS_tryKind_1 ?_
    refine iz_lc_gt (tgt := 15) hx hb ⟨by omega, by omega⟩ ⟨by omega, by omega⟩ dS_tryKind_2 dS_tryKind_3 (by decide) (fun g1 => ?_) (fun g1 => ?_)
    · refine lv_iload_n hx hb dS_tryKind_15 rfl (lv_at hl 1 rfl) ?_
      refine lv_aload_n hx hb dS_tryKind_16 rfl (lv_at hl 0 rfl) ?_
      refine va_get (D := kD K) (ci := 2) (v := .int (iI (Kn : Int))) (C := RS) (T := FS) (N := 10) hx hb hts jnS hown hK hP 0 rfl rfl 0 (by decide) (hts _ mt_52) (fun _ h9 => h9) rfl dS_tryKind_17 ?_
      refine iz_icmp_ge (tgt := 36) hx hb ⟨by omega, by omega⟩ ⟨by omega, by omega⟩ dS_tryKind_20 (by decide) (fun g2 => ?_) (fun g2 => ?_)
      · exact absurd g2 (by omega)
      · obtain ⟨bi, ci, hbi, hci, hb4, hc4, hbm, hcm⟩ := hrk k (by omega)
        have qk := hbd k (by omega)
        have qb := hbd bi hb4
        have qc := hbd ci hc4
        refine lv_aload_n hx hb dS_tryKind_23 rfl (lv_at hl 0 rfl) ?_
        refine lv_iload_n hx hb dS_tryKind_24 rfl (lv_at hl 1 rfl) ?_
        refine lv_lload_n hx hb dS_tryKind_25 rfl (lv_at hl 2 rfl) ?_
        refine lv_iload hx hb dS_tryKind_26 (lv_at hl 3 rfl) ?_
        refine lv_iload hx hb dS_tryKind_28 (lv_at hl 4 rfl) ?_
        refine ctV (n := 4) hx hb hml hown hT ⟨c_S_hopeless l K q (Kn : Int) mu pr bg ch tr bn bp bc sf k bi ci mi ct co (by omega) hbi (by omega) hci (by omega) ⟨by omega, by omega⟩ ⟨by omega, by omega⟩ ⟨by omega, by omega⟩ ⟨by omega, by omega⟩ hct ⟨by omega, by omega⟩ ⟨by omega, by omega⟩ ⟨by omega, by omega⟩, ⟨_, _, _, Or.inl ⟨rfl, rfl⟩⟩, mt_266, mt_3, by decide, by decide +kernel, by show 1 + 1 ≤ 3 + (d + 1); omega, by show 8 + (11 + 11) + 60 ≤ 100 + 40 * (d + 1); omega, Nat.le_of_ble_eq_true rfl, Nat.le_of_ble_eq_true rfl⟩ PC.blind mt_263 mt_265 ms_7 (va_RVof (ci := 2) (q0 := 0) hK hP rfl rfl) (As := [.int (iI (k : Int)), .long (lI mi), .int (iI ct), .int (iI co)]) (rest := []) rfl (PC.at ⟨hT, hK⟩ hP) hl.1 rfl (Nat.le_of_ble_eq_true rfl) dS_tryKind_30 (krI0 rfl rfl (fun _ h => h) (fun r hr9 => ?_))
        refine iz_if_eq (tgt := 37) hx hb (by rcases hr9 with ⟨rfl, -⟩ | rfl <;> exact ⟨by omega, by omega⟩) dS_tryKind_33 (by decide) (fun g3 => ?_) (fun g3 => ?_)
        · refine lv_lload_n hx hb dS_tryKind_37 rfl (lv_at hl 2 rfl) ?_
          refine lv_aload_n hx hb dS_tryKind_38 rfl (lv_at hl 0 rfl) ?_
          refine va_get (D := kD K) (ci := 2) (v := .ref (q + 1)) (C := RS) (T := FS) (N := 10) hx hb hts jnS hown hK hP 0 rfl rfl 1 (by decide) (hts _ mt_54) (fun _ h9 => h9) rfl dS_tryKind_39 ?_
          refine lv_iload_n hx hb dS_tryKind_42 rfl (lv_at hl 1 rfl) ?_
          refine iz_iald hx hb hK hP 1 rfl k rfl (by omega) (by omega) dS_tryKind_43 ?_
          refine ctSN (n := 2) hx hb hml hown hT ⟨c_X_ratio l K mi (mu k) (by omega) (by omega) (by omega) (by omega), ⟨_, _, _, Or.inl ⟨rfl, rfl⟩⟩, mt_226, mt_1, by decide, by decide +kernel, by show 0 + 1 ≤ 3 + (d + 1); omega, by show 8 + (3 + 11) + 0 ≤ 100 + 40 * (d + 1); omega, Nat.le_of_ble_eq_true rfl, Nat.le_of_ble_eq_true rfl⟩ PC.blind mt_240 mt_225 (As := [.long (lI mi), .int (iI (mu k))]) (rest := []) rfl (PC.at ⟨hT, hK⟩ trivial) hl.1 rfl (Nat.le_of_ble_eq_true rfl) dS_tryKind_44 (krL0 rfl rfl (fun _ h => h) (fun en hen => ?_))
          have hc1 := cdiv_bd (show 0 < mu k by omega) (show 0 ≤ mi by omega)
          have hc3 := cdiv_ub (a := mi) (show 0 < mu k by omega)
          rw [← hen] at hc1 hc3
          refine lv_lstore (lv' := [(6, .long (lI en)), (0, .ref q), (1, .int (iI (k : Int))), (2, .long (lI mi)), (4, .int (iI ct)), (5, .int (iI co))]) hx hb dS_tryKind_47 hl (by decide) rfl (fun ls hl => ?_)
          refine lv_lload hx hb dS_tryKind_49 (lv_at hl 0 rfl) ?_
          refine iz_bipush hx hb dS_tryKind_51 (by decide) ?_
          refine lv_iload hx hb dS_tryKind_53 (lv_at hl 4 rfl) ?_
          refine iz_isub hx hb dS_tryKind_55 ?_
          refine iz_i2l hx hb ⟨by omega, by omega⟩ dS_tryKind_56 ?_
          refine iz_minL hx hb hml hl.1 hown hT mt_242 (by show 1 ≤ 3 + (d + 1); omega) (by show _ ≤ 100 + 40 * (d + 1); show 0 + 15 ≤ 100 + 40 * (d + 1); omega) (Nat.le_of_ble_eq_true rfl) (Nat.le_of_ble_eq_true rfl) ⟨by omega, by omega⟩ ⟨by omega, by omega⟩ dS_tryKind_57 ?_
          obtain ⟨mo, hmo⟩ : ∃ mo : Int, mo = if 60 - ct < en then 60 - ct else en := ⟨_, rfl⟩
          rw [← hmo]
          have hmb : 0 ≤ mo ∧ mo ≤ 60 - ct ∧ mo ≤ en := by rw [hmo]; split <;> omega
          have loop : ∀ (j : Nat) (v le : Int), le = (if d = 0 then mo else 0) → v + 1 - le = j → v ≤ mo → ∀ (bp1 bc1 x : Int) (bn1 : Nat → Int), (0 ≤ bp1 ∧ bp1 ≤ 6000001) → (0 ≤ bc1 ∧ bc1 ≤ 61) → py_R pr k (d + 1) co ct tr (fun n => py_F mu k (d + 1) mi ct n ∧ v < n k ∧ n k ≤ mo) bp bc bn bp1 bc1 bn1 → ∀ (H : Heap) (locs : List Loc), va_P (kD K) vcl [(q, .inr (2, [.int (iI (Kn : Int)), .ref (q + 1), .ref (q + 2), .ref (q + 3), .ref (q + 4), .ref (q + 5), .ref (q + 6), .int (iI bp1), .int (iI bc1), .long (lI sf)])), (q + 1, .inl (kI K, 4, .inl (iA mu))), (q + 2, .inl (kI K, 4, .inl (iA pr))), (q + 3, .inl (kI K, 4, .inl (iA bg))), (q + 4, .inl (kI K, 4, .inl (iA ch))), (q + 5, .inl (kI K, 4, .inl (iA (ut tr k x)))), (q + 6, .inl (kI K, 4, .inl (iA bn1)))] H → va_D A [(q, .inr (2, [.int (iI (Kn : Int)), .ref (q + 1), .ref (q + 2), .ref (q + 3), .ref (q + 4), .ref (q + 5), .ref (q + 6), .int (iI bp1), .int (iI bc1), .long (lI sf)])), (q + 1, .inl (kI K, 4, .inl (iA mu))), (q + 2, .inl (kI K, 4, .inl (iA pr))), (q + 3, .inl (kI K, 4, .inl (iA bg))), (q + 4, .inl (kI K, 4, .inl (iA ch))), (q + 5, .inl (kI K, 4, .inl (iA (ut tr k x)))), (q + 6, .inl (kI K, 4, .inl (iA bn1)))] → va_S A s.heap H locs → ∀ ls : Array Slot, lv_has ls 11 [(0, .ref q), (1, .int (iI (k : Int))), (2, .long (lI mi)), (4, .int (iI ct)), (5, .int (iI co)), (8, .int (iI mo)), (9, .int (iI le)), (10, .int (iI v))] → W p l e (rmT (d + 1)) s m args below meth c H locs 0 0 Q (F0 m 85 ls []) := by
            intro j
            induction j with
            | zero =>
              intro v le hle hj hv bp1 bc1 x bn1 hb1 hb2 hR H locs hP hD hS ls hl
              have hle0 : 0 ≤ le ∧ le ≤ mo := by rw [hle]; split <;> omega
              refine lv_iload hx hb dS_tryKind_85 (lv_at hl 7 rfl) ?_
              refine lv_iload hx hb dS_tryKind_87 (lv_at hl 6 rfl) ?_
              refine iz_icmp_lt (tgt := 143) hx hb ⟨by omega, by omega⟩ ⟨by omega, by omega⟩ dS_tryKind_89 (by decide) (fun g4 => ?_) (fun g4 => ?_)
              · refine lv_aload_n hx hb dS_tryKind_143 rfl (lv_at hl 0 rfl) ?_
                refine va_get (D := kD K) (ci := 2) (v := .ref (q + 5)) (C := RS) (T := FS) (N := 10) hx hb hts jnS hown hK hP 0 rfl rfl 5 (by decide) (hts _ mt_58) (fun _ h9 => h9) rfl dS_tryKind_144 ?_
                refine lv_iload_n hx hb dS_tryKind_147 rfl (lv_at hl 1 rfl) ?_
                refine iz_iconst hx hb dS_tryKind_148 ?_
                refine iz_iast hx hb hK hP hD hS 5 rfl k rfl (by omega) (by omega) dS_tryKind_149 ?_
                clear hP hD hS
                intro H locs hP hD hS
                replace hP : va_P (kD K) vcl [(q, .inr (2, [.int (iI (Kn : Int)), .ref (q + 1), .ref (q + 2), .ref (q + 3), .ref (q + 4), .ref (q + 5), .ref (q + 6), .int (iI bp1), .int (iI bc1), .long (lI sf)])), (q + 1, .inl (kI K, 4, .inl (iA mu))), (q + 2, .inl (kI K, 4, .inl (iA pr))), (q + 3, .inl (kI K, 4, .inl (iA bg))), (q + 4, .inl (kI K, 4, .inl (iA ch))), (q + 5, .inl (kI K, 4, .inl (iA (ut (ut tr k x) k 0)))), (q + 6, .inl (kI K, 4, .inl (iA bn1)))] H := hP
                replace hD : va_D A [(q, .inr (2, [.int (iI (Kn : Int)), .ref (q + 1), .ref (q + 2), .ref (q + 3), .ref (q + 4), .ref (q + 5), .ref (q + 6), .int (iI bp1), .int (iI bc1), .long (lI sf)])), (q + 1, .inl (kI K, 4, .inl (iA mu))), (q + 2, .inl (kI K, 4, .inl (iA pr))), (q + 3, .inl (kI K, 4, .inl (iA bg))), (q + 4, .inl (kI K, 4, .inl (iA ch))), (q + 5, .inl (kI K, 4, .inl (iA (ut (ut tr k x) k 0)))), (q + 6, .inl (kI K, 4, .inl (iA bn1)))] := hD
                rw [ut_ut, ut_id tr k (htr k (by omega))] at hP
                rw [hQ]
                exact iz_vret hx hb hr hlocks (⟨bp1, bc1, bn1, py_R_all (most := mo) (least := le) (by omega) (fun i h1 h2 => (hbd i (by omega)).1) hcp hct.2 (by rw [hmo, hen]) hle (py_R_congr (fun n => ⟨fun h => ⟨h.1, by omega, h.2.2⟩, fun h => ⟨h.1, by omega, h.2.2⟩⟩) hR), hb1, hb2, hP⟩) hS.2.2 dS_tryKind_150
              · exact absurd g4 (by omega)
            | succ j ihj =>
              intro v le hle hj hv bp1 bc1 x bn1 hb1 hb2 hR H locs hP hD hS ls hl
              have hle0 : 0 ≤ le ∧ le ≤ mo := by rw [hle]; split <;> omega
              refine lv_iload hx hb dS_tryKind_85 (lv_at hl 7 rfl) ?_
              refine lv_iload hx hb dS_tryKind_87 (lv_at hl 6 rfl) ?_
              refine iz_icmp_lt (tgt := 143) hx hb ⟨by omega, by omega⟩ ⟨by omega, by omega⟩ dS_tryKind_89 (by decide) (fun g4 => ?_) (fun g4 => ?_)
              · exact absurd g4 (by omega)
              · have hv1 := mul_bd (show 0 ≤ v by omega) (show v ≤ en by omega) (show 0 ≤ mu k by omega) (Int.le_refl (mu k))
                have hv2 := mul_bd (show 0 ≤ v by omega) (Int.le_refl v) (show 0 ≤ pr k by omega) qk.2.2.2
                refine lv_aload_n hx hb dS_tryKind_92 rfl (lv_at hl 0 rfl) ?_
                refine va_get (D := kD K) (ci := 2) (v := .ref (q + 5)) (C := RS) (T := FS) (N := 10) hx hb hts jnS hown hK hP 0 rfl rfl 5 (by decide) (hts _ mt_58) (fun _ h9 => h9) rfl dS_tryKind_93 ?_
                refine lv_iload_n hx hb dS_tryKind_96 rfl (lv_at hl 1 rfl) ?_
                refine lv_iload hx hb dS_tryKind_97 (lv_at hl 7 rfl) ?_
                refine iz_iast hx hb hK hP hD hS 5 rfl k rfl (by omega) (by omega) dS_tryKind_99 ?_
                clear hP hD hS
                intro H locs hP hD hS
                replace hP : va_P (kD K) vcl [(q, .inr (2, [.int (iI (Kn : Int)), .ref (q + 1), .ref (q + 2), .ref (q + 3), .ref (q + 4), .ref (q + 5), .ref (q + 6), .int (iI bp1), .int (iI bc1), .long (lI sf)])), (q + 1, .inl (kI K, 4, .inl (iA mu))), (q + 2, .inl (kI K, 4, .inl (iA pr))), (q + 3, .inl (kI K, 4, .inl (iA bg))), (q + 4, .inl (kI K, 4, .inl (iA ch))), (q + 5, .inl (kI K, 4, .inl (iA (ut (ut tr k x) k v)))), (q + 6, .inl (kI K, 4, .inl (iA bn1)))] H := hP
                replace hD : va_D A [(q, .inr (2, [.int (iI (Kn : Int)), .ref (q + 1), .ref (q + 2), .ref (q + 3), .ref (q + 4), .ref (q + 5), .ref (q + 6), .int (iI bp1), .int (iI bc1), .long (lI sf)])), (q + 1, .inl (kI K, 4, .inl (iA mu))), (q + 2, .inl (kI K, 4, .inl (iA pr))), (q + 3, .inl (kI K, 4, .inl (iA bg))), (q + 4, .inl (kI K, 4, .inl (iA ch))), (q + 5, .inl (kI K, 4, .inl (iA (ut (ut tr k x) k v)))), (q + 6, .inl (kI K, 4, .inl (iA bn1)))] := hD
                refine lv_aload_n hx hb dS_tryKind_100 rfl (lv_at hl 0 rfl) ?_
                refine lv_iload_n hx hb dS_tryKind_101 rfl (lv_at hl 1 rfl) ?_
                refine iz_iconst hx hb dS_tryKind_102 ?_
                refine iz_iadd hx hb dS_tryKind_103 ?_
                refine lv_lload_n hx hb dS_tryKind_104 rfl (lv_at hl 2 rfl) ?_
                refine lv_iload hx hb dS_tryKind_105 (lv_at hl 7 rfl) ?_
                refine iz_i2l hx hb ⟨by omega, by omega⟩ dS_tryKind_107 ?_
                refine lv_aload_n hx hb dS_tryKind_108 rfl (lv_at hl 0 rfl) ?_
                refine va_get (D := kD K) (ci := 2) (v := .ref (q + 1)) (C := RS) (T := FS) (N := 10) hx hb hts jnS hown hK hP 0 rfl rfl 1 (by decide) (hts _ mt_54) (fun _ h9 => h9) rfl dS_tryKind_109 ?_
                refine lv_iload_n hx hb dS_tryKind_112 rfl (lv_at hl 1 rfl) ?_
                refine iz_iald hx hb hK hP 1 rfl k rfl (by omega) (by omega) dS_tryKind_113 ?_
                refine iz_i2l hx hb ⟨by omega, by omega⟩ dS_tryKind_114 ?_
                refine iz_lmul hx hb dS_tryKind_115 ?_
                refine iz_lsub hx hb dS_tryKind_116 ?_
                refine lv_iload hx hb dS_tryKind_117 (lv_at hl 3 rfl) ?_
                refine lv_iload hx hb dS_tryKind_119 (lv_at hl 7 rfl) ?_
                refine iz_iadd hx hb dS_tryKind_121 ?_
                refine lv_iload hx hb dS_tryKind_122 (lv_at hl 4 rfl) ?_
                refine lv_iload hx hb dS_tryKind_124 (lv_at hl 7 rfl) ?_
                refine lv_aload_n hx hb dS_tryKind_126 rfl (lv_at hl 0 rfl) ?_
                refine va_get (D := kD K) (ci := 2) (v := .ref (q + 2)) (C := RS) (T := FS) (N := 10) hx hb hts jnS hown hK hP 0 rfl rfl 2 (by decide) (hts _ mt_55) (fun _ h9 => h9) rfl dS_tryKind_127 ?_
                refine lv_iload_n hx hb dS_tryKind_130 rfl (lv_at hl 1 rfl) ?_
                refine iz_iald hx hb hK hP 2 rfl k rfl (by omega) (by omega) dS_tryKind_131 ?_
                refine iz_imul hx hb dS_tryKind_132 ?_
                refine iz_iadd hx hb dS_tryKind_133 ?_
                rw [ut_ut] at hP hD
                refine ctV (n := 4) hx hb hml hown hT ⟨ih (k + 1) (by omega) (ut tr k v) bn1 bp1 bc1 (mi - v * mu k) (ct + v) (co + v * pr k) (fun i hi => by rw [ut_n tr v (show i ≠ k by omega)]; exact htr i (by omega)) hb1 hb2 ⟨by omega, by omega⟩ ⟨by omega, by omega⟩ ⟨by omega, by omega⟩, ⟨_, _, _, Or.inl ⟨rfl, rfl⟩⟩, mt_251, mt_3, by decide, by decide +kernel, by show 3 + d + 1 ≤ 3 + (d + 1); omega, by show 8 + (11 + 11) + (100 + 40 * d) ≤ 100 + 40 * (d + 1); omega, Nat.le_of_ble_eq_true rfl, Nat.le_of_ble_eq_true rfl⟩ PC.blind mt_248 mt_250 ms_4 (va_RVof (ci := 2) (q0 := 0) hK hP rfl rfl) (As := [.int (iI ((k : Int) + 1)), .long (lI (mi - (v * (mu k)))), .int (iI (ct + v)), .int (iI (co + (v * (pr k))))]) (rest := []) rfl (PC.at ⟨hT, hK⟩ hP) hl.1 rfl (Nat.le_of_ble_eq_true rfl) dS_tryKind_134 (krV (c1 := 0) (s1 := 0) rfl rfl (fun t1 H1 L hA hL hpo => ?_))
                obtain ⟨bp2, bc2, bn2, hR2, hb3, hb4, hP⟩ := hpo
                have hS := hA.S hS (fun x hx => by rw [hAe]; exact hx) hL
                have hD : va_D A [(q, .inr (2, [.int (iI (Kn : Int)), .ref (q + 1), .ref (q + 2), .ref (q + 3), .ref (q + 4), .ref (q + 5), .ref (q + 6), .int (iI bp2), .int (iI bc2), .long (lI sf)])), (q + 1, .inl (kI K, 4, .inl (iA mu))), (q + 2, .inl (kI K, 4, .inl (iA pr))), (q + 3, .inl (kI K, 4, .inl (iA bg))), (q + 4, .inl (kI K, 4, .inl (iA ch))), (q + 5, .inl (kI K, 4, .inl (iA (ut tr k v)))), (q + 6, .inl (kI K, 4, .inl (iA bn2)))] := by rw [hAe]; exact va_D_of (by simp) (by simp <;> omega)
                refine iz_iinc (k := 7) (lv' := [(10, .int (iI (v + (-1)))), (0, .ref q), (1, .int (iI (k : Int))), (2, .long (lI mi)), (4, .int (iI ct)), (5, .int (iI co)), (8, .int (iI mo)), (9, .int (iI le))]) hx hb dS_tryKind_137 hl rfl (by decide) rfl (fun ls hl => ?_)
                refine lv_goto (tgt := 85) hx hb dS_tryKind_140 (by decide) ?_
                exact ihj (v + -1) le hle (by omega) (by omega) bp2 bc2 v bn2 hb3 hb4 (py_R_two hR (py_R_lift (mu := mu) (mi := mi) (by omega) hR2) (fun n => ⟨fun h => by by_cases e : n k = v; exact Or.inr ⟨h.1, e⟩; exact Or.inl ⟨h.1, by omega, h.2.2⟩, fun h => by rcases h with h | h; exact ⟨h.1, by omega, h.2.2⟩; exact ⟨h.1, by omega, by omega⟩⟩) (fun n n' h1 h2 => Or.inl (by omega))) H1 _ hP hD hS ls (lv_sub hl [1, 2, 3, 4, 5, 6, 7, 0] rfl)
          refine iz_l2i hx hb dS_tryKind_60 ?_
          refine lv_istore (lv' := [(8, .int (iI mo)), (6, .long (lI en)), (0, .ref q), (1, .int (iI (k : Int))), (2, .long (lI mi)), (4, .int (iI ct)), (5, .int (iI co))]) hx hb dS_tryKind_61 hl (by decide) rfl (fun ls hl => ?_)
          refine lv_iload_n hx hb dS_tryKind_63 rfl (lv_at hl 3 rfl) ?_
          refine lv_aload_n hx hb dS_tryKind_64 rfl (lv_at hl 2 rfl) ?_
          refine va_get (D := kD K) (ci := 2) (v := .int (iI (Kn : Int))) (C := RS) (T := FS) (N := 10) hx hb hts jnS hown hK hP 0 rfl rfl 0 (by decide) (hts _ mt_52) (fun _ h9 => h9) rfl dS_tryKind_65 ?_
          refine iz_iconst hx hb dS_tryKind_68 ?_
          refine iz_isub hx hb dS_tryKind_69 ?_
          refine iz_icmp_ne (tgt := 78) hx hb ⟨by omega, by omega⟩ ⟨by omega, by omega⟩ dS_tryKind_70 (by decide) (fun g5 => ?_) (fun g5 => ?_)
          · refine iz_iconst hx hb dS_tryKind_78 ?_
            refine lv_istore (lv' := [(9, .int (iI 0)), (8, .int (iI mo)), (6, .long (lI en)), (0, .ref q), (1, .int (iI (k : Int))), (2, .long (lI mi)), (4, .int (iI ct)), (5, .int (iI co))]) hx hb dS_tryKind_79 hl (by decide) rfl (fun ls hl => ?_)
            refine lv_iload hx hb dS_tryKind_81 (lv_at hl 1 rfl) ?_
            refine lv_istore (lv' := [(10, .int (iI mo)), (9, .int (iI 0)), (8, .int (iI mo)), (6, .long (lI en)), (0, .ref q), (1, .int (iI (k : Int))), (2, .long (lI mi)), (4, .int (iI ct)), (5, .int (iI co))]) hx hb dS_tryKind_83 hl (by decide) rfl (fun ls hl => ?_)
            have hP : va_P (kD K) vcl [(q, .inr (2, [.int (iI (Kn : Int)), .ref (q + 1), .ref (q + 2), .ref (q + 3), .ref (q + 4), .ref (q + 5), .ref (q + 6), .int (iI bp), .int (iI bc), .long (lI sf)])), (q + 1, .inl (kI K, 4, .inl (iA mu))), (q + 2, .inl (kI K, 4, .inl (iA pr))), (q + 3, .inl (kI K, 4, .inl (iA bg))), (q + 4, .inl (kI K, 4, .inl (iA ch))), (q + 5, .inl (kI K, 4, .inl (iA (ut tr k 0)))), (q + 6, .inl (kI K, 4, .inl (iA bn)))] s.heap := by rw [ut_id tr k (htr k (by omega))]; exact hP
            have hD : va_D A [(q, .inr (2, [.int (iI (Kn : Int)), .ref (q + 1), .ref (q + 2), .ref (q + 3), .ref (q + 4), .ref (q + 5), .ref (q + 6), .int (iI bp), .int (iI bc), .long (lI sf)])), (q + 1, .inl (kI K, 4, .inl (iA mu))), (q + 2, .inl (kI K, 4, .inl (iA pr))), (q + 3, .inl (kI K, 4, .inl (iA bg))), (q + 4, .inl (kI K, 4, .inl (iA ch))), (q + 5, .inl (kI K, 4, .inl (iA (ut tr k 0)))), (q + 6, .inl (kI K, 4, .inl (iA bn)))] := by rw [hAe]; exact va_D_of (by simp) (by simp <;> omega)
            exact loop (mo + 1 - 0).toNat mo 0 (by rw [if_neg (by omega)]) (by omega) (by omega) bp bc 0 bn hbp hbc (py_R_none (fun n hn => absurd hn.2 (by omega))) s.heap [] hP hD hS ls (lv_sub hl [4, 5, 6, 7, 8, 2, 1, 0] rfl)
          · refine lv_iload hx hb dS_tryKind_73 (lv_at hl 0 rfl) ?_
            refine lv_goto (tgt := 79) hx hb dS_tryKind_75 (by decide) ?_
            refine lv_istore (lv' := [(9, .int (iI mo)), (8, .int (iI mo)), (6, .long (lI en)), (0, .ref q), (1, .int (iI (k : Int))), (2, .long (lI mi)), (4, .int (iI ct)), (5, .int (iI co))]) hx hb dS_tryKind_79 hl (by decide) rfl (fun ls hl => ?_)
            refine lv_iload hx hb dS_tryKind_81 (lv_at hl 1 rfl) ?_
            refine lv_istore (lv' := [(10, .int (iI mo)), (9, .int (iI mo)), (8, .int (iI mo)), (6, .long (lI en)), (0, .ref q), (1, .int (iI (k : Int))), (2, .long (lI mi)), (4, .int (iI ct)), (5, .int (iI co))]) hx hb dS_tryKind_83 hl (by decide) rfl (fun ls hl => ?_)
            have hP : va_P (kD K) vcl [(q, .inr (2, [.int (iI (Kn : Int)), .ref (q + 1), .ref (q + 2), .ref (q + 3), .ref (q + 4), .ref (q + 5), .ref (q + 6), .int (iI bp), .int (iI bc), .long (lI sf)])), (q + 1, .inl (kI K, 4, .inl (iA mu))), (q + 2, .inl (kI K, 4, .inl (iA pr))), (q + 3, .inl (kI K, 4, .inl (iA bg))), (q + 4, .inl (kI K, 4, .inl (iA ch))), (q + 5, .inl (kI K, 4, .inl (iA (ut tr k 0)))), (q + 6, .inl (kI K, 4, .inl (iA bn)))] s.heap := by rw [ut_id tr k (htr k (by omega))]; exact hP
            have hD : va_D A [(q, .inr (2, [.int (iI (Kn : Int)), .ref (q + 1), .ref (q + 2), .ref (q + 3), .ref (q + 4), .ref (q + 5), .ref (q + 6), .int (iI bp), .int (iI bc), .long (lI sf)])), (q + 1, .inl (kI K, 4, .inl (iA mu))), (q + 2, .inl (kI K, 4, .inl (iA pr))), (q + 3, .inl (kI K, 4, .inl (iA bg))), (q + 4, .inl (kI K, 4, .inl (iA ch))), (q + 5, .inl (kI K, 4, .inl (iA (ut tr k 0)))), (q + 6, .inl (kI K, 4, .inl (iA bn)))] := by rw [hAe]; exact va_D_of (by simp) (by simp <;> omega)
            exact loop (mo + 1 - mo).toNat mo mo (by rw [if_pos (by omega)]) (by omega) (by omega) bp bc 0 bn hbp hbc (py_R_none (fun n hn => absurd hn.2 (by omega))) s.heap [] hP hD hS ls (lv_sub hl [4, 5, 6, 7, 8, 2, 1, 0] rfl)
        · rw [hQ]
          exact iz_vret hx hb hr hlocks (⟨bp, bc, bn, py_R_hopeless (big := bi) (ch := ci) (by omega) (fun i h1 h2 => hbm i h1 (by omega)) (by omega) (by omega) (fun i h1 h2 => hcm i h1 (by omega)) (by rcases hr9 with ⟨-, h⟩ | h; exact h; exact absurd h g3), hbp, hbc, hP⟩) hS.2.2 dS_tryKind_36
    · refine lv_aload_n hx hb dS_tryKind_6 rfl (lv_at hl 0 rfl) ?_
      refine lv_iload hx hb dS_tryKind_7 (lv_at hl 3 rfl) ?_
      refine lv_iload hx hb dS_tryKind_9 (lv_at hl 4 rfl) ?_
      refine ctV (n := 2) hx hb hml hown hT ⟨c_S_keep l K q (Kn : Int) mu pr bg ch tr bn bp bc sf ct co ⟨by omega, by omega⟩ ⟨by omega, by omega⟩ ⟨by omega, by omega⟩ ⟨by omega, by omega⟩, ⟨_, _, _, Or.inl ⟨rfl, rfl⟩⟩, mt_255, mt_3, by decide, by decide +kernel, by show 1 + 1 ≤ 3 + (d + 1); omega, by show 8 + (3 + 11) + 60 ≤ 100 + 40 * (d + 1); omega, Nat.le_of_ble_eq_true rfl, Nat.le_of_ble_eq_true rfl⟩ PC.blind mt_252 mt_254 ms_5 (va_RVof (ci := 2) (q0 := 0) hK hP rfl rfl) (As := [.int (iI ct), .int (iI co)]) (rest := []) rfl (PC.at ⟨hT, hK⟩ hP) hl.1 rfl (Nat.le_of_ble_eq_true rfl) dS_tryKind_11 (krV (c1 := 0) (s1 := 0) rfl rfl (fun t1 H L hA hL hpo => ?_))
      rcases hpo with ⟨hn, hP⟩ | ⟨hn, hP⟩
      · rw [hQ]
        exact iz_vret hx hb hr hlocks (⟨bp, bc, bn, (py_R_zero (mu := mu) (mi := mi) (tr := tr) (by omega) hct.2 hcp htr).1 hn, hbp, hbc, hP⟩) (fun x hx => by rw [hAe]; exact hL x (by simpa using hx)) dS_tryKind_14
      · obtain ⟨hR, -⟩ : py_R pr k (d + 1) co ct tr (py_F mu k (d + 1) mi ct) bp bc bn co ct (fun j => if j < 4 then tr j else bn j) ∧ True := by
          refine ⟨?_, trivial⟩
          rcases (py_R_zero (mu := mu) (mi := mi) (tr := tr) (bn := bn) (by omega) hct.2 hcp htr).2 hn with ⟨e1, e2, -, e4⟩ | ⟨n, e1, e2, e3, e4, e5⟩
          · exact absurd hn (by rw [← e1, ← e2]; unfold py_bt; omega)
          · exact Or.inr ⟨n, e1, e2, e3, fun i hi => (show (if i < 4 then tr i else bn i) = tr i from if_pos hi).trans (e4 i hi), e5⟩
        rw [hQ]
        exact iz_vret hx hb hr hlocks (⟨co, ct, (fun j => if j < 4 then tr j else bn j), hR, ⟨by omega, by omega⟩, ⟨by omega, by omega⟩, hP⟩) (fun x hx => by rw [hAe]; exact hL x (by simpa using hx)) dS_tryKind_14
