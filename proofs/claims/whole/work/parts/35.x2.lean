-- class LayerQuantities: packages and bars
abbrev rmX_pack : Room := { frames := 8, cells := 4, slots := 24, locals := 140 }
set_option maxHeartbeats 4000000 in
set_option maxRecDepth 100000 in
/-- pack(stuff, much, cents) -/
theorem c_X_pack (l : Launch) (htr : l.stackTraces = false) (K : KG) (z : Nat) (b wn j : Nat) (Kn : Nat) (mu pr bg ch tr bn : Nat → Int) (bp bc sf : Int) (x1 x2 x3 : Int) (h1 : r32 x1) (h2 : r32 x2) (h3 : r32 x3) (hj : j < 10) (hjs : 0 ≤ x1 → x1 < 10 → x1 = j) (hok : ShOK Kn mu pr bg ch) : Ct l yX_pack kX_pack rmX_pack (PX K z [.ref b, .int (iI x1), .int (iI x2), .int (iI x3)] (fun H => va_P (kD K) vcl (shW K (b + 28 + 7 * j) (Kn : Int) mu pr bg ch tr bn bp bc sf) H ∧ va_P (kD K) vcl [(b, .inr (0, [.ref (b + 1), .int (iI (wn : Int)), .ref (b + 26), .ref (b + 27), .ref (b + 98)])), (b + 27, .inl (kS K, 10, .inr (.inr (.inr (.inr (fun i => some (b + 28 + 7 * i)))))))] H)) (QTI (fun r _ H => (((0 ≤ x1 ∧ x1 < 10) ∧ (1 ≤ x2 ∧ x2 ≤ 1000000000) ∧ (1 ≤ x3 ∧ x3 ≤ 100000)) ∧ Kn < 4) ∧ r = Kn ∧ ∃ (bg' ch' : Nat → Int), ShOK (Kn + 1) (ut mu Kn x2) (ut pr Kn x3) bg' ch' ∧ va_P (kD K) vcl (shW K (b + 28 + 7 * j) ((Kn + 1 : Nat) : Int) (ut mu Kn x2) (ut pr Kn x3) bg' ch' tr bn bp bc (-1)) H) (fun E => (E = exA ∧ ¬ ((0 ≤ x1 ∧ x1 < 10) ∧ (1 ≤ x2 ∧ x2 ≤ 1000000000) ∧ (1 ≤ x3 ∧ x3 ≤ 100000))) ∨ (E = exS ∧ ((0 ≤ x1 ∧ x1 < 10) ∧ (1 ≤ x2 ∧ x2 ≤ 1000000000) ∧ (1 ≤ x3 ∧ x3 ≤ 100000)) ∧ ¬ Kn < 4))) (fun q => b + 28 + 7 * j ≤ q ∧ q < b + 28 + 7 * j + 7) := by
  refine ct_of (by decide) (Or.inl ⟨rfl, rfl⟩) ?_
  intro p e s m args below meth c B0 hP0
  obtain ⟨hx, hb, hr, hml, hown, hlocks, hnm, htab⟩ := B0
  obtain ⟨ha, hE, hB⟩ := hP0
  obtain ⟨hT, hK⟩ := hE.1
  have hl := lv_entry ([.ref b, .int (iI x1), .int (iI x2), .int (iI x3)]) (n := 4) (Nat.le_of_ble_eq_true rfl)
  obtain ⟨Q, hQ⟩ : ∃ Q, Q = XQ below (QTI (fun r _ H => (((0 ≤ x1 ∧ x1 < 10) ∧ (1 ≤ x2 ∧ x2 ≤ 1000000000) ∧ (1 ≤ x3 ∧ x3 ≤ 100000)) ∧ Kn < 4) ∧ r = Kn ∧ ∃ (bg' ch' : Nat → Int), ShOK (Kn + 1) (ut mu Kn x2) (ut pr Kn x3) bg' ch' ∧ va_P (kD K) vcl (shW K (b + 28 + 7 * j) ((Kn + 1 : Nat) : Int) (ut mu Kn x2) (ut pr Kn x3) bg' ch' tr bn bp bc (-1)) H) (fun E => (E = exA ∧ ¬ ((0 ≤ x1 ∧ x1 < 10) ∧ (1 ≤ x2 ∧ x2 ≤ 1000000000) ∧ (1 ≤ x3 ∧ x3 ≤ 100000))) ∨ (E = exS ∧ ((0 ≤ x1 ∧ x1 < 10) ∧ (1 ≤ x2 ∧ x2 ≤ 1000000000) ∧ (1 ≤ x3 ∧ x3 ≤ 100000)) ∧ ¬ Kn < 4))) args s (rmX_pack).cells (rmX_pack).slots (fun q => b + 28 + 7 * j ≤ q ∧ q < b + 28 + 7 * j + 7) := ⟨_, rfl⟩
  rw [← hQ, ha, lg_entry_eq]
  rw [ha] at hQ
  generalize (lg_sl ([.ref b, .int (iI x1), .int (iI x2), .int (iI x3)]) ++ List.replicate (4 - (lg_sl ([.ref b, .int (iI x1), .int (iI x2), .int (iI x3)])).length) Slot.unset).toArray = ls at hl ⊢
  generalize ([.ref b, .int (iI x1), .int (iI x2), .int (iI x3)] : List Value).toArray = args at hQ ⊢
  have hts : ∀ w ∈ TW, w.before args s = true := fun w h => hT w h args
  have hl : lv_has ls 4 [(0, .ref b), (1, .int (iI x1)), (2, .int (iI x2)), (3, .int (iI x3))] := hl
  obtain ⟨A, hAe⟩ : ∃ A : Addr → Prop, A = (fun q => b + 28 + 7 * j ≤ q ∧ q < b + 28 + 7 * j + 7) := ⟨_, rfl⟩
  rw [← hAe] at hQ
  have hS : va_S A s.heap s.heap [] := va_S.rf
  obtain ⟨hP, hR⟩ := hB
  have hP : va_P (kD K) vcl [(b + 28 + 7 * j, .inr (2, [.int (iI (Kn : Int)), .ref (b + 28 + 7 * j + 1), .ref (b + 28 + 7 * j + 2), .ref (b + 28 + 7 * j + 3), .ref (b + 28 + 7 * j + 4), .ref (b + 28 + 7 * j + 5), .ref (b + 28 + 7 * j + 6), .int (iI bp), .int (iI bc), .long (lI sf)])), (b + 28 + 7 * j + 1, .inl (kI K, 4, .inl (iA mu))), (b + 28 + 7 * j + 2, .inl (kI K, 4, .inl (iA pr))), (b + 28 + 7 * j + 3, .inl (kI K, 4, .inl (iA bg))), (b + 28 + 7 * j + 4, .inl (kI K, 4, .inl (iA ch))), (b + 28 + 7 * j + 5, .inl (kI K, 4, .inl (iA tr))), (b + 28 + 7 * j + 6, .inl (kI K, 4, .inl (iA bn)))] s.heap := hP
  have hD : va_D A [(b + 28 + 7 * j, .inr (2, [.int (iI (Kn : Int)), .ref (b + 28 + 7 * j + 1), .ref (b + 28 + 7 * j + 2), .ref (b + 28 + 7 * j + 3), .ref (b + 28 + 7 * j + 4), .ref (b + 28 + 7 * j + 5), .ref (b + 28 + 7 * j + 6), .int (iI bp), .int (iI bc), .long (lI sf)])), (b + 28 + 7 * j + 1, .inl (kI K, 4, .inl (iA mu))), (b + 28 + 7 * j + 2, .inl (kI K, 4, .inl (iA pr))), (b + 28 + 7 * j + 3, .inl (kI K, 4, .inl (iA bg))), (b + 28 + 7 * j + 4, .inl (kI K, 4, .inl (iA ch))), (b + 28 + 7 * j + 5, .inl (kI K, 4, .inl (iA tr))), (b + 28 + 7 * j + 6, .inl (kI K, 4, .inl (iA bn)))] := by rw [hAe]; exact va_D_of (by simp) (by simp <;> omega)
  have hR : va_P (kD K) vcl [(b, .inr (0, [.ref (b + 1), .int (iI (wn : Int)), .ref (b + 26), .ref (b + 27), .ref (b + 98)])), (b + 27, .inl (kS K, 10, .inr (.inr (.inr (.inr (fun i => some (b + 28 + 7 * i)))))))] s.heap := hR
  have hRA : ∀ (k : Nat) (q : Nat × va_E), [(b, .inr (0, [.ref (b + 1), .int (iI (wn : Int)), .ref (b + 26), .ref (b + 27), .ref (b + 98)])), (b + 27, .inl (kS K, 10, .inr (.inr (.inr (.inr (fun i => some (b + 28 + 7 * i)))))))][k]? = some q → ¬ A q.1 := by
    intro k q hk
    have hk := List.mem_of_getElem? hk
    simp only [List.mem_cons, List.not_mem_nil, or_false] at hk
    rw [hAe]
    rcases hk with rfl | rfl <;> (show ¬ (b + 28 + 7 * j ≤ _ ∧ _ < b + 28 + 7 * j + 7)) <;> dsimp only <;> omega
  have hK4 := hok.1
  refine lv_iload_n hx hb dX_pack_0 rfl (lv_at hl 1 rfl) ?_
  refine iz_bipush hx hb dX_pack_1 (by decide) ?_
  refine ctS (n := 2) hx hb hml hown hT ⟨c_X_checkNumber l htr K z x1 10 ⟨by omega, by omega⟩ ⟨by omega, by omega⟩, ⟨_, _, _, Or.inl ⟨rfl, rfl⟩⟩, mt_152, mt_1, by decide, by decide +kernel, by decide, by decide, by decide, by decide⟩ PX.blind mt_150 mt_151 (As := [.int (iI x1), .int (iI 10)]) (rest := []) rfl (PX.at hE rfl trivial) hl.1 rfl (Nat.le_of_ble_eq_true rfl) dX_pack_3 (krC (c1 := 1) (s1 := 6) rfl rfl (fun _ h => h) rfl rfl (fun g1 => ?_) (fun x H1 hX hk hn => by rw [hQ]; exact x_out htab hlocks (fun _ _ h => Or.inr h) hX hk (Or.inl ⟨rfl, by omega⟩) (by decide) (by decide)))
  refine lv_iload_n hx hb dX_pack_6 rfl (lv_at hl 2 rfl) ?_
  refine iz_iconst hx hb dX_pack_7 ?_
  refine iz_ldc hx hb (1000000000) (by decide) hown (hts _ mt_377) dX_pack_8 ?_
  refine ctS (n := 3) hx hb hml hown hT ⟨c_X_checkBounds l htr K z x2 1 1000000000 ⟨by omega, by omega⟩ ⟨by omega, by omega⟩ ⟨by omega, by omega⟩, ⟨_, _, _, Or.inl ⟨rfl, rfl⟩⟩, mt_312, mt_1, by decide, by decide +kernel, by decide, by decide, by decide, by decide⟩ PX.blind mt_310 mt_311 (As := [.int (iI x2), .int (iI 1), .int (iI 1000000000)]) (rest := []) rfl (PX.at hE rfl trivial) hl.1 rfl (Nat.le_of_ble_eq_true rfl) dX_pack_10 (krC (c1 := 2) (s1 := 12) rfl rfl (fun _ h => h) rfl rfl (fun g2 => ?_) (fun x H1 hX hk hn => by rw [hQ]; exact x_out htab hlocks (fun _ _ h => Or.inr h) hX hk (Or.inl ⟨rfl, by omega⟩) (by decide) (by decide)))
  refine lv_iload_n hx hb dX_pack_13 rfl (lv_at hl 3 rfl) ?_
  refine iz_iconst hx hb dX_pack_14 ?_
  refine iz_ldc hx hb (100000) (by decide) hown (hts _ mt_378) dX_pack_15 ?_
  refine ctS (n := 3) hx hb hml hown hT ⟨c_X_checkBounds l htr K z x3 1 100000 ⟨by omega, by omega⟩ ⟨by omega, by omega⟩ ⟨by omega, by omega⟩, ⟨_, _, _, Or.inl ⟨rfl, rfl⟩⟩, mt_312, mt_1, by decide, by decide +kernel, by decide, by decide, by decide, by decide⟩ PX.blind mt_310 mt_311 (As := [.int (iI x3), .int (iI 1), .int (iI 100000)]) (rest := []) rfl (PX.at hE rfl trivial) hl.1 rfl (Nat.le_of_ble_eq_true rfl) dX_pack_17 (krC (c1 := 3) (s1 := 18) rfl rfl (fun _ h => h) rfl rfl (fun g3 => ?_) (fun x H1 hX hk hn => by rw [hQ]; exact x_out htab hlocks (fun _ _ h => Or.inr h) hX hk (Or.inl ⟨rfl, by omega⟩) (by decide) (by decide)))
  have hjs := hjs (by omega) (by omega)
  refine lv_aload_n hx hb dX_pack_20 rfl (lv_at hl 0 rfl) ?_
  refine va_get (D := kD K) (ci := 0) (v := .ref (b + 27)) (C := RX) (T := FX) (N := 5) hx hb hts jnX hown hK (ro_at hS hR hRA) 0 rfl rfl 3 (by decide) (hts _ mt_129) (fun _ h9 => h9) rfl dX_pack_21 ?_
  refine lv_iload_n hx hb dX_pack_24 rfl (lv_at hl 1 rfl) ?_
  refine iz_aald hx hb hK (ro_at hS hR hRA) 1 3 rfl rfl j hjs (by omega) (by omega) rfl dX_pack_25 ?_
  refine va_getN (D := kD K) (ci := 2) (v := .int (iI (Kn : Int))) (C := RS) (T := FS) (N := 10) hx hb hts jnS hown hK hP 0 rfl rfl 0 (by decide) (hts _ mt_53) (fun _ h9 => h9) rfl dX_pack_26 ?_
  refine iz_iconst hx hb dX_pack_29 ?_
  refine ctS (n := 2) hx hb hml hown hT ⟨c_X_checkSpace l htr K z Kn 4 ⟨by omega, by omega⟩ ⟨by omega, by omega⟩, ⟨_, _, _, Or.inl ⟨rfl, rfl⟩⟩, mt_316, mt_1, by decide, by decide +kernel, by decide, by decide, by decide, by decide⟩ PX.blind mt_314 mt_315 (As := [.int (iI (Kn : Int)), .int (iI 4)]) (rest := []) rfl (PX.at hE rfl trivial) hl.1 rfl (Nat.le_of_ble_eq_true rfl) dX_pack_30 (krC (c1 := 4) (s1 := 24) rfl rfl (fun _ h => h) rfl rfl (fun g4 => ?_) (fun x H1 hX hk hn => by rw [hQ]; exact x_out htab hlocks (fun _ _ h => Or.inr h) hX hk (Or.inr ⟨rfl, by omega, by omega⟩) (by decide) (by decide)))
  refine lv_aload_n hx hb dX_pack_33 rfl (lv_at hl 0 rfl) ?_
  refine va_get (D := kD K) (ci := 0) (v := .ref (b + 27)) (C := RX) (T := FX) (N := 5) hx hb hts jnX hown hK (ro_at hS hR hRA) 0 rfl rfl 3 (by decide) (hts _ mt_129) (fun _ h9 => h9) rfl dX_pack_34 ?_
  refine lv_iload_n hx hb dX_pack_37 rfl (lv_at hl 1 rfl) ?_
  refine iz_aald hx hb hK (ro_at hS hR hRA) 1 3 rfl rfl j hjs (by omega) (by omega) rfl dX_pack_38 ?_
  refine lv_iload_n hx hb dX_pack_39 rfl (lv_at hl 2 rfl) ?_
  refine lv_iload_n hx hb dX_pack_40 rfl (lv_at hl 3 rfl) ?_
  refine ctVN (n := 2) hx hb hml hown hT ⟨c_S_stock l K (b + 28 + 7 * j) Kn mu pr bg ch tr bn bp bc sf x2 x3 hok (by omega) g2 g3, ⟨_, _, _, Or.inl ⟨rfl, rfl⟩⟩, mt_382, mt_3, by decide, by decide +kernel, by decide, by decide, by decide, by decide⟩ PC.blind mt_379 mt_381 ms_15 (va_RVof (ci := 2) (q0 := 0) hK hP rfl rfl) (As := [.int (iI x2), .int (iI x3)]) (rest := []) rfl (PC.at ⟨hT, hK⟩ hP) hl.1 rfl (Nat.le_of_ble_eq_true rfl) dX_pack_41 (krI (c1 := 4) (s1 := 24) rfl rfl (fun r t1 H1 L hA hL hpo => ?_))
  have hS := hA.S hS (fun x hx => by rw [hAe]; exact hx) hL
  rw [hQ]
  exact ix_iret hx hb hr hlocks (⟨⟨⟨g1, g2, g3⟩, by omega⟩, hpo⟩) hS.2.2 (by decide) (by decide) dX_pack_44
abbrev rmX_bars : Room := { frames := 8, cells := 3, slots := 18, locals := 140 }
set_option maxHeartbeats 4000000 in
set_option maxRecDepth 100000 in
/-- bars(length, cut) -/
theorem c_X_bars (l : Launch) (htr : l.stackTraces = false) (K : KG) (z : Nat) (b wn : Nat) (bl cu : Int) (Pn : Nat) (le : Nat → Int) (pl : Int) (Bn : Nat) (bo fr lo sl : Nat → Int) (x1 x2 : Int) (h1 : r32 x1) (h2 : r32 x2) (hB9 : SwB bl cu Pn le) : Ct l yX_bars kX_bars rmX_bars (PX K z [.ref b, .int (iI x1), .int (iI x2)] (fun H => va_P (kD K) vcl (saW K (b + 98) bl cu Pn le pl Bn bo fr lo sl) H ∧ va_P (kD K) vcl [(b, .inr (0, [.ref (b + 1), .int (iI (wn : Int)), .ref (b + 26), .ref (b + 27), .ref (b + 98)]))] H)) (QTV (fun _ H => (((1 ≤ x1 ∧ x1 ≤ 10000) ∧ (0 ≤ x2 ∧ x2 ≤ 100)) ∧ ∀ i, i < Pn → le i ≤ x1) ∧ va_P (kD K) vcl (saW K (b + 98) x1 x2 Pn le 0 Bn bo fr lo sl) H) (fun E => (E = exA ∧ ¬ ((1 ≤ x1 ∧ x1 ≤ 10000) ∧ (0 ≤ x2 ∧ x2 ≤ 100))) ∨ (E = exS ∧ ((1 ≤ x1 ∧ x1 ≤ 10000) ∧ (0 ≤ x2 ∧ x2 ≤ 100)) ∧ ∃ i, i < Pn ∧ x1 < le i))) (fun q => b + 98 ≤ q ∧ q < b + 98 + 6) := by
  refine ct_of (by decide) (Or.inl ⟨rfl, rfl⟩) ?_
  intro p e s m args below meth c B0 hP0
  obtain ⟨hx, hb, hr, hml, hown, hlocks, hnm, htab⟩ := B0
  obtain ⟨ha, hE, hB⟩ := hP0
  obtain ⟨hT, hK⟩ := hE.1
  have hl := lv_entry ([.ref b, .int (iI x1), .int (iI x2)]) (n := 3) (Nat.le_of_ble_eq_true rfl)
  obtain ⟨Q, hQ⟩ : ∃ Q, Q = XQ below (QTV (fun _ H => (((1 ≤ x1 ∧ x1 ≤ 10000) ∧ (0 ≤ x2 ∧ x2 ≤ 100)) ∧ ∀ i, i < Pn → le i ≤ x1) ∧ va_P (kD K) vcl (saW K (b + 98) x1 x2 Pn le 0 Bn bo fr lo sl) H) (fun E => (E = exA ∧ ¬ ((1 ≤ x1 ∧ x1 ≤ 10000) ∧ (0 ≤ x2 ∧ x2 ≤ 100))) ∨ (E = exS ∧ ((1 ≤ x1 ∧ x1 ≤ 10000) ∧ (0 ≤ x2 ∧ x2 ≤ 100)) ∧ ∃ i, i < Pn ∧ x1 < le i))) args s (rmX_bars).cells (rmX_bars).slots (fun q => b + 98 ≤ q ∧ q < b + 98 + 6) := ⟨_, rfl⟩
  rw [← hQ, ha, lg_entry_eq]
  rw [ha] at hQ
  generalize (lg_sl ([.ref b, .int (iI x1), .int (iI x2)]) ++ List.replicate (3 - (lg_sl ([.ref b, .int (iI x1), .int (iI x2)])).length) Slot.unset).toArray = ls at hl ⊢
  generalize ([.ref b, .int (iI x1), .int (iI x2)] : List Value).toArray = args at hQ ⊢
  have hts : ∀ w ∈ TW, w.before args s = true := fun w h => hT w h args
  have hl : lv_has ls 3 [(0, .ref b), (1, .int (iI x1)), (2, .int (iI x2))] := hl
  obtain ⟨A, hAe⟩ : ∃ A : Addr → Prop, A = (fun q => b + 98 ≤ q ∧ q < b + 98 + 6) := ⟨_, rfl⟩
  rw [← hAe] at hQ
  have hS : va_S A s.heap s.heap [] := va_S.rf
  obtain ⟨hP, hR⟩ := hB
  have hP : va_P (kD K) vcl [(b + 98, .inr (3, [.int (iI bl), .int (iI cu), .int (iI (Pn : Int)), .ref (b + 98 + 1), .int (iI pl), .int (iI (Bn : Int)), .ref (b + 98 + 2), .ref (b + 98 + 3), .ref (b + 98 + 4), .ref (b + 98 + 5)])), (b + 98 + 1, .inl (kI K, 10, .inl (iA le))), (b + 98 + 2, .inl (kI K, 10, .inl (iA bo))), (b + 98 + 3, .inl (kI K, 10, .inl (iA fr))), (b + 98 + 4, .inl (kI K, 10, .inl (iA lo))), (b + 98 + 5, .inl (kI K, 10, .inl (iA sl)))] s.heap := hP
  have hD : va_D A [(b + 98, .inr (3, [.int (iI bl), .int (iI cu), .int (iI (Pn : Int)), .ref (b + 98 + 1), .int (iI pl), .int (iI (Bn : Int)), .ref (b + 98 + 2), .ref (b + 98 + 3), .ref (b + 98 + 4), .ref (b + 98 + 5)])), (b + 98 + 1, .inl (kI K, 10, .inl (iA le))), (b + 98 + 2, .inl (kI K, 10, .inl (iA bo))), (b + 98 + 3, .inl (kI K, 10, .inl (iA fr))), (b + 98 + 4, .inl (kI K, 10, .inl (iA lo))), (b + 98 + 5, .inl (kI K, 10, .inl (iA sl)))] := by rw [hAe]; exact va_D_of (by simp) (by simp <;> omega)
  have hR : va_P (kD K) vcl [(b, .inr (0, [.ref (b + 1), .int (iI (wn : Int)), .ref (b + 26), .ref (b + 27), .ref (b + 98)]))] s.heap := hR
  have hRA : ∀ (k : Nat) (q : Nat × va_E), [(b, .inr (0, [.ref (b + 1), .int (iI (wn : Int)), .ref (b + 26), .ref (b + 27), .ref (b + 98)]))][k]? = some q → ¬ A q.1 := by
    intro k q hk
    have hk := List.mem_of_getElem? hk
    simp only [List.mem_cons, List.not_mem_nil, or_false] at hk
    rw [hAe]
    rcases hk with rfl <;> (show ¬ (b + 98 ≤ _ ∧ _ < b + 98 + 6)) <;> dsimp only <;> omega
  refine lv_iload_n hx hb dX_bars_0 rfl (lv_at hl 1 rfl) ?_
  refine iz_iconst hx hb dX_bars_1 ?_
  refine iz_sipush hx hb dX_bars_2 (by decide) ?_
  refine ctS (n := 3) hx hb hml hown hT ⟨c_X_checkBounds l htr K z x1 1 10000 ⟨by omega, by omega⟩ ⟨by omega, by omega⟩ ⟨by omega, by omega⟩, ⟨_, _, _, Or.inl ⟨rfl, rfl⟩⟩, mt_312, mt_1, by decide, by decide +kernel, by decide, by decide, by decide, by decide⟩ PX.blind mt_310 mt_311 (As := [.int (iI x1), .int (iI 1), .int (iI 10000)]) (rest := []) rfl (PX.at hE rfl trivial) hl.1 rfl (Nat.le_of_ble_eq_true rfl) dX_bars_5 (krC (c1 := 1) (s1 := 6) rfl rfl (fun _ h => h) rfl rfl (fun g1 => ?_) (fun x H1 hX hk hn => by rw [hQ]; exact x_out htab hlocks (fun _ _ h => Or.inr h) hX hk (Or.inl ⟨rfl, by omega⟩) (by decide) (by decide)))
  refine lv_iload_n hx hb dX_bars_8 rfl (lv_at hl 2 rfl) ?_
  refine iz_iconst hx hb dX_bars_9 ?_
  refine iz_bipush hx hb dX_bars_10 (by decide) ?_
  refine ctS (n := 3) hx hb hml hown hT ⟨c_X_checkBounds l htr K z x2 0 100 ⟨by omega, by omega⟩ ⟨by omega, by omega⟩ ⟨by omega, by omega⟩, ⟨_, _, _, Or.inl ⟨rfl, rfl⟩⟩, mt_312, mt_1, by decide, by decide +kernel, by decide, by decide, by decide, by decide⟩ PX.blind mt_310 mt_311 (As := [.int (iI x2), .int (iI 0), .int (iI 100)]) (rest := []) rfl (PX.at hE rfl trivial) hl.1 rfl (Nat.le_of_ble_eq_true rfl) dX_bars_12 (krC (c1 := 2) (s1 := 12) rfl rfl (fun _ h => h) rfl rfl (fun g2 => ?_) (fun x H1 hX hk hn => by rw [hQ]; exact x_out htab hlocks (fun _ _ h => Or.inr h) hX hk (Or.inl ⟨rfl, by omega⟩) (by decide) (by decide)))
  refine lv_aload_n hx hb dX_bars_15 rfl (lv_at hl 0 rfl) ?_
  refine va_get (D := kD K) (ci := 0) (v := .ref (b + 98)) (C := RX) (T := FX) (N := 5) hx hb hts jnX hown hK (ro_at hS hR hRA) 0 rfl rfl 4 (by decide) (hts _ mt_130) (fun _ h9 => h9) rfl dX_bars_16 ?_
  refine ctVN (n := 0) hx hb hml hown hT ⟨c_A_longest l K (b + 98) bl cu Pn le pl Bn bo fr lo sl hB9, ⟨_, _, _, Or.inl ⟨rfl, rfl⟩⟩, mt_412, mt_4, by decide, by decide +kernel, by decide, by decide, by decide, by decide⟩ PC.blind mt_409 mt_411 ms_18 (va_RVof (ci := 3) (q0 := 0) hK hP rfl rfl) (As := []) (rest := []) rfl (PC.at ⟨hT, hK⟩ hP) hl.1 rfl (Nat.le_of_ble_eq_true rfl) dX_bars_19 (krI0 rfl rfl (fun _ h => h) (fun r hr9 => ?_))
  refine lv_iload_n hx hb dX_bars_22 rfl (lv_at hl 1 rfl) ?_
  refine iz_icmp_le (tgt := 36) hx hb ⟨by omega, by omega⟩ ⟨by omega, by omega⟩ dX_bars_23 (by decide) (fun g3 => ?_) (fun g3 => ?_)
  · refine lv_aload_n hx hb dX_bars_36 rfl (lv_at hl 0 rfl) ?_
    refine va_get (D := kD K) (ci := 0) (v := .ref (b + 98)) (C := RX) (T := FX) (N := 5) hx hb hts jnX hown hK (ro_at hS hR hRA) 0 rfl rfl 4 (by decide) (hts _ mt_130) (fun _ h9 => h9) rfl dX_bars_37 ?_
    refine lv_iload_n hx hb dX_bars_40 rfl (lv_at hl 1 rfl) ?_
    refine lv_iload_n hx hb dX_bars_41 rfl (lv_at hl 2 rfl) ?_
    refine ctVN (n := 2) hx hb hml hown hT ⟨c_A_take l K (b + 98) bl cu Pn le pl Bn bo fr lo sl x1 x2, ⟨_, _, _, Or.inl ⟨rfl, rfl⟩⟩, mt_420, mt_4, by decide, by decide +kernel, by decide, by decide, by decide, by decide⟩ PC.blind mt_417 mt_419 ms_19 (va_RVof (ci := 3) (q0 := 0) hK hP rfl rfl) (As := [.int (iI x1), .int (iI x2)]) (rest := []) rfl (PC.at ⟨hT, hK⟩ hP) hl.1 rfl (Nat.le_of_ble_eq_true rfl) dX_bars_42 (krV (c1 := 2) (s1 := 12) rfl rfl (fun t1 H1 L hA hL hpo => ?_))
    have hS := hA.S hS (fun x hx => by rw [hAe]; exact hx) hL
    rw [hQ]
    exact ix_vret hx hb hr hlocks (⟨⟨⟨g1, g2⟩, fun i hi => by by_cases e : x1 < le i; exact absurd ((hr9.2 x1 (by omega)).mpr ⟨i, hi, e⟩) (by omega); omega⟩, hpo⟩) hS.2.2 (by decide) (by decide) dX_bars_45
  · rw [hQ]
    exact tx_throw hx hb htr hE hown (by decide) (by decide) at_S mt_317 mt_10 mt_416 (hl.1.trans hml.symm) dX_bars_26 dX_bars_29 dX_bars_30 dX_bars_32 dX_bars_35 htab hlocks (by decide) (Nat.le_of_ble_eq_true rfl) (Nat.le_of_ble_eq_true rfl) (Nat.le_of_ble_eq_true rfl) (Nat.le_of_ble_eq_true rfl) (Nat.le_of_ble_eq_true rfl) (fun x t hW hX hke => Or.inr ⟨x, exS, rfl, hX, hke, Or.inr ⟨rfl, ⟨g1, g2⟩, (hr9.2 x1 (by omega)).mp g3⟩⟩)
abbrev rmX_piece : Room := { frames := 8, cells := 2, slots := 12, locals := 140 }
set_option maxHeartbeats 4000000 in
set_option maxRecDepth 100000 in
/-- piece(length) -/
theorem c_X_piece (l : Launch) (htr : l.stackTraces = false) (K : KG) (z : Nat) (b wn : Nat) (bl cu : Int) (Pn : Nat) (le : Nat → Int) (pl : Int) (Bn : Nat) (bo fr lo sl : Nat → Int) (x1 : Int) (h1 : r32 x1) (hB9 : SwB bl cu Pn le) : Ct l yX_piece kX_piece rmX_piece (PX K z [.ref b, .int (iI x1)] (fun H => va_P (kD K) vcl (saW K (b + 98) bl cu Pn le pl Bn bo fr lo sl) H ∧ va_P (kD K) vcl [(b, .inr (0, [.ref (b + 1), .int (iI (wn : Int)), .ref (b + 26), .ref (b + 27), .ref (b + 98)]))] H)) (QTI (fun r _ H => ((1 ≤ x1 ∧ x1 ≤ bl) ∧ Pn < 10) ∧ r = Pn ∧ va_P (kD K) vcl (saW K (b + 98) bl cu (Pn + 1) (ut le Pn x1) 0 Bn bo fr lo sl) H) (fun E => (E = exA ∧ ¬ (1 ≤ x1 ∧ x1 ≤ bl)) ∨ (E = exS ∧ (1 ≤ x1 ∧ x1 ≤ bl) ∧ ¬ Pn < 10))) (fun q => b + 98 ≤ q ∧ q < b + 98 + 6) := by
  refine ct_of (by decide) (Or.inl ⟨rfl, rfl⟩) ?_
  intro p e s m args below meth c B0 hP0
  obtain ⟨hx, hb, hr, hml, hown, hlocks, hnm, htab⟩ := B0
  obtain ⟨ha, hE, hB⟩ := hP0
  obtain ⟨hT, hK⟩ := hE.1
  have hl := lv_entry ([.ref b, .int (iI x1)]) (n := 2) (Nat.le_of_ble_eq_true rfl)
  obtain ⟨Q, hQ⟩ : ∃ Q, Q = XQ below (QTI (fun r _ H => ((1 ≤ x1 ∧ x1 ≤ bl) ∧ Pn < 10) ∧ r = Pn ∧ va_P (kD K) vcl (saW K (b + 98) bl cu (Pn + 1) (ut le Pn x1) 0 Bn bo fr lo sl) H) (fun E => (E = exA ∧ ¬ (1 ≤ x1 ∧ x1 ≤ bl)) ∨ (E = exS ∧ (1 ≤ x1 ∧ x1 ≤ bl) ∧ ¬ Pn < 10))) args s (rmX_piece).cells (rmX_piece).slots (fun q => b + 98 ≤ q ∧ q < b + 98 + 6) := ⟨_, rfl⟩
  rw [← hQ, ha, lg_entry_eq]
  rw [ha] at hQ
  generalize (lg_sl ([.ref b, .int (iI x1)]) ++ List.replicate (2 - (lg_sl ([.ref b, .int (iI x1)])).length) Slot.unset).toArray = ls at hl ⊢
  generalize ([.ref b, .int (iI x1)] : List Value).toArray = args at hQ ⊢
  have hts : ∀ w ∈ TW, w.before args s = true := fun w h => hT w h args
  have hl : lv_has ls 2 [(0, .ref b), (1, .int (iI x1))] := hl
  obtain ⟨A, hAe⟩ : ∃ A : Addr → Prop, A = (fun q => b + 98 ≤ q ∧ q < b + 98 + 6) := ⟨_, rfl⟩
  rw [← hAe] at hQ
  have hS : va_S A s.heap s.heap [] := va_S.rf
  obtain ⟨hP, hR⟩ := hB
  have hP : va_P (kD K) vcl [(b + 98, .inr (3, [.int (iI bl), .int (iI cu), .int (iI (Pn : Int)), .ref (b + 98 + 1), .int (iI pl), .int (iI (Bn : Int)), .ref (b + 98 + 2), .ref (b + 98 + 3), .ref (b + 98 + 4), .ref (b + 98 + 5)])), (b + 98 + 1, .inl (kI K, 10, .inl (iA le))), (b + 98 + 2, .inl (kI K, 10, .inl (iA bo))), (b + 98 + 3, .inl (kI K, 10, .inl (iA fr))), (b + 98 + 4, .inl (kI K, 10, .inl (iA lo))), (b + 98 + 5, .inl (kI K, 10, .inl (iA sl)))] s.heap := hP
  have hD : va_D A [(b + 98, .inr (3, [.int (iI bl), .int (iI cu), .int (iI (Pn : Int)), .ref (b + 98 + 1), .int (iI pl), .int (iI (Bn : Int)), .ref (b + 98 + 2), .ref (b + 98 + 3), .ref (b + 98 + 4), .ref (b + 98 + 5)])), (b + 98 + 1, .inl (kI K, 10, .inl (iA le))), (b + 98 + 2, .inl (kI K, 10, .inl (iA bo))), (b + 98 + 3, .inl (kI K, 10, .inl (iA fr))), (b + 98 + 4, .inl (kI K, 10, .inl (iA lo))), (b + 98 + 5, .inl (kI K, 10, .inl (iA sl)))] := by rw [hAe]; exact va_D_of (by simp) (by simp <;> omega)
  have hR : va_P (kD K) vcl [(b, .inr (0, [.ref (b + 1), .int (iI (wn : Int)), .ref (b + 26), .ref (b + 27), .ref (b + 98)]))] s.heap := hR
  have hRA : ∀ (k : Nat) (q : Nat × va_E), [(b, .inr (0, [.ref (b + 1), .int (iI (wn : Int)), .ref (b + 26), .ref (b + 27), .ref (b + 98)]))][k]? = some q → ¬ A q.1 := by
    intro k q hk
    have hk := List.mem_of_getElem? hk
    simp only [List.mem_cons, List.not_mem_nil, or_false] at hk
    rw [hAe]
    rcases hk with rfl <;> (show ¬ (b + 98 ≤ _ ∧ _ < b + 98 + 6)) <;> dsimp only <;> omega
  obtain ⟨hbl, hcu, hP10, hle⟩ := id hB9
  refine lv_iload_n hx hb dX_piece_0 rfl (lv_at hl 1 rfl) ?_
  refine iz_iconst hx hb dX_piece_1 ?_
  refine lv_aload_n hx hb dX_piece_2 rfl (lv_at hl 0 rfl) ?_
  refine va_get (D := kD K) (ci := 0) (v := .ref (b + 98)) (C := RX) (T := FX) (N := 5) hx hb hts jnX hown hK (ro_at hS hR hRA) 0 rfl rfl 4 (by decide) (hts _ mt_130) (fun _ h9 => h9) rfl dX_piece_3 ?_
  refine va_getN (D := kD K) (ci := 3) (v := .int (iI bl)) (C := RA) (T := FA) (N := 10) hx hb hts jnA hown hK hP 0 rfl rfl 0 (by decide) (hts _ mt_91) (fun _ h9 => h9) rfl dX_piece_6 ?_
  refine ctS (n := 3) hx hb hml hown hT ⟨c_X_checkBounds l htr K z x1 1 bl ⟨by omega, by omega⟩ ⟨by omega, by omega⟩ ⟨by omega, by omega⟩, ⟨_, _, _, Or.inl ⟨rfl, rfl⟩⟩, mt_312, mt_1, by decide, by decide +kernel, by decide, by decide, by decide, by decide⟩ PX.blind mt_310 mt_311 (As := [.int (iI x1), .int (iI 1), .int (iI bl)]) (rest := []) rfl (PX.at hE rfl trivial) hl.1 rfl (Nat.le_of_ble_eq_true rfl) dX_piece_9 (krC (c1 := 1) (s1 := 6) rfl rfl (fun _ h => h) rfl rfl (fun g1 => ?_) (fun x H1 hX hk hn => by rw [hQ]; exact x_out htab hlocks (fun _ _ h => Or.inr h) hX hk (Or.inl ⟨rfl, by omega⟩) (by decide) (by decide)))
  refine lv_aload_n hx hb dX_piece_12 rfl (lv_at hl 0 rfl) ?_
  refine va_get (D := kD K) (ci := 0) (v := .ref (b + 98)) (C := RX) (T := FX) (N := 5) hx hb hts jnX hown hK (ro_at hS hR hRA) 0 rfl rfl 4 (by decide) (hts _ mt_130) (fun _ h9 => h9) rfl dX_piece_13 ?_
  refine va_getN (D := kD K) (ci := 3) (v := .int (iI (Pn : Int))) (C := RA) (T := FA) (N := 10) hx hb hts jnA hown hK hP 0 rfl rfl 2 (by decide) (hts _ mt_94) (fun _ h9 => h9) rfl dX_piece_16 ?_
  refine iz_bipush hx hb dX_piece_19 (by decide) ?_
  refine ctS (n := 2) hx hb hml hown hT ⟨c_X_checkSpace l htr K z Pn 10 ⟨by omega, by omega⟩ ⟨by omega, by omega⟩, ⟨_, _, _, Or.inl ⟨rfl, rfl⟩⟩, mt_316, mt_1, by decide, by decide +kernel, by decide, by decide, by decide, by decide⟩ PX.blind mt_314 mt_315 (As := [.int (iI (Pn : Int)), .int (iI 10)]) (rest := []) rfl (PX.at hE rfl trivial) hl.1 rfl (Nat.le_of_ble_eq_true rfl) dX_piece_21 (krC (c1 := 2) (s1 := 12) rfl rfl (fun _ h => h) rfl rfl (fun g2 => ?_) (fun x H1 hX hk hn => by rw [hQ]; exact x_out htab hlocks (fun _ _ h => Or.inr h) hX hk (Or.inr ⟨rfl, by omega, by omega⟩) (by decide) (by decide)))
  refine lv_aload_n hx hb dX_piece_24 rfl (lv_at hl 0 rfl) ?_
  refine va_get (D := kD K) (ci := 0) (v := .ref (b + 98)) (C := RX) (T := FX) (N := 5) hx hb hts jnX hown hK (ro_at hS hR hRA) 0 rfl rfl 4 (by decide) (hts _ mt_130) (fun _ h9 => h9) rfl dX_piece_25 ?_
  refine lv_iload_n hx hb dX_piece_28 rfl (lv_at hl 1 rfl) ?_
  refine ctVN (n := 1) hx hb hml hown hT ⟨c_A_add l K (b + 98) bl cu Pn le pl Bn bo fr lo sl x1 (by omega), ⟨_, _, _, Or.inl ⟨rfl, rfl⟩⟩, mt_431, mt_4, by decide, by decide +kernel, by decide, by decide, by decide, by decide⟩ PC.blind mt_428 mt_430 ms_20 (va_RVof (ci := 3) (q0 := 0) hK hP rfl rfl) (As := [.int (iI x1)]) (rest := []) rfl (PC.at ⟨hT, hK⟩ hP) hl.1 rfl (Nat.le_of_ble_eq_true rfl) dX_piece_29 (krI (c1 := 2) (s1 := 12) rfl rfl (fun r t1 H1 L hA hL hpo => ?_))
  have hS := hA.S hS (fun x hx => by rw [hAe]; exact hx) hL
  rw [hQ]
  exact ix_iret hx hb hr hlocks (⟨⟨g1, by omega⟩, hpo⟩) hS.2.2 (by decide) (by decide) dX_piece_32
abbrev rmX_change : Room := { frames := 8, cells := 2, slots := 12, locals := 140 }
set_option maxHeartbeats 4000000 in
set_option maxRecDepth 100000 in
/-- change(piece, length) -/
theorem c_X_change (l : Launch) (htr : l.stackTraces = false) (K : KG) (z : Nat) (b wn k : Nat) (bl cu : Int) (Pn : Nat) (le : Nat → Int) (pl : Int) (Bn : Nat) (bo fr lo sl : Nat → Int) (x1 x2 : Int) (h1 : r32 x1) (h2 : r32 x2) (hk : 0 ≤ x1 → x1 < Pn → x1 = k) (hB9 : SwB bl cu Pn le) : Ct l yX_change kX_change rmX_change (PX K z [.ref b, .int (iI x1), .int (iI x2)] (fun H => va_P (kD K) vcl (saW K (b + 98) bl cu Pn le pl Bn bo fr lo sl) H ∧ va_P (kD K) vcl [(b, .inr (0, [.ref (b + 1), .int (iI (wn : Int)), .ref (b + 26), .ref (b + 27), .ref (b + 98)]))] H)) (QTI (fun r _ H => ((0 ≤ x1 ∧ x1 < Pn) ∧ (1 ≤ x2 ∧ x2 ≤ bl)) ∧ r = le k ∧ va_P (kD K) vcl (saW K (b + 98) bl cu Pn (ut le k x2) 0 Bn bo fr lo sl) H) (fun E => E = exA ∧ ¬ ((0 ≤ x1 ∧ x1 < Pn) ∧ (1 ≤ x2 ∧ x2 ≤ bl)))) (fun q => b + 98 ≤ q ∧ q < b + 98 + 6) := by
  refine ct_of (by decide) (Or.inl ⟨rfl, rfl⟩) ?_
  intro p e s m args below meth c B0 hP0
  obtain ⟨hx, hb, hr, hml, hown, hlocks, hnm, htab⟩ := B0
  obtain ⟨ha, hE, hB⟩ := hP0
  obtain ⟨hT, hK⟩ := hE.1
  have hl := lv_entry ([.ref b, .int (iI x1), .int (iI x2)]) (n := 3) (Nat.le_of_ble_eq_true rfl)
  obtain ⟨Q, hQ⟩ : ∃ Q, Q = XQ below (QTI (fun r _ H => ((0 ≤ x1 ∧ x1 < Pn) ∧ (1 ≤ x2 ∧ x2 ≤ bl)) ∧ r = le k ∧ va_P (kD K) vcl (saW K (b + 98) bl cu Pn (ut le k x2) 0 Bn bo fr lo sl) H) (fun E => E = exA ∧ ¬ ((0 ≤ x1 ∧ x1 < Pn) ∧ (1 ≤ x2 ∧ x2 ≤ bl)))) args s (rmX_change).cells (rmX_change).slots (fun q => b + 98 ≤ q ∧ q < b + 98 + 6) := ⟨_, rfl⟩
  rw [← hQ, ha, lg_entry_eq]
  rw [ha] at hQ
  generalize (lg_sl ([.ref b, .int (iI x1), .int (iI x2)]) ++ List.replicate (3 - (lg_sl ([.ref b, .int (iI x1), .int (iI x2)])).length) Slot.unset).toArray = ls at hl ⊢
  generalize ([.ref b, .int (iI x1), .int (iI x2)] : List Value).toArray = args at hQ ⊢
  have hts : ∀ w ∈ TW, w.before args s = true := fun w h => hT w h args
  have hl : lv_has ls 3 [(0, .ref b), (1, .int (iI x1)), (2, .int (iI x2))] := hl
  obtain ⟨A, hAe⟩ : ∃ A : Addr → Prop, A = (fun q => b + 98 ≤ q ∧ q < b + 98 + 6) := ⟨_, rfl⟩
  rw [← hAe] at hQ
  have hS : va_S A s.heap s.heap [] := va_S.rf
  obtain ⟨hP, hR⟩ := hB
  have hP : va_P (kD K) vcl [(b + 98, .inr (3, [.int (iI bl), .int (iI cu), .int (iI (Pn : Int)), .ref (b + 98 + 1), .int (iI pl), .int (iI (Bn : Int)), .ref (b + 98 + 2), .ref (b + 98 + 3), .ref (b + 98 + 4), .ref (b + 98 + 5)])), (b + 98 + 1, .inl (kI K, 10, .inl (iA le))), (b + 98 + 2, .inl (kI K, 10, .inl (iA bo))), (b + 98 + 3, .inl (kI K, 10, .inl (iA fr))), (b + 98 + 4, .inl (kI K, 10, .inl (iA lo))), (b + 98 + 5, .inl (kI K, 10, .inl (iA sl)))] s.heap := hP
  have hD : va_D A [(b + 98, .inr (3, [.int (iI bl), .int (iI cu), .int (iI (Pn : Int)), .ref (b + 98 + 1), .int (iI pl), .int (iI (Bn : Int)), .ref (b + 98 + 2), .ref (b + 98 + 3), .ref (b + 98 + 4), .ref (b + 98 + 5)])), (b + 98 + 1, .inl (kI K, 10, .inl (iA le))), (b + 98 + 2, .inl (kI K, 10, .inl (iA bo))), (b + 98 + 3, .inl (kI K, 10, .inl (iA fr))), (b + 98 + 4, .inl (kI K, 10, .inl (iA lo))), (b + 98 + 5, .inl (kI K, 10, .inl (iA sl)))] := by rw [hAe]; exact va_D_of (by simp) (by simp <;> omega)
  have hR : va_P (kD K) vcl [(b, .inr (0, [.ref (b + 1), .int (iI (wn : Int)), .ref (b + 26), .ref (b + 27), .ref (b + 98)]))] s.heap := hR
  have hRA : ∀ (k : Nat) (q : Nat × va_E), [(b, .inr (0, [.ref (b + 1), .int (iI (wn : Int)), .ref (b + 26), .ref (b + 27), .ref (b + 98)]))][k]? = some q → ¬ A q.1 := by
    intro k q hk
    have hk := List.mem_of_getElem? hk
    simp only [List.mem_cons, List.not_mem_nil, or_false] at hk
    rw [hAe]
    rcases hk with rfl <;> (show ¬ (b + 98 ≤ _ ∧ _ < b + 98 + 6)) <;> dsimp only <;> omega
  obtain ⟨hbl, hcu, hP10, hle⟩ := id hB9
  refine lv_iload_n hx hb dX_change_0 rfl (lv_at hl 1 rfl) ?_
  refine lv_aload_n hx hb dX_change_1 rfl (lv_at hl 0 rfl) ?_
  refine va_get (D := kD K) (ci := 0) (v := .ref (b + 98)) (C := RX) (T := FX) (N := 5) hx hb hts jnX hown hK (ro_at hS hR hRA) 0 rfl rfl 4 (by decide) (hts _ mt_130) (fun _ h9 => h9) rfl dX_change_2 ?_
  refine va_getN (D := kD K) (ci := 3) (v := .int (iI (Pn : Int))) (C := RA) (T := FA) (N := 10) hx hb hts jnA hown hK hP 0 rfl rfl 2 (by decide) (hts _ mt_94) (fun _ h9 => h9) rfl dX_change_5 ?_
  refine ctS (n := 2) hx hb hml hown hT ⟨c_X_checkNumber l htr K z x1 Pn ⟨by omega, by omega⟩ ⟨by omega, by omega⟩, ⟨_, _, _, Or.inl ⟨rfl, rfl⟩⟩, mt_152, mt_1, by decide, by decide +kernel, by decide, by decide, by decide, by decide⟩ PX.blind mt_150 mt_151 (As := [.int (iI x1), .int (iI (Pn : Int))]) (rest := []) rfl (PX.at hE rfl trivial) hl.1 rfl (Nat.le_of_ble_eq_true rfl) dX_change_8 (krC (c1 := 1) (s1 := 6) rfl rfl (fun _ h => h) rfl rfl (fun g1 => ?_) (fun x H1 hX hk hn => by rw [hQ]; exact x_out htab hlocks (fun _ _ h => Or.inr h) hX hk (⟨rfl, by omega⟩) (by decide) (by decide)))
  refine lv_iload_n hx hb dX_change_11 rfl (lv_at hl 2 rfl) ?_
  refine iz_iconst hx hb dX_change_12 ?_
  refine lv_aload_n hx hb dX_change_13 rfl (lv_at hl 0 rfl) ?_
  refine va_get (D := kD K) (ci := 0) (v := .ref (b + 98)) (C := RX) (T := FX) (N := 5) hx hb hts jnX hown hK (ro_at hS hR hRA) 0 rfl rfl 4 (by decide) (hts _ mt_130) (fun _ h9 => h9) rfl dX_change_14 ?_
  refine va_getN (D := kD K) (ci := 3) (v := .int (iI bl)) (C := RA) (T := FA) (N := 10) hx hb hts jnA hown hK hP 0 rfl rfl 0 (by decide) (hts _ mt_91) (fun _ h9 => h9) rfl dX_change_17 ?_
  refine ctS (n := 3) hx hb hml hown hT ⟨c_X_checkBounds l htr K z x2 1 bl ⟨by omega, by omega⟩ ⟨by omega, by omega⟩ ⟨by omega, by omega⟩, ⟨_, _, _, Or.inl ⟨rfl, rfl⟩⟩, mt_312, mt_1, by decide, by decide +kernel, by decide, by decide, by decide, by decide⟩ PX.blind mt_310 mt_311 (As := [.int (iI x2), .int (iI 1), .int (iI bl)]) (rest := []) rfl (PX.at hE rfl trivial) hl.1 rfl (Nat.le_of_ble_eq_true rfl) dX_change_20 (krC (c1 := 2) (s1 := 12) rfl rfl (fun _ h => h) rfl rfl (fun g2 => ?_) (fun x H1 hX hk hn => by rw [hQ]; exact x_out htab hlocks (fun _ _ h => Or.inr h) hX hk (⟨rfl, by omega⟩) (by decide) (by decide)))
  refine lv_aload_n hx hb dX_change_23 rfl (lv_at hl 0 rfl) ?_
  refine va_get (D := kD K) (ci := 0) (v := .ref (b + 98)) (C := RX) (T := FX) (N := 5) hx hb hts jnX hown hK (ro_at hS hR hRA) 0 rfl rfl 4 (by decide) (hts _ mt_130) (fun _ h9 => h9) rfl dX_change_24 ?_
  refine lv_iload_n hx hb dX_change_27 rfl (lv_at hl 1 rfl) ?_
  refine lv_iload_n hx hb dX_change_28 rfl (lv_at hl 2 rfl) ?_
  have hk := hk (by omega) (by omega)
  subst hk
  refine ctVN (n := 2) hx hb hml hown hT ⟨c_A_resize l K (b + 98) bl cu Pn le pl Bn bo fr lo sl k x2 (by omega), ⟨_, _, _, Or.inl ⟨rfl, rfl⟩⟩, mt_442, mt_4, by decide, by decide +kernel, by decide, by decide, by decide, by decide⟩ PC.blind mt_439 mt_441 ms_21 (va_RVof (ci := 3) (q0 := 0) hK hP rfl rfl) (As := [.int (iI (k : Int)), .int (iI x2)]) (rest := []) rfl (PC.at ⟨hT, hK⟩ hP) hl.1 rfl (Nat.le_of_ble_eq_true rfl) dX_change_29 (krI (c1 := 2) (s1 := 12) rfl rfl (fun r t1 H1 L hA hL hpo => ?_))
  have hS := hA.S hS (fun x hx => by rw [hAe]; exact hx) hL
  rw [hQ]
  exact ix_iret hx hb hr hlocks (⟨⟨g1, g2⟩, hpo⟩) hS.2.2 (by decide) (by decide) dX_change_32
abbrev rmX_plan : Room := { frames := 16, cells := 0, slots := 0, locals := 900 }
set_option maxHeartbeats 4000000 in
set_option maxRecDepth 100000 in
/-- plan() -/
theorem c_X_plan (l : Launch) (K : KG) (b wn : Nat) (bl cu : Int) (Pn : Nat) (le : Nat → Int) (pl : Int) (Bn : Nat) (bo fr lo sl : Nat → Int) (hI : SwI bl cu Pn le pl Bn bo fr) : Ct l yX_plan kX_plan rmX_plan (PC K [.ref b] (fun H => va_P (kD K) vcl (saW K (b + 98) bl cu Pn le pl Bn bo fr lo sl) H ∧ va_P (kD K) vcl [(b, .inr (0, [.ref (b + 1), .int (iI (wn : Int)), .ref (b + 26), .ref (b + 27), .ref (b + 98)]))] H)) (QI (fun r H => ∃ (Bn' : Nat) (bo' fr' lo' sl' : Nat → Int), r = Bn' ∧ Bn' ≤ Pn ∧ SwF bl cu Pn le Bn' bo' fr' ∧ va_P (kD K) vcl (saW K (b + 98) bl cu Pn le 1 Bn' bo' fr' lo' sl') H)) (fun q => b + 98 ≤ q ∧ q < b + 98 + 6) := by
  refine ct_of (by decide) (Or.inl ⟨rfl, rfl⟩) ?_
  intro p e s m args below meth c B0 hP0
  obtain ⟨hx, hb, hr, hml, hown, hlocks, hnm, htab⟩ := B0
  obtain ⟨ha, ⟨hT, hK⟩, hB⟩ := hP0
  have hl := lv_entry ([.ref b]) (n := 1) (Nat.le_of_ble_eq_true rfl)
  obtain ⟨Q, hQ⟩ : ∃ Q, Q = XQ below (QI (fun r H => ∃ (Bn' : Nat) (bo' fr' lo' sl' : Nat → Int), r = Bn' ∧ Bn' ≤ Pn ∧ SwF bl cu Pn le Bn' bo' fr' ∧ va_P (kD K) vcl (saW K (b + 98) bl cu Pn le 1 Bn' bo' fr' lo' sl') H)) args s rmX_plan.cells rmX_plan.slots (fun q => b + 98 ≤ q ∧ q < b + 98 + 6) := ⟨_, rfl⟩
  rw [← hQ, ha, lg_entry_eq]
  rw [ha] at hQ
  generalize (lg_sl ([.ref b]) ++ List.replicate (1 - (lg_sl ([.ref b])).length) Slot.unset).toArray = ls at hl ⊢
  generalize ([.ref b] : List Value).toArray = args at hQ ⊢
  have hts : ∀ w ∈ TW, w.before args s = true := fun w h => hT w h args
  have hl : lv_has ls 1 [(0, .ref b)] := hl
  obtain ⟨A, hAe⟩ : ∃ A : Addr → Prop, A = (fun q => b + 98 ≤ q ∧ q < b + 98 + 6) := ⟨_, rfl⟩
  rw [← hAe] at hQ
  have hS : va_S A s.heap s.heap [] := va_S.rf
  obtain ⟨hP, hR⟩ := hB
  have hP : va_P (kD K) vcl [(b + 98, .inr (3, [.int (iI bl), .int (iI cu), .int (iI (Pn : Int)), .ref (b + 98 + 1), .int (iI pl), .int (iI (Bn : Int)), .ref (b + 98 + 2), .ref (b + 98 + 3), .ref (b + 98 + 4), .ref (b + 98 + 5)])), (b + 98 + 1, .inl (kI K, 10, .inl (iA le))), (b + 98 + 2, .inl (kI K, 10, .inl (iA bo))), (b + 98 + 3, .inl (kI K, 10, .inl (iA fr))), (b + 98 + 4, .inl (kI K, 10, .inl (iA lo))), (b + 98 + 5, .inl (kI K, 10, .inl (iA sl)))] s.heap := hP
  have hD : va_D A [(b + 98, .inr (3, [.int (iI bl), .int (iI cu), .int (iI (Pn : Int)), .ref (b + 98 + 1), .int (iI pl), .int (iI (Bn : Int)), .ref (b + 98 + 2), .ref (b + 98 + 3), .ref (b + 98 + 4), .ref (b + 98 + 5)])), (b + 98 + 1, .inl (kI K, 10, .inl (iA le))), (b + 98 + 2, .inl (kI K, 10, .inl (iA bo))), (b + 98 + 3, .inl (kI K, 10, .inl (iA fr))), (b + 98 + 4, .inl (kI K, 10, .inl (iA lo))), (b + 98 + 5, .inl (kI K, 10, .inl (iA sl)))] := by rw [hAe]; exact va_D_of (by simp) (by simp <;> omega)
  have hR : va_P (kD K) vcl [(b, .inr (0, [.ref (b + 1), .int (iI (wn : Int)), .ref (b + 26), .ref (b + 27), .ref (b + 98)]))] s.heap := hR
  have hRA : ∀ (k : Nat) (q : Nat × va_E), [(b, .inr (0, [.ref (b + 1), .int (iI (wn : Int)), .ref (b + 26), .ref (b + 27), .ref (b + 98)]))][k]? = some q → ¬ A q.1 := by
    intro k q hk
    have hk := List.mem_of_getElem? hk
    simp only [List.mem_cons, List.not_mem_nil, or_false] at hk
    rw [hAe]
    rcases hk with rfl <;> (show ¬ (b + 98 ≤ _ ∧ _ < b + 98 + 6)) <;> dsimp only <;> omega
  refine lv_aload_n hx hb dX_plan_0 rfl (lv_at hl 0 rfl) ?_
  refine va_get (D := kD K) (ci := 0) (v := .ref (b + 98)) (C := RX) (T := FX) (N := 5) hx hb hts jnX hown hK (ro_at hS hR hRA) 0 rfl rfl 4 (by decide) (hts _ mt_130) (fun _ h9 => h9) rfl dX_plan_1 ?_
  refine ctVN (n := 0) hx hb hml hown hT ⟨c_A_makePlan l K (b + 98) bl cu Pn le pl Bn bo fr lo sl hI, ⟨_, _, _, Or.inl ⟨rfl, rfl⟩⟩, mt_276, mt_4, by decide, by decide +kernel, by decide, by decide, by decide, by decide⟩ PC.blind mt_273 mt_275 ms_8 (va_RVof (ci := 3) (q0 := 0) hK hP rfl rfl) (As := []) (rest := []) rfl (PC.at ⟨hT, hK⟩ hP) hl.1 rfl (Nat.le_of_ble_eq_true rfl) dX_plan_4 (krV (c1 := 0) (s1 := 0) rfl rfl (fun t1 H1 L hA hL hpo => ?_))
  obtain ⟨Bn', bo', fr', lo', sl', hBP, hF, hP⟩ := hpo
  have hS := hA.S hS (fun x hx => by rw [hAe]; exact hx) hL
  have hP : va_P (kD K) vcl [(b + 98, .inr (3, [.int (iI bl), .int (iI cu), .int (iI (Pn : Int)), .ref (b + 98 + 1), .int (iI 1), .int (iI (Bn' : Int)), .ref (b + 98 + 2), .ref (b + 98 + 3), .ref (b + 98 + 4), .ref (b + 98 + 5)])), (b + 98 + 1, .inl (kI K, 10, .inl (iA le))), (b + 98 + 2, .inl (kI K, 10, .inl (iA bo'))), (b + 98 + 3, .inl (kI K, 10, .inl (iA fr'))), (b + 98 + 4, .inl (kI K, 10, .inl (iA lo'))), (b + 98 + 5, .inl (kI K, 10, .inl (iA sl')))] H1 := hP
  generalize H1 = H at hP hS ⊢
  refine lv_aload_n hx hb dX_plan_7 rfl (lv_at hl 0 rfl) ?_
  refine va_get (D := kD K) (ci := 0) (v := .ref (b + 98)) (C := RX) (T := FX) (N := 5) hx hb hts jnX hown hK (ro_at hS hR hRA) 0 rfl rfl 4 (by decide) (hts _ mt_130) (fun _ h9 => h9) rfl dX_plan_8 ?_
  refine va_getN (D := kD K) (ci := 3) (v := .int (iI (Bn' : Int))) (C := RA) (T := FA) (N := 10) hx hb hts jnA hown hK hP 0 rfl rfl 5 (by decide) (hts _ mt_98) (fun _ h9 => h9) rfl dX_plan_11 ?_
  rw [hQ]
  exact iz_iret hx hb hr hlocks (⟨Bn', bo', fr', lo', sl', rfl, hBP, hF, hP⟩) hS.2.2 dX_plan_14
abbrev rmX_bar : Room := { frames := 16, cells := 1, slots := 6, locals := 900 }
set_option maxHeartbeats 4000000 in
set_option maxRecDepth 100000 in
/-- bar(piece) -/
theorem c_X_bar (l : Launch) (htr : l.stackTraces = false) (K : KG) (z : Nat) (b wn k : Nat) (bl cu : Int) (Pn : Nat) (le : Nat → Int) (pl : Int) (Bn : Nat) (bo fr lo sl : Nat → Int) (x1 : Int) (h1 : r32 x1) (hk : 0 ≤ x1 → x1 < Pn → x1 = k) (hI : SwI bl cu Pn le pl Bn bo fr) : Ct l yX_bar kX_bar rmX_bar (PX K z [.ref b, .int (iI x1)] (fun H => va_P (kD K) vcl (saW K (b + 98) bl cu Pn le pl Bn bo fr lo sl) H ∧ va_P (kD K) vcl [(b, .inr (0, [.ref (b + 1), .int (iI (wn : Int)), .ref (b + 26), .ref (b + 27), .ref (b + 98)]))] H)) (QTI (fun r _ H => (0 ≤ x1 ∧ x1 < Pn) ∧ ∃ (Bn' : Nat) (bo' fr' lo' sl' : Nat → Int), r = bo' k ∧ Bn' ≤ Pn ∧ SwF bl cu Pn le Bn' bo' fr' ∧ va_P (kD K) vcl (saW K (b + 98) bl cu Pn le 1 Bn' bo' fr' lo' sl') H) (fun E => E = exA ∧ ¬ (0 ≤ x1 ∧ x1 < Pn))) (fun q => b + 98 ≤ q ∧ q < b + 98 + 6) := by
  refine ct_of (by decide) (Or.inl ⟨rfl, rfl⟩) ?_
  intro p e s m args below meth c B0 hP0
  obtain ⟨hx, hb, hr, hml, hown, hlocks, hnm, htab⟩ := B0
  obtain ⟨ha, hE, hB⟩ := hP0
  obtain ⟨hT, hK⟩ := hE.1
  have hl := lv_entry ([.ref b, .int (iI x1)]) (n := 2) (Nat.le_of_ble_eq_true rfl)
  obtain ⟨Q, hQ⟩ : ∃ Q, Q = XQ below (QTI (fun r _ H => (0 ≤ x1 ∧ x1 < Pn) ∧ ∃ (Bn' : Nat) (bo' fr' lo' sl' : Nat → Int), r = bo' k ∧ Bn' ≤ Pn ∧ SwF bl cu Pn le Bn' bo' fr' ∧ va_P (kD K) vcl (saW K (b + 98) bl cu Pn le 1 Bn' bo' fr' lo' sl') H) (fun E => E = exA ∧ ¬ (0 ≤ x1 ∧ x1 < Pn))) args s (rmX_bar).cells (rmX_bar).slots (fun q => b + 98 ≤ q ∧ q < b + 98 + 6) := ⟨_, rfl⟩
  rw [← hQ, ha, lg_entry_eq]
  rw [ha] at hQ
  generalize (lg_sl ([.ref b, .int (iI x1)]) ++ List.replicate (2 - (lg_sl ([.ref b, .int (iI x1)])).length) Slot.unset).toArray = ls at hl ⊢
  generalize ([.ref b, .int (iI x1)] : List Value).toArray = args at hQ ⊢
  have hts : ∀ w ∈ TW, w.before args s = true := fun w h => hT w h args
  have hl : lv_has ls 2 [(0, .ref b), (1, .int (iI x1))] := hl
  obtain ⟨A, hAe⟩ : ∃ A : Addr → Prop, A = (fun q => b + 98 ≤ q ∧ q < b + 98 + 6) := ⟨_, rfl⟩
  rw [← hAe] at hQ
  have hS : va_S A s.heap s.heap [] := va_S.rf
  obtain ⟨hP, hR⟩ := hB
  have hP : va_P (kD K) vcl [(b + 98, .inr (3, [.int (iI bl), .int (iI cu), .int (iI (Pn : Int)), .ref (b + 98 + 1), .int (iI pl), .int (iI (Bn : Int)), .ref (b + 98 + 2), .ref (b + 98 + 3), .ref (b + 98 + 4), .ref (b + 98 + 5)])), (b + 98 + 1, .inl (kI K, 10, .inl (iA le))), (b + 98 + 2, .inl (kI K, 10, .inl (iA bo))), (b + 98 + 3, .inl (kI K, 10, .inl (iA fr))), (b + 98 + 4, .inl (kI K, 10, .inl (iA lo))), (b + 98 + 5, .inl (kI K, 10, .inl (iA sl)))] s.heap := hP
  have hD : va_D A [(b + 98, .inr (3, [.int (iI bl), .int (iI cu), .int (iI (Pn : Int)), .ref (b + 98 + 1), .int (iI pl), .int (iI (Bn : Int)), .ref (b + 98 + 2), .ref (b + 98 + 3), .ref (b + 98 + 4), .ref (b + 98 + 5)])), (b + 98 + 1, .inl (kI K, 10, .inl (iA le))), (b + 98 + 2, .inl (kI K, 10, .inl (iA bo))), (b + 98 + 3, .inl (kI K, 10, .inl (iA fr))), (b + 98 + 4, .inl (kI K, 10, .inl (iA lo))), (b + 98 + 5, .inl (kI K, 10, .inl (iA sl)))] := by rw [hAe]; exact va_D_of (by simp) (by simp <;> omega)
  have hR : va_P (kD K) vcl [(b, .inr (0, [.ref (b + 1), .int (iI (wn : Int)), .ref (b + 26), .ref (b + 27), .ref (b + 98)]))] s.heap := hR
  have hRA : ∀ (k : Nat) (q : Nat × va_E), [(b, .inr (0, [.ref (b + 1), .int (iI (wn : Int)), .ref (b + 26), .ref (b + 27), .ref (b + 98)]))][k]? = some q → ¬ A q.1 := by
    intro k q hk
    have hk := List.mem_of_getElem? hk
    simp only [List.mem_cons, List.not_mem_nil, or_false] at hk
    rw [hAe]
    rcases hk with rfl <;> (show ¬ (b + 98 ≤ _ ∧ _ < b + 98 + 6)) <;> dsimp only <;> omega
  obtain ⟨hbl, hcu, hP10, hle⟩ := id hI.1
  refine lv_iload_n hx hb dX_bar_0 rfl (lv_at hl 1 rfl) ?_
  refine lv_aload_n hx hb dX_bar_1 rfl (lv_at hl 0 rfl) ?_
  refine va_get (D := kD K) (ci := 0) (v := .ref (b + 98)) (C := RX) (T := FX) (N := 5) hx hb hts jnX hown hK (ro_at hS hR hRA) 0 rfl rfl 4 (by decide) (hts _ mt_130) (fun _ h9 => h9) rfl dX_bar_2 ?_
  refine va_getN (D := kD K) (ci := 3) (v := .int (iI (Pn : Int))) (C := RA) (T := FA) (N := 10) hx hb hts jnA hown hK hP 0 rfl rfl 2 (by decide) (hts _ mt_94) (fun _ h9 => h9) rfl dX_bar_5 ?_
  refine ctS (n := 2) hx hb hml hown hT ⟨c_X_checkNumber l htr K z x1 Pn ⟨by omega, by omega⟩ ⟨by omega, by omega⟩, ⟨_, _, _, Or.inl ⟨rfl, rfl⟩⟩, mt_152, mt_1, by decide, by decide +kernel, by decide, by decide, by decide, by decide⟩ PX.blind mt_150 mt_151 (As := [.int (iI x1), .int (iI (Pn : Int))]) (rest := []) rfl (PX.at hE rfl trivial) hl.1 rfl (Nat.le_of_ble_eq_true rfl) dX_bar_8 (krC (c1 := 1) (s1 := 6) rfl rfl (fun _ h => h) rfl rfl (fun g1 => ?_) (fun x H1 hX hk hn => by rw [hQ]; exact x_out htab hlocks (fun _ _ h => Or.inr h) hX hk (⟨rfl, by omega⟩) (by decide) (by decide)))
  refine lv_aload_n hx hb dX_bar_11 rfl (lv_at hl 0 rfl) ?_
  refine va_get (D := kD K) (ci := 0) (v := .ref (b + 98)) (C := RX) (T := FX) (N := 5) hx hb hts jnX hown hK (ro_at hS hR hRA) 0 rfl rfl 4 (by decide) (hts _ mt_130) (fun _ h9 => h9) rfl dX_bar_12 ?_
  have hk := hk (by omega) (by omega)
  refine ctVN (n := 0) hx hb hml hown hT ⟨c_A_makePlan l K (b + 98) bl cu Pn le pl Bn bo fr lo sl hI, ⟨_, _, _, Or.inl ⟨rfl, rfl⟩⟩, mt_276, mt_4, by decide, by decide +kernel, by decide, by decide, by decide, by decide⟩ PC.blind mt_273 mt_275 ms_8 (va_RVof (ci := 3) (q0 := 0) hK hP rfl rfl) (As := []) (rest := []) rfl (PC.at ⟨hT, hK⟩ hP) hl.1 rfl (Nat.le_of_ble_eq_true rfl) dX_bar_15 (krV (c1 := 1) (s1 := 6) rfl rfl (fun t1 H1 L hA hL hpo => ?_))
  obtain ⟨Bn', bo', fr', lo', sl', hBP, hF, hP⟩ := hpo
  have hS := hA.S hS (fun x hx => by rw [hAe]; exact hx) hL
  have hP : va_P (kD K) vcl [(b + 98, .inr (3, [.int (iI bl), .int (iI cu), .int (iI (Pn : Int)), .ref (b + 98 + 1), .int (iI 1), .int (iI (Bn' : Int)), .ref (b + 98 + 2), .ref (b + 98 + 3), .ref (b + 98 + 4), .ref (b + 98 + 5)])), (b + 98 + 1, .inl (kI K, 10, .inl (iA le))), (b + 98 + 2, .inl (kI K, 10, .inl (iA bo'))), (b + 98 + 3, .inl (kI K, 10, .inl (iA fr'))), (b + 98 + 4, .inl (kI K, 10, .inl (iA lo'))), (b + 98 + 5, .inl (kI K, 10, .inl (iA sl')))] H1 := hP
  generalize H1 = H at hP hS ⊢
  refine lv_aload_n hx hb dX_bar_18 rfl (lv_at hl 0 rfl) ?_
  refine va_get (D := kD K) (ci := 0) (v := .ref (b + 98)) (C := RX) (T := FX) (N := 5) hx hb hts jnX hown hK (ro_at hS hR hRA) 0 rfl rfl 4 (by decide) (hts _ mt_130) (fun _ h9 => h9) rfl dX_bar_19 ?_
  refine va_getN (D := kD K) (ci := 3) (v := .ref (b + 98 + 2)) (C := RA) (T := FA) (N := 10) hx hb hts jnA hown hK hP 0 rfl rfl 6 (by decide) (hts _ mt_100) (fun _ h9 => h9) rfl dX_bar_22 ?_
  refine lv_iload_n hx hb dX_bar_25 rfl (lv_at hl 1 rfl) ?_
  refine iz_iald hx hb hK hP 2 rfl k hk (by omega) (by omega) dX_bar_26 ?_
  rw [hQ]
  exact ix_iret hx hb hr hlocks (⟨g1, Bn', bo', fr', lo', sl', rfl, hBP, hF, hP⟩) hS.2.2 (by decide) (by decide) dX_bar_27
abbrev rmX_rest : Room := { frames := 16, cells := 1, slots := 6, locals := 900 }
set_option maxHeartbeats 4000000 in
set_option maxRecDepth 100000 in
/-- rest(bar) -/
theorem c_X_rest (l : Launch) (htr : l.stackTraces = false) (K : KG) (z : Nat) (b wn : Nat) (bl cu : Int) (Pn : Nat) (le : Nat → Int) (pl : Int) (Bn : Nat) (bo fr lo sl : Nat → Int) (x1 : Int) (h1 : r32 x1) (hI : SwI bl cu Pn le pl Bn bo fr) (hzb : z < b) : Ct l yX_rest kX_rest rmX_rest (PX K z [.ref b, .int (iI x1)] (fun H => va_P (kD K) vcl (saW K (b + 98) bl cu Pn le pl Bn bo fr lo sl) H ∧ va_P (kD K) vcl [(b, .inr (0, [.ref (b + 1), .int (iI (wn : Int)), .ref (b + 26), .ref (b + 27), .ref (b + 98)]))] H)) (QTR (fun r _ H => ∃ (Bn' : Nat) (bo' fr' lo' sl' : Nat → Int), (0 ≤ x1 ∧ x1 < Bn') ∧ (∃ k : Nat, x1 = k ∧ r = fr' k) ∧ Bn' ≤ Pn ∧ SwF bl cu Pn le Bn' bo' fr' ∧ va_P (kD K) vcl (saW K (b + 98) bl cu Pn le 1 Bn' bo' fr' lo' sl') H) (fun E H => E = exA ∧ ∃ (Bn' : Nat) (bo' fr' lo' sl' : Nat → Int), ¬ (0 ≤ x1 ∧ x1 < Bn') ∧ Bn' ≤ Pn ∧ SwF bl cu Pn le Bn' bo' fr' ∧ va_P (kD K) vcl (saW K (b + 98) bl cu Pn le 1 Bn' bo' fr' lo' sl') H)) (fun q => b + 98 ≤ q ∧ q < b + 98 + 6) := by
  refine ct_of (by decide) (Or.inl ⟨rfl, rfl⟩) ?_
  intro p e s m args below meth c B0 hP0
  obtain ⟨hx, hb, hr, hml, hown, hlocks, hnm, htab⟩ := B0
  obtain ⟨ha, hE, hB⟩ := hP0
  obtain ⟨hT, hK⟩ := hE.1
  have hl := lv_entry ([.ref b, .int (iI x1)]) (n := 2) (Nat.le_of_ble_eq_true rfl)
  obtain ⟨Q, hQ⟩ : ∃ Q, Q = XQ below (QTR (fun r _ H => ∃ (Bn' : Nat) (bo' fr' lo' sl' : Nat → Int), (0 ≤ x1 ∧ x1 < Bn') ∧ (∃ k : Nat, x1 = k ∧ r = fr' k) ∧ Bn' ≤ Pn ∧ SwF bl cu Pn le Bn' bo' fr' ∧ va_P (kD K) vcl (saW K (b + 98) bl cu Pn le 1 Bn' bo' fr' lo' sl') H) (fun E H => E = exA ∧ ∃ (Bn' : Nat) (bo' fr' lo' sl' : Nat → Int), ¬ (0 ≤ x1 ∧ x1 < Bn') ∧ Bn' ≤ Pn ∧ SwF bl cu Pn le Bn' bo' fr' ∧ va_P (kD K) vcl (saW K (b + 98) bl cu Pn le 1 Bn' bo' fr' lo' sl') H)) args s (rmX_rest).cells (rmX_rest).slots (fun q => b + 98 ≤ q ∧ q < b + 98 + 6) := ⟨_, rfl⟩
  rw [← hQ, ha, lg_entry_eq]
  rw [ha] at hQ
  generalize (lg_sl ([.ref b, .int (iI x1)]) ++ List.replicate (2 - (lg_sl ([.ref b, .int (iI x1)])).length) Slot.unset).toArray = ls at hl ⊢
  generalize ([.ref b, .int (iI x1)] : List Value).toArray = args at hQ ⊢
  have hts : ∀ w ∈ TW, w.before args s = true := fun w h => hT w h args
  have hl : lv_has ls 2 [(0, .ref b), (1, .int (iI x1))] := hl
  obtain ⟨A, hAe⟩ : ∃ A : Addr → Prop, A = (fun q => b + 98 ≤ q ∧ q < b + 98 + 6) := ⟨_, rfl⟩
  rw [← hAe] at hQ
  have hS : va_S A s.heap s.heap [] := va_S.rf
  obtain ⟨hP, hR⟩ := hB
  have hP : va_P (kD K) vcl [(b + 98, .inr (3, [.int (iI bl), .int (iI cu), .int (iI (Pn : Int)), .ref (b + 98 + 1), .int (iI pl), .int (iI (Bn : Int)), .ref (b + 98 + 2), .ref (b + 98 + 3), .ref (b + 98 + 4), .ref (b + 98 + 5)])), (b + 98 + 1, .inl (kI K, 10, .inl (iA le))), (b + 98 + 2, .inl (kI K, 10, .inl (iA bo))), (b + 98 + 3, .inl (kI K, 10, .inl (iA fr))), (b + 98 + 4, .inl (kI K, 10, .inl (iA lo))), (b + 98 + 5, .inl (kI K, 10, .inl (iA sl)))] s.heap := hP
  have hD : va_D A [(b + 98, .inr (3, [.int (iI bl), .int (iI cu), .int (iI (Pn : Int)), .ref (b + 98 + 1), .int (iI pl), .int (iI (Bn : Int)), .ref (b + 98 + 2), .ref (b + 98 + 3), .ref (b + 98 + 4), .ref (b + 98 + 5)])), (b + 98 + 1, .inl (kI K, 10, .inl (iA le))), (b + 98 + 2, .inl (kI K, 10, .inl (iA bo))), (b + 98 + 3, .inl (kI K, 10, .inl (iA fr))), (b + 98 + 4, .inl (kI K, 10, .inl (iA lo))), (b + 98 + 5, .inl (kI K, 10, .inl (iA sl)))] := by rw [hAe]; exact va_D_of (by simp) (by simp <;> omega)
  have hR : va_P (kD K) vcl [(b, .inr (0, [.ref (b + 1), .int (iI (wn : Int)), .ref (b + 26), .ref (b + 27), .ref (b + 98)]))] s.heap := hR
  have hRA : ∀ (k : Nat) (q : Nat × va_E), [(b, .inr (0, [.ref (b + 1), .int (iI (wn : Int)), .ref (b + 26), .ref (b + 27), .ref (b + 98)]))][k]? = some q → ¬ A q.1 := by
    intro k q hk
    have hk := List.mem_of_getElem? hk
    simp only [List.mem_cons, List.not_mem_nil, or_false] at hk
    rw [hAe]
    rcases hk with rfl <;> (show ¬ (b + 98 ≤ _ ∧ _ < b + 98 + 6)) <;> dsimp only <;> omega
  obtain ⟨hbl, hcu, hP10, hle⟩ := id hI.1
  have hzA : ¬ A z := by rw [hAe]; show ¬ (b + 98 ≤ z ∧ z < b + 98 + 6); omega
  refine lv_aload_n hx hb dX_rest_0 rfl (lv_at hl 0 rfl) ?_
  refine va_get (D := kD K) (ci := 0) (v := .ref (b + 98)) (C := RX) (T := FX) (N := 5) hx hb hts jnX hown hK (ro_at hS hR hRA) 0 rfl rfl 4 (by decide) (hts _ mt_130) (fun _ h9 => h9) rfl dX_rest_1 ?_
  refine ctVN (n := 0) hx hb hml hown hT ⟨c_A_makePlan l K (b + 98) bl cu Pn le pl Bn bo fr lo sl hI, ⟨_, _, _, Or.inl ⟨rfl, rfl⟩⟩, mt_276, mt_4, by decide, by decide +kernel, by decide, by decide, by decide, by decide⟩ PC.blind mt_273 mt_275 ms_8 (va_RVof (ci := 3) (q0 := 0) hK hP rfl rfl) (As := []) (rest := []) rfl (PC.at ⟨hT, hK⟩ hP) hl.1 rfl (Nat.le_of_ble_eq_true rfl) dX_rest_4 (krV (c1 := 0) (s1 := 0) rfl rfl (fun t1 H1 L hA hL hpo => ?_))
  obtain ⟨Bn', bo', fr', lo', sl', hBP, hF, hP⟩ := hpo
  have hS := hA.S hS (fun x hx => by rw [hAe]; exact hx) hL
  have hP : va_P (kD K) vcl [(b + 98, .inr (3, [.int (iI bl), .int (iI cu), .int (iI (Pn : Int)), .ref (b + 98 + 1), .int (iI 1), .int (iI (Bn' : Int)), .ref (b + 98 + 2), .ref (b + 98 + 3), .ref (b + 98 + 4), .ref (b + 98 + 5)])), (b + 98 + 1, .inl (kI K, 10, .inl (iA le))), (b + 98 + 2, .inl (kI K, 10, .inl (iA bo'))), (b + 98 + 3, .inl (kI K, 10, .inl (iA fr'))), (b + 98 + 4, .inl (kI K, 10, .inl (iA lo'))), (b + 98 + 5, .inl (kI K, 10, .inl (iA sl')))] H1 := hP
  generalize H1 = H at hP hS ⊢
  refine lv_iload_n hx hb dX_rest_7 rfl (lv_at hl 1 rfl) ?_
  refine lv_aload_n hx hb dX_rest_8 rfl (lv_at hl 0 rfl) ?_
  refine va_get (D := kD K) (ci := 0) (v := .ref (b + 98)) (C := RX) (T := FX) (N := 5) hx hb hts jnX hown hK (ro_at hS hR hRA) 0 rfl rfl 4 (by decide) (hts _ mt_130) (fun _ h9 => h9) rfl dX_rest_9 ?_
  refine va_getN (D := kD K) (ci := 3) (v := .int (iI (Bn' : Int))) (C := RA) (T := FA) (N := 10) hx hb hts jnA hown hK hP 0 rfl rfl 5 (by decide) (hts _ mt_98) (fun _ h9 => h9) rfl dX_rest_12 ?_
  refine ctS (n := 2) hx hb hml hown hT ⟨c_X_checkNumber l htr K z x1 Bn' ⟨by omega, by omega⟩ ⟨by omega, by omega⟩, ⟨_, _, _, Or.inl ⟨rfl, rfl⟩⟩, mt_152, mt_1, by decide, by decide +kernel, by decide, by decide, by decide, by decide⟩ PX.blind mt_150 mt_151 (As := [.int (iI x1), .int (iI (Bn' : Int))]) (rest := []) rfl (PX.at hE (hS.2.1 z hE.2.1.lt hzA) trivial) hl.1 rfl (Nat.le_of_ble_eq_true rfl) dX_rest_15 (krC (c1 := 1) (s1 := 6) rfl rfl (fun _ h => h) rfl rfl (fun g1 => ?_) (fun x H1 hX hk hn => by rw [hQ]; exact wx_out htab hlocks (fun t ht hW => Or.inr ⟨x, exA, rfl, hX.to hW ht, rfl, Bn', bo', fr', lo', sl', hn, hBP, hF, by rw [ht]; exact hk.P hP⟩) hS.2.2))
  obtain ⟨k, hk⟩ : ∃ k : Nat, x1 = k := ⟨x1.toNat, by omega⟩
  refine lv_aload_n hx hb dX_rest_18 rfl (lv_at hl 0 rfl) ?_
  refine va_get (D := kD K) (ci := 0) (v := .ref (b + 98)) (C := RX) (T := FX) (N := 5) hx hb hts jnX hown hK (ro_at hS hR hRA) 0 rfl rfl 4 (by decide) (hts _ mt_130) (fun _ h9 => h9) rfl dX_rest_19 ?_
  refine va_getN (D := kD K) (ci := 3) (v := .ref (b + 98 + 3)) (C := RA) (T := FA) (N := 10) hx hb hts jnA hown hK hP 0 rfl rfl 7 (by decide) (hts _ mt_102) (fun _ h9 => h9) rfl dX_rest_22 ?_
  refine lv_iload_n hx hb dX_rest_25 rfl (lv_at hl 1 rfl) ?_
  refine iz_iald hx hb hK hP 3 rfl k hk (by omega) (by omega) dX_rest_26 ?_
  rw [hQ]
  exact W.mono xq_of (W.iret (Qc := QTR _ _) hx hb hr (fun t ht _ => Or.inl ⟨_, rfl, Bn', bo', fr', lo', sl', g1, ⟨k, hk, rfl⟩, hBP, hF, by rw [ht]; exact hP⟩) hS.2.2 dX_rest_27 hlocks)
