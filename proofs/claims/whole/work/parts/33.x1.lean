-- class LayerQuantities: the checks
abbrev rmX_checkBounds : Room := { frames := 6, cells := 1, slots := 6, locals := 90 }
set_option maxHeartbeats 4000000 in
set_option maxRecDepth 100000 in
theorem c_X_checkBounds (l : Launch) (htr : l.stackTraces = false) (K : KG) (z : Nat) (v lo hi : Int) (h1 : r32 v) (h2 : r32 lo) (h3 : r32 hi) : Ct l yX_checkBounds kX_checkBounds rmX_checkBounds (PX K z [.int (iI v), .int (iI lo), .int (iI hi)] (fun H => True)) (QTV (fun H0 H => H = H0 ∧ (lo ≤ v ∧ v ≤ hi)) (fun E => E = exA ∧ ¬ (lo ≤ v ∧ v ≤ hi))) (fun _ => False) := by
  refine ct_of (by decide) (Or.inl ⟨rfl, rfl⟩) ?_
  intro p e s m args below meth c B0 hP0
  obtain ⟨hx, hb, hr, hml, hown, hlocks, hnm, htab⟩ := B0
  obtain ⟨ha, hE, hB⟩ := hP0
  obtain ⟨hT, hK⟩ := hE.1
  have hl := lv_entry ([.int (iI v), .int (iI lo), .int (iI hi)]) (n := 3) (Nat.le_of_ble_eq_true rfl)
  obtain ⟨Q, hQ⟩ : ∃ Q, Q = XQ below (QTV (fun H0 H => H = H0 ∧ (lo ≤ v ∧ v ≤ hi)) (fun E => E = exA ∧ ¬ (lo ≤ v ∧ v ≤ hi))) args s (rmX_checkBounds).cells (rmX_checkBounds).slots (fun _ => False) := ⟨_, rfl⟩
  rw [← hQ, ha, lg_entry_eq]
  rw [ha] at hQ
  generalize (lg_sl ([.int (iI v), .int (iI lo), .int (iI hi)]) ++ List.replicate (3 - (lg_sl ([.int (iI v), .int (iI lo), .int (iI hi)])).length) Slot.unset).toArray = ls at hl ⊢
  generalize ([.int (iI v), .int (iI lo), .int (iI hi)] : List Value).toArray = args at hQ ⊢
  have hts : ∀ w ∈ TW, w.before args s = true := fun w h => hT w h args
  have hl : lv_has ls 3 [(0, .int (iI v)), (1, .int (iI lo)), (2, .int (iI hi))] := hl
  obtain ⟨A, hAe⟩ : ∃ A : Addr → Prop, A = (fun _ => False) := ⟨_, rfl⟩
  rw [← hAe] at hQ
  have hS : va_S A s.heap s.heap [] := va_S.rf
  refine lv_iload_n hx hb dX_checkBounds_0 rfl (lv_at hl 0 rfl) ?_
  refine lv_iload_n hx hb dX_checkBounds_1 rfl (lv_at hl 1 rfl) ?_
  refine iz_icmp_lt (tgt := 10) hx hb ⟨by omega, by omega⟩ ⟨by omega, by omega⟩ dX_checkBounds_2 (by decide) (fun g1 => ?_) (fun g1 => ?_)
  · rw [hQ]
    exact tx_throw hx hb htr hE hown (by decide) (by decide) at_A mt_153 mt_9 mt_313 (hl.1.trans hml.symm) dX_checkBounds_10 dX_checkBounds_13 dX_checkBounds_14 dX_checkBounds_16 dX_checkBounds_19 htab hlocks (by decide) (Nat.le_of_ble_eq_true rfl) (Nat.le_of_ble_eq_true rfl) (Nat.le_of_ble_eq_true rfl) (Nat.le_of_ble_eq_true rfl) (Nat.le_of_ble_eq_true rfl) (fun x t hW hX hke => Or.inr ⟨x, exA, rfl, hX, hke, rfl, by omega⟩)
  · refine lv_iload_n hx hb dX_checkBounds_5 rfl (lv_at hl 0 rfl) ?_
    refine lv_iload_n hx hb dX_checkBounds_6 rfl (lv_at hl 2 rfl) ?_
    refine iz_icmp_le (tgt := 20) hx hb ⟨by omega, by omega⟩ ⟨by omega, by omega⟩ dX_checkBounds_7 (by decide) (fun g2 => ?_) (fun g2 => ?_)
    · rw [hQ]
      exact ix_vret hx hb hr hlocks (⟨rfl, by omega⟩) (fun _ h => absurd h List.not_mem_nil) (by decide) (by decide) dX_checkBounds_20
    · rw [hQ]
      exact tx_throw hx hb htr hE hown (by decide) (by decide) at_A mt_153 mt_9 mt_313 (hl.1.trans hml.symm) dX_checkBounds_10 dX_checkBounds_13 dX_checkBounds_14 dX_checkBounds_16 dX_checkBounds_19 htab hlocks (by decide) (Nat.le_of_ble_eq_true rfl) (Nat.le_of_ble_eq_true rfl) (Nat.le_of_ble_eq_true rfl) (Nat.le_of_ble_eq_true rfl) (Nat.le_of_ble_eq_true rfl) (fun x t hW hX hke => Or.inr ⟨x, exA, rfl, hX, hke, rfl, by omega⟩)
abbrev rmX_checkNumber : Room := { frames := 6, cells := 1, slots := 6, locals := 90 }
set_option maxHeartbeats 4000000 in
set_option maxRecDepth 100000 in
theorem c_X_checkNumber (l : Launch) (htr : l.stackTraces = false) (K : KG) (z : Nat) (v hi : Int) (h1 : r32 v) (h2 : r32 hi) : Ct l yX_checkNumber kX_checkNumber rmX_checkNumber (PX K z [.int (iI v), .int (iI hi)] (fun H => True)) (QTV (fun H0 H => H = H0 ∧ (0 ≤ v ∧ v < hi)) (fun E => E = exA ∧ ¬ (0 ≤ v ∧ v < hi))) (fun _ => False) := by
  refine ct_of (by decide) (Or.inl ⟨rfl, rfl⟩) ?_
  intro p e s m args below meth c B0 hP0
  obtain ⟨hx, hb, hr, hml, hown, hlocks, hnm, htab⟩ := B0
  obtain ⟨ha, hE, hB⟩ := hP0
  obtain ⟨hT, hK⟩ := hE.1
  have hl := lv_entry ([.int (iI v), .int (iI hi)]) (n := 2) (Nat.le_of_ble_eq_true rfl)
  obtain ⟨Q, hQ⟩ : ∃ Q, Q = XQ below (QTV (fun H0 H => H = H0 ∧ (0 ≤ v ∧ v < hi)) (fun E => E = exA ∧ ¬ (0 ≤ v ∧ v < hi))) args s (rmX_checkNumber).cells (rmX_checkNumber).slots (fun _ => False) := ⟨_, rfl⟩
  rw [← hQ, ha, lg_entry_eq]
  rw [ha] at hQ
  generalize (lg_sl ([.int (iI v), .int (iI hi)]) ++ List.replicate (2 - (lg_sl ([.int (iI v), .int (iI hi)])).length) Slot.unset).toArray = ls at hl ⊢
  generalize ([.int (iI v), .int (iI hi)] : List Value).toArray = args at hQ ⊢
  have hts : ∀ w ∈ TW, w.before args s = true := fun w h => hT w h args
  have hl : lv_has ls 2 [(0, .int (iI v)), (1, .int (iI hi))] := hl
  obtain ⟨A, hAe⟩ : ∃ A : Addr → Prop, A = (fun _ => False) := ⟨_, rfl⟩
  rw [← hAe] at hQ
  have hS : va_S A s.heap s.heap [] := va_S.rf
  refine lv_iload_n hx hb dX_checkNumber_0 rfl (lv_at hl 0 rfl) ?_
  refine iz_if_lt (tgt := 9) hx hb ⟨by omega, by omega⟩ dX_checkNumber_1 (by decide) (fun g1 => ?_) (fun g1 => ?_)
  · rw [hQ]
    exact tx_throw hx hb htr hE hown (by decide) (by decide) at_A mt_153 mt_9 mt_193 (hl.1.trans hml.symm) dX_checkNumber_9 dX_checkNumber_12 dX_checkNumber_13 dX_checkNumber_15 dX_checkNumber_18 htab hlocks (by decide) (Nat.le_of_ble_eq_true rfl) (Nat.le_of_ble_eq_true rfl) (Nat.le_of_ble_eq_true rfl) (Nat.le_of_ble_eq_true rfl) (Nat.le_of_ble_eq_true rfl) (fun x t hW hX hke => Or.inr ⟨x, exA, rfl, hX, hke, rfl, by omega⟩)
  · refine lv_iload_n hx hb dX_checkNumber_4 rfl (lv_at hl 0 rfl) ?_
    refine lv_iload_n hx hb dX_checkNumber_5 rfl (lv_at hl 1 rfl) ?_
    refine iz_icmp_lt (tgt := 19) hx hb ⟨by omega, by omega⟩ ⟨by omega, by omega⟩ dX_checkNumber_6 (by decide) (fun g2 => ?_) (fun g2 => ?_)
    · rw [hQ]
      exact ix_vret hx hb hr hlocks (⟨rfl, by omega⟩) (fun _ h => absurd h List.not_mem_nil) (by decide) (by decide) dX_checkNumber_19
    · rw [hQ]
      exact tx_throw hx hb htr hE hown (by decide) (by decide) at_A mt_153 mt_9 mt_193 (hl.1.trans hml.symm) dX_checkNumber_9 dX_checkNumber_12 dX_checkNumber_13 dX_checkNumber_15 dX_checkNumber_18 htab hlocks (by decide) (Nat.le_of_ble_eq_true rfl) (Nat.le_of_ble_eq_true rfl) (Nat.le_of_ble_eq_true rfl) (Nat.le_of_ble_eq_true rfl) (Nat.le_of_ble_eq_true rfl) (fun x t hW hX hke => Or.inr ⟨x, exA, rfl, hX, hke, rfl, by omega⟩)
abbrev rmX_checkSpace : Room := { frames := 6, cells := 1, slots := 6, locals := 90 }
set_option maxHeartbeats 4000000 in
set_option maxRecDepth 100000 in
theorem c_X_checkSpace (l : Launch) (htr : l.stackTraces = false) (K : KG) (z : Nat) (v hi : Int) (h1 : r32 v) (h2 : r32 hi) : Ct l yX_checkSpace kX_checkSpace rmX_checkSpace (PX K z [.int (iI v), .int (iI hi)] (fun H => True)) (QTV (fun H0 H => H = H0 ∧ (v < hi)) (fun E => E = exS ∧ ¬ (v < hi))) (fun _ => False) := by
  refine ct_of (by decide) (Or.inl ⟨rfl, rfl⟩) ?_
  intro p e s m args below meth c B0 hP0
  obtain ⟨hx, hb, hr, hml, hown, hlocks, hnm, htab⟩ := B0
  obtain ⟨ha, hE, hB⟩ := hP0
  obtain ⟨hT, hK⟩ := hE.1
  have hl := lv_entry ([.int (iI v), .int (iI hi)]) (n := 2) (Nat.le_of_ble_eq_true rfl)
  obtain ⟨Q, hQ⟩ : ∃ Q, Q = XQ below (QTV (fun H0 H => H = H0 ∧ (v < hi)) (fun E => E = exS ∧ ¬ (v < hi))) args s (rmX_checkSpace).cells (rmX_checkSpace).slots (fun _ => False) := ⟨_, rfl⟩
  rw [← hQ, ha, lg_entry_eq]
  rw [ha] at hQ
  generalize (lg_sl ([.int (iI v), .int (iI hi)]) ++ List.replicate (2 - (lg_sl ([.int (iI v), .int (iI hi)])).length) Slot.unset).toArray = ls at hl ⊢
  generalize ([.int (iI v), .int (iI hi)] : List Value).toArray = args at hQ ⊢
  have hts : ∀ w ∈ TW, w.before args s = true := fun w h => hT w h args
  have hl : lv_has ls 2 [(0, .int (iI v)), (1, .int (iI hi))] := hl
  obtain ⟨A, hAe⟩ : ∃ A : Addr → Prop, A = (fun _ => False) := ⟨_, rfl⟩
  rw [← hAe] at hQ
  have hS : va_S A s.heap s.heap [] := va_S.rf
  refine lv_iload_n hx hb dX_checkSpace_0 rfl (lv_at hl 0 rfl) ?_
  refine lv_iload_n hx hb dX_checkSpace_1 rfl (lv_at hl 1 rfl) ?_
  refine iz_icmp_lt (tgt := 15) hx hb ⟨by omega, by omega⟩ ⟨by omega, by omega⟩ dX_checkSpace_2 (by decide) (fun g1 => ?_) (fun g1 => ?_)
  · rw [hQ]
    exact ix_vret hx hb hr hlocks (⟨rfl, g1⟩) (fun _ h => absurd h List.not_mem_nil) (by decide) (by decide) dX_checkSpace_15
  · rw [hQ]
    exact tx_throw hx hb htr hE hown (by decide) (by decide) at_S mt_317 mt_10 mt_326 (hl.1.trans hml.symm) dX_checkSpace_5 dX_checkSpace_8 dX_checkSpace_9 dX_checkSpace_11 dX_checkSpace_14 htab hlocks (by decide) (Nat.le_of_ble_eq_true rfl) (Nat.le_of_ble_eq_true rfl) (Nat.le_of_ble_eq_true rfl) (Nat.le_of_ble_eq_true rfl) (Nat.le_of_ble_eq_true rfl) (fun x t hW hX hke => Or.inr ⟨x, exS, rfl, hX, hke, rfl, by omega⟩)
-- class LayerQuantities: walls
abbrev rmX_wall : Room := { frames := 8, cells := 3, slots := 18, locals := 140 }
set_option maxHeartbeats 4000000 in
set_option maxRecDepth 100000 in
/-- wall(length, height) -/
theorem c_X_wall (l : Launch) (htr : l.stackTraces = false) (K : KG) (z : Nat) (b wn j : Nat) (ar oc lc x1 x2 : Int) (h1 : r32 x1) (h2 : r32 x2) (hn : wn ≤ 12) (hj : wn < 12 → j = wn) : Ct l yX_wall kX_wall rmX_wall (PX K z [.ref b, .int (iI x1), .int (iI x2)] (fun H => va_P (kD K) vcl [(b, .inr (0, [.ref (b + 1), .int (iI (wn : Int)), .ref (b + 26), .ref (b + 27), .ref (b + 98)])), (b + 2 + 2 * j, .inr (1, [.int (iI ar), .int (iI oc), .int (iI lc), .ref (b + 2 + 2 * j + 1)]))] H ∧ va_P (kD K) vcl [(b + 1, .inl (kW K, 12, .inr (.inr (.inr (.inr (fun i => some (b + 2 + 2 * i)))))))] H)) (QTI (fun r _ H => (((1 ≤ x1 ∧ x1 ≤ 1000) ∧ (1 ≤ x2 ∧ x2 ≤ 1000)) ∧ wn < 12) ∧ r = wn ∧ va_P (kD K) vcl [(b, .inr (0, [.ref (b + 1), .int (iI ((wn + 1 : Nat) : Int)), .ref (b + 26), .ref (b + 27), .ref (b + 98)])), (b + 2 + 2 * j, .inr (1, [.int (iI (x1 * x2)), .int (iI oc), .int (iI lc), .ref (b + 2 + 2 * j + 1)]))] H) (fun E => (E = exA ∧ ¬ ((1 ≤ x1 ∧ x1 ≤ 1000) ∧ (1 ≤ x2 ∧ x2 ≤ 1000))) ∨ (E = exS ∧ ((1 ≤ x1 ∧ x1 ≤ 1000) ∧ (1 ≤ x2 ∧ x2 ≤ 1000)) ∧ ¬ wn < 12))) (fun q => q = b ∨ q = b + 2 + 2 * j) := by
  refine ct_of (by decide) (Or.inl ⟨rfl, rfl⟩) ?_
  intro p e s m args below meth c B0 hP0
  obtain ⟨hx, hb, hr, hml, hown, hlocks, hnm, htab⟩ := B0
  obtain ⟨ha, hE, hB⟩ := hP0
  obtain ⟨hT, hK⟩ := hE.1
  have hl := lv_entry ([.ref b, .int (iI x1), .int (iI x2)]) (n := 3) (Nat.le_of_ble_eq_true rfl)
  obtain ⟨Q, hQ⟩ : ∃ Q, Q = XQ below (QTI (fun r _ H => (((1 ≤ x1 ∧ x1 ≤ 1000) ∧ (1 ≤ x2 ∧ x2 ≤ 1000)) ∧ wn < 12) ∧ r = wn ∧ va_P (kD K) vcl [(b, .inr (0, [.ref (b + 1), .int (iI ((wn + 1 : Nat) : Int)), .ref (b + 26), .ref (b + 27), .ref (b + 98)])), (b + 2 + 2 * j, .inr (1, [.int (iI (x1 * x2)), .int (iI oc), .int (iI lc), .ref (b + 2 + 2 * j + 1)]))] H) (fun E => (E = exA ∧ ¬ ((1 ≤ x1 ∧ x1 ≤ 1000) ∧ (1 ≤ x2 ∧ x2 ≤ 1000))) ∨ (E = exS ∧ ((1 ≤ x1 ∧ x1 ≤ 1000) ∧ (1 ≤ x2 ∧ x2 ≤ 1000)) ∧ ¬ wn < 12))) args s (rmX_wall).cells (rmX_wall).slots (fun q => q = b ∨ q = b + 2 + 2 * j) := ⟨_, rfl⟩
  rw [← hQ, ha, lg_entry_eq]
  rw [ha] at hQ
  generalize (lg_sl ([.ref b, .int (iI x1), .int (iI x2)]) ++ List.replicate (3 - (lg_sl ([.ref b, .int (iI x1), .int (iI x2)])).length) Slot.unset).toArray = ls at hl ⊢
  generalize ([.ref b, .int (iI x1), .int (iI x2)] : List Value).toArray = args at hQ ⊢
  have hts : ∀ w ∈ TW, w.before args s = true := fun w h => hT w h args
  have hl : lv_has ls 3 [(0, .ref b), (1, .int (iI x1)), (2, .int (iI x2))] := hl
  obtain ⟨A, hAe⟩ : ∃ A : Addr → Prop, A = (fun q => q = b ∨ q = b + 2 + 2 * j) := ⟨_, rfl⟩
  rw [← hAe] at hQ
  have hS : va_S A s.heap s.heap [] := va_S.rf
  obtain ⟨hP, hR⟩ := hB
  have hP : va_P (kD K) vcl [(b, .inr (0, [.ref (b + 1), .int (iI (wn : Int)), .ref (b + 26), .ref (b + 27), .ref (b + 98)])), (b + 2 + 2 * j, .inr (1, [.int (iI ar), .int (iI oc), .int (iI lc), .ref (b + 2 + 2 * j + 1)]))] s.heap := hP
  have hD : va_D A [(b, .inr (0, [.ref (b + 1), .int (iI (wn : Int)), .ref (b + 26), .ref (b + 27), .ref (b + 98)])), (b + 2 + 2 * j, .inr (1, [.int (iI ar), .int (iI oc), .int (iI lc), .ref (b + 2 + 2 * j + 1)]))] := by rw [hAe]; exact va_D_of (by simp <;> omega) (by simp <;> omega)
  have hR : va_P (kD K) vcl [(b + 1, .inl (kW K, 12, .inr (.inr (.inr (.inr (fun i => some (b + 2 + 2 * i)))))))] s.heap := hR
  have hRA : ∀ (k : Nat) (q : Nat × va_E), [(b + 1, .inl (kW K, 12, .inr (.inr (.inr (.inr (fun i => some (b + 2 + 2 * i)))))))][k]? = some q → ¬ A q.1 := by
    intro k q hk
    have hk := List.mem_of_getElem? hk
    simp only [List.mem_cons, List.not_mem_nil, or_false] at hk
    rw [hAe]
    rcases hk with rfl <;> (show ¬ _) <;> simp <;> omega
  refine lv_iload_n hx hb dX_wall_0 rfl (lv_at hl 1 rfl) ?_
  refine iz_iconst hx hb dX_wall_1 ?_
  refine iz_sipush hx hb dX_wall_2 (by decide) ?_
  refine ctS (n := 3) hx hb hml hown hT ⟨c_X_checkBounds l htr K z x1 1 1000 ⟨by omega, by omega⟩ ⟨by omega, by omega⟩ ⟨by omega, by omega⟩, ⟨_, _, _, Or.inl ⟨rfl, rfl⟩⟩, mt_312, mt_1, by decide, by decide +kernel, by decide, by decide, by decide, by decide⟩ PX.blind mt_310 mt_311 (As := [.int (iI x1), .int (iI 1), .int (iI 1000)]) (rest := []) rfl (PX.at hE rfl trivial) hl.1 rfl (Nat.le_of_ble_eq_true rfl) dX_wall_5 (krC (c1 := 1) (s1 := 6) rfl rfl (fun _ h => h) rfl rfl (fun g1 => ?_) (fun x H1 hX hk hn => by rw [hQ]; exact x_out htab hlocks (fun _ _ h => Or.inr h) hX hk (Or.inl ⟨rfl, by omega⟩) (by decide) (by decide)))
  refine lv_iload_n hx hb dX_wall_8 rfl (lv_at hl 2 rfl) ?_
  refine iz_iconst hx hb dX_wall_9 ?_
  refine iz_sipush hx hb dX_wall_10 (by decide) ?_
  refine ctS (n := 3) hx hb hml hown hT ⟨c_X_checkBounds l htr K z x2 1 1000 ⟨by omega, by omega⟩ ⟨by omega, by omega⟩ ⟨by omega, by omega⟩, ⟨_, _, _, Or.inl ⟨rfl, rfl⟩⟩, mt_312, mt_1, by decide, by decide +kernel, by decide, by decide, by decide, by decide⟩ PX.blind mt_310 mt_311 (As := [.int (iI x2), .int (iI 1), .int (iI 1000)]) (rest := []) rfl (PX.at hE rfl trivial) hl.1 rfl (Nat.le_of_ble_eq_true rfl) dX_wall_13 (krC (c1 := 2) (s1 := 12) rfl rfl (fun _ h => h) rfl rfl (fun g2 => ?_) (fun x H1 hX hk hn => by rw [hQ]; exact x_out htab hlocks (fun _ _ h => Or.inr h) hX hk (Or.inl ⟨rfl, by omega⟩) (by decide) (by decide)))
  refine lv_aload_n hx hb dX_wall_16 rfl (lv_at hl 0 rfl) ?_
  refine va_get (D := kD K) (ci := 0) (v := .int (iI (wn : Int))) (C := RX) (T := FX) (N := 5) hx hb hts jnX hown hK hP 0 rfl rfl 1 (by decide) (hts _ mt_127) (fun _ h9 => h9) rfl dX_wall_17 ?_
  refine iz_bipush hx hb dX_wall_20 (by decide) ?_
  refine ctS (n := 2) hx hb hml hown hT ⟨c_X_checkSpace l htr K z wn 12 ⟨by omega, by omega⟩ ⟨by omega, by omega⟩, ⟨_, _, _, Or.inl ⟨rfl, rfl⟩⟩, mt_316, mt_1, by decide, by decide +kernel, by decide, by decide, by decide, by decide⟩ PX.blind mt_314 mt_315 (As := [.int (iI (wn : Int)), .int (iI 12)]) (rest := []) rfl (PX.at hE rfl trivial) hl.1 rfl (Nat.le_of_ble_eq_true rfl) dX_wall_22 (krC (c1 := 3) (s1 := 18) rfl rfl (fun _ h => h) rfl rfl (fun g3 => ?_) (fun x H1 hX hk hn => by rw [hQ]; exact x_out htab hlocks (fun _ _ h => Or.inr h) hX hk (Or.inr ⟨rfl, by omega, by omega⟩) (by decide) (by decide)))
  have hj := hj (by omega)
  refine lv_aload_n hx hb dX_wall_25 rfl (lv_at hl 0 rfl) ?_
  refine va_get (D := kD K) (ci := 0) (v := .ref (b + 1)) (C := RX) (T := FX) (N := 5) hx hb hts jnX hown hK hP 0 rfl rfl 0 (by decide) (hts _ mt_126) (fun _ h9 => h9) rfl dX_wall_26 ?_
  refine lv_aload_n hx hb dX_wall_29 rfl (lv_at hl 0 rfl) ?_
  refine va_get (D := kD K) (ci := 0) (v := .int (iI (wn : Int))) (C := RX) (T := FX) (N := 5) hx hb hts jnX hown hK hP 0 rfl rfl 1 (by decide) (hts _ mt_127) (fun _ h9 => h9) rfl dX_wall_30 ?_
  refine iz_aald hx hb hK (ro_at hS hR hRA) 0 2 rfl rfl j (by omega) (by omega) (by omega) rfl dX_wall_33 ?_
  refine lv_iload_n hx hb dX_wall_34 rfl (lv_at hl 1 rfl) ?_
  refine lv_iload_n hx hb dX_wall_35 rfl (lv_at hl 2 rfl) ?_
  refine iz_imul hx hb dX_wall_36 ?_
  refine va_putN (D := kD K) (ci := 1) (v := .int (iI (x1 * x2))) (ty := .int) (C := RW) (T := FW) (N := 4) hx hb hts jnW tW tW_ok nW hown hK hP hD hS 1 rfl rfl 0 (by decide) (hts _ mt_29) (fun _ h9 => h9) rfl (by decide +kernel) rfl rfl (Nat.le_of_ble_eq_true rfl) dX_wall_37 ?_
  clear hP hD hS
  intro H locs hP hD hS
  replace hP : va_P (kD K) vcl [(b, .inr (0, [.ref (b + 1), .int (iI (wn : Int)), .ref (b + 26), .ref (b + 27), .ref (b + 98)])), (b + 2 + 2 * j, .inr (1, [.int (iI (x1 * x2)), .int (iI oc), .int (iI lc), .ref (b + 2 + 2 * j + 1)]))] H := hP
  replace hD : va_D A [(b, .inr (0, [.ref (b + 1), .int (iI (wn : Int)), .ref (b + 26), .ref (b + 27), .ref (b + 98)])), (b + 2 + 2 * j, .inr (1, [.int (iI (x1 * x2)), .int (iI oc), .int (iI lc), .ref (b + 2 + 2 * j + 1)]))] := hD
  refine lv_aload_n hx hb dX_wall_40 rfl (lv_at hl 0 rfl) ?_
  refine lv_dup hx hb dX_wall_41 rfl ?_
  refine va_get (D := kD K) (ci := 0) (v := .int (iI (wn : Int))) (C := RX) (T := FX) (N := 5) hx hb hts jnX hown hK hP 0 rfl rfl 1 (by decide) (hts _ mt_127) (fun _ h9 => h9) rfl dX_wall_42 ?_
  refine iz_iconst hx hb dX_wall_45 ?_
  refine iz_iadd hx hb dX_wall_46 ?_
  refine va_put (D := kD K) (ci := 0) (v := .int (iI ((wn : Int) + 1))) (ty := .int) (C := RX) (T := FX) (N := 5) hx hb hts jnX tX tX_ok nX hown hK hP hD hS 0 rfl rfl 1 (by decide) (hts _ mt_127) (fun _ h9 => h9) rfl (by decide +kernel) rfl rfl (Nat.le_of_ble_eq_true rfl) dX_wall_47 ?_
  clear hP hD hS
  intro H locs hP hD hS
  replace hP : va_P (kD K) vcl [(b, .inr (0, [.ref (b + 1), .int (iI ((wn : Int) + 1)), .ref (b + 26), .ref (b + 27), .ref (b + 98)])), (b + 2 + 2 * j, .inr (1, [.int (iI (x1 * x2)), .int (iI oc), .int (iI lc), .ref (b + 2 + 2 * j + 1)]))] H := hP
  replace hD : va_D A [(b, .inr (0, [.ref (b + 1), .int (iI ((wn : Int) + 1)), .ref (b + 26), .ref (b + 27), .ref (b + 98)])), (b + 2 + 2 * j, .inr (1, [.int (iI (x1 * x2)), .int (iI oc), .int (iI lc), .ref (b + 2 + 2 * j + 1)]))] := hD
  refine lv_aload_n hx hb dX_wall_50 rfl (lv_at hl 0 rfl) ?_
  refine va_get (D := kD K) (ci := 0) (v := .int (iI ((wn : Int) + 1))) (C := RX) (T := FX) (N := 5) hx hb hts jnX hown hK hP 0 rfl rfl 1 (by decide) (hts _ mt_127) (fun _ h9 => h9) rfl dX_wall_51 ?_
  refine iz_iconst hx hb dX_wall_54 ?_
  refine iz_isub hx hb dX_wall_55 ?_
  rw [hQ]
  exact ix_iret hx hb hr hlocks (⟨⟨⟨g1, g2⟩, by omega⟩, by omega, hP⟩) hS.2.2 (by decide) (by decide) dX_wall_56
abbrev rmX_opening : Room := { frames := 8, cells := 5, slots := 30, locals := 140 }
set_option maxHeartbeats 4000000 in
set_option maxRecDepth 100000 in
/-- opening(wall, width, height) -/
theorem c_X_opening (l : Launch) (htr : l.stackTraces = false) (K : KG) (z : Nat) (b wn j : Nat) (ar oc lc x1 x2 x3 : Int) (h1 : r32 x1) (h2 : r32 x2) (h3 : r32 x3) (hn : wn ≤ 12) (hj : j < 12) (hjw : 0 ≤ x1 → x1 < wn → x1 = j) (har : r32 ar) (hoc : r32 oc) : Ct l yX_opening kX_opening rmX_opening (PX K z [.ref b, .int (iI x1), .int (iI x2), .int (iI x3)] (fun H => va_P (kD K) vcl [(b + 2 + 2 * j, .inr (1, [.int (iI ar), .int (iI oc), .int (iI lc), .ref (b + 2 + 2 * j + 1)]))] H ∧ va_P (kD K) vcl [(b, .inr (0, [.ref (b + 1), .int (iI (wn : Int)), .ref (b + 26), .ref (b + 27), .ref (b + 98)])), (b + 1, .inl (kW K, 12, .inr (.inr (.inr (.inr (fun i => some (b + 2 + 2 * i)))))))] H)) (QTI (fun r _ H => (((0 ≤ x1 ∧ x1 < wn) ∧ (1 ≤ x2 ∧ x2 ≤ 1000) ∧ (1 ≤ x3 ∧ x3 ≤ 1000)) ∧ (oc < 6 ∧ x2 * x3 ≤ ar)) ∧ r = ar - x2 * x3 ∧ va_P (kD K) vcl [(b + 2 + 2 * j, .inr (1, [.int (iI (ar - x2 * x3)), .int (iI (oc + 1)), .int (iI lc), .ref (b + 2 + 2 * j + 1)]))] H) (fun E => (E = exA ∧ ¬ ((0 ≤ x1 ∧ x1 < wn) ∧ (1 ≤ x2 ∧ x2 ≤ 1000) ∧ (1 ≤ x3 ∧ x3 ≤ 1000))) ∨ (E = exS ∧ ((0 ≤ x1 ∧ x1 < wn) ∧ (1 ≤ x2 ∧ x2 ≤ 1000) ∧ (1 ≤ x3 ∧ x3 ≤ 1000)) ∧ ¬ (oc < 6 ∧ x2 * x3 ≤ ar)))) (fun q => q = b + 2 + 2 * j) := by
  refine ct_of (by decide) (Or.inl ⟨rfl, rfl⟩) ?_
  intro p e s m args below meth c B0 hP0
  obtain ⟨hx, hb, hr, hml, hown, hlocks, hnm, htab⟩ := B0
  obtain ⟨ha, hE, hB⟩ := hP0
  obtain ⟨hT, hK⟩ := hE.1
  have hl := lv_entry ([.ref b, .int (iI x1), .int (iI x2), .int (iI x3)]) (n := 5) (Nat.le_of_ble_eq_true rfl)
  obtain ⟨Q, hQ⟩ : ∃ Q, Q = XQ below (QTI (fun r _ H => (((0 ≤ x1 ∧ x1 < wn) ∧ (1 ≤ x2 ∧ x2 ≤ 1000) ∧ (1 ≤ x3 ∧ x3 ≤ 1000)) ∧ (oc < 6 ∧ x2 * x3 ≤ ar)) ∧ r = ar - x2 * x3 ∧ va_P (kD K) vcl [(b + 2 + 2 * j, .inr (1, [.int (iI (ar - x2 * x3)), .int (iI (oc + 1)), .int (iI lc), .ref (b + 2 + 2 * j + 1)]))] H) (fun E => (E = exA ∧ ¬ ((0 ≤ x1 ∧ x1 < wn) ∧ (1 ≤ x2 ∧ x2 ≤ 1000) ∧ (1 ≤ x3 ∧ x3 ≤ 1000))) ∨ (E = exS ∧ ((0 ≤ x1 ∧ x1 < wn) ∧ (1 ≤ x2 ∧ x2 ≤ 1000) ∧ (1 ≤ x3 ∧ x3 ≤ 1000)) ∧ ¬ (oc < 6 ∧ x2 * x3 ≤ ar)))) args s (rmX_opening).cells (rmX_opening).slots (fun q => q = b + 2 + 2 * j) := ⟨_, rfl⟩
  rw [← hQ, ha, lg_entry_eq]
  rw [ha] at hQ
  generalize (lg_sl ([.ref b, .int (iI x1), .int (iI x2), .int (iI x3)]) ++ List.replicate (5 - (lg_sl ([.ref b, .int (iI x1), .int (iI x2), .int (iI x3)])).length) Slot.unset).toArray = ls at hl ⊢
  generalize ([.ref b, .int (iI x1), .int (iI x2), .int (iI x3)] : List Value).toArray = args at hQ ⊢
  have hts : ∀ w ∈ TW, w.before args s = true := fun w h => hT w h args
  have hl : lv_has ls 5 [(0, .ref b), (1, .int (iI x1)), (2, .int (iI x2)), (3, .int (iI x3))] := hl
  obtain ⟨A, hAe⟩ : ∃ A : Addr → Prop, A = (fun q => q = b + 2 + 2 * j) := ⟨_, rfl⟩
  rw [← hAe] at hQ
  have hS : va_S A s.heap s.heap [] := va_S.rf
  obtain ⟨hP, hR⟩ := hB
  have hP : va_P (kD K) vcl [(b + 2 + 2 * j, .inr (1, [.int (iI ar), .int (iI oc), .int (iI lc), .ref (b + 2 + 2 * j + 1)]))] s.heap := hP
  have hD : va_D A [(b + 2 + 2 * j, .inr (1, [.int (iI ar), .int (iI oc), .int (iI lc), .ref (b + 2 + 2 * j + 1)]))] := by rw [hAe]; exact va_D_of (by simp <;> omega) (by simp <;> omega)
  have hR : va_P (kD K) vcl [(b, .inr (0, [.ref (b + 1), .int (iI (wn : Int)), .ref (b + 26), .ref (b + 27), .ref (b + 98)])), (b + 1, .inl (kW K, 12, .inr (.inr (.inr (.inr (fun i => some (b + 2 + 2 * i)))))))] s.heap := hR
  have hRA : ∀ (k : Nat) (q : Nat × va_E), [(b, .inr (0, [.ref (b + 1), .int (iI (wn : Int)), .ref (b + 26), .ref (b + 27), .ref (b + 98)])), (b + 1, .inl (kW K, 12, .inr (.inr (.inr (.inr (fun i => some (b + 2 + 2 * i)))))))][k]? = some q → ¬ A q.1 := by
    intro k q hk
    have hk := List.mem_of_getElem? hk
    simp only [List.mem_cons, List.not_mem_nil, or_false] at hk
    rw [hAe]
    rcases hk with rfl | rfl <;> (show ¬ _) <;> simp <;> omega
  refine lv_iload_n hx hb dX_opening_0 rfl (lv_at hl 1 rfl) ?_
  refine lv_aload_n hx hb dX_opening_1 rfl (lv_at hl 0 rfl) ?_
  refine va_get (D := kD K) (ci := 0) (v := .int (iI (wn : Int))) (C := RX) (T := FX) (N := 5) hx hb hts jnX hown hK (ro_at hS hR hRA) 0 rfl rfl 1 (by decide) (hts _ mt_127) (fun _ h9 => h9) rfl dX_opening_2 ?_
  refine ctS (n := 2) hx hb hml hown hT ⟨c_X_checkNumber l htr K z x1 wn ⟨by omega, by omega⟩ ⟨by omega, by omega⟩, ⟨_, _, _, Or.inl ⟨rfl, rfl⟩⟩, mt_152, mt_1, by decide, by decide +kernel, by decide, by decide, by decide, by decide⟩ PX.blind mt_150 mt_151 (As := [.int (iI x1), .int (iI (wn : Int))]) (rest := []) rfl (PX.at hE rfl trivial) hl.1 rfl (Nat.le_of_ble_eq_true rfl) dX_opening_5 (krC (c1 := 1) (s1 := 6) rfl rfl (fun _ h => h) rfl rfl (fun g1 => ?_) (fun x H1 hX hk hn => by rw [hQ]; exact x_out htab hlocks (fun _ _ h => Or.inr h) hX hk (Or.inl ⟨rfl, by omega⟩) (by decide) (by decide)))
  refine lv_iload_n hx hb dX_opening_8 rfl (lv_at hl 2 rfl) ?_
  refine iz_iconst hx hb dX_opening_9 ?_
  refine iz_sipush hx hb dX_opening_10 (by decide) ?_
  refine ctS (n := 3) hx hb hml hown hT ⟨c_X_checkBounds l htr K z x2 1 1000 ⟨by omega, by omega⟩ ⟨by omega, by omega⟩ ⟨by omega, by omega⟩, ⟨_, _, _, Or.inl ⟨rfl, rfl⟩⟩, mt_312, mt_1, by decide, by decide +kernel, by decide, by decide, by decide, by decide⟩ PX.blind mt_310 mt_311 (As := [.int (iI x2), .int (iI 1), .int (iI 1000)]) (rest := []) rfl (PX.at hE rfl trivial) hl.1 rfl (Nat.le_of_ble_eq_true rfl) dX_opening_13 (krC (c1 := 2) (s1 := 12) rfl rfl (fun _ h => h) rfl rfl (fun g2 => ?_) (fun x H1 hX hk hn => by rw [hQ]; exact x_out htab hlocks (fun _ _ h => Or.inr h) hX hk (Or.inl ⟨rfl, by omega⟩) (by decide) (by decide)))
  refine lv_iload_n hx hb dX_opening_16 rfl (lv_at hl 3 rfl) ?_
  refine iz_iconst hx hb dX_opening_17 ?_
  refine iz_sipush hx hb dX_opening_18 (by decide) ?_
  refine ctS (n := 3) hx hb hml hown hT ⟨c_X_checkBounds l htr K z x3 1 1000 ⟨by omega, by omega⟩ ⟨by omega, by omega⟩ ⟨by omega, by omega⟩, ⟨_, _, _, Or.inl ⟨rfl, rfl⟩⟩, mt_312, mt_1, by decide, by decide +kernel, by decide, by decide, by decide, by decide⟩ PX.blind mt_310 mt_311 (As := [.int (iI x3), .int (iI 1), .int (iI 1000)]) (rest := []) rfl (PX.at hE rfl trivial) hl.1 rfl (Nat.le_of_ble_eq_true rfl) dX_opening_21 (krC (c1 := 3) (s1 := 18) rfl rfl (fun _ h => h) rfl rfl (fun g3 => ?_) (fun x H1 hX hk hn => by rw [hQ]; exact x_out htab hlocks (fun _ _ h => Or.inr h) hX hk (Or.inl ⟨rfl, by omega⟩) (by decide) (by decide)))
  have hjw := hjw (by omega) (by omega)
  have hpr := mul_bd (show 0 ≤ x2 by omega) g2.2 (show 0 ≤ x3 by omega) g3.2
  refine lv_aload_n hx hb dX_opening_24 rfl (lv_at hl 0 rfl) ?_
  refine va_get (D := kD K) (ci := 0) (v := .ref (b + 1)) (C := RX) (T := FX) (N := 5) hx hb hts jnX hown hK (ro_at hS hR hRA) 0 rfl rfl 0 (by decide) (hts _ mt_126) (fun _ h9 => h9) rfl dX_opening_25 ?_
  refine lv_iload_n hx hb dX_opening_28 rfl (lv_at hl 1 rfl) ?_
  refine iz_aald hx hb hK (ro_at hS hR hRA) 1 2 rfl rfl j hjw (by omega) (by omega) rfl dX_opening_29 ?_
  refine lv_astore (lv' := [(4, .ref (b + 2 + 2 * j)), (0, .ref b), (1, .int (iI x1)), (2, .int (iI x2)), (3, .int (iI x3))]) hx hb dX_opening_30 hl (by decide) rfl (fun ls hl => ?_)
  refine lv_aload hx hb dX_opening_32 (lv_at hl 0 rfl) ?_
  refine va_getN (D := kD K) (ci := 1) (v := .int (iI oc)) (C := RW) (T := FW) (N := 4) hx hb hts jnW hown hK hP 0 rfl rfl 1 (by decide) (hts _ mt_30) (fun _ h9 => h9) rfl dX_opening_34 ?_
  refine iz_bipush hx hb dX_opening_37 (by decide) ?_
  refine ctS (n := 2) hx hb hml hown hT ⟨c_X_checkSpace l htr K z oc 6 ⟨by omega, by omega⟩ ⟨by omega, by omega⟩, ⟨_, _, _, Or.inl ⟨rfl, rfl⟩⟩, mt_316, mt_1, by decide, by decide +kernel, by decide, by decide, by decide, by decide⟩ PX.blind mt_314 mt_315 (As := [.int (iI oc), .int (iI 6)]) (rest := []) rfl (PX.at hE rfl trivial) hl.1 rfl (Nat.le_of_ble_eq_true rfl) dX_opening_39 (krC (c1 := 4) (s1 := 24) rfl rfl (fun _ h => h) rfl rfl (fun g4 => ?_) (fun x H1 hX hk hn => by rw [hQ]; exact x_out htab hlocks (fun _ _ h => Or.inr h) hX hk (Or.inr ⟨rfl, by omega, by omega⟩) (by decide) (by decide)))
  refine lv_iload_n hx hb dX_opening_42 rfl (lv_at hl 3 rfl) ?_
  refine lv_iload_n hx hb dX_opening_43 rfl (lv_at hl 4 rfl) ?_
  refine iz_imul hx hb dX_opening_44 ?_
  refine lv_aload hx hb dX_opening_45 (lv_at hl 0 rfl) ?_
  refine va_getN (D := kD K) (ci := 1) (v := .int (iI ar)) (C := RW) (T := FW) (N := 4) hx hb hts jnW hown hK hP 0 rfl rfl 0 (by decide) (hts _ mt_29) (fun _ h9 => h9) rfl dX_opening_47 ?_
  refine iz_icmp_le (tgt := 63) hx hb ⟨by omega, by omega⟩ ⟨by omega, by omega⟩ dX_opening_50 (by decide) (fun g5 => ?_) (fun g5 => ?_)
  · refine lv_aload hx hb dX_opening_63 (lv_at hl 0 rfl) ?_
    refine lv_dup hx hb dX_opening_65 rfl ?_
    refine va_getN (D := kD K) (ci := 1) (v := .int (iI ar)) (C := RW) (T := FW) (N := 4) hx hb hts jnW hown hK hP 0 rfl rfl 0 (by decide) (hts _ mt_29) (fun _ h9 => h9) rfl dX_opening_66 ?_
    refine lv_iload_n hx hb dX_opening_69 rfl (lv_at hl 3 rfl) ?_
    refine lv_iload_n hx hb dX_opening_70 rfl (lv_at hl 4 rfl) ?_
    refine iz_imul hx hb dX_opening_71 ?_
    refine iz_isub hx hb dX_opening_72 ?_
    refine va_putN (D := kD K) (ci := 1) (v := .int (iI (ar - (x2 * x3)))) (ty := .int) (C := RW) (T := FW) (N := 4) hx hb hts jnW tW tW_ok nW hown hK hP hD hS 0 rfl rfl 0 (by decide) (hts _ mt_29) (fun _ h9 => h9) rfl (by decide +kernel) rfl rfl (Nat.le_of_ble_eq_true rfl) dX_opening_73 ?_
    clear hP hD hS
    intro H locs hP hD hS
    replace hP : va_P (kD K) vcl [(b + 2 + 2 * j, .inr (1, [.int (iI (ar - (x2 * x3))), .int (iI oc), .int (iI lc), .ref (b + 2 + 2 * j + 1)]))] H := hP
    replace hD : va_D A [(b + 2 + 2 * j, .inr (1, [.int (iI (ar - (x2 * x3))), .int (iI oc), .int (iI lc), .ref (b + 2 + 2 * j + 1)]))] := hD
    refine lv_aload hx hb dX_opening_76 (lv_at hl 0 rfl) ?_
    refine lv_dup hx hb dX_opening_78 rfl ?_
    refine va_getN (D := kD K) (ci := 1) (v := .int (iI oc)) (C := RW) (T := FW) (N := 4) hx hb hts jnW hown hK hP 0 rfl rfl 1 (by decide) (hts _ mt_30) (fun _ h9 => h9) rfl dX_opening_79 ?_
    refine iz_iconst hx hb dX_opening_82 ?_
    refine iz_iadd hx hb dX_opening_83 ?_
    refine va_putN (D := kD K) (ci := 1) (v := .int (iI (oc + 1))) (ty := .int) (C := RW) (T := FW) (N := 4) hx hb hts jnW tW tW_ok nW hown hK hP hD hS 0 rfl rfl 1 (by decide) (hts _ mt_30) (fun _ h9 => h9) rfl (by decide +kernel) rfl rfl (Nat.le_of_ble_eq_true rfl) dX_opening_84 ?_
    clear hP hD hS
    intro H locs hP hD hS
    replace hP : va_P (kD K) vcl [(b + 2 + 2 * j, .inr (1, [.int (iI (ar - (x2 * x3))), .int (iI (oc + 1)), .int (iI lc), .ref (b + 2 + 2 * j + 1)]))] H := hP
    replace hD : va_D A [(b + 2 + 2 * j, .inr (1, [.int (iI (ar - (x2 * x3))), .int (iI (oc + 1)), .int (iI lc), .ref (b + 2 + 2 * j + 1)]))] := hD
    refine lv_aload hx hb dX_opening_87 (lv_at hl 0 rfl) ?_
    refine va_getN (D := kD K) (ci := 1) (v := .int (iI (ar - (x2 * x3)))) (C := RW) (T := FW) (N := 4) hx hb hts jnW hown hK hP 0 rfl rfl 0 (by decide) (hts _ mt_29) (fun _ h9 => h9) rfl dX_opening_89 ?_
    rw [hQ]
    exact ix_iret hx hb hr hlocks (⟨⟨⟨g1, g2, g3⟩, g4, g5⟩, rfl, hP⟩) hS.2.2 (by decide) (by decide) dX_opening_92
  · rw [hQ]
    exact tx_throw hx hb htr hE hown (by decide) (by decide) at_S mt_317 mt_10 mt_340 (hl.1.trans hml.symm) dX_opening_53 dX_opening_56 dX_opening_57 dX_opening_59 dX_opening_62 htab hlocks (by decide) (Nat.le_of_ble_eq_true rfl) (Nat.le_of_ble_eq_true rfl) (Nat.le_of_ble_eq_true rfl) (Nat.le_of_ble_eq_true rfl) (Nat.le_of_ble_eq_true rfl) (fun x t hW hX hke => Or.inr ⟨x, exS, rfl, hX, hke, Or.inr ⟨rfl, by omega, by omega⟩⟩)
abbrev rmX_layer : Room := { frames := 8, cells := 4, slots := 24, locals := 140 }
set_option maxHeartbeats 4000000 in
set_option maxRecDepth 100000 in
/-- layer(wall, stuff, thickness) -/
theorem c_X_layer (l : Launch) (htr : l.stackTraces = false) (K : KG) (z : Nat) (b wn j k2 : Nat) (ar oc lc x1 x2 x3 : Int) (th : Nat → Int) (h1 : r32 x1) (h2 : r32 x2) (h3 : r32 x3) (hn : wn ≤ 12) (hj : j < 12) (hjw : 0 ≤ x1 → x1 < wn → x1 = j) (hk2 : 0 ≤ x2 → x2 < 10 → x2 = k2) (hlc : r32 lc) : Ct l yX_layer kX_layer rmX_layer (PX K z [.ref b, .int (iI x1), .int (iI x2), .int (iI x3)] (fun H => va_P (kD K) vcl [(b + 2 + 2 * j, .inr (1, [.int (iI ar), .int (iI oc), .int (iI lc), .ref (b + 2 + 2 * j + 1)])), (b + 2 + 2 * j + 1, .inl (kI K, 10, .inl (iA th)))] H ∧ va_P (kD K) vcl [(b, .inr (0, [.ref (b + 1), .int (iI (wn : Int)), .ref (b + 26), .ref (b + 27), .ref (b + 98)])), (b + 1, .inl (kW K, 12, .inr (.inr (.inr (.inr (fun i => some (b + 2 + 2 * i)))))))] H)) (QTI (fun r _ H => (((0 ≤ x1 ∧ x1 < wn) ∧ (0 ≤ x2 ∧ x2 < 10) ∧ (1 ≤ x3 ∧ x3 ≤ 500)) ∧ lc < 8) ∧ r = lc + 1 ∧ va_P (kD K) vcl [(b + 2 + 2 * j, .inr (1, [.int (iI ar), .int (iI oc), .int (iI (lc + 1)), .ref (b + 2 + 2 * j + 1)])), (b + 2 + 2 * j + 1, .inl (kI K, 10, .inl (iA (ut th k2 (th k2 + x3)))))] H) (fun E => (E = exA ∧ ¬ ((0 ≤ x1 ∧ x1 < wn) ∧ (0 ≤ x2 ∧ x2 < 10) ∧ (1 ≤ x3 ∧ x3 ≤ 500))) ∨ (E = exS ∧ ((0 ≤ x1 ∧ x1 < wn) ∧ (0 ≤ x2 ∧ x2 < 10) ∧ (1 ≤ x3 ∧ x3 ≤ 500)) ∧ ¬ lc < 8))) (fun q => q = b + 2 + 2 * j ∨ q = b + 2 + 2 * j + 1) := by
  refine ct_of (by decide) (Or.inl ⟨rfl, rfl⟩) ?_
  intro p e s m args below meth c B0 hP0
  obtain ⟨hx, hb, hr, hml, hown, hlocks, hnm, htab⟩ := B0
  obtain ⟨ha, hE, hB⟩ := hP0
  obtain ⟨hT, hK⟩ := hE.1
  have hl := lv_entry ([.ref b, .int (iI x1), .int (iI x2), .int (iI x3)]) (n := 5) (Nat.le_of_ble_eq_true rfl)
  obtain ⟨Q, hQ⟩ : ∃ Q, Q = XQ below (QTI (fun r _ H => (((0 ≤ x1 ∧ x1 < wn) ∧ (0 ≤ x2 ∧ x2 < 10) ∧ (1 ≤ x3 ∧ x3 ≤ 500)) ∧ lc < 8) ∧ r = lc + 1 ∧ va_P (kD K) vcl [(b + 2 + 2 * j, .inr (1, [.int (iI ar), .int (iI oc), .int (iI (lc + 1)), .ref (b + 2 + 2 * j + 1)])), (b + 2 + 2 * j + 1, .inl (kI K, 10, .inl (iA (ut th k2 (th k2 + x3)))))] H) (fun E => (E = exA ∧ ¬ ((0 ≤ x1 ∧ x1 < wn) ∧ (0 ≤ x2 ∧ x2 < 10) ∧ (1 ≤ x3 ∧ x3 ≤ 500))) ∨ (E = exS ∧ ((0 ≤ x1 ∧ x1 < wn) ∧ (0 ≤ x2 ∧ x2 < 10) ∧ (1 ≤ x3 ∧ x3 ≤ 500)) ∧ ¬ lc < 8))) args s (rmX_layer).cells (rmX_layer).slots (fun q => q = b + 2 + 2 * j ∨ q = b + 2 + 2 * j + 1) := ⟨_, rfl⟩
  rw [← hQ, ha, lg_entry_eq]
  rw [ha] at hQ
  generalize (lg_sl ([.ref b, .int (iI x1), .int (iI x2), .int (iI x3)]) ++ List.replicate (5 - (lg_sl ([.ref b, .int (iI x1), .int (iI x2), .int (iI x3)])).length) Slot.unset).toArray = ls at hl ⊢
  generalize ([.ref b, .int (iI x1), .int (iI x2), .int (iI x3)] : List Value).toArray = args at hQ ⊢
  have hts : ∀ w ∈ TW, w.before args s = true := fun w h => hT w h args
  have hl : lv_has ls 5 [(0, .ref b), (1, .int (iI x1)), (2, .int (iI x2)), (3, .int (iI x3))] := hl
  obtain ⟨A, hAe⟩ : ∃ A : Addr → Prop, A = (fun q => q = b + 2 + 2 * j ∨ q = b + 2 + 2 * j + 1) := ⟨_, rfl⟩
  rw [← hAe] at hQ
  have hS : va_S A s.heap s.heap [] := va_S.rf
  obtain ⟨hP, hR⟩ := hB
  have hP : va_P (kD K) vcl [(b + 2 + 2 * j, .inr (1, [.int (iI ar), .int (iI oc), .int (iI lc), .ref (b + 2 + 2 * j + 1)])), (b + 2 + 2 * j + 1, .inl (kI K, 10, .inl (iA th)))] s.heap := hP
  have hD : va_D A [(b + 2 + 2 * j, .inr (1, [.int (iI ar), .int (iI oc), .int (iI lc), .ref (b + 2 + 2 * j + 1)])), (b + 2 + 2 * j + 1, .inl (kI K, 10, .inl (iA th)))] := by rw [hAe]; exact va_D_of (by simp <;> omega) (by simp <;> omega)
  have hR : va_P (kD K) vcl [(b, .inr (0, [.ref (b + 1), .int (iI (wn : Int)), .ref (b + 26), .ref (b + 27), .ref (b + 98)])), (b + 1, .inl (kW K, 12, .inr (.inr (.inr (.inr (fun i => some (b + 2 + 2 * i)))))))] s.heap := hR
  have hRA : ∀ (k : Nat) (q : Nat × va_E), [(b, .inr (0, [.ref (b + 1), .int (iI (wn : Int)), .ref (b + 26), .ref (b + 27), .ref (b + 98)])), (b + 1, .inl (kW K, 12, .inr (.inr (.inr (.inr (fun i => some (b + 2 + 2 * i)))))))][k]? = some q → ¬ A q.1 := by
    intro k q hk
    have hk := List.mem_of_getElem? hk
    simp only [List.mem_cons, List.not_mem_nil, or_false] at hk
    rw [hAe]
    rcases hk with rfl | rfl <;> (show ¬ _) <;> simp <;> omega
  refine lv_iload_n hx hb dX_layer_0 rfl (lv_at hl 1 rfl) ?_
  refine lv_aload_n hx hb dX_layer_1 rfl (lv_at hl 0 rfl) ?_
  refine va_get (D := kD K) (ci := 0) (v := .int (iI (wn : Int))) (C := RX) (T := FX) (N := 5) hx hb hts jnX hown hK (ro_at hS hR hRA) 0 rfl rfl 1 (by decide) (hts _ mt_127) (fun _ h9 => h9) rfl dX_layer_2 ?_
  refine ctS (n := 2) hx hb hml hown hT ⟨c_X_checkNumber l htr K z x1 wn ⟨by omega, by omega⟩ ⟨by omega, by omega⟩, ⟨_, _, _, Or.inl ⟨rfl, rfl⟩⟩, mt_152, mt_1, by decide, by decide +kernel, by decide, by decide, by decide, by decide⟩ PX.blind mt_150 mt_151 (As := [.int (iI x1), .int (iI (wn : Int))]) (rest := []) rfl (PX.at hE rfl trivial) hl.1 rfl (Nat.le_of_ble_eq_true rfl) dX_layer_5 (krC (c1 := 1) (s1 := 6) rfl rfl (fun _ h => h) rfl rfl (fun g1 => ?_) (fun x H1 hX hk hn => by rw [hQ]; exact x_out htab hlocks (fun _ _ h => Or.inr h) hX hk (Or.inl ⟨rfl, by omega⟩) (by decide) (by decide)))
  refine lv_iload_n hx hb dX_layer_8 rfl (lv_at hl 2 rfl) ?_
  refine iz_bipush hx hb dX_layer_9 (by decide) ?_
  refine ctS (n := 2) hx hb hml hown hT ⟨c_X_checkNumber l htr K z x2 10 ⟨by omega, by omega⟩ ⟨by omega, by omega⟩, ⟨_, _, _, Or.inl ⟨rfl, rfl⟩⟩, mt_152, mt_1, by decide, by decide +kernel, by decide, by decide, by decide, by decide⟩ PX.blind mt_150 mt_151 (As := [.int (iI x2), .int (iI 10)]) (rest := []) rfl (PX.at hE rfl trivial) hl.1 rfl (Nat.le_of_ble_eq_true rfl) dX_layer_11 (krC (c1 := 2) (s1 := 12) rfl rfl (fun _ h => h) rfl rfl (fun g2 => ?_) (fun x H1 hX hk hn => by rw [hQ]; exact x_out htab hlocks (fun _ _ h => Or.inr h) hX hk (Or.inl ⟨rfl, by omega⟩) (by decide) (by decide)))
  refine lv_iload_n hx hb dX_layer_14 rfl (lv_at hl 3 rfl) ?_
  refine iz_iconst hx hb dX_layer_15 ?_
  refine iz_sipush hx hb dX_layer_16 (by decide) ?_
  refine ctS (n := 3) hx hb hml hown hT ⟨c_X_checkBounds l htr K z x3 1 500 ⟨by omega, by omega⟩ ⟨by omega, by omega⟩ ⟨by omega, by omega⟩, ⟨_, _, _, Or.inl ⟨rfl, rfl⟩⟩, mt_312, mt_1, by decide, by decide +kernel, by decide, by decide, by decide, by decide⟩ PX.blind mt_310 mt_311 (As := [.int (iI x3), .int (iI 1), .int (iI 500)]) (rest := []) rfl (PX.at hE rfl trivial) hl.1 rfl (Nat.le_of_ble_eq_true rfl) dX_layer_19 (krC (c1 := 3) (s1 := 18) rfl rfl (fun _ h => h) rfl rfl (fun g3 => ?_) (fun x H1 hX hk hn => by rw [hQ]; exact x_out htab hlocks (fun _ _ h => Or.inr h) hX hk (Or.inl ⟨rfl, by omega⟩) (by decide) (by decide)))
  have hjw := hjw (by omega) (by omega)
  have hk2 := hk2 (by omega) (by omega)
  refine lv_aload_n hx hb dX_layer_22 rfl (lv_at hl 0 rfl) ?_
  refine va_get (D := kD K) (ci := 0) (v := .ref (b + 1)) (C := RX) (T := FX) (N := 5) hx hb hts jnX hown hK (ro_at hS hR hRA) 0 rfl rfl 0 (by decide) (hts _ mt_126) (fun _ h9 => h9) rfl dX_layer_23 ?_
  refine lv_iload_n hx hb dX_layer_26 rfl (lv_at hl 1 rfl) ?_
  refine iz_aald hx hb hK (ro_at hS hR hRA) 1 2 rfl rfl j hjw (by omega) (by omega) rfl dX_layer_27 ?_
  refine lv_astore (lv' := [(4, .ref (b + 2 + 2 * j)), (0, .ref b), (1, .int (iI x1)), (2, .int (iI x2)), (3, .int (iI x3))]) hx hb dX_layer_28 hl (by decide) rfl (fun ls hl => ?_)
  refine lv_aload hx hb dX_layer_30 (lv_at hl 0 rfl) ?_
  refine va_getN (D := kD K) (ci := 1) (v := .int (iI lc)) (C := RW) (T := FW) (N := 4) hx hb hts jnW hown hK hP 0 rfl rfl 2 (by decide) (hts _ mt_31) (fun _ h9 => h9) rfl dX_layer_32 ?_
  refine iz_bipush hx hb dX_layer_35 (by decide) ?_
  refine ctS (n := 2) hx hb hml hown hT ⟨c_X_checkSpace l htr K z lc 8 ⟨by omega, by omega⟩ ⟨by omega, by omega⟩, ⟨_, _, _, Or.inl ⟨rfl, rfl⟩⟩, mt_316, mt_1, by decide, by decide +kernel, by decide, by decide, by decide, by decide⟩ PX.blind mt_314 mt_315 (As := [.int (iI lc), .int (iI 8)]) (rest := []) rfl (PX.at hE rfl trivial) hl.1 rfl (Nat.le_of_ble_eq_true rfl) dX_layer_37 (krC (c1 := 4) (s1 := 24) rfl rfl (fun _ h => h) rfl rfl (fun g4 => ?_) (fun x H1 hX hk hn => by rw [hQ]; exact x_out htab hlocks (fun _ _ h => Or.inr h) hX hk (Or.inr ⟨rfl, by omega, by omega⟩) (by decide) (by decide)))
  refine lv_aload hx hb dX_layer_40 (lv_at hl 0 rfl) ?_
  refine va_getN (D := kD K) (ci := 1) (v := .ref (b + 2 + 2 * j + 1)) (C := RW) (T := FW) (N := 4) hx hb hts jnW hown hK hP 0 rfl rfl 3 (by decide) (hts _ mt_33) (fun _ h9 => h9) rfl dX_layer_42 ?_
  refine lv_iload_n hx hb dX_layer_45 rfl (lv_at hl 3 rfl) ?_
  refine lv_dup2_11 hx hb dX_layer_46 rfl rfl ?_
  refine iz_iald hx hb hK hP 1 rfl k2 hk2 (by omega) (by omega) dX_layer_47 ?_
  refine lv_iload_n hx hb dX_layer_48 rfl (lv_at hl 4 rfl) ?_
  refine iz_iadd hx hb dX_layer_49 ?_
  refine iz_iast hx hb hK hP hD hS 1 rfl k2 hk2 (by omega) (by omega) dX_layer_50 ?_
  clear hP hD hS
  intro H locs hP hD hS
  replace hP : va_P (kD K) vcl [(b + 2 + 2 * j, .inr (1, [.int (iI ar), .int (iI oc), .int (iI lc), .ref (b + 2 + 2 * j + 1)])), (b + 2 + 2 * j + 1, .inl (kI K, 10, .inl (iA (ut th k2 ((th k2) + x3)))))] H := hP
  replace hD : va_D A [(b + 2 + 2 * j, .inr (1, [.int (iI ar), .int (iI oc), .int (iI lc), .ref (b + 2 + 2 * j + 1)])), (b + 2 + 2 * j + 1, .inl (kI K, 10, .inl (iA (ut th k2 ((th k2) + x3)))))] := hD
  refine lv_aload hx hb dX_layer_51 (lv_at hl 0 rfl) ?_
  refine lv_dup hx hb dX_layer_53 rfl ?_
  refine va_getN (D := kD K) (ci := 1) (v := .int (iI lc)) (C := RW) (T := FW) (N := 4) hx hb hts jnW hown hK hP 0 rfl rfl 2 (by decide) (hts _ mt_31) (fun _ h9 => h9) rfl dX_layer_54 ?_
  refine iz_iconst hx hb dX_layer_57 ?_
  refine iz_iadd hx hb dX_layer_58 ?_
  refine va_putN (D := kD K) (ci := 1) (v := .int (iI (lc + 1))) (ty := .int) (C := RW) (T := FW) (N := 4) hx hb hts jnW tW tW_ok nW hown hK hP hD hS 0 rfl rfl 2 (by decide) (hts _ mt_31) (fun _ h9 => h9) rfl (by decide +kernel) rfl rfl (Nat.le_of_ble_eq_true rfl) dX_layer_59 ?_
  clear hP hD hS
  intro H locs hP hD hS
  replace hP : va_P (kD K) vcl [(b + 2 + 2 * j, .inr (1, [.int (iI ar), .int (iI oc), .int (iI (lc + 1)), .ref (b + 2 + 2 * j + 1)])), (b + 2 + 2 * j + 1, .inl (kI K, 10, .inl (iA (ut th k2 ((th k2) + x3)))))] H := hP
  replace hD : va_D A [(b + 2 + 2 * j, .inr (1, [.int (iI ar), .int (iI oc), .int (iI (lc + 1)), .ref (b + 2 + 2 * j + 1)])), (b + 2 + 2 * j + 1, .inl (kI K, 10, .inl (iA (ut th k2 ((th k2) + x3)))))] := hD
  refine lv_aload hx hb dX_layer_62 (lv_at hl 0 rfl) ?_
  refine va_getN (D := kD K) (ci := 1) (v := .int (iI (lc + 1))) (C := RW) (T := FW) (N := 4) hx hb hts jnW hown hK hP 0 rfl rfl 2 (by decide) (hts _ mt_31) (fun _ h9 => h9) rfl dX_layer_64 ?_
  rw [hQ]
  exact ix_iret hx hb hr hlocks (⟨⟨⟨g1, g2, g3⟩, g4⟩, rfl, hP⟩) hS.2.2 (by decide) (by decide) dX_layer_67
abbrev rmX_waste : Room := { frames := 8, cells := 2, slots := 12, locals := 140 }
set_option maxHeartbeats 4000000 in
set_option maxRecDepth 100000 in
/-- waste(stuff, hundredths) -/
theorem c_X_waste (l : Launch) (htr : l.stackTraces = false) (K : KG) (z : Nat) (b wn k : Nat) (x1 x2 : Int) (wa : Nat → Int) (h1 : r32 x1) (h2 : r32 x2) (hk : 0 ≤ x1 → x1 < 10 → x1 = k) : Ct l yX_waste kX_waste rmX_waste (PX K z [.ref b, .int (iI x1), .int (iI x2)] (fun H => va_P (kD K) vcl [(b + 26, .inl (kI K, 10, .inl (iA wa)))] H ∧ va_P (kD K) vcl [(b, .inr (0, [.ref (b + 1), .int (iI (wn : Int)), .ref (b + 26), .ref (b + 27), .ref (b + 98)]))] H)) (QTI (fun r _ H => ((0 ≤ x1 ∧ x1 < 10) ∧ (0 ≤ x2 ∧ x2 ≤ 100)) ∧ r = wa k ∧ va_P (kD K) vcl [(b + 26, .inl (kI K, 10, .inl (iA (ut wa k x2))))] H) (fun E => E = exA ∧ ¬ ((0 ≤ x1 ∧ x1 < 10) ∧ (0 ≤ x2 ∧ x2 ≤ 100)))) (fun q => q = b + 26) := by
  refine ct_of (by decide) (Or.inl ⟨rfl, rfl⟩) ?_
  intro p e s m args below meth c B0 hP0
  obtain ⟨hx, hb, hr, hml, hown, hlocks, hnm, htab⟩ := B0
  obtain ⟨ha, hE, hB⟩ := hP0
  obtain ⟨hT, hK⟩ := hE.1
  have hl := lv_entry ([.ref b, .int (iI x1), .int (iI x2)]) (n := 4) (Nat.le_of_ble_eq_true rfl)
  obtain ⟨Q, hQ⟩ : ∃ Q, Q = XQ below (QTI (fun r _ H => ((0 ≤ x1 ∧ x1 < 10) ∧ (0 ≤ x2 ∧ x2 ≤ 100)) ∧ r = wa k ∧ va_P (kD K) vcl [(b + 26, .inl (kI K, 10, .inl (iA (ut wa k x2))))] H) (fun E => E = exA ∧ ¬ ((0 ≤ x1 ∧ x1 < 10) ∧ (0 ≤ x2 ∧ x2 ≤ 100)))) args s (rmX_waste).cells (rmX_waste).slots (fun q => q = b + 26) := ⟨_, rfl⟩
  rw [← hQ, ha, lg_entry_eq]
  rw [ha] at hQ
  generalize (lg_sl ([.ref b, .int (iI x1), .int (iI x2)]) ++ List.replicate (4 - (lg_sl ([.ref b, .int (iI x1), .int (iI x2)])).length) Slot.unset).toArray = ls at hl ⊢
  generalize ([.ref b, .int (iI x1), .int (iI x2)] : List Value).toArray = args at hQ ⊢
  have hts : ∀ w ∈ TW, w.before args s = true := fun w h => hT w h args
  have hl : lv_has ls 4 [(0, .ref b), (1, .int (iI x1)), (2, .int (iI x2))] := hl
  obtain ⟨A, hAe⟩ : ∃ A : Addr → Prop, A = (fun q => q = b + 26) := ⟨_, rfl⟩
  rw [← hAe] at hQ
  have hS : va_S A s.heap s.heap [] := va_S.rf
  obtain ⟨hP, hR⟩ := hB
  have hP : va_P (kD K) vcl [(b + 26, .inl (kI K, 10, .inl (iA wa)))] s.heap := hP
  have hD : va_D A [(b + 26, .inl (kI K, 10, .inl (iA wa)))] := by rw [hAe]; exact va_D_of (by simp <;> omega) (by simp <;> omega)
  have hR : va_P (kD K) vcl [(b, .inr (0, [.ref (b + 1), .int (iI (wn : Int)), .ref (b + 26), .ref (b + 27), .ref (b + 98)]))] s.heap := hR
  have hRA : ∀ (k : Nat) (q : Nat × va_E), [(b, .inr (0, [.ref (b + 1), .int (iI (wn : Int)), .ref (b + 26), .ref (b + 27), .ref (b + 98)]))][k]? = some q → ¬ A q.1 := by
    intro k q hk
    have hk := List.mem_of_getElem? hk
    simp only [List.mem_cons, List.not_mem_nil, or_false] at hk
    rw [hAe]
    rcases hk with rfl <;> (show ¬ _) <;> simp <;> omega
  refine lv_iload_n hx hb dX_waste_0 rfl (lv_at hl 1 rfl) ?_
  refine iz_bipush hx hb dX_waste_1 (by decide) ?_
  refine ctS (n := 2) hx hb hml hown hT ⟨c_X_checkNumber l htr K z x1 10 ⟨by omega, by omega⟩ ⟨by omega, by omega⟩, ⟨_, _, _, Or.inl ⟨rfl, rfl⟩⟩, mt_152, mt_1, by decide, by decide +kernel, by decide, by decide, by decide, by decide⟩ PX.blind mt_150 mt_151 (As := [.int (iI x1), .int (iI 10)]) (rest := []) rfl (PX.at hE rfl trivial) hl.1 rfl (Nat.le_of_ble_eq_true rfl) dX_waste_3 (krC (c1 := 1) (s1 := 6) rfl rfl (fun _ h => h) rfl rfl (fun g1 => ?_) (fun x H1 hX hk hn => by rw [hQ]; exact x_out htab hlocks (fun _ _ h => Or.inr h) hX hk (⟨rfl, by omega⟩) (by decide) (by decide)))
  refine lv_iload_n hx hb dX_waste_6 rfl (lv_at hl 2 rfl) ?_
  refine iz_iconst hx hb dX_waste_7 ?_
  refine iz_bipush hx hb dX_waste_8 (by decide) ?_
  refine ctS (n := 3) hx hb hml hown hT ⟨c_X_checkBounds l htr K z x2 0 100 ⟨by omega, by omega⟩ ⟨by omega, by omega⟩ ⟨by omega, by omega⟩, ⟨_, _, _, Or.inl ⟨rfl, rfl⟩⟩, mt_312, mt_1, by decide, by decide +kernel, by decide, by decide, by decide, by decide⟩ PX.blind mt_310 mt_311 (As := [.int (iI x2), .int (iI 0), .int (iI 100)]) (rest := []) rfl (PX.at hE rfl trivial) hl.1 rfl (Nat.le_of_ble_eq_true rfl) dX_waste_10 (krC (c1 := 2) (s1 := 12) rfl rfl (fun _ h => h) rfl rfl (fun g2 => ?_) (fun x H1 hX hk hn => by rw [hQ]; exact x_out htab hlocks (fun _ _ h => Or.inr h) hX hk (⟨rfl, by omega⟩) (by decide) (by decide)))
  have hk := hk (by omega) (by omega)
  refine lv_aload_n hx hb dX_waste_13 rfl (lv_at hl 0 rfl) ?_
  refine va_get (D := kD K) (ci := 0) (v := .ref (b + 26)) (C := RX) (T := FX) (N := 5) hx hb hts jnX hown hK (ro_at hS hR hRA) 0 rfl rfl 2 (by decide) (hts _ mt_128) (fun _ h9 => h9) rfl dX_waste_14 ?_
  refine lv_iload_n hx hb dX_waste_17 rfl (lv_at hl 1 rfl) ?_
  refine iz_iald hx hb hK hP 0 rfl k hk (by omega) (by omega) dX_waste_18 ?_
  refine lv_istore_n (lv' := [(3, .int (iI (wa k))), (0, .ref b), (1, .int (iI x1)), (2, .int (iI x2))]) hx hb dX_waste_19 rfl hl (by decide) rfl (fun ls hl => ?_)
  refine lv_aload_n hx hb dX_waste_20 rfl (lv_at hl 1 rfl) ?_
  refine va_get (D := kD K) (ci := 0) (v := .ref (b + 26)) (C := RX) (T := FX) (N := 5) hx hb hts jnX hown hK (ro_at hS hR hRA) 0 rfl rfl 2 (by decide) (hts _ mt_128) (fun _ h9 => h9) rfl dX_waste_21 ?_
  refine lv_iload_n hx hb dX_waste_24 rfl (lv_at hl 2 rfl) ?_
  refine lv_iload_n hx hb dX_waste_25 rfl (lv_at hl 3 rfl) ?_
  refine iz_iast hx hb hK hP hD hS 0 rfl k hk (by omega) (by omega) dX_waste_26 ?_
  clear hP hD hS
  intro H locs hP hD hS
  replace hP : va_P (kD K) vcl [(b + 26, .inl (kI K, 10, .inl (iA (ut wa k x2))))] H := hP
  replace hD : va_D A [(b + 26, .inl (kI K, 10, .inl (iA (ut wa k x2))))] := hD
  refine lv_iload_n hx hb dX_waste_27 rfl (lv_at hl 0 rfl) ?_
  rw [hQ]
  exact ix_iret hx hb hr hlocks (⟨⟨g1, g2⟩, rfl, hP⟩) hS.2.2 (by decide) (by decide) dX_waste_28
abbrev rmX_told : Room := { frames := 8, cells := 2, slots := 12, locals := 140 }
set_option maxHeartbeats 4000000 in
set_option maxRecDepth 100000 in
/-- told(wall, what) -/
theorem c_X_told (l : Launch) (htr : l.stackTraces = false) (K : KG) (z : Nat) (b wn j : Nat) (ar oc lc x1 x2 : Int) (th : Nat → Int) (h1 : r32 x1) (h2 : r32 x2) (hn : wn ≤ 12) (hj : j < 12) (hjw : 0 ≤ x1 → x1 < wn → x1 = j) : Ct l yX_told kX_told rmX_told (PX K z [.ref b, .int (iI x1), .int (iI x2)] (fun H => va_P (kD K) vcl [(b, .inr (0, [.ref (b + 1), .int (iI (wn : Int)), .ref (b + 26), .ref (b + 27), .ref (b + 98)])), (b + 1, .inl (kW K, 12, .inr (.inr (.inr (.inr (fun i => some (b + 2 + 2 * i))))))), (b + 2 + 2 * j, .inr (1, [.int (iI ar), .int (iI oc), .int (iI lc), .ref (b + 2 + 2 * j + 1)])), (b + 2 + 2 * j + 1, .inl (kI K, 10, .inl (iA th)))] H)) (QTI (fun r H0 H => ((0 ≤ x1 ∧ x1 < wn) ∧ (0 ≤ x2 ∧ x2 ≤ 2)) ∧ H = H0 ∧ r = (if x2 = 0 then ar else if x2 = 1 then sm th 0 10 else oc)) (fun E => E = exA ∧ ¬ ((0 ≤ x1 ∧ x1 < wn) ∧ (0 ≤ x2 ∧ x2 ≤ 2)))) (fun _ => False) := by
  refine ct_of (by decide) (Or.inl ⟨rfl, rfl⟩) ?_
  intro p e s m args below meth c B0 hP0
  obtain ⟨hx, hb, hr, hml, hown, hlocks, hnm, htab⟩ := B0
  obtain ⟨ha, hE, hB⟩ := hP0
  obtain ⟨hT, hK⟩ := hE.1
  have hl := lv_entry ([.ref b, .int (iI x1), .int (iI x2)]) (n := 4) (Nat.le_of_ble_eq_true rfl)
  obtain ⟨Q, hQ⟩ : ∃ Q, Q = XQ below (QTI (fun r H0 H => ((0 ≤ x1 ∧ x1 < wn) ∧ (0 ≤ x2 ∧ x2 ≤ 2)) ∧ H = H0 ∧ r = (if x2 = 0 then ar else if x2 = 1 then sm th 0 10 else oc)) (fun E => E = exA ∧ ¬ ((0 ≤ x1 ∧ x1 < wn) ∧ (0 ≤ x2 ∧ x2 ≤ 2)))) args s (rmX_told).cells (rmX_told).slots (fun _ => False) := ⟨_, rfl⟩
  rw [← hQ, ha, lg_entry_eq]
  rw [ha] at hQ
  generalize (lg_sl ([.ref b, .int (iI x1), .int (iI x2)]) ++ List.replicate (4 - (lg_sl ([.ref b, .int (iI x1), .int (iI x2)])).length) Slot.unset).toArray = ls at hl ⊢
  generalize ([.ref b, .int (iI x1), .int (iI x2)] : List Value).toArray = args at hQ ⊢
  have hts : ∀ w ∈ TW, w.before args s = true := fun w h => hT w h args
  have hl : lv_has ls 4 [(0, .ref b), (1, .int (iI x1)), (2, .int (iI x2))] := hl
  obtain ⟨A, hAe⟩ : ∃ A : Addr → Prop, A = (fun _ => False) := ⟨_, rfl⟩
  rw [← hAe] at hQ
  have hS : va_S A s.heap s.heap [] := va_S.rf
  have hR := hB
  have hR : va_P (kD K) vcl [(b, .inr (0, [.ref (b + 1), .int (iI (wn : Int)), .ref (b + 26), .ref (b + 27), .ref (b + 98)])), (b + 1, .inl (kW K, 12, .inr (.inr (.inr (.inr (fun i => some (b + 2 + 2 * i))))))), (b + 2 + 2 * j, .inr (1, [.int (iI ar), .int (iI oc), .int (iI lc), .ref (b + 2 + 2 * j + 1)])), (b + 2 + 2 * j + 1, .inl (kI K, 10, .inl (iA th)))] s.heap := hR
  have hRA : ∀ (k : Nat) (q : Nat × va_E), [(b, .inr (0, [.ref (b + 1), .int (iI (wn : Int)), .ref (b + 26), .ref (b + 27), .ref (b + 98)])), (b + 1, .inl (kW K, 12, .inr (.inr (.inr (.inr (fun i => some (b + 2 + 2 * i))))))), (b + 2 + 2 * j, .inr (1, [.int (iI ar), .int (iI oc), .int (iI lc), .ref (b + 2 + 2 * j + 1)])), (b + 2 + 2 * j + 1, .inl (kI K, 10, .inl (iA th)))][k]? = some q → ¬ A q.1 := by
    intro k q hk
    have hk := List.mem_of_getElem? hk
    simp only [List.mem_cons, List.not_mem_nil, or_false] at hk
    rw [hAe]
    rcases hk with rfl | rfl | rfl | rfl <;> (show ¬ _) <;> exact fun h => h
  refine lv_iload_n hx hb dX_told_0 rfl (lv_at hl 1 rfl) ?_
  refine lv_aload_n hx hb dX_told_1 rfl (lv_at hl 0 rfl) ?_
  refine va_get (D := kD K) (ci := 0) (v := .int (iI (wn : Int))) (C := RX) (T := FX) (N := 5) hx hb hts jnX hown hK hR 0 rfl rfl 1 (by decide) (hts _ mt_127) (fun _ h9 => h9) rfl dX_told_2 ?_
  refine ctS (n := 2) hx hb hml hown hT ⟨c_X_checkNumber l htr K z x1 wn ⟨by omega, by omega⟩ ⟨by omega, by omega⟩, ⟨_, _, _, Or.inl ⟨rfl, rfl⟩⟩, mt_152, mt_1, by decide, by decide +kernel, by decide, by decide, by decide, by decide⟩ PX.blind mt_150 mt_151 (As := [.int (iI x1), .int (iI (wn : Int))]) (rest := []) rfl (PX.at hE rfl trivial) hl.1 rfl (Nat.le_of_ble_eq_true rfl) dX_told_5 (krC (c1 := 1) (s1 := 6) rfl rfl (fun _ h => h) rfl rfl (fun g1 => ?_) (fun x H1 hX hk hn => by rw [hQ]; exact x_out htab hlocks (fun _ _ h => Or.inr h) hX hk (⟨rfl, by omega⟩) (by decide) (by decide)))
  refine lv_iload_n hx hb dX_told_8 rfl (lv_at hl 2 rfl) ?_
  refine iz_iconst hx hb dX_told_9 ?_
  refine iz_iconst hx hb dX_told_10 ?_
  refine ctS (n := 3) hx hb hml hown hT ⟨c_X_checkBounds l htr K z x2 0 2 ⟨by omega, by omega⟩ ⟨by omega, by omega⟩ ⟨by omega, by omega⟩, ⟨_, _, _, Or.inl ⟨rfl, rfl⟩⟩, mt_312, mt_1, by decide, by decide +kernel, by decide, by decide, by decide, by decide⟩ PX.blind mt_310 mt_311 (As := [.int (iI x2), .int (iI 0), .int (iI 2)]) (rest := []) rfl (PX.at hE rfl trivial) hl.1 rfl (Nat.le_of_ble_eq_true rfl) dX_told_11 (krC (c1 := 2) (s1 := 12) rfl rfl (fun _ h => h) rfl rfl (fun g2 => ?_) (fun x H1 hX hk hn => by rw [hQ]; exact x_out htab hlocks (fun _ _ h => Or.inr h) hX hk (⟨rfl, by omega⟩) (by decide) (by decide)))
  have hjw := hjw (by omega) (by omega)
  refine lv_aload_n hx hb dX_told_14 rfl (lv_at hl 0 rfl) ?_
  refine va_get (D := kD K) (ci := 0) (v := .ref (b + 1)) (C := RX) (T := FX) (N := 5) hx hb hts jnX hown hK hR 0 rfl rfl 0 (by decide) (hts _ mt_126) (fun _ h9 => h9) rfl dX_told_15 ?_
  refine lv_iload_n hx hb dX_told_18 rfl (lv_at hl 1 rfl) ?_
  refine iz_aald hx hb hK hR 1 2 rfl rfl j hjw (by omega) (by omega) rfl dX_told_19 ?_
  refine lv_astore_n (lv' := [(3, .ref (b + 2 + 2 * j)), (0, .ref b), (1, .int (iI x1)), (2, .int (iI x2))]) hx hb dX_told_20 rfl hl (by decide) rfl (fun ls hl => ?_)
  refine lv_iload_n hx hb dX_told_21 rfl (lv_at hl 3 rfl) ?_
  refine iz_if_ne (tgt := 30) hx hb ⟨by omega, by omega⟩ dX_told_22 (by decide) (fun g3 => ?_) (fun g3 => ?_)
  · refine lv_iload_n hx hb dX_told_30 rfl (lv_at hl 3 rfl) ?_
    refine iz_iconst hx hb dX_told_31 ?_
    refine iz_icmp_ne (tgt := 42) hx hb ⟨by omega, by omega⟩ ⟨by omega, by omega⟩ dX_told_32 (by decide) (fun g4 => ?_) (fun g4 => ?_)
    · refine lv_aload_n hx hb dX_told_42 rfl (lv_at hl 0 rfl) ?_
      refine va_getN (D := kD K) (ci := 1) (v := .int (iI oc)) (C := RW) (T := FW) (N := 4) hx hb hts jnW hown hK hR 2 rfl rfl 1 (by decide) (hts _ mt_30) (fun _ h9 => h9) rfl dX_told_43 ?_
      rw [hQ]
      exact ix_iret hx hb hr hlocks (⟨⟨g1, g2⟩, rfl, by rw [if_neg g3, if_neg g4]⟩) (fun _ h => absurd h List.not_mem_nil) (by decide) (by decide) dX_told_46
    · refine lv_aload_n hx hb dX_told_35 rfl (lv_at hl 0 rfl) ?_
      refine ctVN (n := 0) hx hb hml hown hT ⟨c_W_wholeThickness l K (b + 2 + 2 * j) ar oc lc th, ⟨_, _, _, Or.inl ⟨rfl, rfl⟩⟩, mt_365, mt_2, by decide, by decide +kernel, by decide, by decide, by decide, by decide⟩ PC.blind mt_362 mt_364 ms_14 (va_RVof (ci := 1) (q0 := 2) hK hR rfl rfl) (As := []) (rest := []) rfl (PC.at ⟨hT, hK⟩ (hR.sub [2, 3] rfl)) hl.1 rfl (Nat.le_of_ble_eq_true rfl) dX_told_36 (krI0 rfl rfl (fun _ h => h) (fun r hr9 => ?_))
      refine lv_goto (tgt := 46) hx hb dX_told_39 (by decide) ?_
      rw [hQ]
      exact ix_iret hx hb hr hlocks (⟨⟨g1, g2⟩, rfl, by rw [if_neg g3, if_pos g4]; exact hr9⟩) (fun _ h => absurd h List.not_mem_nil) (by decide) (by decide) dX_told_46
  · refine lv_aload_n hx hb dX_told_25 rfl (lv_at hl 0 rfl) ?_
    refine va_getN (D := kD K) (ci := 1) (v := .int (iI ar)) (C := RW) (T := FW) (N := 4) hx hb hts jnW hown hK hR 2 rfl rfl 0 (by decide) (hts _ mt_29) (fun _ h9 => h9) rfl dX_told_26 ?_
    rw [hQ]
    exact ix_iret hx hb hr hlocks (⟨⟨g1, g2⟩, rfl, by rw [if_pos g3]⟩) (fun _ h => absurd h List.not_mem_nil) (by decide) (by decide) dX_told_29
