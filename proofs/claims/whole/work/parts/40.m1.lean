-- the reference: its world
/-- the reference at b -/
abbrev mdW (K : KG) (b : Nat) (cd : Int) (wn : Nat) (ar oc lc st tk wa pk mu pr : Nat → Int) (co : Int) (cn bs : Nat → Int) (ln cu : Int) (pn : Nat) (le : Nat → Int) (bc : Int) (bb ld : Nat → Int) : va_W := [(b, .inr (4, [.int (iI cd), .int (iI (wn : Int)), .ref (b + 1), .ref (b + 2), .ref (b + 3), .ref (b + 4), .ref (b + 5), .ref (b + 6), .ref (b + 7), .ref (b + 8), .ref (b + 9), .long (lI co), .ref (b + 10), .ref (b + 11), .int (iI ln), .int (iI cu), .int (iI (pn : Int)), .ref (b + 12), .int (iI bc), .ref (b + 13), .ref (b + 14)])), (b + 1, .inl (kI K, 12, .inl (iA ar))), (b + 2, .inl (kI K, 12, .inl (iA oc))), (b + 3, .inl (kI K, 12, .inl (iA lc))), (b + 4, .inl (kI K, 96, .inl (iA st))), (b + 5, .inl (kI K, 96, .inl (iA tk))), (b + 6, .inl (kI K, 10, .inl (iA wa))), (b + 7, .inl (kI K, 10, .inl (iA pk))), (b + 8, .inl (kL K, 40, .inr (.inl (lA mu)))), (b + 9, .inl (kL K, 40, .inr (.inl (lA pr)))), (b + 10, .inl (kI K, 4, .inl (iA cn))), (b + 11, .inl (kI K, 4, .inl (iA bs))), (b + 12, .inl (kI K, 10, .inl (iA le))), (b + 13, .inl (kI K, 10, .inl (iA bb))), (b + 14, .inl (kI K, 10, .inl (iA ld)))]
abbrev rmM_init : Room := { frames := 1, cells := 14, slots := 366, locals := 20 }
set_option maxHeartbeats 4000000 in
set_option maxRecDepth 100000 in
/-- LayerQuantitiesModel() -/
theorem c_M_init (l : Launch) (K : KG) (b : Nat) : Ct l yM_init kM_init rmM_init (PC K [.ref b] (fun H => H.size = b + 1 ∧ va_P (kD K) vcl [(b, .inr (4, [.int (iI 0), .int (iI 0), .null, .null, .null, .null, .null, .null, .null, .null, .null, .long (lI 0), .null, .null, .int (iI 0), .int (iI 0), .int (iI 0), .null, .int (iI 0), .null, .null]))] H)) (QV (fun H => H.size = b + 15 ∧ va_P (kD K) vcl (mdW K b 0 0 (fun _ => 0) (fun _ => 0) (fun _ => 0) (fun _ => 0) (fun _ => 0) (fun _ => 0) (fun _ => 0) (fun _ => 0) (fun _ => 0) 0 (fun _ => 0) (fun _ => 0) 10000 0 0 (fun _ => 0) 0 (fun _ => 0) (fun _ => 0)) H)) (fun x => b ≤ x) := by
  refine ct_of (by decide) (Or.inl ⟨rfl, rfl⟩) ?_
  intro p e s m args below meth c B0 hP0
  obtain ⟨hx, hb, hr, hml, hown, hlocks, hnm, htab⟩ := B0
  obtain ⟨ha, ⟨hT, hK⟩, hB⟩ := hP0
  have hl := lv_entry ([.ref b]) (n := 1) (Nat.le_of_ble_eq_true rfl)
  obtain ⟨Q, hQ⟩ : ∃ Q, Q = XQ below (QV (fun H => H.size = b + 15 ∧ va_P (kD K) vcl (mdW K b 0 0 (fun _ => 0) (fun _ => 0) (fun _ => 0) (fun _ => 0) (fun _ => 0) (fun _ => 0) (fun _ => 0) (fun _ => 0) (fun _ => 0) 0 (fun _ => 0) (fun _ => 0) 10000 0 0 (fun _ => 0) 0 (fun _ => 0) (fun _ => 0)) H)) args s rmM_init.cells rmM_init.slots (fun x => b ≤ x) := ⟨_, rfl⟩
  rw [← hQ, ha, lg_entry_eq]
  rw [ha] at hQ
  generalize (lg_sl ([.ref b]) ++ List.replicate (1 - (lg_sl ([.ref b])).length) Slot.unset).toArray = ls at hl ⊢
  generalize ([.ref b] : List Value).toArray = args at hQ ⊢
  have hts : ∀ w ∈ TW, w.before args s = true := fun w h => hT w h args
  have hl : lv_has ls 1 [(0, .ref b)] := hl
  obtain ⟨A, hAe⟩ : ∃ A : Addr → Prop, A = (fun x => b ≤ x) := ⟨_, rfl⟩
  rw [← hAe] at hQ
  have hS : va_S A s.heap s.heap [] := va_S.rf
  obtain ⟨hz0, hP⟩ := hB
  have hD : va_D A [(b, .inr (4, [.int (iI 0), .int (iI 0), .null, .null, .null, .null, .null, .null, .null, .null, .null, .long (lI 0), .null, .null, .int (iI 0), .int (iI 0), .int (iI 0), .null, .int (iI 0), .null, .null]))] := by rw [hAe]; exact va_D_of (by simp) (by simp)
  have hA : ∀ x, s.heap.size ≤ x → A x := fun x hx => by rw [hAe]; show b ≤ x; omega
  refine lv_aload_n hx hb dM_init_0 rfl (lv_at hl 0 rfl) ?_
  refine W.objInit hx hb hown (hts _ mt_462) (hts _ mt_20) (hts _ mt_21) rfl (by rw [hml]; exact hl.1) rfl dM_init_1 (Nat.le_of_ble_eq_true rfl) (Nat.le_of_ble_eq_true rfl) ?_
  refine W.eq (g2 := F0 m 4 ls []) rfl ?_
  refine lv_aload_n hx hb dM_init_4 rfl (lv_at hl 0 rfl) ?_
  refine iz_bipush hx hb dM_init_5 (by decide) ?_
  have hz := hz0
  refine iz_newi hx hb hT hK hP hD hS hA 12 rfl (by omega) (Nat.le_of_ble_eq_true rfl) (Nat.le_of_ble_eq_true rfl) (z := b + 1) hz dM_init_7 ?_
  clear hz hP hD hS
  intro H hz hP hD hS
  replace hP : va_P (kD K) vcl [(b, .inr (4, [.int (iI 0), .int (iI 0), .null, .null, .null, .null, .null, .null, .null, .null, .null, .long (lI 0), .null, .null, .int (iI 0), .int (iI 0), .int (iI 0), .null, .int (iI 0), .null, .null])), (b + 1, .inl (kI K, 12, .inl (iA (fun _ => 0))))] H := hP
  replace hD : va_D A [(b, .inr (4, [.int (iI 0), .int (iI 0), .null, .null, .null, .null, .null, .null, .null, .null, .null, .long (lI 0), .null, .null, .int (iI 0), .int (iI 0), .int (iI 0), .null, .int (iI 0), .null, .null])), (b + 1, .inl (kI K, 12, .inl (iA (fun _ => 0))))] := hD
  refine W.num (c1 := 1) (s1 := 12) rfl rfl ?_
  refine va_putF (D := kD K) (ci := 4) (v := .ref (b + 1)) (ty := .array .int) (C := RM) (T := FM) (N := 21) hx hb hts jnM tM tM_ok nM hown hK hP hD hS 0 rfl rfl 2 (by decide) (hts _ mt_465) (fun _ h9 => h9) rfl hnm rfl (by decide +kernel) rfl rfl (Nat.le_of_ble_eq_true rfl) dM_init_9 ?_
  clear hP hD hS
  intro H locs hP hD hS
  replace hP : va_P (kD K) vcl [(b, .inr (4, [.int (iI 0), .int (iI 0), .ref (b + 1), .null, .null, .null, .null, .null, .null, .null, .null, .long (lI 0), .null, .null, .int (iI 0), .int (iI 0), .int (iI 0), .null, .int (iI 0), .null, .null])), (b + 1, .inl (kI K, 12, .inl (iA (fun _ => 0))))] H := hP
  replace hD : va_D A [(b, .inr (4, [.int (iI 0), .int (iI 0), .ref (b + 1), .null, .null, .null, .null, .null, .null, .null, .null, .long (lI 0), .null, .null, .int (iI 0), .int (iI 0), .int (iI 0), .null, .int (iI 0), .null, .null])), (b + 1, .inl (kI K, 12, .inl (iA (fun _ => 0))))] := hD
  refine lv_aload_n hx hb dM_init_12 rfl (lv_at hl 0 rfl) ?_
  refine iz_bipush hx hb dM_init_13 (by decide) ?_
  refine W.sz (fun hs9 => ?_)
  replace hz : H.size = b + 2 := by have h9 : b + 1 < H.size := (hP 1 _ rfl).lt; omega
  clear hs9
  refine iz_newi hx hb hT hK hP hD hS hA 12 rfl (by omega) (Nat.le_of_ble_eq_true rfl) (Nat.le_of_ble_eq_true rfl) (z := b + 2) hz dM_init_15 ?_
  clear hz hP hD hS
  intro H hz hP hD hS
  replace hP : va_P (kD K) vcl [(b, .inr (4, [.int (iI 0), .int (iI 0), .ref (b + 1), .null, .null, .null, .null, .null, .null, .null, .null, .long (lI 0), .null, .null, .int (iI 0), .int (iI 0), .int (iI 0), .null, .int (iI 0), .null, .null])), (b + 1, .inl (kI K, 12, .inl (iA (fun _ => 0)))), (b + 2, .inl (kI K, 12, .inl (iA (fun _ => 0))))] H := hP
  replace hD : va_D A [(b, .inr (4, [.int (iI 0), .int (iI 0), .ref (b + 1), .null, .null, .null, .null, .null, .null, .null, .null, .long (lI 0), .null, .null, .int (iI 0), .int (iI 0), .int (iI 0), .null, .int (iI 0), .null, .null])), (b + 1, .inl (kI K, 12, .inl (iA (fun _ => 0)))), (b + 2, .inl (kI K, 12, .inl (iA (fun _ => 0))))] := hD
  refine W.num (c1 := 2) (s1 := 24) rfl rfl ?_
  refine va_putF (D := kD K) (ci := 4) (v := .ref (b + 2)) (ty := .array .int) (C := RM) (T := FM) (N := 21) hx hb hts jnM tM tM_ok nM hown hK hP hD hS 0 rfl rfl 3 (by decide) (hts _ mt_466) (fun _ h9 => h9) rfl hnm rfl (by decide +kernel) rfl rfl (Nat.le_of_ble_eq_true rfl) dM_init_17 ?_
  clear hP hD hS
  intro H locs hP hD hS
  replace hP : va_P (kD K) vcl [(b, .inr (4, [.int (iI 0), .int (iI 0), .ref (b + 1), .ref (b + 2), .null, .null, .null, .null, .null, .null, .null, .long (lI 0), .null, .null, .int (iI 0), .int (iI 0), .int (iI 0), .null, .int (iI 0), .null, .null])), (b + 1, .inl (kI K, 12, .inl (iA (fun _ => 0)))), (b + 2, .inl (kI K, 12, .inl (iA (fun _ => 0))))] H := hP
  replace hD : va_D A [(b, .inr (4, [.int (iI 0), .int (iI 0), .ref (b + 1), .ref (b + 2), .null, .null, .null, .null, .null, .null, .null, .long (lI 0), .null, .null, .int (iI 0), .int (iI 0), .int (iI 0), .null, .int (iI 0), .null, .null])), (b + 1, .inl (kI K, 12, .inl (iA (fun _ => 0)))), (b + 2, .inl (kI K, 12, .inl (iA (fun _ => 0))))] := hD
  refine lv_aload_n hx hb dM_init_20 rfl (lv_at hl 0 rfl) ?_
  refine iz_bipush hx hb dM_init_21 (by decide) ?_
  refine W.sz (fun hs9 => ?_)
  replace hz : H.size = b + 3 := by have h9 : b + 2 < H.size := (hP 2 _ rfl).lt; omega
  clear hs9
  refine iz_newi hx hb hT hK hP hD hS hA 12 rfl (by omega) (Nat.le_of_ble_eq_true rfl) (Nat.le_of_ble_eq_true rfl) (z := b + 3) hz dM_init_23 ?_
  clear hz hP hD hS
  intro H hz hP hD hS
  replace hP : va_P (kD K) vcl [(b, .inr (4, [.int (iI 0), .int (iI 0), .ref (b + 1), .ref (b + 2), .null, .null, .null, .null, .null, .null, .null, .long (lI 0), .null, .null, .int (iI 0), .int (iI 0), .int (iI 0), .null, .int (iI 0), .null, .null])), (b + 1, .inl (kI K, 12, .inl (iA (fun _ => 0)))), (b + 2, .inl (kI K, 12, .inl (iA (fun _ => 0)))), (b + 3, .inl (kI K, 12, .inl (iA (fun _ => 0))))] H := hP
  replace hD : va_D A [(b, .inr (4, [.int (iI 0), .int (iI 0), .ref (b + 1), .ref (b + 2), .null, .null, .null, .null, .null, .null, .null, .long (lI 0), .null, .null, .int (iI 0), .int (iI 0), .int (iI 0), .null, .int (iI 0), .null, .null])), (b + 1, .inl (kI K, 12, .inl (iA (fun _ => 0)))), (b + 2, .inl (kI K, 12, .inl (iA (fun _ => 0)))), (b + 3, .inl (kI K, 12, .inl (iA (fun _ => 0))))] := hD
  refine W.num (c1 := 3) (s1 := 36) rfl rfl ?_
  refine va_putF (D := kD K) (ci := 4) (v := .ref (b + 3)) (ty := .array .int) (C := RM) (T := FM) (N := 21) hx hb hts jnM tM tM_ok nM hown hK hP hD hS 0 rfl rfl 4 (by decide) (hts _ mt_467) (fun _ h9 => h9) rfl hnm rfl (by decide +kernel) rfl rfl (Nat.le_of_ble_eq_true rfl) dM_init_25 ?_
  clear hP hD hS
  intro H locs hP hD hS
  replace hP : va_P (kD K) vcl [(b, .inr (4, [.int (iI 0), .int (iI 0), .ref (b + 1), .ref (b + 2), .ref (b + 3), .null, .null, .null, .null, .null, .null, .long (lI 0), .null, .null, .int (iI 0), .int (iI 0), .int (iI 0), .null, .int (iI 0), .null, .null])), (b + 1, .inl (kI K, 12, .inl (iA (fun _ => 0)))), (b + 2, .inl (kI K, 12, .inl (iA (fun _ => 0)))), (b + 3, .inl (kI K, 12, .inl (iA (fun _ => 0))))] H := hP
  replace hD : va_D A [(b, .inr (4, [.int (iI 0), .int (iI 0), .ref (b + 1), .ref (b + 2), .ref (b + 3), .null, .null, .null, .null, .null, .null, .long (lI 0), .null, .null, .int (iI 0), .int (iI 0), .int (iI 0), .null, .int (iI 0), .null, .null])), (b + 1, .inl (kI K, 12, .inl (iA (fun _ => 0)))), (b + 2, .inl (kI K, 12, .inl (iA (fun _ => 0)))), (b + 3, .inl (kI K, 12, .inl (iA (fun _ => 0))))] := hD
  refine lv_aload_n hx hb dM_init_28 rfl (lv_at hl 0 rfl) ?_
  refine iz_bipush hx hb dM_init_29 (by decide) ?_
  refine W.sz (fun hs9 => ?_)
  replace hz : H.size = b + 4 := by have h9 : b + 3 < H.size := (hP 3 _ rfl).lt; omega
  clear hs9
  refine iz_newi hx hb hT hK hP hD hS hA 96 rfl (by omega) (Nat.le_of_ble_eq_true rfl) (Nat.le_of_ble_eq_true rfl) (z := b + 4) hz dM_init_31 ?_
  clear hz hP hD hS
  intro H hz hP hD hS
  replace hP : va_P (kD K) vcl [(b, .inr (4, [.int (iI 0), .int (iI 0), .ref (b + 1), .ref (b + 2), .ref (b + 3), .null, .null, .null, .null, .null, .null, .long (lI 0), .null, .null, .int (iI 0), .int (iI 0), .int (iI 0), .null, .int (iI 0), .null, .null])), (b + 1, .inl (kI K, 12, .inl (iA (fun _ => 0)))), (b + 2, .inl (kI K, 12, .inl (iA (fun _ => 0)))), (b + 3, .inl (kI K, 12, .inl (iA (fun _ => 0)))), (b + 4, .inl (kI K, 96, .inl (iA (fun _ => 0))))] H := hP
  replace hD : va_D A [(b, .inr (4, [.int (iI 0), .int (iI 0), .ref (b + 1), .ref (b + 2), .ref (b + 3), .null, .null, .null, .null, .null, .null, .long (lI 0), .null, .null, .int (iI 0), .int (iI 0), .int (iI 0), .null, .int (iI 0), .null, .null])), (b + 1, .inl (kI K, 12, .inl (iA (fun _ => 0)))), (b + 2, .inl (kI K, 12, .inl (iA (fun _ => 0)))), (b + 3, .inl (kI K, 12, .inl (iA (fun _ => 0)))), (b + 4, .inl (kI K, 96, .inl (iA (fun _ => 0))))] := hD
  refine W.num (c1 := 4) (s1 := 132) rfl rfl ?_
  refine va_putF (D := kD K) (ci := 4) (v := .ref (b + 4)) (ty := .array .int) (C := RM) (T := FM) (N := 21) hx hb hts jnM tM tM_ok nM hown hK hP hD hS 0 rfl rfl 5 (by decide) (hts _ mt_468) (fun _ h9 => h9) rfl hnm rfl (by decide +kernel) rfl rfl (Nat.le_of_ble_eq_true rfl) dM_init_33 ?_
  clear hP hD hS
  intro H locs hP hD hS
  replace hP : va_P (kD K) vcl [(b, .inr (4, [.int (iI 0), .int (iI 0), .ref (b + 1), .ref (b + 2), .ref (b + 3), .ref (b + 4), .null, .null, .null, .null, .null, .long (lI 0), .null, .null, .int (iI 0), .int (iI 0), .int (iI 0), .null, .int (iI 0), .null, .null])), (b + 1, .inl (kI K, 12, .inl (iA (fun _ => 0)))), (b + 2, .inl (kI K, 12, .inl (iA (fun _ => 0)))), (b + 3, .inl (kI K, 12, .inl (iA (fun _ => 0)))), (b + 4, .inl (kI K, 96, .inl (iA (fun _ => 0))))] H := hP
  replace hD : va_D A [(b, .inr (4, [.int (iI 0), .int (iI 0), .ref (b + 1), .ref (b + 2), .ref (b + 3), .ref (b + 4), .null, .null, .null, .null, .null, .long (lI 0), .null, .null, .int (iI 0), .int (iI 0), .int (iI 0), .null, .int (iI 0), .null, .null])), (b + 1, .inl (kI K, 12, .inl (iA (fun _ => 0)))), (b + 2, .inl (kI K, 12, .inl (iA (fun _ => 0)))), (b + 3, .inl (kI K, 12, .inl (iA (fun _ => 0)))), (b + 4, .inl (kI K, 96, .inl (iA (fun _ => 0))))] := hD
  refine lv_aload_n hx hb dM_init_36 rfl (lv_at hl 0 rfl) ?_
  refine iz_bipush hx hb dM_init_37 (by decide) ?_
  refine W.sz (fun hs9 => ?_)
  replace hz : H.size = b + 5 := by have h9 : b + 4 < H.size := (hP 4 _ rfl).lt; omega
  clear hs9
  refine iz_newi hx hb hT hK hP hD hS hA 96 rfl (by omega) (Nat.le_of_ble_eq_true rfl) (Nat.le_of_ble_eq_true rfl) (z := b + 5) hz dM_init_39 ?_
  clear hz hP hD hS
  intro H hz hP hD hS
  replace hP : va_P (kD K) vcl [(b, .inr (4, [.int (iI 0), .int (iI 0), .ref (b + 1), .ref (b + 2), .ref (b + 3), .ref (b + 4), .null, .null, .null, .null, .null, .long (lI 0), .null, .null, .int (iI 0), .int (iI 0), .int (iI 0), .null, .int (iI 0), .null, .null])), (b + 1, .inl (kI K, 12, .inl (iA (fun _ => 0)))), (b + 2, .inl (kI K, 12, .inl (iA (fun _ => 0)))), (b + 3, .inl (kI K, 12, .inl (iA (fun _ => 0)))), (b + 4, .inl (kI K, 96, .inl (iA (fun _ => 0)))), (b + 5, .inl (kI K, 96, .inl (iA (fun _ => 0))))] H := hP
  replace hD : va_D A [(b, .inr (4, [.int (iI 0), .int (iI 0), .ref (b + 1), .ref (b + 2), .ref (b + 3), .ref (b + 4), .null, .null, .null, .null, .null, .long (lI 0), .null, .null, .int (iI 0), .int (iI 0), .int (iI 0), .null, .int (iI 0), .null, .null])), (b + 1, .inl (kI K, 12, .inl (iA (fun _ => 0)))), (b + 2, .inl (kI K, 12, .inl (iA (fun _ => 0)))), (b + 3, .inl (kI K, 12, .inl (iA (fun _ => 0)))), (b + 4, .inl (kI K, 96, .inl (iA (fun _ => 0)))), (b + 5, .inl (kI K, 96, .inl (iA (fun _ => 0))))] := hD
  refine W.num (c1 := 5) (s1 := 228) rfl rfl ?_
  refine va_putF (D := kD K) (ci := 4) (v := .ref (b + 5)) (ty := .array .int) (C := RM) (T := FM) (N := 21) hx hb hts jnM tM tM_ok nM hown hK hP hD hS 0 rfl rfl 6 (by decide) (hts _ mt_469) (fun _ h9 => h9) rfl hnm rfl (by decide +kernel) rfl rfl (Nat.le_of_ble_eq_true rfl) dM_init_41 ?_
  clear hP hD hS
  intro H locs hP hD hS
  replace hP : va_P (kD K) vcl [(b, .inr (4, [.int (iI 0), .int (iI 0), .ref (b + 1), .ref (b + 2), .ref (b + 3), .ref (b + 4), .ref (b + 5), .null, .null, .null, .null, .long (lI 0), .null, .null, .int (iI 0), .int (iI 0), .int (iI 0), .null, .int (iI 0), .null, .null])), (b + 1, .inl (kI K, 12, .inl (iA (fun _ => 0)))), (b + 2, .inl (kI K, 12, .inl (iA (fun _ => 0)))), (b + 3, .inl (kI K, 12, .inl (iA (fun _ => 0)))), (b + 4, .inl (kI K, 96, .inl (iA (fun _ => 0)))), (b + 5, .inl (kI K, 96, .inl (iA (fun _ => 0))))] H := hP
  replace hD : va_D A [(b, .inr (4, [.int (iI 0), .int (iI 0), .ref (b + 1), .ref (b + 2), .ref (b + 3), .ref (b + 4), .ref (b + 5), .null, .null, .null, .null, .long (lI 0), .null, .null, .int (iI 0), .int (iI 0), .int (iI 0), .null, .int (iI 0), .null, .null])), (b + 1, .inl (kI K, 12, .inl (iA (fun _ => 0)))), (b + 2, .inl (kI K, 12, .inl (iA (fun _ => 0)))), (b + 3, .inl (kI K, 12, .inl (iA (fun _ => 0)))), (b + 4, .inl (kI K, 96, .inl (iA (fun _ => 0)))), (b + 5, .inl (kI K, 96, .inl (iA (fun _ => 0))))] := hD
  refine lv_aload_n hx hb dM_init_44 rfl (lv_at hl 0 rfl) ?_
  refine iz_bipush hx hb dM_init_45 (by decide) ?_
  refine W.sz (fun hs9 => ?_)
  replace hz : H.size = b + 6 := by have h9 : b + 5 < H.size := (hP 5 _ rfl).lt; omega
  clear hs9
  refine iz_newi hx hb hT hK hP hD hS hA 10 rfl (by omega) (Nat.le_of_ble_eq_true rfl) (Nat.le_of_ble_eq_true rfl) (z := b + 6) hz dM_init_47 ?_
  clear hz hP hD hS
  intro H hz hP hD hS
  replace hP : va_P (kD K) vcl [(b, .inr (4, [.int (iI 0), .int (iI 0), .ref (b + 1), .ref (b + 2), .ref (b + 3), .ref (b + 4), .ref (b + 5), .null, .null, .null, .null, .long (lI 0), .null, .null, .int (iI 0), .int (iI 0), .int (iI 0), .null, .int (iI 0), .null, .null])), (b + 1, .inl (kI K, 12, .inl (iA (fun _ => 0)))), (b + 2, .inl (kI K, 12, .inl (iA (fun _ => 0)))), (b + 3, .inl (kI K, 12, .inl (iA (fun _ => 0)))), (b + 4, .inl (kI K, 96, .inl (iA (fun _ => 0)))), (b + 5, .inl (kI K, 96, .inl (iA (fun _ => 0)))), (b + 6, .inl (kI K, 10, .inl (iA (fun _ => 0))))] H := hP
  replace hD : va_D A [(b, .inr (4, [.int (iI 0), .int (iI 0), .ref (b + 1), .ref (b + 2), .ref (b + 3), .ref (b + 4), .ref (b + 5), .null, .null, .null, .null, .long (lI 0), .null, .null, .int (iI 0), .int (iI 0), .int (iI 0), .null, .int (iI 0), .null, .null])), (b + 1, .inl (kI K, 12, .inl (iA (fun _ => 0)))), (b + 2, .inl (kI K, 12, .inl (iA (fun _ => 0)))), (b + 3, .inl (kI K, 12, .inl (iA (fun _ => 0)))), (b + 4, .inl (kI K, 96, .inl (iA (fun _ => 0)))), (b + 5, .inl (kI K, 96, .inl (iA (fun _ => 0)))), (b + 6, .inl (kI K, 10, .inl (iA (fun _ => 0))))] := hD
  refine W.num (c1 := 6) (s1 := 238) rfl rfl ?_
  refine va_putF (D := kD K) (ci := 4) (v := .ref (b + 6)) (ty := .array .int) (C := RM) (T := FM) (N := 21) hx hb hts jnM tM tM_ok nM hown hK hP hD hS 0 rfl rfl 7 (by decide) (hts _ mt_470) (fun _ h9 => h9) rfl hnm rfl (by decide +kernel) rfl rfl (Nat.le_of_ble_eq_true rfl) dM_init_49 ?_
  clear hP hD hS
  intro H locs hP hD hS
  replace hP : va_P (kD K) vcl [(b, .inr (4, [.int (iI 0), .int (iI 0), .ref (b + 1), .ref (b + 2), .ref (b + 3), .ref (b + 4), .ref (b + 5), .ref (b + 6), .null, .null, .null, .long (lI 0), .null, .null, .int (iI 0), .int (iI 0), .int (iI 0), .null, .int (iI 0), .null, .null])), (b + 1, .inl (kI K, 12, .inl (iA (fun _ => 0)))), (b + 2, .inl (kI K, 12, .inl (iA (fun _ => 0)))), (b + 3, .inl (kI K, 12, .inl (iA (fun _ => 0)))), (b + 4, .inl (kI K, 96, .inl (iA (fun _ => 0)))), (b + 5, .inl (kI K, 96, .inl (iA (fun _ => 0)))), (b + 6, .inl (kI K, 10, .inl (iA (fun _ => 0))))] H := hP
  replace hD : va_D A [(b, .inr (4, [.int (iI 0), .int (iI 0), .ref (b + 1), .ref (b + 2), .ref (b + 3), .ref (b + 4), .ref (b + 5), .ref (b + 6), .null, .null, .null, .long (lI 0), .null, .null, .int (iI 0), .int (iI 0), .int (iI 0), .null, .int (iI 0), .null, .null])), (b + 1, .inl (kI K, 12, .inl (iA (fun _ => 0)))), (b + 2, .inl (kI K, 12, .inl (iA (fun _ => 0)))), (b + 3, .inl (kI K, 12, .inl (iA (fun _ => 0)))), (b + 4, .inl (kI K, 96, .inl (iA (fun _ => 0)))), (b + 5, .inl (kI K, 96, .inl (iA (fun _ => 0)))), (b + 6, .inl (kI K, 10, .inl (iA (fun _ => 0))))] := hD
  refine lv_aload_n hx hb dM_init_52 rfl (lv_at hl 0 rfl) ?_
  refine iz_bipush hx hb dM_init_53 (by decide) ?_
  refine W.sz (fun hs9 => ?_)
  replace hz : H.size = b + 7 := by have h9 : b + 6 < H.size := (hP 6 _ rfl).lt; omega
  clear hs9
  refine iz_newi hx hb hT hK hP hD hS hA 10 rfl (by omega) (Nat.le_of_ble_eq_true rfl) (Nat.le_of_ble_eq_true rfl) (z := b + 7) hz dM_init_55 ?_
  clear hz hP hD hS
  intro H hz hP hD hS
  replace hP : va_P (kD K) vcl [(b, .inr (4, [.int (iI 0), .int (iI 0), .ref (b + 1), .ref (b + 2), .ref (b + 3), .ref (b + 4), .ref (b + 5), .ref (b + 6), .null, .null, .null, .long (lI 0), .null, .null, .int (iI 0), .int (iI 0), .int (iI 0), .null, .int (iI 0), .null, .null])), (b + 1, .inl (kI K, 12, .inl (iA (fun _ => 0)))), (b + 2, .inl (kI K, 12, .inl (iA (fun _ => 0)))), (b + 3, .inl (kI K, 12, .inl (iA (fun _ => 0)))), (b + 4, .inl (kI K, 96, .inl (iA (fun _ => 0)))), (b + 5, .inl (kI K, 96, .inl (iA (fun _ => 0)))), (b + 6, .inl (kI K, 10, .inl (iA (fun _ => 0)))), (b + 7, .inl (kI K, 10, .inl (iA (fun _ => 0))))] H := hP
  replace hD : va_D A [(b, .inr (4, [.int (iI 0), .int (iI 0), .ref (b + 1), .ref (b + 2), .ref (b + 3), .ref (b + 4), .ref (b + 5), .ref (b + 6), .null, .null, .null, .long (lI 0), .null, .null, .int (iI 0), .int (iI 0), .int (iI 0), .null, .int (iI 0), .null, .null])), (b + 1, .inl (kI K, 12, .inl (iA (fun _ => 0)))), (b + 2, .inl (kI K, 12, .inl (iA (fun _ => 0)))), (b + 3, .inl (kI K, 12, .inl (iA (fun _ => 0)))), (b + 4, .inl (kI K, 96, .inl (iA (fun _ => 0)))), (b + 5, .inl (kI K, 96, .inl (iA (fun _ => 0)))), (b + 6, .inl (kI K, 10, .inl (iA (fun _ => 0)))), (b + 7, .inl (kI K, 10, .inl (iA (fun _ => 0))))] := hD
  refine W.num (c1 := 7) (s1 := 248) rfl rfl ?_
  refine va_putF (D := kD K) (ci := 4) (v := .ref (b + 7)) (ty := .array .int) (C := RM) (T := FM) (N := 21) hx hb hts jnM tM tM_ok nM hown hK hP hD hS 0 rfl rfl 8 (by decide) (hts _ mt_471) (fun _ h9 => h9) rfl hnm rfl (by decide +kernel) rfl rfl (Nat.le_of_ble_eq_true rfl) dM_init_57 ?_
  clear hP hD hS
  intro H locs hP hD hS
  replace hP : va_P (kD K) vcl [(b, .inr (4, [.int (iI 0), .int (iI 0), .ref (b + 1), .ref (b + 2), .ref (b + 3), .ref (b + 4), .ref (b + 5), .ref (b + 6), .ref (b + 7), .null, .null, .long (lI 0), .null, .null, .int (iI 0), .int (iI 0), .int (iI 0), .null, .int (iI 0), .null, .null])), (b + 1, .inl (kI K, 12, .inl (iA (fun _ => 0)))), (b + 2, .inl (kI K, 12, .inl (iA (fun _ => 0)))), (b + 3, .inl (kI K, 12, .inl (iA (fun _ => 0)))), (b + 4, .inl (kI K, 96, .inl (iA (fun _ => 0)))), (b + 5, .inl (kI K, 96, .inl (iA (fun _ => 0)))), (b + 6, .inl (kI K, 10, .inl (iA (fun _ => 0)))), (b + 7, .inl (kI K, 10, .inl (iA (fun _ => 0))))] H := hP
  replace hD : va_D A [(b, .inr (4, [.int (iI 0), .int (iI 0), .ref (b + 1), .ref (b + 2), .ref (b + 3), .ref (b + 4), .ref (b + 5), .ref (b + 6), .ref (b + 7), .null, .null, .long (lI 0), .null, .null, .int (iI 0), .int (iI 0), .int (iI 0), .null, .int (iI 0), .null, .null])), (b + 1, .inl (kI K, 12, .inl (iA (fun _ => 0)))), (b + 2, .inl (kI K, 12, .inl (iA (fun _ => 0)))), (b + 3, .inl (kI K, 12, .inl (iA (fun _ => 0)))), (b + 4, .inl (kI K, 96, .inl (iA (fun _ => 0)))), (b + 5, .inl (kI K, 96, .inl (iA (fun _ => 0)))), (b + 6, .inl (kI K, 10, .inl (iA (fun _ => 0)))), (b + 7, .inl (kI K, 10, .inl (iA (fun _ => 0))))] := hD
  refine lv_aload_n hx hb dM_init_60 rfl (lv_at hl 0 rfl) ?_
  refine iz_bipush hx hb dM_init_61 (by decide) ?_
  refine W.sz (fun hs9 => ?_)
  replace hz : H.size = b + 8 := by have h9 : b + 7 < H.size := (hP 7 _ rfl).lt; omega
  clear hs9
  refine iz_newl hx hb hT hK hP hD hS hA 40 rfl (by omega) (Nat.le_of_ble_eq_true rfl) (Nat.le_of_ble_eq_true rfl) (z := b + 8) hz dM_init_63 ?_
  clear hz hP hD hS
  intro H hz hP hD hS
  replace hP : va_P (kD K) vcl [(b, .inr (4, [.int (iI 0), .int (iI 0), .ref (b + 1), .ref (b + 2), .ref (b + 3), .ref (b + 4), .ref (b + 5), .ref (b + 6), .ref (b + 7), .null, .null, .long (lI 0), .null, .null, .int (iI 0), .int (iI 0), .int (iI 0), .null, .int (iI 0), .null, .null])), (b + 1, .inl (kI K, 12, .inl (iA (fun _ => 0)))), (b + 2, .inl (kI K, 12, .inl (iA (fun _ => 0)))), (b + 3, .inl (kI K, 12, .inl (iA (fun _ => 0)))), (b + 4, .inl (kI K, 96, .inl (iA (fun _ => 0)))), (b + 5, .inl (kI K, 96, .inl (iA (fun _ => 0)))), (b + 6, .inl (kI K, 10, .inl (iA (fun _ => 0)))), (b + 7, .inl (kI K, 10, .inl (iA (fun _ => 0)))), (b + 8, .inl (kL K, 40, .inr (.inl (lA (fun _ => 0)))))] H := hP
  replace hD : va_D A [(b, .inr (4, [.int (iI 0), .int (iI 0), .ref (b + 1), .ref (b + 2), .ref (b + 3), .ref (b + 4), .ref (b + 5), .ref (b + 6), .ref (b + 7), .null, .null, .long (lI 0), .null, .null, .int (iI 0), .int (iI 0), .int (iI 0), .null, .int (iI 0), .null, .null])), (b + 1, .inl (kI K, 12, .inl (iA (fun _ => 0)))), (b + 2, .inl (kI K, 12, .inl (iA (fun _ => 0)))), (b + 3, .inl (kI K, 12, .inl (iA (fun _ => 0)))), (b + 4, .inl (kI K, 96, .inl (iA (fun _ => 0)))), (b + 5, .inl (kI K, 96, .inl (iA (fun _ => 0)))), (b + 6, .inl (kI K, 10, .inl (iA (fun _ => 0)))), (b + 7, .inl (kI K, 10, .inl (iA (fun _ => 0)))), (b + 8, .inl (kL K, 40, .inr (.inl (lA (fun _ => 0)))))] := hD
  refine W.num (c1 := 8) (s1 := 288) rfl rfl ?_
  refine va_putF (D := kD K) (ci := 4) (v := .ref (b + 8)) (ty := .array .long) (C := RM) (T := FM) (N := 21) hx hb hts jnM tM tM_ok nM hown hK hP hD hS 0 rfl rfl 9 (by decide) (hts _ mt_472) (fun _ h9 => h9) rfl hnm rfl (by decide +kernel) rfl rfl (Nat.le_of_ble_eq_true rfl) dM_init_65 ?_
  clear hP hD hS
  intro H locs hP hD hS
  replace hP : va_P (kD K) vcl [(b, .inr (4, [.int (iI 0), .int (iI 0), .ref (b + 1), .ref (b + 2), .ref (b + 3), .ref (b + 4), .ref (b + 5), .ref (b + 6), .ref (b + 7), .ref (b + 8), .null, .long (lI 0), .null, .null, .int (iI 0), .int (iI 0), .int (iI 0), .null, .int (iI 0), .null, .null])), (b + 1, .inl (kI K, 12, .inl (iA (fun _ => 0)))), (b + 2, .inl (kI K, 12, .inl (iA (fun _ => 0)))), (b + 3, .inl (kI K, 12, .inl (iA (fun _ => 0)))), (b + 4, .inl (kI K, 96, .inl (iA (fun _ => 0)))), (b + 5, .inl (kI K, 96, .inl (iA (fun _ => 0)))), (b + 6, .inl (kI K, 10, .inl (iA (fun _ => 0)))), (b + 7, .inl (kI K, 10, .inl (iA (fun _ => 0)))), (b + 8, .inl (kL K, 40, .inr (.inl (lA (fun _ => 0)))))] H := hP
  replace hD : va_D A [(b, .inr (4, [.int (iI 0), .int (iI 0), .ref (b + 1), .ref (b + 2), .ref (b + 3), .ref (b + 4), .ref (b + 5), .ref (b + 6), .ref (b + 7), .ref (b + 8), .null, .long (lI 0), .null, .null, .int (iI 0), .int (iI 0), .int (iI 0), .null, .int (iI 0), .null, .null])), (b + 1, .inl (kI K, 12, .inl (iA (fun _ => 0)))), (b + 2, .inl (kI K, 12, .inl (iA (fun _ => 0)))), (b + 3, .inl (kI K, 12, .inl (iA (fun _ => 0)))), (b + 4, .inl (kI K, 96, .inl (iA (fun _ => 0)))), (b + 5, .inl (kI K, 96, .inl (iA (fun _ => 0)))), (b + 6, .inl (kI K, 10, .inl (iA (fun _ => 0)))), (b + 7, .inl (kI K, 10, .inl (iA (fun _ => 0)))), (b + 8, .inl (kL K, 40, .inr (.inl (lA (fun _ => 0)))))] := hD
  refine lv_aload_n hx hb dM_init_68 rfl (lv_at hl 0 rfl) ?_
  refine iz_bipush hx hb dM_init_69 (by decide) ?_
  refine W.sz (fun hs9 => ?_)
  replace hz : H.size = b + 9 := by have h9 : b + 8 < H.size := (hP 8 _ rfl).lt; omega
  clear hs9
  refine iz_newl hx hb hT hK hP hD hS hA 40 rfl (by omega) (Nat.le_of_ble_eq_true rfl) (Nat.le_of_ble_eq_true rfl) (z := b + 9) hz dM_init_71 ?_
  clear hz hP hD hS
  intro H hz hP hD hS
  replace hP : va_P (kD K) vcl [(b, .inr (4, [.int (iI 0), .int (iI 0), .ref (b + 1), .ref (b + 2), .ref (b + 3), .ref (b + 4), .ref (b + 5), .ref (b + 6), .ref (b + 7), .ref (b + 8), .null, .long (lI 0), .null, .null, .int (iI 0), .int (iI 0), .int (iI 0), .null, .int (iI 0), .null, .null])), (b + 1, .inl (kI K, 12, .inl (iA (fun _ => 0)))), (b + 2, .inl (kI K, 12, .inl (iA (fun _ => 0)))), (b + 3, .inl (kI K, 12, .inl (iA (fun _ => 0)))), (b + 4, .inl (kI K, 96, .inl (iA (fun _ => 0)))), (b + 5, .inl (kI K, 96, .inl (iA (fun _ => 0)))), (b + 6, .inl (kI K, 10, .inl (iA (fun _ => 0)))), (b + 7, .inl (kI K, 10, .inl (iA (fun _ => 0)))), (b + 8, .inl (kL K, 40, .inr (.inl (lA (fun _ => 0))))), (b + 9, .inl (kL K, 40, .inr (.inl (lA (fun _ => 0)))))] H := hP
  replace hD : va_D A [(b, .inr (4, [.int (iI 0), .int (iI 0), .ref (b + 1), .ref (b + 2), .ref (b + 3), .ref (b + 4), .ref (b + 5), .ref (b + 6), .ref (b + 7), .ref (b + 8), .null, .long (lI 0), .null, .null, .int (iI 0), .int (iI 0), .int (iI 0), .null, .int (iI 0), .null, .null])), (b + 1, .inl (kI K, 12, .inl (iA (fun _ => 0)))), (b + 2, .inl (kI K, 12, .inl (iA (fun _ => 0)))), (b + 3, .inl (kI K, 12, .inl (iA (fun _ => 0)))), (b + 4, .inl (kI K, 96, .inl (iA (fun _ => 0)))), (b + 5, .inl (kI K, 96, .inl (iA (fun _ => 0)))), (b + 6, .inl (kI K, 10, .inl (iA (fun _ => 0)))), (b + 7, .inl (kI K, 10, .inl (iA (fun _ => 0)))), (b + 8, .inl (kL K, 40, .inr (.inl (lA (fun _ => 0))))), (b + 9, .inl (kL K, 40, .inr (.inl (lA (fun _ => 0)))))] := hD
  refine W.num (c1 := 9) (s1 := 328) rfl rfl ?_
  refine va_putF (D := kD K) (ci := 4) (v := .ref (b + 9)) (ty := .array .long) (C := RM) (T := FM) (N := 21) hx hb hts jnM tM tM_ok nM hown hK hP hD hS 0 rfl rfl 10 (by decide) (hts _ mt_473) (fun _ h9 => h9) rfl hnm rfl (by decide +kernel) rfl rfl (Nat.le_of_ble_eq_true rfl) dM_init_73 ?_
  clear hP hD hS
  intro H locs hP hD hS
  replace hP : va_P (kD K) vcl [(b, .inr (4, [.int (iI 0), .int (iI 0), .ref (b + 1), .ref (b + 2), .ref (b + 3), .ref (b + 4), .ref (b + 5), .ref (b + 6), .ref (b + 7), .ref (b + 8), .ref (b + 9), .long (lI 0), .null, .null, .int (iI 0), .int (iI 0), .int (iI 0), .null, .int (iI 0), .null, .null])), (b + 1, .inl (kI K, 12, .inl (iA (fun _ => 0)))), (b + 2, .inl (kI K, 12, .inl (iA (fun _ => 0)))), (b + 3, .inl (kI K, 12, .inl (iA (fun _ => 0)))), (b + 4, .inl (kI K, 96, .inl (iA (fun _ => 0)))), (b + 5, .inl (kI K, 96, .inl (iA (fun _ => 0)))), (b + 6, .inl (kI K, 10, .inl (iA (fun _ => 0)))), (b + 7, .inl (kI K, 10, .inl (iA (fun _ => 0)))), (b + 8, .inl (kL K, 40, .inr (.inl (lA (fun _ => 0))))), (b + 9, .inl (kL K, 40, .inr (.inl (lA (fun _ => 0)))))] H := hP
  replace hD : va_D A [(b, .inr (4, [.int (iI 0), .int (iI 0), .ref (b + 1), .ref (b + 2), .ref (b + 3), .ref (b + 4), .ref (b + 5), .ref (b + 6), .ref (b + 7), .ref (b + 8), .ref (b + 9), .long (lI 0), .null, .null, .int (iI 0), .int (iI 0), .int (iI 0), .null, .int (iI 0), .null, .null])), (b + 1, .inl (kI K, 12, .inl (iA (fun _ => 0)))), (b + 2, .inl (kI K, 12, .inl (iA (fun _ => 0)))), (b + 3, .inl (kI K, 12, .inl (iA (fun _ => 0)))), (b + 4, .inl (kI K, 96, .inl (iA (fun _ => 0)))), (b + 5, .inl (kI K, 96, .inl (iA (fun _ => 0)))), (b + 6, .inl (kI K, 10, .inl (iA (fun _ => 0)))), (b + 7, .inl (kI K, 10, .inl (iA (fun _ => 0)))), (b + 8, .inl (kL K, 40, .inr (.inl (lA (fun _ => 0))))), (b + 9, .inl (kL K, 40, .inr (.inl (lA (fun _ => 0)))))] := hD
  refine lv_aload_n hx hb dM_init_76 rfl (lv_at hl 0 rfl) ?_
  refine iz_iconst hx hb dM_init_77 ?_
  refine W.sz (fun hs9 => ?_)
  replace hz : H.size = b + 10 := by have h9 : b + 9 < H.size := (hP 9 _ rfl).lt; omega
  clear hs9
  refine iz_newi hx hb hT hK hP hD hS hA 4 rfl (by omega) (Nat.le_of_ble_eq_true rfl) (Nat.le_of_ble_eq_true rfl) (z := b + 10) hz dM_init_78 ?_
  clear hz hP hD hS
  intro H hz hP hD hS
  replace hP : va_P (kD K) vcl [(b, .inr (4, [.int (iI 0), .int (iI 0), .ref (b + 1), .ref (b + 2), .ref (b + 3), .ref (b + 4), .ref (b + 5), .ref (b + 6), .ref (b + 7), .ref (b + 8), .ref (b + 9), .long (lI 0), .null, .null, .int (iI 0), .int (iI 0), .int (iI 0), .null, .int (iI 0), .null, .null])), (b + 1, .inl (kI K, 12, .inl (iA (fun _ => 0)))), (b + 2, .inl (kI K, 12, .inl (iA (fun _ => 0)))), (b + 3, .inl (kI K, 12, .inl (iA (fun _ => 0)))), (b + 4, .inl (kI K, 96, .inl (iA (fun _ => 0)))), (b + 5, .inl (kI K, 96, .inl (iA (fun _ => 0)))), (b + 6, .inl (kI K, 10, .inl (iA (fun _ => 0)))), (b + 7, .inl (kI K, 10, .inl (iA (fun _ => 0)))), (b + 8, .inl (kL K, 40, .inr (.inl (lA (fun _ => 0))))), (b + 9, .inl (kL K, 40, .inr (.inl (lA (fun _ => 0))))), (b + 10, .inl (kI K, 4, .inl (iA (fun _ => 0))))] H := hP
  replace hD : va_D A [(b, .inr (4, [.int (iI 0), .int (iI 0), .ref (b + 1), .ref (b + 2), .ref (b + 3), .ref (b + 4), .ref (b + 5), .ref (b + 6), .ref (b + 7), .ref (b + 8), .ref (b + 9), .long (lI 0), .null, .null, .int (iI 0), .int (iI 0), .int (iI 0), .null, .int (iI 0), .null, .null])), (b + 1, .inl (kI K, 12, .inl (iA (fun _ => 0)))), (b + 2, .inl (kI K, 12, .inl (iA (fun _ => 0)))), (b + 3, .inl (kI K, 12, .inl (iA (fun _ => 0)))), (b + 4, .inl (kI K, 96, .inl (iA (fun _ => 0)))), (b + 5, .inl (kI K, 96, .inl (iA (fun _ => 0)))), (b + 6, .inl (kI K, 10, .inl (iA (fun _ => 0)))), (b + 7, .inl (kI K, 10, .inl (iA (fun _ => 0)))), (b + 8, .inl (kL K, 40, .inr (.inl (lA (fun _ => 0))))), (b + 9, .inl (kL K, 40, .inr (.inl (lA (fun _ => 0))))), (b + 10, .inl (kI K, 4, .inl (iA (fun _ => 0))))] := hD
  refine W.num (c1 := 10) (s1 := 332) rfl rfl ?_
  refine va_putF (D := kD K) (ci := 4) (v := .ref (b + 10)) (ty := .array .int) (C := RM) (T := FM) (N := 21) hx hb hts jnM tM tM_ok nM hown hK hP hD hS 0 rfl rfl 12 (by decide) (hts _ mt_475) (fun _ h9 => h9) rfl hnm rfl (by decide +kernel) rfl rfl (Nat.le_of_ble_eq_true rfl) dM_init_80 ?_
  clear hP hD hS
  intro H locs hP hD hS
  replace hP : va_P (kD K) vcl [(b, .inr (4, [.int (iI 0), .int (iI 0), .ref (b + 1), .ref (b + 2), .ref (b + 3), .ref (b + 4), .ref (b + 5), .ref (b + 6), .ref (b + 7), .ref (b + 8), .ref (b + 9), .long (lI 0), .ref (b + 10), .null, .int (iI 0), .int (iI 0), .int (iI 0), .null, .int (iI 0), .null, .null])), (b + 1, .inl (kI K, 12, .inl (iA (fun _ => 0)))), (b + 2, .inl (kI K, 12, .inl (iA (fun _ => 0)))), (b + 3, .inl (kI K, 12, .inl (iA (fun _ => 0)))), (b + 4, .inl (kI K, 96, .inl (iA (fun _ => 0)))), (b + 5, .inl (kI K, 96, .inl (iA (fun _ => 0)))), (b + 6, .inl (kI K, 10, .inl (iA (fun _ => 0)))), (b + 7, .inl (kI K, 10, .inl (iA (fun _ => 0)))), (b + 8, .inl (kL K, 40, .inr (.inl (lA (fun _ => 0))))), (b + 9, .inl (kL K, 40, .inr (.inl (lA (fun _ => 0))))), (b + 10, .inl (kI K, 4, .inl (iA (fun _ => 0))))] H := hP
  replace hD : va_D A [(b, .inr (4, [.int (iI 0), .int (iI 0), .ref (b + 1), .ref (b + 2), .ref (b + 3), .ref (b + 4), .ref (b + 5), .ref (b + 6), .ref (b + 7), .ref (b + 8), .ref (b + 9), .long (lI 0), .ref (b + 10), .null, .int (iI 0), .int (iI 0), .int (iI 0), .null, .int (iI 0), .null, .null])), (b + 1, .inl (kI K, 12, .inl (iA (fun _ => 0)))), (b + 2, .inl (kI K, 12, .inl (iA (fun _ => 0)))), (b + 3, .inl (kI K, 12, .inl (iA (fun _ => 0)))), (b + 4, .inl (kI K, 96, .inl (iA (fun _ => 0)))), (b + 5, .inl (kI K, 96, .inl (iA (fun _ => 0)))), (b + 6, .inl (kI K, 10, .inl (iA (fun _ => 0)))), (b + 7, .inl (kI K, 10, .inl (iA (fun _ => 0)))), (b + 8, .inl (kL K, 40, .inr (.inl (lA (fun _ => 0))))), (b + 9, .inl (kL K, 40, .inr (.inl (lA (fun _ => 0))))), (b + 10, .inl (kI K, 4, .inl (iA (fun _ => 0))))] := hD
  refine lv_aload_n hx hb dM_init_83 rfl (lv_at hl 0 rfl) ?_
  refine iz_iconst hx hb dM_init_84 ?_
  refine W.sz (fun hs9 => ?_)
  replace hz : H.size = b + 11 := by have h9 : b + 10 < H.size := (hP 10 _ rfl).lt; omega
  clear hs9
  refine iz_newi hx hb hT hK hP hD hS hA 4 rfl (by omega) (Nat.le_of_ble_eq_true rfl) (Nat.le_of_ble_eq_true rfl) (z := b + 11) hz dM_init_85 ?_
  clear hz hP hD hS
  intro H hz hP hD hS
  replace hP : va_P (kD K) vcl [(b, .inr (4, [.int (iI 0), .int (iI 0), .ref (b + 1), .ref (b + 2), .ref (b + 3), .ref (b + 4), .ref (b + 5), .ref (b + 6), .ref (b + 7), .ref (b + 8), .ref (b + 9), .long (lI 0), .ref (b + 10), .null, .int (iI 0), .int (iI 0), .int (iI 0), .null, .int (iI 0), .null, .null])), (b + 1, .inl (kI K, 12, .inl (iA (fun _ => 0)))), (b + 2, .inl (kI K, 12, .inl (iA (fun _ => 0)))), (b + 3, .inl (kI K, 12, .inl (iA (fun _ => 0)))), (b + 4, .inl (kI K, 96, .inl (iA (fun _ => 0)))), (b + 5, .inl (kI K, 96, .inl (iA (fun _ => 0)))), (b + 6, .inl (kI K, 10, .inl (iA (fun _ => 0)))), (b + 7, .inl (kI K, 10, .inl (iA (fun _ => 0)))), (b + 8, .inl (kL K, 40, .inr (.inl (lA (fun _ => 0))))), (b + 9, .inl (kL K, 40, .inr (.inl (lA (fun _ => 0))))), (b + 10, .inl (kI K, 4, .inl (iA (fun _ => 0)))), (b + 11, .inl (kI K, 4, .inl (iA (fun _ => 0))))] H := hP
  replace hD : va_D A [(b, .inr (4, [.int (iI 0), .int (iI 0), .ref (b + 1), .ref (b + 2), .ref (b + 3), .ref (b + 4), .ref (b + 5), .ref (b + 6), .ref (b + 7), .ref (b + 8), .ref (b + 9), .long (lI 0), .ref (b + 10), .null, .int (iI 0), .int (iI 0), .int (iI 0), .null, .int (iI 0), .null, .null])), (b + 1, .inl (kI K, 12, .inl (iA (fun _ => 0)))), (b + 2, .inl (kI K, 12, .inl (iA (fun _ => 0)))), (b + 3, .inl (kI K, 12, .inl (iA (fun _ => 0)))), (b + 4, .inl (kI K, 96, .inl (iA (fun _ => 0)))), (b + 5, .inl (kI K, 96, .inl (iA (fun _ => 0)))), (b + 6, .inl (kI K, 10, .inl (iA (fun _ => 0)))), (b + 7, .inl (kI K, 10, .inl (iA (fun _ => 0)))), (b + 8, .inl (kL K, 40, .inr (.inl (lA (fun _ => 0))))), (b + 9, .inl (kL K, 40, .inr (.inl (lA (fun _ => 0))))), (b + 10, .inl (kI K, 4, .inl (iA (fun _ => 0)))), (b + 11, .inl (kI K, 4, .inl (iA (fun _ => 0))))] := hD
  refine W.num (c1 := 11) (s1 := 336) rfl rfl ?_
  refine va_putF (D := kD K) (ci := 4) (v := .ref (b + 11)) (ty := .array .int) (C := RM) (T := FM) (N := 21) hx hb hts jnM tM tM_ok nM hown hK hP hD hS 0 rfl rfl 13 (by decide) (hts _ mt_476) (fun _ h9 => h9) rfl hnm rfl (by decide +kernel) rfl rfl (Nat.le_of_ble_eq_true rfl) dM_init_87 ?_
  clear hP hD hS
  intro H locs hP hD hS
  replace hP : va_P (kD K) vcl [(b, .inr (4, [.int (iI 0), .int (iI 0), .ref (b + 1), .ref (b + 2), .ref (b + 3), .ref (b + 4), .ref (b + 5), .ref (b + 6), .ref (b + 7), .ref (b + 8), .ref (b + 9), .long (lI 0), .ref (b + 10), .ref (b + 11), .int (iI 0), .int (iI 0), .int (iI 0), .null, .int (iI 0), .null, .null])), (b + 1, .inl (kI K, 12, .inl (iA (fun _ => 0)))), (b + 2, .inl (kI K, 12, .inl (iA (fun _ => 0)))), (b + 3, .inl (kI K, 12, .inl (iA (fun _ => 0)))), (b + 4, .inl (kI K, 96, .inl (iA (fun _ => 0)))), (b + 5, .inl (kI K, 96, .inl (iA (fun _ => 0)))), (b + 6, .inl (kI K, 10, .inl (iA (fun _ => 0)))), (b + 7, .inl (kI K, 10, .inl (iA (fun _ => 0)))), (b + 8, .inl (kL K, 40, .inr (.inl (lA (fun _ => 0))))), (b + 9, .inl (kL K, 40, .inr (.inl (lA (fun _ => 0))))), (b + 10, .inl (kI K, 4, .inl (iA (fun _ => 0)))), (b + 11, .inl (kI K, 4, .inl (iA (fun _ => 0))))] H := hP
  replace hD : va_D A [(b, .inr (4, [.int (iI 0), .int (iI 0), .ref (b + 1), .ref (b + 2), .ref (b + 3), .ref (b + 4), .ref (b + 5), .ref (b + 6), .ref (b + 7), .ref (b + 8), .ref (b + 9), .long (lI 0), .ref (b + 10), .ref (b + 11), .int (iI 0), .int (iI 0), .int (iI 0), .null, .int (iI 0), .null, .null])), (b + 1, .inl (kI K, 12, .inl (iA (fun _ => 0)))), (b + 2, .inl (kI K, 12, .inl (iA (fun _ => 0)))), (b + 3, .inl (kI K, 12, .inl (iA (fun _ => 0)))), (b + 4, .inl (kI K, 96, .inl (iA (fun _ => 0)))), (b + 5, .inl (kI K, 96, .inl (iA (fun _ => 0)))), (b + 6, .inl (kI K, 10, .inl (iA (fun _ => 0)))), (b + 7, .inl (kI K, 10, .inl (iA (fun _ => 0)))), (b + 8, .inl (kL K, 40, .inr (.inl (lA (fun _ => 0))))), (b + 9, .inl (kL K, 40, .inr (.inl (lA (fun _ => 0))))), (b + 10, .inl (kI K, 4, .inl (iA (fun _ => 0)))), (b + 11, .inl (kI K, 4, .inl (iA (fun _ => 0))))] := hD
  refine lv_aload_n hx hb dM_init_90 rfl (lv_at hl 0 rfl) ?_
  refine iz_sipush hx hb dM_init_91 (by decide) ?_
  refine va_put (D := kD K) (ci := 4) (v := .int (iI 10000)) (ty := .int) (C := RM) (T := FM) (N := 21) hx hb hts jnM tM tM_ok nM hown hK hP hD hS 0 rfl rfl 14 (by decide) (hts _ mt_477) (fun _ h9 => h9) rfl (by decide +kernel) rfl rfl (Nat.le_of_ble_eq_true rfl) dM_init_94 ?_
  clear hP hD hS
  intro H locs hP hD hS
  replace hP : va_P (kD K) vcl [(b, .inr (4, [.int (iI 0), .int (iI 0), .ref (b + 1), .ref (b + 2), .ref (b + 3), .ref (b + 4), .ref (b + 5), .ref (b + 6), .ref (b + 7), .ref (b + 8), .ref (b + 9), .long (lI 0), .ref (b + 10), .ref (b + 11), .int (iI 10000), .int (iI 0), .int (iI 0), .null, .int (iI 0), .null, .null])), (b + 1, .inl (kI K, 12, .inl (iA (fun _ => 0)))), (b + 2, .inl (kI K, 12, .inl (iA (fun _ => 0)))), (b + 3, .inl (kI K, 12, .inl (iA (fun _ => 0)))), (b + 4, .inl (kI K, 96, .inl (iA (fun _ => 0)))), (b + 5, .inl (kI K, 96, .inl (iA (fun _ => 0)))), (b + 6, .inl (kI K, 10, .inl (iA (fun _ => 0)))), (b + 7, .inl (kI K, 10, .inl (iA (fun _ => 0)))), (b + 8, .inl (kL K, 40, .inr (.inl (lA (fun _ => 0))))), (b + 9, .inl (kL K, 40, .inr (.inl (lA (fun _ => 0))))), (b + 10, .inl (kI K, 4, .inl (iA (fun _ => 0)))), (b + 11, .inl (kI K, 4, .inl (iA (fun _ => 0))))] H := hP
  replace hD : va_D A [(b, .inr (4, [.int (iI 0), .int (iI 0), .ref (b + 1), .ref (b + 2), .ref (b + 3), .ref (b + 4), .ref (b + 5), .ref (b + 6), .ref (b + 7), .ref (b + 8), .ref (b + 9), .long (lI 0), .ref (b + 10), .ref (b + 11), .int (iI 10000), .int (iI 0), .int (iI 0), .null, .int (iI 0), .null, .null])), (b + 1, .inl (kI K, 12, .inl (iA (fun _ => 0)))), (b + 2, .inl (kI K, 12, .inl (iA (fun _ => 0)))), (b + 3, .inl (kI K, 12, .inl (iA (fun _ => 0)))), (b + 4, .inl (kI K, 96, .inl (iA (fun _ => 0)))), (b + 5, .inl (kI K, 96, .inl (iA (fun _ => 0)))), (b + 6, .inl (kI K, 10, .inl (iA (fun _ => 0)))), (b + 7, .inl (kI K, 10, .inl (iA (fun _ => 0)))), (b + 8, .inl (kL K, 40, .inr (.inl (lA (fun _ => 0))))), (b + 9, .inl (kL K, 40, .inr (.inl (lA (fun _ => 0))))), (b + 10, .inl (kI K, 4, .inl (iA (fun _ => 0)))), (b + 11, .inl (kI K, 4, .inl (iA (fun _ => 0))))] := hD
  refine lv_aload_n hx hb dM_init_97 rfl (lv_at hl 0 rfl) ?_
  refine iz_bipush hx hb dM_init_98 (by decide) ?_
  refine W.sz (fun hs9 => ?_)
  replace hz : H.size = b + 12 := by have h9 : b + 11 < H.size := (hP 11 _ rfl).lt; omega
  clear hs9
  refine iz_newi hx hb hT hK hP hD hS hA 10 rfl (by omega) (Nat.le_of_ble_eq_true rfl) (Nat.le_of_ble_eq_true rfl) (z := b + 12) hz dM_init_100 ?_
  clear hz hP hD hS
  intro H hz hP hD hS
  replace hP : va_P (kD K) vcl [(b, .inr (4, [.int (iI 0), .int (iI 0), .ref (b + 1), .ref (b + 2), .ref (b + 3), .ref (b + 4), .ref (b + 5), .ref (b + 6), .ref (b + 7), .ref (b + 8), .ref (b + 9), .long (lI 0), .ref (b + 10), .ref (b + 11), .int (iI 10000), .int (iI 0), .int (iI 0), .null, .int (iI 0), .null, .null])), (b + 1, .inl (kI K, 12, .inl (iA (fun _ => 0)))), (b + 2, .inl (kI K, 12, .inl (iA (fun _ => 0)))), (b + 3, .inl (kI K, 12, .inl (iA (fun _ => 0)))), (b + 4, .inl (kI K, 96, .inl (iA (fun _ => 0)))), (b + 5, .inl (kI K, 96, .inl (iA (fun _ => 0)))), (b + 6, .inl (kI K, 10, .inl (iA (fun _ => 0)))), (b + 7, .inl (kI K, 10, .inl (iA (fun _ => 0)))), (b + 8, .inl (kL K, 40, .inr (.inl (lA (fun _ => 0))))), (b + 9, .inl (kL K, 40, .inr (.inl (lA (fun _ => 0))))), (b + 10, .inl (kI K, 4, .inl (iA (fun _ => 0)))), (b + 11, .inl (kI K, 4, .inl (iA (fun _ => 0)))), (b + 12, .inl (kI K, 10, .inl (iA (fun _ => 0))))] H := hP
  replace hD : va_D A [(b, .inr (4, [.int (iI 0), .int (iI 0), .ref (b + 1), .ref (b + 2), .ref (b + 3), .ref (b + 4), .ref (b + 5), .ref (b + 6), .ref (b + 7), .ref (b + 8), .ref (b + 9), .long (lI 0), .ref (b + 10), .ref (b + 11), .int (iI 10000), .int (iI 0), .int (iI 0), .null, .int (iI 0), .null, .null])), (b + 1, .inl (kI K, 12, .inl (iA (fun _ => 0)))), (b + 2, .inl (kI K, 12, .inl (iA (fun _ => 0)))), (b + 3, .inl (kI K, 12, .inl (iA (fun _ => 0)))), (b + 4, .inl (kI K, 96, .inl (iA (fun _ => 0)))), (b + 5, .inl (kI K, 96, .inl (iA (fun _ => 0)))), (b + 6, .inl (kI K, 10, .inl (iA (fun _ => 0)))), (b + 7, .inl (kI K, 10, .inl (iA (fun _ => 0)))), (b + 8, .inl (kL K, 40, .inr (.inl (lA (fun _ => 0))))), (b + 9, .inl (kL K, 40, .inr (.inl (lA (fun _ => 0))))), (b + 10, .inl (kI K, 4, .inl (iA (fun _ => 0)))), (b + 11, .inl (kI K, 4, .inl (iA (fun _ => 0)))), (b + 12, .inl (kI K, 10, .inl (iA (fun _ => 0))))] := hD
  refine W.num (c1 := 12) (s1 := 346) rfl rfl ?_
  refine va_putF (D := kD K) (ci := 4) (v := .ref (b + 12)) (ty := .array .int) (C := RM) (T := FM) (N := 21) hx hb hts jnM tM tM_ok nM hown hK hP hD hS 0 rfl rfl 17 (by decide) (hts _ mt_480) (fun _ h9 => h9) rfl hnm rfl (by decide +kernel) rfl rfl (Nat.le_of_ble_eq_true rfl) dM_init_102 ?_
  clear hP hD hS
  intro H locs hP hD hS
  replace hP : va_P (kD K) vcl [(b, .inr (4, [.int (iI 0), .int (iI 0), .ref (b + 1), .ref (b + 2), .ref (b + 3), .ref (b + 4), .ref (b + 5), .ref (b + 6), .ref (b + 7), .ref (b + 8), .ref (b + 9), .long (lI 0), .ref (b + 10), .ref (b + 11), .int (iI 10000), .int (iI 0), .int (iI 0), .ref (b + 12), .int (iI 0), .null, .null])), (b + 1, .inl (kI K, 12, .inl (iA (fun _ => 0)))), (b + 2, .inl (kI K, 12, .inl (iA (fun _ => 0)))), (b + 3, .inl (kI K, 12, .inl (iA (fun _ => 0)))), (b + 4, .inl (kI K, 96, .inl (iA (fun _ => 0)))), (b + 5, .inl (kI K, 96, .inl (iA (fun _ => 0)))), (b + 6, .inl (kI K, 10, .inl (iA (fun _ => 0)))), (b + 7, .inl (kI K, 10, .inl (iA (fun _ => 0)))), (b + 8, .inl (kL K, 40, .inr (.inl (lA (fun _ => 0))))), (b + 9, .inl (kL K, 40, .inr (.inl (lA (fun _ => 0))))), (b + 10, .inl (kI K, 4, .inl (iA (fun _ => 0)))), (b + 11, .inl (kI K, 4, .inl (iA (fun _ => 0)))), (b + 12, .inl (kI K, 10, .inl (iA (fun _ => 0))))] H := hP
  replace hD : va_D A [(b, .inr (4, [.int (iI 0), .int (iI 0), .ref (b + 1), .ref (b + 2), .ref (b + 3), .ref (b + 4), .ref (b + 5), .ref (b + 6), .ref (b + 7), .ref (b + 8), .ref (b + 9), .long (lI 0), .ref (b + 10), .ref (b + 11), .int (iI 10000), .int (iI 0), .int (iI 0), .ref (b + 12), .int (iI 0), .null, .null])), (b + 1, .inl (kI K, 12, .inl (iA (fun _ => 0)))), (b + 2, .inl (kI K, 12, .inl (iA (fun _ => 0)))), (b + 3, .inl (kI K, 12, .inl (iA (fun _ => 0)))), (b + 4, .inl (kI K, 96, .inl (iA (fun _ => 0)))), (b + 5, .inl (kI K, 96, .inl (iA (fun _ => 0)))), (b + 6, .inl (kI K, 10, .inl (iA (fun _ => 0)))), (b + 7, .inl (kI K, 10, .inl (iA (fun _ => 0)))), (b + 8, .inl (kL K, 40, .inr (.inl (lA (fun _ => 0))))), (b + 9, .inl (kL K, 40, .inr (.inl (lA (fun _ => 0))))), (b + 10, .inl (kI K, 4, .inl (iA (fun _ => 0)))), (b + 11, .inl (kI K, 4, .inl (iA (fun _ => 0)))), (b + 12, .inl (kI K, 10, .inl (iA (fun _ => 0))))] := hD
  refine lv_aload_n hx hb dM_init_105 rfl (lv_at hl 0 rfl) ?_
  refine iz_bipush hx hb dM_init_106 (by decide) ?_
  refine W.sz (fun hs9 => ?_)
  replace hz : H.size = b + 13 := by have h9 : b + 12 < H.size := (hP 12 _ rfl).lt; omega
  clear hs9
  refine iz_newi hx hb hT hK hP hD hS hA 10 rfl (by omega) (Nat.le_of_ble_eq_true rfl) (Nat.le_of_ble_eq_true rfl) (z := b + 13) hz dM_init_108 ?_
  clear hz hP hD hS
  intro H hz hP hD hS
  replace hP : va_P (kD K) vcl [(b, .inr (4, [.int (iI 0), .int (iI 0), .ref (b + 1), .ref (b + 2), .ref (b + 3), .ref (b + 4), .ref (b + 5), .ref (b + 6), .ref (b + 7), .ref (b + 8), .ref (b + 9), .long (lI 0), .ref (b + 10), .ref (b + 11), .int (iI 10000), .int (iI 0), .int (iI 0), .ref (b + 12), .int (iI 0), .null, .null])), (b + 1, .inl (kI K, 12, .inl (iA (fun _ => 0)))), (b + 2, .inl (kI K, 12, .inl (iA (fun _ => 0)))), (b + 3, .inl (kI K, 12, .inl (iA (fun _ => 0)))), (b + 4, .inl (kI K, 96, .inl (iA (fun _ => 0)))), (b + 5, .inl (kI K, 96, .inl (iA (fun _ => 0)))), (b + 6, .inl (kI K, 10, .inl (iA (fun _ => 0)))), (b + 7, .inl (kI K, 10, .inl (iA (fun _ => 0)))), (b + 8, .inl (kL K, 40, .inr (.inl (lA (fun _ => 0))))), (b + 9, .inl (kL K, 40, .inr (.inl (lA (fun _ => 0))))), (b + 10, .inl (kI K, 4, .inl (iA (fun _ => 0)))), (b + 11, .inl (kI K, 4, .inl (iA (fun _ => 0)))), (b + 12, .inl (kI K, 10, .inl (iA (fun _ => 0)))), (b + 13, .inl (kI K, 10, .inl (iA (fun _ => 0))))] H := hP
  replace hD : va_D A [(b, .inr (4, [.int (iI 0), .int (iI 0), .ref (b + 1), .ref (b + 2), .ref (b + 3), .ref (b + 4), .ref (b + 5), .ref (b + 6), .ref (b + 7), .ref (b + 8), .ref (b + 9), .long (lI 0), .ref (b + 10), .ref (b + 11), .int (iI 10000), .int (iI 0), .int (iI 0), .ref (b + 12), .int (iI 0), .null, .null])), (b + 1, .inl (kI K, 12, .inl (iA (fun _ => 0)))), (b + 2, .inl (kI K, 12, .inl (iA (fun _ => 0)))), (b + 3, .inl (kI K, 12, .inl (iA (fun _ => 0)))), (b + 4, .inl (kI K, 96, .inl (iA (fun _ => 0)))), (b + 5, .inl (kI K, 96, .inl (iA (fun _ => 0)))), (b + 6, .inl (kI K, 10, .inl (iA (fun _ => 0)))), (b + 7, .inl (kI K, 10, .inl (iA (fun _ => 0)))), (b + 8, .inl (kL K, 40, .inr (.inl (lA (fun _ => 0))))), (b + 9, .inl (kL K, 40, .inr (.inl (lA (fun _ => 0))))), (b + 10, .inl (kI K, 4, .inl (iA (fun _ => 0)))), (b + 11, .inl (kI K, 4, .inl (iA (fun _ => 0)))), (b + 12, .inl (kI K, 10, .inl (iA (fun _ => 0)))), (b + 13, .inl (kI K, 10, .inl (iA (fun _ => 0))))] := hD
  refine W.num (c1 := 13) (s1 := 356) rfl rfl ?_
  refine va_putF (D := kD K) (ci := 4) (v := .ref (b + 13)) (ty := .array .int) (C := RM) (T := FM) (N := 21) hx hb hts jnM tM tM_ok nM hown hK hP hD hS 0 rfl rfl 19 (by decide) (hts _ mt_482) (fun _ h9 => h9) rfl hnm rfl (by decide +kernel) rfl rfl (Nat.le_of_ble_eq_true rfl) dM_init_110 ?_
  clear hP hD hS
  intro H locs hP hD hS
  replace hP : va_P (kD K) vcl [(b, .inr (4, [.int (iI 0), .int (iI 0), .ref (b + 1), .ref (b + 2), .ref (b + 3), .ref (b + 4), .ref (b + 5), .ref (b + 6), .ref (b + 7), .ref (b + 8), .ref (b + 9), .long (lI 0), .ref (b + 10), .ref (b + 11), .int (iI 10000), .int (iI 0), .int (iI 0), .ref (b + 12), .int (iI 0), .ref (b + 13), .null])), (b + 1, .inl (kI K, 12, .inl (iA (fun _ => 0)))), (b + 2, .inl (kI K, 12, .inl (iA (fun _ => 0)))), (b + 3, .inl (kI K, 12, .inl (iA (fun _ => 0)))), (b + 4, .inl (kI K, 96, .inl (iA (fun _ => 0)))), (b + 5, .inl (kI K, 96, .inl (iA (fun _ => 0)))), (b + 6, .inl (kI K, 10, .inl (iA (fun _ => 0)))), (b + 7, .inl (kI K, 10, .inl (iA (fun _ => 0)))), (b + 8, .inl (kL K, 40, .inr (.inl (lA (fun _ => 0))))), (b + 9, .inl (kL K, 40, .inr (.inl (lA (fun _ => 0))))), (b + 10, .inl (kI K, 4, .inl (iA (fun _ => 0)))), (b + 11, .inl (kI K, 4, .inl (iA (fun _ => 0)))), (b + 12, .inl (kI K, 10, .inl (iA (fun _ => 0)))), (b + 13, .inl (kI K, 10, .inl (iA (fun _ => 0))))] H := hP
  replace hD : va_D A [(b, .inr (4, [.int (iI 0), .int (iI 0), .ref (b + 1), .ref (b + 2), .ref (b + 3), .ref (b + 4), .ref (b + 5), .ref (b + 6), .ref (b + 7), .ref (b + 8), .ref (b + 9), .long (lI 0), .ref (b + 10), .ref (b + 11), .int (iI 10000), .int (iI 0), .int (iI 0), .ref (b + 12), .int (iI 0), .ref (b + 13), .null])), (b + 1, .inl (kI K, 12, .inl (iA (fun _ => 0)))), (b + 2, .inl (kI K, 12, .inl (iA (fun _ => 0)))), (b + 3, .inl (kI K, 12, .inl (iA (fun _ => 0)))), (b + 4, .inl (kI K, 96, .inl (iA (fun _ => 0)))), (b + 5, .inl (kI K, 96, .inl (iA (fun _ => 0)))), (b + 6, .inl (kI K, 10, .inl (iA (fun _ => 0)))), (b + 7, .inl (kI K, 10, .inl (iA (fun _ => 0)))), (b + 8, .inl (kL K, 40, .inr (.inl (lA (fun _ => 0))))), (b + 9, .inl (kL K, 40, .inr (.inl (lA (fun _ => 0))))), (b + 10, .inl (kI K, 4, .inl (iA (fun _ => 0)))), (b + 11, .inl (kI K, 4, .inl (iA (fun _ => 0)))), (b + 12, .inl (kI K, 10, .inl (iA (fun _ => 0)))), (b + 13, .inl (kI K, 10, .inl (iA (fun _ => 0))))] := hD
  refine lv_aload_n hx hb dM_init_113 rfl (lv_at hl 0 rfl) ?_
  refine iz_bipush hx hb dM_init_114 (by decide) ?_
  refine W.sz (fun hs9 => ?_)
  replace hz : H.size = b + 14 := by have h9 : b + 13 < H.size := (hP 13 _ rfl).lt; omega
  clear hs9
  refine iz_newi hx hb hT hK hP hD hS hA 10 rfl (by omega) (Nat.le_of_ble_eq_true rfl) (Nat.le_of_ble_eq_true rfl) (z := b + 14) hz dM_init_116 ?_
  clear hz hP hD hS
  intro H hz hP hD hS
  replace hP : va_P (kD K) vcl [(b, .inr (4, [.int (iI 0), .int (iI 0), .ref (b + 1), .ref (b + 2), .ref (b + 3), .ref (b + 4), .ref (b + 5), .ref (b + 6), .ref (b + 7), .ref (b + 8), .ref (b + 9), .long (lI 0), .ref (b + 10), .ref (b + 11), .int (iI 10000), .int (iI 0), .int (iI 0), .ref (b + 12), .int (iI 0), .ref (b + 13), .null])), (b + 1, .inl (kI K, 12, .inl (iA (fun _ => 0)))), (b + 2, .inl (kI K, 12, .inl (iA (fun _ => 0)))), (b + 3, .inl (kI K, 12, .inl (iA (fun _ => 0)))), (b + 4, .inl (kI K, 96, .inl (iA (fun _ => 0)))), (b + 5, .inl (kI K, 96, .inl (iA (fun _ => 0)))), (b + 6, .inl (kI K, 10, .inl (iA (fun _ => 0)))), (b + 7, .inl (kI K, 10, .inl (iA (fun _ => 0)))), (b + 8, .inl (kL K, 40, .inr (.inl (lA (fun _ => 0))))), (b + 9, .inl (kL K, 40, .inr (.inl (lA (fun _ => 0))))), (b + 10, .inl (kI K, 4, .inl (iA (fun _ => 0)))), (b + 11, .inl (kI K, 4, .inl (iA (fun _ => 0)))), (b + 12, .inl (kI K, 10, .inl (iA (fun _ => 0)))), (b + 13, .inl (kI K, 10, .inl (iA (fun _ => 0)))), (b + 14, .inl (kI K, 10, .inl (iA (fun _ => 0))))] H := hP
  replace hD : va_D A [(b, .inr (4, [.int (iI 0), .int (iI 0), .ref (b + 1), .ref (b + 2), .ref (b + 3), .ref (b + 4), .ref (b + 5), .ref (b + 6), .ref (b + 7), .ref (b + 8), .ref (b + 9), .long (lI 0), .ref (b + 10), .ref (b + 11), .int (iI 10000), .int (iI 0), .int (iI 0), .ref (b + 12), .int (iI 0), .ref (b + 13), .null])), (b + 1, .inl (kI K, 12, .inl (iA (fun _ => 0)))), (b + 2, .inl (kI K, 12, .inl (iA (fun _ => 0)))), (b + 3, .inl (kI K, 12, .inl (iA (fun _ => 0)))), (b + 4, .inl (kI K, 96, .inl (iA (fun _ => 0)))), (b + 5, .inl (kI K, 96, .inl (iA (fun _ => 0)))), (b + 6, .inl (kI K, 10, .inl (iA (fun _ => 0)))), (b + 7, .inl (kI K, 10, .inl (iA (fun _ => 0)))), (b + 8, .inl (kL K, 40, .inr (.inl (lA (fun _ => 0))))), (b + 9, .inl (kL K, 40, .inr (.inl (lA (fun _ => 0))))), (b + 10, .inl (kI K, 4, .inl (iA (fun _ => 0)))), (b + 11, .inl (kI K, 4, .inl (iA (fun _ => 0)))), (b + 12, .inl (kI K, 10, .inl (iA (fun _ => 0)))), (b + 13, .inl (kI K, 10, .inl (iA (fun _ => 0)))), (b + 14, .inl (kI K, 10, .inl (iA (fun _ => 0))))] := hD
  refine W.num (c1 := 14) (s1 := 366) rfl rfl ?_
  refine va_putF (D := kD K) (ci := 4) (v := .ref (b + 14)) (ty := .array .int) (C := RM) (T := FM) (N := 21) hx hb hts jnM tM tM_ok nM hown hK hP hD hS 0 rfl rfl 20 (by decide) (hts _ mt_483) (fun _ h9 => h9) rfl hnm rfl (by decide +kernel) rfl rfl (Nat.le_of_ble_eq_true rfl) dM_init_118 ?_
  clear hP hD hS
  intro H locs hP hD hS
  replace hP : va_P (kD K) vcl [(b, .inr (4, [.int (iI 0), .int (iI 0), .ref (b + 1), .ref (b + 2), .ref (b + 3), .ref (b + 4), .ref (b + 5), .ref (b + 6), .ref (b + 7), .ref (b + 8), .ref (b + 9), .long (lI 0), .ref (b + 10), .ref (b + 11), .int (iI 10000), .int (iI 0), .int (iI 0), .ref (b + 12), .int (iI 0), .ref (b + 13), .ref (b + 14)])), (b + 1, .inl (kI K, 12, .inl (iA (fun _ => 0)))), (b + 2, .inl (kI K, 12, .inl (iA (fun _ => 0)))), (b + 3, .inl (kI K, 12, .inl (iA (fun _ => 0)))), (b + 4, .inl (kI K, 96, .inl (iA (fun _ => 0)))), (b + 5, .inl (kI K, 96, .inl (iA (fun _ => 0)))), (b + 6, .inl (kI K, 10, .inl (iA (fun _ => 0)))), (b + 7, .inl (kI K, 10, .inl (iA (fun _ => 0)))), (b + 8, .inl (kL K, 40, .inr (.inl (lA (fun _ => 0))))), (b + 9, .inl (kL K, 40, .inr (.inl (lA (fun _ => 0))))), (b + 10, .inl (kI K, 4, .inl (iA (fun _ => 0)))), (b + 11, .inl (kI K, 4, .inl (iA (fun _ => 0)))), (b + 12, .inl (kI K, 10, .inl (iA (fun _ => 0)))), (b + 13, .inl (kI K, 10, .inl (iA (fun _ => 0)))), (b + 14, .inl (kI K, 10, .inl (iA (fun _ => 0))))] H := hP
  replace hD : va_D A [(b, .inr (4, [.int (iI 0), .int (iI 0), .ref (b + 1), .ref (b + 2), .ref (b + 3), .ref (b + 4), .ref (b + 5), .ref (b + 6), .ref (b + 7), .ref (b + 8), .ref (b + 9), .long (lI 0), .ref (b + 10), .ref (b + 11), .int (iI 10000), .int (iI 0), .int (iI 0), .ref (b + 12), .int (iI 0), .ref (b + 13), .ref (b + 14)])), (b + 1, .inl (kI K, 12, .inl (iA (fun _ => 0)))), (b + 2, .inl (kI K, 12, .inl (iA (fun _ => 0)))), (b + 3, .inl (kI K, 12, .inl (iA (fun _ => 0)))), (b + 4, .inl (kI K, 96, .inl (iA (fun _ => 0)))), (b + 5, .inl (kI K, 96, .inl (iA (fun _ => 0)))), (b + 6, .inl (kI K, 10, .inl (iA (fun _ => 0)))), (b + 7, .inl (kI K, 10, .inl (iA (fun _ => 0)))), (b + 8, .inl (kL K, 40, .inr (.inl (lA (fun _ => 0))))), (b + 9, .inl (kL K, 40, .inr (.inl (lA (fun _ => 0))))), (b + 10, .inl (kI K, 4, .inl (iA (fun _ => 0)))), (b + 11, .inl (kI K, 4, .inl (iA (fun _ => 0)))), (b + 12, .inl (kI K, 10, .inl (iA (fun _ => 0)))), (b + 13, .inl (kI K, 10, .inl (iA (fun _ => 0)))), (b + 14, .inl (kI K, 10, .inl (iA (fun _ => 0))))] := hD
  refine W.sz (fun hs9 => ?_)
  replace hz : H.size = b + 15 := by have h9 : b + 14 < H.size := (hP 14 _ rfl).lt; omega
  clear hs9
  rw [hQ]
  exact iz_vret hx hb hr hlocks (⟨hz, hP⟩) hS.2.2 dM_init_121
abbrev rmM_thrown : Room := { frames := 0, cells := 0, slots := 0, locals := 0 }
set_option maxHeartbeats 4000000 in
set_option maxRecDepth 100000 in
/-- thrown() -/
theorem c_M_thrown (l : Launch) (K : KG) (b : Nat) (cd : Int) (wn : Nat) (ar oc lc st tk wa pk mu pr : Nat → Int) (co : Int) (cn bs : Nat → Int) (ln cu : Int) (pn : Nat) (le : Nat → Int) (bc : Int) (bb ld : Nat → Int) : Ct l yM_thrown kM_thrown rmM_thrown (PC K [.ref b] (fun H => va_P (kD K) vcl (mdW K b cd wn ar oc lc st tk wa pk mu pr co cn bs ln cu pn le bc bb ld) H)) (QI (fun r _ => r = cd)) (fun _ => False) := by
  refine ct_of (by decide) (Or.inl ⟨rfl, rfl⟩) ?_
  intro p e s m args below meth c B0 hP0
  obtain ⟨hx, hb, hr, hml, hown, hlocks, hnm, htab⟩ := B0
  obtain ⟨ha, ⟨hT, hK⟩, hB⟩ := hP0
  have hl := lv_entry ([.ref b]) (n := 1) (Nat.le_of_ble_eq_true rfl)
  obtain ⟨Q, hQ⟩ : ∃ Q, Q = XQ below (QI (fun r _ => r = cd)) args s rmM_thrown.cells rmM_thrown.slots (fun _ => False) := ⟨_, rfl⟩
  rw [← hQ, ha, lg_entry_eq]
  rw [ha] at hQ
  generalize (lg_sl ([.ref b]) ++ List.replicate (1 - (lg_sl ([.ref b])).length) Slot.unset).toArray = ls at hl ⊢
  generalize ([.ref b] : List Value).toArray = args at hQ ⊢
  have hts : ∀ w ∈ TW, w.before args s = true := fun w h => hT w h args
  have hl : lv_has ls 1 [(0, .ref b)] := hl
  obtain ⟨A, hAe⟩ : ∃ A : Addr → Prop, A = (fun _ => False) := ⟨_, rfl⟩
  rw [← hAe] at hQ
  have hS : va_S A s.heap s.heap [] := va_S.rf
  have hP : va_P (kD K) vcl [(b, .inr (4, [.int (iI cd), .int (iI (wn : Int)), .ref (b + 1), .ref (b + 2), .ref (b + 3), .ref (b + 4), .ref (b + 5), .ref (b + 6), .ref (b + 7), .ref (b + 8), .ref (b + 9), .long (lI co), .ref (b + 10), .ref (b + 11), .int (iI ln), .int (iI cu), .int (iI (pn : Int)), .ref (b + 12), .int (iI bc), .ref (b + 13), .ref (b + 14)])), (b + 1, .inl (kI K, 12, .inl (iA ar))), (b + 2, .inl (kI K, 12, .inl (iA oc))), (b + 3, .inl (kI K, 12, .inl (iA lc))), (b + 4, .inl (kI K, 96, .inl (iA st))), (b + 5, .inl (kI K, 96, .inl (iA tk))), (b + 6, .inl (kI K, 10, .inl (iA wa))), (b + 7, .inl (kI K, 10, .inl (iA pk))), (b + 8, .inl (kL K, 40, .inr (.inl (lA mu)))), (b + 9, .inl (kL K, 40, .inr (.inl (lA pr)))), (b + 10, .inl (kI K, 4, .inl (iA cn))), (b + 11, .inl (kI K, 4, .inl (iA bs))), (b + 12, .inl (kI K, 10, .inl (iA le))), (b + 13, .inl (kI K, 10, .inl (iA bb))), (b + 14, .inl (kI K, 10, .inl (iA ld)))] s.heap := hB
  refine lv_aload_n hx hb dM_thrown_0 rfl (lv_at hl 0 rfl) ?_
  refine va_get (D := kD K) (ci := 4) (v := .int (iI cd)) (C := RM) (T := FM) (N := 21) hx hb hts jnM hown hK hP 0 rfl rfl 0 (by decide) (hts _ mt_463) (fun _ h9 => h9) rfl dM_thrown_1 ?_
  rw [hQ]
  exact iz_iret hx hb hr hlocks (rfl) (fun _ h => absurd h List.not_mem_nil) dM_thrown_4
abbrev rmM_isIn : Room := { frames := 0, cells := 0, slots := 0, locals := 0 }
set_option maxHeartbeats 4000000 in
set_option maxRecDepth 100000 in
/-- isIn(v, least, most) -/
theorem c_M_isIn (l : Launch) (K : KG) (v lo hi : Int) (h1 : r64 v) (h2 : r64 lo) (h3 : r64 hi) : Ct l yM_isIn kM_isIn rmM_isIn (PC K [.long (lI v), .long (lI lo), .long (lI hi)] (fun H => True)) (QI (fun r _ => (r = 1 ∧ lo ≤ v ∧ v ≤ hi) ∨ (r = 0 ∧ ¬ (lo ≤ v ∧ v ≤ hi)))) (fun _ => False) := by
  refine ct_of (by decide) (Or.inl ⟨rfl, rfl⟩) ?_
  intro p e s m args below meth c B0 hP0
  obtain ⟨hx, hb, hr, hml, hown, hlocks, hnm, htab⟩ := B0
  obtain ⟨ha, ⟨hT, hK⟩, hB⟩ := hP0
  have hl := lv_entry ([.long (lI v), .long (lI lo), .long (lI hi)]) (n := 6) (Nat.le_of_ble_eq_true rfl)
  obtain ⟨Q, hQ⟩ : ∃ Q, Q = XQ below (QI (fun r _ => (r = 1 ∧ lo ≤ v ∧ v ≤ hi) ∨ (r = 0 ∧ ¬ (lo ≤ v ∧ v ≤ hi)))) args s rmM_isIn.cells rmM_isIn.slots (fun _ => False) := ⟨_, rfl⟩
  rw [← hQ, ha, lg_entry_eq]
  rw [ha] at hQ
  generalize (lg_sl ([.long (lI v), .long (lI lo), .long (lI hi)]) ++ List.replicate (6 - (lg_sl ([.long (lI v), .long (lI lo), .long (lI hi)])).length) Slot.unset).toArray = ls at hl ⊢
  generalize ([.long (lI v), .long (lI lo), .long (lI hi)] : List Value).toArray = args at hQ ⊢
  have hts : ∀ w ∈ TW, w.before args s = true := fun w h => hT w h args
  have hl : lv_has ls 6 [(0, .long (lI v)), (2, .long (lI lo)), (4, .long (lI hi))] := hl
  obtain ⟨A, hAe⟩ : ∃ A : Addr → Prop, A = (fun _ => False) := ⟨_, rfl⟩
  rw [← hAe] at hQ
  have hS : va_S A s.heap s.heap [] := va_S.rf
  refine lv_lload_n hx hb dM_isIn_0 rfl (lv_at hl 0 rfl) ?_
  refine lv_lload_n hx hb dM_isIn_1 rfl (lv_at hl 1 rfl) ?_
  refine iz_lc_lt (tgt := 17) hx hb ⟨by omega, by omega⟩ ⟨by omega, by omega⟩ dM_isIn_2 dM_isIn_3 (by decide) (fun g1 => ?_) (fun g1 => ?_)
  · refine iz_iconst hx hb dM_isIn_17 ?_
    rw [hQ]
    exact iz_zret hx hb hr hlocks (Or.inl rfl) (Or.inr ⟨rfl, by omega⟩) (fun _ h => absurd h List.not_mem_nil) dM_isIn_18
  · refine lv_lload_n hx hb dM_isIn_6 rfl (lv_at hl 0 rfl) ?_
    refine lv_lload hx hb dM_isIn_7 (lv_at hl 2 rfl) ?_
    refine iz_lc_gt (tgt := 17) hx hb ⟨by omega, by omega⟩ ⟨by omega, by omega⟩ dM_isIn_9 dM_isIn_10 (by decide) (fun g2 => ?_) (fun g2 => ?_)
    · refine iz_iconst hx hb dM_isIn_17 ?_
      rw [hQ]
      exact iz_zret hx hb hr hlocks (Or.inl rfl) (Or.inr ⟨rfl, by omega⟩) (fun _ h => absurd h List.not_mem_nil) dM_isIn_18
    · refine iz_iconst hx hb dM_isIn_13 ?_
      refine lv_goto (tgt := 18) hx hb dM_isIn_14 (by decide) ?_
      rw [hQ]
      exact iz_zret hx hb hr hlocks (Or.inr rfl) (Or.inl ⟨rfl, by omega⟩) (fun _ h => absurd h List.not_mem_nil) dM_isIn_18
abbrev rmM_isStuff : Room := { frames := 1, cells := 0, slots := 0, locals := 30 }
set_option maxHeartbeats 4000000 in
set_option maxRecDepth 100000 in
/-- isStuff(s) -/
theorem c_M_isStuff (l : Launch) (K : KG) (v : Int) (h1 : r32 v) : Ct l yM_isStuff kM_isStuff rmM_isStuff (PC K [.int (iI v)] (fun H => True)) (QI (fun r _ => (r = 1 ∧ 0 ≤ v ∧ v ≤ 9) ∨ (r = 0 ∧ ¬ (0 ≤ v ∧ v ≤ 9)))) (fun _ => False) := by
  refine ct_of (by decide) (Or.inl ⟨rfl, rfl⟩) ?_
  intro p e s m args below meth c B0 hP0
  obtain ⟨hx, hb, hr, hml, hown, hlocks, hnm, htab⟩ := B0
  obtain ⟨ha, ⟨hT, hK⟩, hB⟩ := hP0
  have hl := lv_entry ([.int (iI v)]) (n := 1) (Nat.le_of_ble_eq_true rfl)
  obtain ⟨Q, hQ⟩ : ∃ Q, Q = XQ below (QI (fun r _ => (r = 1 ∧ 0 ≤ v ∧ v ≤ 9) ∨ (r = 0 ∧ ¬ (0 ≤ v ∧ v ≤ 9)))) args s rmM_isStuff.cells rmM_isStuff.slots (fun _ => False) := ⟨_, rfl⟩
  rw [← hQ, ha, lg_entry_eq]
  rw [ha] at hQ
  generalize (lg_sl ([.int (iI v)]) ++ List.replicate (1 - (lg_sl ([.int (iI v)])).length) Slot.unset).toArray = ls at hl ⊢
  generalize ([.int (iI v)] : List Value).toArray = args at hQ ⊢
  have hts : ∀ w ∈ TW, w.before args s = true := fun w h => hT w h args
  have hl : lv_has ls 1 [(0, .int (iI v))] := hl
  obtain ⟨A, hAe⟩ : ∃ A : Addr → Prop, A = (fun _ => False) := ⟨_, rfl⟩
  rw [← hAe] at hQ
  have hS : va_S A s.heap s.heap [] := va_S.rf
  refine lv_iload_n hx hb dM_isStuff_0 rfl (lv_at hl 0 rfl) ?_
  refine iz_i2l hx hb ⟨by omega, by omega⟩ dM_isStuff_1 ?_
  refine iz_lconst hx hb 0 rfl dM_isStuff_2 ?_
  refine iz_ldc2 hx hb (9) (by decide) hown (hts _ mt_555) dM_isStuff_3 ?_
  refine ctS (n := 3) hx hb hml hown hT ⟨c_M_isIn l K v 0 9 ⟨by omega, by omega⟩ ⟨by omega, by omega⟩ ⟨by omega, by omega⟩, ⟨_, _, _, Or.inl ⟨rfl, rfl⟩⟩, mt_539, mt_5, by decide, by decide +kernel, by decide, by decide, by decide, by decide⟩ PC.blind mt_537 mt_538 (As := [.long (lI v), .long (lI 0), .long (lI 9)]) (rest := []) rfl (PC.at ⟨hT, hK⟩ trivial) hl.1 rfl (Nat.le_of_ble_eq_true rfl) dM_isStuff_6 (krI0 rfl rfl (fun _ h => h) (fun r g1 => ?_))
  rcases g1 with ⟨rfl, g1⟩ | ⟨rfl, g1⟩
  · rw [hQ]
    exact iz_zret hx hb hr hlocks (Or.inr rfl) (Or.inl ⟨rfl, by omega⟩) (fun _ h => absurd h List.not_mem_nil) dM_isStuff_9
  · rw [hQ]
    exact iz_zret hx hb hr hlocks (Or.inl rfl) (Or.inr ⟨rfl, by omega⟩) (fun _ h => absurd h List.not_mem_nil) dM_isStuff_9
abbrev rmM_isWall : Room := { frames := 1, cells := 0, slots := 0, locals := 30 }
set_option maxHeartbeats 4000000 in
set_option maxRecDepth 100000 in
/-- isWall(w) -/
theorem c_M_isWall (l : Launch) (K : KG) (b : Nat) (cd : Int) (wn : Nat) (ar oc lc st tk wa pk mu pr : Nat → Int) (co : Int) (cn bs : Nat → Int) (ln cu : Int) (pn : Nat) (le : Nat → Int) (bc : Int) (bb ld : Nat → Int) (v : Int) (h1 : r32 v) (hn : wn ≤ 12) : Ct l yM_isWall kM_isWall rmM_isWall (PC K [.ref b, .int (iI v)] (fun H => va_P (kD K) vcl (mdW K b cd wn ar oc lc st tk wa pk mu pr co cn bs ln cu pn le bc bb ld) H)) (QI (fun r _ => (r = 1 ∧ 0 ≤ v ∧ v ≤ (wn : Int) - 1) ∨ (r = 0 ∧ ¬ (0 ≤ v ∧ v ≤ (wn : Int) - 1)))) (fun _ => False) := by
  refine ct_of (by decide) (Or.inl ⟨rfl, rfl⟩) ?_
  intro p e s m args below meth c B0 hP0
  obtain ⟨hx, hb, hr, hml, hown, hlocks, hnm, htab⟩ := B0
  obtain ⟨ha, ⟨hT, hK⟩, hB⟩ := hP0
  have hl := lv_entry ([.ref b, .int (iI v)]) (n := 2) (Nat.le_of_ble_eq_true rfl)
  obtain ⟨Q, hQ⟩ : ∃ Q, Q = XQ below (QI (fun r _ => (r = 1 ∧ 0 ≤ v ∧ v ≤ (wn : Int) - 1) ∨ (r = 0 ∧ ¬ (0 ≤ v ∧ v ≤ (wn : Int) - 1)))) args s rmM_isWall.cells rmM_isWall.slots (fun _ => False) := ⟨_, rfl⟩
  rw [← hQ, ha, lg_entry_eq]
  rw [ha] at hQ
  generalize (lg_sl ([.ref b, .int (iI v)]) ++ List.replicate (2 - (lg_sl ([.ref b, .int (iI v)])).length) Slot.unset).toArray = ls at hl ⊢
  generalize ([.ref b, .int (iI v)] : List Value).toArray = args at hQ ⊢
  have hts : ∀ w ∈ TW, w.before args s = true := fun w h => hT w h args
  have hl : lv_has ls 2 [(0, .ref b), (1, .int (iI v))] := hl
  obtain ⟨A, hAe⟩ : ∃ A : Addr → Prop, A = (fun _ => False) := ⟨_, rfl⟩
  rw [← hAe] at hQ
  have hS : va_S A s.heap s.heap [] := va_S.rf
  have hP : va_P (kD K) vcl [(b, .inr (4, [.int (iI cd), .int (iI (wn : Int)), .ref (b + 1), .ref (b + 2), .ref (b + 3), .ref (b + 4), .ref (b + 5), .ref (b + 6), .ref (b + 7), .ref (b + 8), .ref (b + 9), .long (lI co), .ref (b + 10), .ref (b + 11), .int (iI ln), .int (iI cu), .int (iI (pn : Int)), .ref (b + 12), .int (iI bc), .ref (b + 13), .ref (b + 14)])), (b + 1, .inl (kI K, 12, .inl (iA ar))), (b + 2, .inl (kI K, 12, .inl (iA oc))), (b + 3, .inl (kI K, 12, .inl (iA lc))), (b + 4, .inl (kI K, 96, .inl (iA st))), (b + 5, .inl (kI K, 96, .inl (iA tk))), (b + 6, .inl (kI K, 10, .inl (iA wa))), (b + 7, .inl (kI K, 10, .inl (iA pk))), (b + 8, .inl (kL K, 40, .inr (.inl (lA mu)))), (b + 9, .inl (kL K, 40, .inr (.inl (lA pr)))), (b + 10, .inl (kI K, 4, .inl (iA cn))), (b + 11, .inl (kI K, 4, .inl (iA bs))), (b + 12, .inl (kI K, 10, .inl (iA le))), (b + 13, .inl (kI K, 10, .inl (iA bb))), (b + 14, .inl (kI K, 10, .inl (iA ld)))] s.heap := hB
  refine lv_iload_n hx hb dM_isWall_0 rfl (lv_at hl 1 rfl) ?_
  refine iz_i2l hx hb ⟨by omega, by omega⟩ dM_isWall_1 ?_
  refine iz_lconst hx hb 0 rfl dM_isWall_2 ?_
  refine lv_aload_n hx hb dM_isWall_3 rfl (lv_at hl 0 rfl) ?_
  refine va_get (D := kD K) (ci := 4) (v := .int (iI (wn : Int))) (C := RM) (T := FM) (N := 21) hx hb hts jnM hown hK hP 0 rfl rfl 1 (by decide) (hts _ mt_464) (fun _ h9 => h9) rfl dM_isWall_4 ?_
  refine iz_iconst hx hb dM_isWall_7 ?_
  refine iz_isub hx hb dM_isWall_8 ?_
  refine iz_i2l hx hb ⟨by omega, by omega⟩ dM_isWall_9 ?_
  refine ctS (n := 3) hx hb hml hown hT ⟨c_M_isIn l K v 0 ((wn : Int) - 1) ⟨by omega, by omega⟩ ⟨by omega, by omega⟩ ⟨by omega, by omega⟩, ⟨_, _, _, Or.inl ⟨rfl, rfl⟩⟩, mt_539, mt_5, by decide, by decide +kernel, by decide, by decide, by decide, by decide⟩ PC.blind mt_537 mt_538 (As := [.long (lI v), .long (lI 0), .long (lI ((wn : Int) - 1))]) (rest := []) rfl (PC.at ⟨hT, hK⟩ trivial) hl.1 rfl (Nat.le_of_ble_eq_true rfl) dM_isWall_10 (krI0 rfl rfl (fun _ h => h) (fun r g1 => ?_))
  rcases g1 with ⟨rfl, g1⟩ | ⟨rfl, g1⟩
  · rw [hQ]
    exact iz_zret hx hb hr hlocks (Or.inr rfl) (Or.inl ⟨rfl, by omega⟩) (fun _ h => absurd h List.not_mem_nil) dM_isWall_13
  · rw [hQ]
    exact iz_zret hx hb hr hlocks (Or.inl rfl) (Or.inr ⟨rfl, by omega⟩) (fun _ h => absurd h List.not_mem_nil) dM_isWall_13
abbrev rmM_wall : Room := { frames := 2, cells := 0, slots := 0, locals := 60 }
set_option maxHeartbeats 4000000 in
set_option maxRecDepth 100000 in
/-- wall(length, height) -/
theorem c_M_wall (l : Launch) (K : KG) (b : Nat) (cd : Int) (wn : Nat) (ar oc lc st tk wa pk mu pr : Nat → Int) (co : Int) (cn bs : Nat → Int) (ln cu : Int) (pn : Nat) (le : Nat → Int) (bc : Int) (bb ld : Nat → Int) (x1 x2 : Int) (h1 : r32 x1) (h2 : r32 x2) (hn : wn ≤ 12) : Ct l yM_wall kM_wall rmM_wall (PC K [.ref b, .int (iI x1), .int (iI x2)] (fun H => va_P (kD K) vcl (mdW K b cd wn ar oc lc st tk wa pk mu pr co cn bs ln cu pn le bc bb ld) H)) (QI (fun r H => (¬ ((1 ≤ x1 ∧ x1 ≤ 1000) ∧ (1 ≤ x2 ∧ x2 ≤ 1000)) ∧ va_P (kD K) vcl (mdW K b 1 wn ar oc lc st tk wa pk mu pr co cn bs ln cu pn le bc bb ld) H) ∨ (((1 ≤ x1 ∧ x1 ≤ 1000) ∧ (1 ≤ x2 ∧ x2 ≤ 1000)) ∧ ¬ (wn < 12) ∧ va_P (kD K) vcl (mdW K b 2 wn ar oc lc st tk wa pk mu pr co cn bs ln cu pn le bc bb ld) H) ∨ (((1 ≤ x1 ∧ x1 ≤ 1000) ∧ (1 ≤ x2 ∧ x2 ≤ 1000)) ∧ (wn < 12) ∧ r = wn ∧ va_P (kD K) vcl (mdW K b 0 (wn + 1) (ut ar wn (x1 * x2)) oc lc st tk wa pk mu pr co cn bs ln cu pn le bc bb ld) H))) (fun x => b ≤ x ∧ x < b + 15) := by
  refine ct_of (by decide) (Or.inl ⟨rfl, rfl⟩) ?_
  intro p e s m args below meth c B0 hP0
  obtain ⟨hx, hb, hr, hml, hown, hlocks, hnm, htab⟩ := B0
  obtain ⟨ha, ⟨hT, hK⟩, hB⟩ := hP0
  have hl := lv_entry ([.ref b, .int (iI x1), .int (iI x2)]) (n := 3) (Nat.le_of_ble_eq_true rfl)
  obtain ⟨Q, hQ⟩ : ∃ Q, Q = XQ below (QI (fun r H => (¬ ((1 ≤ x1 ∧ x1 ≤ 1000) ∧ (1 ≤ x2 ∧ x2 ≤ 1000)) ∧ va_P (kD K) vcl (mdW K b 1 wn ar oc lc st tk wa pk mu pr co cn bs ln cu pn le bc bb ld) H) ∨ (((1 ≤ x1 ∧ x1 ≤ 1000) ∧ (1 ≤ x2 ∧ x2 ≤ 1000)) ∧ ¬ (wn < 12) ∧ va_P (kD K) vcl (mdW K b 2 wn ar oc lc st tk wa pk mu pr co cn bs ln cu pn le bc bb ld) H) ∨ (((1 ≤ x1 ∧ x1 ≤ 1000) ∧ (1 ≤ x2 ∧ x2 ≤ 1000)) ∧ (wn < 12) ∧ r = wn ∧ va_P (kD K) vcl (mdW K b 0 (wn + 1) (ut ar wn (x1 * x2)) oc lc st tk wa pk mu pr co cn bs ln cu pn le bc bb ld) H))) args s rmM_wall.cells rmM_wall.slots (fun x => b ≤ x ∧ x < b + 15) := ⟨_, rfl⟩
  rw [← hQ, ha, lg_entry_eq]
  rw [ha] at hQ
  generalize (lg_sl ([.ref b, .int (iI x1), .int (iI x2)]) ++ List.replicate (3 - (lg_sl ([.ref b, .int (iI x1), .int (iI x2)])).length) Slot.unset).toArray = ls at hl ⊢
  generalize ([.ref b, .int (iI x1), .int (iI x2)] : List Value).toArray = args at hQ ⊢
  have hts : ∀ w ∈ TW, w.before args s = true := fun w h => hT w h args
  have hl : lv_has ls 3 [(0, .ref b), (1, .int (iI x1)), (2, .int (iI x2))] := hl
  obtain ⟨A, hAe⟩ : ∃ A : Addr → Prop, A = (fun x => b ≤ x ∧ x < b + 15) := ⟨_, rfl⟩
  rw [← hAe] at hQ
  have hS : va_S A s.heap s.heap [] := va_S.rf
  have hP : va_P (kD K) vcl [(b, .inr (4, [.int (iI cd), .int (iI (wn : Int)), .ref (b + 1), .ref (b + 2), .ref (b + 3), .ref (b + 4), .ref (b + 5), .ref (b + 6), .ref (b + 7), .ref (b + 8), .ref (b + 9), .long (lI co), .ref (b + 10), .ref (b + 11), .int (iI ln), .int (iI cu), .int (iI (pn : Int)), .ref (b + 12), .int (iI bc), .ref (b + 13), .ref (b + 14)])), (b + 1, .inl (kI K, 12, .inl (iA ar))), (b + 2, .inl (kI K, 12, .inl (iA oc))), (b + 3, .inl (kI K, 12, .inl (iA lc))), (b + 4, .inl (kI K, 96, .inl (iA st))), (b + 5, .inl (kI K, 96, .inl (iA tk))), (b + 6, .inl (kI K, 10, .inl (iA wa))), (b + 7, .inl (kI K, 10, .inl (iA pk))), (b + 8, .inl (kL K, 40, .inr (.inl (lA mu)))), (b + 9, .inl (kL K, 40, .inr (.inl (lA pr)))), (b + 10, .inl (kI K, 4, .inl (iA cn))), (b + 11, .inl (kI K, 4, .inl (iA bs))), (b + 12, .inl (kI K, 10, .inl (iA le))), (b + 13, .inl (kI K, 10, .inl (iA bb))), (b + 14, .inl (kI K, 10, .inl (iA ld)))] s.heap := hB
  have hD : va_D A [(b, .inr (4, [.int (iI cd), .int (iI (wn : Int)), .ref (b + 1), .ref (b + 2), .ref (b + 3), .ref (b + 4), .ref (b + 5), .ref (b + 6), .ref (b + 7), .ref (b + 8), .ref (b + 9), .long (lI co), .ref (b + 10), .ref (b + 11), .int (iI ln), .int (iI cu), .int (iI (pn : Int)), .ref (b + 12), .int (iI bc), .ref (b + 13), .ref (b + 14)])), (b + 1, .inl (kI K, 12, .inl (iA ar))), (b + 2, .inl (kI K, 12, .inl (iA oc))), (b + 3, .inl (kI K, 12, .inl (iA lc))), (b + 4, .inl (kI K, 96, .inl (iA st))), (b + 5, .inl (kI K, 96, .inl (iA tk))), (b + 6, .inl (kI K, 10, .inl (iA wa))), (b + 7, .inl (kI K, 10, .inl (iA pk))), (b + 8, .inl (kL K, 40, .inr (.inl (lA mu)))), (b + 9, .inl (kL K, 40, .inr (.inl (lA pr)))), (b + 10, .inl (kI K, 4, .inl (iA cn))), (b + 11, .inl (kI K, 4, .inl (iA bs))), (b + 12, .inl (kI K, 10, .inl (iA le))), (b + 13, .inl (kI K, 10, .inl (iA bb))), (b + 14, .inl (kI K, 10, .inl (iA ld)))] := by rw [hAe]; exact va_D_of (by simp) (by simp <;> omega)
  refine lv_aload_n hx hb dM_wall_0 rfl (lv_at hl 0 rfl) ?_
  refine lv_iload_n hx hb dM_wall_1 rfl (lv_at hl 1 rfl) ?_
  refine iz_i2l hx hb ⟨by omega, by omega⟩ dM_wall_2 ?_
  refine iz_lconst hx hb 1 rfl dM_wall_3 ?_
  refine iz_ldc2 hx hb (1000) (by decide) hown (hts _ mt_536) dM_wall_4 ?_
  refine ctS (n := 3) hx hb hml hown hT ⟨c_M_isIn l K x1 1 1000 ⟨by omega, by omega⟩ ⟨by omega, by omega⟩ ⟨by omega, by omega⟩, ⟨_, _, _, Or.inl ⟨rfl, rfl⟩⟩, mt_539, mt_5, by decide, by decide +kernel, by decide, by decide, by decide, by decide⟩ PC.blind mt_537 mt_538 (As := [.long (lI x1), .long (lI 1), .long (lI 1000)]) (rest := [.ref b]) rfl (PC.at ⟨hT, hK⟩ trivial) hl.1 rfl (Nat.le_of_ble_eq_true rfl) dM_wall_7 (krI0 rfl rfl (fun _ h => h) (fun r g1 => ?_))
  rcases g1 with ⟨rfl, g1⟩ | ⟨rfl, g1⟩
  · refine iz_if_eq (tgt := 25) hx hb ⟨by omega, by omega⟩ dM_wall_10 (by decide) (fun g => absurd g (by decide)) (fun _ => ?_)
    refine lv_iload_n hx hb dM_wall_13 rfl (lv_at hl 2 rfl) ?_
    refine iz_i2l hx hb ⟨by omega, by omega⟩ dM_wall_14 ?_
    refine iz_lconst hx hb 1 rfl dM_wall_15 ?_
    refine iz_ldc2 hx hb (1000) (by decide) hown (hts _ mt_536) dM_wall_16 ?_
    refine ctS (n := 3) hx hb hml hown hT ⟨c_M_isIn l K x2 1 1000 ⟨by omega, by omega⟩ ⟨by omega, by omega⟩ ⟨by omega, by omega⟩, ⟨_, _, _, Or.inl ⟨rfl, rfl⟩⟩, mt_539, mt_5, by decide, by decide +kernel, by decide, by decide, by decide, by decide⟩ PC.blind mt_537 mt_538 (As := [.long (lI x2), .long (lI 1), .long (lI 1000)]) (rest := [.ref b]) rfl (PC.at ⟨hT, hK⟩ trivial) hl.1 rfl (Nat.le_of_ble_eq_true rfl) dM_wall_19 (krI0 rfl rfl (fun _ h => h) (fun r g2 => ?_))
    rcases g2 with ⟨rfl, g2⟩ | ⟨rfl, g2⟩
    · refine iz_if_ne (tgt := 29) hx hb ⟨by omega, by omega⟩ dM_wall_22 (by decide) (fun _ => ?_) (fun g => absurd g (by decide))
      refine lv_aload_n hx hb dM_wall_29 rfl (lv_at hl 0 rfl) ?_
      refine va_get (D := kD K) (ci := 4) (v := .int (iI (wn : Int))) (C := RM) (T := FM) (N := 21) hx hb hts jnM hown hK hP 0 rfl rfl 1 (by decide) (hts _ mt_464) (fun _ h9 => h9) rfl dM_wall_30 ?_
      refine iz_bipush hx hb dM_wall_33 (by decide) ?_
      refine iz_icmp_ne (tgt := 42) hx hb ⟨by omega, by omega⟩ ⟨by omega, by omega⟩ dM_wall_35 (by decide) (fun g3 => ?_) (fun g3 => ?_)
      · refine iz_iconst hx hb dM_wall_42 ?_
        refine va_put (D := kD K) (ci := 4) (v := .int (iI 0)) (ty := .int) (C := RM) (T := FM) (N := 21) hx hb hts jnM tM tM_ok nM hown hK hP hD hS 0 rfl rfl 0 (by decide) (hts _ mt_463) (fun _ h9 => h9) rfl (by decide +kernel) rfl rfl (Nat.le_of_ble_eq_true rfl) dM_wall_43 ?_
        clear hP hD hS
        intro H locs hP hD hS
        replace hP : va_P (kD K) vcl [(b, .inr (4, [.int (iI 0), .int (iI (wn : Int)), .ref (b + 1), .ref (b + 2), .ref (b + 3), .ref (b + 4), .ref (b + 5), .ref (b + 6), .ref (b + 7), .ref (b + 8), .ref (b + 9), .long (lI co), .ref (b + 10), .ref (b + 11), .int (iI ln), .int (iI cu), .int (iI (pn : Int)), .ref (b + 12), .int (iI bc), .ref (b + 13), .ref (b + 14)])), (b + 1, .inl (kI K, 12, .inl (iA ar))), (b + 2, .inl (kI K, 12, .inl (iA oc))), (b + 3, .inl (kI K, 12, .inl (iA lc))), (b + 4, .inl (kI K, 96, .inl (iA st))), (b + 5, .inl (kI K, 96, .inl (iA tk))), (b + 6, .inl (kI K, 10, .inl (iA wa))), (b + 7, .inl (kI K, 10, .inl (iA pk))), (b + 8, .inl (kL K, 40, .inr (.inl (lA mu)))), (b + 9, .inl (kL K, 40, .inr (.inl (lA pr)))), (b + 10, .inl (kI K, 4, .inl (iA cn))), (b + 11, .inl (kI K, 4, .inl (iA bs))), (b + 12, .inl (kI K, 10, .inl (iA le))), (b + 13, .inl (kI K, 10, .inl (iA bb))), (b + 14, .inl (kI K, 10, .inl (iA ld)))] H := hP
        replace hD : va_D A [(b, .inr (4, [.int (iI 0), .int (iI (wn : Int)), .ref (b + 1), .ref (b + 2), .ref (b + 3), .ref (b + 4), .ref (b + 5), .ref (b + 6), .ref (b + 7), .ref (b + 8), .ref (b + 9), .long (lI co), .ref (b + 10), .ref (b + 11), .int (iI ln), .int (iI cu), .int (iI (pn : Int)), .ref (b + 12), .int (iI bc), .ref (b + 13), .ref (b + 14)])), (b + 1, .inl (kI K, 12, .inl (iA ar))), (b + 2, .inl (kI K, 12, .inl (iA oc))), (b + 3, .inl (kI K, 12, .inl (iA lc))), (b + 4, .inl (kI K, 96, .inl (iA st))), (b + 5, .inl (kI K, 96, .inl (iA tk))), (b + 6, .inl (kI K, 10, .inl (iA wa))), (b + 7, .inl (kI K, 10, .inl (iA pk))), (b + 8, .inl (kL K, 40, .inr (.inl (lA mu)))), (b + 9, .inl (kL K, 40, .inr (.inl (lA pr)))), (b + 10, .inl (kI K, 4, .inl (iA cn))), (b + 11, .inl (kI K, 4, .inl (iA bs))), (b + 12, .inl (kI K, 10, .inl (iA le))), (b + 13, .inl (kI K, 10, .inl (iA bb))), (b + 14, .inl (kI K, 10, .inl (iA ld)))] := hD
        refine lv_aload_n hx hb dM_wall_46 rfl (lv_at hl 0 rfl) ?_
        refine va_get (D := kD K) (ci := 4) (v := .int (iI 0)) (C := RM) (T := FM) (N := 21) hx hb hts jnM hown hK hP 0 rfl rfl 0 (by decide) (hts _ mt_463) (fun _ h9 => h9) rfl dM_wall_47 ?_
        refine iz_if_le (tgt := 55) hx hb ⟨by omega, by omega⟩ dM_wall_50 (by decide) (fun _ => ?_) (fun g => absurd g (by decide))
        refine lv_aload_n hx hb dM_wall_55 rfl (lv_at hl 0 rfl) ?_
        refine va_get (D := kD K) (ci := 4) (v := .ref (b + 1)) (C := RM) (T := FM) (N := 21) hx hb hts jnM hown hK hP 0 rfl rfl 2 (by decide) (hts _ mt_465) (fun _ h9 => h9) rfl dM_wall_56 ?_
        refine lv_aload_n hx hb dM_wall_59 rfl (lv_at hl 0 rfl) ?_
        refine va_get (D := kD K) (ci := 4) (v := .int (iI (wn : Int))) (C := RM) (T := FM) (N := 21) hx hb hts jnM hown hK hP 0 rfl rfl 1 (by decide) (hts _ mt_464) (fun _ h9 => h9) rfl dM_wall_60 ?_
        refine lv_iload_n hx hb dM_wall_63 rfl (lv_at hl 1 rfl) ?_
        refine lv_iload_n hx hb dM_wall_64 rfl (lv_at hl 2 rfl) ?_
        refine iz_imul hx hb dM_wall_65 ?_
        refine iz_iast hx hb hK hP hD hS 1 rfl wn rfl (by omega) (by omega) dM_wall_66 ?_
        clear hP hD hS
        intro H locs hP hD hS
        replace hP : va_P (kD K) vcl [(b, .inr (4, [.int (iI 0), .int (iI (wn : Int)), .ref (b + 1), .ref (b + 2), .ref (b + 3), .ref (b + 4), .ref (b + 5), .ref (b + 6), .ref (b + 7), .ref (b + 8), .ref (b + 9), .long (lI co), .ref (b + 10), .ref (b + 11), .int (iI ln), .int (iI cu), .int (iI (pn : Int)), .ref (b + 12), .int (iI bc), .ref (b + 13), .ref (b + 14)])), (b + 1, .inl (kI K, 12, .inl (iA (ut ar wn (x1 * x2))))), (b + 2, .inl (kI K, 12, .inl (iA oc))), (b + 3, .inl (kI K, 12, .inl (iA lc))), (b + 4, .inl (kI K, 96, .inl (iA st))), (b + 5, .inl (kI K, 96, .inl (iA tk))), (b + 6, .inl (kI K, 10, .inl (iA wa))), (b + 7, .inl (kI K, 10, .inl (iA pk))), (b + 8, .inl (kL K, 40, .inr (.inl (lA mu)))), (b + 9, .inl (kL K, 40, .inr (.inl (lA pr)))), (b + 10, .inl (kI K, 4, .inl (iA cn))), (b + 11, .inl (kI K, 4, .inl (iA bs))), (b + 12, .inl (kI K, 10, .inl (iA le))), (b + 13, .inl (kI K, 10, .inl (iA bb))), (b + 14, .inl (kI K, 10, .inl (iA ld)))] H := hP
        replace hD : va_D A [(b, .inr (4, [.int (iI 0), .int (iI (wn : Int)), .ref (b + 1), .ref (b + 2), .ref (b + 3), .ref (b + 4), .ref (b + 5), .ref (b + 6), .ref (b + 7), .ref (b + 8), .ref (b + 9), .long (lI co), .ref (b + 10), .ref (b + 11), .int (iI ln), .int (iI cu), .int (iI (pn : Int)), .ref (b + 12), .int (iI bc), .ref (b + 13), .ref (b + 14)])), (b + 1, .inl (kI K, 12, .inl (iA (ut ar wn (x1 * x2))))), (b + 2, .inl (kI K, 12, .inl (iA oc))), (b + 3, .inl (kI K, 12, .inl (iA lc))), (b + 4, .inl (kI K, 96, .inl (iA st))), (b + 5, .inl (kI K, 96, .inl (iA tk))), (b + 6, .inl (kI K, 10, .inl (iA wa))), (b + 7, .inl (kI K, 10, .inl (iA pk))), (b + 8, .inl (kL K, 40, .inr (.inl (lA mu)))), (b + 9, .inl (kL K, 40, .inr (.inl (lA pr)))), (b + 10, .inl (kI K, 4, .inl (iA cn))), (b + 11, .inl (kI K, 4, .inl (iA bs))), (b + 12, .inl (kI K, 10, .inl (iA le))), (b + 13, .inl (kI K, 10, .inl (iA bb))), (b + 14, .inl (kI K, 10, .inl (iA ld)))] := hD
        refine lv_aload_n hx hb dM_wall_67 rfl (lv_at hl 0 rfl) ?_
        refine lv_dup hx hb dM_wall_68 rfl ?_
        refine va_get (D := kD K) (ci := 4) (v := .int (iI (wn : Int))) (C := RM) (T := FM) (N := 21) hx hb hts jnM hown hK hP 0 rfl rfl 1 (by decide) (hts _ mt_464) (fun _ h9 => h9) rfl dM_wall_69 ?_
        refine iz_iconst hx hb dM_wall_72 ?_
        refine iz_iadd hx hb dM_wall_73 ?_
        refine va_put (D := kD K) (ci := 4) (v := .int (iI ((wn : Int) + 1))) (ty := .int) (C := RM) (T := FM) (N := 21) hx hb hts jnM tM tM_ok nM hown hK hP hD hS 0 rfl rfl 1 (by decide) (hts _ mt_464) (fun _ h9 => h9) rfl (by decide +kernel) rfl rfl (Nat.le_of_ble_eq_true rfl) dM_wall_74 ?_
        clear hP hD hS
        intro H locs hP hD hS
        replace hP : va_P (kD K) vcl [(b, .inr (4, [.int (iI 0), .int (iI ((wn : Int) + 1)), .ref (b + 1), .ref (b + 2), .ref (b + 3), .ref (b + 4), .ref (b + 5), .ref (b + 6), .ref (b + 7), .ref (b + 8), .ref (b + 9), .long (lI co), .ref (b + 10), .ref (b + 11), .int (iI ln), .int (iI cu), .int (iI (pn : Int)), .ref (b + 12), .int (iI bc), .ref (b + 13), .ref (b + 14)])), (b + 1, .inl (kI K, 12, .inl (iA (ut ar wn (x1 * x2))))), (b + 2, .inl (kI K, 12, .inl (iA oc))), (b + 3, .inl (kI K, 12, .inl (iA lc))), (b + 4, .inl (kI K, 96, .inl (iA st))), (b + 5, .inl (kI K, 96, .inl (iA tk))), (b + 6, .inl (kI K, 10, .inl (iA wa))), (b + 7, .inl (kI K, 10, .inl (iA pk))), (b + 8, .inl (kL K, 40, .inr (.inl (lA mu)))), (b + 9, .inl (kL K, 40, .inr (.inl (lA pr)))), (b + 10, .inl (kI K, 4, .inl (iA cn))), (b + 11, .inl (kI K, 4, .inl (iA bs))), (b + 12, .inl (kI K, 10, .inl (iA le))), (b + 13, .inl (kI K, 10, .inl (iA bb))), (b + 14, .inl (kI K, 10, .inl (iA ld)))] H := hP
        replace hD : va_D A [(b, .inr (4, [.int (iI 0), .int (iI ((wn : Int) + 1)), .ref (b + 1), .ref (b + 2), .ref (b + 3), .ref (b + 4), .ref (b + 5), .ref (b + 6), .ref (b + 7), .ref (b + 8), .ref (b + 9), .long (lI co), .ref (b + 10), .ref (b + 11), .int (iI ln), .int (iI cu), .int (iI (pn : Int)), .ref (b + 12), .int (iI bc), .ref (b + 13), .ref (b + 14)])), (b + 1, .inl (kI K, 12, .inl (iA (ut ar wn (x1 * x2))))), (b + 2, .inl (kI K, 12, .inl (iA oc))), (b + 3, .inl (kI K, 12, .inl (iA lc))), (b + 4, .inl (kI K, 96, .inl (iA st))), (b + 5, .inl (kI K, 96, .inl (iA tk))), (b + 6, .inl (kI K, 10, .inl (iA wa))), (b + 7, .inl (kI K, 10, .inl (iA pk))), (b + 8, .inl (kL K, 40, .inr (.inl (lA mu)))), (b + 9, .inl (kL K, 40, .inr (.inl (lA pr)))), (b + 10, .inl (kI K, 4, .inl (iA cn))), (b + 11, .inl (kI K, 4, .inl (iA bs))), (b + 12, .inl (kI K, 10, .inl (iA le))), (b + 13, .inl (kI K, 10, .inl (iA bb))), (b + 14, .inl (kI K, 10, .inl (iA ld)))] := hD
        refine lv_aload_n hx hb dM_wall_77 rfl (lv_at hl 0 rfl) ?_
        refine va_get (D := kD K) (ci := 4) (v := .int (iI ((wn : Int) + 1))) (C := RM) (T := FM) (N := 21) hx hb hts jnM hown hK hP 0 rfl rfl 1 (by decide) (hts _ mt_464) (fun _ h9 => h9) rfl dM_wall_78 ?_
        refine iz_iconst hx hb dM_wall_81 ?_
        refine iz_isub hx hb dM_wall_82 ?_
        rw [hQ]
        exact iz_iret hx hb hr hlocks (Or.inr (Or.inr ⟨by omega, by omega, by omega, hP⟩)) hS.2.2 dM_wall_83
      · refine iz_iconst hx hb dM_wall_38 ?_
        refine lv_goto (tgt := 43) hx hb dM_wall_39 (by decide) ?_
        refine va_put (D := kD K) (ci := 4) (v := .int (iI 2)) (ty := .int) (C := RM) (T := FM) (N := 21) hx hb hts jnM tM tM_ok nM hown hK hP hD hS 0 rfl rfl 0 (by decide) (hts _ mt_463) (fun _ h9 => h9) rfl (by decide +kernel) rfl rfl (Nat.le_of_ble_eq_true rfl) dM_wall_43 ?_
        clear hP hD hS
        intro H locs hP hD hS
        replace hP : va_P (kD K) vcl [(b, .inr (4, [.int (iI 2), .int (iI (wn : Int)), .ref (b + 1), .ref (b + 2), .ref (b + 3), .ref (b + 4), .ref (b + 5), .ref (b + 6), .ref (b + 7), .ref (b + 8), .ref (b + 9), .long (lI co), .ref (b + 10), .ref (b + 11), .int (iI ln), .int (iI cu), .int (iI (pn : Int)), .ref (b + 12), .int (iI bc), .ref (b + 13), .ref (b + 14)])), (b + 1, .inl (kI K, 12, .inl (iA ar))), (b + 2, .inl (kI K, 12, .inl (iA oc))), (b + 3, .inl (kI K, 12, .inl (iA lc))), (b + 4, .inl (kI K, 96, .inl (iA st))), (b + 5, .inl (kI K, 96, .inl (iA tk))), (b + 6, .inl (kI K, 10, .inl (iA wa))), (b + 7, .inl (kI K, 10, .inl (iA pk))), (b + 8, .inl (kL K, 40, .inr (.inl (lA mu)))), (b + 9, .inl (kL K, 40, .inr (.inl (lA pr)))), (b + 10, .inl (kI K, 4, .inl (iA cn))), (b + 11, .inl (kI K, 4, .inl (iA bs))), (b + 12, .inl (kI K, 10, .inl (iA le))), (b + 13, .inl (kI K, 10, .inl (iA bb))), (b + 14, .inl (kI K, 10, .inl (iA ld)))] H := hP
        replace hD : va_D A [(b, .inr (4, [.int (iI 2), .int (iI (wn : Int)), .ref (b + 1), .ref (b + 2), .ref (b + 3), .ref (b + 4), .ref (b + 5), .ref (b + 6), .ref (b + 7), .ref (b + 8), .ref (b + 9), .long (lI co), .ref (b + 10), .ref (b + 11), .int (iI ln), .int (iI cu), .int (iI (pn : Int)), .ref (b + 12), .int (iI bc), .ref (b + 13), .ref (b + 14)])), (b + 1, .inl (kI K, 12, .inl (iA ar))), (b + 2, .inl (kI K, 12, .inl (iA oc))), (b + 3, .inl (kI K, 12, .inl (iA lc))), (b + 4, .inl (kI K, 96, .inl (iA st))), (b + 5, .inl (kI K, 96, .inl (iA tk))), (b + 6, .inl (kI K, 10, .inl (iA wa))), (b + 7, .inl (kI K, 10, .inl (iA pk))), (b + 8, .inl (kL K, 40, .inr (.inl (lA mu)))), (b + 9, .inl (kL K, 40, .inr (.inl (lA pr)))), (b + 10, .inl (kI K, 4, .inl (iA cn))), (b + 11, .inl (kI K, 4, .inl (iA bs))), (b + 12, .inl (kI K, 10, .inl (iA le))), (b + 13, .inl (kI K, 10, .inl (iA bb))), (b + 14, .inl (kI K, 10, .inl (iA ld)))] := hD
        refine lv_aload_n hx hb dM_wall_46 rfl (lv_at hl 0 rfl) ?_
        refine va_get (D := kD K) (ci := 4) (v := .int (iI 2)) (C := RM) (T := FM) (N := 21) hx hb hts jnM hown hK hP 0 rfl rfl 0 (by decide) (hts _ mt_463) (fun _ h9 => h9) rfl dM_wall_47 ?_
        refine iz_if_le (tgt := 55) hx hb ⟨by omega, by omega⟩ dM_wall_50 (by decide) (fun g => absurd g (by decide)) (fun _ => ?_)
        refine iz_iconst hx hb dM_wall_53 ?_
        rw [hQ]
        exact iz_iret hx hb hr hlocks (Or.inr (Or.inl ⟨by omega, by omega, hP⟩)) hS.2.2 dM_wall_54
    · refine iz_if_ne (tgt := 29) hx hb ⟨by omega, by omega⟩ dM_wall_22 (by decide) (fun g => absurd g (by decide)) (fun _ => ?_)
      refine iz_iconst hx hb dM_wall_25 ?_
      refine lv_goto (tgt := 43) hx hb dM_wall_26 (by decide) ?_
      refine va_put (D := kD K) (ci := 4) (v := .int (iI 1)) (ty := .int) (C := RM) (T := FM) (N := 21) hx hb hts jnM tM tM_ok nM hown hK hP hD hS 0 rfl rfl 0 (by decide) (hts _ mt_463) (fun _ h9 => h9) rfl (by decide +kernel) rfl rfl (Nat.le_of_ble_eq_true rfl) dM_wall_43 ?_
      clear hP hD hS
      intro H locs hP hD hS
      replace hP : va_P (kD K) vcl [(b, .inr (4, [.int (iI 1), .int (iI (wn : Int)), .ref (b + 1), .ref (b + 2), .ref (b + 3), .ref (b + 4), .ref (b + 5), .ref (b + 6), .ref (b + 7), .ref (b + 8), .ref (b + 9), .long (lI co), .ref (b + 10), .ref (b + 11), .int (iI ln), .int (iI cu), .int (iI (pn : Int)), .ref (b + 12), .int (iI bc), .ref (b + 13), .ref (b + 14)])), (b + 1, .inl (kI K, 12, .inl (iA ar))), (b + 2, .inl (kI K, 12, .inl (iA oc))), (b + 3, .inl (kI K, 12, .inl (iA lc))), (b + 4, .inl (kI K, 96, .inl (iA st))), (b + 5, .inl (kI K, 96, .inl (iA tk))), (b + 6, .inl (kI K, 10, .inl (iA wa))), (b + 7, .inl (kI K, 10, .inl (iA pk))), (b + 8, .inl (kL K, 40, .inr (.inl (lA mu)))), (b + 9, .inl (kL K, 40, .inr (.inl (lA pr)))), (b + 10, .inl (kI K, 4, .inl (iA cn))), (b + 11, .inl (kI K, 4, .inl (iA bs))), (b + 12, .inl (kI K, 10, .inl (iA le))), (b + 13, .inl (kI K, 10, .inl (iA bb))), (b + 14, .inl (kI K, 10, .inl (iA ld)))] H := hP
      replace hD : va_D A [(b, .inr (4, [.int (iI 1), .int (iI (wn : Int)), .ref (b + 1), .ref (b + 2), .ref (b + 3), .ref (b + 4), .ref (b + 5), .ref (b + 6), .ref (b + 7), .ref (b + 8), .ref (b + 9), .long (lI co), .ref (b + 10), .ref (b + 11), .int (iI ln), .int (iI cu), .int (iI (pn : Int)), .ref (b + 12), .int (iI bc), .ref (b + 13), .ref (b + 14)])), (b + 1, .inl (kI K, 12, .inl (iA ar))), (b + 2, .inl (kI K, 12, .inl (iA oc))), (b + 3, .inl (kI K, 12, .inl (iA lc))), (b + 4, .inl (kI K, 96, .inl (iA st))), (b + 5, .inl (kI K, 96, .inl (iA tk))), (b + 6, .inl (kI K, 10, .inl (iA wa))), (b + 7, .inl (kI K, 10, .inl (iA pk))), (b + 8, .inl (kL K, 40, .inr (.inl (lA mu)))), (b + 9, .inl (kL K, 40, .inr (.inl (lA pr)))), (b + 10, .inl (kI K, 4, .inl (iA cn))), (b + 11, .inl (kI K, 4, .inl (iA bs))), (b + 12, .inl (kI K, 10, .inl (iA le))), (b + 13, .inl (kI K, 10, .inl (iA bb))), (b + 14, .inl (kI K, 10, .inl (iA ld)))] := hD
      refine lv_aload_n hx hb dM_wall_46 rfl (lv_at hl 0 rfl) ?_
      refine va_get (D := kD K) (ci := 4) (v := .int (iI 1)) (C := RM) (T := FM) (N := 21) hx hb hts jnM hown hK hP 0 rfl rfl 0 (by decide) (hts _ mt_463) (fun _ h9 => h9) rfl dM_wall_47 ?_
      refine iz_if_le (tgt := 55) hx hb ⟨by omega, by omega⟩ dM_wall_50 (by decide) (fun g => absurd g (by decide)) (fun _ => ?_)
      refine iz_iconst hx hb dM_wall_53 ?_
      rw [hQ]
      exact iz_iret hx hb hr hlocks (Or.inl ⟨by omega, hP⟩) hS.2.2 dM_wall_54
  · refine iz_if_eq (tgt := 25) hx hb ⟨by omega, by omega⟩ dM_wall_10 (by decide) (fun _ => ?_) (fun g => absurd g (by decide))
    refine iz_iconst hx hb dM_wall_25 ?_
    refine lv_goto (tgt := 43) hx hb dM_wall_26 (by decide) ?_
    refine va_put (D := kD K) (ci := 4) (v := .int (iI 1)) (ty := .int) (C := RM) (T := FM) (N := 21) hx hb hts jnM tM tM_ok nM hown hK hP hD hS 0 rfl rfl 0 (by decide) (hts _ mt_463) (fun _ h9 => h9) rfl (by decide +kernel) rfl rfl (Nat.le_of_ble_eq_true rfl) dM_wall_43 ?_
    clear hP hD hS
    intro H locs hP hD hS
    replace hP : va_P (kD K) vcl [(b, .inr (4, [.int (iI 1), .int (iI (wn : Int)), .ref (b + 1), .ref (b + 2), .ref (b + 3), .ref (b + 4), .ref (b + 5), .ref (b + 6), .ref (b + 7), .ref (b + 8), .ref (b + 9), .long (lI co), .ref (b + 10), .ref (b + 11), .int (iI ln), .int (iI cu), .int (iI (pn : Int)), .ref (b + 12), .int (iI bc), .ref (b + 13), .ref (b + 14)])), (b + 1, .inl (kI K, 12, .inl (iA ar))), (b + 2, .inl (kI K, 12, .inl (iA oc))), (b + 3, .inl (kI K, 12, .inl (iA lc))), (b + 4, .inl (kI K, 96, .inl (iA st))), (b + 5, .inl (kI K, 96, .inl (iA tk))), (b + 6, .inl (kI K, 10, .inl (iA wa))), (b + 7, .inl (kI K, 10, .inl (iA pk))), (b + 8, .inl (kL K, 40, .inr (.inl (lA mu)))), (b + 9, .inl (kL K, 40, .inr (.inl (lA pr)))), (b + 10, .inl (kI K, 4, .inl (iA cn))), (b + 11, .inl (kI K, 4, .inl (iA bs))), (b + 12, .inl (kI K, 10, .inl (iA le))), (b + 13, .inl (kI K, 10, .inl (iA bb))), (b + 14, .inl (kI K, 10, .inl (iA ld)))] H := hP
    replace hD : va_D A [(b, .inr (4, [.int (iI 1), .int (iI (wn : Int)), .ref (b + 1), .ref (b + 2), .ref (b + 3), .ref (b + 4), .ref (b + 5), .ref (b + 6), .ref (b + 7), .ref (b + 8), .ref (b + 9), .long (lI co), .ref (b + 10), .ref (b + 11), .int (iI ln), .int (iI cu), .int (iI (pn : Int)), .ref (b + 12), .int (iI bc), .ref (b + 13), .ref (b + 14)])), (b + 1, .inl (kI K, 12, .inl (iA ar))), (b + 2, .inl (kI K, 12, .inl (iA oc))), (b + 3, .inl (kI K, 12, .inl (iA lc))), (b + 4, .inl (kI K, 96, .inl (iA st))), (b + 5, .inl (kI K, 96, .inl (iA tk))), (b + 6, .inl (kI K, 10, .inl (iA wa))), (b + 7, .inl (kI K, 10, .inl (iA pk))), (b + 8, .inl (kL K, 40, .inr (.inl (lA mu)))), (b + 9, .inl (kL K, 40, .inr (.inl (lA pr)))), (b + 10, .inl (kI K, 4, .inl (iA cn))), (b + 11, .inl (kI K, 4, .inl (iA bs))), (b + 12, .inl (kI K, 10, .inl (iA le))), (b + 13, .inl (kI K, 10, .inl (iA bb))), (b + 14, .inl (kI K, 10, .inl (iA ld)))] := hD
    refine lv_aload_n hx hb dM_wall_46 rfl (lv_at hl 0 rfl) ?_
    refine va_get (D := kD K) (ci := 4) (v := .int (iI 1)) (C := RM) (T := FM) (N := 21) hx hb hts jnM hown hK hP 0 rfl rfl 0 (by decide) (hts _ mt_463) (fun _ h9 => h9) rfl dM_wall_47 ?_
    refine iz_if_le (tgt := 55) hx hb ⟨by omega, by omega⟩ dM_wall_50 (by decide) (fun g => absurd g (by decide)) (fun _ => ?_)
    refine iz_iconst hx hb dM_wall_53 ?_
    rw [hQ]
    exact iz_iret hx hb hr hlocks (Or.inl ⟨by omega, hP⟩) hS.2.2 dM_wall_54
abbrev rmM_opening : Room := { frames := 2, cells := 0, slots := 0, locals := 80 }
set_option maxHeartbeats 4000000 in
set_option maxRecDepth 100000 in
/-- opening(wall, width, height) -/
theorem c_M_opening (l : Launch) (K : KG) (b : Nat) (cd : Int) (wn : Nat) (ar oc lc st tk wa pk mu pr : Nat → Int) (co : Int) (cn bs : Nat → Int) (ln cu : Int) (pn : Nat) (le : Nat → Int) (bc : Int) (bb ld : Nat → Int) (j : Nat) (x1 x2 x3 : Int) (h1 : r32 x1) (h2 : r32 x2) (h3 : r32 x3) (hn : wn ≤ 12) (hj : 0 ≤ x1 → x1 < wn → x1 = j) (har : ∀ i, i < 12 → 0 ≤ ar i ∧ ar i ≤ 1000000) (hoc : ∀ i, i < 12 → 0 ≤ oc i ∧ oc i ≤ 6) (hlc : ∀ i, i < 12 → 0 ≤ lc i ∧ lc i ≤ 8) : Ct l yM_opening kM_opening rmM_opening (PC K [.ref b, .int (iI x1), .int (iI x2), .int (iI x3)] (fun H => va_P (kD K) vcl (mdW K b cd wn ar oc lc st tk wa pk mu pr co cn bs ln cu pn le bc bb ld) H)) (QI (fun r H => (¬ ((0 ≤ x1 ∧ x1 < wn) ∧ (1 ≤ x2 ∧ x2 ≤ 1000) ∧ (1 ≤ x3 ∧ x3 ≤ 1000)) ∧ va_P (kD K) vcl (mdW K b 1 wn ar oc lc st tk wa pk mu pr co cn bs ln cu pn le bc bb ld) H) ∨ (((0 ≤ x1 ∧ x1 < wn) ∧ (1 ≤ x2 ∧ x2 ≤ 1000) ∧ (1 ≤ x3 ∧ x3 ≤ 1000)) ∧ ¬ (oc j < 6 ∧ x2 * x3 ≤ ar j) ∧ va_P (kD K) vcl (mdW K b 2 wn ar oc lc st tk wa pk mu pr co cn bs ln cu pn le bc bb ld) H) ∨ (((0 ≤ x1 ∧ x1 < wn) ∧ (1 ≤ x2 ∧ x2 ≤ 1000) ∧ (1 ≤ x3 ∧ x3 ≤ 1000)) ∧ (oc j < 6 ∧ x2 * x3 ≤ ar j) ∧ r = ar j - x2 * x3 ∧ va_P (kD K) vcl (mdW K b 0 wn (ut ar j (ar j - x2 * x3)) (ut oc j (oc j + 1)) lc st tk wa pk mu pr co cn bs ln cu pn le bc bb ld) H))) (fun x => b ≤ x ∧ x < b + 15) := by
  refine ct_of (by decide) (Or.inl ⟨rfl, rfl⟩) ?_
  intro p e s m args below meth c B0 hP0
  obtain ⟨hx, hb, hr, hml, hown, hlocks, hnm, htab⟩ := B0
  obtain ⟨ha, ⟨hT, hK⟩, hB⟩ := hP0
  have hl := lv_entry ([.ref b, .int (iI x1), .int (iI x2), .int (iI x3)]) (n := 5) (Nat.le_of_ble_eq_true rfl)
  obtain ⟨Q, hQ⟩ : ∃ Q, Q = XQ below (QI (fun r H => (¬ ((0 ≤ x1 ∧ x1 < wn) ∧ (1 ≤ x2 ∧ x2 ≤ 1000) ∧ (1 ≤ x3 ∧ x3 ≤ 1000)) ∧ va_P (kD K) vcl (mdW K b 1 wn ar oc lc st tk wa pk mu pr co cn bs ln cu pn le bc bb ld) H) ∨ (((0 ≤ x1 ∧ x1 < wn) ∧ (1 ≤ x2 ∧ x2 ≤ 1000) ∧ (1 ≤ x3 ∧ x3 ≤ 1000)) ∧ ¬ (oc j < 6 ∧ x2 * x3 ≤ ar j) ∧ va_P (kD K) vcl (mdW K b 2 wn ar oc lc st tk wa pk mu pr co cn bs ln cu pn le bc bb ld) H) ∨ (((0 ≤ x1 ∧ x1 < wn) ∧ (1 ≤ x2 ∧ x2 ≤ 1000) ∧ (1 ≤ x3 ∧ x3 ≤ 1000)) ∧ (oc j < 6 ∧ x2 * x3 ≤ ar j) ∧ r = ar j - x2 * x3 ∧ va_P (kD K) vcl (mdW K b 0 wn (ut ar j (ar j - x2 * x3)) (ut oc j (oc j + 1)) lc st tk wa pk mu pr co cn bs ln cu pn le bc bb ld) H))) args s rmM_opening.cells rmM_opening.slots (fun x => b ≤ x ∧ x < b + 15) := ⟨_, rfl⟩
  rw [← hQ, ha, lg_entry_eq]
  rw [ha] at hQ
  generalize (lg_sl ([.ref b, .int (iI x1), .int (iI x2), .int (iI x3)]) ++ List.replicate (5 - (lg_sl ([.ref b, .int (iI x1), .int (iI x2), .int (iI x3)])).length) Slot.unset).toArray = ls at hl ⊢
  generalize ([.ref b, .int (iI x1), .int (iI x2), .int (iI x3)] : List Value).toArray = args at hQ ⊢
  have hts : ∀ w ∈ TW, w.before args s = true := fun w h => hT w h args
  have hl : lv_has ls 5 [(0, .ref b), (1, .int (iI x1)), (2, .int (iI x2)), (3, .int (iI x3))] := hl
  obtain ⟨A, hAe⟩ : ∃ A : Addr → Prop, A = (fun x => b ≤ x ∧ x < b + 15) := ⟨_, rfl⟩
  rw [← hAe] at hQ
  have hS : va_S A s.heap s.heap [] := va_S.rf
  have hP : va_P (kD K) vcl [(b, .inr (4, [.int (iI cd), .int (iI (wn : Int)), .ref (b + 1), .ref (b + 2), .ref (b + 3), .ref (b + 4), .ref (b + 5), .ref (b + 6), .ref (b + 7), .ref (b + 8), .ref (b + 9), .long (lI co), .ref (b + 10), .ref (b + 11), .int (iI ln), .int (iI cu), .int (iI (pn : Int)), .ref (b + 12), .int (iI bc), .ref (b + 13), .ref (b + 14)])), (b + 1, .inl (kI K, 12, .inl (iA ar))), (b + 2, .inl (kI K, 12, .inl (iA oc))), (b + 3, .inl (kI K, 12, .inl (iA lc))), (b + 4, .inl (kI K, 96, .inl (iA st))), (b + 5, .inl (kI K, 96, .inl (iA tk))), (b + 6, .inl (kI K, 10, .inl (iA wa))), (b + 7, .inl (kI K, 10, .inl (iA pk))), (b + 8, .inl (kL K, 40, .inr (.inl (lA mu)))), (b + 9, .inl (kL K, 40, .inr (.inl (lA pr)))), (b + 10, .inl (kI K, 4, .inl (iA cn))), (b + 11, .inl (kI K, 4, .inl (iA bs))), (b + 12, .inl (kI K, 10, .inl (iA le))), (b + 13, .inl (kI K, 10, .inl (iA bb))), (b + 14, .inl (kI K, 10, .inl (iA ld)))] s.heap := hB
  have hD : va_D A [(b, .inr (4, [.int (iI cd), .int (iI (wn : Int)), .ref (b + 1), .ref (b + 2), .ref (b + 3), .ref (b + 4), .ref (b + 5), .ref (b + 6), .ref (b + 7), .ref (b + 8), .ref (b + 9), .long (lI co), .ref (b + 10), .ref (b + 11), .int (iI ln), .int (iI cu), .int (iI (pn : Int)), .ref (b + 12), .int (iI bc), .ref (b + 13), .ref (b + 14)])), (b + 1, .inl (kI K, 12, .inl (iA ar))), (b + 2, .inl (kI K, 12, .inl (iA oc))), (b + 3, .inl (kI K, 12, .inl (iA lc))), (b + 4, .inl (kI K, 96, .inl (iA st))), (b + 5, .inl (kI K, 96, .inl (iA tk))), (b + 6, .inl (kI K, 10, .inl (iA wa))), (b + 7, .inl (kI K, 10, .inl (iA pk))), (b + 8, .inl (kL K, 40, .inr (.inl (lA mu)))), (b + 9, .inl (kL K, 40, .inr (.inl (lA pr)))), (b + 10, .inl (kI K, 4, .inl (iA cn))), (b + 11, .inl (kI K, 4, .inl (iA bs))), (b + 12, .inl (kI K, 10, .inl (iA le))), (b + 13, .inl (kI K, 10, .inl (iA bb))), (b + 14, .inl (kI K, 10, .inl (iA ld)))] := by rw [hAe]; exact va_D_of (by simp) (by simp <;> omega)
  refine lv_aload_n hx hb dM_opening_0 rfl (lv_at hl 0 rfl) ?_
  refine lv_iload_n hx hb dM_opening_1 rfl (lv_at hl 1 rfl) ?_
  refine ctV (n := 1) hx hb hml hown hT ⟨c_M_isWall l K b cd wn ar oc lc st tk wa pk mu pr co cn bs ln cu pn le bc bb ld x1 ⟨by omega, by omega⟩ (by omega), ⟨_, _, _, Or.inl ⟨rfl, rfl⟩⟩, mt_547, mt_5, by decide, by decide +kernel, by decide, by decide, by decide, by decide⟩ PC.blind mt_544 mt_546 ms_22 (va_RVof (ci := 4) (q0 := 0) hK hP rfl rfl) (As := [.int (iI x1)]) (rest := []) rfl (PC.at ⟨hT, hK⟩ hP) hl.1 rfl (Nat.le_of_ble_eq_true rfl) dM_opening_2 (krI0 rfl rfl (fun _ h => h) (fun r g1 => ?_))
  rcases g1 with ⟨rfl, g1⟩ | ⟨rfl, g1⟩
  · refine iz_if_eq (tgt := 36) hx hb ⟨by omega, by omega⟩ dM_opening_5 (by decide) (fun g => absurd g (by decide)) (fun _ => ?_)
    refine lv_iload_n hx hb dM_opening_8 rfl (lv_at hl 2 rfl) ?_
    refine iz_i2l hx hb ⟨by omega, by omega⟩ dM_opening_9 ?_
    refine iz_lconst hx hb 1 rfl dM_opening_10 ?_
    refine iz_ldc2 hx hb (1000) (by decide) hown (hts _ mt_536) dM_opening_11 ?_
    refine ctS (n := 3) hx hb hml hown hT ⟨c_M_isIn l K x2 1 1000 ⟨by omega, by omega⟩ ⟨by omega, by omega⟩ ⟨by omega, by omega⟩, ⟨_, _, _, Or.inl ⟨rfl, rfl⟩⟩, mt_539, mt_5, by decide, by decide +kernel, by decide, by decide, by decide, by decide⟩ PC.blind mt_537 mt_538 (As := [.long (lI x2), .long (lI 1), .long (lI 1000)]) (rest := []) rfl (PC.at ⟨hT, hK⟩ trivial) hl.1 rfl (Nat.le_of_ble_eq_true rfl) dM_opening_14 (krI0 rfl rfl (fun _ h => h) (fun r g2 => ?_))
    rcases g2 with ⟨rfl, g2⟩ | ⟨rfl, g2⟩
    · refine iz_if_eq (tgt := 36) hx hb ⟨by omega, by omega⟩ dM_opening_17 (by decide) (fun g => absurd g (by decide)) (fun _ => ?_)
      refine lv_iload_n hx hb dM_opening_20 rfl (lv_at hl 3 rfl) ?_
      refine iz_i2l hx hb ⟨by omega, by omega⟩ dM_opening_21 ?_
      refine iz_lconst hx hb 1 rfl dM_opening_22 ?_
      refine iz_ldc2 hx hb (1000) (by decide) hown (hts _ mt_536) dM_opening_23 ?_
      refine ctS (n := 3) hx hb hml hown hT ⟨c_M_isIn l K x3 1 1000 ⟨by omega, by omega⟩ ⟨by omega, by omega⟩ ⟨by omega, by omega⟩, ⟨_, _, _, Or.inl ⟨rfl, rfl⟩⟩, mt_539, mt_5, by decide, by decide +kernel, by decide, by decide, by decide, by decide⟩ PC.blind mt_537 mt_538 (As := [.long (lI x3), .long (lI 1), .long (lI 1000)]) (rest := []) rfl (PC.at ⟨hT, hK⟩ trivial) hl.1 rfl (Nat.le_of_ble_eq_true rfl) dM_opening_26 (krI0 rfl rfl (fun _ h => h) (fun r g3 => ?_))
      rcases g3 with ⟨rfl, g3⟩ | ⟨rfl, g3⟩
      · refine iz_if_eq (tgt := 36) hx hb ⟨by omega, by omega⟩ dM_opening_29 (by decide) (fun g => absurd g (by decide)) (fun _ => ?_)
        refine iz_iconst hx hb dM_opening_32 ?_
        refine lv_goto (tgt := 37) hx hb dM_opening_33 (by decide) ?_
        refine lv_istore (lv' := [(4, .int (iI 1)), (0, .ref b), (1, .int (iI x1)), (2, .int (iI x2)), (3, .int (iI x3))]) hx hb dM_opening_37 hl (by decide) rfl (fun ls hl => ?_)
        refine lv_aload_n hx hb dM_opening_39 rfl (lv_at hl 1 rfl) ?_
        refine lv_iload hx hb dM_opening_40 (lv_at hl 0 rfl) ?_
        refine iz_if_ne (tgt := 49) hx hb ⟨by omega, by omega⟩ dM_opening_42 (by decide) (fun _ => ?_) (fun g => absurd g (by decide))
        have e1 := hj (by omega) (by omega)
        have qa := har j (by omega)
        have qo := hoc j (by omega)
        have ql := hlc j (by omega)
        have qq := mul_bd (show 0 ≤ x2 by omega) (show x2 ≤ 1000 by omega) (show 0 ≤ x3 by omega) (show x3 ≤ 1000 by omega)
        refine lv_aload_n hx hb dM_opening_49 rfl (lv_at hl 1 rfl) ?_
        refine va_get (D := kD K) (ci := 4) (v := .ref (b + 2)) (C := RM) (T := FM) (N := 21) hx hb hts jnM hown hK hP 0 rfl rfl 3 (by decide) (hts _ mt_466) (fun _ h9 => h9) rfl dM_opening_50 ?_
        refine lv_iload_n hx hb dM_opening_53 rfl (lv_at hl 2 rfl) ?_
        refine iz_iald hx hb hK hP 2 rfl j e1 (by omega) (by omega) dM_opening_54 ?_
        refine iz_bipush hx hb dM_opening_55 (by decide) ?_
        refine iz_icmp_eq (tgt := 72) hx hb ⟨by omega, by omega⟩ ⟨by omega, by omega⟩ dM_opening_57 (by decide) (fun g4 => ?_) (fun g4 => ?_)
        · refine iz_iconst hx hb dM_opening_72 ?_
          refine lv_goto (tgt := 77) hx hb dM_opening_73 (by decide) ?_
          refine va_put (D := kD K) (ci := 4) (v := .int (iI 2)) (ty := .int) (C := RM) (T := FM) (N := 21) hx hb hts jnM tM tM_ok nM hown hK hP hD hS 0 rfl rfl 0 (by decide) (hts _ mt_463) (fun _ h9 => h9) rfl (by decide +kernel) rfl rfl (Nat.le_of_ble_eq_true rfl) dM_opening_77 ?_
          clear hP hD hS
          intro H locs hP hD hS
          replace hP : va_P (kD K) vcl [(b, .inr (4, [.int (iI 2), .int (iI (wn : Int)), .ref (b + 1), .ref (b + 2), .ref (b + 3), .ref (b + 4), .ref (b + 5), .ref (b + 6), .ref (b + 7), .ref (b + 8), .ref (b + 9), .long (lI co), .ref (b + 10), .ref (b + 11), .int (iI ln), .int (iI cu), .int (iI (pn : Int)), .ref (b + 12), .int (iI bc), .ref (b + 13), .ref (b + 14)])), (b + 1, .inl (kI K, 12, .inl (iA ar))), (b + 2, .inl (kI K, 12, .inl (iA oc))), (b + 3, .inl (kI K, 12, .inl (iA lc))), (b + 4, .inl (kI K, 96, .inl (iA st))), (b + 5, .inl (kI K, 96, .inl (iA tk))), (b + 6, .inl (kI K, 10, .inl (iA wa))), (b + 7, .inl (kI K, 10, .inl (iA pk))), (b + 8, .inl (kL K, 40, .inr (.inl (lA mu)))), (b + 9, .inl (kL K, 40, .inr (.inl (lA pr)))), (b + 10, .inl (kI K, 4, .inl (iA cn))), (b + 11, .inl (kI K, 4, .inl (iA bs))), (b + 12, .inl (kI K, 10, .inl (iA le))), (b + 13, .inl (kI K, 10, .inl (iA bb))), (b + 14, .inl (kI K, 10, .inl (iA ld)))] H := hP
          replace hD : va_D A [(b, .inr (4, [.int (iI 2), .int (iI (wn : Int)), .ref (b + 1), .ref (b + 2), .ref (b + 3), .ref (b + 4), .ref (b + 5), .ref (b + 6), .ref (b + 7), .ref (b + 8), .ref (b + 9), .long (lI co), .ref (b + 10), .ref (b + 11), .int (iI ln), .int (iI cu), .int (iI (pn : Int)), .ref (b + 12), .int (iI bc), .ref (b + 13), .ref (b + 14)])), (b + 1, .inl (kI K, 12, .inl (iA ar))), (b + 2, .inl (kI K, 12, .inl (iA oc))), (b + 3, .inl (kI K, 12, .inl (iA lc))), (b + 4, .inl (kI K, 96, .inl (iA st))), (b + 5, .inl (kI K, 96, .inl (iA tk))), (b + 6, .inl (kI K, 10, .inl (iA wa))), (b + 7, .inl (kI K, 10, .inl (iA pk))), (b + 8, .inl (kL K, 40, .inr (.inl (lA mu)))), (b + 9, .inl (kL K, 40, .inr (.inl (lA pr)))), (b + 10, .inl (kI K, 4, .inl (iA cn))), (b + 11, .inl (kI K, 4, .inl (iA bs))), (b + 12, .inl (kI K, 10, .inl (iA le))), (b + 13, .inl (kI K, 10, .inl (iA bb))), (b + 14, .inl (kI K, 10, .inl (iA ld)))] := hD
          refine lv_aload_n hx hb dM_opening_80 rfl (lv_at hl 1 rfl) ?_
          refine va_get (D := kD K) (ci := 4) (v := .int (iI 2)) (C := RM) (T := FM) (N := 21) hx hb hts jnM hown hK hP 0 rfl rfl 0 (by decide) (hts _ mt_463) (fun _ h9 => h9) rfl dM_opening_81 ?_
          refine iz_if_le (tgt := 89) hx hb ⟨by omega, by omega⟩ dM_opening_84 (by decide) (fun g => absurd g (by decide)) (fun _ => ?_)
          refine iz_iconst hx hb dM_opening_87 ?_
          rw [hQ]
          exact iz_iret hx hb hr hlocks (Or.inr (Or.inl ⟨by omega, by omega, hP⟩)) hS.2.2 dM_opening_88
        · refine lv_aload_n hx hb dM_opening_60 rfl (lv_at hl 1 rfl) ?_
          refine va_get (D := kD K) (ci := 4) (v := .ref (b + 1)) (C := RM) (T := FM) (N := 21) hx hb hts jnM hown hK hP 0 rfl rfl 2 (by decide) (hts _ mt_465) (fun _ h9 => h9) rfl dM_opening_61 ?_
          refine lv_iload_n hx hb dM_opening_64 rfl (lv_at hl 2 rfl) ?_
          refine iz_iald hx hb hK hP 1 rfl j e1 (by omega) (by omega) dM_opening_65 ?_
          refine lv_iload_n hx hb dM_opening_66 rfl (lv_at hl 3 rfl) ?_
          refine lv_iload_n hx hb dM_opening_67 rfl (lv_at hl 4 rfl) ?_
          refine iz_imul hx hb dM_opening_68 ?_
          refine iz_icmp_ge (tgt := 76) hx hb ⟨by omega, by omega⟩ ⟨by omega, by omega⟩ dM_opening_69 (by decide) (fun g5 => ?_) (fun g5 => ?_)
          · refine iz_iconst hx hb dM_opening_76 ?_
            refine va_put (D := kD K) (ci := 4) (v := .int (iI 0)) (ty := .int) (C := RM) (T := FM) (N := 21) hx hb hts jnM tM tM_ok nM hown hK hP hD hS 0 rfl rfl 0 (by decide) (hts _ mt_463) (fun _ h9 => h9) rfl (by decide +kernel) rfl rfl (Nat.le_of_ble_eq_true rfl) dM_opening_77 ?_
            clear hP hD hS
            intro H locs hP hD hS
            replace hP : va_P (kD K) vcl [(b, .inr (4, [.int (iI 0), .int (iI (wn : Int)), .ref (b + 1), .ref (b + 2), .ref (b + 3), .ref (b + 4), .ref (b + 5), .ref (b + 6), .ref (b + 7), .ref (b + 8), .ref (b + 9), .long (lI co), .ref (b + 10), .ref (b + 11), .int (iI ln), .int (iI cu), .int (iI (pn : Int)), .ref (b + 12), .int (iI bc), .ref (b + 13), .ref (b + 14)])), (b + 1, .inl (kI K, 12, .inl (iA ar))), (b + 2, .inl (kI K, 12, .inl (iA oc))), (b + 3, .inl (kI K, 12, .inl (iA lc))), (b + 4, .inl (kI K, 96, .inl (iA st))), (b + 5, .inl (kI K, 96, .inl (iA tk))), (b + 6, .inl (kI K, 10, .inl (iA wa))), (b + 7, .inl (kI K, 10, .inl (iA pk))), (b + 8, .inl (kL K, 40, .inr (.inl (lA mu)))), (b + 9, .inl (kL K, 40, .inr (.inl (lA pr)))), (b + 10, .inl (kI K, 4, .inl (iA cn))), (b + 11, .inl (kI K, 4, .inl (iA bs))), (b + 12, .inl (kI K, 10, .inl (iA le))), (b + 13, .inl (kI K, 10, .inl (iA bb))), (b + 14, .inl (kI K, 10, .inl (iA ld)))] H := hP
            replace hD : va_D A [(b, .inr (4, [.int (iI 0), .int (iI (wn : Int)), .ref (b + 1), .ref (b + 2), .ref (b + 3), .ref (b + 4), .ref (b + 5), .ref (b + 6), .ref (b + 7), .ref (b + 8), .ref (b + 9), .long (lI co), .ref (b + 10), .ref (b + 11), .int (iI ln), .int (iI cu), .int (iI (pn : Int)), .ref (b + 12), .int (iI bc), .ref (b + 13), .ref (b + 14)])), (b + 1, .inl (kI K, 12, .inl (iA ar))), (b + 2, .inl (kI K, 12, .inl (iA oc))), (b + 3, .inl (kI K, 12, .inl (iA lc))), (b + 4, .inl (kI K, 96, .inl (iA st))), (b + 5, .inl (kI K, 96, .inl (iA tk))), (b + 6, .inl (kI K, 10, .inl (iA wa))), (b + 7, .inl (kI K, 10, .inl (iA pk))), (b + 8, .inl (kL K, 40, .inr (.inl (lA mu)))), (b + 9, .inl (kL K, 40, .inr (.inl (lA pr)))), (b + 10, .inl (kI K, 4, .inl (iA cn))), (b + 11, .inl (kI K, 4, .inl (iA bs))), (b + 12, .inl (kI K, 10, .inl (iA le))), (b + 13, .inl (kI K, 10, .inl (iA bb))), (b + 14, .inl (kI K, 10, .inl (iA ld)))] := hD
            refine lv_aload_n hx hb dM_opening_80 rfl (lv_at hl 1 rfl) ?_
            refine va_get (D := kD K) (ci := 4) (v := .int (iI 0)) (C := RM) (T := FM) (N := 21) hx hb hts jnM hown hK hP 0 rfl rfl 0 (by decide) (hts _ mt_463) (fun _ h9 => h9) rfl dM_opening_81 ?_
            refine iz_if_le (tgt := 89) hx hb ⟨by omega, by omega⟩ dM_opening_84 (by decide) (fun _ => ?_) (fun g => absurd g (by decide))
            refine lv_aload_n hx hb dM_opening_89 rfl (lv_at hl 1 rfl) ?_
            refine va_get (D := kD K) (ci := 4) (v := .ref (b + 1)) (C := RM) (T := FM) (N := 21) hx hb hts jnM hown hK hP 0 rfl rfl 2 (by decide) (hts _ mt_465) (fun _ h9 => h9) rfl dM_opening_90 ?_
            refine lv_iload_n hx hb dM_opening_93 rfl (lv_at hl 2 rfl) ?_
            refine lv_dup2_11 hx hb dM_opening_94 rfl rfl ?_
            refine iz_iald hx hb hK hP 1 rfl j e1 (by omega) (by omega) dM_opening_95 ?_
            refine lv_iload_n hx hb dM_opening_96 rfl (lv_at hl 3 rfl) ?_
            refine lv_iload_n hx hb dM_opening_97 rfl (lv_at hl 4 rfl) ?_
            refine iz_imul hx hb dM_opening_98 ?_
            refine iz_isub hx hb dM_opening_99 ?_
            refine iz_iast hx hb hK hP hD hS 1 rfl j e1 (by omega) (by omega) dM_opening_100 ?_
            clear hP hD hS
            intro H locs hP hD hS
            replace hP : va_P (kD K) vcl [(b, .inr (4, [.int (iI 0), .int (iI (wn : Int)), .ref (b + 1), .ref (b + 2), .ref (b + 3), .ref (b + 4), .ref (b + 5), .ref (b + 6), .ref (b + 7), .ref (b + 8), .ref (b + 9), .long (lI co), .ref (b + 10), .ref (b + 11), .int (iI ln), .int (iI cu), .int (iI (pn : Int)), .ref (b + 12), .int (iI bc), .ref (b + 13), .ref (b + 14)])), (b + 1, .inl (kI K, 12, .inl (iA (ut ar j ((ar j) - (x2 * x3)))))), (b + 2, .inl (kI K, 12, .inl (iA oc))), (b + 3, .inl (kI K, 12, .inl (iA lc))), (b + 4, .inl (kI K, 96, .inl (iA st))), (b + 5, .inl (kI K, 96, .inl (iA tk))), (b + 6, .inl (kI K, 10, .inl (iA wa))), (b + 7, .inl (kI K, 10, .inl (iA pk))), (b + 8, .inl (kL K, 40, .inr (.inl (lA mu)))), (b + 9, .inl (kL K, 40, .inr (.inl (lA pr)))), (b + 10, .inl (kI K, 4, .inl (iA cn))), (b + 11, .inl (kI K, 4, .inl (iA bs))), (b + 12, .inl (kI K, 10, .inl (iA le))), (b + 13, .inl (kI K, 10, .inl (iA bb))), (b + 14, .inl (kI K, 10, .inl (iA ld)))] H := hP
            replace hD : va_D A [(b, .inr (4, [.int (iI 0), .int (iI (wn : Int)), .ref (b + 1), .ref (b + 2), .ref (b + 3), .ref (b + 4), .ref (b + 5), .ref (b + 6), .ref (b + 7), .ref (b + 8), .ref (b + 9), .long (lI co), .ref (b + 10), .ref (b + 11), .int (iI ln), .int (iI cu), .int (iI (pn : Int)), .ref (b + 12), .int (iI bc), .ref (b + 13), .ref (b + 14)])), (b + 1, .inl (kI K, 12, .inl (iA (ut ar j ((ar j) - (x2 * x3)))))), (b + 2, .inl (kI K, 12, .inl (iA oc))), (b + 3, .inl (kI K, 12, .inl (iA lc))), (b + 4, .inl (kI K, 96, .inl (iA st))), (b + 5, .inl (kI K, 96, .inl (iA tk))), (b + 6, .inl (kI K, 10, .inl (iA wa))), (b + 7, .inl (kI K, 10, .inl (iA pk))), (b + 8, .inl (kL K, 40, .inr (.inl (lA mu)))), (b + 9, .inl (kL K, 40, .inr (.inl (lA pr)))), (b + 10, .inl (kI K, 4, .inl (iA cn))), (b + 11, .inl (kI K, 4, .inl (iA bs))), (b + 12, .inl (kI K, 10, .inl (iA le))), (b + 13, .inl (kI K, 10, .inl (iA bb))), (b + 14, .inl (kI K, 10, .inl (iA ld)))] := hD
            refine lv_aload_n hx hb dM_opening_101 rfl (lv_at hl 1 rfl) ?_
            refine va_get (D := kD K) (ci := 4) (v := .ref (b + 2)) (C := RM) (T := FM) (N := 21) hx hb hts jnM hown hK hP 0 rfl rfl 3 (by decide) (hts _ mt_466) (fun _ h9 => h9) rfl dM_opening_102 ?_
            refine lv_iload_n hx hb dM_opening_105 rfl (lv_at hl 2 rfl) ?_
            refine lv_dup2_11 hx hb dM_opening_106 rfl rfl ?_
            refine iz_iald hx hb hK hP 2 rfl j e1 (by omega) (by omega) dM_opening_107 ?_
            refine iz_iconst hx hb dM_opening_108 ?_
            refine iz_iadd hx hb dM_opening_109 ?_
            refine iz_iast hx hb hK hP hD hS 2 rfl j e1 (by omega) (by omega) dM_opening_110 ?_
            clear hP hD hS
            intro H locs hP hD hS
            replace hP : va_P (kD K) vcl [(b, .inr (4, [.int (iI 0), .int (iI (wn : Int)), .ref (b + 1), .ref (b + 2), .ref (b + 3), .ref (b + 4), .ref (b + 5), .ref (b + 6), .ref (b + 7), .ref (b + 8), .ref (b + 9), .long (lI co), .ref (b + 10), .ref (b + 11), .int (iI ln), .int (iI cu), .int (iI (pn : Int)), .ref (b + 12), .int (iI bc), .ref (b + 13), .ref (b + 14)])), (b + 1, .inl (kI K, 12, .inl (iA (ut ar j ((ar j) - (x2 * x3)))))), (b + 2, .inl (kI K, 12, .inl (iA (ut oc j ((oc j) + 1))))), (b + 3, .inl (kI K, 12, .inl (iA lc))), (b + 4, .inl (kI K, 96, .inl (iA st))), (b + 5, .inl (kI K, 96, .inl (iA tk))), (b + 6, .inl (kI K, 10, .inl (iA wa))), (b + 7, .inl (kI K, 10, .inl (iA pk))), (b + 8, .inl (kL K, 40, .inr (.inl (lA mu)))), (b + 9, .inl (kL K, 40, .inr (.inl (lA pr)))), (b + 10, .inl (kI K, 4, .inl (iA cn))), (b + 11, .inl (kI K, 4, .inl (iA bs))), (b + 12, .inl (kI K, 10, .inl (iA le))), (b + 13, .inl (kI K, 10, .inl (iA bb))), (b + 14, .inl (kI K, 10, .inl (iA ld)))] H := hP
            replace hD : va_D A [(b, .inr (4, [.int (iI 0), .int (iI (wn : Int)), .ref (b + 1), .ref (b + 2), .ref (b + 3), .ref (b + 4), .ref (b + 5), .ref (b + 6), .ref (b + 7), .ref (b + 8), .ref (b + 9), .long (lI co), .ref (b + 10), .ref (b + 11), .int (iI ln), .int (iI cu), .int (iI (pn : Int)), .ref (b + 12), .int (iI bc), .ref (b + 13), .ref (b + 14)])), (b + 1, .inl (kI K, 12, .inl (iA (ut ar j ((ar j) - (x2 * x3)))))), (b + 2, .inl (kI K, 12, .inl (iA (ut oc j ((oc j) + 1))))), (b + 3, .inl (kI K, 12, .inl (iA lc))), (b + 4, .inl (kI K, 96, .inl (iA st))), (b + 5, .inl (kI K, 96, .inl (iA tk))), (b + 6, .inl (kI K, 10, .inl (iA wa))), (b + 7, .inl (kI K, 10, .inl (iA pk))), (b + 8, .inl (kL K, 40, .inr (.inl (lA mu)))), (b + 9, .inl (kL K, 40, .inr (.inl (lA pr)))), (b + 10, .inl (kI K, 4, .inl (iA cn))), (b + 11, .inl (kI K, 4, .inl (iA bs))), (b + 12, .inl (kI K, 10, .inl (iA le))), (b + 13, .inl (kI K, 10, .inl (iA bb))), (b + 14, .inl (kI K, 10, .inl (iA ld)))] := hD
            refine lv_aload_n hx hb dM_opening_111 rfl (lv_at hl 1 rfl) ?_
            refine va_get (D := kD K) (ci := 4) (v := .ref (b + 1)) (C := RM) (T := FM) (N := 21) hx hb hts jnM hown hK hP 0 rfl rfl 2 (by decide) (hts _ mt_465) (fun _ h9 => h9) rfl dM_opening_112 ?_
            refine lv_iload_n hx hb dM_opening_115 rfl (lv_at hl 2 rfl) ?_
            refine iz_iald hx hb hK hP 1 rfl j e1 (by omega) (by omega) dM_opening_116 ?_
            rw [hQ]
            exact iz_iret hx hb hr hlocks (Or.inr (Or.inr ⟨by omega, by omega, ut_s _ _ _, hP⟩)) hS.2.2 dM_opening_117
          · refine iz_iconst hx hb dM_opening_72 ?_
            refine lv_goto (tgt := 77) hx hb dM_opening_73 (by decide) ?_
            refine va_put (D := kD K) (ci := 4) (v := .int (iI 2)) (ty := .int) (C := RM) (T := FM) (N := 21) hx hb hts jnM tM tM_ok nM hown hK hP hD hS 0 rfl rfl 0 (by decide) (hts _ mt_463) (fun _ h9 => h9) rfl (by decide +kernel) rfl rfl (Nat.le_of_ble_eq_true rfl) dM_opening_77 ?_
            clear hP hD hS
            intro H locs hP hD hS
            replace hP : va_P (kD K) vcl [(b, .inr (4, [.int (iI 2), .int (iI (wn : Int)), .ref (b + 1), .ref (b + 2), .ref (b + 3), .ref (b + 4), .ref (b + 5), .ref (b + 6), .ref (b + 7), .ref (b + 8), .ref (b + 9), .long (lI co), .ref (b + 10), .ref (b + 11), .int (iI ln), .int (iI cu), .int (iI (pn : Int)), .ref (b + 12), .int (iI bc), .ref (b + 13), .ref (b + 14)])), (b + 1, .inl (kI K, 12, .inl (iA ar))), (b + 2, .inl (kI K, 12, .inl (iA oc))), (b + 3, .inl (kI K, 12, .inl (iA lc))), (b + 4, .inl (kI K, 96, .inl (iA st))), (b + 5, .inl (kI K, 96, .inl (iA tk))), (b + 6, .inl (kI K, 10, .inl (iA wa))), (b + 7, .inl (kI K, 10, .inl (iA pk))), (b + 8, .inl (kL K, 40, .inr (.inl (lA mu)))), (b + 9, .inl (kL K, 40, .inr (.inl (lA pr)))), (b + 10, .inl (kI K, 4, .inl (iA cn))), (b + 11, .inl (kI K, 4, .inl (iA bs))), (b + 12, .inl (kI K, 10, .inl (iA le))), (b + 13, .inl (kI K, 10, .inl (iA bb))), (b + 14, .inl (kI K, 10, .inl (iA ld)))] H := hP
            replace hD : va_D A [(b, .inr (4, [.int (iI 2), .int (iI (wn : Int)), .ref (b + 1), .ref (b + 2), .ref (b + 3), .ref (b + 4), .ref (b + 5), .ref (b + 6), .ref (b + 7), .ref (b + 8), .ref (b + 9), .long (lI co), .ref (b + 10), .ref (b + 11), .int (iI ln), .int (iI cu), .int (iI (pn : Int)), .ref (b + 12), .int (iI bc), .ref (b + 13), .ref (b + 14)])), (b + 1, .inl (kI K, 12, .inl (iA ar))), (b + 2, .inl (kI K, 12, .inl (iA oc))), (b + 3, .inl (kI K, 12, .inl (iA lc))), (b + 4, .inl (kI K, 96, .inl (iA st))), (b + 5, .inl (kI K, 96, .inl (iA tk))), (b + 6, .inl (kI K, 10, .inl (iA wa))), (b + 7, .inl (kI K, 10, .inl (iA pk))), (b + 8, .inl (kL K, 40, .inr (.inl (lA mu)))), (b + 9, .inl (kL K, 40, .inr (.inl (lA pr)))), (b + 10, .inl (kI K, 4, .inl (iA cn))), (b + 11, .inl (kI K, 4, .inl (iA bs))), (b + 12, .inl (kI K, 10, .inl (iA le))), (b + 13, .inl (kI K, 10, .inl (iA bb))), (b + 14, .inl (kI K, 10, .inl (iA ld)))] := hD
            refine lv_aload_n hx hb dM_opening_80 rfl (lv_at hl 1 rfl) ?_
            refine va_get (D := kD K) (ci := 4) (v := .int (iI 2)) (C := RM) (T := FM) (N := 21) hx hb hts jnM hown hK hP 0 rfl rfl 0 (by decide) (hts _ mt_463) (fun _ h9 => h9) rfl dM_opening_81 ?_
            refine iz_if_le (tgt := 89) hx hb ⟨by omega, by omega⟩ dM_opening_84 (by decide) (fun g => absurd g (by decide)) (fun _ => ?_)
            refine iz_iconst hx hb dM_opening_87 ?_
            rw [hQ]
            exact iz_iret hx hb hr hlocks (Or.inr (Or.inl ⟨by omega, by omega, hP⟩)) hS.2.2 dM_opening_88
      · refine iz_if_eq (tgt := 36) hx hb ⟨by omega, by omega⟩ dM_opening_29 (by decide) (fun _ => ?_) (fun g => absurd g (by decide))
        refine iz_iconst hx hb dM_opening_36 ?_
        refine lv_istore (lv' := [(4, .int (iI 0)), (0, .ref b), (1, .int (iI x1)), (2, .int (iI x2)), (3, .int (iI x3))]) hx hb dM_opening_37 hl (by decide) rfl (fun ls hl => ?_)
        refine lv_aload_n hx hb dM_opening_39 rfl (lv_at hl 1 rfl) ?_
        refine lv_iload hx hb dM_opening_40 (lv_at hl 0 rfl) ?_
        refine iz_if_ne (tgt := 49) hx hb ⟨by omega, by omega⟩ dM_opening_42 (by decide) (fun g => absurd g (by decide)) (fun _ => ?_)
        refine iz_iconst hx hb dM_opening_45 ?_
        refine lv_goto (tgt := 77) hx hb dM_opening_46 (by decide) ?_
        refine va_put (D := kD K) (ci := 4) (v := .int (iI 1)) (ty := .int) (C := RM) (T := FM) (N := 21) hx hb hts jnM tM tM_ok nM hown hK hP hD hS 0 rfl rfl 0 (by decide) (hts _ mt_463) (fun _ h9 => h9) rfl (by decide +kernel) rfl rfl (Nat.le_of_ble_eq_true rfl) dM_opening_77 ?_
        clear hP hD hS
        intro H locs hP hD hS
        replace hP : va_P (kD K) vcl [(b, .inr (4, [.int (iI 1), .int (iI (wn : Int)), .ref (b + 1), .ref (b + 2), .ref (b + 3), .ref (b + 4), .ref (b + 5), .ref (b + 6), .ref (b + 7), .ref (b + 8), .ref (b + 9), .long (lI co), .ref (b + 10), .ref (b + 11), .int (iI ln), .int (iI cu), .int (iI (pn : Int)), .ref (b + 12), .int (iI bc), .ref (b + 13), .ref (b + 14)])), (b + 1, .inl (kI K, 12, .inl (iA ar))), (b + 2, .inl (kI K, 12, .inl (iA oc))), (b + 3, .inl (kI K, 12, .inl (iA lc))), (b + 4, .inl (kI K, 96, .inl (iA st))), (b + 5, .inl (kI K, 96, .inl (iA tk))), (b + 6, .inl (kI K, 10, .inl (iA wa))), (b + 7, .inl (kI K, 10, .inl (iA pk))), (b + 8, .inl (kL K, 40, .inr (.inl (lA mu)))), (b + 9, .inl (kL K, 40, .inr (.inl (lA pr)))), (b + 10, .inl (kI K, 4, .inl (iA cn))), (b + 11, .inl (kI K, 4, .inl (iA bs))), (b + 12, .inl (kI K, 10, .inl (iA le))), (b + 13, .inl (kI K, 10, .inl (iA bb))), (b + 14, .inl (kI K, 10, .inl (iA ld)))] H := hP
        replace hD : va_D A [(b, .inr (4, [.int (iI 1), .int (iI (wn : Int)), .ref (b + 1), .ref (b + 2), .ref (b + 3), .ref (b + 4), .ref (b + 5), .ref (b + 6), .ref (b + 7), .ref (b + 8), .ref (b + 9), .long (lI co), .ref (b + 10), .ref (b + 11), .int (iI ln), .int (iI cu), .int (iI (pn : Int)), .ref (b + 12), .int (iI bc), .ref (b + 13), .ref (b + 14)])), (b + 1, .inl (kI K, 12, .inl (iA ar))), (b + 2, .inl (kI K, 12, .inl (iA oc))), (b + 3, .inl (kI K, 12, .inl (iA lc))), (b + 4, .inl (kI K, 96, .inl (iA st))), (b + 5, .inl (kI K, 96, .inl (iA tk))), (b + 6, .inl (kI K, 10, .inl (iA wa))), (b + 7, .inl (kI K, 10, .inl (iA pk))), (b + 8, .inl (kL K, 40, .inr (.inl (lA mu)))), (b + 9, .inl (kL K, 40, .inr (.inl (lA pr)))), (b + 10, .inl (kI K, 4, .inl (iA cn))), (b + 11, .inl (kI K, 4, .inl (iA bs))), (b + 12, .inl (kI K, 10, .inl (iA le))), (b + 13, .inl (kI K, 10, .inl (iA bb))), (b + 14, .inl (kI K, 10, .inl (iA ld)))] := hD
        refine lv_aload_n hx hb dM_opening_80 rfl (lv_at hl 1 rfl) ?_
        refine va_get (D := kD K) (ci := 4) (v := .int (iI 1)) (C := RM) (T := FM) (N := 21) hx hb hts jnM hown hK hP 0 rfl rfl 0 (by decide) (hts _ mt_463) (fun _ h9 => h9) rfl dM_opening_81 ?_
        refine iz_if_le (tgt := 89) hx hb ⟨by omega, by omega⟩ dM_opening_84 (by decide) (fun g => absurd g (by decide)) (fun _ => ?_)
        refine iz_iconst hx hb dM_opening_87 ?_
        rw [hQ]
        exact iz_iret hx hb hr hlocks (Or.inl ⟨by omega, hP⟩) hS.2.2 dM_opening_88
    · refine iz_if_eq (tgt := 36) hx hb ⟨by omega, by omega⟩ dM_opening_17 (by decide) (fun _ => ?_) (fun g => absurd g (by decide))
      refine iz_iconst hx hb dM_opening_36 ?_
      refine lv_istore (lv' := [(4, .int (iI 0)), (0, .ref b), (1, .int (iI x1)), (2, .int (iI x2)), (3, .int (iI x3))]) hx hb dM_opening_37 hl (by decide) rfl (fun ls hl => ?_)
      refine lv_aload_n hx hb dM_opening_39 rfl (lv_at hl 1 rfl) ?_
      refine lv_iload hx hb dM_opening_40 (lv_at hl 0 rfl) ?_
      refine iz_if_ne (tgt := 49) hx hb ⟨by omega, by omega⟩ dM_opening_42 (by decide) (fun g => absurd g (by decide)) (fun _ => ?_)
      refine iz_iconst hx hb dM_opening_45 ?_
      refine lv_goto (tgt := 77) hx hb dM_opening_46 (by decide) ?_
      refine va_put (D := kD K) (ci := 4) (v := .int (iI 1)) (ty := .int) (C := RM) (T := FM) (N := 21) hx hb hts jnM tM tM_ok nM hown hK hP hD hS 0 rfl rfl 0 (by decide) (hts _ mt_463) (fun _ h9 => h9) rfl (by decide +kernel) rfl rfl (Nat.le_of_ble_eq_true rfl) dM_opening_77 ?_
      clear hP hD hS
      intro H locs hP hD hS
      replace hP : va_P (kD K) vcl [(b, .inr (4, [.int (iI 1), .int (iI (wn : Int)), .ref (b + 1), .ref (b + 2), .ref (b + 3), .ref (b + 4), .ref (b + 5), .ref (b + 6), .ref (b + 7), .ref (b + 8), .ref (b + 9), .long (lI co), .ref (b + 10), .ref (b + 11), .int (iI ln), .int (iI cu), .int (iI (pn : Int)), .ref (b + 12), .int (iI bc), .ref (b + 13), .ref (b + 14)])), (b + 1, .inl (kI K, 12, .inl (iA ar))), (b + 2, .inl (kI K, 12, .inl (iA oc))), (b + 3, .inl (kI K, 12, .inl (iA lc))), (b + 4, .inl (kI K, 96, .inl (iA st))), (b + 5, .inl (kI K, 96, .inl (iA tk))), (b + 6, .inl (kI K, 10, .inl (iA wa))), (b + 7, .inl (kI K, 10, .inl (iA pk))), (b + 8, .inl (kL K, 40, .inr (.inl (lA mu)))), (b + 9, .inl (kL K, 40, .inr (.inl (lA pr)))), (b + 10, .inl (kI K, 4, .inl (iA cn))), (b + 11, .inl (kI K, 4, .inl (iA bs))), (b + 12, .inl (kI K, 10, .inl (iA le))), (b + 13, .inl (kI K, 10, .inl (iA bb))), (b + 14, .inl (kI K, 10, .inl (iA ld)))] H := hP
      replace hD : va_D A [(b, .inr (4, [.int (iI 1), .int (iI (wn : Int)), .ref (b + 1), .ref (b + 2), .ref (b + 3), .ref (b + 4), .ref (b + 5), .ref (b + 6), .ref (b + 7), .ref (b + 8), .ref (b + 9), .long (lI co), .ref (b + 10), .ref (b + 11), .int (iI ln), .int (iI cu), .int (iI (pn : Int)), .ref (b + 12), .int (iI bc), .ref (b + 13), .ref (b + 14)])), (b + 1, .inl (kI K, 12, .inl (iA ar))), (b + 2, .inl (kI K, 12, .inl (iA oc))), (b + 3, .inl (kI K, 12, .inl (iA lc))), (b + 4, .inl (kI K, 96, .inl (iA st))), (b + 5, .inl (kI K, 96, .inl (iA tk))), (b + 6, .inl (kI K, 10, .inl (iA wa))), (b + 7, .inl (kI K, 10, .inl (iA pk))), (b + 8, .inl (kL K, 40, .inr (.inl (lA mu)))), (b + 9, .inl (kL K, 40, .inr (.inl (lA pr)))), (b + 10, .inl (kI K, 4, .inl (iA cn))), (b + 11, .inl (kI K, 4, .inl (iA bs))), (b + 12, .inl (kI K, 10, .inl (iA le))), (b + 13, .inl (kI K, 10, .inl (iA bb))), (b + 14, .inl (kI K, 10, .inl (iA ld)))] := hD
      refine lv_aload_n hx hb dM_opening_80 rfl (lv_at hl 1 rfl) ?_
      refine va_get (D := kD K) (ci := 4) (v := .int (iI 1)) (C := RM) (T := FM) (N := 21) hx hb hts jnM hown hK hP 0 rfl rfl 0 (by decide) (hts _ mt_463) (fun _ h9 => h9) rfl dM_opening_81 ?_
      refine iz_if_le (tgt := 89) hx hb ⟨by omega, by omega⟩ dM_opening_84 (by decide) (fun g => absurd g (by decide)) (fun _ => ?_)
      refine iz_iconst hx hb dM_opening_87 ?_
      rw [hQ]
      exact iz_iret hx hb hr hlocks (Or.inl ⟨by omega, hP⟩) hS.2.2 dM_opening_88
  · refine iz_if_eq (tgt := 36) hx hb ⟨by omega, by omega⟩ dM_opening_5 (by decide) (fun _ => ?_) (fun g => absurd g (by decide))
    refine iz_iconst hx hb dM_opening_36 ?_
    refine lv_istore (lv' := [(4, .int (iI 0)), (0, .ref b), (1, .int (iI x1)), (2, .int (iI x2)), (3, .int (iI x3))]) hx hb dM_opening_37 hl (by decide) rfl (fun ls hl => ?_)
    refine lv_aload_n hx hb dM_opening_39 rfl (lv_at hl 1 rfl) ?_
    refine lv_iload hx hb dM_opening_40 (lv_at hl 0 rfl) ?_
    refine iz_if_ne (tgt := 49) hx hb ⟨by omega, by omega⟩ dM_opening_42 (by decide) (fun g => absurd g (by decide)) (fun _ => ?_)
    refine iz_iconst hx hb dM_opening_45 ?_
    refine lv_goto (tgt := 77) hx hb dM_opening_46 (by decide) ?_
    refine va_put (D := kD K) (ci := 4) (v := .int (iI 1)) (ty := .int) (C := RM) (T := FM) (N := 21) hx hb hts jnM tM tM_ok nM hown hK hP hD hS 0 rfl rfl 0 (by decide) (hts _ mt_463) (fun _ h9 => h9) rfl (by decide +kernel) rfl rfl (Nat.le_of_ble_eq_true rfl) dM_opening_77 ?_
    clear hP hD hS
    intro H locs hP hD hS
    replace hP : va_P (kD K) vcl [(b, .inr (4, [.int (iI 1), .int (iI (wn : Int)), .ref (b + 1), .ref (b + 2), .ref (b + 3), .ref (b + 4), .ref (b + 5), .ref (b + 6), .ref (b + 7), .ref (b + 8), .ref (b + 9), .long (lI co), .ref (b + 10), .ref (b + 11), .int (iI ln), .int (iI cu), .int (iI (pn : Int)), .ref (b + 12), .int (iI bc), .ref (b + 13), .ref (b + 14)])), (b + 1, .inl (kI K, 12, .inl (iA ar))), (b + 2, .inl (kI K, 12, .inl (iA oc))), (b + 3, .inl (kI K, 12, .inl (iA lc))), (b + 4, .inl (kI K, 96, .inl (iA st))), (b + 5, .inl (kI K, 96, .inl (iA tk))), (b + 6, .inl (kI K, 10, .inl (iA wa))), (b + 7, .inl (kI K, 10, .inl (iA pk))), (b + 8, .inl (kL K, 40, .inr (.inl (lA mu)))), (b + 9, .inl (kL K, 40, .inr (.inl (lA pr)))), (b + 10, .inl (kI K, 4, .inl (iA cn))), (b + 11, .inl (kI K, 4, .inl (iA bs))), (b + 12, .inl (kI K, 10, .inl (iA le))), (b + 13, .inl (kI K, 10, .inl (iA bb))), (b + 14, .inl (kI K, 10, .inl (iA ld)))] H := hP
    replace hD : va_D A [(b, .inr (4, [.int (iI 1), .int (iI (wn : Int)), .ref (b + 1), .ref (b + 2), .ref (b + 3), .ref (b + 4), .ref (b + 5), .ref (b + 6), .ref (b + 7), .ref (b + 8), .ref (b + 9), .long (lI co), .ref (b + 10), .ref (b + 11), .int (iI ln), .int (iI cu), .int (iI (pn : Int)), .ref (b + 12), .int (iI bc), .ref (b + 13), .ref (b + 14)])), (b + 1, .inl (kI K, 12, .inl (iA ar))), (b + 2, .inl (kI K, 12, .inl (iA oc))), (b + 3, .inl (kI K, 12, .inl (iA lc))), (b + 4, .inl (kI K, 96, .inl (iA st))), (b + 5, .inl (kI K, 96, .inl (iA tk))), (b + 6, .inl (kI K, 10, .inl (iA wa))), (b + 7, .inl (kI K, 10, .inl (iA pk))), (b + 8, .inl (kL K, 40, .inr (.inl (lA mu)))), (b + 9, .inl (kL K, 40, .inr (.inl (lA pr)))), (b + 10, .inl (kI K, 4, .inl (iA cn))), (b + 11, .inl (kI K, 4, .inl (iA bs))), (b + 12, .inl (kI K, 10, .inl (iA le))), (b + 13, .inl (kI K, 10, .inl (iA bb))), (b + 14, .inl (kI K, 10, .inl (iA ld)))] := hD
    refine lv_aload_n hx hb dM_opening_80 rfl (lv_at hl 1 rfl) ?_
    refine va_get (D := kD K) (ci := 4) (v := .int (iI 1)) (C := RM) (T := FM) (N := 21) hx hb hts jnM hown hK hP 0 rfl rfl 0 (by decide) (hts _ mt_463) (fun _ h9 => h9) rfl dM_opening_81 ?_
    refine iz_if_le (tgt := 89) hx hb ⟨by omega, by omega⟩ dM_opening_84 (by decide) (fun g => absurd g (by decide)) (fun _ => ?_)
    refine iz_iconst hx hb dM_opening_87 ?_
    rw [hQ]
    exact iz_iret hx hb hr hlocks (Or.inl ⟨by omega, hP⟩) hS.2.2 dM_opening_88
abbrev rmM_layer : Room := { frames := 2, cells := 0, slots := 0, locals := 80 }
set_option maxHeartbeats 4000000 in
set_option maxRecDepth 100000 in
/-- layer(wall, stuff, thickness) -/
theorem c_M_layer (l : Launch) (K : KG) (b : Nat) (cd : Int) (wn : Nat) (ar oc lc st tk wa pk mu pr : Nat → Int) (co : Int) (cn bs : Nat → Int) (ln cu : Int) (pn : Nat) (le : Nat → Int) (bc : Int) (bb ld : Nat → Int) (j : Nat) (x1 x2 x3 : Int) (h1 : r32 x1) (h2 : r32 x2) (h3 : r32 x3) (hn : wn ≤ 12) (hj : 0 ≤ x1 → x1 < wn → x1 = j) (har : ∀ i, i < 12 → 0 ≤ ar i ∧ ar i ≤ 1000000) (hoc : ∀ i, i < 12 → 0 ≤ oc i ∧ oc i ≤ 6) (hlc : ∀ i, i < 12 → 0 ≤ lc i ∧ lc i ≤ 8) : Ct l yM_layer kM_layer rmM_layer (PC K [.ref b, .int (iI x1), .int (iI x2), .int (iI x3)] (fun H => va_P (kD K) vcl (mdW K b cd wn ar oc lc st tk wa pk mu pr co cn bs ln cu pn le bc bb ld) H)) (QI (fun r H => (¬ ((0 ≤ x1 ∧ x1 < wn) ∧ (0 ≤ x2 ∧ x2 < 10) ∧ (1 ≤ x3 ∧ x3 ≤ 500)) ∧ va_P (kD K) vcl (mdW K b 1 wn ar oc lc st tk wa pk mu pr co cn bs ln cu pn le bc bb ld) H) ∨ (((0 ≤ x1 ∧ x1 < wn) ∧ (0 ≤ x2 ∧ x2 < 10) ∧ (1 ≤ x3 ∧ x3 ≤ 500)) ∧ ¬ (lc j < 8) ∧ va_P (kD K) vcl (mdW K b 2 wn ar oc lc st tk wa pk mu pr co cn bs ln cu pn le bc bb ld) H) ∨ (((0 ≤ x1 ∧ x1 < wn) ∧ (0 ≤ x2 ∧ x2 < 10) ∧ (1 ≤ x3 ∧ x3 ≤ 500)) ∧ (lc j < 8) ∧ r = lc j + 1 ∧ va_P (kD K) vcl (mdW K b 0 wn ar oc (ut lc j (lc j + 1)) (ut st (8 * j + (lc j).toNat) x2) (ut tk (8 * j + (lc j).toNat) x3) wa pk mu pr co cn bs ln cu pn le bc bb ld) H))) (fun x => b ≤ x ∧ x < b + 15) := by
  refine ct_of (by decide) (Or.inl ⟨rfl, rfl⟩) ?_
  intro p e s m args below meth c B0 hP0
  obtain ⟨hx, hb, hr, hml, hown, hlocks, hnm, htab⟩ := B0
  obtain ⟨ha, ⟨hT, hK⟩, hB⟩ := hP0
  have hl := lv_entry ([.ref b, .int (iI x1), .int (iI x2), .int (iI x3)]) (n := 4) (Nat.le_of_ble_eq_true rfl)
  obtain ⟨Q, hQ⟩ : ∃ Q, Q = XQ below (QI (fun r H => (¬ ((0 ≤ x1 ∧ x1 < wn) ∧ (0 ≤ x2 ∧ x2 < 10) ∧ (1 ≤ x3 ∧ x3 ≤ 500)) ∧ va_P (kD K) vcl (mdW K b 1 wn ar oc lc st tk wa pk mu pr co cn bs ln cu pn le bc bb ld) H) ∨ (((0 ≤ x1 ∧ x1 < wn) ∧ (0 ≤ x2 ∧ x2 < 10) ∧ (1 ≤ x3 ∧ x3 ≤ 500)) ∧ ¬ (lc j < 8) ∧ va_P (kD K) vcl (mdW K b 2 wn ar oc lc st tk wa pk mu pr co cn bs ln cu pn le bc bb ld) H) ∨ (((0 ≤ x1 ∧ x1 < wn) ∧ (0 ≤ x2 ∧ x2 < 10) ∧ (1 ≤ x3 ∧ x3 ≤ 500)) ∧ (lc j < 8) ∧ r = lc j + 1 ∧ va_P (kD K) vcl (mdW K b 0 wn ar oc (ut lc j (lc j + 1)) (ut st (8 * j + (lc j).toNat) x2) (ut tk (8 * j + (lc j).toNat) x3) wa pk mu pr co cn bs ln cu pn le bc bb ld) H))) args s rmM_layer.cells rmM_layer.slots (fun x => b ≤ x ∧ x < b + 15) := ⟨_, rfl⟩
  rw [← hQ, ha, lg_entry_eq]
  rw [ha] at hQ
  generalize (lg_sl ([.ref b, .int (iI x1), .int (iI x2), .int (iI x3)]) ++ List.replicate (4 - (lg_sl ([.ref b, .int (iI x1), .int (iI x2), .int (iI x3)])).length) Slot.unset).toArray = ls at hl ⊢
  generalize ([.ref b, .int (iI x1), .int (iI x2), .int (iI x3)] : List Value).toArray = args at hQ ⊢
  have hts : ∀ w ∈ TW, w.before args s = true := fun w h => hT w h args
  have hl : lv_has ls 4 [(0, .ref b), (1, .int (iI x1)), (2, .int (iI x2)), (3, .int (iI x3))] := hl
  obtain ⟨A, hAe⟩ : ∃ A : Addr → Prop, A = (fun x => b ≤ x ∧ x < b + 15) := ⟨_, rfl⟩
  rw [← hAe] at hQ
  have hS : va_S A s.heap s.heap [] := va_S.rf
  have hP : va_P (kD K) vcl [(b, .inr (4, [.int (iI cd), .int (iI (wn : Int)), .ref (b + 1), .ref (b + 2), .ref (b + 3), .ref (b + 4), .ref (b + 5), .ref (b + 6), .ref (b + 7), .ref (b + 8), .ref (b + 9), .long (lI co), .ref (b + 10), .ref (b + 11), .int (iI ln), .int (iI cu), .int (iI (pn : Int)), .ref (b + 12), .int (iI bc), .ref (b + 13), .ref (b + 14)])), (b + 1, .inl (kI K, 12, .inl (iA ar))), (b + 2, .inl (kI K, 12, .inl (iA oc))), (b + 3, .inl (kI K, 12, .inl (iA lc))), (b + 4, .inl (kI K, 96, .inl (iA st))), (b + 5, .inl (kI K, 96, .inl (iA tk))), (b + 6, .inl (kI K, 10, .inl (iA wa))), (b + 7, .inl (kI K, 10, .inl (iA pk))), (b + 8, .inl (kL K, 40, .inr (.inl (lA mu)))), (b + 9, .inl (kL K, 40, .inr (.inl (lA pr)))), (b + 10, .inl (kI K, 4, .inl (iA cn))), (b + 11, .inl (kI K, 4, .inl (iA bs))), (b + 12, .inl (kI K, 10, .inl (iA le))), (b + 13, .inl (kI K, 10, .inl (iA bb))), (b + 14, .inl (kI K, 10, .inl (iA ld)))] s.heap := hB
  have hD : va_D A [(b, .inr (4, [.int (iI cd), .int (iI (wn : Int)), .ref (b + 1), .ref (b + 2), .ref (b + 3), .ref (b + 4), .ref (b + 5), .ref (b + 6), .ref (b + 7), .ref (b + 8), .ref (b + 9), .long (lI co), .ref (b + 10), .ref (b + 11), .int (iI ln), .int (iI cu), .int (iI (pn : Int)), .ref (b + 12), .int (iI bc), .ref (b + 13), .ref (b + 14)])), (b + 1, .inl (kI K, 12, .inl (iA ar))), (b + 2, .inl (kI K, 12, .inl (iA oc))), (b + 3, .inl (kI K, 12, .inl (iA lc))), (b + 4, .inl (kI K, 96, .inl (iA st))), (b + 5, .inl (kI K, 96, .inl (iA tk))), (b + 6, .inl (kI K, 10, .inl (iA wa))), (b + 7, .inl (kI K, 10, .inl (iA pk))), (b + 8, .inl (kL K, 40, .inr (.inl (lA mu)))), (b + 9, .inl (kL K, 40, .inr (.inl (lA pr)))), (b + 10, .inl (kI K, 4, .inl (iA cn))), (b + 11, .inl (kI K, 4, .inl (iA bs))), (b + 12, .inl (kI K, 10, .inl (iA le))), (b + 13, .inl (kI K, 10, .inl (iA bb))), (b + 14, .inl (kI K, 10, .inl (iA ld)))] := by rw [hAe]; exact va_D_of (by simp) (by simp <;> omega)
  refine lv_aload_n hx hb dM_layer_0 rfl (lv_at hl 0 rfl) ?_
  refine lv_aload_n hx hb dM_layer_1 rfl (lv_at hl 0 rfl) ?_
  refine lv_iload_n hx hb dM_layer_2 rfl (lv_at hl 1 rfl) ?_
  refine ctV (n := 1) hx hb hml hown hT ⟨c_M_isWall l K b cd wn ar oc lc st tk wa pk mu pr co cn bs ln cu pn le bc bb ld x1 ⟨by omega, by omega⟩ (by omega), ⟨_, _, _, Or.inl ⟨rfl, rfl⟩⟩, mt_547, mt_5, by decide, by decide +kernel, by decide, by decide, by decide, by decide⟩ PC.blind mt_544 mt_546 ms_22 (va_RVof (ci := 4) (q0 := 0) hK hP rfl rfl) (As := [.int (iI x1)]) (rest := [.ref b]) rfl (PC.at ⟨hT, hK⟩ hP) hl.1 rfl (Nat.le_of_ble_eq_true rfl) dM_layer_3 (krI0 rfl rfl (fun _ h => h) (fun r g1 => ?_))
  rcases g1 with ⟨rfl, g1⟩ | ⟨rfl, g1⟩
  · refine iz_if_eq (tgt := 28) hx hb ⟨by omega, by omega⟩ dM_layer_6 (by decide) (fun g => absurd g (by decide)) (fun _ => ?_)
    refine lv_iload_n hx hb dM_layer_9 rfl (lv_at hl 2 rfl) ?_
    refine ctS (n := 1) hx hb hml hown hT ⟨c_M_isStuff l K x2 ⟨by omega, by omega⟩, ⟨_, _, _, Or.inl ⟨rfl, rfl⟩⟩, mt_554, mt_5, by decide, by decide +kernel, by decide, by decide, by decide, by decide⟩ PC.blind mt_552 mt_553 (As := [.int (iI x2)]) (rest := [.ref b]) rfl (PC.at ⟨hT, hK⟩ trivial) hl.1 rfl (Nat.le_of_ble_eq_true rfl) dM_layer_10 (krI0 rfl rfl (fun _ h => h) (fun r g2 => ?_))
    rcases g2 with ⟨rfl, g2⟩ | ⟨rfl, g2⟩
    · refine iz_if_eq (tgt := 28) hx hb ⟨by omega, by omega⟩ dM_layer_13 (by decide) (fun g => absurd g (by decide)) (fun _ => ?_)
      refine lv_iload_n hx hb dM_layer_16 rfl (lv_at hl 3 rfl) ?_
      refine iz_i2l hx hb ⟨by omega, by omega⟩ dM_layer_17 ?_
      refine iz_lconst hx hb 1 rfl dM_layer_18 ?_
      refine iz_ldc2 hx hb (500) (by decide) hown (hts _ mt_556) dM_layer_19 ?_
      refine ctS (n := 3) hx hb hml hown hT ⟨c_M_isIn l K x3 1 500 ⟨by omega, by omega⟩ ⟨by omega, by omega⟩ ⟨by omega, by omega⟩, ⟨_, _, _, Or.inl ⟨rfl, rfl⟩⟩, mt_539, mt_5, by decide, by decide +kernel, by decide, by decide, by decide, by decide⟩ PC.blind mt_537 mt_538 (As := [.long (lI x3), .long (lI 1), .long (lI 500)]) (rest := [.ref b]) rfl (PC.at ⟨hT, hK⟩ trivial) hl.1 rfl (Nat.le_of_ble_eq_true rfl) dM_layer_22 (krI0 rfl rfl (fun _ h => h) (fun r g3 => ?_))
      rcases g3 with ⟨rfl, g3⟩ | ⟨rfl, g3⟩
      · refine iz_if_ne (tgt := 32) hx hb ⟨by omega, by omega⟩ dM_layer_25 (by decide) (fun _ => ?_) (fun g => absurd g (by decide))
        have e1 := hj (by omega) (by omega)
        have qa := har j (by omega)
        have qo := hoc j (by omega)
        have ql := hlc j (by omega)
        refine lv_aload_n hx hb dM_layer_32 rfl (lv_at hl 0 rfl) ?_
        refine va_get (D := kD K) (ci := 4) (v := .ref (b + 3)) (C := RM) (T := FM) (N := 21) hx hb hts jnM hown hK hP 0 rfl rfl 4 (by decide) (hts _ mt_467) (fun _ h9 => h9) rfl dM_layer_33 ?_
        refine lv_iload_n hx hb dM_layer_36 rfl (lv_at hl 1 rfl) ?_
        refine iz_iald hx hb hK hP 3 rfl j e1 (by omega) (by omega) dM_layer_37 ?_
        refine iz_bipush hx hb dM_layer_38 (by decide) ?_
        refine iz_icmp_ne (tgt := 47) hx hb ⟨by omega, by omega⟩ ⟨by omega, by omega⟩ dM_layer_40 (by decide) (fun g4 => ?_) (fun g4 => ?_)
        · refine iz_iconst hx hb dM_layer_47 ?_
          refine va_put (D := kD K) (ci := 4) (v := .int (iI 0)) (ty := .int) (C := RM) (T := FM) (N := 21) hx hb hts jnM tM tM_ok nM hown hK hP hD hS 0 rfl rfl 0 (by decide) (hts _ mt_463) (fun _ h9 => h9) rfl (by decide +kernel) rfl rfl (Nat.le_of_ble_eq_true rfl) dM_layer_48 ?_
          clear hP hD hS
          intro H locs hP hD hS
          replace hP : va_P (kD K) vcl [(b, .inr (4, [.int (iI 0), .int (iI (wn : Int)), .ref (b + 1), .ref (b + 2), .ref (b + 3), .ref (b + 4), .ref (b + 5), .ref (b + 6), .ref (b + 7), .ref (b + 8), .ref (b + 9), .long (lI co), .ref (b + 10), .ref (b + 11), .int (iI ln), .int (iI cu), .int (iI (pn : Int)), .ref (b + 12), .int (iI bc), .ref (b + 13), .ref (b + 14)])), (b + 1, .inl (kI K, 12, .inl (iA ar))), (b + 2, .inl (kI K, 12, .inl (iA oc))), (b + 3, .inl (kI K, 12, .inl (iA lc))), (b + 4, .inl (kI K, 96, .inl (iA st))), (b + 5, .inl (kI K, 96, .inl (iA tk))), (b + 6, .inl (kI K, 10, .inl (iA wa))), (b + 7, .inl (kI K, 10, .inl (iA pk))), (b + 8, .inl (kL K, 40, .inr (.inl (lA mu)))), (b + 9, .inl (kL K, 40, .inr (.inl (lA pr)))), (b + 10, .inl (kI K, 4, .inl (iA cn))), (b + 11, .inl (kI K, 4, .inl (iA bs))), (b + 12, .inl (kI K, 10, .inl (iA le))), (b + 13, .inl (kI K, 10, .inl (iA bb))), (b + 14, .inl (kI K, 10, .inl (iA ld)))] H := hP
          replace hD : va_D A [(b, .inr (4, [.int (iI 0), .int (iI (wn : Int)), .ref (b + 1), .ref (b + 2), .ref (b + 3), .ref (b + 4), .ref (b + 5), .ref (b + 6), .ref (b + 7), .ref (b + 8), .ref (b + 9), .long (lI co), .ref (b + 10), .ref (b + 11), .int (iI ln), .int (iI cu), .int (iI (pn : Int)), .ref (b + 12), .int (iI bc), .ref (b + 13), .ref (b + 14)])), (b + 1, .inl (kI K, 12, .inl (iA ar))), (b + 2, .inl (kI K, 12, .inl (iA oc))), (b + 3, .inl (kI K, 12, .inl (iA lc))), (b + 4, .inl (kI K, 96, .inl (iA st))), (b + 5, .inl (kI K, 96, .inl (iA tk))), (b + 6, .inl (kI K, 10, .inl (iA wa))), (b + 7, .inl (kI K, 10, .inl (iA pk))), (b + 8, .inl (kL K, 40, .inr (.inl (lA mu)))), (b + 9, .inl (kL K, 40, .inr (.inl (lA pr)))), (b + 10, .inl (kI K, 4, .inl (iA cn))), (b + 11, .inl (kI K, 4, .inl (iA bs))), (b + 12, .inl (kI K, 10, .inl (iA le))), (b + 13, .inl (kI K, 10, .inl (iA bb))), (b + 14, .inl (kI K, 10, .inl (iA ld)))] := hD
          refine lv_aload_n hx hb dM_layer_51 rfl (lv_at hl 0 rfl) ?_
          refine va_get (D := kD K) (ci := 4) (v := .int (iI 0)) (C := RM) (T := FM) (N := 21) hx hb hts jnM hown hK hP 0 rfl rfl 0 (by decide) (hts _ mt_463) (fun _ h9 => h9) rfl dM_layer_52 ?_
          refine iz_if_le (tgt := 60) hx hb ⟨by omega, by omega⟩ dM_layer_55 (by decide) (fun _ => ?_) (fun g => absurd g (by decide))
          refine lv_aload_n hx hb dM_layer_60 rfl (lv_at hl 0 rfl) ?_
          refine va_get (D := kD K) (ci := 4) (v := .ref (b + 4)) (C := RM) (T := FM) (N := 21) hx hb hts jnM hown hK hP 0 rfl rfl 5 (by decide) (hts _ mt_468) (fun _ h9 => h9) rfl dM_layer_61 ?_
          refine iz_bipush hx hb dM_layer_64 (by decide) ?_
          refine lv_iload_n hx hb dM_layer_66 rfl (lv_at hl 1 rfl) ?_
          refine iz_imul hx hb dM_layer_67 ?_
          refine lv_aload_n hx hb dM_layer_68 rfl (lv_at hl 0 rfl) ?_
          refine va_get (D := kD K) (ci := 4) (v := .ref (b + 3)) (C := RM) (T := FM) (N := 21) hx hb hts jnM hown hK hP 0 rfl rfl 4 (by decide) (hts _ mt_467) (fun _ h9 => h9) rfl dM_layer_69 ?_
          refine lv_iload_n hx hb dM_layer_72 rfl (lv_at hl 1 rfl) ?_
          refine iz_iald hx hb hK hP 3 rfl j e1 (by omega) (by omega) dM_layer_73 ?_
          refine iz_iadd hx hb dM_layer_74 ?_
          refine lv_iload_n hx hb dM_layer_75 rfl (lv_at hl 2 rfl) ?_
          refine iz_iast hx hb hK hP hD hS 4 rfl (8 * j + (lc j).toNat) (by omega) (by omega) (by omega) dM_layer_76 ?_
          clear hP hD hS
          intro H locs hP hD hS
          replace hP : va_P (kD K) vcl [(b, .inr (4, [.int (iI 0), .int (iI (wn : Int)), .ref (b + 1), .ref (b + 2), .ref (b + 3), .ref (b + 4), .ref (b + 5), .ref (b + 6), .ref (b + 7), .ref (b + 8), .ref (b + 9), .long (lI co), .ref (b + 10), .ref (b + 11), .int (iI ln), .int (iI cu), .int (iI (pn : Int)), .ref (b + 12), .int (iI bc), .ref (b + 13), .ref (b + 14)])), (b + 1, .inl (kI K, 12, .inl (iA ar))), (b + 2, .inl (kI K, 12, .inl (iA oc))), (b + 3, .inl (kI K, 12, .inl (iA lc))), (b + 4, .inl (kI K, 96, .inl (iA (ut st (8 * j + (lc j).toNat) x2)))), (b + 5, .inl (kI K, 96, .inl (iA tk))), (b + 6, .inl (kI K, 10, .inl (iA wa))), (b + 7, .inl (kI K, 10, .inl (iA pk))), (b + 8, .inl (kL K, 40, .inr (.inl (lA mu)))), (b + 9, .inl (kL K, 40, .inr (.inl (lA pr)))), (b + 10, .inl (kI K, 4, .inl (iA cn))), (b + 11, .inl (kI K, 4, .inl (iA bs))), (b + 12, .inl (kI K, 10, .inl (iA le))), (b + 13, .inl (kI K, 10, .inl (iA bb))), (b + 14, .inl (kI K, 10, .inl (iA ld)))] H := hP
          replace hD : va_D A [(b, .inr (4, [.int (iI 0), .int (iI (wn : Int)), .ref (b + 1), .ref (b + 2), .ref (b + 3), .ref (b + 4), .ref (b + 5), .ref (b + 6), .ref (b + 7), .ref (b + 8), .ref (b + 9), .long (lI co), .ref (b + 10), .ref (b + 11), .int (iI ln), .int (iI cu), .int (iI (pn : Int)), .ref (b + 12), .int (iI bc), .ref (b + 13), .ref (b + 14)])), (b + 1, .inl (kI K, 12, .inl (iA ar))), (b + 2, .inl (kI K, 12, .inl (iA oc))), (b + 3, .inl (kI K, 12, .inl (iA lc))), (b + 4, .inl (kI K, 96, .inl (iA (ut st (8 * j + (lc j).toNat) x2)))), (b + 5, .inl (kI K, 96, .inl (iA tk))), (b + 6, .inl (kI K, 10, .inl (iA wa))), (b + 7, .inl (kI K, 10, .inl (iA pk))), (b + 8, .inl (kL K, 40, .inr (.inl (lA mu)))), (b + 9, .inl (kL K, 40, .inr (.inl (lA pr)))), (b + 10, .inl (kI K, 4, .inl (iA cn))), (b + 11, .inl (kI K, 4, .inl (iA bs))), (b + 12, .inl (kI K, 10, .inl (iA le))), (b + 13, .inl (kI K, 10, .inl (iA bb))), (b + 14, .inl (kI K, 10, .inl (iA ld)))] := hD
          refine lv_aload_n hx hb dM_layer_77 rfl (lv_at hl 0 rfl) ?_
          refine va_get (D := kD K) (ci := 4) (v := .ref (b + 5)) (C := RM) (T := FM) (N := 21) hx hb hts jnM hown hK hP 0 rfl rfl 6 (by decide) (hts _ mt_469) (fun _ h9 => h9) rfl dM_layer_78 ?_
          refine iz_bipush hx hb dM_layer_81 (by decide) ?_
          refine lv_iload_n hx hb dM_layer_83 rfl (lv_at hl 1 rfl) ?_
          refine iz_imul hx hb dM_layer_84 ?_
          refine lv_aload_n hx hb dM_layer_85 rfl (lv_at hl 0 rfl) ?_
          refine va_get (D := kD K) (ci := 4) (v := .ref (b + 3)) (C := RM) (T := FM) (N := 21) hx hb hts jnM hown hK hP 0 rfl rfl 4 (by decide) (hts _ mt_467) (fun _ h9 => h9) rfl dM_layer_86 ?_
          refine lv_iload_n hx hb dM_layer_89 rfl (lv_at hl 1 rfl) ?_
          refine iz_iald hx hb hK hP 3 rfl j e1 (by omega) (by omega) dM_layer_90 ?_
          refine iz_iadd hx hb dM_layer_91 ?_
          refine lv_iload_n hx hb dM_layer_92 rfl (lv_at hl 3 rfl) ?_
          refine iz_iast hx hb hK hP hD hS 5 rfl (8 * j + (lc j).toNat) (by omega) (by omega) (by omega) dM_layer_93 ?_
          clear hP hD hS
          intro H locs hP hD hS
          replace hP : va_P (kD K) vcl [(b, .inr (4, [.int (iI 0), .int (iI (wn : Int)), .ref (b + 1), .ref (b + 2), .ref (b + 3), .ref (b + 4), .ref (b + 5), .ref (b + 6), .ref (b + 7), .ref (b + 8), .ref (b + 9), .long (lI co), .ref (b + 10), .ref (b + 11), .int (iI ln), .int (iI cu), .int (iI (pn : Int)), .ref (b + 12), .int (iI bc), .ref (b + 13), .ref (b + 14)])), (b + 1, .inl (kI K, 12, .inl (iA ar))), (b + 2, .inl (kI K, 12, .inl (iA oc))), (b + 3, .inl (kI K, 12, .inl (iA lc))), (b + 4, .inl (kI K, 96, .inl (iA (ut st (8 * j + (lc j).toNat) x2)))), (b + 5, .inl (kI K, 96, .inl (iA (ut tk (8 * j + (lc j).toNat) x3)))), (b + 6, .inl (kI K, 10, .inl (iA wa))), (b + 7, .inl (kI K, 10, .inl (iA pk))), (b + 8, .inl (kL K, 40, .inr (.inl (lA mu)))), (b + 9, .inl (kL K, 40, .inr (.inl (lA pr)))), (b + 10, .inl (kI K, 4, .inl (iA cn))), (b + 11, .inl (kI K, 4, .inl (iA bs))), (b + 12, .inl (kI K, 10, .inl (iA le))), (b + 13, .inl (kI K, 10, .inl (iA bb))), (b + 14, .inl (kI K, 10, .inl (iA ld)))] H := hP
          replace hD : va_D A [(b, .inr (4, [.int (iI 0), .int (iI (wn : Int)), .ref (b + 1), .ref (b + 2), .ref (b + 3), .ref (b + 4), .ref (b + 5), .ref (b + 6), .ref (b + 7), .ref (b + 8), .ref (b + 9), .long (lI co), .ref (b + 10), .ref (b + 11), .int (iI ln), .int (iI cu), .int (iI (pn : Int)), .ref (b + 12), .int (iI bc), .ref (b + 13), .ref (b + 14)])), (b + 1, .inl (kI K, 12, .inl (iA ar))), (b + 2, .inl (kI K, 12, .inl (iA oc))), (b + 3, .inl (kI K, 12, .inl (iA lc))), (b + 4, .inl (kI K, 96, .inl (iA (ut st (8 * j + (lc j).toNat) x2)))), (b + 5, .inl (kI K, 96, .inl (iA (ut tk (8 * j + (lc j).toNat) x3)))), (b + 6, .inl (kI K, 10, .inl (iA wa))), (b + 7, .inl (kI K, 10, .inl (iA pk))), (b + 8, .inl (kL K, 40, .inr (.inl (lA mu)))), (b + 9, .inl (kL K, 40, .inr (.inl (lA pr)))), (b + 10, .inl (kI K, 4, .inl (iA cn))), (b + 11, .inl (kI K, 4, .inl (iA bs))), (b + 12, .inl (kI K, 10, .inl (iA le))), (b + 13, .inl (kI K, 10, .inl (iA bb))), (b + 14, .inl (kI K, 10, .inl (iA ld)))] := hD
          refine lv_aload_n hx hb dM_layer_94 rfl (lv_at hl 0 rfl) ?_
          refine va_get (D := kD K) (ci := 4) (v := .ref (b + 3)) (C := RM) (T := FM) (N := 21) hx hb hts jnM hown hK hP 0 rfl rfl 4 (by decide) (hts _ mt_467) (fun _ h9 => h9) rfl dM_layer_95 ?_
          refine lv_iload_n hx hb dM_layer_98 rfl (lv_at hl 1 rfl) ?_
          refine lv_dup2_11 hx hb dM_layer_99 rfl rfl ?_
          refine iz_iald hx hb hK hP 3 rfl j e1 (by omega) (by omega) dM_layer_100 ?_
          refine iz_iconst hx hb dM_layer_101 ?_
          refine iz_iadd hx hb dM_layer_102 ?_
          refine iz_iast hx hb hK hP hD hS 3 rfl j e1 (by omega) (by omega) dM_layer_103 ?_
          clear hP hD hS
          intro H locs hP hD hS
          replace hP : va_P (kD K) vcl [(b, .inr (4, [.int (iI 0), .int (iI (wn : Int)), .ref (b + 1), .ref (b + 2), .ref (b + 3), .ref (b + 4), .ref (b + 5), .ref (b + 6), .ref (b + 7), .ref (b + 8), .ref (b + 9), .long (lI co), .ref (b + 10), .ref (b + 11), .int (iI ln), .int (iI cu), .int (iI (pn : Int)), .ref (b + 12), .int (iI bc), .ref (b + 13), .ref (b + 14)])), (b + 1, .inl (kI K, 12, .inl (iA ar))), (b + 2, .inl (kI K, 12, .inl (iA oc))), (b + 3, .inl (kI K, 12, .inl (iA (ut lc j ((lc j) + 1))))), (b + 4, .inl (kI K, 96, .inl (iA (ut st (8 * j + (lc j).toNat) x2)))), (b + 5, .inl (kI K, 96, .inl (iA (ut tk (8 * j + (lc j).toNat) x3)))), (b + 6, .inl (kI K, 10, .inl (iA wa))), (b + 7, .inl (kI K, 10, .inl (iA pk))), (b + 8, .inl (kL K, 40, .inr (.inl (lA mu)))), (b + 9, .inl (kL K, 40, .inr (.inl (lA pr)))), (b + 10, .inl (kI K, 4, .inl (iA cn))), (b + 11, .inl (kI K, 4, .inl (iA bs))), (b + 12, .inl (kI K, 10, .inl (iA le))), (b + 13, .inl (kI K, 10, .inl (iA bb))), (b + 14, .inl (kI K, 10, .inl (iA ld)))] H := hP
          replace hD : va_D A [(b, .inr (4, [.int (iI 0), .int (iI (wn : Int)), .ref (b + 1), .ref (b + 2), .ref (b + 3), .ref (b + 4), .ref (b + 5), .ref (b + 6), .ref (b + 7), .ref (b + 8), .ref (b + 9), .long (lI co), .ref (b + 10), .ref (b + 11), .int (iI ln), .int (iI cu), .int (iI (pn : Int)), .ref (b + 12), .int (iI bc), .ref (b + 13), .ref (b + 14)])), (b + 1, .inl (kI K, 12, .inl (iA ar))), (b + 2, .inl (kI K, 12, .inl (iA oc))), (b + 3, .inl (kI K, 12, .inl (iA (ut lc j ((lc j) + 1))))), (b + 4, .inl (kI K, 96, .inl (iA (ut st (8 * j + (lc j).toNat) x2)))), (b + 5, .inl (kI K, 96, .inl (iA (ut tk (8 * j + (lc j).toNat) x3)))), (b + 6, .inl (kI K, 10, .inl (iA wa))), (b + 7, .inl (kI K, 10, .inl (iA pk))), (b + 8, .inl (kL K, 40, .inr (.inl (lA mu)))), (b + 9, .inl (kL K, 40, .inr (.inl (lA pr)))), (b + 10, .inl (kI K, 4, .inl (iA cn))), (b + 11, .inl (kI K, 4, .inl (iA bs))), (b + 12, .inl (kI K, 10, .inl (iA le))), (b + 13, .inl (kI K, 10, .inl (iA bb))), (b + 14, .inl (kI K, 10, .inl (iA ld)))] := hD
          refine lv_aload_n hx hb dM_layer_104 rfl (lv_at hl 0 rfl) ?_
          refine va_get (D := kD K) (ci := 4) (v := .ref (b + 3)) (C := RM) (T := FM) (N := 21) hx hb hts jnM hown hK hP 0 rfl rfl 4 (by decide) (hts _ mt_467) (fun _ h9 => h9) rfl dM_layer_105 ?_
          refine lv_iload_n hx hb dM_layer_108 rfl (lv_at hl 1 rfl) ?_
          refine iz_iald hx hb hK hP 3 rfl j e1 (by omega) (by omega) dM_layer_109 ?_
          rw [hQ]
          exact iz_iret hx hb hr hlocks (Or.inr (Or.inr ⟨by omega, by omega, ut_s _ _ _, hP⟩)) hS.2.2 dM_layer_110
        · refine iz_iconst hx hb dM_layer_43 ?_
          refine lv_goto (tgt := 48) hx hb dM_layer_44 (by decide) ?_
          refine va_put (D := kD K) (ci := 4) (v := .int (iI 2)) (ty := .int) (C := RM) (T := FM) (N := 21) hx hb hts jnM tM tM_ok nM hown hK hP hD hS 0 rfl rfl 0 (by decide) (hts _ mt_463) (fun _ h9 => h9) rfl (by decide +kernel) rfl rfl (Nat.le_of_ble_eq_true rfl) dM_layer_48 ?_
          clear hP hD hS
          intro H locs hP hD hS
          replace hP : va_P (kD K) vcl [(b, .inr (4, [.int (iI 2), .int (iI (wn : Int)), .ref (b + 1), .ref (b + 2), .ref (b + 3), .ref (b + 4), .ref (b + 5), .ref (b + 6), .ref (b + 7), .ref (b + 8), .ref (b + 9), .long (lI co), .ref (b + 10), .ref (b + 11), .int (iI ln), .int (iI cu), .int (iI (pn : Int)), .ref (b + 12), .int (iI bc), .ref (b + 13), .ref (b + 14)])), (b + 1, .inl (kI K, 12, .inl (iA ar))), (b + 2, .inl (kI K, 12, .inl (iA oc))), (b + 3, .inl (kI K, 12, .inl (iA lc))), (b + 4, .inl (kI K, 96, .inl (iA st))), (b + 5, .inl (kI K, 96, .inl (iA tk))), (b + 6, .inl (kI K, 10, .inl (iA wa))), (b + 7, .inl (kI K, 10, .inl (iA pk))), (b + 8, .inl (kL K, 40, .inr (.inl (lA mu)))), (b + 9, .inl (kL K, 40, .inr (.inl (lA pr)))), (b + 10, .inl (kI K, 4, .inl (iA cn))), (b + 11, .inl (kI K, 4, .inl (iA bs))), (b + 12, .inl (kI K, 10, .inl (iA le))), (b + 13, .inl (kI K, 10, .inl (iA bb))), (b + 14, .inl (kI K, 10, .inl (iA ld)))] H := hP
          replace hD : va_D A [(b, .inr (4, [.int (iI 2), .int (iI (wn : Int)), .ref (b + 1), .ref (b + 2), .ref (b + 3), .ref (b + 4), .ref (b + 5), .ref (b + 6), .ref (b + 7), .ref (b + 8), .ref (b + 9), .long (lI co), .ref (b + 10), .ref (b + 11), .int (iI ln), .int (iI cu), .int (iI (pn : Int)), .ref (b + 12), .int (iI bc), .ref (b + 13), .ref (b + 14)])), (b + 1, .inl (kI K, 12, .inl (iA ar))), (b + 2, .inl (kI K, 12, .inl (iA oc))), (b + 3, .inl (kI K, 12, .inl (iA lc))), (b + 4, .inl (kI K, 96, .inl (iA st))), (b + 5, .inl (kI K, 96, .inl (iA tk))), (b + 6, .inl (kI K, 10, .inl (iA wa))), (b + 7, .inl (kI K, 10, .inl (iA pk))), (b + 8, .inl (kL K, 40, .inr (.inl (lA mu)))), (b + 9, .inl (kL K, 40, .inr (.inl (lA pr)))), (b + 10, .inl (kI K, 4, .inl (iA cn))), (b + 11, .inl (kI K, 4, .inl (iA bs))), (b + 12, .inl (kI K, 10, .inl (iA le))), (b + 13, .inl (kI K, 10, .inl (iA bb))), (b + 14, .inl (kI K, 10, .inl (iA ld)))] := hD
          refine lv_aload_n hx hb dM_layer_51 rfl (lv_at hl 0 rfl) ?_
          refine va_get (D := kD K) (ci := 4) (v := .int (iI 2)) (C := RM) (T := FM) (N := 21) hx hb hts jnM hown hK hP 0 rfl rfl 0 (by decide) (hts _ mt_463) (fun _ h9 => h9) rfl dM_layer_52 ?_
          refine iz_if_le (tgt := 60) hx hb ⟨by omega, by omega⟩ dM_layer_55 (by decide) (fun g => absurd g (by decide)) (fun _ => ?_)
          refine iz_iconst hx hb dM_layer_58 ?_
          rw [hQ]
          exact iz_iret hx hb hr hlocks (Or.inr (Or.inl ⟨by omega, by omega, hP⟩)) hS.2.2 dM_layer_59
      · refine iz_if_ne (tgt := 32) hx hb ⟨by omega, by omega⟩ dM_layer_25 (by decide) (fun g => absurd g (by decide)) (fun _ => ?_)
        refine iz_iconst hx hb dM_layer_28 ?_
        refine lv_goto (tgt := 48) hx hb dM_layer_29 (by decide) ?_
        refine va_put (D := kD K) (ci := 4) (v := .int (iI 1)) (ty := .int) (C := RM) (T := FM) (N := 21) hx hb hts jnM tM tM_ok nM hown hK hP hD hS 0 rfl rfl 0 (by decide) (hts _ mt_463) (fun _ h9 => h9) rfl (by decide +kernel) rfl rfl (Nat.le_of_ble_eq_true rfl) dM_layer_48 ?_
        clear hP hD hS
        intro H locs hP hD hS
        replace hP : va_P (kD K) vcl [(b, .inr (4, [.int (iI 1), .int (iI (wn : Int)), .ref (b + 1), .ref (b + 2), .ref (b + 3), .ref (b + 4), .ref (b + 5), .ref (b + 6), .ref (b + 7), .ref (b + 8), .ref (b + 9), .long (lI co), .ref (b + 10), .ref (b + 11), .int (iI ln), .int (iI cu), .int (iI (pn : Int)), .ref (b + 12), .int (iI bc), .ref (b + 13), .ref (b + 14)])), (b + 1, .inl (kI K, 12, .inl (iA ar))), (b + 2, .inl (kI K, 12, .inl (iA oc))), (b + 3, .inl (kI K, 12, .inl (iA lc))), (b + 4, .inl (kI K, 96, .inl (iA st))), (b + 5, .inl (kI K, 96, .inl (iA tk))), (b + 6, .inl (kI K, 10, .inl (iA wa))), (b + 7, .inl (kI K, 10, .inl (iA pk))), (b + 8, .inl (kL K, 40, .inr (.inl (lA mu)))), (b + 9, .inl (kL K, 40, .inr (.inl (lA pr)))), (b + 10, .inl (kI K, 4, .inl (iA cn))), (b + 11, .inl (kI K, 4, .inl (iA bs))), (b + 12, .inl (kI K, 10, .inl (iA le))), (b + 13, .inl (kI K, 10, .inl (iA bb))), (b + 14, .inl (kI K, 10, .inl (iA ld)))] H := hP
        replace hD : va_D A [(b, .inr (4, [.int (iI 1), .int (iI (wn : Int)), .ref (b + 1), .ref (b + 2), .ref (b + 3), .ref (b + 4), .ref (b + 5), .ref (b + 6), .ref (b + 7), .ref (b + 8), .ref (b + 9), .long (lI co), .ref (b + 10), .ref (b + 11), .int (iI ln), .int (iI cu), .int (iI (pn : Int)), .ref (b + 12), .int (iI bc), .ref (b + 13), .ref (b + 14)])), (b + 1, .inl (kI K, 12, .inl (iA ar))), (b + 2, .inl (kI K, 12, .inl (iA oc))), (b + 3, .inl (kI K, 12, .inl (iA lc))), (b + 4, .inl (kI K, 96, .inl (iA st))), (b + 5, .inl (kI K, 96, .inl (iA tk))), (b + 6, .inl (kI K, 10, .inl (iA wa))), (b + 7, .inl (kI K, 10, .inl (iA pk))), (b + 8, .inl (kL K, 40, .inr (.inl (lA mu)))), (b + 9, .inl (kL K, 40, .inr (.inl (lA pr)))), (b + 10, .inl (kI K, 4, .inl (iA cn))), (b + 11, .inl (kI K, 4, .inl (iA bs))), (b + 12, .inl (kI K, 10, .inl (iA le))), (b + 13, .inl (kI K, 10, .inl (iA bb))), (b + 14, .inl (kI K, 10, .inl (iA ld)))] := hD
        refine lv_aload_n hx hb dM_layer_51 rfl (lv_at hl 0 rfl) ?_
        refine va_get (D := kD K) (ci := 4) (v := .int (iI 1)) (C := RM) (T := FM) (N := 21) hx hb hts jnM hown hK hP 0 rfl rfl 0 (by decide) (hts _ mt_463) (fun _ h9 => h9) rfl dM_layer_52 ?_
        refine iz_if_le (tgt := 60) hx hb ⟨by omega, by omega⟩ dM_layer_55 (by decide) (fun g => absurd g (by decide)) (fun _ => ?_)
        refine iz_iconst hx hb dM_layer_58 ?_
        rw [hQ]
        exact iz_iret hx hb hr hlocks (Or.inl ⟨by omega, hP⟩) hS.2.2 dM_layer_59
    · refine iz_if_eq (tgt := 28) hx hb ⟨by omega, by omega⟩ dM_layer_13 (by decide) (fun _ => ?_) (fun g => absurd g (by decide))
      refine iz_iconst hx hb dM_layer_28 ?_
      refine lv_goto (tgt := 48) hx hb dM_layer_29 (by decide) ?_
      refine va_put (D := kD K) (ci := 4) (v := .int (iI 1)) (ty := .int) (C := RM) (T := FM) (N := 21) hx hb hts jnM tM tM_ok nM hown hK hP hD hS 0 rfl rfl 0 (by decide) (hts _ mt_463) (fun _ h9 => h9) rfl (by decide +kernel) rfl rfl (Nat.le_of_ble_eq_true rfl) dM_layer_48 ?_
      clear hP hD hS
      intro H locs hP hD hS
      replace hP : va_P (kD K) vcl [(b, .inr (4, [.int (iI 1), .int (iI (wn : Int)), .ref (b + 1), .ref (b + 2), .ref (b + 3), .ref (b + 4), .ref (b + 5), .ref (b + 6), .ref (b + 7), .ref (b + 8), .ref (b + 9), .long (lI co), .ref (b + 10), .ref (b + 11), .int (iI ln), .int (iI cu), .int (iI (pn : Int)), .ref (b + 12), .int (iI bc), .ref (b + 13), .ref (b + 14)])), (b + 1, .inl (kI K, 12, .inl (iA ar))), (b + 2, .inl (kI K, 12, .inl (iA oc))), (b + 3, .inl (kI K, 12, .inl (iA lc))), (b + 4, .inl (kI K, 96, .inl (iA st))), (b + 5, .inl (kI K, 96, .inl (iA tk))), (b + 6, .inl (kI K, 10, .inl (iA wa))), (b + 7, .inl (kI K, 10, .inl (iA pk))), (b + 8, .inl (kL K, 40, .inr (.inl (lA mu)))), (b + 9, .inl (kL K, 40, .inr (.inl (lA pr)))), (b + 10, .inl (kI K, 4, .inl (iA cn))), (b + 11, .inl (kI K, 4, .inl (iA bs))), (b + 12, .inl (kI K, 10, .inl (iA le))), (b + 13, .inl (kI K, 10, .inl (iA bb))), (b + 14, .inl (kI K, 10, .inl (iA ld)))] H := hP
      replace hD : va_D A [(b, .inr (4, [.int (iI 1), .int (iI (wn : Int)), .ref (b + 1), .ref (b + 2), .ref (b + 3), .ref (b + 4), .ref (b + 5), .ref (b + 6), .ref (b + 7), .ref (b + 8), .ref (b + 9), .long (lI co), .ref (b + 10), .ref (b + 11), .int (iI ln), .int (iI cu), .int (iI (pn : Int)), .ref (b + 12), .int (iI bc), .ref (b + 13), .ref (b + 14)])), (b + 1, .inl (kI K, 12, .inl (iA ar))), (b + 2, .inl (kI K, 12, .inl (iA oc))), (b + 3, .inl (kI K, 12, .inl (iA lc))), (b + 4, .inl (kI K, 96, .inl (iA st))), (b + 5, .inl (kI K, 96, .inl (iA tk))), (b + 6, .inl (kI K, 10, .inl (iA wa))), (b + 7, .inl (kI K, 10, .inl (iA pk))), (b + 8, .inl (kL K, 40, .inr (.inl (lA mu)))), (b + 9, .inl (kL K, 40, .inr (.inl (lA pr)))), (b + 10, .inl (kI K, 4, .inl (iA cn))), (b + 11, .inl (kI K, 4, .inl (iA bs))), (b + 12, .inl (kI K, 10, .inl (iA le))), (b + 13, .inl (kI K, 10, .inl (iA bb))), (b + 14, .inl (kI K, 10, .inl (iA ld)))] := hD
      refine lv_aload_n hx hb dM_layer_51 rfl (lv_at hl 0 rfl) ?_
      refine va_get (D := kD K) (ci := 4) (v := .int (iI 1)) (C := RM) (T := FM) (N := 21) hx hb hts jnM hown hK hP 0 rfl rfl 0 (by decide) (hts _ mt_463) (fun _ h9 => h9) rfl dM_layer_52 ?_
      refine iz_if_le (tgt := 60) hx hb ⟨by omega, by omega⟩ dM_layer_55 (by decide) (fun g => absurd g (by decide)) (fun _ => ?_)
      refine iz_iconst hx hb dM_layer_58 ?_
      rw [hQ]
      exact iz_iret hx hb hr hlocks (Or.inl ⟨by omega, hP⟩) hS.2.2 dM_layer_59
  · refine iz_if_eq (tgt := 28) hx hb ⟨by omega, by omega⟩ dM_layer_6 (by decide) (fun _ => ?_) (fun g => absurd g (by decide))
    refine iz_iconst hx hb dM_layer_28 ?_
    refine lv_goto (tgt := 48) hx hb dM_layer_29 (by decide) ?_
    refine va_put (D := kD K) (ci := 4) (v := .int (iI 1)) (ty := .int) (C := RM) (T := FM) (N := 21) hx hb hts jnM tM tM_ok nM hown hK hP hD hS 0 rfl rfl 0 (by decide) (hts _ mt_463) (fun _ h9 => h9) rfl (by decide +kernel) rfl rfl (Nat.le_of_ble_eq_true rfl) dM_layer_48 ?_
    clear hP hD hS
    intro H locs hP hD hS
    replace hP : va_P (kD K) vcl [(b, .inr (4, [.int (iI 1), .int (iI (wn : Int)), .ref (b + 1), .ref (b + 2), .ref (b + 3), .ref (b + 4), .ref (b + 5), .ref (b + 6), .ref (b + 7), .ref (b + 8), .ref (b + 9), .long (lI co), .ref (b + 10), .ref (b + 11), .int (iI ln), .int (iI cu), .int (iI (pn : Int)), .ref (b + 12), .int (iI bc), .ref (b + 13), .ref (b + 14)])), (b + 1, .inl (kI K, 12, .inl (iA ar))), (b + 2, .inl (kI K, 12, .inl (iA oc))), (b + 3, .inl (kI K, 12, .inl (iA lc))), (b + 4, .inl (kI K, 96, .inl (iA st))), (b + 5, .inl (kI K, 96, .inl (iA tk))), (b + 6, .inl (kI K, 10, .inl (iA wa))), (b + 7, .inl (kI K, 10, .inl (iA pk))), (b + 8, .inl (kL K, 40, .inr (.inl (lA mu)))), (b + 9, .inl (kL K, 40, .inr (.inl (lA pr)))), (b + 10, .inl (kI K, 4, .inl (iA cn))), (b + 11, .inl (kI K, 4, .inl (iA bs))), (b + 12, .inl (kI K, 10, .inl (iA le))), (b + 13, .inl (kI K, 10, .inl (iA bb))), (b + 14, .inl (kI K, 10, .inl (iA ld)))] H := hP
    replace hD : va_D A [(b, .inr (4, [.int (iI 1), .int (iI (wn : Int)), .ref (b + 1), .ref (b + 2), .ref (b + 3), .ref (b + 4), .ref (b + 5), .ref (b + 6), .ref (b + 7), .ref (b + 8), .ref (b + 9), .long (lI co), .ref (b + 10), .ref (b + 11), .int (iI ln), .int (iI cu), .int (iI (pn : Int)), .ref (b + 12), .int (iI bc), .ref (b + 13), .ref (b + 14)])), (b + 1, .inl (kI K, 12, .inl (iA ar))), (b + 2, .inl (kI K, 12, .inl (iA oc))), (b + 3, .inl (kI K, 12, .inl (iA lc))), (b + 4, .inl (kI K, 96, .inl (iA st))), (b + 5, .inl (kI K, 96, .inl (iA tk))), (b + 6, .inl (kI K, 10, .inl (iA wa))), (b + 7, .inl (kI K, 10, .inl (iA pk))), (b + 8, .inl (kL K, 40, .inr (.inl (lA mu)))), (b + 9, .inl (kL K, 40, .inr (.inl (lA pr)))), (b + 10, .inl (kI K, 4, .inl (iA cn))), (b + 11, .inl (kI K, 4, .inl (iA bs))), (b + 12, .inl (kI K, 10, .inl (iA le))), (b + 13, .inl (kI K, 10, .inl (iA bb))), (b + 14, .inl (kI K, 10, .inl (iA ld)))] := hD
    refine lv_aload_n hx hb dM_layer_51 rfl (lv_at hl 0 rfl) ?_
    refine va_get (D := kD K) (ci := 4) (v := .int (iI 1)) (C := RM) (T := FM) (N := 21) hx hb hts jnM hown hK hP 0 rfl rfl 0 (by decide) (hts _ mt_463) (fun _ h9 => h9) rfl dM_layer_52 ?_
    refine iz_if_le (tgt := 60) hx hb ⟨by omega, by omega⟩ dM_layer_55 (by decide) (fun g => absurd g (by decide)) (fun _ => ?_)
    refine iz_iconst hx hb dM_layer_58 ?_
    rw [hQ]
    exact iz_iret hx hb hr hlocks (Or.inl ⟨by omega, hP⟩) hS.2.2 dM_layer_59
abbrev rmM_waste : Room := { frames := 2, cells := 0, slots := 0, locals := 80 }
set_option maxHeartbeats 4000000 in
set_option maxRecDepth 100000 in
/-- waste(stuff, hundredths) -/
theorem c_M_waste (l : Launch) (K : KG) (b : Nat) (cd : Int) (wn : Nat) (ar oc lc st tk wa pk mu pr : Nat → Int) (co : Int) (cn bs : Nat → Int) (ln cu : Int) (pn : Nat) (le : Nat → Int) (bc : Int) (bb ld : Nat → Int) (j : Nat) (x1 x2 : Int) (h1 : r32 x1) (h2 : r32 x2) (hj : 0 ≤ x1 → x1 < 10 → x1 = j) : Ct l yM_waste kM_waste rmM_waste (PC K [.ref b, .int (iI x1), .int (iI x2)] (fun H => va_P (kD K) vcl (mdW K b cd wn ar oc lc st tk wa pk mu pr co cn bs ln cu pn le bc bb ld) H)) (QI (fun r H => (¬ ((0 ≤ x1 ∧ x1 < 10) ∧ (0 ≤ x2 ∧ x2 ≤ 100)) ∧ va_P (kD K) vcl (mdW K b 1 wn ar oc lc st tk wa pk mu pr co cn bs ln cu pn le bc bb ld) H) ∨ (((0 ≤ x1 ∧ x1 < 10) ∧ (0 ≤ x2 ∧ x2 ≤ 100)) ∧ r = wa j ∧ va_P (kD K) vcl (mdW K b 0 wn ar oc lc st tk (ut wa j x2) pk mu pr co cn bs ln cu pn le bc bb ld) H))) (fun x => b ≤ x ∧ x < b + 15) := by
  refine ct_of (by decide) (Or.inl ⟨rfl, rfl⟩) ?_
  intro p e s m args below meth c B0 hP0
  obtain ⟨hx, hb, hr, hml, hown, hlocks, hnm, htab⟩ := B0
  obtain ⟨ha, ⟨hT, hK⟩, hB⟩ := hP0
  have hl := lv_entry ([.ref b, .int (iI x1), .int (iI x2)]) (n := 4) (Nat.le_of_ble_eq_true rfl)
  obtain ⟨Q, hQ⟩ : ∃ Q, Q = XQ below (QI (fun r H => (¬ ((0 ≤ x1 ∧ x1 < 10) ∧ (0 ≤ x2 ∧ x2 ≤ 100)) ∧ va_P (kD K) vcl (mdW K b 1 wn ar oc lc st tk wa pk mu pr co cn bs ln cu pn le bc bb ld) H) ∨ (((0 ≤ x1 ∧ x1 < 10) ∧ (0 ≤ x2 ∧ x2 ≤ 100)) ∧ r = wa j ∧ va_P (kD K) vcl (mdW K b 0 wn ar oc lc st tk (ut wa j x2) pk mu pr co cn bs ln cu pn le bc bb ld) H))) args s rmM_waste.cells rmM_waste.slots (fun x => b ≤ x ∧ x < b + 15) := ⟨_, rfl⟩
  rw [← hQ, ha, lg_entry_eq]
  rw [ha] at hQ
  generalize (lg_sl ([.ref b, .int (iI x1), .int (iI x2)]) ++ List.replicate (4 - (lg_sl ([.ref b, .int (iI x1), .int (iI x2)])).length) Slot.unset).toArray = ls at hl ⊢
  generalize ([.ref b, .int (iI x1), .int (iI x2)] : List Value).toArray = args at hQ ⊢
  have hts : ∀ w ∈ TW, w.before args s = true := fun w h => hT w h args
  have hl : lv_has ls 4 [(0, .ref b), (1, .int (iI x1)), (2, .int (iI x2))] := hl
  obtain ⟨A, hAe⟩ : ∃ A : Addr → Prop, A = (fun x => b ≤ x ∧ x < b + 15) := ⟨_, rfl⟩
  rw [← hAe] at hQ
  have hS : va_S A s.heap s.heap [] := va_S.rf
  have hP : va_P (kD K) vcl [(b, .inr (4, [.int (iI cd), .int (iI (wn : Int)), .ref (b + 1), .ref (b + 2), .ref (b + 3), .ref (b + 4), .ref (b + 5), .ref (b + 6), .ref (b + 7), .ref (b + 8), .ref (b + 9), .long (lI co), .ref (b + 10), .ref (b + 11), .int (iI ln), .int (iI cu), .int (iI (pn : Int)), .ref (b + 12), .int (iI bc), .ref (b + 13), .ref (b + 14)])), (b + 1, .inl (kI K, 12, .inl (iA ar))), (b + 2, .inl (kI K, 12, .inl (iA oc))), (b + 3, .inl (kI K, 12, .inl (iA lc))), (b + 4, .inl (kI K, 96, .inl (iA st))), (b + 5, .inl (kI K, 96, .inl (iA tk))), (b + 6, .inl (kI K, 10, .inl (iA wa))), (b + 7, .inl (kI K, 10, .inl (iA pk))), (b + 8, .inl (kL K, 40, .inr (.inl (lA mu)))), (b + 9, .inl (kL K, 40, .inr (.inl (lA pr)))), (b + 10, .inl (kI K, 4, .inl (iA cn))), (b + 11, .inl (kI K, 4, .inl (iA bs))), (b + 12, .inl (kI K, 10, .inl (iA le))), (b + 13, .inl (kI K, 10, .inl (iA bb))), (b + 14, .inl (kI K, 10, .inl (iA ld)))] s.heap := hB
  have hD : va_D A [(b, .inr (4, [.int (iI cd), .int (iI (wn : Int)), .ref (b + 1), .ref (b + 2), .ref (b + 3), .ref (b + 4), .ref (b + 5), .ref (b + 6), .ref (b + 7), .ref (b + 8), .ref (b + 9), .long (lI co), .ref (b + 10), .ref (b + 11), .int (iI ln), .int (iI cu), .int (iI (pn : Int)), .ref (b + 12), .int (iI bc), .ref (b + 13), .ref (b + 14)])), (b + 1, .inl (kI K, 12, .inl (iA ar))), (b + 2, .inl (kI K, 12, .inl (iA oc))), (b + 3, .inl (kI K, 12, .inl (iA lc))), (b + 4, .inl (kI K, 96, .inl (iA st))), (b + 5, .inl (kI K, 96, .inl (iA tk))), (b + 6, .inl (kI K, 10, .inl (iA wa))), (b + 7, .inl (kI K, 10, .inl (iA pk))), (b + 8, .inl (kL K, 40, .inr (.inl (lA mu)))), (b + 9, .inl (kL K, 40, .inr (.inl (lA pr)))), (b + 10, .inl (kI K, 4, .inl (iA cn))), (b + 11, .inl (kI K, 4, .inl (iA bs))), (b + 12, .inl (kI K, 10, .inl (iA le))), (b + 13, .inl (kI K, 10, .inl (iA bb))), (b + 14, .inl (kI K, 10, .inl (iA ld)))] := by rw [hAe]; exact va_D_of (by simp) (by simp <;> omega)
  refine lv_aload_n hx hb dM_waste_0 rfl (lv_at hl 0 rfl) ?_
  refine lv_iload_n hx hb dM_waste_1 rfl (lv_at hl 1 rfl) ?_
  refine ctS (n := 1) hx hb hml hown hT ⟨c_M_isStuff l K x1 ⟨by omega, by omega⟩, ⟨_, _, _, Or.inl ⟨rfl, rfl⟩⟩, mt_554, mt_5, by decide, by decide +kernel, by decide, by decide, by decide, by decide⟩ PC.blind mt_552 mt_553 (As := [.int (iI x1)]) (rest := [.ref b]) rfl (PC.at ⟨hT, hK⟩ trivial) hl.1 rfl (Nat.le_of_ble_eq_true rfl) dM_waste_2 (krI0 rfl rfl (fun _ h => h) (fun r g1 => ?_))
  rcases g1 with ⟨rfl, g1⟩ | ⟨rfl, g1⟩
  · refine iz_if_eq (tgt := 24) hx hb ⟨by omega, by omega⟩ dM_waste_5 (by decide) (fun g => absurd g (by decide)) (fun _ => ?_)
    refine lv_iload_n hx hb dM_waste_8 rfl (lv_at hl 2 rfl) ?_
    refine iz_i2l hx hb ⟨by omega, by omega⟩ dM_waste_9 ?_
    refine iz_lconst hx hb 0 rfl dM_waste_10 ?_
    refine iz_ldc2 hx hb (100) (by decide) hown (hts _ mt_561) dM_waste_11 ?_
    refine ctS (n := 3) hx hb hml hown hT ⟨c_M_isIn l K x2 0 100 ⟨by omega, by omega⟩ ⟨by omega, by omega⟩ ⟨by omega, by omega⟩, ⟨_, _, _, Or.inl ⟨rfl, rfl⟩⟩, mt_539, mt_5, by decide, by decide +kernel, by decide, by decide, by decide, by decide⟩ PC.blind mt_537 mt_538 (As := [.long (lI x2), .long (lI 0), .long (lI 100)]) (rest := [.ref b]) rfl (PC.at ⟨hT, hK⟩ trivial) hl.1 rfl (Nat.le_of_ble_eq_true rfl) dM_waste_14 (krI0 rfl rfl (fun _ h => h) (fun r g2 => ?_))
    rcases g2 with ⟨rfl, g2⟩ | ⟨rfl, g2⟩
    · refine iz_if_eq (tgt := 24) hx hb ⟨by omega, by omega⟩ dM_waste_17 (by decide) (fun g => absurd g (by decide)) (fun _ => ?_)
      refine iz_iconst hx hb dM_waste_20 ?_
      refine lv_goto (tgt := 25) hx hb dM_waste_21 (by decide) ?_
      refine va_put (D := kD K) (ci := 4) (v := .int (iI 0)) (ty := .int) (C := RM) (T := FM) (N := 21) hx hb hts jnM tM tM_ok nM hown hK hP hD hS 0 rfl rfl 0 (by decide) (hts _ mt_463) (fun _ h9 => h9) rfl (by decide +kernel) rfl rfl (Nat.le_of_ble_eq_true rfl) dM_waste_25 ?_
      clear hP hD hS
      intro H locs hP hD hS
      replace hP : va_P (kD K) vcl [(b, .inr (4, [.int (iI 0), .int (iI (wn : Int)), .ref (b + 1), .ref (b + 2), .ref (b + 3), .ref (b + 4), .ref (b + 5), .ref (b + 6), .ref (b + 7), .ref (b + 8), .ref (b + 9), .long (lI co), .ref (b + 10), .ref (b + 11), .int (iI ln), .int (iI cu), .int (iI (pn : Int)), .ref (b + 12), .int (iI bc), .ref (b + 13), .ref (b + 14)])), (b + 1, .inl (kI K, 12, .inl (iA ar))), (b + 2, .inl (kI K, 12, .inl (iA oc))), (b + 3, .inl (kI K, 12, .inl (iA lc))), (b + 4, .inl (kI K, 96, .inl (iA st))), (b + 5, .inl (kI K, 96, .inl (iA tk))), (b + 6, .inl (kI K, 10, .inl (iA wa))), (b + 7, .inl (kI K, 10, .inl (iA pk))), (b + 8, .inl (kL K, 40, .inr (.inl (lA mu)))), (b + 9, .inl (kL K, 40, .inr (.inl (lA pr)))), (b + 10, .inl (kI K, 4, .inl (iA cn))), (b + 11, .inl (kI K, 4, .inl (iA bs))), (b + 12, .inl (kI K, 10, .inl (iA le))), (b + 13, .inl (kI K, 10, .inl (iA bb))), (b + 14, .inl (kI K, 10, .inl (iA ld)))] H := hP
      replace hD : va_D A [(b, .inr (4, [.int (iI 0), .int (iI (wn : Int)), .ref (b + 1), .ref (b + 2), .ref (b + 3), .ref (b + 4), .ref (b + 5), .ref (b + 6), .ref (b + 7), .ref (b + 8), .ref (b + 9), .long (lI co), .ref (b + 10), .ref (b + 11), .int (iI ln), .int (iI cu), .int (iI (pn : Int)), .ref (b + 12), .int (iI bc), .ref (b + 13), .ref (b + 14)])), (b + 1, .inl (kI K, 12, .inl (iA ar))), (b + 2, .inl (kI K, 12, .inl (iA oc))), (b + 3, .inl (kI K, 12, .inl (iA lc))), (b + 4, .inl (kI K, 96, .inl (iA st))), (b + 5, .inl (kI K, 96, .inl (iA tk))), (b + 6, .inl (kI K, 10, .inl (iA wa))), (b + 7, .inl (kI K, 10, .inl (iA pk))), (b + 8, .inl (kL K, 40, .inr (.inl (lA mu)))), (b + 9, .inl (kL K, 40, .inr (.inl (lA pr)))), (b + 10, .inl (kI K, 4, .inl (iA cn))), (b + 11, .inl (kI K, 4, .inl (iA bs))), (b + 12, .inl (kI K, 10, .inl (iA le))), (b + 13, .inl (kI K, 10, .inl (iA bb))), (b + 14, .inl (kI K, 10, .inl (iA ld)))] := hD
      refine lv_aload_n hx hb dM_waste_28 rfl (lv_at hl 0 rfl) ?_
      refine va_get (D := kD K) (ci := 4) (v := .int (iI 0)) (C := RM) (T := FM) (N := 21) hx hb hts jnM hown hK hP 0 rfl rfl 0 (by decide) (hts _ mt_463) (fun _ h9 => h9) rfl dM_waste_29 ?_
      refine iz_if_le (tgt := 37) hx hb ⟨by omega, by omega⟩ dM_waste_32 (by decide) (fun _ => ?_) (fun g => absurd g (by decide))
      have e1 := hj (by omega) (by omega)
      refine lv_aload_n hx hb dM_waste_37 rfl (lv_at hl 0 rfl) ?_
      refine va_get (D := kD K) (ci := 4) (v := .ref (b + 6)) (C := RM) (T := FM) (N := 21) hx hb hts jnM hown hK hP 0 rfl rfl 7 (by decide) (hts _ mt_470) (fun _ h9 => h9) rfl dM_waste_38 ?_
      refine lv_iload_n hx hb dM_waste_41 rfl (lv_at hl 1 rfl) ?_
      refine iz_iald hx hb hK hP 6 rfl j e1 (by omega) (by omega) dM_waste_42 ?_
      refine lv_istore_n (lv' := [(3, .int (iI (wa j))), (0, .ref b), (1, .int (iI x1)), (2, .int (iI x2))]) hx hb dM_waste_43 rfl hl (by decide) rfl (fun ls hl => ?_)
      refine lv_aload_n hx hb dM_waste_44 rfl (lv_at hl 1 rfl) ?_
      refine va_get (D := kD K) (ci := 4) (v := .ref (b + 6)) (C := RM) (T := FM) (N := 21) hx hb hts jnM hown hK hP 0 rfl rfl 7 (by decide) (hts _ mt_470) (fun _ h9 => h9) rfl dM_waste_45 ?_
      refine lv_iload_n hx hb dM_waste_48 rfl (lv_at hl 2 rfl) ?_
      refine lv_iload_n hx hb dM_waste_49 rfl (lv_at hl 3 rfl) ?_
      refine iz_iast hx hb hK hP hD hS 6 rfl j e1 (by omega) (by omega) dM_waste_50 ?_
      clear hP hD hS
      intro H locs hP hD hS
      replace hP : va_P (kD K) vcl [(b, .inr (4, [.int (iI 0), .int (iI (wn : Int)), .ref (b + 1), .ref (b + 2), .ref (b + 3), .ref (b + 4), .ref (b + 5), .ref (b + 6), .ref (b + 7), .ref (b + 8), .ref (b + 9), .long (lI co), .ref (b + 10), .ref (b + 11), .int (iI ln), .int (iI cu), .int (iI (pn : Int)), .ref (b + 12), .int (iI bc), .ref (b + 13), .ref (b + 14)])), (b + 1, .inl (kI K, 12, .inl (iA ar))), (b + 2, .inl (kI K, 12, .inl (iA oc))), (b + 3, .inl (kI K, 12, .inl (iA lc))), (b + 4, .inl (kI K, 96, .inl (iA st))), (b + 5, .inl (kI K, 96, .inl (iA tk))), (b + 6, .inl (kI K, 10, .inl (iA (ut wa j x2)))), (b + 7, .inl (kI K, 10, .inl (iA pk))), (b + 8, .inl (kL K, 40, .inr (.inl (lA mu)))), (b + 9, .inl (kL K, 40, .inr (.inl (lA pr)))), (b + 10, .inl (kI K, 4, .inl (iA cn))), (b + 11, .inl (kI K, 4, .inl (iA bs))), (b + 12, .inl (kI K, 10, .inl (iA le))), (b + 13, .inl (kI K, 10, .inl (iA bb))), (b + 14, .inl (kI K, 10, .inl (iA ld)))] H := hP
      replace hD : va_D A [(b, .inr (4, [.int (iI 0), .int (iI (wn : Int)), .ref (b + 1), .ref (b + 2), .ref (b + 3), .ref (b + 4), .ref (b + 5), .ref (b + 6), .ref (b + 7), .ref (b + 8), .ref (b + 9), .long (lI co), .ref (b + 10), .ref (b + 11), .int (iI ln), .int (iI cu), .int (iI (pn : Int)), .ref (b + 12), .int (iI bc), .ref (b + 13), .ref (b + 14)])), (b + 1, .inl (kI K, 12, .inl (iA ar))), (b + 2, .inl (kI K, 12, .inl (iA oc))), (b + 3, .inl (kI K, 12, .inl (iA lc))), (b + 4, .inl (kI K, 96, .inl (iA st))), (b + 5, .inl (kI K, 96, .inl (iA tk))), (b + 6, .inl (kI K, 10, .inl (iA (ut wa j x2)))), (b + 7, .inl (kI K, 10, .inl (iA pk))), (b + 8, .inl (kL K, 40, .inr (.inl (lA mu)))), (b + 9, .inl (kL K, 40, .inr (.inl (lA pr)))), (b + 10, .inl (kI K, 4, .inl (iA cn))), (b + 11, .inl (kI K, 4, .inl (iA bs))), (b + 12, .inl (kI K, 10, .inl (iA le))), (b + 13, .inl (kI K, 10, .inl (iA bb))), (b + 14, .inl (kI K, 10, .inl (iA ld)))] := hD
      refine lv_iload_n hx hb dM_waste_51 rfl (lv_at hl 0 rfl) ?_
      rw [hQ]
      exact iz_iret hx hb hr hlocks (Or.inr ⟨by omega, rfl, hP⟩) hS.2.2 dM_waste_52
    · refine iz_if_eq (tgt := 24) hx hb ⟨by omega, by omega⟩ dM_waste_17 (by decide) (fun _ => ?_) (fun g => absurd g (by decide))
      refine iz_iconst hx hb dM_waste_24 ?_
      refine va_put (D := kD K) (ci := 4) (v := .int (iI 1)) (ty := .int) (C := RM) (T := FM) (N := 21) hx hb hts jnM tM tM_ok nM hown hK hP hD hS 0 rfl rfl 0 (by decide) (hts _ mt_463) (fun _ h9 => h9) rfl (by decide +kernel) rfl rfl (Nat.le_of_ble_eq_true rfl) dM_waste_25 ?_
      clear hP hD hS
      intro H locs hP hD hS
      replace hP : va_P (kD K) vcl [(b, .inr (4, [.int (iI 1), .int (iI (wn : Int)), .ref (b + 1), .ref (b + 2), .ref (b + 3), .ref (b + 4), .ref (b + 5), .ref (b + 6), .ref (b + 7), .ref (b + 8), .ref (b + 9), .long (lI co), .ref (b + 10), .ref (b + 11), .int (iI ln), .int (iI cu), .int (iI (pn : Int)), .ref (b + 12), .int (iI bc), .ref (b + 13), .ref (b + 14)])), (b + 1, .inl (kI K, 12, .inl (iA ar))), (b + 2, .inl (kI K, 12, .inl (iA oc))), (b + 3, .inl (kI K, 12, .inl (iA lc))), (b + 4, .inl (kI K, 96, .inl (iA st))), (b + 5, .inl (kI K, 96, .inl (iA tk))), (b + 6, .inl (kI K, 10, .inl (iA wa))), (b + 7, .inl (kI K, 10, .inl (iA pk))), (b + 8, .inl (kL K, 40, .inr (.inl (lA mu)))), (b + 9, .inl (kL K, 40, .inr (.inl (lA pr)))), (b + 10, .inl (kI K, 4, .inl (iA cn))), (b + 11, .inl (kI K, 4, .inl (iA bs))), (b + 12, .inl (kI K, 10, .inl (iA le))), (b + 13, .inl (kI K, 10, .inl (iA bb))), (b + 14, .inl (kI K, 10, .inl (iA ld)))] H := hP
      replace hD : va_D A [(b, .inr (4, [.int (iI 1), .int (iI (wn : Int)), .ref (b + 1), .ref (b + 2), .ref (b + 3), .ref (b + 4), .ref (b + 5), .ref (b + 6), .ref (b + 7), .ref (b + 8), .ref (b + 9), .long (lI co), .ref (b + 10), .ref (b + 11), .int (iI ln), .int (iI cu), .int (iI (pn : Int)), .ref (b + 12), .int (iI bc), .ref (b + 13), .ref (b + 14)])), (b + 1, .inl (kI K, 12, .inl (iA ar))), (b + 2, .inl (kI K, 12, .inl (iA oc))), (b + 3, .inl (kI K, 12, .inl (iA lc))), (b + 4, .inl (kI K, 96, .inl (iA st))), (b + 5, .inl (kI K, 96, .inl (iA tk))), (b + 6, .inl (kI K, 10, .inl (iA wa))), (b + 7, .inl (kI K, 10, .inl (iA pk))), (b + 8, .inl (kL K, 40, .inr (.inl (lA mu)))), (b + 9, .inl (kL K, 40, .inr (.inl (lA pr)))), (b + 10, .inl (kI K, 4, .inl (iA cn))), (b + 11, .inl (kI K, 4, .inl (iA bs))), (b + 12, .inl (kI K, 10, .inl (iA le))), (b + 13, .inl (kI K, 10, .inl (iA bb))), (b + 14, .inl (kI K, 10, .inl (iA ld)))] := hD
      refine lv_aload_n hx hb dM_waste_28 rfl (lv_at hl 0 rfl) ?_
      refine va_get (D := kD K) (ci := 4) (v := .int (iI 1)) (C := RM) (T := FM) (N := 21) hx hb hts jnM hown hK hP 0 rfl rfl 0 (by decide) (hts _ mt_463) (fun _ h9 => h9) rfl dM_waste_29 ?_
      refine iz_if_le (tgt := 37) hx hb ⟨by omega, by omega⟩ dM_waste_32 (by decide) (fun g => absurd g (by decide)) (fun _ => ?_)
      refine iz_iconst hx hb dM_waste_35 ?_
      rw [hQ]
      exact iz_iret hx hb hr hlocks (Or.inl ⟨by omega, hP⟩) hS.2.2 dM_waste_36
  · refine iz_if_eq (tgt := 24) hx hb ⟨by omega, by omega⟩ dM_waste_5 (by decide) (fun _ => ?_) (fun g => absurd g (by decide))
    refine iz_iconst hx hb dM_waste_24 ?_
    refine va_put (D := kD K) (ci := 4) (v := .int (iI 1)) (ty := .int) (C := RM) (T := FM) (N := 21) hx hb hts jnM tM tM_ok nM hown hK hP hD hS 0 rfl rfl 0 (by decide) (hts _ mt_463) (fun _ h9 => h9) rfl (by decide +kernel) rfl rfl (Nat.le_of_ble_eq_true rfl) dM_waste_25 ?_
    clear hP hD hS
    intro H locs hP hD hS
    replace hP : va_P (kD K) vcl [(b, .inr (4, [.int (iI 1), .int (iI (wn : Int)), .ref (b + 1), .ref (b + 2), .ref (b + 3), .ref (b + 4), .ref (b + 5), .ref (b + 6), .ref (b + 7), .ref (b + 8), .ref (b + 9), .long (lI co), .ref (b + 10), .ref (b + 11), .int (iI ln), .int (iI cu), .int (iI (pn : Int)), .ref (b + 12), .int (iI bc), .ref (b + 13), .ref (b + 14)])), (b + 1, .inl (kI K, 12, .inl (iA ar))), (b + 2, .inl (kI K, 12, .inl (iA oc))), (b + 3, .inl (kI K, 12, .inl (iA lc))), (b + 4, .inl (kI K, 96, .inl (iA st))), (b + 5, .inl (kI K, 96, .inl (iA tk))), (b + 6, .inl (kI K, 10, .inl (iA wa))), (b + 7, .inl (kI K, 10, .inl (iA pk))), (b + 8, .inl (kL K, 40, .inr (.inl (lA mu)))), (b + 9, .inl (kL K, 40, .inr (.inl (lA pr)))), (b + 10, .inl (kI K, 4, .inl (iA cn))), (b + 11, .inl (kI K, 4, .inl (iA bs))), (b + 12, .inl (kI K, 10, .inl (iA le))), (b + 13, .inl (kI K, 10, .inl (iA bb))), (b + 14, .inl (kI K, 10, .inl (iA ld)))] H := hP
    replace hD : va_D A [(b, .inr (4, [.int (iI 1), .int (iI (wn : Int)), .ref (b + 1), .ref (b + 2), .ref (b + 3), .ref (b + 4), .ref (b + 5), .ref (b + 6), .ref (b + 7), .ref (b + 8), .ref (b + 9), .long (lI co), .ref (b + 10), .ref (b + 11), .int (iI ln), .int (iI cu), .int (iI (pn : Int)), .ref (b + 12), .int (iI bc), .ref (b + 13), .ref (b + 14)])), (b + 1, .inl (kI K, 12, .inl (iA ar))), (b + 2, .inl (kI K, 12, .inl (iA oc))), (b + 3, .inl (kI K, 12, .inl (iA lc))), (b + 4, .inl (kI K, 96, .inl (iA st))), (b + 5, .inl (kI K, 96, .inl (iA tk))), (b + 6, .inl (kI K, 10, .inl (iA wa))), (b + 7, .inl (kI K, 10, .inl (iA pk))), (b + 8, .inl (kL K, 40, .inr (.inl (lA mu)))), (b + 9, .inl (kL K, 40, .inr (.inl (lA pr)))), (b + 10, .inl (kI K, 4, .inl (iA cn))), (b + 11, .inl (kI K, 4, .inl (iA bs))), (b + 12, .inl (kI K, 10, .inl (iA le))), (b + 13, .inl (kI K, 10, .inl (iA bb))), (b + 14, .inl (kI K, 10, .inl (iA ld)))] := hD
    refine lv_aload_n hx hb dM_waste_28 rfl (lv_at hl 0 rfl) ?_
    refine va_get (D := kD K) (ci := 4) (v := .int (iI 1)) (C := RM) (T := FM) (N := 21) hx hb hts jnM hown hK hP 0 rfl rfl 0 (by decide) (hts _ mt_463) (fun _ h9 => h9) rfl dM_waste_29 ?_
    refine iz_if_le (tgt := 37) hx hb ⟨by omega, by omega⟩ dM_waste_32 (by decide) (fun g => absurd g (by decide)) (fun _ => ?_)
    refine iz_iconst hx hb dM_waste_35 ?_
    rw [hQ]
    exact iz_iret hx hb hr hlocks (Or.inl ⟨by omega, hP⟩) hS.2.2 dM_waste_36
