-- class Saw
/-- the saw at q: bar length, cut, pieces; planned, bars; their bar, what is free, loads, smallest -/
abbrev saW (K : KG) (q : Nat) (bl cu : Int) (Pn : Nat) (le : Nat → Int) (pl : Int) (Bn : Nat) (bo fr lo sl : Nat → Int) : va_W := [(q, .inr (3, [.int (iI bl), .int (iI cu), .int (iI (Pn : Int)), .ref (q + 1), .int (iI pl), .int (iI (Bn : Int)), .ref (q + 2), .ref (q + 3), .ref (q + 4), .ref (q + 5)])), (q + 1, .inl (kI K, 10, .inl (iA le))), (q + 2, .inl (kI K, 10, .inl (iA bo))), (q + 3, .inl (kI K, 10, .inl (iA fr))), (q + 4, .inl (kI K, 10, .inl (iA lo))), (q + 5, .inl (kI K, 10, .inl (iA sl)))]
/-- what is known of the pieces -/
def SwB (bl cu : Int) (Pn : Nat) (le : Nat → Int) : Prop := (1 ≤ bl ∧ bl ≤ 10000) ∧ (0 ≤ cu ∧ cu ≤ 100) ∧ Pn ≤ 10 ∧ ∀ i, i < Pn → 1 ≤ le i ∧ le i ≤ bl
/-- a piece with its cut -/
abbrev swz (le : Nat → Int) (cu : Int) : Nat → Int := fun i => le i + cu
abbrev rmA_init : Room := { frames := 1, cells := 5, slots := 50, locals := 20 }
set_option maxHeartbeats 4000000 in
set_option maxRecDepth 100000 in
/-- Saw() -/
theorem c_A_init (l : Launch) (K : KG) (q : Nat) : Ct l yA_init kA_init rmA_init (PC K [.ref q] (fun H => H.size = q + 1 ∧ va_P (kD K) vcl [(q, .inr (3, [.int (iI 0), .int (iI 0), .int (iI 0), .null, .int (iI 0), .int (iI 0), .null, .null, .null, .null]))] H)) (QV (fun H => H.size = q + 6 ∧ va_P (kD K) vcl (saW K q 10000 0 0 (fun _ => 0) 0 0 (fun _ => 0) (fun _ => 0) (fun _ => 0) (fun _ => 0)) H)) (fun x => q ≤ x) := by
  refine ct_of (by decide) (Or.inl ⟨rfl, rfl⟩) ?_
  intro p e s m args below meth c B0 hP0
  obtain ⟨hx, hb, hr, hml, hown, hlocks, hnm, htab⟩ := B0
  obtain ⟨ha, ⟨hT, hK⟩, hB⟩ := hP0
  have hl := lv_entry ([.ref q]) (n := 1) (Nat.le_of_ble_eq_true rfl)
  obtain ⟨Q, hQ⟩ : ∃ Q, Q = XQ below (QV (fun H => H.size = q + 6 ∧ va_P (kD K) vcl (saW K q 10000 0 0 (fun _ => 0) 0 0 (fun _ => 0) (fun _ => 0) (fun _ => 0) (fun _ => 0)) H)) args s rmA_init.cells rmA_init.slots (fun x => q ≤ x) := ⟨_, rfl⟩
  rw [← hQ, ha, lg_entry_eq]
  rw [ha] at hQ
  generalize (lg_sl ([.ref q]) ++ List.replicate (1 - (lg_sl ([.ref q])).length) Slot.unset).toArray = ls at hl ⊢
  generalize ([.ref q] : List Value).toArray = args at hQ ⊢
  have hts : ∀ w ∈ TW, w.before args s = true := fun w h => hT w h args
  have hl : lv_has ls 1 [(0, .ref q)] := hl
  obtain ⟨A, hAe⟩ : ∃ A : Addr → Prop, A = (fun x => q ≤ x) := ⟨_, rfl⟩
  rw [← hAe] at hQ
  have hS : va_S A s.heap s.heap [] := va_S.rf
  obtain ⟨hz0, hP⟩ := hB
  have hD : va_D A [(q, .inr (3, [.int (iI 0), .int (iI 0), .int (iI 0), .null, .int (iI 0), .int (iI 0), .null, .null, .null, .null]))] := by rw [hAe]; exact va_D_of (by simp) (by simp)
  have hA : ∀ x, s.heap.size ≤ x → A x := fun x hx => by rw [hAe]; show q ≤ x; omega
  refine lv_aload_n hx hb dA_init_0 rfl (lv_at hl 0 rfl) ?_
  refine W.objInit hx hb hown (hts _ mt_89) (hts _ mt_20) (hts _ mt_21) rfl (by rw [hml]; exact hl.1) rfl dA_init_1 (Nat.le_of_ble_eq_true rfl) (Nat.le_of_ble_eq_true rfl) ?_
  refine W.eq (g2 := F0 m 4 ls []) rfl ?_
  refine lv_aload_n hx hb dA_init_4 rfl (lv_at hl 0 rfl) ?_
  refine iz_sipush hx hb dA_init_5 (by decide) ?_
  refine va_put (D := kD K) (ci := 3) (v := .int (iI 10000)) (ty := .int) (C := RA) (T := FA) (N := 10) hx hb hts jnA tA tA_ok nA hown hK hP hD hS 0 rfl rfl 0 (by decide) (hts _ mt_90) (fun _ h9 => h9) rfl (by decide +kernel) rfl rfl (Nat.le_of_ble_eq_true rfl) dA_init_8 ?_
  clear hP hD hS
  intro H locs hP hD hS
  replace hP : va_P (kD K) vcl [(q, .inr (3, [.int (iI 10000), .int (iI 0), .int (iI 0), .null, .int (iI 0), .int (iI 0), .null, .null, .null, .null]))] H := hP
  replace hD : va_D A [(q, .inr (3, [.int (iI 10000), .int (iI 0), .int (iI 0), .null, .int (iI 0), .int (iI 0), .null, .null, .null, .null]))] := hD
  refine lv_aload_n hx hb dA_init_11 rfl (lv_at hl 0 rfl) ?_
  refine iz_bipush hx hb dA_init_12 (by decide) ?_
  refine W.sz (fun hs9 => ?_)
  have hz0 : H.size = q + 1 := by have h9 := hS.1; omega
  have hz := hz0
  refine iz_newi hx hb hT hK hP hD hS hA 10 rfl (by omega) (Nat.le_of_ble_eq_true rfl) (Nat.le_of_ble_eq_true rfl) (z := q + 1) hz dA_init_14 ?_
  clear hz hP hD hS
  intro H hz hP hD hS
  replace hP : va_P (kD K) vcl [(q, .inr (3, [.int (iI 10000), .int (iI 0), .int (iI 0), .null, .int (iI 0), .int (iI 0), .null, .null, .null, .null])), (q + 1, .inl (kI K, 10, .inl (iA (fun _ => 0))))] H := hP
  replace hD : va_D A [(q, .inr (3, [.int (iI 10000), .int (iI 0), .int (iI 0), .null, .int (iI 0), .int (iI 0), .null, .null, .null, .null])), (q + 1, .inl (kI K, 10, .inl (iA (fun _ => 0))))] := hD
  refine W.num (c1 := 1) (s1 := 10) rfl rfl ?_
  refine va_putF (D := kD K) (ci := 3) (v := .ref (q + 1)) (ty := .array .int) (C := RA) (T := FA) (N := 10) hx hb hts jnA tA tA_ok nA hown hK hP hD hS 0 rfl rfl 3 (by decide) (hts _ mt_95) (fun _ h9 => h9) rfl hnm rfl (by decide +kernel) rfl rfl (Nat.le_of_ble_eq_true rfl) dA_init_16 ?_
  clear hP hD hS
  intro H locs hP hD hS
  replace hP : va_P (kD K) vcl [(q, .inr (3, [.int (iI 10000), .int (iI 0), .int (iI 0), .ref (q + 1), .int (iI 0), .int (iI 0), .null, .null, .null, .null])), (q + 1, .inl (kI K, 10, .inl (iA (fun _ => 0))))] H := hP
  replace hD : va_D A [(q, .inr (3, [.int (iI 10000), .int (iI 0), .int (iI 0), .ref (q + 1), .int (iI 0), .int (iI 0), .null, .null, .null, .null])), (q + 1, .inl (kI K, 10, .inl (iA (fun _ => 0))))] := hD
  refine lv_aload_n hx hb dA_init_19 rfl (lv_at hl 0 rfl) ?_
  refine iz_bipush hx hb dA_init_20 (by decide) ?_
  refine W.sz (fun hs9 => ?_)
  replace hz : H.size = q + 2 := by have h9 : q + 1 < H.size := (hP 1 _ rfl).lt; omega
  clear hs9
  refine iz_newi hx hb hT hK hP hD hS hA 10 rfl (by omega) (Nat.le_of_ble_eq_true rfl) (Nat.le_of_ble_eq_true rfl) (z := q + 2) hz dA_init_22 ?_
  clear hz hP hD hS
  intro H hz hP hD hS
  replace hP : va_P (kD K) vcl [(q, .inr (3, [.int (iI 10000), .int (iI 0), .int (iI 0), .ref (q + 1), .int (iI 0), .int (iI 0), .null, .null, .null, .null])), (q + 1, .inl (kI K, 10, .inl (iA (fun _ => 0)))), (q + 2, .inl (kI K, 10, .inl (iA (fun _ => 0))))] H := hP
  replace hD : va_D A [(q, .inr (3, [.int (iI 10000), .int (iI 0), .int (iI 0), .ref (q + 1), .int (iI 0), .int (iI 0), .null, .null, .null, .null])), (q + 1, .inl (kI K, 10, .inl (iA (fun _ => 0)))), (q + 2, .inl (kI K, 10, .inl (iA (fun _ => 0))))] := hD
  refine W.num (c1 := 2) (s1 := 20) rfl rfl ?_
  refine va_putF (D := kD K) (ci := 3) (v := .ref (q + 2)) (ty := .array .int) (C := RA) (T := FA) (N := 10) hx hb hts jnA tA tA_ok nA hown hK hP hD hS 0 rfl rfl 6 (by decide) (hts _ mt_99) (fun _ h9 => h9) rfl hnm rfl (by decide +kernel) rfl rfl (Nat.le_of_ble_eq_true rfl) dA_init_24 ?_
  clear hP hD hS
  intro H locs hP hD hS
  replace hP : va_P (kD K) vcl [(q, .inr (3, [.int (iI 10000), .int (iI 0), .int (iI 0), .ref (q + 1), .int (iI 0), .int (iI 0), .ref (q + 2), .null, .null, .null])), (q + 1, .inl (kI K, 10, .inl (iA (fun _ => 0)))), (q + 2, .inl (kI K, 10, .inl (iA (fun _ => 0))))] H := hP
  replace hD : va_D A [(q, .inr (3, [.int (iI 10000), .int (iI 0), .int (iI 0), .ref (q + 1), .int (iI 0), .int (iI 0), .ref (q + 2), .null, .null, .null])), (q + 1, .inl (kI K, 10, .inl (iA (fun _ => 0)))), (q + 2, .inl (kI K, 10, .inl (iA (fun _ => 0))))] := hD
  refine lv_aload_n hx hb dA_init_27 rfl (lv_at hl 0 rfl) ?_
  refine iz_bipush hx hb dA_init_28 (by decide) ?_
  refine W.sz (fun hs9 => ?_)
  replace hz : H.size = q + 3 := by have h9 : q + 2 < H.size := (hP 2 _ rfl).lt; omega
  clear hs9
  refine iz_newi hx hb hT hK hP hD hS hA 10 rfl (by omega) (Nat.le_of_ble_eq_true rfl) (Nat.le_of_ble_eq_true rfl) (z := q + 3) hz dA_init_30 ?_
  clear hz hP hD hS
  intro H hz hP hD hS
  replace hP : va_P (kD K) vcl [(q, .inr (3, [.int (iI 10000), .int (iI 0), .int (iI 0), .ref (q + 1), .int (iI 0), .int (iI 0), .ref (q + 2), .null, .null, .null])), (q + 1, .inl (kI K, 10, .inl (iA (fun _ => 0)))), (q + 2, .inl (kI K, 10, .inl (iA (fun _ => 0)))), (q + 3, .inl (kI K, 10, .inl (iA (fun _ => 0))))] H := hP
  replace hD : va_D A [(q, .inr (3, [.int (iI 10000), .int (iI 0), .int (iI 0), .ref (q + 1), .int (iI 0), .int (iI 0), .ref (q + 2), .null, .null, .null])), (q + 1, .inl (kI K, 10, .inl (iA (fun _ => 0)))), (q + 2, .inl (kI K, 10, .inl (iA (fun _ => 0)))), (q + 3, .inl (kI K, 10, .inl (iA (fun _ => 0))))] := hD
  refine W.num (c1 := 3) (s1 := 30) rfl rfl ?_
  refine va_putF (D := kD K) (ci := 3) (v := .ref (q + 3)) (ty := .array .int) (C := RA) (T := FA) (N := 10) hx hb hts jnA tA tA_ok nA hown hK hP hD hS 0 rfl rfl 7 (by decide) (hts _ mt_101) (fun _ h9 => h9) rfl hnm rfl (by decide +kernel) rfl rfl (Nat.le_of_ble_eq_true rfl) dA_init_32 ?_
  clear hP hD hS
  intro H locs hP hD hS
  replace hP : va_P (kD K) vcl [(q, .inr (3, [.int (iI 10000), .int (iI 0), .int (iI 0), .ref (q + 1), .int (iI 0), .int (iI 0), .ref (q + 2), .ref (q + 3), .null, .null])), (q + 1, .inl (kI K, 10, .inl (iA (fun _ => 0)))), (q + 2, .inl (kI K, 10, .inl (iA (fun _ => 0)))), (q + 3, .inl (kI K, 10, .inl (iA (fun _ => 0))))] H := hP
  replace hD : va_D A [(q, .inr (3, [.int (iI 10000), .int (iI 0), .int (iI 0), .ref (q + 1), .int (iI 0), .int (iI 0), .ref (q + 2), .ref (q + 3), .null, .null])), (q + 1, .inl (kI K, 10, .inl (iA (fun _ => 0)))), (q + 2, .inl (kI K, 10, .inl (iA (fun _ => 0)))), (q + 3, .inl (kI K, 10, .inl (iA (fun _ => 0))))] := hD
  refine lv_aload_n hx hb dA_init_35 rfl (lv_at hl 0 rfl) ?_
  refine iz_bipush hx hb dA_init_36 (by decide) ?_
  refine W.sz (fun hs9 => ?_)
  replace hz : H.size = q + 4 := by have h9 : q + 3 < H.size := (hP 3 _ rfl).lt; omega
  clear hs9
  refine iz_newi hx hb hT hK hP hD hS hA 10 rfl (by omega) (Nat.le_of_ble_eq_true rfl) (Nat.le_of_ble_eq_true rfl) (z := q + 4) hz dA_init_38 ?_
  clear hz hP hD hS
  intro H hz hP hD hS
  replace hP : va_P (kD K) vcl [(q, .inr (3, [.int (iI 10000), .int (iI 0), .int (iI 0), .ref (q + 1), .int (iI 0), .int (iI 0), .ref (q + 2), .ref (q + 3), .null, .null])), (q + 1, .inl (kI K, 10, .inl (iA (fun _ => 0)))), (q + 2, .inl (kI K, 10, .inl (iA (fun _ => 0)))), (q + 3, .inl (kI K, 10, .inl (iA (fun _ => 0)))), (q + 4, .inl (kI K, 10, .inl (iA (fun _ => 0))))] H := hP
  replace hD : va_D A [(q, .inr (3, [.int (iI 10000), .int (iI 0), .int (iI 0), .ref (q + 1), .int (iI 0), .int (iI 0), .ref (q + 2), .ref (q + 3), .null, .null])), (q + 1, .inl (kI K, 10, .inl (iA (fun _ => 0)))), (q + 2, .inl (kI K, 10, .inl (iA (fun _ => 0)))), (q + 3, .inl (kI K, 10, .inl (iA (fun _ => 0)))), (q + 4, .inl (kI K, 10, .inl (iA (fun _ => 0))))] := hD
  refine W.num (c1 := 4) (s1 := 40) rfl rfl ?_
  refine va_putF (D := kD K) (ci := 3) (v := .ref (q + 4)) (ty := .array .int) (C := RA) (T := FA) (N := 10) hx hb hts jnA tA tA_ok nA hown hK hP hD hS 0 rfl rfl 8 (by decide) (hts _ mt_103) (fun _ h9 => h9) rfl hnm rfl (by decide +kernel) rfl rfl (Nat.le_of_ble_eq_true rfl) dA_init_40 ?_
  clear hP hD hS
  intro H locs hP hD hS
  replace hP : va_P (kD K) vcl [(q, .inr (3, [.int (iI 10000), .int (iI 0), .int (iI 0), .ref (q + 1), .int (iI 0), .int (iI 0), .ref (q + 2), .ref (q + 3), .ref (q + 4), .null])), (q + 1, .inl (kI K, 10, .inl (iA (fun _ => 0)))), (q + 2, .inl (kI K, 10, .inl (iA (fun _ => 0)))), (q + 3, .inl (kI K, 10, .inl (iA (fun _ => 0)))), (q + 4, .inl (kI K, 10, .inl (iA (fun _ => 0))))] H := hP
  replace hD : va_D A [(q, .inr (3, [.int (iI 10000), .int (iI 0), .int (iI 0), .ref (q + 1), .int (iI 0), .int (iI 0), .ref (q + 2), .ref (q + 3), .ref (q + 4), .null])), (q + 1, .inl (kI K, 10, .inl (iA (fun _ => 0)))), (q + 2, .inl (kI K, 10, .inl (iA (fun _ => 0)))), (q + 3, .inl (kI K, 10, .inl (iA (fun _ => 0)))), (q + 4, .inl (kI K, 10, .inl (iA (fun _ => 0))))] := hD
  refine lv_aload_n hx hb dA_init_43 rfl (lv_at hl 0 rfl) ?_
  refine iz_bipush hx hb dA_init_44 (by decide) ?_
  refine W.sz (fun hs9 => ?_)
  replace hz : H.size = q + 5 := by have h9 : q + 4 < H.size := (hP 4 _ rfl).lt; omega
  clear hs9
  refine iz_newi hx hb hT hK hP hD hS hA 10 rfl (by omega) (Nat.le_of_ble_eq_true rfl) (Nat.le_of_ble_eq_true rfl) (z := q + 5) hz dA_init_46 ?_
  clear hz hP hD hS
  intro H hz hP hD hS
  replace hP : va_P (kD K) vcl [(q, .inr (3, [.int (iI 10000), .int (iI 0), .int (iI 0), .ref (q + 1), .int (iI 0), .int (iI 0), .ref (q + 2), .ref (q + 3), .ref (q + 4), .null])), (q + 1, .inl (kI K, 10, .inl (iA (fun _ => 0)))), (q + 2, .inl (kI K, 10, .inl (iA (fun _ => 0)))), (q + 3, .inl (kI K, 10, .inl (iA (fun _ => 0)))), (q + 4, .inl (kI K, 10, .inl (iA (fun _ => 0)))), (q + 5, .inl (kI K, 10, .inl (iA (fun _ => 0))))] H := hP
  replace hD : va_D A [(q, .inr (3, [.int (iI 10000), .int (iI 0), .int (iI 0), .ref (q + 1), .int (iI 0), .int (iI 0), .ref (q + 2), .ref (q + 3), .ref (q + 4), .null])), (q + 1, .inl (kI K, 10, .inl (iA (fun _ => 0)))), (q + 2, .inl (kI K, 10, .inl (iA (fun _ => 0)))), (q + 3, .inl (kI K, 10, .inl (iA (fun _ => 0)))), (q + 4, .inl (kI K, 10, .inl (iA (fun _ => 0)))), (q + 5, .inl (kI K, 10, .inl (iA (fun _ => 0))))] := hD
  refine W.num (c1 := 5) (s1 := 50) rfl rfl ?_
  refine va_putF (D := kD K) (ci := 3) (v := .ref (q + 5)) (ty := .array .int) (C := RA) (T := FA) (N := 10) hx hb hts jnA tA tA_ok nA hown hK hP hD hS 0 rfl rfl 9 (by decide) (hts _ mt_104) (fun _ h9 => h9) rfl hnm rfl (by decide +kernel) rfl rfl (Nat.le_of_ble_eq_true rfl) dA_init_48 ?_
  clear hP hD hS
  intro H locs hP hD hS
  replace hP : va_P (kD K) vcl [(q, .inr (3, [.int (iI 10000), .int (iI 0), .int (iI 0), .ref (q + 1), .int (iI 0), .int (iI 0), .ref (q + 2), .ref (q + 3), .ref (q + 4), .ref (q + 5)])), (q + 1, .inl (kI K, 10, .inl (iA (fun _ => 0)))), (q + 2, .inl (kI K, 10, .inl (iA (fun _ => 0)))), (q + 3, .inl (kI K, 10, .inl (iA (fun _ => 0)))), (q + 4, .inl (kI K, 10, .inl (iA (fun _ => 0)))), (q + 5, .inl (kI K, 10, .inl (iA (fun _ => 0))))] H := hP
  replace hD : va_D A [(q, .inr (3, [.int (iI 10000), .int (iI 0), .int (iI 0), .ref (q + 1), .int (iI 0), .int (iI 0), .ref (q + 2), .ref (q + 3), .ref (q + 4), .ref (q + 5)])), (q + 1, .inl (kI K, 10, .inl (iA (fun _ => 0)))), (q + 2, .inl (kI K, 10, .inl (iA (fun _ => 0)))), (q + 3, .inl (kI K, 10, .inl (iA (fun _ => 0)))), (q + 4, .inl (kI K, 10, .inl (iA (fun _ => 0)))), (q + 5, .inl (kI K, 10, .inl (iA (fun _ => 0))))] := hD
  refine W.sz (fun hs9 => ?_)
  replace hz : H.size = q + 6 := by have h9 : q + 5 < H.size := (hP 5 _ rfl).lt; omega
  clear hs9
  rw [hQ]
  exact iz_vret hx hb hr hlocks (⟨hz, hP⟩) hS.2.2 dA_init_51
abbrev rmA_longestPiece : Room := { frames := 1, cells := 0, slots := 0, locals := 40 }
set_option maxHeartbeats 4000000 in
set_option maxRecDepth 100000 in
/-- Saw.longestPiece() -/
theorem c_A_longest (l : Launch) (K : KG) (q : Nat) (bl cu : Int) (Pn : Nat) (le : Nat → Int) (pl : Int) (Bn : Nat) (bo fr lo sl : Nat → Int) (hB9 : SwB bl cu Pn le) : Ct l yA_longestPiece kA_longestPiece rmA_longestPiece (PC K [.ref q] (fun H => va_P (kD K) vcl (saW K q bl cu Pn le pl Bn bo fr lo sl) H)) (QI (fun r _ => (0 ≤ r ∧ r ≤ 10000) ∧ ∀ x : Int, 0 ≤ x → (x < r ↔ ∃ i, i < Pn ∧ x < le i))) (fun _ => False) := by
  refine ct_of (by decide) (Or.inl ⟨rfl, rfl⟩) ?_
  intro p e s m args below meth c B0 hP0
  obtain ⟨hx, hb, hr, hml, hown, hlocks, hnm, htab⟩ := B0
  obtain ⟨ha, ⟨hT, hK⟩, hB⟩ := hP0
  have hl := lv_entry ([.ref q]) (n := 3) (Nat.le_of_ble_eq_true rfl)
  obtain ⟨Q, hQ⟩ : ∃ Q, Q = XQ below (QI (fun r _ => (0 ≤ r ∧ r ≤ 10000) ∧ ∀ x : Int, 0 ≤ x → (x < r ↔ ∃ i, i < Pn ∧ x < le i))) args s rmA_longestPiece.cells rmA_longestPiece.slots (fun _ => False) := ⟨_, rfl⟩
  rw [← hQ, ha, lg_entry_eq]
  rw [ha] at hQ
  generalize (lg_sl ([.ref q]) ++ List.replicate (3 - (lg_sl ([.ref q])).length) Slot.unset).toArray = ls at hl ⊢
  generalize ([.ref q] : List Value).toArray = args at hQ ⊢
  have hts : ∀ w ∈ TW, w.before args s = true := fun w h => hT w h args
  have hl : lv_has ls 3 [(0, .ref q)] := hl
  obtain ⟨A, hAe⟩ : ∃ A : Addr → Prop, A = (fun _ => False) := ⟨_, rfl⟩
  rw [← hAe] at hQ
  have hS : va_S A s.heap s.heap [] := va_S.rf
  have hP : va_P (kD K) vcl [(q, .inr (3, [.int (iI bl), .int (iI cu), .int (iI (Pn : Int)), .ref (q + 1), .int (iI pl), .int (iI (Bn : Int)), .ref (q + 2), .ref (q + 3), .ref (q + 4), .ref (q + 5)])), (q + 1, .inl (kI K, 10, .inl (iA le))), (q + 2, .inl (kI K, 10, .inl (iA bo))), (q + 3, .inl (kI K, 10, .inl (iA fr))), (q + 4, .inl (kI K, 10, .inl (iA lo))), (q + 5, .inl (kI K, 10, .inl (iA sl)))] s.heap := hB
  obtain ⟨hbl, hcu, hP10, hle⟩ := hB9
  have loop : ∀ (j i : Nat) (z : Int), Pn + 1 ≤ i + j → i ≤ Pn → (0 ≤ z ∧ z ≤ 10000) → (∀ x : Int, 0 ≤ x → (x < z ↔ ∃ k, k < i ∧ x < le k)) → ∀ ls : Array Slot, lv_has ls 3 [(0, .ref q), (1, .int (iI z)), (2, .int (iI (i : Int)))] → W p l e rmA_longestPiece s m args below meth c s.heap [] 0 0 Q (F0 m 4 ls []) := by
    intro j
    induction j with
    | zero => intro i z h1 h2; omega
    | succ j ih =>
      intro i z h1 h2 hz hm ls hl
      refine lv_iload_n hx hb dA_longestPiece_4 rfl (lv_at hl 2 rfl) ?_
      refine lv_aload_n hx hb dA_longestPiece_5 rfl (lv_at hl 0 rfl) ?_
      refine va_get (D := kD K) (ci := 3) (v := .int (iI (Pn : Int))) (C := RA) (T := FA) (N := 10) hx hb hts jnA hown hK hP 0 rfl rfl 2 (by decide) (hts _ mt_93) (fun _ h9 => h9) rfl dA_longestPiece_6 ?_
      refine iz_icmp_ge (tgt := 29) hx hb ⟨by omega, by omega⟩ ⟨by omega, by omega⟩ dA_longestPiece_9 (by decide) (fun g1 => ?_) (fun g1 => ?_)
      · have e : i = Pn := by omega
        subst e
        refine lv_iload_n hx hb dA_longestPiece_29 rfl (lv_at hl 1 rfl) ?_
        rw [hQ]
        exact iz_iret hx hb hr hlocks (⟨hz, hm⟩) (fun _ h => absurd h List.not_mem_nil) dA_longestPiece_30
      · have qi := hle i (by omega)
        refine lv_iload_n hx hb dA_longestPiece_12 rfl (lv_at hl 1 rfl) ?_
        refine lv_aload_n hx hb dA_longestPiece_13 rfl (lv_at hl 0 rfl) ?_
        refine va_get (D := kD K) (ci := 3) (v := .ref (q + 1)) (C := RA) (T := FA) (N := 10) hx hb hts jnA hown hK hP 0 rfl rfl 3 (by decide) (hts _ mt_95) (fun _ h9 => h9) rfl dA_longestPiece_14 ?_
        refine lv_iload_n hx hb dA_longestPiece_17 rfl (lv_at hl 2 rfl) ?_
        refine iz_iald hx hb hK hP 1 rfl i rfl (by omega) (by omega) dA_longestPiece_18 ?_
        refine iz_max hx hb hml hl.1 hown hT mt_413 (Nat.le_of_ble_eq_true rfl) (Nat.le_of_ble_eq_true rfl) (Nat.le_of_ble_eq_true rfl) (Nat.le_of_ble_eq_true rfl) ⟨by omega, by omega⟩ ⟨by omega, by omega⟩ dA_longestPiece_19 ?_
        obtain ⟨y, hy⟩ : ∃ y : Int, y = if z < le i then le i else z := ⟨_, rfl⟩
        rw [← hy]
        have hym : ∀ x : Int, 0 ≤ x → (x < y ↔ ∃ k, k < i + 1 ∧ x < le k) := by
          intro x hx0
          constructor
          · intro h
            by_cases e : x < z
            · obtain ⟨k, hk, hk2⟩ := (hm x hx0).mp e
              exact ⟨k, by omega, hk2⟩
            · refine ⟨i, by omega, ?_⟩
              rw [hy] at h
              split at h <;> omega
          · rintro ⟨k, hk, hk2⟩
            rw [hy]
            by_cases e : k = i
            · subst e; split <;> omega
            · have h := (hm x hx0).mpr ⟨k, by omega, hk2⟩
              split <;> omega
        have hyb : 0 ≤ y ∧ y ≤ 10000 := by rw [hy]; split <;> omega
        refine lv_istore_n (lv' := [(1, .int (iI y)), (0, .ref q), (2, .int (iI (i : Int)))]) hx hb dA_longestPiece_22 rfl hl (by decide) rfl (fun ls hl => ?_)
        refine iz_iinc (k := 2) (lv' := [(2, .int (iI ((i : Int) + 1))), (1, .int (iI y)), (0, .ref q)]) hx hb dA_longestPiece_23 hl rfl (by decide) rfl (fun ls hl => ?_)
        refine lv_goto (tgt := 4) hx hb dA_longestPiece_26 (by decide) ?_
        exact ih (i + 1) y (by omega) (by omega) hyb hym ls (lv_sub hl [2, 1, 0] rfl)
  refine iz_iconst hx hb dA_longestPiece_0 ?_
  refine lv_istore_n (lv' := [(1, .int (iI 0)), (0, .ref q)]) hx hb dA_longestPiece_1 rfl hl (by decide) rfl (fun ls hl => ?_)
  refine iz_iconst hx hb dA_longestPiece_2 ?_
  refine lv_istore_n (lv' := [(2, .int (iI 0)), (1, .int (iI 0)), (0, .ref q)]) hx hb dA_longestPiece_3 rfl hl (by decide) rfl (fun ls hl => ?_)
  exact loop (Pn + 1) 0 0 (by omega) (by omega) ⟨by omega, by omega⟩ (fun x hx0 => ⟨fun h => absurd h (by omega), fun ⟨k, hk, _⟩ => absurd hk (by omega)⟩) ls (lv_sub hl [2, 1, 0] rfl)
abbrev rmA_takeBars : Room := { frames := 0, cells := 0, slots := 0, locals := 0 }
set_option maxHeartbeats 4000000 in
set_option maxRecDepth 100000 in
/-- Saw.takeBars(length, cut) -/
theorem c_A_take (l : Launch) (K : KG) (q : Nat) (bl cu : Int) (Pn : Nat) (le : Nat → Int) (pl : Int) (Bn : Nat) (bo fr lo sl : Nat → Int) (l1 c1 : Int) : Ct l yA_takeBars kA_takeBars rmA_takeBars (PC K [.ref q, .int (iI l1), .int (iI c1)] (fun H => va_P (kD K) vcl (saW K q bl cu Pn le pl Bn bo fr lo sl) H)) (QV (fun H => va_P (kD K) vcl (saW K q l1 c1 Pn le 0 Bn bo fr lo sl) H)) (fun x => q ≤ x ∧ x < q + 6) := by
  refine ct_of (by decide) (Or.inl ⟨rfl, rfl⟩) ?_
  intro p e s m args below meth c B0 hP0
  obtain ⟨hx, hb, hr, hml, hown, hlocks, hnm, htab⟩ := B0
  obtain ⟨ha, ⟨hT, hK⟩, hB⟩ := hP0
  have hl := lv_entry ([.ref q, .int (iI l1), .int (iI c1)]) (n := 3) (Nat.le_of_ble_eq_true rfl)
  obtain ⟨Q, hQ⟩ : ∃ Q, Q = XQ below (QV (fun H => va_P (kD K) vcl (saW K q l1 c1 Pn le 0 Bn bo fr lo sl) H)) args s rmA_takeBars.cells rmA_takeBars.slots (fun x => q ≤ x ∧ x < q + 6) := ⟨_, rfl⟩
  rw [← hQ, ha, lg_entry_eq]
  rw [ha] at hQ
  generalize (lg_sl ([.ref q, .int (iI l1), .int (iI c1)]) ++ List.replicate (3 - (lg_sl ([.ref q, .int (iI l1), .int (iI c1)])).length) Slot.unset).toArray = ls at hl ⊢
  generalize ([.ref q, .int (iI l1), .int (iI c1)] : List Value).toArray = args at hQ ⊢
  have hts : ∀ w ∈ TW, w.before args s = true := fun w h => hT w h args
  have hl : lv_has ls 3 [(0, .ref q), (1, .int (iI l1)), (2, .int (iI c1))] := hl
  obtain ⟨A, hAe⟩ : ∃ A : Addr → Prop, A = (fun x => q ≤ x ∧ x < q + 6) := ⟨_, rfl⟩
  rw [← hAe] at hQ
  have hS : va_S A s.heap s.heap [] := va_S.rf
  have hP : va_P (kD K) vcl [(q, .inr (3, [.int (iI bl), .int (iI cu), .int (iI (Pn : Int)), .ref (q + 1), .int (iI pl), .int (iI (Bn : Int)), .ref (q + 2), .ref (q + 3), .ref (q + 4), .ref (q + 5)])), (q + 1, .inl (kI K, 10, .inl (iA le))), (q + 2, .inl (kI K, 10, .inl (iA bo))), (q + 3, .inl (kI K, 10, .inl (iA fr))), (q + 4, .inl (kI K, 10, .inl (iA lo))), (q + 5, .inl (kI K, 10, .inl (iA sl)))] s.heap := hB
  have hD : va_D A [(q, .inr (3, [.int (iI bl), .int (iI cu), .int (iI (Pn : Int)), .ref (q + 1), .int (iI pl), .int (iI (Bn : Int)), .ref (q + 2), .ref (q + 3), .ref (q + 4), .ref (q + 5)])), (q + 1, .inl (kI K, 10, .inl (iA le))), (q + 2, .inl (kI K, 10, .inl (iA bo))), (q + 3, .inl (kI K, 10, .inl (iA fr))), (q + 4, .inl (kI K, 10, .inl (iA lo))), (q + 5, .inl (kI K, 10, .inl (iA sl)))] := by rw [hAe]; exact va_D_of (by simp) (by simp <;> omega)
  refine lv_aload_n hx hb dA_takeBars_0 rfl (lv_at hl 0 rfl) ?_
  refine lv_iload_n hx hb dA_takeBars_1 rfl (lv_at hl 1 rfl) ?_
  refine va_put (D := kD K) (ci := 3) (v := .int (iI l1)) (ty := .int) (C := RA) (T := FA) (N := 10) hx hb hts jnA tA tA_ok nA hown hK hP hD hS 0 rfl rfl 0 (by decide) (hts _ mt_90) (fun _ h9 => h9) rfl (by decide +kernel) rfl rfl (Nat.le_of_ble_eq_true rfl) dA_takeBars_2 ?_
  clear hP hD hS
  intro H locs hP hD hS
  replace hP : va_P (kD K) vcl [(q, .inr (3, [.int (iI l1), .int (iI cu), .int (iI (Pn : Int)), .ref (q + 1), .int (iI pl), .int (iI (Bn : Int)), .ref (q + 2), .ref (q + 3), .ref (q + 4), .ref (q + 5)])), (q + 1, .inl (kI K, 10, .inl (iA le))), (q + 2, .inl (kI K, 10, .inl (iA bo))), (q + 3, .inl (kI K, 10, .inl (iA fr))), (q + 4, .inl (kI K, 10, .inl (iA lo))), (q + 5, .inl (kI K, 10, .inl (iA sl)))] H := hP
  replace hD : va_D A [(q, .inr (3, [.int (iI l1), .int (iI cu), .int (iI (Pn : Int)), .ref (q + 1), .int (iI pl), .int (iI (Bn : Int)), .ref (q + 2), .ref (q + 3), .ref (q + 4), .ref (q + 5)])), (q + 1, .inl (kI K, 10, .inl (iA le))), (q + 2, .inl (kI K, 10, .inl (iA bo))), (q + 3, .inl (kI K, 10, .inl (iA fr))), (q + 4, .inl (kI K, 10, .inl (iA lo))), (q + 5, .inl (kI K, 10, .inl (iA sl)))] := hD
  refine lv_aload_n hx hb dA_takeBars_5 rfl (lv_at hl 0 rfl) ?_
  refine lv_iload_n hx hb dA_takeBars_6 rfl (lv_at hl 2 rfl) ?_
  refine va_put (D := kD K) (ci := 3) (v := .int (iI c1)) (ty := .int) (C := RA) (T := FA) (N := 10) hx hb hts jnA tA tA_ok nA hown hK hP hD hS 0 rfl rfl 1 (by decide) (hts _ mt_92) (fun _ h9 => h9) rfl (by decide +kernel) rfl rfl (Nat.le_of_ble_eq_true rfl) dA_takeBars_7 ?_
  clear hP hD hS
  intro H locs hP hD hS
  replace hP : va_P (kD K) vcl [(q, .inr (3, [.int (iI l1), .int (iI c1), .int (iI (Pn : Int)), .ref (q + 1), .int (iI pl), .int (iI (Bn : Int)), .ref (q + 2), .ref (q + 3), .ref (q + 4), .ref (q + 5)])), (q + 1, .inl (kI K, 10, .inl (iA le))), (q + 2, .inl (kI K, 10, .inl (iA bo))), (q + 3, .inl (kI K, 10, .inl (iA fr))), (q + 4, .inl (kI K, 10, .inl (iA lo))), (q + 5, .inl (kI K, 10, .inl (iA sl)))] H := hP
  replace hD : va_D A [(q, .inr (3, [.int (iI l1), .int (iI c1), .int (iI (Pn : Int)), .ref (q + 1), .int (iI pl), .int (iI (Bn : Int)), .ref (q + 2), .ref (q + 3), .ref (q + 4), .ref (q + 5)])), (q + 1, .inl (kI K, 10, .inl (iA le))), (q + 2, .inl (kI K, 10, .inl (iA bo))), (q + 3, .inl (kI K, 10, .inl (iA fr))), (q + 4, .inl (kI K, 10, .inl (iA lo))), (q + 5, .inl (kI K, 10, .inl (iA sl)))] := hD
  refine lv_aload_n hx hb dA_takeBars_10 rfl (lv_at hl 0 rfl) ?_
  refine iz_iconst hx hb dA_takeBars_11 ?_
  refine va_put (D := kD K) (ci := 3) (v := .int (iI 0)) (ty := .boolean) (C := RA) (T := FA) (N := 10) hx hb hts jnA tA tA_ok nA hown hK hP hD hS 0 rfl rfl 4 (by decide) (hts _ mt_96) (fun _ h9 => h9) rfl (by decide +kernel) rfl rfl (Nat.le_of_ble_eq_true rfl) dA_takeBars_12 ?_
  clear hP hD hS
  intro H locs hP hD hS
  replace hP : va_P (kD K) vcl [(q, .inr (3, [.int (iI l1), .int (iI c1), .int (iI (Pn : Int)), .ref (q + 1), .int (iI 0), .int (iI (Bn : Int)), .ref (q + 2), .ref (q + 3), .ref (q + 4), .ref (q + 5)])), (q + 1, .inl (kI K, 10, .inl (iA le))), (q + 2, .inl (kI K, 10, .inl (iA bo))), (q + 3, .inl (kI K, 10, .inl (iA fr))), (q + 4, .inl (kI K, 10, .inl (iA lo))), (q + 5, .inl (kI K, 10, .inl (iA sl)))] H := hP
  replace hD : va_D A [(q, .inr (3, [.int (iI l1), .int (iI c1), .int (iI (Pn : Int)), .ref (q + 1), .int (iI 0), .int (iI (Bn : Int)), .ref (q + 2), .ref (q + 3), .ref (q + 4), .ref (q + 5)])), (q + 1, .inl (kI K, 10, .inl (iA le))), (q + 2, .inl (kI K, 10, .inl (iA bo))), (q + 3, .inl (kI K, 10, .inl (iA fr))), (q + 4, .inl (kI K, 10, .inl (iA lo))), (q + 5, .inl (kI K, 10, .inl (iA sl)))] := hD
  rw [hQ]
  exact iz_vret hx hb hr hlocks (hP) hS.2.2 dA_takeBars_15
abbrev rmA_addPiece : Room := { frames := 0, cells := 0, slots := 0, locals := 0 }
set_option maxHeartbeats 4000000 in
set_option maxRecDepth 100000 in
/-- Saw.addPiece(length) -/
theorem c_A_add (l : Launch) (K : KG) (q : Nat) (bl cu : Int) (Pn : Nat) (le : Nat → Int) (pl : Int) (Bn : Nat) (bo fr lo sl : Nat → Int) (x : Int) (h1 : Pn < 10) : Ct l yA_addPiece kA_addPiece rmA_addPiece (PC K [.ref q, .int (iI x)] (fun H => va_P (kD K) vcl (saW K q bl cu Pn le pl Bn bo fr lo sl) H)) (QI (fun r H => r = Pn ∧ va_P (kD K) vcl (saW K q bl cu (Pn + 1) (ut le Pn x) 0 Bn bo fr lo sl) H)) (fun x => q ≤ x ∧ x < q + 6) := by
  refine ct_of (by decide) (Or.inl ⟨rfl, rfl⟩) ?_
  intro p e s m args below meth c B0 hP0
  obtain ⟨hx, hb, hr, hml, hown, hlocks, hnm, htab⟩ := B0
  obtain ⟨ha, ⟨hT, hK⟩, hB⟩ := hP0
  have hl := lv_entry ([.ref q, .int (iI x)]) (n := 2) (Nat.le_of_ble_eq_true rfl)
  obtain ⟨Q, hQ⟩ : ∃ Q, Q = XQ below (QI (fun r H => r = Pn ∧ va_P (kD K) vcl (saW K q bl cu (Pn + 1) (ut le Pn x) 0 Bn bo fr lo sl) H)) args s rmA_addPiece.cells rmA_addPiece.slots (fun x => q ≤ x ∧ x < q + 6) := ⟨_, rfl⟩
  rw [← hQ, ha, lg_entry_eq]
  rw [ha] at hQ
  generalize (lg_sl ([.ref q, .int (iI x)]) ++ List.replicate (2 - (lg_sl ([.ref q, .int (iI x)])).length) Slot.unset).toArray = ls at hl ⊢
  generalize ([.ref q, .int (iI x)] : List Value).toArray = args at hQ ⊢
  have hts : ∀ w ∈ TW, w.before args s = true := fun w h => hT w h args
  have hl : lv_has ls 2 [(0, .ref q), (1, .int (iI x))] := hl
  obtain ⟨A, hAe⟩ : ∃ A : Addr → Prop, A = (fun x => q ≤ x ∧ x < q + 6) := ⟨_, rfl⟩
  rw [← hAe] at hQ
  have hS : va_S A s.heap s.heap [] := va_S.rf
  have hP : va_P (kD K) vcl [(q, .inr (3, [.int (iI bl), .int (iI cu), .int (iI (Pn : Int)), .ref (q + 1), .int (iI pl), .int (iI (Bn : Int)), .ref (q + 2), .ref (q + 3), .ref (q + 4), .ref (q + 5)])), (q + 1, .inl (kI K, 10, .inl (iA le))), (q + 2, .inl (kI K, 10, .inl (iA bo))), (q + 3, .inl (kI K, 10, .inl (iA fr))), (q + 4, .inl (kI K, 10, .inl (iA lo))), (q + 5, .inl (kI K, 10, .inl (iA sl)))] s.heap := hB
  have hD : va_D A [(q, .inr (3, [.int (iI bl), .int (iI cu), .int (iI (Pn : Int)), .ref (q + 1), .int (iI pl), .int (iI (Bn : Int)), .ref (q + 2), .ref (q + 3), .ref (q + 4), .ref (q + 5)])), (q + 1, .inl (kI K, 10, .inl (iA le))), (q + 2, .inl (kI K, 10, .inl (iA bo))), (q + 3, .inl (kI K, 10, .inl (iA fr))), (q + 4, .inl (kI K, 10, .inl (iA lo))), (q + 5, .inl (kI K, 10, .inl (iA sl)))] := by rw [hAe]; exact va_D_of (by simp) (by simp <;> omega)
  refine lv_aload_n hx hb dA_addPiece_0 rfl (lv_at hl 0 rfl) ?_
  refine va_get (D := kD K) (ci := 3) (v := .ref (q + 1)) (C := RA) (T := FA) (N := 10) hx hb hts jnA hown hK hP 0 rfl rfl 3 (by decide) (hts _ mt_95) (fun _ h9 => h9) rfl dA_addPiece_1 ?_
  refine lv_aload_n hx hb dA_addPiece_4 rfl (lv_at hl 0 rfl) ?_
  refine va_get (D := kD K) (ci := 3) (v := .int (iI (Pn : Int))) (C := RA) (T := FA) (N := 10) hx hb hts jnA hown hK hP 0 rfl rfl 2 (by decide) (hts _ mt_93) (fun _ h9 => h9) rfl dA_addPiece_5 ?_
  refine lv_iload_n hx hb dA_addPiece_8 rfl (lv_at hl 1 rfl) ?_
  refine iz_iast hx hb hK hP hD hS 1 rfl Pn rfl (by omega) (by omega) dA_addPiece_9 ?_
  clear hP hD hS
  intro H locs hP hD hS
  replace hP : va_P (kD K) vcl [(q, .inr (3, [.int (iI bl), .int (iI cu), .int (iI (Pn : Int)), .ref (q + 1), .int (iI pl), .int (iI (Bn : Int)), .ref (q + 2), .ref (q + 3), .ref (q + 4), .ref (q + 5)])), (q + 1, .inl (kI K, 10, .inl (iA (ut le Pn x)))), (q + 2, .inl (kI K, 10, .inl (iA bo))), (q + 3, .inl (kI K, 10, .inl (iA fr))), (q + 4, .inl (kI K, 10, .inl (iA lo))), (q + 5, .inl (kI K, 10, .inl (iA sl)))] H := hP
  replace hD : va_D A [(q, .inr (3, [.int (iI bl), .int (iI cu), .int (iI (Pn : Int)), .ref (q + 1), .int (iI pl), .int (iI (Bn : Int)), .ref (q + 2), .ref (q + 3), .ref (q + 4), .ref (q + 5)])), (q + 1, .inl (kI K, 10, .inl (iA (ut le Pn x)))), (q + 2, .inl (kI K, 10, .inl (iA bo))), (q + 3, .inl (kI K, 10, .inl (iA fr))), (q + 4, .inl (kI K, 10, .inl (iA lo))), (q + 5, .inl (kI K, 10, .inl (iA sl)))] := hD
  refine lv_aload_n hx hb dA_addPiece_10 rfl (lv_at hl 0 rfl) ?_
  refine lv_dup hx hb dA_addPiece_11 rfl ?_
  refine va_get (D := kD K) (ci := 3) (v := .int (iI (Pn : Int))) (C := RA) (T := FA) (N := 10) hx hb hts jnA hown hK hP 0 rfl rfl 2 (by decide) (hts _ mt_93) (fun _ h9 => h9) rfl dA_addPiece_12 ?_
  refine iz_iconst hx hb dA_addPiece_15 ?_
  refine iz_iadd hx hb dA_addPiece_16 ?_
  refine va_put (D := kD K) (ci := 3) (v := .int (iI ((Pn : Int) + 1))) (ty := .int) (C := RA) (T := FA) (N := 10) hx hb hts jnA tA tA_ok nA hown hK hP hD hS 0 rfl rfl 2 (by decide) (hts _ mt_93) (fun _ h9 => h9) rfl (by decide +kernel) rfl rfl (Nat.le_of_ble_eq_true rfl) dA_addPiece_17 ?_
  clear hP hD hS
  intro H locs hP hD hS
  replace hP : va_P (kD K) vcl [(q, .inr (3, [.int (iI bl), .int (iI cu), .int (iI ((Pn : Int) + 1)), .ref (q + 1), .int (iI pl), .int (iI (Bn : Int)), .ref (q + 2), .ref (q + 3), .ref (q + 4), .ref (q + 5)])), (q + 1, .inl (kI K, 10, .inl (iA (ut le Pn x)))), (q + 2, .inl (kI K, 10, .inl (iA bo))), (q + 3, .inl (kI K, 10, .inl (iA fr))), (q + 4, .inl (kI K, 10, .inl (iA lo))), (q + 5, .inl (kI K, 10, .inl (iA sl)))] H := hP
  replace hD : va_D A [(q, .inr (3, [.int (iI bl), .int (iI cu), .int (iI ((Pn : Int) + 1)), .ref (q + 1), .int (iI pl), .int (iI (Bn : Int)), .ref (q + 2), .ref (q + 3), .ref (q + 4), .ref (q + 5)])), (q + 1, .inl (kI K, 10, .inl (iA (ut le Pn x)))), (q + 2, .inl (kI K, 10, .inl (iA bo))), (q + 3, .inl (kI K, 10, .inl (iA fr))), (q + 4, .inl (kI K, 10, .inl (iA lo))), (q + 5, .inl (kI K, 10, .inl (iA sl)))] := hD
  refine lv_aload_n hx hb dA_addPiece_20 rfl (lv_at hl 0 rfl) ?_
  refine iz_iconst hx hb dA_addPiece_21 ?_
  refine va_put (D := kD K) (ci := 3) (v := .int (iI 0)) (ty := .boolean) (C := RA) (T := FA) (N := 10) hx hb hts jnA tA tA_ok nA hown hK hP hD hS 0 rfl rfl 4 (by decide) (hts _ mt_96) (fun _ h9 => h9) rfl (by decide +kernel) rfl rfl (Nat.le_of_ble_eq_true rfl) dA_addPiece_22 ?_
  clear hP hD hS
  intro H locs hP hD hS
  replace hP : va_P (kD K) vcl [(q, .inr (3, [.int (iI bl), .int (iI cu), .int (iI ((Pn : Int) + 1)), .ref (q + 1), .int (iI 0), .int (iI (Bn : Int)), .ref (q + 2), .ref (q + 3), .ref (q + 4), .ref (q + 5)])), (q + 1, .inl (kI K, 10, .inl (iA (ut le Pn x)))), (q + 2, .inl (kI K, 10, .inl (iA bo))), (q + 3, .inl (kI K, 10, .inl (iA fr))), (q + 4, .inl (kI K, 10, .inl (iA lo))), (q + 5, .inl (kI K, 10, .inl (iA sl)))] H := hP
  replace hD : va_D A [(q, .inr (3, [.int (iI bl), .int (iI cu), .int (iI ((Pn : Int) + 1)), .ref (q + 1), .int (iI 0), .int (iI (Bn : Int)), .ref (q + 2), .ref (q + 3), .ref (q + 4), .ref (q + 5)])), (q + 1, .inl (kI K, 10, .inl (iA (ut le Pn x)))), (q + 2, .inl (kI K, 10, .inl (iA bo))), (q + 3, .inl (kI K, 10, .inl (iA fr))), (q + 4, .inl (kI K, 10, .inl (iA lo))), (q + 5, .inl (kI K, 10, .inl (iA sl)))] := hD
  refine lv_aload_n hx hb dA_addPiece_25 rfl (lv_at hl 0 rfl) ?_
  refine va_get (D := kD K) (ci := 3) (v := .int (iI ((Pn : Int) + 1))) (C := RA) (T := FA) (N := 10) hx hb hts jnA hown hK hP 0 rfl rfl 2 (by decide) (hts _ mt_93) (fun _ h9 => h9) rfl dA_addPiece_26 ?_
  refine iz_iconst hx hb dA_addPiece_29 ?_
  refine iz_isub hx hb dA_addPiece_30 ?_
  rw [hQ]
  exact iz_iret hx hb hr hlocks (⟨by omega, hP⟩) hS.2.2 dA_addPiece_31
abbrev rmA_resizePiece : Room := { frames := 0, cells := 0, slots := 0, locals := 0 }
set_option maxHeartbeats 4000000 in
set_option maxRecDepth 100000 in
/-- Saw.resizePiece(piece, length) -/
theorem c_A_resize (l : Launch) (K : KG) (q : Nat) (bl cu : Int) (Pn : Nat) (le : Nat → Int) (pl : Int) (Bn : Nat) (bo fr lo sl : Nat → Int) (k : Nat) (x : Int) (h1 : k < 10) : Ct l yA_resizePiece kA_resizePiece rmA_resizePiece (PC K [.ref q, .int (iI (k : Int)), .int (iI x)] (fun H => va_P (kD K) vcl (saW K q bl cu Pn le pl Bn bo fr lo sl) H)) (QI (fun r H => r = le k ∧ va_P (kD K) vcl (saW K q bl cu Pn (ut le k x) 0 Bn bo fr lo sl) H)) (fun x => q ≤ x ∧ x < q + 6) := by
  refine ct_of (by decide) (Or.inl ⟨rfl, rfl⟩) ?_
  intro p e s m args below meth c B0 hP0
  obtain ⟨hx, hb, hr, hml, hown, hlocks, hnm, htab⟩ := B0
  obtain ⟨ha, ⟨hT, hK⟩, hB⟩ := hP0
  have hl := lv_entry ([.ref q, .int (iI (k : Int)), .int (iI x)]) (n := 4) (Nat.le_of_ble_eq_true rfl)
  obtain ⟨Q, hQ⟩ : ∃ Q, Q = XQ below (QI (fun r H => r = le k ∧ va_P (kD K) vcl (saW K q bl cu Pn (ut le k x) 0 Bn bo fr lo sl) H)) args s rmA_resizePiece.cells rmA_resizePiece.slots (fun x => q ≤ x ∧ x < q + 6) := ⟨_, rfl⟩
  rw [← hQ, ha, lg_entry_eq]
  rw [ha] at hQ
  generalize (lg_sl ([.ref q, .int (iI (k : Int)), .int (iI x)]) ++ List.replicate (4 - (lg_sl ([.ref q, .int (iI (k : Int)), .int (iI x)])).length) Slot.unset).toArray = ls at hl ⊢
  generalize ([.ref q, .int (iI (k : Int)), .int (iI x)] : List Value).toArray = args at hQ ⊢
  have hts : ∀ w ∈ TW, w.before args s = true := fun w h => hT w h args
  have hl : lv_has ls 4 [(0, .ref q), (1, .int (iI (k : Int))), (2, .int (iI x))] := hl
  obtain ⟨A, hAe⟩ : ∃ A : Addr → Prop, A = (fun x => q ≤ x ∧ x < q + 6) := ⟨_, rfl⟩
  rw [← hAe] at hQ
  have hS : va_S A s.heap s.heap [] := va_S.rf
  have hP : va_P (kD K) vcl [(q, .inr (3, [.int (iI bl), .int (iI cu), .int (iI (Pn : Int)), .ref (q + 1), .int (iI pl), .int (iI (Bn : Int)), .ref (q + 2), .ref (q + 3), .ref (q + 4), .ref (q + 5)])), (q + 1, .inl (kI K, 10, .inl (iA le))), (q + 2, .inl (kI K, 10, .inl (iA bo))), (q + 3, .inl (kI K, 10, .inl (iA fr))), (q + 4, .inl (kI K, 10, .inl (iA lo))), (q + 5, .inl (kI K, 10, .inl (iA sl)))] s.heap := hB
  have hD : va_D A [(q, .inr (3, [.int (iI bl), .int (iI cu), .int (iI (Pn : Int)), .ref (q + 1), .int (iI pl), .int (iI (Bn : Int)), .ref (q + 2), .ref (q + 3), .ref (q + 4), .ref (q + 5)])), (q + 1, .inl (kI K, 10, .inl (iA le))), (q + 2, .inl (kI K, 10, .inl (iA bo))), (q + 3, .inl (kI K, 10, .inl (iA fr))), (q + 4, .inl (kI K, 10, .inl (iA lo))), (q + 5, .inl (kI K, 10, .inl (iA sl)))] := by rw [hAe]; exact va_D_of (by simp) (by simp <;> omega)
  refine lv_aload_n hx hb dA_resizePiece_0 rfl (lv_at hl 0 rfl) ?_
  refine va_get (D := kD K) (ci := 3) (v := .ref (q + 1)) (C := RA) (T := FA) (N := 10) hx hb hts jnA hown hK hP 0 rfl rfl 3 (by decide) (hts _ mt_95) (fun _ h9 => h9) rfl dA_resizePiece_1 ?_
  refine lv_iload_n hx hb dA_resizePiece_4 rfl (lv_at hl 1 rfl) ?_
  refine iz_iald hx hb hK hP 1 rfl k rfl (by omega) (by omega) dA_resizePiece_5 ?_
  refine lv_istore_n (lv' := [(3, .int (iI (le k))), (0, .ref q), (1, .int (iI (k : Int))), (2, .int (iI x))]) hx hb dA_resizePiece_6 rfl hl (by decide) rfl (fun ls hl => ?_)
  refine lv_aload_n hx hb dA_resizePiece_7 rfl (lv_at hl 1 rfl) ?_
  refine va_get (D := kD K) (ci := 3) (v := .ref (q + 1)) (C := RA) (T := FA) (N := 10) hx hb hts jnA hown hK hP 0 rfl rfl 3 (by decide) (hts _ mt_95) (fun _ h9 => h9) rfl dA_resizePiece_8 ?_
  refine lv_iload_n hx hb dA_resizePiece_11 rfl (lv_at hl 2 rfl) ?_
  refine lv_iload_n hx hb dA_resizePiece_12 rfl (lv_at hl 3 rfl) ?_
  refine iz_iast hx hb hK hP hD hS 1 rfl k rfl (by omega) (by omega) dA_resizePiece_13 ?_
  clear hP hD hS
  intro H locs hP hD hS
  replace hP : va_P (kD K) vcl [(q, .inr (3, [.int (iI bl), .int (iI cu), .int (iI (Pn : Int)), .ref (q + 1), .int (iI pl), .int (iI (Bn : Int)), .ref (q + 2), .ref (q + 3), .ref (q + 4), .ref (q + 5)])), (q + 1, .inl (kI K, 10, .inl (iA (ut le k x)))), (q + 2, .inl (kI K, 10, .inl (iA bo))), (q + 3, .inl (kI K, 10, .inl (iA fr))), (q + 4, .inl (kI K, 10, .inl (iA lo))), (q + 5, .inl (kI K, 10, .inl (iA sl)))] H := hP
  replace hD : va_D A [(q, .inr (3, [.int (iI bl), .int (iI cu), .int (iI (Pn : Int)), .ref (q + 1), .int (iI pl), .int (iI (Bn : Int)), .ref (q + 2), .ref (q + 3), .ref (q + 4), .ref (q + 5)])), (q + 1, .inl (kI K, 10, .inl (iA (ut le k x)))), (q + 2, .inl (kI K, 10, .inl (iA bo))), (q + 3, .inl (kI K, 10, .inl (iA fr))), (q + 4, .inl (kI K, 10, .inl (iA lo))), (q + 5, .inl (kI K, 10, .inl (iA sl)))] := hD
  refine lv_aload_n hx hb dA_resizePiece_14 rfl (lv_at hl 1 rfl) ?_
  refine iz_iconst hx hb dA_resizePiece_15 ?_
  refine va_put (D := kD K) (ci := 3) (v := .int (iI 0)) (ty := .boolean) (C := RA) (T := FA) (N := 10) hx hb hts jnA tA tA_ok nA hown hK hP hD hS 0 rfl rfl 4 (by decide) (hts _ mt_96) (fun _ h9 => h9) rfl (by decide +kernel) rfl rfl (Nat.le_of_ble_eq_true rfl) dA_resizePiece_16 ?_
  clear hP hD hS
  intro H locs hP hD hS
  replace hP : va_P (kD K) vcl [(q, .inr (3, [.int (iI bl), .int (iI cu), .int (iI (Pn : Int)), .ref (q + 1), .int (iI 0), .int (iI (Bn : Int)), .ref (q + 2), .ref (q + 3), .ref (q + 4), .ref (q + 5)])), (q + 1, .inl (kI K, 10, .inl (iA (ut le k x)))), (q + 2, .inl (kI K, 10, .inl (iA bo))), (q + 3, .inl (kI K, 10, .inl (iA fr))), (q + 4, .inl (kI K, 10, .inl (iA lo))), (q + 5, .inl (kI K, 10, .inl (iA sl)))] H := hP
  replace hD : va_D A [(q, .inr (3, [.int (iI bl), .int (iI cu), .int (iI (Pn : Int)), .ref (q + 1), .int (iI 0), .int (iI (Bn : Int)), .ref (q + 2), .ref (q + 3), .ref (q + 4), .ref (q + 5)])), (q + 1, .inl (kI K, 10, .inl (iA (ut le k x)))), (q + 2, .inl (kI K, 10, .inl (iA bo))), (q + 3, .inl (kI K, 10, .inl (iA fr))), (q + 4, .inl (kI K, 10, .inl (iA lo))), (q + 5, .inl (kI K, 10, .inl (iA sl)))] := hD
  refine lv_iload_n hx hb dA_resizePiece_19 rfl (lv_at hl 0 rfl) ?_
  rw [hQ]
  exact iz_iret hx hb hr hlocks (⟨rfl, hP⟩) hS.2.2 dA_resizePiece_20
abbrev rmA_usable : Room := { frames := 0, cells := 0, slots := 0, locals := 0 }
set_option maxHeartbeats 4000000 in
set_option maxRecDepth 100000 in
/-- Saw.usable(size) -/
theorem c_A_usable (l : Launch) (K : KG) (q : Nat) (bl cu : Int) (Pn : Nat) (le : Nat → Int) (pl : Int) (Bn : Nat) (bo fr lo sl : Nat → Int) (z : Int) (hz : r32 z) (hBn : Bn ≤ 10) (hfr : ∀ b, b < Bn → 0 ≤ fr b ∧ fr b ≤ 10100) : Ct l yA_usable kA_usable rmA_usable (PC K [.ref q, .int (iI z)] (fun H => va_P (kD K) vcl (saW K q bl cu Pn le pl Bn bo fr lo sl) H)) (QI (fun r _ => r = pl_us fr z Bn)) (fun _ => False) := by
  refine ct_of (by decide) (Or.inl ⟨rfl, rfl⟩) ?_
  intro p e s m args below meth c B0 hP0
  obtain ⟨hx, hb, hr, hml, hown, hlocks, hnm, htab⟩ := B0
  obtain ⟨ha, ⟨hT, hK⟩, hB⟩ := hP0
  have hl := lv_entry ([.ref q, .int (iI z)]) (n := 4) (Nat.le_of_ble_eq_true rfl)
  obtain ⟨Q, hQ⟩ : ∃ Q, Q = XQ below (QI (fun r _ => r = pl_us fr z Bn)) args s rmA_usable.cells rmA_usable.slots (fun _ => False) := ⟨_, rfl⟩
  rw [← hQ, ha, lg_entry_eq]
  rw [ha] at hQ
  generalize (lg_sl ([.ref q, .int (iI z)]) ++ List.replicate (4 - (lg_sl ([.ref q, .int (iI z)])).length) Slot.unset).toArray = ls at hl ⊢
  generalize ([.ref q, .int (iI z)] : List Value).toArray = args at hQ ⊢
  have hts : ∀ w ∈ TW, w.before args s = true := fun w h => hT w h args
  have hl : lv_has ls 4 [(0, .ref q), (1, .int (iI z))] := hl
  obtain ⟨A, hAe⟩ : ∃ A : Addr → Prop, A = (fun _ => False) := ⟨_, rfl⟩
  rw [← hAe] at hQ
  have hS : va_S A s.heap s.heap [] := va_S.rf
  have hP : va_P (kD K) vcl [(q, .inr (3, [.int (iI bl), .int (iI cu), .int (iI (Pn : Int)), .ref (q + 1), .int (iI pl), .int (iI (Bn : Int)), .ref (q + 2), .ref (q + 3), .ref (q + 4), .ref (q + 5)])), (q + 1, .inl (kI K, 10, .inl (iA le))), (q + 2, .inl (kI K, 10, .inl (iA bo))), (q + 3, .inl (kI K, 10, .inl (iA fr))), (q + 4, .inl (kI K, 10, .inl (iA lo))), (q + 5, .inl (kI K, 10, .inl (iA sl)))] s.heap := hB
  have loop : ∀ (j i : Nat) (ac : Int), Bn + 1 ≤ i + j → i ≤ Bn → ac = sm (fun b => if z ≤ fr b then fr b else 0) 0 i → ∀ ls : Array Slot, lv_has ls 4 [(0, .ref q), (1, .int (iI z)), (2, .int (iI ac)), (3, .int (iI (i : Int)))] → W p l e rmA_usable s m args below meth c s.heap [] 0 0 Q (F0 m 4 ls []) := by
    intro j
    induction j with
    | zero => intro i ac h1 h2; omega
    | succ j ih =>
      intro i ac h1 h2 hac ls hl
      refine lv_iload_n hx hb dA_usable_4 rfl (lv_at hl 3 rfl) ?_
      refine lv_aload_n hx hb dA_usable_5 rfl (lv_at hl 0 rfl) ?_
      refine va_get (D := kD K) (ci := 3) (v := .int (iI (Bn : Int))) (C := RA) (T := FA) (N := 10) hx hb hts jnA hown hK hP 0 rfl rfl 5 (by decide) (hts _ mt_97) (fun _ h9 => h9) rfl dA_usable_6 ?_
      refine iz_icmp_ge (tgt := 41) hx hb ⟨by omega, by omega⟩ ⟨by omega, by omega⟩ dA_usable_9 (by decide) (fun g1 => ?_) (fun g1 => ?_)
      · have e : i = Bn := by omega
        subst e
        refine lv_iload_n hx hb dA_usable_41 rfl (lv_at hl 2 rfl) ?_
        rw [hQ]
        exact iz_iret hx hb hr hlocks (hac) (fun _ h => absurd h List.not_mem_nil) dA_usable_42
      · have qi := hfr i (by omega)
        refine lv_iload_n hx hb dA_usable_12 rfl (lv_at hl 2 rfl) ?_
        refine lv_aload_n hx hb dA_usable_13 rfl (lv_at hl 0 rfl) ?_
        refine va_get (D := kD K) (ci := 3) (v := .ref (q + 3)) (C := RA) (T := FA) (N := 10) hx hb hts jnA hown hK hP 0 rfl rfl 7 (by decide) (hts _ mt_101) (fun _ h9 => h9) rfl dA_usable_14 ?_
        refine lv_iload_n hx hb dA_usable_17 rfl (lv_at hl 3 rfl) ?_
        refine iz_iald hx hb hK hP 3 rfl i rfl (by omega) (by omega) dA_usable_18 ?_
        refine lv_iload_n hx hb dA_usable_19 rfl (lv_at hl 1 rfl) ?_
        refine iz_icmp_lt (tgt := 32) hx hb ⟨by omega, by omega⟩ ⟨by omega, by omega⟩ dA_usable_20 (by decide) (fun g2 => ?_) (fun g2 => ?_)
        · refine iz_iconst hx hb dA_usable_32 ?_
          refine iz_iadd hx hb dA_usable_33 ?_
          refine lv_istore_n (lv' := [(2, .int (iI (ac + 0))), (0, .ref q), (1, .int (iI z)), (3, .int (iI (i : Int)))]) hx hb dA_usable_34 rfl hl (by decide) rfl (fun ls hl => ?_)
          refine iz_iinc (k := 3) (lv' := [(3, .int (iI ((i : Int) + 1))), (2, .int (iI (ac + 0))), (0, .ref q), (1, .int (iI z))]) hx hb dA_usable_35 hl rfl (by decide) rfl (fun ls hl => ?_)
          refine lv_goto (tgt := 4) hx hb dA_usable_38 (by decide) ?_
          exact ih (i + 1) (ac + 0) (by omega) (by omega) (by rw [sm_snoc, Nat.zero_add, hac]; show _ = _ + (if z ≤ fr i then fr i else 0); rw [if_neg (by omega)]) ls (lv_sub hl [2, 3, 1, 0] rfl)
        · refine lv_aload_n hx hb dA_usable_23 rfl (lv_at hl 0 rfl) ?_
          refine va_get (D := kD K) (ci := 3) (v := .ref (q + 3)) (C := RA) (T := FA) (N := 10) hx hb hts jnA hown hK hP 0 rfl rfl 7 (by decide) (hts _ mt_101) (fun _ h9 => h9) rfl dA_usable_24 ?_
          refine lv_iload_n hx hb dA_usable_27 rfl (lv_at hl 3 rfl) ?_
          refine iz_iald hx hb hK hP 3 rfl i rfl (by omega) (by omega) dA_usable_28 ?_
          refine lv_goto (tgt := 33) hx hb dA_usable_29 (by decide) ?_
          refine iz_iadd hx hb dA_usable_33 ?_
          refine lv_istore_n (lv' := [(2, .int (iI (ac + (fr i)))), (0, .ref q), (1, .int (iI z)), (3, .int (iI (i : Int)))]) hx hb dA_usable_34 rfl hl (by decide) rfl (fun ls hl => ?_)
          refine iz_iinc (k := 3) (lv' := [(3, .int (iI ((i : Int) + 1))), (2, .int (iI (ac + (fr i)))), (0, .ref q), (1, .int (iI z))]) hx hb dA_usable_35 hl rfl (by decide) rfl (fun ls hl => ?_)
          refine lv_goto (tgt := 4) hx hb dA_usable_38 (by decide) ?_
          exact ih (i + 1) (ac + fr i) (by omega) (by omega) (by rw [sm_snoc, Nat.zero_add, hac]; show _ = _ + (if z ≤ fr i then fr i else 0); rw [if_pos (by omega)]) ls (lv_sub hl [2, 3, 1, 0] rfl)
  refine iz_iconst hx hb dA_usable_0 ?_
  refine lv_istore_n (lv' := [(2, .int (iI 0)), (0, .ref q), (1, .int (iI z))]) hx hb dA_usable_1 rfl hl (by decide) rfl (fun ls hl => ?_)
  refine iz_iconst hx hb dA_usable_2 ?_
  refine lv_istore_n (lv' := [(3, .int (iI 0)), (2, .int (iI 0)), (0, .ref q), (1, .int (iI z))]) hx hb dA_usable_3 rfl hl (by decide) rfl (fun ls hl => ?_)
  exact loop (Bn + 1) 0 0 (by omega) (by omega) rfl ls (lv_sub hl [2, 3, 1, 0] rfl)
abbrev rmA_isLikeEarlier : Room := { frames := 0, cells := 0, slots := 0, locals := 0 }
set_option maxHeartbeats 4000000 in
set_option maxRecDepth 100000 in
/-- Saw.isLikeEarlier(bar) -/
theorem c_A_like (l : Launch) (K : KG) (q : Nat) (bl cu : Int) (Pn : Nat) (le : Nat → Int) (pl : Int) (Bn : Nat) (bo fr lo sl : Nat → Int) (b : Nat) (h1 : b < Bn) (hBn : Bn ≤ 10) (hfr : ∀ b, b < Bn → 0 ≤ fr b ∧ fr b ≤ 10100) : Ct l yA_isLikeEarlier kA_isLikeEarlier rmA_isLikeEarlier (PC K [.ref q, .int (iI (b : Int))] (fun H => va_P (kD K) vcl (saW K q bl cu Pn le pl Bn bo fr lo sl) H)) (QI (fun r _ => (r = 1 ∧ ∃ x, x < b ∧ fr x = fr b) ∨ (r = 0 ∧ ∀ x, x < b → fr x ≠ fr b))) (fun _ => False) := by
  refine ct_of (by decide) (Or.inl ⟨rfl, rfl⟩) ?_
  intro p e s m args below meth c B0 hP0
  obtain ⟨hx, hb, hr, hml, hown, hlocks, hnm, htab⟩ := B0
  obtain ⟨ha, ⟨hT, hK⟩, hB⟩ := hP0
  have hl := lv_entry ([.ref q, .int (iI (b : Int))]) (n := 3) (Nat.le_of_ble_eq_true rfl)
  obtain ⟨Q, hQ⟩ : ∃ Q, Q = XQ below (QI (fun r _ => (r = 1 ∧ ∃ x, x < b ∧ fr x = fr b) ∨ (r = 0 ∧ ∀ x, x < b → fr x ≠ fr b))) args s rmA_isLikeEarlier.cells rmA_isLikeEarlier.slots (fun _ => False) := ⟨_, rfl⟩
  rw [← hQ, ha, lg_entry_eq]
  rw [ha] at hQ
  generalize (lg_sl ([.ref q, .int (iI (b : Int))]) ++ List.replicate (3 - (lg_sl ([.ref q, .int (iI (b : Int))])).length) Slot.unset).toArray = ls at hl ⊢
  generalize ([.ref q, .int (iI (b : Int))] : List Value).toArray = args at hQ ⊢
  have hts : ∀ w ∈ TW, w.before args s = true := fun w h => hT w h args
  have hl : lv_has ls 3 [(0, .ref q), (1, .int (iI (b : Int)))] := hl
  obtain ⟨A, hAe⟩ : ∃ A : Addr → Prop, A = (fun _ => False) := ⟨_, rfl⟩
  rw [← hAe] at hQ
  have hS : va_S A s.heap s.heap [] := va_S.rf
  have hP : va_P (kD K) vcl [(q, .inr (3, [.int (iI bl), .int (iI cu), .int (iI (Pn : Int)), .ref (q + 1), .int (iI pl), .int (iI (Bn : Int)), .ref (q + 2), .ref (q + 3), .ref (q + 4), .ref (q + 5)])), (q + 1, .inl (kI K, 10, .inl (iA le))), (q + 2, .inl (kI K, 10, .inl (iA bo))), (q + 3, .inl (kI K, 10, .inl (iA fr))), (q + 4, .inl (kI K, 10, .inl (iA lo))), (q + 5, .inl (kI K, 10, .inl (iA sl)))] s.heap := hB
  have qb := hfr b h1
  have loop : ∀ (j i : Nat), b + 1 ≤ i + j → i ≤ b → (∀ x, x < i → fr x ≠ fr b) → ∀ ls : Array Slot, lv_has ls 3 [(0, .ref q), (1, .int (iI (b : Int))), (2, .int (iI (i : Int)))] → W p l e rmA_isLikeEarlier s m args below meth c s.heap [] 0 0 Q (F0 m 2 ls []) := by
    intro j
    induction j with
    | zero => intro i h1 h2; omega
    | succ j ih =>
      intro i h1 h2 hm ls hl
      refine lv_iload_n hx hb dA_isLikeEarlier_2 rfl (lv_at hl 2 rfl) ?_
      refine lv_iload_n hx hb dA_isLikeEarlier_3 rfl (lv_at hl 1 rfl) ?_
      refine iz_icmp_ge (tgt := 30) hx hb ⟨by omega, by omega⟩ ⟨by omega, by omega⟩ dA_isLikeEarlier_4 (by decide) (fun g1 => ?_) (fun g1 => ?_)
      · have e : i = b := by omega
        subst e
        refine iz_iconst hx hb dA_isLikeEarlier_30 ?_
        rw [hQ]
        exact iz_zret hx hb hr hlocks (Or.inl rfl) (Or.inr ⟨rfl, hm⟩) (fun _ h => absurd h List.not_mem_nil) dA_isLikeEarlier_31
      · have qi := hfr i (by omega)
        refine lv_aload_n hx hb dA_isLikeEarlier_7 rfl (lv_at hl 0 rfl) ?_
        refine va_get (D := kD K) (ci := 3) (v := .ref (q + 3)) (C := RA) (T := FA) (N := 10) hx hb hts jnA hown hK hP 0 rfl rfl 7 (by decide) (hts _ mt_101) (fun _ h9 => h9) rfl dA_isLikeEarlier_8 ?_
        refine lv_iload_n hx hb dA_isLikeEarlier_11 rfl (lv_at hl 2 rfl) ?_
        refine iz_iald hx hb hK hP 3 rfl i rfl (by omega) (by omega) dA_isLikeEarlier_12 ?_
        refine lv_aload_n hx hb dA_isLikeEarlier_13 rfl (lv_at hl 0 rfl) ?_
        refine va_get (D := kD K) (ci := 3) (v := .ref (q + 3)) (C := RA) (T := FA) (N := 10) hx hb hts jnA hown hK hP 0 rfl rfl 7 (by decide) (hts _ mt_101) (fun _ h9 => h9) rfl dA_isLikeEarlier_14 ?_
        refine lv_iload_n hx hb dA_isLikeEarlier_17 rfl (lv_at hl 1 rfl) ?_
        refine iz_iald hx hb hK hP 3 rfl b rfl (by omega) (by omega) dA_isLikeEarlier_18 ?_
        refine iz_icmp_ne (tgt := 24) hx hb ⟨by omega, by omega⟩ ⟨by omega, by omega⟩ dA_isLikeEarlier_19 (by decide) (fun g2 => ?_) (fun g2 => ?_)
        · refine iz_iinc (k := 2) (lv' := [(2, .int (iI ((i : Int) + 1))), (0, .ref q), (1, .int (iI (b : Int)))]) hx hb dA_isLikeEarlier_24 hl rfl (by decide) rfl (fun ls hl => ?_)
          refine lv_goto (tgt := 2) hx hb dA_isLikeEarlier_27 (by decide) ?_
          exact ih (i + 1) (by omega) (by omega) (fun x hx9 => by by_cases e : x = i; subst e; exact g2; exact hm x (by omega)) ls (lv_sub hl [1, 2, 0] rfl)
        · refine iz_iconst hx hb dA_isLikeEarlier_22 ?_
          rw [hQ]
          exact iz_zret hx hb hr hlocks (Or.inr rfl) (Or.inl ⟨rfl, i, by omega, g2⟩) (fun _ h => absurd h List.not_mem_nil) dA_isLikeEarlier_23
  refine iz_iconst hx hb dA_isLikeEarlier_0 ?_
  refine lv_istore_n (lv' := [(2, .int (iI 0)), (0, .ref q), (1, .int (iI (b : Int)))]) hx hb dA_isLikeEarlier_1 rfl hl (by decide) rfl (fun ls hl => ?_)
  exact loop (b + 1) 0 (by omega) (by omega) (fun x hx9 => absurd hx9 (by omega)) ls (lv_sub hl [1, 2, 0] rfl)
/-- loads and smallest sizes, from j on -/
def SwL (Pn j : Nat) (z lo sl : Nat → Int) : Prop := ∀ i, j ≤ i → i < Pn → lo i = sm z i (Pn - i) ∧ (0 ≤ sl i ∧ sl i ≤ 10100) ∧ ∀ k, i ≤ k → k < Pn → sl i ≤ z k
theorem SwL_s {Pn j : Nat} {z lo sl : Nat → Int} {S l : Int} (h : SwL Pn (j + 1) z lo sl) (h1 : S = sm z j (Pn - j)) (h2 : 0 ≤ l ∧ l ≤ 10100) (h3 : ∀ k, j ≤ k → k < Pn → l ≤ z k) : SwL Pn j z (ut lo j S) (ut sl j l) := by
  intro i hi hn
  by_cases e : i = j
  · subst e; rw [ut_s, ut_s]; exact ⟨h1, h2, h3⟩
  · rw [ut_n _ _ e, ut_n _ _ e]; exact h i (by omega) hn
abbrev rmA_sumFromBehind : Room := { frames := 1, cells := 0, slots := 0, locals := 40 }
set_option maxHeartbeats 4000000 in
set_option maxRecDepth 100000 in
/-- Saw.sumFromBehind() -/
theorem c_A_sum (l : Launch) (K : KG) (q : Nat) (bl cu : Int) (Pn : Nat) (le : Nat → Int) (pl : Int) (Bn : Nat) (bo fr lo sl : Nat → Int) (hB9 : SwB bl cu Pn le) : Ct l yA_sumFromBehind kA_sumFromBehind rmA_sumFromBehind (PC K [.ref q] (fun H => va_P (kD K) vcl (saW K q bl cu Pn le pl Bn bo fr lo sl) H)) (QV (fun H => ∃ lo' sl' : Nat → Int, SwL Pn 0 (swz le cu) lo' sl' ∧ va_P (kD K) vcl (saW K q bl cu Pn le pl Bn bo fr lo' sl') H)) (fun x => q ≤ x ∧ x < q + 6) := by
  refine ct_of (by decide) (Or.inl ⟨rfl, rfl⟩) ?_
  intro p e s m args below meth c B0 hP0
  obtain ⟨hx, hb, hr, hml, hown, hlocks, hnm, htab⟩ := B0
  obtain ⟨ha, ⟨hT, hK⟩, hB⟩ := hP0
  have hl := lv_entry ([.ref q]) (n := 4) (Nat.le_of_ble_eq_true rfl)
  obtain ⟨Q, hQ⟩ : ∃ Q, Q = XQ below (QV (fun H => ∃ lo' sl' : Nat → Int, SwL Pn 0 (swz le cu) lo' sl' ∧ va_P (kD K) vcl (saW K q bl cu Pn le pl Bn bo fr lo' sl') H)) args s rmA_sumFromBehind.cells rmA_sumFromBehind.slots (fun x => q ≤ x ∧ x < q + 6) := ⟨_, rfl⟩
  rw [← hQ, ha, lg_entry_eq]
  rw [ha] at hQ
  generalize (lg_sl ([.ref q]) ++ List.replicate (4 - (lg_sl ([.ref q])).length) Slot.unset).toArray = ls at hl ⊢
  generalize ([.ref q] : List Value).toArray = args at hQ ⊢
  have hts : ∀ w ∈ TW, w.before args s = true := fun w h => hT w h args
  have hl : lv_has ls 4 [(0, .ref q)] := hl
  obtain ⟨A, hAe⟩ : ∃ A : Addr → Prop, A = (fun x => q ≤ x ∧ x < q + 6) := ⟨_, rfl⟩
  rw [← hAe] at hQ
  have hS : va_S A s.heap s.heap [] := va_S.rf
  have hP : va_P (kD K) vcl [(q, .inr (3, [.int (iI bl), .int (iI cu), .int (iI (Pn : Int)), .ref (q + 1), .int (iI pl), .int (iI (Bn : Int)), .ref (q + 2), .ref (q + 3), .ref (q + 4), .ref (q + 5)])), (q + 1, .inl (kI K, 10, .inl (iA le))), (q + 2, .inl (kI K, 10, .inl (iA bo))), (q + 3, .inl (kI K, 10, .inl (iA fr))), (q + 4, .inl (kI K, 10, .inl (iA lo))), (q + 5, .inl (kI K, 10, .inl (iA sl)))] s.heap := hB
  have hD : va_D A [(q, .inr (3, [.int (iI bl), .int (iI cu), .int (iI (Pn : Int)), .ref (q + 1), .int (iI pl), .int (iI (Bn : Int)), .ref (q + 2), .ref (q + 3), .ref (q + 4), .ref (q + 5)])), (q + 1, .inl (kI K, 10, .inl (iA le))), (q + 2, .inl (kI K, 10, .inl (iA bo))), (q + 3, .inl (kI K, 10, .inl (iA fr))), (q + 4, .inl (kI K, 10, .inl (iA lo))), (q + 5, .inl (kI K, 10, .inl (iA sl)))] := by rw [hAe]; exact va_D_of (by simp) (by simp <;> omega)
  obtain ⟨hbl, hcu, hP10, hle⟩ := hB9
  have loop : ∀ (j : Nat) (S ml : Int) (lo1 sl1 : Nat → Int), j ≤ Pn → S = sm (swz le cu) j (Pn - j) → (0 ≤ ml ∧ ml ≤ 10100) → (∀ k, j ≤ k → k < Pn → ml ≤ swz le cu k) → SwL Pn j (swz le cu) lo1 sl1 → ∀ (H : Heap) (locs : List Loc), va_P (kD K) vcl [(q, .inr (3, [.int (iI bl), .int (iI cu), .int (iI (Pn : Int)), .ref (q + 1), .int (iI pl), .int (iI (Bn : Int)), .ref (q + 2), .ref (q + 3), .ref (q + 4), .ref (q + 5)])), (q + 1, .inl (kI K, 10, .inl (iA le))), (q + 2, .inl (kI K, 10, .inl (iA bo))), (q + 3, .inl (kI K, 10, .inl (iA fr))), (q + 4, .inl (kI K, 10, .inl (iA lo1))), (q + 5, .inl (kI K, 10, .inl (iA sl1)))] H → va_D A [(q, .inr (3, [.int (iI bl), .int (iI cu), .int (iI (Pn : Int)), .ref (q + 1), .int (iI pl), .int (iI (Bn : Int)), .ref (q + 2), .ref (q + 3), .ref (q + 4), .ref (q + 5)])), (q + 1, .inl (kI K, 10, .inl (iA le))), (q + 2, .inl (kI K, 10, .inl (iA bo))), (q + 3, .inl (kI K, 10, .inl (iA fr))), (q + 4, .inl (kI K, 10, .inl (iA lo1))), (q + 5, .inl (kI K, 10, .inl (iA sl1)))] → va_S A s.heap H locs → ∀ ls : Array Slot, lv_has ls 4 [(0, .ref q), (1, .int (iI S)), (2, .int (iI ml)), (3, .int (iI ((j : Int) - 1)))] → W p l e rmA_sumFromBehind s m args below meth c H locs 0 0 Q (F0 m 19 ls []) := by
    intro j
    induction j with
    | zero =>
      intro S ml lo1 sl1 hj hS9 hml9 hk9 hL9 H locs hP hD hS ls hl
      refine lv_iload_n hx hb dA_sumFromBehind_19 rfl (lv_at hl 3 rfl) ?_
      refine iz_if_lt (tgt := 73) hx hb ⟨by omega, by omega⟩ dA_sumFromBehind_20 (by decide) (fun g1 => ?_) (fun g1 => ?_)
      · rw [hQ]
        exact iz_vret hx hb hr hlocks (⟨lo1, sl1, hL9, hP⟩) hS.2.2 dA_sumFromBehind_73
      · exact absurd g1 (by omega)
    | succ j ih =>
      intro S ml lo1 sl1 hj hS9 hml9 hk9 hL9 H locs hP hD hS ls hl
      have ej : ((j + 1 : Nat) : Int) - 1 = (j : Int) := by omega
      rw [ej] at hl
      have qj := hle j (by omega)
      refine lv_iload_n hx hb dA_sumFromBehind_19 rfl (lv_at hl 3 rfl) ?_
      refine iz_if_lt (tgt := 73) hx hb ⟨by omega, by omega⟩ dA_sumFromBehind_20 (by decide) (fun g1 => ?_) (fun g1 => ?_)
      · exact absurd g1 (by omega)
      · refine lv_iload_n hx hb dA_sumFromBehind_23 rfl (lv_at hl 1 rfl) ?_
        refine lv_aload_n hx hb dA_sumFromBehind_24 rfl (lv_at hl 0 rfl) ?_
        refine va_get (D := kD K) (ci := 3) (v := .ref (q + 1)) (C := RA) (T := FA) (N := 10) hx hb hts jnA hown hK hP 0 rfl rfl 3 (by decide) (hts _ mt_95) (fun _ h9 => h9) rfl dA_sumFromBehind_25 ?_
        refine lv_iload_n hx hb dA_sumFromBehind_28 rfl (lv_at hl 3 rfl) ?_
        refine iz_iald hx hb hK hP 1 rfl j rfl (by omega) (by omega) dA_sumFromBehind_29 ?_
        refine lv_aload_n hx hb dA_sumFromBehind_30 rfl (lv_at hl 0 rfl) ?_
        refine va_get (D := kD K) (ci := 3) (v := .int (iI cu)) (C := RA) (T := FA) (N := 10) hx hb hts jnA hown hK hP 0 rfl rfl 1 (by decide) (hts _ mt_92) (fun _ h9 => h9) rfl dA_sumFromBehind_31 ?_
        refine iz_iadd hx hb dA_sumFromBehind_34 ?_
        refine iz_iadd hx hb dA_sumFromBehind_35 ?_
        refine lv_istore_n (lv' := [(1, .int (iI (S + ((le j) + cu)))), (0, .ref q), (2, .int (iI ml)), (3, .int (iI (j : Int)))]) hx hb dA_sumFromBehind_36 rfl hl (by decide) rfl (fun ls hl => ?_)
        refine lv_iload_n hx hb dA_sumFromBehind_37 rfl (lv_at hl 2 rfl) ?_
        refine lv_aload_n hx hb dA_sumFromBehind_38 rfl (lv_at hl 1 rfl) ?_
        refine va_get (D := kD K) (ci := 3) (v := .ref (q + 1)) (C := RA) (T := FA) (N := 10) hx hb hts jnA hown hK hP 0 rfl rfl 3 (by decide) (hts _ mt_95) (fun _ h9 => h9) rfl dA_sumFromBehind_39 ?_
        refine lv_iload_n hx hb dA_sumFromBehind_42 rfl (lv_at hl 3 rfl) ?_
        refine iz_iald hx hb hK hP 1 rfl j rfl (by omega) (by omega) dA_sumFromBehind_43 ?_
        refine lv_aload_n hx hb dA_sumFromBehind_44 rfl (lv_at hl 1 rfl) ?_
        refine va_get (D := kD K) (ci := 3) (v := .int (iI cu)) (C := RA) (T := FA) (N := 10) hx hb hts jnA hown hK hP 0 rfl rfl 1 (by decide) (hts _ mt_92) (fun _ h9 => h9) rfl dA_sumFromBehind_45 ?_
        refine iz_iadd hx hb dA_sumFromBehind_48 ?_
        refine iz_min hx hb hml hl.1 hown hT mt_281 (Nat.le_of_ble_eq_true rfl) (Nat.le_of_ble_eq_true rfl) (Nat.le_of_ble_eq_true rfl) (Nat.le_of_ble_eq_true rfl) ⟨by omega, by omega⟩ ⟨by omega, by omega⟩ dA_sumFromBehind_49 ?_
        obtain ⟨y, hy⟩ : ∃ y : Int, y = if le j + cu < ml then le j + cu else ml := ⟨_, rfl⟩
        rw [← hy]
        have hyb : 0 ≤ y ∧ y ≤ 10100 := by rw [hy]; split <;> omega
        have hyk : ∀ k, j ≤ k → k < Pn → y ≤ swz le cu k := by
          intro k h1 h2
          by_cases e : k = j
          · subst e; show y ≤ le k + cu; rw [hy]; split <;> omega
          · have h := hk9 k (by omega) h2
            rw [hy]; split <;> omega
        have hSn : S + (le j + cu) = sm (swz le cu) j (Pn - j) := by rw [show Pn - j = (Pn - (j + 1)) + 1 by omega, sm_s, hS9]; show _ = (le j + cu) + _; omega
        refine lv_istore_n (lv' := [(2, .int (iI y)), (1, .int (iI (S + ((le j) + cu)))), (0, .ref q), (3, .int (iI (j : Int)))]) hx hb dA_sumFromBehind_52 rfl hl (by decide) rfl (fun ls hl => ?_)
        refine lv_aload_n hx hb dA_sumFromBehind_53 rfl (lv_at hl 2 rfl) ?_
        refine va_get (D := kD K) (ci := 3) (v := .ref (q + 4)) (C := RA) (T := FA) (N := 10) hx hb hts jnA hown hK hP 0 rfl rfl 8 (by decide) (hts _ mt_103) (fun _ h9 => h9) rfl dA_sumFromBehind_54 ?_
        refine lv_iload_n hx hb dA_sumFromBehind_57 rfl (lv_at hl 3 rfl) ?_
        refine lv_iload_n hx hb dA_sumFromBehind_58 rfl (lv_at hl 1 rfl) ?_
        refine iz_iast hx hb hK hP hD hS 4 rfl j rfl (by omega) (by omega) dA_sumFromBehind_59 ?_
        clear hP hD hS
        intro H locs hP hD hS
        replace hP : va_P (kD K) vcl [(q, .inr (3, [.int (iI bl), .int (iI cu), .int (iI (Pn : Int)), .ref (q + 1), .int (iI pl), .int (iI (Bn : Int)), .ref (q + 2), .ref (q + 3), .ref (q + 4), .ref (q + 5)])), (q + 1, .inl (kI K, 10, .inl (iA le))), (q + 2, .inl (kI K, 10, .inl (iA bo))), (q + 3, .inl (kI K, 10, .inl (iA fr))), (q + 4, .inl (kI K, 10, .inl (iA (ut lo1 j (S + ((le j) + cu)))))), (q + 5, .inl (kI K, 10, .inl (iA sl1)))] H := hP
        replace hD : va_D A [(q, .inr (3, [.int (iI bl), .int (iI cu), .int (iI (Pn : Int)), .ref (q + 1), .int (iI pl), .int (iI (Bn : Int)), .ref (q + 2), .ref (q + 3), .ref (q + 4), .ref (q + 5)])), (q + 1, .inl (kI K, 10, .inl (iA le))), (q + 2, .inl (kI K, 10, .inl (iA bo))), (q + 3, .inl (kI K, 10, .inl (iA fr))), (q + 4, .inl (kI K, 10, .inl (iA (ut lo1 j (S + ((le j) + cu)))))), (q + 5, .inl (kI K, 10, .inl (iA sl1)))] := hD
        refine lv_aload_n hx hb dA_sumFromBehind_60 rfl (lv_at hl 2 rfl) ?_
        refine va_get (D := kD K) (ci := 3) (v := .ref (q + 5)) (C := RA) (T := FA) (N := 10) hx hb hts jnA hown hK hP 0 rfl rfl 9 (by decide) (hts _ mt_104) (fun _ h9 => h9) rfl dA_sumFromBehind_61 ?_
        refine lv_iload_n hx hb dA_sumFromBehind_64 rfl (lv_at hl 3 rfl) ?_
        refine lv_iload_n hx hb dA_sumFromBehind_65 rfl (lv_at hl 0 rfl) ?_
        refine iz_iast hx hb hK hP hD hS 5 rfl j rfl (by omega) (by omega) dA_sumFromBehind_66 ?_
        clear hP hD hS
        intro H locs hP hD hS
        replace hP : va_P (kD K) vcl [(q, .inr (3, [.int (iI bl), .int (iI cu), .int (iI (Pn : Int)), .ref (q + 1), .int (iI pl), .int (iI (Bn : Int)), .ref (q + 2), .ref (q + 3), .ref (q + 4), .ref (q + 5)])), (q + 1, .inl (kI K, 10, .inl (iA le))), (q + 2, .inl (kI K, 10, .inl (iA bo))), (q + 3, .inl (kI K, 10, .inl (iA fr))), (q + 4, .inl (kI K, 10, .inl (iA (ut lo1 j (S + ((le j) + cu)))))), (q + 5, .inl (kI K, 10, .inl (iA (ut sl1 j y))))] H := hP
        replace hD : va_D A [(q, .inr (3, [.int (iI bl), .int (iI cu), .int (iI (Pn : Int)), .ref (q + 1), .int (iI pl), .int (iI (Bn : Int)), .ref (q + 2), .ref (q + 3), .ref (q + 4), .ref (q + 5)])), (q + 1, .inl (kI K, 10, .inl (iA le))), (q + 2, .inl (kI K, 10, .inl (iA bo))), (q + 3, .inl (kI K, 10, .inl (iA fr))), (q + 4, .inl (kI K, 10, .inl (iA (ut lo1 j (S + ((le j) + cu)))))), (q + 5, .inl (kI K, 10, .inl (iA (ut sl1 j y))))] := hD
        refine iz_iinc (k := 3) (lv' := [(3, .int (iI ((j : Int) + (-1)))), (2, .int (iI y)), (1, .int (iI (S + ((le j) + cu)))), (0, .ref q)]) hx hb dA_sumFromBehind_67 hl rfl (by decide) rfl (fun ls hl => ?_)
        refine lv_goto (tgt := 19) hx hb dA_sumFromBehind_70 (by decide) ?_
        exact ih (S + (le j + cu)) y (ut lo1 j (S + (le j + cu))) (ut sl1 j y) (by omega) hSn hyb hyk (SwL_s hL9 hSn hyb hyk) H _ hP hD hS ls (lv_sub hl [3, 2, 1, 0] rfl)
  refine iz_iconst hx hb dA_sumFromBehind_0 ?_
  refine lv_istore_n (lv' := [(1, .int (iI 0)), (0, .ref q)]) hx hb dA_sumFromBehind_1 rfl hl (by decide) rfl (fun ls hl => ?_)
  refine lv_aload_n hx hb dA_sumFromBehind_2 rfl (lv_at hl 1 rfl) ?_
  refine va_get (D := kD K) (ci := 3) (v := .int (iI bl)) (C := RA) (T := FA) (N := 10) hx hb hts jnA hown hK hP 0 rfl rfl 0 (by decide) (hts _ mt_90) (fun _ h9 => h9) rfl dA_sumFromBehind_3 ?_
  refine lv_aload_n hx hb dA_sumFromBehind_6 rfl (lv_at hl 1 rfl) ?_
  refine va_get (D := kD K) (ci := 3) (v := .int (iI cu)) (C := RA) (T := FA) (N := 10) hx hb hts jnA hown hK hP 0 rfl rfl 1 (by decide) (hts _ mt_92) (fun _ h9 => h9) rfl dA_sumFromBehind_7 ?_
  refine iz_iadd hx hb dA_sumFromBehind_10 ?_
  refine lv_istore_n (lv' := [(2, .int (iI (bl + cu))), (1, .int (iI 0)), (0, .ref q)]) hx hb dA_sumFromBehind_11 rfl hl (by decide) rfl (fun ls hl => ?_)
  refine lv_aload_n hx hb dA_sumFromBehind_12 rfl (lv_at hl 2 rfl) ?_
  refine va_get (D := kD K) (ci := 3) (v := .int (iI (Pn : Int))) (C := RA) (T := FA) (N := 10) hx hb hts jnA hown hK hP 0 rfl rfl 2 (by decide) (hts _ mt_93) (fun _ h9 => h9) rfl dA_sumFromBehind_13 ?_
  refine iz_iconst hx hb dA_sumFromBehind_16 ?_
  refine iz_isub hx hb dA_sumFromBehind_17 ?_
  refine lv_istore_n (lv' := [(3, .int (iI ((Pn : Int) - 1))), (2, .int (iI (bl + cu))), (1, .int (iI 0)), (0, .ref q)]) hx hb dA_sumFromBehind_18 rfl hl (by decide) rfl (fun ls hl => ?_)
  exact loop Pn 0 (bl + cu) lo sl (Nat.le_refl _) (by rw [Nat.sub_self]; rfl) ⟨by omega, by omega⟩ (fun k h1 h2 => absurd h1 (by omega)) (fun i h1 h2 => absurd h1 (by omega)) s.heap [] hP hD hS ls (lv_sub hl [3, 2, 1, 0] rfl)
