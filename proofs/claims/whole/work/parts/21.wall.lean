-- class Wall: its methods
/-- a wall at q: area, openings, layers; the thickness of each stuff -/
abbrev wlW (K : KG) (q : Nat) (ar oc lc : Int) (th : Nat → Int) : va_W := [(q, .inr (1, [.int (iI ar), .int (iI oc), .int (iI lc), .ref (q + 1)])), (q + 1, .inl (kI K, 10, .inl (iA th)))]
abbrev rmW_wholeThickness : Room := { frames := 0, cells := 0, slots := 0, locals := 0 }
set_option maxHeartbeats 4000000 in
set_option maxRecDepth 100000 in
/-- Wall.wholeThickness(): the sum of the thicknesses -/
theorem c_W_wholeThickness (l : Launch) (K : KG) (q : Nat) (ar oc lc : Int) (th : Nat → Int) : Ct l yW_wholeThickness kW_wholeThickness rmW_wholeThickness (PC K [.ref q] (fun H => va_P (kD K) vcl [(q, .inr (1, [.int (iI ar), .int (iI oc), .int (iI lc), .ref (q + 1)])), (q + 1, .inl (kI K, 10, .inl (iA th)))] H)) (QI (fun r _ => r = sm th 0 10)) (fun _ => False) := by
  refine ct_of (by decide) (Or.inl ⟨rfl, rfl⟩) ?_
  intro p e s m args below meth c B0 hP0
  obtain ⟨hx, hb, hr, hml, hown, hlocks, hnm, htab⟩ := B0
  obtain ⟨ha, ⟨hT, hK⟩, hB⟩ := hP0
  have hl := lv_entry ([.ref q]) (n := 3) (Nat.le_of_ble_eq_true rfl)
  obtain ⟨Q, hQ⟩ : ∃ Q, Q = XQ below (QI (fun r _ => r = sm th 0 10)) args s rmW_wholeThickness.cells rmW_wholeThickness.slots (fun _ => False) := ⟨_, rfl⟩
  rw [← hQ, ha, lg_entry_eq]
  rw [ha] at hQ
  generalize (lg_sl ([.ref q]) ++ List.replicate (3 - (lg_sl ([.ref q])).length) Slot.unset).toArray = ls at hl ⊢
  generalize ([.ref q] : List Value).toArray = args at hQ ⊢
  have hts : ∀ w ∈ TW, w.before args s = true := fun w h => hT w h args
  have hl : lv_has ls 3 [(0, .ref q)] := hl
  obtain ⟨A, hAe⟩ : ∃ A : Addr → Prop, A = (fun _ => False) := ⟨_, rfl⟩
  rw [← hAe] at hQ
  have hS : va_S A s.heap s.heap [] := va_S.rf
  have hP : va_P (kD K) vcl [(q, .inr (1, [.int (iI ar), .int (iI oc), .int (iI lc), .ref (q + 1)])), (q + 1, .inl (kI K, 10, .inl (iA th)))] s.heap := hB
  have loop : ∀ (n i : Nat) (acc : Int), 11 ≤ i + n → i ≤ 10 → acc = sm th 0 i → ∀ ls : Array Slot, lv_has ls 3 [(0, .ref q), (1, .int (iI acc)), (2, .int (iI (i : Int)))] → W p l e rmW_wholeThickness s m args below meth c s.heap [] 0 0 Q (F0 m 4 ls []) := by
    intro n
    induction n with
    | zero => intro i acc h1 h2; omega
    | succ n ih =>
      intro i acc h1 h2 h3 ls hl
      refine lv_iload_n hx hb dW_wholeThickness_4 rfl (lv_at hl 2 rfl) ?_
      refine lv_aload_n hx hb dW_wholeThickness_5 rfl (lv_at hl 0 rfl) ?_
      refine va_get (D := kD K) (ci := 1) (v := .ref (q + 1)) (C := RW) (T := FW) (N := 4) hx hb hts jnW hown hK hP 0 rfl rfl 3 (by decide) (hts _ mt_32) (fun _ h9 => h9) rfl dW_wholeThickness_6 ?_
      refine iz_alen hx hb hK hP 1 0 rfl rfl dW_wholeThickness_9 ?_
      refine iz_icmp_ge (tgt := 28) hx hb ⟨by omega, by omega⟩ ⟨by omega, by omega⟩ dW_wholeThickness_10 (by decide) (fun h4 => ?_) (fun h4 => ?_)
      · refine lv_iload_n hx hb dW_wholeThickness_28 rfl (lv_at hl 1 rfl) ?_
        rw [hQ]
        exact iz_iret hx hb hr hlocks (by show acc = sm th 0 10; rw [h3, show i = 10 by omega]) (fun _ h => absurd h List.not_mem_nil) dW_wholeThickness_29
      · refine lv_iload_n hx hb dW_wholeThickness_13 rfl (lv_at hl 1 rfl) ?_
        refine lv_aload_n hx hb dW_wholeThickness_14 rfl (lv_at hl 0 rfl) ?_
        refine va_get (D := kD K) (ci := 1) (v := .ref (q + 1)) (C := RW) (T := FW) (N := 4) hx hb hts jnW hown hK hP 0 rfl rfl 3 (by decide) (hts _ mt_32) (fun _ h9 => h9) rfl dW_wholeThickness_15 ?_
        refine lv_iload_n hx hb dW_wholeThickness_18 rfl (lv_at hl 2 rfl) ?_
        refine iz_iald hx hb hK hP 1 rfl i rfl (by omega) (by omega) dW_wholeThickness_19 ?_
        refine iz_iadd hx hb dW_wholeThickness_20 ?_
        refine lv_istore_n (lv' := [(1, .int (iI (acc + (th i)))), (0, .ref q), (2, .int (iI (i : Int)))]) hx hb dW_wholeThickness_21 rfl hl (by decide) rfl (fun ls hl => ?_)
        refine iz_iinc (k := 2) (lv' := [(2, .int (iI ((i : Int) + 1))), (1, .int (iI (acc + (th i)))), (0, .ref q)]) hx hb dW_wholeThickness_22 hl rfl (by decide) rfl (fun ls hl => ?_)
        refine lv_goto (tgt := 4) hx hb dW_wholeThickness_25 (by decide) ?_
        exact ih (i + 1) (acc + th i) (by omega) (by omega) (by rw [sm_snoc, Nat.zero_add, h3]) ls (lv_sub hl [2, 1, 0] rfl)
  refine iz_iconst hx hb dW_wholeThickness_0 ?_
  refine lv_istore_n (lv' := [(1, .int (iI 0)), (0, .ref q)]) hx hb dW_wholeThickness_1 rfl hl (by decide) rfl (fun ls hl => ?_)
  refine iz_iconst hx hb dW_wholeThickness_2 ?_
  refine lv_istore_n (lv' := [(2, .int (iI 0)), (1, .int (iI 0)), (0, .ref q)]) hx hb dW_wholeThickness_3 rfl hl (by decide) rfl (fun ls hl => ?_)
  exact loop 11 0 0 (by omega) (by omega) rfl ls (lv_sub hl [2, 1, 0] rfl)
abbrev rmW_init : Room := { frames := 1, cells := 1, slots := 10, locals := 20 }
set_option maxHeartbeats 4000000 in
set_option maxRecDepth 100000 in
/-- Wall() -/
theorem c_W_init (l : Launch) (K : KG) (q : Nat) : Ct l yW_init kW_init rmW_init (PC K [.ref q] (fun H => H.size = q + 1 ∧ va_P (kD K) vcl [(q, .inr (1, [.int (iI 0), .int (iI 0), .int (iI 0), .null]))] H)) (QV (fun H => H.size = q + 2 ∧ va_P (kD K) vcl (wlW K q 0 0 0 (fun _ => 0)) H)) (fun x => q ≤ x) := by
  refine ct_of (by decide) (Or.inl ⟨rfl, rfl⟩) ?_
  intro p e s m args below meth c B0 hP0
  obtain ⟨hx, hb, hr, hml, hown, hlocks, hnm, htab⟩ := B0
  obtain ⟨ha, ⟨hT, hK⟩, hB⟩ := hP0
  have hl := lv_entry ([.ref q]) (n := 1) (Nat.le_of_ble_eq_true rfl)
  obtain ⟨Q, hQ⟩ : ∃ Q, Q = XQ below (QV (fun H => H.size = q + 2 ∧ va_P (kD K) vcl (wlW K q 0 0 0 (fun _ => 0)) H)) args s rmW_init.cells rmW_init.slots (fun x => q ≤ x) := ⟨_, rfl⟩
  rw [← hQ, ha, lg_entry_eq]
  rw [ha] at hQ
  generalize (lg_sl ([.ref q]) ++ List.replicate (1 - (lg_sl ([.ref q])).length) Slot.unset).toArray = ls at hl ⊢
  generalize ([.ref q] : List Value).toArray = args at hQ ⊢
  have hts : ∀ w ∈ TW, w.before args s = true := fun w h => hT w h args
  have hl : lv_has ls 1 [(0, .ref q)] := hl
  obtain ⟨A, hAe⟩ : ∃ A : Addr → Prop, A = (fun x => q ≤ x) := ⟨_, rfl⟩
  rw [← hAe] at hQ
  have hS : va_S A s.heap s.heap [] := va_S.rf
  obtain ⟨hz0, hP⟩ := hB
  have hD : va_D A [(q, .inr (1, [.int (iI 0), .int (iI 0), .int (iI 0), .null]))] := by rw [hAe]; exact va_D_of (by simp) (by simp)
  have hA : ∀ x, s.heap.size ≤ x → A x := fun x hx => by rw [hAe]; show q ≤ x; omega
  refine lv_aload_n hx hb dW_init_0 rfl (lv_at hl 0 rfl) ?_
  refine W.objInit hx hb hown (hts _ mt_28) (hts _ mt_20) (hts _ mt_21) rfl (by rw [hml]; exact hl.1) rfl dW_init_1 (Nat.le_of_ble_eq_true rfl) (Nat.le_of_ble_eq_true rfl) ?_
  refine W.eq (g2 := F0 m 4 ls []) rfl ?_
  refine lv_aload_n hx hb dW_init_4 rfl (lv_at hl 0 rfl) ?_
  refine iz_bipush hx hb dW_init_5 (by decide) ?_
  have hz := hz0
  refine iz_newi hx hb hT hK hP hD hS hA 10 rfl (by omega) (Nat.le_of_ble_eq_true rfl) (Nat.le_of_ble_eq_true rfl) (z := q + 1) hz dW_init_7 ?_
  clear hz hP hD hS
  intro H hz hP hD hS
  replace hP : va_P (kD K) vcl [(q, .inr (1, [.int (iI 0), .int (iI 0), .int (iI 0), .null])), (q + 1, .inl (kI K, 10, .inl (iA (fun _ => 0))))] H := hP
  replace hD : va_D A [(q, .inr (1, [.int (iI 0), .int (iI 0), .int (iI 0), .null])), (q + 1, .inl (kI K, 10, .inl (iA (fun _ => 0))))] := hD
  refine W.num (c1 := 1) (s1 := 10) rfl rfl ?_
  refine va_putF (D := kD K) (ci := 1) (v := .ref (q + 1)) (ty := .array .int) (C := RW) (T := FW) (N := 4) hx hb hts jnW tW tW_ok nW hown hK hP hD hS 0 rfl rfl 3 (by decide) (hts _ mt_32) (fun _ h9 => h9) rfl hnm rfl (by decide +kernel) rfl rfl (Nat.le_of_ble_eq_true rfl) dW_init_9 ?_
  clear hP hD hS
  intro H locs hP hD hS
  replace hP : va_P (kD K) vcl [(q, .inr (1, [.int (iI 0), .int (iI 0), .int (iI 0), .ref (q + 1)])), (q + 1, .inl (kI K, 10, .inl (iA (fun _ => 0))))] H := hP
  replace hD : va_D A [(q, .inr (1, [.int (iI 0), .int (iI 0), .int (iI 0), .ref (q + 1)])), (q + 1, .inl (kI K, 10, .inl (iA (fun _ => 0))))] := hD
  refine W.sz (fun hs9 => ?_)
  replace hz : H.size = q + 2 := by have h9 : q + 1 < H.size := (hP 1 _ rfl).lt; omega
  clear hs9
  rw [hQ]
  exact iz_vret hx hb hr hlocks (⟨hz, hP⟩) hS.2.2 dW_init_12
