-- class LayerQuantities: need, bought, cents
abbrev rmX_need : Room := { frames := 8, cells := 1, slots := 6, locals := 140 }
set_option maxHeartbeats 4000000 in
set_option maxRecDepth 100000 in
/-- need(stuff) -/
theorem c_X_need (l : Launch) (htr : l.stackTraces = false) (K : KG) (z : Nat) (b wn k : Nat) (ar oc lc : Nat → Int) (th : Nat → Nat → Int) (wa : Nat → Int) (x1 : Int) (h1 : r32 x1) (hk : 0 ≤ x1 → x1 < 10 → x1 = k) (hW9 : WB wn ar oc lc th wa) : Ct l yX_need kX_need rmX_need (PX K z [.ref b, .int (iI x1)] (fun H => va_P (kD K) vcl [(b, .inr (0, [.ref (b + 1), .int (iI (wn : Int)), .ref (b + 26), .ref (b + 27), .ref (b + 98)])), (b + 1, .inl (kW K, 12, .inr (.inr (.inr (.inr (fun i => some (b + 2 + 2 * i))))))), (b + 26, .inl (kI K, 10, .inl (iA wa)))] H ∧ (∀ i, i < 12 → va_P (kD K) vcl [(b + 2 + 2 * i, .inr (1, [.int (iI (ar i)), .int (iI (oc i)), .int (iI (lc i)), .ref (b + 2 + 2 * i + 1)])), (b + 2 + 2 * i + 1, .inl (kI K, 10, .inl (iA (th i))))] H))) (QTL (fun r H0 H => (0 ≤ x1 ∧ x1 < 10) ∧ H = H0 ∧ r = ndX ar th wa wn k) (fun E => E = exA ∧ ¬ (0 ≤ x1 ∧ x1 < 10))) (fun _ => False) := by
  refine ct_of (by decide) (Or.inl ⟨rfl, rfl⟩) ?_
  intro p e s m args below meth c B0 hP0
  obtain ⟨hx, hb, hr, hml, hown, hlocks, hnm, htab⟩ := B0
  obtain ⟨ha, hE, hB⟩ := hP0
  obtain ⟨hT, hK⟩ := hE.1
  have hl := lv_entry ([.ref b, .int (iI x1)]) (n := 5) (Nat.le_of_ble_eq_true rfl)
  obtain ⟨Q, hQ⟩ : ∃ Q, Q = XQ below (QTL (fun r H0 H => (0 ≤ x1 ∧ x1 < 10) ∧ H = H0 ∧ r = ndX ar th wa wn k) (fun E => E = exA ∧ ¬ (0 ≤ x1 ∧ x1 < 10))) args s (rmX_need).cells (rmX_need).slots (fun _ => False) := ⟨_, rfl⟩
  rw [← hQ, ha, lg_entry_eq]
  rw [ha] at hQ
  generalize (lg_sl ([.ref b, .int (iI x1)]) ++ List.replicate (5 - (lg_sl ([.ref b, .int (iI x1)])).length) Slot.unset).toArray = ls at hl ⊢
  generalize ([.ref b, .int (iI x1)] : List Value).toArray = args at hQ ⊢
  have hts : ∀ w ∈ TW, w.before args s = true := fun w h => hT w h args
  have hl : lv_has ls 5 [(0, .ref b), (1, .int (iI x1))] := hl
  obtain ⟨A, hAe⟩ : ∃ A : Addr → Prop, A = (fun _ => False) := ⟨_, rfl⟩
  rw [← hAe] at hQ
  have hS : va_S A s.heap s.heap [] := va_S.rf
  obtain ⟨hR, hF⟩ := hB
  have hR : va_P (kD K) vcl [(b, .inr (0, [.ref (b + 1), .int (iI (wn : Int)), .ref (b + 26), .ref (b + 27), .ref (b + 98)])), (b + 1, .inl (kW K, 12, .inr (.inr (.inr (.inr (fun i => some (b + 2 + 2 * i))))))), (b + 26, .inl (kI K, 10, .inl (iA wa)))] s.heap := hR
  obtain ⟨hw12, hwb, hwa⟩ := id hW9
  refine lv_iload_n hx hb dX_need_0 rfl (lv_at hl 1 rfl) ?_
  refine iz_bipush hx hb dX_need_1 (by decide) ?_
  refine ctS (n := 2) hx hb hml hown hT ⟨c_X_checkNumber l htr K z x1 10 ⟨by omega, by omega⟩ ⟨by omega, by omega⟩, ⟨_, _, _, Or.inl ⟨rfl, rfl⟩⟩, mt_152, mt_1, by decide, by decide +kernel, by decide, by decide, by decide, by decide⟩ PX.blind mt_150 mt_151 (As := [.int (iI x1), .int (iI 10)]) (rest := []) rfl (PX.at hE rfl trivial) hl.1 rfl (Nat.le_of_ble_eq_true rfl) dX_need_3 (krC (c1 := 1) (s1 := 6) rfl rfl (fun _ h => h) rfl rfl (fun g1 => ?_) (fun x H1 hX hk hn => by rw [hQ]; exact x_out htab hlocks (fun _ _ h => Or.inr h) hX hk (⟨rfl, by omega⟩) (by decide) (by decide)))
  have hk := hk (by omega) (by omega)
  have hnb := ndX_bd hW9 (show k < 10 by omega)
  have qw := hwa k (by omega)
  have loop : ∀ (j i : Nat) (ac : Int), wn + 1 ≤ i + j → i ≤ wn → ac = sm (fun i => ar i * th i k) 0 i → ∀ ls : Array Slot, lv_has ls 5 [(0, .ref b), (1, .int (iI x1)), (2, .long (lI ac)), (4, .int (iI (i : Int)))] → W p l e rmX_need s m args below meth c s.heap [] 1 6 Q (F0 m 11 ls []) := by
    intro j
    induction j with
    | zero => intro i ac h1 h2; omega
    | succ j ih =>
      intro i ac h1 h2 hac ls hl
      refine lv_iload hx hb dX_need_11 (lv_at hl 3 rfl) ?_
      refine lv_aload_n hx hb dX_need_13 rfl (lv_at hl 0 rfl) ?_
      refine va_get (D := kD K) (ci := 0) (v := .int (iI (wn : Int))) (C := RX) (T := FX) (N := 5) hx hb hts jnX hown hK hR 0 rfl rfl 1 (by decide) (hts _ mt_127) (fun _ h9 => h9) rfl dX_need_14 ?_
      refine iz_icmp_ge (tgt := 54) hx hb ⟨by omega, by omega⟩ ⟨by omega, by omega⟩ dX_need_17 (by decide) (fun g2 => ?_) (fun g2 => ?_)
      · have e : i = wn := by omega
        subst e
        refine lv_lload_n hx hb dX_need_54 rfl (lv_at hl 2 rfl) ?_
        refine iz_bipush hx hb dX_need_55 (by decide) ?_
        refine lv_aload_n hx hb dX_need_57 rfl (lv_at hl 0 rfl) ?_
        refine va_get (D := kD K) (ci := 0) (v := .ref (b + 26)) (C := RX) (T := FX) (N := 5) hx hb hts jnX hown hK hR 0 rfl rfl 2 (by decide) (hts _ mt_128) (fun _ h9 => h9) rfl dX_need_58 ?_
        refine lv_iload_n hx hb dX_need_61 rfl (lv_at hl 1 rfl) ?_
        refine iz_iald hx hb hK hR 2 rfl k hk (by omega) (by omega) dX_need_62 ?_
        refine iz_iadd hx hb dX_need_63 ?_
        refine iz_i2l hx hb ⟨by omega, by omega⟩ dX_need_64 ?_
        refine iz_lmul hx hb dX_need_65 ?_
        refine iz_bipush hx hb dX_need_66 (by decide) ?_
        refine ctS (n := 2) hx hb hml hown hT ⟨c_X_ratio l K (ac * (100 + wa k)) 100 (by rw [hac]; exact hnb.1.1) (by rw [hac]; omega) (by omega) (by omega), ⟨_, _, _, Or.inl ⟨rfl, rfl⟩⟩, mt_226, mt_1, by decide, by decide +kernel, by decide, by decide, by decide, by decide⟩ PC.blind mt_224 mt_225 (As := [.long (lI (ac * (100 + (wa k)))), .int (iI 100)]) (rest := []) rfl (PC.at ⟨hT, hK⟩ trivial) hl.1 rfl (Nat.le_of_ble_eq_true rfl) dX_need_68 (krL0 rfl rfl (fun _ h => h) (fun r hr9 => ?_))
        rw [hQ]
        exact ix_lret hx hb hr hlocks (⟨g1, rfl, by rw [hr9, hac]; rfl⟩) (fun _ h => absurd h List.not_mem_nil) (by decide) (by decide) dX_need_71
      · have qi := hwb i (by omega)
        have qk := qi.2.2.2 k (by omega)
        refine lv_lload_n hx hb dX_need_20 rfl (lv_at hl 2 rfl) ?_
        refine lv_aload_n hx hb dX_need_21 rfl (lv_at hl 0 rfl) ?_
        refine va_get (D := kD K) (ci := 0) (v := .ref (b + 1)) (C := RX) (T := FX) (N := 5) hx hb hts jnX hown hK hR 0 rfl rfl 0 (by decide) (hts _ mt_126) (fun _ h9 => h9) rfl dX_need_22 ?_
        refine lv_iload hx hb dX_need_25 (lv_at hl 3 rfl) ?_
        refine iz_aald hx hb hK hR 1 2 rfl rfl i rfl (by omega) (by omega) rfl dX_need_27 ?_
        refine va_getN (D := kD K) (ci := 1) (v := .int (iI (ar i))) (C := RW) (T := FW) (N := 4) hx hb hts jnW hown hK (hF i (by omega)) 0 rfl rfl 0 (by decide) (hts _ mt_29) (fun _ h9 => h9) rfl dX_need_28 ?_
        refine iz_i2l hx hb ⟨by omega, by omega⟩ dX_need_31 ?_
        refine lv_aload_n hx hb dX_need_32 rfl (lv_at hl 0 rfl) ?_
        refine va_get (D := kD K) (ci := 0) (v := .ref (b + 1)) (C := RX) (T := FX) (N := 5) hx hb hts jnX hown hK hR 0 rfl rfl 0 (by decide) (hts _ mt_126) (fun _ h9 => h9) rfl dX_need_33 ?_
        refine lv_iload hx hb dX_need_36 (lv_at hl 3 rfl) ?_
        refine iz_aald hx hb hK hR 1 2 rfl rfl i rfl (by omega) (by omega) rfl dX_need_38 ?_
        refine va_getN (D := kD K) (ci := 1) (v := .ref (b + 2 + 2 * i + 1)) (C := RW) (T := FW) (N := 4) hx hb hts jnW hown hK (hF i (by omega)) 0 rfl rfl 3 (by decide) (hts _ mt_33) (fun _ h9 => h9) rfl dX_need_39 ?_
        refine lv_iload_n hx hb dX_need_42 rfl (lv_at hl 1 rfl) ?_
        refine iz_iald hx hb hK (hF i (by omega)) 1 rfl k hk (by omega) (by omega) dX_need_43 ?_
        refine iz_i2l hx hb ⟨by omega, by omega⟩ dX_need_44 ?_
        refine iz_lmul hx hb dX_need_45 ?_
        refine iz_ladd hx hb dX_need_46 ?_
        refine lv_lstore_n (lv' := [(2, .long (lI (ac + ((ar i) * ((th i) k))))), (0, .ref b), (1, .int (iI x1)), (4, .int (iI (i : Int)))]) hx hb dX_need_47 rfl hl (by decide) rfl (fun ls hl => ?_)
        refine iz_iinc (k := 3) (lv' := [(4, .int (iI ((i : Int) + 1))), (2, .long (lI (ac + ((ar i) * ((th i) k))))), (0, .ref b), (1, .int (iI x1))]) hx hb dX_need_48 hl rfl (by decide) rfl (fun ls hl => ?_)
        refine lv_goto (tgt := 11) hx hb dX_need_51 (by decide) ?_
        exact ih (i + 1) (ac + ar i * th i k) (by omega) (by omega) (by rw [sm_snoc, Nat.zero_add, hac]) ls (lv_sub hl [2, 3, 1, 0] rfl)
  refine iz_lconst hx hb 0 rfl dX_need_6 ?_
  refine lv_lstore_n (lv' := [(2, .long (lI 0)), (0, .ref b), (1, .int (iI x1))]) hx hb dX_need_7 rfl hl (by decide) rfl (fun ls hl => ?_)
  refine iz_iconst hx hb dX_need_8 ?_
  refine lv_istore (lv' := [(4, .int (iI 0)), (2, .long (lI 0)), (0, .ref b), (1, .int (iI x1))]) hx hb dX_need_9 hl (by decide) rfl (fun ls hl => ?_)
  exact loop (wn + 1) 0 0 (by omega) (by omega) rfl ls (lv_sub hl [2, 3, 1, 0] rfl)
abbrev rmX_bought : Room := { frames := 16, cells := 3, slots := 18, locals := 900 }
set_option maxHeartbeats 4000000 in
set_option maxRecDepth 100000 in
/-- bought(stuff, pack) -/
theorem c_X_bought (l : Launch) (htr : l.stackTraces = false) (K : KG) (z : Nat) (b wn j k2 : Nat) (ar oc lc : Nat → Int) (th : Nat → Nat → Int) (wa : Nat → Int) (Kn : Nat) (mu pr bg ch tr bn : Nat → Int) (bp bc sf : Int) (x1 x2 : Int) (h1 : r32 x1) (h2 : r32 x2) (hj : j < 10) (hjs : 0 ≤ x1 → x1 < 10 → x1 = j) (hk2 : 0 ≤ x2 → x2 < Kn → x2 = k2) (hW9 : WB wn ar oc lc th wa) (hI : ShI Kn mu pr bg ch bn bp bc sf) : Ct l yX_bought kX_bought rmX_bought (PX K z [.ref b, .int (iI x1), .int (iI x2)] (fun H => va_P (kD K) vcl (shW K (b + 28 + 7 * j) (Kn : Int) mu pr bg ch tr bn bp bc sf) H ∧ va_P (kD K) vcl [(b, .inr (0, [.ref (b + 1), .int (iI (wn : Int)), .ref (b + 26), .ref (b + 27), .ref (b + 98)])), (b + 1, .inl (kW K, 12, .inr (.inr (.inr (.inr (fun i => some (b + 2 + 2 * i))))))), (b + 26, .inl (kI K, 10, .inl (iA wa))), (b + 27, .inl (kS K, 10, .inr (.inr (.inr (.inr (fun i => some (b + 28 + 7 * i)))))))] H ∧ (∀ i, i < 12 → va_P (kD K) vcl [(b + 2 + 2 * i, .inr (1, [.int (iI (ar i)), .int (iI (oc i)), .int (iI (lc i)), .ref (b + 2 + 2 * i + 1)])), (b + 2 + 2 * i + 1, .inl (kI K, 10, .inl (iA (th i))))] H))) (QTI (fun r _ H => ((0 ≤ x1 ∧ x1 < 10) ∧ (0 ≤ x2 ∧ x2 < Kn)) ∧ ((r = -1 ∧ ∀ n, ¬ py_F mu 0 Kn (ndX ar th wa wn j) 0 n) ∨ ∃ n, py_Best mu pr Kn (ndX ar th wa wn j) n ∧ r = n k2) ∧ ∃ (tr' bn' : Nat → Int) (bp' bc' : Int), ShI Kn mu pr bg ch bn' bp' bc' (ndX ar th wa wn j) ∧ va_P (kD K) vcl (shW K (b + 28 + 7 * j) (Kn : Int) mu pr bg ch tr' bn' bp' bc' (ndX ar th wa wn j)) H) (fun E => E = exA ∧ ¬ ((0 ≤ x1 ∧ x1 < 10) ∧ (0 ≤ x2 ∧ x2 < Kn)))) (fun q => b + 28 + 7 * j ≤ q ∧ q < b + 28 + 7 * j + 7) := by
  refine ct_of (by decide) (Or.inl ⟨rfl, rfl⟩) ?_
  intro p e s m args below meth c B0 hP0
  obtain ⟨hx, hb, hr, hml, hown, hlocks, hnm, htab⟩ := B0
  obtain ⟨ha, hE, hB⟩ := hP0
  obtain ⟨hT, hK⟩ := hE.1
  have hl := lv_entry ([.ref b, .int (iI x1), .int (iI x2)]) (n := 3) (Nat.le_of_ble_eq_true rfl)
  obtain ⟨Q, hQ⟩ : ∃ Q, Q = XQ below (QTI (fun r _ H => ((0 ≤ x1 ∧ x1 < 10) ∧ (0 ≤ x2 ∧ x2 < Kn)) ∧ ((r = -1 ∧ ∀ n, ¬ py_F mu 0 Kn (ndX ar th wa wn j) 0 n) ∨ ∃ n, py_Best mu pr Kn (ndX ar th wa wn j) n ∧ r = n k2) ∧ ∃ (tr' bn' : Nat → Int) (bp' bc' : Int), ShI Kn mu pr bg ch bn' bp' bc' (ndX ar th wa wn j) ∧ va_P (kD K) vcl (shW K (b + 28 + 7 * j) (Kn : Int) mu pr bg ch tr' bn' bp' bc' (ndX ar th wa wn j)) H) (fun E => E = exA ∧ ¬ ((0 ≤ x1 ∧ x1 < 10) ∧ (0 ≤ x2 ∧ x2 < Kn)))) args s (rmX_bought).cells (rmX_bought).slots (fun q => b + 28 + 7 * j ≤ q ∧ q < b + 28 + 7 * j + 7) := ⟨_, rfl⟩
  rw [← hQ, ha, lg_entry_eq]
  rw [ha] at hQ
  generalize (lg_sl ([.ref b, .int (iI x1), .int (iI x2)]) ++ List.replicate (3 - (lg_sl ([.ref b, .int (iI x1), .int (iI x2)])).length) Slot.unset).toArray = ls at hl ⊢
  generalize ([.ref b, .int (iI x1), .int (iI x2)] : List Value).toArray = args at hQ ⊢
  have hts : ∀ w ∈ TW, w.before args s = true := fun w h => hT w h args
  have hl : lv_has ls 3 [(0, .ref b), (1, .int (iI x1)), (2, .int (iI x2))] := hl
  obtain ⟨A, hAe⟩ : ∃ A : Addr → Prop, A = (fun q => b + 28 + 7 * j ≤ q ∧ q < b + 28 + 7 * j + 7) := ⟨_, rfl⟩
  rw [← hAe] at hQ
  have hS : va_S A s.heap s.heap [] := va_S.rf
  obtain ⟨hP, hR, hF⟩ := hB
  have hP : va_P (kD K) vcl [(b + 28 + 7 * j, .inr (2, [.int (iI (Kn : Int)), .ref (b + 28 + 7 * j + 1), .ref (b + 28 + 7 * j + 2), .ref (b + 28 + 7 * j + 3), .ref (b + 28 + 7 * j + 4), .ref (b + 28 + 7 * j + 5), .ref (b + 28 + 7 * j + 6), .int (iI bp), .int (iI bc), .long (lI sf)])), (b + 28 + 7 * j + 1, .inl (kI K, 4, .inl (iA mu))), (b + 28 + 7 * j + 2, .inl (kI K, 4, .inl (iA pr))), (b + 28 + 7 * j + 3, .inl (kI K, 4, .inl (iA bg))), (b + 28 + 7 * j + 4, .inl (kI K, 4, .inl (iA ch))), (b + 28 + 7 * j + 5, .inl (kI K, 4, .inl (iA tr))), (b + 28 + 7 * j + 6, .inl (kI K, 4, .inl (iA bn)))] s.heap := hP
  have hR : va_P (kD K) vcl [(b, .inr (0, [.ref (b + 1), .int (iI (wn : Int)), .ref (b + 26), .ref (b + 27), .ref (b + 98)])), (b + 1, .inl (kW K, 12, .inr (.inr (.inr (.inr (fun i => some (b + 2 + 2 * i))))))), (b + 26, .inl (kI K, 10, .inl (iA wa))), (b + 27, .inl (kS K, 10, .inr (.inr (.inr (.inr (fun i => some (b + 28 + 7 * i)))))))] s.heap := hR
  have hnb := ndX_bd hW9 hj
  have hK4 := hI.1.1
  refine lv_iload_n hx hb dX_bought_0 rfl (lv_at hl 1 rfl) ?_
  refine iz_bipush hx hb dX_bought_1 (by decide) ?_
  refine ctS (n := 2) hx hb hml hown hT ⟨c_X_checkNumber l htr K z x1 10 ⟨by omega, by omega⟩ ⟨by omega, by omega⟩, ⟨_, _, _, Or.inl ⟨rfl, rfl⟩⟩, mt_152, mt_1, by decide, by decide +kernel, by decide, by decide, by decide, by decide⟩ PX.blind mt_150 mt_151 (As := [.int (iI x1), .int (iI 10)]) (rest := []) rfl (PX.at hE rfl trivial) hl.1 rfl (Nat.le_of_ble_eq_true rfl) dX_bought_3 (krC (c1 := 1) (s1 := 6) rfl rfl (fun _ h => h) rfl rfl (fun g1 => ?_) (fun x H1 hX hk hn => by rw [hQ]; exact x_out htab hlocks (fun _ _ h => Or.inr h) hX hk (⟨rfl, by omega⟩) (by decide) (by decide)))
  have hjs := hjs (by omega) (by omega)
  refine lv_iload_n hx hb dX_bought_6 rfl (lv_at hl 2 rfl) ?_
  refine lv_aload_n hx hb dX_bought_7 rfl (lv_at hl 0 rfl) ?_
  refine va_get (D := kD K) (ci := 0) (v := .ref (b + 27)) (C := RX) (T := FX) (N := 5) hx hb hts jnX hown hK hR 0 rfl rfl 3 (by decide) (hts _ mt_129) (fun _ h9 => h9) rfl dX_bought_8 ?_
  refine lv_iload_n hx hb dX_bought_11 rfl (lv_at hl 1 rfl) ?_
  refine iz_aald hx hb hK hR 3 3 rfl rfl j hjs (by omega) (by omega) rfl dX_bought_12 ?_
  refine va_getN (D := kD K) (ci := 2) (v := .int (iI (Kn : Int))) (C := RS) (T := FS) (N := 10) hx hb hts jnS hown hK hP 0 rfl rfl 0 (by decide) (hts _ mt_53) (fun _ h9 => h9) rfl dX_bought_13 ?_
  refine ctS (n := 2) hx hb hml hown hT ⟨c_X_checkNumber l htr K z x2 Kn ⟨by omega, by omega⟩ ⟨by omega, by omega⟩, ⟨_, _, _, Or.inl ⟨rfl, rfl⟩⟩, mt_152, mt_1, by decide, by decide +kernel, by decide, by decide, by decide, by decide⟩ PX.blind mt_150 mt_151 (As := [.int (iI x2), .int (iI (Kn : Int))]) (rest := []) rfl (PX.at hE rfl trivial) hl.1 rfl (Nat.le_of_ble_eq_true rfl) dX_bought_16 (krC (c1 := 2) (s1 := 12) rfl rfl (fun _ h => h) rfl rfl (fun g2 => ?_) (fun x H1 hX hk hn => by rw [hQ]; exact x_out htab hlocks (fun _ _ h => Or.inr h) hX hk (⟨rfl, by omega⟩) (by decide) (by decide)))
  have hk2 := hk2 (by omega) (by omega)
  refine lv_aload_n hx hb dX_bought_19 rfl (lv_at hl 0 rfl) ?_
  refine va_get (D := kD K) (ci := 0) (v := .ref (b + 27)) (C := RX) (T := FX) (N := 5) hx hb hts jnX hown hK hR 0 rfl rfl 3 (by decide) (hts _ mt_129) (fun _ h9 => h9) rfl dX_bought_20 ?_
  refine lv_iload_n hx hb dX_bought_23 rfl (lv_at hl 1 rfl) ?_
  refine iz_aald hx hb hK hR 3 3 rfl rfl j hjs (by omega) (by omega) rfl dX_bought_24 ?_
  refine lv_aload_n hx hb dX_bought_25 rfl (lv_at hl 0 rfl) ?_
  refine lv_iload_n hx hb dX_bought_26 rfl (lv_at hl 1 rfl) ?_
  refine ctV (n := 1) hx hb hml hown hT ⟨c_X_need l htr K z b wn j ar oc lc th wa x1 h1 (fun _ _ => hjs) hW9, ⟨_, _, _, Or.inl ⟨rfl, rfl⟩⟩, mt_223, mt_1, by decide, by decide +kernel, by decide, by decide, by decide, by decide⟩ PX.blind mt_220 mt_221 mt_222 (va_RVof (ci := 0) (q0 := 0) hK hR rfl rfl) (As := [.int (iI x1)]) (rest := [.ref (b + 28 + 7 * j)]) rfl (PX.at hE rfl ⟨hR.sub [0, 1, 2] rfl, hF⟩) hl.1 rfl (Nat.le_of_ble_eq_true rfl) dX_bought_27 (krN (c1 := 3) (s1 := 18) g1 (fun _ h => h) rfl rfl ?_)
  refine lv_iload_n hx hb dX_bought_30 rfl (lv_at hl 2 rfl) ?_
  have eks : x2 = (k2 : Int) := hk2
  subst eks
  refine ctVN (n := 2) hx hb hml hown hT ⟨c_S_countFor l K (b + 28 + 7 * j) Kn mu pr bg ch tr bn bp bc sf (ndX ar th wa wn j) hI hnb.2 k2 (by omega), ⟨_, _, _, Or.inl ⟨rfl, rfl⟩⟩, mt_397, mt_3, by decide, by decide +kernel, by decide, by decide, by decide, by decide⟩ PC.blind mt_394 mt_396 ms_17 (va_RVof (ci := 2) (q0 := 0) hK hP rfl rfl) (As := [.long (lI (ndX ar th wa wn j)), .int (iI (k2 : Int))]) (rest := []) rfl (PC.at ⟨hT, hK⟩ hP) hl.1 rfl (Nat.le_of_ble_eq_true rfl) dX_bought_31 (krI (c1 := 3) (s1 := 18) rfl rfl (fun r t1 H1 L hA hL hpo => ?_))
  have hS := hA.S hS (fun x hx => by rw [hAe]; exact hx) hL
  rw [hQ]
  exact ix_iret hx hb hr hlocks (⟨⟨g1, g2⟩, hpo⟩) hS.2.2 (by decide) (by decide) dX_bought_34
abbrev rmX_cents1 : Room := { frames := 16, cells := 2, slots := 12, locals := 900 }
set_option maxHeartbeats 4000000 in
set_option maxRecDepth 100000 in
/-- cents(stuff) -/
theorem c_X_cents1 (l : Launch) (htr : l.stackTraces = false) (K : KG) (z : Nat) (b wn j : Nat) (ar oc lc : Nat → Int) (th : Nat → Nat → Int) (wa : Nat → Int) (Kn : Nat) (mu pr bg ch tr bn : Nat → Int) (bp bc sf : Int) (x1 : Int) (h1 : r32 x1) (hj : j < 10) (hjs : 0 ≤ x1 → x1 < 10 → x1 = j) (hW9 : WB wn ar oc lc th wa) (hI : ShI Kn mu pr bg ch bn bp bc sf) : Ct l yX_cents1 kX_cents1 rmX_cents1 (PX K z [.ref b, .int (iI x1)] (fun H => va_P (kD K) vcl (shW K (b + 28 + 7 * j) (Kn : Int) mu pr bg ch tr bn bp bc sf) H ∧ va_P (kD K) vcl [(b, .inr (0, [.ref (b + 1), .int (iI (wn : Int)), .ref (b + 26), .ref (b + 27), .ref (b + 98)])), (b + 1, .inl (kW K, 12, .inr (.inr (.inr (.inr (fun i => some (b + 2 + 2 * i))))))), (b + 26, .inl (kI K, 10, .inl (iA wa))), (b + 27, .inl (kS K, 10, .inr (.inr (.inr (.inr (fun i => some (b + 28 + 7 * i)))))))] H ∧ (∀ i, i < 12 → va_P (kD K) vcl [(b + 2 + 2 * i, .inr (1, [.int (iI (ar i)), .int (iI (oc i)), .int (iI (lc i)), .ref (b + 2 + 2 * i + 1)])), (b + 2 + 2 * i + 1, .inl (kI K, 10, .inl (iA (th i))))] H))) (QTL (fun r _ H => (0 ≤ x1 ∧ x1 < 10) ∧ ((r = -1 ∧ ∀ n, ¬ py_F mu 0 Kn (ndX ar th wa wn j) 0 n) ∨ ∃ n, py_Best mu pr Kn (ndX ar th wa wn j) n ∧ r = py_co pr n 0 Kn) ∧ ∃ (tr' bn' : Nat → Int) (bp' bc' : Int), ShI Kn mu pr bg ch bn' bp' bc' (ndX ar th wa wn j) ∧ va_P (kD K) vcl (shW K (b + 28 + 7 * j) (Kn : Int) mu pr bg ch tr' bn' bp' bc' (ndX ar th wa wn j)) H) (fun E => E = exA ∧ ¬ (0 ≤ x1 ∧ x1 < 10))) (fun q => b + 28 + 7 * j ≤ q ∧ q < b + 28 + 7 * j + 7) := by
  refine ct_of (by decide) (Or.inl ⟨rfl, rfl⟩) ?_
  intro p e s m args below meth c B0 hP0
  obtain ⟨hx, hb, hr, hml, hown, hlocks, hnm, htab⟩ := B0
  obtain ⟨ha, hE, hB⟩ := hP0
  obtain ⟨hT, hK⟩ := hE.1
  have hl := lv_entry ([.ref b, .int (iI x1)]) (n := 2) (Nat.le_of_ble_eq_true rfl)
  obtain ⟨Q, hQ⟩ : ∃ Q, Q = XQ below (QTL (fun r _ H => (0 ≤ x1 ∧ x1 < 10) ∧ ((r = -1 ∧ ∀ n, ¬ py_F mu 0 Kn (ndX ar th wa wn j) 0 n) ∨ ∃ n, py_Best mu pr Kn (ndX ar th wa wn j) n ∧ r = py_co pr n 0 Kn) ∧ ∃ (tr' bn' : Nat → Int) (bp' bc' : Int), ShI Kn mu pr bg ch bn' bp' bc' (ndX ar th wa wn j) ∧ va_P (kD K) vcl (shW K (b + 28 + 7 * j) (Kn : Int) mu pr bg ch tr' bn' bp' bc' (ndX ar th wa wn j)) H) (fun E => E = exA ∧ ¬ (0 ≤ x1 ∧ x1 < 10))) args s (rmX_cents1).cells (rmX_cents1).slots (fun q => b + 28 + 7 * j ≤ q ∧ q < b + 28 + 7 * j + 7) := ⟨_, rfl⟩
  rw [← hQ, ha, lg_entry_eq]
  rw [ha] at hQ
  generalize (lg_sl ([.ref b, .int (iI x1)]) ++ List.replicate (2 - (lg_sl ([.ref b, .int (iI x1)])).length) Slot.unset).toArray = ls at hl ⊢
  generalize ([.ref b, .int (iI x1)] : List Value).toArray = args at hQ ⊢
  have hts : ∀ w ∈ TW, w.before args s = true := fun w h => hT w h args
  have hl : lv_has ls 2 [(0, .ref b), (1, .int (iI x1))] := hl
  obtain ⟨A, hAe⟩ : ∃ A : Addr → Prop, A = (fun q => b + 28 + 7 * j ≤ q ∧ q < b + 28 + 7 * j + 7) := ⟨_, rfl⟩
  rw [← hAe] at hQ
  have hS : va_S A s.heap s.heap [] := va_S.rf
  obtain ⟨hP, hR, hF⟩ := hB
  have hP : va_P (kD K) vcl [(b + 28 + 7 * j, .inr (2, [.int (iI (Kn : Int)), .ref (b + 28 + 7 * j + 1), .ref (b + 28 + 7 * j + 2), .ref (b + 28 + 7 * j + 3), .ref (b + 28 + 7 * j + 4), .ref (b + 28 + 7 * j + 5), .ref (b + 28 + 7 * j + 6), .int (iI bp), .int (iI bc), .long (lI sf)])), (b + 28 + 7 * j + 1, .inl (kI K, 4, .inl (iA mu))), (b + 28 + 7 * j + 2, .inl (kI K, 4, .inl (iA pr))), (b + 28 + 7 * j + 3, .inl (kI K, 4, .inl (iA bg))), (b + 28 + 7 * j + 4, .inl (kI K, 4, .inl (iA ch))), (b + 28 + 7 * j + 5, .inl (kI K, 4, .inl (iA tr))), (b + 28 + 7 * j + 6, .inl (kI K, 4, .inl (iA bn)))] s.heap := hP
  have hR : va_P (kD K) vcl [(b, .inr (0, [.ref (b + 1), .int (iI (wn : Int)), .ref (b + 26), .ref (b + 27), .ref (b + 98)])), (b + 1, .inl (kW K, 12, .inr (.inr (.inr (.inr (fun i => some (b + 2 + 2 * i))))))), (b + 26, .inl (kI K, 10, .inl (iA wa))), (b + 27, .inl (kS K, 10, .inr (.inr (.inr (.inr (fun i => some (b + 28 + 7 * i)))))))] s.heap := hR
  have hnb := ndX_bd hW9 hj
  have hK4 := hI.1.1
  refine lv_iload_n hx hb dX_cents1_0 rfl (lv_at hl 1 rfl) ?_
  refine iz_bipush hx hb dX_cents1_1 (by decide) ?_
  refine ctS (n := 2) hx hb hml hown hT ⟨c_X_checkNumber l htr K z x1 10 ⟨by omega, by omega⟩ ⟨by omega, by omega⟩, ⟨_, _, _, Or.inl ⟨rfl, rfl⟩⟩, mt_152, mt_1, by decide, by decide +kernel, by decide, by decide, by decide, by decide⟩ PX.blind mt_150 mt_151 (As := [.int (iI x1), .int (iI 10)]) (rest := []) rfl (PX.at hE rfl trivial) hl.1 rfl (Nat.le_of_ble_eq_true rfl) dX_cents1_3 (krC (c1 := 1) (s1 := 6) rfl rfl (fun _ h => h) rfl rfl (fun g1 => ?_) (fun x H1 hX hk hn => by rw [hQ]; exact x_out htab hlocks (fun _ _ h => Or.inr h) hX hk (⟨rfl, by omega⟩) (by decide) (by decide)))
  have hjs := hjs (by omega) (by omega)
  refine lv_aload_n hx hb dX_cents1_6 rfl (lv_at hl 0 rfl) ?_
  refine va_get (D := kD K) (ci := 0) (v := .ref (b + 27)) (C := RX) (T := FX) (N := 5) hx hb hts jnX hown hK hR 0 rfl rfl 3 (by decide) (hts _ mt_129) (fun _ h9 => h9) rfl dX_cents1_7 ?_
  refine lv_iload_n hx hb dX_cents1_10 rfl (lv_at hl 1 rfl) ?_
  refine iz_aald hx hb hK hR 3 3 rfl rfl j hjs (by omega) (by omega) rfl dX_cents1_11 ?_
  refine lv_aload_n hx hb dX_cents1_12 rfl (lv_at hl 0 rfl) ?_
  refine lv_iload_n hx hb dX_cents1_13 rfl (lv_at hl 1 rfl) ?_
  refine ctV (n := 1) hx hb hml hown hT ⟨c_X_need l htr K z b wn j ar oc lc th wa x1 h1 (fun _ _ => hjs) hW9, ⟨_, _, _, Or.inl ⟨rfl, rfl⟩⟩, mt_223, mt_1, by decide, by decide +kernel, by decide, by decide, by decide, by decide⟩ PX.blind mt_220 mt_221 mt_222 (va_RVof (ci := 0) (q0 := 0) hK hR rfl rfl) (As := [.int (iI x1)]) (rest := [.ref (b + 28 + 7 * j)]) rfl (PX.at hE rfl ⟨hR.sub [0, 1, 2] rfl, hF⟩) hl.1 rfl (Nat.le_of_ble_eq_true rfl) dX_cents1_14 (krN (c1 := 2) (s1 := 12) g1 (fun _ h => h) rfl rfl ?_)
  refine ctVN (n := 1) hx hb hml hown hT ⟨c_S_priceFor l K (b + 28 + 7 * j) Kn mu pr bg ch tr bn bp bc sf (ndX ar th wa wn j) hI hnb.2, ⟨_, _, _, Or.inl ⟨rfl, rfl⟩⟩, mt_230, mt_3, by decide, by decide +kernel, by decide, by decide, by decide, by decide⟩ PC.blind mt_227 mt_229 ms_1 (va_RVof (ci := 2) (q0 := 0) hK hP rfl rfl) (As := [.long (lI (ndX ar th wa wn j))]) (rest := []) rfl (PC.at ⟨hT, hK⟩ hP) hl.1 rfl (Nat.le_of_ble_eq_true rfl) dX_cents1_17 (krI (c1 := 2) (s1 := 12) rfl rfl (fun r t1 H1 L hA hL hpo => ?_))
  have hS := hA.S hS (fun x hx => by rw [hAe]; exact hx) hL
  have hr9 : r32 r := by
    rcases hpo.1 with ⟨rfl, -⟩ | ⟨n, hn, rfl⟩
    · exact ⟨by omega, by omega⟩
    · have q1 := py_cost_le (c := pr) (fun i hi => (hI.1.2.1 i hi).2.2.2) hn.1
      have q2 : 0 ≤ py_co pr n 0 Kn := sm_nn Kn 0 (fun i a b => Int.mul_nonneg (hn.1.1 i a b) (by have := hI.1.2.1 i (by omega); omega))
      exact ⟨by omega, by omega⟩
  refine iz_i2l hx hb hr9 dX_cents1_20 ?_
  rw [hQ]
  exact ix_lret hx hb hr hlocks (⟨g1, hpo⟩) hS.2.2 (by decide) (by decide) dX_cents1_21
