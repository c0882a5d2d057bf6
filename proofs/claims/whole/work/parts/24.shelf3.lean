-- class Shelf: the rest
abbrev rmY_fill : Room := { frames := 0, cells := 0, slots := 0, locals := 0 }
set_option maxHeartbeats 4000000 in
set_option maxRecDepth 100000 in
/-- Arrays.fill(array, v) -/
theorem c_Y_fill (l : Launch) (K : KG) (a n : Nat) (g : Nat → Int) (v : Int) (hn : n < 1000) : Ct l yY_fill kY_fill rmY_fill (PC K [.ref a, .int (iI v)] (fun H => va_P (kD K) vcl [(a, .inl (kI K, n, .inl (iA g)))] H)) (QV (fun H => va_P (kD K) vcl [(a, .inl (kI K, n, .inl (iA (flz g v n))))] H)) (fun x => x = a) := by
  refine ct_of (by decide) (Or.inl ⟨rfl, rfl⟩) ?_
  intro p e s m args below meth c B0 hP0
  obtain ⟨hx, hb, hr, hml, hown, hlocks, hnm, htab⟩ := B0
  obtain ⟨ha, ⟨hT, hK⟩, hB⟩ := hP0
  have hl := lv_entry ([.ref a, .int (iI v)]) (n := 4) (Nat.le_of_ble_eq_true rfl)
  obtain ⟨Q, hQ⟩ : ∃ Q, Q = XQ below (QV (fun H => va_P (kD K) vcl [(a, .inl (kI K, n, .inl (iA (flz g v n))))] H)) args s rmY_fill.cells rmY_fill.slots (fun x => x = a) := ⟨_, rfl⟩
  rw [← hQ, ha, lg_entry_eq]
  rw [ha] at hQ
  generalize (lg_sl ([.ref a, .int (iI v)]) ++ List.replicate (4 - (lg_sl ([.ref a, .int (iI v)])).length) Slot.unset).toArray = ls at hl ⊢
  generalize ([.ref a, .int (iI v)] : List Value).toArray = args at hQ ⊢
  have hts : ∀ w ∈ TW, w.before args s = true := fun w h => hT w h args
  have hl : lv_has ls 4 [(0, .ref a), (1, .int (iI v))] := hl
  obtain ⟨A, hAe⟩ : ∃ A : Addr → Prop, A = (fun x => x = a) := ⟨_, rfl⟩
  rw [← hAe] at hQ
  have hS : va_S A s.heap s.heap [] := va_S.rf
  have hP : va_P (kD K) vcl [(a, .inl (kI K, n, .inl (iA g)))] s.heap := hB
  have hD : va_D A [(a, .inl (kI K, n, .inl (iA g)))] := by rw [hAe]; exact va_D_of (by simp) (by simp)
  have loop : ∀ (j i : Nat), n + 1 ≤ i + j → i ≤ n → ∀ (H : Heap) (locs : List Loc), va_P (kD K) vcl [(a, .inl (kI K, n, .inl (iA (flz g v i))))] H → va_D A [(a, .inl (kI K, n, .inl (iA (flz g v i))))] → va_S A s.heap H locs → ∀ ls : Array Slot, lv_has ls 4 [(0, .ref a), (1, .int (iI v)), (2, .int (iI (i : Int))), (3, .int (iI (n : Int)))] → W p l e rmY_fill s m args below meth c H locs 0 0 Q (F0 m 5 ls []) := by
    intro j
    induction j with
    | zero => intro i h1 h2; omega
    | succ j ih =>
      intro i h1 h2 H locs hP hD hS ls hl
      refine lv_iload_n hx hb dY_fill_5 rfl (lv_at hl 2 rfl) ?_
      refine lv_iload_n hx hb dY_fill_6 rfl (lv_at hl 3 rfl) ?_
      refine iz_icmp_ge (tgt := 20) hx hb ⟨by omega, by omega⟩ ⟨by omega, by omega⟩ dY_fill_7 (by decide) (fun g1 => ?_) (fun g1 => ?_)
      · have e : i = n := by omega
        subst e
        rw [hQ]
        exact iz_vret hx hb hr hlocks (hP) hS.2.2 dY_fill_20
      · refine lv_aload_n hx hb dY_fill_10 rfl (lv_at hl 0 rfl) ?_
        refine lv_iload_n hx hb dY_fill_11 rfl (lv_at hl 2 rfl) ?_
        refine lv_iload_n hx hb dY_fill_12 rfl (lv_at hl 1 rfl) ?_
        refine iz_iast hx hb hK hP hD hS 0 rfl i rfl (by omega) (by omega) dY_fill_13 ?_
        clear hP hD hS
        intro H locs hP hD hS
        replace hP : va_P (kD K) vcl [(a, .inl (kI K, n, .inl (iA (ut (flz g v i) i v))))] H := hP
        replace hD : va_D A [(a, .inl (kI K, n, .inl (iA (ut (flz g v i) i v))))] := hD
        rw [flz_s] at hP hD
        refine iz_iinc (k := 2) (lv' := [(2, .int (iI ((i : Int) + 1))), (0, .ref a), (1, .int (iI v)), (3, .int (iI (n : Int)))]) hx hb dY_fill_14 hl rfl (by decide) rfl (fun ls hl => ?_)
        refine lv_goto (tgt := 5) hx hb dY_fill_17 (by decide) ?_
        exact ih (i + 1) (by omega) (by omega) H _ hP hD hS ls (lv_sub hl [1, 2, 0, 3] rfl)
  refine iz_iconst hx hb dY_fill_0 ?_
  refine lv_istore_n (lv' := [(2, .int (iI 0)), (0, .ref a), (1, .int (iI v))]) hx hb dY_fill_1 rfl hl (by decide) rfl (fun ls hl => ?_)
  refine lv_aload_n hx hb dY_fill_2 rfl (lv_at hl 1 rfl) ?_
  refine iz_alen hx hb hK hP 0 0 rfl rfl dY_fill_3 ?_
  refine lv_istore_n (lv' := [(3, .int (iI (n : Nat))), (2, .int (iI 0)), (0, .ref a), (1, .int (iI v))]) hx hb dY_fill_4 rfl hl (by decide) rfl (fun ls hl => ?_)
  rw [← flz_0 g v] at hP hD
  exact loop (n + 1) 0 (by omega) (by omega) s.heap [] hP hD hS ls (lv_sub hl [2, 3, 1, 0] rfl)
abbrev rmS_priceOfOneKind : Room := { frames := 1, cells := 0, slots := 0, locals := 60 }
set_option maxHeartbeats 4000000 in
set_option maxRecDepth 100000 in
/-- Shelf.priceOfOneKind(need) -/
theorem c_S_one (l : Launch) (K : KG) (q Kn : Nat) (mu pr bg ch tr bn : Nat → Int) (bp bc sf : Int) (N : Int) (hok : ShOK Kn mu pr bg ch) (hN : 0 ≤ N ∧ N ≤ 100000000000) : Ct l yS_priceOfOneKind kS_priceOfOneKind rmS_priceOfOneKind (PC K [.ref q, .long (lI N)] (fun H => va_P (kD K) vcl (shW K q (Kn : Int) mu pr bg ch tr bn bp bc sf) H)) (QI (fun r _ => py_One mu pr Kn N r ∧ 0 ≤ r ∧ r ≤ 6000001)) (fun _ => False) := by
  refine ct_of (by decide) (Or.inl ⟨rfl, rfl⟩) ?_
  intro p e s m args below meth c B0 hP0
  obtain ⟨hx, hb, hr, hml, hown, hlocks, hnm, htab⟩ := B0
  obtain ⟨ha, ⟨hT, hK⟩, hB⟩ := hP0
  have hl := lv_entry ([.ref q, .long (lI N)]) (n := 8) (Nat.le_of_ble_eq_true rfl)
  obtain ⟨Q, hQ⟩ : ∃ Q, Q = XQ below (QI (fun r _ => py_One mu pr Kn N r ∧ 0 ≤ r ∧ r ≤ 6000001)) args s rmS_priceOfOneKind.cells rmS_priceOfOneKind.slots (fun _ => False) := ⟨_, rfl⟩
  rw [← hQ, ha, lg_entry_eq]
  rw [ha] at hQ
  generalize (lg_sl ([.ref q, .long (lI N)]) ++ List.replicate (8 - (lg_sl ([.ref q, .long (lI N)])).length) Slot.unset).toArray = ls at hl ⊢
  generalize ([.ref q, .long (lI N)] : List Value).toArray = args at hQ ⊢
  have hts : ∀ w ∈ TW, w.before args s = true := fun w h => hT w h args
  have hl : lv_has ls 8 [(0, .ref q), (1, .long (lI N))] := hl
  obtain ⟨A, hAe⟩ : ∃ A : Addr → Prop, A = (fun _ => False) := ⟨_, rfl⟩
  rw [← hAe] at hQ
  have hS : va_S A s.heap s.heap [] := va_S.rf
  have hP : va_P (kD K) vcl [(q, .inr (2, [.int (iI (Kn : Int)), .ref (q + 1), .ref (q + 2), .ref (q + 3), .ref (q + 4), .ref (q + 5), .ref (q + 6), .int (iI bp), .int (iI bc), .long (lI sf)])), (q + 1, .inl (kI K, 4, .inl (iA mu))), (q + 2, .inl (kI K, 4, .inl (iA pr))), (q + 3, .inl (kI K, 4, .inl (iA bg))), (q + 4, .inl (kI K, 4, .inl (iA ch))), (q + 5, .inl (kI K, 4, .inl (iA tr))), (q + 6, .inl (kI K, 4, .inl (iA bn)))] s.heap := hB
  obtain ⟨hK4, hbd, hrk⟩ := hok
  have loop : ∀ (j i : Nat) (z : Int), Kn + 1 ≤ i + j → i ≤ Kn → (py_One mu pr Kn N z ∧ 0 ≤ z ∧ z ≤ 6000001) → ∀ ls : Array Slot, lv_has ls 8 [(0, .ref q), (1, .long (lI N)), (3, .long (lI z)), (5, .int (iI (i : Int)))] → W p l e rmS_priceOfOneKind s m args below meth c s.heap [] 0 0 Q (F0 m 7 ls []) := by
    intro j
    induction j with
    | zero => intro i z h1 h2; omega
    | succ j ih =>
      intro i z h1 h2 hz ls hl
      refine lv_iload hx hb dS_priceOfOneKind_7 (lv_at hl 3 rfl) ?_
      refine lv_aload_n hx hb dS_priceOfOneKind_9 rfl (lv_at hl 0 rfl) ?_
      refine va_get (D := kD K) (ci := 2) (v := .int (iI (Kn : Int))) (C := RS) (T := FS) (N := 10) hx hb hts jnS hown hK hP 0 rfl rfl 0 (by decide) (hts _ mt_52) (fun _ h9 => h9) rfl dS_priceOfOneKind_10 ?_
      refine iz_icmp_ge (tgt := 60) hx hb ⟨by omega, by omega⟩ ⟨by omega, by omega⟩ dS_priceOfOneKind_13 (by decide) (fun g1 => ?_) (fun g1 => ?_)
      · refine lv_lload_n hx hb dS_priceOfOneKind_60 rfl (lv_at hl 2 rfl) ?_
        refine iz_l2i hx hb dS_priceOfOneKind_61 ?_
        rw [hQ]
        exact iz_iret hx hb hr hlocks (hz) (fun _ h => absurd h List.not_mem_nil) dS_priceOfOneKind_62
      · have qi := hbd i (by omega)
        refine lv_lload_n hx hb dS_priceOfOneKind_16 rfl (lv_at hl 1 rfl) ?_
        refine lv_aload_n hx hb dS_priceOfOneKind_17 rfl (lv_at hl 0 rfl) ?_
        refine va_get (D := kD K) (ci := 2) (v := .ref (q + 1)) (C := RS) (T := FS) (N := 10) hx hb hts jnS hown hK hP 0 rfl rfl 1 (by decide) (hts _ mt_54) (fun _ h9 => h9) rfl dS_priceOfOneKind_18 ?_
        refine lv_iload hx hb dS_priceOfOneKind_21 (lv_at hl 3 rfl) ?_
        refine iz_iald hx hb hK hP 1 rfl i rfl (by omega) (by omega) dS_priceOfOneKind_23 ?_
        refine ctSN (n := 2) hx hb hml hown hT ⟨c_X_ratio l K N (mu i) (by omega) (by omega) (by omega) (by omega), ⟨_, _, _, Or.inl ⟨rfl, rfl⟩⟩, mt_226, mt_1, by decide, by decide +kernel, by decide, by decide, by decide, by decide⟩ PC.blind mt_240 mt_225 (As := [.long (lI N), .int (iI (mu i))]) (rest := []) rfl (PC.at ⟨hT, hK⟩ trivial) hl.1 rfl (Nat.le_of_ble_eq_true rfl) dS_priceOfOneKind_24 (krL0 rfl rfl (fun _ h => h) (fun cn hcn => ?_))
        have hc1 := cdiv_bd (show 0 < mu i by omega) hN.1
        rw [← hcn] at hc1
        refine lv_lstore (lv' := [(6, .long (lI cn)), (0, .ref q), (1, .long (lI N)), (3, .long (lI z)), (5, .int (iI (i : Int)))]) hx hb dS_priceOfOneKind_27 hl (by decide) rfl (fun ls hl => ?_)
        refine lv_lload hx hb dS_priceOfOneKind_29 (lv_at hl 0 rfl) ?_
        refine iz_ldc2 hx hb (60) (by decide) hown (hts _ mt_241) dS_priceOfOneKind_31 ?_
        refine iz_lc_gt (tgt := 54) hx hb ⟨by omega, by omega⟩ ⟨by omega, by omega⟩ dS_priceOfOneKind_34 dS_priceOfOneKind_35 (by decide) (fun g2 => ?_) (fun g2 => ?_)
        · refine iz_iinc (k := 4) (lv' := [(5, .int (iI ((i : Int) + 1))), (6, .long (lI cn)), (0, .ref q), (1, .long (lI N)), (3, .long (lI z))]) hx hb dS_priceOfOneKind_54 hl rfl (by decide) rfl (fun ls hl => ?_)
          refine lv_goto (tgt := 7) hx hb dS_priceOfOneKind_57 (by decide) ?_
          exact ih (i + 1) (z) (by omega) (by omega) hz ls (lv_sub hl [2, 3, 4, 0] rfl)
        · have hm := mul_bd hc1.1 g2 (show 0 ≤ pr i by omega) qi.2.2.2
          refine lv_lload_n hx hb dS_priceOfOneKind_38 rfl (lv_at hl 3 rfl) ?_
          refine lv_lload hx hb dS_priceOfOneKind_39 (lv_at hl 0 rfl) ?_
          refine lv_aload_n hx hb dS_priceOfOneKind_41 rfl (lv_at hl 1 rfl) ?_
          refine va_get (D := kD K) (ci := 2) (v := .ref (q + 2)) (C := RS) (T := FS) (N := 10) hx hb hts jnS hown hK hP 0 rfl rfl 2 (by decide) (hts _ mt_55) (fun _ h9 => h9) rfl dS_priceOfOneKind_42 ?_
          refine lv_iload hx hb dS_priceOfOneKind_45 (lv_at hl 4 rfl) ?_
          refine iz_iald hx hb hK hP 2 rfl i rfl (by omega) (by omega) dS_priceOfOneKind_47 ?_
          refine iz_i2l hx hb ⟨by omega, by omega⟩ dS_priceOfOneKind_48 ?_
          refine iz_lmul hx hb dS_priceOfOneKind_49 ?_
          refine iz_minL hx hb hml hl.1 hown hT mt_242 (Nat.le_of_ble_eq_true rfl) (Nat.le_of_ble_eq_true rfl) (Nat.le_of_ble_eq_true rfl) (Nat.le_of_ble_eq_true rfl) ⟨by omega, by omega⟩ ⟨by omega, by omega⟩ dS_priceOfOneKind_50 ?_
          obtain ⟨y, hy⟩ : ∃ y : Int, y = if cn * pr i < z then cn * pr i else z := ⟨_, rfl⟩
          rw [← hy]
          have hyz : py_One mu pr Kn N y ∧ 0 ≤ y ∧ y ≤ 6000001 := by
            rw [hy]
            split
            · exact ⟨Or.inr ⟨i, by omega, by rw [← hcn]; omega, by rw [← hcn]⟩, by omega, by omega⟩
            · exact hz
          refine lv_lstore_n (lv' := [(3, .long (lI y)), (6, .long (lI cn)), (0, .ref q), (1, .long (lI N)), (5, .int (iI (i : Int)))]) hx hb dS_priceOfOneKind_53 rfl hl (by decide) rfl (fun ls hl => ?_)
          refine iz_iinc (k := 4) (lv' := [(5, .int (iI ((i : Int) + 1))), (3, .long (lI y)), (6, .long (lI cn)), (0, .ref q), (1, .long (lI N))]) hx hb dS_priceOfOneKind_54 hl rfl (by decide) rfl (fun ls hl => ?_)
          refine lv_goto (tgt := 7) hx hb dS_priceOfOneKind_57 (by decide) ?_
          exact ih (i + 1) (y) (by omega) (by omega) hyz ls (lv_sub hl [3, 4, 1, 0] rfl)
  refine iz_ldc2 hx hb (6000001) (by decide) hown (hts _ mt_239) dS_priceOfOneKind_0 ?_
  refine lv_lstore_n (lv' := [(3, .long (lI 6000001)), (0, .ref q), (1, .long (lI N))]) hx hb dS_priceOfOneKind_3 rfl hl (by decide) rfl (fun ls hl => ?_)
  refine iz_iconst hx hb dS_priceOfOneKind_4 ?_
  refine lv_istore (lv' := [(5, .int (iI 0)), (3, .long (lI 6000001)), (0, .ref q), (1, .long (lI N))]) hx hb dS_priceOfOneKind_5 hl (by decide) rfl (fun ls hl => ?_)
  exact loop (Kn + 1) 0 6000001 (by omega) (by omega) ⟨Or.inl rfl, by omega, by omega⟩ ls (lv_sub hl [2, 3, 1, 0] rfl)
abbrev rmS_search : Room := { frames := 10, cells := 0, slots := 0, locals := 400 }
set_option maxHeartbeats 4000000 in
set_option maxRecDepth 100000 in
/-- Shelf.search(need) -/
theorem c_S_search (l : Launch) (K : KG) (q Kn : Nat) (mu pr bg ch tr bn : Nat → Int) (bp bc sf : Int) (N : Int) (hI : ShI Kn mu pr bg ch bn bp bc sf) (hN : 0 ≤ N ∧ N ≤ 100000000000) : Ct l yS_search kS_search rmS_search (PC K [.ref q, .long (lI N)] (fun H => va_P (kD K) vcl (shW K q (Kn : Int) mu pr bg ch tr bn bp bc sf) H)) (QV (fun H => ∃ (tr' bn' : Nat → Int) (bp' bc' : Int), ShI Kn mu pr bg ch bn' bp' bc' N ∧ ShF Kn mu pr N bp' bn' ∧ va_P (kD K) vcl (shW K q (Kn : Int) mu pr bg ch tr' bn' bp' bc' N) H)) (fun x => q ≤ x ∧ x < q + 7) := by
  refine ct_of (by decide) (Or.inl ⟨rfl, rfl⟩) ?_
  intro p e s m args below meth c B0 hP0
  obtain ⟨hx, hb, hr, hml, hown, hlocks, hnm, htab⟩ := B0
  obtain ⟨ha, ⟨hT, hK⟩, hB⟩ := hP0
  have hl := lv_entry ([.ref q, .long (lI N)]) (n := 3) (Nat.le_of_ble_eq_true rfl)
  obtain ⟨Q, hQ⟩ : ∃ Q, Q = XQ below (QV (fun H => ∃ (tr' bn' : Nat → Int) (bp' bc' : Int), ShI Kn mu pr bg ch bn' bp' bc' N ∧ ShF Kn mu pr N bp' bn' ∧ va_P (kD K) vcl (shW K q (Kn : Int) mu pr bg ch tr' bn' bp' bc' N) H)) args s rmS_search.cells rmS_search.slots (fun x => q ≤ x ∧ x < q + 7) := ⟨_, rfl⟩
  rw [← hQ, ha, lg_entry_eq]
  rw [ha] at hQ
  generalize (lg_sl ([.ref q, .long (lI N)]) ++ List.replicate (3 - (lg_sl ([.ref q, .long (lI N)])).length) Slot.unset).toArray = ls at hl ⊢
  generalize ([.ref q, .long (lI N)] : List Value).toArray = args at hQ ⊢
  have hts : ∀ w ∈ TW, w.before args s = true := fun w h => hT w h args
  have hl : lv_has ls 3 [(0, .ref q), (1, .long (lI N))] := hl
  obtain ⟨A, hAe⟩ : ∃ A : Addr → Prop, A = (fun x => q ≤ x ∧ x < q + 7) := ⟨_, rfl⟩
  rw [← hAe] at hQ
  have hS : va_S A s.heap s.heap [] := va_S.rf
  have hP : va_P (kD K) vcl [(q, .inr (2, [.int (iI (Kn : Int)), .ref (q + 1), .ref (q + 2), .ref (q + 3), .ref (q + 4), .ref (q + 5), .ref (q + 6), .int (iI bp), .int (iI bc), .long (lI sf)])), (q + 1, .inl (kI K, 4, .inl (iA mu))), (q + 2, .inl (kI K, 4, .inl (iA pr))), (q + 3, .inl (kI K, 4, .inl (iA bg))), (q + 4, .inl (kI K, 4, .inl (iA ch))), (q + 5, .inl (kI K, 4, .inl (iA tr))), (q + 6, .inl (kI K, 4, .inl (iA bn)))] s.heap := hB
  have hD : va_D A [(q, .inr (2, [.int (iI (Kn : Int)), .ref (q + 1), .ref (q + 2), .ref (q + 3), .ref (q + 4), .ref (q + 5), .ref (q + 6), .int (iI bp), .int (iI bc), .long (lI sf)])), (q + 1, .inl (kI K, 4, .inl (iA mu))), (q + 2, .inl (kI K, 4, .inl (iA pr))), (q + 3, .inl (kI K, 4, .inl (iA bg))), (q + 4, .inl (kI K, 4, .inl (iA ch))), (q + 5, .inl (kI K, 4, .inl (iA tr))), (q + 6, .inl (kI K, 4, .inl (iA bn)))] := by rw [hAe]; exact va_D_of (by simp) (by simp <;> omega)
  obtain ⟨hok, hb1, hb2, hsf⟩ := id hI
  refine lv_lload_n hx hb dS_search_0 rfl (lv_at hl 1 rfl) ?_
  refine lv_aload_n hx hb dS_search_1 rfl (lv_at hl 0 rfl) ?_
  refine va_get (D := kD K) (ci := 2) (v := .long (lI sf)) (C := RS) (T := FS) (N := 10) hx hb hts jnS hown hK hP 0 rfl rfl 9 (by decide) (hts _ mt_62) (fun _ h9 => h9) rfl dS_search_2 ?_
  refine iz_lc_ne (tgt := 10) hx hb ⟨by omega, by omega⟩ (by rcases hsf with h | h <;> exact ⟨by omega, by omega⟩) dS_search_5 dS_search_6 (by decide) (fun g1 => ?_) (fun g1 => ?_)
  · refine lv_aload_n hx hb dS_search_10 rfl (lv_at hl 0 rfl) ?_
    refine lv_lload_n hx hb dS_search_11 rfl (lv_at hl 1 rfl) ?_
    refine va_put (D := kD K) (ci := 2) (v := .long (lI N)) (ty := .long) (C := RS) (T := FS) (N := 10) hx hb hts jnS tS tS_ok nS hown hK hP hD hS 0 rfl rfl 9 (by decide) (hts _ mt_62) (fun _ h9 => h9) rfl (by decide +kernel) rfl rfl (Nat.le_of_ble_eq_true rfl) dS_search_12 ?_
    clear hP hD hS
    intro H locs hP hD hS
    replace hP : va_P (kD K) vcl [(q, .inr (2, [.int (iI (Kn : Int)), .ref (q + 1), .ref (q + 2), .ref (q + 3), .ref (q + 4), .ref (q + 5), .ref (q + 6), .int (iI bp), .int (iI bc), .long (lI N)])), (q + 1, .inl (kI K, 4, .inl (iA mu))), (q + 2, .inl (kI K, 4, .inl (iA pr))), (q + 3, .inl (kI K, 4, .inl (iA bg))), (q + 4, .inl (kI K, 4, .inl (iA ch))), (q + 5, .inl (kI K, 4, .inl (iA tr))), (q + 6, .inl (kI K, 4, .inl (iA bn)))] H := hP
    replace hD : va_D A [(q, .inr (2, [.int (iI (Kn : Int)), .ref (q + 1), .ref (q + 2), .ref (q + 3), .ref (q + 4), .ref (q + 5), .ref (q + 6), .int (iI bp), .int (iI bc), .long (lI N)])), (q + 1, .inl (kI K, 4, .inl (iA mu))), (q + 2, .inl (kI K, 4, .inl (iA pr))), (q + 3, .inl (kI K, 4, .inl (iA bg))), (q + 4, .inl (kI K, 4, .inl (iA ch))), (q + 5, .inl (kI K, 4, .inl (iA tr))), (q + 6, .inl (kI K, 4, .inl (iA bn)))] := hD
    refine lv_aload_n hx hb dS_search_15 rfl (lv_at hl 0 rfl) ?_
    refine lv_aload_n hx hb dS_search_16 rfl (lv_at hl 0 rfl) ?_
    refine lv_lload_n hx hb dS_search_17 rfl (lv_at hl 1 rfl) ?_
    refine ctV (n := 1) hx hb hml hown hT ⟨c_S_one l K q Kn mu pr bg ch tr bn bp bc N N hok hN, ⟨_, _, _, Or.inl ⟨rfl, rfl⟩⟩, mt_238, mt_3, by decide, by decide +kernel, by decide, by decide, by decide, by decide⟩ PC.blind mt_235 mt_237 ms_3 (va_RVof (ci := 2) (q0 := 0) hK hP rfl rfl) (As := [.long (lI N)]) (rest := [.ref q]) rfl (PC.at ⟨hT, hK⟩ hP) hl.1 rfl (Nat.le_of_ble_eq_true rfl) dS_search_18 (krI0 rfl rfl (fun _ h => h) (fun r hr9 => ?_))
    refine va_put (D := kD K) (ci := 2) (v := .int (iI r)) (ty := .int) (C := RS) (T := FS) (N := 10) hx hb hts jnS tS tS_ok nS hown hK hP hD hS 0 rfl rfl 7 (by decide) (hts _ mt_60) (fun _ h9 => h9) rfl (by decide +kernel) rfl rfl (Nat.le_of_ble_eq_true rfl) dS_search_21 ?_
    clear hP hD hS
    intro H locs hP hD hS
    replace hP : va_P (kD K) vcl [(q, .inr (2, [.int (iI (Kn : Int)), .ref (q + 1), .ref (q + 2), .ref (q + 3), .ref (q + 4), .ref (q + 5), .ref (q + 6), .int (iI r), .int (iI bc), .long (lI N)])), (q + 1, .inl (kI K, 4, .inl (iA mu))), (q + 2, .inl (kI K, 4, .inl (iA pr))), (q + 3, .inl (kI K, 4, .inl (iA bg))), (q + 4, .inl (kI K, 4, .inl (iA ch))), (q + 5, .inl (kI K, 4, .inl (iA tr))), (q + 6, .inl (kI K, 4, .inl (iA bn)))] H := hP
    replace hD : va_D A [(q, .inr (2, [.int (iI (Kn : Int)), .ref (q + 1), .ref (q + 2), .ref (q + 3), .ref (q + 4), .ref (q + 5), .ref (q + 6), .int (iI r), .int (iI bc), .long (lI N)])), (q + 1, .inl (kI K, 4, .inl (iA mu))), (q + 2, .inl (kI K, 4, .inl (iA pr))), (q + 3, .inl (kI K, 4, .inl (iA bg))), (q + 4, .inl (kI K, 4, .inl (iA ch))), (q + 5, .inl (kI K, 4, .inl (iA tr))), (q + 6, .inl (kI K, 4, .inl (iA bn)))] := hD
    refine lv_aload_n hx hb dS_search_24 rfl (lv_at hl 0 rfl) ?_
    refine iz_bipush hx hb dS_search_25 (by decide) ?_
    refine va_put (D := kD K) (ci := 2) (v := .int (iI 61)) (ty := .int) (C := RS) (T := FS) (N := 10) hx hb hts jnS tS tS_ok nS hown hK hP hD hS 0 rfl rfl 8 (by decide) (hts _ mt_61) (fun _ h9 => h9) rfl (by decide +kernel) rfl rfl (Nat.le_of_ble_eq_true rfl) dS_search_27 ?_
    clear hP hD hS
    intro H locs hP hD hS
    replace hP : va_P (kD K) vcl [(q, .inr (2, [.int (iI (Kn : Int)), .ref (q + 1), .ref (q + 2), .ref (q + 3), .ref (q + 4), .ref (q + 5), .ref (q + 6), .int (iI r), .int (iI 61), .long (lI N)])), (q + 1, .inl (kI K, 4, .inl (iA mu))), (q + 2, .inl (kI K, 4, .inl (iA pr))), (q + 3, .inl (kI K, 4, .inl (iA bg))), (q + 4, .inl (kI K, 4, .inl (iA ch))), (q + 5, .inl (kI K, 4, .inl (iA tr))), (q + 6, .inl (kI K, 4, .inl (iA bn)))] H := hP
    replace hD : va_D A [(q, .inr (2, [.int (iI (Kn : Int)), .ref (q + 1), .ref (q + 2), .ref (q + 3), .ref (q + 4), .ref (q + 5), .ref (q + 6), .int (iI r), .int (iI 61), .long (lI N)])), (q + 1, .inl (kI K, 4, .inl (iA mu))), (q + 2, .inl (kI K, 4, .inl (iA pr))), (q + 3, .inl (kI K, 4, .inl (iA bg))), (q + 4, .inl (kI K, 4, .inl (iA ch))), (q + 5, .inl (kI K, 4, .inl (iA tr))), (q + 6, .inl (kI K, 4, .inl (iA bn)))] := hD
    refine lv_aload_n hx hb dS_search_30 rfl (lv_at hl 0 rfl) ?_
    refine va_get (D := kD K) (ci := 2) (v := .ref (q + 5)) (C := RS) (T := FS) (N := 10) hx hb hts jnS hown hK hP 0 rfl rfl 5 (by decide) (hts _ mt_58) (fun _ h9 => h9) rfl dS_search_31 ?_
    refine iz_iconst hx hb dS_search_34 ?_
    refine ctS (n := 2) hx hb hml hown hT ⟨c_Y_fill l K (q + 5) 4 tr 0 (by omega), ⟨_, _, _, Or.inl ⟨rfl, rfl⟩⟩, mt_247, mt_12, by decide, by decide +kernel, by decide, by decide, by decide, by decide⟩ PC.blind mt_245 mt_246 (As := [.ref (q + 5), .int (iI 0)]) (rest := []) rfl (PC.at ⟨hT, hK⟩ (hP.sub (ws' := [(q + 5, .inl (kI K, 4, .inl (iA tr)))]) [5] rfl)) hl.1 rfl (Nat.le_of_ble_eq_true rfl) dS_search_35 (krV (c1 := 0) (s1 := 0) rfl rfl (fun t1 H1 L hA hL hpo => ?_))
    have hP5 := va_P_arr (k := 0) hpo rfl (g := fun _ => 0) (fun j hj => by simp [flz, hj])
    have hPr := hA.P (hP.sub (ws' := [(q, .inr (2, [.int (iI (Kn : Int)), .ref (q + 1), .ref (q + 2), .ref (q + 3), .ref (q + 4), .ref (q + 5), .ref (q + 6), .int (iI r), .int (iI 61), .long (lI N)])), (q + 1, .inl (kI K, 4, .inl (iA mu))), (q + 2, .inl (kI K, 4, .inl (iA pr))), (q + 3, .inl (kI K, 4, .inl (iA bg))), (q + 4, .inl (kI K, 4, .inl (iA ch))), (q + 6, .inl (kI K, 4, .inl (iA bn)))]) [0, 1, 2, 3, 4, 6] rfl) (fun k x hk => by
      have hx9 := List.mem_of_getElem? hk
      simp at hx9
      rcases hx9 with rfl | rfl | rfl | rfl | rfl | rfl <;> (show ¬ (_ = q + 5)) <;> omega)
    have hP : va_P (kD K) vcl [(q, .inr (2, [.int (iI (Kn : Int)), .ref (q + 1), .ref (q + 2), .ref (q + 3), .ref (q + 4), .ref (q + 5), .ref (q + 6), .int (iI r), .int (iI 61), .long (lI N)])), (q + 1, .inl (kI K, 4, .inl (iA mu))), (q + 2, .inl (kI K, 4, .inl (iA pr))), (q + 3, .inl (kI K, 4, .inl (iA bg))), (q + 4, .inl (kI K, 4, .inl (iA ch))), (q + 5, .inl (kI K, 4, .inl (iA (fun _ => 0)))), (q + 6, .inl (kI K, 4, .inl (iA bn)))] H1 := by
      have h9 := hPr.app hP5
      exact h9.sub [0, 1, 2, 3, 4, 6, 5] rfl
    have hS := hA.S hS (fun x hx => by rw [hAe]; have hx : x = q + 5 := hx; subst hx; exact ⟨Nat.le_add_right _ _, Nat.add_lt_add_left (by decide) _⟩) hL
    have hD : va_D A [(q, .inr (2, [.int (iI (Kn : Int)), .ref (q + 1), .ref (q + 2), .ref (q + 3), .ref (q + 4), .ref (q + 5), .ref (q + 6), .int (iI r), .int (iI 61), .long (lI N)])), (q + 1, .inl (kI K, 4, .inl (iA mu))), (q + 2, .inl (kI K, 4, .inl (iA pr))), (q + 3, .inl (kI K, 4, .inl (iA bg))), (q + 4, .inl (kI K, 4, .inl (iA ch))), (q + 5, .inl (kI K, 4, .inl (iA (fun _ => 0)))), (q + 6, .inl (kI K, 4, .inl (iA bn)))] := by rw [hAe]; exact va_D_of (by simp) (by simp <;> omega)
    refine lv_aload_n hx hb dS_search_38 rfl (lv_at hl 0 rfl) ?_
    refine iz_iconst hx hb dS_search_39 ?_
    refine lv_lload_n hx hb dS_search_40 rfl (lv_at hl 1 rfl) ?_
    refine iz_iconst hx hb dS_search_41 ?_
    refine iz_iconst hx hb dS_search_42 ?_
    refine ctV (n := 4) hx hb hml hown hT ⟨c_S_tryKind l K q Kn mu pr bg ch N hok Kn 0 (by omega) (fun _ => 0) bn r 61 N 0 0 (fun i _ => rfl) ⟨by omega, by omega⟩ ⟨by omega, by omega⟩ ⟨by omega, by omega⟩ ⟨by omega, by omega⟩ ⟨by omega, by omega⟩, ⟨_, _, _, Or.inl ⟨rfl, rfl⟩⟩, mt_251, mt_3, by decide, by decide +kernel, by show 3 + Kn + 1 ≤ 10; have := hok.1; omega, by show 8 + (11 + 11) + (100 + 40 * Kn) ≤ 400; have := hok.1; omega, Nat.le_of_ble_eq_true rfl, Nat.le_of_ble_eq_true rfl⟩ PC.blind mt_248 mt_250 ms_4 (va_RVof (ci := 2) (q0 := 0) hK hP rfl rfl) (As := [.int (iI 0), .long (lI N), .int (iI 0), .int (iI 0)]) (rest := []) rfl (PC.at ⟨hT, hK⟩ hP) hl.1 rfl (Nat.le_of_ble_eq_true rfl) dS_search_43 (krV (c1 := 0) (s1 := 0) rfl rfl (fun t2 H2 L2 hA2 hL2 hpo2 => ?_))
    obtain ⟨bp', bc', bn', hR, hb3, hb4, hP⟩ := hpo2
    have hF : ShF Kn mu pr N bp' bn' := py_end hN.1 hok.1 (fun i hi => (hok.2.1 i hi).1) (fun i hi => (hok.2.1 i hi).2.2) hr9.1 hR
    have hS := hA2.S hS (fun x hx => by rw [hAe]; exact hx) hL2
    rw [hQ]
    exact iz_vret hx hb hr hlocks (⟨fun _ => 0, bn', bp', bc', ⟨hok, hb3, hb4, Or.inr ⟨hN.1, hN.2, hF⟩⟩, hF, hP⟩) hS.2.2 dS_search_46
  · have e : N = sf := g1
    subst e
    have hF : ShF Kn mu pr N bp bn := by rcases hsf with h | h; exact absurd h (by omega); exact h.2.2
    rw [hQ]
    exact iz_vret hx hb hr hlocks (⟨tr, bn, bp, bc, hI, hF, hP⟩) hS.2.2 dS_search_9
abbrev rmS_countFor : Room := { frames := 11, cells := 0, slots := 0, locals := 500 }
set_option maxHeartbeats 4000000 in
set_option maxRecDepth 100000 in
/-- S_countFor -/
theorem c_S_countFor (l : Launch) (K : KG) (q Kn : Nat) (mu pr bg ch tr bn : Nat → Int) (bp bc sf : Int) (N : Int) (hI : ShI Kn mu pr bg ch bn bp bc sf) (hN : 0 ≤ N ∧ N ≤ 100000000000) (k : Nat) (hk : k < Kn) : Ct l yS_countFor kS_countFor rmS_countFor (PC K [.ref q, .long (lI N), .int (iI (k : Int))] (fun H => va_P (kD K) vcl (shW K q (Kn : Int) mu pr bg ch tr bn bp bc sf) H)) (QI (fun r H => ((r = -1 ∧ ∀ n, ¬ py_F mu 0 Kn N 0 n) ∨ ∃ n, py_Best mu pr Kn N n ∧ r = n k) ∧ ∃ (tr' bn' : Nat → Int) (bp' bc' : Int), ShI Kn mu pr bg ch bn' bp' bc' N ∧ va_P (kD K) vcl (shW K q (Kn : Int) mu pr bg ch tr' bn' bp' bc' N) H)) (fun x => q ≤ x ∧ x < q + 7) := by
  refine ct_of (by decide) (Or.inl ⟨rfl, rfl⟩) ?_
  intro p e s m args below meth c B0 hP0
  obtain ⟨hx, hb, hr, hml, hown, hlocks, hnm, htab⟩ := B0
  obtain ⟨ha, ⟨hT, hK⟩, hB⟩ := hP0
  have hl := lv_entry ([.ref q, .long (lI N), .int (iI (k : Int))]) (n := 4) (Nat.le_of_ble_eq_true rfl)
  obtain ⟨Q, hQ⟩ : ∃ Q, Q = XQ below (QI (fun r H => ((r = -1 ∧ ∀ n, ¬ py_F mu 0 Kn N 0 n) ∨ ∃ n, py_Best mu pr Kn N n ∧ r = n k) ∧ ∃ (tr' bn' : Nat → Int) (bp' bc' : Int), ShI Kn mu pr bg ch bn' bp' bc' N ∧ va_P (kD K) vcl (shW K q (Kn : Int) mu pr bg ch tr' bn' bp' bc' N) H)) args s rmS_countFor.cells rmS_countFor.slots (fun x => q ≤ x ∧ x < q + 7) := ⟨_, rfl⟩
  rw [← hQ, ha, lg_entry_eq]
  rw [ha] at hQ
  generalize (lg_sl ([.ref q, .long (lI N), .int (iI (k : Int))]) ++ List.replicate (4 - (lg_sl ([.ref q, .long (lI N), .int (iI (k : Int))])).length) Slot.unset).toArray = ls at hl ⊢
  generalize ([.ref q, .long (lI N), .int (iI (k : Int))] : List Value).toArray = args at hQ ⊢
  have hts : ∀ w ∈ TW, w.before args s = true := fun w h => hT w h args
  have hl : lv_has ls 4 [(0, .ref q), (1, .long (lI N)), (3, .int (iI (k : Int)))] := hl
  obtain ⟨A, hAe⟩ : ∃ A : Addr → Prop, A = (fun x => q ≤ x ∧ x < q + 7) := ⟨_, rfl⟩
  rw [← hAe] at hQ
  have hS : va_S A s.heap s.heap [] := va_S.rf
  have hP : va_P (kD K) vcl [(q, .inr (2, [.int (iI (Kn : Int)), .ref (q + 1), .ref (q + 2), .ref (q + 3), .ref (q + 4), .ref (q + 5), .ref (q + 6), .int (iI bp), .int (iI bc), .long (lI sf)])), (q + 1, .inl (kI K, 4, .inl (iA mu))), (q + 2, .inl (kI K, 4, .inl (iA pr))), (q + 3, .inl (kI K, 4, .inl (iA bg))), (q + 4, .inl (kI K, 4, .inl (iA ch))), (q + 5, .inl (kI K, 4, .inl (iA tr))), (q + 6, .inl (kI K, 4, .inl (iA bn)))] s.heap := hB
  have hK4 := hI.1.1
  refine lv_aload_n hx hb dS_countFor_0 rfl (lv_at hl 0 rfl) ?_
  refine lv_lload_n hx hb dS_countFor_1 rfl (lv_at hl 1 rfl) ?_
  refine ctV (n := 1) hx hb hml hown hT ⟨c_S_search l K q Kn mu pr bg ch tr bn bp bc sf N hI hN, ⟨_, _, _, Or.inl ⟨rfl, rfl⟩⟩, mt_234, mt_3, by decide, by decide +kernel, by decide, by decide, by decide, by decide⟩ PC.blind mt_231 mt_233 ms_2 (va_RVof (ci := 2) (q0 := 0) hK hP rfl rfl) (As := [.long (lI N)]) (rest := []) rfl (PC.at ⟨hT, hK⟩ hP) hl.1 rfl (Nat.le_of_ble_eq_true rfl) dS_countFor_2 (krV (c1 := 0) (s1 := 0) rfl rfl (fun t1 H L hA hL hpo => ?_))
  obtain ⟨tr', bn', bp', bc', hI', hF, hP⟩ := hpo
  have hb1 := hI'.2.1
  have hP : va_P (kD K) vcl [(q, .inr (2, [.int (iI (Kn : Int)), .ref (q + 1), .ref (q + 2), .ref (q + 3), .ref (q + 4), .ref (q + 5), .ref (q + 6), .int (iI bp'), .int (iI bc'), .long (lI N)])), (q + 1, .inl (kI K, 4, .inl (iA mu))), (q + 2, .inl (kI K, 4, .inl (iA pr))), (q + 3, .inl (kI K, 4, .inl (iA bg))), (q + 4, .inl (kI K, 4, .inl (iA ch))), (q + 5, .inl (kI K, 4, .inl (iA tr'))), (q + 6, .inl (kI K, 4, .inl (iA bn')))] H := hP
  refine lv_aload_n hx hb dS_countFor_5 rfl (lv_at hl 0 rfl) ?_
  refine va_get (D := kD K) (ci := 2) (v := .int (iI bp')) (C := RS) (T := FS) (N := 10) hx hb hts jnS hown hK hP 0 rfl rfl 7 (by decide) (hts _ mt_60) (fun _ h9 => h9) rfl dS_countFor_6 ?_
  refine iz_ldc hx hb (6000001) (by decide) hown (hts _ mt_267) dS_countFor_9 ?_
  refine iz_icmp_ne (tgt := 18) hx hb ⟨by omega, by omega⟩ ⟨by omega, by omega⟩ dS_countFor_11 (by decide) (fun g1 => ?_) (fun g1 => ?_)
  · refine lv_aload_n hx hb dS_countFor_18 rfl (lv_at hl 0 rfl) ?_
    refine va_get (D := kD K) (ci := 2) (v := .ref (q + 6)) (C := RS) (T := FS) (N := 10) hx hb hts jnS hown hK hP 0 rfl rfl 6 (by decide) (hts _ mt_59) (fun _ h9 => h9) rfl dS_countFor_19 ?_
    refine lv_iload_n hx hb dS_countFor_22 rfl (lv_at hl 2 rfl) ?_
    refine iz_iald hx hb hK hP 6 rfl k rfl (by omega) (by omega) dS_countFor_23 ?_
    rw [hQ]
    exact iz_iret hx hb hr hlocks (⟨Or.inr (by rcases hF with ⟨h1, -⟩ | ⟨n, h1, h2, h3, h4⟩; exact absurd h1 g1; exact ⟨n, h1, h4 k hk⟩), tr', bn', bp', bc', hI', hP⟩) (fun x hx => by rw [hAe]; exact hL x (by simpa using hx)) dS_countFor_24
  · refine iz_iconst hx hb dS_countFor_14 ?_
    refine lv_goto (tgt := 24) hx hb dS_countFor_15 (by decide) ?_
    rw [hQ]
    exact iz_iret hx hb hr hlocks (⟨Or.inl ⟨rfl, by rcases hF with ⟨-, h2⟩ | ⟨n, h1, h2, h3, h4⟩; exact h2; exact absurd g1 (by omega)⟩, tr', bn', bp', bc', hI', hP⟩) (fun x hx => by rw [hAe]; exact hL x (by simpa using hx)) dS_countFor_24
abbrev rmS_priceFor : Room := { frames := 11, cells := 0, slots := 0, locals := 500 }
set_option maxHeartbeats 4000000 in
set_option maxRecDepth 100000 in
/-- S_priceFor -/
theorem c_S_priceFor (l : Launch) (K : KG) (q Kn : Nat) (mu pr bg ch tr bn : Nat → Int) (bp bc sf : Int) (N : Int) (hI : ShI Kn mu pr bg ch bn bp bc sf) (hN : 0 ≤ N ∧ N ≤ 100000000000) : Ct l yS_priceFor kS_priceFor rmS_priceFor (PC K [.ref q, .long (lI N)] (fun H => va_P (kD K) vcl (shW K q (Kn : Int) mu pr bg ch tr bn bp bc sf) H)) (QI (fun r H => ((r = -1 ∧ ∀ n, ¬ py_F mu 0 Kn N 0 n) ∨ ∃ n, py_Best mu pr Kn N n ∧ r = py_co pr n 0 Kn) ∧ ∃ (tr' bn' : Nat → Int) (bp' bc' : Int), ShI Kn mu pr bg ch bn' bp' bc' N ∧ va_P (kD K) vcl (shW K q (Kn : Int) mu pr bg ch tr' bn' bp' bc' N) H)) (fun x => q ≤ x ∧ x < q + 7) := by
  refine ct_of (by decide) (Or.inl ⟨rfl, rfl⟩) ?_
  intro p e s m args below meth c B0 hP0
  obtain ⟨hx, hb, hr, hml, hown, hlocks, hnm, htab⟩ := B0
  obtain ⟨ha, ⟨hT, hK⟩, hB⟩ := hP0
  have hl := lv_entry ([.ref q, .long (lI N)]) (n := 3) (Nat.le_of_ble_eq_true rfl)
  obtain ⟨Q, hQ⟩ : ∃ Q, Q = XQ below (QI (fun r H => ((r = -1 ∧ ∀ n, ¬ py_F mu 0 Kn N 0 n) ∨ ∃ n, py_Best mu pr Kn N n ∧ r = py_co pr n 0 Kn) ∧ ∃ (tr' bn' : Nat → Int) (bp' bc' : Int), ShI Kn mu pr bg ch bn' bp' bc' N ∧ va_P (kD K) vcl (shW K q (Kn : Int) mu pr bg ch tr' bn' bp' bc' N) H)) args s rmS_priceFor.cells rmS_priceFor.slots (fun x => q ≤ x ∧ x < q + 7) := ⟨_, rfl⟩
  rw [← hQ, ha, lg_entry_eq]
  rw [ha] at hQ
  generalize (lg_sl ([.ref q, .long (lI N)]) ++ List.replicate (3 - (lg_sl ([.ref q, .long (lI N)])).length) Slot.unset).toArray = ls at hl ⊢
  generalize ([.ref q, .long (lI N)] : List Value).toArray = args at hQ ⊢
  have hts : ∀ w ∈ TW, w.before args s = true := fun w h => hT w h args
  have hl : lv_has ls 3 [(0, .ref q), (1, .long (lI N))] := hl
  obtain ⟨A, hAe⟩ : ∃ A : Addr → Prop, A = (fun x => q ≤ x ∧ x < q + 7) := ⟨_, rfl⟩
  rw [← hAe] at hQ
  have hS : va_S A s.heap s.heap [] := va_S.rf
  have hP : va_P (kD K) vcl [(q, .inr (2, [.int (iI (Kn : Int)), .ref (q + 1), .ref (q + 2), .ref (q + 3), .ref (q + 4), .ref (q + 5), .ref (q + 6), .int (iI bp), .int (iI bc), .long (lI sf)])), (q + 1, .inl (kI K, 4, .inl (iA mu))), (q + 2, .inl (kI K, 4, .inl (iA pr))), (q + 3, .inl (kI K, 4, .inl (iA bg))), (q + 4, .inl (kI K, 4, .inl (iA ch))), (q + 5, .inl (kI K, 4, .inl (iA tr))), (q + 6, .inl (kI K, 4, .inl (iA bn)))] s.heap := hB
  have hK4 := hI.1.1
  refine lv_aload_n hx hb dS_priceFor_0 rfl (lv_at hl 0 rfl) ?_
  refine lv_lload_n hx hb dS_priceFor_1 rfl (lv_at hl 1 rfl) ?_
  refine ctV (n := 1) hx hb hml hown hT ⟨c_S_search l K q Kn mu pr bg ch tr bn bp bc sf N hI hN, ⟨_, _, _, Or.inl ⟨rfl, rfl⟩⟩, mt_234, mt_3, by decide, by decide +kernel, by decide, by decide, by decide, by decide⟩ PC.blind mt_231 mt_233 ms_2 (va_RVof (ci := 2) (q0 := 0) hK hP rfl rfl) (As := [.long (lI N)]) (rest := []) rfl (PC.at ⟨hT, hK⟩ hP) hl.1 rfl (Nat.le_of_ble_eq_true rfl) dS_priceFor_2 (krV (c1 := 0) (s1 := 0) rfl rfl (fun t1 H L hA hL hpo => ?_))
  obtain ⟨tr', bn', bp', bc', hI', hF, hP⟩ := hpo
  have hb1 := hI'.2.1
  have hP : va_P (kD K) vcl [(q, .inr (2, [.int (iI (Kn : Int)), .ref (q + 1), .ref (q + 2), .ref (q + 3), .ref (q + 4), .ref (q + 5), .ref (q + 6), .int (iI bp'), .int (iI bc'), .long (lI N)])), (q + 1, .inl (kI K, 4, .inl (iA mu))), (q + 2, .inl (kI K, 4, .inl (iA pr))), (q + 3, .inl (kI K, 4, .inl (iA bg))), (q + 4, .inl (kI K, 4, .inl (iA ch))), (q + 5, .inl (kI K, 4, .inl (iA tr'))), (q + 6, .inl (kI K, 4, .inl (iA bn')))] H := hP
  refine lv_aload_n hx hb dS_priceFor_5 rfl (lv_at hl 0 rfl) ?_
  refine va_get (D := kD K) (ci := 2) (v := .int (iI bp')) (C := RS) (T := FS) (N := 10) hx hb hts jnS hown hK hP 0 rfl rfl 7 (by decide) (hts _ mt_60) (fun _ h9 => h9) rfl dS_priceFor_6 ?_
  refine iz_ldc hx hb (6000001) (by decide) hown (hts _ mt_267) dS_priceFor_9 ?_
  refine iz_icmp_ne (tgt := 18) hx hb ⟨by omega, by omega⟩ ⟨by omega, by omega⟩ dS_priceFor_11 (by decide) (fun g1 => ?_) (fun g1 => ?_)
  · refine lv_aload_n hx hb dS_priceFor_18 rfl (lv_at hl 0 rfl) ?_
    refine va_get (D := kD K) (ci := 2) (v := .int (iI bp')) (C := RS) (T := FS) (N := 10) hx hb hts jnS hown hK hP 0 rfl rfl 7 (by decide) (hts _ mt_60) (fun _ h9 => h9) rfl dS_priceFor_19 ?_
    rw [hQ]
    exact iz_iret hx hb hr hlocks (⟨Or.inr (by rcases hF with ⟨h1, -⟩ | ⟨n, h1, h2, h3, h4⟩; exact absurd h1 g1; exact ⟨n, h1, h2⟩), tr', bn', bp', bc', hI', hP⟩) (fun x hx => by rw [hAe]; exact hL x (by simpa using hx)) dS_priceFor_22
  · refine iz_iconst hx hb dS_priceFor_14 ?_
    refine lv_goto (tgt := 22) hx hb dS_priceFor_15 (by decide) ?_
    rw [hQ]
    exact iz_iret hx hb hr hlocks (⟨Or.inl ⟨rfl, by rcases hF with ⟨-, h2⟩ | ⟨n, h1, h2, h3, h4⟩; exact h2; exact absurd g1 (by omega)⟩, tr', bn', bp', bc', hI', hP⟩) (fun x hx => by rw [hAe]; exact hL x (by simpa using hx)) dS_priceFor_22
