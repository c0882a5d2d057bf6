-- class Shelf: its kinds, its making
/-- the ranks from j on -/
def ShR (Kn j : Nat) (mu pr bg ch : Nat → Int) : Prop := ∀ k, j ≤ k → k < Kn → ∃ b c : Nat, bg k = b ∧ ch k = c ∧ b < Kn ∧ c < Kn ∧ (∀ i, k ≤ i → i < Kn → mu i ≤ mu b) ∧ ∀ i, k ≤ i → i < Kn → pr c * mu i ≤ pr i * mu c
theorem ShR_s {Kn j b d : Nat} {mu pr bg ch : Nat → Int} (h : ShR Kn (j + 1) mu pr bg ch) (hb : b < Kn) (hd : d < Kn) (hbm : ∀ i, j ≤ i → i < Kn → mu i ≤ mu b) (hdm : ∀ i, j ≤ i → i < Kn → pr d * mu i ≤ pr i * mu d) : ShR Kn j mu pr (ut bg j b) (ut ch j d) := by
  intro k h1 h2
  by_cases e : k = j
  · subst e
    exact ⟨b, d, ut_s _ _ _, ut_s _ _ _, hb, hd, hbm, hdm⟩
  · rw [ut_n _ _ e, ut_n _ _ e]
    exact h k (by omega) h2
abbrev rmS_rankFromBehind : Room := { frames := 0, cells := 0, slots := 0, locals := 0 }
set_option maxHeartbeats 4000000 in
set_option maxRecDepth 100000 in
/-- Shelf.rankFromBehind() -/
theorem c_S_rank (l : Launch) (K : KG) (q Kn : Nat) (mu pr bg ch tr bn : Nat → Int) (bp bc sf : Int) (hK4 : Kn ≤ 4) (hK1 : 1 ≤ Kn) (hbd : ∀ i, i < Kn → 1 ≤ mu i ∧ mu i ≤ 1000000000 ∧ 1 ≤ pr i ∧ pr i ≤ 100000) : Ct l yS_rankFromBehind kS_rankFromBehind rmS_rankFromBehind (PC K [.ref q] (fun H => va_P (kD K) vcl (shW K q (Kn : Int) mu pr bg ch tr bn bp bc sf) H)) (QV (fun H => ∃ (bg' ch' : Nat → Int), ShR Kn 0 mu pr bg' ch' ∧ va_P (kD K) vcl (shW K q (Kn : Int) mu pr bg' ch' tr bn bp bc sf) H)) (fun x => q ≤ x ∧ x < q + 7) := by
  refine ct_of (by decide) (Or.inl ⟨rfl, rfl⟩) ?_
  intro p e s m args below meth c B0 hP0
  obtain ⟨hx, hb, hr, hml, hown, hlocks, hnm, htab⟩ := B0
  obtain ⟨ha, ⟨hT, hK⟩, hB⟩ := hP0
  have hl := lv_entry ([.ref q]) (n := 4) (Nat.le_of_ble_eq_true rfl)
  obtain ⟨Q, hQ⟩ : ∃ Q, Q = XQ below (QV (fun H => ∃ (bg' ch' : Nat → Int), ShR Kn 0 mu pr bg' ch' ∧ va_P (kD K) vcl (shW K q (Kn : Int) mu pr bg' ch' tr bn bp bc sf) H)) args s rmS_rankFromBehind.cells rmS_rankFromBehind.slots (fun x => q ≤ x ∧ x < q + 7) := ⟨_, rfl⟩
  rw [← hQ, ha, lg_entry_eq]
  rw [ha] at hQ
  generalize (lg_sl ([.ref q]) ++ List.replicate (4 - (lg_sl ([.ref q])).length) Slot.unset).toArray = ls at hl ⊢
  generalize ([.ref q] : List Value).toArray = args at hQ ⊢
  have hts : ∀ w ∈ TW, w.before args s = true := fun w h => hT w h args
  have hl : lv_has ls 4 [(0, .ref q)] := hl
  obtain ⟨A, hAe⟩ : ∃ A : Addr → Prop, A = (fun x => q ≤ x ∧ x < q + 7) := ⟨_, rfl⟩
  rw [← hAe] at hQ
  have hS : va_S A s.heap s.heap [] := va_S.rf
  have hP : va_P (kD K) vcl [(q, .inr (2, [.int (iI (Kn : Int)), .ref (q + 1), .ref (q + 2), .ref (q + 3), .ref (q + 4), .ref (q + 5), .ref (q + 6), .int (iI bp), .int (iI bc), .long (lI sf)])), (q + 1, .inl (kI K, 4, .inl (iA mu))), (q + 2, .inl (kI K, 4, .inl (iA pr))), (q + 3, .inl (kI K, 4, .inl (iA bg))), (q + 4, .inl (kI K, 4, .inl (iA ch))), (q + 5, .inl (kI K, 4, .inl (iA tr))), (q + 6, .inl (kI K, 4, .inl (iA bn)))] s.heap := hB
  have hD : va_D A [(q, .inr (2, [.int (iI (Kn : Int)), .ref (q + 1), .ref (q + 2), .ref (q + 3), .ref (q + 4), .ref (q + 5), .ref (q + 6), .int (iI bp), .int (iI bc), .long (lI sf)])), (q + 1, .inl (kI K, 4, .inl (iA mu))), (q + 2, .inl (kI K, 4, .inl (iA pr))), (q + 3, .inl (kI K, 4, .inl (iA bg))), (q + 4, .inl (kI K, 4, .inl (iA ch))), (q + 5, .inl (kI K, 4, .inl (iA tr))), (q + 6, .inl (kI K, 4, .inl (iA bn)))] := by rw [hAe]; exact va_D_of (by simp) (by simp <;> omega)
  have loop : ∀ (j b d : Nat) (bg1 ch1 : Nat → Int), j ≤ Kn → b < Kn → d < Kn → (∀ i, j ≤ i → i < Kn → mu i ≤ mu b) → (∀ i, j ≤ i → i < Kn → pr d * mu i ≤ pr i * mu d) → ShR Kn j mu pr bg1 ch1 → ∀ (H : Heap) (locs : List Loc), va_P (kD K) vcl [(q, .inr (2, [.int (iI (Kn : Int)), .ref (q + 1), .ref (q + 2), .ref (q + 3), .ref (q + 4), .ref (q + 5), .ref (q + 6), .int (iI bp), .int (iI bc), .long (lI sf)])), (q + 1, .inl (kI K, 4, .inl (iA mu))), (q + 2, .inl (kI K, 4, .inl (iA pr))), (q + 3, .inl (kI K, 4, .inl (iA bg1))), (q + 4, .inl (kI K, 4, .inl (iA ch1))), (q + 5, .inl (kI K, 4, .inl (iA tr))), (q + 6, .inl (kI K, 4, .inl (iA bn)))] H → va_D A [(q, .inr (2, [.int (iI (Kn : Int)), .ref (q + 1), .ref (q + 2), .ref (q + 3), .ref (q + 4), .ref (q + 5), .ref (q + 6), .int (iI bp), .int (iI bc), .long (lI sf)])), (q + 1, .inl (kI K, 4, .inl (iA mu))), (q + 2, .inl (kI K, 4, .inl (iA pr))), (q + 3, .inl (kI K, 4, .inl (iA bg1))), (q + 4, .inl (kI K, 4, .inl (iA ch1))), (q + 5, .inl (kI K, 4, .inl (iA tr))), (q + 6, .inl (kI K, 4, .inl (iA bn)))] → va_S A s.heap H locs → ∀ ls : Array Slot, lv_has ls 4 [(0, .ref q), (1, .int (iI (b : Int))), (2, .int (iI (d : Int))), (3, .int (iI ((j : Int) - 1)))] → W p l e rmS_rankFromBehind s m args below meth c H locs 0 0 Q (F0 m 21 ls []) := by
    intro j
    induction j with
    | zero =>
      intro b d bg1 ch1 hj hbK hdK hbm hdm hR H locs hP hD hS ls hl
      refine lv_iload_n hx hb dS_rankFromBehind_21 rfl (lv_at hl 3 rfl) ?_
      refine iz_if_lt (tgt := 98) hx hb ⟨by omega, by omega⟩ dS_rankFromBehind_22 (by decide) (fun g1 => ?_) (fun g1 => ?_)
      · rw [hQ]
        exact iz_vret hx hb hr hlocks (⟨bg1, ch1, hR, hP⟩) hS.2.2 dS_rankFromBehind_98
      · exact absurd g1 (by omega)
    | succ j ih =>
      intro b d bg1 ch1 hj hbK hdK hbm hdm hR H locs hP hD hS ls hl
      refine lv_iload_n hx hb dS_rankFromBehind_21 rfl (lv_at hl 3 rfl) ?_
      refine iz_if_lt (tgt := 98) hx hb ⟨by omega, by omega⟩ dS_rankFromBehind_22 (by decide) (fun g1 => ?_) (fun g1 => ?_)
      · exact absurd g1 (by omega)
      · have qj := hbd j (by omega)
        have qb := hbd b hbK
        have qd := hbd d hdK
        refine lv_aload_n hx hb dS_rankFromBehind_25 rfl (lv_at hl 0 rfl) ?_
        refine va_get (D := kD K) (ci := 2) (v := .ref (q + 1)) (C := RS) (T := FS) (N := 10) hx hb hts jnS hown hK hP 0 rfl rfl 1 (by decide) (hts _ mt_54) (fun _ h9 => h9) rfl dS_rankFromBehind_26 ?_
        refine lv_iload_n hx hb dS_rankFromBehind_29 rfl (lv_at hl 3 rfl) ?_
        refine iz_iald hx hb hK hP 1 rfl j (by omega) (by omega) (by omega) dS_rankFromBehind_30 ?_
        refine lv_aload_n hx hb dS_rankFromBehind_31 rfl (lv_at hl 0 rfl) ?_
        refine va_get (D := kD K) (ci := 2) (v := .ref (q + 1)) (C := RS) (T := FS) (N := 10) hx hb hts jnS hown hK hP 0 rfl rfl 1 (by decide) (hts _ mt_54) (fun _ h9 => h9) rfl dS_rankFromBehind_32 ?_
        refine lv_iload_n hx hb dS_rankFromBehind_35 rfl (lv_at hl 1 rfl) ?_
        refine iz_iald hx hb hK hP 1 rfl b rfl (by omega) (by omega) dS_rankFromBehind_36 ?_
        refine iz_icmp_le (tgt := 42) hx hb ⟨by omega, by omega⟩ ⟨by omega, by omega⟩ dS_rankFromBehind_37 (by decide) (fun g2 => ?_) (fun g2 => ?_)
        · have hp1 := mul_bd (show 0 ≤ pr j by omega) qj.2.2.2 (show 0 ≤ mu d by omega) qd.2.1
          have hp2 := mul_bd (show 0 ≤ pr d by omega) qd.2.2.2 (show 0 ≤ mu j by omega) qj.2.1
          refine lv_aload_n hx hb dS_rankFromBehind_42 rfl (lv_at hl 0 rfl) ?_
          refine va_get (D := kD K) (ci := 2) (v := .ref (q + 2)) (C := RS) (T := FS) (N := 10) hx hb hts jnS hown hK hP 0 rfl rfl 2 (by decide) (hts _ mt_55) (fun _ h9 => h9) rfl dS_rankFromBehind_43 ?_
          refine lv_iload_n hx hb dS_rankFromBehind_46 rfl (lv_at hl 3 rfl) ?_
          refine iz_iald hx hb hK hP 2 rfl j (by omega) (by omega) (by omega) dS_rankFromBehind_47 ?_
          refine iz_i2l hx hb ⟨by omega, by omega⟩ dS_rankFromBehind_48 ?_
          refine lv_aload_n hx hb dS_rankFromBehind_49 rfl (lv_at hl 0 rfl) ?_
          refine va_get (D := kD K) (ci := 2) (v := .ref (q + 1)) (C := RS) (T := FS) (N := 10) hx hb hts jnS hown hK hP 0 rfl rfl 1 (by decide) (hts _ mt_54) (fun _ h9 => h9) rfl dS_rankFromBehind_50 ?_
          refine lv_iload_n hx hb dS_rankFromBehind_53 rfl (lv_at hl 2 rfl) ?_
          refine iz_iald hx hb hK hP 1 rfl d rfl (by omega) (by omega) dS_rankFromBehind_54 ?_
          refine iz_i2l hx hb ⟨by omega, by omega⟩ dS_rankFromBehind_55 ?_
          refine iz_lmul hx hb dS_rankFromBehind_56 ?_
          refine lv_aload_n hx hb dS_rankFromBehind_57 rfl (lv_at hl 0 rfl) ?_
          refine va_get (D := kD K) (ci := 2) (v := .ref (q + 2)) (C := RS) (T := FS) (N := 10) hx hb hts jnS hown hK hP 0 rfl rfl 2 (by decide) (hts _ mt_55) (fun _ h9 => h9) rfl dS_rankFromBehind_58 ?_
          refine lv_iload_n hx hb dS_rankFromBehind_61 rfl (lv_at hl 2 rfl) ?_
          refine iz_iald hx hb hK hP 2 rfl d rfl (by omega) (by omega) dS_rankFromBehind_62 ?_
          refine iz_i2l hx hb ⟨by omega, by omega⟩ dS_rankFromBehind_63 ?_
          refine lv_aload_n hx hb dS_rankFromBehind_64 rfl (lv_at hl 0 rfl) ?_
          refine va_get (D := kD K) (ci := 2) (v := .ref (q + 1)) (C := RS) (T := FS) (N := 10) hx hb hts jnS hown hK hP 0 rfl rfl 1 (by decide) (hts _ mt_54) (fun _ h9 => h9) rfl dS_rankFromBehind_65 ?_
          refine lv_iload_n hx hb dS_rankFromBehind_68 rfl (lv_at hl 3 rfl) ?_
          refine iz_iald hx hb hK hP 1 rfl j (by omega) (by omega) (by omega) dS_rankFromBehind_69 ?_
          refine iz_i2l hx hb ⟨by omega, by omega⟩ dS_rankFromBehind_70 ?_
          refine iz_lmul hx hb dS_rankFromBehind_71 ?_
          refine iz_lc_ge (tgt := 78) hx hb ⟨by omega, by omega⟩ ⟨by omega, by omega⟩ dS_rankFromBehind_72 dS_rankFromBehind_73 (by decide) (fun g3 => ?_) (fun g3 => ?_)
          · refine lv_aload_n hx hb dS_rankFromBehind_78 rfl (lv_at hl 0 rfl) ?_
            refine va_get (D := kD K) (ci := 2) (v := .ref (q + 3)) (C := RS) (T := FS) (N := 10) hx hb hts jnS hown hK hP 0 rfl rfl 3 (by decide) (hts _ mt_56) (fun _ h9 => h9) rfl dS_rankFromBehind_79 ?_
            refine lv_iload_n hx hb dS_rankFromBehind_82 rfl (lv_at hl 3 rfl) ?_
            refine lv_iload_n hx hb dS_rankFromBehind_83 rfl (lv_at hl 1 rfl) ?_
            refine iz_iast hx hb hK hP hD hS 3 rfl j (by omega) (by omega) (by omega) dS_rankFromBehind_84 ?_
            clear hP hD hS
            intro H locs hP hD hS
            replace hP : va_P (kD K) vcl [(q, .inr (2, [.int (iI (Kn : Int)), .ref (q + 1), .ref (q + 2), .ref (q + 3), .ref (q + 4), .ref (q + 5), .ref (q + 6), .int (iI bp), .int (iI bc), .long (lI sf)])), (q + 1, .inl (kI K, 4, .inl (iA mu))), (q + 2, .inl (kI K, 4, .inl (iA pr))), (q + 3, .inl (kI K, 4, .inl (iA (ut bg1 j (b : Int))))), (q + 4, .inl (kI K, 4, .inl (iA ch1))), (q + 5, .inl (kI K, 4, .inl (iA tr))), (q + 6, .inl (kI K, 4, .inl (iA bn)))] H := hP
            replace hD : va_D A [(q, .inr (2, [.int (iI (Kn : Int)), .ref (q + 1), .ref (q + 2), .ref (q + 3), .ref (q + 4), .ref (q + 5), .ref (q + 6), .int (iI bp), .int (iI bc), .long (lI sf)])), (q + 1, .inl (kI K, 4, .inl (iA mu))), (q + 2, .inl (kI K, 4, .inl (iA pr))), (q + 3, .inl (kI K, 4, .inl (iA (ut bg1 j (b : Int))))), (q + 4, .inl (kI K, 4, .inl (iA ch1))), (q + 5, .inl (kI K, 4, .inl (iA tr))), (q + 6, .inl (kI K, 4, .inl (iA bn)))] := hD
            refine lv_aload_n hx hb dS_rankFromBehind_85 rfl (lv_at hl 0 rfl) ?_
            refine va_get (D := kD K) (ci := 2) (v := .ref (q + 4)) (C := RS) (T := FS) (N := 10) hx hb hts jnS hown hK hP 0 rfl rfl 4 (by decide) (hts _ mt_57) (fun _ h9 => h9) rfl dS_rankFromBehind_86 ?_
            refine lv_iload_n hx hb dS_rankFromBehind_89 rfl (lv_at hl 3 rfl) ?_
            refine lv_iload_n hx hb dS_rankFromBehind_90 rfl (lv_at hl 2 rfl) ?_
            refine iz_iast hx hb hK hP hD hS 4 rfl j (by omega) (by omega) (by omega) dS_rankFromBehind_91 ?_
            clear hP hD hS
            intro H locs hP hD hS
            replace hP : va_P (kD K) vcl [(q, .inr (2, [.int (iI (Kn : Int)), .ref (q + 1), .ref (q + 2), .ref (q + 3), .ref (q + 4), .ref (q + 5), .ref (q + 6), .int (iI bp), .int (iI bc), .long (lI sf)])), (q + 1, .inl (kI K, 4, .inl (iA mu))), (q + 2, .inl (kI K, 4, .inl (iA pr))), (q + 3, .inl (kI K, 4, .inl (iA (ut bg1 j (b : Int))))), (q + 4, .inl (kI K, 4, .inl (iA (ut ch1 j (d : Int))))), (q + 5, .inl (kI K, 4, .inl (iA tr))), (q + 6, .inl (kI K, 4, .inl (iA bn)))] H := hP
            replace hD : va_D A [(q, .inr (2, [.int (iI (Kn : Int)), .ref (q + 1), .ref (q + 2), .ref (q + 3), .ref (q + 4), .ref (q + 5), .ref (q + 6), .int (iI bp), .int (iI bc), .long (lI sf)])), (q + 1, .inl (kI K, 4, .inl (iA mu))), (q + 2, .inl (kI K, 4, .inl (iA pr))), (q + 3, .inl (kI K, 4, .inl (iA (ut bg1 j (b : Int))))), (q + 4, .inl (kI K, 4, .inl (iA (ut ch1 j (d : Int))))), (q + 5, .inl (kI K, 4, .inl (iA tr))), (q + 6, .inl (kI K, 4, .inl (iA bn)))] := hD
            refine iz_iinc (k := 3) (lv' := [(3, .int (iI (((j + 1 : Nat) : Int) - 1 + (-1)))), (0, .ref q), (1, .int (iI (b : Int))), (2, .int (iI (d : Int)))]) hx hb dS_rankFromBehind_92 hl rfl (by decide) rfl (fun ls hl => ?_)
            refine lv_goto (tgt := 21) hx hb dS_rankFromBehind_95 (by decide) ?_
            exact ih b d (ut bg1 j b) (ut ch1 j d) (by omega) hbK hdK (fun i h1 h2 => by by_cases e : i = j; subst e; exact g2; exact hbm i (by omega) h2) (fun i h1 h2 => by by_cases e : i = j; subst e; omega; exact hdm i (by omega) h2) (ShR_s hR hbK hdK (fun i h1 h2 => by by_cases e : i = j; subst e; exact g2; exact hbm i (by omega) h2) (fun i h1 h2 => by by_cases e : i = j; subst e; omega; exact hdm i (by omega) h2)) H _ hP hD hS ls (lv_sub hl [1, 2, 3, 0] (by rw [show ((j : Nat) : Int) - 1 = ((j + 1 : Nat) : Int) - 1 + -1 by omega]; rfl))
          · refine lv_iload_n hx hb dS_rankFromBehind_76 rfl (lv_at hl 3 rfl) ?_
            refine lv_istore_n (lv' := [(2, .int (iI (((j + 1 : Nat) : Int) - 1))), (0, .ref q), (1, .int (iI (b : Int))), (3, .int (iI (((j + 1 : Nat) : Int) - 1)))]) hx hb dS_rankFromBehind_77 rfl hl (by decide) rfl (fun ls hl => ?_)
            have ej : ((j + 1 : Nat) : Int) - 1 = (j : Int) := by omega
            rw [ej] at hl
            refine lv_aload_n hx hb dS_rankFromBehind_78 rfl (lv_at hl 1 rfl) ?_
            refine va_get (D := kD K) (ci := 2) (v := .ref (q + 3)) (C := RS) (T := FS) (N := 10) hx hb hts jnS hown hK hP 0 rfl rfl 3 (by decide) (hts _ mt_56) (fun _ h9 => h9) rfl dS_rankFromBehind_79 ?_
            refine lv_iload_n hx hb dS_rankFromBehind_82 rfl (lv_at hl 3 rfl) ?_
            refine lv_iload_n hx hb dS_rankFromBehind_83 rfl (lv_at hl 2 rfl) ?_
            refine iz_iast hx hb hK hP hD hS 3 rfl j rfl (by omega) (by omega) dS_rankFromBehind_84 ?_
            clear hP hD hS
            intro H locs hP hD hS
            replace hP : va_P (kD K) vcl [(q, .inr (2, [.int (iI (Kn : Int)), .ref (q + 1), .ref (q + 2), .ref (q + 3), .ref (q + 4), .ref (q + 5), .ref (q + 6), .int (iI bp), .int (iI bc), .long (lI sf)])), (q + 1, .inl (kI K, 4, .inl (iA mu))), (q + 2, .inl (kI K, 4, .inl (iA pr))), (q + 3, .inl (kI K, 4, .inl (iA (ut bg1 j (b : Int))))), (q + 4, .inl (kI K, 4, .inl (iA ch1))), (q + 5, .inl (kI K, 4, .inl (iA tr))), (q + 6, .inl (kI K, 4, .inl (iA bn)))] H := hP
            replace hD : va_D A [(q, .inr (2, [.int (iI (Kn : Int)), .ref (q + 1), .ref (q + 2), .ref (q + 3), .ref (q + 4), .ref (q + 5), .ref (q + 6), .int (iI bp), .int (iI bc), .long (lI sf)])), (q + 1, .inl (kI K, 4, .inl (iA mu))), (q + 2, .inl (kI K, 4, .inl (iA pr))), (q + 3, .inl (kI K, 4, .inl (iA (ut bg1 j (b : Int))))), (q + 4, .inl (kI K, 4, .inl (iA ch1))), (q + 5, .inl (kI K, 4, .inl (iA tr))), (q + 6, .inl (kI K, 4, .inl (iA bn)))] := hD
            refine lv_aload_n hx hb dS_rankFromBehind_85 rfl (lv_at hl 1 rfl) ?_
            refine va_get (D := kD K) (ci := 2) (v := .ref (q + 4)) (C := RS) (T := FS) (N := 10) hx hb hts jnS hown hK hP 0 rfl rfl 4 (by decide) (hts _ mt_57) (fun _ h9 => h9) rfl dS_rankFromBehind_86 ?_
            refine lv_iload_n hx hb dS_rankFromBehind_89 rfl (lv_at hl 3 rfl) ?_
            refine lv_iload_n hx hb dS_rankFromBehind_90 rfl (lv_at hl 0 rfl) ?_
            refine iz_iast hx hb hK hP hD hS 4 rfl j rfl (by omega) (by omega) dS_rankFromBehind_91 ?_
            clear hP hD hS
            intro H locs hP hD hS
            replace hP : va_P (kD K) vcl [(q, .inr (2, [.int (iI (Kn : Int)), .ref (q + 1), .ref (q + 2), .ref (q + 3), .ref (q + 4), .ref (q + 5), .ref (q + 6), .int (iI bp), .int (iI bc), .long (lI sf)])), (q + 1, .inl (kI K, 4, .inl (iA mu))), (q + 2, .inl (kI K, 4, .inl (iA pr))), (q + 3, .inl (kI K, 4, .inl (iA (ut bg1 j (b : Int))))), (q + 4, .inl (kI K, 4, .inl (iA (ut ch1 j (j : Int))))), (q + 5, .inl (kI K, 4, .inl (iA tr))), (q + 6, .inl (kI K, 4, .inl (iA bn)))] H := hP
            replace hD : va_D A [(q, .inr (2, [.int (iI (Kn : Int)), .ref (q + 1), .ref (q + 2), .ref (q + 3), .ref (q + 4), .ref (q + 5), .ref (q + 6), .int (iI bp), .int (iI bc), .long (lI sf)])), (q + 1, .inl (kI K, 4, .inl (iA mu))), (q + 2, .inl (kI K, 4, .inl (iA pr))), (q + 3, .inl (kI K, 4, .inl (iA (ut bg1 j (b : Int))))), (q + 4, .inl (kI K, 4, .inl (iA (ut ch1 j (j : Int))))), (q + 5, .inl (kI K, 4, .inl (iA tr))), (q + 6, .inl (kI K, 4, .inl (iA bn)))] := hD
            refine iz_iinc (k := 3) (lv' := [(3, .int (iI ((j : Int) + (-1)))), (2, .int (iI (j : Int))), (0, .ref q), (1, .int (iI (b : Int)))]) hx hb dS_rankFromBehind_92 hl rfl (by decide) rfl (fun ls hl => ?_)
            refine lv_goto (tgt := 21) hx hb dS_rankFromBehind_95 (by decide) ?_
            exact ih b j (ut bg1 j b) (ut ch1 j j) (by omega) hbK (by omega) (fun i h1 h2 => by by_cases e : i = j; subst e; exact g2; exact hbm i (by omega) h2) (fun i h1 h2 => by by_cases e : i = j; subst e; exact Int.le_refl _; exact py_ratio (by omega) (by omega) (by omega) (hdm i (by omega) h2) (by have := hbd i h2; omega)) (ShR_s hR hbK (by omega) (fun i h1 h2 => by by_cases e : i = j; subst e; exact g2; exact hbm i (by omega) h2) (fun i h1 h2 => by by_cases e : i = j; subst e; exact Int.le_refl _; exact py_ratio (by omega) (by omega) (by omega) (hdm i (by omega) h2) (by have := hbd i h2; omega))) H _ hP hD hS ls (lv_sub hl [2, 3, 1, 0] rfl)
        · have hp1 := mul_bd (show 0 ≤ pr j by omega) qj.2.2.2 (show 0 ≤ mu d by omega) qd.2.1
          have hp2 := mul_bd (show 0 ≤ pr d by omega) qd.2.2.2 (show 0 ≤ mu j by omega) qj.2.1
          refine lv_iload_n hx hb dS_rankFromBehind_40 rfl (lv_at hl 3 rfl) ?_
          refine lv_istore_n (lv' := [(1, .int (iI (((j + 1 : Nat) : Int) - 1))), (0, .ref q), (2, .int (iI (d : Int))), (3, .int (iI (((j + 1 : Nat) : Int) - 1)))]) hx hb dS_rankFromBehind_41 rfl hl (by decide) rfl (fun ls hl => ?_)
          have ej : ((j + 1 : Nat) : Int) - 1 = (j : Int) := by omega
          rw [ej] at hl
          refine lv_aload_n hx hb dS_rankFromBehind_42 rfl (lv_at hl 1 rfl) ?_
          refine va_get (D := kD K) (ci := 2) (v := .ref (q + 2)) (C := RS) (T := FS) (N := 10) hx hb hts jnS hown hK hP 0 rfl rfl 2 (by decide) (hts _ mt_55) (fun _ h9 => h9) rfl dS_rankFromBehind_43 ?_
          refine lv_iload_n hx hb dS_rankFromBehind_46 rfl (lv_at hl 3 rfl) ?_
          refine iz_iald hx hb hK hP 2 rfl j rfl (by omega) (by omega) dS_rankFromBehind_47 ?_
          refine iz_i2l hx hb ⟨by omega, by omega⟩ dS_rankFromBehind_48 ?_
          refine lv_aload_n hx hb dS_rankFromBehind_49 rfl (lv_at hl 1 rfl) ?_
          refine va_get (D := kD K) (ci := 2) (v := .ref (q + 1)) (C := RS) (T := FS) (N := 10) hx hb hts jnS hown hK hP 0 rfl rfl 1 (by decide) (hts _ mt_54) (fun _ h9 => h9) rfl dS_rankFromBehind_50 ?_
          refine lv_iload_n hx hb dS_rankFromBehind_53 rfl (lv_at hl 2 rfl) ?_
          refine iz_iald hx hb hK hP 1 rfl d rfl (by omega) (by omega) dS_rankFromBehind_54 ?_
          refine iz_i2l hx hb ⟨by omega, by omega⟩ dS_rankFromBehind_55 ?_
          refine iz_lmul hx hb dS_rankFromBehind_56 ?_
          refine lv_aload_n hx hb dS_rankFromBehind_57 rfl (lv_at hl 1 rfl) ?_
          refine va_get (D := kD K) (ci := 2) (v := .ref (q + 2)) (C := RS) (T := FS) (N := 10) hx hb hts jnS hown hK hP 0 rfl rfl 2 (by decide) (hts _ mt_55) (fun _ h9 => h9) rfl dS_rankFromBehind_58 ?_
          refine lv_iload_n hx hb dS_rankFromBehind_61 rfl (lv_at hl 2 rfl) ?_
          refine iz_iald hx hb hK hP 2 rfl d rfl (by omega) (by omega) dS_rankFromBehind_62 ?_
          refine iz_i2l hx hb ⟨by omega, by omega⟩ dS_rankFromBehind_63 ?_
          refine lv_aload_n hx hb dS_rankFromBehind_64 rfl (lv_at hl 1 rfl) ?_
          refine va_get (D := kD K) (ci := 2) (v := .ref (q + 1)) (C := RS) (T := FS) (N := 10) hx hb hts jnS hown hK hP 0 rfl rfl 1 (by decide) (hts _ mt_54) (fun _ h9 => h9) rfl dS_rankFromBehind_65 ?_
          refine lv_iload_n hx hb dS_rankFromBehind_68 rfl (lv_at hl 3 rfl) ?_
          refine iz_iald hx hb hK hP 1 rfl j rfl (by omega) (by omega) dS_rankFromBehind_69 ?_
          refine iz_i2l hx hb ⟨by omega, by omega⟩ dS_rankFromBehind_70 ?_
          refine iz_lmul hx hb dS_rankFromBehind_71 ?_
          refine iz_lc_ge (tgt := 78) hx hb ⟨by omega, by omega⟩ ⟨by omega, by omega⟩ dS_rankFromBehind_72 dS_rankFromBehind_73 (by decide) (fun g3 => ?_) (fun g3 => ?_)
          · refine lv_aload_n hx hb dS_rankFromBehind_78 rfl (lv_at hl 1 rfl) ?_
            refine va_get (D := kD K) (ci := 2) (v := .ref (q + 3)) (C := RS) (T := FS) (N := 10) hx hb hts jnS hown hK hP 0 rfl rfl 3 (by decide) (hts _ mt_56) (fun _ h9 => h9) rfl dS_rankFromBehind_79 ?_
            refine lv_iload_n hx hb dS_rankFromBehind_82 rfl (lv_at hl 3 rfl) ?_
            refine lv_iload_n hx hb dS_rankFromBehind_83 rfl (lv_at hl 0 rfl) ?_
            refine iz_iast hx hb hK hP hD hS 3 rfl j rfl (by omega) (by omega) dS_rankFromBehind_84 ?_
            clear hP hD hS
            intro H locs hP hD hS
            replace hP : va_P (kD K) vcl [(q, .inr (2, [.int (iI (Kn : Int)), .ref (q + 1), .ref (q + 2), .ref (q + 3), .ref (q + 4), .ref (q + 5), .ref (q + 6), .int (iI bp), .int (iI bc), .long (lI sf)])), (q + 1, .inl (kI K, 4, .inl (iA mu))), (q + 2, .inl (kI K, 4, .inl (iA pr))), (q + 3, .inl (kI K, 4, .inl (iA (ut bg1 j (j : Int))))), (q + 4, .inl (kI K, 4, .inl (iA ch1))), (q + 5, .inl (kI K, 4, .inl (iA tr))), (q + 6, .inl (kI K, 4, .inl (iA bn)))] H := hP
            replace hD : va_D A [(q, .inr (2, [.int (iI (Kn : Int)), .ref (q + 1), .ref (q + 2), .ref (q + 3), .ref (q + 4), .ref (q + 5), .ref (q + 6), .int (iI bp), .int (iI bc), .long (lI sf)])), (q + 1, .inl (kI K, 4, .inl (iA mu))), (q + 2, .inl (kI K, 4, .inl (iA pr))), (q + 3, .inl (kI K, 4, .inl (iA (ut bg1 j (j : Int))))), (q + 4, .inl (kI K, 4, .inl (iA ch1))), (q + 5, .inl (kI K, 4, .inl (iA tr))), (q + 6, .inl (kI K, 4, .inl (iA bn)))] := hD
            refine lv_aload_n hx hb dS_rankFromBehind_85 rfl (lv_at hl 1 rfl) ?_
            refine va_get (D := kD K) (ci := 2) (v := .ref (q + 4)) (C := RS) (T := FS) (N := 10) hx hb hts jnS hown hK hP 0 rfl rfl 4 (by decide) (hts _ mt_57) (fun _ h9 => h9) rfl dS_rankFromBehind_86 ?_
            refine lv_iload_n hx hb dS_rankFromBehind_89 rfl (lv_at hl 3 rfl) ?_
            refine lv_iload_n hx hb dS_rankFromBehind_90 rfl (lv_at hl 2 rfl) ?_
            refine iz_iast hx hb hK hP hD hS 4 rfl j rfl (by omega) (by omega) dS_rankFromBehind_91 ?_
            clear hP hD hS
            intro H locs hP hD hS
            replace hP : va_P (kD K) vcl [(q, .inr (2, [.int (iI (Kn : Int)), .ref (q + 1), .ref (q + 2), .ref (q + 3), .ref (q + 4), .ref (q + 5), .ref (q + 6), .int (iI bp), .int (iI bc), .long (lI sf)])), (q + 1, .inl (kI K, 4, .inl (iA mu))), (q + 2, .inl (kI K, 4, .inl (iA pr))), (q + 3, .inl (kI K, 4, .inl (iA (ut bg1 j (j : Int))))), (q + 4, .inl (kI K, 4, .inl (iA (ut ch1 j (d : Int))))), (q + 5, .inl (kI K, 4, .inl (iA tr))), (q + 6, .inl (kI K, 4, .inl (iA bn)))] H := hP
            replace hD : va_D A [(q, .inr (2, [.int (iI (Kn : Int)), .ref (q + 1), .ref (q + 2), .ref (q + 3), .ref (q + 4), .ref (q + 5), .ref (q + 6), .int (iI bp), .int (iI bc), .long (lI sf)])), (q + 1, .inl (kI K, 4, .inl (iA mu))), (q + 2, .inl (kI K, 4, .inl (iA pr))), (q + 3, .inl (kI K, 4, .inl (iA (ut bg1 j (j : Int))))), (q + 4, .inl (kI K, 4, .inl (iA (ut ch1 j (d : Int))))), (q + 5, .inl (kI K, 4, .inl (iA tr))), (q + 6, .inl (kI K, 4, .inl (iA bn)))] := hD
            refine iz_iinc (k := 3) (lv' := [(3, .int (iI ((j : Int) + (-1)))), (1, .int (iI (j : Int))), (0, .ref q), (2, .int (iI (d : Int)))]) hx hb dS_rankFromBehind_92 hl rfl (by decide) rfl (fun ls hl => ?_)
            refine lv_goto (tgt := 21) hx hb dS_rankFromBehind_95 (by decide) ?_
            exact ih j d (ut bg1 j j) (ut ch1 j d) (by omega) (by omega) hdK (fun i h1 h2 => by by_cases e : i = j; subst e; exact Int.le_refl _; have := hbm i (by omega) h2; omega) (fun i h1 h2 => by by_cases e : i = j; subst e; omega; exact hdm i (by omega) h2) (ShR_s hR (by omega) hdK (fun i h1 h2 => by by_cases e : i = j; subst e; exact Int.le_refl _; have := hbm i (by omega) h2; omega) (fun i h1 h2 => by by_cases e : i = j; subst e; omega; exact hdm i (by omega) h2)) H _ hP hD hS ls (lv_sub hl [2, 1, 3, 0] rfl)
          · refine lv_iload_n hx hb dS_rankFromBehind_76 rfl (lv_at hl 3 rfl) ?_
            refine lv_istore_n (lv' := [(2, .int (iI (j : Int))), (1, .int (iI (j : Int))), (0, .ref q), (3, .int (iI (j : Int)))]) hx hb dS_rankFromBehind_77 rfl hl (by decide) rfl (fun ls hl => ?_)
            refine lv_aload_n hx hb dS_rankFromBehind_78 rfl (lv_at hl 2 rfl) ?_
            refine va_get (D := kD K) (ci := 2) (v := .ref (q + 3)) (C := RS) (T := FS) (N := 10) hx hb hts jnS hown hK hP 0 rfl rfl 3 (by decide) (hts _ mt_56) (fun _ h9 => h9) rfl dS_rankFromBehind_79 ?_
            refine lv_iload_n hx hb dS_rankFromBehind_82 rfl (lv_at hl 3 rfl) ?_
            refine lv_iload_n hx hb dS_rankFromBehind_83 rfl (lv_at hl 1 rfl) ?_
            refine iz_iast hx hb hK hP hD hS 3 rfl j rfl (by omega) (by omega) dS_rankFromBehind_84 ?_
            clear hP hD hS
            intro H locs hP hD hS
            replace hP : va_P (kD K) vcl [(q, .inr (2, [.int (iI (Kn : Int)), .ref (q + 1), .ref (q + 2), .ref (q + 3), .ref (q + 4), .ref (q + 5), .ref (q + 6), .int (iI bp), .int (iI bc), .long (lI sf)])), (q + 1, .inl (kI K, 4, .inl (iA mu))), (q + 2, .inl (kI K, 4, .inl (iA pr))), (q + 3, .inl (kI K, 4, .inl (iA (ut bg1 j (j : Int))))), (q + 4, .inl (kI K, 4, .inl (iA ch1))), (q + 5, .inl (kI K, 4, .inl (iA tr))), (q + 6, .inl (kI K, 4, .inl (iA bn)))] H := hP
            replace hD : va_D A [(q, .inr (2, [.int (iI (Kn : Int)), .ref (q + 1), .ref (q + 2), .ref (q + 3), .ref (q + 4), .ref (q + 5), .ref (q + 6), .int (iI bp), .int (iI bc), .long (lI sf)])), (q + 1, .inl (kI K, 4, .inl (iA mu))), (q + 2, .inl (kI K, 4, .inl (iA pr))), (q + 3, .inl (kI K, 4, .inl (iA (ut bg1 j (j : Int))))), (q + 4, .inl (kI K, 4, .inl (iA ch1))), (q + 5, .inl (kI K, 4, .inl (iA tr))), (q + 6, .inl (kI K, 4, .inl (iA bn)))] := hD
            refine lv_aload_n hx hb dS_rankFromBehind_85 rfl (lv_at hl 2 rfl) ?_
            refine va_get (D := kD K) (ci := 2) (v := .ref (q + 4)) (C := RS) (T := FS) (N := 10) hx hb hts jnS hown hK hP 0 rfl rfl 4 (by decide) (hts _ mt_57) (fun _ h9 => h9) rfl dS_rankFromBehind_86 ?_
            refine lv_iload_n hx hb dS_rankFromBehind_89 rfl (lv_at hl 3 rfl) ?_
            refine lv_iload_n hx hb dS_rankFromBehind_90 rfl (lv_at hl 0 rfl) ?_
            refine iz_iast hx hb hK hP hD hS 4 rfl j rfl (by omega) (by omega) dS_rankFromBehind_91 ?_
            clear hP hD hS
            intro H locs hP hD hS
            replace hP : va_P (kD K) vcl [(q, .inr (2, [.int (iI (Kn : Int)), .ref (q + 1), .ref (q + 2), .ref (q + 3), .ref (q + 4), .ref (q + 5), .ref (q + 6), .int (iI bp), .int (iI bc), .long (lI sf)])), (q + 1, .inl (kI K, 4, .inl (iA mu))), (q + 2, .inl (kI K, 4, .inl (iA pr))), (q + 3, .inl (kI K, 4, .inl (iA (ut bg1 j (j : Int))))), (q + 4, .inl (kI K, 4, .inl (iA (ut ch1 j (j : Int))))), (q + 5, .inl (kI K, 4, .inl (iA tr))), (q + 6, .inl (kI K, 4, .inl (iA bn)))] H := hP
            replace hD : va_D A [(q, .inr (2, [.int (iI (Kn : Int)), .ref (q + 1), .ref (q + 2), .ref (q + 3), .ref (q + 4), .ref (q + 5), .ref (q + 6), .int (iI bp), .int (iI bc), .long (lI sf)])), (q + 1, .inl (kI K, 4, .inl (iA mu))), (q + 2, .inl (kI K, 4, .inl (iA pr))), (q + 3, .inl (kI K, 4, .inl (iA (ut bg1 j (j : Int))))), (q + 4, .inl (kI K, 4, .inl (iA (ut ch1 j (j : Int))))), (q + 5, .inl (kI K, 4, .inl (iA tr))), (q + 6, .inl (kI K, 4, .inl (iA bn)))] := hD
            refine iz_iinc (k := 3) (lv' := [(3, .int (iI ((j : Int) + (-1)))), (2, .int (iI (j : Int))), (1, .int (iI (j : Int))), (0, .ref q)]) hx hb dS_rankFromBehind_92 hl rfl (by decide) rfl (fun ls hl => ?_)
            refine lv_goto (tgt := 21) hx hb dS_rankFromBehind_95 (by decide) ?_
            exact ih j j (ut bg1 j j) (ut ch1 j j) (by omega) (by omega) (by omega) (fun i h1 h2 => by by_cases e : i = j; subst e; exact Int.le_refl _; have := hbm i (by omega) h2; omega) (fun i h1 h2 => by by_cases e : i = j; subst e; exact Int.le_refl _; exact py_ratio (by omega) (by omega) (by omega) (hdm i (by omega) h2) (by have := hbd i h2; omega)) (ShR_s hR (by omega) (by omega) (fun i h1 h2 => by by_cases e : i = j; subst e; exact Int.le_refl _; have := hbm i (by omega) h2; omega) (fun i h1 h2 => by by_cases e : i = j; subst e; exact Int.le_refl _; exact py_ratio (by omega) (by omega) (by omega) (hdm i (by omega) h2) (by have := hbd i h2; omega))) H _ hP hD hS ls (lv_sub hl [3, 2, 1, 0] rfl)
  refine lv_aload_n hx hb dS_rankFromBehind_0 rfl (lv_at hl 0 rfl) ?_
  refine va_get (D := kD K) (ci := 2) (v := .int (iI (Kn : Int))) (C := RS) (T := FS) (N := 10) hx hb hts jnS hown hK hP 0 rfl rfl 0 (by decide) (hts _ mt_52) (fun _ h9 => h9) rfl dS_rankFromBehind_1 ?_
  refine iz_iconst hx hb dS_rankFromBehind_4 ?_
  refine iz_isub hx hb dS_rankFromBehind_5 ?_
  refine lv_istore_n (lv' := [(1, .int (iI ((Kn : Int) - 1))), (0, .ref q)]) hx hb dS_rankFromBehind_6 rfl hl (by decide) rfl (fun ls hl => ?_)
  refine lv_aload_n hx hb dS_rankFromBehind_7 rfl (lv_at hl 1 rfl) ?_
  refine va_get (D := kD K) (ci := 2) (v := .int (iI (Kn : Int))) (C := RS) (T := FS) (N := 10) hx hb hts jnS hown hK hP 0 rfl rfl 0 (by decide) (hts _ mt_52) (fun _ h9 => h9) rfl dS_rankFromBehind_8 ?_
  refine iz_iconst hx hb dS_rankFromBehind_11 ?_
  refine iz_isub hx hb dS_rankFromBehind_12 ?_
  refine lv_istore_n (lv' := [(2, .int (iI ((Kn : Int) - 1))), (1, .int (iI ((Kn : Int) - 1))), (0, .ref q)]) hx hb dS_rankFromBehind_13 rfl hl (by decide) rfl (fun ls hl => ?_)
  refine lv_aload_n hx hb dS_rankFromBehind_14 rfl (lv_at hl 2 rfl) ?_
  refine va_get (D := kD K) (ci := 2) (v := .int (iI (Kn : Int))) (C := RS) (T := FS) (N := 10) hx hb hts jnS hown hK hP 0 rfl rfl 0 (by decide) (hts _ mt_52) (fun _ h9 => h9) rfl dS_rankFromBehind_15 ?_
  refine iz_iconst hx hb dS_rankFromBehind_18 ?_
  refine iz_isub hx hb dS_rankFromBehind_19 ?_
  refine lv_istore_n (lv' := [(3, .int (iI ((Kn : Int) - 1))), (2, .int (iI ((Kn : Int) - 1))), (1, .int (iI ((Kn : Int) - 1))), (0, .ref q)]) hx hb dS_rankFromBehind_20 rfl hl (by decide) rfl (fun ls hl => ?_)
  have ek : (Kn : Int) - 1 = ((Kn - 1 : Nat) : Int) := by omega
  exact loop Kn (Kn - 1) (Kn - 1) bg ch (Nat.le_refl _) (by omega) (by omega) (fun i h1 h2 => absurd h1 (by omega)) (fun i h1 h2 => absurd h1 (by omega)) (fun k h1 h2 => absurd h1 (by omega)) s.heap [] hP hD hS ls (lv_sub hl [3, 2, 1, 0] (by rw [← ek]; rfl))
abbrev rmS_stock : Room := { frames := 1, cells := 0, slots := 0, locals := 60 }
set_option maxHeartbeats 4000000 in
set_option maxRecDepth 100000 in
/-- Shelf.stock(much, price) -/
theorem c_S_stock (l : Launch) (K : KG) (q Kn : Nat) (mu pr bg ch tr bn : Nat → Int) (bp bc sf : Int) (mm pp : Int) (hok : ShOK Kn mu pr bg ch) (hK3 : Kn < 4) (hm : 1 ≤ mm ∧ mm ≤ 1000000000) (hp : 1 ≤ pp ∧ pp ≤ 100000) : Ct l yS_stock kS_stock rmS_stock (PC K [.ref q, .int (iI mm), .int (iI pp)] (fun H => va_P (kD K) vcl (shW K q (Kn : Int) mu pr bg ch tr bn bp bc sf) H)) (QI (fun r H => r = Kn ∧ ∃ (bg' ch' : Nat → Int), ShOK (Kn + 1) (ut mu Kn mm) (ut pr Kn pp) bg' ch' ∧ va_P (kD K) vcl (shW K q ((Kn + 1 : Nat) : Int) (ut mu Kn mm) (ut pr Kn pp) bg' ch' tr bn bp bc (-1)) H)) (fun x => q ≤ x ∧ x < q + 7) := by
  refine ct_of (by decide) (Or.inl ⟨rfl, rfl⟩) ?_
  intro p e s m args below meth c B0 hP0
  obtain ⟨hx, hb, hr, hml, hown, hlocks, hnm, htab⟩ := B0
  obtain ⟨ha, ⟨hT, hK⟩, hB⟩ := hP0
  have hl := lv_entry ([.ref q, .int (iI mm), .int (iI pp)]) (n := 3) (Nat.le_of_ble_eq_true rfl)
  obtain ⟨Q, hQ⟩ : ∃ Q, Q = XQ below (QI (fun r H => r = Kn ∧ ∃ (bg' ch' : Nat → Int), ShOK (Kn + 1) (ut mu Kn mm) (ut pr Kn pp) bg' ch' ∧ va_P (kD K) vcl (shW K q ((Kn + 1 : Nat) : Int) (ut mu Kn mm) (ut pr Kn pp) bg' ch' tr bn bp bc (-1)) H)) args s rmS_stock.cells rmS_stock.slots (fun x => q ≤ x ∧ x < q + 7) := ⟨_, rfl⟩
  rw [← hQ, ha, lg_entry_eq]
  rw [ha] at hQ
  generalize (lg_sl ([.ref q, .int (iI mm), .int (iI pp)]) ++ List.replicate (3 - (lg_sl ([.ref q, .int (iI mm), .int (iI pp)])).length) Slot.unset).toArray = ls at hl ⊢
  generalize ([.ref q, .int (iI mm), .int (iI pp)] : List Value).toArray = args at hQ ⊢
  have hts : ∀ w ∈ TW, w.before args s = true := fun w h => hT w h args
  have hl : lv_has ls 3 [(0, .ref q), (1, .int (iI mm)), (2, .int (iI pp))] := hl
  obtain ⟨A, hAe⟩ : ∃ A : Addr → Prop, A = (fun x => q ≤ x ∧ x < q + 7) := ⟨_, rfl⟩
  rw [← hAe] at hQ
  have hS : va_S A s.heap s.heap [] := va_S.rf
  have hP : va_P (kD K) vcl [(q, .inr (2, [.int (iI (Kn : Int)), .ref (q + 1), .ref (q + 2), .ref (q + 3), .ref (q + 4), .ref (q + 5), .ref (q + 6), .int (iI bp), .int (iI bc), .long (lI sf)])), (q + 1, .inl (kI K, 4, .inl (iA mu))), (q + 2, .inl (kI K, 4, .inl (iA pr))), (q + 3, .inl (kI K, 4, .inl (iA bg))), (q + 4, .inl (kI K, 4, .inl (iA ch))), (q + 5, .inl (kI K, 4, .inl (iA tr))), (q + 6, .inl (kI K, 4, .inl (iA bn)))] s.heap := hB
  have hD : va_D A [(q, .inr (2, [.int (iI (Kn : Int)), .ref (q + 1), .ref (q + 2), .ref (q + 3), .ref (q + 4), .ref (q + 5), .ref (q + 6), .int (iI bp), .int (iI bc), .long (lI sf)])), (q + 1, .inl (kI K, 4, .inl (iA mu))), (q + 2, .inl (kI K, 4, .inl (iA pr))), (q + 3, .inl (kI K, 4, .inl (iA bg))), (q + 4, .inl (kI K, 4, .inl (iA ch))), (q + 5, .inl (kI K, 4, .inl (iA tr))), (q + 6, .inl (kI K, 4, .inl (iA bn)))] := by rw [hAe]; exact va_D_of (by simp) (by simp <;> omega)
  have hbd : ∀ i, i < Kn + 1 → 1 ≤ ut mu Kn mm i ∧ ut mu Kn mm i ≤ 1000000000 ∧ 1 ≤ ut pr Kn pp i ∧ ut pr Kn pp i ≤ 100000 := by
    intro i hi
    by_cases e : i = Kn
    · subst e; rw [ut_s, ut_s]; exact ⟨hm.1, hm.2, hp.1, hp.2⟩
    · rw [ut_n _ _ e, ut_n _ _ e]; exact hok.2.1 i (by omega)
  refine lv_aload_n hx hb dS_stock_0 rfl (lv_at hl 0 rfl) ?_
  refine va_get (D := kD K) (ci := 2) (v := .ref (q + 1)) (C := RS) (T := FS) (N := 10) hx hb hts jnS hown hK hP 0 rfl rfl 1 (by decide) (hts _ mt_54) (fun _ h9 => h9) rfl dS_stock_1 ?_
  refine lv_aload_n hx hb dS_stock_4 rfl (lv_at hl 0 rfl) ?_
  refine va_get (D := kD K) (ci := 2) (v := .int (iI (Kn : Int))) (C := RS) (T := FS) (N := 10) hx hb hts jnS hown hK hP 0 rfl rfl 0 (by decide) (hts _ mt_52) (fun _ h9 => h9) rfl dS_stock_5 ?_
  refine lv_iload_n hx hb dS_stock_8 rfl (lv_at hl 1 rfl) ?_
  refine iz_iast hx hb hK hP hD hS 1 rfl Kn rfl (by omega) (by omega) dS_stock_9 ?_
  clear hP hD hS
  intro H locs hP hD hS
  replace hP : va_P (kD K) vcl [(q, .inr (2, [.int (iI (Kn : Int)), .ref (q + 1), .ref (q + 2), .ref (q + 3), .ref (q + 4), .ref (q + 5), .ref (q + 6), .int (iI bp), .int (iI bc), .long (lI sf)])), (q + 1, .inl (kI K, 4, .inl (iA (ut mu Kn mm)))), (q + 2, .inl (kI K, 4, .inl (iA pr))), (q + 3, .inl (kI K, 4, .inl (iA bg))), (q + 4, .inl (kI K, 4, .inl (iA ch))), (q + 5, .inl (kI K, 4, .inl (iA tr))), (q + 6, .inl (kI K, 4, .inl (iA bn)))] H := hP
  replace hD : va_D A [(q, .inr (2, [.int (iI (Kn : Int)), .ref (q + 1), .ref (q + 2), .ref (q + 3), .ref (q + 4), .ref (q + 5), .ref (q + 6), .int (iI bp), .int (iI bc), .long (lI sf)])), (q + 1, .inl (kI K, 4, .inl (iA (ut mu Kn mm)))), (q + 2, .inl (kI K, 4, .inl (iA pr))), (q + 3, .inl (kI K, 4, .inl (iA bg))), (q + 4, .inl (kI K, 4, .inl (iA ch))), (q + 5, .inl (kI K, 4, .inl (iA tr))), (q + 6, .inl (kI K, 4, .inl (iA bn)))] := hD
  refine lv_aload_n hx hb dS_stock_10 rfl (lv_at hl 0 rfl) ?_
  refine va_get (D := kD K) (ci := 2) (v := .ref (q + 2)) (C := RS) (T := FS) (N := 10) hx hb hts jnS hown hK hP 0 rfl rfl 2 (by decide) (hts _ mt_55) (fun _ h9 => h9) rfl dS_stock_11 ?_
  refine lv_aload_n hx hb dS_stock_14 rfl (lv_at hl 0 rfl) ?_
  refine va_get (D := kD K) (ci := 2) (v := .int (iI (Kn : Int))) (C := RS) (T := FS) (N := 10) hx hb hts jnS hown hK hP 0 rfl rfl 0 (by decide) (hts _ mt_52) (fun _ h9 => h9) rfl dS_stock_15 ?_
  refine lv_iload_n hx hb dS_stock_18 rfl (lv_at hl 2 rfl) ?_
  refine iz_iast hx hb hK hP hD hS 2 rfl Kn rfl (by omega) (by omega) dS_stock_19 ?_
  clear hP hD hS
  intro H locs hP hD hS
  replace hP : va_P (kD K) vcl [(q, .inr (2, [.int (iI (Kn : Int)), .ref (q + 1), .ref (q + 2), .ref (q + 3), .ref (q + 4), .ref (q + 5), .ref (q + 6), .int (iI bp), .int (iI bc), .long (lI sf)])), (q + 1, .inl (kI K, 4, .inl (iA (ut mu Kn mm)))), (q + 2, .inl (kI K, 4, .inl (iA (ut pr Kn pp)))), (q + 3, .inl (kI K, 4, .inl (iA bg))), (q + 4, .inl (kI K, 4, .inl (iA ch))), (q + 5, .inl (kI K, 4, .inl (iA tr))), (q + 6, .inl (kI K, 4, .inl (iA bn)))] H := hP
  replace hD : va_D A [(q, .inr (2, [.int (iI (Kn : Int)), .ref (q + 1), .ref (q + 2), .ref (q + 3), .ref (q + 4), .ref (q + 5), .ref (q + 6), .int (iI bp), .int (iI bc), .long (lI sf)])), (q + 1, .inl (kI K, 4, .inl (iA (ut mu Kn mm)))), (q + 2, .inl (kI K, 4, .inl (iA (ut pr Kn pp)))), (q + 3, .inl (kI K, 4, .inl (iA bg))), (q + 4, .inl (kI K, 4, .inl (iA ch))), (q + 5, .inl (kI K, 4, .inl (iA tr))), (q + 6, .inl (kI K, 4, .inl (iA bn)))] := hD
  refine lv_aload_n hx hb dS_stock_20 rfl (lv_at hl 0 rfl) ?_
  refine lv_dup hx hb dS_stock_21 rfl ?_
  refine va_get (D := kD K) (ci := 2) (v := .int (iI (Kn : Int))) (C := RS) (T := FS) (N := 10) hx hb hts jnS hown hK hP 0 rfl rfl 0 (by decide) (hts _ mt_52) (fun _ h9 => h9) rfl dS_stock_22 ?_
  refine iz_iconst hx hb dS_stock_25 ?_
  refine iz_iadd hx hb dS_stock_26 ?_
  refine va_put (D := kD K) (ci := 2) (v := .int (iI ((Kn : Int) + 1))) (ty := .int) (C := RS) (T := FS) (N := 10) hx hb hts jnS tS tS_ok nS hown hK hP hD hS 0 rfl rfl 0 (by decide) (hts _ mt_52) (fun _ h9 => h9) rfl (by decide +kernel) rfl rfl (Nat.le_of_ble_eq_true rfl) dS_stock_27 ?_
  clear hP hD hS
  intro H locs hP hD hS
  replace hP : va_P (kD K) vcl [(q, .inr (2, [.int (iI ((Kn : Int) + 1)), .ref (q + 1), .ref (q + 2), .ref (q + 3), .ref (q + 4), .ref (q + 5), .ref (q + 6), .int (iI bp), .int (iI bc), .long (lI sf)])), (q + 1, .inl (kI K, 4, .inl (iA (ut mu Kn mm)))), (q + 2, .inl (kI K, 4, .inl (iA (ut pr Kn pp)))), (q + 3, .inl (kI K, 4, .inl (iA bg))), (q + 4, .inl (kI K, 4, .inl (iA ch))), (q + 5, .inl (kI K, 4, .inl (iA tr))), (q + 6, .inl (kI K, 4, .inl (iA bn)))] H := hP
  replace hD : va_D A [(q, .inr (2, [.int (iI ((Kn : Int) + 1)), .ref (q + 1), .ref (q + 2), .ref (q + 3), .ref (q + 4), .ref (q + 5), .ref (q + 6), .int (iI bp), .int (iI bc), .long (lI sf)])), (q + 1, .inl (kI K, 4, .inl (iA (ut mu Kn mm)))), (q + 2, .inl (kI K, 4, .inl (iA (ut pr Kn pp)))), (q + 3, .inl (kI K, 4, .inl (iA bg))), (q + 4, .inl (kI K, 4, .inl (iA ch))), (q + 5, .inl (kI K, 4, .inl (iA tr))), (q + 6, .inl (kI K, 4, .inl (iA bn)))] := hD
  refine lv_aload_n hx hb dS_stock_30 rfl (lv_at hl 0 rfl) ?_
  refine iz_ldc2 hx hb (-1) (by decide) hown (hts _ mt_51) dS_stock_31 ?_
  refine va_put (D := kD K) (ci := 2) (v := .long (lI (-1))) (ty := .long) (C := RS) (T := FS) (N := 10) hx hb hts jnS tS tS_ok nS hown hK hP hD hS 0 rfl rfl 9 (by decide) (hts _ mt_62) (fun _ h9 => h9) rfl (by decide +kernel) rfl rfl (Nat.le_of_ble_eq_true rfl) dS_stock_34 ?_
  clear hP hD hS
  intro H locs hP hD hS
  replace hP : va_P (kD K) vcl [(q, .inr (2, [.int (iI ((Kn : Int) + 1)), .ref (q + 1), .ref (q + 2), .ref (q + 3), .ref (q + 4), .ref (q + 5), .ref (q + 6), .int (iI bp), .int (iI bc), .long (lI (-1))])), (q + 1, .inl (kI K, 4, .inl (iA (ut mu Kn mm)))), (q + 2, .inl (kI K, 4, .inl (iA (ut pr Kn pp)))), (q + 3, .inl (kI K, 4, .inl (iA bg))), (q + 4, .inl (kI K, 4, .inl (iA ch))), (q + 5, .inl (kI K, 4, .inl (iA tr))), (q + 6, .inl (kI K, 4, .inl (iA bn)))] H := hP
  replace hD : va_D A [(q, .inr (2, [.int (iI ((Kn : Int) + 1)), .ref (q + 1), .ref (q + 2), .ref (q + 3), .ref (q + 4), .ref (q + 5), .ref (q + 6), .int (iI bp), .int (iI bc), .long (lI (-1))])), (q + 1, .inl (kI K, 4, .inl (iA (ut mu Kn mm)))), (q + 2, .inl (kI K, 4, .inl (iA (ut pr Kn pp)))), (q + 3, .inl (kI K, 4, .inl (iA bg))), (q + 4, .inl (kI K, 4, .inl (iA ch))), (q + 5, .inl (kI K, 4, .inl (iA tr))), (q + 6, .inl (kI K, 4, .inl (iA bn)))] := hD
  refine lv_aload_n hx hb dS_stock_37 rfl (lv_at hl 0 rfl) ?_
  refine ctV (n := 0) hx hb hml hown hT ⟨c_S_rank l K q (Kn + 1) (ut mu Kn mm) (ut pr Kn pp) bg ch tr bn bp bc (-1) (by omega) (by omega) hbd, ⟨_, _, _, Or.inl ⟨rfl, rfl⟩⟩, mt_386, mt_3, by decide, by decide +kernel, by decide, by decide, by decide, by decide⟩ PC.blind mt_383 mt_385 ms_16 (va_RVof (ci := 2) (q0 := 0) hK hP rfl rfl) (As := []) (rest := []) rfl (PC.at ⟨hT, hK⟩ hP) hl.1 rfl (Nat.le_of_ble_eq_true rfl) dS_stock_38 (krV (c1 := 0) (s1 := 0) rfl rfl (fun t1 H L hA hL hpo => ?_))
  obtain ⟨bg', ch', hR, hP⟩ := hpo
  have hP : va_P (kD K) vcl [(q, .inr (2, [.int (iI ((Kn + 1 : Nat) : Int)), .ref (q + 1), .ref (q + 2), .ref (q + 3), .ref (q + 4), .ref (q + 5), .ref (q + 6), .int (iI bp), .int (iI bc), .long (lI (-1))])), (q + 1, .inl (kI K, 4, .inl (iA (ut mu Kn mm)))), (q + 2, .inl (kI K, 4, .inl (iA (ut pr Kn pp)))), (q + 3, .inl (kI K, 4, .inl (iA bg'))), (q + 4, .inl (kI K, 4, .inl (iA ch'))), (q + 5, .inl (kI K, 4, .inl (iA tr))), (q + 6, .inl (kI K, 4, .inl (iA bn)))] H := hP
  have hS := hA.S hS (fun x hx => by rw [hAe]; exact hx) hL
  refine lv_aload_n hx hb dS_stock_41 rfl (lv_at hl 0 rfl) ?_
  refine va_get (D := kD K) (ci := 2) (v := .int (iI ((Kn + 1 : Nat) : Int))) (C := RS) (T := FS) (N := 10) hx hb hts jnS hown hK hP 0 rfl rfl 0 (by decide) (hts _ mt_52) (fun _ h9 => h9) rfl dS_stock_42 ?_
  refine iz_iconst hx hb dS_stock_45 ?_
  refine iz_isub hx hb dS_stock_46 ?_
  rw [hQ]
  exact iz_iret hx hb hr hlocks (⟨by omega, bg', ch', ⟨by omega, hbd, fun k hk => hR k (Nat.zero_le k) hk⟩, hP⟩) hS.2.2 dS_stock_47
abbrev rmS_init : Room := { frames := 1, cells := 6, slots := 24, locals := 20 }
set_option maxHeartbeats 4000000 in
set_option maxRecDepth 100000 in
/-- Shelf() -/
theorem c_S_init (l : Launch) (K : KG) (q : Nat) : Ct l yS_init kS_init rmS_init (PC K [.ref q] (fun H => H.size = q + 1 ∧ va_P (kD K) vcl [(q, .inr (2, [.int (iI 0), .null, .null, .null, .null, .null, .null, .int (iI 0), .int (iI 0), .long (lI 0)]))] H)) (QV (fun H => H.size = q + 7 ∧ va_P (kD K) vcl (shW K q 0 (fun _ => 0) (fun _ => 0) (fun _ => 0) (fun _ => 0) (fun _ => 0) (fun _ => 0) 0 0 (-1)) H)) (fun x => q ≤ x) := by
  refine ct_of (by decide) (Or.inl ⟨rfl, rfl⟩) ?_
  intro p e s m args below meth c B0 hP0
  obtain ⟨hx, hb, hr, hml, hown, hlocks, hnm, htab⟩ := B0
  obtain ⟨ha, ⟨hT, hK⟩, hB⟩ := hP0
  have hl := lv_entry ([.ref q]) (n := 1) (Nat.le_of_ble_eq_true rfl)
  obtain ⟨Q, hQ⟩ : ∃ Q, Q = XQ below (QV (fun H => H.size = q + 7 ∧ va_P (kD K) vcl (shW K q 0 (fun _ => 0) (fun _ => 0) (fun _ => 0) (fun _ => 0) (fun _ => 0) (fun _ => 0) 0 0 (-1)) H)) args s rmS_init.cells rmS_init.slots (fun x => q ≤ x) := ⟨_, rfl⟩
  rw [← hQ, ha, lg_entry_eq]
  rw [ha] at hQ
  generalize (lg_sl ([.ref q]) ++ List.replicate (1 - (lg_sl ([.ref q])).length) Slot.unset).toArray = ls at hl ⊢
  generalize ([.ref q] : List Value).toArray = args at hQ ⊢
  have hts : ∀ w ∈ TW, w.before args s = true := fun w h => hT w h args
  have hl : lv_has ls 1 [(0, .ref q)] := hl
  obtain ⟨A, hAe⟩ : ∃ A : Addr → Prop, A = (fun x => q ≤ x) := ⟨_, rfl⟩
  rw [← hAe] at hQ
  have hS : va_S A s.heap s.heap [] := va_S.rf
  obtain ⟨hz0, hP⟩ := hB
  have hD : va_D A [(q, .inr (2, [.int (iI 0), .null, .null, .null, .null, .null, .null, .int (iI 0), .int (iI 0), .long (lI 0)]))] := by rw [hAe]; exact va_D_of (by simp) (by simp)
  have hA : ∀ x, s.heap.size ≤ x → A x := fun x hx => by rw [hAe]; show q ≤ x; omega
  refine lv_aload_n hx hb dS_init_0 rfl (lv_at hl 0 rfl) ?_
  refine W.objInit hx hb hown (hts _ mt_50) (hts _ mt_20) (hts _ mt_21) rfl (by rw [hml]; exact hl.1) rfl dS_init_1 (Nat.le_of_ble_eq_true rfl) (Nat.le_of_ble_eq_true rfl) ?_
  refine W.eq (g2 := F0 m 4 ls []) rfl ?_
  refine lv_aload_n hx hb dS_init_4 rfl (lv_at hl 0 rfl) ?_
  refine iz_iconst hx hb dS_init_5 ?_
  have hz := hz0
  refine iz_newi hx hb hT hK hP hD hS hA 4 rfl (by omega) (Nat.le_of_ble_eq_true rfl) (Nat.le_of_ble_eq_true rfl) (z := q + 1) hz dS_init_6 ?_
  clear hz hP hD hS
  intro H hz hP hD hS
  replace hP : va_P (kD K) vcl [(q, .inr (2, [.int (iI 0), .null, .null, .null, .null, .null, .null, .int (iI 0), .int (iI 0), .long (lI 0)])), (q + 1, .inl (kI K, 4, .inl (iA (fun _ => 0))))] H := hP
  replace hD : va_D A [(q, .inr (2, [.int (iI 0), .null, .null, .null, .null, .null, .null, .int (iI 0), .int (iI 0), .long (lI 0)])), (q + 1, .inl (kI K, 4, .inl (iA (fun _ => 0))))] := hD
  refine W.num (c1 := 1) (s1 := 4) rfl rfl ?_
  refine va_putF (D := kD K) (ci := 2) (v := .ref (q + 1)) (ty := .array .int) (C := RS) (T := FS) (N := 10) hx hb hts jnS tS tS_ok nS hown hK hP hD hS 0 rfl rfl 1 (by decide) (hts _ mt_54) (fun _ h9 => h9) rfl hnm rfl (by decide +kernel) rfl rfl (Nat.le_of_ble_eq_true rfl) dS_init_8 ?_
  clear hP hD hS
  intro H locs hP hD hS
  replace hP : va_P (kD K) vcl [(q, .inr (2, [.int (iI 0), .ref (q + 1), .null, .null, .null, .null, .null, .int (iI 0), .int (iI 0), .long (lI 0)])), (q + 1, .inl (kI K, 4, .inl (iA (fun _ => 0))))] H := hP
  replace hD : va_D A [(q, .inr (2, [.int (iI 0), .ref (q + 1), .null, .null, .null, .null, .null, .int (iI 0), .int (iI 0), .long (lI 0)])), (q + 1, .inl (kI K, 4, .inl (iA (fun _ => 0))))] := hD
  refine lv_aload_n hx hb dS_init_11 rfl (lv_at hl 0 rfl) ?_
  refine iz_iconst hx hb dS_init_12 ?_
  refine W.sz (fun hs9 => ?_)
  replace hz : H.size = q + 2 := by have h9 : q + 1 < H.size := (hP 1 _ rfl).lt; omega
  clear hs9
  refine iz_newi hx hb hT hK hP hD hS hA 4 rfl (by omega) (Nat.le_of_ble_eq_true rfl) (Nat.le_of_ble_eq_true rfl) (z := q + 2) hz dS_init_13 ?_
  clear hz hP hD hS
  intro H hz hP hD hS
  replace hP : va_P (kD K) vcl [(q, .inr (2, [.int (iI 0), .ref (q + 1), .null, .null, .null, .null, .null, .int (iI 0), .int (iI 0), .long (lI 0)])), (q + 1, .inl (kI K, 4, .inl (iA (fun _ => 0)))), (q + 2, .inl (kI K, 4, .inl (iA (fun _ => 0))))] H := hP
  replace hD : va_D A [(q, .inr (2, [.int (iI 0), .ref (q + 1), .null, .null, .null, .null, .null, .int (iI 0), .int (iI 0), .long (lI 0)])), (q + 1, .inl (kI K, 4, .inl (iA (fun _ => 0)))), (q + 2, .inl (kI K, 4, .inl (iA (fun _ => 0))))] := hD
  refine W.num (c1 := 2) (s1 := 8) rfl rfl ?_
  refine va_putF (D := kD K) (ci := 2) (v := .ref (q + 2)) (ty := .array .int) (C := RS) (T := FS) (N := 10) hx hb hts jnS tS tS_ok nS hown hK hP hD hS 0 rfl rfl 2 (by decide) (hts _ mt_55) (fun _ h9 => h9) rfl hnm rfl (by decide +kernel) rfl rfl (Nat.le_of_ble_eq_true rfl) dS_init_15 ?_
  clear hP hD hS
  intro H locs hP hD hS
  replace hP : va_P (kD K) vcl [(q, .inr (2, [.int (iI 0), .ref (q + 1), .ref (q + 2), .null, .null, .null, .null, .int (iI 0), .int (iI 0), .long (lI 0)])), (q + 1, .inl (kI K, 4, .inl (iA (fun _ => 0)))), (q + 2, .inl (kI K, 4, .inl (iA (fun _ => 0))))] H := hP
  replace hD : va_D A [(q, .inr (2, [.int (iI 0), .ref (q + 1), .ref (q + 2), .null, .null, .null, .null, .int (iI 0), .int (iI 0), .long (lI 0)])), (q + 1, .inl (kI K, 4, .inl (iA (fun _ => 0)))), (q + 2, .inl (kI K, 4, .inl (iA (fun _ => 0))))] := hD
  refine lv_aload_n hx hb dS_init_18 rfl (lv_at hl 0 rfl) ?_
  refine iz_iconst hx hb dS_init_19 ?_
  refine W.sz (fun hs9 => ?_)
  replace hz : H.size = q + 3 := by have h9 : q + 2 < H.size := (hP 2 _ rfl).lt; omega
  clear hs9
  refine iz_newi hx hb hT hK hP hD hS hA 4 rfl (by omega) (Nat.le_of_ble_eq_true rfl) (Nat.le_of_ble_eq_true rfl) (z := q + 3) hz dS_init_20 ?_
  clear hz hP hD hS
  intro H hz hP hD hS
  replace hP : va_P (kD K) vcl [(q, .inr (2, [.int (iI 0), .ref (q + 1), .ref (q + 2), .null, .null, .null, .null, .int (iI 0), .int (iI 0), .long (lI 0)])), (q + 1, .inl (kI K, 4, .inl (iA (fun _ => 0)))), (q + 2, .inl (kI K, 4, .inl (iA (fun _ => 0)))), (q + 3, .inl (kI K, 4, .inl (iA (fun _ => 0))))] H := hP
  replace hD : va_D A [(q, .inr (2, [.int (iI 0), .ref (q + 1), .ref (q + 2), .null, .null, .null, .null, .int (iI 0), .int (iI 0), .long (lI 0)])), (q + 1, .inl (kI K, 4, .inl (iA (fun _ => 0)))), (q + 2, .inl (kI K, 4, .inl (iA (fun _ => 0)))), (q + 3, .inl (kI K, 4, .inl (iA (fun _ => 0))))] := hD
  refine W.num (c1 := 3) (s1 := 12) rfl rfl ?_
  refine va_putF (D := kD K) (ci := 2) (v := .ref (q + 3)) (ty := .array .int) (C := RS) (T := FS) (N := 10) hx hb hts jnS tS tS_ok nS hown hK hP hD hS 0 rfl rfl 3 (by decide) (hts _ mt_56) (fun _ h9 => h9) rfl hnm rfl (by decide +kernel) rfl rfl (Nat.le_of_ble_eq_true rfl) dS_init_22 ?_
  clear hP hD hS
  intro H locs hP hD hS
  replace hP : va_P (kD K) vcl [(q, .inr (2, [.int (iI 0), .ref (q + 1), .ref (q + 2), .ref (q + 3), .null, .null, .null, .int (iI 0), .int (iI 0), .long (lI 0)])), (q + 1, .inl (kI K, 4, .inl (iA (fun _ => 0)))), (q + 2, .inl (kI K, 4, .inl (iA (fun _ => 0)))), (q + 3, .inl (kI K, 4, .inl (iA (fun _ => 0))))] H := hP
  replace hD : va_D A [(q, .inr (2, [.int (iI 0), .ref (q + 1), .ref (q + 2), .ref (q + 3), .null, .null, .null, .int (iI 0), .int (iI 0), .long (lI 0)])), (q + 1, .inl (kI K, 4, .inl (iA (fun _ => 0)))), (q + 2, .inl (kI K, 4, .inl (iA (fun _ => 0)))), (q + 3, .inl (kI K, 4, .inl (iA (fun _ => 0))))] := hD
  refine lv_aload_n hx hb dS_init_25 rfl (lv_at hl 0 rfl) ?_
  refine iz_iconst hx hb dS_init_26 ?_
  refine W.sz (fun hs9 => ?_)
  replace hz : H.size = q + 4 := by have h9 : q + 3 < H.size := (hP 3 _ rfl).lt; omega
  clear hs9
  refine iz_newi hx hb hT hK hP hD hS hA 4 rfl (by omega) (Nat.le_of_ble_eq_true rfl) (Nat.le_of_ble_eq_true rfl) (z := q + 4) hz dS_init_27 ?_
  clear hz hP hD hS
  intro H hz hP hD hS
  replace hP : va_P (kD K) vcl [(q, .inr (2, [.int (iI 0), .ref (q + 1), .ref (q + 2), .ref (q + 3), .null, .null, .null, .int (iI 0), .int (iI 0), .long (lI 0)])), (q + 1, .inl (kI K, 4, .inl (iA (fun _ => 0)))), (q + 2, .inl (kI K, 4, .inl (iA (fun _ => 0)))), (q + 3, .inl (kI K, 4, .inl (iA (fun _ => 0)))), (q + 4, .inl (kI K, 4, .inl (iA (fun _ => 0))))] H := hP
  replace hD : va_D A [(q, .inr (2, [.int (iI 0), .ref (q + 1), .ref (q + 2), .ref (q + 3), .null, .null, .null, .int (iI 0), .int (iI 0), .long (lI 0)])), (q + 1, .inl (kI K, 4, .inl (iA (fun _ => 0)))), (q + 2, .inl (kI K, 4, .inl (iA (fun _ => 0)))), (q + 3, .inl (kI K, 4, .inl (iA (fun _ => 0)))), (q + 4, .inl (kI K, 4, .inl (iA (fun _ => 0))))] := hD
  refine W.num (c1 := 4) (s1 := 16) rfl rfl ?_
  refine va_putF (D := kD K) (ci := 2) (v := .ref (q + 4)) (ty := .array .int) (C := RS) (T := FS) (N := 10) hx hb hts jnS tS tS_ok nS hown hK hP hD hS 0 rfl rfl 4 (by decide) (hts _ mt_57) (fun _ h9 => h9) rfl hnm rfl (by decide +kernel) rfl rfl (Nat.le_of_ble_eq_true rfl) dS_init_29 ?_
  clear hP hD hS
  intro H locs hP hD hS
  replace hP : va_P (kD K) vcl [(q, .inr (2, [.int (iI 0), .ref (q + 1), .ref (q + 2), .ref (q + 3), .ref (q + 4), .null, .null, .int (iI 0), .int (iI 0), .long (lI 0)])), (q + 1, .inl (kI K, 4, .inl (iA (fun _ => 0)))), (q + 2, .inl (kI K, 4, .inl (iA (fun _ => 0)))), (q + 3, .inl (kI K, 4, .inl (iA (fun _ => 0)))), (q + 4, .inl (kI K, 4, .inl (iA (fun _ => 0))))] H := hP
  replace hD : va_D A [(q, .inr (2, [.int (iI 0), .ref (q + 1), .ref (q + 2), .ref (q + 3), .ref (q + 4), .null, .null, .int (iI 0), .int (iI 0), .long (lI 0)])), (q + 1, .inl (kI K, 4, .inl (iA (fun _ => 0)))), (q + 2, .inl (kI K, 4, .inl (iA (fun _ => 0)))), (q + 3, .inl (kI K, 4, .inl (iA (fun _ => 0)))), (q + 4, .inl (kI K, 4, .inl (iA (fun _ => 0))))] := hD
  refine lv_aload_n hx hb dS_init_32 rfl (lv_at hl 0 rfl) ?_
  refine iz_iconst hx hb dS_init_33 ?_
  refine W.sz (fun hs9 => ?_)
  replace hz : H.size = q + 5 := by have h9 : q + 4 < H.size := (hP 4 _ rfl).lt; omega
  clear hs9
  refine iz_newi hx hb hT hK hP hD hS hA 4 rfl (by omega) (Nat.le_of_ble_eq_true rfl) (Nat.le_of_ble_eq_true rfl) (z := q + 5) hz dS_init_34 ?_
  clear hz hP hD hS
  intro H hz hP hD hS
  replace hP : va_P (kD K) vcl [(q, .inr (2, [.int (iI 0), .ref (q + 1), .ref (q + 2), .ref (q + 3), .ref (q + 4), .null, .null, .int (iI 0), .int (iI 0), .long (lI 0)])), (q + 1, .inl (kI K, 4, .inl (iA (fun _ => 0)))), (q + 2, .inl (kI K, 4, .inl (iA (fun _ => 0)))), (q + 3, .inl (kI K, 4, .inl (iA (fun _ => 0)))), (q + 4, .inl (kI K, 4, .inl (iA (fun _ => 0)))), (q + 5, .inl (kI K, 4, .inl (iA (fun _ => 0))))] H := hP
  replace hD : va_D A [(q, .inr (2, [.int (iI 0), .ref (q + 1), .ref (q + 2), .ref (q + 3), .ref (q + 4), .null, .null, .int (iI 0), .int (iI 0), .long (lI 0)])), (q + 1, .inl (kI K, 4, .inl (iA (fun _ => 0)))), (q + 2, .inl (kI K, 4, .inl (iA (fun _ => 0)))), (q + 3, .inl (kI K, 4, .inl (iA (fun _ => 0)))), (q + 4, .inl (kI K, 4, .inl (iA (fun _ => 0)))), (q + 5, .inl (kI K, 4, .inl (iA (fun _ => 0))))] := hD
  refine W.num (c1 := 5) (s1 := 20) rfl rfl ?_
  refine va_putF (D := kD K) (ci := 2) (v := .ref (q + 5)) (ty := .array .int) (C := RS) (T := FS) (N := 10) hx hb hts jnS tS tS_ok nS hown hK hP hD hS 0 rfl rfl 5 (by decide) (hts _ mt_58) (fun _ h9 => h9) rfl hnm rfl (by decide +kernel) rfl rfl (Nat.le_of_ble_eq_true rfl) dS_init_36 ?_
  clear hP hD hS
  intro H locs hP hD hS
  replace hP : va_P (kD K) vcl [(q, .inr (2, [.int (iI 0), .ref (q + 1), .ref (q + 2), .ref (q + 3), .ref (q + 4), .ref (q + 5), .null, .int (iI 0), .int (iI 0), .long (lI 0)])), (q + 1, .inl (kI K, 4, .inl (iA (fun _ => 0)))), (q + 2, .inl (kI K, 4, .inl (iA (fun _ => 0)))), (q + 3, .inl (kI K, 4, .inl (iA (fun _ => 0)))), (q + 4, .inl (kI K, 4, .inl (iA (fun _ => 0)))), (q + 5, .inl (kI K, 4, .inl (iA (fun _ => 0))))] H := hP
  replace hD : va_D A [(q, .inr (2, [.int (iI 0), .ref (q + 1), .ref (q + 2), .ref (q + 3), .ref (q + 4), .ref (q + 5), .null, .int (iI 0), .int (iI 0), .long (lI 0)])), (q + 1, .inl (kI K, 4, .inl (iA (fun _ => 0)))), (q + 2, .inl (kI K, 4, .inl (iA (fun _ => 0)))), (q + 3, .inl (kI K, 4, .inl (iA (fun _ => 0)))), (q + 4, .inl (kI K, 4, .inl (iA (fun _ => 0)))), (q + 5, .inl (kI K, 4, .inl (iA (fun _ => 0))))] := hD
  refine lv_aload_n hx hb dS_init_39 rfl (lv_at hl 0 rfl) ?_
  refine iz_iconst hx hb dS_init_40 ?_
  refine W.sz (fun hs9 => ?_)
  replace hz : H.size = q + 6 := by have h9 : q + 5 < H.size := (hP 5 _ rfl).lt; omega
  clear hs9
  refine iz_newi hx hb hT hK hP hD hS hA 4 rfl (by omega) (Nat.le_of_ble_eq_true rfl) (Nat.le_of_ble_eq_true rfl) (z := q + 6) hz dS_init_41 ?_
  clear hz hP hD hS
  intro H hz hP hD hS
  replace hP : va_P (kD K) vcl [(q, .inr (2, [.int (iI 0), .ref (q + 1), .ref (q + 2), .ref (q + 3), .ref (q + 4), .ref (q + 5), .null, .int (iI 0), .int (iI 0), .long (lI 0)])), (q + 1, .inl (kI K, 4, .inl (iA (fun _ => 0)))), (q + 2, .inl (kI K, 4, .inl (iA (fun _ => 0)))), (q + 3, .inl (kI K, 4, .inl (iA (fun _ => 0)))), (q + 4, .inl (kI K, 4, .inl (iA (fun _ => 0)))), (q + 5, .inl (kI K, 4, .inl (iA (fun _ => 0)))), (q + 6, .inl (kI K, 4, .inl (iA (fun _ => 0))))] H := hP
  replace hD : va_D A [(q, .inr (2, [.int (iI 0), .ref (q + 1), .ref (q + 2), .ref (q + 3), .ref (q + 4), .ref (q + 5), .null, .int (iI 0), .int (iI 0), .long (lI 0)])), (q + 1, .inl (kI K, 4, .inl (iA (fun _ => 0)))), (q + 2, .inl (kI K, 4, .inl (iA (fun _ => 0)))), (q + 3, .inl (kI K, 4, .inl (iA (fun _ => 0)))), (q + 4, .inl (kI K, 4, .inl (iA (fun _ => 0)))), (q + 5, .inl (kI K, 4, .inl (iA (fun _ => 0)))), (q + 6, .inl (kI K, 4, .inl (iA (fun _ => 0))))] := hD
  refine W.num (c1 := 6) (s1 := 24) rfl rfl ?_
  refine va_putF (D := kD K) (ci := 2) (v := .ref (q + 6)) (ty := .array .int) (C := RS) (T := FS) (N := 10) hx hb hts jnS tS tS_ok nS hown hK hP hD hS 0 rfl rfl 6 (by decide) (hts _ mt_59) (fun _ h9 => h9) rfl hnm rfl (by decide +kernel) rfl rfl (Nat.le_of_ble_eq_true rfl) dS_init_43 ?_
  clear hP hD hS
  intro H locs hP hD hS
  replace hP : va_P (kD K) vcl [(q, .inr (2, [.int (iI 0), .ref (q + 1), .ref (q + 2), .ref (q + 3), .ref (q + 4), .ref (q + 5), .ref (q + 6), .int (iI 0), .int (iI 0), .long (lI 0)])), (q + 1, .inl (kI K, 4, .inl (iA (fun _ => 0)))), (q + 2, .inl (kI K, 4, .inl (iA (fun _ => 0)))), (q + 3, .inl (kI K, 4, .inl (iA (fun _ => 0)))), (q + 4, .inl (kI K, 4, .inl (iA (fun _ => 0)))), (q + 5, .inl (kI K, 4, .inl (iA (fun _ => 0)))), (q + 6, .inl (kI K, 4, .inl (iA (fun _ => 0))))] H := hP
  replace hD : va_D A [(q, .inr (2, [.int (iI 0), .ref (q + 1), .ref (q + 2), .ref (q + 3), .ref (q + 4), .ref (q + 5), .ref (q + 6), .int (iI 0), .int (iI 0), .long (lI 0)])), (q + 1, .inl (kI K, 4, .inl (iA (fun _ => 0)))), (q + 2, .inl (kI K, 4, .inl (iA (fun _ => 0)))), (q + 3, .inl (kI K, 4, .inl (iA (fun _ => 0)))), (q + 4, .inl (kI K, 4, .inl (iA (fun _ => 0)))), (q + 5, .inl (kI K, 4, .inl (iA (fun _ => 0)))), (q + 6, .inl (kI K, 4, .inl (iA (fun _ => 0))))] := hD
  refine lv_aload_n hx hb dS_init_46 rfl (lv_at hl 0 rfl) ?_
  refine iz_ldc2 hx hb (-1) (by decide) hown (hts _ mt_51) dS_init_47 ?_
  refine va_put (D := kD K) (ci := 2) (v := .long (lI (-1))) (ty := .long) (C := RS) (T := FS) (N := 10) hx hb hts jnS tS tS_ok nS hown hK hP hD hS 0 rfl rfl 9 (by decide) (hts _ mt_62) (fun _ h9 => h9) rfl (by decide +kernel) rfl rfl (Nat.le_of_ble_eq_true rfl) dS_init_50 ?_
  clear hP hD hS
  intro H locs hP hD hS
  replace hP : va_P (kD K) vcl [(q, .inr (2, [.int (iI 0), .ref (q + 1), .ref (q + 2), .ref (q + 3), .ref (q + 4), .ref (q + 5), .ref (q + 6), .int (iI 0), .int (iI 0), .long (lI (-1))])), (q + 1, .inl (kI K, 4, .inl (iA (fun _ => 0)))), (q + 2, .inl (kI K, 4, .inl (iA (fun _ => 0)))), (q + 3, .inl (kI K, 4, .inl (iA (fun _ => 0)))), (q + 4, .inl (kI K, 4, .inl (iA (fun _ => 0)))), (q + 5, .inl (kI K, 4, .inl (iA (fun _ => 0)))), (q + 6, .inl (kI K, 4, .inl (iA (fun _ => 0))))] H := hP
  replace hD : va_D A [(q, .inr (2, [.int (iI 0), .ref (q + 1), .ref (q + 2), .ref (q + 3), .ref (q + 4), .ref (q + 5), .ref (q + 6), .int (iI 0), .int (iI 0), .long (lI (-1))])), (q + 1, .inl (kI K, 4, .inl (iA (fun _ => 0)))), (q + 2, .inl (kI K, 4, .inl (iA (fun _ => 0)))), (q + 3, .inl (kI K, 4, .inl (iA (fun _ => 0)))), (q + 4, .inl (kI K, 4, .inl (iA (fun _ => 0)))), (q + 5, .inl (kI K, 4, .inl (iA (fun _ => 0)))), (q + 6, .inl (kI K, 4, .inl (iA (fun _ => 0))))] := hD
  refine W.sz (fun hs9 => ?_)
  replace hz : H.size = q + 7 := by have h9 : q + 6 < H.size := (hP 6 _ rfl).lt; omega
  clear hs9
  rw [hQ]
  exact iz_vret hx hb hr hlocks (⟨hz, hP⟩) hS.2.2 dS_init_53
