-- the reference: told, need, pack, bars, piece, change
/-- bounds of the walls -/
def MB (wn : Nat) (ar oc lc st tk wa : Nat → Int) : Prop := wn ≤ 12 ∧ (∀ i, i < 12 → (0 ≤ ar i ∧ ar i ≤ 1000000) ∧ (0 ≤ oc i ∧ oc i ≤ 6) ∧ (0 ≤ lc i ∧ lc i ≤ 8)) ∧ (∀ q, q < 96 → (0 ≤ st q ∧ st q < 10) ∧ (0 ≤ tk q ∧ tk q ≤ 500)) ∧ ∀ k, k < 10 → 0 ≤ wa k ∧ wa k ≤ 100
/-- what a wall takes of a stuff -/
def ndW (ar lc st tk : Nat → Int) (k w : Nat) : Int := sm (fun q => if st q = (k : Int) then tk q * ar w else 0) (8 * w) (lc w).toNat
/-- a stuff's need, as the reference has it -/
def ndM (wn : Nat) (ar lc st tk wa : Nat → Int) (k : Nat) : Int := cdiv (sm (ndW ar lc st tk k) 0 wn * (100 + wa k)) 100
theorem ndW_bd {wn : Nat} {ar oc lc st tk wa : Nat → Int} {k w : Nat} (h : MB wn ar oc lc st tk wa) (hw : w < 12) : 0 ≤ ndW ar lc st tk k w ∧ ndW ar lc st tk k w ≤ 4000000000 := by
  obtain ⟨h1, h2, h3, h4⟩ := h
  obtain ⟨q1, q2, q3⟩ := h2 w hw
  have hb : ∀ q, 8 * w ≤ q → q < 8 * w + (lc w).toNat → 0 ≤ (if st q = (k : Int) then tk q * ar w else 0) ∧ (if st q = (k : Int) then tk q * ar w else 0) ≤ 500000000 := by
    intro q a b
    have q4 := (h3 q (by omega)).2
    have q5 := mul_bd q4.1 q4.2 q1.1 q1.2
    split <;> omega
  refine ⟨sm_nn _ _ (fun q a b => (hb q a b).1), ?_⟩
  have h9 := sm_le (f := fun q => if st q = (k : Int) then tk q * ar w else 0) (g := fun _ => 500000000) (lc w).toNat (8 * w) (fun q a b => (hb q a b).2)
  rw [sm_const] at h9
  unfold ndW
  omega
theorem ndM_sum {wn : Nat} {ar oc lc st tk wa : Nat → Int} {k : Nat} (h : MB wn ar oc lc st tk wa) : 0 ≤ sm (ndW ar lc st tk k) 0 wn ∧ sm (ndW ar lc st tk k) 0 wn ≤ 48000000000 := by
  have h1 := h.1
  refine ⟨sm_nn _ _ (fun w a b => (ndW_bd h (by omega)).1), ?_⟩
  have h9 := sm_le (f := ndW ar lc st tk k) (g := fun _ => 4000000000) wn 0 (fun q a b => (ndW_bd h (by omega)).2)
  rw [sm_const] at h9
  omega
theorem ndM_bd {wn : Nat} {ar oc lc st tk wa : Nat → Int} {k : Nat} (h : MB wn ar oc lc st tk wa) (hk : k < 10) : (0 ≤ sm (ndW ar lc st tk k) 0 wn * (100 + wa k) ∧ sm (ndW ar lc st tk k) 0 wn * (100 + wa k) ≤ 9600000000000) ∧ 0 ≤ ndM wn ar lc st tk wa k ∧ ndM wn ar lc st tk wa k ≤ 100000000000 := by
  have h1 := ndM_sum (k := k) h
  have h2 := h.2.2.2 k hk
  have h3 := mul_bd h1.1 h1.2 (show 0 ≤ 100 + wa k by omega) (show 100 + wa k ≤ 200 by omega)
  refine ⟨⟨h3.1, by omega⟩, cdiv_nn (by omega) h3.1, ?_⟩
  exact cdiv_le (by omega) (by omega)
abbrev rmM_told : Room := { frames := 2, cells := 0, slots := 0, locals := 80 }
set_option maxHeartbeats 4000000 in
set_option maxRecDepth 100000 in
/-- told(wall, what) -/
theorem c_M_told (l : Launch) (K : KG) (b : Nat) (cd : Int) (wn : Nat) (ar oc lc st tk wa pk mu pr : Nat → Int) (co : Int) (cn bs : Nat → Int) (ln cu : Int) (pn : Nat) (le : Nat → Int) (bc : Int) (bb ld : Nat → Int) (j : Nat) (x1 x2 : Int) (h1 : r32 x1) (h2 : r32 x2) (hj : 0 ≤ x1 → x1 < wn → x1 = j) (hM : MB wn ar oc lc st tk wa) : Ct l yM_told kM_told rmM_told (PC K [.ref b, .int (iI x1), .int (iI x2)] (fun H => va_P (kD K) vcl (mdW K b cd wn ar oc lc st tk wa pk mu pr co cn bs ln cu pn le bc bb ld) H)) (QI (fun r H => (¬ ((0 ≤ x1 ∧ x1 < wn) ∧ (0 ≤ x2 ∧ x2 ≤ 2)) ∧ va_P (kD K) vcl (mdW K b 1 wn ar oc lc st tk wa pk mu pr co cn bs ln cu pn le bc bb ld) H) ∨ (((0 ≤ x1 ∧ x1 < wn) ∧ (0 ≤ x2 ∧ x2 ≤ 2)) ∧ r = (if x2 = 0 then ar j else if x2 = 1 then sm tk (8 * j) (lc j).toNat else oc j) ∧ va_P (kD K) vcl (mdW K b 0 wn ar oc lc st tk wa pk mu pr co cn bs ln cu pn le bc bb ld) H))) (fun x => b ≤ x ∧ x < b + 15) := by
  refine ct_of (by decide) (Or.inl ⟨rfl, rfl⟩) ?_
  intro p e s m args below meth c B0 hP0
  obtain ⟨hx, hb, hr, hml, hown, hlocks, hnm, htab⟩ := B0
  obtain ⟨ha, ⟨hT, hK⟩, hB⟩ := hP0
  have hl := lv_entry ([.ref b, .int (iI x1), .int (iI x2)]) (n := 5) (Nat.le_of_ble_eq_true rfl)
  obtain ⟨Q, hQ⟩ : ∃ Q, Q = XQ below (QI (fun r H => (¬ ((0 ≤ x1 ∧ x1 < wn) ∧ (0 ≤ x2 ∧ x2 ≤ 2)) ∧ va_P (kD K) vcl (mdW K b 1 wn ar oc lc st tk wa pk mu pr co cn bs ln cu pn le bc bb ld) H) ∨ (((0 ≤ x1 ∧ x1 < wn) ∧ (0 ≤ x2 ∧ x2 ≤ 2)) ∧ r = (if x2 = 0 then ar j else if x2 = 1 then sm tk (8 * j) (lc j).toNat else oc j) ∧ va_P (kD K) vcl (mdW K b 0 wn ar oc lc st tk wa pk mu pr co cn bs ln cu pn le bc bb ld) H))) args s rmM_told.cells rmM_told.slots (fun x => b ≤ x ∧ x < b + 15) := ⟨_, rfl⟩
  rw [← hQ, ha, lg_entry_eq]
  rw [ha] at hQ
  generalize (lg_sl ([.ref b, .int (iI x1), .int (iI x2)]) ++ List.replicate (5 - (lg_sl ([.ref b, .int (iI x1), .int (iI x2)])).length) Slot.unset).toArray = ls at hl ⊢
  generalize ([.ref b, .int (iI x1), .int (iI x2)] : List Value).toArray = args at hQ ⊢
  have hts : ∀ w ∈ TW, w.before args s = true := fun w h => hT w h args
  have hl : lv_has ls 5 [(0, .ref b), (1, .int (iI x1)), (2, .int (iI x2))] := hl
  obtain ⟨A, hAe⟩ : ∃ A : Addr → Prop, A = (fun x => b ≤ x ∧ x < b + 15) := ⟨_, rfl⟩
  rw [← hAe] at hQ
  have hS : va_S A s.heap s.heap [] := va_S.rf
  have hP : va_P (kD K) vcl [(b, .inr (4, [.int (iI cd), .int (iI (wn : Int)), .ref (b + 1), .ref (b + 2), .ref (b + 3), .ref (b + 4), .ref (b + 5), .ref (b + 6), .ref (b + 7), .ref (b + 8), .ref (b + 9), .long (lI co), .ref (b + 10), .ref (b + 11), .int (iI ln), .int (iI cu), .int (iI (pn : Int)), .ref (b + 12), .int (iI bc), .ref (b + 13), .ref (b + 14)])), (b + 1, .inl (kI K, 12, .inl (iA ar))), (b + 2, .inl (kI K, 12, .inl (iA oc))), (b + 3, .inl (kI K, 12, .inl (iA lc))), (b + 4, .inl (kI K, 96, .inl (iA st))), (b + 5, .inl (kI K, 96, .inl (iA tk))), (b + 6, .inl (kI K, 10, .inl (iA wa))), (b + 7, .inl (kI K, 10, .inl (iA pk))), (b + 8, .inl (kL K, 40, .inr (.inl (lA mu)))), (b + 9, .inl (kL K, 40, .inr (.inl (lA pr)))), (b + 10, .inl (kI K, 4, .inl (iA cn))), (b + 11, .inl (kI K, 4, .inl (iA bs))), (b + 12, .inl (kI K, 10, .inl (iA le))), (b + 13, .inl (kI K, 10, .inl (iA bb))), (b + 14, .inl (kI K, 10, .inl (iA ld)))] s.heap := hB
  have hD : va_D A [(b, .inr (4, [.int (iI cd), .int (iI (wn : Int)), .ref (b + 1), .ref (b + 2), .ref (b + 3), .ref (b + 4), .ref (b + 5), .ref (b + 6), .ref (b + 7), .ref (b + 8), .ref (b + 9), .long (lI co), .ref (b + 10), .ref (b + 11), .int (iI ln), .int (iI cu), .int (iI (pn : Int)), .ref (b + 12), .int (iI bc), .ref (b + 13), .ref (b + 14)])), (b + 1, .inl (kI K, 12, .inl (iA ar))), (b + 2, .inl (kI K, 12, .inl (iA oc))), (b + 3, .inl (kI K, 12, .inl (iA lc))), (b + 4, .inl (kI K, 96, .inl (iA st))), (b + 5, .inl (kI K, 96, .inl (iA tk))), (b + 6, .inl (kI K, 10, .inl (iA wa))), (b + 7, .inl (kI K, 10, .inl (iA pk))), (b + 8, .inl (kL K, 40, .inr (.inl (lA mu)))), (b + 9, .inl (kL K, 40, .inr (.inl (lA pr)))), (b + 10, .inl (kI K, 4, .inl (iA cn))), (b + 11, .inl (kI K, 4, .inl (iA bs))), (b + 12, .inl (kI K, 10, .inl (iA le))), (b + 13, .inl (kI K, 10, .inl (iA bb))), (b + 14, .inl (kI K, 10, .inl (iA ld)))] := by rw [hAe]; exact va_D_of (by simp) (by simp <;> omega)
  have hn := hM.1
  refine lv_aload_n hx hb dM_told_0 rfl (lv_at hl 0 rfl) ?_
  refine lv_aload_n hx hb dM_told_1 rfl (lv_at hl 0 rfl) ?_
  refine lv_iload_n hx hb dM_told_2 rfl (lv_at hl 1 rfl) ?_
  refine ctV (n := 1) hx hb hml hown hT ⟨c_M_isWall l K b cd wn ar oc lc st tk wa pk mu pr co cn bs ln cu pn le bc bb ld x1 ⟨by omega, by omega⟩ (by omega), ⟨_, _, _, Or.inl ⟨rfl, rfl⟩⟩, mt_547, mt_5, by decide, by decide +kernel, by decide, by decide, by decide, by decide⟩ PC.blind mt_544 mt_546 ms_22 (va_RVof (ci := 4) (q0 := 0) hK hP rfl rfl) (As := [.int (iI x1)]) (rest := [.ref b]) rfl (PC.at ⟨hT, hK⟩ hP) hl.1 rfl (Nat.le_of_ble_eq_true rfl) dM_told_3 (krI0 rfl rfl (fun _ h => h) (fun r g1 => ?_))
  rcases g1 with ⟨rfl, g1⟩ | ⟨rfl, g1⟩
  · refine iz_if_eq (tgt := 25) hx hb ⟨by omega, by omega⟩ dM_told_6 (by decide) (fun g => absurd g (by decide)) (fun _ => ?_)
    refine lv_iload_n hx hb dM_told_9 rfl (lv_at hl 2 rfl) ?_
    refine iz_i2l hx hb ⟨by omega, by omega⟩ dM_told_10 ?_
    refine iz_lconst hx hb 0 rfl dM_told_11 ?_
    refine iz_ldc2 hx hb (2) (by decide) hown (hts _ mt_566) dM_told_12 ?_
    refine ctS (n := 3) hx hb hml hown hT ⟨c_M_isIn l K x2 0 2 ⟨by omega, by omega⟩ ⟨by omega, by omega⟩ ⟨by omega, by omega⟩, ⟨_, _, _, Or.inl ⟨rfl, rfl⟩⟩, mt_539, mt_5, by decide, by decide +kernel, by decide, by decide, by decide, by decide⟩ PC.blind mt_537 mt_538 (As := [.long (lI x2), .long (lI 0), .long (lI 2)]) (rest := [.ref b]) rfl (PC.at ⟨hT, hK⟩ trivial) hl.1 rfl (Nat.le_of_ble_eq_true rfl) dM_told_15 (krI0 rfl rfl (fun _ h => h) (fun r g2 => ?_))
    rcases g2 with ⟨rfl, g2⟩ | ⟨rfl, g2⟩
    · refine iz_if_eq (tgt := 25) hx hb ⟨by omega, by omega⟩ dM_told_18 (by decide) (fun g => absurd g (by decide)) (fun _ => ?_)
      refine iz_iconst hx hb dM_told_21 ?_
      refine lv_goto (tgt := 26) hx hb dM_told_22 (by decide) ?_
      refine va_put (D := kD K) (ci := 4) (v := .int (iI 0)) (ty := .int) (C := RM) (T := FM) (N := 21) hx hb hts jnM tM tM_ok nM hown hK hP hD hS 0 rfl rfl 0 (by decide) (hts _ mt_463) (fun _ h9 => h9) rfl (by decide +kernel) rfl rfl (Nat.le_of_ble_eq_true rfl) dM_told_26 ?_
      clear hP hD hS
      intro H locs hP hD hS
      replace hP : va_P (kD K) vcl [(b, .inr (4, [.int (iI 0), .int (iI (wn : Int)), .ref (b + 1), .ref (b + 2), .ref (b + 3), .ref (b + 4), .ref (b + 5), .ref (b + 6), .ref (b + 7), .ref (b + 8), .ref (b + 9), .long (lI co), .ref (b + 10), .ref (b + 11), .int (iI ln), .int (iI cu), .int (iI (pn : Int)), .ref (b + 12), .int (iI bc), .ref (b + 13), .ref (b + 14)])), (b + 1, .inl (kI K, 12, .inl (iA ar))), (b + 2, .inl (kI K, 12, .inl (iA oc))), (b + 3, .inl (kI K, 12, .inl (iA lc))), (b + 4, .inl (kI K, 96, .inl (iA st))), (b + 5, .inl (kI K, 96, .inl (iA tk))), (b + 6, .inl (kI K, 10, .inl (iA wa))), (b + 7, .inl (kI K, 10, .inl (iA pk))), (b + 8, .inl (kL K, 40, .inr (.inl (lA mu)))), (b + 9, .inl (kL K, 40, .inr (.inl (lA pr)))), (b + 10, .inl (kI K, 4, .inl (iA cn))), (b + 11, .inl (kI K, 4, .inl (iA bs))), (b + 12, .inl (kI K, 10, .inl (iA le))), (b + 13, .inl (kI K, 10, .inl (iA bb))), (b + 14, .inl (kI K, 10, .inl (iA ld)))] H := hP
      replace hD : va_D A [(b, .inr (4, [.int (iI 0), .int (iI (wn : Int)), .ref (b + 1), .ref (b + 2), .ref (b + 3), .ref (b + 4), .ref (b + 5), .ref (b + 6), .ref (b + 7), .ref (b + 8), .ref (b + 9), .long (lI co), .ref (b + 10), .ref (b + 11), .int (iI ln), .int (iI cu), .int (iI (pn : Int)), .ref (b + 12), .int (iI bc), .ref (b + 13), .ref (b + 14)])), (b + 1, .inl (kI K, 12, .inl (iA ar))), (b + 2, .inl (kI K, 12, .inl (iA oc))), (b + 3, .inl (kI K, 12, .inl (iA lc))), (b + 4, .inl (kI K, 96, .inl (iA st))), (b + 5, .inl (kI K, 96, .inl (iA tk))), (b + 6, .inl (kI K, 10, .inl (iA wa))), (b + 7, .inl (kI K, 10, .inl (iA pk))), (b + 8, .inl (kL K, 40, .inr (.inl (lA mu)))), (b + 9, .inl (kL K, 40, .inr (.inl (lA pr)))), (b + 10, .inl (kI K, 4, .inl (iA cn))), (b + 11, .inl (kI K, 4, .inl (iA bs))), (b + 12, .inl (kI K, 10, .inl (iA le))), (b + 13, .inl (kI K, 10, .inl (iA bb))), (b + 14, .inl (kI K, 10, .inl (iA ld)))] := hD
      refine lv_aload_n hx hb dM_told_29 rfl (lv_at hl 0 rfl) ?_
      refine va_get (D := kD K) (ci := 4) (v := .int (iI 0)) (C := RM) (T := FM) (N := 21) hx hb hts jnM hown hK hP 0 rfl rfl 0 (by decide) (hts _ mt_463) (fun _ h9 => h9) rfl dM_told_30 ?_
      refine iz_if_le (tgt := 38) hx hb ⟨by omega, by omega⟩ dM_told_33 (by decide) (fun _ => ?_) (fun g => absurd g (by decide))
      have e1 := hj (by omega) (by omega)
      subst e1
      obtain ⟨⟨qa1, qa2⟩, ⟨qo1, qo2⟩, ql1, ql2⟩ := hM.2.1 j (by omega)
      clear hj
      have loop : ∀ (n i : Nat) (ac : Int), (lc j).toNat + 1 ≤ i + n → i ≤ (lc j).toNat → ac = sm tk (8 * j) i → ∀ ls : Array Slot, lv_has ls 5 [(0, .ref b), (1, .int (iI (j : Int))), (2, .int (iI x2)), (3, .int (iI ac)), (4, .int (iI ((8 * j + i : Nat) : Int)))] → W p l e rmM_told s m args below meth c H locs 0 0 Q (F0 m 46 ls []) := by
        intro n
        induction n with
        | zero => intro i ac h1 h2; omega
        | succ n ih =>
          intro i ac h1 h2 hac ls hl
          refine lv_iload hx hb dM_told_46 (lv_at hl 4 rfl) ?_
          refine iz_bipush hx hb dM_told_48 (by decide) ?_
          refine lv_iload_n hx hb dM_told_50 rfl (lv_at hl 1 rfl) ?_
          refine iz_imul hx hb dM_told_51 ?_
          refine lv_aload_n hx hb dM_told_52 rfl (lv_at hl 0 rfl) ?_
          refine va_get (D := kD K) (ci := 4) (v := .ref (b + 3)) (C := RM) (T := FM) (N := 21) hx hb hts jnM hown hK hP 0 rfl rfl 4 (by decide) (hts _ mt_467) (fun _ h9 => h9) rfl dM_told_53 ?_
          refine lv_iload_n hx hb dM_told_56 rfl (lv_at hl 1 rfl) ?_
          refine iz_iald hx hb hK hP 3 rfl j rfl (by omega) (by omega) dM_told_57 ?_
          refine iz_iadd hx hb dM_told_58 ?_
          refine iz_icmp_ge (tgt := 78) hx hb ⟨by omega, by omega⟩ ⟨by omega, by omega⟩ dM_told_59 (by decide) (fun gg => ?_) (fun gg => ?_)
          · have e : i = (lc j).toNat := by omega
            subst e
            refine lv_iload_n hx hb dM_told_78 rfl (lv_at hl 2 rfl) ?_
            refine iz_if_ne (tgt := 91) hx hb ⟨by omega, by omega⟩ dM_told_79 (by decide) (fun g1 => ?_) (fun g1 => ?_)
            · refine lv_iload_n hx hb dM_told_91 rfl (lv_at hl 2 rfl) ?_
              refine iz_iconst hx hb dM_told_92 ?_
              refine iz_icmp_ne (tgt := 100) hx hb ⟨by omega, by omega⟩ ⟨by omega, by omega⟩ dM_told_93 (by decide) (fun g2 => ?_) (fun g2 => ?_)
              · refine lv_aload_n hx hb dM_told_100 rfl (lv_at hl 0 rfl) ?_
                refine va_get (D := kD K) (ci := 4) (v := .ref (b + 2)) (C := RM) (T := FM) (N := 21) hx hb hts jnM hown hK hP 0 rfl rfl 3 (by decide) (hts _ mt_466) (fun _ h9 => h9) rfl dM_told_101 ?_
                refine lv_iload_n hx hb dM_told_104 rfl (lv_at hl 1 rfl) ?_
                refine iz_iald hx hb hK hP 2 rfl j rfl (by omega) (by omega) dM_told_105 ?_
                rw [hQ]
                exact iz_iret hx hb hr hlocks (Or.inr ⟨by omega, by rw [if_neg (by omega), if_neg (by omega)], hP⟩) hS.2.2 dM_told_106
              · refine lv_iload_n hx hb dM_told_96 rfl (lv_at hl 3 rfl) ?_
                refine lv_goto (tgt := 106) hx hb dM_told_97 (by decide) ?_
                rw [hQ]
                exact iz_iret hx hb hr hlocks (Or.inr ⟨by omega, by rw [if_neg (by omega), if_pos (by omega)]; exact hac, hP⟩) hS.2.2 dM_told_106
            · refine lv_aload_n hx hb dM_told_82 rfl (lv_at hl 0 rfl) ?_
              refine va_get (D := kD K) (ci := 4) (v := .ref (b + 1)) (C := RM) (T := FM) (N := 21) hx hb hts jnM hown hK hP 0 rfl rfl 2 (by decide) (hts _ mt_465) (fun _ h9 => h9) rfl dM_told_83 ?_
              refine lv_iload_n hx hb dM_told_86 rfl (lv_at hl 1 rfl) ?_
              refine iz_iald hx hb hK hP 1 rfl j rfl (by omega) (by omega) dM_told_87 ?_
              refine lv_goto (tgt := 106) hx hb dM_told_88 (by decide) ?_
              rw [hQ]
              exact iz_iret hx hb hr hlocks (Or.inr ⟨by omega, by rw [if_pos (by omega)], hP⟩) hS.2.2 dM_told_106
          · refine lv_iload_n hx hb dM_told_62 rfl (lv_at hl 3 rfl) ?_
            refine lv_aload_n hx hb dM_told_63 rfl (lv_at hl 0 rfl) ?_
            refine va_get (D := kD K) (ci := 4) (v := .ref (b + 5)) (C := RM) (T := FM) (N := 21) hx hb hts jnM hown hK hP 0 rfl rfl 6 (by decide) (hts _ mt_469) (fun _ h9 => h9) rfl dM_told_64 ?_
            refine lv_iload hx hb dM_told_67 (lv_at hl 4 rfl) ?_
            refine iz_iald hx hb hK hP 5 rfl (8 * j + i) rfl (by omega) (by omega) dM_told_69 ?_
            refine iz_iadd hx hb dM_told_70 ?_
            refine lv_istore_n (lv' := [(3, .int (iI (ac + (tk (8 * j + i))))), (0, .ref b), (1, .int (iI (j : Int))), (2, .int (iI x2)), (4, .int (iI ((8 * j + i : Nat) : Int)))]) hx hb dM_told_71 rfl hl (by decide) rfl (fun ls hl => ?_)
            refine iz_iinc (k := 4) (lv' := [(4, .int (iI (((8 * j + i : Nat) : Int) + 1))), (3, .int (iI (ac + (tk (8 * j + i))))), (0, .ref b), (1, .int (iI (j : Int))), (2, .int (iI x2))]) hx hb dM_told_72 hl rfl (by decide) rfl (fun ls hl => ?_)
            refine lv_goto (tgt := 46) hx hb dM_told_75 (by decide) ?_
            exact ih (i + 1) (ac + tk (8 * j + i)) (by omega) (by omega) (by rw [sm_snoc, hac]) ls (lv_sub hl [2, 3, 4, 1, 0] rfl)
      refine iz_iconst hx hb dM_told_38 ?_
      refine lv_istore_n (lv' := [(3, .int (iI 0)), (0, .ref b), (1, .int (iI (j : Int))), (2, .int (iI x2))]) hx hb dM_told_39 rfl hl (by decide) rfl (fun ls hl => ?_)
      refine iz_bipush hx hb dM_told_40 (by decide) ?_
      refine lv_iload_n hx hb dM_told_42 rfl (lv_at hl 2 rfl) ?_
      refine iz_imul hx hb dM_told_43 ?_
      refine lv_istore (lv' := [(4, .int (iI (8 * (j : Int)))), (3, .int (iI 0)), (0, .ref b), (1, .int (iI (j : Int))), (2, .int (iI x2))]) hx hb dM_told_44 hl (by decide) rfl (fun ls hl => ?_)
      exact loop ((lc j).toNat + 1) 0 0 (by omega) (by omega) rfl ls (lv_sub hl [2, 3, 4, 1, 0] rfl)
    · refine iz_if_eq (tgt := 25) hx hb ⟨by omega, by omega⟩ dM_told_18 (by decide) (fun _ => ?_) (fun g => absurd g (by decide))
      refine iz_iconst hx hb dM_told_25 ?_
      refine va_put (D := kD K) (ci := 4) (v := .int (iI 1)) (ty := .int) (C := RM) (T := FM) (N := 21) hx hb hts jnM tM tM_ok nM hown hK hP hD hS 0 rfl rfl 0 (by decide) (hts _ mt_463) (fun _ h9 => h9) rfl (by decide +kernel) rfl rfl (Nat.le_of_ble_eq_true rfl) dM_told_26 ?_
      clear hP hD hS
      intro H locs hP hD hS
      replace hP : va_P (kD K) vcl [(b, .inr (4, [.int (iI 1), .int (iI (wn : Int)), .ref (b + 1), .ref (b + 2), .ref (b + 3), .ref (b + 4), .ref (b + 5), .ref (b + 6), .ref (b + 7), .ref (b + 8), .ref (b + 9), .long (lI co), .ref (b + 10), .ref (b + 11), .int (iI ln), .int (iI cu), .int (iI (pn : Int)), .ref (b + 12), .int (iI bc), .ref (b + 13), .ref (b + 14)])), (b + 1, .inl (kI K, 12, .inl (iA ar))), (b + 2, .inl (kI K, 12, .inl (iA oc))), (b + 3, .inl (kI K, 12, .inl (iA lc))), (b + 4, .inl (kI K, 96, .inl (iA st))), (b + 5, .inl (kI K, 96, .inl (iA tk))), (b + 6, .inl (kI K, 10, .inl (iA wa))), (b + 7, .inl (kI K, 10, .inl (iA pk))), (b + 8, .inl (kL K, 40, .inr (.inl (lA mu)))), (b + 9, .inl (kL K, 40, .inr (.inl (lA pr)))), (b + 10, .inl (kI K, 4, .inl (iA cn))), (b + 11, .inl (kI K, 4, .inl (iA bs))), (b + 12, .inl (kI K, 10, .inl (iA le))), (b + 13, .inl (kI K, 10, .inl (iA bb))), (b + 14, .inl (kI K, 10, .inl (iA ld)))] H := hP
      replace hD : va_D A [(b, .inr (4, [.int (iI 1), .int (iI (wn : Int)), .ref (b + 1), .ref (b + 2), .ref (b + 3), .ref (b + 4), .ref (b + 5), .ref (b + 6), .ref (b + 7), .ref (b + 8), .ref (b + 9), .long (lI co), .ref (b + 10), .ref (b + 11), .int (iI ln), .int (iI cu), .int (iI (pn : Int)), .ref (b + 12), .int (iI bc), .ref (b + 13), .ref (b + 14)])), (b + 1, .inl (kI K, 12, .inl (iA ar))), (b + 2, .inl (kI K, 12, .inl (iA oc))), (b + 3, .inl (kI K, 12, .inl (iA lc))), (b + 4, .inl (kI K, 96, .inl (iA st))), (b + 5, .inl (kI K, 96, .inl (iA tk))), (b + 6, .inl (kI K, 10, .inl (iA wa))), (b + 7, .inl (kI K, 10, .inl (iA pk))), (b + 8, .inl (kL K, 40, .inr (.inl (lA mu)))), (b + 9, .inl (kL K, 40, .inr (.inl (lA pr)))), (b + 10, .inl (kI K, 4, .inl (iA cn))), (b + 11, .inl (kI K, 4, .inl (iA bs))), (b + 12, .inl (kI K, 10, .inl (iA le))), (b + 13, .inl (kI K, 10, .inl (iA bb))), (b + 14, .inl (kI K, 10, .inl (iA ld)))] := hD
      refine lv_aload_n hx hb dM_told_29 rfl (lv_at hl 0 rfl) ?_
      refine va_get (D := kD K) (ci := 4) (v := .int (iI 1)) (C := RM) (T := FM) (N := 21) hx hb hts jnM hown hK hP 0 rfl rfl 0 (by decide) (hts _ mt_463) (fun _ h9 => h9) rfl dM_told_30 ?_
      refine iz_if_le (tgt := 38) hx hb ⟨by omega, by omega⟩ dM_told_33 (by decide) (fun g => absurd g (by decide)) (fun _ => ?_)
      refine iz_iconst hx hb dM_told_36 ?_
      rw [hQ]
      exact iz_iret hx hb hr hlocks (Or.inl ⟨by omega, hP⟩) hS.2.2 dM_told_37
  · refine iz_if_eq (tgt := 25) hx hb ⟨by omega, by omega⟩ dM_told_6 (by decide) (fun _ => ?_) (fun g => absurd g (by decide))
    refine iz_iconst hx hb dM_told_25 ?_
    refine va_put (D := kD K) (ci := 4) (v := .int (iI 1)) (ty := .int) (C := RM) (T := FM) (N := 21) hx hb hts jnM tM tM_ok nM hown hK hP hD hS 0 rfl rfl 0 (by decide) (hts _ mt_463) (fun _ h9 => h9) rfl (by decide +kernel) rfl rfl (Nat.le_of_ble_eq_true rfl) dM_told_26 ?_
    clear hP hD hS
    intro H locs hP hD hS
    replace hP : va_P (kD K) vcl [(b, .inr (4, [.int (iI 1), .int (iI (wn : Int)), .ref (b + 1), .ref (b + 2), .ref (b + 3), .ref (b + 4), .ref (b + 5), .ref (b + 6), .ref (b + 7), .ref (b + 8), .ref (b + 9), .long (lI co), .ref (b + 10), .ref (b + 11), .int (iI ln), .int (iI cu), .int (iI (pn : Int)), .ref (b + 12), .int (iI bc), .ref (b + 13), .ref (b + 14)])), (b + 1, .inl (kI K, 12, .inl (iA ar))), (b + 2, .inl (kI K, 12, .inl (iA oc))), (b + 3, .inl (kI K, 12, .inl (iA lc))), (b + 4, .inl (kI K, 96, .inl (iA st))), (b + 5, .inl (kI K, 96, .inl (iA tk))), (b + 6, .inl (kI K, 10, .inl (iA wa))), (b + 7, .inl (kI K, 10, .inl (iA pk))), (b + 8, .inl (kL K, 40, .inr (.inl (lA mu)))), (b + 9, .inl (kL K, 40, .inr (.inl (lA pr)))), (b + 10, .inl (kI K, 4, .inl (iA cn))), (b + 11, .inl (kI K, 4, .inl (iA bs))), (b + 12, .inl (kI K, 10, .inl (iA le))), (b + 13, .inl (kI K, 10, .inl (iA bb))), (b + 14, .inl (kI K, 10, .inl (iA ld)))] H := hP
    replace hD : va_D A [(b, .inr (4, [.int (iI 1), .int (iI (wn : Int)), .ref (b + 1), .ref (b + 2), .ref (b + 3), .ref (b + 4), .ref (b + 5), .ref (b + 6), .ref (b + 7), .ref (b + 8), .ref (b + 9), .long (lI co), .ref (b + 10), .ref (b + 11), .int (iI ln), .int (iI cu), .int (iI (pn : Int)), .ref (b + 12), .int (iI bc), .ref (b + 13), .ref (b + 14)])), (b + 1, .inl (kI K, 12, .inl (iA ar))), (b + 2, .inl (kI K, 12, .inl (iA oc))), (b + 3, .inl (kI K, 12, .inl (iA lc))), (b + 4, .inl (kI K, 96, .inl (iA st))), (b + 5, .inl (kI K, 96, .inl (iA tk))), (b + 6, .inl (kI K, 10, .inl (iA wa))), (b + 7, .inl (kI K, 10, .inl (iA pk))), (b + 8, .inl (kL K, 40, .inr (.inl (lA mu)))), (b + 9, .inl (kL K, 40, .inr (.inl (lA pr)))), (b + 10, .inl (kI K, 4, .inl (iA cn))), (b + 11, .inl (kI K, 4, .inl (iA bs))), (b + 12, .inl (kI K, 10, .inl (iA le))), (b + 13, .inl (kI K, 10, .inl (iA bb))), (b + 14, .inl (kI K, 10, .inl (iA ld)))] := hD
    refine lv_aload_n hx hb dM_told_29 rfl (lv_at hl 0 rfl) ?_
    refine va_get (D := kD K) (ci := 4) (v := .int (iI 1)) (C := RM) (T := FM) (N := 21) hx hb hts jnM hown hK hP 0 rfl rfl 0 (by decide) (hts _ mt_463) (fun _ h9 => h9) rfl dM_told_30 ?_
    refine iz_if_le (tgt := 38) hx hb ⟨by omega, by omega⟩ dM_told_33 (by decide) (fun g => absurd g (by decide)) (fun _ => ?_)
    refine iz_iconst hx hb dM_told_36 ?_
    rw [hQ]
    exact iz_iret hx hb hr hlocks (Or.inl ⟨by omega, hP⟩) hS.2.2 dM_told_37
abbrev rmM_needOf : Room := { frames := 1, cells := 0, slots := 0, locals := 40 }
set_option maxHeartbeats 4000000 in
set_option maxRecDepth 100000 in
/-- needOf(stuff) -/
theorem c_M_needOf (l : Launch) (K : KG) (b : Nat) (cd : Int) (wn : Nat) (ar oc lc st tk wa pk mu pr : Nat → Int) (co : Int) (cn bs : Nat → Int) (ln cu : Int) (pn : Nat) (le : Nat → Int) (bc : Int) (bb ld : Nat → Int) (k : Nat) (hk : k < 10) (hM : MB wn ar oc lc st tk wa) : Ct l yM_needOf kM_needOf rmM_needOf (PC K [.ref b, .int (iI (k : Int))] (fun H => va_P (kD K) vcl (mdW K b cd wn ar oc lc st tk wa pk mu pr co cn bs ln cu pn le bc bb ld) H)) (QL (fun r _ => r = ndM wn ar lc st tk wa k)) (fun _ => False) := by
  refine ct_of (by decide) (Or.inl ⟨rfl, rfl⟩) ?_
  intro p e s m args below meth c B0 hP0
  obtain ⟨hx, hb, hr, hml, hown, hlocks, hnm, htab⟩ := B0
  obtain ⟨ha, ⟨hT, hK⟩, hB⟩ := hP0
  have hl := lv_entry ([.ref b, .int (iI (k : Int))]) (n := 6) (Nat.le_of_ble_eq_true rfl)
  obtain ⟨Q, hQ⟩ : ∃ Q, Q = XQ below (QL (fun r _ => r = ndM wn ar lc st tk wa k)) args s rmM_needOf.cells rmM_needOf.slots (fun _ => False) := ⟨_, rfl⟩
  rw [← hQ, ha, lg_entry_eq]
  rw [ha] at hQ
  generalize (lg_sl ([.ref b, .int (iI (k : Int))]) ++ List.replicate (6 - (lg_sl ([.ref b, .int (iI (k : Int))])).length) Slot.unset).toArray = ls at hl ⊢
  generalize ([.ref b, .int (iI (k : Int))] : List Value).toArray = args at hQ ⊢
  have hts : ∀ w ∈ TW, w.before args s = true := fun w h => hT w h args
  have hl : lv_has ls 6 [(0, .ref b), (1, .int (iI (k : Int)))] := hl
  obtain ⟨A, hAe⟩ : ∃ A : Addr → Prop, A = (fun _ => False) := ⟨_, rfl⟩
  rw [← hAe] at hQ
  have hS : va_S A s.heap s.heap [] := va_S.rf
  have hP : va_P (kD K) vcl [(b, .inr (4, [.int (iI cd), .int (iI (wn : Int)), .ref (b + 1), .ref (b + 2), .ref (b + 3), .ref (b + 4), .ref (b + 5), .ref (b + 6), .ref (b + 7), .ref (b + 8), .ref (b + 9), .long (lI co), .ref (b + 10), .ref (b + 11), .int (iI ln), .int (iI cu), .int (iI (pn : Int)), .ref (b + 12), .int (iI bc), .ref (b + 13), .ref (b + 14)])), (b + 1, .inl (kI K, 12, .inl (iA ar))), (b + 2, .inl (kI K, 12, .inl (iA oc))), (b + 3, .inl (kI K, 12, .inl (iA lc))), (b + 4, .inl (kI K, 96, .inl (iA st))), (b + 5, .inl (kI K, 96, .inl (iA tk))), (b + 6, .inl (kI K, 10, .inl (iA wa))), (b + 7, .inl (kI K, 10, .inl (iA pk))), (b + 8, .inl (kL K, 40, .inr (.inl (lA mu)))), (b + 9, .inl (kL K, 40, .inr (.inl (lA pr)))), (b + 10, .inl (kI K, 4, .inl (iA cn))), (b + 11, .inl (kI K, 4, .inl (iA bs))), (b + 12, .inl (kI K, 10, .inl (iA le))), (b + 13, .inl (kI K, 10, .inl (iA bb))), (b + 14, .inl (kI K, 10, .inl (iA ld)))] s.heap := hB
  have hn := hM.1
  have inner : ∀ (w : Nat), w < wn → ∀ (n i : Nat) (ac a0 : Int), (lc w).toNat + 1 ≤ i + n → i ≤ (lc w).toNat → ac = a0 + sm (fun q => if st q = (k : Int) then tk q * ar w else 0) (8 * w) i → (∀ (ac : Int), ac = a0 + ndW ar lc st tk k w → ∀ ls : Array Slot, lv_has ls 6 [(0, .ref b), (1, .int (iI (k : Int))), (2, .long (lI ac)), (4, .int (iI (w : Int)))] → W p l e rmM_needOf s m args below meth c s.heap [] 0 0 Q (F0 m 80 ls [])) → ∀ ls : Array Slot, lv_has ls 6 [(0, .ref b), (1, .int (iI (k : Int))), (2, .long (lI ac)), (4, .int (iI (w : Int))), (5, .int (iI ((8 * w + i : Nat) : Int)))] → W p l e rmM_needOf s m args below meth c s.heap [] 0 0 Q (F0 m 21 ls []) := by
    intro w hw n
    obtain ⟨⟨qa1, qa2⟩, -, ql1, ql2⟩ := hM.2.1 w (by omega)
    induction n with
    | zero => intro i ac a0 h1 h2; omega
    | succ n ih =>
      intro i ac a0 h1 h2 hac kk ls hl
      refine lv_iload hx hb dM_needOf_21 (lv_at hl 4 rfl) ?_
      refine iz_bipush hx hb dM_needOf_23 (by decide) ?_
      refine lv_iload hx hb dM_needOf_25 (lv_at hl 3 rfl) ?_
      refine iz_imul hx hb dM_needOf_27 ?_
      refine lv_aload_n hx hb dM_needOf_28 rfl (lv_at hl 0 rfl) ?_
      refine va_get (D := kD K) (ci := 4) (v := .ref (b + 3)) (C := RM) (T := FM) (N := 21) hx hb hts jnM hown hK hP 0 rfl rfl 4 (by decide) (hts _ mt_467) (fun _ h9 => h9) rfl dM_needOf_29 ?_
      refine lv_iload hx hb dM_needOf_32 (lv_at hl 3 rfl) ?_
      refine iz_iald hx hb hK hP 3 rfl w rfl (by omega) (by omega) dM_needOf_34 ?_
      refine iz_iadd hx hb dM_needOf_35 ?_
      refine iz_icmp_ge (tgt := 80) hx hb ⟨by omega, by omega⟩ ⟨by omega, by omega⟩ dM_needOf_36 (by decide) (fun g1 => ?_) (fun g1 => ?_)
      · have e : i = (lc w).toNat := by omega
        subst e
        exact kk ac hac ls (lv_sub hl [0, 1, 2, 3] rfl)
      · obtain ⟨⟨qs1, qs2⟩, qt1, qt2⟩ := hM.2.2.1 (8 * w + i) (by omega)
        refine lv_lload_n hx hb dM_needOf_39 rfl (lv_at hl 2 rfl) ?_
        refine lv_aload_n hx hb dM_needOf_40 rfl (lv_at hl 0 rfl) ?_
        refine va_get (D := kD K) (ci := 4) (v := .ref (b + 4)) (C := RM) (T := FM) (N := 21) hx hb hts jnM hown hK hP 0 rfl rfl 5 (by decide) (hts _ mt_468) (fun _ h9 => h9) rfl dM_needOf_41 ?_
        refine lv_iload hx hb dM_needOf_44 (lv_at hl 4 rfl) ?_
        refine iz_iald hx hb hK hP 4 rfl (8 * w + i) rfl (by omega) (by omega) dM_needOf_46 ?_
        refine lv_iload_n hx hb dM_needOf_47 rfl (lv_at hl 1 rfl) ?_
        refine iz_icmp_ne (tgt := 71) hx hb ⟨by omega, by omega⟩ ⟨by omega, by omega⟩ dM_needOf_48 (by decide) (fun g2 => ?_) (fun g2 => ?_)
        · refine iz_lconst hx hb 0 rfl dM_needOf_71 ?_
          refine iz_ladd hx hb dM_needOf_72 ?_
          refine lv_lstore_n (lv' := [(2, .long (lI (ac + 0))), (0, .ref b), (1, .int (iI (k : Int))), (4, .int (iI (w : Int))), (5, .int (iI ((8 * w + i : Nat) : Int)))]) hx hb dM_needOf_73 rfl hl (by decide) rfl (fun ls hl => ?_)
          refine iz_iinc (k := 4) (lv' := [(5, .int (iI (((8 * w + i : Nat) : Int) + 1))), (2, .long (lI (ac + 0))), (0, .ref b), (1, .int (iI (k : Int))), (4, .int (iI (w : Int)))]) hx hb dM_needOf_74 hl rfl (by decide) rfl (fun ls hl => ?_)
          refine lv_goto (tgt := 21) hx hb dM_needOf_77 (by decide) ?_
          exact ih (i + 1) (ac + 0) a0 (by omega) (by omega) (by rw [sm_snoc, hac]; show _ = a0 + (_ + (if st (8 * w + i) = (k : Int) then tk (8 * w + i) * ar w else 0)); rw [if_neg g2, Int.add_assoc]) kk ls (lv_sub hl [2, 3, 1, 4, 0] rfl)
        · refine lv_aload_n hx hb dM_needOf_51 rfl (lv_at hl 0 rfl) ?_
          refine va_get (D := kD K) (ci := 4) (v := .ref (b + 5)) (C := RM) (T := FM) (N := 21) hx hb hts jnM hown hK hP 0 rfl rfl 6 (by decide) (hts _ mt_469) (fun _ h9 => h9) rfl dM_needOf_52 ?_
          refine lv_iload hx hb dM_needOf_55 (lv_at hl 4 rfl) ?_
          refine iz_iald hx hb hK hP 5 rfl (8 * w + i) rfl (by omega) (by omega) dM_needOf_57 ?_
          refine iz_i2l hx hb ⟨by omega, by omega⟩ dM_needOf_58 ?_
          refine lv_aload_n hx hb dM_needOf_59 rfl (lv_at hl 0 rfl) ?_
          refine va_get (D := kD K) (ci := 4) (v := .ref (b + 1)) (C := RM) (T := FM) (N := 21) hx hb hts jnM hown hK hP 0 rfl rfl 2 (by decide) (hts _ mt_465) (fun _ h9 => h9) rfl dM_needOf_60 ?_
          refine lv_iload hx hb dM_needOf_63 (lv_at hl 3 rfl) ?_
          refine iz_iald hx hb hK hP 1 rfl w rfl (by omega) (by omega) dM_needOf_65 ?_
          refine iz_i2l hx hb ⟨by omega, by omega⟩ dM_needOf_66 ?_
          refine iz_lmul hx hb dM_needOf_67 ?_
          refine lv_goto (tgt := 72) hx hb dM_needOf_68 (by decide) ?_
          refine iz_ladd hx hb dM_needOf_72 ?_
          refine lv_lstore_n (lv' := [(2, .long (lI (ac + ((tk (8 * w + i)) * (ar w))))), (0, .ref b), (1, .int (iI (k : Int))), (4, .int (iI (w : Int))), (5, .int (iI ((8 * w + i : Nat) : Int)))]) hx hb dM_needOf_73 rfl hl (by decide) rfl (fun ls hl => ?_)
          refine iz_iinc (k := 4) (lv' := [(5, .int (iI (((8 * w + i : Nat) : Int) + 1))), (2, .long (lI (ac + ((tk (8 * w + i)) * (ar w))))), (0, .ref b), (1, .int (iI (k : Int))), (4, .int (iI (w : Int)))]) hx hb dM_needOf_74 hl rfl (by decide) rfl (fun ls hl => ?_)
          refine lv_goto (tgt := 21) hx hb dM_needOf_77 (by decide) ?_
          exact ih (i + 1) (ac + (tk (8 * w + i) * ar w)) a0 (by omega) (by omega) (by rw [sm_snoc, hac]; show _ = a0 + (_ + (if st (8 * w + i) = (k : Int) then tk (8 * w + i) * ar w else 0)); rw [if_pos g2, Int.add_assoc]) kk ls (lv_sub hl [2, 3, 1, 4, 0] rfl)
  have outer : ∀ (n w : Nat) (ac : Int), wn + 1 ≤ w + n → w ≤ wn → ac = sm (ndW ar lc st tk k) 0 w → ∀ ls : Array Slot, lv_has ls 6 [(0, .ref b), (1, .int (iI (k : Int))), (2, .long (lI ac)), (4, .int (iI (w : Int)))] → W p l e rmM_needOf s m args below meth c s.heap [] 0 0 Q (F0 m 5 ls []) := by
    intro n
    induction n with
    | zero => intro w ac h1 h2; omega
    | succ n ih =>
      intro w ac h1 h2 hac ls hl
      refine lv_iload hx hb dM_needOf_5 (lv_at hl 3 rfl) ?_
      refine lv_aload_n hx hb dM_needOf_7 rfl (lv_at hl 0 rfl) ?_
      refine va_get (D := kD K) (ci := 4) (v := .int (iI (wn : Int))) (C := RM) (T := FM) (N := 21) hx hb hts jnM hown hK hP 0 rfl rfl 1 (by decide) (hts _ mt_464) (fun _ h9 => h9) rfl dM_needOf_8 ?_
      refine iz_icmp_ge (tgt := 86) hx hb ⟨by omega, by omega⟩ ⟨by omega, by omega⟩ dM_needOf_11 (by decide) (fun g1 => ?_) (fun g1 => ?_)
      · have e : w = wn := by omega
        subst e
        have qb := ndM_bd (k := k) hM hk
        have qw := hM.2.2.2 k hk
        rw [← hac] at qb
        refine lv_lload_n hx hb dM_needOf_86 rfl (lv_at hl 2 rfl) ?_
        refine iz_bipush hx hb dM_needOf_87 (by decide) ?_
        refine lv_aload_n hx hb dM_needOf_89 rfl (lv_at hl 0 rfl) ?_
        refine va_get (D := kD K) (ci := 4) (v := .ref (b + 6)) (C := RM) (T := FM) (N := 21) hx hb hts jnM hown hK hP 0 rfl rfl 7 (by decide) (hts _ mt_470) (fun _ h9 => h9) rfl dM_needOf_90 ?_
        refine lv_iload_n hx hb dM_needOf_93 rfl (lv_at hl 1 rfl) ?_
        refine iz_iald hx hb hK hP 6 rfl k rfl (by omega) (by omega) dM_needOf_94 ?_
        refine iz_iadd hx hb dM_needOf_95 ?_
        refine iz_i2l hx hb ⟨by omega, by omega⟩ dM_needOf_96 ?_
        refine iz_lmul hx hb dM_needOf_97 ?_
        refine iz_ldc2 hx hb (99) (by decide) hown (hts _ mt_575) dM_needOf_98 ?_
        refine iz_ladd hx hb dM_needOf_101 ?_
        refine iz_ldc2 hx hb (100) (by decide) hown (hts _ mt_561) dM_needOf_102 ?_
        refine iz_ldiv hx hb ⟨by omega, by omega⟩ (by omega) ⟨by omega, by omega⟩ (by omega) dM_needOf_105 ?_
        rw [hQ]
        exact iz_lret hx hb hr hlocks (by show _ = cdiv _ 100; unfold cdiv; rw [← hac]; congr 1; omega) (fun _ h => absurd h List.not_mem_nil) dM_needOf_106
      · refine iz_bipush hx hb dM_needOf_14 (by decide) ?_
        refine lv_iload hx hb dM_needOf_16 (lv_at hl 3 rfl) ?_
        refine iz_imul hx hb dM_needOf_18 ?_
        refine lv_istore (lv' := [(5, .int (iI (8 * (w : Int)))), (0, .ref b), (1, .int (iI (k : Int))), (2, .long (lI ac)), (4, .int (iI (w : Int)))]) hx hb dM_needOf_19 hl (by decide) rfl (fun ls hl => ?_)
        exact inner w (by omega) ((lc w).toNat + 1) 0 ac ac (by omega) (by omega) (by rw [sm_0, Int.add_zero]) (fun ac9 h9 ls hl => by
          refine iz_iinc (k := 3) (lv' := [(4, .int (iI ((w : Int) + 1))), (0, .ref b), (1, .int (iI (k : Int))), (2, .long (lI ac9))]) hx hb dM_needOf_80 hl rfl (by decide) rfl (fun ls hl => ?_)
          refine lv_goto (tgt := 5) hx hb dM_needOf_83 (by decide) ?_
          exact ih (w + 1) ac9 (by omega) (by omega) (by rw [sm_snoc, Nat.zero_add, h9, hac]) ls (lv_sub hl [1, 2, 3, 0] rfl)) ls (lv_sub hl [1, 2, 3, 4, 0] rfl)
  refine iz_lconst hx hb 0 rfl dM_needOf_0 ?_
  refine lv_lstore_n (lv' := [(2, .long (lI 0)), (0, .ref b), (1, .int (iI (k : Int)))]) hx hb dM_needOf_1 rfl hl (by decide) rfl (fun ls hl => ?_)
  refine iz_iconst hx hb dM_needOf_2 ?_
  refine lv_istore (lv' := [(4, .int (iI 0)), (2, .long (lI 0)), (0, .ref b), (1, .int (iI (k : Int)))]) hx hb dM_needOf_3 hl (by decide) rfl (fun ls hl => ?_)
  exact outer (wn + 1) 0 0 (by omega) (by omega) rfl ls (lv_sub hl [2, 3, 1, 0] rfl)
abbrev rmM_need : Room := { frames := 2, cells := 0, slots := 0, locals := 80 }
set_option maxHeartbeats 4000000 in
set_option maxRecDepth 100000 in
/-- need(stuff) -/
theorem c_M_need (l : Launch) (K : KG) (b : Nat) (cd : Int) (wn : Nat) (ar oc lc st tk wa pk mu pr : Nat → Int) (co : Int) (cn bs : Nat → Int) (ln cu : Int) (pn : Nat) (le : Nat → Int) (bc : Int) (bb ld : Nat → Int) (k : Nat) (x1 : Int) (h1 : r32 x1) (hk : 0 ≤ x1 → x1 < 10 → x1 = k) (hM : MB wn ar oc lc st tk wa) : Ct l yM_need kM_need rmM_need (PC K [.ref b, .int (iI x1)] (fun H => va_P (kD K) vcl (mdW K b cd wn ar oc lc st tk wa pk mu pr co cn bs ln cu pn le bc bb ld) H)) (QL (fun r H => (¬ (0 ≤ x1 ∧ x1 < 10) ∧ va_P (kD K) vcl (mdW K b 1 wn ar oc lc st tk wa pk mu pr co cn bs ln cu pn le bc bb ld) H) ∨ ((0 ≤ x1 ∧ x1 < 10) ∧ r = ndM wn ar lc st tk wa k ∧ va_P (kD K) vcl (mdW K b 0 wn ar oc lc st tk wa pk mu pr co cn bs ln cu pn le bc bb ld) H))) (fun x => b ≤ x ∧ x < b + 15) := by
  refine ct_of (by decide) (Or.inl ⟨rfl, rfl⟩) ?_
  intro p e s m args below meth c B0 hP0
  obtain ⟨hx, hb, hr, hml, hown, hlocks, hnm, htab⟩ := B0
  obtain ⟨ha, ⟨hT, hK⟩, hB⟩ := hP0
  have hl := lv_entry ([.ref b, .int (iI x1)]) (n := 2) (Nat.le_of_ble_eq_true rfl)
  obtain ⟨Q, hQ⟩ : ∃ Q, Q = XQ below (QL (fun r H => (¬ (0 ≤ x1 ∧ x1 < 10) ∧ va_P (kD K) vcl (mdW K b 1 wn ar oc lc st tk wa pk mu pr co cn bs ln cu pn le bc bb ld) H) ∨ ((0 ≤ x1 ∧ x1 < 10) ∧ r = ndM wn ar lc st tk wa k ∧ va_P (kD K) vcl (mdW K b 0 wn ar oc lc st tk wa pk mu pr co cn bs ln cu pn le bc bb ld) H))) args s rmM_need.cells rmM_need.slots (fun x => b ≤ x ∧ x < b + 15) := ⟨_, rfl⟩
  rw [← hQ, ha, lg_entry_eq]
  rw [ha] at hQ
  generalize (lg_sl ([.ref b, .int (iI x1)]) ++ List.replicate (2 - (lg_sl ([.ref b, .int (iI x1)])).length) Slot.unset).toArray = ls at hl ⊢
  generalize ([.ref b, .int (iI x1)] : List Value).toArray = args at hQ ⊢
  have hts : ∀ w ∈ TW, w.before args s = true := fun w h => hT w h args
  have hl : lv_has ls 2 [(0, .ref b), (1, .int (iI x1))] := hl
  obtain ⟨A, hAe⟩ : ∃ A : Addr → Prop, A = (fun x => b ≤ x ∧ x < b + 15) := ⟨_, rfl⟩
  rw [← hAe] at hQ
  have hS : va_S A s.heap s.heap [] := va_S.rf
  have hP : va_P (kD K) vcl [(b, .inr (4, [.int (iI cd), .int (iI (wn : Int)), .ref (b + 1), .ref (b + 2), .ref (b + 3), .ref (b + 4), .ref (b + 5), .ref (b + 6), .ref (b + 7), .ref (b + 8), .ref (b + 9), .long (lI co), .ref (b + 10), .ref (b + 11), .int (iI ln), .int (iI cu), .int (iI (pn : Int)), .ref (b + 12), .int (iI bc), .ref (b + 13), .ref (b + 14)])), (b + 1, .inl (kI K, 12, .inl (iA ar))), (b + 2, .inl (kI K, 12, .inl (iA oc))), (b + 3, .inl (kI K, 12, .inl (iA lc))), (b + 4, .inl (kI K, 96, .inl (iA st))), (b + 5, .inl (kI K, 96, .inl (iA tk))), (b + 6, .inl (kI K, 10, .inl (iA wa))), (b + 7, .inl (kI K, 10, .inl (iA pk))), (b + 8, .inl (kL K, 40, .inr (.inl (lA mu)))), (b + 9, .inl (kL K, 40, .inr (.inl (lA pr)))), (b + 10, .inl (kI K, 4, .inl (iA cn))), (b + 11, .inl (kI K, 4, .inl (iA bs))), (b + 12, .inl (kI K, 10, .inl (iA le))), (b + 13, .inl (kI K, 10, .inl (iA bb))), (b + 14, .inl (kI K, 10, .inl (iA ld)))] s.heap := hB
  have hD : va_D A [(b, .inr (4, [.int (iI cd), .int (iI (wn : Int)), .ref (b + 1), .ref (b + 2), .ref (b + 3), .ref (b + 4), .ref (b + 5), .ref (b + 6), .ref (b + 7), .ref (b + 8), .ref (b + 9), .long (lI co), .ref (b + 10), .ref (b + 11), .int (iI ln), .int (iI cu), .int (iI (pn : Int)), .ref (b + 12), .int (iI bc), .ref (b + 13), .ref (b + 14)])), (b + 1, .inl (kI K, 12, .inl (iA ar))), (b + 2, .inl (kI K, 12, .inl (iA oc))), (b + 3, .inl (kI K, 12, .inl (iA lc))), (b + 4, .inl (kI K, 96, .inl (iA st))), (b + 5, .inl (kI K, 96, .inl (iA tk))), (b + 6, .inl (kI K, 10, .inl (iA wa))), (b + 7, .inl (kI K, 10, .inl (iA pk))), (b + 8, .inl (kL K, 40, .inr (.inl (lA mu)))), (b + 9, .inl (kL K, 40, .inr (.inl (lA pr)))), (b + 10, .inl (kI K, 4, .inl (iA cn))), (b + 11, .inl (kI K, 4, .inl (iA bs))), (b + 12, .inl (kI K, 10, .inl (iA le))), (b + 13, .inl (kI K, 10, .inl (iA bb))), (b + 14, .inl (kI K, 10, .inl (iA ld)))] := by rw [hAe]; exact va_D_of (by simp) (by simp <;> omega)
  refine lv_aload_n hx hb dM_need_0 rfl (lv_at hl 0 rfl) ?_
  refine lv_iload_n hx hb dM_need_1 rfl (lv_at hl 1 rfl) ?_
  refine ctS (n := 1) hx hb hml hown hT ⟨c_M_isStuff l K x1 ⟨by omega, by omega⟩, ⟨_, _, _, Or.inl ⟨rfl, rfl⟩⟩, mt_554, mt_5, by decide, by decide +kernel, by decide, by decide, by decide, by decide⟩ PC.blind mt_552 mt_553 (As := [.int (iI x1)]) (rest := [.ref b]) rfl (PC.at ⟨hT, hK⟩ trivial) hl.1 rfl (Nat.le_of_ble_eq_true rfl) dM_need_2 (krI0 rfl rfl (fun _ h => h) (fun r g1 => ?_))
  rcases g1 with ⟨rfl, g1⟩ | ⟨rfl, g1⟩
  · refine iz_if_eq (tgt := 12) hx hb ⟨by omega, by omega⟩ dM_need_5 (by decide) (fun g => absurd g (by decide)) (fun _ => ?_)
    refine iz_iconst hx hb dM_need_8 ?_
    refine lv_goto (tgt := 13) hx hb dM_need_9 (by decide) ?_
    refine va_put (D := kD K) (ci := 4) (v := .int (iI 0)) (ty := .int) (C := RM) (T := FM) (N := 21) hx hb hts jnM tM tM_ok nM hown hK hP hD hS 0 rfl rfl 0 (by decide) (hts _ mt_463) (fun _ h9 => h9) rfl (by decide +kernel) rfl rfl (Nat.le_of_ble_eq_true rfl) dM_need_13 ?_
    clear hP hD hS
    intro H locs hP hD hS
    replace hP : va_P (kD K) vcl [(b, .inr (4, [.int (iI 0), .int (iI (wn : Int)), .ref (b + 1), .ref (b + 2), .ref (b + 3), .ref (b + 4), .ref (b + 5), .ref (b + 6), .ref (b + 7), .ref (b + 8), .ref (b + 9), .long (lI co), .ref (b + 10), .ref (b + 11), .int (iI ln), .int (iI cu), .int (iI (pn : Int)), .ref (b + 12), .int (iI bc), .ref (b + 13), .ref (b + 14)])), (b + 1, .inl (kI K, 12, .inl (iA ar))), (b + 2, .inl (kI K, 12, .inl (iA oc))), (b + 3, .inl (kI K, 12, .inl (iA lc))), (b + 4, .inl (kI K, 96, .inl (iA st))), (b + 5, .inl (kI K, 96, .inl (iA tk))), (b + 6, .inl (kI K, 10, .inl (iA wa))), (b + 7, .inl (kI K, 10, .inl (iA pk))), (b + 8, .inl (kL K, 40, .inr (.inl (lA mu)))), (b + 9, .inl (kL K, 40, .inr (.inl (lA pr)))), (b + 10, .inl (kI K, 4, .inl (iA cn))), (b + 11, .inl (kI K, 4, .inl (iA bs))), (b + 12, .inl (kI K, 10, .inl (iA le))), (b + 13, .inl (kI K, 10, .inl (iA bb))), (b + 14, .inl (kI K, 10, .inl (iA ld)))] H := hP
    replace hD : va_D A [(b, .inr (4, [.int (iI 0), .int (iI (wn : Int)), .ref (b + 1), .ref (b + 2), .ref (b + 3), .ref (b + 4), .ref (b + 5), .ref (b + 6), .ref (b + 7), .ref (b + 8), .ref (b + 9), .long (lI co), .ref (b + 10), .ref (b + 11), .int (iI ln), .int (iI cu), .int (iI (pn : Int)), .ref (b + 12), .int (iI bc), .ref (b + 13), .ref (b + 14)])), (b + 1, .inl (kI K, 12, .inl (iA ar))), (b + 2, .inl (kI K, 12, .inl (iA oc))), (b + 3, .inl (kI K, 12, .inl (iA lc))), (b + 4, .inl (kI K, 96, .inl (iA st))), (b + 5, .inl (kI K, 96, .inl (iA tk))), (b + 6, .inl (kI K, 10, .inl (iA wa))), (b + 7, .inl (kI K, 10, .inl (iA pk))), (b + 8, .inl (kL K, 40, .inr (.inl (lA mu)))), (b + 9, .inl (kL K, 40, .inr (.inl (lA pr)))), (b + 10, .inl (kI K, 4, .inl (iA cn))), (b + 11, .inl (kI K, 4, .inl (iA bs))), (b + 12, .inl (kI K, 10, .inl (iA le))), (b + 13, .inl (kI K, 10, .inl (iA bb))), (b + 14, .inl (kI K, 10, .inl (iA ld)))] := hD
    refine lv_aload_n hx hb dM_need_16 rfl (lv_at hl 0 rfl) ?_
    refine va_get (D := kD K) (ci := 4) (v := .int (iI 0)) (C := RM) (T := FM) (N := 21) hx hb hts jnM hown hK hP 0 rfl rfl 0 (by decide) (hts _ mt_463) (fun _ h9 => h9) rfl dM_need_17 ?_
    refine iz_if_le (tgt := 27) hx hb ⟨by omega, by omega⟩ dM_need_20 (by decide) (fun _ => ?_) (fun g => absurd g (by decide))
    have e1 := hk (by omega) (by omega)
    subst e1
    refine lv_aload_n hx hb dM_need_27 rfl (lv_at hl 0 rfl) ?_
    refine lv_iload_n hx hb dM_need_28 rfl (lv_at hl 1 rfl) ?_
    refine ctV (n := 1) hx hb hml hown hT ⟨c_M_needOf l K b 0 wn ar oc lc st tk wa pk mu pr co cn bs ln cu pn le bc bb ld k (by omega) hM, ⟨_, _, _, Or.inl ⟨rfl, rfl⟩⟩, mt_574, mt_5, by decide, by decide +kernel, by decide, by decide, by decide, by decide⟩ PC.blind mt_571 mt_573 ms_23 (va_RVof (ci := 4) (q0 := 0) hK hP rfl rfl) (As := [.int (iI (k : Int))]) (rest := []) rfl (PC.at ⟨hT, hK⟩ hP) hl.1 rfl (Nat.le_of_ble_eq_true rfl) dM_need_29 (krL0 rfl rfl (fun _ h => h) (fun r hr9 => ?_))
    rw [hQ]
    exact iz_lret hx hb hr hlocks (Or.inr ⟨by omega, hr9, hP⟩) hS.2.2 dM_need_32
  · refine iz_if_eq (tgt := 12) hx hb ⟨by omega, by omega⟩ dM_need_5 (by decide) (fun _ => ?_) (fun g => absurd g (by decide))
    refine iz_iconst hx hb dM_need_12 ?_
    refine va_put (D := kD K) (ci := 4) (v := .int (iI 1)) (ty := .int) (C := RM) (T := FM) (N := 21) hx hb hts jnM tM tM_ok nM hown hK hP hD hS 0 rfl rfl 0 (by decide) (hts _ mt_463) (fun _ h9 => h9) rfl (by decide +kernel) rfl rfl (Nat.le_of_ble_eq_true rfl) dM_need_13 ?_
    clear hP hD hS
    intro H locs hP hD hS
    replace hP : va_P (kD K) vcl [(b, .inr (4, [.int (iI 1), .int (iI (wn : Int)), .ref (b + 1), .ref (b + 2), .ref (b + 3), .ref (b + 4), .ref (b + 5), .ref (b + 6), .ref (b + 7), .ref (b + 8), .ref (b + 9), .long (lI co), .ref (b + 10), .ref (b + 11), .int (iI ln), .int (iI cu), .int (iI (pn : Int)), .ref (b + 12), .int (iI bc), .ref (b + 13), .ref (b + 14)])), (b + 1, .inl (kI K, 12, .inl (iA ar))), (b + 2, .inl (kI K, 12, .inl (iA oc))), (b + 3, .inl (kI K, 12, .inl (iA lc))), (b + 4, .inl (kI K, 96, .inl (iA st))), (b + 5, .inl (kI K, 96, .inl (iA tk))), (b + 6, .inl (kI K, 10, .inl (iA wa))), (b + 7, .inl (kI K, 10, .inl (iA pk))), (b + 8, .inl (kL K, 40, .inr (.inl (lA mu)))), (b + 9, .inl (kL K, 40, .inr (.inl (lA pr)))), (b + 10, .inl (kI K, 4, .inl (iA cn))), (b + 11, .inl (kI K, 4, .inl (iA bs))), (b + 12, .inl (kI K, 10, .inl (iA le))), (b + 13, .inl (kI K, 10, .inl (iA bb))), (b + 14, .inl (kI K, 10, .inl (iA ld)))] H := hP
    replace hD : va_D A [(b, .inr (4, [.int (iI 1), .int (iI (wn : Int)), .ref (b + 1), .ref (b + 2), .ref (b + 3), .ref (b + 4), .ref (b + 5), .ref (b + 6), .ref (b + 7), .ref (b + 8), .ref (b + 9), .long (lI co), .ref (b + 10), .ref (b + 11), .int (iI ln), .int (iI cu), .int (iI (pn : Int)), .ref (b + 12), .int (iI bc), .ref (b + 13), .ref (b + 14)])), (b + 1, .inl (kI K, 12, .inl (iA ar))), (b + 2, .inl (kI K, 12, .inl (iA oc))), (b + 3, .inl (kI K, 12, .inl (iA lc))), (b + 4, .inl (kI K, 96, .inl (iA st))), (b + 5, .inl (kI K, 96, .inl (iA tk))), (b + 6, .inl (kI K, 10, .inl (iA wa))), (b + 7, .inl (kI K, 10, .inl (iA pk))), (b + 8, .inl (kL K, 40, .inr (.inl (lA mu)))), (b + 9, .inl (kL K, 40, .inr (.inl (lA pr)))), (b + 10, .inl (kI K, 4, .inl (iA cn))), (b + 11, .inl (kI K, 4, .inl (iA bs))), (b + 12, .inl (kI K, 10, .inl (iA le))), (b + 13, .inl (kI K, 10, .inl (iA bb))), (b + 14, .inl (kI K, 10, .inl (iA ld)))] := hD
    refine lv_aload_n hx hb dM_need_16 rfl (lv_at hl 0 rfl) ?_
    refine va_get (D := kD K) (ci := 4) (v := .int (iI 1)) (C := RM) (T := FM) (N := 21) hx hb hts jnM hown hK hP 0 rfl rfl 0 (by decide) (hts _ mt_463) (fun _ h9 => h9) rfl dM_need_17 ?_
    refine iz_if_le (tgt := 27) hx hb ⟨by omega, by omega⟩ dM_need_20 (by decide) (fun g => absurd g (by decide)) (fun _ => ?_)
    refine iz_lconst hx hb 0 rfl dM_need_23 ?_
    refine lv_goto (tgt := 32) hx hb dM_need_24 (by decide) ?_
    rw [hQ]
    exact iz_lret hx hb hr hlocks (Or.inl ⟨by omega, hP⟩) hS.2.2 dM_need_32
abbrev rmM_pack : Room := { frames := 2, cells := 0, slots := 0, locals := 80 }
set_option maxHeartbeats 4000000 in
set_option maxRecDepth 100000 in
/-- pack(stuff, much, cents) -/
theorem c_M_pack (l : Launch) (K : KG) (b : Nat) (cd : Int) (wn : Nat) (ar oc lc st tk wa pk mu pr : Nat → Int) (co : Int) (cn bs : Nat → Int) (ln cu : Int) (pn : Nat) (le : Nat → Int) (bc : Int) (bb ld : Nat → Int) (j : Nat) (x1 x2 x3 : Int) (h1 : r32 x1) (h2 : r32 x2) (h3 : r32 x3) (hj : 0 ≤ x1 → x1 < 10 → x1 = j) (hpk : ∀ i, i < 10 → 0 ≤ pk i ∧ pk i ≤ 4) : Ct l yM_pack kM_pack rmM_pack (PC K [.ref b, .int (iI x1), .int (iI x2), .int (iI x3)] (fun H => va_P (kD K) vcl (mdW K b cd wn ar oc lc st tk wa pk mu pr co cn bs ln cu pn le bc bb ld) H)) (QI (fun r H => (¬ ((0 ≤ x1 ∧ x1 < 10) ∧ (1 ≤ x2 ∧ x2 ≤ 1000000000) ∧ (1 ≤ x3 ∧ x3 ≤ 100000)) ∧ va_P (kD K) vcl (mdW K b 1 wn ar oc lc st tk wa pk mu pr co cn bs ln cu pn le bc bb ld) H) ∨ (((0 ≤ x1 ∧ x1 < 10) ∧ (1 ≤ x2 ∧ x2 ≤ 1000000000) ∧ (1 ≤ x3 ∧ x3 ≤ 100000)) ∧ ¬ (pk j < 4) ∧ va_P (kD K) vcl (mdW K b 2 wn ar oc lc st tk wa pk mu pr co cn bs ln cu pn le bc bb ld) H) ∨ (((0 ≤ x1 ∧ x1 < 10) ∧ (1 ≤ x2 ∧ x2 ≤ 1000000000) ∧ (1 ≤ x3 ∧ x3 ≤ 100000)) ∧ (pk j < 4) ∧ r = pk j ∧ va_P (kD K) vcl (mdW K b 0 wn ar oc lc st tk wa (ut pk j (pk j + 1)) (ut mu (4 * j + (pk j).toNat) x2) (ut pr (4 * j + (pk j).toNat) x3) co cn bs ln cu pn le bc bb ld) H))) (fun x => b ≤ x ∧ x < b + 15) := by
  refine ct_of (by decide) (Or.inl ⟨rfl, rfl⟩) ?_
  intro p e s m args below meth c B0 hP0
  obtain ⟨hx, hb, hr, hml, hown, hlocks, hnm, htab⟩ := B0
  obtain ⟨ha, ⟨hT, hK⟩, hB⟩ := hP0
  have hl := lv_entry ([.ref b, .int (iI x1), .int (iI x2), .int (iI x3)]) (n := 5) (Nat.le_of_ble_eq_true rfl)
  obtain ⟨Q, hQ⟩ : ∃ Q, Q = XQ below (QI (fun r H => (¬ ((0 ≤ x1 ∧ x1 < 10) ∧ (1 ≤ x2 ∧ x2 ≤ 1000000000) ∧ (1 ≤ x3 ∧ x3 ≤ 100000)) ∧ va_P (kD K) vcl (mdW K b 1 wn ar oc lc st tk wa pk mu pr co cn bs ln cu pn le bc bb ld) H) ∨ (((0 ≤ x1 ∧ x1 < 10) ∧ (1 ≤ x2 ∧ x2 ≤ 1000000000) ∧ (1 ≤ x3 ∧ x3 ≤ 100000)) ∧ ¬ (pk j < 4) ∧ va_P (kD K) vcl (mdW K b 2 wn ar oc lc st tk wa pk mu pr co cn bs ln cu pn le bc bb ld) H) ∨ (((0 ≤ x1 ∧ x1 < 10) ∧ (1 ≤ x2 ∧ x2 ≤ 1000000000) ∧ (1 ≤ x3 ∧ x3 ≤ 100000)) ∧ (pk j < 4) ∧ r = pk j ∧ va_P (kD K) vcl (mdW K b 0 wn ar oc lc st tk wa (ut pk j (pk j + 1)) (ut mu (4 * j + (pk j).toNat) x2) (ut pr (4 * j + (pk j).toNat) x3) co cn bs ln cu pn le bc bb ld) H))) args s rmM_pack.cells rmM_pack.slots (fun x => b ≤ x ∧ x < b + 15) := ⟨_, rfl⟩
  rw [← hQ, ha, lg_entry_eq]
  rw [ha] at hQ
  generalize (lg_sl ([.ref b, .int (iI x1), .int (iI x2), .int (iI x3)]) ++ List.replicate (5 - (lg_sl ([.ref b, .int (iI x1), .int (iI x2), .int (iI x3)])).length) Slot.unset).toArray = ls at hl ⊢
  generalize ([.ref b, .int (iI x1), .int (iI x2), .int (iI x3)] : List Value).toArray = args at hQ ⊢
  have hts : ∀ w ∈ TW, w.before args s = true := fun w h => hT w h args
  have hl : lv_has ls 5 [(0, .ref b), (1, .int (iI x1)), (2, .int (iI x2)), (3, .int (iI x3))] := hl
  obtain ⟨A, hAe⟩ : ∃ A : Addr → Prop, A = (fun x => b ≤ x ∧ x < b + 15) := ⟨_, rfl⟩
  rw [← hAe] at hQ
  have hS : va_S A s.heap s.heap [] := va_S.rf
  have hP : va_P (kD K) vcl [(b, .inr (4, [.int (iI cd), .int (iI (wn : Int)), .ref (b + 1), .ref (b + 2), .ref (b + 3), .ref (b + 4), .ref (b + 5), .ref (b + 6), .ref (b + 7), .ref (b + 8), .ref (b + 9), .long (lI co), .ref (b + 10), .ref (b + 11), .int (iI ln), .int (iI cu), .int (iI (pn : Int)), .ref (b + 12), .int (iI bc), .ref (b + 13), .ref (b + 14)])), (b + 1, .inl (kI K, 12, .inl (iA ar))), (b + 2, .inl (kI K, 12, .inl (iA oc))), (b + 3, .inl (kI K, 12, .inl (iA lc))), (b + 4, .inl (kI K, 96, .inl (iA st))), (b + 5, .inl (kI K, 96, .inl (iA tk))), (b + 6, .inl (kI K, 10, .inl (iA wa))), (b + 7, .inl (kI K, 10, .inl (iA pk))), (b + 8, .inl (kL K, 40, .inr (.inl (lA mu)))), (b + 9, .inl (kL K, 40, .inr (.inl (lA pr)))), (b + 10, .inl (kI K, 4, .inl (iA cn))), (b + 11, .inl (kI K, 4, .inl (iA bs))), (b + 12, .inl (kI K, 10, .inl (iA le))), (b + 13, .inl (kI K, 10, .inl (iA bb))), (b + 14, .inl (kI K, 10, .inl (iA ld)))] s.heap := hB
  have hD : va_D A [(b, .inr (4, [.int (iI cd), .int (iI (wn : Int)), .ref (b + 1), .ref (b + 2), .ref (b + 3), .ref (b + 4), .ref (b + 5), .ref (b + 6), .ref (b + 7), .ref (b + 8), .ref (b + 9), .long (lI co), .ref (b + 10), .ref (b + 11), .int (iI ln), .int (iI cu), .int (iI (pn : Int)), .ref (b + 12), .int (iI bc), .ref (b + 13), .ref (b + 14)])), (b + 1, .inl (kI K, 12, .inl (iA ar))), (b + 2, .inl (kI K, 12, .inl (iA oc))), (b + 3, .inl (kI K, 12, .inl (iA lc))), (b + 4, .inl (kI K, 96, .inl (iA st))), (b + 5, .inl (kI K, 96, .inl (iA tk))), (b + 6, .inl (kI K, 10, .inl (iA wa))), (b + 7, .inl (kI K, 10, .inl (iA pk))), (b + 8, .inl (kL K, 40, .inr (.inl (lA mu)))), (b + 9, .inl (kL K, 40, .inr (.inl (lA pr)))), (b + 10, .inl (kI K, 4, .inl (iA cn))), (b + 11, .inl (kI K, 4, .inl (iA bs))), (b + 12, .inl (kI K, 10, .inl (iA le))), (b + 13, .inl (kI K, 10, .inl (iA bb))), (b + 14, .inl (kI K, 10, .inl (iA ld)))] := by rw [hAe]; exact va_D_of (by simp) (by simp <;> omega)
  refine lv_iload_n hx hb dM_pack_0 rfl (lv_at hl 1 rfl) ?_
  refine ctS (n := 1) hx hb hml hown hT ⟨c_M_isStuff l K x1 ⟨by omega, by omega⟩, ⟨_, _, _, Or.inl ⟨rfl, rfl⟩⟩, mt_554, mt_5, by decide, by decide +kernel, by decide, by decide, by decide, by decide⟩ PC.blind mt_552 mt_553 (As := [.int (iI x1)]) (rest := []) rfl (PC.at ⟨hT, hK⟩ trivial) hl.1 rfl (Nat.le_of_ble_eq_true rfl) dM_pack_1 (krI0 rfl rfl (fun _ h => h) (fun r g1 => ?_))
  rcases g1 with ⟨rfl, g1⟩ | ⟨rfl, g1⟩
  · refine iz_if_eq (tgt := 35) hx hb ⟨by omega, by omega⟩ dM_pack_4 (by decide) (fun g => absurd g (by decide)) (fun _ => ?_)
    refine lv_iload_n hx hb dM_pack_7 rfl (lv_at hl 2 rfl) ?_
    refine iz_i2l hx hb ⟨by omega, by omega⟩ dM_pack_8 ?_
    refine iz_lconst hx hb 1 rfl dM_pack_9 ?_
    refine iz_ldc2 hx hb (1000000000) (by decide) hown (hts _ mt_580) dM_pack_10 ?_
    refine ctS (n := 3) hx hb hml hown hT ⟨c_M_isIn l K x2 1 1000000000 ⟨by omega, by omega⟩ ⟨by omega, by omega⟩ ⟨by omega, by omega⟩, ⟨_, _, _, Or.inl ⟨rfl, rfl⟩⟩, mt_539, mt_5, by decide, by decide +kernel, by decide, by decide, by decide, by decide⟩ PC.blind mt_537 mt_538 (As := [.long (lI x2), .long (lI 1), .long (lI 1000000000)]) (rest := []) rfl (PC.at ⟨hT, hK⟩ trivial) hl.1 rfl (Nat.le_of_ble_eq_true rfl) dM_pack_13 (krI0 rfl rfl (fun _ h => h) (fun r g2 => ?_))
    rcases g2 with ⟨rfl, g2⟩ | ⟨rfl, g2⟩
    · refine iz_if_eq (tgt := 35) hx hb ⟨by omega, by omega⟩ dM_pack_16 (by decide) (fun g => absurd g (by decide)) (fun _ => ?_)
      refine lv_iload_n hx hb dM_pack_19 rfl (lv_at hl 3 rfl) ?_
      refine iz_i2l hx hb ⟨by omega, by omega⟩ dM_pack_20 ?_
      refine iz_lconst hx hb 1 rfl dM_pack_21 ?_
      refine iz_ldc2 hx hb (100000) (by decide) hown (hts _ mt_581) dM_pack_22 ?_
      refine ctS (n := 3) hx hb hml hown hT ⟨c_M_isIn l K x3 1 100000 ⟨by omega, by omega⟩ ⟨by omega, by omega⟩ ⟨by omega, by omega⟩, ⟨_, _, _, Or.inl ⟨rfl, rfl⟩⟩, mt_539, mt_5, by decide, by decide +kernel, by decide, by decide, by decide, by decide⟩ PC.blind mt_537 mt_538 (As := [.long (lI x3), .long (lI 1), .long (lI 100000)]) (rest := []) rfl (PC.at ⟨hT, hK⟩ trivial) hl.1 rfl (Nat.le_of_ble_eq_true rfl) dM_pack_25 (krI0 rfl rfl (fun _ h => h) (fun r g3 => ?_))
      rcases g3 with ⟨rfl, g3⟩ | ⟨rfl, g3⟩
      · refine iz_if_eq (tgt := 35) hx hb ⟨by omega, by omega⟩ dM_pack_28 (by decide) (fun g => absurd g (by decide)) (fun _ => ?_)
        refine iz_iconst hx hb dM_pack_31 ?_
        refine lv_goto (tgt := 36) hx hb dM_pack_32 (by decide) ?_
        refine lv_istore (lv' := [(4, .int (iI 1)), (0, .ref b), (1, .int (iI x1)), (2, .int (iI x2)), (3, .int (iI x3))]) hx hb dM_pack_36 hl (by decide) rfl (fun ls hl => ?_)
        refine lv_aload_n hx hb dM_pack_38 rfl (lv_at hl 1 rfl) ?_
        refine lv_iload hx hb dM_pack_39 (lv_at hl 0 rfl) ?_
        refine iz_if_ne (tgt := 48) hx hb ⟨by omega, by omega⟩ dM_pack_41 (by decide) (fun _ => ?_) (fun g => absurd g (by decide))
        have e1 := hj (by omega) (by omega)
        have qp := hpk j (by omega)
        refine lv_aload_n hx hb dM_pack_48 rfl (lv_at hl 1 rfl) ?_
        refine va_get (D := kD K) (ci := 4) (v := .ref (b + 7)) (C := RM) (T := FM) (N := 21) hx hb hts jnM hown hK hP 0 rfl rfl 8 (by decide) (hts _ mt_471) (fun _ h9 => h9) rfl dM_pack_49 ?_
        refine lv_iload_n hx hb dM_pack_52 rfl (lv_at hl 2 rfl) ?_
        refine iz_iald hx hb hK hP 7 rfl j e1 (by omega) (by omega) dM_pack_53 ?_
        refine iz_iconst hx hb dM_pack_54 ?_
        refine iz_icmp_ne (tgt := 62) hx hb ⟨by omega, by omega⟩ ⟨by omega, by omega⟩ dM_pack_55 (by decide) (fun g4 => ?_) (fun g4 => ?_)
        · refine iz_iconst hx hb dM_pack_62 ?_
          refine va_put (D := kD K) (ci := 4) (v := .int (iI 0)) (ty := .int) (C := RM) (T := FM) (N := 21) hx hb hts jnM tM tM_ok nM hown hK hP hD hS 0 rfl rfl 0 (by decide) (hts _ mt_463) (fun _ h9 => h9) rfl (by decide +kernel) rfl rfl (Nat.le_of_ble_eq_true rfl) dM_pack_63 ?_
          clear hP hD hS
          intro H locs hP hD hS
          replace hP : va_P (kD K) vcl [(b, .inr (4, [.int (iI 0), .int (iI (wn : Int)), .ref (b + 1), .ref (b + 2), .ref (b + 3), .ref (b + 4), .ref (b + 5), .ref (b + 6), .ref (b + 7), .ref (b + 8), .ref (b + 9), .long (lI co), .ref (b + 10), .ref (b + 11), .int (iI ln), .int (iI cu), .int (iI (pn : Int)), .ref (b + 12), .int (iI bc), .ref (b + 13), .ref (b + 14)])), (b + 1, .inl (kI K, 12, .inl (iA ar))), (b + 2, .inl (kI K, 12, .inl (iA oc))), (b + 3, .inl (kI K, 12, .inl (iA lc))), (b + 4, .inl (kI K, 96, .inl (iA st))), (b + 5, .inl (kI K, 96, .inl (iA tk))), (b + 6, .inl (kI K, 10, .inl (iA wa))), (b + 7, .inl (kI K, 10, .inl (iA pk))), (b + 8, .inl (kL K, 40, .inr (.inl (lA mu)))), (b + 9, .inl (kL K, 40, .inr (.inl (lA pr)))), (b + 10, .inl (kI K, 4, .inl (iA cn))), (b + 11, .inl (kI K, 4, .inl (iA bs))), (b + 12, .inl (kI K, 10, .inl (iA le))), (b + 13, .inl (kI K, 10, .inl (iA bb))), (b + 14, .inl (kI K, 10, .inl (iA ld)))] H := hP
          replace hD : va_D A [(b, .inr (4, [.int (iI 0), .int (iI (wn : Int)), .ref (b + 1), .ref (b + 2), .ref (b + 3), .ref (b + 4), .ref (b + 5), .ref (b + 6), .ref (b + 7), .ref (b + 8), .ref (b + 9), .long (lI co), .ref (b + 10), .ref (b + 11), .int (iI ln), .int (iI cu), .int (iI (pn : Int)), .ref (b + 12), .int (iI bc), .ref (b + 13), .ref (b + 14)])), (b + 1, .inl (kI K, 12, .inl (iA ar))), (b + 2, .inl (kI K, 12, .inl (iA oc))), (b + 3, .inl (kI K, 12, .inl (iA lc))), (b + 4, .inl (kI K, 96, .inl (iA st))), (b + 5, .inl (kI K, 96, .inl (iA tk))), (b + 6, .inl (kI K, 10, .inl (iA wa))), (b + 7, .inl (kI K, 10, .inl (iA pk))), (b + 8, .inl (kL K, 40, .inr (.inl (lA mu)))), (b + 9, .inl (kL K, 40, .inr (.inl (lA pr)))), (b + 10, .inl (kI K, 4, .inl (iA cn))), (b + 11, .inl (kI K, 4, .inl (iA bs))), (b + 12, .inl (kI K, 10, .inl (iA le))), (b + 13, .inl (kI K, 10, .inl (iA bb))), (b + 14, .inl (kI K, 10, .inl (iA ld)))] := hD
          refine lv_aload_n hx hb dM_pack_66 rfl (lv_at hl 1 rfl) ?_
          refine va_get (D := kD K) (ci := 4) (v := .int (iI 0)) (C := RM) (T := FM) (N := 21) hx hb hts jnM hown hK hP 0 rfl rfl 0 (by decide) (hts _ mt_463) (fun _ h9 => h9) rfl dM_pack_67 ?_
          refine iz_if_le (tgt := 75) hx hb ⟨by omega, by omega⟩ dM_pack_70 (by decide) (fun _ => ?_) (fun g => absurd g (by decide))
          refine lv_aload_n hx hb dM_pack_75 rfl (lv_at hl 1 rfl) ?_
          refine va_get (D := kD K) (ci := 4) (v := .ref (b + 8)) (C := RM) (T := FM) (N := 21) hx hb hts jnM hown hK hP 0 rfl rfl 9 (by decide) (hts _ mt_472) (fun _ h9 => h9) rfl dM_pack_76 ?_
          refine iz_iconst hx hb dM_pack_79 ?_
          refine lv_iload_n hx hb dM_pack_80 rfl (lv_at hl 2 rfl) ?_
          refine iz_imul hx hb dM_pack_81 ?_
          refine lv_aload_n hx hb dM_pack_82 rfl (lv_at hl 1 rfl) ?_
          refine va_get (D := kD K) (ci := 4) (v := .ref (b + 7)) (C := RM) (T := FM) (N := 21) hx hb hts jnM hown hK hP 0 rfl rfl 8 (by decide) (hts _ mt_471) (fun _ h9 => h9) rfl dM_pack_83 ?_
          refine lv_iload_n hx hb dM_pack_86 rfl (lv_at hl 2 rfl) ?_
          refine iz_iald hx hb hK hP 7 rfl j e1 (by omega) (by omega) dM_pack_87 ?_
          refine iz_iadd hx hb dM_pack_88 ?_
          refine lv_iload_n hx hb dM_pack_89 rfl (lv_at hl 3 rfl) ?_
          refine iz_i2l hx hb ⟨by omega, by omega⟩ dM_pack_90 ?_
          refine iz_last hx hb hK hP hD hS 8 rfl (4 * j + (pk j).toNat) (by omega) (by omega) (by omega) dM_pack_91 ?_
          clear hP hD hS
          intro H locs hP hD hS
          replace hP : va_P (kD K) vcl [(b, .inr (4, [.int (iI 0), .int (iI (wn : Int)), .ref (b + 1), .ref (b + 2), .ref (b + 3), .ref (b + 4), .ref (b + 5), .ref (b + 6), .ref (b + 7), .ref (b + 8), .ref (b + 9), .long (lI co), .ref (b + 10), .ref (b + 11), .int (iI ln), .int (iI cu), .int (iI (pn : Int)), .ref (b + 12), .int (iI bc), .ref (b + 13), .ref (b + 14)])), (b + 1, .inl (kI K, 12, .inl (iA ar))), (b + 2, .inl (kI K, 12, .inl (iA oc))), (b + 3, .inl (kI K, 12, .inl (iA lc))), (b + 4, .inl (kI K, 96, .inl (iA st))), (b + 5, .inl (kI K, 96, .inl (iA tk))), (b + 6, .inl (kI K, 10, .inl (iA wa))), (b + 7, .inl (kI K, 10, .inl (iA pk))), (b + 8, .inl (kL K, 40, .inr (.inl (lA (ut mu (4 * j + (pk j).toNat) x2))))), (b + 9, .inl (kL K, 40, .inr (.inl (lA pr)))), (b + 10, .inl (kI K, 4, .inl (iA cn))), (b + 11, .inl (kI K, 4, .inl (iA bs))), (b + 12, .inl (kI K, 10, .inl (iA le))), (b + 13, .inl (kI K, 10, .inl (iA bb))), (b + 14, .inl (kI K, 10, .inl (iA ld)))] H := hP
          replace hD : va_D A [(b, .inr (4, [.int (iI 0), .int (iI (wn : Int)), .ref (b + 1), .ref (b + 2), .ref (b + 3), .ref (b + 4), .ref (b + 5), .ref (b + 6), .ref (b + 7), .ref (b + 8), .ref (b + 9), .long (lI co), .ref (b + 10), .ref (b + 11), .int (iI ln), .int (iI cu), .int (iI (pn : Int)), .ref (b + 12), .int (iI bc), .ref (b + 13), .ref (b + 14)])), (b + 1, .inl (kI K, 12, .inl (iA ar))), (b + 2, .inl (kI K, 12, .inl (iA oc))), (b + 3, .inl (kI K, 12, .inl (iA lc))), (b + 4, .inl (kI K, 96, .inl (iA st))), (b + 5, .inl (kI K, 96, .inl (iA tk))), (b + 6, .inl (kI K, 10, .inl (iA wa))), (b + 7, .inl (kI K, 10, .inl (iA pk))), (b + 8, .inl (kL K, 40, .inr (.inl (lA (ut mu (4 * j + (pk j).toNat) x2))))), (b + 9, .inl (kL K, 40, .inr (.inl (lA pr)))), (b + 10, .inl (kI K, 4, .inl (iA cn))), (b + 11, .inl (kI K, 4, .inl (iA bs))), (b + 12, .inl (kI K, 10, .inl (iA le))), (b + 13, .inl (kI K, 10, .inl (iA bb))), (b + 14, .inl (kI K, 10, .inl (iA ld)))] := hD
          refine lv_aload_n hx hb dM_pack_92 rfl (lv_at hl 1 rfl) ?_
          refine va_get (D := kD K) (ci := 4) (v := .ref (b + 9)) (C := RM) (T := FM) (N := 21) hx hb hts jnM hown hK hP 0 rfl rfl 10 (by decide) (hts _ mt_473) (fun _ h9 => h9) rfl dM_pack_93 ?_
          refine iz_iconst hx hb dM_pack_96 ?_
          refine lv_iload_n hx hb dM_pack_97 rfl (lv_at hl 2 rfl) ?_
          refine iz_imul hx hb dM_pack_98 ?_
          refine lv_aload_n hx hb dM_pack_99 rfl (lv_at hl 1 rfl) ?_
          refine va_get (D := kD K) (ci := 4) (v := .ref (b + 7)) (C := RM) (T := FM) (N := 21) hx hb hts jnM hown hK hP 0 rfl rfl 8 (by decide) (hts _ mt_471) (fun _ h9 => h9) rfl dM_pack_100 ?_
          refine lv_iload_n hx hb dM_pack_103 rfl (lv_at hl 2 rfl) ?_
          refine iz_iald hx hb hK hP 7 rfl j e1 (by omega) (by omega) dM_pack_104 ?_
          refine iz_iadd hx hb dM_pack_105 ?_
          refine lv_iload_n hx hb dM_pack_106 rfl (lv_at hl 4 rfl) ?_
          refine iz_i2l hx hb ⟨by omega, by omega⟩ dM_pack_107 ?_
          refine iz_last hx hb hK hP hD hS 9 rfl (4 * j + (pk j).toNat) (by omega) (by omega) (by omega) dM_pack_108 ?_
          clear hP hD hS
          intro H locs hP hD hS
          replace hP : va_P (kD K) vcl [(b, .inr (4, [.int (iI 0), .int (iI (wn : Int)), .ref (b + 1), .ref (b + 2), .ref (b + 3), .ref (b + 4), .ref (b + 5), .ref (b + 6), .ref (b + 7), .ref (b + 8), .ref (b + 9), .long (lI co), .ref (b + 10), .ref (b + 11), .int (iI ln), .int (iI cu), .int (iI (pn : Int)), .ref (b + 12), .int (iI bc), .ref (b + 13), .ref (b + 14)])), (b + 1, .inl (kI K, 12, .inl (iA ar))), (b + 2, .inl (kI K, 12, .inl (iA oc))), (b + 3, .inl (kI K, 12, .inl (iA lc))), (b + 4, .inl (kI K, 96, .inl (iA st))), (b + 5, .inl (kI K, 96, .inl (iA tk))), (b + 6, .inl (kI K, 10, .inl (iA wa))), (b + 7, .inl (kI K, 10, .inl (iA pk))), (b + 8, .inl (kL K, 40, .inr (.inl (lA (ut mu (4 * j + (pk j).toNat) x2))))), (b + 9, .inl (kL K, 40, .inr (.inl (lA (ut pr (4 * j + (pk j).toNat) x3))))), (b + 10, .inl (kI K, 4, .inl (iA cn))), (b + 11, .inl (kI K, 4, .inl (iA bs))), (b + 12, .inl (kI K, 10, .inl (iA le))), (b + 13, .inl (kI K, 10, .inl (iA bb))), (b + 14, .inl (kI K, 10, .inl (iA ld)))] H := hP
          replace hD : va_D A [(b, .inr (4, [.int (iI 0), .int (iI (wn : Int)), .ref (b + 1), .ref (b + 2), .ref (b + 3), .ref (b + 4), .ref (b + 5), .ref (b + 6), .ref (b + 7), .ref (b + 8), .ref (b + 9), .long (lI co), .ref (b + 10), .ref (b + 11), .int (iI ln), .int (iI cu), .int (iI (pn : Int)), .ref (b + 12), .int (iI bc), .ref (b + 13), .ref (b + 14)])), (b + 1, .inl (kI K, 12, .inl (iA ar))), (b + 2, .inl (kI K, 12, .inl (iA oc))), (b + 3, .inl (kI K, 12, .inl (iA lc))), (b + 4, .inl (kI K, 96, .inl (iA st))), (b + 5, .inl (kI K, 96, .inl (iA tk))), (b + 6, .inl (kI K, 10, .inl (iA wa))), (b + 7, .inl (kI K, 10, .inl (iA pk))), (b + 8, .inl (kL K, 40, .inr (.inl (lA (ut mu (4 * j + (pk j).toNat) x2))))), (b + 9, .inl (kL K, 40, .inr (.inl (lA (ut pr (4 * j + (pk j).toNat) x3))))), (b + 10, .inl (kI K, 4, .inl (iA cn))), (b + 11, .inl (kI K, 4, .inl (iA bs))), (b + 12, .inl (kI K, 10, .inl (iA le))), (b + 13, .inl (kI K, 10, .inl (iA bb))), (b + 14, .inl (kI K, 10, .inl (iA ld)))] := hD
          refine lv_aload_n hx hb dM_pack_109 rfl (lv_at hl 1 rfl) ?_
          refine va_get (D := kD K) (ci := 4) (v := .ref (b + 7)) (C := RM) (T := FM) (N := 21) hx hb hts jnM hown hK hP 0 rfl rfl 8 (by decide) (hts _ mt_471) (fun _ h9 => h9) rfl dM_pack_110 ?_
          refine lv_iload_n hx hb dM_pack_113 rfl (lv_at hl 2 rfl) ?_
          refine lv_dup2_11 hx hb dM_pack_114 rfl rfl ?_
          refine iz_iald hx hb hK hP 7 rfl j e1 (by omega) (by omega) dM_pack_115 ?_
          refine iz_iconst hx hb dM_pack_116 ?_
          refine iz_iadd hx hb dM_pack_117 ?_
          refine iz_iast hx hb hK hP hD hS 7 rfl j e1 (by omega) (by omega) dM_pack_118 ?_
          clear hP hD hS
          intro H locs hP hD hS
          replace hP : va_P (kD K) vcl [(b, .inr (4, [.int (iI 0), .int (iI (wn : Int)), .ref (b + 1), .ref (b + 2), .ref (b + 3), .ref (b + 4), .ref (b + 5), .ref (b + 6), .ref (b + 7), .ref (b + 8), .ref (b + 9), .long (lI co), .ref (b + 10), .ref (b + 11), .int (iI ln), .int (iI cu), .int (iI (pn : Int)), .ref (b + 12), .int (iI bc), .ref (b + 13), .ref (b + 14)])), (b + 1, .inl (kI K, 12, .inl (iA ar))), (b + 2, .inl (kI K, 12, .inl (iA oc))), (b + 3, .inl (kI K, 12, .inl (iA lc))), (b + 4, .inl (kI K, 96, .inl (iA st))), (b + 5, .inl (kI K, 96, .inl (iA tk))), (b + 6, .inl (kI K, 10, .inl (iA wa))), (b + 7, .inl (kI K, 10, .inl (iA (ut pk j ((pk j) + 1))))), (b + 8, .inl (kL K, 40, .inr (.inl (lA (ut mu (4 * j + (pk j).toNat) x2))))), (b + 9, .inl (kL K, 40, .inr (.inl (lA (ut pr (4 * j + (pk j).toNat) x3))))), (b + 10, .inl (kI K, 4, .inl (iA cn))), (b + 11, .inl (kI K, 4, .inl (iA bs))), (b + 12, .inl (kI K, 10, .inl (iA le))), (b + 13, .inl (kI K, 10, .inl (iA bb))), (b + 14, .inl (kI K, 10, .inl (iA ld)))] H := hP
          replace hD : va_D A [(b, .inr (4, [.int (iI 0), .int (iI (wn : Int)), .ref (b + 1), .ref (b + 2), .ref (b + 3), .ref (b + 4), .ref (b + 5), .ref (b + 6), .ref (b + 7), .ref (b + 8), .ref (b + 9), .long (lI co), .ref (b + 10), .ref (b + 11), .int (iI ln), .int (iI cu), .int (iI (pn : Int)), .ref (b + 12), .int (iI bc), .ref (b + 13), .ref (b + 14)])), (b + 1, .inl (kI K, 12, .inl (iA ar))), (b + 2, .inl (kI K, 12, .inl (iA oc))), (b + 3, .inl (kI K, 12, .inl (iA lc))), (b + 4, .inl (kI K, 96, .inl (iA st))), (b + 5, .inl (kI K, 96, .inl (iA tk))), (b + 6, .inl (kI K, 10, .inl (iA wa))), (b + 7, .inl (kI K, 10, .inl (iA (ut pk j ((pk j) + 1))))), (b + 8, .inl (kL K, 40, .inr (.inl (lA (ut mu (4 * j + (pk j).toNat) x2))))), (b + 9, .inl (kL K, 40, .inr (.inl (lA (ut pr (4 * j + (pk j).toNat) x3))))), (b + 10, .inl (kI K, 4, .inl (iA cn))), (b + 11, .inl (kI K, 4, .inl (iA bs))), (b + 12, .inl (kI K, 10, .inl (iA le))), (b + 13, .inl (kI K, 10, .inl (iA bb))), (b + 14, .inl (kI K, 10, .inl (iA ld)))] := hD
          refine lv_aload_n hx hb dM_pack_119 rfl (lv_at hl 1 rfl) ?_
          refine va_get (D := kD K) (ci := 4) (v := .ref (b + 7)) (C := RM) (T := FM) (N := 21) hx hb hts jnM hown hK hP 0 rfl rfl 8 (by decide) (hts _ mt_471) (fun _ h9 => h9) rfl dM_pack_120 ?_
          refine lv_iload_n hx hb dM_pack_123 rfl (lv_at hl 2 rfl) ?_
          refine iz_iald hx hb hK hP 7 rfl j e1 (by omega) (by omega) dM_pack_124 ?_
          refine iz_iconst hx hb dM_pack_125 ?_
          refine iz_isub hx hb dM_pack_126 ?_
          rw [hQ]
          exact iz_iret hx hb hr hlocks (Or.inr (Or.inr ⟨by omega, by omega, by rw [ut_s]; omega, hP⟩)) hS.2.2 dM_pack_127
        · refine iz_iconst hx hb dM_pack_58 ?_
          refine lv_goto (tgt := 63) hx hb dM_pack_59 (by decide) ?_
          refine va_put (D := kD K) (ci := 4) (v := .int (iI 2)) (ty := .int) (C := RM) (T := FM) (N := 21) hx hb hts jnM tM tM_ok nM hown hK hP hD hS 0 rfl rfl 0 (by decide) (hts _ mt_463) (fun _ h9 => h9) rfl (by decide +kernel) rfl rfl (Nat.le_of_ble_eq_true rfl) dM_pack_63 ?_
          clear hP hD hS
          intro H locs hP hD hS
          replace hP : va_P (kD K) vcl [(b, .inr (4, [.int (iI 2), .int (iI (wn : Int)), .ref (b + 1), .ref (b + 2), .ref (b + 3), .ref (b + 4), .ref (b + 5), .ref (b + 6), .ref (b + 7), .ref (b + 8), .ref (b + 9), .long (lI co), .ref (b + 10), .ref (b + 11), .int (iI ln), .int (iI cu), .int (iI (pn : Int)), .ref (b + 12), .int (iI bc), .ref (b + 13), .ref (b + 14)])), (b + 1, .inl (kI K, 12, .inl (iA ar))), (b + 2, .inl (kI K, 12, .inl (iA oc))), (b + 3, .inl (kI K, 12, .inl (iA lc))), (b + 4, .inl (kI K, 96, .inl (iA st))), (b + 5, .inl (kI K, 96, .inl (iA tk))), (b + 6, .inl (kI K, 10, .inl (iA wa))), (b + 7, .inl (kI K, 10, .inl (iA pk))), (b + 8, .inl (kL K, 40, .inr (.inl (lA mu)))), (b + 9, .inl (kL K, 40, .inr (.inl (lA pr)))), (b + 10, .inl (kI K, 4, .inl (iA cn))), (b + 11, .inl (kI K, 4, .inl (iA bs))), (b + 12, .inl (kI K, 10, .inl (iA le))), (b + 13, .inl (kI K, 10, .inl (iA bb))), (b + 14, .inl (kI K, 10, .inl (iA ld)))] H := hP
          replace hD : va_D A [(b, .inr (4, [.int (iI 2), .int (iI (wn : Int)), .ref (b + 1), .ref (b + 2), .ref (b + 3), .ref (b + 4), .ref (b + 5), .ref (b + 6), .ref (b + 7), .ref (b + 8), .ref (b + 9), .long (lI co), .ref (b + 10), .ref (b + 11), .int (iI ln), .int (iI cu), .int (iI (pn : Int)), .ref (b + 12), .int (iI bc), .ref (b + 13), .ref (b + 14)])), (b + 1, .inl (kI K, 12, .inl (iA ar))), (b + 2, .inl (kI K, 12, .inl (iA oc))), (b + 3, .inl (kI K, 12, .inl (iA lc))), (b + 4, .inl (kI K, 96, .inl (iA st))), (b + 5, .inl (kI K, 96, .inl (iA tk))), (b + 6, .inl (kI K, 10, .inl (iA wa))), (b + 7, .inl (kI K, 10, .inl (iA pk))), (b + 8, .inl (kL K, 40, .inr (.inl (lA mu)))), (b + 9, .inl (kL K, 40, .inr (.inl (lA pr)))), (b + 10, .inl (kI K, 4, .inl (iA cn))), (b + 11, .inl (kI K, 4, .inl (iA bs))), (b + 12, .inl (kI K, 10, .inl (iA le))), (b + 13, .inl (kI K, 10, .inl (iA bb))), (b + 14, .inl (kI K, 10, .inl (iA ld)))] := hD
          refine lv_aload_n hx hb dM_pack_66 rfl (lv_at hl 1 rfl) ?_
          refine va_get (D := kD K) (ci := 4) (v := .int (iI 2)) (C := RM) (T := FM) (N := 21) hx hb hts jnM hown hK hP 0 rfl rfl 0 (by decide) (hts _ mt_463) (fun _ h9 => h9) rfl dM_pack_67 ?_
          refine iz_if_le (tgt := 75) hx hb ⟨by omega, by omega⟩ dM_pack_70 (by decide) (fun g => absurd g (by decide)) (fun _ => ?_)
          refine iz_iconst hx hb dM_pack_73 ?_
          rw [hQ]
          exact iz_iret hx hb hr hlocks (Or.inr (Or.inl ⟨by omega, by omega, hP⟩)) hS.2.2 dM_pack_74
      · refine iz_if_eq (tgt := 35) hx hb ⟨by omega, by omega⟩ dM_pack_28 (by decide) (fun _ => ?_) (fun g => absurd g (by decide))
        refine iz_iconst hx hb dM_pack_35 ?_
        refine lv_istore (lv' := [(4, .int (iI 0)), (0, .ref b), (1, .int (iI x1)), (2, .int (iI x2)), (3, .int (iI x3))]) hx hb dM_pack_36 hl (by decide) rfl (fun ls hl => ?_)
        refine lv_aload_n hx hb dM_pack_38 rfl (lv_at hl 1 rfl) ?_
        refine lv_iload hx hb dM_pack_39 (lv_at hl 0 rfl) ?_
        refine iz_if_ne (tgt := 48) hx hb ⟨by omega, by omega⟩ dM_pack_41 (by decide) (fun g => absurd g (by decide)) (fun _ => ?_)
        refine iz_iconst hx hb dM_pack_44 ?_
        refine lv_goto (tgt := 63) hx hb dM_pack_45 (by decide) ?_
        refine va_put (D := kD K) (ci := 4) (v := .int (iI 1)) (ty := .int) (C := RM) (T := FM) (N := 21) hx hb hts jnM tM tM_ok nM hown hK hP hD hS 0 rfl rfl 0 (by decide) (hts _ mt_463) (fun _ h9 => h9) rfl (by decide +kernel) rfl rfl (Nat.le_of_ble_eq_true rfl) dM_pack_63 ?_
        clear hP hD hS
        intro H locs hP hD hS
        replace hP : va_P (kD K) vcl [(b, .inr (4, [.int (iI 1), .int (iI (wn : Int)), .ref (b + 1), .ref (b + 2), .ref (b + 3), .ref (b + 4), .ref (b + 5), .ref (b + 6), .ref (b + 7), .ref (b + 8), .ref (b + 9), .long (lI co), .ref (b + 10), .ref (b + 11), .int (iI ln), .int (iI cu), .int (iI (pn : Int)), .ref (b + 12), .int (iI bc), .ref (b + 13), .ref (b + 14)])), (b + 1, .inl (kI K, 12, .inl (iA ar))), (b + 2, .inl (kI K, 12, .inl (iA oc))), (b + 3, .inl (kI K, 12, .inl (iA lc))), (b + 4, .inl (kI K, 96, .inl (iA st))), (b + 5, .inl (kI K, 96, .inl (iA tk))), (b + 6, .inl (kI K, 10, .inl (iA wa))), (b + 7, .inl (kI K, 10, .inl (iA pk))), (b + 8, .inl (kL K, 40, .inr (.inl (lA mu)))), (b + 9, .inl (kL K, 40, .inr (.inl (lA pr)))), (b + 10, .inl (kI K, 4, .inl (iA cn))), (b + 11, .inl (kI K, 4, .inl (iA bs))), (b + 12, .inl (kI K, 10, .inl (iA le))), (b + 13, .inl (kI K, 10, .inl (iA bb))), (b + 14, .inl (kI K, 10, .inl (iA ld)))] H := hP
        replace hD : va_D A [(b, .inr (4, [.int (iI 1), .int (iI (wn : Int)), .ref (b + 1), .ref (b + 2), .ref (b + 3), .ref (b + 4), .ref (b + 5), .ref (b + 6), .ref (b + 7), .ref (b + 8), .ref (b + 9), .long (lI co), .ref (b + 10), .ref (b + 11), .int (iI ln), .int (iI cu), .int (iI (pn : Int)), .ref (b + 12), .int (iI bc), .ref (b + 13), .ref (b + 14)])), (b + 1, .inl (kI K, 12, .inl (iA ar))), (b + 2, .inl (kI K, 12, .inl (iA oc))), (b + 3, .inl (kI K, 12, .inl (iA lc))), (b + 4, .inl (kI K, 96, .inl (iA st))), (b + 5, .inl (kI K, 96, .inl (iA tk))), (b + 6, .inl (kI K, 10, .inl (iA wa))), (b + 7, .inl (kI K, 10, .inl (iA pk))), (b + 8, .inl (kL K, 40, .inr (.inl (lA mu)))), (b + 9, .inl (kL K, 40, .inr (.inl (lA pr)))), (b + 10, .inl (kI K, 4, .inl (iA cn))), (b + 11, .inl (kI K, 4, .inl (iA bs))), (b + 12, .inl (kI K, 10, .inl (iA le))), (b + 13, .inl (kI K, 10, .inl (iA bb))), (b + 14, .inl (kI K, 10, .inl (iA ld)))] := hD
        refine lv_aload_n hx hb dM_pack_66 rfl (lv_at hl 1 rfl) ?_
        refine va_get (D := kD K) (ci := 4) (v := .int (iI 1)) (C := RM) (T := FM) (N := 21) hx hb hts jnM hown hK hP 0 rfl rfl 0 (by decide) (hts _ mt_463) (fun _ h9 => h9) rfl dM_pack_67 ?_
        refine iz_if_le (tgt := 75) hx hb ⟨by omega, by omega⟩ dM_pack_70 (by decide) (fun g => absurd g (by decide)) (fun _ => ?_)
        refine iz_iconst hx hb dM_pack_73 ?_
        rw [hQ]
        exact iz_iret hx hb hr hlocks (Or.inl ⟨by omega, hP⟩) hS.2.2 dM_pack_74
    · refine iz_if_eq (tgt := 35) hx hb ⟨by omega, by omega⟩ dM_pack_16 (by decide) (fun _ => ?_) (fun g => absurd g (by decide))
      refine iz_iconst hx hb dM_pack_35 ?_
      refine lv_istore (lv' := [(4, .int (iI 0)), (0, .ref b), (1, .int (iI x1)), (2, .int (iI x2)), (3, .int (iI x3))]) hx hb dM_pack_36 hl (by decide) rfl (fun ls hl => ?_)
      refine lv_aload_n hx hb dM_pack_38 rfl (lv_at hl 1 rfl) ?_
      refine lv_iload hx hb dM_pack_39 (lv_at hl 0 rfl) ?_
      refine iz_if_ne (tgt := 48) hx hb ⟨by omega, by omega⟩ dM_pack_41 (by decide) (fun g => absurd g (by decide)) (fun _ => ?_)
      refine iz_iconst hx hb dM_pack_44 ?_
      refine lv_goto (tgt := 63) hx hb dM_pack_45 (by decide) ?_
      refine va_put (D := kD K) (ci := 4) (v := .int (iI 1)) (ty := .int) (C := RM) (T := FM) (N := 21) hx hb hts jnM tM tM_ok nM hown hK hP hD hS 0 rfl rfl 0 (by decide) (hts _ mt_463) (fun _ h9 => h9) rfl (by decide +kernel) rfl rfl (Nat.le_of_ble_eq_true rfl) dM_pack_63 ?_
      clear hP hD hS
      intro H locs hP hD hS
      replace hP : va_P (kD K) vcl [(b, .inr (4, [.int (iI 1), .int (iI (wn : Int)), .ref (b + 1), .ref (b + 2), .ref (b + 3), .ref (b + 4), .ref (b + 5), .ref (b + 6), .ref (b + 7), .ref (b + 8), .ref (b + 9), .long (lI co), .ref (b + 10), .ref (b + 11), .int (iI ln), .int (iI cu), .int (iI (pn : Int)), .ref (b + 12), .int (iI bc), .ref (b + 13), .ref (b + 14)])), (b + 1, .inl (kI K, 12, .inl (iA ar))), (b + 2, .inl (kI K, 12, .inl (iA oc))), (b + 3, .inl (kI K, 12, .inl (iA lc))), (b + 4, .inl (kI K, 96, .inl (iA st))), (b + 5, .inl (kI K, 96, .inl (iA tk))), (b + 6, .inl (kI K, 10, .inl (iA wa))), (b + 7, .inl (kI K, 10, .inl (iA pk))), (b + 8, .inl (kL K, 40, .inr (.inl (lA mu)))), (b + 9, .inl (kL K, 40, .inr (.inl (lA pr)))), (b + 10, .inl (kI K, 4, .inl (iA cn))), (b + 11, .inl (kI K, 4, .inl (iA bs))), (b + 12, .inl (kI K, 10, .inl (iA le))), (b + 13, .inl (kI K, 10, .inl (iA bb))), (b + 14, .inl (kI K, 10, .inl (iA ld)))] H := hP
      replace hD : va_D A [(b, .inr (4, [.int (iI 1), .int (iI (wn : Int)), .ref (b + 1), .ref (b + 2), .ref (b + 3), .ref (b + 4), .ref (b + 5), .ref (b + 6), .ref (b + 7), .ref (b + 8), .ref (b + 9), .long (lI co), .ref (b + 10), .ref (b + 11), .int (iI ln), .int (iI cu), .int (iI (pn : Int)), .ref (b + 12), .int (iI bc), .ref (b + 13), .ref (b + 14)])), (b + 1, .inl (kI K, 12, .inl (iA ar))), (b + 2, .inl (kI K, 12, .inl (iA oc))), (b + 3, .inl (kI K, 12, .inl (iA lc))), (b + 4, .inl (kI K, 96, .inl (iA st))), (b + 5, .inl (kI K, 96, .inl (iA tk))), (b + 6, .inl (kI K, 10, .inl (iA wa))), (b + 7, .inl (kI K, 10, .inl (iA pk))), (b + 8, .inl (kL K, 40, .inr (.inl (lA mu)))), (b + 9, .inl (kL K, 40, .inr (.inl (lA pr)))), (b + 10, .inl (kI K, 4, .inl (iA cn))), (b + 11, .inl (kI K, 4, .inl (iA bs))), (b + 12, .inl (kI K, 10, .inl (iA le))), (b + 13, .inl (kI K, 10, .inl (iA bb))), (b + 14, .inl (kI K, 10, .inl (iA ld)))] := hD
      refine lv_aload_n hx hb dM_pack_66 rfl (lv_at hl 1 rfl) ?_
      refine va_get (D := kD K) (ci := 4) (v := .int (iI 1)) (C := RM) (T := FM) (N := 21) hx hb hts jnM hown hK hP 0 rfl rfl 0 (by decide) (hts _ mt_463) (fun _ h9 => h9) rfl dM_pack_67 ?_
      refine iz_if_le (tgt := 75) hx hb ⟨by omega, by omega⟩ dM_pack_70 (by decide) (fun g => absurd g (by decide)) (fun _ => ?_)
      refine iz_iconst hx hb dM_pack_73 ?_
      rw [hQ]
      exact iz_iret hx hb hr hlocks (Or.inl ⟨by omega, hP⟩) hS.2.2 dM_pack_74
  · refine iz_if_eq (tgt := 35) hx hb ⟨by omega, by omega⟩ dM_pack_4 (by decide) (fun _ => ?_) (fun g => absurd g (by decide))
    refine iz_iconst hx hb dM_pack_35 ?_
    refine lv_istore (lv' := [(4, .int (iI 0)), (0, .ref b), (1, .int (iI x1)), (2, .int (iI x2)), (3, .int (iI x3))]) hx hb dM_pack_36 hl (by decide) rfl (fun ls hl => ?_)
    refine lv_aload_n hx hb dM_pack_38 rfl (lv_at hl 1 rfl) ?_
    refine lv_iload hx hb dM_pack_39 (lv_at hl 0 rfl) ?_
    refine iz_if_ne (tgt := 48) hx hb ⟨by omega, by omega⟩ dM_pack_41 (by decide) (fun g => absurd g (by decide)) (fun _ => ?_)
    refine iz_iconst hx hb dM_pack_44 ?_
    refine lv_goto (tgt := 63) hx hb dM_pack_45 (by decide) ?_
    refine va_put (D := kD K) (ci := 4) (v := .int (iI 1)) (ty := .int) (C := RM) (T := FM) (N := 21) hx hb hts jnM tM tM_ok nM hown hK hP hD hS 0 rfl rfl 0 (by decide) (hts _ mt_463) (fun _ h9 => h9) rfl (by decide +kernel) rfl rfl (Nat.le_of_ble_eq_true rfl) dM_pack_63 ?_
    clear hP hD hS
    intro H locs hP hD hS
    replace hP : va_P (kD K) vcl [(b, .inr (4, [.int (iI 1), .int (iI (wn : Int)), .ref (b + 1), .ref (b + 2), .ref (b + 3), .ref (b + 4), .ref (b + 5), .ref (b + 6), .ref (b + 7), .ref (b + 8), .ref (b + 9), .long (lI co), .ref (b + 10), .ref (b + 11), .int (iI ln), .int (iI cu), .int (iI (pn : Int)), .ref (b + 12), .int (iI bc), .ref (b + 13), .ref (b + 14)])), (b + 1, .inl (kI K, 12, .inl (iA ar))), (b + 2, .inl (kI K, 12, .inl (iA oc))), (b + 3, .inl (kI K, 12, .inl (iA lc))), (b + 4, .inl (kI K, 96, .inl (iA st))), (b + 5, .inl (kI K, 96, .inl (iA tk))), (b + 6, .inl (kI K, 10, .inl (iA wa))), (b + 7, .inl (kI K, 10, .inl (iA pk))), (b + 8, .inl (kL K, 40, .inr (.inl (lA mu)))), (b + 9, .inl (kL K, 40, .inr (.inl (lA pr)))), (b + 10, .inl (kI K, 4, .inl (iA cn))), (b + 11, .inl (kI K, 4, .inl (iA bs))), (b + 12, .inl (kI K, 10, .inl (iA le))), (b + 13, .inl (kI K, 10, .inl (iA bb))), (b + 14, .inl (kI K, 10, .inl (iA ld)))] H := hP
    replace hD : va_D A [(b, .inr (4, [.int (iI 1), .int (iI (wn : Int)), .ref (b + 1), .ref (b + 2), .ref (b + 3), .ref (b + 4), .ref (b + 5), .ref (b + 6), .ref (b + 7), .ref (b + 8), .ref (b + 9), .long (lI co), .ref (b + 10), .ref (b + 11), .int (iI ln), .int (iI cu), .int (iI (pn : Int)), .ref (b + 12), .int (iI bc), .ref (b + 13), .ref (b + 14)])), (b + 1, .inl (kI K, 12, .inl (iA ar))), (b + 2, .inl (kI K, 12, .inl (iA oc))), (b + 3, .inl (kI K, 12, .inl (iA lc))), (b + 4, .inl (kI K, 96, .inl (iA st))), (b + 5, .inl (kI K, 96, .inl (iA tk))), (b + 6, .inl (kI K, 10, .inl (iA wa))), (b + 7, .inl (kI K, 10, .inl (iA pk))), (b + 8, .inl (kL K, 40, .inr (.inl (lA mu)))), (b + 9, .inl (kL K, 40, .inr (.inl (lA pr)))), (b + 10, .inl (kI K, 4, .inl (iA cn))), (b + 11, .inl (kI K, 4, .inl (iA bs))), (b + 12, .inl (kI K, 10, .inl (iA le))), (b + 13, .inl (kI K, 10, .inl (iA bb))), (b + 14, .inl (kI K, 10, .inl (iA ld)))] := hD
    refine lv_aload_n hx hb dM_pack_66 rfl (lv_at hl 1 rfl) ?_
    refine va_get (D := kD K) (ci := 4) (v := .int (iI 1)) (C := RM) (T := FM) (N := 21) hx hb hts jnM hown hK hP 0 rfl rfl 0 (by decide) (hts _ mt_463) (fun _ h9 => h9) rfl dM_pack_67 ?_
    refine iz_if_le (tgt := 75) hx hb ⟨by omega, by omega⟩ dM_pack_70 (by decide) (fun g => absurd g (by decide)) (fun _ => ?_)
    refine iz_iconst hx hb dM_pack_73 ?_
    rw [hQ]
    exact iz_iret hx hb hr hlocks (Or.inl ⟨by omega, hP⟩) hS.2.2 dM_pack_74
abbrev rmM_bars : Room := { frames := 2, cells := 0, slots := 0, locals := 80 }
set_option maxHeartbeats 4000000 in
set_option maxRecDepth 100000 in
/-- bars(length, cut) -/
theorem c_M_bars (l : Launch) (K : KG) (b : Nat) (cd : Int) (wn : Nat) (ar oc lc st tk wa pk mu pr : Nat → Int) (co : Int) (cn bs : Nat → Int) (ln cu : Int) (pn : Nat) (le : Nat → Int) (bc : Int) (bb ld : Nat → Int) (x1 x2 : Int) (h1 : r32 x1) (h2 : r32 x2) (hB9 : SwB ln cu pn le) : Ct l yM_bars kM_bars rmM_bars (PC K [.ref b, .int (iI x1), .int (iI x2)] (fun H => va_P (kD K) vcl (mdW K b cd wn ar oc lc st tk wa pk mu pr co cn bs ln cu pn le bc bb ld) H)) (QV (fun H => (¬ ((1 ≤ x1 ∧ x1 ≤ 10000) ∧ (0 ≤ x2 ∧ x2 ≤ 100)) ∧ va_P (kD K) vcl (mdW K b 1 wn ar oc lc st tk wa pk mu pr co cn bs ln cu pn le bc bb ld) H) ∨ (((1 ≤ x1 ∧ x1 ≤ 10000) ∧ (0 ≤ x2 ∧ x2 ≤ 100)) ∧ (∃ i, i < pn ∧ x1 < le i) ∧ va_P (kD K) vcl (mdW K b 2 wn ar oc lc st tk wa pk mu pr co cn bs ln cu pn le bc bb ld) H) ∨ (((1 ≤ x1 ∧ x1 ≤ 10000) ∧ (0 ≤ x2 ∧ x2 ≤ 100)) ∧ (∀ i, i < pn → le i ≤ x1) ∧ va_P (kD K) vcl (mdW K b 0 wn ar oc lc st tk wa pk mu pr co cn bs x1 x2 pn le bc bb ld) H))) (fun x => b ≤ x ∧ x < b + 15) := by
  refine ct_of (by decide) (Or.inl ⟨rfl, rfl⟩) ?_
  intro p e s m args below meth c B0 hP0
  obtain ⟨hx, hb, hr, hml, hown, hlocks, hnm, htab⟩ := B0
  obtain ⟨ha, ⟨hT, hK⟩, hB⟩ := hP0
  have hl := lv_entry ([.ref b, .int (iI x1), .int (iI x2)]) (n := 5) (Nat.le_of_ble_eq_true rfl)
  obtain ⟨Q, hQ⟩ : ∃ Q, Q = XQ below (QV (fun H => (¬ ((1 ≤ x1 ∧ x1 ≤ 10000) ∧ (0 ≤ x2 ∧ x2 ≤ 100)) ∧ va_P (kD K) vcl (mdW K b 1 wn ar oc lc st tk wa pk mu pr co cn bs ln cu pn le bc bb ld) H) ∨ (((1 ≤ x1 ∧ x1 ≤ 10000) ∧ (0 ≤ x2 ∧ x2 ≤ 100)) ∧ (∃ i, i < pn ∧ x1 < le i) ∧ va_P (kD K) vcl (mdW K b 2 wn ar oc lc st tk wa pk mu pr co cn bs ln cu pn le bc bb ld) H) ∨ (((1 ≤ x1 ∧ x1 ≤ 10000) ∧ (0 ≤ x2 ∧ x2 ≤ 100)) ∧ (∀ i, i < pn → le i ≤ x1) ∧ va_P (kD K) vcl (mdW K b 0 wn ar oc lc st tk wa pk mu pr co cn bs x1 x2 pn le bc bb ld) H))) args s rmM_bars.cells rmM_bars.slots (fun x => b ≤ x ∧ x < b + 15) := ⟨_, rfl⟩
  rw [← hQ, ha, lg_entry_eq]
  rw [ha] at hQ
  generalize (lg_sl ([.ref b, .int (iI x1), .int (iI x2)]) ++ List.replicate (5 - (lg_sl ([.ref b, .int (iI x1), .int (iI x2)])).length) Slot.unset).toArray = ls at hl ⊢
  generalize ([.ref b, .int (iI x1), .int (iI x2)] : List Value).toArray = args at hQ ⊢
  have hts : ∀ w ∈ TW, w.before args s = true := fun w h => hT w h args
  have hl : lv_has ls 5 [(0, .ref b), (1, .int (iI x1)), (2, .int (iI x2))] := hl
  obtain ⟨A, hAe⟩ : ∃ A : Addr → Prop, A = (fun x => b ≤ x ∧ x < b + 15) := ⟨_, rfl⟩
  rw [← hAe] at hQ
  have hS : va_S A s.heap s.heap [] := va_S.rf
  have hP : va_P (kD K) vcl [(b, .inr (4, [.int (iI cd), .int (iI (wn : Int)), .ref (b + 1), .ref (b + 2), .ref (b + 3), .ref (b + 4), .ref (b + 5), .ref (b + 6), .ref (b + 7), .ref (b + 8), .ref (b + 9), .long (lI co), .ref (b + 10), .ref (b + 11), .int (iI ln), .int (iI cu), .int (iI (pn : Int)), .ref (b + 12), .int (iI bc), .ref (b + 13), .ref (b + 14)])), (b + 1, .inl (kI K, 12, .inl (iA ar))), (b + 2, .inl (kI K, 12, .inl (iA oc))), (b + 3, .inl (kI K, 12, .inl (iA lc))), (b + 4, .inl (kI K, 96, .inl (iA st))), (b + 5, .inl (kI K, 96, .inl (iA tk))), (b + 6, .inl (kI K, 10, .inl (iA wa))), (b + 7, .inl (kI K, 10, .inl (iA pk))), (b + 8, .inl (kL K, 40, .inr (.inl (lA mu)))), (b + 9, .inl (kL K, 40, .inr (.inl (lA pr)))), (b + 10, .inl (kI K, 4, .inl (iA cn))), (b + 11, .inl (kI K, 4, .inl (iA bs))), (b + 12, .inl (kI K, 10, .inl (iA le))), (b + 13, .inl (kI K, 10, .inl (iA bb))), (b + 14, .inl (kI K, 10, .inl (iA ld)))] s.heap := hB
  have hD : va_D A [(b, .inr (4, [.int (iI cd), .int (iI (wn : Int)), .ref (b + 1), .ref (b + 2), .ref (b + 3), .ref (b + 4), .ref (b + 5), .ref (b + 6), .ref (b + 7), .ref (b + 8), .ref (b + 9), .long (lI co), .ref (b + 10), .ref (b + 11), .int (iI ln), .int (iI cu), .int (iI (pn : Int)), .ref (b + 12), .int (iI bc), .ref (b + 13), .ref (b + 14)])), (b + 1, .inl (kI K, 12, .inl (iA ar))), (b + 2, .inl (kI K, 12, .inl (iA oc))), (b + 3, .inl (kI K, 12, .inl (iA lc))), (b + 4, .inl (kI K, 96, .inl (iA st))), (b + 5, .inl (kI K, 96, .inl (iA tk))), (b + 6, .inl (kI K, 10, .inl (iA wa))), (b + 7, .inl (kI K, 10, .inl (iA pk))), (b + 8, .inl (kL K, 40, .inr (.inl (lA mu)))), (b + 9, .inl (kL K, 40, .inr (.inl (lA pr)))), (b + 10, .inl (kI K, 4, .inl (iA cn))), (b + 11, .inl (kI K, 4, .inl (iA bs))), (b + 12, .inl (kI K, 10, .inl (iA le))), (b + 13, .inl (kI K, 10, .inl (iA bb))), (b + 14, .inl (kI K, 10, .inl (iA ld)))] := by rw [hAe]; exact va_D_of (by simp) (by simp <;> omega)
  obtain ⟨hbl, hcu, hP10, hle⟩ := hB9
  have loop : ∀ (n i : Nat) (z : Int), pn + 1 ≤ i + n → i ≤ pn → (0 ≤ z ∧ z ≤ 10000) → (∀ x : Int, 0 ≤ x → (x < z ↔ ∃ k, k < i ∧ x < le k)) → ∀ ls : Array Slot, lv_has ls 5 [(0, .ref b), (1, .int (iI x1)), (2, .int (iI x2)), (3, .int (iI z)), (4, .int (iI (i : Int)))] → W p l e rmM_bars s m args below meth c s.heap [] 0 0 Q (F0 m 5 ls []) := by
    intro n
    induction n with
    | zero => intro i z h1 h2; omega
    | succ n ih =>
      intro i z h1 h2 hz hm ls hl
      refine lv_iload hx hb dM_bars_5 (lv_at hl 4 rfl) ?_
      refine lv_aload_n hx hb dM_bars_7 rfl (lv_at hl 0 rfl) ?_
      refine va_get (D := kD K) (ci := 4) (v := .int (iI (pn : Int))) (C := RM) (T := FM) (N := 21) hx hb hts jnM hown hK hP 0 rfl rfl 16 (by decide) (hts _ mt_479) (fun _ h9 => h9) rfl dM_bars_8 ?_
      refine iz_icmp_ge (tgt := 43) hx hb ⟨by omega, by omega⟩ ⟨by omega, by omega⟩ dM_bars_11 (by decide) (fun gg => ?_) (fun gg => ?_)
      · have e : pn = i := by omega
        subst e
        refine lv_aload_n hx hb dM_bars_43 rfl (lv_at hl 0 rfl) ?_
        refine lv_iload_n hx hb dM_bars_44 rfl (lv_at hl 1 rfl) ?_
        refine iz_i2l hx hb ⟨by omega, by omega⟩ dM_bars_45 ?_
        refine iz_lconst hx hb 1 rfl dM_bars_46 ?_
        refine iz_ldc2 hx hb (10000) (by decide) hown (hts _ mt_615) dM_bars_47 ?_
        refine ctS (n := 3) hx hb hml hown hT ⟨c_M_isIn l K x1 1 10000 ⟨by omega, by omega⟩ ⟨by omega, by omega⟩ ⟨by omega, by omega⟩, ⟨_, _, _, Or.inl ⟨rfl, rfl⟩⟩, mt_539, mt_5, by decide, by decide +kernel, by decide, by decide, by decide, by decide⟩ PC.blind mt_537 mt_538 (As := [.long (lI x1), .long (lI 1), .long (lI 10000)]) (rest := [.ref b]) rfl (PC.at ⟨hT, hK⟩ trivial) hl.1 rfl (Nat.le_of_ble_eq_true rfl) dM_bars_50 (krI0 rfl rfl (fun _ h => h) (fun r g1 => ?_))
        rcases g1 with ⟨rfl, g1⟩ | ⟨rfl, g1⟩
        · refine iz_if_eq (tgt := 68) hx hb ⟨by omega, by omega⟩ dM_bars_53 (by decide) (fun g => absurd g (by decide)) (fun _ => ?_)
          refine lv_iload_n hx hb dM_bars_56 rfl (lv_at hl 2 rfl) ?_
          refine iz_i2l hx hb ⟨by omega, by omega⟩ dM_bars_57 ?_
          refine iz_lconst hx hb 0 rfl dM_bars_58 ?_
          refine iz_ldc2 hx hb (100) (by decide) hown (hts _ mt_561) dM_bars_59 ?_
          refine ctS (n := 3) hx hb hml hown hT ⟨c_M_isIn l K x2 0 100 ⟨by omega, by omega⟩ ⟨by omega, by omega⟩ ⟨by omega, by omega⟩, ⟨_, _, _, Or.inl ⟨rfl, rfl⟩⟩, mt_539, mt_5, by decide, by decide +kernel, by decide, by decide, by decide, by decide⟩ PC.blind mt_537 mt_538 (As := [.long (lI x2), .long (lI 0), .long (lI 100)]) (rest := [.ref b]) rfl (PC.at ⟨hT, hK⟩ trivial) hl.1 rfl (Nat.le_of_ble_eq_true rfl) dM_bars_62 (krI0 rfl rfl (fun _ h => h) (fun r g2 => ?_))
          rcases g2 with ⟨rfl, g2⟩ | ⟨rfl, g2⟩
          · refine iz_if_ne (tgt := 72) hx hb ⟨by omega, by omega⟩ dM_bars_65 (by decide) (fun _ => ?_) (fun g => absurd g (by decide))
            refine lv_iload_n hx hb dM_bars_72 rfl (lv_at hl 3 rfl) ?_
            refine lv_iload_n hx hb dM_bars_73 rfl (lv_at hl 1 rfl) ?_
            refine iz_icmp_le (tgt := 81) hx hb ⟨by omega, by omega⟩ ⟨by omega, by omega⟩ dM_bars_74 (by decide) (fun g3 => ?_) (fun g3 => ?_)
            · refine iz_iconst hx hb dM_bars_81 ?_
              refine va_put (D := kD K) (ci := 4) (v := .int (iI 0)) (ty := .int) (C := RM) (T := FM) (N := 21) hx hb hts jnM tM tM_ok nM hown hK hP hD hS 0 rfl rfl 0 (by decide) (hts _ mt_463) (fun _ h9 => h9) rfl (by decide +kernel) rfl rfl (Nat.le_of_ble_eq_true rfl) dM_bars_82 ?_
              clear hP hD hS
              intro H locs hP hD hS
              replace hP : va_P (kD K) vcl [(b, .inr (4, [.int (iI 0), .int (iI (wn : Int)), .ref (b + 1), .ref (b + 2), .ref (b + 3), .ref (b + 4), .ref (b + 5), .ref (b + 6), .ref (b + 7), .ref (b + 8), .ref (b + 9), .long (lI co), .ref (b + 10), .ref (b + 11), .int (iI ln), .int (iI cu), .int (iI (pn : Int)), .ref (b + 12), .int (iI bc), .ref (b + 13), .ref (b + 14)])), (b + 1, .inl (kI K, 12, .inl (iA ar))), (b + 2, .inl (kI K, 12, .inl (iA oc))), (b + 3, .inl (kI K, 12, .inl (iA lc))), (b + 4, .inl (kI K, 96, .inl (iA st))), (b + 5, .inl (kI K, 96, .inl (iA tk))), (b + 6, .inl (kI K, 10, .inl (iA wa))), (b + 7, .inl (kI K, 10, .inl (iA pk))), (b + 8, .inl (kL K, 40, .inr (.inl (lA mu)))), (b + 9, .inl (kL K, 40, .inr (.inl (lA pr)))), (b + 10, .inl (kI K, 4, .inl (iA cn))), (b + 11, .inl (kI K, 4, .inl (iA bs))), (b + 12, .inl (kI K, 10, .inl (iA le))), (b + 13, .inl (kI K, 10, .inl (iA bb))), (b + 14, .inl (kI K, 10, .inl (iA ld)))] H := hP
              replace hD : va_D A [(b, .inr (4, [.int (iI 0), .int (iI (wn : Int)), .ref (b + 1), .ref (b + 2), .ref (b + 3), .ref (b + 4), .ref (b + 5), .ref (b + 6), .ref (b + 7), .ref (b + 8), .ref (b + 9), .long (lI co), .ref (b + 10), .ref (b + 11), .int (iI ln), .int (iI cu), .int (iI (pn : Int)), .ref (b + 12), .int (iI bc), .ref (b + 13), .ref (b + 14)])), (b + 1, .inl (kI K, 12, .inl (iA ar))), (b + 2, .inl (kI K, 12, .inl (iA oc))), (b + 3, .inl (kI K, 12, .inl (iA lc))), (b + 4, .inl (kI K, 96, .inl (iA st))), (b + 5, .inl (kI K, 96, .inl (iA tk))), (b + 6, .inl (kI K, 10, .inl (iA wa))), (b + 7, .inl (kI K, 10, .inl (iA pk))), (b + 8, .inl (kL K, 40, .inr (.inl (lA mu)))), (b + 9, .inl (kL K, 40, .inr (.inl (lA pr)))), (b + 10, .inl (kI K, 4, .inl (iA cn))), (b + 11, .inl (kI K, 4, .inl (iA bs))), (b + 12, .inl (kI K, 10, .inl (iA le))), (b + 13, .inl (kI K, 10, .inl (iA bb))), (b + 14, .inl (kI K, 10, .inl (iA ld)))] := hD
              refine lv_aload_n hx hb dM_bars_85 rfl (lv_at hl 0 rfl) ?_
              refine va_get (D := kD K) (ci := 4) (v := .int (iI 0)) (C := RM) (T := FM) (N := 21) hx hb hts jnM hown hK hP 0 rfl rfl 0 (by decide) (hts _ mt_463) (fun _ h9 => h9) rfl dM_bars_86 ?_
              refine iz_if_ne (tgt := 102) hx hb ⟨by omega, by omega⟩ dM_bars_89 (by decide) (fun g => absurd g (by decide)) (fun _ => ?_)
              refine lv_aload_n hx hb dM_bars_92 rfl (lv_at hl 0 rfl) ?_
              refine lv_iload_n hx hb dM_bars_93 rfl (lv_at hl 1 rfl) ?_
              refine va_put (D := kD K) (ci := 4) (v := .int (iI x1)) (ty := .int) (C := RM) (T := FM) (N := 21) hx hb hts jnM tM tM_ok nM hown hK hP hD hS 0 rfl rfl 14 (by decide) (hts _ mt_477) (fun _ h9 => h9) rfl (by decide +kernel) rfl rfl (Nat.le_of_ble_eq_true rfl) dM_bars_94 ?_
              clear hP hD hS
              intro H locs hP hD hS
              replace hP : va_P (kD K) vcl [(b, .inr (4, [.int (iI 0), .int (iI (wn : Int)), .ref (b + 1), .ref (b + 2), .ref (b + 3), .ref (b + 4), .ref (b + 5), .ref (b + 6), .ref (b + 7), .ref (b + 8), .ref (b + 9), .long (lI co), .ref (b + 10), .ref (b + 11), .int (iI x1), .int (iI cu), .int (iI (pn : Int)), .ref (b + 12), .int (iI bc), .ref (b + 13), .ref (b + 14)])), (b + 1, .inl (kI K, 12, .inl (iA ar))), (b + 2, .inl (kI K, 12, .inl (iA oc))), (b + 3, .inl (kI K, 12, .inl (iA lc))), (b + 4, .inl (kI K, 96, .inl (iA st))), (b + 5, .inl (kI K, 96, .inl (iA tk))), (b + 6, .inl (kI K, 10, .inl (iA wa))), (b + 7, .inl (kI K, 10, .inl (iA pk))), (b + 8, .inl (kL K, 40, .inr (.inl (lA mu)))), (b + 9, .inl (kL K, 40, .inr (.inl (lA pr)))), (b + 10, .inl (kI K, 4, .inl (iA cn))), (b + 11, .inl (kI K, 4, .inl (iA bs))), (b + 12, .inl (kI K, 10, .inl (iA le))), (b + 13, .inl (kI K, 10, .inl (iA bb))), (b + 14, .inl (kI K, 10, .inl (iA ld)))] H := hP
              replace hD : va_D A [(b, .inr (4, [.int (iI 0), .int (iI (wn : Int)), .ref (b + 1), .ref (b + 2), .ref (b + 3), .ref (b + 4), .ref (b + 5), .ref (b + 6), .ref (b + 7), .ref (b + 8), .ref (b + 9), .long (lI co), .ref (b + 10), .ref (b + 11), .int (iI x1), .int (iI cu), .int (iI (pn : Int)), .ref (b + 12), .int (iI bc), .ref (b + 13), .ref (b + 14)])), (b + 1, .inl (kI K, 12, .inl (iA ar))), (b + 2, .inl (kI K, 12, .inl (iA oc))), (b + 3, .inl (kI K, 12, .inl (iA lc))), (b + 4, .inl (kI K, 96, .inl (iA st))), (b + 5, .inl (kI K, 96, .inl (iA tk))), (b + 6, .inl (kI K, 10, .inl (iA wa))), (b + 7, .inl (kI K, 10, .inl (iA pk))), (b + 8, .inl (kL K, 40, .inr (.inl (lA mu)))), (b + 9, .inl (kL K, 40, .inr (.inl (lA pr)))), (b + 10, .inl (kI K, 4, .inl (iA cn))), (b + 11, .inl (kI K, 4, .inl (iA bs))), (b + 12, .inl (kI K, 10, .inl (iA le))), (b + 13, .inl (kI K, 10, .inl (iA bb))), (b + 14, .inl (kI K, 10, .inl (iA ld)))] := hD
              refine lv_aload_n hx hb dM_bars_97 rfl (lv_at hl 0 rfl) ?_
              refine lv_iload_n hx hb dM_bars_98 rfl (lv_at hl 2 rfl) ?_
              refine va_put (D := kD K) (ci := 4) (v := .int (iI x2)) (ty := .int) (C := RM) (T := FM) (N := 21) hx hb hts jnM tM tM_ok nM hown hK hP hD hS 0 rfl rfl 15 (by decide) (hts _ mt_478) (fun _ h9 => h9) rfl (by decide +kernel) rfl rfl (Nat.le_of_ble_eq_true rfl) dM_bars_99 ?_
              clear hP hD hS
              intro H locs hP hD hS
              replace hP : va_P (kD K) vcl [(b, .inr (4, [.int (iI 0), .int (iI (wn : Int)), .ref (b + 1), .ref (b + 2), .ref (b + 3), .ref (b + 4), .ref (b + 5), .ref (b + 6), .ref (b + 7), .ref (b + 8), .ref (b + 9), .long (lI co), .ref (b + 10), .ref (b + 11), .int (iI x1), .int (iI x2), .int (iI (pn : Int)), .ref (b + 12), .int (iI bc), .ref (b + 13), .ref (b + 14)])), (b + 1, .inl (kI K, 12, .inl (iA ar))), (b + 2, .inl (kI K, 12, .inl (iA oc))), (b + 3, .inl (kI K, 12, .inl (iA lc))), (b + 4, .inl (kI K, 96, .inl (iA st))), (b + 5, .inl (kI K, 96, .inl (iA tk))), (b + 6, .inl (kI K, 10, .inl (iA wa))), (b + 7, .inl (kI K, 10, .inl (iA pk))), (b + 8, .inl (kL K, 40, .inr (.inl (lA mu)))), (b + 9, .inl (kL K, 40, .inr (.inl (lA pr)))), (b + 10, .inl (kI K, 4, .inl (iA cn))), (b + 11, .inl (kI K, 4, .inl (iA bs))), (b + 12, .inl (kI K, 10, .inl (iA le))), (b + 13, .inl (kI K, 10, .inl (iA bb))), (b + 14, .inl (kI K, 10, .inl (iA ld)))] H := hP
              replace hD : va_D A [(b, .inr (4, [.int (iI 0), .int (iI (wn : Int)), .ref (b + 1), .ref (b + 2), .ref (b + 3), .ref (b + 4), .ref (b + 5), .ref (b + 6), .ref (b + 7), .ref (b + 8), .ref (b + 9), .long (lI co), .ref (b + 10), .ref (b + 11), .int (iI x1), .int (iI x2), .int (iI (pn : Int)), .ref (b + 12), .int (iI bc), .ref (b + 13), .ref (b + 14)])), (b + 1, .inl (kI K, 12, .inl (iA ar))), (b + 2, .inl (kI K, 12, .inl (iA oc))), (b + 3, .inl (kI K, 12, .inl (iA lc))), (b + 4, .inl (kI K, 96, .inl (iA st))), (b + 5, .inl (kI K, 96, .inl (iA tk))), (b + 6, .inl (kI K, 10, .inl (iA wa))), (b + 7, .inl (kI K, 10, .inl (iA pk))), (b + 8, .inl (kL K, 40, .inr (.inl (lA mu)))), (b + 9, .inl (kL K, 40, .inr (.inl (lA pr)))), (b + 10, .inl (kI K, 4, .inl (iA cn))), (b + 11, .inl (kI K, 4, .inl (iA bs))), (b + 12, .inl (kI K, 10, .inl (iA le))), (b + 13, .inl (kI K, 10, .inl (iA bb))), (b + 14, .inl (kI K, 10, .inl (iA ld)))] := hD
              rw [hQ]
              exact iz_vret hx hb hr hlocks (Or.inr (Or.inr ⟨by omega, fun k hk => Int.not_lt.mp (fun h => absurd ((hm x1 (by omega)).mpr ⟨k, hk, h⟩) (by omega)), hP⟩)) hS.2.2 dM_bars_102
            · refine iz_iconst hx hb dM_bars_77 ?_
              refine lv_goto (tgt := 82) hx hb dM_bars_78 (by decide) ?_
              refine va_put (D := kD K) (ci := 4) (v := .int (iI 2)) (ty := .int) (C := RM) (T := FM) (N := 21) hx hb hts jnM tM tM_ok nM hown hK hP hD hS 0 rfl rfl 0 (by decide) (hts _ mt_463) (fun _ h9 => h9) rfl (by decide +kernel) rfl rfl (Nat.le_of_ble_eq_true rfl) dM_bars_82 ?_
              clear hP hD hS
              intro H locs hP hD hS
              replace hP : va_P (kD K) vcl [(b, .inr (4, [.int (iI 2), .int (iI (wn : Int)), .ref (b + 1), .ref (b + 2), .ref (b + 3), .ref (b + 4), .ref (b + 5), .ref (b + 6), .ref (b + 7), .ref (b + 8), .ref (b + 9), .long (lI co), .ref (b + 10), .ref (b + 11), .int (iI ln), .int (iI cu), .int (iI (pn : Int)), .ref (b + 12), .int (iI bc), .ref (b + 13), .ref (b + 14)])), (b + 1, .inl (kI K, 12, .inl (iA ar))), (b + 2, .inl (kI K, 12, .inl (iA oc))), (b + 3, .inl (kI K, 12, .inl (iA lc))), (b + 4, .inl (kI K, 96, .inl (iA st))), (b + 5, .inl (kI K, 96, .inl (iA tk))), (b + 6, .inl (kI K, 10, .inl (iA wa))), (b + 7, .inl (kI K, 10, .inl (iA pk))), (b + 8, .inl (kL K, 40, .inr (.inl (lA mu)))), (b + 9, .inl (kL K, 40, .inr (.inl (lA pr)))), (b + 10, .inl (kI K, 4, .inl (iA cn))), (b + 11, .inl (kI K, 4, .inl (iA bs))), (b + 12, .inl (kI K, 10, .inl (iA le))), (b + 13, .inl (kI K, 10, .inl (iA bb))), (b + 14, .inl (kI K, 10, .inl (iA ld)))] H := hP
              replace hD : va_D A [(b, .inr (4, [.int (iI 2), .int (iI (wn : Int)), .ref (b + 1), .ref (b + 2), .ref (b + 3), .ref (b + 4), .ref (b + 5), .ref (b + 6), .ref (b + 7), .ref (b + 8), .ref (b + 9), .long (lI co), .ref (b + 10), .ref (b + 11), .int (iI ln), .int (iI cu), .int (iI (pn : Int)), .ref (b + 12), .int (iI bc), .ref (b + 13), .ref (b + 14)])), (b + 1, .inl (kI K, 12, .inl (iA ar))), (b + 2, .inl (kI K, 12, .inl (iA oc))), (b + 3, .inl (kI K, 12, .inl (iA lc))), (b + 4, .inl (kI K, 96, .inl (iA st))), (b + 5, .inl (kI K, 96, .inl (iA tk))), (b + 6, .inl (kI K, 10, .inl (iA wa))), (b + 7, .inl (kI K, 10, .inl (iA pk))), (b + 8, .inl (kL K, 40, .inr (.inl (lA mu)))), (b + 9, .inl (kL K, 40, .inr (.inl (lA pr)))), (b + 10, .inl (kI K, 4, .inl (iA cn))), (b + 11, .inl (kI K, 4, .inl (iA bs))), (b + 12, .inl (kI K, 10, .inl (iA le))), (b + 13, .inl (kI K, 10, .inl (iA bb))), (b + 14, .inl (kI K, 10, .inl (iA ld)))] := hD
              refine lv_aload_n hx hb dM_bars_85 rfl (lv_at hl 0 rfl) ?_
              refine va_get (D := kD K) (ci := 4) (v := .int (iI 2)) (C := RM) (T := FM) (N := 21) hx hb hts jnM hown hK hP 0 rfl rfl 0 (by decide) (hts _ mt_463) (fun _ h9 => h9) rfl dM_bars_86 ?_
              refine iz_if_ne (tgt := 102) hx hb ⟨by omega, by omega⟩ dM_bars_89 (by decide) (fun _ => ?_) (fun g => absurd g (by decide))
              rw [hQ]
              exact iz_vret hx hb hr hlocks (Or.inr (Or.inl ⟨by omega, (hm x1 (by omega)).mp (by omega), hP⟩)) hS.2.2 dM_bars_102
          · refine iz_if_ne (tgt := 72) hx hb ⟨by omega, by omega⟩ dM_bars_65 (by decide) (fun g => absurd g (by decide)) (fun _ => ?_)
            refine iz_iconst hx hb dM_bars_68 ?_
            refine lv_goto (tgt := 82) hx hb dM_bars_69 (by decide) ?_
            refine va_put (D := kD K) (ci := 4) (v := .int (iI 1)) (ty := .int) (C := RM) (T := FM) (N := 21) hx hb hts jnM tM tM_ok nM hown hK hP hD hS 0 rfl rfl 0 (by decide) (hts _ mt_463) (fun _ h9 => h9) rfl (by decide +kernel) rfl rfl (Nat.le_of_ble_eq_true rfl) dM_bars_82 ?_
            clear hP hD hS
            intro H locs hP hD hS
            replace hP : va_P (kD K) vcl [(b, .inr (4, [.int (iI 1), .int (iI (wn : Int)), .ref (b + 1), .ref (b + 2), .ref (b + 3), .ref (b + 4), .ref (b + 5), .ref (b + 6), .ref (b + 7), .ref (b + 8), .ref (b + 9), .long (lI co), .ref (b + 10), .ref (b + 11), .int (iI ln), .int (iI cu), .int (iI (pn : Int)), .ref (b + 12), .int (iI bc), .ref (b + 13), .ref (b + 14)])), (b + 1, .inl (kI K, 12, .inl (iA ar))), (b + 2, .inl (kI K, 12, .inl (iA oc))), (b + 3, .inl (kI K, 12, .inl (iA lc))), (b + 4, .inl (kI K, 96, .inl (iA st))), (b + 5, .inl (kI K, 96, .inl (iA tk))), (b + 6, .inl (kI K, 10, .inl (iA wa))), (b + 7, .inl (kI K, 10, .inl (iA pk))), (b + 8, .inl (kL K, 40, .inr (.inl (lA mu)))), (b + 9, .inl (kL K, 40, .inr (.inl (lA pr)))), (b + 10, .inl (kI K, 4, .inl (iA cn))), (b + 11, .inl (kI K, 4, .inl (iA bs))), (b + 12, .inl (kI K, 10, .inl (iA le))), (b + 13, .inl (kI K, 10, .inl (iA bb))), (b + 14, .inl (kI K, 10, .inl (iA ld)))] H := hP
            replace hD : va_D A [(b, .inr (4, [.int (iI 1), .int (iI (wn : Int)), .ref (b + 1), .ref (b + 2), .ref (b + 3), .ref (b + 4), .ref (b + 5), .ref (b + 6), .ref (b + 7), .ref (b + 8), .ref (b + 9), .long (lI co), .ref (b + 10), .ref (b + 11), .int (iI ln), .int (iI cu), .int (iI (pn : Int)), .ref (b + 12), .int (iI bc), .ref (b + 13), .ref (b + 14)])), (b + 1, .inl (kI K, 12, .inl (iA ar))), (b + 2, .inl (kI K, 12, .inl (iA oc))), (b + 3, .inl (kI K, 12, .inl (iA lc))), (b + 4, .inl (kI K, 96, .inl (iA st))), (b + 5, .inl (kI K, 96, .inl (iA tk))), (b + 6, .inl (kI K, 10, .inl (iA wa))), (b + 7, .inl (kI K, 10, .inl (iA pk))), (b + 8, .inl (kL K, 40, .inr (.inl (lA mu)))), (b + 9, .inl (kL K, 40, .inr (.inl (lA pr)))), (b + 10, .inl (kI K, 4, .inl (iA cn))), (b + 11, .inl (kI K, 4, .inl (iA bs))), (b + 12, .inl (kI K, 10, .inl (iA le))), (b + 13, .inl (kI K, 10, .inl (iA bb))), (b + 14, .inl (kI K, 10, .inl (iA ld)))] := hD
            refine lv_aload_n hx hb dM_bars_85 rfl (lv_at hl 0 rfl) ?_
            refine va_get (D := kD K) (ci := 4) (v := .int (iI 1)) (C := RM) (T := FM) (N := 21) hx hb hts jnM hown hK hP 0 rfl rfl 0 (by decide) (hts _ mt_463) (fun _ h9 => h9) rfl dM_bars_86 ?_
            refine iz_if_ne (tgt := 102) hx hb ⟨by omega, by omega⟩ dM_bars_89 (by decide) (fun _ => ?_) (fun g => absurd g (by decide))
            rw [hQ]
            exact iz_vret hx hb hr hlocks (Or.inl ⟨by omega, hP⟩) hS.2.2 dM_bars_102
        · refine iz_if_eq (tgt := 68) hx hb ⟨by omega, by omega⟩ dM_bars_53 (by decide) (fun _ => ?_) (fun g => absurd g (by decide))
          refine iz_iconst hx hb dM_bars_68 ?_
          refine lv_goto (tgt := 82) hx hb dM_bars_69 (by decide) ?_
          refine va_put (D := kD K) (ci := 4) (v := .int (iI 1)) (ty := .int) (C := RM) (T := FM) (N := 21) hx hb hts jnM tM tM_ok nM hown hK hP hD hS 0 rfl rfl 0 (by decide) (hts _ mt_463) (fun _ h9 => h9) rfl (by decide +kernel) rfl rfl (Nat.le_of_ble_eq_true rfl) dM_bars_82 ?_
          clear hP hD hS
          intro H locs hP hD hS
          replace hP : va_P (kD K) vcl [(b, .inr (4, [.int (iI 1), .int (iI (wn : Int)), .ref (b + 1), .ref (b + 2), .ref (b + 3), .ref (b + 4), .ref (b + 5), .ref (b + 6), .ref (b + 7), .ref (b + 8), .ref (b + 9), .long (lI co), .ref (b + 10), .ref (b + 11), .int (iI ln), .int (iI cu), .int (iI (pn : Int)), .ref (b + 12), .int (iI bc), .ref (b + 13), .ref (b + 14)])), (b + 1, .inl (kI K, 12, .inl (iA ar))), (b + 2, .inl (kI K, 12, .inl (iA oc))), (b + 3, .inl (kI K, 12, .inl (iA lc))), (b + 4, .inl (kI K, 96, .inl (iA st))), (b + 5, .inl (kI K, 96, .inl (iA tk))), (b + 6, .inl (kI K, 10, .inl (iA wa))), (b + 7, .inl (kI K, 10, .inl (iA pk))), (b + 8, .inl (kL K, 40, .inr (.inl (lA mu)))), (b + 9, .inl (kL K, 40, .inr (.inl (lA pr)))), (b + 10, .inl (kI K, 4, .inl (iA cn))), (b + 11, .inl (kI K, 4, .inl (iA bs))), (b + 12, .inl (kI K, 10, .inl (iA le))), (b + 13, .inl (kI K, 10, .inl (iA bb))), (b + 14, .inl (kI K, 10, .inl (iA ld)))] H := hP
          replace hD : va_D A [(b, .inr (4, [.int (iI 1), .int (iI (wn : Int)), .ref (b + 1), .ref (b + 2), .ref (b + 3), .ref (b + 4), .ref (b + 5), .ref (b + 6), .ref (b + 7), .ref (b + 8), .ref (b + 9), .long (lI co), .ref (b + 10), .ref (b + 11), .int (iI ln), .int (iI cu), .int (iI (pn : Int)), .ref (b + 12), .int (iI bc), .ref (b + 13), .ref (b + 14)])), (b + 1, .inl (kI K, 12, .inl (iA ar))), (b + 2, .inl (kI K, 12, .inl (iA oc))), (b + 3, .inl (kI K, 12, .inl (iA lc))), (b + 4, .inl (kI K, 96, .inl (iA st))), (b + 5, .inl (kI K, 96, .inl (iA tk))), (b + 6, .inl (kI K, 10, .inl (iA wa))), (b + 7, .inl (kI K, 10, .inl (iA pk))), (b + 8, .inl (kL K, 40, .inr (.inl (lA mu)))), (b + 9, .inl (kL K, 40, .inr (.inl (lA pr)))), (b + 10, .inl (kI K, 4, .inl (iA cn))), (b + 11, .inl (kI K, 4, .inl (iA bs))), (b + 12, .inl (kI K, 10, .inl (iA le))), (b + 13, .inl (kI K, 10, .inl (iA bb))), (b + 14, .inl (kI K, 10, .inl (iA ld)))] := hD
          refine lv_aload_n hx hb dM_bars_85 rfl (lv_at hl 0 rfl) ?_
          refine va_get (D := kD K) (ci := 4) (v := .int (iI 1)) (C := RM) (T := FM) (N := 21) hx hb hts jnM hown hK hP 0 rfl rfl 0 (by decide) (hts _ mt_463) (fun _ h9 => h9) rfl dM_bars_86 ?_
          refine iz_if_ne (tgt := 102) hx hb ⟨by omega, by omega⟩ dM_bars_89 (by decide) (fun _ => ?_) (fun g => absurd g (by decide))
          rw [hQ]
          exact iz_vret hx hb hr hlocks (Or.inl ⟨by omega, hP⟩) hS.2.2 dM_bars_102
      · have qi := hle i (by omega)
        refine lv_aload_n hx hb dM_bars_14 rfl (lv_at hl 0 rfl) ?_
        refine va_get (D := kD K) (ci := 4) (v := .ref (b + 12)) (C := RM) (T := FM) (N := 21) hx hb hts jnM hown hK hP 0 rfl rfl 17 (by decide) (hts _ mt_480) (fun _ h9 => h9) rfl dM_bars_15 ?_
        refine lv_iload hx hb dM_bars_18 (lv_at hl 4 rfl) ?_
        refine iz_iald hx hb hK hP 12 rfl i rfl (by omega) (by omega) dM_bars_20 ?_
        refine lv_iload_n hx hb dM_bars_21 rfl (lv_at hl 3 rfl) ?_
        refine iz_icmp_le (tgt := 35) hx hb ⟨by omega, by omega⟩ ⟨by omega, by omega⟩ dM_bars_22 (by decide) (fun g2 => ?_) (fun g2 => ?_)
        · refine lv_iload_n hx hb dM_bars_35 rfl (lv_at hl 3 rfl) ?_
          refine lv_istore_n (lv' := [(3, .int (iI z)), (0, .ref b), (1, .int (iI x1)), (2, .int (iI x2)), (4, .int (iI (i : Int)))]) hx hb dM_bars_36 rfl hl (by decide) rfl (fun ls hl => ?_)
          refine iz_iinc (k := 4) (lv' := [(4, .int (iI ((i : Int) + 1))), (3, .int (iI z)), (0, .ref b), (1, .int (iI x1)), (2, .int (iI x2))]) hx hb dM_bars_37 hl rfl (by decide) rfl (fun ls hl => ?_)
          refine lv_goto (tgt := 5) hx hb dM_bars_40 (by decide) ?_
          exact ih (i + 1) z (by omega) (by omega) ⟨by omega, by omega⟩ (fun x hx0 => ⟨fun h => by by_cases e : x < z; obtain ⟨k, hk, hk2⟩ := (hm x hx0).mp e; exact ⟨k, by omega, hk2⟩; exact ⟨i, by omega, by omega⟩, fun ⟨k, hk, hk2⟩ => by by_cases e : k = i; subst e; omega; have h := (hm x hx0).mpr ⟨k, by omega, hk2⟩; omega⟩) ls (lv_sub hl [2, 3, 4, 1, 0] rfl)
        · refine lv_aload_n hx hb dM_bars_25 rfl (lv_at hl 0 rfl) ?_
          refine va_get (D := kD K) (ci := 4) (v := .ref (b + 12)) (C := RM) (T := FM) (N := 21) hx hb hts jnM hown hK hP 0 rfl rfl 17 (by decide) (hts _ mt_480) (fun _ h9 => h9) rfl dM_bars_26 ?_
          refine lv_iload hx hb dM_bars_29 (lv_at hl 4 rfl) ?_
          refine iz_iald hx hb hK hP 12 rfl i rfl (by omega) (by omega) dM_bars_31 ?_
          refine lv_goto (tgt := 36) hx hb dM_bars_32 (by decide) ?_
          refine lv_istore_n (lv' := [(3, .int (iI (le i))), (0, .ref b), (1, .int (iI x1)), (2, .int (iI x2)), (4, .int (iI (i : Int)))]) hx hb dM_bars_36 rfl hl (by decide) rfl (fun ls hl => ?_)
          refine iz_iinc (k := 4) (lv' := [(4, .int (iI ((i : Int) + 1))), (3, .int (iI (le i))), (0, .ref b), (1, .int (iI x1)), (2, .int (iI x2))]) hx hb dM_bars_37 hl rfl (by decide) rfl (fun ls hl => ?_)
          refine lv_goto (tgt := 5) hx hb dM_bars_40 (by decide) ?_
          exact ih (i + 1) (le i) (by omega) (by omega) ⟨by omega, by omega⟩ (fun x hx0 => ⟨fun h => by by_cases e : x < z; obtain ⟨k, hk, hk2⟩ := (hm x hx0).mp e; exact ⟨k, by omega, hk2⟩; exact ⟨i, by omega, by omega⟩, fun ⟨k, hk, hk2⟩ => by by_cases e : k = i; subst e; omega; have h := (hm x hx0).mpr ⟨k, by omega, hk2⟩; omega⟩) ls (lv_sub hl [2, 3, 4, 1, 0] rfl)
  refine iz_iconst hx hb dM_bars_0 ?_
  refine lv_istore_n (lv' := [(3, .int (iI 0)), (0, .ref b), (1, .int (iI x1)), (2, .int (iI x2))]) hx hb dM_bars_1 rfl hl (by decide) rfl (fun ls hl => ?_)
  refine iz_iconst hx hb dM_bars_2 ?_
  refine lv_istore (lv' := [(4, .int (iI 0)), (3, .int (iI 0)), (0, .ref b), (1, .int (iI x1)), (2, .int (iI x2))]) hx hb dM_bars_3 hl (by decide) rfl (fun ls hl => ?_)
  exact loop (pn + 1) 0 0 (by omega) (by omega) ⟨by omega, by omega⟩ (fun x hx0 => ⟨fun h => absurd h (by omega), fun ⟨k, hk, _⟩ => absurd hk (by omega)⟩) ls (lv_sub hl [2, 3, 4, 1, 0] rfl)
abbrev rmM_piece : Room := { frames := 2, cells := 0, slots := 0, locals := 80 }
set_option maxHeartbeats 4000000 in
set_option maxRecDepth 100000 in
/-- piece(length) -/
theorem c_M_piece (l : Launch) (K : KG) (b : Nat) (cd : Int) (wn : Nat) (ar oc lc st tk wa pk mu pr : Nat → Int) (co : Int) (cn bs : Nat → Int) (ln cu : Int) (pn : Nat) (le : Nat → Int) (bc : Int) (bb ld : Nat → Int) (x1 : Int) (h1 : r32 x1) (hB9 : SwB ln cu pn le) : Ct l yM_piece kM_piece rmM_piece (PC K [.ref b, .int (iI x1)] (fun H => va_P (kD K) vcl (mdW K b cd wn ar oc lc st tk wa pk mu pr co cn bs ln cu pn le bc bb ld) H)) (QI (fun r H => (¬ (1 ≤ x1 ∧ x1 ≤ ln) ∧ va_P (kD K) vcl (mdW K b 1 wn ar oc lc st tk wa pk mu pr co cn bs ln cu pn le bc bb ld) H) ∨ ((1 ≤ x1 ∧ x1 ≤ ln) ∧ ¬ (pn < 10) ∧ va_P (kD K) vcl (mdW K b 2 wn ar oc lc st tk wa pk mu pr co cn bs ln cu pn le bc bb ld) H) ∨ ((1 ≤ x1 ∧ x1 ≤ ln) ∧ (pn < 10) ∧ r = pn ∧ va_P (kD K) vcl (mdW K b 0 wn ar oc lc st tk wa pk mu pr co cn bs ln cu (pn + 1) (ut le pn x1) bc bb ld) H))) (fun x => b ≤ x ∧ x < b + 15) := by
  refine ct_of (by decide) (Or.inl ⟨rfl, rfl⟩) ?_
  intro p e s m args below meth c B0 hP0
  obtain ⟨hx, hb, hr, hml, hown, hlocks, hnm, htab⟩ := B0
  obtain ⟨ha, ⟨hT, hK⟩, hB⟩ := hP0
  have hl := lv_entry ([.ref b, .int (iI x1)]) (n := 2) (Nat.le_of_ble_eq_true rfl)
  obtain ⟨Q, hQ⟩ : ∃ Q, Q = XQ below (QI (fun r H => (¬ (1 ≤ x1 ∧ x1 ≤ ln) ∧ va_P (kD K) vcl (mdW K b 1 wn ar oc lc st tk wa pk mu pr co cn bs ln cu pn le bc bb ld) H) ∨ ((1 ≤ x1 ∧ x1 ≤ ln) ∧ ¬ (pn < 10) ∧ va_P (kD K) vcl (mdW K b 2 wn ar oc lc st tk wa pk mu pr co cn bs ln cu pn le bc bb ld) H) ∨ ((1 ≤ x1 ∧ x1 ≤ ln) ∧ (pn < 10) ∧ r = pn ∧ va_P (kD K) vcl (mdW K b 0 wn ar oc lc st tk wa pk mu pr co cn bs ln cu (pn + 1) (ut le pn x1) bc bb ld) H))) args s rmM_piece.cells rmM_piece.slots (fun x => b ≤ x ∧ x < b + 15) := ⟨_, rfl⟩
  rw [← hQ, ha, lg_entry_eq]
  rw [ha] at hQ
  generalize (lg_sl ([.ref b, .int (iI x1)]) ++ List.replicate (2 - (lg_sl ([.ref b, .int (iI x1)])).length) Slot.unset).toArray = ls at hl ⊢
  generalize ([.ref b, .int (iI x1)] : List Value).toArray = args at hQ ⊢
  have hts : ∀ w ∈ TW, w.before args s = true := fun w h => hT w h args
  have hl : lv_has ls 2 [(0, .ref b), (1, .int (iI x1))] := hl
  obtain ⟨A, hAe⟩ : ∃ A : Addr → Prop, A = (fun x => b ≤ x ∧ x < b + 15) := ⟨_, rfl⟩
  rw [← hAe] at hQ
  have hS : va_S A s.heap s.heap [] := va_S.rf
  have hP : va_P (kD K) vcl [(b, .inr (4, [.int (iI cd), .int (iI (wn : Int)), .ref (b + 1), .ref (b + 2), .ref (b + 3), .ref (b + 4), .ref (b + 5), .ref (b + 6), .ref (b + 7), .ref (b + 8), .ref (b + 9), .long (lI co), .ref (b + 10), .ref (b + 11), .int (iI ln), .int (iI cu), .int (iI (pn : Int)), .ref (b + 12), .int (iI bc), .ref (b + 13), .ref (b + 14)])), (b + 1, .inl (kI K, 12, .inl (iA ar))), (b + 2, .inl (kI K, 12, .inl (iA oc))), (b + 3, .inl (kI K, 12, .inl (iA lc))), (b + 4, .inl (kI K, 96, .inl (iA st))), (b + 5, .inl (kI K, 96, .inl (iA tk))), (b + 6, .inl (kI K, 10, .inl (iA wa))), (b + 7, .inl (kI K, 10, .inl (iA pk))), (b + 8, .inl (kL K, 40, .inr (.inl (lA mu)))), (b + 9, .inl (kL K, 40, .inr (.inl (lA pr)))), (b + 10, .inl (kI K, 4, .inl (iA cn))), (b + 11, .inl (kI K, 4, .inl (iA bs))), (b + 12, .inl (kI K, 10, .inl (iA le))), (b + 13, .inl (kI K, 10, .inl (iA bb))), (b + 14, .inl (kI K, 10, .inl (iA ld)))] s.heap := hB
  have hD : va_D A [(b, .inr (4, [.int (iI cd), .int (iI (wn : Int)), .ref (b + 1), .ref (b + 2), .ref (b + 3), .ref (b + 4), .ref (b + 5), .ref (b + 6), .ref (b + 7), .ref (b + 8), .ref (b + 9), .long (lI co), .ref (b + 10), .ref (b + 11), .int (iI ln), .int (iI cu), .int (iI (pn : Int)), .ref (b + 12), .int (iI bc), .ref (b + 13), .ref (b + 14)])), (b + 1, .inl (kI K, 12, .inl (iA ar))), (b + 2, .inl (kI K, 12, .inl (iA oc))), (b + 3, .inl (kI K, 12, .inl (iA lc))), (b + 4, .inl (kI K, 96, .inl (iA st))), (b + 5, .inl (kI K, 96, .inl (iA tk))), (b + 6, .inl (kI K, 10, .inl (iA wa))), (b + 7, .inl (kI K, 10, .inl (iA pk))), (b + 8, .inl (kL K, 40, .inr (.inl (lA mu)))), (b + 9, .inl (kL K, 40, .inr (.inl (lA pr)))), (b + 10, .inl (kI K, 4, .inl (iA cn))), (b + 11, .inl (kI K, 4, .inl (iA bs))), (b + 12, .inl (kI K, 10, .inl (iA le))), (b + 13, .inl (kI K, 10, .inl (iA bb))), (b + 14, .inl (kI K, 10, .inl (iA ld)))] := by rw [hAe]; exact va_D_of (by simp) (by simp <;> omega)
  obtain ⟨hbl, hcu, hP10, hle⟩ := hB9
  refine lv_aload_n hx hb dM_piece_0 rfl (lv_at hl 0 rfl) ?_
  refine lv_iload_n hx hb dM_piece_1 rfl (lv_at hl 1 rfl) ?_
  refine iz_i2l hx hb ⟨by omega, by omega⟩ dM_piece_2 ?_
  refine iz_lconst hx hb 1 rfl dM_piece_3 ?_
  refine lv_aload_n hx hb dM_piece_4 rfl (lv_at hl 0 rfl) ?_
  refine va_get (D := kD K) (ci := 4) (v := .int (iI ln)) (C := RM) (T := FM) (N := 21) hx hb hts jnM hown hK hP 0 rfl rfl 14 (by decide) (hts _ mt_477) (fun _ h9 => h9) rfl dM_piece_5 ?_
  refine iz_i2l hx hb ⟨by omega, by omega⟩ dM_piece_8 ?_
  refine ctS (n := 3) hx hb hml hown hT ⟨c_M_isIn l K x1 1 ln ⟨by omega, by omega⟩ ⟨by omega, by omega⟩ ⟨by omega, by omega⟩, ⟨_, _, _, Or.inl ⟨rfl, rfl⟩⟩, mt_539, mt_5, by decide, by decide +kernel, by decide, by decide, by decide, by decide⟩ PC.blind mt_537 mt_538 (As := [.long (lI x1), .long (lI 1), .long (lI ln)]) (rest := [.ref b]) rfl (PC.at ⟨hT, hK⟩ trivial) hl.1 rfl (Nat.le_of_ble_eq_true rfl) dM_piece_9 (krI0 rfl rfl (fun _ h => h) (fun r g1 => ?_))
  rcases g1 with ⟨rfl, g1⟩ | ⟨rfl, g1⟩
  · refine iz_if_ne (tgt := 19) hx hb ⟨by omega, by omega⟩ dM_piece_12 (by decide) (fun _ => ?_) (fun g => absurd g (by decide))
    refine lv_aload_n hx hb dM_piece_19 rfl (lv_at hl 0 rfl) ?_
    refine va_get (D := kD K) (ci := 4) (v := .int (iI (pn : Int))) (C := RM) (T := FM) (N := 21) hx hb hts jnM hown hK hP 0 rfl rfl 16 (by decide) (hts _ mt_479) (fun _ h9 => h9) rfl dM_piece_20 ?_
    refine iz_bipush hx hb dM_piece_23 (by decide) ?_
    refine iz_icmp_ne (tgt := 32) hx hb ⟨by omega, by omega⟩ ⟨by omega, by omega⟩ dM_piece_25 (by decide) (fun g2 => ?_) (fun g2 => ?_)
    · refine iz_iconst hx hb dM_piece_32 ?_
      refine va_put (D := kD K) (ci := 4) (v := .int (iI 0)) (ty := .int) (C := RM) (T := FM) (N := 21) hx hb hts jnM tM tM_ok nM hown hK hP hD hS 0 rfl rfl 0 (by decide) (hts _ mt_463) (fun _ h9 => h9) rfl (by decide +kernel) rfl rfl (Nat.le_of_ble_eq_true rfl) dM_piece_33 ?_
      clear hP hD hS
      intro H locs hP hD hS
      replace hP : va_P (kD K) vcl [(b, .inr (4, [.int (iI 0), .int (iI (wn : Int)), .ref (b + 1), .ref (b + 2), .ref (b + 3), .ref (b + 4), .ref (b + 5), .ref (b + 6), .ref (b + 7), .ref (b + 8), .ref (b + 9), .long (lI co), .ref (b + 10), .ref (b + 11), .int (iI ln), .int (iI cu), .int (iI (pn : Int)), .ref (b + 12), .int (iI bc), .ref (b + 13), .ref (b + 14)])), (b + 1, .inl (kI K, 12, .inl (iA ar))), (b + 2, .inl (kI K, 12, .inl (iA oc))), (b + 3, .inl (kI K, 12, .inl (iA lc))), (b + 4, .inl (kI K, 96, .inl (iA st))), (b + 5, .inl (kI K, 96, .inl (iA tk))), (b + 6, .inl (kI K, 10, .inl (iA wa))), (b + 7, .inl (kI K, 10, .inl (iA pk))), (b + 8, .inl (kL K, 40, .inr (.inl (lA mu)))), (b + 9, .inl (kL K, 40, .inr (.inl (lA pr)))), (b + 10, .inl (kI K, 4, .inl (iA cn))), (b + 11, .inl (kI K, 4, .inl (iA bs))), (b + 12, .inl (kI K, 10, .inl (iA le))), (b + 13, .inl (kI K, 10, .inl (iA bb))), (b + 14, .inl (kI K, 10, .inl (iA ld)))] H := hP
      replace hD : va_D A [(b, .inr (4, [.int (iI 0), .int (iI (wn : Int)), .ref (b + 1), .ref (b + 2), .ref (b + 3), .ref (b + 4), .ref (b + 5), .ref (b + 6), .ref (b + 7), .ref (b + 8), .ref (b + 9), .long (lI co), .ref (b + 10), .ref (b + 11), .int (iI ln), .int (iI cu), .int (iI (pn : Int)), .ref (b + 12), .int (iI bc), .ref (b + 13), .ref (b + 14)])), (b + 1, .inl (kI K, 12, .inl (iA ar))), (b + 2, .inl (kI K, 12, .inl (iA oc))), (b + 3, .inl (kI K, 12, .inl (iA lc))), (b + 4, .inl (kI K, 96, .inl (iA st))), (b + 5, .inl (kI K, 96, .inl (iA tk))), (b + 6, .inl (kI K, 10, .inl (iA wa))), (b + 7, .inl (kI K, 10, .inl (iA pk))), (b + 8, .inl (kL K, 40, .inr (.inl (lA mu)))), (b + 9, .inl (kL K, 40, .inr (.inl (lA pr)))), (b + 10, .inl (kI K, 4, .inl (iA cn))), (b + 11, .inl (kI K, 4, .inl (iA bs))), (b + 12, .inl (kI K, 10, .inl (iA le))), (b + 13, .inl (kI K, 10, .inl (iA bb))), (b + 14, .inl (kI K, 10, .inl (iA ld)))] := hD
      refine lv_aload_n hx hb dM_piece_36 rfl (lv_at hl 0 rfl) ?_
      refine va_get (D := kD K) (ci := 4) (v := .int (iI 0)) (C := RM) (T := FM) (N := 21) hx hb hts jnM hown hK hP 0 rfl rfl 0 (by decide) (hts _ mt_463) (fun _ h9 => h9) rfl dM_piece_37 ?_
      refine iz_if_le (tgt := 45) hx hb ⟨by omega, by omega⟩ dM_piece_40 (by decide) (fun _ => ?_) (fun g => absurd g (by decide))
      refine lv_aload_n hx hb dM_piece_45 rfl (lv_at hl 0 rfl) ?_
      refine va_get (D := kD K) (ci := 4) (v := .ref (b + 12)) (C := RM) (T := FM) (N := 21) hx hb hts jnM hown hK hP 0 rfl rfl 17 (by decide) (hts _ mt_480) (fun _ h9 => h9) rfl dM_piece_46 ?_
      refine lv_aload_n hx hb dM_piece_49 rfl (lv_at hl 0 rfl) ?_
      refine va_get (D := kD K) (ci := 4) (v := .int (iI (pn : Int))) (C := RM) (T := FM) (N := 21) hx hb hts jnM hown hK hP 0 rfl rfl 16 (by decide) (hts _ mt_479) (fun _ h9 => h9) rfl dM_piece_50 ?_
      refine lv_iload_n hx hb dM_piece_53 rfl (lv_at hl 1 rfl) ?_
      refine iz_iast hx hb hK hP hD hS 12 rfl pn rfl (by omega) (by omega) dM_piece_54 ?_
      clear hP hD hS
      intro H locs hP hD hS
      replace hP : va_P (kD K) vcl [(b, .inr (4, [.int (iI 0), .int (iI (wn : Int)), .ref (b + 1), .ref (b + 2), .ref (b + 3), .ref (b + 4), .ref (b + 5), .ref (b + 6), .ref (b + 7), .ref (b + 8), .ref (b + 9), .long (lI co), .ref (b + 10), .ref (b + 11), .int (iI ln), .int (iI cu), .int (iI (pn : Int)), .ref (b + 12), .int (iI bc), .ref (b + 13), .ref (b + 14)])), (b + 1, .inl (kI K, 12, .inl (iA ar))), (b + 2, .inl (kI K, 12, .inl (iA oc))), (b + 3, .inl (kI K, 12, .inl (iA lc))), (b + 4, .inl (kI K, 96, .inl (iA st))), (b + 5, .inl (kI K, 96, .inl (iA tk))), (b + 6, .inl (kI K, 10, .inl (iA wa))), (b + 7, .inl (kI K, 10, .inl (iA pk))), (b + 8, .inl (kL K, 40, .inr (.inl (lA mu)))), (b + 9, .inl (kL K, 40, .inr (.inl (lA pr)))), (b + 10, .inl (kI K, 4, .inl (iA cn))), (b + 11, .inl (kI K, 4, .inl (iA bs))), (b + 12, .inl (kI K, 10, .inl (iA (ut le pn x1)))), (b + 13, .inl (kI K, 10, .inl (iA bb))), (b + 14, .inl (kI K, 10, .inl (iA ld)))] H := hP
      replace hD : va_D A [(b, .inr (4, [.int (iI 0), .int (iI (wn : Int)), .ref (b + 1), .ref (b + 2), .ref (b + 3), .ref (b + 4), .ref (b + 5), .ref (b + 6), .ref (b + 7), .ref (b + 8), .ref (b + 9), .long (lI co), .ref (b + 10), .ref (b + 11), .int (iI ln), .int (iI cu), .int (iI (pn : Int)), .ref (b + 12), .int (iI bc), .ref (b + 13), .ref (b + 14)])), (b + 1, .inl (kI K, 12, .inl (iA ar))), (b + 2, .inl (kI K, 12, .inl (iA oc))), (b + 3, .inl (kI K, 12, .inl (iA lc))), (b + 4, .inl (kI K, 96, .inl (iA st))), (b + 5, .inl (kI K, 96, .inl (iA tk))), (b + 6, .inl (kI K, 10, .inl (iA wa))), (b + 7, .inl (kI K, 10, .inl (iA pk))), (b + 8, .inl (kL K, 40, .inr (.inl (lA mu)))), (b + 9, .inl (kL K, 40, .inr (.inl (lA pr)))), (b + 10, .inl (kI K, 4, .inl (iA cn))), (b + 11, .inl (kI K, 4, .inl (iA bs))), (b + 12, .inl (kI K, 10, .inl (iA (ut le pn x1)))), (b + 13, .inl (kI K, 10, .inl (iA bb))), (b + 14, .inl (kI K, 10, .inl (iA ld)))] := hD
      refine lv_aload_n hx hb dM_piece_55 rfl (lv_at hl 0 rfl) ?_
      refine lv_dup hx hb dM_piece_56 rfl ?_
      refine va_get (D := kD K) (ci := 4) (v := .int (iI (pn : Int))) (C := RM) (T := FM) (N := 21) hx hb hts jnM hown hK hP 0 rfl rfl 16 (by decide) (hts _ mt_479) (fun _ h9 => h9) rfl dM_piece_57 ?_
      refine iz_iconst hx hb dM_piece_60 ?_
      refine iz_iadd hx hb dM_piece_61 ?_
      refine va_put (D := kD K) (ci := 4) (v := .int (iI ((pn : Int) + 1))) (ty := .int) (C := RM) (T := FM) (N := 21) hx hb hts jnM tM tM_ok nM hown hK hP hD hS 0 rfl rfl 16 (by decide) (hts _ mt_479) (fun _ h9 => h9) rfl (by decide +kernel) rfl rfl (Nat.le_of_ble_eq_true rfl) dM_piece_62 ?_
      clear hP hD hS
      intro H locs hP hD hS
      replace hP : va_P (kD K) vcl [(b, .inr (4, [.int (iI 0), .int (iI (wn : Int)), .ref (b + 1), .ref (b + 2), .ref (b + 3), .ref (b + 4), .ref (b + 5), .ref (b + 6), .ref (b + 7), .ref (b + 8), .ref (b + 9), .long (lI co), .ref (b + 10), .ref (b + 11), .int (iI ln), .int (iI cu), .int (iI ((pn : Int) + 1)), .ref (b + 12), .int (iI bc), .ref (b + 13), .ref (b + 14)])), (b + 1, .inl (kI K, 12, .inl (iA ar))), (b + 2, .inl (kI K, 12, .inl (iA oc))), (b + 3, .inl (kI K, 12, .inl (iA lc))), (b + 4, .inl (kI K, 96, .inl (iA st))), (b + 5, .inl (kI K, 96, .inl (iA tk))), (b + 6, .inl (kI K, 10, .inl (iA wa))), (b + 7, .inl (kI K, 10, .inl (iA pk))), (b + 8, .inl (kL K, 40, .inr (.inl (lA mu)))), (b + 9, .inl (kL K, 40, .inr (.inl (lA pr)))), (b + 10, .inl (kI K, 4, .inl (iA cn))), (b + 11, .inl (kI K, 4, .inl (iA bs))), (b + 12, .inl (kI K, 10, .inl (iA (ut le pn x1)))), (b + 13, .inl (kI K, 10, .inl (iA bb))), (b + 14, .inl (kI K, 10, .inl (iA ld)))] H := hP
      replace hD : va_D A [(b, .inr (4, [.int (iI 0), .int (iI (wn : Int)), .ref (b + 1), .ref (b + 2), .ref (b + 3), .ref (b + 4), .ref (b + 5), .ref (b + 6), .ref (b + 7), .ref (b + 8), .ref (b + 9), .long (lI co), .ref (b + 10), .ref (b + 11), .int (iI ln), .int (iI cu), .int (iI ((pn : Int) + 1)), .ref (b + 12), .int (iI bc), .ref (b + 13), .ref (b + 14)])), (b + 1, .inl (kI K, 12, .inl (iA ar))), (b + 2, .inl (kI K, 12, .inl (iA oc))), (b + 3, .inl (kI K, 12, .inl (iA lc))), (b + 4, .inl (kI K, 96, .inl (iA st))), (b + 5, .inl (kI K, 96, .inl (iA tk))), (b + 6, .inl (kI K, 10, .inl (iA wa))), (b + 7, .inl (kI K, 10, .inl (iA pk))), (b + 8, .inl (kL K, 40, .inr (.inl (lA mu)))), (b + 9, .inl (kL K, 40, .inr (.inl (lA pr)))), (b + 10, .inl (kI K, 4, .inl (iA cn))), (b + 11, .inl (kI K, 4, .inl (iA bs))), (b + 12, .inl (kI K, 10, .inl (iA (ut le pn x1)))), (b + 13, .inl (kI K, 10, .inl (iA bb))), (b + 14, .inl (kI K, 10, .inl (iA ld)))] := hD
      refine lv_aload_n hx hb dM_piece_65 rfl (lv_at hl 0 rfl) ?_
      refine va_get (D := kD K) (ci := 4) (v := .int (iI ((pn : Int) + 1))) (C := RM) (T := FM) (N := 21) hx hb hts jnM hown hK hP 0 rfl rfl 16 (by decide) (hts _ mt_479) (fun _ h9 => h9) rfl dM_piece_66 ?_
      refine iz_iconst hx hb dM_piece_69 ?_
      refine iz_isub hx hb dM_piece_70 ?_
      rw [hQ]
      exact iz_iret hx hb hr hlocks (Or.inr (Or.inr ⟨by omega, by omega, by omega, hP⟩)) hS.2.2 dM_piece_71
    · refine iz_iconst hx hb dM_piece_28 ?_
      refine lv_goto (tgt := 33) hx hb dM_piece_29 (by decide) ?_
      refine va_put (D := kD K) (ci := 4) (v := .int (iI 2)) (ty := .int) (C := RM) (T := FM) (N := 21) hx hb hts jnM tM tM_ok nM hown hK hP hD hS 0 rfl rfl 0 (by decide) (hts _ mt_463) (fun _ h9 => h9) rfl (by decide +kernel) rfl rfl (Nat.le_of_ble_eq_true rfl) dM_piece_33 ?_
      clear hP hD hS
      intro H locs hP hD hS
      replace hP : va_P (kD K) vcl [(b, .inr (4, [.int (iI 2), .int (iI (wn : Int)), .ref (b + 1), .ref (b + 2), .ref (b + 3), .ref (b + 4), .ref (b + 5), .ref (b + 6), .ref (b + 7), .ref (b + 8), .ref (b + 9), .long (lI co), .ref (b + 10), .ref (b + 11), .int (iI ln), .int (iI cu), .int (iI (pn : Int)), .ref (b + 12), .int (iI bc), .ref (b + 13), .ref (b + 14)])), (b + 1, .inl (kI K, 12, .inl (iA ar))), (b + 2, .inl (kI K, 12, .inl (iA oc))), (b + 3, .inl (kI K, 12, .inl (iA lc))), (b + 4, .inl (kI K, 96, .inl (iA st))), (b + 5, .inl (kI K, 96, .inl (iA tk))), (b + 6, .inl (kI K, 10, .inl (iA wa))), (b + 7, .inl (kI K, 10, .inl (iA pk))), (b + 8, .inl (kL K, 40, .inr (.inl (lA mu)))), (b + 9, .inl (kL K, 40, .inr (.inl (lA pr)))), (b + 10, .inl (kI K, 4, .inl (iA cn))), (b + 11, .inl (kI K, 4, .inl (iA bs))), (b + 12, .inl (kI K, 10, .inl (iA le))), (b + 13, .inl (kI K, 10, .inl (iA bb))), (b + 14, .inl (kI K, 10, .inl (iA ld)))] H := hP
      replace hD : va_D A [(b, .inr (4, [.int (iI 2), .int (iI (wn : Int)), .ref (b + 1), .ref (b + 2), .ref (b + 3), .ref (b + 4), .ref (b + 5), .ref (b + 6), .ref (b + 7), .ref (b + 8), .ref (b + 9), .long (lI co), .ref (b + 10), .ref (b + 11), .int (iI ln), .int (iI cu), .int (iI (pn : Int)), .ref (b + 12), .int (iI bc), .ref (b + 13), .ref (b + 14)])), (b + 1, .inl (kI K, 12, .inl (iA ar))), (b + 2, .inl (kI K, 12, .inl (iA oc))), (b + 3, .inl (kI K, 12, .inl (iA lc))), (b + 4, .inl (kI K, 96, .inl (iA st))), (b + 5, .inl (kI K, 96, .inl (iA tk))), (b + 6, .inl (kI K, 10, .inl (iA wa))), (b + 7, .inl (kI K, 10, .inl (iA pk))), (b + 8, .inl (kL K, 40, .inr (.inl (lA mu)))), (b + 9, .inl (kL K, 40, .inr (.inl (lA pr)))), (b + 10, .inl (kI K, 4, .inl (iA cn))), (b + 11, .inl (kI K, 4, .inl (iA bs))), (b + 12, .inl (kI K, 10, .inl (iA le))), (b + 13, .inl (kI K, 10, .inl (iA bb))), (b + 14, .inl (kI K, 10, .inl (iA ld)))] := hD
      refine lv_aload_n hx hb dM_piece_36 rfl (lv_at hl 0 rfl) ?_
      refine va_get (D := kD K) (ci := 4) (v := .int (iI 2)) (C := RM) (T := FM) (N := 21) hx hb hts jnM hown hK hP 0 rfl rfl 0 (by decide) (hts _ mt_463) (fun _ h9 => h9) rfl dM_piece_37 ?_
      refine iz_if_le (tgt := 45) hx hb ⟨by omega, by omega⟩ dM_piece_40 (by decide) (fun g => absurd g (by decide)) (fun _ => ?_)
      refine iz_iconst hx hb dM_piece_43 ?_
      rw [hQ]
      exact iz_iret hx hb hr hlocks (Or.inr (Or.inl ⟨by omega, by omega, hP⟩)) hS.2.2 dM_piece_44
  · refine iz_if_ne (tgt := 19) hx hb ⟨by omega, by omega⟩ dM_piece_12 (by decide) (fun g => absurd g (by decide)) (fun _ => ?_)
    refine iz_iconst hx hb dM_piece_15 ?_
    refine lv_goto (tgt := 33) hx hb dM_piece_16 (by decide) ?_
    refine va_put (D := kD K) (ci := 4) (v := .int (iI 1)) (ty := .int) (C := RM) (T := FM) (N := 21) hx hb hts jnM tM tM_ok nM hown hK hP hD hS 0 rfl rfl 0 (by decide) (hts _ mt_463) (fun _ h9 => h9) rfl (by decide +kernel) rfl rfl (Nat.le_of_ble_eq_true rfl) dM_piece_33 ?_
    clear hP hD hS
    intro H locs hP hD hS
    replace hP : va_P (kD K) vcl [(b, .inr (4, [.int (iI 1), .int (iI (wn : Int)), .ref (b + 1), .ref (b + 2), .ref (b + 3), .ref (b + 4), .ref (b + 5), .ref (b + 6), .ref (b + 7), .ref (b + 8), .ref (b + 9), .long (lI co), .ref (b + 10), .ref (b + 11), .int (iI ln), .int (iI cu), .int (iI (pn : Int)), .ref (b + 12), .int (iI bc), .ref (b + 13), .ref (b + 14)])), (b + 1, .inl (kI K, 12, .inl (iA ar))), (b + 2, .inl (kI K, 12, .inl (iA oc))), (b + 3, .inl (kI K, 12, .inl (iA lc))), (b + 4, .inl (kI K, 96, .inl (iA st))), (b + 5, .inl (kI K, 96, .inl (iA tk))), (b + 6, .inl (kI K, 10, .inl (iA wa))), (b + 7, .inl (kI K, 10, .inl (iA pk))), (b + 8, .inl (kL K, 40, .inr (.inl (lA mu)))), (b + 9, .inl (kL K, 40, .inr (.inl (lA pr)))), (b + 10, .inl (kI K, 4, .inl (iA cn))), (b + 11, .inl (kI K, 4, .inl (iA bs))), (b + 12, .inl (kI K, 10, .inl (iA le))), (b + 13, .inl (kI K, 10, .inl (iA bb))), (b + 14, .inl (kI K, 10, .inl (iA ld)))] H := hP
    replace hD : va_D A [(b, .inr (4, [.int (iI 1), .int (iI (wn : Int)), .ref (b + 1), .ref (b + 2), .ref (b + 3), .ref (b + 4), .ref (b + 5), .ref (b + 6), .ref (b + 7), .ref (b + 8), .ref (b + 9), .long (lI co), .ref (b + 10), .ref (b + 11), .int (iI ln), .int (iI cu), .int (iI (pn : Int)), .ref (b + 12), .int (iI bc), .ref (b + 13), .ref (b + 14)])), (b + 1, .inl (kI K, 12, .inl (iA ar))), (b + 2, .inl (kI K, 12, .inl (iA oc))), (b + 3, .inl (kI K, 12, .inl (iA lc))), (b + 4, .inl (kI K, 96, .inl (iA st))), (b + 5, .inl (kI K, 96, .inl (iA tk))), (b + 6, .inl (kI K, 10, .inl (iA wa))), (b + 7, .inl (kI K, 10, .inl (iA pk))), (b + 8, .inl (kL K, 40, .inr (.inl (lA mu)))), (b + 9, .inl (kL K, 40, .inr (.inl (lA pr)))), (b + 10, .inl (kI K, 4, .inl (iA cn))), (b + 11, .inl (kI K, 4, .inl (iA bs))), (b + 12, .inl (kI K, 10, .inl (iA le))), (b + 13, .inl (kI K, 10, .inl (iA bb))), (b + 14, .inl (kI K, 10, .inl (iA ld)))] := hD
    refine lv_aload_n hx hb dM_piece_36 rfl (lv_at hl 0 rfl) ?_
    refine va_get (D := kD K) (ci := 4) (v := .int (iI 1)) (C := RM) (T := FM) (N := 21) hx hb hts jnM hown hK hP 0 rfl rfl 0 (by decide) (hts _ mt_463) (fun _ h9 => h9) rfl dM_piece_37 ?_
    refine iz_if_le (tgt := 45) hx hb ⟨by omega, by omega⟩ dM_piece_40 (by decide) (fun g => absurd g (by decide)) (fun _ => ?_)
    refine iz_iconst hx hb dM_piece_43 ?_
    rw [hQ]
    exact iz_iret hx hb hr hlocks (Or.inl ⟨by omega, hP⟩) hS.2.2 dM_piece_44
abbrev rmM_change : Room := { frames := 2, cells := 0, slots := 0, locals := 80 }
set_option maxHeartbeats 4000000 in
set_option maxRecDepth 100000 in
/-- change(piece, length) -/
theorem c_M_change (l : Launch) (K : KG) (b : Nat) (cd : Int) (wn : Nat) (ar oc lc st tk wa pk mu pr : Nat → Int) (co : Int) (cn bs : Nat → Int) (ln cu : Int) (pn : Nat) (le : Nat → Int) (bc : Int) (bb ld : Nat → Int) (k : Nat) (x1 x2 : Int) (h1 : r32 x1) (h2 : r32 x2) (hk : 0 ≤ x1 → x1 < pn → x1 = k) (hB9 : SwB ln cu pn le) : Ct l yM_change kM_change rmM_change (PC K [.ref b, .int (iI x1), .int (iI x2)] (fun H => va_P (kD K) vcl (mdW K b cd wn ar oc lc st tk wa pk mu pr co cn bs ln cu pn le bc bb ld) H)) (QI (fun r H => (¬ ((0 ≤ x1 ∧ x1 < pn) ∧ (1 ≤ x2 ∧ x2 ≤ ln)) ∧ va_P (kD K) vcl (mdW K b 1 wn ar oc lc st tk wa pk mu pr co cn bs ln cu pn le bc bb ld) H) ∨ (((0 ≤ x1 ∧ x1 < pn) ∧ (1 ≤ x2 ∧ x2 ≤ ln)) ∧ r = le k ∧ va_P (kD K) vcl (mdW K b 0 wn ar oc lc st tk wa pk mu pr co cn bs ln cu pn (ut le k x2) bc bb ld) H))) (fun x => b ≤ x ∧ x < b + 15) := by
  refine ct_of (by decide) (Or.inl ⟨rfl, rfl⟩) ?_
  intro p e s m args below meth c B0 hP0
  obtain ⟨hx, hb, hr, hml, hown, hlocks, hnm, htab⟩ := B0
  obtain ⟨ha, ⟨hT, hK⟩, hB⟩ := hP0
  have hl := lv_entry ([.ref b, .int (iI x1), .int (iI x2)]) (n := 4) (Nat.le_of_ble_eq_true rfl)
  obtain ⟨Q, hQ⟩ : ∃ Q, Q = XQ below (QI (fun r H => (¬ ((0 ≤ x1 ∧ x1 < pn) ∧ (1 ≤ x2 ∧ x2 ≤ ln)) ∧ va_P (kD K) vcl (mdW K b 1 wn ar oc lc st tk wa pk mu pr co cn bs ln cu pn le bc bb ld) H) ∨ (((0 ≤ x1 ∧ x1 < pn) ∧ (1 ≤ x2 ∧ x2 ≤ ln)) ∧ r = le k ∧ va_P (kD K) vcl (mdW K b 0 wn ar oc lc st tk wa pk mu pr co cn bs ln cu pn (ut le k x2) bc bb ld) H))) args s rmM_change.cells rmM_change.slots (fun x => b ≤ x ∧ x < b + 15) := ⟨_, rfl⟩
  rw [← hQ, ha, lg_entry_eq]
  rw [ha] at hQ
  generalize (lg_sl ([.ref b, .int (iI x1), .int (iI x2)]) ++ List.replicate (4 - (lg_sl ([.ref b, .int (iI x1), .int (iI x2)])).length) Slot.unset).toArray = ls at hl ⊢
  generalize ([.ref b, .int (iI x1), .int (iI x2)] : List Value).toArray = args at hQ ⊢
  have hts : ∀ w ∈ TW, w.before args s = true := fun w h => hT w h args
  have hl : lv_has ls 4 [(0, .ref b), (1, .int (iI x1)), (2, .int (iI x2))] := hl
  obtain ⟨A, hAe⟩ : ∃ A : Addr → Prop, A = (fun x => b ≤ x ∧ x < b + 15) := ⟨_, rfl⟩
  rw [← hAe] at hQ
  have hS : va_S A s.heap s.heap [] := va_S.rf
  have hP : va_P (kD K) vcl [(b, .inr (4, [.int (iI cd), .int (iI (wn : Int)), .ref (b + 1), .ref (b + 2), .ref (b + 3), .ref (b + 4), .ref (b + 5), .ref (b + 6), .ref (b + 7), .ref (b + 8), .ref (b + 9), .long (lI co), .ref (b + 10), .ref (b + 11), .int (iI ln), .int (iI cu), .int (iI (pn : Int)), .ref (b + 12), .int (iI bc), .ref (b + 13), .ref (b + 14)])), (b + 1, .inl (kI K, 12, .inl (iA ar))), (b + 2, .inl (kI K, 12, .inl (iA oc))), (b + 3, .inl (kI K, 12, .inl (iA lc))), (b + 4, .inl (kI K, 96, .inl (iA st))), (b + 5, .inl (kI K, 96, .inl (iA tk))), (b + 6, .inl (kI K, 10, .inl (iA wa))), (b + 7, .inl (kI K, 10, .inl (iA pk))), (b + 8, .inl (kL K, 40, .inr (.inl (lA mu)))), (b + 9, .inl (kL K, 40, .inr (.inl (lA pr)))), (b + 10, .inl (kI K, 4, .inl (iA cn))), (b + 11, .inl (kI K, 4, .inl (iA bs))), (b + 12, .inl (kI K, 10, .inl (iA le))), (b + 13, .inl (kI K, 10, .inl (iA bb))), (b + 14, .inl (kI K, 10, .inl (iA ld)))] s.heap := hB
  have hD : va_D A [(b, .inr (4, [.int (iI cd), .int (iI (wn : Int)), .ref (b + 1), .ref (b + 2), .ref (b + 3), .ref (b + 4), .ref (b + 5), .ref (b + 6), .ref (b + 7), .ref (b + 8), .ref (b + 9), .long (lI co), .ref (b + 10), .ref (b + 11), .int (iI ln), .int (iI cu), .int (iI (pn : Int)), .ref (b + 12), .int (iI bc), .ref (b + 13), .ref (b + 14)])), (b + 1, .inl (kI K, 12, .inl (iA ar))), (b + 2, .inl (kI K, 12, .inl (iA oc))), (b + 3, .inl (kI K, 12, .inl (iA lc))), (b + 4, .inl (kI K, 96, .inl (iA st))), (b + 5, .inl (kI K, 96, .inl (iA tk))), (b + 6, .inl (kI K, 10, .inl (iA wa))), (b + 7, .inl (kI K, 10, .inl (iA pk))), (b + 8, .inl (kL K, 40, .inr (.inl (lA mu)))), (b + 9, .inl (kL K, 40, .inr (.inl (lA pr)))), (b + 10, .inl (kI K, 4, .inl (iA cn))), (b + 11, .inl (kI K, 4, .inl (iA bs))), (b + 12, .inl (kI K, 10, .inl (iA le))), (b + 13, .inl (kI K, 10, .inl (iA bb))), (b + 14, .inl (kI K, 10, .inl (iA ld)))] := by rw [hAe]; exact va_D_of (by simp) (by simp <;> omega)
  obtain ⟨hbl, hcu, hP10, hle⟩ := hB9
  refine lv_aload_n hx hb dM_change_0 rfl (lv_at hl 0 rfl) ?_
  refine lv_iload_n hx hb dM_change_1 rfl (lv_at hl 1 rfl) ?_
  refine iz_i2l hx hb ⟨by omega, by omega⟩ dM_change_2 ?_
  refine iz_lconst hx hb 0 rfl dM_change_3 ?_
  refine lv_aload_n hx hb dM_change_4 rfl (lv_at hl 0 rfl) ?_
  refine va_get (D := kD K) (ci := 4) (v := .int (iI (pn : Int))) (C := RM) (T := FM) (N := 21) hx hb hts jnM hown hK hP 0 rfl rfl 16 (by decide) (hts _ mt_479) (fun _ h9 => h9) rfl dM_change_5 ?_
  refine iz_iconst hx hb dM_change_8 ?_
  refine iz_isub hx hb dM_change_9 ?_
  refine iz_i2l hx hb ⟨by omega, by omega⟩ dM_change_10 ?_
  refine ctS (n := 3) hx hb hml hown hT ⟨c_M_isIn l K x1 0 ((pn : Int) - 1) ⟨by omega, by omega⟩ ⟨by omega, by omega⟩ ⟨by omega, by omega⟩, ⟨_, _, _, Or.inl ⟨rfl, rfl⟩⟩, mt_539, mt_5, by decide, by decide +kernel, by decide, by decide, by decide, by decide⟩ PC.blind mt_537 mt_538 (As := [.long (lI x1), .long (lI 0), .long (lI ((pn : Int) - 1))]) (rest := [.ref b]) rfl (PC.at ⟨hT, hK⟩ trivial) hl.1 rfl (Nat.le_of_ble_eq_true rfl) dM_change_11 (krI0 rfl rfl (fun _ h => h) (fun r g1 => ?_))
  rcases g1 with ⟨rfl, g1⟩ | ⟨rfl, g1⟩
  · refine iz_if_eq (tgt := 35) hx hb ⟨by omega, by omega⟩ dM_change_14 (by decide) (fun g => absurd g (by decide)) (fun _ => ?_)
    refine lv_iload_n hx hb dM_change_17 rfl (lv_at hl 2 rfl) ?_
    refine iz_i2l hx hb ⟨by omega, by omega⟩ dM_change_18 ?_
    refine iz_lconst hx hb 1 rfl dM_change_19 ?_
    refine lv_aload_n hx hb dM_change_20 rfl (lv_at hl 0 rfl) ?_
    refine va_get (D := kD K) (ci := 4) (v := .int (iI ln)) (C := RM) (T := FM) (N := 21) hx hb hts jnM hown hK hP 0 rfl rfl 14 (by decide) (hts _ mt_477) (fun _ h9 => h9) rfl dM_change_21 ?_
    refine iz_i2l hx hb ⟨by omega, by omega⟩ dM_change_24 ?_
    refine ctS (n := 3) hx hb hml hown hT ⟨c_M_isIn l K x2 1 ln ⟨by omega, by omega⟩ ⟨by omega, by omega⟩ ⟨by omega, by omega⟩, ⟨_, _, _, Or.inl ⟨rfl, rfl⟩⟩, mt_539, mt_5, by decide, by decide +kernel, by decide, by decide, by decide, by decide⟩ PC.blind mt_537 mt_538 (As := [.long (lI x2), .long (lI 1), .long (lI ln)]) (rest := [.ref b]) rfl (PC.at ⟨hT, hK⟩ trivial) hl.1 rfl (Nat.le_of_ble_eq_true rfl) dM_change_25 (krI0 rfl rfl (fun _ h => h) (fun r g2 => ?_))
    rcases g2 with ⟨rfl, g2⟩ | ⟨rfl, g2⟩
    · refine iz_if_eq (tgt := 35) hx hb ⟨by omega, by omega⟩ dM_change_28 (by decide) (fun g => absurd g (by decide)) (fun _ => ?_)
      refine iz_iconst hx hb dM_change_31 ?_
      refine lv_goto (tgt := 36) hx hb dM_change_32 (by decide) ?_
      refine va_put (D := kD K) (ci := 4) (v := .int (iI 0)) (ty := .int) (C := RM) (T := FM) (N := 21) hx hb hts jnM tM tM_ok nM hown hK hP hD hS 0 rfl rfl 0 (by decide) (hts _ mt_463) (fun _ h9 => h9) rfl (by decide +kernel) rfl rfl (Nat.le_of_ble_eq_true rfl) dM_change_36 ?_
      clear hP hD hS
      intro H locs hP hD hS
      replace hP : va_P (kD K) vcl [(b, .inr (4, [.int (iI 0), .int (iI (wn : Int)), .ref (b + 1), .ref (b + 2), .ref (b + 3), .ref (b + 4), .ref (b + 5), .ref (b + 6), .ref (b + 7), .ref (b + 8), .ref (b + 9), .long (lI co), .ref (b + 10), .ref (b + 11), .int (iI ln), .int (iI cu), .int (iI (pn : Int)), .ref (b + 12), .int (iI bc), .ref (b + 13), .ref (b + 14)])), (b + 1, .inl (kI K, 12, .inl (iA ar))), (b + 2, .inl (kI K, 12, .inl (iA oc))), (b + 3, .inl (kI K, 12, .inl (iA lc))), (b + 4, .inl (kI K, 96, .inl (iA st))), (b + 5, .inl (kI K, 96, .inl (iA tk))), (b + 6, .inl (kI K, 10, .inl (iA wa))), (b + 7, .inl (kI K, 10, .inl (iA pk))), (b + 8, .inl (kL K, 40, .inr (.inl (lA mu)))), (b + 9, .inl (kL K, 40, .inr (.inl (lA pr)))), (b + 10, .inl (kI K, 4, .inl (iA cn))), (b + 11, .inl (kI K, 4, .inl (iA bs))), (b + 12, .inl (kI K, 10, .inl (iA le))), (b + 13, .inl (kI K, 10, .inl (iA bb))), (b + 14, .inl (kI K, 10, .inl (iA ld)))] H := hP
      replace hD : va_D A [(b, .inr (4, [.int (iI 0), .int (iI (wn : Int)), .ref (b + 1), .ref (b + 2), .ref (b + 3), .ref (b + 4), .ref (b + 5), .ref (b + 6), .ref (b + 7), .ref (b + 8), .ref (b + 9), .long (lI co), .ref (b + 10), .ref (b + 11), .int (iI ln), .int (iI cu), .int (iI (pn : Int)), .ref (b + 12), .int (iI bc), .ref (b + 13), .ref (b + 14)])), (b + 1, .inl (kI K, 12, .inl (iA ar))), (b + 2, .inl (kI K, 12, .inl (iA oc))), (b + 3, .inl (kI K, 12, .inl (iA lc))), (b + 4, .inl (kI K, 96, .inl (iA st))), (b + 5, .inl (kI K, 96, .inl (iA tk))), (b + 6, .inl (kI K, 10, .inl (iA wa))), (b + 7, .inl (kI K, 10, .inl (iA pk))), (b + 8, .inl (kL K, 40, .inr (.inl (lA mu)))), (b + 9, .inl (kL K, 40, .inr (.inl (lA pr)))), (b + 10, .inl (kI K, 4, .inl (iA cn))), (b + 11, .inl (kI K, 4, .inl (iA bs))), (b + 12, .inl (kI K, 10, .inl (iA le))), (b + 13, .inl (kI K, 10, .inl (iA bb))), (b + 14, .inl (kI K, 10, .inl (iA ld)))] := hD
      refine lv_aload_n hx hb dM_change_39 rfl (lv_at hl 0 rfl) ?_
      refine va_get (D := kD K) (ci := 4) (v := .int (iI 0)) (C := RM) (T := FM) (N := 21) hx hb hts jnM hown hK hP 0 rfl rfl 0 (by decide) (hts _ mt_463) (fun _ h9 => h9) rfl dM_change_40 ?_
      refine iz_if_le (tgt := 48) hx hb ⟨by omega, by omega⟩ dM_change_43 (by decide) (fun _ => ?_) (fun g => absurd g (by decide))
      have e1 := hk (by omega) (by omega)
      refine lv_aload_n hx hb dM_change_48 rfl (lv_at hl 0 rfl) ?_
      refine va_get (D := kD K) (ci := 4) (v := .ref (b + 12)) (C := RM) (T := FM) (N := 21) hx hb hts jnM hown hK hP 0 rfl rfl 17 (by decide) (hts _ mt_480) (fun _ h9 => h9) rfl dM_change_49 ?_
      refine lv_iload_n hx hb dM_change_52 rfl (lv_at hl 1 rfl) ?_
      refine iz_iald hx hb hK hP 12 rfl k e1 (by omega) (by omega) dM_change_53 ?_
      refine lv_istore_n (lv' := [(3, .int (iI (le k))), (0, .ref b), (1, .int (iI x1)), (2, .int (iI x2))]) hx hb dM_change_54 rfl hl (by decide) rfl (fun ls hl => ?_)
      refine lv_aload_n hx hb dM_change_55 rfl (lv_at hl 1 rfl) ?_
      refine va_get (D := kD K) (ci := 4) (v := .ref (b + 12)) (C := RM) (T := FM) (N := 21) hx hb hts jnM hown hK hP 0 rfl rfl 17 (by decide) (hts _ mt_480) (fun _ h9 => h9) rfl dM_change_56 ?_
      refine lv_iload_n hx hb dM_change_59 rfl (lv_at hl 2 rfl) ?_
      refine lv_iload_n hx hb dM_change_60 rfl (lv_at hl 3 rfl) ?_
      refine iz_iast hx hb hK hP hD hS 12 rfl k e1 (by omega) (by omega) dM_change_61 ?_
      clear hP hD hS
      intro H locs hP hD hS
      replace hP : va_P (kD K) vcl [(b, .inr (4, [.int (iI 0), .int (iI (wn : Int)), .ref (b + 1), .ref (b + 2), .ref (b + 3), .ref (b + 4), .ref (b + 5), .ref (b + 6), .ref (b + 7), .ref (b + 8), .ref (b + 9), .long (lI co), .ref (b + 10), .ref (b + 11), .int (iI ln), .int (iI cu), .int (iI (pn : Int)), .ref (b + 12), .int (iI bc), .ref (b + 13), .ref (b + 14)])), (b + 1, .inl (kI K, 12, .inl (iA ar))), (b + 2, .inl (kI K, 12, .inl (iA oc))), (b + 3, .inl (kI K, 12, .inl (iA lc))), (b + 4, .inl (kI K, 96, .inl (iA st))), (b + 5, .inl (kI K, 96, .inl (iA tk))), (b + 6, .inl (kI K, 10, .inl (iA wa))), (b + 7, .inl (kI K, 10, .inl (iA pk))), (b + 8, .inl (kL K, 40, .inr (.inl (lA mu)))), (b + 9, .inl (kL K, 40, .inr (.inl (lA pr)))), (b + 10, .inl (kI K, 4, .inl (iA cn))), (b + 11, .inl (kI K, 4, .inl (iA bs))), (b + 12, .inl (kI K, 10, .inl (iA (ut le k x2)))), (b + 13, .inl (kI K, 10, .inl (iA bb))), (b + 14, .inl (kI K, 10, .inl (iA ld)))] H := hP
      replace hD : va_D A [(b, .inr (4, [.int (iI 0), .int (iI (wn : Int)), .ref (b + 1), .ref (b + 2), .ref (b + 3), .ref (b + 4), .ref (b + 5), .ref (b + 6), .ref (b + 7), .ref (b + 8), .ref (b + 9), .long (lI co), .ref (b + 10), .ref (b + 11), .int (iI ln), .int (iI cu), .int (iI (pn : Int)), .ref (b + 12), .int (iI bc), .ref (b + 13), .ref (b + 14)])), (b + 1, .inl (kI K, 12, .inl (iA ar))), (b + 2, .inl (kI K, 12, .inl (iA oc))), (b + 3, .inl (kI K, 12, .inl (iA lc))), (b + 4, .inl (kI K, 96, .inl (iA st))), (b + 5, .inl (kI K, 96, .inl (iA tk))), (b + 6, .inl (kI K, 10, .inl (iA wa))), (b + 7, .inl (kI K, 10, .inl (iA pk))), (b + 8, .inl (kL K, 40, .inr (.inl (lA mu)))), (b + 9, .inl (kL K, 40, .inr (.inl (lA pr)))), (b + 10, .inl (kI K, 4, .inl (iA cn))), (b + 11, .inl (kI K, 4, .inl (iA bs))), (b + 12, .inl (kI K, 10, .inl (iA (ut le k x2)))), (b + 13, .inl (kI K, 10, .inl (iA bb))), (b + 14, .inl (kI K, 10, .inl (iA ld)))] := hD
      refine lv_iload_n hx hb dM_change_62 rfl (lv_at hl 0 rfl) ?_
      rw [hQ]
      exact iz_iret hx hb hr hlocks (Or.inr ⟨by omega, rfl, hP⟩) hS.2.2 dM_change_63
    · refine iz_if_eq (tgt := 35) hx hb ⟨by omega, by omega⟩ dM_change_28 (by decide) (fun _ => ?_) (fun g => absurd g (by decide))
      refine iz_iconst hx hb dM_change_35 ?_
      refine va_put (D := kD K) (ci := 4) (v := .int (iI 1)) (ty := .int) (C := RM) (T := FM) (N := 21) hx hb hts jnM tM tM_ok nM hown hK hP hD hS 0 rfl rfl 0 (by decide) (hts _ mt_463) (fun _ h9 => h9) rfl (by decide +kernel) rfl rfl (Nat.le_of_ble_eq_true rfl) dM_change_36 ?_
      clear hP hD hS
      intro H locs hP hD hS
      replace hP : va_P (kD K) vcl [(b, .inr (4, [.int (iI 1), .int (iI (wn : Int)), .ref (b + 1), .ref (b + 2), .ref (b + 3), .ref (b + 4), .ref (b + 5), .ref (b + 6), .ref (b + 7), .ref (b + 8), .ref (b + 9), .long (lI co), .ref (b + 10), .ref (b + 11), .int (iI ln), .int (iI cu), .int (iI (pn : Int)), .ref (b + 12), .int (iI bc), .ref (b + 13), .ref (b + 14)])), (b + 1, .inl (kI K, 12, .inl (iA ar))), (b + 2, .inl (kI K, 12, .inl (iA oc))), (b + 3, .inl (kI K, 12, .inl (iA lc))), (b + 4, .inl (kI K, 96, .inl (iA st))), (b + 5, .inl (kI K, 96, .inl (iA tk))), (b + 6, .inl (kI K, 10, .inl (iA wa))), (b + 7, .inl (kI K, 10, .inl (iA pk))), (b + 8, .inl (kL K, 40, .inr (.inl (lA mu)))), (b + 9, .inl (kL K, 40, .inr (.inl (lA pr)))), (b + 10, .inl (kI K, 4, .inl (iA cn))), (b + 11, .inl (kI K, 4, .inl (iA bs))), (b + 12, .inl (kI K, 10, .inl (iA le))), (b + 13, .inl (kI K, 10, .inl (iA bb))), (b + 14, .inl (kI K, 10, .inl (iA ld)))] H := hP
      replace hD : va_D A [(b, .inr (4, [.int (iI 1), .int (iI (wn : Int)), .ref (b + 1), .ref (b + 2), .ref (b + 3), .ref (b + 4), .ref (b + 5), .ref (b + 6), .ref (b + 7), .ref (b + 8), .ref (b + 9), .long (lI co), .ref (b + 10), .ref (b + 11), .int (iI ln), .int (iI cu), .int (iI (pn : Int)), .ref (b + 12), .int (iI bc), .ref (b + 13), .ref (b + 14)])), (b + 1, .inl (kI K, 12, .inl (iA ar))), (b + 2, .inl (kI K, 12, .inl (iA oc))), (b + 3, .inl (kI K, 12, .inl (iA lc))), (b + 4, .inl (kI K, 96, .inl (iA st))), (b + 5, .inl (kI K, 96, .inl (iA tk))), (b + 6, .inl (kI K, 10, .inl (iA wa))), (b + 7, .inl (kI K, 10, .inl (iA pk))), (b + 8, .inl (kL K, 40, .inr (.inl (lA mu)))), (b + 9, .inl (kL K, 40, .inr (.inl (lA pr)))), (b + 10, .inl (kI K, 4, .inl (iA cn))), (b + 11, .inl (kI K, 4, .inl (iA bs))), (b + 12, .inl (kI K, 10, .inl (iA le))), (b + 13, .inl (kI K, 10, .inl (iA bb))), (b + 14, .inl (kI K, 10, .inl (iA ld)))] := hD
      refine lv_aload_n hx hb dM_change_39 rfl (lv_at hl 0 rfl) ?_
      refine va_get (D := kD K) (ci := 4) (v := .int (iI 1)) (C := RM) (T := FM) (N := 21) hx hb hts jnM hown hK hP 0 rfl rfl 0 (by decide) (hts _ mt_463) (fun _ h9 => h9) rfl dM_change_40 ?_
      refine iz_if_le (tgt := 48) hx hb ⟨by omega, by omega⟩ dM_change_43 (by decide) (fun g => absurd g (by decide)) (fun _ => ?_)
      refine iz_iconst hx hb dM_change_46 ?_
      rw [hQ]
      exact iz_iret hx hb hr hlocks (Or.inl ⟨by omega, hP⟩) hS.2.2 dM_change_47
  · refine iz_if_eq (tgt := 35) hx hb ⟨by omega, by omega⟩ dM_change_14 (by decide) (fun _ => ?_) (fun g => absurd g (by decide))
    refine iz_iconst hx hb dM_change_35 ?_
    refine va_put (D := kD K) (ci := 4) (v := .int (iI 1)) (ty := .int) (C := RM) (T := FM) (N := 21) hx hb hts jnM tM tM_ok nM hown hK hP hD hS 0 rfl rfl 0 (by decide) (hts _ mt_463) (fun _ h9 => h9) rfl (by decide +kernel) rfl rfl (Nat.le_of_ble_eq_true rfl) dM_change_36 ?_
    clear hP hD hS
    intro H locs hP hD hS
    replace hP : va_P (kD K) vcl [(b, .inr (4, [.int (iI 1), .int (iI (wn : Int)), .ref (b + 1), .ref (b + 2), .ref (b + 3), .ref (b + 4), .ref (b + 5), .ref (b + 6), .ref (b + 7), .ref (b + 8), .ref (b + 9), .long (lI co), .ref (b + 10), .ref (b + 11), .int (iI ln), .int (iI cu), .int (iI (pn : Int)), .ref (b + 12), .int (iI bc), .ref (b + 13), .ref (b + 14)])), (b + 1, .inl (kI K, 12, .inl (iA ar))), (b + 2, .inl (kI K, 12, .inl (iA oc))), (b + 3, .inl (kI K, 12, .inl (iA lc))), (b + 4, .inl (kI K, 96, .inl (iA st))), (b + 5, .inl (kI K, 96, .inl (iA tk))), (b + 6, .inl (kI K, 10, .inl (iA wa))), (b + 7, .inl (kI K, 10, .inl (iA pk))), (b + 8, .inl (kL K, 40, .inr (.inl (lA mu)))), (b + 9, .inl (kL K, 40, .inr (.inl (lA pr)))), (b + 10, .inl (kI K, 4, .inl (iA cn))), (b + 11, .inl (kI K, 4, .inl (iA bs))), (b + 12, .inl (kI K, 10, .inl (iA le))), (b + 13, .inl (kI K, 10, .inl (iA bb))), (b + 14, .inl (kI K, 10, .inl (iA ld)))] H := hP
    replace hD : va_D A [(b, .inr (4, [.int (iI 1), .int (iI (wn : Int)), .ref (b + 1), .ref (b + 2), .ref (b + 3), .ref (b + 4), .ref (b + 5), .ref (b + 6), .ref (b + 7), .ref (b + 8), .ref (b + 9), .long (lI co), .ref (b + 10), .ref (b + 11), .int (iI ln), .int (iI cu), .int (iI (pn : Int)), .ref (b + 12), .int (iI bc), .ref (b + 13), .ref (b + 14)])), (b + 1, .inl (kI K, 12, .inl (iA ar))), (b + 2, .inl (kI K, 12, .inl (iA oc))), (b + 3, .inl (kI K, 12, .inl (iA lc))), (b + 4, .inl (kI K, 96, .inl (iA st))), (b + 5, .inl (kI K, 96, .inl (iA tk))), (b + 6, .inl (kI K, 10, .inl (iA wa))), (b + 7, .inl (kI K, 10, .inl (iA pk))), (b + 8, .inl (kL K, 40, .inr (.inl (lA mu)))), (b + 9, .inl (kL K, 40, .inr (.inl (lA pr)))), (b + 10, .inl (kI K, 4, .inl (iA cn))), (b + 11, .inl (kI K, 4, .inl (iA bs))), (b + 12, .inl (kI K, 10, .inl (iA le))), (b + 13, .inl (kI K, 10, .inl (iA bb))), (b + 14, .inl (kI K, 10, .inl (iA ld)))] := hD
    refine lv_aload_n hx hb dM_change_39 rfl (lv_at hl 0 rfl) ?_
    refine va_get (D := kD K) (ci := 4) (v := .int (iI 1)) (C := RM) (T := FM) (N := 21) hx hb hts jnM hown hK hP 0 rfl rfl 0 (by decide) (hts _ mt_463) (fun _ h9 => h9) rfl dM_change_40 ?_
    refine iz_if_le (tgt := 48) hx hb ⟨by omega, by omega⟩ dM_change_43 (by decide) (fun g => absurd g (by decide)) (fun _ => ?_)
    refine iz_iconst hx hb dM_change_46 ?_
    rw [hQ]
    exact iz_iret hx hb hr hlocks (Or.inl ⟨by omega, hP⟩) hS.2.2 dM_change_47
