-- class LayerQuantities: cents of all stuffs
abbrev rmX_cents0 : Room := { frames := 18, cells := 20, slots := 120, locals := 1000 }
set_option maxHeartbeats 4000000 in
set_option maxRecDepth 100000 in
/-- cents() -/
theorem c_X_cents0 (l : Launch) (htr : l.stackTraces = false) (K : KG) (z : Nat) (b wn : Nat) (ar oc lc : Nat → Int) (th : Nat → Nat → Int) (wa : Nat → Int) (Kn : Nat → Nat) (mu pr bg ch tr bn : Nat → Nat → Int) (bp bc sf : Nat → Int) (hW9 : WB wn ar oc lc th wa) (hI : ∀ j, j < 10 → ShI (Kn j) (mu j) (pr j) (bg j) (ch j) (bn j) (bp j) (bc j) (sf j)) (hzb : z < b) : Ct l yX_cents0 kX_cents0 rmX_cents0 (PX K z [.ref b] (fun H => va_P (kD K) vcl [(b, .inr (0, [.ref (b + 1), .int (iI (wn : Int)), .ref (b + 26), .ref (b + 27), .ref (b + 98)])), (b + 1, .inl (kW K, 12, .inr (.inr (.inr (.inr (fun i => some (b + 2 + 2 * i))))))), (b + 26, .inl (kI K, 10, .inl (iA wa))), (b + 27, .inl (kS K, 10, .inr (.inr (.inr (.inr (fun i => some (b + 28 + 7 * i)))))))] H ∧ (∀ i, i < 12 → va_P (kD K) vcl [(b + 2 + 2 * i, .inr (1, [.int (iI (ar i)), .int (iI (oc i)), .int (iI (lc i)), .ref (b + 2 + 2 * i + 1)])), (b + 2 + 2 * i + 1, .inl (kI K, 10, .inl (iA (th i))))] H) ∧ ∀ j, j < 10 → va_P (kD K) vcl (shW K (b + 28 + 7 * j) (Kn j : Nat) (mu j) (pr j) (bg j) (ch j) (tr j) (bn j) (bp j) (bc j) (sf j)) H)) (QL (fun r H => ((r = -1 ∧ ∃ j, j < 10 ∧ ∀ n, ¬ py_F (mu j) 0 (Kn j) (ndX ar th wa wn j) 0 n) ∨ ∃ M : Nat → Nat → Int, (∀ j, j < 10 → py_Best (mu j) (pr j) (Kn j) (ndX ar th wa wn j) (M j)) ∧ r = sm (fun j => py_co (pr j) (M j) 0 (Kn j)) 0 10) ∧ ∃ (tr' bn' : Nat → Nat → Int) (bp' bc' sf' : Nat → Int), ∀ j, j < 10 → ShI (Kn j) (mu j) (pr j) (bg j) (ch j) (bn' j) (bp' j) (bc' j) (sf' j) ∧ va_P (kD K) vcl (shW K (b + 28 + 7 * j) (Kn j : Nat) (mu j) (pr j) (bg j) (ch j) (tr' j) (bn' j) (bp' j) (bc' j) (sf' j)) H)) (fun q => b + 28 ≤ q ∧ q < b + 98) := by
  refine ct_of (by decide) (Or.inl ⟨rfl, rfl⟩) ?_
  intro p e s m args below meth c B0 hP0
  obtain ⟨hx, hb, hr, hml, hown, hlocks, hnm, htab⟩ := B0
  obtain ⟨ha, hE, hB⟩ := hP0
  obtain ⟨hT, hK⟩ := hE.1
  have hl := lv_entry ([.ref b]) (n := 6) (Nat.le_of_ble_eq_true rfl)
  obtain ⟨Q, hQ⟩ : ∃ Q, Q = XQ below (QL (fun r H => ((r = -1 ∧ ∃ j, j < 10 ∧ ∀ n, ¬ py_F (mu j) 0 (Kn j) (ndX ar th wa wn j) 0 n) ∨ ∃ M : Nat → Nat → Int, (∀ j, j < 10 → py_Best (mu j) (pr j) (Kn j) (ndX ar th wa wn j) (M j)) ∧ r = sm (fun j => py_co (pr j) (M j) 0 (Kn j)) 0 10) ∧ ∃ (tr' bn' : Nat → Nat → Int) (bp' bc' sf' : Nat → Int), ∀ j, j < 10 → ShI (Kn j) (mu j) (pr j) (bg j) (ch j) (bn' j) (bp' j) (bc' j) (sf' j) ∧ va_P (kD K) vcl (shW K (b + 28 + 7 * j) (Kn j : Nat) (mu j) (pr j) (bg j) (ch j) (tr' j) (bn' j) (bp' j) (bc' j) (sf' j)) H)) args s (rmX_cents0).cells (rmX_cents0).slots (fun q => b + 28 ≤ q ∧ q < b + 98) := ⟨_, rfl⟩
  rw [← hQ, ha, lg_entry_eq]
  rw [ha] at hQ
  generalize (lg_sl ([.ref b]) ++ List.replicate (6 - (lg_sl ([.ref b])).length) Slot.unset).toArray = ls at hl ⊢
  generalize ([.ref b] : List Value).toArray = args at hQ ⊢
  have hts : ∀ w ∈ TW, w.before args s = true := fun w h => hT w h args
  have hl : lv_has ls 6 [(0, .ref b)] := hl
  obtain ⟨A, hAe⟩ : ∃ A : Addr → Prop, A = (fun q => b + 28 ≤ q ∧ q < b + 98) := ⟨_, rfl⟩
  rw [← hAe] at hQ
  have hS : va_S A s.heap s.heap [] := va_S.rf
  obtain ⟨hR, hF, hSh⟩ := hB
  have hR : va_P (kD K) vcl [(b, .inr (0, [.ref (b + 1), .int (iI (wn : Int)), .ref (b + 26), .ref (b + 27), .ref (b + 98)])), (b + 1, .inl (kW K, 12, .inr (.inr (.inr (.inr (fun i => some (b + 2 + 2 * i))))))), (b + 26, .inl (kI K, 10, .inl (iA wa))), (b + 27, .inl (kS K, 10, .inr (.inr (.inr (.inr (fun i => some (b + 28 + 7 * i)))))))] s.heap := hR
  have hzA : ¬ A z := by rw [hAe]; show ¬ (b + 28 ≤ z ∧ z < b + 98); omega
  have hRA : ∀ (k : Nat) (q : Nat × va_E), [(b, .inr (0, [.ref (b + 1), .int (iI (wn : Int)), .ref (b + 26), .ref (b + 27), .ref (b + 98)])), (b + 1, .inl (kW K, 12, .inr (.inr (.inr (.inr (fun i => some (b + 2 + 2 * i))))))), (b + 26, .inl (kI K, 10, .inl (iA wa))), (b + 27, .inl (kS K, 10, .inr (.inr (.inr (.inr (fun i => some (b + 28 + 7 * i)))))))][k]? = some q → ¬ A q.1 := by
    intro k q hk
    have hk := List.mem_of_getElem? hk
    simp only [List.mem_cons, List.not_mem_nil, or_false] at hk
    rw [hAe]
    rcases hk with rfl | rfl | rfl | rfl <;> (show ¬ (b + 28 ≤ _ ∧ _ < b + 98)) <;> dsimp only <;> omega
  have hFA : ∀ i, i < 12 → ∀ (k : Nat) (q : Nat × va_E), [(b + 2 + 2 * i, .inr (1, [.int (iI (ar i)), .int (iI (oc i)), .int (iI (lc i)), .ref (b + 2 + 2 * i + 1)])), (b + 2 + 2 * i + 1, .inl (kI K, 10, .inl (iA (th i))))][k]? = some q → ¬ A q.1 := by
    intro i hi k q hk
    have hk := List.mem_of_getElem? hk
    simp only [List.mem_cons, List.not_mem_nil, or_false] at hk
    rw [hAe]
    rcases hk with rfl | rfl <;> (show ¬ (b + 28 ≤ _ ∧ _ < b + 98)) <;> dsimp only <;> omega
  have loop : ∀ (n i : Nat) (ac : Int), 11 ≤ i + n → i ≤ 10 → ∀ (tr1 bn1 : Nat → Nat → Int) (bp1 bc1 sf1 : Nat → Int) (M : Nat → Nat → Int), (∀ j, j < i → py_Best (mu j) (pr j) (Kn j) (ndX ar th wa wn j) (M j)) → ac = sm (fun j => py_co (pr j) (M j) 0 (Kn j)) 0 i → ∀ (H : Heap) (locs : List Loc), (∀ j, j < 10 → ShI (Kn j) (mu j) (pr j) (bg j) (ch j) (bn1 j) (bp1 j) (bc1 j) (sf1 j) ∧ va_P (kD K) vcl (shW K (b + 28 + 7 * j) (Kn j : Nat) (mu j) (pr j) (bg j) (ch j) (tr1 j) (bn1 j) (bp1 j) (bc1 j) (sf1 j)) H) → va_S A s.heap H locs → ∀ ls : Array Slot, lv_has ls 6 [(0, .ref b), (1, .long (lI ac)), (3, .int (iI (i : Int)))] → W p l e rmX_cents0 s m args below meth c H locs (2 * i) (12 * i) Q (F0 m 4 ls []) := by
    intro n
    induction n with
    | zero => intro i ac h1 h2; omega
    | succ n ih =>
      intro i ac h1 h2 tr1 bn1 bp1 bc1 sf1 M hM hac H locs hSh hS ls hl
      refine lv_iload_n hx hb dX_cents0_4 rfl (lv_at hl 2 rfl) ?_
      refine iz_bipush hx hb dX_cents0_5 (by decide) ?_
      refine iz_icmp_ge (tgt := 41) hx hb ⟨by omega, by omega⟩ ⟨by omega, by omega⟩ dX_cents0_7 (by decide) (fun g1 => ?_) (fun g1 => ?_)
      · have e : i = 10 := by omega
        subst e
        refine lv_lload_n hx hb dX_cents0_41 rfl (lv_at hl 1 rfl) ?_
        rw [hQ]
        refine W.widen (k := 20) (n := 120) (by omega) (by omega) ?_
        exact iz_lret hx hb hr hlocks (⟨Or.inr ⟨M, hM, hac⟩, tr1, bn1, bp1, bc1, sf1, hSh⟩) hS.2.2 dX_cents0_42
      · refine lv_aload_n hx hb dX_cents0_10 rfl (lv_at hl 0 rfl) ?_
        refine lv_iload_n hx hb dX_cents0_11 rfl (lv_at hl 2 rfl) ?_
        refine ctV (n := 1) hx hb hml hown hT ⟨c_X_cents1 l htr K z b wn i ar oc lc th wa (Kn i) (mu i) (pr i) (bg i) (ch i) (tr1 i) (bn1 i) (bp1 i) (bc1 i) (sf1 i) i ⟨by omega, by omega⟩ (by omega) (fun _ _ => rfl) hW9 (hSh i (by omega)).1, ⟨_, _, _, Or.inl ⟨rfl, rfl⟩⟩, mt_149, mt_1, by decide, by decide +kernel, by decide, by decide, by show 2 * i + 2 ≤ 20; omega, by show 12 * i + 12 ≤ 120; omega⟩ PX.blind mt_146 mt_147 mt_148 (va_RVof (ci := 0) (q0 := 0) hK (ro_at hS hR hRA) rfl rfl) (As := [.int (iI (i : Int))]) (rest := []) rfl (PX.at hE (hS.2.1 z hE.2.1.lt hzA) ⟨(hSh i (by omega)).2, (ro_at hS hR hRA), fun j hj => ro_at hS (hF j hj) (hFA j hj)⟩) hl.1 rfl (Nat.le_of_ble_eq_true rfl) dX_cents0_12 (krTL (c1 := 2 * (i + 1)) (s1 := 12 * (i + 1)) (fun E h => h.2 ⟨by omega, by omega⟩) (by show 2 * i + 2 = _; omega) (by show 12 * i + 12 = _; omega) (fun r t1 H1 L hA hL hpo => ?_))
        obtain ⟨-, hans, tr', bn', bp', bc', hI', hP'⟩ := hpo
        have hS := hA.S hS (fun (x : Nat) hx => by rw [hAe]; have hx : b + 28 + 7 * i ≤ x ∧ x < b + 28 + 7 * i + 7 := hx; show b + 28 ≤ x ∧ x < b + 98; omega) hL
        have hSh' : ∀ j, j < 10 → ShI (Kn j) (mu j) (pr j) (bg j) (ch j) (ut bn1 i bn' j) (ut bp1 i bp' j) (ut bc1 i bc' j) (ut sf1 i (ndX ar th wa wn i) j) ∧ va_P (kD K) vcl (shW K (b + 28 + 7 * j) (Kn j : Nat) (mu j) (pr j) (bg j) (ch j) (ut tr1 i tr' j) (ut bn1 i bn' j) (ut bp1 i bp' j) (ut bc1 i bc' j) (ut sf1 i (ndX ar th wa wn i) j)) H1 := by
          intro j hj
          by_cases e : j = i
          · subst e
            rw [ut_s, ut_s, ut_s, ut_s, ut_s]
            exact ⟨hI', hP'⟩
          · rw [ut_n _ _ e, ut_n _ _ e, ut_n _ _ e, ut_n _ _ e, ut_n _ _ e]
            refine ⟨(hSh j hj).1, hA.P (hSh j hj).2 (fun k q hk => ?_)⟩
            have hk := List.mem_of_getElem? hk
            simp only [shW, List.mem_cons, List.not_mem_nil, or_false] at hk
            rcases hk with rfl | rfl | rfl | rfl | rfl | rfl | rfl <;> (show ¬ (b + 28 + 7 * i ≤ _ ∧ _ < b + 28 + 7 * i + 7)) <;> dsimp only <;> omega
        have hrb : r32 r := by
          rcases hans with ⟨rfl, -⟩ | ⟨n9, hn9, rfl⟩
          · exact ⟨by omega, by omega⟩
          · have hI9 := (hSh i (by omega)).1
            have q1 := py_cost_le (c := pr i) (fun x hx => (hI9.1.2.1 x hx).2.2.2) hn9.1
            have q2 : 0 ≤ py_co (pr i) n9 0 (Kn i) := sm_nn (Kn i) 0 (fun x a b => Int.mul_nonneg (hn9.1.1 x a b) (by have := hI9.1.2.1 x (by omega); omega))
            exact ⟨by omega, by omega⟩
        refine lv_lstore (lv' := [(4, .long (lI r)), (0, .ref b), (1, .long (lI ac)), (3, .int (iI (i : Int)))]) hx hb dX_cents0_15 hl (by decide) rfl (fun ls hl => ?_)
        refine lv_lload hx hb dX_cents0_17 (lv_at hl 0 rfl) ?_
        refine iz_ldc2 hx hb (-1) (by decide) hown (hts _ mt_268) dX_cents0_19 ?_
        refine iz_lc_ne (tgt := 30) hx hb ⟨by omega, by omega⟩ ⟨by omega, by omega⟩ dX_cents0_22 dX_cents0_23 (by decide) (fun g2 => ?_) (fun g2 => ?_)
        · obtain ⟨n9, hn9, hr9⟩ : ∃ n, py_Best (mu i) (pr i) (Kn i) (ndX ar th wa wn i) n ∧ r = py_co (pr i) n 0 (Kn i) := by rcases hans with ⟨h, -⟩ | h; exact absurd h g2; exact h
          refine lv_lload_n hx hb dX_cents0_30 rfl (lv_at hl 2 rfl) ?_
          refine lv_lload hx hb dX_cents0_31 (lv_at hl 0 rfl) ?_
          refine iz_ladd hx hb dX_cents0_33 ?_
          refine lv_lstore_n (lv' := [(1, .long (lI (ac + r))), (4, .long (lI r)), (0, .ref b), (3, .int (iI (i : Int)))]) hx hb dX_cents0_34 rfl hl (by decide) rfl (fun ls hl => ?_)
          refine iz_iinc (k := 3) (lv' := [(3, .int (iI ((i : Int) + 1))), (1, .long (lI (ac + r))), (4, .long (lI r)), (0, .ref b)]) hx hb dX_cents0_35 hl rfl (by decide) rfl (fun ls hl => ?_)
          refine lv_goto (tgt := 4) hx hb dX_cents0_38 (by decide) ?_
          exact ih (i + 1) (ac + r) (by omega) (by omega) (ut tr1 i tr') (ut bn1 i bn') (ut bp1 i bp') (ut bc1 i bc') (ut sf1 i (ndX ar th wa wn i)) (ut M i n9) (fun j hj => by by_cases e : j = i; subst e; rw [ut_s]; exact hn9; rw [ut_n _ _ e]; exact hM j (by omega)) (by rw [sm_snoc, Nat.zero_add, hac, sm_congr (f := fun j => py_co (pr j) (ut M i n9 j) 0 (Kn j)) (g := fun j => py_co (pr j) (M j) 0 (Kn j)) i 0 (fun j _ hj => by show py_co (pr j) (ut M i n9 j) 0 (Kn j) = _; rw [ut_n _ _ (show j ≠ i by omega)])]; show _ = _ + py_co (pr i) (ut M i n9 i) 0 (Kn i); rw [ut_s, hr9]) H1 _ hSh' hS ls (lv_sub hl [3, 1, 0] rfl)
        · refine iz_ldc2 hx hb (-1) (by decide) hown (hts _ mt_268) dX_cents0_26 ?_
          have g2 : r = -1 := g2
          rw [hQ]
          refine W.widen (k := 20) (n := 120) (by omega) (by omega) ?_
          exact iz_lret hx hb hr hlocks (⟨Or.inl ⟨rfl, i, by omega, by rcases hans with ⟨-, h⟩ | ⟨n9, hn9, h9⟩; exact h; have q2 : 0 ≤ py_co (pr i) n9 0 (Kn i) := sm_nn (Kn i) 0 (fun x a b => Int.mul_nonneg (hn9.1.1 x a b) (by have := (hSh i (by omega)).1.1.2.1 x (by omega); omega)); exact absurd h9 (by omega)⟩, _, _, _, _, _, hSh'⟩) hS.2.2 dX_cents0_29
  refine iz_lconst hx hb 0 rfl dX_cents0_0 ?_
  refine lv_lstore_n (lv' := [(1, .long (lI 0)), (0, .ref b)]) hx hb dX_cents0_1 rfl hl (by decide) rfl (fun ls hl => ?_)
  refine iz_iconst hx hb dX_cents0_2 ?_
  refine lv_istore_n (lv' := [(3, .int (iI 0)), (1, .long (lI 0)), (0, .ref b)]) hx hb dX_cents0_3 rfl hl (by decide) rfl (fun ls hl => ?_)
  exact loop 11 0 0 (by omega) (by omega) tr bn bp bc sf (fun _ _ => 0) (fun j hj => absurd hj (by omega)) rfl s.heap [] (fun j hj => ⟨hI j hj, hSh j hj⟩) hS ls (lv_sub hl [2, 1, 0] rfl)
