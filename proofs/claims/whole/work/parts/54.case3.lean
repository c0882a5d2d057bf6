-- THE LAW: steps
set_option maxHeartbeats 4000000 in
set_option maxRecDepth 100000 in
theorem lw_c11 {p : Program} {l : Launch} {e : Env} {s : State} {m : MethodId} {args : Array Value} {below : List Frame} {meth : Method} {c : Code} {H : Heap} {Q : State → Prop} {ls : Array Slot} {K : KG} {z b sb Ln i cc ss : Nat} {xs : Nat → Int32} (htr : l.stackTraces = false) (hx : p.tables.exec = Jvm.exec) (hb : c.code = code) (hml : c.maxLocals = 8) (hown : s.vm.findClass RL = some m.cls) (hE : EX K z s) (hz : z < s.heap.size) (hbs : s.heap.size = b) (hX : va_X sb Ln xs s s.heap) (hsb : sb < s.heap.size) (hLn : Ln ≤ 2048) (hi : i + 4 ≤ Ln) (hcc : cc + 30 ≤ 649577) (hss : ss + 300 ≤ 7147374) (hl : lv_has ls 8 [(4, .int (iI (i : Int))), (0, .ref sb), (1, .ref b), (2, .ref (b + 104)), (3, .ref (b + 119))]) (hk0 : KE s.heap H) (hLS : LwI K b H)
    (kk : ∀ (H1 : Heap) (ls1 : Array Slot), KE s.heap H1 → LwI K b H1 → lv_has ls1 8 [(4, .int (iI (i : Int))), (0, .ref sb), (1, .ref b), (2, .ref (b + 104)), (3, .ref (b + 119))] → W p l e rmLaw s m args below meth c H1 [] (cc + 30) (ss + 300) Q (F0 m 1049 ls1 [])) : W p l e rmLaw s m args below meth c H [] cc ss Q (F0 m 800 ls []) := by
  obtain ⟨hT, hK⟩ := hE.1
  obtain ⟨wn, ar, oc, lc, th, wa, Kn, mu, pr, bg, ch, tr, bn, bp, bc, sf, bl, cu, Pn, le, pl, Bn, bo, fr, lo, sl, cd, st, tk, pk, muM, prM, co, cn, bs, bcM, bb, ld, o9, hLW, hLS1, hLP, hXW, hM, hO⟩ := hLS
  obtain ⟨hP0, hPw, hPs, hPa⟩ := id hXW
  have hsz : b + 119 < H.size := (hO 0 _ rfl).lt
  have hn : wn ≤ 12 := hLW.1.1
  obtain ⟨x1, hx1⟩ : ∃ x1, x1 = (xs (i + 1)).toInt := ⟨_, rfl⟩
  have h1 : r32 x1 := by rw [hx1]; exact r32_of _
  refine lv_aload_n hx hb dL_law_800 rfl (lv_at hl 2 rfl) ?_
  refine lv_aload_n hx hb dL_law_801 rfl (lv_at hl 1 rfl) ?_
  refine lv_iload hx hb dL_law_802 (lv_at hl 0 rfl) ?_
  refine iz_iconst hx hb dL_law_804 ?_
  refine iz_iadd hx hb dL_law_805 ?_
  refine iz_sldv hx hb hX hsb hk0 (i + 1) (by omega) (by omega) hLn hx1 dL_law_806 ?_
  refine lv_aload_n hx hb dL_law_807 rfl (lv_at hl 4 rfl) ?_
  refine ctS (n := 3) hx hb hml hown hT ⟨c_L_piece l htr K z b wn bl cu Pn le pl Bn bo fr lo sl x1 h1 hLP.1 (b + 119) o9 (fun h9 => by (try dsimp only at h9); omega), ⟨_, _, _, Or.inr rfl⟩, mt_423, mt_0, by decide, by decide +kernel, by decide, by decide, (by show cc + 2 ≤ 649577; omega), (by show ss + 12 ≤ 7147374; omega)⟩ PX.blind mt_421 mt_422 (As := [.ref b, .int (iI x1), .ref (b + 119)]) (rest := []) rfl (PX.at hE (hk0.2 z hz) ⟨⟨hPa, P1 hP0 0 rfl⟩, hO⟩) hl.1 rfl (Nat.le_of_ble_eq_true rfl) dL_law_808 (krH (c1 := cc + 2) (s1 := ss + 12) rfl rfl (fun r t1 H1 L1 hA1 hL1 hp1 => ?_))
  have hG1 : ∀ q, (fun q => (fun q => b + 98 ≤ q ∧ q < b + 98 + 6) q ∨ q = b + 119) q → s.heap.size ≤ q := by intro q h9; (try dsimp only at h9); omega
  have hk1 : KE s.heap H1 := hk0.af hA1 hG1
  refine W.drop (locs := []) (fun q hq => hG1 _ (hL1 q hq)) ?_
  have hGM : ∀ q : Nat, (fun q => (fun q => b + 98 ≤ q ∧ q < b + 98 + 6) q ∨ q = b + 119) q → q < b + 104 ∨ q = b + 119 := by intro q h9; (try dsimp only at h9); omega
  have hGF : ∀ q : Nat, q < b + 104 → (fun q => (fun q => b + 98 ≤ q ∧ q < b + 98 + 6) q ∨ q = b + 119) q → (fun q => b + 98 ≤ q ∧ q < b + 98 + 6) q := by intro q hq h9; rcases h9 with h9 | h9; exact h9; omega
  have hM1 : va_P (kD K) vcl (mdW K (b + 104) cd wn ar oc lc st tk wa pk muM prM co cn bs bl cu Pn le bcM bb ld) H1 := hA1.Pm hM (fun x hx9 h9 => by have h8 := mem_mdW hx9; have h7 := hGM x.1 h9; omega)
  refine lv_istore (lv' := [(5, .int (iI r)), (4, .int (iI (i : Int))), (0, .ref sb), (1, .ref b), (2, .ref (b + 104)), (3, .ref (b + 119))]) hx hb dL_law_811 hl (by decide) rfl (fun ls hl => ?_)
  refine lv_aload_n hx hb dL_law_813 rfl (lv_at hl 4 rfl) ?_
  refine lv_aload_n hx hb dL_law_814 rfl (lv_at hl 2 rfl) ?_
  refine lv_iload hx hb dL_law_815 (lv_at hl 1 rfl) ?_
  refine iz_iconst hx hb dL_law_817 ?_
  refine iz_iadd hx hb dL_law_818 ?_
  refine iz_sldv hx hb hX hsb hk1 (i + 1) (by omega) (by omega) hLn hx1 dL_law_819 ?_
  refine ctV (n := 1) hx hb hml hown hT ⟨c_M_piece l K (b + 104) cd wn ar oc lc st tk wa pk muM prM co cn bs bl cu Pn le bcM bb ld x1 h1 hLP.1, ⟨_, _, _, Or.inl ⟨rfl, rfl⟩⟩, mt_619, mt_5, by decide, by decide +kernel, by decide, by decide, (by show cc + 2 + 0 ≤ 649577; omega), (by show ss + 12 + 0 ≤ 7147374; omega)⟩ PC.blind mt_616 mt_617 mt_618 (va_RVof (ci := 4) (q0 := 0) hK hM1 rfl rfl) (As := [.int (iI x1)]) (rest := []) rfl (PC.at ⟨hT, hK⟩ hM1) hl.1 rfl (Nat.le_of_ble_eq_true rfl) dL_law_820 (krI (c1 := cc + 2) (s1 := ss + 12) rfl rfl (fun r6 t2 H2 L2 hA2 hL2 hp2 => ?_))
  have hG2 : ∀ q, (fun x => b + 104 ≤ x ∧ x < b + 104 + 15) q → s.heap.size ≤ q := by intro q h9; (try dsimp only at h9); omega
  have hk2 : KE s.heap H2 := hk1.af hA2 hG2
  refine W.drop (locs := []) (fun q hq => hG2 _ (hL2 q hq)) ?_
  refine lv_istore (lv' := [(6, .int (iI r6)), (5, .int (iI r)), (4, .int (iI (i : Int))), (0, .ref sb), (1, .ref b), (2, .ref (b + 104)), (3, .ref (b + 119))]) hx hb dL_law_823 hl (by decide) rfl (fun ls hl => ?_)
  rcases hp1 with ⟨rfl, r9, v, Hm, hq1, hq2, hq3, hOB⟩ | ⟨rfl, hke, hpx⟩ | ⟨rfl, hke, hpx⟩
  · obtain ⟨⟨hC, hD⟩, e9, hN⟩ := hq1
    rcases hp2 with ⟨hn1, hM2⟩ | ⟨hC2, hn2, hM2⟩ | ⟨hC2, hD2, hr6, hM2⟩
    · exact absurd hC hn1
    · exact absurd hD hn2
    · have hKm : KQ b (fun _ => False) Hm H2 := hOB.KQ0 hA2
      have hO2 := hA2.out hOB.2.2
      have hKQ : KQ b (fun q => b + 98 ≤ q ∧ q < b + 98 + 6) H H2 := hA1.KQ1 (F := fun q => b + 98 ≤ q ∧ q < b + 98 + 6) hA2 hsz hGF
      have hN2 := kq_saw hKm (fun _ _ _ => id) hN
      have e6 : iI r6 = iI v := by rw [hr6, ← e9]; exact hq2
      have hLS2 : LwI K b H2 := LwI.of hLW hLS1 ⟨SwB_add hLP.1 hC hD, Or.inl rfl⟩ (xT_saw hXW hKQ hN2) hM2 hO2
      refine lv_aload_n hx hb dL_law_825 rfl (lv_at hl 5 rfl) ?_
      refine ctV (n := 0) hx hb hml hown hT ⟨c_M_thrown l K (b + 104) 0 wn ar oc lc st tk wa pk muM prM co cn bs bl cu (Pn + 1) (ut le Pn x1) bcM bb ld, ⟨_, _, _, Or.inl ⟨rfl, rfl⟩⟩, mt_531, mt_5, by decide, by decide +kernel, by decide, by decide, (by show cc + 2 + 0 ≤ 649577; omega), (by show ss + 12 + 0 ≤ 7147374; omega)⟩ PC.blind mt_528 mt_529 mt_530 (va_RVof (ci := 4) (q0 := 0) hK hM2 rfl rfl) (As := []) (rest := []) rfl (PC.at ⟨hT, hK⟩ hM2) hl.1 rfl (Nat.le_of_ble_eq_true rfl) dL_law_826 (krI0 rfl rfl (fun _ h => h) (fun r7 hr7 => ?_))
      subst hr7
      refine lv_iload hx hb dL_law_829 (lv_at hl 1 rfl) ?_
      refine iz_icmp_eq (tgt := 836) hx hb ⟨by omega, by omega⟩ ⟨by omega, by omega⟩ dL_law_831 (by decide) (fun h9 => ?_) (fun h9 => ?_)
      · refine lv_iload hx hb dL_law_836 (lv_at hl 1 rfl) ?_
        refine iz_if_ne (tgt := 853) hx hb ⟨by omega, by omega⟩ dL_law_838 (by decide) (fun h9 => ?_) (fun h9 => ?_)
        · exact absurd rfl h9
        · refine lv_aload_n hx hb dL_law_841 rfl (lv_at hl 6 rfl) ?_
          refine iz_iconst hx hb dL_law_842 ?_
          refine iz_lald hx hb hK hO2 0 rfl 0 rfl (by omega) (by omega) dL_law_843 ?_
          refine lv_iload hx hb dL_law_844 (lv_at hl 0 rfl) ?_
          rw [e6]
          refine iz_i2l hx hb hq3 dL_law_846 ?_
          refine iz_lcs (v := v) (tgt := 853) hx hb dL_law_847 dL_law_848 (by decide) ?_
          refine lv_goto (tgt := 1049) hx hb dL_law_853 (by decide) ?_
          exact W.widen (by omega) (by omega) (kk H2 ls hk2 hLS2 (lv_sub hl [2, 3, 4, 5, 6] rfl))
      · exact absurd rfl h9
  · have hnC := (Or.resolve_right hpx (fun h9 => absurd h9.1 (by decide))).2
    rcases hp2 with ⟨hn1, hM2⟩ | ⟨hC2, hn2, hM2⟩ | ⟨hC2, hD2, hr6, hM2⟩
    · have hO2 := hA2.out (hke.P hO)
      have hLS2 : LwI K b H2 := LwI.of hLW hLS1 hLP (xT_keep hXW (hke.KQ0 hA2 hsz)) hM2 hO2
      refine lv_aload_n hx hb dL_law_825 rfl (lv_at hl 5 rfl) ?_
      refine ctV (n := 0) hx hb hml hown hT ⟨c_M_thrown l K (b + 104) 1 wn ar oc lc st tk wa pk muM prM co cn bs bl cu Pn le bcM bb ld, ⟨_, _, _, Or.inl ⟨rfl, rfl⟩⟩, mt_531, mt_5, by decide, by decide +kernel, by decide, by decide, (by show cc + 2 + 0 ≤ 649577; omega), (by show ss + 12 + 0 ≤ 7147374; omega)⟩ PC.blind mt_528 mt_529 mt_530 (va_RVof (ci := 4) (q0 := 0) hK hM2 rfl rfl) (As := []) (rest := []) rfl (PC.at ⟨hT, hK⟩ hM2) hl.1 rfl (Nat.le_of_ble_eq_true rfl) dL_law_826 (krI0 rfl rfl (fun _ h => h) (fun r7 hr7 => ?_))
      subst hr7
      refine lv_iload hx hb dL_law_829 (lv_at hl 1 rfl) ?_
      refine iz_icmp_eq (tgt := 836) hx hb ⟨by omega, by omega⟩ ⟨by omega, by omega⟩ dL_law_831 (by decide) (fun h9 => ?_) (fun h9 => ?_)
      · refine lv_iload hx hb dL_law_836 (lv_at hl 1 rfl) ?_
        refine iz_if_ne (tgt := 853) hx hb ⟨by omega, by omega⟩ dL_law_838 (by decide) (fun h9 => ?_) (fun h9 => ?_)
        · refine lv_goto (tgt := 1049) hx hb dL_law_853 (by decide) ?_
          exact W.widen (by omega) (by omega) (kk H2 ls hk2 hLS2 (lv_sub hl [2, 3, 4, 5, 6] rfl))
        · exact absurd h9 (by decide)
      · exact absurd rfl h9
    · exact absurd hC2 hnC
    · exact absurd hC2 hnC
  · obtain ⟨-, hCx, hnD⟩ := Or.resolve_left hpx (fun h9 => absurd h9.1 (by decide))
    rcases hp2 with ⟨hn1, hM2⟩ | ⟨hC2, hn2, hM2⟩ | ⟨hC2, hD2, hr6, hM2⟩
    · exact absurd hCx hn1
    · have hO2 := hA2.out (hke.P hO)
      have hLS2 : LwI K b H2 := LwI.of hLW hLS1 hLP (xT_keep hXW (hke.KQ0 hA2 hsz)) hM2 hO2
      refine lv_aload_n hx hb dL_law_825 rfl (lv_at hl 5 rfl) ?_
      refine ctV (n := 0) hx hb hml hown hT ⟨c_M_thrown l K (b + 104) 2 wn ar oc lc st tk wa pk muM prM co cn bs bl cu Pn le bcM bb ld, ⟨_, _, _, Or.inl ⟨rfl, rfl⟩⟩, mt_531, mt_5, by decide, by decide +kernel, by decide, by decide, (by show cc + 2 + 0 ≤ 649577; omega), (by show ss + 12 + 0 ≤ 7147374; omega)⟩ PC.blind mt_528 mt_529 mt_530 (va_RVof (ci := 4) (q0 := 0) hK hM2 rfl rfl) (As := []) (rest := []) rfl (PC.at ⟨hT, hK⟩ hM2) hl.1 rfl (Nat.le_of_ble_eq_true rfl) dL_law_826 (krI0 rfl rfl (fun _ h => h) (fun r7 hr7 => ?_))
      subst hr7
      refine lv_iload hx hb dL_law_829 (lv_at hl 1 rfl) ?_
      refine iz_icmp_eq (tgt := 836) hx hb ⟨by omega, by omega⟩ ⟨by omega, by omega⟩ dL_law_831 (by decide) (fun h9 => ?_) (fun h9 => ?_)
      · refine lv_iload hx hb dL_law_836 (lv_at hl 1 rfl) ?_
        refine iz_if_ne (tgt := 853) hx hb ⟨by omega, by omega⟩ dL_law_838 (by decide) (fun h9 => ?_) (fun h9 => ?_)
        · refine lv_goto (tgt := 1049) hx hb dL_law_853 (by decide) ?_
          exact W.widen (by omega) (by omega) (kk H2 ls hk2 hLS2 (lv_sub hl [2, 3, 4, 5, 6] rfl))
        · exact absurd h9 (by decide)
      · exact absurd rfl h9
    · exact absurd hD2 hnD
set_option maxHeartbeats 4000000 in
set_option maxRecDepth 100000 in
theorem lw_c12 {p : Program} {l : Launch} {e : Env} {s : State} {m : MethodId} {args : Array Value} {below : List Frame} {meth : Method} {c : Code} {H : Heap} {Q : State → Prop} {ls : Array Slot} {K : KG} {z b sb Ln i cc ss : Nat} {xs : Nat → Int32} (htr : l.stackTraces = false) (hx : p.tables.exec = Jvm.exec) (hb : c.code = code) (hml : c.maxLocals = 8) (hown : s.vm.findClass RL = some m.cls) (hE : EX K z s) (hz : z < s.heap.size) (hbs : s.heap.size = b) (hX : va_X sb Ln xs s s.heap) (hsb : sb < s.heap.size) (hLn : Ln ≤ 2048) (hi : i + 4 ≤ Ln) (hcc : cc + 30 ≤ 649577) (hss : ss + 300 ≤ 7147374) (hl : lv_has ls 8 [(4, .int (iI (i : Int))), (0, .ref sb), (1, .ref b), (2, .ref (b + 104)), (3, .ref (b + 119))]) (hk0 : KE s.heap H) (hLS : LwI K b H)
    (kk : ∀ (H1 : Heap) (ls1 : Array Slot), KE s.heap H1 → LwI K b H1 → lv_has ls1 8 [(4, .int (iI (i : Int))), (0, .ref sb), (1, .ref b), (2, .ref (b + 104)), (3, .ref (b + 119))] → W p l e rmLaw s m args below meth c H1 [] (cc + 30) (ss + 300) Q (F0 m 1049 ls1 [])) : W p l e rmLaw s m args below meth c H [] cc ss Q (F0 m 856 ls []) := by
  obtain ⟨hT, hK⟩ := hE.1
  obtain ⟨wn, ar, oc, lc, th, wa, Kn, mu, pr, bg, ch, tr, bn, bp, bc, sf, bl, cu, Pn, le, pl, Bn, bo, fr, lo, sl, cd, st, tk, pk, muM, prM, co, cn, bs, bcM, bb, ld, o9, hLW, hLS1, hLP, hXW, hM, hO⟩ := hLS
  obtain ⟨hP0, hPw, hPs, hPa⟩ := id hXW
  have hsz : b + 119 < H.size := (hO 0 _ rfl).lt
  have hn : wn ≤ 12 := hLW.1.1
  obtain ⟨x1, hx1⟩ : ∃ x1, x1 = (xs (i + 1)).toInt := ⟨_, rfl⟩
  have h1 : r32 x1 := by rw [hx1]; exact r32_of _
  obtain ⟨x2, hx2⟩ : ∃ x2, x2 = (xs (i + 2)).toInt := ⟨_, rfl⟩
  have h2 : r32 x2 := by rw [hx2]; exact r32_of _
  obtain ⟨k, hk10, hk⟩ := pickN 10 (by omega) x1 (Pn : Int) (by have := hLP.1.2.2.1; omega)
  refine lv_aload_n hx hb dL_law_856 rfl (lv_at hl 2 rfl) ?_
  refine lv_aload_n hx hb dL_law_857 rfl (lv_at hl 1 rfl) ?_
  refine lv_iload hx hb dL_law_858 (lv_at hl 0 rfl) ?_
  refine iz_iconst hx hb dL_law_860 ?_
  refine iz_iadd hx hb dL_law_861 ?_
  refine iz_sldv hx hb hX hsb hk0 (i + 1) (by omega) (by omega) hLn hx1 dL_law_862 ?_
  refine lv_aload_n hx hb dL_law_863 rfl (lv_at hl 1 rfl) ?_
  refine lv_iload hx hb dL_law_864 (lv_at hl 0 rfl) ?_
  refine iz_iconst hx hb dL_law_866 ?_
  refine iz_iadd hx hb dL_law_867 ?_
  refine iz_sldv hx hb hX hsb hk0 (i + 2) (by omega) (by omega) hLn hx2 dL_law_868 ?_
  refine lv_aload_n hx hb dL_law_869 rfl (lv_at hl 4 rfl) ?_
  refine ctS (n := 4) hx hb hml hown hT ⟨c_L_change l htr K z b wn k bl cu Pn le pl Bn bo fr lo sl x1 x2 h1 h2 hk hLP.1 (b + 119) o9 (fun h9 => by (try dsimp only at h9); omega), ⟨_, _, _, Or.inr rfl⟩, mt_434, mt_0, by decide, by decide +kernel, by decide, by decide, (by show cc + 2 ≤ 649577; omega), (by show ss + 12 ≤ 7147374; omega)⟩ PX.blind mt_432 mt_433 (As := [.ref b, .int (iI x1), .int (iI x2), .ref (b + 119)]) (rest := []) rfl (PX.at hE (hk0.2 z hz) ⟨⟨hPa, P1 hP0 0 rfl⟩, hO⟩) hl.1 rfl (Nat.le_of_ble_eq_true rfl) dL_law_870 (krH (c1 := cc + 2) (s1 := ss + 12) rfl rfl (fun r t1 H1 L1 hA1 hL1 hp1 => ?_))
  have hG1 : ∀ q, (fun q => (fun q => b + 98 ≤ q ∧ q < b + 98 + 6) q ∨ q = b + 119) q → s.heap.size ≤ q := by intro q h9; (try dsimp only at h9); omega
  have hk1 : KE s.heap H1 := hk0.af hA1 hG1
  refine W.drop (locs := []) (fun q hq => hG1 _ (hL1 q hq)) ?_
  have hGM : ∀ q : Nat, (fun q => (fun q => b + 98 ≤ q ∧ q < b + 98 + 6) q ∨ q = b + 119) q → q < b + 104 ∨ q = b + 119 := by intro q h9; (try dsimp only at h9); omega
  have hGF : ∀ q : Nat, q < b + 104 → (fun q => (fun q => b + 98 ≤ q ∧ q < b + 98 + 6) q ∨ q = b + 119) q → (fun q => b + 98 ≤ q ∧ q < b + 98 + 6) q := by intro q hq h9; rcases h9 with h9 | h9; exact h9; omega
  have hM1 : va_P (kD K) vcl (mdW K (b + 104) cd wn ar oc lc st tk wa pk muM prM co cn bs bl cu Pn le bcM bb ld) H1 := hA1.Pm hM (fun x hx9 h9 => by have h8 := mem_mdW hx9; have h7 := hGM x.1 h9; omega)
  refine lv_istore (lv' := [(5, .int (iI r)), (4, .int (iI (i : Int))), (0, .ref sb), (1, .ref b), (2, .ref (b + 104)), (3, .ref (b + 119))]) hx hb dL_law_873 hl (by decide) rfl (fun ls hl => ?_)
  refine lv_aload_n hx hb dL_law_875 rfl (lv_at hl 4 rfl) ?_
  refine lv_aload_n hx hb dL_law_876 rfl (lv_at hl 2 rfl) ?_
  refine lv_iload hx hb dL_law_877 (lv_at hl 1 rfl) ?_
  refine iz_iconst hx hb dL_law_879 ?_
  refine iz_iadd hx hb dL_law_880 ?_
  refine iz_sldv hx hb hX hsb hk1 (i + 1) (by omega) (by omega) hLn hx1 dL_law_881 ?_
  refine lv_aload_n hx hb dL_law_882 rfl (lv_at hl 2 rfl) ?_
  refine lv_iload hx hb dL_law_883 (lv_at hl 1 rfl) ?_
  refine iz_iconst hx hb dL_law_885 ?_
  refine iz_iadd hx hb dL_law_886 ?_
  refine iz_sldv hx hb hX hsb hk1 (i + 2) (by omega) (by omega) hLn hx2 dL_law_887 ?_
  refine ctV (n := 2) hx hb hml hown hT ⟨c_M_change l K (b + 104) cd wn ar oc lc st tk wa pk muM prM co cn bs bl cu Pn le bcM bb ld k x1 x2 h1 h2 hk hLP.1, ⟨_, _, _, Or.inl ⟨rfl, rfl⟩⟩, mt_623, mt_5, by decide, by decide +kernel, by decide, by decide, (by show cc + 2 + 0 ≤ 649577; omega), (by show ss + 12 + 0 ≤ 7147374; omega)⟩ PC.blind mt_620 mt_621 mt_622 (va_RVof (ci := 4) (q0 := 0) hK hM1 rfl rfl) (As := [.int (iI x1), .int (iI x2)]) (rest := []) rfl (PC.at ⟨hT, hK⟩ hM1) hl.1 rfl (Nat.le_of_ble_eq_true rfl) dL_law_888 (krI (c1 := cc + 2) (s1 := ss + 12) rfl rfl (fun r6 t2 H2 L2 hA2 hL2 hp2 => ?_))
  have hG2 : ∀ q, (fun x => b + 104 ≤ x ∧ x < b + 104 + 15) q → s.heap.size ≤ q := by intro q h9; (try dsimp only at h9); omega
  have hk2 : KE s.heap H2 := hk1.af hA2 hG2
  refine W.drop (locs := []) (fun q hq => hG2 _ (hL2 q hq)) ?_
  refine lv_istore (lv' := [(6, .int (iI r6)), (5, .int (iI r)), (4, .int (iI (i : Int))), (0, .ref sb), (1, .ref b), (2, .ref (b + 104)), (3, .ref (b + 119))]) hx hb dL_law_891 hl (by decide) rfl (fun ls hl => ?_)
  rcases hp1 with ⟨rfl, r9, v, Hm, hq1, hq2, hq3, hOB⟩ | ⟨rfl, hke, hpx⟩
  · obtain ⟨hC, e9, hN⟩ := hq1
    rcases hp2 with ⟨hn1, hM2⟩ | ⟨hC2, hr6, hM2⟩
    · exact absurd hC hn1
    · have hKm : KQ b (fun _ => False) Hm H2 := hOB.KQ0 hA2
      have hO2 := hA2.out hOB.2.2
      have hKQ : KQ b (fun q => b + 98 ≤ q ∧ q < b + 98 + 6) H H2 := hA1.KQ1 (F := fun q => b + 98 ≤ q ∧ q < b + 98 + 6) hA2 hsz hGF
      have hN2 := kq_saw hKm (fun _ _ _ => id) hN
      have e6 : iI r6 = iI v := by rw [hr6, ← e9]; exact hq2
      have hLS2 : LwI K b H2 := LwI.of hLW hLS1 ⟨SwB_set hLP.1 hC.2, Or.inl rfl⟩ (xT_saw hXW hKQ hN2) hM2 hO2
      refine lv_aload_n hx hb dL_law_893 rfl (lv_at hl 5 rfl) ?_
      refine ctV (n := 0) hx hb hml hown hT ⟨c_M_thrown l K (b + 104) 0 wn ar oc lc st tk wa pk muM prM co cn bs bl cu Pn (ut le k x2) bcM bb ld, ⟨_, _, _, Or.inl ⟨rfl, rfl⟩⟩, mt_531, mt_5, by decide, by decide +kernel, by decide, by decide, (by show cc + 2 + 0 ≤ 649577; omega), (by show ss + 12 + 0 ≤ 7147374; omega)⟩ PC.blind mt_528 mt_529 mt_530 (va_RVof (ci := 4) (q0 := 0) hK hM2 rfl rfl) (As := []) (rest := []) rfl (PC.at ⟨hT, hK⟩ hM2) hl.1 rfl (Nat.le_of_ble_eq_true rfl) dL_law_894 (krI0 rfl rfl (fun _ h => h) (fun r7 hr7 => ?_))
      subst hr7
      refine lv_iload hx hb dL_law_897 (lv_at hl 1 rfl) ?_
      refine iz_icmp_eq (tgt := 904) hx hb ⟨by omega, by omega⟩ ⟨by omega, by omega⟩ dL_law_899 (by decide) (fun h9 => ?_) (fun h9 => ?_)
      · refine lv_iload hx hb dL_law_904 (lv_at hl 1 rfl) ?_
        refine iz_if_ne (tgt := 921) hx hb ⟨by omega, by omega⟩ dL_law_906 (by decide) (fun h9 => ?_) (fun h9 => ?_)
        · exact absurd rfl h9
        · refine lv_aload_n hx hb dL_law_909 rfl (lv_at hl 6 rfl) ?_
          refine iz_iconst hx hb dL_law_910 ?_
          refine iz_lald hx hb hK hO2 0 rfl 0 rfl (by omega) (by omega) dL_law_911 ?_
          refine lv_iload hx hb dL_law_912 (lv_at hl 0 rfl) ?_
          rw [e6]
          refine iz_i2l hx hb hq3 dL_law_914 ?_
          refine iz_lcs (v := v) (tgt := 921) hx hb dL_law_915 dL_law_916 (by decide) ?_
          refine lv_goto (tgt := 1049) hx hb dL_law_921 (by decide) ?_
          exact W.widen (by omega) (by omega) (kk H2 ls hk2 hLS2 (lv_sub hl [2, 3, 4, 5, 6] rfl))
      · exact absurd rfl h9
  · have hnC := hpx.2
    rcases hp2 with ⟨hn1, hM2⟩ | ⟨hC2, hr6, hM2⟩
    · have hO2 := hA2.out (hke.P hO)
      have hLS2 : LwI K b H2 := LwI.of hLW hLS1 hLP (xT_keep hXW (hke.KQ0 hA2 hsz)) hM2 hO2
      refine lv_aload_n hx hb dL_law_893 rfl (lv_at hl 5 rfl) ?_
      refine ctV (n := 0) hx hb hml hown hT ⟨c_M_thrown l K (b + 104) 1 wn ar oc lc st tk wa pk muM prM co cn bs bl cu Pn le bcM bb ld, ⟨_, _, _, Or.inl ⟨rfl, rfl⟩⟩, mt_531, mt_5, by decide, by decide +kernel, by decide, by decide, (by show cc + 2 + 0 ≤ 649577; omega), (by show ss + 12 + 0 ≤ 7147374; omega)⟩ PC.blind mt_528 mt_529 mt_530 (va_RVof (ci := 4) (q0 := 0) hK hM2 rfl rfl) (As := []) (rest := []) rfl (PC.at ⟨hT, hK⟩ hM2) hl.1 rfl (Nat.le_of_ble_eq_true rfl) dL_law_894 (krI0 rfl rfl (fun _ h => h) (fun r7 hr7 => ?_))
      subst hr7
      refine lv_iload hx hb dL_law_897 (lv_at hl 1 rfl) ?_
      refine iz_icmp_eq (tgt := 904) hx hb ⟨by omega, by omega⟩ ⟨by omega, by omega⟩ dL_law_899 (by decide) (fun h9 => ?_) (fun h9 => ?_)
      · refine lv_iload hx hb dL_law_904 (lv_at hl 1 rfl) ?_
        refine iz_if_ne (tgt := 921) hx hb ⟨by omega, by omega⟩ dL_law_906 (by decide) (fun h9 => ?_) (fun h9 => ?_)
        · refine lv_goto (tgt := 1049) hx hb dL_law_921 (by decide) ?_
          exact W.widen (by omega) (by omega) (kk H2 ls hk2 hLS2 (lv_sub hl [2, 3, 4, 5, 6] rfl))
        · exact absurd h9 (by decide)
      · exact absurd rfl h9
    · exact absurd hC2 hnC
set_option maxHeartbeats 4000000 in
set_option maxRecDepth 100000 in
theorem lw_c14 {p : Program} {l : Launch} {e : Env} {s : State} {m : MethodId} {args : Array Value} {below : List Frame} {meth : Method} {c : Code} {H : Heap} {Q : State → Prop} {ls : Array Slot} {K : KG} {z b sb Ln i cc ss : Nat} {xs : Nat → Int32} (htr : l.stackTraces = false) (hx : p.tables.exec = Jvm.exec) (hb : c.code = code) (hml : c.maxLocals = 8) (hown : s.vm.findClass RL = some m.cls) (hE : EX K z s) (hz : z < s.heap.size) (hbs : s.heap.size = b) (hX : va_X sb Ln xs s s.heap) (hsb : sb < s.heap.size) (hLn : Ln ≤ 2048) (hi : i + 4 ≤ Ln) (hcc : cc + 30 ≤ 649577) (hss : ss + 300 ≤ 7147374) (hl : lv_has ls 8 [(4, .int (iI (i : Int))), (0, .ref sb), (1, .ref b), (2, .ref (b + 104)), (3, .ref (b + 119))]) (hk0 : KE s.heap H) (hLS : LwI K b H)
    (kk : ∀ (H1 : Heap) (ls1 : Array Slot), KE s.heap H1 → LwI K b H1 → lv_has ls1 8 [(4, .int (iI (i : Int))), (0, .ref sb), (1, .ref b), (2, .ref (b + 104)), (3, .ref (b + 119))] → W p l e rmLaw s m args below meth c H1 [] (cc + 30) (ss + 300) Q (F0 m 1049 ls1 [])) : W p l e rmLaw s m args below meth c H [] cc ss Q (F0 m 937 ls []) := by
  obtain ⟨hT, hK⟩ := hE.1
  obtain ⟨wn, ar, oc, lc, th, wa, Kn, mu, pr, bg, ch, tr, bn, bp, bc, sf, bl, cu, Pn, le, pl, Bn, bo, fr, lo, sl, cd, st, tk, pk, muM, prM, co, cn, bs, bcM, bb, ld, o9, hLW, hLS1, hLP, hXW, hM, hO⟩ := hLS
  obtain ⟨hP0, hPw, hPs, hPa⟩ := id hXW
  have hsz : b + 119 < H.size := (hO 0 _ rfl).lt
  have hn : wn ≤ 12 := hLW.1.1
  obtain ⟨x1, hx1⟩ : ∃ x1, x1 = (xs (i + 1)).toInt := ⟨_, rfl⟩
  have h1 : r32 x1 := by rw [hx1]; exact r32_of _
  obtain ⟨k, hk10, hk⟩ := pickN 10 (by omega) x1 (Pn : Int) (by have := hLP.1.2.2.1; omega)
  refine lv_aload_n hx hb dL_law_937 rfl (lv_at hl 2 rfl) ?_
  refine lv_aload_n hx hb dL_law_938 rfl (lv_at hl 1 rfl) ?_
  refine lv_iload hx hb dL_law_939 (lv_at hl 0 rfl) ?_
  refine iz_iconst hx hb dL_law_941 ?_
  refine iz_iadd hx hb dL_law_942 ?_
  refine iz_sldv hx hb hX hsb hk0 (i + 1) (by omega) (by omega) hLn hx1 dL_law_943 ?_
  refine lv_aload_n hx hb dL_law_944 rfl (lv_at hl 4 rfl) ?_
  refine ctS (n := 3) hx hb hml hown hT ⟨c_L_bar l htr K z b wn k bl cu Pn le pl Bn bo fr lo sl x1 h1 hk hLP (b + 119) o9 (fun h9 => by (try dsimp only at h9); omega), ⟨_, _, _, Or.inr rfl⟩, mt_445, mt_0, by decide, by decide +kernel, by decide, by decide, (by show cc + 1 ≤ 649577; omega), (by show ss + 6 ≤ 7147374; omega)⟩ PX.blind mt_443 mt_444 (As := [.ref b, .int (iI x1), .ref (b + 119)]) (rest := []) rfl (PX.at hE (hk0.2 z hz) ⟨⟨hPa, P1 hP0 0 rfl⟩, hO⟩) hl.1 rfl (Nat.le_of_ble_eq_true rfl) dL_law_945 (krH (c1 := cc + 1) (s1 := ss + 6) rfl rfl (fun r t1 H1 L1 hA1 hL1 hp1 => ?_))
  have hG1 : ∀ q, (fun q => (fun q => b + 98 ≤ q ∧ q < b + 98 + 6) q ∨ q = b + 119) q → s.heap.size ≤ q := by intro q h9; (try dsimp only at h9); omega
  have hk1 : KE s.heap H1 := hk0.af hA1 hG1
  refine W.drop (locs := []) (fun q hq => hG1 _ (hL1 q hq)) ?_
  have hGM : ∀ q : Nat, (fun q => (fun q => b + 98 ≤ q ∧ q < b + 98 + 6) q ∨ q = b + 119) q → q < b + 104 ∨ q = b + 119 := by intro q h9; (try dsimp only at h9); omega
  have hGF : ∀ q : Nat, q < b + 104 → (fun q => (fun q => b + 98 ≤ q ∧ q < b + 98 + 6) q ∨ q = b + 119) q → (fun q => b + 98 ≤ q ∧ q < b + 98 + 6) q := by intro q hq h9; rcases h9 with h9 | h9; exact h9; omega
  have hM1 : va_P (kD K) vcl (mdW K (b + 104) cd wn ar oc lc st tk wa pk muM prM co cn bs bl cu Pn le bcM bb ld) H1 := hA1.Pm hM (fun x hx9 h9 => by have h8 := mem_mdW hx9; have h7 := hGM x.1 h9; omega)
  refine lv_istore (lv' := [(5, .int (iI r)), (4, .int (iI (i : Int))), (0, .ref sb), (1, .ref b), (2, .ref (b + 104)), (3, .ref (b + 119))]) hx hb dL_law_948 hl (by decide) rfl (fun ls hl => ?_)
  refine lv_aload_n hx hb dL_law_950 rfl (lv_at hl 4 rfl) ?_
  refine lv_aload_n hx hb dL_law_951 rfl (lv_at hl 2 rfl) ?_
  refine lv_iload hx hb dL_law_952 (lv_at hl 1 rfl) ?_
  refine iz_iconst hx hb dL_law_954 ?_
  refine iz_iadd hx hb dL_law_955 ?_
  refine iz_sldv hx hb hX hsb hk1 (i + 1) (by omega) (by omega) hLn hx1 dL_law_956 ?_
  refine ctV (n := 1) hx hb hml hown hT ⟨c_M_bar l K (b + 104) cd wn ar oc lc st tk wa pk muM prM co cn bs bl cu Pn le bcM bb ld k x1 h1 hk hLP.1, ⟨_, _, _, Or.inl ⟨rfl, rfl⟩⟩, mt_643, mt_5, by decide, by decide +kernel, by decide, by decide, (by show cc + 1 + 0 ≤ 649577; omega), (by show ss + 6 + 0 ≤ 7147374; omega)⟩ PC.blind mt_640 mt_641 mt_642 (va_RVof (ci := 4) (q0 := 0) hK hM1 rfl rfl) (As := [.int (iI x1)]) (rest := []) rfl (PC.at ⟨hT, hK⟩ hM1) hl.1 rfl (Nat.le_of_ble_eq_true rfl) dL_law_957 (krI (c1 := cc + 1) (s1 := ss + 6) rfl rfl (fun r6 t2 H2 L2 hA2 hL2 hp2 => ?_))
  have hG2 : ∀ q, (fun x => b + 104 ≤ x ∧ x < b + 104 + 15) q → s.heap.size ≤ q := by intro q h9; (try dsimp only at h9); omega
  have hk2 : KE s.heap H2 := hk1.af hA2 hG2
  refine W.drop (locs := []) (fun q hq => hG2 _ (hL2 q hq)) ?_
  refine lv_istore (lv' := [(6, .int (iI r6)), (5, .int (iI r)), (4, .int (iI (i : Int))), (0, .ref sb), (1, .ref b), (2, .ref (b + 104)), (3, .ref (b + 119))]) hx hb dL_law_960 hl (by decide) rfl (fun ls hl => ?_)
  rcases hp1 with ⟨rfl, r9, v, Hm, hq1, hq2, hq3, hOB⟩ | ⟨rfl, hke, hpx⟩
  · obtain ⟨hC, Bn9, bo9, fr9, lo9, sl9, e9, hB9, hF9, hN⟩ := hq1
    have hk9 : k < Pn := by have h8 := hk hC.1 hC.2; have h9 := hC.2; omega
    rcases hp2 with ⟨hn1, hM2⟩ | ⟨hC2, Bm9, bb9, fm9, hr6, hBm, hFm, hM2⟩
    · exact absurd hC hn1
    · have hKm : KQ b (fun _ => False) Hm H2 := hOB.KQ0 hA2
      have hO2 := hA2.out hOB.2.2
      have hKQ : KQ b (fun q => b + 98 ≤ q ∧ q < b + 98 + 6) H H2 := hA1.KQ1 (F := fun q => b + 98 ≤ q ∧ q < b + 98 + 6) hA2 hsz hGF
      have hN2 := kq_saw hKm (fun _ _ _ => id) hN
      have e6 : iI r6 = iI v := by rw [hr6, ← (SwF_eq hF9 hFm).2.2 k hk9, ← e9]; exact hq2
      have hLS2 : LwI K b H2 := LwI.of hLW hLS1 ⟨hLP.1, Or.inr ⟨rfl, hB9, hF9⟩⟩ (xT_saw hXW hKQ hN2) hM2 hO2
      refine lv_aload_n hx hb dL_law_962 rfl (lv_at hl 5 rfl) ?_
      refine ctV (n := 0) hx hb hml hown hT ⟨c_M_thrown l K (b + 104) 0 wn ar oc lc st tk wa pk muM prM co cn bs bl cu Pn le (Bm9 : Int) bb9 (ldF (bl + cu) fm9), ⟨_, _, _, Or.inl ⟨rfl, rfl⟩⟩, mt_531, mt_5, by decide, by decide +kernel, by decide, by decide, (by show cc + 1 + 0 ≤ 649577; omega), (by show ss + 6 + 0 ≤ 7147374; omega)⟩ PC.blind mt_528 mt_529 mt_530 (va_RVof (ci := 4) (q0 := 0) hK hM2 rfl rfl) (As := []) (rest := []) rfl (PC.at ⟨hT, hK⟩ hM2) hl.1 rfl (Nat.le_of_ble_eq_true rfl) dL_law_963 (krI0 rfl rfl (fun _ h => h) (fun r7 hr7 => ?_))
      subst hr7
      refine lv_iload hx hb dL_law_966 (lv_at hl 1 rfl) ?_
      refine iz_icmp_eq (tgt := 973) hx hb ⟨by omega, by omega⟩ ⟨by omega, by omega⟩ dL_law_968 (by decide) (fun h9 => ?_) (fun h9 => ?_)
      · refine lv_iload hx hb dL_law_973 (lv_at hl 1 rfl) ?_
        refine iz_if_ne (tgt := 990) hx hb ⟨by omega, by omega⟩ dL_law_975 (by decide) (fun h9 => ?_) (fun h9 => ?_)
        · exact absurd rfl h9
        · refine lv_aload_n hx hb dL_law_978 rfl (lv_at hl 6 rfl) ?_
          refine iz_iconst hx hb dL_law_979 ?_
          refine iz_lald hx hb hK hO2 0 rfl 0 rfl (by omega) (by omega) dL_law_980 ?_
          refine lv_iload hx hb dL_law_981 (lv_at hl 0 rfl) ?_
          rw [e6]
          refine iz_i2l hx hb hq3 dL_law_983 ?_
          refine iz_lcs (v := v) (tgt := 990) hx hb dL_law_984 dL_law_985 (by decide) ?_
          refine lv_goto (tgt := 1049) hx hb dL_law_990 (by decide) ?_
          exact W.widen (by omega) (by omega) (kk H2 ls hk2 hLS2 (lv_sub hl [2, 3, 4, 5, 6] rfl))
      · exact absurd rfl h9
  · have hnC := hpx.2
    rcases hp2 with ⟨hn1, hM2⟩ | ⟨hC2, Bm9, bb9, fm9, hr6, hBm, hFm, hM2⟩
    · have hO2 := hA2.out (hke.P hO)
      have hLS2 : LwI K b H2 := LwI.of hLW hLS1 hLP (xT_keep hXW (hke.KQ0 hA2 hsz)) hM2 hO2
      refine lv_aload_n hx hb dL_law_962 rfl (lv_at hl 5 rfl) ?_
      refine ctV (n := 0) hx hb hml hown hT ⟨c_M_thrown l K (b + 104) 1 wn ar oc lc st tk wa pk muM prM co cn bs bl cu Pn le bcM bb ld, ⟨_, _, _, Or.inl ⟨rfl, rfl⟩⟩, mt_531, mt_5, by decide, by decide +kernel, by decide, by decide, (by show cc + 1 + 0 ≤ 649577; omega), (by show ss + 6 + 0 ≤ 7147374; omega)⟩ PC.blind mt_528 mt_529 mt_530 (va_RVof (ci := 4) (q0 := 0) hK hM2 rfl rfl) (As := []) (rest := []) rfl (PC.at ⟨hT, hK⟩ hM2) hl.1 rfl (Nat.le_of_ble_eq_true rfl) dL_law_963 (krI0 rfl rfl (fun _ h => h) (fun r7 hr7 => ?_))
      subst hr7
      refine lv_iload hx hb dL_law_966 (lv_at hl 1 rfl) ?_
      refine iz_icmp_eq (tgt := 973) hx hb ⟨by omega, by omega⟩ ⟨by omega, by omega⟩ dL_law_968 (by decide) (fun h9 => ?_) (fun h9 => ?_)
      · refine lv_iload hx hb dL_law_973 (lv_at hl 1 rfl) ?_
        refine iz_if_ne (tgt := 990) hx hb ⟨by omega, by omega⟩ dL_law_975 (by decide) (fun h9 => ?_) (fun h9 => ?_)
        · refine lv_goto (tgt := 1049) hx hb dL_law_990 (by decide) ?_
          exact W.widen (by omega) (by omega) (kk H2 ls hk2 hLS2 (lv_sub hl [2, 3, 4, 5, 6] rfl))
        · exact absurd h9 (by decide)
      · exact absurd rfl h9
    · exact absurd hC2 hnC
set_option maxHeartbeats 4000000 in
set_option maxRecDepth 100000 in
theorem lw_c15 {p : Program} {l : Launch} {e : Env} {s : State} {m : MethodId} {args : Array Value} {below : List Frame} {meth : Method} {c : Code} {H : Heap} {Q : State → Prop} {ls : Array Slot} {K : KG} {z b sb Ln i cc ss : Nat} {xs : Nat → Int32} (htr : l.stackTraces = false) (hx : p.tables.exec = Jvm.exec) (hb : c.code = code) (hml : c.maxLocals = 8) (hown : s.vm.findClass RL = some m.cls) (hE : EX K z s) (hz : z < s.heap.size) (hbs : s.heap.size = b) (hX : va_X sb Ln xs s s.heap) (hsb : sb < s.heap.size) (hLn : Ln ≤ 2048) (hi : i + 4 ≤ Ln) (hcc : cc + 30 ≤ 649577) (hss : ss + 300 ≤ 7147374) (hl : lv_has ls 8 [(4, .int (iI (i : Int))), (0, .ref sb), (1, .ref b), (2, .ref (b + 104)), (3, .ref (b + 119))]) (hk0 : KE s.heap H) (hLS : LwI K b H)
    (kk : ∀ (H1 : Heap) (ls1 : Array Slot), KE s.heap H1 → LwI K b H1 → lv_has ls1 8 [(4, .int (iI (i : Int))), (0, .ref sb), (1, .ref b), (2, .ref (b + 104)), (3, .ref (b + 119))] → W p l e rmLaw s m args below meth c H1 [] (cc + 30) (ss + 300) Q (F0 m 1049 ls1 [])) : W p l e rmLaw s m args below meth c H [] cc ss Q (F0 m 993 ls []) := by
  obtain ⟨hT, hK⟩ := hE.1
  obtain ⟨wn, ar, oc, lc, th, wa, Kn, mu, pr, bg, ch, tr, bn, bp, bc, sf, bl, cu, Pn, le, pl, Bn, bo, fr, lo, sl, cd, st, tk, pk, muM, prM, co, cn, bs, bcM, bb, ld, o9, hLW, hLS1, hLP, hXW, hM, hO⟩ := hLS
  obtain ⟨hP0, hPw, hPs, hPa⟩ := id hXW
  have hsz : b + 119 < H.size := (hO 0 _ rfl).lt
  have hn : wn ≤ 12 := hLW.1.1
  obtain ⟨x1, hx1⟩ : ∃ x1, x1 = (xs (i + 1)).toInt := ⟨_, rfl⟩
  have h1 : r32 x1 := by rw [hx1]; exact r32_of _
  refine lv_aload_n hx hb dL_law_993 rfl (lv_at hl 2 rfl) ?_
  refine lv_aload_n hx hb dL_law_994 rfl (lv_at hl 1 rfl) ?_
  refine lv_iload hx hb dL_law_995 (lv_at hl 0 rfl) ?_
  refine iz_iconst hx hb dL_law_997 ?_
  refine iz_iadd hx hb dL_law_998 ?_
  refine iz_sldv hx hb hX hsb hk0 (i + 1) (by omega) (by omega) hLn hx1 dL_law_999 ?_
  refine lv_aload_n hx hb dL_law_1000 rfl (lv_at hl 4 rfl) ?_
  refine ctS (n := 3) hx hb hml hown hT ⟨c_L_rest l htr K z b wn bl cu Pn le pl Bn bo fr lo sl x1 h1 hLP (by omega) (b + 119) o9 (fun h9 => by (try dsimp only at h9); omega), ⟨_, _, _, Or.inr rfl⟩, mt_452, mt_0, by decide, by decide +kernel, by decide, by decide, (by show cc + 1 ≤ 649577; omega), (by show ss + 6 ≤ 7147374; omega)⟩ PX.blind mt_450 mt_451 (As := [.ref b, .int (iI x1), .ref (b + 119)]) (rest := []) rfl (PX.at hE (hk0.2 z hz) ⟨⟨hPa, P1 hP0 0 rfl⟩, hO⟩) hl.1 rfl (Nat.le_of_ble_eq_true rfl) dL_law_1001 (krH (c1 := cc + 1) (s1 := ss + 6) rfl rfl (fun r t1 H1 L1 hA1 hL1 hp1 => ?_))
  have hG1 : ∀ q, (fun q => (fun q => b + 98 ≤ q ∧ q < b + 98 + 6) q ∨ q = b + 119) q → s.heap.size ≤ q := by intro q h9; (try dsimp only at h9); omega
  have hk1 : KE s.heap H1 := hk0.af hA1 hG1
  refine W.drop (locs := []) (fun q hq => hG1 _ (hL1 q hq)) ?_
  have hGM : ∀ q : Nat, (fun q => (fun q => b + 98 ≤ q ∧ q < b + 98 + 6) q ∨ q = b + 119) q → q < b + 104 ∨ q = b + 119 := by intro q h9; (try dsimp only at h9); omega
  have hGF : ∀ q : Nat, q < b + 104 → (fun q => (fun q => b + 98 ≤ q ∧ q < b + 98 + 6) q ∨ q = b + 119) q → (fun q => b + 98 ≤ q ∧ q < b + 98 + 6) q := by intro q hq h9; rcases h9 with h9 | h9; exact h9; omega
  have hM1 : va_P (kD K) vcl (mdW K (b + 104) cd wn ar oc lc st tk wa pk muM prM co cn bs bl cu Pn le bcM bb ld) H1 := hA1.Pm hM (fun x hx9 h9 => by have h8 := mem_mdW hx9; have h7 := hGM x.1 h9; omega)
  refine lv_istore (lv' := [(5, .int (iI r)), (4, .int (iI (i : Int))), (0, .ref sb), (1, .ref b), (2, .ref (b + 104)), (3, .ref (b + 119))]) hx hb dL_law_1004 hl (by decide) rfl (fun ls hl => ?_)
  refine lv_aload_n hx hb dL_law_1006 rfl (lv_at hl 4 rfl) ?_
  refine lv_aload_n hx hb dL_law_1007 rfl (lv_at hl 2 rfl) ?_
  refine lv_iload hx hb dL_law_1008 (lv_at hl 1 rfl) ?_
  refine iz_iconst hx hb dL_law_1010 ?_
  refine iz_iadd hx hb dL_law_1011 ?_
  refine iz_sldv hx hb hX hsb hk1 (i + 1) (by omega) (by omega) hLn hx1 dL_law_1012 ?_
  refine ctV (n := 1) hx hb hml hown hT ⟨c_M_rest l K (b + 104) cd wn ar oc lc st tk wa pk muM prM co cn bs bl cu Pn le bcM bb ld x1 h1 hLP.1, ⟨_, _, _, Or.inl ⟨rfl, rfl⟩⟩, mt_647, mt_5, by decide, by decide +kernel, by decide, by decide, (by show cc + 1 + 0 ≤ 649577; omega), (by show ss + 6 + 0 ≤ 7147374; omega)⟩ PC.blind mt_644 mt_645 mt_646 (va_RVof (ci := 4) (q0 := 0) hK hM1 rfl rfl) (As := [.int (iI x1)]) (rest := []) rfl (PC.at ⟨hT, hK⟩ hM1) hl.1 rfl (Nat.le_of_ble_eq_true rfl) dL_law_1013 (krI (c1 := cc + 1) (s1 := ss + 6) rfl rfl (fun r6 t2 H2 L2 hA2 hL2 hp2 => ?_))
  have hG2 : ∀ q, (fun x => b + 104 ≤ x ∧ x < b + 104 + 15) q → s.heap.size ≤ q := by intro q h9; (try dsimp only at h9); omega
  have hk2 : KE s.heap H2 := hk1.af hA2 hG2
  refine W.drop (locs := []) (fun q hq => hG2 _ (hL2 q hq)) ?_
  refine lv_istore (lv' := [(6, .int (iI r6)), (5, .int (iI r)), (4, .int (iI (i : Int))), (0, .ref sb), (1, .ref b), (2, .ref (b + 104)), (3, .ref (b + 119))]) hx hb dL_law_1016 hl (by decide) rfl (fun ls hl => ?_)
  obtain ⟨Bm9, bb9, fm9, hBm, hFm, hp2⟩ := hp2
  rcases hp1 with ⟨rfl, r9, v, Hm, hq1, hq2, hq3, hOB⟩ | ⟨rfl, hpx, hO9⟩
  · obtain ⟨Bn9, bo9, fr9, lo9, sl9, hC, ⟨k9, ek9, e9⟩, hB9, hF9, hN⟩ := hq1
    rcases hp2 with ⟨hn1, hM2⟩ | ⟨hC2, ⟨km9, ekm, hr6⟩, hM2⟩
    · have eB := SwF_eq hF9 hFm
      have eB1 := eB.1
      omega
    · have eB := SwF_eq hF9 hFm
      have ekk : km9 = k9 := by omega
      have hKm : KQ b (fun _ => False) Hm H2 := hOB.KQ0 hA2
      have hO2 := hA2.out hOB.2.2
      have hKQ : KQ b (fun q => b + 98 ≤ q ∧ q < b + 98 + 6) H H2 := hA1.KQ1 (F := fun q => b + 98 ≤ q ∧ q < b + 98 + 6) hA2 hsz hGF
      have hN2 := kq_saw hKm (fun _ _ _ => id) hN
      have e6 : iI r6 = iI v := by rw [hr6, ← eB.2.1, ekk, ← e9]; exact hq2
      have hLS2 : LwI K b H2 := LwI.of hLW hLS1 ⟨hLP.1, Or.inr ⟨rfl, hB9, hF9⟩⟩ (xT_saw hXW hKQ hN2) hM2 hO2
      refine lv_aload_n hx hb dL_law_1018 rfl (lv_at hl 5 rfl) ?_
      refine ctV (n := 0) hx hb hml hown hT ⟨c_M_thrown l K (b + 104) 0 wn ar oc lc st tk wa pk muM prM co cn bs bl cu Pn le (Bm9 : Int) bb9 (ldF (bl + cu) fm9), ⟨_, _, _, Or.inl ⟨rfl, rfl⟩⟩, mt_531, mt_5, by decide, by decide +kernel, by decide, by decide, (by show cc + 1 + 0 ≤ 649577; omega), (by show ss + 6 + 0 ≤ 7147374; omega)⟩ PC.blind mt_528 mt_529 mt_530 (va_RVof (ci := 4) (q0 := 0) hK hM2 rfl rfl) (As := []) (rest := []) rfl (PC.at ⟨hT, hK⟩ hM2) hl.1 rfl (Nat.le_of_ble_eq_true rfl) dL_law_1019 (krI0 rfl rfl (fun _ h => h) (fun r7 hr7 => ?_))
      subst hr7
      refine lv_iload hx hb dL_law_1022 (lv_at hl 1 rfl) ?_
      refine iz_icmp_eq (tgt := 1029) hx hb ⟨by omega, by omega⟩ ⟨by omega, by omega⟩ dL_law_1024 (by decide) (fun h9 => ?_) (fun h9 => ?_)
      · refine lv_iload hx hb dL_law_1029 (lv_at hl 1 rfl) ?_
        refine iz_if_ne (tgt := 1046) hx hb ⟨by omega, by omega⟩ dL_law_1031 (by decide) (fun h9 => ?_) (fun h9 => ?_)
        · exact absurd rfl h9
        · refine lv_aload_n hx hb dL_law_1034 rfl (lv_at hl 6 rfl) ?_
          refine iz_iconst hx hb dL_law_1035 ?_
          refine iz_lald hx hb hK hO2 0 rfl 0 rfl (by omega) (by omega) dL_law_1036 ?_
          refine lv_iload hx hb dL_law_1037 (lv_at hl 0 rfl) ?_
          rw [e6]
          refine iz_i2l hx hb hq3 dL_law_1039 ?_
          refine iz_lcs (v := v) (tgt := 1046) hx hb dL_law_1040 dL_law_1041 (by decide) ?_
          refine lv_goto (tgt := 1049) hx hb dL_law_1046 (by decide) ?_
          exact W.widen (by omega) (by omega) (kk H2 ls hk2 hLS2 (lv_sub hl [2, 3, 4, 5, 6] rfl))
      · exact absurd rfl h9
  · obtain ⟨-, Bn9, bo9, fr9, lo9, sl9, hnC, hB9, hF9, hN⟩ := hpx
    have eB := SwF_eq hF9 hFm
    have eB1 := eB.1
    rcases hp2 with ⟨hn1, hM2⟩ | ⟨hC2, ⟨km9, ekm, hr6⟩, hM2⟩
    · have hsz1 : b + 119 < H1.size := by have h9 := hA1.2.2.1; omega
      have hKm : KQ b (fun _ => False) H1 H2 := hA2.KQ2 hsz1
      have hKQ : KQ b (fun q => b + 98 ≤ q ∧ q < b + 98 + 6) H H2 := hA1.KQ1 (F := fun q => b + 98 ≤ q ∧ q < b + 98 + 6) hA2 hsz hGF
      have hN2 := kq_saw hKm (fun _ _ _ => id) hN
      have hO2 := hA2.out hO9
      have hLS2 : LwI K b H2 := LwI.of hLW hLS1 ⟨hLP.1, Or.inr ⟨rfl, hB9, hF9⟩⟩ (xT_saw hXW hKQ hN2) hM2 hO2
      refine lv_aload_n hx hb dL_law_1018 rfl (lv_at hl 5 rfl) ?_
      refine ctV (n := 0) hx hb hml hown hT ⟨c_M_thrown l K (b + 104) 1 wn ar oc lc st tk wa pk muM prM co cn bs bl cu Pn le (Bm9 : Int) bb9 (ldF (bl + cu) fm9), ⟨_, _, _, Or.inl ⟨rfl, rfl⟩⟩, mt_531, mt_5, by decide, by decide +kernel, by decide, by decide, (by show cc + 1 + 0 ≤ 649577; omega), (by show ss + 6 + 0 ≤ 7147374; omega)⟩ PC.blind mt_528 mt_529 mt_530 (va_RVof (ci := 4) (q0 := 0) hK hM2 rfl rfl) (As := []) (rest := []) rfl (PC.at ⟨hT, hK⟩ hM2) hl.1 rfl (Nat.le_of_ble_eq_true rfl) dL_law_1019 (krI0 rfl rfl (fun _ h => h) (fun r7 hr7 => ?_))
      subst hr7
      refine lv_iload hx hb dL_law_1022 (lv_at hl 1 rfl) ?_
      refine iz_icmp_eq (tgt := 1029) hx hb ⟨by omega, by omega⟩ ⟨by omega, by omega⟩ dL_law_1024 (by decide) (fun h9 => ?_) (fun h9 => ?_)
      · refine lv_iload hx hb dL_law_1029 (lv_at hl 1 rfl) ?_
        refine iz_if_ne (tgt := 1046) hx hb ⟨by omega, by omega⟩ dL_law_1031 (by decide) (fun h9 => ?_) (fun h9 => ?_)
        · refine lv_goto (tgt := 1049) hx hb dL_law_1046 (by decide) ?_
          exact W.widen (by omega) (by omega) (kk H2 ls hk2 hLS2 (lv_sub hl [2, 3, 4, 5, 6] rfl))
        · exact absurd h9 (by decide)
      · exact absurd rfl h9
    · omega
