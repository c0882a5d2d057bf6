-- THE LAW: a step of each kind
theorem SwB_add {bl cu : Int} {Pn : Nat} {le : Nat → Int} {x1 : Int} (h : SwB bl cu Pn le) (h1 : 1 ≤ x1 ∧ x1 ≤ bl) (h2 : Pn < 10) : SwB bl cu (Pn + 1) (ut le Pn x1) := by
  refine ⟨h.1, h.2.1, by omega, fun i hi => ?_⟩
  by_cases e : i = Pn
  · rw [e, ut_s]
    exact h1
  · rw [ut_n _ _ e]
    exact h.2.2.2 i (by omega)
theorem SwB_set {bl cu : Int} {Pn k : Nat} {le : Nat → Int} {x1 : Int} (h : SwB bl cu Pn le) (h1 : 1 ≤ x1 ∧ x1 ≤ bl) : SwB bl cu Pn (ut le k x1) := by
  refine ⟨h.1, h.2.1, h.2.2.1, fun i hi => ?_⟩
  by_cases e : i = k
  · rw [e, ut_s]
    exact h1
  · rw [ut_n _ _ e]
    exact h.2.2.2 i hi
set_option maxHeartbeats 4000000 in
set_option maxRecDepth 100000 in
theorem lw_c0 {p : Program} {l : Launch} {e : Env} {s : State} {m : MethodId} {args : Array Value} {below : List Frame} {meth : Method} {c : Code} {H : Heap} {Q : State → Prop} {ls : Array Slot} {K : KG} {z b sb Ln i cc ss : Nat} {xs : Nat → Int32} (htr : l.stackTraces = false) (hx : p.tables.exec = Jvm.exec) (hb : c.code = code) (hml : c.maxLocals = 8) (hown : s.vm.findClass RL = some m.cls) (hE : EX K z s) (hz : z < s.heap.size) (hbs : s.heap.size = b) (hX : va_X sb Ln xs s s.heap) (hsb : sb < s.heap.size) (hLn : Ln ≤ 2048) (hi : i + 4 ≤ Ln) (hcc : cc + 30 ≤ 649577) (hss : ss + 300 ≤ 7147374) (hl : lv_has ls 8 [(4, .int (iI (i : Int))), (0, .ref sb), (1, .ref b), (2, .ref (b + 104)), (3, .ref (b + 119))]) (hk0 : KE s.heap H) (hLS : LwI K b H)
    (kk : ∀ (H1 : Heap) (ls1 : Array Slot), KE s.heap H1 → LwI K b H1 → lv_has ls1 8 [(4, .int (iI (i : Int))), (0, .ref sb), (1, .ref b), (2, .ref (b + 104)), (3, .ref (b + 119))] → W p l e rmLaw s m args below meth c H1 [] (cc + 30) (ss + 300) Q (F0 m 1049 ls1 [])) : W p l e rmLaw s m args below meth c H [] cc ss Q (F0 m 116 ls []) := by
  obtain ⟨hT, hK⟩ := hE.1
  obtain ⟨wn, ar, oc, lc, th, wa, Kn, mu, pr, bg, ch, tr, bn, bp, bc, sf, bl, cu, Pn, le, pl, Bn, bo, fr, lo, sl, cd, st, tk, pk, muM, prM, co, cn, bs, bcM, bb, ld, o9, hLW, hLS1, hLP, hXW, hM, hO⟩ := hLS
  obtain ⟨hP0, hPw, hPs, hPa⟩ := id hXW
  have hsz : b + 119 < H.size := (hO 0 _ rfl).lt
  have hn : wn ≤ 12 := hLW.1.1
  obtain ⟨x1, hx1⟩ : ∃ x1, x1 = (xs (i + 1)).toInt := ⟨_, rfl⟩
  have h1 : r32 x1 := by rw [hx1]; exact r32_of _
  obtain ⟨x2, hx2⟩ : ∃ x2, x2 = (xs (i + 2)).toInt := ⟨_, rfl⟩
  have h2 : r32 x2 := by rw [hx2]; exact r32_of _
  obtain ⟨j, hj, hjw⟩ : ∃ j : Nat, j < 12 ∧ (wn < 12 → j = wn) := by
    by_cases h9 : wn < 12
    · exact ⟨wn, h9, fun _ => rfl⟩
    · exact ⟨0, by omega, fun h8 => absurd h8 h9⟩
  refine lv_aload_n hx hb dL_law_116 rfl (lv_at hl 2 rfl) ?_
  refine lv_aload_n hx hb dL_law_117 rfl (lv_at hl 1 rfl) ?_
  refine lv_iload hx hb dL_law_118 (lv_at hl 0 rfl) ?_
  refine iz_iconst hx hb dL_law_120 ?_
  refine iz_iadd hx hb dL_law_121 ?_
  refine iz_sldv hx hb hX hsb hk0 (i + 1) (by omega) (by omega) hLn hx1 dL_law_122 ?_
  refine lv_aload_n hx hb dL_law_123 rfl (lv_at hl 1 rfl) ?_
  refine lv_iload hx hb dL_law_124 (lv_at hl 0 rfl) ?_
  refine iz_iconst hx hb dL_law_126 ?_
  refine iz_iadd hx hb dL_law_127 ?_
  refine iz_sldv hx hb hX hsb hk0 (i + 2) (by omega) (by omega) hLn hx2 dL_law_128 ?_
  refine lv_aload_n hx hb dL_law_129 rfl (lv_at hl 4 rfl) ?_
  refine ctS (n := 4) hx hb hml hown hT ⟨c_L_wall l htr K z b wn j (ar j) (oc j) (lc j) x1 x2 h1 h2 hn hjw (b + 119) o9 (fun h9 => by (try dsimp only at h9); omega), ⟨_, _, _, Or.inr rfl⟩, mt_303, mt_0, by decide, by decide +kernel, by decide, by decide, (by show cc + 3 ≤ 649577; omega), (by show ss + 18 ≤ 7147374; omega)⟩ PX.blind mt_301 mt_302 (As := [.ref b, .int (iI x1), .int (iI x2), .ref (b + 119)]) (rest := []) rfl (PX.at hE (hk0.2 z hz) ⟨⟨va_P_two (P1 hP0 0 rfl) (P1 (hPw j hj) 0 rfl), P1 hP0 1 rfl⟩, hO⟩) hl.1 rfl (Nat.le_of_ble_eq_true rfl) dL_law_130 (krH (c1 := cc + 3) (s1 := ss + 18) rfl rfl (fun r t1 H1 L1 hA1 hL1 hp1 => ?_))
  have hG1 : ∀ q, (fun q => (fun q => q = b ∨ q = b + 2 + 2 * j) q ∨ q = b + 119) q → s.heap.size ≤ q := by intro q h9; (try dsimp only at h9); omega
  have hk1 : KE s.heap H1 := hk0.af hA1 hG1
  refine W.drop (locs := []) (fun q hq => hG1 _ (hL1 q hq)) ?_
  have hGM : ∀ q : Nat, (fun q => (fun q => q = b ∨ q = b + 2 + 2 * j) q ∨ q = b + 119) q → q < b + 104 ∨ q = b + 119 := by intro q h9; (try dsimp only at h9); omega
  have hGF : ∀ q : Nat, q < b + 104 → (fun q => (fun q => q = b ∨ q = b + 2 + 2 * j) q ∨ q = b + 119) q → (fun q => q = b ∨ q = b + 2 + 2 * j) q := by intro q hq h9; rcases h9 with h9 | h9; exact h9; omega
  have hM1 : va_P (kD K) vcl (mdW K (b + 104) cd wn ar oc lc st tk wa pk muM prM co cn bs bl cu Pn le bcM bb ld) H1 := hA1.Pm hM (fun x hx9 h9 => by have h8 := mem_mdW hx9; have h7 := hGM x.1 h9; omega)
  refine lv_istore (lv' := [(5, .int (iI r)), (4, .int (iI (i : Int))), (0, .ref sb), (1, .ref b), (2, .ref (b + 104)), (3, .ref (b + 119))]) hx hb dL_law_133 hl (by decide) rfl (fun ls hl => ?_)
  refine lv_aload_n hx hb dL_law_135 rfl (lv_at hl 4 rfl) ?_
  refine lv_aload_n hx hb dL_law_136 rfl (lv_at hl 2 rfl) ?_
  refine lv_iload hx hb dL_law_137 (lv_at hl 1 rfl) ?_
  refine iz_iconst hx hb dL_law_139 ?_
  refine iz_iadd hx hb dL_law_140 ?_
  refine iz_sldv hx hb hX hsb hk1 (i + 1) (by omega) (by omega) hLn hx1 dL_law_141 ?_
  refine lv_aload_n hx hb dL_law_142 rfl (lv_at hl 2 rfl) ?_
  refine lv_iload hx hb dL_law_143 (lv_at hl 1 rfl) ?_
  refine iz_iconst hx hb dL_law_145 ?_
  refine iz_iadd hx hb dL_law_146 ?_
  refine iz_sldv hx hb hX hsb hk1 (i + 2) (by omega) (by omega) hLn hx2 dL_law_147 ?_
  refine ctV (n := 2) hx hb hml hown hT ⟨c_M_wall l K (b + 104) cd wn ar oc lc st tk wa pk muM prM co cn bs bl cu Pn le bcM bb ld x1 x2 h1 h2 hn, ⟨_, _, _, Or.inl ⟨rfl, rfl⟩⟩, mt_535, mt_5, by decide, by decide +kernel, by decide, by decide, (by show cc + 3 + 0 ≤ 649577; omega), (by show ss + 18 + 0 ≤ 7147374; omega)⟩ PC.blind mt_532 mt_533 mt_534 (va_RVof (ci := 4) (q0 := 0) hK hM1 rfl rfl) (As := [.int (iI x1), .int (iI x2)]) (rest := []) rfl (PC.at ⟨hT, hK⟩ hM1) hl.1 rfl (Nat.le_of_ble_eq_true rfl) dL_law_148 (krI (c1 := cc + 3) (s1 := ss + 18) rfl rfl (fun r6 t2 H2 L2 hA2 hL2 hp2 => ?_))
  have hG2 : ∀ q, (fun x => b + 104 ≤ x ∧ x < b + 104 + 15) q → s.heap.size ≤ q := by intro q h9; (try dsimp only at h9); omega
  have hk2 : KE s.heap H2 := hk1.af hA2 hG2
  refine W.drop (locs := []) (fun q hq => hG2 _ (hL2 q hq)) ?_
  refine lv_istore (lv' := [(6, .int (iI r6)), (5, .int (iI r)), (4, .int (iI (i : Int))), (0, .ref sb), (1, .ref b), (2, .ref (b + 104)), (3, .ref (b + 119))]) hx hb dL_law_151 hl (by decide) rfl (fun ls hl => ?_)
  rcases hp1 with ⟨rfl, r9, v, Hm, hq1, hq2, hq3, hOB⟩ | ⟨rfl, hke, hpx⟩ | ⟨rfl, hke, hpx⟩
  · obtain ⟨⟨hC, hD⟩, e9, hN⟩ := hq1
    rcases hp2 with ⟨hn1, hM2⟩ | ⟨hC2, hn2, hM2⟩ | ⟨hC2, hD2, hr6, hM2⟩
    · exact absurd hC hn1
    · exact absurd hD hn2
    · have hKm : KQ b (fun _ => False) Hm H2 := hOB.KQ0 hA2
      have hO2 := hA2.out hOB.2.2
      have hKQ : KQ b (fun q => q = b ∨ q = b + 2 + 2 * j) H H2 := hA1.KQ1 (F := fun q => q = b ∨ q = b + 2 + 2 * j) hA2 hsz hGF
      have hN2 := hKm.c2 hN ⟨⟨by omega, by omega⟩, id⟩ ⟨⟨by omega, by omega⟩, id⟩
      have e6 : iI r6 = iI v := by rw [hr6, ← e9]; exact hq2
      have hLS2 : LwI K b H2 := LwI.of (hLW.wall hD hC.1 hC.2) hLS1 hLP (xT_wall hXW hKQ (hjw hD) hD hN2) hM2 hO2
      refine lv_aload_n hx hb dL_law_153 rfl (lv_at hl 5 rfl) ?_
      refine ctV (n := 0) hx hb hml hown hT ⟨c_M_thrown l K (b + 104) 0 (wn + 1) (ut ar wn (x1 * x2)) oc lc st tk wa pk muM prM co cn bs bl cu Pn le bcM bb ld, ⟨_, _, _, Or.inl ⟨rfl, rfl⟩⟩, mt_531, mt_5, by decide, by decide +kernel, by decide, by decide, (by show cc + 3 + 0 ≤ 649577; omega), (by show ss + 18 + 0 ≤ 7147374; omega)⟩ PC.blind mt_528 mt_529 mt_530 (va_RVof (ci := 4) (q0 := 0) hK hM2 rfl rfl) (As := []) (rest := []) rfl (PC.at ⟨hT, hK⟩ hM2) hl.1 rfl (Nat.le_of_ble_eq_true rfl) dL_law_154 (krI0 rfl rfl (fun _ h => h) (fun r7 hr7 => ?_))
      subst hr7
      refine lv_iload hx hb dL_law_157 (lv_at hl 1 rfl) ?_
      refine iz_icmp_eq (tgt := 164) hx hb ⟨by omega, by omega⟩ ⟨by omega, by omega⟩ dL_law_159 (by decide) (fun h9 => ?_) (fun h9 => ?_)
      · refine lv_iload hx hb dL_law_164 (lv_at hl 1 rfl) ?_
        refine iz_if_ne (tgt := 181) hx hb ⟨by omega, by omega⟩ dL_law_166 (by decide) (fun h9 => ?_) (fun h9 => ?_)
        · exact absurd rfl h9
        · refine lv_aload_n hx hb dL_law_169 rfl (lv_at hl 6 rfl) ?_
          refine iz_iconst hx hb dL_law_170 ?_
          refine iz_lald hx hb hK hO2 0 rfl 0 rfl (by omega) (by omega) dL_law_171 ?_
          refine lv_iload hx hb dL_law_172 (lv_at hl 0 rfl) ?_
          rw [e6]
          refine iz_i2l hx hb hq3 dL_law_174 ?_
          refine iz_lcs (v := v) (tgt := 181) hx hb dL_law_175 dL_law_176 (by decide) ?_
          refine lv_goto (tgt := 1049) hx hb dL_law_181 (by decide) ?_
          exact W.widen (by omega) (by omega) (kk H2 ls hk2 hLS2 (lv_sub hl [2, 3, 4, 5, 6] rfl))
      · exact absurd rfl h9
  · have hnC := (Or.resolve_right hpx (fun h9 => absurd h9.1 (by decide))).2
    rcases hp2 with ⟨hn1, hM2⟩ | ⟨hC2, hn2, hM2⟩ | ⟨hC2, hD2, hr6, hM2⟩
    · have hO2 := hA2.out (hke.P hO)
      have hLS2 : LwI K b H2 := LwI.of hLW hLS1 hLP (xT_keep hXW (hke.KQ0 hA2 hsz)) hM2 hO2
      refine lv_aload_n hx hb dL_law_153 rfl (lv_at hl 5 rfl) ?_
      refine ctV (n := 0) hx hb hml hown hT ⟨c_M_thrown l K (b + 104) 1 wn ar oc lc st tk wa pk muM prM co cn bs bl cu Pn le bcM bb ld, ⟨_, _, _, Or.inl ⟨rfl, rfl⟩⟩, mt_531, mt_5, by decide, by decide +kernel, by decide, by decide, (by show cc + 3 + 0 ≤ 649577; omega), (by show ss + 18 + 0 ≤ 7147374; omega)⟩ PC.blind mt_528 mt_529 mt_530 (va_RVof (ci := 4) (q0 := 0) hK hM2 rfl rfl) (As := []) (rest := []) rfl (PC.at ⟨hT, hK⟩ hM2) hl.1 rfl (Nat.le_of_ble_eq_true rfl) dL_law_154 (krI0 rfl rfl (fun _ h => h) (fun r7 hr7 => ?_))
      subst hr7
      refine lv_iload hx hb dL_law_157 (lv_at hl 1 rfl) ?_
      refine iz_icmp_eq (tgt := 164) hx hb ⟨by omega, by omega⟩ ⟨by omega, by omega⟩ dL_law_159 (by decide) (fun h9 => ?_) (fun h9 => ?_)
      · refine lv_iload hx hb dL_law_164 (lv_at hl 1 rfl) ?_
        refine iz_if_ne (tgt := 181) hx hb ⟨by omega, by omega⟩ dL_law_166 (by decide) (fun h9 => ?_) (fun h9 => ?_)
        · refine lv_goto (tgt := 1049) hx hb dL_law_181 (by decide) ?_
          exact W.widen (by omega) (by omega) (kk H2 ls hk2 hLS2 (lv_sub hl [2, 3, 4, 5, 6] rfl))
        · exact absurd h9 (by decide)
      · exact absurd rfl h9
    · exact absurd hC2 hnC
    · exact absurd hC2 hnC
  · obtain ⟨-, hCx, hnD⟩ := Or.resolve_left hpx (fun h9 => absurd h9.1 (by decide))
    rcases hp2 with ⟨hn1, hM2⟩ | ⟨hC2, hn2, hM2⟩ | ⟨hC2, hD2, hr6, hM2⟩
    · exact absurd hCx hn1
    · have hO2 := hA2.out (hke.P hO)
      have hLS2 : LwI K b H2 := LwI.of hLW hLS1 hLP (xT_keep hXW (hke.KQ0 hA2 hsz)) hM2 hO2
      refine lv_aload_n hx hb dL_law_153 rfl (lv_at hl 5 rfl) ?_
      refine ctV (n := 0) hx hb hml hown hT ⟨c_M_thrown l K (b + 104) 2 wn ar oc lc st tk wa pk muM prM co cn bs bl cu Pn le bcM bb ld, ⟨_, _, _, Or.inl ⟨rfl, rfl⟩⟩, mt_531, mt_5, by decide, by decide +kernel, by decide, by decide, (by show cc + 3 + 0 ≤ 649577; omega), (by show ss + 18 + 0 ≤ 7147374; omega)⟩ PC.blind mt_528 mt_529 mt_530 (va_RVof (ci := 4) (q0 := 0) hK hM2 rfl rfl) (As := []) (rest := []) rfl (PC.at ⟨hT, hK⟩ hM2) hl.1 rfl (Nat.le_of_ble_eq_true rfl) dL_law_154 (krI0 rfl rfl (fun _ h => h) (fun r7 hr7 => ?_))
      subst hr7
      refine lv_iload hx hb dL_law_157 (lv_at hl 1 rfl) ?_
      refine iz_icmp_eq (tgt := 164) hx hb ⟨by omega, by omega⟩ ⟨by omega, by omega⟩ dL_law_159 (by decide) (fun h9 => ?_) (fun h9 => ?_)
      · refine lv_iload hx hb dL_law_164 (lv_at hl 1 rfl) ?_
        refine iz_if_ne (tgt := 181) hx hb ⟨by omega, by omega⟩ dL_law_166 (by decide) (fun h9 => ?_) (fun h9 => ?_)
        · refine lv_goto (tgt := 1049) hx hb dL_law_181 (by decide) ?_
          exact W.widen (by omega) (by omega) (kk H2 ls hk2 hLS2 (lv_sub hl [2, 3, 4, 5, 6] rfl))
        · exact absurd h9 (by decide)
      · exact absurd rfl h9
    · exact absurd hD2 hnD
set_option maxHeartbeats 4000000 in
set_option maxRecDepth 100000 in
theorem lw_c1 {p : Program} {l : Launch} {e : Env} {s : State} {m : MethodId} {args : Array Value} {below : List Frame} {meth : Method} {c : Code} {H : Heap} {Q : State → Prop} {ls : Array Slot} {K : KG} {z b sb Ln i cc ss : Nat} {xs : Nat → Int32} (htr : l.stackTraces = false) (hx : p.tables.exec = Jvm.exec) (hb : c.code = code) (hml : c.maxLocals = 8) (hown : s.vm.findClass RL = some m.cls) (hE : EX K z s) (hz : z < s.heap.size) (hbs : s.heap.size = b) (hX : va_X sb Ln xs s s.heap) (hsb : sb < s.heap.size) (hLn : Ln ≤ 2048) (hi : i + 4 ≤ Ln) (hcc : cc + 30 ≤ 649577) (hss : ss + 300 ≤ 7147374) (hl : lv_has ls 8 [(4, .int (iI (i : Int))), (0, .ref sb), (1, .ref b), (2, .ref (b + 104)), (3, .ref (b + 119))]) (hk0 : KE s.heap H) (hLS : LwI K b H)
    (kk : ∀ (H1 : Heap) (ls1 : Array Slot), KE s.heap H1 → LwI K b H1 → lv_has ls1 8 [(4, .int (iI (i : Int))), (0, .ref sb), (1, .ref b), (2, .ref (b + 104)), (3, .ref (b + 119))] → W p l e rmLaw s m args below meth c H1 [] (cc + 30) (ss + 300) Q (F0 m 1049 ls1 [])) : W p l e rmLaw s m args below meth c H [] cc ss Q (F0 m 184 ls []) := by
  obtain ⟨hT, hK⟩ := hE.1
  obtain ⟨wn, ar, oc, lc, th, wa, Kn, mu, pr, bg, ch, tr, bn, bp, bc, sf, bl, cu, Pn, le, pl, Bn, bo, fr, lo, sl, cd, st, tk, pk, muM, prM, co, cn, bs, bcM, bb, ld, o9, hLW, hLS1, hLP, hXW, hM, hO⟩ := hLS
  obtain ⟨hP0, hPw, hPs, hPa⟩ := id hXW
  have hsz : b + 119 < H.size := (hO 0 _ rfl).lt
  have hn : wn ≤ 12 := hLW.1.1
  obtain ⟨x1, hx1⟩ : ∃ x1, x1 = (xs (i + 1)).toInt := ⟨_, rfl⟩
  have h1 : r32 x1 := by rw [hx1]; exact r32_of _
  obtain ⟨x2, hx2⟩ : ∃ x2, x2 = (xs (i + 2)).toInt := ⟨_, rfl⟩
  have h2 : r32 x2 := by rw [hx2]; exact r32_of _
  obtain ⟨x3, hx3⟩ : ∃ x3, x3 = (xs (i + 3)).toInt := ⟨_, rfl⟩
  have h3 : r32 x3 := by rw [hx3]; exact r32_of _
  obtain ⟨j, hj, hjw⟩ := pickN 12 (by omega) x1 (wn : Int) (by omega)
  have hwj := hLW.1.2.1 j hj
  refine lv_aload_n hx hb dL_law_184 rfl (lv_at hl 2 rfl) ?_
  refine lv_aload_n hx hb dL_law_185 rfl (lv_at hl 1 rfl) ?_
  refine lv_iload hx hb dL_law_186 (lv_at hl 0 rfl) ?_
  refine iz_iconst hx hb dL_law_188 ?_
  refine iz_iadd hx hb dL_law_189 ?_
  refine iz_sldv hx hb hX hsb hk0 (i + 1) (by omega) (by omega) hLn hx1 dL_law_190 ?_
  refine lv_aload_n hx hb dL_law_191 rfl (lv_at hl 1 rfl) ?_
  refine lv_iload hx hb dL_law_192 (lv_at hl 0 rfl) ?_
  refine iz_iconst hx hb dL_law_194 ?_
  refine iz_iadd hx hb dL_law_195 ?_
  refine iz_sldv hx hb hX hsb hk0 (i + 2) (by omega) (by omega) hLn hx2 dL_law_196 ?_
  refine lv_aload_n hx hb dL_law_197 rfl (lv_at hl 1 rfl) ?_
  refine lv_iload hx hb dL_law_198 (lv_at hl 0 rfl) ?_
  refine iz_iconst hx hb dL_law_200 ?_
  refine iz_iadd hx hb dL_law_201 ?_
  refine iz_sldv hx hb hX hsb hk0 (i + 3) (by omega) (by omega) hLn hx3 dL_law_202 ?_
  refine lv_aload_n hx hb dL_law_203 rfl (lv_at hl 4 rfl) ?_
  refine ctS (n := 5) hx hb hml hown hT ⟨c_L_opening l htr K z b wn j (ar j) (oc j) (lc j) x1 x2 x3 h1 h2 h3 hn hj hjw ⟨by omega, by omega⟩ ⟨by omega, by omega⟩ (b + 119) o9 (fun h9 => by (try dsimp only at h9); omega), ⟨_, _, _, Or.inr rfl⟩, mt_335, mt_0, by decide, by decide +kernel, by decide, by decide, (by show cc + 5 ≤ 649577; omega), (by show ss + 30 ≤ 7147374; omega)⟩ PX.blind mt_333 mt_334 (As := [.ref b, .int (iI x1), .int (iI x2), .int (iI x3), .ref (b + 119)]) (rest := []) rfl (PX.at hE (hk0.2 z hz) ⟨⟨P1 (hPw j hj) 0 rfl, hP0.sub [0, 1] rfl⟩, hO⟩) hl.1 rfl (Nat.le_of_ble_eq_true rfl) dL_law_204 (krH (c1 := cc + 5) (s1 := ss + 30) rfl rfl (fun r t1 H1 L1 hA1 hL1 hp1 => ?_))
  have hG1 : ∀ q, (fun q => (fun q => q = b + 2 + 2 * j) q ∨ q = b + 119) q → s.heap.size ≤ q := by intro q h9; (try dsimp only at h9); omega
  have hk1 : KE s.heap H1 := hk0.af hA1 hG1
  refine W.drop (locs := []) (fun q hq => hG1 _ (hL1 q hq)) ?_
  have hGM : ∀ q : Nat, (fun q => (fun q => q = b + 2 + 2 * j) q ∨ q = b + 119) q → q < b + 104 ∨ q = b + 119 := by intro q h9; (try dsimp only at h9); omega
  have hGF : ∀ q : Nat, q < b + 104 → (fun q => (fun q => q = b + 2 + 2 * j) q ∨ q = b + 119) q → (fun q => q = b + 2 + 2 * j) q := by intro q hq h9; rcases h9 with h9 | h9; exact h9; omega
  have hM1 : va_P (kD K) vcl (mdW K (b + 104) cd wn ar oc lc st tk wa pk muM prM co cn bs bl cu Pn le bcM bb ld) H1 := hA1.Pm hM (fun x hx9 h9 => by have h8 := mem_mdW hx9; have h7 := hGM x.1 h9; omega)
  refine lv_istore (lv' := [(5, .int (iI r)), (4, .int (iI (i : Int))), (0, .ref sb), (1, .ref b), (2, .ref (b + 104)), (3, .ref (b + 119))]) hx hb dL_law_207 hl (by decide) rfl (fun ls hl => ?_)
  refine lv_aload_n hx hb dL_law_209 rfl (lv_at hl 4 rfl) ?_
  refine lv_aload_n hx hb dL_law_210 rfl (lv_at hl 2 rfl) ?_
  refine lv_iload hx hb dL_law_211 (lv_at hl 1 rfl) ?_
  refine iz_iconst hx hb dL_law_213 ?_
  refine iz_iadd hx hb dL_law_214 ?_
  refine iz_sldv hx hb hX hsb hk1 (i + 1) (by omega) (by omega) hLn hx1 dL_law_215 ?_
  refine lv_aload_n hx hb dL_law_216 rfl (lv_at hl 2 rfl) ?_
  refine lv_iload hx hb dL_law_217 (lv_at hl 1 rfl) ?_
  refine iz_iconst hx hb dL_law_219 ?_
  refine iz_iadd hx hb dL_law_220 ?_
  refine iz_sldv hx hb hX hsb hk1 (i + 2) (by omega) (by omega) hLn hx2 dL_law_221 ?_
  refine lv_aload_n hx hb dL_law_222 rfl (lv_at hl 2 rfl) ?_
  refine lv_iload hx hb dL_law_223 (lv_at hl 1 rfl) ?_
  refine iz_iconst hx hb dL_law_225 ?_
  refine iz_iadd hx hb dL_law_226 ?_
  refine iz_sldv hx hb hX hsb hk1 (i + 3) (by omega) (by omega) hLn hx3 dL_law_227 ?_
  refine ctV (n := 3) hx hb hml hown hT ⟨c_M_opening l K (b + 104) cd wn ar oc lc st tk wa pk muM prM co cn bs bl cu Pn le bcM bb ld j x1 x2 x3 h1 h2 h3 hn hjw (fun i9 h9 => (hLW.1.2.1 i9 h9).1) (fun i9 h9 => (hLW.1.2.1 i9 h9).2.1) (fun i9 h9 => (hLW.1.2.1 i9 h9).2.2), ⟨_, _, _, Or.inl ⟨rfl, rfl⟩⟩, mt_543, mt_5, by decide, by decide +kernel, by decide, by decide, (by show cc + 5 + 0 ≤ 649577; omega), (by show ss + 30 + 0 ≤ 7147374; omega)⟩ PC.blind mt_540 mt_541 mt_542 (va_RVof (ci := 4) (q0 := 0) hK hM1 rfl rfl) (As := [.int (iI x1), .int (iI x2), .int (iI x3)]) (rest := []) rfl (PC.at ⟨hT, hK⟩ hM1) hl.1 rfl (Nat.le_of_ble_eq_true rfl) dL_law_228 (krI (c1 := cc + 5) (s1 := ss + 30) rfl rfl (fun r6 t2 H2 L2 hA2 hL2 hp2 => ?_))
  have hG2 : ∀ q, (fun x => b + 104 ≤ x ∧ x < b + 104 + 15) q → s.heap.size ≤ q := by intro q h9; (try dsimp only at h9); omega
  have hk2 : KE s.heap H2 := hk1.af hA2 hG2
  refine W.drop (locs := []) (fun q hq => hG2 _ (hL2 q hq)) ?_
  refine lv_istore (lv' := [(6, .int (iI r6)), (5, .int (iI r)), (4, .int (iI (i : Int))), (0, .ref sb), (1, .ref b), (2, .ref (b + 104)), (3, .ref (b + 119))]) hx hb dL_law_231 hl (by decide) rfl (fun ls hl => ?_)
  rcases hp1 with ⟨rfl, r9, v, Hm, hq1, hq2, hq3, hOB⟩ | ⟨rfl, hke, hpx⟩ | ⟨rfl, hke, hpx⟩
  · obtain ⟨⟨hC, hD⟩, e9, hN⟩ := hq1
    rcases hp2 with ⟨hn1, hM2⟩ | ⟨hC2, hn2, hM2⟩ | ⟨hC2, hD2, hr6, hM2⟩
    · exact absurd hC hn1
    · exact absurd hD hn2
    · have hKm : KQ b (fun _ => False) Hm H2 := hOB.KQ0 hA2
      have hO2 := hA2.out hOB.2.2
      have hKQ : KQ b (fun q => q = b + 2 + 2 * j) H H2 := hA1.KQ1 (F := fun q => q = b + 2 + 2 * j) hA2 hsz hGF
      have hN2 := hKm.c1 hN (by omega) (by omega) id
      have e6 : iI r6 = iI v := by rw [hr6, ← e9]; exact hq2
      have hLS2 : LwI K b H2 := LwI.of (hLW.opening hC.2.1.1 hC.2.2.1 hD.1 hD.2) hLS1 hLP (xT_open hXW hj hKQ hN2) hM2 hO2
      refine lv_aload_n hx hb dL_law_233 rfl (lv_at hl 5 rfl) ?_
      refine ctV (n := 0) hx hb hml hown hT ⟨c_M_thrown l K (b + 104) 0 wn (ut ar j (ar j - x2 * x3)) (ut oc j (oc j + 1)) lc st tk wa pk muM prM co cn bs bl cu Pn le bcM bb ld, ⟨_, _, _, Or.inl ⟨rfl, rfl⟩⟩, mt_531, mt_5, by decide, by decide +kernel, by decide, by decide, (by show cc + 5 + 0 ≤ 649577; omega), (by show ss + 30 + 0 ≤ 7147374; omega)⟩ PC.blind mt_528 mt_529 mt_530 (va_RVof (ci := 4) (q0 := 0) hK hM2 rfl rfl) (As := []) (rest := []) rfl (PC.at ⟨hT, hK⟩ hM2) hl.1 rfl (Nat.le_of_ble_eq_true rfl) dL_law_234 (krI0 rfl rfl (fun _ h => h) (fun r7 hr7 => ?_))
      subst hr7
      refine lv_iload hx hb dL_law_237 (lv_at hl 1 rfl) ?_
      refine iz_icmp_eq (tgt := 244) hx hb ⟨by omega, by omega⟩ ⟨by omega, by omega⟩ dL_law_239 (by decide) (fun h9 => ?_) (fun h9 => ?_)
      · refine lv_iload hx hb dL_law_244 (lv_at hl 1 rfl) ?_
        refine iz_if_ne (tgt := 261) hx hb ⟨by omega, by omega⟩ dL_law_246 (by decide) (fun h9 => ?_) (fun h9 => ?_)
        · exact absurd rfl h9
        · refine lv_aload_n hx hb dL_law_249 rfl (lv_at hl 6 rfl) ?_
          refine iz_iconst hx hb dL_law_250 ?_
          refine iz_lald hx hb hK hO2 0 rfl 0 rfl (by omega) (by omega) dL_law_251 ?_
          refine lv_iload hx hb dL_law_252 (lv_at hl 0 rfl) ?_
          rw [e6]
          refine iz_i2l hx hb hq3 dL_law_254 ?_
          refine iz_lcs (v := v) (tgt := 261) hx hb dL_law_255 dL_law_256 (by decide) ?_
          refine lv_goto (tgt := 1049) hx hb dL_law_261 (by decide) ?_
          exact W.widen (by omega) (by omega) (kk H2 ls hk2 hLS2 (lv_sub hl [2, 3, 4, 5, 6] rfl))
      · exact absurd rfl h9
  · have hnC := (Or.resolve_right hpx (fun h9 => absurd h9.1 (by decide))).2
    rcases hp2 with ⟨hn1, hM2⟩ | ⟨hC2, hn2, hM2⟩ | ⟨hC2, hD2, hr6, hM2⟩
    · have hO2 := hA2.out (hke.P hO)
      have hLS2 : LwI K b H2 := LwI.of hLW hLS1 hLP (xT_keep hXW (hke.KQ0 hA2 hsz)) hM2 hO2
      refine lv_aload_n hx hb dL_law_233 rfl (lv_at hl 5 rfl) ?_
      refine ctV (n := 0) hx hb hml hown hT ⟨c_M_thrown l K (b + 104) 1 wn ar oc lc st tk wa pk muM prM co cn bs bl cu Pn le bcM bb ld, ⟨_, _, _, Or.inl ⟨rfl, rfl⟩⟩, mt_531, mt_5, by decide, by decide +kernel, by decide, by decide, (by show cc + 5 + 0 ≤ 649577; omega), (by show ss + 30 + 0 ≤ 7147374; omega)⟩ PC.blind mt_528 mt_529 mt_530 (va_RVof (ci := 4) (q0 := 0) hK hM2 rfl rfl) (As := []) (rest := []) rfl (PC.at ⟨hT, hK⟩ hM2) hl.1 rfl (Nat.le_of_ble_eq_true rfl) dL_law_234 (krI0 rfl rfl (fun _ h => h) (fun r7 hr7 => ?_))
      subst hr7
      refine lv_iload hx hb dL_law_237 (lv_at hl 1 rfl) ?_
      refine iz_icmp_eq (tgt := 244) hx hb ⟨by omega, by omega⟩ ⟨by omega, by omega⟩ dL_law_239 (by decide) (fun h9 => ?_) (fun h9 => ?_)
      · refine lv_iload hx hb dL_law_244 (lv_at hl 1 rfl) ?_
        refine iz_if_ne (tgt := 261) hx hb ⟨by omega, by omega⟩ dL_law_246 (by decide) (fun h9 => ?_) (fun h9 => ?_)
        · refine lv_goto (tgt := 1049) hx hb dL_law_261 (by decide) ?_
          exact W.widen (by omega) (by omega) (kk H2 ls hk2 hLS2 (lv_sub hl [2, 3, 4, 5, 6] rfl))
        · exact absurd h9 (by decide)
      · exact absurd rfl h9
    · exact absurd hC2 hnC
    · exact absurd hC2 hnC
  · obtain ⟨-, hCx, hnD⟩ := Or.resolve_left hpx (fun h9 => absurd h9.1 (by decide))
    rcases hp2 with ⟨hn1, hM2⟩ | ⟨hC2, hn2, hM2⟩ | ⟨hC2, hD2, hr6, hM2⟩
    · exact absurd hCx hn1
    · have hO2 := hA2.out (hke.P hO)
      have hLS2 : LwI K b H2 := LwI.of hLW hLS1 hLP (xT_keep hXW (hke.KQ0 hA2 hsz)) hM2 hO2
      refine lv_aload_n hx hb dL_law_233 rfl (lv_at hl 5 rfl) ?_
      refine ctV (n := 0) hx hb hml hown hT ⟨c_M_thrown l K (b + 104) 2 wn ar oc lc st tk wa pk muM prM co cn bs bl cu Pn le bcM bb ld, ⟨_, _, _, Or.inl ⟨rfl, rfl⟩⟩, mt_531, mt_5, by decide, by decide +kernel, by decide, by decide, (by show cc + 5 + 0 ≤ 649577; omega), (by show ss + 30 + 0 ≤ 7147374; omega)⟩ PC.blind mt_528 mt_529 mt_530 (va_RVof (ci := 4) (q0 := 0) hK hM2 rfl rfl) (As := []) (rest := []) rfl (PC.at ⟨hT, hK⟩ hM2) hl.1 rfl (Nat.le_of_ble_eq_true rfl) dL_law_234 (krI0 rfl rfl (fun _ h => h) (fun r7 hr7 => ?_))
      subst hr7
      refine lv_iload hx hb dL_law_237 (lv_at hl 1 rfl) ?_
      refine iz_icmp_eq (tgt := 244) hx hb ⟨by omega, by omega⟩ ⟨by omega, by omega⟩ dL_law_239 (by decide) (fun h9 => ?_) (fun h9 => ?_)
      · refine lv_iload hx hb dL_law_244 (lv_at hl 1 rfl) ?_
        refine iz_if_ne (tgt := 261) hx hb ⟨by omega, by omega⟩ dL_law_246 (by decide) (fun h9 => ?_) (fun h9 => ?_)
        · refine lv_goto (tgt := 1049) hx hb dL_law_261 (by decide) ?_
          exact W.widen (by omega) (by omega) (kk H2 ls hk2 hLS2 (lv_sub hl [2, 3, 4, 5, 6] rfl))
        · exact absurd h9 (by decide)
      · exact absurd rfl h9
    · exact absurd hD2 hnD
set_option maxHeartbeats 4000000 in
set_option maxRecDepth 100000 in
theorem lw_c2 {p : Program} {l : Launch} {e : Env} {s : State} {m : MethodId} {args : Array Value} {below : List Frame} {meth : Method} {c : Code} {H : Heap} {Q : State → Prop} {ls : Array Slot} {K : KG} {z b sb Ln i cc ss : Nat} {xs : Nat → Int32} (htr : l.stackTraces = false) (hx : p.tables.exec = Jvm.exec) (hb : c.code = code) (hml : c.maxLocals = 8) (hown : s.vm.findClass RL = some m.cls) (hE : EX K z s) (hz : z < s.heap.size) (hbs : s.heap.size = b) (hX : va_X sb Ln xs s s.heap) (hsb : sb < s.heap.size) (hLn : Ln ≤ 2048) (hi : i + 4 ≤ Ln) (hcc : cc + 30 ≤ 649577) (hss : ss + 300 ≤ 7147374) (hl : lv_has ls 8 [(4, .int (iI (i : Int))), (0, .ref sb), (1, .ref b), (2, .ref (b + 104)), (3, .ref (b + 119))]) (hk0 : KE s.heap H) (hLS : LwI K b H)
    (kk : ∀ (H1 : Heap) (ls1 : Array Slot), KE s.heap H1 → LwI K b H1 → lv_has ls1 8 [(4, .int (iI (i : Int))), (0, .ref sb), (1, .ref b), (2, .ref (b + 104)), (3, .ref (b + 119))] → W p l e rmLaw s m args below meth c H1 [] (cc + 30) (ss + 300) Q (F0 m 1049 ls1 [])) : W p l e rmLaw s m args below meth c H [] cc ss Q (F0 m 264 ls []) := by
  obtain ⟨hT, hK⟩ := hE.1
  obtain ⟨wn, ar, oc, lc, th, wa, Kn, mu, pr, bg, ch, tr, bn, bp, bc, sf, bl, cu, Pn, le, pl, Bn, bo, fr, lo, sl, cd, st, tk, pk, muM, prM, co, cn, bs, bcM, bb, ld, o9, hLW, hLS1, hLP, hXW, hM, hO⟩ := hLS
  obtain ⟨hP0, hPw, hPs, hPa⟩ := id hXW
  have hsz : b + 119 < H.size := (hO 0 _ rfl).lt
  have hn : wn ≤ 12 := hLW.1.1
  obtain ⟨x1, hx1⟩ : ∃ x1, x1 = (xs (i + 1)).toInt := ⟨_, rfl⟩
  have h1 : r32 x1 := by rw [hx1]; exact r32_of _
  obtain ⟨x2, hx2⟩ : ∃ x2, x2 = (xs (i + 2)).toInt := ⟨_, rfl⟩
  have h2 : r32 x2 := by rw [hx2]; exact r32_of _
  obtain ⟨x3, hx3⟩ : ∃ x3, x3 = (xs (i + 3)).toInt := ⟨_, rfl⟩
  have h3 : r32 x3 := by rw [hx3]; exact r32_of _
  obtain ⟨j, hj, hjw⟩ := pickN 12 (by omega) x1 (wn : Int) (by omega)
  have hwj := hLW.1.2.1 j hj
  obtain ⟨k2, hk10, hy2⟩ := pickN 10 (by omega) x2 10 (by omega)
  refine lv_aload_n hx hb dL_law_264 rfl (lv_at hl 2 rfl) ?_
  refine lv_aload_n hx hb dL_law_265 rfl (lv_at hl 1 rfl) ?_
  refine lv_iload hx hb dL_law_266 (lv_at hl 0 rfl) ?_
  refine iz_iconst hx hb dL_law_268 ?_
  refine iz_iadd hx hb dL_law_269 ?_
  refine iz_sldv hx hb hX hsb hk0 (i + 1) (by omega) (by omega) hLn hx1 dL_law_270 ?_
  refine lv_aload_n hx hb dL_law_271 rfl (lv_at hl 1 rfl) ?_
  refine lv_iload hx hb dL_law_272 (lv_at hl 0 rfl) ?_
  refine iz_iconst hx hb dL_law_274 ?_
  refine iz_iadd hx hb dL_law_275 ?_
  refine iz_sldv hx hb hX hsb hk0 (i + 2) (by omega) (by omega) hLn hx2 dL_law_276 ?_
  refine lv_aload_n hx hb dL_law_277 rfl (lv_at hl 1 rfl) ?_
  refine lv_iload hx hb dL_law_278 (lv_at hl 0 rfl) ?_
  refine iz_iconst hx hb dL_law_280 ?_
  refine iz_iadd hx hb dL_law_281 ?_
  refine iz_sldv hx hb hX hsb hk0 (i + 3) (by omega) (by omega) hLn hx3 dL_law_282 ?_
  refine lv_aload_n hx hb dL_law_283 rfl (lv_at hl 4 rfl) ?_
  refine ctS (n := 5) hx hb hml hown hT ⟨c_L_layer l htr K z b wn j k2 (ar j) (oc j) (lc j) x1 x2 x3 (th j) h1 h2 h3 hn hj hjw hy2 ⟨by omega, by omega⟩ (b + 119) o9 (fun h9 => by (try dsimp only at h9); omega), ⟨_, _, _, Or.inr rfl⟩, mt_343, mt_0, by decide, by decide +kernel, by decide, by decide, (by show cc + 4 ≤ 649577; omega), (by show ss + 24 ≤ 7147374; omega)⟩ PX.blind mt_341 mt_342 (As := [.ref b, .int (iI x1), .int (iI x2), .int (iI x3), .ref (b + 119)]) (rest := []) rfl (PX.at hE (hk0.2 z hz) ⟨⟨hPw j hj, hP0.sub [0, 1] rfl⟩, hO⟩) hl.1 rfl (Nat.le_of_ble_eq_true rfl) dL_law_284 (krH (c1 := cc + 4) (s1 := ss + 24) rfl rfl (fun r t1 H1 L1 hA1 hL1 hp1 => ?_))
  have hG1 : ∀ q, (fun q => (fun q => q = b + 2 + 2 * j ∨ q = b + 2 + 2 * j + 1) q ∨ q = b + 119) q → s.heap.size ≤ q := by intro q h9; (try dsimp only at h9); omega
  have hk1 : KE s.heap H1 := hk0.af hA1 hG1
  refine W.drop (locs := []) (fun q hq => hG1 _ (hL1 q hq)) ?_
  have hGM : ∀ q : Nat, (fun q => (fun q => q = b + 2 + 2 * j ∨ q = b + 2 + 2 * j + 1) q ∨ q = b + 119) q → q < b + 104 ∨ q = b + 119 := by intro q h9; (try dsimp only at h9); omega
  have hGF : ∀ q : Nat, q < b + 104 → (fun q => (fun q => q = b + 2 + 2 * j ∨ q = b + 2 + 2 * j + 1) q ∨ q = b + 119) q → (fun q => q = b + 2 + 2 * j ∨ q = b + 2 + 2 * j + 1) q := by intro q hq h9; rcases h9 with h9 | h9; exact h9; omega
  have hM1 : va_P (kD K) vcl (mdW K (b + 104) cd wn ar oc lc st tk wa pk muM prM co cn bs bl cu Pn le bcM bb ld) H1 := hA1.Pm hM (fun x hx9 h9 => by have h8 := mem_mdW hx9; have h7 := hGM x.1 h9; omega)
  refine lv_istore (lv' := [(5, .int (iI r)), (4, .int (iI (i : Int))), (0, .ref sb), (1, .ref b), (2, .ref (b + 104)), (3, .ref (b + 119))]) hx hb dL_law_287 hl (by decide) rfl (fun ls hl => ?_)
  refine lv_aload_n hx hb dL_law_289 rfl (lv_at hl 4 rfl) ?_
  refine lv_aload_n hx hb dL_law_290 rfl (lv_at hl 2 rfl) ?_
  refine lv_iload hx hb dL_law_291 (lv_at hl 1 rfl) ?_
  refine iz_iconst hx hb dL_law_293 ?_
  refine iz_iadd hx hb dL_law_294 ?_
  refine iz_sldv hx hb hX hsb hk1 (i + 1) (by omega) (by omega) hLn hx1 dL_law_295 ?_
  refine lv_aload_n hx hb dL_law_296 rfl (lv_at hl 2 rfl) ?_
  refine lv_iload hx hb dL_law_297 (lv_at hl 1 rfl) ?_
  refine iz_iconst hx hb dL_law_299 ?_
  refine iz_iadd hx hb dL_law_300 ?_
  refine iz_sldv hx hb hX hsb hk1 (i + 2) (by omega) (by omega) hLn hx2 dL_law_301 ?_
  refine lv_aload_n hx hb dL_law_302 rfl (lv_at hl 2 rfl) ?_
  refine lv_iload hx hb dL_law_303 (lv_at hl 1 rfl) ?_
  refine iz_iconst hx hb dL_law_305 ?_
  refine iz_iadd hx hb dL_law_306 ?_
  refine iz_sldv hx hb hX hsb hk1 (i + 3) (by omega) (by omega) hLn hx3 dL_law_307 ?_
  refine ctV (n := 3) hx hb hml hown hT ⟨c_M_layer l K (b + 104) cd wn ar oc lc st tk wa pk muM prM co cn bs bl cu Pn le bcM bb ld j x1 x2 x3 h1 h2 h3 hn hjw (fun i9 h9 => (hLW.1.2.1 i9 h9).1) (fun i9 h9 => (hLW.1.2.1 i9 h9).2.1) (fun i9 h9 => (hLW.1.2.1 i9 h9).2.2), ⟨_, _, _, Or.inl ⟨rfl, rfl⟩⟩, mt_551, mt_5, by decide, by decide +kernel, by decide, by decide, (by show cc + 4 + 0 ≤ 649577; omega), (by show ss + 24 + 0 ≤ 7147374; omega)⟩ PC.blind mt_548 mt_549 mt_550 (va_RVof (ci := 4) (q0 := 0) hK hM1 rfl rfl) (As := [.int (iI x1), .int (iI x2), .int (iI x3)]) (rest := []) rfl (PC.at ⟨hT, hK⟩ hM1) hl.1 rfl (Nat.le_of_ble_eq_true rfl) dL_law_308 (krI (c1 := cc + 4) (s1 := ss + 24) rfl rfl (fun r6 t2 H2 L2 hA2 hL2 hp2 => ?_))
  have hG2 : ∀ q, (fun x => b + 104 ≤ x ∧ x < b + 104 + 15) q → s.heap.size ≤ q := by intro q h9; (try dsimp only at h9); omega
  have hk2 : KE s.heap H2 := hk1.af hA2 hG2
  refine W.drop (locs := []) (fun q hq => hG2 _ (hL2 q hq)) ?_
  refine lv_istore (lv' := [(6, .int (iI r6)), (5, .int (iI r)), (4, .int (iI (i : Int))), (0, .ref sb), (1, .ref b), (2, .ref (b + 104)), (3, .ref (b + 119))]) hx hb dL_law_311 hl (by decide) rfl (fun ls hl => ?_)
  rcases hp1 with ⟨rfl, r9, v, Hm, hq1, hq2, hq3, hOB⟩ | ⟨rfl, hke, hpx⟩ | ⟨rfl, hke, hpx⟩
  · obtain ⟨⟨hC, hD⟩, e9, hN⟩ := hq1
    rcases hp2 with ⟨hn1, hM2⟩ | ⟨hC2, hn2, hM2⟩ | ⟨hC2, hD2, hr6, hM2⟩
    · exact absurd hC hn1
    · exact absurd hD hn2
    · have hKm : KQ b (fun _ => False) Hm H2 := hOB.KQ0 hA2
      have hO2 := hA2.out hOB.2.2
      have hKQ : KQ b (fun q => q = b + 2 + 2 * j ∨ q = b + 2 + 2 * j + 1) H H2 := hA1.KQ1 (F := fun q => q = b + 2 + 2 * j ∨ q = b + 2 + 2 * j + 1) hA2 hsz hGF
      have hN2 := hKm.c2 hN ⟨⟨by omega, by omega⟩, id⟩ ⟨⟨by omega, by omega⟩, id⟩
      have e6 : iI r6 = iI v := by rw [hr6, ← e9]; exact hq2
      have hLS2 : LwI K b H2 := LwI.of (hLW.layer hj (hy2 hC.2.1.1 hC.2.1.2) hk10 hC.2.2 hD) hLS1 hLP (xT_layer hXW hj hKQ hN2) hM2 hO2
      refine lv_aload_n hx hb dL_law_313 rfl (lv_at hl 5 rfl) ?_
      refine ctV (n := 0) hx hb hml hown hT ⟨c_M_thrown l K (b + 104) 0 wn ar oc (ut lc j (lc j + 1)) (ut st (8 * j + (lc j).toNat) x2) (ut tk (8 * j + (lc j).toNat) x3) wa pk muM prM co cn bs bl cu Pn le bcM bb ld, ⟨_, _, _, Or.inl ⟨rfl, rfl⟩⟩, mt_531, mt_5, by decide, by decide +kernel, by decide, by decide, (by show cc + 4 + 0 ≤ 649577; omega), (by show ss + 24 + 0 ≤ 7147374; omega)⟩ PC.blind mt_528 mt_529 mt_530 (va_RVof (ci := 4) (q0 := 0) hK hM2 rfl rfl) (As := []) (rest := []) rfl (PC.at ⟨hT, hK⟩ hM2) hl.1 rfl (Nat.le_of_ble_eq_true rfl) dL_law_314 (krI0 rfl rfl (fun _ h => h) (fun r7 hr7 => ?_))
      subst hr7
      refine lv_iload hx hb dL_law_317 (lv_at hl 1 rfl) ?_
      refine iz_icmp_eq (tgt := 324) hx hb ⟨by omega, by omega⟩ ⟨by omega, by omega⟩ dL_law_319 (by decide) (fun h9 => ?_) (fun h9 => ?_)
      · refine lv_iload hx hb dL_law_324 (lv_at hl 1 rfl) ?_
        refine iz_if_ne (tgt := 341) hx hb ⟨by omega, by omega⟩ dL_law_326 (by decide) (fun h9 => ?_) (fun h9 => ?_)
        · exact absurd rfl h9
        · refine lv_aload_n hx hb dL_law_329 rfl (lv_at hl 6 rfl) ?_
          refine iz_iconst hx hb dL_law_330 ?_
          refine iz_lald hx hb hK hO2 0 rfl 0 rfl (by omega) (by omega) dL_law_331 ?_
          refine lv_iload hx hb dL_law_332 (lv_at hl 0 rfl) ?_
          rw [e6]
          refine iz_i2l hx hb hq3 dL_law_334 ?_
          refine iz_lcs (v := v) (tgt := 341) hx hb dL_law_335 dL_law_336 (by decide) ?_
          refine lv_goto (tgt := 1049) hx hb dL_law_341 (by decide) ?_
          exact W.widen (by omega) (by omega) (kk H2 ls hk2 hLS2 (lv_sub hl [2, 3, 4, 5, 6] rfl))
      · exact absurd rfl h9
  · have hnC := (Or.resolve_right hpx (fun h9 => absurd h9.1 (by decide))).2
    rcases hp2 with ⟨hn1, hM2⟩ | ⟨hC2, hn2, hM2⟩ | ⟨hC2, hD2, hr6, hM2⟩
    · have hO2 := hA2.out (hke.P hO)
      have hLS2 : LwI K b H2 := LwI.of hLW hLS1 hLP (xT_keep hXW (hke.KQ0 hA2 hsz)) hM2 hO2
      refine lv_aload_n hx hb dL_law_313 rfl (lv_at hl 5 rfl) ?_
      refine ctV (n := 0) hx hb hml hown hT ⟨c_M_thrown l K (b + 104) 1 wn ar oc lc st tk wa pk muM prM co cn bs bl cu Pn le bcM bb ld, ⟨_, _, _, Or.inl ⟨rfl, rfl⟩⟩, mt_531, mt_5, by decide, by decide +kernel, by decide, by decide, (by show cc + 4 + 0 ≤ 649577; omega), (by show ss + 24 + 0 ≤ 7147374; omega)⟩ PC.blind mt_528 mt_529 mt_530 (va_RVof (ci := 4) (q0 := 0) hK hM2 rfl rfl) (As := []) (rest := []) rfl (PC.at ⟨hT, hK⟩ hM2) hl.1 rfl (Nat.le_of_ble_eq_true rfl) dL_law_314 (krI0 rfl rfl (fun _ h => h) (fun r7 hr7 => ?_))
      subst hr7
      refine lv_iload hx hb dL_law_317 (lv_at hl 1 rfl) ?_
      refine iz_icmp_eq (tgt := 324) hx hb ⟨by omega, by omega⟩ ⟨by omega, by omega⟩ dL_law_319 (by decide) (fun h9 => ?_) (fun h9 => ?_)
      · refine lv_iload hx hb dL_law_324 (lv_at hl 1 rfl) ?_
        refine iz_if_ne (tgt := 341) hx hb ⟨by omega, by omega⟩ dL_law_326 (by decide) (fun h9 => ?_) (fun h9 => ?_)
        · refine lv_goto (tgt := 1049) hx hb dL_law_341 (by decide) ?_
          exact W.widen (by omega) (by omega) (kk H2 ls hk2 hLS2 (lv_sub hl [2, 3, 4, 5, 6] rfl))
        · exact absurd h9 (by decide)
      · exact absurd rfl h9
    · exact absurd hC2 hnC
    · exact absurd hC2 hnC
  · obtain ⟨-, hCx, hnD⟩ := Or.resolve_left hpx (fun h9 => absurd h9.1 (by decide))
    rcases hp2 with ⟨hn1, hM2⟩ | ⟨hC2, hn2, hM2⟩ | ⟨hC2, hD2, hr6, hM2⟩
    · exact absurd hCx hn1
    · have hO2 := hA2.out (hke.P hO)
      have hLS2 : LwI K b H2 := LwI.of hLW hLS1 hLP (xT_keep hXW (hke.KQ0 hA2 hsz)) hM2 hO2
      refine lv_aload_n hx hb dL_law_313 rfl (lv_at hl 5 rfl) ?_
      refine ctV (n := 0) hx hb hml hown hT ⟨c_M_thrown l K (b + 104) 2 wn ar oc lc st tk wa pk muM prM co cn bs bl cu Pn le bcM bb ld, ⟨_, _, _, Or.inl ⟨rfl, rfl⟩⟩, mt_531, mt_5, by decide, by decide +kernel, by decide, by decide, (by show cc + 4 + 0 ≤ 649577; omega), (by show ss + 24 + 0 ≤ 7147374; omega)⟩ PC.blind mt_528 mt_529 mt_530 (va_RVof (ci := 4) (q0 := 0) hK hM2 rfl rfl) (As := []) (rest := []) rfl (PC.at ⟨hT, hK⟩ hM2) hl.1 rfl (Nat.le_of_ble_eq_true rfl) dL_law_314 (krI0 rfl rfl (fun _ h => h) (fun r7 hr7 => ?_))
      subst hr7
      refine lv_iload hx hb dL_law_317 (lv_at hl 1 rfl) ?_
      refine iz_icmp_eq (tgt := 324) hx hb ⟨by omega, by omega⟩ ⟨by omega, by omega⟩ dL_law_319 (by decide) (fun h9 => ?_) (fun h9 => ?_)
      · refine lv_iload hx hb dL_law_324 (lv_at hl 1 rfl) ?_
        refine iz_if_ne (tgt := 341) hx hb ⟨by omega, by omega⟩ dL_law_326 (by decide) (fun h9 => ?_) (fun h9 => ?_)
        · refine lv_goto (tgt := 1049) hx hb dL_law_341 (by decide) ?_
          exact W.widen (by omega) (by omega) (kk H2 ls hk2 hLS2 (lv_sub hl [2, 3, 4, 5, 6] rfl))
        · exact absurd h9 (by decide)
      · exact absurd rfl h9
    · exact absurd hD2 hnD
set_option maxHeartbeats 4000000 in
set_option maxRecDepth 100000 in
theorem lw_c3 {p : Program} {l : Launch} {e : Env} {s : State} {m : MethodId} {args : Array Value} {below : List Frame} {meth : Method} {c : Code} {H : Heap} {Q : State → Prop} {ls : Array Slot} {K : KG} {z b sb Ln i cc ss : Nat} {xs : Nat → Int32} (htr : l.stackTraces = false) (hx : p.tables.exec = Jvm.exec) (hb : c.code = code) (hml : c.maxLocals = 8) (hown : s.vm.findClass RL = some m.cls) (hE : EX K z s) (hz : z < s.heap.size) (hbs : s.heap.size = b) (hX : va_X sb Ln xs s s.heap) (hsb : sb < s.heap.size) (hLn : Ln ≤ 2048) (hi : i + 4 ≤ Ln) (hcc : cc + 30 ≤ 649577) (hss : ss + 300 ≤ 7147374) (hl : lv_has ls 8 [(4, .int (iI (i : Int))), (0, .ref sb), (1, .ref b), (2, .ref (b + 104)), (3, .ref (b + 119))]) (hk0 : KE s.heap H) (hLS : LwI K b H)
    (kk : ∀ (H1 : Heap) (ls1 : Array Slot), KE s.heap H1 → LwI K b H1 → lv_has ls1 8 [(4, .int (iI (i : Int))), (0, .ref sb), (1, .ref b), (2, .ref (b + 104)), (3, .ref (b + 119))] → W p l e rmLaw s m args below meth c H1 [] (cc + 30) (ss + 300) Q (F0 m 1049 ls1 [])) : W p l e rmLaw s m args below meth c H [] cc ss Q (F0 m 344 ls []) := by
  obtain ⟨hT, hK⟩ := hE.1
  obtain ⟨wn, ar, oc, lc, th, wa, Kn, mu, pr, bg, ch, tr, bn, bp, bc, sf, bl, cu, Pn, le, pl, Bn, bo, fr, lo, sl, cd, st, tk, pk, muM, prM, co, cn, bs, bcM, bb, ld, o9, hLW, hLS1, hLP, hXW, hM, hO⟩ := hLS
  obtain ⟨hP0, hPw, hPs, hPa⟩ := id hXW
  have hsz : b + 119 < H.size := (hO 0 _ rfl).lt
  have hn : wn ≤ 12 := hLW.1.1
  obtain ⟨x1, hx1⟩ : ∃ x1, x1 = (xs (i + 1)).toInt := ⟨_, rfl⟩
  have h1 : r32 x1 := by rw [hx1]; exact r32_of _
  obtain ⟨x2, hx2⟩ : ∃ x2, x2 = (xs (i + 2)).toInt := ⟨_, rfl⟩
  have h2 : r32 x2 := by rw [hx2]; exact r32_of _
  obtain ⟨k, hk10, hk⟩ := pickN 10 (by omega) x1 10 (by omega)
  refine lv_aload_n hx hb dL_law_344 rfl (lv_at hl 2 rfl) ?_
  refine lv_aload_n hx hb dL_law_345 rfl (lv_at hl 1 rfl) ?_
  refine lv_iload hx hb dL_law_346 (lv_at hl 0 rfl) ?_
  refine iz_iconst hx hb dL_law_348 ?_
  refine iz_iadd hx hb dL_law_349 ?_
  refine iz_sldv hx hb hX hsb hk0 (i + 1) (by omega) (by omega) hLn hx1 dL_law_350 ?_
  refine lv_aload_n hx hb dL_law_351 rfl (lv_at hl 1 rfl) ?_
  refine lv_iload hx hb dL_law_352 (lv_at hl 0 rfl) ?_
  refine iz_iconst hx hb dL_law_354 ?_
  refine iz_iadd hx hb dL_law_355 ?_
  refine iz_sldv hx hb hX hsb hk0 (i + 2) (by omega) (by omega) hLn hx2 dL_law_356 ?_
  refine lv_aload_n hx hb dL_law_357 rfl (lv_at hl 4 rfl) ?_
  refine ctS (n := 4) hx hb hml hown hT ⟨c_L_waste l htr K z b wn k x1 x2 wa h1 h2 hk (b + 119) o9 (fun h9 => by (try dsimp only at h9); omega), ⟨_, _, _, Or.inr rfl⟩, mt_350, mt_0, by decide, by decide +kernel, by decide, by decide, (by show cc + 2 ≤ 649577; omega), (by show ss + 12 ≤ 7147374; omega)⟩ PX.blind mt_348 mt_349 (As := [.ref b, .int (iI x1), .int (iI x2), .ref (b + 119)]) (rest := []) rfl (PX.at hE (hk0.2 z hz) ⟨⟨P1 hP0 2 rfl, P1 hP0 0 rfl⟩, hO⟩) hl.1 rfl (Nat.le_of_ble_eq_true rfl) dL_law_358 (krH (c1 := cc + 2) (s1 := ss + 12) rfl rfl (fun r t1 H1 L1 hA1 hL1 hp1 => ?_))
  have hG1 : ∀ q, (fun q => (fun q => q = b + 26) q ∨ q = b + 119) q → s.heap.size ≤ q := by intro q h9; (try dsimp only at h9); omega
  have hk1 : KE s.heap H1 := hk0.af hA1 hG1
  refine W.drop (locs := []) (fun q hq => hG1 _ (hL1 q hq)) ?_
  have hGM : ∀ q : Nat, (fun q => (fun q => q = b + 26) q ∨ q = b + 119) q → q < b + 104 ∨ q = b + 119 := by intro q h9; (try dsimp only at h9); omega
  have hGF : ∀ q : Nat, q < b + 104 → (fun q => (fun q => q = b + 26) q ∨ q = b + 119) q → (fun q => q = b + 26) q := by intro q hq h9; rcases h9 with h9 | h9; exact h9; omega
  have hM1 : va_P (kD K) vcl (mdW K (b + 104) cd wn ar oc lc st tk wa pk muM prM co cn bs bl cu Pn le bcM bb ld) H1 := hA1.Pm hM (fun x hx9 h9 => by have h8 := mem_mdW hx9; have h7 := hGM x.1 h9; omega)
  refine lv_istore (lv' := [(5, .int (iI r)), (4, .int (iI (i : Int))), (0, .ref sb), (1, .ref b), (2, .ref (b + 104)), (3, .ref (b + 119))]) hx hb dL_law_361 hl (by decide) rfl (fun ls hl => ?_)
  refine lv_aload_n hx hb dL_law_363 rfl (lv_at hl 4 rfl) ?_
  refine lv_aload_n hx hb dL_law_364 rfl (lv_at hl 2 rfl) ?_
  refine lv_iload hx hb dL_law_365 (lv_at hl 1 rfl) ?_
  refine iz_iconst hx hb dL_law_367 ?_
  refine iz_iadd hx hb dL_law_368 ?_
  refine iz_sldv hx hb hX hsb hk1 (i + 1) (by omega) (by omega) hLn hx1 dL_law_369 ?_
  refine lv_aload_n hx hb dL_law_370 rfl (lv_at hl 2 rfl) ?_
  refine lv_iload hx hb dL_law_371 (lv_at hl 1 rfl) ?_
  refine iz_iconst hx hb dL_law_373 ?_
  refine iz_iadd hx hb dL_law_374 ?_
  refine iz_sldv hx hb hX hsb hk1 (i + 2) (by omega) (by omega) hLn hx2 dL_law_375 ?_
  refine ctV (n := 2) hx hb hml hown hT ⟨c_M_waste l K (b + 104) cd wn ar oc lc st tk wa pk muM prM co cn bs bl cu Pn le bcM bb ld k x1 x2 h1 h2 hk, ⟨_, _, _, Or.inl ⟨rfl, rfl⟩⟩, mt_560, mt_5, by decide, by decide +kernel, by decide, by decide, (by show cc + 2 + 0 ≤ 649577; omega), (by show ss + 12 + 0 ≤ 7147374; omega)⟩ PC.blind mt_557 mt_558 mt_559 (va_RVof (ci := 4) (q0 := 0) hK hM1 rfl rfl) (As := [.int (iI x1), .int (iI x2)]) (rest := []) rfl (PC.at ⟨hT, hK⟩ hM1) hl.1 rfl (Nat.le_of_ble_eq_true rfl) dL_law_376 (krI (c1 := cc + 2) (s1 := ss + 12) rfl rfl (fun r6 t2 H2 L2 hA2 hL2 hp2 => ?_))
  have hG2 : ∀ q, (fun x => b + 104 ≤ x ∧ x < b + 104 + 15) q → s.heap.size ≤ q := by intro q h9; (try dsimp only at h9); omega
  have hk2 : KE s.heap H2 := hk1.af hA2 hG2
  refine W.drop (locs := []) (fun q hq => hG2 _ (hL2 q hq)) ?_
  refine lv_istore (lv' := [(6, .int (iI r6)), (5, .int (iI r)), (4, .int (iI (i : Int))), (0, .ref sb), (1, .ref b), (2, .ref (b + 104)), (3, .ref (b + 119))]) hx hb dL_law_379 hl (by decide) rfl (fun ls hl => ?_)
  rcases hp1 with ⟨rfl, r9, v, Hm, hq1, hq2, hq3, hOB⟩ | ⟨rfl, hke, hpx⟩
  · obtain ⟨hC, e9, hN⟩ := hq1
    rcases hp2 with ⟨hn1, hM2⟩ | ⟨hC2, hr6, hM2⟩
    · exact absurd hC hn1
    · have hKm : KQ b (fun _ => False) Hm H2 := hOB.KQ0 hA2
      have hO2 := hA2.out hOB.2.2
      have hKQ : KQ b (fun q => q = b + 26) H H2 := hA1.KQ1 (F := fun q => q = b + 26) hA2 hsz hGF
      have hN2 := hKm.c1 hN (by omega) (by omega) id
      have e6 : iI r6 = iI v := by rw [hr6, ← e9]; exact hq2
      have hLS2 : LwI K b H2 := LwI.of (hLW.waste hC.2) hLS1 hLP (xT_waste hXW hKQ hN2) hM2 hO2
      refine lv_aload_n hx hb dL_law_381 rfl (lv_at hl 5 rfl) ?_
      refine ctV (n := 0) hx hb hml hown hT ⟨c_M_thrown l K (b + 104) 0 wn ar oc lc st tk (ut wa k x2) pk muM prM co cn bs bl cu Pn le bcM bb ld, ⟨_, _, _, Or.inl ⟨rfl, rfl⟩⟩, mt_531, mt_5, by decide, by decide +kernel, by decide, by decide, (by show cc + 2 + 0 ≤ 649577; omega), (by show ss + 12 + 0 ≤ 7147374; omega)⟩ PC.blind mt_528 mt_529 mt_530 (va_RVof (ci := 4) (q0 := 0) hK hM2 rfl rfl) (As := []) (rest := []) rfl (PC.at ⟨hT, hK⟩ hM2) hl.1 rfl (Nat.le_of_ble_eq_true rfl) dL_law_382 (krI0 rfl rfl (fun _ h => h) (fun r7 hr7 => ?_))
      subst hr7
      refine lv_iload hx hb dL_law_385 (lv_at hl 1 rfl) ?_
      refine iz_icmp_eq (tgt := 392) hx hb ⟨by omega, by omega⟩ ⟨by omega, by omega⟩ dL_law_387 (by decide) (fun h9 => ?_) (fun h9 => ?_)
      · refine lv_iload hx hb dL_law_392 (lv_at hl 1 rfl) ?_
        refine iz_if_ne (tgt := 409) hx hb ⟨by omega, by omega⟩ dL_law_394 (by decide) (fun h9 => ?_) (fun h9 => ?_)
        · exact absurd rfl h9
        · refine lv_aload_n hx hb dL_law_397 rfl (lv_at hl 6 rfl) ?_
          refine iz_iconst hx hb dL_law_398 ?_
          refine iz_lald hx hb hK hO2 0 rfl 0 rfl (by omega) (by omega) dL_law_399 ?_
          refine lv_iload hx hb dL_law_400 (lv_at hl 0 rfl) ?_
          rw [e6]
          refine iz_i2l hx hb hq3 dL_law_402 ?_
          refine iz_lcs (v := v) (tgt := 409) hx hb dL_law_403 dL_law_404 (by decide) ?_
          refine lv_goto (tgt := 1049) hx hb dL_law_409 (by decide) ?_
          exact W.widen (by omega) (by omega) (kk H2 ls hk2 hLS2 (lv_sub hl [2, 3, 4, 5, 6] rfl))
      · exact absurd rfl h9
  · have hnC := hpx.2
    rcases hp2 with ⟨hn1, hM2⟩ | ⟨hC2, hr6, hM2⟩
    · have hO2 := hA2.out (hke.P hO)
      have hLS2 : LwI K b H2 := LwI.of hLW hLS1 hLP (xT_keep hXW (hke.KQ0 hA2 hsz)) hM2 hO2
      refine lv_aload_n hx hb dL_law_381 rfl (lv_at hl 5 rfl) ?_
      refine ctV (n := 0) hx hb hml hown hT ⟨c_M_thrown l K (b + 104) 1 wn ar oc lc st tk wa pk muM prM co cn bs bl cu Pn le bcM bb ld, ⟨_, _, _, Or.inl ⟨rfl, rfl⟩⟩, mt_531, mt_5, by decide, by decide +kernel, by decide, by decide, (by show cc + 2 + 0 ≤ 649577; omega), (by show ss + 12 + 0 ≤ 7147374; omega)⟩ PC.blind mt_528 mt_529 mt_530 (va_RVof (ci := 4) (q0 := 0) hK hM2 rfl rfl) (As := []) (rest := []) rfl (PC.at ⟨hT, hK⟩ hM2) hl.1 rfl (Nat.le_of_ble_eq_true rfl) dL_law_382 (krI0 rfl rfl (fun _ h => h) (fun r7 hr7 => ?_))
      subst hr7
      refine lv_iload hx hb dL_law_385 (lv_at hl 1 rfl) ?_
      refine iz_icmp_eq (tgt := 392) hx hb ⟨by omega, by omega⟩ ⟨by omega, by omega⟩ dL_law_387 (by decide) (fun h9 => ?_) (fun h9 => ?_)
      · refine lv_iload hx hb dL_law_392 (lv_at hl 1 rfl) ?_
        refine iz_if_ne (tgt := 409) hx hb ⟨by omega, by omega⟩ dL_law_394 (by decide) (fun h9 => ?_) (fun h9 => ?_)
        · refine lv_goto (tgt := 1049) hx hb dL_law_409 (by decide) ?_
          exact W.widen (by omega) (by omega) (kk H2 ls hk2 hLS2 (lv_sub hl [2, 3, 4, 5, 6] rfl))
        · exact absurd h9 (by decide)
      · exact absurd rfl h9
    · exact absurd hC2 hnC
set_option maxHeartbeats 4000000 in
set_option maxRecDepth 100000 in
theorem lw_c4 {p : Program} {l : Launch} {e : Env} {s : State} {m : MethodId} {args : Array Value} {below : List Frame} {meth : Method} {c : Code} {H : Heap} {Q : State → Prop} {ls : Array Slot} {K : KG} {z b sb Ln i cc ss : Nat} {xs : Nat → Int32} (htr : l.stackTraces = false) (hx : p.tables.exec = Jvm.exec) (hb : c.code = code) (hml : c.maxLocals = 8) (hown : s.vm.findClass RL = some m.cls) (hE : EX K z s) (hz : z < s.heap.size) (hbs : s.heap.size = b) (hX : va_X sb Ln xs s s.heap) (hsb : sb < s.heap.size) (hLn : Ln ≤ 2048) (hi : i + 4 ≤ Ln) (hcc : cc + 30 ≤ 649577) (hss : ss + 300 ≤ 7147374) (hl : lv_has ls 8 [(4, .int (iI (i : Int))), (0, .ref sb), (1, .ref b), (2, .ref (b + 104)), (3, .ref (b + 119))]) (hk0 : KE s.heap H) (hLS : LwI K b H)
    (kk : ∀ (H1 : Heap) (ls1 : Array Slot), KE s.heap H1 → LwI K b H1 → lv_has ls1 8 [(4, .int (iI (i : Int))), (0, .ref sb), (1, .ref b), (2, .ref (b + 104)), (3, .ref (b + 119))] → W p l e rmLaw s m args below meth c H1 [] (cc + 30) (ss + 300) Q (F0 m 1049 ls1 [])) : W p l e rmLaw s m args below meth c H [] cc ss Q (F0 m 412 ls []) := by
  obtain ⟨hT, hK⟩ := hE.1
  obtain ⟨wn, ar, oc, lc, th, wa, Kn, mu, pr, bg, ch, tr, bn, bp, bc, sf, bl, cu, Pn, le, pl, Bn, bo, fr, lo, sl, cd, st, tk, pk, muM, prM, co, cn, bs, bcM, bb, ld, o9, hLW, hLS1, hLP, hXW, hM, hO⟩ := hLS
  obtain ⟨hP0, hPw, hPs, hPa⟩ := id hXW
  have hsz : b + 119 < H.size := (hO 0 _ rfl).lt
  have hn : wn ≤ 12 := hLW.1.1
  obtain ⟨x1, hx1⟩ : ∃ x1, x1 = (xs (i + 1)).toInt := ⟨_, rfl⟩
  have h1 : r32 x1 := by rw [hx1]; exact r32_of _
  obtain ⟨x2, hx2⟩ : ∃ x2, x2 = (xs (i + 2)).toInt := ⟨_, rfl⟩
  have h2 : r32 x2 := by rw [hx2]; exact r32_of _
  obtain ⟨j, hj, hjw⟩ := pickN 12 (by omega) x1 (wn : Int) (by omega)
  refine lv_aload_n hx hb dL_law_412 rfl (lv_at hl 2 rfl) ?_
  refine lv_aload_n hx hb dL_law_413 rfl (lv_at hl 1 rfl) ?_
  refine lv_iload hx hb dL_law_414 (lv_at hl 0 rfl) ?_
  refine iz_iconst hx hb dL_law_416 ?_
  refine iz_iadd hx hb dL_law_417 ?_
  refine iz_sldv hx hb hX hsb hk0 (i + 1) (by omega) (by omega) hLn hx1 dL_law_418 ?_
  refine lv_aload_n hx hb dL_law_419 rfl (lv_at hl 1 rfl) ?_
  refine lv_iload hx hb dL_law_420 (lv_at hl 0 rfl) ?_
  refine iz_iconst hx hb dL_law_422 ?_
  refine iz_iadd hx hb dL_law_423 ?_
  refine iz_sldv hx hb hX hsb hk0 (i + 2) (by omega) (by omega) hLn hx2 dL_law_424 ?_
  refine lv_aload_n hx hb dL_law_425 rfl (lv_at hl 4 rfl) ?_
  refine ctS (n := 4) hx hb hml hown hT ⟨c_L_told l htr K z b wn j (ar j) (oc j) (lc j) x1 x2 (th j) h1 h2 hn hj hjw (b + 119) o9 (fun h9 => h9), ⟨_, _, _, Or.inr rfl⟩, mt_357, mt_0, by decide, by decide +kernel, by decide, by decide, (by show cc + 2 ≤ 649577; omega), (by show ss + 12 ≤ 7147374; omega)⟩ PX.blind mt_355 mt_356 (As := [.ref b, .int (iI x1), .int (iI x2), .ref (b + 119)]) (rest := []) rfl (PX.at hE (hk0.2 z hz) ⟨va_P_two (hP0.sub [0, 1] rfl) (hPw j hj), hO⟩) hl.1 rfl (Nat.le_of_ble_eq_true rfl) dL_law_426 (krH (c1 := cc + 2) (s1 := ss + 12) rfl rfl (fun r t1 H1 L1 hA1 hL1 hp1 => ?_))
  have hG1 : ∀ q, (fun q => (fun _ => False) q ∨ q = b + 119) q → s.heap.size ≤ q := by intro q h9; rcases h9 with h9 | h9; exact absurd h9 id; omega
  have hk1 : KE s.heap H1 := hk0.af hA1 hG1
  refine W.drop (locs := []) (fun q hq => hG1 _ (hL1 q hq)) ?_
  have hGM : ∀ q : Nat, (fun q => (fun _ => False) q ∨ q = b + 119) q → q < b + 104 ∨ q = b + 119 := by intro q h9; rcases h9 with h9 | h9; exact absurd h9 id; omega
  have hGF : ∀ q : Nat, q < b + 104 → (fun q => (fun _ => False) q ∨ q = b + 119) q → (fun _ => False) q := by intro q hq h9; rcases h9 with h9 | h9; exact h9; omega
  have hM1 : va_P (kD K) vcl (mdW K (b + 104) cd wn ar oc lc st tk wa pk muM prM co cn bs bl cu Pn le bcM bb ld) H1 := hA1.Pm hM (fun x hx9 h9 => by have h8 := mem_mdW hx9; have h7 := hGM x.1 h9; omega)
  refine lv_istore (lv' := [(5, .int (iI r)), (4, .int (iI (i : Int))), (0, .ref sb), (1, .ref b), (2, .ref (b + 104)), (3, .ref (b + 119))]) hx hb dL_law_429 hl (by decide) rfl (fun ls hl => ?_)
  refine lv_aload_n hx hb dL_law_431 rfl (lv_at hl 4 rfl) ?_
  refine lv_aload_n hx hb dL_law_432 rfl (lv_at hl 2 rfl) ?_
  refine lv_iload hx hb dL_law_433 (lv_at hl 1 rfl) ?_
  refine iz_iconst hx hb dL_law_435 ?_
  refine iz_iadd hx hb dL_law_436 ?_
  refine iz_sldv hx hb hX hsb hk1 (i + 1) (by omega) (by omega) hLn hx1 dL_law_437 ?_
  refine lv_aload_n hx hb dL_law_438 rfl (lv_at hl 2 rfl) ?_
  refine lv_iload hx hb dL_law_439 (lv_at hl 1 rfl) ?_
  refine iz_iconst hx hb dL_law_441 ?_
  refine iz_iadd hx hb dL_law_442 ?_
  refine iz_sldv hx hb hX hsb hk1 (i + 2) (by omega) (by omega) hLn hx2 dL_law_443 ?_
  refine ctV (n := 2) hx hb hml hown hT ⟨c_M_told l K (b + 104) cd wn ar oc lc st tk wa pk muM prM co cn bs bl cu Pn le bcM bb ld j x1 x2 h1 h2 hjw hLW.1, ⟨_, _, _, Or.inl ⟨rfl, rfl⟩⟩, mt_565, mt_5, by decide, by decide +kernel, by decide, by decide, (by show cc + 2 + 0 ≤ 649577; omega), (by show ss + 12 + 0 ≤ 7147374; omega)⟩ PC.blind mt_562 mt_563 mt_564 (va_RVof (ci := 4) (q0 := 0) hK hM1 rfl rfl) (As := [.int (iI x1), .int (iI x2)]) (rest := []) rfl (PC.at ⟨hT, hK⟩ hM1) hl.1 rfl (Nat.le_of_ble_eq_true rfl) dL_law_444 (krI (c1 := cc + 2) (s1 := ss + 12) rfl rfl (fun r6 t2 H2 L2 hA2 hL2 hp2 => ?_))
  have hG2 : ∀ q, (fun x => b + 104 ≤ x ∧ x < b + 104 + 15) q → s.heap.size ≤ q := by intro q h9; (try dsimp only at h9); omega
  have hk2 : KE s.heap H2 := hk1.af hA2 hG2
  refine W.drop (locs := []) (fun q hq => hG2 _ (hL2 q hq)) ?_
  refine lv_istore (lv' := [(6, .int (iI r6)), (5, .int (iI r)), (4, .int (iI (i : Int))), (0, .ref sb), (1, .ref b), (2, .ref (b + 104)), (3, .ref (b + 119))]) hx hb dL_law_447 hl (by decide) rfl (fun ls hl => ?_)
  rcases hp1 with ⟨rfl, r9, v, Hm, hq1, hq2, hq3, hOB⟩ | ⟨rfl, hke, hpx⟩
  · obtain ⟨hC, eH, e9⟩ := hq1
    rcases hp2 with ⟨hn1, hM2⟩ | ⟨hC2, hr6, hM2⟩
    · exact absurd hC hn1
    · have hKm : KQ b (fun _ => False) Hm H2 := hOB.KQ0 hA2
      have hO2 := hA2.out hOB.2.2
      rw [eH] at hKm
      have e6 : iI r6 = iI v := by rw [hr6, ← hLW.told hj, ← e9]; exact hq2
      have hLS2 : LwI K b H2 := LwI.of hLW hLS1 hLP (xT_keep hXW hKm) hM2 hO2
      refine lv_aload_n hx hb dL_law_449 rfl (lv_at hl 5 rfl) ?_
      refine ctV (n := 0) hx hb hml hown hT ⟨c_M_thrown l K (b + 104) 0 wn ar oc lc st tk wa pk muM prM co cn bs bl cu Pn le bcM bb ld, ⟨_, _, _, Or.inl ⟨rfl, rfl⟩⟩, mt_531, mt_5, by decide, by decide +kernel, by decide, by decide, (by show cc + 2 + 0 ≤ 649577; omega), (by show ss + 12 + 0 ≤ 7147374; omega)⟩ PC.blind mt_528 mt_529 mt_530 (va_RVof (ci := 4) (q0 := 0) hK hM2 rfl rfl) (As := []) (rest := []) rfl (PC.at ⟨hT, hK⟩ hM2) hl.1 rfl (Nat.le_of_ble_eq_true rfl) dL_law_450 (krI0 rfl rfl (fun _ h => h) (fun r7 hr7 => ?_))
      subst hr7
      refine lv_iload hx hb dL_law_453 (lv_at hl 1 rfl) ?_
      refine iz_icmp_eq (tgt := 460) hx hb ⟨by omega, by omega⟩ ⟨by omega, by omega⟩ dL_law_455 (by decide) (fun h9 => ?_) (fun h9 => ?_)
      · refine lv_iload hx hb dL_law_460 (lv_at hl 1 rfl) ?_
        refine iz_if_ne (tgt := 477) hx hb ⟨by omega, by omega⟩ dL_law_462 (by decide) (fun h9 => ?_) (fun h9 => ?_)
        · exact absurd rfl h9
        · refine lv_aload_n hx hb dL_law_465 rfl (lv_at hl 6 rfl) ?_
          refine iz_iconst hx hb dL_law_466 ?_
          refine iz_lald hx hb hK hO2 0 rfl 0 rfl (by omega) (by omega) dL_law_467 ?_
          refine lv_iload hx hb dL_law_468 (lv_at hl 0 rfl) ?_
          rw [e6]
          refine iz_i2l hx hb hq3 dL_law_470 ?_
          refine iz_lcs (v := v) (tgt := 477) hx hb dL_law_471 dL_law_472 (by decide) ?_
          refine lv_goto (tgt := 1049) hx hb dL_law_477 (by decide) ?_
          exact W.widen (by omega) (by omega) (kk H2 ls hk2 hLS2 (lv_sub hl [2, 3, 4, 5, 6] rfl))
      · exact absurd rfl h9
  · have hnC := hpx.2
    rcases hp2 with ⟨hn1, hM2⟩ | ⟨hC2, hr6, hM2⟩
    · have hO2 := hA2.out (hke.P hO)
      have hLS2 : LwI K b H2 := LwI.of hLW hLS1 hLP (xT_keep hXW (hke.KQ0 hA2 hsz)) hM2 hO2
      refine lv_aload_n hx hb dL_law_449 rfl (lv_at hl 5 rfl) ?_
      refine ctV (n := 0) hx hb hml hown hT ⟨c_M_thrown l K (b + 104) 1 wn ar oc lc st tk wa pk muM prM co cn bs bl cu Pn le bcM bb ld, ⟨_, _, _, Or.inl ⟨rfl, rfl⟩⟩, mt_531, mt_5, by decide, by decide +kernel, by decide, by decide, (by show cc + 2 + 0 ≤ 649577; omega), (by show ss + 12 + 0 ≤ 7147374; omega)⟩ PC.blind mt_528 mt_529 mt_530 (va_RVof (ci := 4) (q0 := 0) hK hM2 rfl rfl) (As := []) (rest := []) rfl (PC.at ⟨hT, hK⟩ hM2) hl.1 rfl (Nat.le_of_ble_eq_true rfl) dL_law_450 (krI0 rfl rfl (fun _ h => h) (fun r7 hr7 => ?_))
      subst hr7
      refine lv_iload hx hb dL_law_453 (lv_at hl 1 rfl) ?_
      refine iz_icmp_eq (tgt := 460) hx hb ⟨by omega, by omega⟩ ⟨by omega, by omega⟩ dL_law_455 (by decide) (fun h9 => ?_) (fun h9 => ?_)
      · refine lv_iload hx hb dL_law_460 (lv_at hl 1 rfl) ?_
        refine iz_if_ne (tgt := 477) hx hb ⟨by omega, by omega⟩ dL_law_462 (by decide) (fun h9 => ?_) (fun h9 => ?_)
        · refine lv_goto (tgt := 1049) hx hb dL_law_477 (by decide) ?_
          exact W.widen (by omega) (by omega) (kk H2 ls hk2 hLS2 (lv_sub hl [2, 3, 4, 5, 6] rfl))
        · exact absurd h9 (by decide)
      · exact absurd rfl h9
    · exact absurd hC2 hnC
