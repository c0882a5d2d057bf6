-- THE LAW: steps
set_option maxHeartbeats 4000000 in
set_option maxRecDepth 100000 in
theorem lw_c9 {p : Program} {l : Launch} {e : Env} {s : State} {m : MethodId} {args : Array Value} {below : List Frame} {meth : Method} {c : Code} {H : Heap} {Q : State → Prop} {ls : Array Slot} {K : KG} {z b sb Ln i cc ss : Nat} {xs : Nat → Int32} (htr : l.stackTraces = false) (hx : p.tables.exec = Jvm.exec) (hb : c.code = code) (hml : c.maxLocals = 8) (hown : s.vm.findClass RL = some m.cls) (hE : EX K z s) (hz : z < s.heap.size) (hbs : s.heap.size = b) (hX : va_X sb Ln xs s s.heap) (hsb : sb < s.heap.size) (hLn : Ln ≤ 2048) (hi : i + 4 ≤ Ln) (hcc : cc + 30 ≤ 649577) (hss : ss + 300 ≤ 7147374) (hl : lv_has ls 8 [(4, .int (iI (i : Int))), (0, .ref sb), (1, .ref b), (2, .ref (b + 104)), (3, .ref (b + 119))]) (hk0 : KE s.heap H) (hLS : LwI K b H)
    (kk : ∀ (H1 : Heap) (ls1 : Array Slot), KE s.heap H1 → LwI K b H1 → lv_has ls1 8 [(4, .int (iI (i : Int))), (0, .ref sb), (1, .ref b), (2, .ref (b + 104)), (3, .ref (b + 119))] → W p l e rmLaw s m args below meth c H1 [] (cc + 30) (ss + 300) Q (F0 m 1049 ls1 [])) : W p l e rmLaw s m args below meth c H [] cc ss Q (F0 m 738 ls []) := by
  obtain ⟨hT, hK⟩ := hE.1
  obtain ⟨wn, ar, oc, lc, th, wa, Kn, mu, pr, bg, ch, tr, bn, bp, bc, sf, bl, cu, Pn, le, pl, Bn, bo, fr, lo, sl, cd, st, tk, pk, muM, prM, co, cn, bs, bcM, bb, ld, o9, hLW, hLS1, hLP, hXW, hM, hO⟩ := hLS
  obtain ⟨hP0, hPw, hPs, hPa⟩ := id hXW
  have hsz : b + 119 < H.size := (hO 0 _ rfl).lt
  have hn : wn ≤ 12 := hLW.1.1
  refine lv_aload_n hx hb dL_law_738 rfl (lv_at hl 2 rfl) ?_
  refine ctV (n := 0) hx hb hml hown hT ⟨c_X_cents0 l htr K z b wn ar oc lc th wa Kn mu pr bg ch tr bn bp bc sf hLW.wb (fun j hj => (hLS1 j hj).1) (by omega), ⟨_, _, _, Or.inl ⟨rfl, rfl⟩⟩, mt_145, mt_1, by decide, by decide +kernel, by decide, by decide, (by show cc + 20 ≤ 649577; omega), (by show ss + 120 ≤ 7147374; omega)⟩ PX.blind mt_142 mt_143 mt_144 (va_RVof (ci := 0) (q0 := 0) hK hP0 rfl rfl) (As := []) (rest := []) rfl (PX.at hE (hk0.2 z hz) ⟨hP0, hPw, hPs⟩) hl.1 rfl (Nat.le_of_ble_eq_true rfl) dL_law_739 (krL (c1 := cc + 20) (s1 := ss + 120) rfl rfl (fun r1 t1 H1 L1 hA1 hL1 hp1 => ?_))
  have hG1 : ∀ q, (fun q => b + 28 ≤ q ∧ q < b + 98) q → s.heap.size ≤ q := by intro q h9; (try dsimp only at h9); omega
  have hGM : ∀ q : Nat, (fun q => b + 28 ≤ q ∧ q < b + 98) q → q < b + 104 := by intro q h9; (try dsimp only at h9); omega
  have hk1 : KE s.heap H1 := hk0.af hA1 hG1
  refine W.drop (locs := []) (fun q hq => hG1 _ (hL1 q hq)) ?_
  have hM1 : va_P (kD K) vcl (mdW K (b + 104) cd wn ar oc lc st tk wa pk muM prM co cn bs bl cu Pn le bcM bb ld) H1 := hA1.Pm hM (fun x hx9 h9 => by have h8 := mem_mdW hx9; have h7 := hGM x.1 h9; omega)
  refine lv_aload_n hx hb dL_law_742 rfl (lv_at hl 3 rfl) ?_
  refine ctV (n := 0) hx hb hml hown hT ⟨c_M_cents0 l K (b + 104) cd wn ar oc lc st tk wa pk muM prM co cn bs bl cu Pn le bcM bb ld hLW.1 hLS1.pkb hLS1.mp, ⟨_, _, _, Or.inl ⟨rfl, rfl⟩⟩, mt_610, mt_5, by decide, by decide +kernel, by decide, by decide, (by show cc + 20 + 0 ≤ 649577; omega), (by show ss + 120 + 0 ≤ 7147374; omega)⟩ PC.blind mt_607 mt_608 mt_609 (va_RVof (ci := 4) (q0 := 0) hK hM1 rfl rfl) (As := []) (rest := [.long (lI r1)]) rfl (PC.at ⟨hT, hK⟩ hM1) hl.1 rfl (Nat.le_of_ble_eq_true rfl) dL_law_743 (krL (c1 := cc + 20) (s1 := ss + 120) rfl rfl (fun r6 t2 H2 L2 hA2 hL2 hp2 => ?_))
  have hG2 : ∀ q, (fun x => b + 104 ≤ x ∧ x < b + 104 + 15) q → s.heap.size ≤ q := by intro q h9; (try dsimp only at h9); omega
  have hk2 : KE s.heap H2 := hk1.af hA2 hG2
  refine W.drop (locs := []) (fun q hq => hG2 _ (hL2 q hq)) ?_
  obtain ⟨hq1, t9, n9, p9, c9, s9, hN⟩ := hp1
  obtain ⟨hq2, co9, cn9, bs9, hM2⟩ := hp2
  have er : r6 = r1 := whole_eq (mu := mu) (pr := pr) (K := Kn) (N := fun j => ndX ar th wa wn j) (mu' := fun j i => muM (4 * j + i)) (pr' := fun j i => prM (4 * j + i)) (K' := fun j => (pk j).toNat) (N' := fun j => ndM wn ar lc st tk wa j) hq1 hq2 (fun j hj => hLS1.kn hj) (fun j hj => (hLW.nd hj).symm) (fun j hj i9 h9 => ((hLS1 j hj).2.2 i9 h9).1) (fun j hj i9 h9 => ((hLS1 j hj).2.2 i9 h9).2)
  subst er
  have hsz1 : b + 119 < H1.size := by have h9 := hA1.2.2.1; omega
  have hKm : KQ b (fun _ => False) H1 H2 := hA2.KQ2 hsz1
  have hKQ : KQ b (fun q => b + 28 ≤ q ∧ q < b + 98) H H2 := hA1.KQ1 (F := fun q => b + 28 ≤ q ∧ q < b + 98) hA2 hsz (fun q hq h9 => h9)
  have hO2 := hA2.out (va_P_k1 hO (hA1.2.2.2.2 (b + 119) hsz (fun h9 => absurd (hGM (b + 119) h9) (by omega))))
  have hLS9 : liS pk muM prM Kn mu pr bg ch n9 p9 c9 s9 := fun j hj => ⟨(hN j hj).1, (hLS1 j hj).2⟩
  have hLS2 : LwI K b H2 := LwI.of hLW hLS9 hLP (xT_shelves hXW hKQ (fun j hj => kq_shelf hKm hj (fun _ _ _ => id) (hN j hj).2)) hM2 hO2
  refine iz_lcs (v := r6) (tgt := 1049) hx hb dL_law_746 dL_law_747 (by decide) ?_
  exact W.widen (by omega) (by omega) (kk H2 ls hk2 hLS2 (lv_sub hl [0, 1, 2, 3, 4] rfl))
set_option maxHeartbeats 4000000 in
set_option maxRecDepth 100000 in
theorem lw_c13 {p : Program} {l : Launch} {e : Env} {s : State} {m : MethodId} {args : Array Value} {below : List Frame} {meth : Method} {c : Code} {H : Heap} {Q : State → Prop} {ls : Array Slot} {K : KG} {z b sb Ln i cc ss : Nat} {xs : Nat → Int32} (htr : l.stackTraces = false) (hx : p.tables.exec = Jvm.exec) (hb : c.code = code) (hml : c.maxLocals = 8) (hown : s.vm.findClass RL = some m.cls) (hE : EX K z s) (hz : z < s.heap.size) (hbs : s.heap.size = b) (hX : va_X sb Ln xs s s.heap) (hsb : sb < s.heap.size) (hLn : Ln ≤ 2048) (hi : i + 4 ≤ Ln) (hcc : cc + 30 ≤ 649577) (hss : ss + 300 ≤ 7147374) (hl : lv_has ls 8 [(4, .int (iI (i : Int))), (0, .ref sb), (1, .ref b), (2, .ref (b + 104)), (3, .ref (b + 119))]) (hk0 : KE s.heap H) (hLS : LwI K b H)
    (kk : ∀ (H1 : Heap) (ls1 : Array Slot), KE s.heap H1 → LwI K b H1 → lv_has ls1 8 [(4, .int (iI (i : Int))), (0, .ref sb), (1, .ref b), (2, .ref (b + 104)), (3, .ref (b + 119))] → W p l e rmLaw s m args below meth c H1 [] (cc + 30) (ss + 300) Q (F0 m 1049 ls1 [])) : W p l e rmLaw s m args below meth c H [] cc ss Q (F0 m 924 ls []) := by
  obtain ⟨hT, hK⟩ := hE.1
  obtain ⟨wn, ar, oc, lc, th, wa, Kn, mu, pr, bg, ch, tr, bn, bp, bc, sf, bl, cu, Pn, le, pl, Bn, bo, fr, lo, sl, cd, st, tk, pk, muM, prM, co, cn, bs, bcM, bb, ld, o9, hLW, hLS1, hLP, hXW, hM, hO⟩ := hLS
  obtain ⟨hP0, hPw, hPs, hPa⟩ := id hXW
  have hsz : b + 119 < H.size := (hO 0 _ rfl).lt
  have hn : wn ≤ 12 := hLW.1.1
  refine lv_aload_n hx hb dL_law_924 rfl (lv_at hl 2 rfl) ?_
  refine ctV (n := 0) hx hb hml hown hT ⟨c_X_plan l K b wn bl cu Pn le pl Bn bo fr lo sl hLP, ⟨_, _, _, Or.inl ⟨rfl, rfl⟩⟩, mt_272, mt_1, by decide, by decide +kernel, by decide, by decide, (by show cc + 0 ≤ 649577; omega), (by show ss + 0 ≤ 7147374; omega)⟩ PC.blind mt_269 mt_270 mt_271 (va_RVof (ci := 0) (q0 := 0) hK hP0 rfl rfl) (As := []) (rest := []) rfl (PC.at ⟨hT, hK⟩ ⟨hPa, P1 hP0 0 rfl⟩) hl.1 rfl (Nat.le_of_ble_eq_true rfl) dL_law_925 (krI (c1 := cc) (s1 := ss) rfl rfl (fun r1 t1 H1 L1 hA1 hL1 hp1 => ?_))
  have hG1 : ∀ q, (fun q => b + 98 ≤ q ∧ q < b + 98 + 6) q → s.heap.size ≤ q := by intro q h9; (try dsimp only at h9); omega
  have hGM : ∀ q : Nat, (fun q => b + 98 ≤ q ∧ q < b + 98 + 6) q → q < b + 104 := by intro q h9; (try dsimp only at h9); omega
  have hk1 : KE s.heap H1 := hk0.af hA1 hG1
  refine W.drop (locs := []) (fun q hq => hG1 _ (hL1 q hq)) ?_
  have hM1 : va_P (kD K) vcl (mdW K (b + 104) cd wn ar oc lc st tk wa pk muM prM co cn bs bl cu Pn le bcM bb ld) H1 := hA1.Pm hM (fun x hx9 h9 => by have h8 := mem_mdW hx9; have h7 := hGM x.1 h9; omega)
  refine lv_aload_n hx hb dL_law_928 rfl (lv_at hl 3 rfl) ?_
  refine ctV (n := 0) hx hb hml hown hT ⟨c_M_plan l K (b + 104) cd wn ar oc lc st tk wa pk muM prM co cn bs bl cu Pn le bcM bb ld hLP.1, ⟨_, _, _, Or.inl ⟨rfl, rfl⟩⟩, mt_627, mt_5, by decide, by decide +kernel, by decide, by decide, (by show cc + 0 ≤ 649577; omega), (by show ss + 0 ≤ 7147374; omega)⟩ PC.blind mt_624 mt_625 mt_626 (va_RVof (ci := 4) (q0 := 0) hK hM1 rfl rfl) (As := []) (rest := [.int (iI r1)]) rfl (PC.at ⟨hT, hK⟩ hM1) hl.1 rfl (Nat.le_of_ble_eq_true rfl) dL_law_929 (krI (c1 := cc) (s1 := ss) rfl rfl (fun r6 t2 H2 L2 hA2 hL2 hp2 => ?_))
  have hG2 : ∀ q, (fun x => b + 104 ≤ x ∧ x < b + 104 + 15) q → s.heap.size ≤ q := by intro q h9; (try dsimp only at h9); omega
  have hk2 : KE s.heap H2 := hk1.af hA2 hG2
  refine W.drop (locs := []) (fun q hq => hG2 _ (hL2 q hq)) ?_
  obtain ⟨Bn9, bo9, fr9, lo9, sl9, e1, hB9, hF9, hN⟩ := hp1
  obtain ⟨Bm9, bb9, fm9, e2, hBm, hFm, hM2⟩ := hp2
  have eB := (SwF_eq hF9 hFm).1
  have hP10 := hLP.1.2.2.1
  have hsz1 : b + 119 < H1.size := by have h9 := hA1.2.2.1; omega
  have hKm : KQ b (fun _ => False) H1 H2 := hA2.KQ2 hsz1
  have hKQ : KQ b (fun q => b + 98 ≤ q ∧ q < b + 98 + 6) H H2 := hA1.KQ1 (F := fun q => b + 98 ≤ q ∧ q < b + 98 + 6) hA2 hsz (fun q hq h9 => h9)
  have hO2 := hA2.out (va_P_k1 hO (hA1.2.2.2.2 (b + 119) hsz (fun h9 => absurd (hGM (b + 119) h9) (by omega))))
  have hLS2 : LwI K b H2 := LwI.of hLW hLS1 ⟨hLP.1, Or.inr ⟨rfl, hB9, hF9⟩⟩ (xT_saw hXW hKQ (kq_saw hKm (fun _ _ _ => id) hN)) hM2 hO2
  refine iz_icmp_eq (tgt := 1049) hx hb ⟨by omega, by omega⟩ ⟨by omega, by omega⟩ dL_law_932 (by decide) (fun h9 => ?_) (fun h9 => ?_)
  · exact W.widen (by omega) (by omega) (kk H2 ls hk2 hLS2 (lv_sub hl [0, 1, 2, 3, 4] rfl))
  · exact absurd (show r1 = r6 by omega) h9
