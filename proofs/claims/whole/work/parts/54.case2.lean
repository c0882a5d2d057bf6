-- THE LAW: steps
set_option maxHeartbeats 4000000 in
set_option maxRecDepth 100000 in
theorem lw_c5 {p : Program} {l : Launch} {e : Env} {s : State} {m : MethodId} {args : Array Value} {below : List Frame} {meth : Method} {c : Code} {H : Heap} {Q : State → Prop} {ls : Array Slot} {K : KG} {z b sb Ln i cc ss : Nat} {xs : Nat → Int32} (htr : l.stackTraces = false) (hx : p.tables.exec = Jvm.exec) (hb : c.code = code) (hml : c.maxLocals = 8) (hown : s.vm.findClass RL = some m.cls) (hE : EX K z s) (hz : z < s.heap.size) (hbs : s.heap.size = b) (hX : va_X sb Ln xs s s.heap) (hsb : sb < s.heap.size) (hLn : Ln ≤ 2048) (hi : i + 4 ≤ Ln) (hcc : cc + 30 ≤ 649577) (hss : ss + 300 ≤ 7147374) (hl : lv_has ls 8 [(4, .int (iI (i : Int))), (0, .ref sb), (1, .ref b), (2, .ref (b + 104)), (3, .ref (b + 119))]) (hk0 : KE s.heap H) (hLS : LwI K b H)
    (kk : ∀ (H1 : Heap) (ls1 : Array Slot), KE s.heap H1 → LwI K b H1 → lv_has ls1 8 [(4, .int (iI (i : Int))), (0, .ref sb), (1, .ref b), (2, .ref (b + 104)), (3, .ref (b + 119))] → W p l e rmLaw s m args below meth c H1 [] (cc + 30) (ss + 300) Q (F0 m 1049 ls1 [])) : W p l e rmLaw s m args below meth c H [] cc ss Q (F0 m 480 ls []) := by
  obtain ⟨hT, hK⟩ := hE.1
  obtain ⟨wn, ar, oc, lc, th, wa, Kn, mu, pr, bg, ch, tr, bn, bp, bc, sf, bl, cu, Pn, le, pl, Bn, bo, fr, lo, sl, cd, st, tk, pk, muM, prM, co, cn, bs, bcM, bb, ld, o9, hLW, hLS1, hLP, hXW, hM, hO⟩ := hLS
  obtain ⟨hP0, hPw, hPs, hPa⟩ := id hXW
  have hsz : b + 119 < H.size := (hO 0 _ rfl).lt
  have hn : wn ≤ 12 := hLW.1.1
  obtain ⟨x1, hx1⟩ : ∃ x1, x1 = (xs (i + 1)).toInt := ⟨_, rfl⟩
  have h1 : r32 x1 := by rw [hx1]; exact r32_of _
  obtain ⟨k, hk10, hk⟩ := pickN 10 (by omega) x1 10 (by omega)
  refine lv_aload_n hx hb dL_law_480 rfl (lv_at hl 2 rfl) ?_
  refine lv_aload_n hx hb dL_law_481 rfl (lv_at hl 1 rfl) ?_
  refine lv_iload hx hb dL_law_482 (lv_at hl 0 rfl) ?_
  refine iz_iconst hx hb dL_law_484 ?_
  refine iz_iadd hx hb dL_law_485 ?_
  refine iz_sldv hx hb hX hsb hk0 (i + 1) (by omega) (by omega) hLn hx1 dL_law_486 ?_
  refine lv_aload_n hx hb dL_law_487 rfl (lv_at hl 4 rfl) ?_
  refine ctS (n := 3) hx hb hml hown hT ⟨c_L_need l htr K z b wn k ar oc lc th wa x1 h1 hk hLW.wb (b + 119) o9 (fun h9 => h9), ⟨_, _, _, Or.inr rfl⟩, mt_368, mt_0, by decide, by decide +kernel, by decide, by decide, (by show cc + 1 ≤ 649577; omega), (by show ss + 6 ≤ 7147374; omega)⟩ PX.blind mt_366 mt_367 (As := [.ref b, .int (iI x1), .ref (b + 119)]) (rest := []) rfl (PX.at hE (hk0.2 z hz) ⟨⟨hP0.sub [0, 1, 2] rfl, hPw⟩, hO⟩) hl.1 rfl (Nat.le_of_ble_eq_true rfl) dL_law_488 (krH (c1 := cc + 1) (s1 := ss + 6) rfl rfl (fun r t1 H1 L1 hA1 hL1 hp1 => ?_))
  have hG1 : ∀ q, (fun q => (fun _ => False) q ∨ q = b + 119) q → s.heap.size ≤ q := by intro q h9; rcases h9 with h9 | h9; exact absurd h9 id; omega
  have hk1 : KE s.heap H1 := hk0.af hA1 hG1
  refine W.drop (locs := []) (fun q hq => hG1 _ (hL1 q hq)) ?_
  have hGM : ∀ q : Nat, (fun q => (fun _ => False) q ∨ q = b + 119) q → q < b + 104 ∨ q = b + 119 := by intro q h9; rcases h9 with h9 | h9; exact absurd h9 id; omega
  have hGF : ∀ q : Nat, q < b + 104 → (fun q => (fun _ => False) q ∨ q = b + 119) q → (fun _ => False) q := by intro q hq h9; rcases h9 with h9 | h9; exact h9; omega
  have hM1 : va_P (kD K) vcl (mdW K (b + 104) cd wn ar oc lc st tk wa pk muM prM co cn bs bl cu Pn le bcM bb ld) H1 := hA1.Pm hM (fun x hx9 h9 => by have h8 := mem_mdW hx9; have h7 := hGM x.1 h9; omega)
  refine lv_istore (lv' := [(5, .int (iI r)), (4, .int (iI (i : Int))), (0, .ref sb), (1, .ref b), (2, .ref (b + 104)), (3, .ref (b + 119))]) hx hb dL_law_491 hl (by decide) rfl (fun ls hl => ?_)
  refine lv_aload_n hx hb dL_law_493 rfl (lv_at hl 4 rfl) ?_
  refine lv_aload_n hx hb dL_law_494 rfl (lv_at hl 2 rfl) ?_
  refine lv_iload hx hb dL_law_495 (lv_at hl 1 rfl) ?_
  refine iz_iconst hx hb dL_law_497 ?_
  refine iz_iadd hx hb dL_law_498 ?_
  refine iz_sldv hx hb hX hsb hk1 (i + 1) (by omega) (by omega) hLn hx1 dL_law_499 ?_
  refine ctV (n := 1) hx hb hml hown hT ⟨c_M_need l K (b + 104) cd wn ar oc lc st tk wa pk muM prM co cn bs bl cu Pn le bcM bb ld k x1 h1 hk hLW.1, ⟨_, _, _, Or.inl ⟨rfl, rfl⟩⟩, mt_570, mt_5, by decide, by decide +kernel, by decide, by decide, (by show cc + 1 + 0 ≤ 649577; omega), (by show ss + 6 + 0 ≤ 7147374; omega)⟩ PC.blind mt_567 mt_568 mt_569 (va_RVof (ci := 4) (q0 := 0) hK hM1 rfl rfl) (As := [.int (iI x1)]) (rest := []) rfl (PC.at ⟨hT, hK⟩ hM1) hl.1 rfl (Nat.le_of_ble_eq_true rfl) dL_law_500 (krL (c1 := cc + 1) (s1 := ss + 6) rfl rfl (fun r6 t2 H2 L2 hA2 hL2 hp2 => ?_))
  have hG2 : ∀ q, (fun x => b + 104 ≤ x ∧ x < b + 104 + 15) q → s.heap.size ≤ q := by intro q h9; (try dsimp only at h9); omega
  have hk2 : KE s.heap H2 := hk1.af hA2 hG2
  refine W.drop (locs := []) (fun q hq => hG2 _ (hL2 q hq)) ?_
  refine lv_lstore (lv' := [(6, .long (lI r6)), (5, .int (iI r)), (4, .int (iI (i : Int))), (0, .ref sb), (1, .ref b), (2, .ref (b + 104)), (3, .ref (b + 119))]) hx hb dL_law_503 hl (by decide) rfl (fun ls hl => ?_)
  rcases hp1 with ⟨rfl, r9, v, Hm, hq1, hq2, hOB⟩ | ⟨rfl, hke, hpx⟩
  · obtain ⟨hC, eH, e9⟩ := hq1
    rcases hp2 with ⟨hn1, hM2⟩ | ⟨hC2, hr6, hM2⟩
    · exact absurd hC hn1
    · have hKm : KQ b (fun _ => False) Hm H2 := hOB.KQ0 hA2
      have hO2 := hA2.out hOB.2.2
      rw [eH] at hKm
      have e6 : r6 = v := by rw [hr6, ← hLW.nd hk10, ← e9]; exact hq2
      have hLS2 : LwI K b H2 := LwI.of hLW hLS1 hLP (xT_keep hXW hKm) hM2 hO2
      refine lv_aload_n hx hb dL_law_505 rfl (lv_at hl 5 rfl) ?_
      refine ctV (n := 0) hx hb hml hown hT ⟨c_M_thrown l K (b + 104) 0 wn ar oc lc st tk wa pk muM prM co cn bs bl cu Pn le bcM bb ld, ⟨_, _, _, Or.inl ⟨rfl, rfl⟩⟩, mt_531, mt_5, by decide, by decide +kernel, by decide, by decide, (by show cc + 1 + 0 ≤ 649577; omega), (by show ss + 6 + 0 ≤ 7147374; omega)⟩ PC.blind mt_528 mt_529 mt_530 (va_RVof (ci := 4) (q0 := 0) hK hM2 rfl rfl) (As := []) (rest := []) rfl (PC.at ⟨hT, hK⟩ hM2) hl.1 rfl (Nat.le_of_ble_eq_true rfl) dL_law_506 (krI0 rfl rfl (fun _ h => h) (fun r7 hr7 => ?_))
      subst hr7
      refine lv_iload hx hb dL_law_509 (lv_at hl 1 rfl) ?_
      refine iz_icmp_eq (tgt := 516) hx hb ⟨by omega, by omega⟩ ⟨by omega, by omega⟩ dL_law_511 (by decide) (fun h9 => ?_) (fun h9 => ?_)
      · refine lv_iload hx hb dL_law_516 (lv_at hl 1 rfl) ?_
        refine iz_if_ne (tgt := 532) hx hb ⟨by omega, by omega⟩ dL_law_518 (by decide) (fun h9 => ?_) (fun h9 => ?_)
        · exact absurd rfl h9
        · refine lv_aload_n hx hb dL_law_521 rfl (lv_at hl 6 rfl) ?_
          refine iz_iconst hx hb dL_law_522 ?_
          refine iz_lald hx hb hK hO2 0 rfl 0 rfl (by omega) (by omega) dL_law_523 ?_
          refine lv_lload hx hb dL_law_524 (lv_at hl 0 rfl) ?_
          rw [e6]
          refine iz_lcs (v := v) (tgt := 532) hx hb dL_law_526 dL_law_527 (by decide) ?_
          refine lv_goto (tgt := 1049) hx hb dL_law_532 (by decide) ?_
          exact W.widen (by omega) (by omega) (kk H2 ls hk2 hLS2 (lv_sub hl [2, 3, 4, 5, 6] rfl))
      · exact absurd rfl h9
  · have hnC := hpx.2
    rcases hp2 with ⟨hn1, hM2⟩ | ⟨hC2, hr6, hM2⟩
    · have hO2 := hA2.out (hke.P hO)
      have hLS2 : LwI K b H2 := LwI.of hLW hLS1 hLP (xT_keep hXW (hke.KQ0 hA2 hsz)) hM2 hO2
      refine lv_aload_n hx hb dL_law_505 rfl (lv_at hl 5 rfl) ?_
      refine ctV (n := 0) hx hb hml hown hT ⟨c_M_thrown l K (b + 104) 1 wn ar oc lc st tk wa pk muM prM co cn bs bl cu Pn le bcM bb ld, ⟨_, _, _, Or.inl ⟨rfl, rfl⟩⟩, mt_531, mt_5, by decide, by decide +kernel, by decide, by decide, (by show cc + 1 + 0 ≤ 649577; omega), (by show ss + 6 + 0 ≤ 7147374; omega)⟩ PC.blind mt_528 mt_529 mt_530 (va_RVof (ci := 4) (q0 := 0) hK hM2 rfl rfl) (As := []) (rest := []) rfl (PC.at ⟨hT, hK⟩ hM2) hl.1 rfl (Nat.le_of_ble_eq_true rfl) dL_law_506 (krI0 rfl rfl (fun _ h => h) (fun r7 hr7 => ?_))
      subst hr7
      refine lv_iload hx hb dL_law_509 (lv_at hl 1 rfl) ?_
      refine iz_icmp_eq (tgt := 516) hx hb ⟨by omega, by omega⟩ ⟨by omega, by omega⟩ dL_law_511 (by decide) (fun h9 => ?_) (fun h9 => ?_)
      · refine lv_iload hx hb dL_law_516 (lv_at hl 1 rfl) ?_
        refine iz_if_ne (tgt := 532) hx hb ⟨by omega, by omega⟩ dL_law_518 (by decide) (fun h9 => ?_) (fun h9 => ?_)
        · refine lv_goto (tgt := 1049) hx hb dL_law_532 (by decide) ?_
          exact W.widen (by omega) (by omega) (kk H2 ls hk2 hLS2 (lv_sub hl [2, 3, 4, 5, 6] rfl))
        · exact absurd h9 (by decide)
      · exact absurd rfl h9
    · exact absurd hC2 hnC
set_option maxHeartbeats 4000000 in
set_option maxRecDepth 100000 in
theorem lw_c6 {p : Program} {l : Launch} {e : Env} {s : State} {m : MethodId} {args : Array Value} {below : List Frame} {meth : Method} {c : Code} {H : Heap} {Q : State → Prop} {ls : Array Slot} {K : KG} {z b sb Ln i cc ss : Nat} {xs : Nat → Int32} (htr : l.stackTraces = false) (hx : p.tables.exec = Jvm.exec) (hb : c.code = code) (hml : c.maxLocals = 8) (hown : s.vm.findClass RL = some m.cls) (hE : EX K z s) (hz : z < s.heap.size) (hbs : s.heap.size = b) (hX : va_X sb Ln xs s s.heap) (hsb : sb < s.heap.size) (hLn : Ln ≤ 2048) (hi : i + 4 ≤ Ln) (hcc : cc + 30 ≤ 649577) (hss : ss + 300 ≤ 7147374) (hl : lv_has ls 8 [(4, .int (iI (i : Int))), (0, .ref sb), (1, .ref b), (2, .ref (b + 104)), (3, .ref (b + 119))]) (hk0 : KE s.heap H) (hLS : LwI K b H)
    (kk : ∀ (H1 : Heap) (ls1 : Array Slot), KE s.heap H1 → LwI K b H1 → lv_has ls1 8 [(4, .int (iI (i : Int))), (0, .ref sb), (1, .ref b), (2, .ref (b + 104)), (3, .ref (b + 119))] → W p l e rmLaw s m args below meth c H1 [] (cc + 30) (ss + 300) Q (F0 m 1049 ls1 [])) : W p l e rmLaw s m args below meth c H [] cc ss Q (F0 m 535 ls []) := by
  obtain ⟨hT, hK⟩ := hE.1
  obtain ⟨wn, ar, oc, lc, th, wa, Kn, mu, pr, bg, ch, tr, bn, bp, bc, sf, bl, cu, Pn, le, pl, Bn, bo, fr, lo, sl, cd, st, tk, pk, muM, prM, co, cn, bs, bcM, bb, ld, o9, hLW, hLS1, hLP, hXW, hM, hO⟩ := hLS
  obtain ⟨hP0, hPw, hPs, hPa⟩ := id hXW
  have hsz : b + 119 < H.size := (hO 0 _ rfl).lt
  have hn : wn ≤ 12 := hLW.1.1
  obtain ⟨x1, hx1⟩ : ∃ x1, x1 = (xs (i + 1)).toInt := ⟨_, rfl⟩
  have h1 : r32 x1 := by rw [hx1]; exact r32_of _
  obtain ⟨x2, hx2⟩ : ∃ x2, x2 = (xs (i + 2)).toInt := ⟨_, rfl⟩
  have h2 : r32 x2 := by rw [hx2]; exact r32_of _
  obtain ⟨x3, hx3⟩ : ∃ x3, x3 = (xs (i + 3)).toInt := ⟨_, rfl⟩
  have h3 : r32 x3 := by rw [hx3]; exact r32_of _
  obtain ⟨j, hj, hjs⟩ := pickN 10 (by omega) x1 10 (by omega)
  have epk := (hLS1 j hj).2.1
  refine lv_aload_n hx hb dL_law_535 rfl (lv_at hl 2 rfl) ?_
  refine lv_aload_n hx hb dL_law_536 rfl (lv_at hl 1 rfl) ?_
  refine lv_iload hx hb dL_law_537 (lv_at hl 0 rfl) ?_
  refine iz_iconst hx hb dL_law_539 ?_
  refine iz_iadd hx hb dL_law_540 ?_
  refine iz_sldv hx hb hX hsb hk0 (i + 1) (by omega) (by omega) hLn hx1 dL_law_541 ?_
  refine lv_aload_n hx hb dL_law_542 rfl (lv_at hl 1 rfl) ?_
  refine lv_iload hx hb dL_law_543 (lv_at hl 0 rfl) ?_
  refine iz_iconst hx hb dL_law_545 ?_
  refine iz_iadd hx hb dL_law_546 ?_
  refine iz_sldv hx hb hX hsb hk0 (i + 2) (by omega) (by omega) hLn hx2 dL_law_547 ?_
  refine lv_aload_n hx hb dL_law_548 rfl (lv_at hl 1 rfl) ?_
  refine lv_iload hx hb dL_law_549 (lv_at hl 0 rfl) ?_
  refine iz_iconst hx hb dL_law_551 ?_
  refine iz_iadd hx hb dL_law_552 ?_
  refine iz_sldv hx hb hX hsb hk0 (i + 3) (by omega) (by omega) hLn hx3 dL_law_553 ?_
  refine lv_aload_n hx hb dL_law_554 rfl (lv_at hl 4 rfl) ?_
  refine ctS (n := 5) hx hb hml hown hT ⟨c_L_pack l htr K z b wn j (Kn j) (mu j) (pr j) (bg j) (ch j) (tr j) (bn j) (bp j) (bc j) (sf j) x1 x2 x3 h1 h2 h3 hj hjs (hLS1 j hj).1.1 (b + 119) o9 (fun h9 => by (try dsimp only at h9); omega), ⟨_, _, _, Or.inr rfl⟩, mt_372, mt_0, by decide, by decide +kernel, by decide, by decide, (by show cc + 4 ≤ 649577; omega), (by show ss + 24 ≤ 7147374; omega)⟩ PX.blind mt_370 mt_371 (As := [.ref b, .int (iI x1), .int (iI x2), .int (iI x3), .ref (b + 119)]) (rest := []) rfl (PX.at hE (hk0.2 z hz) ⟨⟨hPs j hj, hP0.sub [0, 3] rfl⟩, hO⟩) hl.1 rfl (Nat.le_of_ble_eq_true rfl) dL_law_555 (krH (c1 := cc + 4) (s1 := ss + 24) rfl rfl (fun r t1 H1 L1 hA1 hL1 hp1 => ?_))
  have hG1 : ∀ q, (fun q => (fun q => b + 28 + 7 * j ≤ q ∧ q < b + 28 + 7 * j + 7) q ∨ q = b + 119) q → s.heap.size ≤ q := by intro q h9; (try dsimp only at h9); omega
  have hk1 : KE s.heap H1 := hk0.af hA1 hG1
  refine W.drop (locs := []) (fun q hq => hG1 _ (hL1 q hq)) ?_
  have hGM : ∀ q : Nat, (fun q => (fun q => b + 28 + 7 * j ≤ q ∧ q < b + 28 + 7 * j + 7) q ∨ q = b + 119) q → q < b + 104 ∨ q = b + 119 := by intro q h9; (try dsimp only at h9); omega
  have hGF : ∀ q : Nat, q < b + 104 → (fun q => (fun q => b + 28 + 7 * j ≤ q ∧ q < b + 28 + 7 * j + 7) q ∨ q = b + 119) q → (fun q => b + 28 + 7 * j ≤ q ∧ q < b + 28 + 7 * j + 7) q := by intro q hq h9; rcases h9 with h9 | h9; exact h9; omega
  have hM1 : va_P (kD K) vcl (mdW K (b + 104) cd wn ar oc lc st tk wa pk muM prM co cn bs bl cu Pn le bcM bb ld) H1 := hA1.Pm hM (fun x hx9 h9 => by have h8 := mem_mdW hx9; have h7 := hGM x.1 h9; omega)
  refine lv_istore (lv' := [(5, .int (iI r)), (4, .int (iI (i : Int))), (0, .ref sb), (1, .ref b), (2, .ref (b + 104)), (3, .ref (b + 119))]) hx hb dL_law_558 hl (by decide) rfl (fun ls hl => ?_)
  refine lv_aload_n hx hb dL_law_560 rfl (lv_at hl 4 rfl) ?_
  refine lv_aload_n hx hb dL_law_561 rfl (lv_at hl 2 rfl) ?_
  refine lv_iload hx hb dL_law_562 (lv_at hl 1 rfl) ?_
  refine iz_iconst hx hb dL_law_564 ?_
  refine iz_iadd hx hb dL_law_565 ?_
  refine iz_sldv hx hb hX hsb hk1 (i + 1) (by omega) (by omega) hLn hx1 dL_law_566 ?_
  refine lv_aload_n hx hb dL_law_567 rfl (lv_at hl 2 rfl) ?_
  refine lv_iload hx hb dL_law_568 (lv_at hl 1 rfl) ?_
  refine iz_iconst hx hb dL_law_570 ?_
  refine iz_iadd hx hb dL_law_571 ?_
  refine iz_sldv hx hb hX hsb hk1 (i + 2) (by omega) (by omega) hLn hx2 dL_law_572 ?_
  refine lv_aload_n hx hb dL_law_573 rfl (lv_at hl 2 rfl) ?_
  refine lv_iload hx hb dL_law_574 (lv_at hl 1 rfl) ?_
  refine iz_iconst hx hb dL_law_576 ?_
  refine iz_iadd hx hb dL_law_577 ?_
  refine iz_sldv hx hb hX hsb hk1 (i + 3) (by omega) (by omega) hLn hx3 dL_law_578 ?_
  refine ctV (n := 3) hx hb hml hown hT ⟨c_M_pack l K (b + 104) cd wn ar oc lc st tk wa pk muM prM co cn bs bl cu Pn le bcM bb ld j x1 x2 x3 h1 h2 h3 hjs hLS1.pkb, ⟨_, _, _, Or.inl ⟨rfl, rfl⟩⟩, mt_579, mt_5, by decide, by decide +kernel, by decide, by decide, (by show cc + 4 + 0 ≤ 649577; omega), (by show ss + 24 + 0 ≤ 7147374; omega)⟩ PC.blind mt_576 mt_577 mt_578 (va_RVof (ci := 4) (q0 := 0) hK hM1 rfl rfl) (As := [.int (iI x1), .int (iI x2), .int (iI x3)]) (rest := []) rfl (PC.at ⟨hT, hK⟩ hM1) hl.1 rfl (Nat.le_of_ble_eq_true rfl) dL_law_579 (krI (c1 := cc + 4) (s1 := ss + 24) rfl rfl (fun r6 t2 H2 L2 hA2 hL2 hp2 => ?_))
  have hG2 : ∀ q, (fun x => b + 104 ≤ x ∧ x < b + 104 + 15) q → s.heap.size ≤ q := by intro q h9; (try dsimp only at h9); omega
  have hk2 : KE s.heap H2 := hk1.af hA2 hG2
  refine W.drop (locs := []) (fun q hq => hG2 _ (hL2 q hq)) ?_
  refine lv_istore (lv' := [(6, .int (iI r6)), (5, .int (iI r)), (4, .int (iI (i : Int))), (0, .ref sb), (1, .ref b), (2, .ref (b + 104)), (3, .ref (b + 119))]) hx hb dL_law_582 hl (by decide) rfl (fun ls hl => ?_)
  rcases hp1 with ⟨rfl, r9, v, Hm, hq1, hq2, hq3, hOB⟩ | ⟨rfl, hke, hpx⟩ | ⟨rfl, hke, hpx⟩
  · obtain ⟨⟨hC, hD⟩, e9, bg9, ch9, hOK, hN⟩ := hq1
    rcases hp2 with ⟨hn1, hM2⟩ | ⟨hC2, hn2, hM2⟩ | ⟨hC2, hD2, hr6, hM2⟩
    · exact absurd hC hn1
    · omega
    · have hKm : KQ b (fun _ => False) Hm H2 := hOB.KQ0 hA2
      have hO2 := hA2.out hOB.2.2
      have hKQ : KQ b (fun q => b + 28 + 7 * j ≤ q ∧ q < b + 28 + 7 * j + 7) H H2 := hA1.KQ1 (F := fun q => b + 28 + 7 * j ≤ q ∧ q < b + 28 + 7 * j + 7) hA2 hsz hGF
      have hN2 := kq_shelf hKm hj (fun _ _ _ => id) hN
      have e6 : iI r6 = iI v := by rw [hr6, epk, ← e9]; exact hq2
      have hLS2 : LwI K b H2 := LwI.of hLW (hLS1.pack hj hD hOK) hLP (xT_shelf hXW hj hKQ hN2) hM2 hO2
      refine lv_aload_n hx hb dL_law_584 rfl (lv_at hl 5 rfl) ?_
      refine ctV (n := 0) hx hb hml hown hT ⟨c_M_thrown l K (b + 104) 0 wn ar oc lc st tk wa (ut pk j (pk j + 1)) (ut muM (4 * j + (pk j).toNat) x2) (ut prM (4 * j + (pk j).toNat) x3) co cn bs bl cu Pn le bcM bb ld, ⟨_, _, _, Or.inl ⟨rfl, rfl⟩⟩, mt_531, mt_5, by decide, by decide +kernel, by decide, by decide, (by show cc + 4 + 0 ≤ 649577; omega), (by show ss + 24 + 0 ≤ 7147374; omega)⟩ PC.blind mt_528 mt_529 mt_530 (va_RVof (ci := 4) (q0 := 0) hK hM2 rfl rfl) (As := []) (rest := []) rfl (PC.at ⟨hT, hK⟩ hM2) hl.1 rfl (Nat.le_of_ble_eq_true rfl) dL_law_585 (krI0 rfl rfl (fun _ h => h) (fun r7 hr7 => ?_))
      subst hr7
      refine lv_iload hx hb dL_law_588 (lv_at hl 1 rfl) ?_
      refine iz_icmp_eq (tgt := 595) hx hb ⟨by omega, by omega⟩ ⟨by omega, by omega⟩ dL_law_590 (by decide) (fun h9 => ?_) (fun h9 => ?_)
      · refine lv_iload hx hb dL_law_595 (lv_at hl 1 rfl) ?_
        refine iz_if_ne (tgt := 612) hx hb ⟨by omega, by omega⟩ dL_law_597 (by decide) (fun h9 => ?_) (fun h9 => ?_)
        · exact absurd rfl h9
        · refine lv_aload_n hx hb dL_law_600 rfl (lv_at hl 6 rfl) ?_
          refine iz_iconst hx hb dL_law_601 ?_
          refine iz_lald hx hb hK hO2 0 rfl 0 rfl (by omega) (by omega) dL_law_602 ?_
          refine lv_iload hx hb dL_law_603 (lv_at hl 0 rfl) ?_
          rw [e6]
          refine iz_i2l hx hb hq3 dL_law_605 ?_
          refine iz_lcs (v := v) (tgt := 612) hx hb dL_law_606 dL_law_607 (by decide) ?_
          refine lv_goto (tgt := 1049) hx hb dL_law_612 (by decide) ?_
          exact W.widen (by omega) (by omega) (kk H2 ls hk2 hLS2 (lv_sub hl [2, 3, 4, 5, 6] rfl))
      · exact absurd rfl h9
  · have hnC := (Or.resolve_right hpx (fun h9 => absurd h9.1 (by decide))).2
    rcases hp2 with ⟨hn1, hM2⟩ | ⟨hC2, hn2, hM2⟩ | ⟨hC2, hD2, hr6, hM2⟩
    · have hO2 := hA2.out (hke.P hO)
      have hLS2 : LwI K b H2 := LwI.of hLW hLS1 hLP (xT_keep hXW (hke.KQ0 hA2 hsz)) hM2 hO2
      refine lv_aload_n hx hb dL_law_584 rfl (lv_at hl 5 rfl) ?_
      refine ctV (n := 0) hx hb hml hown hT ⟨c_M_thrown l K (b + 104) 1 wn ar oc lc st tk wa pk muM prM co cn bs bl cu Pn le bcM bb ld, ⟨_, _, _, Or.inl ⟨rfl, rfl⟩⟩, mt_531, mt_5, by decide, by decide +kernel, by decide, by decide, (by show cc + 4 + 0 ≤ 649577; omega), (by show ss + 24 + 0 ≤ 7147374; omega)⟩ PC.blind mt_528 mt_529 mt_530 (va_RVof (ci := 4) (q0 := 0) hK hM2 rfl rfl) (As := []) (rest := []) rfl (PC.at ⟨hT, hK⟩ hM2) hl.1 rfl (Nat.le_of_ble_eq_true rfl) dL_law_585 (krI0 rfl rfl (fun _ h => h) (fun r7 hr7 => ?_))
      subst hr7
      refine lv_iload hx hb dL_law_588 (lv_at hl 1 rfl) ?_
      refine iz_icmp_eq (tgt := 595) hx hb ⟨by omega, by omega⟩ ⟨by omega, by omega⟩ dL_law_590 (by decide) (fun h9 => ?_) (fun h9 => ?_)
      · refine lv_iload hx hb dL_law_595 (lv_at hl 1 rfl) ?_
        refine iz_if_ne (tgt := 612) hx hb ⟨by omega, by omega⟩ dL_law_597 (by decide) (fun h9 => ?_) (fun h9 => ?_)
        · refine lv_goto (tgt := 1049) hx hb dL_law_612 (by decide) ?_
          exact W.widen (by omega) (by omega) (kk H2 ls hk2 hLS2 (lv_sub hl [2, 3, 4, 5, 6] rfl))
        · exact absurd h9 (by decide)
      · exact absurd rfl h9
    · exact absurd hC2 hnC
    · exact absurd hC2 hnC
  · obtain ⟨-, hCx, hnD⟩ := Or.resolve_left hpx (fun h9 => absurd h9.1 (by decide))
    rcases hp2 with ⟨hn1, hM2⟩ | ⟨hC2, hn2, hM2⟩ | ⟨hC2, hD2, hr6, hM2⟩
    · exact absurd hCx hn1
    · have hO2 := hA2.out (hke.P hO)
      have hLS2 : LwI K b H2 := LwI.of hLW hLS1 hLP (xT_keep hXW (hke.KQ0 hA2 hsz)) hM2 hO2
      refine lv_aload_n hx hb dL_law_584 rfl (lv_at hl 5 rfl) ?_
      refine ctV (n := 0) hx hb hml hown hT ⟨c_M_thrown l K (b + 104) 2 wn ar oc lc st tk wa pk muM prM co cn bs bl cu Pn le bcM bb ld, ⟨_, _, _, Or.inl ⟨rfl, rfl⟩⟩, mt_531, mt_5, by decide, by decide +kernel, by decide, by decide, (by show cc + 4 + 0 ≤ 649577; omega), (by show ss + 24 + 0 ≤ 7147374; omega)⟩ PC.blind mt_528 mt_529 mt_530 (va_RVof (ci := 4) (q0 := 0) hK hM2 rfl rfl) (As := []) (rest := []) rfl (PC.at ⟨hT, hK⟩ hM2) hl.1 rfl (Nat.le_of_ble_eq_true rfl) dL_law_585 (krI0 rfl rfl (fun _ h => h) (fun r7 hr7 => ?_))
      subst hr7
      refine lv_iload hx hb dL_law_588 (lv_at hl 1 rfl) ?_
      refine iz_icmp_eq (tgt := 595) hx hb ⟨by omega, by omega⟩ ⟨by omega, by omega⟩ dL_law_590 (by decide) (fun h9 => ?_) (fun h9 => ?_)
      · refine lv_iload hx hb dL_law_595 (lv_at hl 1 rfl) ?_
        refine iz_if_ne (tgt := 612) hx hb ⟨by omega, by omega⟩ dL_law_597 (by decide) (fun h9 => ?_) (fun h9 => ?_)
        · refine lv_goto (tgt := 1049) hx hb dL_law_612 (by decide) ?_
          exact W.widen (by omega) (by omega) (kk H2 ls hk2 hLS2 (lv_sub hl [2, 3, 4, 5, 6] rfl))
        · exact absurd h9 (by decide)
      · exact absurd rfl h9
    · omega
set_option maxHeartbeats 4000000 in
set_option maxRecDepth 100000 in
theorem lw_c7 {p : Program} {l : Launch} {e : Env} {s : State} {m : MethodId} {args : Array Value} {below : List Frame} {meth : Method} {c : Code} {H : Heap} {Q : State → Prop} {ls : Array Slot} {K : KG} {z b sb Ln i cc ss : Nat} {xs : Nat → Int32} (htr : l.stackTraces = false) (hx : p.tables.exec = Jvm.exec) (hb : c.code = code) (hml : c.maxLocals = 8) (hown : s.vm.findClass RL = some m.cls) (hE : EX K z s) (hz : z < s.heap.size) (hbs : s.heap.size = b) (hX : va_X sb Ln xs s s.heap) (hsb : sb < s.heap.size) (hLn : Ln ≤ 2048) (hi : i + 4 ≤ Ln) (hcc : cc + 30 ≤ 649577) (hss : ss + 300 ≤ 7147374) (hl : lv_has ls 8 [(4, .int (iI (i : Int))), (0, .ref sb), (1, .ref b), (2, .ref (b + 104)), (3, .ref (b + 119))]) (hk0 : KE s.heap H) (hLS : LwI K b H)
    (kk : ∀ (H1 : Heap) (ls1 : Array Slot), KE s.heap H1 → LwI K b H1 → lv_has ls1 8 [(4, .int (iI (i : Int))), (0, .ref sb), (1, .ref b), (2, .ref (b + 104)), (3, .ref (b + 119))] → W p l e rmLaw s m args below meth c H1 [] (cc + 30) (ss + 300) Q (F0 m 1049 ls1 [])) : W p l e rmLaw s m args below meth c H [] cc ss Q (F0 m 615 ls []) := by
  obtain ⟨hT, hK⟩ := hE.1
  obtain ⟨wn, ar, oc, lc, th, wa, Kn, mu, pr, bg, ch, tr, bn, bp, bc, sf, bl, cu, Pn, le, pl, Bn, bo, fr, lo, sl, cd, st, tk, pk, muM, prM, co, cn, bs, bcM, bb, ld, o9, hLW, hLS1, hLP, hXW, hM, hO⟩ := hLS
  obtain ⟨hP0, hPw, hPs, hPa⟩ := id hXW
  have hsz : b + 119 < H.size := (hO 0 _ rfl).lt
  have hn : wn ≤ 12 := hLW.1.1
  obtain ⟨x1, hx1⟩ : ∃ x1, x1 = (xs (i + 1)).toInt := ⟨_, rfl⟩
  have h1 : r32 x1 := by rw [hx1]; exact r32_of _
  obtain ⟨x2, hx2⟩ : ∃ x2, x2 = (xs (i + 2)).toInt := ⟨_, rfl⟩
  have h2 : r32 x2 := by rw [hx2]; exact r32_of _
  obtain ⟨j, hj, hjs⟩ := pickN 10 (by omega) x1 10 (by omega)
  have epk := (hLS1 j hj).2.1
  obtain ⟨k2, hk4, hy2⟩ := pickN 4 (by omega) x2 (Kn j : Int) (by have := (hLS1 j hj).1.1.1; omega)
  refine lv_aload_n hx hb dL_law_615 rfl (lv_at hl 2 rfl) ?_
  refine lv_aload_n hx hb dL_law_616 rfl (lv_at hl 1 rfl) ?_
  refine lv_iload hx hb dL_law_617 (lv_at hl 0 rfl) ?_
  refine iz_iconst hx hb dL_law_619 ?_
  refine iz_iadd hx hb dL_law_620 ?_
  refine iz_sldv hx hb hX hsb hk0 (i + 1) (by omega) (by omega) hLn hx1 dL_law_621 ?_
  refine lv_aload_n hx hb dL_law_622 rfl (lv_at hl 1 rfl) ?_
  refine lv_iload hx hb dL_law_623 (lv_at hl 0 rfl) ?_
  refine iz_iconst hx hb dL_law_625 ?_
  refine iz_iadd hx hb dL_law_626 ?_
  refine iz_sldv hx hb hX hsb hk0 (i + 2) (by omega) (by omega) hLn hx2 dL_law_627 ?_
  refine lv_aload_n hx hb dL_law_628 rfl (lv_at hl 4 rfl) ?_
  refine ctS (n := 4) hx hb hml hown hT ⟨c_L_bought l htr K z b wn j k2 ar oc lc th wa (Kn j) (mu j) (pr j) (bg j) (ch j) (tr j) (bn j) (bp j) (bc j) (sf j) x1 x2 h1 h2 hj hjs hy2 hLW.wb (hLS1 j hj).1 (b + 119) o9 (fun h9 => by (try dsimp only at h9); omega), ⟨_, _, _, Or.inr rfl⟩, mt_389, mt_0, by decide, by decide +kernel, by decide, by decide, (by show cc + 3 ≤ 649577; omega), (by show ss + 18 ≤ 7147374; omega)⟩ PX.blind mt_387 mt_388 (As := [.ref b, .int (iI x1), .int (iI x2), .ref (b + 119)]) (rest := []) rfl (PX.at hE (hk0.2 z hz) ⟨⟨hPs j hj, hP0, hPw⟩, hO⟩) hl.1 rfl (Nat.le_of_ble_eq_true rfl) dL_law_629 (krH (c1 := cc + 3) (s1 := ss + 18) rfl rfl (fun r t1 H1 L1 hA1 hL1 hp1 => ?_))
  have hG1 : ∀ q, (fun q => (fun q => b + 28 + 7 * j ≤ q ∧ q < b + 28 + 7 * j + 7) q ∨ q = b + 119) q → s.heap.size ≤ q := by intro q h9; (try dsimp only at h9); omega
  have hk1 : KE s.heap H1 := hk0.af hA1 hG1
  refine W.drop (locs := []) (fun q hq => hG1 _ (hL1 q hq)) ?_
  have hGM : ∀ q : Nat, (fun q => (fun q => b + 28 + 7 * j ≤ q ∧ q < b + 28 + 7 * j + 7) q ∨ q = b + 119) q → q < b + 104 ∨ q = b + 119 := by intro q h9; (try dsimp only at h9); omega
  have hGF : ∀ q : Nat, q < b + 104 → (fun q => (fun q => b + 28 + 7 * j ≤ q ∧ q < b + 28 + 7 * j + 7) q ∨ q = b + 119) q → (fun q => b + 28 + 7 * j ≤ q ∧ q < b + 28 + 7 * j + 7) q := by intro q hq h9; rcases h9 with h9 | h9; exact h9; omega
  have hM1 : va_P (kD K) vcl (mdW K (b + 104) cd wn ar oc lc st tk wa pk muM prM co cn bs bl cu Pn le bcM bb ld) H1 := hA1.Pm hM (fun x hx9 h9 => by have h8 := mem_mdW hx9; have h7 := hGM x.1 h9; omega)
  refine lv_istore (lv' := [(5, .int (iI r)), (4, .int (iI (i : Int))), (0, .ref sb), (1, .ref b), (2, .ref (b + 104)), (3, .ref (b + 119))]) hx hb dL_law_632 hl (by decide) rfl (fun ls hl => ?_)
  refine lv_aload_n hx hb dL_law_634 rfl (lv_at hl 4 rfl) ?_
  refine lv_aload_n hx hb dL_law_635 rfl (lv_at hl 2 rfl) ?_
  refine lv_iload hx hb dL_law_636 (lv_at hl 1 rfl) ?_
  refine iz_iconst hx hb dL_law_638 ?_
  refine iz_iadd hx hb dL_law_639 ?_
  refine iz_sldv hx hb hX hsb hk1 (i + 1) (by omega) (by omega) hLn hx1 dL_law_640 ?_
  refine lv_aload_n hx hb dL_law_641 rfl (lv_at hl 2 rfl) ?_
  refine lv_iload hx hb dL_law_642 (lv_at hl 1 rfl) ?_
  refine iz_iconst hx hb dL_law_644 ?_
  refine iz_iadd hx hb dL_law_645 ?_
  refine iz_sldv hx hb hX hsb hk1 (i + 2) (by omega) (by omega) hLn hx2 dL_law_646 ?_
  refine ctV (n := 2) hx hb hml hown hT ⟨c_M_bought l K (b + 104) cd wn ar oc lc st tk wa pk muM prM co cn bs bl cu Pn le bcM bb ld j k2 x1 x2 h1 h2 hj hjs (fun a9 b9 => hy2 a9 (by rw [epk] at b9; exact b9)) hLW.1 (hLS1.pkb j hj) (hLS1.mp j hj), ⟨_, _, _, Or.inl ⟨rfl, rfl⟩⟩, mt_585, mt_5, by decide, by decide +kernel, by decide, by decide, (by show cc + 3 + 0 ≤ 649577; omega), (by show ss + 18 + 0 ≤ 7147374; omega)⟩ PC.blind mt_582 mt_583 mt_584 (va_RVof (ci := 4) (q0 := 0) hK hM1 rfl rfl) (As := [.int (iI x1), .int (iI x2)]) (rest := []) rfl (PC.at ⟨hT, hK⟩ hM1) hl.1 rfl (Nat.le_of_ble_eq_true rfl) dL_law_647 (krI (c1 := cc + 3) (s1 := ss + 18) rfl rfl (fun r6 t2 H2 L2 hA2 hL2 hp2 => ?_))
  have hG2 : ∀ q, (fun x => b + 104 ≤ x ∧ x < b + 104 + 15) q → s.heap.size ≤ q := by intro q h9; (try dsimp only at h9); omega
  have hk2 : KE s.heap H2 := hk1.af hA2 hG2
  refine W.drop (locs := []) (fun q hq => hG2 _ (hL2 q hq)) ?_
  refine lv_istore (lv' := [(6, .int (iI r6)), (5, .int (iI r)), (4, .int (iI (i : Int))), (0, .ref sb), (1, .ref b), (2, .ref (b + 104)), (3, .ref (b + 119))]) hx hb dL_law_650 hl (by decide) rfl (fun ls hl => ?_)
  rcases hp1 with ⟨rfl, r9, v, Hm, hq1, hq2, hq3, hOB⟩ | ⟨rfl, hke, hpx⟩
  · obtain ⟨hC, hB9, tr9, bn9, bp9, bc9, hI9, hN⟩ := hq1
    have hk9 : k2 < Kn j := by have h8 := hy2 hC.2.1 hC.2.2; have h9 := hC.2; omega
    rcases hp2 with ⟨hn1, hM2⟩ | ⟨hC2, co9, cn9, bs9, hR9, hr6, hM2⟩
    · omega
    · have hKm : KQ b (fun _ => False) Hm H2 := hOB.KQ0 hA2
      have hO2 := hA2.out hOB.2.2
      have hKQ : KQ b (fun q => b + 28 + 7 * j ≤ q ∧ q < b + 28 + 7 * j + 7) H H2 := hA1.KQ1 (F := fun q => b + 28 + 7 * j ≤ q ∧ q < b + 28 + 7 * j + 7) hA2 hsz hGF
      have hN2 := kq_shelf hKm hj (fun _ _ _ => id) hN
      have e6 : iI r6 = iI v := by rw [hr6, buy_eq hB9 hk9 hR9 (hLS1.kn hj) (hLW.nd hj).symm (fun i9 h9 => ((hLS1 j hj).2.2 i9 h9).1) (fun i9 h9 => ((hLS1 j hj).2.2 i9 h9).2)]; exact hq2
      have hLS2 : LwI K b H2 := LwI.of hLW (hLS1.put hI9) hLP (xT_shelf hXW hj hKQ hN2) hM2 hO2
      refine lv_aload_n hx hb dL_law_652 rfl (lv_at hl 5 rfl) ?_
      refine ctV (n := 0) hx hb hml hown hT ⟨c_M_thrown l K (b + 104) 0 wn ar oc lc st tk wa pk muM prM co9 cn9 bs9 bl cu Pn le bcM bb ld, ⟨_, _, _, Or.inl ⟨rfl, rfl⟩⟩, mt_531, mt_5, by decide, by decide +kernel, by decide, by decide, (by show cc + 3 + 0 ≤ 649577; omega), (by show ss + 18 + 0 ≤ 7147374; omega)⟩ PC.blind mt_528 mt_529 mt_530 (va_RVof (ci := 4) (q0 := 0) hK hM2 rfl rfl) (As := []) (rest := []) rfl (PC.at ⟨hT, hK⟩ hM2) hl.1 rfl (Nat.le_of_ble_eq_true rfl) dL_law_653 (krI0 rfl rfl (fun _ h => h) (fun r7 hr7 => ?_))
      subst hr7
      refine lv_iload hx hb dL_law_656 (lv_at hl 1 rfl) ?_
      refine iz_icmp_eq (tgt := 663) hx hb ⟨by omega, by omega⟩ ⟨by omega, by omega⟩ dL_law_658 (by decide) (fun h9 => ?_) (fun h9 => ?_)
      · refine lv_iload hx hb dL_law_663 (lv_at hl 1 rfl) ?_
        refine iz_if_ne (tgt := 680) hx hb ⟨by omega, by omega⟩ dL_law_665 (by decide) (fun h9 => ?_) (fun h9 => ?_)
        · exact absurd rfl h9
        · refine lv_aload_n hx hb dL_law_668 rfl (lv_at hl 6 rfl) ?_
          refine iz_iconst hx hb dL_law_669 ?_
          refine iz_lald hx hb hK hO2 0 rfl 0 rfl (by omega) (by omega) dL_law_670 ?_
          refine lv_iload hx hb dL_law_671 (lv_at hl 0 rfl) ?_
          rw [e6]
          refine iz_i2l hx hb hq3 dL_law_673 ?_
          refine iz_lcs (v := v) (tgt := 680) hx hb dL_law_674 dL_law_675 (by decide) ?_
          refine lv_goto (tgt := 1049) hx hb dL_law_680 (by decide) ?_
          exact W.widen (by omega) (by omega) (kk H2 ls hk2 hLS2 (lv_sub hl [2, 3, 4, 5, 6] rfl))
      · exact absurd rfl h9
  · have hnC := hpx.2
    rcases hp2 with ⟨hn1, hM2⟩ | ⟨hC2, co9, cn9, bs9, hR9, hr6, hM2⟩
    · have hO2 := hA2.out (hke.P hO)
      have hLS2 : LwI K b H2 := LwI.of hLW hLS1 hLP (xT_keep hXW (hke.KQ0 hA2 hsz)) hM2 hO2
      refine lv_aload_n hx hb dL_law_652 rfl (lv_at hl 5 rfl) ?_
      refine ctV (n := 0) hx hb hml hown hT ⟨c_M_thrown l K (b + 104) 1 wn ar oc lc st tk wa pk muM prM co cn bs bl cu Pn le bcM bb ld, ⟨_, _, _, Or.inl ⟨rfl, rfl⟩⟩, mt_531, mt_5, by decide, by decide +kernel, by decide, by decide, (by show cc + 3 + 0 ≤ 649577; omega), (by show ss + 18 + 0 ≤ 7147374; omega)⟩ PC.blind mt_528 mt_529 mt_530 (va_RVof (ci := 4) (q0 := 0) hK hM2 rfl rfl) (As := []) (rest := []) rfl (PC.at ⟨hT, hK⟩ hM2) hl.1 rfl (Nat.le_of_ble_eq_true rfl) dL_law_653 (krI0 rfl rfl (fun _ h => h) (fun r7 hr7 => ?_))
      subst hr7
      refine lv_iload hx hb dL_law_656 (lv_at hl 1 rfl) ?_
      refine iz_icmp_eq (tgt := 663) hx hb ⟨by omega, by omega⟩ ⟨by omega, by omega⟩ dL_law_658 (by decide) (fun h9 => ?_) (fun h9 => ?_)
      · refine lv_iload hx hb dL_law_663 (lv_at hl 1 rfl) ?_
        refine iz_if_ne (tgt := 680) hx hb ⟨by omega, by omega⟩ dL_law_665 (by decide) (fun h9 => ?_) (fun h9 => ?_)
        · refine lv_goto (tgt := 1049) hx hb dL_law_680 (by decide) ?_
          exact W.widen (by omega) (by omega) (kk H2 ls hk2 hLS2 (lv_sub hl [2, 3, 4, 5, 6] rfl))
        · exact absurd h9 (by decide)
      · exact absurd rfl h9
    · omega
set_option maxHeartbeats 4000000 in
set_option maxRecDepth 100000 in
theorem lw_c8 {p : Program} {l : Launch} {e : Env} {s : State} {m : MethodId} {args : Array Value} {below : List Frame} {meth : Method} {c : Code} {H : Heap} {Q : State → Prop} {ls : Array Slot} {K : KG} {z b sb Ln i cc ss : Nat} {xs : Nat → Int32} (htr : l.stackTraces = false) (hx : p.tables.exec = Jvm.exec) (hb : c.code = code) (hml : c.maxLocals = 8) (hown : s.vm.findClass RL = some m.cls) (hE : EX K z s) (hz : z < s.heap.size) (hbs : s.heap.size = b) (hX : va_X sb Ln xs s s.heap) (hsb : sb < s.heap.size) (hLn : Ln ≤ 2048) (hi : i + 4 ≤ Ln) (hcc : cc + 30 ≤ 649577) (hss : ss + 300 ≤ 7147374) (hl : lv_has ls 8 [(4, .int (iI (i : Int))), (0, .ref sb), (1, .ref b), (2, .ref (b + 104)), (3, .ref (b + 119))]) (hk0 : KE s.heap H) (hLS : LwI K b H)
    (kk : ∀ (H1 : Heap) (ls1 : Array Slot), KE s.heap H1 → LwI K b H1 → lv_has ls1 8 [(4, .int (iI (i : Int))), (0, .ref sb), (1, .ref b), (2, .ref (b + 104)), (3, .ref (b + 119))] → W p l e rmLaw s m args below meth c H1 [] (cc + 30) (ss + 300) Q (F0 m 1049 ls1 [])) : W p l e rmLaw s m args below meth c H [] cc ss Q (F0 m 683 ls []) := by
  obtain ⟨hT, hK⟩ := hE.1
  obtain ⟨wn, ar, oc, lc, th, wa, Kn, mu, pr, bg, ch, tr, bn, bp, bc, sf, bl, cu, Pn, le, pl, Bn, bo, fr, lo, sl, cd, st, tk, pk, muM, prM, co, cn, bs, bcM, bb, ld, o9, hLW, hLS1, hLP, hXW, hM, hO⟩ := hLS
  obtain ⟨hP0, hPw, hPs, hPa⟩ := id hXW
  have hsz : b + 119 < H.size := (hO 0 _ rfl).lt
  have hn : wn ≤ 12 := hLW.1.1
  obtain ⟨x1, hx1⟩ : ∃ x1, x1 = (xs (i + 1)).toInt := ⟨_, rfl⟩
  have h1 : r32 x1 := by rw [hx1]; exact r32_of _
  obtain ⟨j, hj, hjs⟩ := pickN 10 (by omega) x1 10 (by omega)
  have epk := (hLS1 j hj).2.1
  refine lv_aload_n hx hb dL_law_683 rfl (lv_at hl 2 rfl) ?_
  refine lv_aload_n hx hb dL_law_684 rfl (lv_at hl 1 rfl) ?_
  refine lv_iload hx hb dL_law_685 (lv_at hl 0 rfl) ?_
  refine iz_iconst hx hb dL_law_687 ?_
  refine iz_iadd hx hb dL_law_688 ?_
  refine iz_sldv hx hb hX hsb hk0 (i + 1) (by omega) (by omega) hLn hx1 dL_law_689 ?_
  refine lv_aload_n hx hb dL_law_690 rfl (lv_at hl 4 rfl) ?_
  refine ctS (n := 3) hx hb hml hown hT ⟨c_L_cents l htr K z b wn j ar oc lc th wa (Kn j) (mu j) (pr j) (bg j) (ch j) (tr j) (bn j) (bp j) (bc j) (sf j) x1 h1 hj hjs hLW.wb (hLS1 j hj).1 (b + 119) o9 (fun h9 => by (try dsimp only at h9); omega), ⟨_, _, _, Or.inr rfl⟩, mt_400, mt_0, by decide, by decide +kernel, by decide, by decide, (by show cc + 2 ≤ 649577; omega), (by show ss + 12 ≤ 7147374; omega)⟩ PX.blind mt_398 mt_399 (As := [.ref b, .int (iI x1), .ref (b + 119)]) (rest := []) rfl (PX.at hE (hk0.2 z hz) ⟨⟨hPs j hj, hP0, hPw⟩, hO⟩) hl.1 rfl (Nat.le_of_ble_eq_true rfl) dL_law_691 (krH (c1 := cc + 2) (s1 := ss + 12) rfl rfl (fun r t1 H1 L1 hA1 hL1 hp1 => ?_))
  have hG1 : ∀ q, (fun q => (fun q => b + 28 + 7 * j ≤ q ∧ q < b + 28 + 7 * j + 7) q ∨ q = b + 119) q → s.heap.size ≤ q := by intro q h9; (try dsimp only at h9); omega
  have hk1 : KE s.heap H1 := hk0.af hA1 hG1
  refine W.drop (locs := []) (fun q hq => hG1 _ (hL1 q hq)) ?_
  have hGM : ∀ q : Nat, (fun q => (fun q => b + 28 + 7 * j ≤ q ∧ q < b + 28 + 7 * j + 7) q ∨ q = b + 119) q → q < b + 104 ∨ q = b + 119 := by intro q h9; (try dsimp only at h9); omega
  have hGF : ∀ q : Nat, q < b + 104 → (fun q => (fun q => b + 28 + 7 * j ≤ q ∧ q < b + 28 + 7 * j + 7) q ∨ q = b + 119) q → (fun q => b + 28 + 7 * j ≤ q ∧ q < b + 28 + 7 * j + 7) q := by intro q hq h9; rcases h9 with h9 | h9; exact h9; omega
  have hM1 : va_P (kD K) vcl (mdW K (b + 104) cd wn ar oc lc st tk wa pk muM prM co cn bs bl cu Pn le bcM bb ld) H1 := hA1.Pm hM (fun x hx9 h9 => by have h8 := mem_mdW hx9; have h7 := hGM x.1 h9; omega)
  refine lv_istore (lv' := [(5, .int (iI r)), (4, .int (iI (i : Int))), (0, .ref sb), (1, .ref b), (2, .ref (b + 104)), (3, .ref (b + 119))]) hx hb dL_law_694 hl (by decide) rfl (fun ls hl => ?_)
  refine lv_aload_n hx hb dL_law_696 rfl (lv_at hl 4 rfl) ?_
  refine lv_aload_n hx hb dL_law_697 rfl (lv_at hl 2 rfl) ?_
  refine lv_iload hx hb dL_law_698 (lv_at hl 1 rfl) ?_
  refine iz_iconst hx hb dL_law_700 ?_
  refine iz_iadd hx hb dL_law_701 ?_
  refine iz_sldv hx hb hX hsb hk1 (i + 1) (by omega) (by omega) hLn hx1 dL_law_702 ?_
  refine ctV (n := 1) hx hb hml hown hT ⟨c_M_cents1 l K (b + 104) cd wn ar oc lc st tk wa pk muM prM co cn bs bl cu Pn le bcM bb ld j x1 h1 hj hjs hLW.1 (hLS1.pkb j hj) (hLS1.mp j hj), ⟨_, _, _, Or.inl ⟨rfl, rfl⟩⟩, mt_606, mt_5, by decide, by decide +kernel, by decide, by decide, (by show cc + 2 + 0 ≤ 649577; omega), (by show ss + 12 + 0 ≤ 7147374; omega)⟩ PC.blind mt_603 mt_604 mt_605 (va_RVof (ci := 4) (q0 := 0) hK hM1 rfl rfl) (As := [.int (iI x1)]) (rest := []) rfl (PC.at ⟨hT, hK⟩ hM1) hl.1 rfl (Nat.le_of_ble_eq_true rfl) dL_law_703 (krL (c1 := cc + 2) (s1 := ss + 12) rfl rfl (fun r6 t2 H2 L2 hA2 hL2 hp2 => ?_))
  have hG2 : ∀ q, (fun x => b + 104 ≤ x ∧ x < b + 104 + 15) q → s.heap.size ≤ q := by intro q h9; (try dsimp only at h9); omega
  have hk2 : KE s.heap H2 := hk1.af hA2 hG2
  refine W.drop (locs := []) (fun q hq => hG2 _ (hL2 q hq)) ?_
  refine lv_lstore (lv' := [(6, .long (lI r6)), (5, .int (iI r)), (4, .int (iI (i : Int))), (0, .ref sb), (1, .ref b), (2, .ref (b + 104)), (3, .ref (b + 119))]) hx hb dL_law_706 hl (by decide) rfl (fun ls hl => ?_)
  rcases hp1 with ⟨rfl, r9, v, Hm, hq1, hq2, hOB⟩ | ⟨rfl, hke, hpx⟩
  · obtain ⟨hC, hB9, tr9, bn9, bp9, bc9, hI9, hN⟩ := hq1
    rcases hp2 with ⟨hn1, hM2⟩ | ⟨hC2, co9, cn9, bs9, hR9, hr6, hM2⟩
    · exact absurd hC hn1
    · have hKm : KQ b (fun _ => False) Hm H2 := hOB.KQ0 hA2
      have hO2 := hA2.out hOB.2.2
      have hKQ : KQ b (fun q => b + 28 + 7 * j ≤ q ∧ q < b + 28 + 7 * j + 7) H H2 := hA1.KQ1 (F := fun q => b + 28 + 7 * j ≤ q ∧ q < b + 28 + 7 * j + 7) hA2 hsz hGF
      have hN2 := kq_shelf hKm hj (fun _ _ _ => id) hN
      have e6 : r6 = v := by rw [hr6, cost_eq hB9 hR9 (hLS1.kn hj) (hLW.nd hj).symm (fun i9 h9 => ((hLS1 j hj).2.2 i9 h9).1) (fun i9 h9 => ((hLS1 j hj).2.2 i9 h9).2)]; exact hq2
      have hLS2 : LwI K b H2 := LwI.of hLW (hLS1.put hI9) hLP (xT_shelf hXW hj hKQ hN2) hM2 hO2
      refine lv_aload_n hx hb dL_law_708 rfl (lv_at hl 5 rfl) ?_
      refine ctV (n := 0) hx hb hml hown hT ⟨c_M_thrown l K (b + 104) 0 wn ar oc lc st tk wa pk muM prM co9 cn9 bs9 bl cu Pn le bcM bb ld, ⟨_, _, _, Or.inl ⟨rfl, rfl⟩⟩, mt_531, mt_5, by decide, by decide +kernel, by decide, by decide, (by show cc + 2 + 0 ≤ 649577; omega), (by show ss + 12 + 0 ≤ 7147374; omega)⟩ PC.blind mt_528 mt_529 mt_530 (va_RVof (ci := 4) (q0 := 0) hK hM2 rfl rfl) (As := []) (rest := []) rfl (PC.at ⟨hT, hK⟩ hM2) hl.1 rfl (Nat.le_of_ble_eq_true rfl) dL_law_709 (krI0 rfl rfl (fun _ h => h) (fun r7 hr7 => ?_))
      subst hr7
      refine lv_iload hx hb dL_law_712 (lv_at hl 1 rfl) ?_
      refine iz_icmp_eq (tgt := 719) hx hb ⟨by omega, by omega⟩ ⟨by omega, by omega⟩ dL_law_714 (by decide) (fun h9 => ?_) (fun h9 => ?_)
      · refine lv_iload hx hb dL_law_719 (lv_at hl 1 rfl) ?_
        refine iz_if_ne (tgt := 735) hx hb ⟨by omega, by omega⟩ dL_law_721 (by decide) (fun h9 => ?_) (fun h9 => ?_)
        · exact absurd rfl h9
        · refine lv_aload_n hx hb dL_law_724 rfl (lv_at hl 6 rfl) ?_
          refine iz_iconst hx hb dL_law_725 ?_
          refine iz_lald hx hb hK hO2 0 rfl 0 rfl (by omega) (by omega) dL_law_726 ?_
          refine lv_lload hx hb dL_law_727 (lv_at hl 0 rfl) ?_
          rw [e6]
          refine iz_lcs (v := v) (tgt := 735) hx hb dL_law_729 dL_law_730 (by decide) ?_
          refine lv_goto (tgt := 1049) hx hb dL_law_735 (by decide) ?_
          exact W.widen (by omega) (by omega) (kk H2 ls hk2 hLS2 (lv_sub hl [2, 3, 4, 5, 6] rfl))
      · exact absurd rfl h9
  · have hnC := hpx.2
    rcases hp2 with ⟨hn1, hM2⟩ | ⟨hC2, co9, cn9, bs9, hR9, hr6, hM2⟩
    · have hO2 := hA2.out (hke.P hO)
      have hLS2 : LwI K b H2 := LwI.of hLW hLS1 hLP (xT_keep hXW (hke.KQ0 hA2 hsz)) hM2 hO2
      refine lv_aload_n hx hb dL_law_708 rfl (lv_at hl 5 rfl) ?_
      refine ctV (n := 0) hx hb hml hown hT ⟨c_M_thrown l K (b + 104) 1 wn ar oc lc st tk wa pk muM prM co cn bs bl cu Pn le bcM bb ld, ⟨_, _, _, Or.inl ⟨rfl, rfl⟩⟩, mt_531, mt_5, by decide, by decide +kernel, by decide, by decide, (by show cc + 2 + 0 ≤ 649577; omega), (by show ss + 12 + 0 ≤ 7147374; omega)⟩ PC.blind mt_528 mt_529 mt_530 (va_RVof (ci := 4) (q0 := 0) hK hM2 rfl rfl) (As := []) (rest := []) rfl (PC.at ⟨hT, hK⟩ hM2) hl.1 rfl (Nat.le_of_ble_eq_true rfl) dL_law_709 (krI0 rfl rfl (fun _ h => h) (fun r7 hr7 => ?_))
      subst hr7
      refine lv_iload hx hb dL_law_712 (lv_at hl 1 rfl) ?_
      refine iz_icmp_eq (tgt := 719) hx hb ⟨by omega, by omega⟩ ⟨by omega, by omega⟩ dL_law_714 (by decide) (fun h9 => ?_) (fun h9 => ?_)
      · refine lv_iload hx hb dL_law_719 (lv_at hl 1 rfl) ?_
        refine iz_if_ne (tgt := 735) hx hb ⟨by omega, by omega⟩ dL_law_721 (by decide) (fun h9 => ?_) (fun h9 => ?_)
        · refine lv_goto (tgt := 1049) hx hb dL_law_735 (by decide) ?_
          exact W.widen (by omega) (by omega) (kk H2 ls hk2 hLS2 (lv_sub hl [2, 3, 4, 5, 6] rfl))
        · exact absurd h9 (by decide)
      · exact absurd rfl h9
    · exact absurd hC2 hnC
set_option maxHeartbeats 4000000 in
set_option maxRecDepth 100000 in
theorem lw_c10 {p : Program} {l : Launch} {e : Env} {s : State} {m : MethodId} {args : Array Value} {below : List Frame} {meth : Method} {c : Code} {H : Heap} {Q : State → Prop} {ls : Array Slot} {K : KG} {z b sb Ln i cc ss : Nat} {xs : Nat → Int32} (htr : l.stackTraces = false) (hx : p.tables.exec = Jvm.exec) (hb : c.code = code) (hml : c.maxLocals = 8) (hown : s.vm.findClass RL = some m.cls) (hE : EX K z s) (hz : z < s.heap.size) (hbs : s.heap.size = b) (hX : va_X sb Ln xs s s.heap) (hsb : sb < s.heap.size) (hLn : Ln ≤ 2048) (hi : i + 4 ≤ Ln) (hcc : cc + 30 ≤ 649577) (hss : ss + 300 ≤ 7147374) (hl : lv_has ls 8 [(4, .int (iI (i : Int))), (0, .ref sb), (1, .ref b), (2, .ref (b + 104)), (3, .ref (b + 119))]) (hk0 : KE s.heap H) (hLS : LwI K b H)
    (kk : ∀ (H1 : Heap) (ls1 : Array Slot), KE s.heap H1 → LwI K b H1 → lv_has ls1 8 [(4, .int (iI (i : Int))), (0, .ref sb), (1, .ref b), (2, .ref (b + 104)), (3, .ref (b + 119))] → W p l e rmLaw s m args below meth c H1 [] (cc + 30) (ss + 300) Q (F0 m 1049 ls1 [])) : W p l e rmLaw s m args below meth c H [] cc ss Q (F0 m 752 ls []) := by
  obtain ⟨hT, hK⟩ := hE.1
  obtain ⟨wn, ar, oc, lc, th, wa, Kn, mu, pr, bg, ch, tr, bn, bp, bc, sf, bl, cu, Pn, le, pl, Bn, bo, fr, lo, sl, cd, st, tk, pk, muM, prM, co, cn, bs, bcM, bb, ld, o9, hLW, hLS1, hLP, hXW, hM, hO⟩ := hLS
  obtain ⟨hP0, hPw, hPs, hPa⟩ := id hXW
  have hsz : b + 119 < H.size := (hO 0 _ rfl).lt
  have hn : wn ≤ 12 := hLW.1.1
  obtain ⟨x1, hx1⟩ : ∃ x1, x1 = (xs (i + 1)).toInt := ⟨_, rfl⟩
  have h1 : r32 x1 := by rw [hx1]; exact r32_of _
  obtain ⟨x2, hx2⟩ : ∃ x2, x2 = (xs (i + 2)).toInt := ⟨_, rfl⟩
  have h2 : r32 x2 := by rw [hx2]; exact r32_of _
  refine lv_aload_n hx hb dL_law_752 rfl (lv_at hl 2 rfl) ?_
  refine lv_aload_n hx hb dL_law_753 rfl (lv_at hl 1 rfl) ?_
  refine lv_iload hx hb dL_law_754 (lv_at hl 0 rfl) ?_
  refine iz_iconst hx hb dL_law_756 ?_
  refine iz_iadd hx hb dL_law_757 ?_
  refine iz_sldv hx hb hX hsb hk0 (i + 1) (by omega) (by omega) hLn hx1 dL_law_758 ?_
  refine lv_aload_n hx hb dL_law_759 rfl (lv_at hl 1 rfl) ?_
  refine lv_iload hx hb dL_law_760 (lv_at hl 0 rfl) ?_
  refine iz_iconst hx hb dL_law_762 ?_
  refine iz_iadd hx hb dL_law_763 ?_
  refine iz_sldv hx hb hX hsb hk0 (i + 2) (by omega) (by omega) hLn hx2 dL_law_764 ?_
  refine ctS (n := 3) hx hb hml hown hT ⟨c_L_bars l htr K z b wn bl cu Pn le pl Bn bo fr lo sl x1 x2 h1 h2 hLP.1, ⟨_, _, _, Or.inr rfl⟩, mt_404, mt_0, by decide, by decide +kernel, by decide, by decide, (by show cc + 3 ≤ 649577; omega), (by show ss + 18 ≤ 7147374; omega)⟩ PX.blind mt_402 mt_403 (As := [.ref b, .int (iI x1), .int (iI x2)]) (rest := []) rfl (PX.at hE (hk0.2 z hz) ⟨hPa, P1 hP0 0 rfl⟩) hl.1 rfl (Nat.le_of_ble_eq_true rfl) dL_law_765 (krH (c1 := cc + 3) (s1 := ss + 18) rfl rfl (fun r t1 H1 L1 hA1 hL1 hp1 => ?_))
  have hG1 : ∀ q, (fun q => (fun q => b + 98 ≤ q ∧ q < b + 98 + 6) q) q → s.heap.size ≤ q := by intro q h9; (try dsimp only at h9); omega
  have hk1 : KE s.heap H1 := hk0.af hA1 hG1
  refine W.drop (locs := []) (fun q hq => hG1 _ (hL1 q hq)) ?_
  have hGM : ∀ q : Nat, (fun q => (fun q => b + 98 ≤ q ∧ q < b + 98 + 6) q) q → q < b + 104 ∨ q = b + 119 := by intro q h9; (try dsimp only at h9); omega
  have hGF : ∀ q : Nat, q < b + 104 → (fun q => (fun q => b + 98 ≤ q ∧ q < b + 98 + 6) q) q → (fun q => b + 98 ≤ q ∧ q < b + 98 + 6) q := by intro q hq h9; exact h9
  have hM1 : va_P (kD K) vcl (mdW K (b + 104) cd wn ar oc lc st tk wa pk muM prM co cn bs bl cu Pn le bcM bb ld) H1 := hA1.Pm hM (fun x hx9 h9 => by have h8 := mem_mdW hx9; have h7 := hGM x.1 h9; omega)
  refine lv_istore (lv' := [(5, .int (iI r)), (4, .int (iI (i : Int))), (0, .ref sb), (1, .ref b), (2, .ref (b + 104)), (3, .ref (b + 119))]) hx hb dL_law_768 hl (by decide) rfl (fun ls hl => ?_)
  refine lv_aload_n hx hb dL_law_770 rfl (lv_at hl 4 rfl) ?_
  refine lv_aload_n hx hb dL_law_771 rfl (lv_at hl 2 rfl) ?_
  refine lv_iload hx hb dL_law_772 (lv_at hl 1 rfl) ?_
  refine iz_iconst hx hb dL_law_774 ?_
  refine iz_iadd hx hb dL_law_775 ?_
  refine iz_sldv hx hb hX hsb hk1 (i + 1) (by omega) (by omega) hLn hx1 dL_law_776 ?_
  refine lv_aload_n hx hb dL_law_777 rfl (lv_at hl 2 rfl) ?_
  refine lv_iload hx hb dL_law_778 (lv_at hl 1 rfl) ?_
  refine iz_iconst hx hb dL_law_780 ?_
  refine iz_iadd hx hb dL_law_781 ?_
  refine iz_sldv hx hb hX hsb hk1 (i + 2) (by omega) (by omega) hLn hx2 dL_law_782 ?_
  refine ctV (n := 2) hx hb hml hown hT ⟨c_M_bars l K (b + 104) cd wn ar oc lc st tk wa pk muM prM co cn bs bl cu Pn le bcM bb ld x1 x2 h1 h2 hLP.1, ⟨_, _, _, Or.inl ⟨rfl, rfl⟩⟩, mt_614, mt_5, by decide, by decide +kernel, by decide, by decide, (by show cc + 3 + 0 ≤ 649577; omega), (by show ss + 18 + 0 ≤ 7147374; omega)⟩ PC.blind mt_611 mt_612 mt_613 (va_RVof (ci := 4) (q0 := 0) hK hM1 rfl rfl) (As := [.int (iI x1), .int (iI x2)]) (rest := []) rfl (PC.at ⟨hT, hK⟩ hM1) hl.1 rfl (Nat.le_of_ble_eq_true rfl) dL_law_783 (krV (c1 := cc + 3) (s1 := ss + 18) rfl rfl (fun t2 H2 L2 hA2 hL2 hp2 => ?_))
  have hG2 : ∀ q, (fun x => b + 104 ≤ x ∧ x < b + 104 + 15) q → s.heap.size ≤ q := by intro q h9; (try dsimp only at h9); omega
  have hk2 : KE s.heap H2 := hk1.af hA2 hG2
  refine W.drop (locs := []) (fun q hq => hG2 _ (hL2 q hq)) ?_
  rcases hp1 with ⟨rfl, hq1⟩ | ⟨rfl, hke, hpx⟩ | ⟨rfl, hke, hpx⟩
  · obtain ⟨⟨hC, hD⟩, hN⟩ := hq1
    rcases hp2 with ⟨hn1, hM2⟩ | ⟨hC2, hn2, hM2⟩ | ⟨hC2, hD2, hM2⟩
    · exact absurd hC hn1
    · exact absurd (hD hn2.choose hn2.choose_spec.1) (by have h9 := hn2.choose_spec.2; omega)
    · have hsz1 : b + 119 < H1.size := by have h9 := hA1.2.2.1; omega
      have hKm : KQ b (fun _ => False) H1 H2 := hA2.KQ2 hsz1
      have hKQ : KQ b (fun q => b + 98 ≤ q ∧ q < b + 98 + 6) H H2 := hA1.KQ1 (F := fun q => b + 98 ≤ q ∧ q < b + 98 + 6) hA2 hsz hGF
      have hO2 := hA2.out (va_P_k1 hO (hA1.2.2.2.2 (b + 119) hsz (fun h9 => by have h8 : (b + 98 ≤ b + 119 ∧ b + 119 < b + 98 + 6) := h9; omega)))
      have hN2 := kq_saw hKm (fun _ _ _ => id) hN
      have hLS2 : LwI K b H2 := LwI.of hLW hLS1 ⟨⟨hC.1, hC.2, hLP.1.2.2.1, fun i9 h9 => ⟨(hLP.1.2.2.2 i9 h9).1, hD i9 h9⟩⟩, Or.inl rfl⟩ (xT_saw hXW hKQ hN2) hM2 hO2
      refine lv_aload_n hx hb dL_law_786 rfl (lv_at hl 4 rfl) ?_
      refine ctV (n := 0) hx hb hml hown hT ⟨c_M_thrown l K (b + 104) 0 wn ar oc lc st tk wa pk muM prM co cn bs x1 x2 Pn le bcM bb ld, ⟨_, _, _, Or.inl ⟨rfl, rfl⟩⟩, mt_531, mt_5, by decide, by decide +kernel, by decide, by decide, (by show cc + 3 + 0 ≤ 649577; omega), (by show ss + 18 + 0 ≤ 7147374; omega)⟩ PC.blind mt_528 mt_529 mt_530 (va_RVof (ci := 4) (q0 := 0) hK hM2 rfl rfl) (As := []) (rest := []) rfl (PC.at ⟨hT, hK⟩ hM2) hl.1 rfl (Nat.le_of_ble_eq_true rfl) dL_law_787 (krI0 rfl rfl (fun _ h => h) (fun r7 hr7 => ?_))
      subst hr7
      refine lv_iload hx hb dL_law_790 (lv_at hl 0 rfl) ?_
      refine iz_icmp_eq (tgt := 797) hx hb ⟨by omega, by omega⟩ ⟨by omega, by omega⟩ dL_law_792 (by decide) (fun h9 => ?_) (fun h9 => ?_)
      · refine lv_goto (tgt := 1049) hx hb dL_law_797 (by decide) ?_
        exact W.widen (by omega) (by omega) (kk H2 ls hk2 hLS2 (lv_sub hl [1, 2, 3, 4, 5] rfl))
      · exact absurd rfl h9
  · have hnC := (Or.resolve_right hpx (fun h9 => absurd h9.1 (by decide))).2
    rcases hp2 with ⟨hn1, hM2⟩ | ⟨hC2, hn2, hM2⟩ | ⟨hC2, hD2, hM2⟩
    · have hO2 := hA2.out (hke.P hO)
      have hLS2 : LwI K b H2 := LwI.of hLW hLS1 hLP (xT_keep hXW (hke.KQ0 hA2 hsz)) hM2 hO2
      refine lv_aload_n hx hb dL_law_786 rfl (lv_at hl 4 rfl) ?_
      refine ctV (n := 0) hx hb hml hown hT ⟨c_M_thrown l K (b + 104) 1 wn ar oc lc st tk wa pk muM prM co cn bs bl cu Pn le bcM bb ld, ⟨_, _, _, Or.inl ⟨rfl, rfl⟩⟩, mt_531, mt_5, by decide, by decide +kernel, by decide, by decide, (by show cc + 3 + 0 ≤ 649577; omega), (by show ss + 18 + 0 ≤ 7147374; omega)⟩ PC.blind mt_528 mt_529 mt_530 (va_RVof (ci := 4) (q0 := 0) hK hM2 rfl rfl) (As := []) (rest := []) rfl (PC.at ⟨hT, hK⟩ hM2) hl.1 rfl (Nat.le_of_ble_eq_true rfl) dL_law_787 (krI0 rfl rfl (fun _ h => h) (fun r7 hr7 => ?_))
      subst hr7
      refine lv_iload hx hb dL_law_790 (lv_at hl 0 rfl) ?_
      refine iz_icmp_eq (tgt := 797) hx hb ⟨by omega, by omega⟩ ⟨by omega, by omega⟩ dL_law_792 (by decide) (fun h9 => ?_) (fun h9 => ?_)
      · refine lv_goto (tgt := 1049) hx hb dL_law_797 (by decide) ?_
        exact W.widen (by omega) (by omega) (kk H2 ls hk2 hLS2 (lv_sub hl [1, 2, 3, 4, 5] rfl))
      · exact absurd rfl h9
    · exact absurd hC2 hnC
    · exact absurd hC2 hnC
  · obtain ⟨-, hCx, hnD⟩ := Or.resolve_left hpx (fun h9 => absurd h9.1 (by decide))
    rcases hp2 with ⟨hn1, hM2⟩ | ⟨hC2, hn2, hM2⟩ | ⟨hC2, hD2, hM2⟩
    · exact absurd hCx hn1
    · have hO2 := hA2.out (hke.P hO)
      have hLS2 : LwI K b H2 := LwI.of hLW hLS1 hLP (xT_keep hXW (hke.KQ0 hA2 hsz)) hM2 hO2
      refine lv_aload_n hx hb dL_law_786 rfl (lv_at hl 4 rfl) ?_
      refine ctV (n := 0) hx hb hml hown hT ⟨c_M_thrown l K (b + 104) 2 wn ar oc lc st tk wa pk muM prM co cn bs bl cu Pn le bcM bb ld, ⟨_, _, _, Or.inl ⟨rfl, rfl⟩⟩, mt_531, mt_5, by decide, by decide +kernel, by decide, by decide, (by show cc + 3 + 0 ≤ 649577; omega), (by show ss + 18 + 0 ≤ 7147374; omega)⟩ PC.blind mt_528 mt_529 mt_530 (va_RVof (ci := 4) (q0 := 0) hK hM2 rfl rfl) (As := []) (rest := []) rfl (PC.at ⟨hT, hK⟩ hM2) hl.1 rfl (Nat.le_of_ble_eq_true rfl) dL_law_787 (krI0 rfl rfl (fun _ h => h) (fun r7 hr7 => ?_))
      subst hr7
      refine lv_iload hx hb dL_law_790 (lv_at hl 0 rfl) ?_
      refine iz_icmp_eq (tgt := 797) hx hb ⟨by omega, by omega⟩ ⟨by omega, by omega⟩ dL_law_792 (by decide) (fun h9 => ?_) (fun h9 => ?_)
      · refine lv_goto (tgt := 1049) hx hb dL_law_797 (by decide) ?_
        exact W.widen (by omega) (by omega) (kk H2 ls hk2 hLS2 (lv_sub hl [1, 2, 3, 4, 5] rfl))
      · exact absurd rfl h9
    · exact absurd (hD2 hnD.choose hnD.choose_spec.1) (by have h9 := hnD.choose_spec.2; omega)
