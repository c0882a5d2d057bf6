-- THE LAW: its environment
theorem env_of {args : Array Value} {s : State} (hts : ∀ w ∈ lw_tbl, w.before args s = true) (n1 : (Cond.isRef (.static tNm "UNASSIGNED_STACK" stD)).before args s = true) (n2 : (Cond.isRef (.static tNm "SUPPRESSED_SENTINEL" liD)).before args s = true) (n3 : (Cond.not (.castable exS exA)).before args s = true) : ∃ (K : KG) (z : Nat), EX K z s ∧ z < s.heap.size := by
  have hTB : TB s := TB.of hts
  have ht : ∀ w ∈ TW, w.before args s = true := fun w h => hTB w h args
  obtain ⟨c0, i0, k0⟩ := u_known (C := RX) (T := FX) (N := 5) (n := 5) ht jnX (ht _ mt_15)
  obtain ⟨c1, i1, k1⟩ := u_known (C := RW) (T := FW) (N := 4) (n := 4) ht jnW (ht _ mt_24)
  obtain ⟨c2, i2, k2⟩ := u_known (C := RS) (T := FS) (N := 10) (n := 10) ht jnS (ht _ mt_46)
  obtain ⟨c3, i3, k3⟩ := u_known (C := RA) (T := FA) (N := 10) (n := 10) ht jnA (ht _ mt_85)
  obtain ⟨c4, i4, k4⟩ := u_known (C := RM) (T := FM) (N := 21) (n := 21) ht jnM (ht _ mt_458)
  obtain ⟨d0, q0, f0, a0, g0, h0⟩ := Cond.arrayClass_spec (ht _ mt_43)
  obtain ⟨d1, q1, f1, a1, g1, h1⟩ := Cond.arrayClass_spec (ht _ mt_527)
  obtain ⟨f2, d2, q2, a2, -, g2, h2, j2⟩ := Cond.arrayOver_spec (ht _ mt_23)
  obtain ⟨f3, d3, q3, a3, -, g3, h3, j3⟩ := Cond.arrayOver_spec (ht _ mt_45)
  obtain ⟨z1, hS1, c9, k9, e1, e2, e3⟩ := SL.of (hts _ ml_180) n1
  obtain ⟨z2, hS2, c8, k8, e4, e5, e6⟩ := SL.of (hts _ ml_182) n2
  cases e1.symm.trans e4
  cases e2.symm.trans e5
  cases e3.symm.trans e6
  refine ⟨(fun k => match k with | 0 => c0 | 1 => c1 | 2 => c2 | 3 => c3 | _ => c4, fun k => match k with | 0 => i0 | 1 => i1 | 2 => i2 | 3 => i3 | _ => i4, fun k => match k with | 0 => d0 | 1 => d1 | 2 => d2 | _ => d3), z1, ⟨⟨hTB, ?_, ?_⟩, hS1, hS2, va_Nc.of n3⟩, hS1.lt⟩
  · intro k q hq
    match k, hq with
    | 0, hq => cases hq; exact k0
    | 1, hq => cases hq; exact k1
    | 2, hq => cases hq; exact k2
    | 3, hq => cases hq; exact k3
    | 4, hq => cases hq; exact k4
    | k + 5, hq => simp at hq
  · intro k q hq
    match k, hq with
    | 0, hq => cases hq; exact ⟨fun N z => ⟨(fun k h => by cases h), q0, g0, f0, h0⟩, a0⟩
    | 1, hq => cases hq; exact ⟨fun N z => ⟨(fun k h => by cases h), q1, g1, f1, h1⟩, a1⟩
    | 2, hq => cases hq; exact ⟨fun N z => ⟨(fun k h => by cases h), q2, g2, f2, h2⟩, q2, f2, g2, h2, a2, j2⟩
    | 3, hq => cases hq; exact ⟨fun N z => ⟨(fun k h => by cases h), q3, g3, f3, h3⟩, q3, f3, g3, h3, a3, j3⟩
    | k + 4, hq => simp at hq
/-! THE CLAIM OUT OF ONE WALK OF THE LAW'S BODY. Your part is whole_start (and what it stands on); all else here is the same for every law, but numbers. -/
def R_law : String := "LayerQuantitiesLaw"
def lw_P (b : Addr) (xs : List Int32) (args : Array Value) (s : State) : Prop := args = #[.ref b] ∧ s.IntsAt b xs ∧ xs.length ≤ 2048 ∧ (Jvm.Cond.and given_1 narrow_1).before args s = true
def lw_Q (_ : Array Value) (s : State) (o : Outcome) (t : State) : Prop := o = .returned (some (.int 1)) ∧ Framed s o t [] 649577 7147374
def lw_Z (below : List Frame) (a : Array Value) (s : State) : State → Prop := fun t => ∃ o, t.status = .running ∧ Ended t below o ∧ lw_Q a s o t
/-- the law's own end, with 1 on the stack, nothing written that was there before, its room as the claim has it -/
theorem lw_ret {p : Program} {l : Launch} {e : Env} {s : State} {m : MethodId} {below : List Frame} {meth : Method} {c : Code} {b : Nat} (hx : p.tables.exec = Jvm.exec) (hb : c.code = code) (hr : meth.sig.returnType = ret) (hlocks : meth.locks = false) {pc : Nat} {H : Heap} {ls : Array Slot} (hdg : decode code pc = .ok (.ireturn, 1)) : W p l e room_1 s m #[Value.ref b] below meth c H [] 649577 7147374 (lw_Z below #[Value.ref b] s) (F0 m pc ls [.int 1]) := by
  intro T hT X
  obtain ⟨fs, hret, hrun, hended, hW, hframe⟩ := X.leave (v := some (.int 1)) (hlocks := hlocks) (fun h => by rw [hr] at h; cases h)
  have hmeth' : T.vm.method? m = some meth := X.method'
  refine ⟨T.setFrames fs, ?_, .returned (some (.int 1)), hrun, hended, rfl, ⟨_, rfl⟩, hW, hframe⟩
  jvm_step X.here [X.here.top, hx, hb, hdg, hmeth', hr, ret, narrow_b1]
  (try refine ⟨rfl, ?_⟩); (try refine ⟨rfl, ?_⟩)
  first | (intro acts; rw [hret _ acts rfl rfl rfl]) | rw [hret _ _ rfl rfl rfl]
  exact Steps.refl _
/-- what holds at the law's entry: the machine, the code, the tables' words (any of lw_tbl by 'hts w (by decide +kernel)'), the script of L ints xs at the cell b, what the Statement gives of the start (any of its parts by flat_of_before) -/
def lw_At (p : Program) (s : State) (m : MethodId) (meth : Method) (c : Code) (b L : Nat) (xs : Nat → Int32) : Prop :=
  p.tables.exec = Jvm.exec ∧ c.code = code ∧ meth.sig.returnType = ret ∧ c.maxLocals = 8 ∧ s.vm.findClass R_law = some m.cls ∧ (∀ w ∈ lw_tbl, w.before #[Value.ref b] s = true) ∧ va_X b L xs s s.heap ∧ b < s.heap.size ∧ meth.locks = false ∧ (Jvm.Cond.and given_1 narrow_1).before #[Value.ref b] s = true
set_option maxHeartbeats 4000000 in
set_option maxRecDepth 100000 in
/-- THE LAW, from its entry -/
theorem whole_start {p : Program} {e : Env} {s : State} {m : MethodId} {below : List Frame} {meth : Method} {c : Code} (l : Launch) (htr : l.stackTraces = false) {b L : Nat} {xs : Nat → Int32} (hL : L ≤ 2048) (C0 : lw_At p s m meth c b L xs) : W p l e room_1 s m #[Value.ref b] below meth c s.heap [] 0 0 (lw_Z below #[Value.ref b] s) (entryFrame m ([Value.ref b] : List Value).toArray 8) := by
  obtain ⟨hx, hb, hr, hml, hown, hts, hX, hbl, hlocks, hgv⟩ := id C0
  have hs := flat_of_before _ hgv
  replace hown : s.vm.findClass RL = some m.cls := hown
  obtain ⟨K, z, hE, hz⟩ := env_of hts (hs _ (by decide +kernel)) (hs _ (by decide +kernel)) (hs _ (by decide +kernel))
  obtain ⟨hT, hK⟩ := hE.1
  have hl := lv_entry ([.ref b]) (n := 8) (Nat.le_of_ble_eq_true rfl)
  rw [lg_entry_eq]
  generalize (lg_sl ([.ref b]) ++ List.replicate (8 - (lg_sl ([.ref b])).length) Slot.unset).toArray = ls at hl ⊢
  have hl : lv_has ls 8 [(0, .ref b)] := hl
  obtain ⟨b0, hb0⟩ : ∃ b0, s.heap.size = b0 := ⟨_, rfl⟩
  change W p l e rmLaw s m #[Value.ref b] below meth c s.heap [] 0 0 (lw_Z below #[Value.ref b] s) (F0 m 0 ls [])
  refine iz_new hx hb hT hK jnX tX tX_ok hown mt_14 mt_15 mt_1 (ci := 0) rfl dfX (Nat.le_of_ble_eq_true rfl) (Nat.le_of_ble_eq_true rfl) (z := b0) hb0 dL_law_0 (fun H1 hz1 hq1 ho1 => ?_)
  refine W.num (c1 := 1) (s1 := 5) rfl rfl ?_
  refine lv_dup hx hb dL_law_3 rfl ?_
  refine ctI (n := 0) hx hb hml hown hT ⟨c_X_init l K b0, ⟨_, _, _, Or.inl ⟨rfl, rfl⟩⟩, mt_18, mt_1, by decide, by decide +kernel, by decide, by decide, by decide, by decide⟩ PC.blind rfl rfl mt_16 mt_17 (As := []) (rest := [.ref b0]) rfl (PC.at ⟨hT, hK⟩ ⟨hz1, hq1⟩) hl.1 rfl (Nat.le_of_ble_eq_true rfl) dL_law_4 (krV (c1 := 104) (s1 := 605) rfl rfl (fun t9 H2 L9 hA9 hL9 hpo => ?_))
  have hk2 : KE s.heap H2 := KE.af ⟨by omega, fun q hq => ho1 q (by omega)⟩ hA9 (fun q h9 => by (try dsimp only at h9); omega)
  refine W.drop (locs := []) (fun q hq => Nat.le_trans (Nat.le_of_eq hb0) (hL9 q hq)) ?_
  obtain ⟨hz2, hXW⟩ := hpo
  clear hA9 hL9 hq1 ho1 hz1
  refine lv_astore_n (lv' := [(1, .ref b0), (0, .ref b)]) hx hb dL_law_7 rfl hl (by decide) rfl (fun ls hl => ?_)
  refine iz_new hx hb hT hK jnM tM tM_ok hown mt_457 mt_458 mt_5 (ci := 4) rfl dfM (Nat.le_of_ble_eq_true rfl) (Nat.le_of_ble_eq_true rfl) (z := b0 + 104) hz2 dL_law_8 (fun H3 hz1 hq1 ho1 => ?_)
  refine W.num (c1 := 105) (s1 := 626) rfl rfl ?_
  refine lv_dup hx hb dL_law_11 rfl ?_
  have hk3 : KE s.heap H3 := ⟨by omega, fun q hq => (ho1 q (by omega)).trans (hk2.2 q hq)⟩
  replace hXW := xT_keep hXW (fun q _ h4 _ => ho1 q h4)
  refine ctI (n := 0) hx hb hml hown hT ⟨c_M_init l K (b0 + 104), ⟨_, _, _, Or.inl ⟨rfl, rfl⟩⟩, mt_461, mt_5, by decide, by decide +kernel, by decide, by decide, by decide, by decide⟩ PC.blind rfl rfl mt_459 mt_460 (As := []) (rest := [.ref (b0 + 104)]) rfl (PC.at ⟨hT, hK⟩ ⟨hz1, hq1⟩) hl.1 rfl (Nat.le_of_ble_eq_true rfl) dL_law_12 (krV (c1 := 119) (s1 := 992) rfl rfl (fun t9 H4 L9 hA9 hL9 hpo => ?_))
  have hk4 : KE s.heap H4 := hk3.af hA9 (fun q h9 => by (try dsimp only at h9); omega)
  refine W.drop (locs := []) (fun q hq => by have h9 := hL9 q hq; (try dsimp only at h9); omega) ?_
  obtain ⟨hz4, hM⟩ := hpo
  replace hXW := xT_keep hXW (fun q _ h4 _ => hA9.2.2.2.2 q (by omega) (by omega))
  clear hA9 hL9 hq1 ho1 hz1 hz2
  refine lv_astore_n (lv' := [(2, .ref (b0 + 104)), (1, .ref b0), (0, .ref b)]) hx hb dL_law_15 rfl hl (by decide) rfl (fun ls hl => ?_)
  refine iz_iconst hx hb dL_law_16 ?_
  refine iz_newl2 hx hb hT hK 1 rfl (by omega) (Nat.le_of_ble_eq_true rfl) (Nat.le_of_ble_eq_true rfl) (z := b0 + 119) (by omega) dL_law_17 (fun H5 hz1 hO ho1 => ?_)
  refine W.num (c1 := 120) (s1 := 993) rfl rfl ?_
  have hk5 : KE s.heap H5 := ⟨by omega, fun q hq => (ho1 q (by omega)).trans (hk4.2 q hq)⟩
  replace hXW := xT_keep hXW (fun q _ h4 _ => ho1 q (by omega))
  replace hM := va_P_kp hM (fun x hx9 => ho1 x.1 (by have h8 := mem_mdW hx9; omega))
  refine lv_astore_n (lv' := [(3, .ref (b0 + 119)), (2, .ref (b0 + 104)), (1, .ref b0), (0, .ref b)]) hx hb dL_law_19 rfl hl (by decide) rfl (fun ls hl => ?_)
  refine iz_iconst hx hb dL_law_20 ?_
  refine lv_istore (lv' := [(4, .int (iI 0)), (3, .ref (b0 + 119)), (2, .ref (b0 + 104)), (1, .ref b0), (0, .ref b)]) hx hb dL_law_21 hl (by decide) rfl (fun ls hl => ?_)
  have hLW : liW 0 (fun _ => 0) (fun _ => 0) (fun _ => 0) (fun _ => 0) (fun _ => 0) (fun _ => 0) (fun _ _ => 0) := ⟨⟨by omega, fun i _ => ⟨⟨(show (0 : Int) ≤ 0 by omega), (show (0 : Int) ≤ 1000000 by omega)⟩, ⟨(show (0 : Int) ≤ 0 by omega), (show (0 : Int) ≤ 6 by omega)⟩, ⟨(show (0 : Int) ≤ 0 by omega), (show (0 : Int) ≤ 8 by omega)⟩⟩, fun q _ => ⟨⟨(show (0 : Int) ≤ 0 by omega), (show (0 : Int) < 10 by omega)⟩, ⟨(show (0 : Int) ≤ 0 by omega), (show (0 : Int) ≤ 500 by omega)⟩⟩, fun k _ => ⟨(show (0 : Int) ≤ 0 by omega), (show (0 : Int) ≤ 100 by omega)⟩⟩, fun i _ k _ => rfl⟩
  have hLS1 : liS (fun _ => 0) (fun _ => 0) (fun _ => 0) (fun _ => 0) (fun _ _ => 0) (fun _ _ => 0) (fun _ _ => 0) (fun _ _ => 0) (fun _ _ => 0) (fun _ => 0) (fun _ => 0) (fun _ => -1) := fun j _ => ⟨⟨⟨(show (0 : Nat) ≤ 4 by omega), fun i hi => absurd hi (Nat.not_lt_zero i), fun i hi => absurd hi (Nat.not_lt_zero i)⟩, ⟨(show (0 : Int) ≤ 0 by omega), (show (0 : Int) ≤ 6000001 by omega)⟩, ⟨(show (0 : Int) ≤ 0 by omega), (show (0 : Int) ≤ 61 by omega)⟩, Or.inl rfl⟩, rfl, fun i hi => absurd hi (Nat.not_lt_zero i)⟩
  have hLP : SwI 10000 0 0 (fun _ => 0) 0 0 (fun _ => 0) (fun _ => 0) := ⟨⟨⟨by omega, by omega⟩, ⟨by omega, by omega⟩, by omega, fun i hi => absurd hi (by omega)⟩, Or.inl rfl⟩
  refine lw_loop htr hx hb hml hown hE hz hb0 hX hbl hL ?_ 513 0 120 993 H5 ls (by omega) (by omega) (by omega) (by omega) (lv_sub hl [0, 4, 3, 2, 1] rfl) hk5 (LwI.of hLW hLS1 hLP hXW hM hO)
  intro H ls cc ss hk9 h1 h2
  refine W.widen h1 h2 ?_
  refine lv_iconst (v := 1) hx hb dL_law_1055 (by decide) ?_
  exact lw_ret hx hb hr hlocks dL_law_1056
