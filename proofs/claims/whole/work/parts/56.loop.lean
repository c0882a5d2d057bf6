-- THE LAW: its loop
theorem and15 (x : Int32) : ∃ k : Nat, k < 16 ∧ x &&& iI 15 = iI k := by
  refine ⟨(x &&& Int32.ofInt 15).toBitVec.toNat, ?_, ?_⟩
  · rw [Int32.toBitVec_and, BitVec.toNat_and]
    exact Nat.lt_of_le_of_lt Nat.and_le_right (by decide)
  · apply Int32.toBitVec_inj.mp
    unfold iI
    rw [Int32.toBitVec_ofInt, BitVec.ofInt_natCast, BitVec.ofNat_toNat, BitVec.setWidth_eq]
set_option maxHeartbeats 4000000 in
set_option maxRecDepth 100000 in
/-- the law's loop -/
theorem lw_loop {p : Program} {l : Launch} {e : Env} {s : State} {m : MethodId} {args : Array Value} {below : List Frame} {meth : Method} {c : Code} {Q : State → Prop} {K : KG} {z b sb Ln : Nat} {xs : Nat → Int32} (htr : l.stackTraces = false) (hx : p.tables.exec = Jvm.exec) (hb : c.code = code) (hml : c.maxLocals = 8) (hown : s.vm.findClass RL = some m.cls) (hE : EX K z s) (hz : z < s.heap.size) (hbs : s.heap.size = b) (hX : va_X sb Ln xs s s.heap) (hsb : sb < s.heap.size) (hLn : Ln ≤ 2048)
    (kend : ∀ (H : Heap) (ls : Array Slot) (cc ss : Nat), KE s.heap H → cc ≤ 649577 → ss ≤ 7147374 → W p l e rmLaw s m args below meth c H [] cc ss Q (F0 m 1055 ls [])) :
    ∀ (n i cc ss : Nat) (H : Heap) (ls : Array Slot), Ln < i + 4 * n + 4 → i ≤ 2052 → cc + 30 * n ≤ 649577 → ss + 300 * n ≤ 7147374 → lv_has ls 8 [(4, .int (iI (i : Int))), (0, .ref sb), (1, .ref b), (2, .ref (b + 104)), (3, .ref (b + 119))] → KE s.heap H → LwI K b H → W p l e rmLaw s m args below meth c H [] cc ss Q (F0 m 23 ls []) := by
  intro n
  induction n with
  | zero =>
    intro i cc ss H ls hn hi0 hcc hss hl hk0 hLS
    refine lv_iload hx hb dL_law_23 (lv_at hl 0 rfl) ?_
    refine lv_aload_n hx hb dL_law_25 rfl (lv_at hl 1 rfl) ?_
    refine va_slen (A := fun q => s.heap.size ≤ q) hx hb hX hsb (by omega) ⟨hk0.1, fun q h _ => hk0.2 q h, fun _ h => by cases h⟩ dL_law_26 ?_
    rw [iI_nat]
    refine iz_iconst hx hb dL_law_27 ?_
    refine iz_isub hx hb dL_law_28 ?_
    refine iz_icmp_gt (tgt := 1055) hx hb ⟨by omega, by omega⟩ ⟨by omega, by omega⟩ dL_law_29 (by decide) (fun h9 => ?_) (fun h9 => ?_)
    · exact kend H ls cc ss hk0 (by omega) (by omega)
    · exact absurd h9 (by omega)
  | succ n ih =>
    intro i cc ss H ls hn hi0 hcc hss hl hk0 hLS
    refine lv_iload hx hb dL_law_23 (lv_at hl 0 rfl) ?_
    refine lv_aload_n hx hb dL_law_25 rfl (lv_at hl 1 rfl) ?_
    refine va_slen (A := fun q => s.heap.size ≤ q) hx hb hX hsb (by omega) ⟨hk0.1, fun q h _ => hk0.2 q h, fun _ h => by cases h⟩ dL_law_26 ?_
    rw [iI_nat]
    refine iz_iconst hx hb dL_law_27 ?_
    refine iz_isub hx hb dL_law_28 ?_
    refine iz_icmp_gt (tgt := 1055) hx hb ⟨by omega, by omega⟩ ⟨by omega, by omega⟩ dL_law_29 (by decide) (fun h9 => ?_) (fun h9 => ?_)
    · exact kend H ls cc ss hk0 (by omega) (by omega)
    · have hi : i + 4 ≤ Ln := by omega
      obtain ⟨x0, hx0⟩ : ∃ x0, x0 = (xs i).toInt := ⟨_, rfl⟩
      have kk : ∀ (H1 : Heap) (ls1 : Array Slot), KE s.heap H1 → LwI K b H1 → lv_has ls1 8 [(4, .int (iI (i : Int))), (0, .ref sb), (1, .ref b), (2, .ref (b + 104)), (3, .ref (b + 119))] → W p l e rmLaw s m args below meth c H1 [] (cc + 30) (ss + 300) Q (F0 m 1049 ls1 []) := by
        intro H1 ls1 hk1 hLS1 hl
        refine iz_iinc (k := 0) (lv' := [(4, .int (iI ((i : Int) + 4))), (0, .ref sb), (1, .ref b), (2, .ref (b + 104)), (3, .ref (b + 119))]) hx hb dL_law_1049 hl rfl (by decide) rfl (fun ls hl => ?_)
        refine lv_goto (tgt := 23) hx hb dL_law_1052 (by decide) ?_
        exact ih (i + 4) (cc + 30) (ss + 300) H1 ls (by omega) (by omega) (by omega) (by omega) (lv_sub hl [0, 1, 2, 3, 4] rfl) hk1 hLS1
      refine lv_aload_n hx hb dL_law_32 rfl (lv_at hl 1 rfl) ?_
      refine lv_iload hx hb dL_law_33 (lv_at hl 0 rfl) ?_
      refine iz_sldv hx hb hX hsb hk0 (i) (by omega) (by omega) hLn hx0 dL_law_35 ?_
      refine iz_bipush hx hb dL_law_36 (by decide) ?_
      refine lv_iand hx hb dL_law_38 ?_
      obtain ⟨k, hk, ek⟩ := and15 (iI x0)
      rw [ek]
      match k, hk with
      | 0, _ => exact lv_tableIn (tgt := 116) hx hb dL_law_39 (by decide) (by decide) rfl (by decide) (lw_c0 htr hx hb hml hown hE hz hbs hX hsb hLn hi (by omega) (by omega) hl hk0 hLS kk)
      | 1, _ => exact lv_tableIn (tgt := 184) hx hb dL_law_39 (by decide) (by decide) rfl (by decide) (lw_c1 htr hx hb hml hown hE hz hbs hX hsb hLn hi (by omega) (by omega) hl hk0 hLS kk)
      | 2, _ => exact lv_tableIn (tgt := 264) hx hb dL_law_39 (by decide) (by decide) rfl (by decide) (lw_c2 htr hx hb hml hown hE hz hbs hX hsb hLn hi (by omega) (by omega) hl hk0 hLS kk)
      | 3, _ => exact lv_tableIn (tgt := 344) hx hb dL_law_39 (by decide) (by decide) rfl (by decide) (lw_c3 htr hx hb hml hown hE hz hbs hX hsb hLn hi (by omega) (by omega) hl hk0 hLS kk)
      | 4, _ => exact lv_tableIn (tgt := 412) hx hb dL_law_39 (by decide) (by decide) rfl (by decide) (lw_c4 htr hx hb hml hown hE hz hbs hX hsb hLn hi (by omega) (by omega) hl hk0 hLS kk)
      | 5, _ => exact lv_tableIn (tgt := 480) hx hb dL_law_39 (by decide) (by decide) rfl (by decide) (lw_c5 htr hx hb hml hown hE hz hbs hX hsb hLn hi (by omega) (by omega) hl hk0 hLS kk)
      | 6, _ => exact lv_tableIn (tgt := 535) hx hb dL_law_39 (by decide) (by decide) rfl (by decide) (lw_c6 htr hx hb hml hown hE hz hbs hX hsb hLn hi (by omega) (by omega) hl hk0 hLS kk)
      | 7, _ => exact lv_tableIn (tgt := 615) hx hb dL_law_39 (by decide) (by decide) rfl (by decide) (lw_c7 htr hx hb hml hown hE hz hbs hX hsb hLn hi (by omega) (by omega) hl hk0 hLS kk)
      | 8, _ => exact lv_tableIn (tgt := 683) hx hb dL_law_39 (by decide) (by decide) rfl (by decide) (lw_c8 htr hx hb hml hown hE hz hbs hX hsb hLn hi (by omega) (by omega) hl hk0 hLS kk)
      | 9, _ => exact lv_tableIn (tgt := 738) hx hb dL_law_39 (by decide) (by decide) rfl (by decide) (lw_c9 htr hx hb hml hown hE hz hbs hX hsb hLn hi (by omega) (by omega) hl hk0 hLS kk)
      | 10, _ => exact lv_tableIn (tgt := 752) hx hb dL_law_39 (by decide) (by decide) rfl (by decide) (lw_c10 htr hx hb hml hown hE hz hbs hX hsb hLn hi (by omega) (by omega) hl hk0 hLS kk)
      | 11, _ => exact lv_tableIn (tgt := 800) hx hb dL_law_39 (by decide) (by decide) rfl (by decide) (lw_c11 htr hx hb hml hown hE hz hbs hX hsb hLn hi (by omega) (by omega) hl hk0 hLS kk)
      | 12, _ => exact lv_tableIn (tgt := 856) hx hb dL_law_39 (by decide) (by decide) rfl (by decide) (lw_c12 htr hx hb hml hown hE hz hbs hX hsb hLn hi (by omega) (by omega) hl hk0 hLS kk)
      | 13, _ => exact lv_tableIn (tgt := 924) hx hb dL_law_39 (by decide) (by decide) rfl (by decide) (lw_c13 htr hx hb hml hown hE hz hbs hX hsb hLn hi (by omega) (by omega) hl hk0 hLS kk)
      | 14, _ => exact lv_tableIn (tgt := 937) hx hb dL_law_39 (by decide) (by decide) rfl (by decide) (lw_c14 htr hx hb hml hown hE hz hbs hX hsb hLn hi (by omega) (by omega) hl hk0 hLS kk)
      | 15, _ => exact lv_tableIn (tgt := 993) hx hb dL_law_39 (by decide) (by decide) rfl (by decide) (lw_c15 htr hx hb hml hown hE hz hbs hX hsb hLn hi (by omega) (by omega) hl hk0 hLS kk)
      | k + 16, hk => exact absurd hk (by omega)
