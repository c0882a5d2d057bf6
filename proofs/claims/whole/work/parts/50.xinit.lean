-- new LayerQuantities()
theorem va_P_k1 {D : va_G} {cl : List vw_C} {H H1 : Heap} {a : Nat} {e : va_E} (hP : va_P D cl [(a, e)] H) (h : H1[a]? = H[a]?) : va_P D cl [(a, e)] H1 := hP.kept (fun k q hk => by
  have hi : k < 1 := (List.getElem?_eq_some_iff.mp hk).1
  rw [show k = 0 by omega] at hk
  cases hk
  exact h)
theorem va_P_kp {D : va_G} {cl : List vw_C} {ws : va_W} {H H1 : Heap} (hP : va_P D cl ws H) (h : ∀ q ∈ ws, H1[q.1]? = H[q.1]?) : va_P D cl ws H1 := hP.kept (fun k q hk => h q (List.mem_of_getElem? hk))
theorem va_P_lt {D : va_G} {cl : List vw_C} {ws : va_W} {H H1 : Heap} {z : Nat} (hP : va_P D cl ws H) (hk : ∀ q : Nat, q < z → H1[q]? = H[q]?) (h : ∀ q ∈ ws, q.1 < z) : va_P D cl ws H1 := va_P_kp hP (fun q hq => hk q.1 (h q hq))
theorem va_P_a1 {D : va_G} {cl : List vw_C} {H : Heap} {a : Nat} {cA : ClassId} {x : vp_A} (h : H[a]? = some (vp_cell cA x)) : va_P D cl [(a, .inl (cA, x))] H := by
  intro k q hk
  have hi : k < 1 := (List.getElem?_eq_some_iff.mp hk).1
  rw [show k = 0 by omega] at hk
  cases hk
  exact h
theorem va_P_two {D : va_G} {cl : List vw_C} {w1 w2 : va_W} {H : Heap} (h1 : va_P D cl w1 H) (h2 : va_P D cl w2 H) : va_P D cl (w1 ++ w2) H := h1.app h2
/-- an array of references: its contents matter within its length alone -/
theorem arrq_congr {n : Nat} {f g : Nat → Option Nat} (h : ∀ j, j < n → f j = g j) (cA : ClassId) : vp_cell cA (n, .inr (.inr (.inr (.inr f)))) = vp_cell cA (n, .inr (.inr (.inr (.inr g)))) := by
  rw [vp_cell_q, vp_cell_q]
  unfold arrV
  congr 2
  funext j
  show va_rf (f j.val) = va_rf (g j.val)
  rw [h j.val j.isLt]
theorem va_P_arrq {D : va_G} {cl : List vw_C} {H : Heap} {a n : Nat} {cA : ClassId} {f g : Nat → Option Nat} (hP : va_P D cl [(a, .inl (cA, n, .inr (.inr (.inr (.inr f)))))] H) (h : ∀ j, j < n → f j = g j) : va_P D cl [(a, .inl (cA, n, .inr (.inr (.inr (.inr g)))))] H := by
  have h1 : H[a]? = some (vp_cell cA (n, .inr (.inr (.inr (.inr f))))) := hP 0 _ rfl
  rw [arrq_congr h] at h1
  exact va_P_a1 h1
section XIn
variable {p : Program} {l : Launch} {e : Env} {R : Room} {s : State} {m : MethodId} {args : Array Value} {below : List Frame} {meth : Method} {c : Code} {H : Heap} {locs : List Loc} {cells slots : Nat} {Q : State → Prop}
variable {pc : Nat} {ls : Array Slot} {rest : List Value} {cc : ByteArray} {K : KG}
theorem W.drop {g : JFrame} {L : List Loc} (hf : ∀ q ∈ L, s.heap.size ≤ q.base) (kk : W p l e R s m args below meth c H locs cells slots Q g) : W p l e R s m args below meth c H (locs ++ L) cells slots Q g := fun T hT X => kk T hT (Stand.forget (extra := L) X hf)
/-- a new array of ints, and all else stays -/
theorem iz_newi2 (hx : p.tables.exec = Jvm.exec) (hb : c.code = cc) (hTB : TB s) (hK : va_K (kD K) vcl (kTY K) s) (N : Nat) {i : Int} (hi : i = (N : Int)) (hN : N < 1000) (hcells : cells + 1 ≤ R.cells) (hslots : slots + N ≤ R.slots) {z : Nat} (hz : H.size = z) (hd : decode cc pc = .ok (.newarray .int, 2))
    (kk : ∀ (H1 : Heap), H1.size = z + 1 → va_P (kD K) vcl [(z, .inl (kI K, N, .inl (iA (fun _ => 0))))] H1 → (∀ q, q < z → H1[q]? = H[q]?) → W p l e R s m args below meth c H1 locs (cells + 1) (slots + N) Q (F0 m (pc + 2) ls (.ref z :: rest))) : W p l e R s m args below meth c H locs cells slots Q (F0 m pc ls (.int (iI i) :: rest)) := by
  subst hi
  subst hz
  refine va_newaK (atype := .int) hx hb (hTB _ wa_arrInt args) rfl hd rfl (iI_nn ⟨by omega, by omega⟩ (by omega)) (iI_k (by omega)) (by show N * 4 ≤ _; omega) hcells hslots rfl fun H1 cA e1 z1 o1 hAr hNm => ?_
  have hcA : cA = kI K := Option.some.inj (hNm.symm.trans (hK.2 0 _ rfl).2)
  subst hcA
  exact kk H1 z1 (va_P_a1 e1) o1
theorem iz_newl2 (hx : p.tables.exec = Jvm.exec) (hb : c.code = cc) (hTB : TB s) (hK : va_K (kD K) vcl (kTY K) s) (N : Nat) {i : Int} (hi : i = (N : Int)) (hN : N < 1000) (hcells : cells + 1 ≤ R.cells) (hslots : slots + N ≤ R.slots) {z : Nat} (hz : H.size = z) (hd : decode cc pc = .ok (.newarray .long, 2))
    (kk : ∀ (H1 : Heap), H1.size = z + 1 → va_P (kD K) vcl [(z, .inl (kL K, N, .inr (.inl (lA (fun _ => 0)))))] H1 → (∀ q, q < z → H1[q]? = H[q]?) → W p l e R s m args below meth c H1 locs (cells + 1) (slots + N) Q (F0 m (pc + 2) ls (.ref z :: rest))) : W p l e R s m args below meth c H locs cells slots Q (F0 m pc ls (.int (iI i) :: rest)) := by
  subst hi
  subst hz
  refine va_newaK (atype := .long) hx hb (hTB _ wa_arrLong args) rfl hd rfl (iI_nn ⟨by omega, by omega⟩ (by omega)) (iI_k (by omega)) (by show N * 8 ≤ _; omega) hcells hslots rfl fun H1 cA e1 z1 o1 hAr hNm => ?_
  have hcA : cA = kL K := Option.some.inj (hNm.symm.trans (hK.2 1 _ rfl).2)
  subst hcA
  exact kk H1 z1 (va_P_a1 e1) o1
end XIn
theorem dfW : ∀ j, j < 4 → defaultValue (tW j) = vp_V [.int (iI 0), .int (iI 0), .int (iI 0), .null] j := by intro j hj; have hc : j = 0 ∨ j = 1 ∨ j = 2 ∨ j = 3 := (by omega); rcases hc with rfl | rfl | rfl | rfl <;> rfl
theorem dfS : ∀ j, j < 10 → defaultValue (tS j) = vp_V [.int (iI 0), .null, .null, .null, .null, .null, .null, .int (iI 0), .int (iI 0), .long (lI 0)] j := by intro j hj; have hc : j = 0 ∨ j = 1 ∨ j = 2 ∨ j = 3 ∨ j = 4 ∨ j = 5 ∨ j = 6 ∨ j = 7 ∨ j = 8 ∨ j = 9 := (by omega); rcases hc with rfl | rfl | rfl | rfl | rfl | rfl | rfl | rfl | rfl | rfl <;> rfl
theorem dfA : ∀ j, j < 10 → defaultValue (tA j) = vp_V [.int (iI 0), .int (iI 0), .int (iI 0), .null, .int (iI 0), .int (iI 0), .null, .null, .null, .null] j := by intro j hj; have hc : j = 0 ∨ j = 1 ∨ j = 2 ∨ j = 3 ∨ j = 4 ∨ j = 5 ∨ j = 6 ∨ j = 7 ∨ j = 8 ∨ j = 9 := (by omega); rcases hc with rfl | rfl | rfl | rfl | rfl | rfl | rfl | rfl | rfl | rfl <;> rfl
theorem dfX : ∀ j, j < 5 → defaultValue (tX j) = vp_V [.null, .int (iI 0), .null, .null, .null] j := by intro j hj; have hc : j = 0 ∨ j = 1 ∨ j = 2 ∨ j = 3 ∨ j = 4 := (by omega); rcases hc with rfl | rfl | rfl | rfl | rfl <;> rfl
theorem dfM : ∀ j, j < 21 → defaultValue (tM j) = vp_V [.int (iI 0), .int (iI 0), .null, .null, .null, .null, .null, .null, .null, .null, .null, .long (lI 0), .null, .null, .int (iI 0), .int (iI 0), .int (iI 0), .null, .int (iI 0), .null, .null] j := by intro j hj; have hc : j = 0 ∨ j = 1 ∨ j = 2 ∨ j = 3 ∨ j = 4 ∨ j = 5 ∨ j = 6 ∨ j = 7 ∨ j = 8 ∨ j = 9 ∨ j = 10 ∨ j = 11 ∨ j = 12 ∨ j = 13 ∨ j = 14 ∨ j = 15 ∨ j = 16 ∨ j = 17 ∨ j = 18 ∨ j = 19 ∨ j = 20 := (by omega); rcases hc with rfl | rfl | rfl | rfl | rfl | rfl | rfl | rfl | rfl | rfl | rfl | rfl | rfl | rfl | rfl | rfl | rfl | rfl | rfl | rfl | rfl <;> rfl
/-- the object at b and all that it reaches -/
def xW (K : KG) (b wn : Nat) (ar oc lc : Nat → Int) (th : Nat → Nat → Int) (wa : Nat → Int) (Kn : Nat → Nat) (mu pr bg ch tr bn : Nat → Nat → Int) (bp bc sf : Nat → Int) (bl cu : Int) (Pn : Nat) (le : Nat → Int) (pl : Int) (Bn : Nat) (bo fr lo sl : Nat → Int) (H : Heap) : Prop := va_P (kD K) vcl [(b, .inr (0, [.ref (b + 1), .int (iI (wn : Int)), .ref (b + 26), .ref (b + 27), .ref (b + 98)])), (b + 1, .inl (kW K, 12, .inr (.inr (.inr (.inr (fun i => some (b + 2 + 2 * i))))))), (b + 26, .inl (kI K, 10, .inl (iA wa))), (b + 27, .inl (kS K, 10, .inr (.inr (.inr (.inr (fun i => some (b + 28 + 7 * i)))))))] H ∧ (∀ i, i < 12 → va_P (kD K) vcl [(b + 2 + 2 * i, .inr (1, [.int (iI (ar i)), .int (iI (oc i)), .int (iI (lc i)), .ref (b + 2 + 2 * i + 1)])), (b + 2 + 2 * i + 1, .inl (kI K, 10, .inl (iA (th i))))] H) ∧ (∀ j, j < 10 → va_P (kD K) vcl (shW K (b + 28 + 7 * j) (Kn j : Nat) (mu j) (pr j) (bg j) (ch j) (tr j) (bn j) (bp j) (bc j) (sf j)) H) ∧ va_P (kD K) vcl (saW K (b + 98) bl cu Pn le pl Bn bo fr lo sl) H
abbrev rmX_init : Room := { frames := 2, cells := 103, slots := 600, locals := 60 }
set_option maxHeartbeats 4000000 in
set_option maxRecDepth 100000 in
/-- LayerQuantities() -/
theorem c_X_init (l : Launch) (K : KG) (b : Nat) : Ct l yX_init kX_init rmX_init (PC K [.ref b] (fun H => H.size = b + 1 ∧ va_P (kD K) vcl [(b, .inr (0, [.null, .int (iI 0), .null, .null, .null]))] H)) (QV (fun H => H.size = b + 104 ∧ xW K b 0 (fun _ => 0) (fun _ => 0) (fun _ => 0) (fun _ _ => 0) (fun _ => 0) (fun _ => 0) (fun _ _ => 0) (fun _ _ => 0) (fun _ _ => 0) (fun _ _ => 0) (fun _ _ => 0) (fun _ _ => 0) (fun _ => 0) (fun _ => 0) (fun _ => -1) 10000 0 0 (fun _ => 0) 0 0 (fun _ => 0) (fun _ => 0) (fun _ => 0) (fun _ => 0) H)) (fun x => b ≤ x) := by
  refine ct_of (by decide) (Or.inl ⟨rfl, rfl⟩) ?_
  intro p e s m args below meth c B0 hP0
  obtain ⟨hx, hb, hr, hml, hown, hlocks, hnm, htab⟩ := B0
  obtain ⟨ha, ⟨hT, hK⟩, hB⟩ := hP0
  have hl := lv_entry ([.ref b]) (n := 2) (Nat.le_of_ble_eq_true rfl)
  obtain ⟨Q, hQ⟩ : ∃ Q, Q = XQ below (QV (fun H => H.size = b + 104 ∧ xW K b 0 (fun _ => 0) (fun _ => 0) (fun _ => 0) (fun _ _ => 0) (fun _ => 0) (fun _ => 0) (fun _ _ => 0) (fun _ _ => 0) (fun _ _ => 0) (fun _ _ => 0) (fun _ _ => 0) (fun _ _ => 0) (fun _ => 0) (fun _ => 0) (fun _ => -1) 10000 0 0 (fun _ => 0) 0 0 (fun _ => 0) (fun _ => 0) (fun _ => 0) (fun _ => 0) H)) args s rmX_init.cells rmX_init.slots (fun x => b ≤ x) := ⟨_, rfl⟩
  rw [← hQ, ha, lg_entry_eq]
  rw [ha] at hQ
  generalize (lg_sl ([.ref b]) ++ List.replicate (2 - (lg_sl ([.ref b])).length) Slot.unset).toArray = ls at hl ⊢
  generalize ([.ref b] : List Value).toArray = args at hQ ⊢
  have hts : ∀ w ∈ TW, w.before args s = true := fun w h => hT w h args
  have hl : lv_has ls 2 [(0, .ref b)] := hl
  obtain ⟨A, hAe⟩ : ∃ A : Addr → Prop, A = (fun x => b ≤ x) := ⟨_, rfl⟩
  rw [← hAe] at hQ
  have hS : va_S A s.heap s.heap [] := va_S.rf
  obtain ⟨hz0, hM⟩ := hB
  obtain ⟨AA, hAA⟩ : ∃ AA : Nat → Prop, AA = (fun q => q = b ∨ q = b + 1 ∨ q = b + 27) := ⟨_, rfl⟩
  have hlo : ∀ q ∈ ([] : List Loc), AA q.base := fun q hq => nomatch hq
  refine lv_aload_n hx hb dX_init_0 rfl (lv_at hl 0 rfl) ?_
  refine W.objInit hx hb hown (hts _ mt_19) (hts _ mt_20) (hts _ mt_21) rfl (by rw [hml]; exact hl.1) rfl dX_init_1 (Nat.le_of_ble_eq_true rfl) (Nat.le_of_ble_eq_true rfl) ?_
  refine W.eq (g2 := F0 m 4 ls []) rfl ?_
  refine lv_aload_n hx hb dX_init_4 rfl (lv_at hl 0 rfl) ?_
  refine iz_bipush hx hb dX_init_5 (by decide) ?_
  refine iz_newq hx hb hT hK hown mt_22 mt_23 2 rfl 12 rfl (by omega) (Nat.le_of_ble_eq_true rfl) (Nat.le_of_ble_eq_true rfl) hz0 dX_init_7 (fun H hsz hWa hk => ?_)
  refine W.num (c1 := 1) (s1 := 12) rfl rfl ?_
  replace hM : va_P (kD K) vcl [(b, .inr (0, [.null, .int (iI 0), .null, .null, .null])), (b + 1, .inl (kW K, 12, .inr (.inr (.inr (.inr (fun _ => none))))))] H := va_P_two (va_P_k1 hM (hk b (by omega))) hWa
  clear hWa hk
  have hD1 : va_D AA [(b, .inr (0, [.null, .int (iI 0), .null, .null, .null])), (b + 1, .inl (kW K, 12, .inr (.inr (.inr (.inr (fun _ => none))))))] := by rw [hAA]; exact va_D_of (by simp) (by simp)
  have hS1 : va_S AA H H _ := ⟨Nat.le_refl _, fun _ _ _ => rfl, hlo⟩
  refine va_putF (D := kD K) (ci := 0) (v := .ref (b + 1)) (ty := .array (.object "LayerQuantities$Wall")) (C := RX) (T := FX) (N := 5) hx hb hts jnX tX tX_ok nX hown hK hM hD1 hS1 0 rfl rfl 0 (by decide) (hts _ mt_126) (fun _ h9 => h9) rfl hnm rfl (by decide +kernel) rfl rfl (Nat.le_of_ble_eq_true rfl) dX_init_10 ?_
  clear hlo hM hD1 hS1
  intro H locs hM hDp hSp
  have hk := hSp.2.1
  have hlo := hSp.2.2
  refine W.sz (fun hs9 => ?_)
  replace hsz : H.size = b + 2 := (Nat.le_antisymm (by omega) (Nat.le_trans (Nat.le_of_eq hsz.symm) hSp.1))
  clear hk hDp hSp hs9
  replace hM : va_P (kD K) vcl [(b, .inr (0, [.ref (b + 1), .int (iI 0), .null, .null, .null])), (b + 1, .inl (kW K, 12, .inr (.inr (.inr (.inr (fun _ => none))))))] H := hM
  refine iz_iconst hx hb dX_init_13 ?_
  refine lv_istore_n (lv' := [(1, .int (iI 0)), (0, .ref b)]) hx hb dX_init_14 rfl hl (by decide) rfl (fun ls hl => ?_)
  have e0 : (fun _ => none : Nat → Option Nat) = (fun k => if k < 0 then some (b + 2 + 2 * k) else none) := by funext k; rw [if_neg (by omega)]
  replace hM : va_P (kD K) vcl [(b, .inr (0, [.ref (b + 1), .int (iI 0), .null, .null, .null])), (b + 1, .inl (kW K, 12, .inr (.inr (.inr (.inr (fun k => if k < 0 then some (b + 2 + 2 * k) else none))))))] H := by rw [← e0]; exact hM
  clear e0
  have wloop : ∀ (n i : Nat), 13 ≤ i + n → i ≤ 12 → ∀ (H : Heap) (locs : List Loc), (∀ q ∈ locs, AA q.base) → H.size = b + 2 + 2 * i → va_P (kD K) vcl [(b, .inr (0, [.ref (b + 1), .int (iI 0), .null, .null, .null])), (b + 1, .inl (kW K, 12, .inr (.inr (.inr (.inr (fun k => if k < i then some (b + 2 + 2 * k) else none))))))] H → (∀ k, k < i → va_P (kD K) vcl (wlW K (b + 2 + 2 * k) 0 0 0 (fun _ => 0)) H) → (∀ (H : Heap) (locs : List Loc), (∀ q ∈ locs, AA q.base) → H.size = b + 26 → va_P (kD K) vcl [(b, .inr (0, [.ref (b + 1), .int (iI 0), .null, .null, .null])), (b + 1, .inl (kW K, 12, .inr (.inr (.inr (.inr (fun k => if k < 12 then some (b + 2 + 2 * k) else none))))))] H → (∀ k, k < 12 → va_P (kD K) vcl (wlW K (b + 2 + 2 * k) 0 0 0 (fun _ => 0)) H) → ∀ ls : Array Slot, lv_has ls 2 [(0, .ref b)] → W p l e rmX_init s m args below meth c H locs 25 180 Q (F0 m 43 ls [])) → ∀ ls : Array Slot, lv_has ls 2 [(0, .ref b), (1, .int (iI (i : Int)))] → W p l e rmX_init s m args below meth c H locs (1 + 2 * i) (12 + 14 * i) Q (F0 m 15 ls []) := by
    intro n
    induction n with
    | zero => intro i h1 h2; omega
    | succ n ih =>
      intro i h1 h2 H locs hlo hsz hM hW9  kk ls hl
      refine lv_iload_n hx hb dX_init_15 rfl (lv_at hl 1 rfl) ?_
      refine lv_aload_n hx hb dX_init_16 rfl (lv_at hl 0 rfl) ?_
      refine va_get (D := kD K) (ci := 0) (v := .ref (b + 1)) (C := RX) (T := FX) (N := 5) hx hb hts jnX hown hK hM 0 rfl rfl 0 (by decide) (hts _ mt_126) (fun _ h9 => h9) rfl dX_init_17 ?_
      refine iz_alen hx hb hK hM 1 2 rfl rfl dX_init_20 ?_
      refine iz_icmp_ge (tgt := 43) hx hb ⟨by omega, by omega⟩ ⟨by omega, by omega⟩ dX_init_21 (by decide) (fun g1 => ?_) (fun g1 => ?_)
      · have e9 : 12 = i := by omega
        subst e9
        exact kk H locs hlo hsz hM hW9  ls (lv_sub hl [0] rfl)
      · refine lv_aload_n hx hb dX_init_24 rfl (lv_at hl 0 rfl) ?_
        refine va_get (D := kD K) (ci := 0) (v := .ref (b + 1)) (C := RX) (T := FX) (N := 5) hx hb hts jnX hown hK hM 0 rfl rfl 0 (by decide) (hts _ mt_126) (fun _ h9 => h9) rfl dX_init_25 ?_
        refine lv_iload_n hx hb dX_init_28 rfl (lv_at hl 1 rfl) ?_
        refine iz_new hx hb hT hK jnW tW tW_ok hown mt_22 mt_24 mt_2 (ci := 1) rfl dfW (by show _ + 1 ≤ 103; omega) (by show _ + 4 ≤ 600; omega) hsz dX_init_29 (fun H1 hz1 hq1 hk => ?_)
        replace hM : va_P (kD K) vcl [(b, .inr (0, [.ref (b + 1), .int (iI 0), .null, .null, .null])), (b + 1, .inl (kW K, 12, .inr (.inr (.inr (.inr (fun k => if k < i then some (b + 2 + 2 * k) else none))))))] H1 := va_P_lt hM hk (fun q hq => by simp only [List.mem_cons, List.not_mem_nil, or_false] at hq; rcases hq with rfl | rfl <;> dsimp only <;> omega)
        replace hW9 := fun k hk9 => va_P_lt (hW9 k hk9) hk (fun q hq => by simp only [List.mem_cons, List.not_mem_nil, or_false] at hq; rcases hq with rfl | rfl <;> dsimp only <;> omega)
        clear hk
        refine lv_dup hx hb dX_init_32 rfl ?_
        refine ctIN (n := 0) hx hb hml hown hT ⟨c_W_init l K (b + 2 + 2 * i), ⟨_, _, _, Or.inl ⟨rfl, rfl⟩⟩, mt_27, mt_2, by decide, by decide +kernel, by decide, by decide, by show _ + 1 + 1 ≤ 103; omega, by show _ + 4 + 10 ≤ 600; omega⟩ PC.blind rfl rfl mt_25 mt_26 (As := []) (rest := [.ref (b + 2 + 2 * i), .int (iI (i : Int)), .ref (b + 1)]) rfl (PC.at ⟨hT, hK⟩ ⟨hz1, hq1⟩) hl.1 rfl (Nat.le_of_ble_eq_true rfl) dX_init_33 (krV (c1 := 1 + 2 * (i + 1)) (s1 := 12 + 14 * (i + 1)) (by show _ + 1 + 1 = _; omega) (by show _ + 4 + 10 = _; omega) (fun t9 H2 L9 hA9 hL9 hpo => ?_))
        have hk : ∀ q9 : Nat, q9 < (b + 2 + 2 * i) → H2[q9]? = H1[q9]? := fun q9 h9 => hA9.2.2.2.2 q9 (Nat.lt_of_lt_of_le h9 (by rw [hz1]; omega)) (show ¬ (b + 2 + 2 * i) ≤ q9 by omega)
        refine W.drop (fun y hy => Nat.le_trans (show s.heap.size ≤ (b + 2 + 2 * i) by omega) (hL9 y hy)) ?_
        obtain ⟨hz2, hw2⟩ := hpo
        clear hA9 hL9 hq1
        replace hM : va_P (kD K) vcl [(b, .inr (0, [.ref (b + 1), .int (iI 0), .null, .null, .null])), (b + 1, .inl (kW K, 12, .inr (.inr (.inr (.inr (fun k => if k < i then some (b + 2 + 2 * k) else none))))))] H2 := va_P_lt hM hk (fun q hq => by simp only [List.mem_cons, List.not_mem_nil, or_false] at hq; rcases hq with rfl | rfl <;> dsimp only <;> omega)
        replace hW9 := fun k hk9 => va_P_lt (hW9 k hk9) hk (fun q hq => by simp only [List.mem_cons, List.not_mem_nil, or_false] at hq; rcases hq with rfl | rfl <;> dsimp only <;> omega)
        clear hk
        refine iz_aast hx hb hK (va_P_two hM hw2) 1 2 2 1 rfl rfl rfl rfl i rfl (by omega) (by omega) dX_init_36 (fun H3 hz3 hk ha3 => ?_)
        have ef : va_up (fun k => if k < i then some (b + 2 + 2 * k) else none) i (some (b + 2 + 2 * i)) = (fun k => if k < i + 1 then some (b + 2 + 2 * k) else none) := by
          funext k
          unfold va_up
          by_cases h : k = i
          · subst h; rw [if_pos rfl, if_pos (by omega)]
          · rw [if_neg h]; show (if k < i then some (b + 2 + 2 * k) else none) = _
            by_cases h2 : k < i
            · rw [if_pos h2, if_pos (by omega)]
            · rw [if_neg h2, if_neg (by omega)]
        rw [ef] at ha3
        replace hM : va_P (kD K) vcl [(b, .inr (0, [.ref (b + 1), .int (iI 0), .null, .null, .null])), (b + 1, .inl (kW K, 12, .inr (.inr (.inr (.inr (fun k => if k < (i + 1) then some (b + 2 + 2 * k) else none))))))] H3 := (va_P_two (va_P_k1 (hM.sub (ws' := [(b, .inr (0, [.ref (b + 1), .int (iI 0), .null, .null, .null]))]) [0] rfl) (hk _ (by omega))) (va_P_a1 ha3))
        replace hW9 := fun k hk9 => va_P_kp (hW9 k hk9) (fun q hq => hk q.1 (by simp only [List.mem_cons, List.not_mem_nil, or_false] at hq; rcases hq with rfl | rfl <;> dsimp only <;> omega))
        replace hw2 := va_P_kp hw2 (fun q hq => hk q.1 (by simp only [List.mem_cons, List.not_mem_nil, or_false] at hq; rcases hq with rfl | rfl <;> dsimp only <;> omega))
        have hF2 : ∀ k, k < (i + 1) → va_P (kD K) vcl (wlW K (b + 2 + 2 * k) 0 0 0 (fun _ => 0)) H3 := by
          intro k hk9
          by_cases e9 : k = i
          · subst e9; exact hw2
          · exact hW9 k (by omega)
        have hlo2 : ∀ q ∈ locs ++ [⟨b + 1, i⟩], AA q.base := by
          intro q hq
          rcases List.mem_append.mp hq with hq | hq
          · exact hlo q hq
          · rw [List.mem_singleton.mp hq, hAA]; exact Or.inr (Or.inl rfl)
        refine iz_iinc (k := 1) (lv' := [(1, .int (iI ((i : Int) + 1))), (0, .ref b)]) hx hb dX_init_37 hl rfl (by decide) rfl (fun ls hl => ?_)
        refine lv_goto (tgt := 15) hx hb dX_init_40 (by decide) ?_
        exact ih (i + 1) (by omega) (by omega) H3 _ hlo2 (by omega) hM hF2  kk ls (lv_sub hl [1, 0] rfl)
  refine wloop 13 0 (by omega) (by omega) H _ hlo (by omega) hM (fun k hk => absurd hk (by omega)) ?_ ls (lv_sub hl [1, 0] rfl)
  clear hlo hsz hM wloop hl
  intro H locs hlo hsz hM hW9 ls hl
  refine lv_aload_n hx hb dX_init_43 rfl (lv_at hl 0 rfl) ?_
  refine iz_bipush hx hb dX_init_44 (by decide) ?_
  refine iz_newi2 hx hb hT hK 10 rfl (by omega) (Nat.le_of_ble_eq_true rfl) (Nat.le_of_ble_eq_true rfl) hsz dX_init_46 (fun H1 hz1 hwa hk => ?_)
  refine W.num (c1 := 26) (s1 := 190) rfl rfl ?_
  replace hM : va_P (kD K) vcl [(b, .inr (0, [.ref (b + 1), .int (iI 0), .null, .null, .null])), (b + 1, .inl (kW K, 12, .inr (.inr (.inr (.inr (fun k => if k < 12 then some (b + 2 + 2 * k) else none))))))] H1 := va_P_lt hM hk (fun q hq => by simp only [List.mem_cons, List.not_mem_nil, or_false] at hq; rcases hq with rfl | rfl <;> dsimp only <;> omega)
  replace hW9 := fun k hk9 => va_P_lt (hW9 k hk9) hk (fun q hq => by simp only [List.mem_cons, List.not_mem_nil, or_false] at hq; rcases hq with rfl | rfl <;> dsimp only <;> omega)
  clear hk hsz
  have hsz := hz1
  clear hz1
  have hD1 : va_D AA [(b, .inr (0, [.ref (b + 1), .int (iI 0), .null, .null, .null])), (b + 1, .inl (kW K, 12, .inr (.inr (.inr (.inr (fun k => if k < 12 then some (b + 2 + 2 * k) else none))))))] := by rw [hAA]; exact va_D_of (by simp) (by simp)
  have hS1 : va_S AA H1 H1 _ := ⟨Nat.le_refl _, fun _ _ _ => rfl, hlo⟩
  refine va_putF (D := kD K) (ci := 0) (v := .ref (b + 26)) (ty := .array .int) (C := RX) (T := FX) (N := 5) hx hb hts jnX tX tX_ok nX hown hK hM hD1 hS1 0 rfl rfl 2 (by decide) (hts _ mt_128) (fun _ h9 => h9) rfl hnm rfl (by decide +kernel) rfl rfl (Nat.le_of_ble_eq_true rfl) dX_init_48 ?_
  clear hlo hM hD1 hS1
  intro H locs hM hDp hSp
  have hk := hSp.2.1
  have hlo := hSp.2.2
  refine W.sz (fun hs9 => ?_)
  replace hW9 := fun k hk9 => va_P_kp (hW9 k hk9) (fun q hq => hk q.1 (Nat.lt_of_lt_of_le (by simp only [List.mem_cons, List.not_mem_nil, or_false] at hq; rcases hq with rfl | rfl <;> dsimp only <;> omega) (Nat.le_of_eq hsz.symm)) (by rw [hAA]; simp only [List.mem_cons, List.not_mem_nil, or_false] at hq; rcases hq with rfl | rfl <;> (show ¬ (_ ∨ _ ∨ _)) <;> dsimp only <;> omega))
  replace hwa := va_P_kp (hwa) (fun q hq => hk q.1 (Nat.lt_of_lt_of_le (by simp only [List.mem_cons, List.not_mem_nil, or_false] at hq; rcases hq with rfl <;> dsimp only <;> omega) (Nat.le_of_eq hsz.symm)) (by rw [hAA]; simp only [List.mem_cons, List.not_mem_nil, or_false] at hq; rcases hq with rfl <;> (show ¬ (_ ∨ _ ∨ _)) <;> dsimp only <;> omega))
  replace hsz : H.size = b + 27 := (Nat.le_antisymm (by omega) (Nat.le_trans (Nat.le_of_eq hsz.symm) hSp.1))
  clear hk hDp hSp hs9
  replace hM : va_P (kD K) vcl [(b, .inr (0, [.ref (b + 1), .int (iI 0), .ref (b + 26), .null, .null])), (b + 1, .inl (kW K, 12, .inr (.inr (.inr (.inr (fun k => if k < 12 then some (b + 2 + 2 * k) else none))))))] H := hM
  refine lv_aload_n hx hb dX_init_51 rfl (lv_at hl 0 rfl) ?_
  refine iz_bipush hx hb dX_init_52 (by decide) ?_
  refine iz_newq hx hb hT hK hown mt_44 mt_45 3 rfl 10 rfl (by omega) (Nat.le_of_ble_eq_true rfl) (Nat.le_of_ble_eq_true rfl) hsz dX_init_54 (fun H1 hz1 hSa hk => ?_)
  refine W.num (c1 := 27) (s1 := 200) rfl rfl ?_
  replace hM : va_P (kD K) vcl [(b, .inr (0, [.ref (b + 1), .int (iI 0), .ref (b + 26), .null, .null])), (b + 1, .inl (kW K, 12, .inr (.inr (.inr (.inr (fun k => if k < 12 then some (b + 2 + 2 * k) else none))))))] H1 := va_P_lt hM hk (fun q hq => by simp only [List.mem_cons, List.not_mem_nil, or_false] at hq; rcases hq with rfl | rfl <;> dsimp only <;> omega)
  replace hW9 := fun k hk9 => va_P_lt (hW9 k hk9) hk (fun q hq => by simp only [List.mem_cons, List.not_mem_nil, or_false] at hq; rcases hq with rfl | rfl <;> dsimp only <;> omega)
  replace hwa := va_P_lt (hwa) hk (fun q hq => by simp only [List.mem_cons, List.not_mem_nil, or_false] at hq; rcases hq with rfl <;> dsimp only <;> omega)
  replace hM : va_P (kD K) vcl [(b, .inr (0, [.ref (b + 1), .int (iI 0), .ref (b + 26), .null, .null])), (b + 1, .inl (kW K, 12, .inr (.inr (.inr (.inr (fun k => if k < 12 then some (b + 2 + 2 * k) else none)))))), (b + 27, .inl (kS K, 10, .inr (.inr (.inr (.inr (fun _ => none))))))] H1 := va_P_two hM hSa
  clear hk hSa hsz
  have hsz := hz1
  clear hz1
  have hD1 : va_D AA [(b, .inr (0, [.ref (b + 1), .int (iI 0), .ref (b + 26), .null, .null])), (b + 1, .inl (kW K, 12, .inr (.inr (.inr (.inr (fun k => if k < 12 then some (b + 2 + 2 * k) else none)))))), (b + 27, .inl (kS K, 10, .inr (.inr (.inr (.inr (fun _ => none))))))] := by rw [hAA]; exact va_D_of (by simp) (by simp)
  have hS1 : va_S AA H1 H1 _ := ⟨Nat.le_refl _, fun _ _ _ => rfl, hlo⟩
  refine va_putF (D := kD K) (ci := 0) (v := .ref (b + 27)) (ty := .array (.object "LayerQuantities$Shelf")) (C := RX) (T := FX) (N := 5) hx hb hts jnX tX tX_ok nX hown hK hM hD1 hS1 0 rfl rfl 3 (by decide) (hts _ mt_129) (fun _ h9 => h9) rfl hnm rfl (by decide +kernel) rfl rfl (Nat.le_of_ble_eq_true rfl) dX_init_57 ?_
  clear hlo hM hD1 hS1
  intro H locs hM hDp hSp
  have hk := hSp.2.1
  have hlo := hSp.2.2
  refine W.sz (fun hs9 => ?_)
  replace hW9 := fun k hk9 => va_P_kp (hW9 k hk9) (fun q hq => hk q.1 (Nat.lt_of_lt_of_le (by simp only [List.mem_cons, List.not_mem_nil, or_false] at hq; rcases hq with rfl | rfl <;> dsimp only <;> omega) (Nat.le_of_eq hsz.symm)) (by rw [hAA]; simp only [List.mem_cons, List.not_mem_nil, or_false] at hq; rcases hq with rfl | rfl <;> (show ¬ (_ ∨ _ ∨ _)) <;> dsimp only <;> omega))
  replace hwa := va_P_kp (hwa) (fun q hq => hk q.1 (Nat.lt_of_lt_of_le (by simp only [List.mem_cons, List.not_mem_nil, or_false] at hq; rcases hq with rfl <;> dsimp only <;> omega) (Nat.le_of_eq hsz.symm)) (by rw [hAA]; simp only [List.mem_cons, List.not_mem_nil, or_false] at hq; rcases hq with rfl <;> (show ¬ (_ ∨ _ ∨ _)) <;> dsimp only <;> omega))
  replace hsz : H.size = b + 28 := (Nat.le_antisymm (by omega) (Nat.le_trans (Nat.le_of_eq hsz.symm) hSp.1))
  clear hk hDp hSp hs9
  replace hM : va_P (kD K) vcl [(b, .inr (0, [.ref (b + 1), .int (iI 0), .ref (b + 26), .ref (b + 27), .null])), (b + 1, .inl (kW K, 12, .inr (.inr (.inr (.inr (fun k => if k < 12 then some (b + 2 + 2 * k) else none)))))), (b + 27, .inl (kS K, 10, .inr (.inr (.inr (.inr (fun _ => none))))))] H := hM
  refine iz_iconst hx hb dX_init_60 ?_
  refine lv_istore_n (lv' := [(1, .int (iI 0)), (0, .ref b)]) hx hb dX_init_61 rfl hl (by decide) rfl (fun ls hl => ?_)
  have e0 : (fun _ => none : Nat → Option Nat) = (fun k => if k < 0 then some (b + 28 + 7 * k) else none) := by funext k; rw [if_neg (by omega)]
  replace hM : va_P (kD K) vcl [(b, .inr (0, [.ref (b + 1), .int (iI 0), .ref (b + 26), .ref (b + 27), .null])), (b + 1, .inl (kW K, 12, .inr (.inr (.inr (.inr (fun k => if k < 12 then some (b + 2 + 2 * k) else none)))))), (b + 27, .inl (kS K, 10, .inr (.inr (.inr (.inr (fun k => if k < 0 then some (b + 28 + 7 * k) else none))))))] H := by rw [← e0]; exact hM
  clear e0
  have sloop : ∀ (n i : Nat), 11 ≤ i + n → i ≤ 10 → ∀ (H : Heap) (locs : List Loc), (∀ q ∈ locs, AA q.base) → H.size = b + 28 + 7 * i → va_P (kD K) vcl [(b, .inr (0, [.ref (b + 1), .int (iI 0), .ref (b + 26), .ref (b + 27), .null])), (b + 1, .inl (kW K, 12, .inr (.inr (.inr (.inr (fun k => if k < 12 then some (b + 2 + 2 * k) else none)))))), (b + 27, .inl (kS K, 10, .inr (.inr (.inr (.inr (fun k => if k < i then some (b + 28 + 7 * k) else none))))))] H → (∀ k, k < i → va_P (kD K) vcl (shW K (b + 28 + 7 * k) 0 (fun _ => 0) (fun _ => 0) (fun _ => 0) (fun _ => 0) (fun _ => 0) (fun _ => 0) 0 0 (-1)) H) → (∀ k, k < 12 → va_P (kD K) vcl (wlW K (b + 2 + 2 * k) 0 0 0 (fun _ => 0)) H) → va_P (kD K) vcl [(b + 26, .inl (kI K, 10, .inl (iA (fun _ => 0))))] H → (∀ (H : Heap) (locs : List Loc), (∀ q ∈ locs, AA q.base) → H.size = b + 98 → va_P (kD K) vcl [(b, .inr (0, [.ref (b + 1), .int (iI 0), .ref (b + 26), .ref (b + 27), .null])), (b + 1, .inl (kW K, 12, .inr (.inr (.inr (.inr (fun k => if k < 12 then some (b + 2 + 2 * k) else none)))))), (b + 27, .inl (kS K, 10, .inr (.inr (.inr (.inr (fun k => if k < 10 then some (b + 28 + 7 * k) else none))))))] H → (∀ k, k < 10 → va_P (kD K) vcl (shW K (b + 28 + 7 * k) 0 (fun _ => 0) (fun _ => 0) (fun _ => 0) (fun _ => 0) (fun _ => 0) (fun _ => 0) 0 0 (-1)) H) → (∀ k, k < 12 → va_P (kD K) vcl (wlW K (b + 2 + 2 * k) 0 0 0 (fun _ => 0)) H) → va_P (kD K) vcl [(b + 26, .inl (kI K, 10, .inl (iA (fun _ => 0))))] H → ∀ ls : Array Slot, lv_has ls 2 [(0, .ref b)] → W p l e rmX_init s m args below meth c H locs 97 540 Q (F0 m 90 ls [])) → ∀ ls : Array Slot, lv_has ls 2 [(0, .ref b), (1, .int (iI (i : Int)))] → W p l e rmX_init s m args below meth c H locs (27 + 7 * i) (200 + 34 * i) Q (F0 m 62 ls []) := by
    intro n
    induction n with
    | zero => intro i h1 h2; omega
    | succ n ih =>
      intro i h1 h2 H locs hlo hsz hM hS9 hW9 hwa kk ls hl
      refine lv_iload_n hx hb dX_init_62 rfl (lv_at hl 1 rfl) ?_
      refine lv_aload_n hx hb dX_init_63 rfl (lv_at hl 0 rfl) ?_
      refine va_get (D := kD K) (ci := 0) (v := .ref (b + 27)) (C := RX) (T := FX) (N := 5) hx hb hts jnX hown hK hM 0 rfl rfl 3 (by decide) (hts _ mt_129) (fun _ h9 => h9) rfl dX_init_64 ?_
      refine iz_alen hx hb hK hM 2 3 rfl rfl dX_init_67 ?_
      refine iz_icmp_ge (tgt := 90) hx hb ⟨by omega, by omega⟩ ⟨by omega, by omega⟩ dX_init_68 (by decide) (fun g1 => ?_) (fun g1 => ?_)
      · have e9 : 10 = i := by omega
        subst e9
        exact kk H locs hlo hsz hM hS9 hW9 hwa ls (lv_sub hl [0] rfl)
      · refine lv_aload_n hx hb dX_init_71 rfl (lv_at hl 0 rfl) ?_
        refine va_get (D := kD K) (ci := 0) (v := .ref (b + 27)) (C := RX) (T := FX) (N := 5) hx hb hts jnX hown hK hM 0 rfl rfl 3 (by decide) (hts _ mt_129) (fun _ h9 => h9) rfl dX_init_72 ?_
        refine lv_iload_n hx hb dX_init_75 rfl (lv_at hl 1 rfl) ?_
        refine iz_new hx hb hT hK jnS tS tS_ok hown mt_44 mt_46 mt_3 (ci := 2) rfl dfS (by show _ + 1 ≤ 103; omega) (by show _ + 10 ≤ 600; omega) hsz dX_init_76 (fun H1 hz1 hq1 hk => ?_)
        replace hM : va_P (kD K) vcl [(b, .inr (0, [.ref (b + 1), .int (iI 0), .ref (b + 26), .ref (b + 27), .null])), (b + 1, .inl (kW K, 12, .inr (.inr (.inr (.inr (fun k => if k < 12 then some (b + 2 + 2 * k) else none)))))), (b + 27, .inl (kS K, 10, .inr (.inr (.inr (.inr (fun k => if k < i then some (b + 28 + 7 * k) else none))))))] H1 := va_P_lt hM hk (fun q hq => by simp only [List.mem_cons, List.not_mem_nil, or_false] at hq; rcases hq with rfl | rfl | rfl <;> dsimp only <;> omega)
        replace hW9 := fun k hk9 => va_P_lt (hW9 k hk9) hk (fun q hq => by simp only [List.mem_cons, List.not_mem_nil, or_false] at hq; rcases hq with rfl | rfl <;> dsimp only <;> omega)
        replace hwa := va_P_lt (hwa) hk (fun q hq => by simp only [List.mem_cons, List.not_mem_nil, or_false] at hq; rcases hq with rfl <;> dsimp only <;> omega)
        replace hS9 := fun k hk9 => va_P_lt (hS9 k hk9) hk (fun q hq => by simp only [List.mem_cons, List.not_mem_nil, or_false] at hq; rcases hq with rfl | rfl | rfl | rfl | rfl | rfl | rfl <;> dsimp only <;> omega)
        clear hk
        refine lv_dup hx hb dX_init_79 rfl ?_
        refine ctIN (n := 0) hx hb hml hown hT ⟨c_S_init l K (b + 28 + 7 * i), ⟨_, _, _, Or.inl ⟨rfl, rfl⟩⟩, mt_49, mt_3, by decide, by decide +kernel, by decide, by decide, by show _ + 1 + 6 ≤ 103; omega, by show _ + 10 + 24 ≤ 600; omega⟩ PC.blind rfl rfl mt_47 mt_48 (As := []) (rest := [.ref (b + 28 + 7 * i), .int (iI (i : Int)), .ref (b + 27)]) rfl (PC.at ⟨hT, hK⟩ ⟨hz1, hq1⟩) hl.1 rfl (Nat.le_of_ble_eq_true rfl) dX_init_80 (krV (c1 := 27 + 7 * (i + 1)) (s1 := 200 + 34 * (i + 1)) (by show _ + 1 + 6 = _; omega) (by show _ + 10 + 24 = _; omega) (fun t9 H2 L9 hA9 hL9 hpo => ?_))
        have hk : ∀ q9 : Nat, q9 < (b + 28 + 7 * i) → H2[q9]? = H1[q9]? := fun q9 h9 => hA9.2.2.2.2 q9 (Nat.lt_of_lt_of_le h9 (by rw [hz1]; omega)) (show ¬ (b + 28 + 7 * i) ≤ q9 by omega)
        refine W.drop (fun y hy => Nat.le_trans (show s.heap.size ≤ (b + 28 + 7 * i) by omega) (hL9 y hy)) ?_
        obtain ⟨hz2, hw2⟩ := hpo
        clear hA9 hL9 hq1
        replace hM : va_P (kD K) vcl [(b, .inr (0, [.ref (b + 1), .int (iI 0), .ref (b + 26), .ref (b + 27), .null])), (b + 1, .inl (kW K, 12, .inr (.inr (.inr (.inr (fun k => if k < 12 then some (b + 2 + 2 * k) else none)))))), (b + 27, .inl (kS K, 10, .inr (.inr (.inr (.inr (fun k => if k < i then some (b + 28 + 7 * k) else none))))))] H2 := va_P_lt hM hk (fun q hq => by simp only [List.mem_cons, List.not_mem_nil, or_false] at hq; rcases hq with rfl | rfl | rfl <;> dsimp only <;> omega)
        replace hW9 := fun k hk9 => va_P_lt (hW9 k hk9) hk (fun q hq => by simp only [List.mem_cons, List.not_mem_nil, or_false] at hq; rcases hq with rfl | rfl <;> dsimp only <;> omega)
        replace hwa := va_P_lt (hwa) hk (fun q hq => by simp only [List.mem_cons, List.not_mem_nil, or_false] at hq; rcases hq with rfl <;> dsimp only <;> omega)
        replace hS9 := fun k hk9 => va_P_lt (hS9 k hk9) hk (fun q hq => by simp only [List.mem_cons, List.not_mem_nil, or_false] at hq; rcases hq with rfl | rfl | rfl | rfl | rfl | rfl | rfl <;> dsimp only <;> omega)
        clear hk
        refine iz_aast hx hb hK (va_P_two hM hw2) 2 3 3 2 rfl rfl rfl rfl i rfl (by omega) (by omega) dX_init_83 (fun H3 hz3 hk ha3 => ?_)
        have ef : va_up (fun k => if k < i then some (b + 28 + 7 * k) else none) i (some (b + 28 + 7 * i)) = (fun k => if k < i + 1 then some (b + 28 + 7 * k) else none) := by
          funext k
          unfold va_up
          by_cases h : k = i
          · subst h; rw [if_pos rfl, if_pos (by omega)]
          · rw [if_neg h]; show (if k < i then some (b + 28 + 7 * k) else none) = _
            by_cases h2 : k < i
            · rw [if_pos h2, if_pos (by omega)]
            · rw [if_neg h2, if_neg (by omega)]
        rw [ef] at ha3
        replace hM : va_P (kD K) vcl [(b, .inr (0, [.ref (b + 1), .int (iI 0), .ref (b + 26), .ref (b + 27), .null])), (b + 1, .inl (kW K, 12, .inr (.inr (.inr (.inr (fun k => if k < 12 then some (b + 2 + 2 * k) else none)))))), (b + 27, .inl (kS K, 10, .inr (.inr (.inr (.inr (fun k => if k < (i + 1) then some (b + 28 + 7 * k) else none))))))] H3 := (va_P_two (va_P_two (va_P_k1 (hM.sub (ws' := [(b, .inr (0, [.ref (b + 1), .int (iI 0), .ref (b + 26), .ref (b + 27), .null]))]) [0] rfl) (hk _ (by omega))) (va_P_k1 (hM.sub (ws' := [(b + 1, .inl (kW K, 12, .inr (.inr (.inr (.inr (fun k => if k < 12 then some (b + 2 + 2 * k) else none))))))]) [1] rfl) (hk _ (by omega)))) (va_P_a1 ha3))
        replace hW9 := fun k hk9 => va_P_kp (hW9 k hk9) (fun q hq => hk q.1 (by simp only [List.mem_cons, List.not_mem_nil, or_false] at hq; rcases hq with rfl | rfl <;> dsimp only <;> omega))
        replace hwa := va_P_kp (hwa) (fun q hq => hk q.1 (by simp only [List.mem_cons, List.not_mem_nil, or_false] at hq; rcases hq with rfl <;> dsimp only <;> omega))
        replace hS9 := fun k hk9 => va_P_kp (hS9 k hk9) (fun q hq => hk q.1 (by simp only [List.mem_cons, List.not_mem_nil, or_false] at hq; rcases hq with rfl | rfl | rfl | rfl | rfl | rfl | rfl <;> dsimp only <;> omega))
        replace hw2 := va_P_kp hw2 (fun q hq => hk q.1 (by simp only [List.mem_cons, List.not_mem_nil, or_false] at hq; rcases hq with rfl | rfl | rfl | rfl | rfl | rfl | rfl <;> dsimp only <;> omega))
        have hF2 : ∀ k, k < (i + 1) → va_P (kD K) vcl (shW K (b + 28 + 7 * k) 0 (fun _ => 0) (fun _ => 0) (fun _ => 0) (fun _ => 0) (fun _ => 0) (fun _ => 0) 0 0 (-1)) H3 := by
          intro k hk9
          by_cases e9 : k = i
          · subst e9; exact hw2
          · exact hS9 k (by omega)
        have hlo2 : ∀ q ∈ locs ++ [⟨b + 27, i⟩], AA q.base := by
          intro q hq
          rcases List.mem_append.mp hq with hq | hq
          · exact hlo q hq
          · rw [List.mem_singleton.mp hq, hAA]; exact Or.inr (Or.inr rfl)
        refine iz_iinc (k := 1) (lv' := [(1, .int (iI ((i : Int) + 1))), (0, .ref b)]) hx hb dX_init_84 hl rfl (by decide) rfl (fun ls hl => ?_)
        refine lv_goto (tgt := 62) hx hb dX_init_87 (by decide) ?_
        exact ih (i + 1) (by omega) (by omega) H3 _ hlo2 (by omega) hM hF2 hW9 hwa kk ls (lv_sub hl [1, 0] rfl)
  refine sloop 11 0 (by omega) (by omega) H _ hlo (by omega) hM (fun k hk => absurd hk (by omega)) hW9 hwa ?_ ls (lv_sub hl [1, 0] rfl)
  clear hlo hsz hM sloop hl hW9 hwa
  intro H locs hlo hsz hM hS9 hW9 hwa ls hl
  refine lv_aload_n hx hb dX_init_90 rfl (lv_at hl 0 rfl) ?_
  refine iz_new hx hb hT hK jnA tA tA_ok hown mt_84 mt_85 mt_4 (ci := 3) rfl dfA (Nat.le_of_ble_eq_true rfl) (Nat.le_of_ble_eq_true rfl) hsz dX_init_91 (fun H1 hz1 hq1 hk => ?_)
  replace hM : va_P (kD K) vcl [(b, .inr (0, [.ref (b + 1), .int (iI 0), .ref (b + 26), .ref (b + 27), .null])), (b + 1, .inl (kW K, 12, .inr (.inr (.inr (.inr (fun k => if k < 12 then some (b + 2 + 2 * k) else none)))))), (b + 27, .inl (kS K, 10, .inr (.inr (.inr (.inr (fun k => if k < 10 then some (b + 28 + 7 * k) else none))))))] H1 := va_P_lt hM hk (fun q hq => by simp only [List.mem_cons, List.not_mem_nil, or_false] at hq; rcases hq with rfl | rfl | rfl <;> dsimp only <;> omega)
  replace hW9 := fun k hk9 => va_P_lt (hW9 k hk9) hk (fun q hq => by simp only [List.mem_cons, List.not_mem_nil, or_false] at hq; rcases hq with rfl | rfl <;> dsimp only <;> omega)
  replace hS9 := fun k hk9 => va_P_lt (hS9 k hk9) hk (fun q hq => by simp only [List.mem_cons, List.not_mem_nil, or_false] at hq; rcases hq with rfl | rfl | rfl | rfl | rfl | rfl | rfl <;> dsimp only <;> omega)
  replace hwa := va_P_lt (hwa) hk (fun q hq => by simp only [List.mem_cons, List.not_mem_nil, or_false] at hq; rcases hq with rfl <;> dsimp only <;> omega)
  clear hk
  refine lv_dup hx hb dX_init_94 rfl ?_
  refine ctIN (n := 0) hx hb hml hown hT ⟨c_A_init l K (b + 98), ⟨_, _, _, Or.inl ⟨rfl, rfl⟩⟩, mt_88, mt_4, by decide, by decide +kernel, by decide, by decide, by decide, by decide⟩ PC.blind rfl rfl mt_86 mt_87 (As := []) (rest := [.ref (b + 98), .ref b]) rfl (PC.at ⟨hT, hK⟩ ⟨hz1, hq1⟩) hl.1 rfl (Nat.le_of_ble_eq_true rfl) dX_init_95 (krV (c1 := 103) (s1 := 600) rfl rfl (fun t9 H2 L9 hA9 hL9 hpo => ?_))
  have hk : ∀ q9 : Nat, q9 < b + 98 → H2[q9]? = H1[q9]? := fun q9 h9 => hA9.2.2.2.2 q9 (Nat.lt_of_lt_of_le h9 (by rw [hz1]; omega)) (show ¬ b + 98 ≤ q9 by omega)
  refine W.drop (fun y hy => Nat.le_trans (show s.heap.size ≤ b + 98 by omega) (hL9 y hy)) ?_
  obtain ⟨hz2, hsw⟩ := hpo
  clear hA9 hL9 hq1
  replace hM : va_P (kD K) vcl [(b, .inr (0, [.ref (b + 1), .int (iI 0), .ref (b + 26), .ref (b + 27), .null])), (b + 1, .inl (kW K, 12, .inr (.inr (.inr (.inr (fun k => if k < 12 then some (b + 2 + 2 * k) else none)))))), (b + 27, .inl (kS K, 10, .inr (.inr (.inr (.inr (fun k => if k < 10 then some (b + 28 + 7 * k) else none))))))] H2 := va_P_lt hM hk (fun q hq => by simp only [List.mem_cons, List.not_mem_nil, or_false] at hq; rcases hq with rfl | rfl | rfl <;> dsimp only <;> omega)
  replace hW9 := fun k hk9 => va_P_lt (hW9 k hk9) hk (fun q hq => by simp only [List.mem_cons, List.not_mem_nil, or_false] at hq; rcases hq with rfl | rfl <;> dsimp only <;> omega)
  replace hS9 := fun k hk9 => va_P_lt (hS9 k hk9) hk (fun q hq => by simp only [List.mem_cons, List.not_mem_nil, or_false] at hq; rcases hq with rfl | rfl | rfl | rfl | rfl | rfl | rfl <;> dsimp only <;> omega)
  replace hwa := va_P_lt (hwa) hk (fun q hq => by simp only [List.mem_cons, List.not_mem_nil, or_false] at hq; rcases hq with rfl <;> dsimp only <;> omega)
  clear hk hsz
  have hsz := hz2
  clear hz2
  have hD1 : va_D AA [(b, .inr (0, [.ref (b + 1), .int (iI 0), .ref (b + 26), .ref (b + 27), .null])), (b + 1, .inl (kW K, 12, .inr (.inr (.inr (.inr (fun k => if k < 12 then some (b + 2 + 2 * k) else none)))))), (b + 27, .inl (kS K, 10, .inr (.inr (.inr (.inr (fun k => if k < 10 then some (b + 28 + 7 * k) else none))))))] := by rw [hAA]; exact va_D_of (by simp) (by simp)
  have hS1 : va_S AA H2 H2 _ := ⟨Nat.le_refl _, fun _ _ _ => rfl, hlo⟩
  refine va_putF (D := kD K) (ci := 0) (v := .ref (b + 98)) (ty := .object "LayerQuantities$Saw") (C := RX) (T := FX) (N := 5) hx hb hts jnX tX tX_ok nX hown hK hM hD1 hS1 0 rfl rfl 4 (by decide) (hts _ mt_130) (fun _ h9 => h9) rfl hnm rfl (by decide +kernel) rfl rfl (Nat.le_of_ble_eq_true rfl) dX_init_98 ?_
  clear hlo hM hD1 hS1
  intro H locs hM hDp hSp
  have hk := hSp.2.1
  have hlo := hSp.2.2
  refine W.sz (fun hs9 => ?_)
  replace hW9 := fun k hk9 => va_P_kp (hW9 k hk9) (fun q hq => hk q.1 (Nat.lt_of_lt_of_le (by simp only [List.mem_cons, List.not_mem_nil, or_false] at hq; rcases hq with rfl | rfl <;> dsimp only <;> omega) (Nat.le_of_eq hsz.symm)) (by rw [hAA]; simp only [List.mem_cons, List.not_mem_nil, or_false] at hq; rcases hq with rfl | rfl <;> (show ¬ (_ ∨ _ ∨ _)) <;> dsimp only <;> omega))
  replace hS9 := fun k hk9 => va_P_kp (hS9 k hk9) (fun q hq => hk q.1 (Nat.lt_of_lt_of_le (by simp only [List.mem_cons, List.not_mem_nil, or_false] at hq; rcases hq with rfl | rfl | rfl | rfl | rfl | rfl | rfl <;> dsimp only <;> omega) (Nat.le_of_eq hsz.symm)) (by rw [hAA]; simp only [List.mem_cons, List.not_mem_nil, or_false] at hq; rcases hq with rfl | rfl | rfl | rfl | rfl | rfl | rfl <;> (show ¬ (_ ∨ _ ∨ _)) <;> dsimp only <;> omega))
  replace hwa := va_P_kp (hwa) (fun q hq => hk q.1 (Nat.lt_of_lt_of_le (by simp only [List.mem_cons, List.not_mem_nil, or_false] at hq; rcases hq with rfl <;> dsimp only <;> omega) (Nat.le_of_eq hsz.symm)) (by rw [hAA]; simp only [List.mem_cons, List.not_mem_nil, or_false] at hq; rcases hq with rfl <;> (show ¬ (_ ∨ _ ∨ _)) <;> dsimp only <;> omega))
  replace hsw := va_P_kp (hsw) (fun q hq => hk q.1 (Nat.lt_of_lt_of_le (by simp only [List.mem_cons, List.not_mem_nil, or_false] at hq; rcases hq with rfl | rfl | rfl | rfl | rfl | rfl <;> dsimp only <;> omega) (Nat.le_of_eq hsz.symm)) (by rw [hAA]; simp only [List.mem_cons, List.not_mem_nil, or_false] at hq; rcases hq with rfl | rfl | rfl | rfl | rfl | rfl <;> (show ¬ (_ ∨ _ ∨ _)) <;> dsimp only <;> omega))
  replace hsz : H.size = b + 104 := (Nat.le_antisymm (by omega) (Nat.le_trans (Nat.le_of_eq hsz.symm) hSp.1))
  clear hk hDp hSp hs9
  replace hM : va_P (kD K) vcl [(b, .inr (0, [.ref (b + 1), .int (iI 0), .ref (b + 26), .ref (b + 27), .ref (b + 98)])), (b + 1, .inl (kW K, 12, .inr (.inr (.inr (.inr (fun k => if k < 12 then some (b + 2 + 2 * k) else none)))))), (b + 27, .inl (kS K, 10, .inr (.inr (.inr (.inr (fun k => if k < 10 then some (b + 28 + 7 * k) else none))))))] H := hM
  have hWq := va_P_arrq (hM.sub (ws' := [(b + 1, .inl (kW K, 12, .inr (.inr (.inr (.inr (fun k => if k < 12 then some (b + 2 + 2 * k) else none))))))]) [1] rfl) (g := fun i => some (b + 2 + 2 * i)) (fun j hj => if_pos hj)
  have hSq := va_P_arrq (hM.sub (ws' := [(b + 27, .inl (kS K, 10, .inr (.inr (.inr (.inr (fun k => if k < 10 then some (b + 28 + 7 * k) else none))))))]) [2] rfl) (g := fun i => some (b + 28 + 7 * i)) (fun j hj => if_pos hj)
  have hXq := hM.sub (ws' := [(b, .inr (0, [.ref (b + 1), .int (iI 0), .ref (b + 26), .ref (b + 27), .ref (b + 98)]))]) [0] rfl
  rw [hQ]
  exact iz_vret hx hb hr hlocks (⟨hsz, va_P_two (va_P_two (va_P_two hXq hWq) hwa) hSq, hW9, hS9, hsw⟩) (fun q hq => by rw [hAe]; have h9 := hlo q hq; rw [hAA] at h9; show b ≤ q.base; rcases h9 with h9 | h9 | h9 <;> (rw [h9]; omega)) dX_init_101
