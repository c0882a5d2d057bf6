-- THE LAW: what the class and the reference hold in common, in numbers
theorem sm_add2 (f g : Nat → Int) : ∀ (d k : Nat), sm (fun i => f i + g i) k d = sm f k d + sm g k d := by
  intro d
  induction d with
  | zero => intro k; rw [sm_0, sm_0, sm_0]; omega
  | succ d ih => intro k; rw [sm_s, sm_s, sm_s, ih]; omega
theorem sm_pt (n : Nat) (v : Int) {x : Int} (h0 : 0 ≤ x) (h : x < n) : sm (fun k => if x = (k : Int) then v else 0) 0 n = v := by
  have h1 := sm_one (f := fun k : Nat => if x = (k : Int) then v else 0) (g := fun _ => 0) n 0 x.toNat (by omega) (by omega) (fun i _ _ hne => by show (if x = (i : Int) then v else 0) = 0; rw [if_neg (by omega)])
  rw [sm_zero n 0 (fun _ _ _ => rfl)] at h1
  have h2 : (if x = ((x.toNat : Nat) : Int) then v else 0) = v := if_pos (by omega)
  rw [h1, h2]
  omega
theorem sm_kinds (st tk : Nat → Int) : ∀ (d a : Nat), (∀ q, a ≤ q → q < a + d → 0 ≤ st q ∧ st q < 10) → sm (fun k => sm (fun q => if st q = (k : Int) then tk q else 0) a d) 0 10 = sm tk a d := by
  intro d
  induction d with
  | zero => intro a _; exact sm_zero 10 0 (fun _ _ _ => rfl)
  | succ d ih =>
    intro a h
    have e : (fun k : Nat => sm (fun q => if st q = (k : Int) then tk q else 0) a (d + 1)) = fun k : Nat => (if st a = (k : Int) then tk a else 0) + sm (fun q => if st q = (k : Int) then tk q else 0) (a + 1) d := by funext k; rw [sm_s]
    have h9 := h a (by omega) (by omega)
    rw [e, sm_add2 (fun k : Nat => if st a = (k : Int) then tk a else 0), ih (a + 1) (fun q h1 h2 => h q (by omega) (by omega)), sm_pt 10 _ h9.1 h9.2, sm_s tk]
/-- the walls: the class's sums and the reference's layers -/
def liW (wn : Nat) (ar oc lc st tk wa : Nat → Int) (th : Nat → Nat → Int) : Prop := MB wn ar oc lc st tk wa ∧ ∀ i, i < 12 → ∀ k, k < 10 → th i k = sm (fun q => if st q = (k : Int) then tk q else 0) (8 * i) (lc i).toNat
section LiW
variable {wn : Nat} {ar oc lc st tk wa : Nat → Int} {th : Nat → Nat → Int}
theorem liW.told (h : liW wn ar oc lc st tk wa th) {j : Nat} (hj : j < 12) : sm (th j) 0 10 = sm tk (8 * j) (lc j).toNat := by
  rw [sm_congr (g := fun k => sm (fun q => if st q = (k : Int) then tk q else 0) (8 * j) (lc j).toNat) 10 0 (fun k _ hk => h.2 j hj k (by omega))]
  exact sm_kinds st tk _ _ (fun q h1 h2 => (h.1.2.2.1 q (by have := (h.1.2.1 j hj).2.2; omega)).1)
theorem liW.wb (h : liW wn ar oc lc st tk wa th) : WB wn ar oc lc th wa := by
  refine ⟨h.1.1, fun i hi => ⟨(h.1.2.1 i hi).1, (h.1.2.1 i hi).2.1, (h.1.2.1 i hi).2.2, fun k hk => ?_⟩, h.1.2.2.2⟩
  have h9 := (h.1.2.1 i hi).2.2
  have hb : ∀ q, 8 * i ≤ q → q < 8 * i + (lc i).toNat → 0 ≤ (if st q = (k : Int) then tk q else 0) ∧ (if st q = (k : Int) then tk q else 0) ≤ 500 := by
    intro q h1 h2
    have h3 := (h.1.2.2.1 q (by omega)).2
    split <;> omega
  rw [h.2 i hi k hk]
  refine ⟨sm_nn _ _ (fun q h1 h2 => (hb q h1 h2).1), ?_⟩
  have h8 := sm_le (f := fun q => if st q = (k : Int) then tk q else 0) (g := fun _ => 500) (lc i).toNat (8 * i) (fun q h1 h2 => (hb q h1 h2).2)
  rw [sm_const] at h8
  omega
theorem liW.nd (h : liW wn ar oc lc st tk wa th) {k : Nat} (hk : k < 10) : ndX ar th wa wn k = ndM wn ar lc st tk wa k := by
  have e : sm (fun i => ar i * th i k) 0 wn = sm (ndW ar lc st tk k) 0 wn := by
    refine sm_congr wn 0 (fun i _ hi => ?_)
    show ar i * th i k = ndW ar lc st tk k i
    have h1 := h.1.1
    rw [h.2 i (by omega) k hk]
    unfold ndW
    rw [Int.mul_comm, ← sm_mul]
    refine sm_congr _ _ (fun q _ _ => ?_)
    show (if st q = (k : Int) then tk q else 0) * ar i = (if st q = (k : Int) then tk q * ar i else 0)
    split
    · rfl
    · exact Int.zero_mul _
  unfold ndX ndM
  rw [e]
theorem liW.wall (h : liW wn ar oc lc st tk wa th) (hwn : wn < 12) {x1 x2 : Int} (h1 : 1 ≤ x1 ∧ x1 ≤ 1000) (h2 : 1 ≤ x2 ∧ x2 ≤ 1000) : liW (wn + 1) (ut ar wn (x1 * x2)) oc lc st tk wa th := by
  refine ⟨⟨by omega, fun i hi => ?_, h.1.2.2⟩, h.2⟩
  have h3 := h.1.2.1 i hi
  refine ⟨?_, h3.2⟩
  by_cases e : i = wn
  · rw [e, ut_s]
    have h4 := mul_bd (show 0 ≤ x1 by omega) h1.2 (show 0 ≤ x2 by omega) h2.2
    omega
  · rw [ut_n _ _ e]
    exact h3.1
theorem liW.opening (h : liW wn ar oc lc st tk wa th) {j : Nat} {x2 x3 : Int} (h2 : 1 ≤ x2) (h3 : 1 ≤ x3) (h4 : oc j < 6) (h5 : x2 * x3 ≤ ar j) : liW wn (ut ar j (ar j - x2 * x3)) (ut oc j (oc j + 1)) lc st tk wa th := by
  refine ⟨⟨h.1.1, fun i hi => ?_, h.1.2.2⟩, h.2⟩
  have h6 := h.1.2.1 i hi
  by_cases e : i = j
  · subst e
    rw [ut_s, ut_s]
    have h7 : 0 ≤ x2 * x3 := Int.mul_nonneg (by omega) (by omega)
    exact ⟨⟨by omega, by omega⟩, ⟨by omega, by omega⟩, h6.2.2⟩
  · rw [ut_n _ _ e, ut_n _ _ e]
    exact h6
theorem liW.layer (h : liW wn ar oc lc st tk wa th) {j k2 : Nat} (hj : j < 12) {x2 x3 : Int} (h2 : x2 = (k2 : Int)) (hk : k2 < 10) (h3 : 1 ≤ x3 ∧ x3 ≤ 500) (h4 : lc j < 8) : liW wn ar oc (ut lc j (lc j + 1)) (ut st (8 * j + (lc j).toNat) x2) (ut tk (8 * j + (lc j).toNat) x3) wa (ut th j (ut (th j) k2 (th j k2 + x3))) := by
  have hlj := (h.1.2.1 j hj).2.2
  refine ⟨⟨h.1.1, fun i hi => ?_, fun q hq => ?_, h.1.2.2.2⟩, fun i hi k hk9 => ?_⟩
  · have h6 := h.1.2.1 i hi
    refine ⟨h6.1, h6.2.1, ?_⟩
    by_cases e : i = j
    · subst e
      rw [ut_s]
      exact ⟨by omega, by omega⟩
    · rw [ut_n _ _ e]
      exact h6.2.2
  · by_cases e : q = 8 * j + (lc j).toNat
    · rw [e, ut_s, ut_s]
      exact ⟨⟨by omega, by omega⟩, ⟨by omega, by omega⟩⟩
    · rw [ut_n _ _ e, ut_n _ _ e]
      exact h.1.2.2.1 q hq
  · have hlow : ∀ i9 : Nat, ∀ n : Nat, (∀ q, 8 * i9 ≤ q → q < 8 * i9 + n → q ≠ 8 * j + (lc j).toNat) → sm (fun q => if ut st (8 * j + (lc j).toNat) x2 q = (k : Int) then ut tk (8 * j + (lc j).toNat) x3 q else 0) (8 * i9) n = sm (fun q => if st q = (k : Int) then tk q else 0) (8 * i9) n := by
      intro i9 n hne
      refine sm_congr _ _ (fun q a b => ?_)
      show (if ut st (8 * j + (lc j).toNat) x2 q = (k : Int) then ut tk (8 * j + (lc j).toNat) x3 q else 0) = _
      rw [ut_n _ _ (hne q a b), ut_n _ _ (hne q a b)]
    by_cases e : i = j
    · subst e
      rw [ut_s, ut_s, show (lc i + 1).toNat = (lc i).toNat + 1 by omega, sm_snoc, hlow i (lc i).toNat (fun q a b => by omega), ← h.2 i hi k hk9]
      show ut (th i) k2 (th i k2 + x3) k = th i k + (if ut st (8 * i + (lc i).toNat) x2 (8 * i + (lc i).toNat) = (k : Int) then ut tk (8 * i + (lc i).toNat) x3 (8 * i + (lc i).toNat) else 0)
      rw [ut_s, ut_s]
      by_cases e2 : k = k2
      · rw [e2, ut_s, if_pos h2]
      · rw [ut_n _ _ e2, if_neg (by omega)]
        omega
    · rw [ut_n _ _ e, ut_n _ _ e, h.2 i hi k hk9]
      have h7 := (h.1.2.1 i hi).2.2
      exact (hlow i (lc i).toNat (fun q a b => by omega)).symm
theorem liW.waste (h : liW wn ar oc lc st tk wa th) {j : Nat} {x2 : Int} (h2 : 0 ≤ x2 ∧ x2 ≤ 100) : liW wn ar oc lc st tk (ut wa j x2) th := by
  refine ⟨⟨h.1.1, h.1.2.1, h.1.2.2.1, fun k hk => ?_⟩, h.2⟩
  by_cases e : k = j
  · rw [e, ut_s]
    exact h2
  · rw [ut_n _ _ e]
    exact h.1.2.2.2 k hk
end LiW
-- the purchase, over packages told otherwise
theorem py_co_cg {c c' n : Nat → Int} {K : Nat} (h : ∀ i, i < K → c i = c' i) : py_co c n 0 K = py_co c' n 0 K := sm_congr K 0 (fun i _ hi => by show n i * c i = n i * c' i; rw [h i (by omega)])
theorem py_F_cg {mu mu' : Nat → Int} {K : Nat} (h : ∀ i, i < K → mu i = mu' i) {N : Int} {n : Nat → Int} (hF : py_F mu 0 K N 0 n) : py_F mu' 0 K N 0 n := ⟨hF.1, by rw [← py_co_cg h]; exact hF.2.1, hF.2.2⟩
theorem py_Best_cg {mu mu' c c' : Nat → Int} {K : Nat} (h : ∀ i, i < K → mu i = mu' i) (hc : ∀ i, i < K → c i = c' i) {N : Int} {n : Nat → Int} (hB : py_Best mu c K N n) : py_Best mu' c' K N n := by
  refine ⟨py_F_cg h hB.1, fun n' h3 => ?_⟩
  have h4 := hB.2 n' (py_F_cg (fun i hi => (h i hi).symm) h3)
  rw [py_co_cg hc, py_co_cg hc] at h4
  exact h4
theorem buy_eq {mu pr mu' pr' : Nat → Int} {K K' : Nat} {N N' r co : Int} {bs : Nat → Int} {k : Nat} (hX : (r = -1 ∧ ∀ n, ¬ py_F mu 0 K N 0 n) ∨ ∃ n, py_Best mu pr K N n ∧ r = n k) (hk : k < K) (hM : byR mu' pr' K' N' co bs) (hK : K' = K) (hN : N' = N) (hmu : ∀ i, i < K → mu' i = mu i) (hpr : ∀ i, i < K → pr' i = pr i) : (if co < 0 then -1 else bs k) = r := by
  subst hK
  subst hN
  rcases hM with ⟨e1, hM⟩ | ⟨n', hB', e1, hco, hbs⟩
  · rw [e1, if_pos (by omega)]
    rcases hX with ⟨e2, -⟩ | ⟨n, hB, -⟩
    · exact e2.symm
    · exact absurd (py_F_cg (fun i hi => (hmu i hi).symm) hB.1) (hM n)
  · rw [if_neg (by omega), hbs k hk]
    have hB2 := py_Best_cg hmu hpr hB'
    rcases hX with ⟨-, hX⟩ | ⟨n, hB, e2⟩
    · exact absurd hB2.1 (hX n')
    · rw [e2]
      exact (py_Best_eq hB2 hB).2 k hk
theorem cost_eq {mu pr mu' pr' : Nat → Int} {K K' : Nat} {N N' r co : Int} {bs : Nat → Int} (hX : (r = -1 ∧ ∀ n, ¬ py_F mu 0 K N 0 n) ∨ ∃ n, py_Best mu pr K N n ∧ r = py_co pr n 0 K) (hM : byR mu' pr' K' N' co bs) (hK : K' = K) (hN : N' = N) (hmu : ∀ i, i < K → mu' i = mu i) (hpr : ∀ i, i < K → pr' i = pr i) : co = r := by
  subst hK
  subst hN
  rcases hM with ⟨e1, hM⟩ | ⟨n', hB', e1, hco, hbs⟩
  · rcases hX with ⟨e2, -⟩ | ⟨n, hB, -⟩
    · rw [e1, e2]
    · exact absurd (py_F_cg (fun i hi => (hmu i hi).symm) hB.1) (hM n)
  · have hB2 := py_Best_cg hmu hpr hB'
    rcases hX with ⟨-, hX⟩ | ⟨n, hB, e2⟩
    · exact absurd hB2.1 (hX n')
    · rw [e2, e1, py_co_cg hpr]
      exact (py_Best_eq hB2 hB).1
theorem whole_eq {mu pr mu' pr' : Nat → Nat → Int} {K K' : Nat → Nat} {N N' : Nat → Int} {r r' : Int} (hX : (r = -1 ∧ ∃ j, j < 10 ∧ ∀ n, ¬ py_F (mu j) 0 (K j) (N j) 0 n) ∨ ∃ M : Nat → Nat → Int, (∀ j, j < 10 → py_Best (mu j) (pr j) (K j) (N j) (M j)) ∧ r = sm (fun j => py_co (pr j) (M j) 0 (K j)) 0 10)
    (hM : (r' = -1 ∧ ∃ j, j < 10 ∧ ∀ n, ¬ py_F (mu' j) 0 (K' j) (N' j) 0 n) ∨ ∃ M : Nat → Nat → Int, (∀ j, j < 10 → py_Best (mu' j) (pr' j) (K' j) (N' j) (M j)) ∧ r' = sm (fun j => py_co (pr' j) (M j) 0 (K' j)) 0 10)
    (hK : ∀ j, j < 10 → K' j = K j) (hN : ∀ j, j < 10 → N' j = N j) (hmu : ∀ j, j < 10 → ∀ i, i < K j → mu' j i = mu j i) (hpr : ∀ j, j < 10 → ∀ i, i < K j → pr' j i = pr j i) : r' = r := by
  rcases hX with ⟨e1, j, hj, hX⟩ | ⟨M, hB, e1⟩
  · rcases hM with ⟨e2, -⟩ | ⟨M', hB', -⟩
    · rw [e1, e2]
    · have h1 := (hB' j hj).1
      rw [hK j hj, hN j hj] at h1
      exact absurd (py_F_cg (hmu j hj) h1) (hX _)
  · rcases hM with ⟨-, j, hj, hM⟩ | ⟨M', hB', e2⟩
    · have h1 := (hB j hj).1
      have h2 := py_F_cg (fun i hi => (hmu j hj i hi).symm) h1
      rw [← hK j hj, ← hN j hj] at h2
      exact absurd h2 (hM _)
    · rw [e1, e2]
      refine sm_congr 10 0 (fun j _ hj => ?_)
      have hj : j < 10 := by omega
      show py_co (pr' j) (M' j) 0 (K' j) = py_co (pr j) (M j) 0 (K j)
      have h1 := hB' j hj
      rw [hK j hj, hN j hj] at h1
      rw [hK j hj, py_co_cg (hpr j hj)]
      exact (py_Best_eq (py_Best_cg (hmu j hj) (hpr j hj) h1) (hB j hj)).1
/-- the shelves: the class's and the reference's packages -/
def liS (pk muM prM : Nat → Int) (Kn : Nat → Nat) (mu pr bg ch bn : Nat → Nat → Int) (bp bc sf : Nat → Int) : Prop := ∀ j, j < 10 → ShI (Kn j) (mu j) (pr j) (bg j) (ch j) (bn j) (bp j) (bc j) (sf j) ∧ pk j = (Kn j : Int) ∧ ∀ i, i < Kn j → muM (4 * j + i) = mu j i ∧ prM (4 * j + i) = pr j i
section LiS
variable {pk muM prM : Nat → Int} {Kn : Nat → Nat} {mu pr bg ch bn : Nat → Nat → Int} {bp bc sf : Nat → Int}
theorem liS.pkb (h : liS pk muM prM Kn mu pr bg ch bn bp bc sf) : ∀ j, j < 10 → 0 ≤ pk j ∧ pk j ≤ 4 := fun j hj => by
  have h1 := (h j hj).2.1
  have h2 := (h j hj).1.1.1
  omega
theorem liS.mp (h : liS pk muM prM Kn mu pr bg ch bn bp bc sf) : ∀ j, j < 10 → ∀ i, i < (pk j).toNat → (1 ≤ muM (4 * j + i) ∧ muM (4 * j + i) ≤ 1000000000) ∧ (1 ≤ prM (4 * j + i) ∧ prM (4 * j + i) ≤ 100000) := fun j hj i hi => by
  have h1 := (h j hj).2.1
  have h2 := (h j hj).1.1.2.1 i (by omega)
  have h3 := (h j hj).2.2 i (by omega)
  rw [h3.1, h3.2]
  exact ⟨⟨h2.1, h2.2.1⟩, h2.2.2⟩
theorem liS.kn (h : liS pk muM prM Kn mu pr bg ch bn bp bc sf) {j : Nat} (hj : j < 10) : (pk j).toNat = Kn j := by
  have h1 := (h j hj).2.1
  omega
theorem liS.put (h : liS pk muM prM Kn mu pr bg ch bn bp bc sf) {j : Nat} {bn' : Nat → Int} {bp' bc' sf' : Int} (h1 : ShI (Kn j) (mu j) (pr j) (bg j) (ch j) bn' bp' bc' sf') : liS pk muM prM (ut Kn j (Kn j)) (ut mu j (mu j)) (ut pr j (pr j)) (ut bg j (bg j)) (ut ch j (ch j)) (ut bn j bn') (ut bp j bp') (ut bc j bc') (ut sf j sf') := by
  intro i hi
  by_cases e : i = j
  · subst e
    simp only [ut_s]
    exact ⟨h1, (h i hi).2⟩
  · simp only [ut_n _ _ e]
    exact h i hi
theorem liS.pack (h : liS pk muM prM Kn mu pr bg ch bn bp bc sf) {j : Nat} (hj : j < 10) (h4 : Kn j < 4) {x2 x3 : Int} {bg' ch' : Nat → Int} (h1 : ShOK (Kn j + 1) (ut (mu j) (Kn j) x2) (ut (pr j) (Kn j) x3) bg' ch') : liS (ut pk j (pk j + 1)) (ut muM (4 * j + (pk j).toNat) x2) (ut prM (4 * j + (pk j).toNat) x3) (ut Kn j (Kn j + 1)) (ut mu j (ut (mu j) (Kn j) x2)) (ut pr j (ut (pr j) (Kn j) x3)) (ut bg j bg') (ut ch j ch') (ut bn j (bn j)) (ut bp j (bp j)) (ut bc j (bc j)) (ut sf j (-1)) := by
  intro i hi
  rw [h.kn hj]
  have h9 := h i hi
  by_cases e : i = j
  · subst e
    simp only [ut_s]
    refine ⟨⟨h1, h9.1.2.1, h9.1.2.2.1, Or.inl rfl⟩, by have := h9.2.1; omega, fun q hq => ?_⟩
    by_cases e2 : q = Kn i
    · rw [e2, ut_s, ut_s, ut_s, ut_s]
      exact ⟨rfl, rfl⟩
    · rw [ut_n _ _ e2, ut_n _ _ e2, ut_n _ _ (by omega), ut_n _ _ (by omega)]
      exact h9.2.2 q (by omega)
  · simp only [ut_n _ _ e]
    refine ⟨h9.1, h9.2.1, fun q hq => ?_⟩
    have h8 := h9.1.1.1
    rw [ut_n _ _ (by omega), ut_n _ _ (by omega)]
    exact h9.2.2 q hq
end LiS
theorem pickN (N : Nat) (hN : 0 < N) (x n : Int) (hn : n ≤ N) : ∃ j : Nat, j < N ∧ (0 ≤ x → x < n → x = j) := by
  by_cases h : 0 ≤ x ∧ x < n
  · exact ⟨x.toNat, by omega, fun _ _ => by omega⟩
  · exact ⟨0, hN, fun a b => absurd ⟨a, b⟩ h⟩
