-- THE BEST PURCHASE of K kinds for a need N
def py_Best (mu c : Nat → Int) (K : Nat) (N : Int) (n : Nat → Int) : Prop := py_F mu 0 K N 0 n ∧ ∀ n', py_F mu 0 K N 0 n' → ¬ py_bt (py_co c n' 0 K) (sm n' 0 K) (py_co c n 0 K) (sm n 0 K) ∧ (py_co c n' 0 K = py_co c n 0 K → sm n' 0 K = sm n 0 K → py_lx n n' 0 K)
theorem py_Best_eq {mu c : Nat → Int} {K : Nat} {N : Int} {n n' : Nat → Int} (h : py_Best mu c K N n) (h' : py_Best mu c K N n') : py_co c n 0 K = py_co c n' 0 K ∧ ∀ i, i < K → n i = n' i := by
  have a1 := (h.2 n' h'.1).1
  have a2 := (h'.2 n h.1).1
  unfold py_bt at a1 a2
  have e1 : py_co c n' 0 K = py_co c n 0 K := by omega
  have e2 : sm n' 0 K = sm n 0 K := by omega
  have b1 := (h.2 n' h'.1).2 e1 e2
  have b2 := (h'.2 n h.1).2 e1.symm e2.symm
  exact ⟨e1.symm, fun i hi => py_lx_anti K 0 b1 b2 i (by omega) (by omega)⟩
/-- what is known of a price to begin with: of so many of one kind, or more than all -/
def py_One (mu c : Nat → Int) (K : Nat) (N bp : Int) : Prop := bp = 6000001 ∨ ∃ i, i < K ∧ cdiv N (mu i) ≤ 60 ∧ bp = cdiv N (mu i) * c i
theorem py_cost_le {mu c : Nat → Int} {K : Nat} {N : Int} {n : Nat → Int} (hc : ∀ i, i < K → c i ≤ 100000) (h : py_F mu 0 K N 0 n) : py_co c n 0 K ≤ 6000000 := by
  obtain ⟨h1, -, h3⟩ := h
  have g : py_co c n 0 K ≤ sm n 0 K * 100000 := by
    rw [← sm_mul]
    exact sm_le K 0 (fun i a b => Int.mul_le_mul_of_nonneg_left (hc i (by omega)) (h1 i a b))
  omega
theorem py_one_F {mu : Nat → Int} {K i : Nat} {N v : Int} (hi : i < K) (hv : 0 ≤ v) (hN : N ≤ v * mu i) (h60 : v ≤ 60) (c : Nat → Int) : py_F mu 0 K N 0 (fun j => if j = i then v else 0) ∧ py_co c (fun j => if j = i then v else 0) 0 K = v * c i ∧ sm (fun j => if j = i then v else 0) 0 K = v := by
  have e1 : ∀ f : Nat → Int, py_co f (fun j => if j = i then v else 0) 0 K = v * f i := by
    intro f
    unfold py_co
    rw [sm_one (f := fun j => (if j = i then v else 0) * f j) (g := fun _ => 0) K 0 i (by omega) (by omega) (fun j _ _ hne => by show (if j = i then v else 0) * f j = 0; rw [if_neg hne, Int.zero_mul]), sm_zero K 0 (fun _ _ _ => rfl)]
    show 0 + ((if i = i then v else 0) * f i - 0) = v * f i
    rw [if_pos rfl]
    omega
  have e2 : sm (fun j => if j = i then v else 0) 0 K = v := by
    rw [sm_one (f := fun j => if j = i then v else 0) (g := fun _ => 0) K 0 i (by omega) (by omega) (fun j _ _ hne => by show (if j = i then v else 0) = 0; rw [if_neg hne]), sm_zero K 0 (fun _ _ _ => rfl)]
    show 0 + ((if i = i then v else 0) - 0) = v
    rw [if_pos rfl]
    omega
  refine ⟨⟨fun j _ _ => ?_, ?_, ?_⟩, e1 c, e2⟩
  · show 0 ≤ if j = i then v else 0
    split <;> omega
  · rw [e1]; exact hN
  · rw [e2]; omega
/-- what the whole search has found -/
theorem py_end {mu c : Nat → Int} {K : Nat} {N bp bp1 bc1 : Int} {bn bn1 : Nat → Int} (hN : 0 ≤ N) (hK : K ≤ 4) (hmu : ∀ i, i < K → 1 ≤ mu i) (hc : ∀ i, i < K → 1 ≤ c i ∧ c i ≤ 100000) (hone : py_One mu c K N bp)
    (h : py_R c 0 K 0 0 (fun _ => 0) (py_F mu 0 K N 0) bp 61 bn bp1 bc1 bn1) :
    (bp1 = 6000001 ∧ ∀ n, ¬ py_F mu 0 K N 0 n) ∨ (∃ n, py_Best mu c K N n ∧ bp1 = py_co c n 0 K ∧ bp1 ≤ 6000000 ∧ ∀ i, i < K → bn1 i = n i) := by
  rcases h with ⟨rfl, -, -, h⟩ | ⟨n, hF, e1, e2, e3, -, h⟩
  · left
    have hb : bp1 = 6000001 := by
      rcases hone with e | ⟨i, hi, h60, e⟩
      · exact e
      · obtain ⟨g1, g2, g3⟩ := py_one_F (mu := mu) hi (cdiv_nn (by have := hmu i hi; omega) hN) (cdiv_mul (by have := hmu i hi; omega)) h60 c
        have g4 := h _ g1
        rw [g2, g3] at g4
        unfold py_bt at g4
        omega
    refine ⟨hb, fun n hn => ?_⟩
    have g := h n hn
    have g2 := py_cost_le (c := c) (fun i hi => (hc i hi).2) hn
    unfold py_bt at g
    omega
  · right
    have g2 := py_cost_le (c := c) (fun i hi => (hc i hi).2) hF
    refine ⟨n, ⟨hF, fun n' hn' => ?_⟩, by omega, by omega, fun i hi => ?_⟩
    · obtain ⟨h1, h2⟩ := h n' hn'
      rw [e1, e2] at h1 h2
      refine ⟨?_, fun q1 q2 => h2 (by omega) (by omega)⟩
      unfold py_bt at h1 ⊢
      omega
    · rw [e3 i (by omega), if_pos ⟨by omega, by omega⟩]
/-- the cheapest for what it holds, of this kind and those behind it -/
theorem py_ratio {c1 m1 c2 m2 ci mi : Int} (h1 : 0 < m1) (h2 : 0 < m2) (h : c2 * m1 ≤ c1 * m2) (hi : c1 * mi ≤ ci * m1) (hmi : 0 ≤ mi) : c2 * mi ≤ ci * m2 := by
  have a : c2 * m1 * mi ≤ c1 * m2 * mi := Int.mul_le_mul_of_nonneg_right h hmi
  have b : c1 * mi * m2 ≤ ci * m1 * m2 := Int.mul_le_mul_of_nonneg_right hi (by omega)
  have e1 : c2 * m1 * mi = (c2 * mi) * m1 := by rw [Int.mul_assoc, Int.mul_comm m1, ← Int.mul_assoc]
  have e2 : c1 * m2 * mi = c1 * mi * m2 := by rw [Int.mul_assoc, Int.mul_comm m2, ← Int.mul_assoc]
  have e3 : ci * m1 * m2 = (ci * m2) * m1 := by rw [Int.mul_assoc, Int.mul_comm m1, ← Int.mul_assoc]
  have d : (c2 * mi) * m1 ≤ (ci * m2) * m1 := by rw [← e1, ← e3]; exact Int.le_trans a (by rw [e2]; exact b)
  exact Int.le_of_mul_le_mul_right d h1
