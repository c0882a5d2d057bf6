theorem cdiv_bd {a b : Int} (hb : 0 < b) (ha : 0 ≤ a) : 0 ≤ cdiv a b ∧ cdiv a b ≤ a := by
  refine ⟨cdiv_nn hb ha, cdiv_le hb ?_⟩
  have h := Int.mul_le_mul_of_nonneg_left (show (1 : Int) ≤ b by omega) ha
  omega
theorem cdiv_ub {a b : Int} (hb : 0 < b) : cdiv a b * b ≤ a + b - 1 := by
  unfold cdiv
  have h := Int.emod_add_mul_ediv (a + b - 1) b
  have h1 := Int.emod_nonneg (a + b - 1) (show b ≠ 0 by omega)
  rw [Int.mul_comm] at h
  omega
theorem mul_bd {a b A B : Int} (ha : 0 ≤ a) (hA : a ≤ A) (hb : 0 ≤ b) (hB : b ≤ B) : 0 ≤ a * b ∧ a * b ≤ A * B :=
  ⟨Int.mul_nonneg ha hb, Int.le_trans (Int.mul_le_mul_of_nonneg_right hA hb) (Int.mul_le_mul_of_nonneg_left hB (by omega))⟩
theorem ut_ut {α : Type} (g : Nat → α) (k : Nat) (v w : α) : ut (ut g k v) k w = ut g k w := by
  funext j
  unfold ut
  by_cases h : j = k <;> simp [h]
theorem ut_id {α : Type} (g : Nat → α) (k : Nat) {v : α} (h : g k = v) : ut g k v = g := by
  funext j
  unfold ut
  by_cases hj : j = k
  · simp [hj, h]
  · simp [hj]
/-- what a shelf knows of its kinds -/
def ShOK (Kn : Nat) (mu pr bg ch : Nat → Int) : Prop := Kn ≤ 4 ∧ (∀ i, i < Kn → 1 ≤ mu i ∧ mu i ≤ 1000000000 ∧ 1 ≤ pr i ∧ pr i ≤ 100000) ∧ ∀ k, k < Kn → ∃ b c : Nat, bg k = b ∧ ch k = c ∧ b < Kn ∧ c < Kn ∧ (∀ i, k ≤ i → i < Kn → mu i ≤ mu b) ∧ ∀ i, k ≤ i → i < Kn → pr c * mu i ≤ pr i * mu c
theorem py_R_congr {c : Nat → Int} {k d : Nat} {co ct : Int} {tr : Nat → Int} {F G : (Nat → Int) → Prop} {bp bc bp1 bc1 : Int} {bn bn1 : Nat → Int} (hE : ∀ n, F n ↔ G n) (h : py_R c k d co ct tr F bp bc bn bp1 bc1 bn1) : py_R c k d co ct tr G bp bc bn bp1 bc1 bn1 := by
  have e : F = G := funext fun n => propext (hE n)
  rw [← e]
  exact h
