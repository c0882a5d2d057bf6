theorem sm_snoc (f : Nat → Int) : ∀ (d k : Nat), sm f k (d + 1) = sm f k d + f (k + d) := by
  intro d
  induction d with
  | zero => intro k; rw [sm_s, sm_0, sm_0, Nat.add_zero]; omega
  | succ d ih => intro k; rw [sm_s, ih, sm_s, show k + 1 + d = k + (d + 1) by omega]; omega
