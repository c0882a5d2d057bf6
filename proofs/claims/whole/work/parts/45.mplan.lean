-- THE REFERENCE'S PLAN: only bars that are used, and the next one
def ldF (F : Int) (fr : Nat → Int) : Nat → Int := fun y => F - fr y
theorem ldF_at (F : Int) (fr : Nat → Int) (y : Nat) : ldF F fr y = F - fr y := rfl
theorem ldF_put {F x v : Int} {fr : Nat → Int} {f : Nat} (h : v = F - (fr f - x)) : ut (ldF F fr) f v = ldF F (ut fr f (fr f - x)) := by
  funext y
  by_cases e : y = f
  · subst e
    rw [ut_s, ldF_at, ut_s, h]
  · rw [ut_n _ _ e, ldF_at, ldF_at, ut_n _ _ e]
theorem ldF_back {F x v : Int} {fr : Nat → Int} {f : Nat} (h : v = F - fr f) : ut (ldF F (ut fr f x)) f v = ldF F fr := by
  funext y
  by_cases e : y = f
  · subst e
    rw [ut_s, ldF_at, h]
  · rw [ut_n _ _ e, ldF_at, ldF_at, ut_n _ _ e]
/-- u bars are used by the first p pieces -/
def plU (bb : Nat → Int) (p : Nat) (u : Int) : Prop := (∀ i, i < p → 0 ≤ bb i ∧ bb i < u) ∧ (u = 0 ∨ ∃ i, i < p ∧ bb i + 1 = u)
theorem plU_eq {bb : Nat → Int} {p : Nat} {u v : Int} (h : plU bb p u) (g : plU bb p v) : u = v := by
  obtain ⟨h1, h2⟩ := h
  obtain ⟨g1, g2⟩ := g
  rcases h2 with h2 | ⟨i, hi, h2⟩ <;> rcases g2 with g2 | ⟨k, hk, g2⟩
  · omega
  · have := h1 k hk; omega
  · have := g1 i hi; omega
  · have := h1 k hk; have := g1 i hi; omega
theorem plU_congr {bb bb' : Nat → Int} {p : Nat} {u : Int} (hb : ∀ i, i < p → bb' i = bb i) (h : plU bb p u) : plU bb' p u := by
  obtain ⟨h1, h2⟩ := h
  refine ⟨fun i hi => by rw [hb i hi]; exact h1 i hi, ?_⟩
  rcases h2 with h2 | ⟨i, hi, h2⟩
  · exact Or.inl h2
  · exact Or.inr ⟨i, hi, by rw [hb i hi]; exact h2⟩
theorem plU_0 (bb : Nat → Int) : plU bb 0 0 := ⟨fun i hi => absurd hi (by omega), Or.inl rfl⟩
theorem plU_s {bb : Nat → Int} {p : Nat} {u : Int} {f : Int} (h : plU bb p u) (hf : 0 ≤ f) : plU (ut bb p f) (p + 1) (if u < f + 1 then f + 1 else u) := by
  obtain ⟨h1, h2⟩ := h
  refine ⟨fun i hi => ?_, ?_⟩
  · by_cases e : i = p
    · subst e
      rw [ut_s]
      split <;> omega
    · rw [ut_n _ _ e]
      have := h1 i (by omega)
      split <;> omega
  · split
    · exact Or.inr ⟨p, by omega, by rw [ut_s]⟩
    · rcases h2 with h2 | ⟨i, hi, h2⟩
      · omega
      · exact Or.inr ⟨i, by omega, by rw [ut_n _ _ (by omega)]; exact h2⟩
/-- the bars behind the first empty one do what it does -/
theorem pl_all {sz : Nat → Int} {B p d u f : Nat} {fr : Nat → Int} {F : Int} (hf : ∀ y, u ≤ y → fr y = F) (hT : (u < B ∧ u < f) ∨ B ≤ f) (hno : ∀ b', b' < f → ¬ (sz p ≤ fr b' ∧ ∃ a, pl_X sz B a (p + 1) d (ut fr b' (fr b' - sz p)))) : ¬ ∃ a, pl_X sz B a p (d + 1) fr := by
  refine pl_R_nobar (fun b' hb' => ?_)
  by_cases e : b' < f
  · exact hno b' e
  · rintro ⟨g1, g2⟩
    rcases hT with ⟨h1, h2⟩ | h1
    · refine hno u h2 ⟨by rw [hf u (Nat.le_refl _)]; rw [hf b' (by omega)] at g1; exact g1, pl_like h1 hb' (by rw [hf u (Nat.le_refl _), hf b' (by omega)]) g2⟩
    · omega
theorem pl_us_le {s F : Int} (hF : 0 ≤ F) (B : Nat) : pl_us (fun _ => F) s B ≤ B * F := by
  unfold pl_us
  have h := sm_le (f := fun b => if s ≤ (fun _ : Nat => F) b then (fun _ : Nat => F) b else 0) (g := fun _ => F) B 0 (fun i _ _ => by show (if s ≤ F then F else 0) ≤ F; split <;> omega)
  exact Int.le_trans h (Int.le_of_eq (sm_const F B 0))
/-- fewer bars than all lengths need are not enough -/
theorem pl_few {sz : Nat → Int} {B n : Nat} {F : Int} (hF : 0 < F) (hs : ∀ i, i < n → 0 ≤ sz i) (h : ∃ a, pl_X sz B a 0 n (fun _ => F)) : cdiv (sm sz 0 n) F ≤ B := by
  obtain ⟨a, ha⟩ := h
  refine cdiv_le hF (Int.le_trans (pl_load (s := 0) n 0 (fun _ => F) (fun i _ hi => hs i (by omega)) (fun _ _ => Int.le_of_lt hF) ha) (pl_us_le (Int.le_of_lt hF) B))
theorem SwF_eq {bl cu : Int} {Pn : Nat} {le : Nat → Int} {B B' : Nat} {bo fr bo' fr' : Nat → Int} (h : SwF bl cu Pn le B bo fr) (h' : SwF bl cu Pn le B' bo' fr') : B = B' ∧ fr = fr' ∧ ∀ i, i < Pn → bo i = bo' i := by
  obtain ⟨a, x1, x2, x3, x4, x5⟩ := h
  obtain ⟨a', y1, y2, y3, y4, y5⟩ := h'
  have e : B = B' := by
    rcases Nat.lt_trichotomy B B' with q | q | q
    · exact absurd ⟨a, x1⟩ (y3 B q)
    · exact q
    · exact absurd ⟨a', y1⟩ (x3 B' q)
  subst e
  have ea := pl_lx_anti Pn 0 (x2 a' y1) (y2 a x1)
  refine ⟨rfl, ?_, fun i hi => ?_⟩
  · rw [x4, y4]
    exact pl_fr_congr Pn 0 _ ea
  · rw [x5 i hi, y5 i hi, ea i (by omega) (by omega)]
