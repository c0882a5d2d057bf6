-- THE PLAN: pieces p .. p + d - 1 of sizes sz into B bars with fr free in each
def pl_X (sz : Nat → Int) (B : Nat) (a : Nat → Nat) : Nat → Nat → (Nat → Int) → Prop
  | _, 0, _ => True
  | p, d + 1, fr => a p < B ∧ sz p ≤ fr (a p) ∧ pl_X sz B a (p + 1) d (ut fr (a p) (fr (a p) - sz p))
def pl_fr (sz : Nat → Int) (a : Nat → Nat) : Nat → Nat → (Nat → Int) → (Nat → Int)
  | _, 0, fr => fr
  | p, d + 1, fr => pl_fr sz a (p + 1) d (ut fr (a p) (fr (a p) - sz p))
/-- into bars of lesser numbers -/
def pl_lx (a a' : Nat → Nat) : Nat → Nat → Prop
  | _, 0 => True
  | p, d + 1 => a p < a' p ∨ (a p = a' p ∧ pl_lx a a' (p + 1) d)
theorem pl_X_s {sz : Nat → Int} {B : Nat} {a : Nat → Nat} {p d : Nat} {fr : Nat → Int} : pl_X sz B a p (d + 1) fr ↔ a p < B ∧ sz p ≤ fr (a p) ∧ pl_X sz B a (p + 1) d (ut fr (a p) (fr (a p) - sz p)) := Iff.rfl
theorem pl_fr_s {sz : Nat → Int} {a : Nat → Nat} {p d : Nat} {fr : Nat → Int} : pl_fr sz a p (d + 1) fr = pl_fr sz a (p + 1) d (ut fr (a p) (fr (a p) - sz p)) := rfl
theorem pl_X_congr {sz : Nat → Int} {B : Nat} {a a' : Nat → Nat} : ∀ (d p : Nat) (fr : Nat → Int), (∀ i, p ≤ i → i < p + d → a i = a' i) → pl_X sz B a p d fr → pl_X sz B a' p d fr := by
  intro d
  induction d with
  | zero => intro p fr _ _; exact trivial
  | succ d ih =>
    intro p fr h hx
    obtain ⟨h1, h2, h3⟩ := hx
    have e := h p (by omega) (by omega)
    refine ⟨by rw [← e]; exact h1, by rw [← e]; exact h2, ?_⟩
    rw [← e]
    exact ih (p + 1) _ (fun i a b => h i (by omega) (by omega)) h3
theorem pl_fr_congr {sz : Nat → Int} {a a' : Nat → Nat} : ∀ (d p : Nat) (fr : Nat → Int), (∀ i, p ≤ i → i < p + d → a i = a' i) → pl_fr sz a p d fr = pl_fr sz a' p d fr := by
  intro d
  induction d with
  | zero => intro p fr _; rfl
  | succ d ih =>
    intro p fr h
    rw [pl_fr_s, pl_fr_s, h p (by omega) (by omega), ih (p + 1) _ (fun i a b => h i (by omega) (by omega))]
theorem pl_lx_congr {a a' b b' : Nat → Nat} : ∀ (d p : Nat), (∀ i, p ≤ i → i < p + d → a i = b i ∧ a' i = b' i) → pl_lx a a' p d → pl_lx b b' p d := by
  intro d
  induction d with
  | zero => intro p _ _; exact trivial
  | succ d ih =>
    intro p h hl
    obtain ⟨h1, h2⟩ := h p (by omega) (by omega)
    rcases hl with hl | ⟨hl, hr⟩
    · exact Or.inl (by omega)
    · exact Or.inr ⟨by omega, ih (p + 1) (fun i h1 h2 => h i (by omega) (by omega)) hr⟩
theorem pl_lx_anti {a a' : Nat → Nat} : ∀ (d p : Nat), pl_lx a a' p d → pl_lx a' a p d → ∀ i, p ≤ i → i < p + d → a i = a' i := by
  intro d
  induction d with
  | zero => intro p _ _ i h1 h2; omega
  | succ d ih =>
    intro p h1 h2 i g1 g2
    rcases h1 with h1 | ⟨h1, h1'⟩
    · rcases h2 with h2 | ⟨h2, h2'⟩ <;> omega
    · rcases h2 with h2 | ⟨h2, h2'⟩
      · omega
      · by_cases e : i = p
        · subst e; exact h1
        · exact ih (p + 1) h1' h2' i (by omega) (by omega)
/-- two bars change their places -/
def pl_sw (e b x : Nat) : Nat := if x = e then b else if x = b then e else x
theorem pl_sw_sw (e b x : Nat) : pl_sw e b (pl_sw e b x) = x := by
  unfold pl_sw
  by_cases h1 : x = e
  · by_cases h3 : b = e
    · simp [h1, h3]
    · simp [h1, h3]
  · by_cases h2 : x = b
    · simp [h1, h2]
    · simp [h1, h2]
theorem pl_sw_lt {e b x B : Nat} (he : e < B) (hb : b < B) (hx : x < B) : pl_sw e b x < B := by
  unfold pl_sw
  split
  · exact hb
  · split <;> omega
theorem pl_ut_sw (fr : Nat → Int) (e b x : Nat) (v : Int) : (fun y => ut fr x v (pl_sw e b y)) = ut (fun y => fr (pl_sw e b y)) (pl_sw e b x) v := by
  funext y
  by_cases h : y = pl_sw e b x
  · subst h
    rw [ut_s, pl_sw_sw, ut_s]
  · have h2 : pl_sw e b y ≠ x := fun q => h (by rw [← q, pl_sw_sw])
    rw [ut_n _ _ h, ut_n _ _ h2]
theorem pl_X_sw {sz : Nat → Int} {B e b : Nat} (he : e < B) (hb : b < B) {a : Nat → Nat} : ∀ (d p : Nat) (fr : Nat → Int), pl_X sz B a p d fr → pl_X sz B (fun i => pl_sw e b (a i)) p d (fun y => fr (pl_sw e b y)) := by
  intro d
  induction d with
  | zero => intro p fr _; exact trivial
  | succ d ih =>
    intro p fr h
    obtain ⟨h1, h2, h3⟩ := h
    refine ⟨pl_sw_lt he hb h1, by show sz p ≤ fr (pl_sw e b (pl_sw e b (a p))); rw [pl_sw_sw]; exact h2, ?_⟩
    have h4 := ih (p + 1) _ h3
    rw [pl_ut_sw] at h4
    show pl_X sz B _ (p + 1) d (ut (fun y => fr (pl_sw e b y)) (pl_sw e b (a p)) (fr (pl_sw e b (pl_sw e b (a p))) - sz p))
    rw [pl_sw_sw]
    exact h4
/-- a bar with as much free as another does what the other does -/
theorem pl_like {sz : Nat → Int} {B e b p d : Nat} {fr : Nat → Int} {x : Int} (he : e < B) (hb : b < B) (hf : fr e = fr b) (h : ∃ a, pl_X sz B a p d (ut fr b (fr b - x))) : ∃ a, pl_X sz B a p d (ut fr e (fr e - x)) := by
  obtain ⟨a, ha⟩ := h
  refine ⟨fun i => pl_sw e b (a i), ?_⟩
  have h1 := pl_X_sw he hb d p _ ha
  rw [pl_ut_sw] at h1
  have e1 : (fun y => fr (pl_sw e b y)) = fr := by
    funext y
    unfold pl_sw
    split
    · rename_i q; rw [q, hf]
    · split
      · rename_i q; rw [q, hf]
      · rfl
  have e2 : pl_sw e b b = e := by
    unfold pl_sw
    split
    · rename_i q; exact q
    · rw [if_pos rfl]
  rw [e1, e2, ← hf] at h1
  exact h1
theorem sm_one {f g : Nat → Int} : ∀ (d k j : Nat), k ≤ j → j < k + d → (∀ i, k ≤ i → i < k + d → i ≠ j → f i = g i) → sm f k d = sm g k d + (f j - g j) := by
  intro d
  induction d with
  | zero => intro k j h1 h2; omega
  | succ d ih =>
    intro k j h1 h2 h
    rw [sm_s, sm_s]
    by_cases e : j = k
    · subst e
      rw [sm_congr d (j + 1) (fun i a b => h i (by omega) (by omega) (by omega))]
      omega
    · rw [h k (by omega) (by omega) (by omega), ih (k + 1) j (by omega) (by omega) (fun i a b c => h i (by omega) (by omega) c)]
      omega
/-- what is free in the bars that still hold the least size -/
def pl_us (fr : Nat → Int) (s : Int) (B : Nat) : Int := sm (fun b => if s ≤ fr b then fr b else 0) 0 B
theorem pl_load {sz : Nat → Int} {B : Nat} {a : Nat → Nat} {s : Int} : ∀ (d p : Nat) (fr : Nat → Int), (∀ i, p ≤ i → i < p + d → s ≤ sz i) → (∀ b, b < B → 0 ≤ fr b) → pl_X sz B a p d fr → sm sz p d ≤ pl_us fr s B := by
  intro d
  induction d with
  | zero =>
    intro p fr _ h0 _
    rw [sm_0]
    refine sm_nn B 0 (fun i _ hi => ?_)
    show 0 ≤ if s ≤ fr i then fr i else 0
    split
    · exact h0 i (by omega)
    · exact Int.le_refl 0
  | succ d ih =>
    intro p fr hs h0 h
    obtain ⟨h1, h2, h3⟩ := h
    have hsp := hs p (by omega) (by omega)
    have h4 := ih (p + 1) _ (fun i a b => hs i (by omega) (by omega)) (fun b hb => by
      by_cases e : b = a p
      · subst e; rw [ut_s]; omega
      · rw [ut_n _ _ e]; exact h0 b hb) h3
    rw [sm_s]
    have h5 : pl_us (ut fr (a p) (fr (a p) - sz p)) s B = pl_us fr s B + ((if s ≤ fr (a p) - sz p then fr (a p) - sz p else 0) - (if s ≤ fr (a p) then fr (a p) else 0)) := by
      unfold pl_us
      rw [sm_one (f := fun b => if s ≤ ut fr (a p) (fr (a p) - sz p) b then ut fr (a p) (fr (a p) - sz p) b else 0) (g := fun b => if s ≤ fr b then fr b else 0) B 0 (a p) (by omega) (by omega) (fun i _ _ hne => by
        show (if s ≤ ut fr (a p) (fr (a p) - sz p) i then ut fr (a p) (fr (a p) - sz p) i else 0) = if s ≤ fr i then fr i else 0
        rw [ut_n _ _ hne])]
      show _ + ((if s ≤ ut fr (a p) (fr (a p) - sz p) (a p) then ut fr (a p) (fr (a p) - sz p) (a p) else 0) - _) = _
      rw [ut_s]
    rw [if_pos (by omega : s ≤ fr (a p))] at h5
    split at h5 <;> omega
/-- every piece into a bar of its own -/
theorem pl_own {sz : Nat → Int} {B : Nat} : ∀ (d p : Nat) (fr : Nat → Int), p + d ≤ B → (∀ i, p ≤ i → i < p + d → sz i ≤ fr i) → pl_X sz B (fun i => i) p d fr := by
  intro d
  induction d with
  | zero => intro p fr _ _; exact trivial
  | succ d ih =>
    intro p fr hB h
    exact ⟨by show p < B; omega, h p (by omega) (by omega), ih (p + 1) _ (by omega) (fun i a b => by rw [ut_n _ _ (show i ≠ p by omega)]; exact h i (by omega) (by omega))⟩
theorem pl_more {sz : Nat → Int} {B B' : Nat} (hB : B ≤ B') {a : Nat → Nat} : ∀ (d p : Nat) (fr : Nat → Int), pl_X sz B a p d fr → pl_X sz B' a p d fr := by
  intro d
  induction d with
  | zero => intro p fr _; exact trivial
  | succ d ih =>
    intro p fr h
    exact ⟨Nat.lt_of_lt_of_le h.1 hB, h.2.1, ih (p + 1) _ h.2.2⟩
/-- the answer of the search for bars of the pieces p .. p + d - 1: found, the first such choice, what is free then, who is where -/
def pl_R (sz : Nat → Int) (B p d : Nat) (fr : Nat → Int) (ba : Nat → Int) (r : Int) (fr' ba' : Nat → Int) : Prop :=
  (r = 1 ∧ ∃ a, pl_X sz B a p d fr ∧ (∀ a', pl_X sz B a' p d fr → pl_lx a a' p d) ∧ fr' = pl_fr sz a p d fr ∧ ∀ i, i < p + d → ba' i = if p ≤ i then (a i : Int) else ba i) ∨
  (r = 0 ∧ (¬ ∃ a, pl_X sz B a p d fr) ∧ fr' = fr ∧ ∀ i, i < p → ba' i = ba i)
theorem pl_R_0 {sz : Nat → Int} {B p : Nat} {fr ba : Nat → Int} : pl_R sz B p 0 fr ba 1 fr ba := by
  refine Or.inl ⟨rfl, fun _ => 0, trivial, fun _ _ => trivial, rfl, fun i hi => ?_⟩
  rw [if_neg (by omega)]
theorem pl_R_no {sz : Nat → Int} {B p d : Nat} {fr ba : Nat → Int} (h : ¬ ∃ a, pl_X sz B a p d fr) : pl_R sz B p d fr ba 0 fr ba := Or.inr ⟨rfl, h, rfl, fun _ _ => rfl⟩
/-- the first bar that will do -/
theorem pl_R_yes {sz : Nat → Int} {B p d b : Nat} {fr ba fr' ba' : Nat → Int} (hb : b < B) (hs : sz p ≤ fr b) (hno : ∀ b', b' < b → ¬ (sz p ≤ fr b' ∧ ∃ a, pl_X sz B a (p + 1) d (ut fr b' (fr b' - sz p))))
    (h : pl_R sz B (p + 1) d (ut fr b (fr b - sz p)) (ut ba p b) 1 fr' ba') : pl_R sz B p (d + 1) fr ba 1 fr' ba' := by
  rcases h with ⟨-, a, h1, h2, h3, h4⟩ | ⟨h, -⟩
  · have ag : ∀ i, p + 1 ≤ i → i < p + 1 + d → ut a p b i = a i := fun i x y => ut_n a b (by omega)
    have e : ut a p b p = b := ut_s a p b
    refine Or.inl ⟨rfl, ut a p b, ⟨by rw [e]; exact hb, by rw [e]; exact hs, ?_⟩, fun a' ha' => ?_, ?_, fun i hi => ?_⟩
    · rw [e]
      exact pl_X_congr d (p + 1) _ (fun i x y => (ag i x y).symm) h1
    · obtain ⟨g1, g2, g3⟩ := ha'
      rcases Nat.lt_trichotomy (a' p) b with q | q | q
      · exact absurd ⟨g2, a', g3⟩ (hno (a' p) q)
      · refine Or.inr ⟨by rw [e, q], ?_⟩
        rw [q] at g3
        exact pl_lx_congr d (p + 1) (fun i x y => ⟨(ag i x y).symm, rfl⟩) (h2 a' g3)
      · exact Or.inl (by rw [e]; exact q)
    · rw [pl_fr_s, e, pl_fr_congr d (p + 1) _ ag]
      exact h3
    · rw [h4 i (by omega)]
      by_cases e1 : i = p
      · subst e1
        rw [if_neg (by omega), if_pos (by omega), e, ut_s]
      · rw [ut_n a b e1, ut_n ba _ e1]
        by_cases e2 : p + 1 ≤ i
        · rw [if_pos e2, if_pos (by omega)]
        · rw [if_neg e2, if_neg (by omega)]
  · exact absurd h (by decide)
theorem pl_R_nobar {sz : Nat → Int} {B p d : Nat} {fr : Nat → Int} (hno : ∀ b', b' < B → ¬ (sz p ≤ fr b' ∧ ∃ a, pl_X sz B a (p + 1) d (ut fr b' (fr b' - sz p)))) : ¬ ∃ a, pl_X sz B a p (d + 1) fr := by
  rintro ⟨a, h1, h2, h3⟩
  exact hno (a p) h1 ⟨h2, a, h3⟩
theorem pl_R_ba {sz : Nat → Int} {B p d : Nat} {fr ba ba1 fr' ba' : Nat → Int} {r : Int} (hb : ∀ i, i < p → ba1 i = ba i) (h : pl_R sz B p d fr ba1 r fr' ba') : pl_R sz B p d fr ba r fr' ba' := by
  rcases h with ⟨h0, a, h1, h2, h3, h4⟩ | ⟨h0, h1, h2, h3⟩
  · refine Or.inl ⟨h0, a, h1, h2, h3, fun i hi => ?_⟩
    rw [h4 i hi]
    split
    · rfl
    · exact hb i (by omega)
  · exact Or.inr ⟨h0, h1, h2, fun i hi => (h3 i hi).trans (hb i hi)⟩
theorem pl_fr_bd {sz : Nat → Int} {B : Nat} {a : Nat → Nat} {M : Int} : ∀ (d p : Nat) (fr : Nat → Int), (∀ i, p ≤ i → i < p + d → 0 ≤ sz i) → (∀ b, b < B → 0 ≤ fr b ∧ fr b ≤ M) → pl_X sz B a p d fr → ∀ b, b < B → 0 ≤ pl_fr sz a p d fr b ∧ pl_fr sz a p d fr b ≤ M := by
  intro d
  induction d with
  | zero => intro p fr _ h _; exact h
  | succ d ih =>
    intro p fr hs h hx
    obtain ⟨h1, h2, h3⟩ := hx
    rw [pl_fr_s]
    refine ih (p + 1) _ (fun i x y => hs i (by omega) (by omega)) (fun b hb => ?_) h3
    have q1 := h b hb
    have q2 := hs p (by omega) (by omega)
    by_cases e : b = a p
    · subst e; rw [ut_s]; omega
    · rw [ut_n _ _ e]; exact q1
