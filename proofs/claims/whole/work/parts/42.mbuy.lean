-- THE REFERENCE'S PURCHASE: all choices of the first kinds, with as few of the last as will do
theorem py_lx_tot (n n' : Nat → Int) : ∀ (d k : Nat), py_lx n n' k d ∨ py_lx n' n k d := by
  intro d
  induction d with
  | zero => intro k; exact Or.inl trivial
  | succ d ih =>
    intro k
    rcases Int.lt_trichotomy (n k) (n' k) with h | h | h
    · exact Or.inr (Or.inl h)
    · rcases ih (k + 1) with g | g
      · exact Or.inl (Or.inr ⟨h, g⟩)
      · exact Or.inr (Or.inr ⟨h.symm, g⟩)
    · exact Or.inl (Or.inl h)
theorem py_lx_tr {n n' n'' : Nat → Int} : ∀ (d k : Nat), py_lx n n' k d → py_lx n' n'' k d → py_lx n n'' k d := by
  intro d
  induction d with
  | zero => intro k _ _; exact trivial
  | succ d ih =>
    intro k h1 h2
    rcases h1 with h1 | ⟨h1, g1⟩ <;> rcases h2 with h2 | ⟨h2, g2⟩
    · exact Or.inl (by omega)
    · exact Or.inl (by omega)
    · exact Or.inl (by omega)
    · exact Or.inr ⟨by omega, ih (k + 1) g1 g2⟩
theorem py_lx_pre {n n' : Nat → Int} : ∀ (d e k : Nat), py_lx n n' k (d + e) → py_lx n n' k d := by
  intro d
  induction d with
  | zero => intro e k _; exact trivial
  | succ d ih =>
    intro e k h
    rw [show d + 1 + e = (d + e) + 1 by omega] at h
    rcases h with h | ⟨h, g⟩
    · exact Or.inl h
    · exact Or.inr ⟨h, ih e (k + 1) g⟩
theorem py_lx4 {n n' : Nat → Int} : py_lx n n' 0 4 ↔ (n' 0 < n 0 ∨ (n 0 = n' 0 ∧ (n' 1 < n 1 ∨ (n 1 = n' 1 ∧ (n' 2 < n 2 ∨ (n 2 = n' 2 ∧ n' 3 ≤ n 3)))))) := by
  show (n' 0 < n 0 ∨ (n 0 = n' 0 ∧ (n' 1 < n 1 ∨ (n 1 = n' 1 ∧ (n' 2 < n 2 ∨ (n 2 = n' 2 ∧ (n' 3 < n 3 ∨ (n 3 = n' 3 ∧ True)))))))) ↔ _
  simp only [and_true]
  omega
theorem sm4 (f : Nat → Int) : sm f 0 4 = f 0 + f 1 + f 2 + f 3 := by
  show f 0 + (f 1 + (f 2 + (f 3 + 0))) = _
  omega
theorem sm_app (f : Nat → Int) : ∀ (d e k : Nat), sm f k (d + e) = sm f k d + sm f (k + d) e := by
  intro d
  induction d with
  | zero => intro e k; rw [sm_0, Nat.zero_add, Nat.add_zero]; omega
  | succ d ih => intro e k; rw [show d + 1 + e = (d + e) + 1 by omega, sm_s, ih, sm_s, show k + 1 + d = k + (d + 1) by omega]; omega
theorem sm_cut {f : Nat → Int} {L : Nat} (hL : L ≤ 4) (h : ∀ i, L ≤ i → i < 4 → f i = 0) : sm f 0 4 = sm f 0 L := by
  have e := sm_app f L (4 - L) 0
  rw [show L + (4 - L) = 4 by omega, sm_zero (4 - L) (0 + L) (fun i a b => h i (by omega) (by omega))] at e
  omega
def by_v (a b c : Int) : Nat → Int := fun i => if i = 0 then a else if i = 1 then b else if i = 2 then c else 0
def by_mo (mu : Nat → Int) (L : Nat) (N : Int) (v : Nat → Int) : Int := if N ≤ py_co mu v 0 L then 0 else cdiv (N - py_co mu v 0 L) (mu L)
/-- a choice of the first kinds, with the fewest of the last -/
def by_ca (mu : Nat → Int) (L : Nat) (N : Int) (v : Nat → Int) : Nat → Int := ut v L (by_mo mu L N v)
theorem by_ca_L (mu : Nat → Int) (L : Nat) (N : Int) (v : Nat → Int) : by_ca mu L N v L = by_mo mu L N v := ut_s _ _ _
theorem by_ca_n {mu : Nat → Int} {L i : Nat} {N : Int} {v : Nat → Int} (h : i ≠ L) : by_ca mu L N v i = v i := ut_n _ _ h
theorem by_co (mu c : Nat → Int) (L : Nat) (N : Int) (v : Nat → Int) : py_co c (by_ca mu L N v) 0 (L + 1) = py_co c v 0 L + by_mo mu L N v * c L := by
  unfold py_co
  rw [sm_snoc, Nat.zero_add, by_ca_L, sm_congr (f := fun i => by_ca mu L N v i * c i) (g := fun i => v i * c i) L 0 (fun i a b => by show by_ca mu L N v i * c i = _; rw [by_ca_n (by omega)])]
theorem by_mo_nn {mu : Nat → Int} {L : Nat} {N : Int} {v : Nat → Int} (hm : 1 ≤ mu L) : 0 ≤ by_mo mu L N v := by
  unfold by_mo
  split
  · omega
  · exact cdiv_nn (by omega) (by omega)
theorem by_mu {mu : Nat → Int} {L : Nat} {N : Int} {v : Nat → Int} (hm : 1 ≤ mu L) : N ≤ py_co mu (by_ca mu L N v) 0 (L + 1) := by
  rw [by_co]
  unfold by_mo
  split
  · omega
  · have := cdiv_mul (a := N - py_co mu v 0 L) (b := mu L) (by omega)
    omega
theorem by_sm {mu : Nat → Int} {L : Nat} {N : Int} {v : Nat → Int} (hL : L < 4) (hv : v L = 0) : sm (by_ca mu L N v) 0 4 = sm v 0 4 + by_mo mu L N v := by
  rw [sm_one (f := by_ca mu L N v) (g := v) 4 0 L (by omega) (by omega) (fun i _ _ h => by_ca_n h), by_ca_L, hv]
  omega
/-- what is known when the choices E have been tried -/
def by_I (mu c : Nat → Int) (L : Nat) (N : Int) (E : Int → Int → Int → Prop) (co : Int) (bs : Nat → Int) : Prop :=
  (co = -1 ∧ ∀ x y z, E x y z → 60 < sm (by_ca mu L N (by_v x y z)) 0 4) ∨
  ((0 ≤ co ∧ co ≤ 6000000) ∧ (∃ x y z, E x y z ∧ sm (by_ca mu L N (by_v x y z)) 0 4 ≤ 60 ∧ (∀ i, i < 4 → bs i = by_ca mu L N (by_v x y z) i) ∧ co = py_co c (by_ca mu L N (by_v x y z)) 0 (L + 1)) ∧
    ∀ x y z, E x y z → sm (by_ca mu L N (by_v x y z)) 0 4 ≤ 60 → ¬ py_bt (py_co c (by_ca mu L N (by_v x y z)) 0 (L + 1)) (sm (by_ca mu L N (by_v x y z)) 0 4) co (sm bs 0 4) ∧ (py_co c (by_ca mu L N (by_v x y z)) 0 (L + 1) = co → sm (by_ca mu L N (by_v x y z)) 0 4 = sm bs 0 4 → py_lx bs (by_ca mu L N (by_v x y z)) 0 4))
theorem by_I_congr {mu c : Nat → Int} {L : Nat} {N : Int} {E F : Int → Int → Int → Prop} {co : Int} {bs : Nat → Int} (hE : ∀ x y z, E x y z ↔ F x y z) (h : by_I mu c L N E co bs) : by_I mu c L N F co bs := by
  have e : E = F := funext fun x => funext fun y => funext fun z => propext (hE x y z)
  rw [← e]
  exact h
theorem by_I_bd {mu c : Nat → Int} {L : Nat} {N : Int} {E : Int → Int → Int → Prop} {co : Int} {bs : Nat → Int} (h : by_I mu c L N E co bs) : -1 ≤ co ∧ co ≤ 6000000 := by
  rcases h with ⟨h, -⟩ | ⟨h, -⟩ <;> omega
theorem by_I_no {mu c : Nat → Int} {L : Nat} {N : Int} {E : Int → Int → Int → Prop} {co : Int} {bs : Nat → Int} {a b d : Int} (h : by_I mu c L N E co bs) (h6 : 60 < sm (by_ca mu L N (by_v a b d)) 0 4) : by_I mu c L N (fun x y z => E x y z ∨ (x = a ∧ y = b ∧ z = d)) co bs := by
  rcases h with ⟨h0, h⟩ | ⟨h0, ⟨x, y, z, h1, h2⟩, h⟩
  · refine Or.inl ⟨h0, fun x y z hE => ?_⟩
    rcases hE with hE | ⟨rfl, rfl, rfl⟩
    · exact h x y z hE
    · exact h6
  · refine Or.inr ⟨h0, ⟨x, y, z, Or.inl h1, h2⟩, fun x y z hE h9 => ?_⟩
    rcases hE with hE | ⟨rfl, rfl, rfl⟩
    · exact h x y z hE h9
    · omega
theorem by_I_keep {mu c : Nat → Int} {L : Nat} {N : Int} {E : Int → Int → Int → Prop} {co : Int} {bs : Nat → Int} {a b d : Int} (h : by_I mu c L N E co bs) (hco : 0 ≤ co) (h1 : ¬ py_bt (py_co c (by_ca mu L N (by_v a b d)) 0 (L + 1)) (sm (by_ca mu L N (by_v a b d)) 0 4) co (sm bs 0 4))
    (h2 : py_co c (by_ca mu L N (by_v a b d)) 0 (L + 1) = co → sm (by_ca mu L N (by_v a b d)) 0 4 = sm bs 0 4 → py_lx bs (by_ca mu L N (by_v a b d)) 0 4) : by_I mu c L N (fun x y z => E x y z ∨ (x = a ∧ y = b ∧ z = d)) co bs := by
  rcases h with ⟨h0, h⟩ | ⟨h0, ⟨x, y, z, g1, g2⟩, h⟩
  · omega
  · refine Or.inr ⟨h0, ⟨x, y, z, Or.inl g1, g2⟩, fun x y z hE h9 => ?_⟩
    rcases hE with hE | ⟨rfl, rfl, rfl⟩
    · exact h x y z hE h9
    · exact ⟨h1, h2⟩
theorem by_I_new {mu c : Nat → Int} {L : Nat} {N : Int} {E : Int → Int → Int → Prop} {co own : Int} {bs bs' : Nat → Int} {a b d : Int} (h : by_I mu c L N E co bs) (ho : own = py_co c (by_ca mu L N (by_v a b d)) 0 (L + 1)) (hob : 0 ≤ own ∧ own ≤ 6000000) (h60 : sm (by_ca mu L N (by_v a b d)) 0 4 ≤ 60) (hbs : ∀ i, i < 4 → bs' i = by_ca mu L N (by_v a b d) i)
    (hbt : co < 0 ∨ py_bt own (sm (by_ca mu L N (by_v a b d)) 0 4) co (sm bs 0 4) ∨ (own = co ∧ sm (by_ca mu L N (by_v a b d)) 0 4 = sm bs 0 4 ∧ ¬ py_lx bs (by_ca mu L N (by_v a b d)) 0 4)) : by_I mu c L N (fun x y z => E x y z ∨ (x = a ∧ y = b ∧ z = d)) own bs' := by
  have hs : sm bs' 0 4 = sm (by_ca mu L N (by_v a b d)) 0 4 := sm_congr 4 0 (fun i _ hi => hbs i (by omega))
  refine Or.inr ⟨hob, ⟨a, b, d, Or.inr ⟨rfl, rfl, rfl⟩, h60, hbs, ho⟩, fun x y z hE h9 => ?_⟩
  rcases hE with hE | ⟨rfl, rfl, rfl⟩
  · rcases h with ⟨h0, h⟩ | ⟨h0, -, h⟩
    · have := h x y z hE
      omega
    · obtain ⟨g1, g2⟩ := h x y z hE h9
      rcases hbt with hb | hb | ⟨e1, e2, e3⟩
      · omega
      · rw [hs]
        unfold py_bt at g1 hb ⊢
        exact ⟨by omega, fun q1 q2 => by omega⟩
      · rw [hs]
        unfold py_bt at g1 ⊢
        refine ⟨by omega, fun q1 q2 => ?_⟩
        have k1 := g2 (by omega) (by omega)
        have k2 : py_lx (by_ca mu L N (by_v a b d)) bs 0 4 := (py_lx_tot bs (by_ca mu L N (by_v a b d)) 4 0).resolve_left e3
        exact py_lx_congr 4 0 (fun i _ hi => ⟨(hbs i (by omega)).symm, rfl⟩) (py_lx_tr 4 0 k2 k1)
  · rw [hs, ← ho]
    refine ⟨by unfold py_bt; omega, fun _ _ => py_lx_eq 4 0 (fun i _ hi => hbs i (by omega))⟩
-- the order of the choices
def by_m0 (L : Nat) : Int := if 1 ≤ L then 60 else 0
def by_m1 (L : Nat) (a : Int) : Int := if 2 ≤ L then 60 - a else 0
def by_m2 (L : Nat) (a b : Int) : Int := if 3 ≤ L then 60 - a - b else 0
def by_G (L : Nat) (x y z : Int) : Prop := (0 ≤ x ∧ x ≤ by_m0 L) ∧ (0 ≤ y ∧ y ≤ by_m1 L x) ∧ (0 ≤ z ∧ z ≤ by_m2 L x y)
def by_E (L : Nat) (a b c x y z : Int) : Prop := by_G L x y z ∧ (x < a ∨ (x = a ∧ (y < b ∨ (y = b ∧ z < c))))
theorem by_E_0 {L : Nat} {x y z : Int} (h : by_E L 0 0 0 x y z) : False := by
  obtain ⟨⟨⟨h1, -⟩, ⟨h2, -⟩, ⟨h3, -⟩⟩, h4⟩ := h
  omega
theorem by_E_c {L : Nat} {a b c : Int} (hG : by_G L a b c) (x y z : Int) : (by_E L a b c x y z ∨ (x = a ∧ y = b ∧ z = c)) ↔ by_E L a b (c + 1) x y z := by
  constructor
  · rintro (⟨h1, h2⟩ | ⟨rfl, rfl, rfl⟩)
    · exact ⟨h1, by omega⟩
    · exact ⟨hG, by omega⟩
  · rintro ⟨h1, h2⟩
    by_cases e : x = a ∧ y = b ∧ z = c
    · exact Or.inr e
    · exact Or.inl ⟨h1, by omega⟩
theorem by_E_b {L : Nat} {a b c : Int} (hc : c = by_m2 L a b + 1) (x y z : Int) : by_E L a b c x y z ↔ by_E L a (b + 1) 0 x y z := by
  constructor
  · rintro ⟨h1, h2⟩
    exact ⟨h1, by omega⟩
  · rintro ⟨h1, h2⟩
    refine ⟨h1, ?_⟩
    obtain ⟨g1, g2, g3⟩ := h1
    by_cases e : x = a ∧ y = b
    · obtain ⟨rfl, rfl⟩ := e
      omega
    · omega
theorem by_E_a {L : Nat} {a b : Int} (hb : b = by_m1 L a + 1) (x y z : Int) : by_E L a b 0 x y z ↔ by_E L (a + 1) 0 0 x y z := by
  constructor
  · rintro ⟨h1, h2⟩
    exact ⟨h1, by omega⟩
  · rintro ⟨h1, h2⟩
    refine ⟨h1, ?_⟩
    obtain ⟨g1, g2, g3⟩ := h1
    by_cases e : x = a
    · subst e
      omega
    · omega
theorem by_E_e {L : Nat} {a : Int} (ha : a = by_m0 L + 1) (x y z : Int) : by_E L a 0 0 x y z ↔ by_G L x y z := by
  constructor
  · rintro ⟨h1, h2⟩
    exact h1
  · intro h1
    refine ⟨h1, ?_⟩
    obtain ⟨g1, g2, g3⟩ := h1
    omega
/-- every choice has its like among those that are tried -/
theorem by_key {L : Nat} (hL : L < 4) {mu : Nat → Int} {N : Int} {n : Nat → Int} (hF : py_F mu 0 (L + 1) N 0 n) : ∃ x y z, by_G L x y z ∧ (∀ i, i < L → by_v x y z i = n i) ∧ ∀ i, L ≤ i → i < 4 → by_v x y z i = 0 := by
  obtain ⟨h1, -, h3⟩ := hF
  refine ⟨if 0 < L then n 0 else 0, if 1 < L then n 1 else 0, if 2 < L then n 2 else 0, ?_, ?_, ?_⟩
  · have hc : L = 0 ∨ L = 1 ∨ L = 2 ∨ L = 3 := by omega
    rcases hc with rfl | rfl | rfl | rfl
    · simp [by_G, by_m0, by_m1, by_m2]
    · have g : 0 + (n 0 + (n 1 + 0)) ≤ 60 := h3
      have a0 := h1 0 (by omega) (by omega)
      have a1 := h1 1 (by omega) (by omega)
      simp [by_G, by_m0, by_m1, by_m2]
      omega
    · have g : 0 + (n 0 + (n 1 + (n 2 + 0))) ≤ 60 := h3
      have a0 := h1 0 (by omega) (by omega)
      have a1 := h1 1 (by omega) (by omega)
      have a2 := h1 2 (by omega) (by omega)
      simp [by_G, by_m0, by_m1, by_m2]
      omega
    · have g : 0 + (n 0 + (n 1 + (n 2 + (n 3 + 0)))) ≤ 60 := h3
      have a0 := h1 0 (by omega) (by omega)
      have a1 := h1 1 (by omega) (by omega)
      have a2 := h1 2 (by omega) (by omega)
      have a3 := h1 3 (by omega) (by omega)
      simp [by_G, by_m0, by_m1, by_m2]
      omega
  · intro i hi
    have hc : i = 0 ∨ i = 1 ∨ i = 2 := by omega
    rcases hc with rfl | rfl | rfl
    · show (if 0 < L then n 0 else 0) = n 0
      rw [if_pos hi]
    · show (if 1 < L then n 1 else 0) = n 1
      rw [if_pos hi]
    · show (if 2 < L then n 2 else 0) = n 2
      rw [if_pos hi]
  · intro i hi h4
    have hc : i = 0 ∨ i = 1 ∨ i = 2 ∨ i = 3 := by omega
    rcases hc with rfl | rfl | rfl | rfl
    · show (if 0 < L then n 0 else 0) = 0
      rw [if_neg (by omega)]
    · show (if 1 < L then n 1 else 0) = 0
      rw [if_neg (by omega)]
    · show (if 2 < L then n 2 else 0) = 0
      rw [if_neg (by omega)]
    · rfl
theorem by_G_z {L : Nat} {x y z : Int} (h : by_G L x y z) (hL : L < 4) : (∀ i, 0 ≤ by_v x y z i ∧ by_v x y z i ≤ 60) ∧ ∀ i, L ≤ i → i < 4 → by_v x y z i = 0 := by
  obtain ⟨h1, h2, h3⟩ := h
  unfold by_m0 at h1
  unfold by_m1 at h2
  unfold by_m2 at h3
  refine ⟨fun i => ?_, fun i hi h4 => ?_⟩
  · unfold by_v
    split
    · split at h1 <;> omega
    · split
      · split at h2 <;> split at h1 <;> omega
      · split
        · split at h3 <;> split at h2 <;> split at h1 <;> omega
        · omega
  · have hc : i = 0 ∨ i = 1 ∨ i = 2 ∨ i = 3 := by omega
    rcases hc with rfl | rfl | rfl | rfl
    · show x = 0
      rw [if_neg (by omega)] at h1
      omega
    · show y = 0
      rw [if_neg (by omega)] at h2
      omega
    · show z = 0
      rw [if_neg (by omega)] at h3
      omega
    · rfl
theorem by_F {L : Nat} (hL : L < 4) {mu : Nat → Int} {N : Int} {v : Nat → Int} (hmu : 1 ≤ mu L) (hv : ∀ i, 0 ≤ v i) (hz : ∀ i, L ≤ i → i < 4 → v i = 0) (h60 : sm (by_ca mu L N v) 0 4 ≤ 60) : py_F mu 0 (L + 1) N 0 (by_ca mu L N v) := by
  have hs : sm (by_ca mu L N v) 0 4 = sm (by_ca mu L N v) 0 (L + 1) := sm_cut (by omega) (fun i a b => by rw [by_ca_n (by omega)]; exact hz i (by omega) b)
  refine ⟨fun i a b => ?_, by_mu hmu, by omega⟩
  by_cases e : i = L
  · subst e
    rw [by_ca_L]
    exact by_mo_nn hmu
  · rw [by_ca_n e]
    exact hv i
/-- what all choices together have found -/
theorem by_end {mu c : Nat → Int} {L : Nat} {N co : Int} {bs : Nat → Int} (hL : L < 4) (hmu : ∀ i, i < L + 1 → 1 ≤ mu i) (hc : ∀ i, i < L + 1 → 1 ≤ c i ∧ c i ≤ 100000) (h : by_I mu c L N (by_G L) co bs) :
    (co = -1 ∧ ∀ n, ¬ py_F mu 0 (L + 1) N 0 n) ∨ (∃ n, py_Best mu c (L + 1) N n ∧ co = py_co c n 0 (L + 1) ∧ (0 ≤ co ∧ co ≤ 6000000) ∧ ∀ i, i < L + 1 → bs i = n i) := by
  have key : ∀ n, py_F mu 0 (L + 1) N 0 n → ∃ x y z, by_G L x y z ∧ sm (by_ca mu L N (by_v x y z)) 0 4 ≤ 60 ∧ ((∀ i, i < L + 1 → by_ca mu L N (by_v x y z) i = n i) ∨ (py_co c (by_ca mu L N (by_v x y z)) 0 (L + 1) < py_co c n 0 (L + 1))) := by
    intro n hn
    obtain ⟨x, y, z, hG, hv, hz⟩ := by_key hL hn
    obtain ⟨g1, g2⟩ := by_G_z hG hL
    have hS : py_co mu (by_v x y z) 0 L = py_co mu n 0 L := sm_congr L 0 (fun i _ hi => by show by_v x y z i * mu i = n i * mu i; rw [hv i (by omega)])
    have hC : py_co c (by_v x y z) 0 L = py_co c n 0 L := sm_congr L 0 (fun i _ hi => by show by_v x y z i * c i = n i * c i; rw [hv i (by omega)])
    have hV : sm (by_v x y z) 0 L = sm n 0 L := sm_congr L 0 (fun i _ hi => hv i (by omega))
    obtain ⟨f1, f2, f3⟩ := hn
    have f4 : py_co mu n 0 (L + 1) = py_co mu n 0 L + n L * mu L := by unfold py_co; rw [sm_snoc, Nat.zero_add]
    have f5 : py_co c n 0 (L + 1) = py_co c n 0 L + n L * c L := by unfold py_co; rw [sm_snoc, Nat.zero_add]
    have f6 : sm n 0 (L + 1) = sm n 0 L + n L := by rw [sm_snoc, Nat.zero_add]
    have hmL := hmu L (by omega)
    have hmo : by_mo mu L N (by_v x y z) ≤ n L := by
      unfold by_mo
      split
      · exact f1 L (by omega) (by omega)
      · exact cdiv_le (by omega) (by omega)
    have hs : sm (by_ca mu L N (by_v x y z)) 0 4 = sm (by_v x y z) 0 4 + by_mo mu L N (by_v x y z) := by_sm hL (hz L (by omega) hL)
    have hs2 : sm (by_v x y z) 0 4 = sm (by_v x y z) 0 L := sm_cut (by omega) hz
    refine ⟨x, y, z, hG, by omega, ?_⟩
    by_cases e : by_mo mu L N (by_v x y z) = n L
    · left
      intro i hi
      by_cases e1 : i = L
      · subst e1
        rw [by_ca_L, e]
      · rw [by_ca_n e1]
        exact hv i (by omega)
    · right
      rw [by_co, f5, hC]
      have := Int.mul_lt_mul_of_pos_right (show by_mo mu L N (by_v x y z) < n L by omega) (show 0 < c L by have := hc L (by omega); omega)
      omega
  rcases h with ⟨h0, h⟩ | ⟨h0, ⟨x, y, z, hG, h60, hbs, hco⟩, h⟩
  · refine Or.inl ⟨h0, fun n hn => ?_⟩
    obtain ⟨x, y, z, hG, h60, -⟩ := key n hn
    have := h x y z hG
    omega
  · obtain ⟨g1, g2⟩ := by_G_z hG hL
    have hsb : sm bs 0 4 = sm (by_ca mu L N (by_v x y z)) 0 4 := sm_congr 4 0 (fun i _ hi => hbs i (by omega))
    have cut : ∀ x y z, by_G L x y z → sm (by_ca mu L N (by_v x y z)) 0 4 = sm (by_ca mu L N (by_v x y z)) 0 (L + 1) := fun x y z hG => sm_cut (by omega) (fun i a b => by rw [by_ca_n (by omega)]; exact (by_G_z hG hL).2 i (by omega) b)
    have c0 := cut x y z hG
    refine Or.inr ⟨by_ca mu L N (by_v x y z), ⟨by_F hL (hmu L (by omega)) (fun i => (g1 i).1) g2 h60, fun n' hn' => ?_⟩, hco, h0, fun i hi => hbs i (by omega)⟩
    obtain ⟨x', y', z', hG', h60', hor⟩ := key n' hn'
    obtain ⟨k1, k2⟩ := h x' y' z' hG' h60'
    have c1 := cut x' y' z' hG'
    rcases hor with hor | hor
    · have e1 : py_co c n' 0 (L + 1) = py_co c (by_ca mu L N (by_v x' y' z')) 0 (L + 1) := sm_congr (L + 1) 0 (fun i _ hi => by show n' i * c i = by_ca mu L N (by_v x' y' z') i * c i; rw [hor i (by omega)])
      have e2 : sm n' 0 (L + 1) = sm (by_ca mu L N (by_v x' y' z')) 0 (L + 1) := sm_congr (L + 1) 0 (fun i _ hi => (hor i (by omega)).symm)
      rw [e1, e2, ← hco]
      refine ⟨?_, fun q1 q2 => ?_⟩
      · unfold py_bt at k1 ⊢
        omega
      · have k3 := k2 q1 (by omega)
        have k4 : py_lx bs (by_ca mu L N (by_v x' y' z')) 0 (L + 1) := py_lx_pre (L + 1) (3 - L) 0 (by rw [show L + 1 + (3 - L) = 4 by omega]; exact k3)
        exact py_lx_congr (L + 1) 0 (fun i _ hi => ⟨hbs i (by omega), hor i (by omega)⟩) k4
    · rw [← hco]
      unfold py_bt at k1 ⊢
      exact ⟨by omega, fun _ _ => by omega⟩
/-- nothing is needed: nothing is bought -/
theorem by_zero {mu c : Nat → Int} {K : Nat} (hc : ∀ i, i < K → 1 ≤ c i) : py_Best mu c K 0 (fun _ => 0) ∧ py_co c (fun _ => 0) 0 K = 0 := by
  have z1 : py_co c (fun _ => 0) 0 K = 0 := sm_zero K 0 (fun i _ _ => Int.zero_mul _)
  have z2 : sm (fun _ => 0) 0 K = 0 := sm_zero K 0 (fun i _ _ => rfl)
  have z3 : py_co mu (fun _ => 0) 0 K = 0 := sm_zero K 0 (fun i _ _ => Int.zero_mul _)
  refine ⟨⟨⟨fun _ _ _ => Int.le_refl 0, by rw [z3]; omega, by rw [z2]; omega⟩, fun n hn => ?_⟩, z1⟩
  have hp : ∀ i, 0 ≤ i → i < 0 + K → 0 ≤ n i * c i := fun i a b => Int.mul_nonneg (hn.1 i a b) (by have := hc i (by omega); omega)
  have g1 : 0 ≤ py_co c n 0 K := sm_nn K 0 hp
  have g2 : 0 ≤ sm n 0 K := sm_nn K 0 hn.1
  rw [z1, z2]
  refine ⟨by unfold py_bt; omega, fun q1 q2 => py_lx_eq K 0 (fun i a b => ?_)⟩
  rcases Int.mul_eq_zero.mp (sm_z K 0 hp (Int.le_of_eq q1) i a b) with h | h
  · exact h.symm
  · have := hc i (by omega)
    omega
theorem by_none {mu : Nat → Int} {N : Int} (hN : 0 < N) (n : Nat → Int) : ¬ py_F mu 0 0 N 0 n := by
  rintro ⟨-, h, -⟩
  have : py_co mu n 0 0 = 0 := rfl
  omega
