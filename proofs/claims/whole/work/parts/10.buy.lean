-- THE PURCHASE: what the search for the cheapest packages answers
def sm (f : Nat → Int) : Nat → Nat → Int
  | _, 0 => 0
  | k, d + 1 => f k + sm f (k + 1) d
theorem sm_0 (f : Nat → Int) (k : Nat) : sm f k 0 = 0 := rfl
theorem sm_s (f : Nat → Int) (k d : Nat) : sm f k (d + 1) = f k + sm f (k + 1) d := rfl
theorem sm_congr {f g : Nat → Int} : ∀ (d k : Nat), (∀ i, k ≤ i → i < k + d → f i = g i) → sm f k d = sm g k d := by
  intro d
  induction d with
  | zero => intro k _; rfl
  | succ d ih =>
    intro k h
    rw [sm_s, sm_s, h k (by omega) (by omega), ih (k + 1) (fun i h1 h2 => h i (by omega) (by omega))]
theorem sm_nn {f : Nat → Int} : ∀ (d k : Nat), (∀ i, k ≤ i → i < k + d → 0 ≤ f i) → 0 ≤ sm f k d := by
  intro d
  induction d with
  | zero => intro k _; exact Int.le_refl 0
  | succ d ih =>
    intro k h
    rw [sm_s]
    have h1 := h k (by omega) (by omega)
    have h2 := ih (k + 1) (fun i h1 h2 => h i (by omega) (by omega))
    omega
theorem sm_z {f : Nat → Int} : ∀ (d k : Nat), (∀ i, k ≤ i → i < k + d → 0 ≤ f i) → sm f k d ≤ 0 → ∀ i, k ≤ i → i < k + d → f i = 0 := by
  intro d
  induction d with
  | zero => intro k _ _ i h1 h2; omega
  | succ d ih =>
    intro k h hs i h1 h2
    rw [sm_s] at hs
    have g1 := h k (by omega) (by omega)
    have g2 := sm_nn d (k + 1) (fun i h1 h2 => h i (by omega) (by omega))
    by_cases e : i = k
    · subst e; omega
    · exact ih (k + 1) (fun i h1 h2 => h i (by omega) (by omega)) (by omega) i (by omega) (by omega)
theorem sm_le {f g : Nat → Int} : ∀ (d k : Nat), (∀ i, k ≤ i → i < k + d → f i ≤ g i) → sm f k d ≤ sm g k d := by
  intro d
  induction d with
  | zero => intro k _; exact Int.le_refl 0
  | succ d ih =>
    intro k h
    rw [sm_s, sm_s]
    have h1 := h k (by omega) (by omega)
    have h2 := ih (k + 1) (fun i h1 h2 => h i (by omega) (by omega))
    omega
theorem sm_mul (f : Nat → Int) (x : Int) : ∀ (d k : Nat), sm (fun i => f i * x) k d = sm f k d * x := by
  intro d
  induction d with
  | zero => intro k; rw [sm_0, sm_0, Int.zero_mul]
  | succ d ih => intro k; rw [sm_s, sm_s, ih, Int.add_mul]
theorem sm_zero : ∀ (d k : Nat) {f : Nat → Int}, (∀ i, k ≤ i → i < k + d → f i = 0) → sm f k d = 0 := by
  intro d
  induction d with
  | zero => intro k f _; rfl
  | succ d ih =>
    intro k f h
    rw [sm_s, h k (by omega) (by omega), ih (k + 1) (fun i h1 h2 => h i (by omega) (by omega))]
    rfl
/-- cheaper, or as cheap with fewer -/
def py_bt (co ct bp bc : Int) : Prop := co < bp ∨ (co = bp ∧ ct < bc)
/-- as much of the first kinds -/
def py_lx (n n' : Nat → Int) : Nat → Nat → Prop
  | _, 0 => True
  | k, d + 1 => n' k < n k ∨ (n k = n' k ∧ py_lx n n' (k + 1) d)
theorem py_lx_s {n n' : Nat → Int} {k d : Nat} : py_lx n n' k (d + 1) ↔ n' k < n k ∨ (n k = n' k ∧ py_lx n n' (k + 1) d) := Iff.rfl
theorem py_lx_eq {n n' : Nat → Int} : ∀ (d k : Nat), (∀ i, k ≤ i → i < k + d → n i = n' i) → py_lx n n' k d := by
  intro d
  induction d with
  | zero => intro k _; exact trivial
  | succ d ih => intro k h; exact Or.inr ⟨h k (by omega) (by omega), ih (k + 1) (fun i h1 h2 => h i (by omega) (by omega))⟩
theorem py_lx_congr {n n' q q' : Nat → Int} : ∀ (d k : Nat), (∀ i, k ≤ i → i < k + d → n i = q i ∧ n' i = q' i) → py_lx n n' k d → py_lx q q' k d := by
  intro d
  induction d with
  | zero => intro k _ _; exact trivial
  | succ d ih =>
    intro k h hl
    obtain ⟨h1, h2⟩ := h k (by omega) (by omega)
    rcases hl with hl | ⟨hl, hr⟩
    · exact Or.inl (by omega)
    · exact Or.inr ⟨by omega, ih (k + 1) (fun i h1 h2 => h i (by omega) (by omega)) hr⟩
/-- antisymmetry of the two orders together -/
theorem py_lx_anti {n n' : Nat → Int} : ∀ (d k : Nat), py_lx n n' k d → py_lx n' n k d → ∀ i, k ≤ i → i < k + d → n i = n' i := by
  intro d
  induction d with
  | zero => intro k _ _ i h1 h2; omega
  | succ d ih =>
    intro k h1 h2 i g1 g2
    rcases h1 with h1 | ⟨h1, h1'⟩
    · rcases h2 with h2 | ⟨h2, h2'⟩ <;> omega
    · rcases h2 with h2 | ⟨h2, h2'⟩
      · omega
      · by_cases e : i = k
        · subst e; exact h1
        · exact ih (k + 1) h1' h2' i (by omega) (by omega)
def py_co (c n : Nat → Int) (k d : Nat) : Int := sm (fun i => n i * c i) k d
/-- a choice of the kinds k .. k + d - 1 that gives what is missing, within 60 -/
def py_F (mu : Nat → Int) (k d : Nat) (mi ct : Int) (n : Nat → Int) : Prop := (∀ i, k ≤ i → i < k + d → 0 ≤ n i) ∧ mi ≤ py_co mu n k d ∧ ct + sm n k d ≤ 60
/-- the best that was known (price, count, choice) before and after a search through the choices F -/
def py_R (c : Nat → Int) (k d : Nat) (co ct : Int) (tr : Nat → Int) (F : (Nat → Int) → Prop) (bp bc : Int) (bn : Nat → Int) (bp' bc' : Int) (bn' : Nat → Int) : Prop :=
  (bp' = bp ∧ bc' = bc ∧ bn' = bn ∧ ∀ n, F n → ¬ py_bt (co + py_co c n k d) (ct + sm n k d) bp bc) ∨
  (∃ n, F n ∧ bp' = co + py_co c n k d ∧ bc' = ct + sm n k d ∧ (∀ i, i < 4 → bn' i = if k ≤ i ∧ i < k + d then n i else tr i) ∧ py_bt bp' bc' bp bc ∧
    ∀ n', F n' → ¬ py_bt (co + py_co c n' k d) (ct + sm n' k d) bp' bc' ∧ (co + py_co c n' k d = bp' → ct + sm n' k d = bc' → py_lx n n' k d))
/-- nothing to search -/
theorem py_R_none {c : Nat → Int} {k d : Nat} {co ct : Int} {tr : Nat → Int} {F : (Nat → Int) → Prop} {bp bc : Int} {bn : Nat → Int} (h : ∀ n, F n → ¬ py_bt (co + py_co c n k d) (ct + sm n k d) bp bc) : py_R c k d co ct tr F bp bc bn bp bc bn := Or.inl ⟨rfl, rfl, rfl, h⟩
/-- one search behind another, whose choices have less of the first kinds -/
theorem py_R_two {c : Nat → Int} {k d : Nat} {co ct : Int} {tr : Nat → Int} {F G E : (Nat → Int) → Prop} {bp bc bp1 bc1 bp2 bc2 : Int} {bn bn1 bn2 : Nat → Int}
    (h1 : py_R c k d co ct tr F bp bc bn bp1 bc1 bn1) (h2 : py_R c k d co ct tr G bp1 bc1 bn1 bp2 bc2 bn2) (hE : ∀ n, E n ↔ F n ∨ G n) (hl : ∀ n n', F n → G n' → py_lx n n' k d) : py_R c k d co ct tr E bp bc bn bp2 bc2 bn2 := by
  rcases h1 with ⟨rfl, rfl, rfl, h1⟩ | ⟨n1, hF, e1, e2, e3, hb, h1⟩
  · rcases h2 with ⟨rfl, rfl, rfl, h2⟩ | ⟨n2, hG, e1, e2, e3, hb, h2⟩
    · exact Or.inl ⟨rfl, rfl, rfl, fun n hn => ((hE n).mp hn).elim (h1 n) (h2 n)⟩
    · refine Or.inr ⟨n2, (hE n2).mpr (Or.inr hG), e1, e2, e3, hb, fun n' hn' => ?_⟩
      rcases (hE n').mp hn' with hF | hG'
      · have h3 := h1 n' hF
        unfold py_bt at h3 hb ⊢
        exact ⟨by omega, fun q1 q2 => by omega⟩
      · exact h2 n' hG'
  · rcases h2 with ⟨rfl, rfl, rfl, h2⟩ | ⟨n2, hG, e1', e2', e3', hb', h2⟩
    · refine Or.inr ⟨n1, (hE n1).mpr (Or.inl hF), e1, e2, e3, hb, fun n' hn' => ?_⟩
      rcases (hE n').mp hn' with hF' | hG'
      · exact h1 n' hF'
      · exact ⟨h2 n' hG', fun _ _ => hl n1 n' hF hG'⟩
    · refine Or.inr ⟨n2, (hE n2).mpr (Or.inr hG), e1', e2', e3', ?_, fun n' hn' => ?_⟩
      · unfold py_bt at *
        omega
      · rcases (hE n').mp hn' with hF' | hG'
        · have h3 := (h1 n' hF').1
          unfold py_bt at h3 hb' ⊢
          exact ⟨by omega, fun q1 q2 => by omega⟩
        · exact h2 n' hG'
/-- the search at the next kind, with v of this one -/
theorem py_R_lift {mu c : Nat → Int} {k d : Nat} {co ct mi v : Int} {tr : Nat → Int} {bp bc bp1 bc1 : Int} {bn bn1 : Nat → Int} (hv : 0 ≤ v)
    (h : py_R c (k + 1) d (co + v * c k) (ct + v) (ut tr k v) (py_F mu (k + 1) d (mi - v * mu k) (ct + v)) bp bc bn bp1 bc1 bn1) :
    py_R c k (d + 1) co ct tr (fun n => py_F mu k (d + 1) mi ct n ∧ n k = v) bp bc bn bp1 bc1 bn1 := by
  have key : ∀ n : Nat → Int, n k = v → co + py_co c n k (d + 1) = (co + v * c k) + py_co c n (k + 1) d ∧ ct + sm n k (d + 1) = (ct + v) + sm n (k + 1) d := by
    intro n hn
    unfold py_co
    rw [sm_s, sm_s, hn]
    exact ⟨by omega, by omega⟩
  have down : ∀ n : Nat → Int, py_F mu k (d + 1) mi ct n ∧ n k = v → py_F mu (k + 1) d (mi - v * mu k) (ct + v) n := by
    rintro n ⟨⟨h1, h2, h3⟩, hn⟩
    unfold py_co at h2
    rw [sm_s] at h2 h3
    rw [hn] at h2 h3
    exact ⟨fun i a b => h1 i (by omega) (by omega), by unfold py_co; omega, by omega⟩
  have agree : ∀ n : Nat → Int, ∀ i, k + 1 ≤ i → i < k + 1 + d → ut n k v i = n i := fun n i a b => ut_n n v (by omega)
  have co' : ∀ n : Nat → Int, py_co c (ut n k v) (k + 1) d = py_co c n (k + 1) d := fun n => sm_congr d (k + 1) (fun i a b => by rw [agree n i a b])
  have mu' : ∀ n : Nat → Int, py_co mu (ut n k v) (k + 1) d = py_co mu n (k + 1) d := fun n => sm_congr d (k + 1) (fun i a b => by rw [agree n i a b])
  have ct' : ∀ n : Nat → Int, sm (ut n k v) (k + 1) d = sm n (k + 1) d := fun n => sm_congr d (k + 1) (fun i a b => agree n i a b)
  rcases h with ⟨rfl, rfl, rfl, h⟩ | ⟨n, hF, e1, e2, e3, hb, h⟩
  · refine Or.inl ⟨rfl, rfl, rfl, fun n hn => ?_⟩
    obtain ⟨g1, g2⟩ := key n hn.2
    rw [g1, g2]
    exact h n (down n hn)
  · have hk : ut n k v k = v := ut_s n k v
    obtain ⟨g1, g2⟩ := key (ut n k v) hk
    rw [co', ct'] at *
    obtain ⟨f1, f2, f3⟩ := hF
    refine Or.inr ⟨ut n k v, ⟨⟨fun i a b => ?_, ?_, ?_⟩, hk⟩, by rw [g1]; exact e1, by rw [g2]; exact e2, fun i hi => ?_, hb, fun n' hn' => ?_⟩
    · by_cases e : i = k
      · subst e; rw [hk]; exact hv
      · rw [ut_n n v e]; exact f1 i (by omega) (by omega)
    · unfold py_co
      rw [sm_s, hk]
      have := mu' n
      unfold py_co at this f2
      rw [this]
      omega
    · rw [sm_s, hk, ct']
      omega
    · rw [e3 i hi]
      by_cases e : i = k
      · subst e
        rw [if_neg (by omega), if_pos ⟨by omega, by omega⟩, hk, ut_s]
      · rw [ut_n n v e, ut_n tr v e]
        by_cases e2 : k + 1 ≤ i ∧ i < k + 1 + d
        · rw [if_pos e2, if_pos ⟨by omega, by omega⟩]
        · rw [if_neg e2, if_neg (by omega)]
    · obtain ⟨q1, q2⟩ := key n' hn'.2
      rw [q1, q2]
      obtain ⟨p1, p2⟩ := h n' (down n' hn')
      refine ⟨p1, fun r1 r2 => Or.inr ⟨by rw [hk, hn'.2], ?_⟩⟩
      exact py_lx_congr d (k + 1) (fun i a b => ⟨(agree n i a b).symm, rfl⟩) (p2 r1 r2)
/-- nothing is missing: none is bought -/
theorem py_R_zero {mu c : Nat → Int} {k d : Nat} {co ct mi : Int} {tr : Nat → Int} {bp bc : Int} {bn : Nat → Int} (hmi : mi ≤ 0) (hct : ct ≤ 60) (hc : ∀ i, k ≤ i → i < k + d → 1 ≤ c i) (htr : ∀ i, k ≤ i → tr i = 0) :
    (¬ py_bt co ct bp bc → py_R c k d co ct tr (py_F mu k d mi ct) bp bc bn bp bc bn) ∧ (py_bt co ct bp bc → py_R c k d co ct tr (py_F mu k d mi ct) bp bc bn co ct tr) := by
  have low : ∀ n, py_F mu k d mi ct n → 0 ≤ py_co c n k d ∧ 0 ≤ sm n k d ∧ (py_co c n k d ≤ 0 → ∀ i, k ≤ i → i < k + d → n i = 0) := by
    rintro n ⟨h1, -, -⟩
    have hp : ∀ i, k ≤ i → i < k + d → 0 ≤ n i * c i := fun i a b => Int.mul_nonneg (h1 i a b) (by have := hc i a b; omega)
    refine ⟨sm_nn d k hp, sm_nn d k h1, fun h i a b => ?_⟩
    have := sm_z d k hp h i a b
    rcases Int.mul_eq_zero.mp this with h | h
    · exact h
    · have := hc i a b; omega
  have z1 : py_co c (fun _ => 0) k d = 0 := sm_zero d k (fun i _ _ => Int.zero_mul _)
  have z2 : sm (fun _ => 0) k d = 0 := sm_zero d k (fun i _ _ => rfl)
  have z3 : py_co mu (fun _ => 0) k d = 0 := sm_zero d k (fun i _ _ => Int.zero_mul _)
  refine ⟨fun h => py_R_none (fun n hn => ?_), fun h => Or.inr ⟨fun _ => 0, ⟨fun _ _ _ => Int.le_refl 0, by rw [z3]; exact hmi, by rw [z2]; omega⟩, by rw [z1]; omega, by rw [z2]; omega, fun i _ => ?_, h, fun n hn => ⟨?_, fun q1 q2 => ?_⟩⟩⟩
  · obtain ⟨g1, g2, -⟩ := low n hn
    unfold py_bt at *
    omega
  · by_cases e : k ≤ i ∧ i < k + d
    · rw [if_pos e]; exact htr i e.1
    · rw [if_neg e]
  · obtain ⟨g1, g2, -⟩ := low n hn
    unfold py_bt at *
    omega
  · obtain ⟨g1, g2, g3⟩ := low n hn
    exact py_lx_eq d k (fun i a b => (g3 (by omega) i a b).symm)
/-- something is missing, and there is no kind left -/
theorem py_R_end {mu c : Nat → Int} {k : Nat} {co ct mi : Int} {tr : Nat → Int} {bp bc : Int} {bn : Nat → Int} (hmi : 0 < mi) : py_R c k 0 co ct tr (py_F mu k 0 mi ct) bp bc bn bp bc bn :=
  py_R_none (fun n hn => by have := hn.2.1; unfold py_co at this; rw [sm_0] at this; omega)
def cdiv (a b : Int) : Int := (a + b - 1) / b
theorem cdiv_le {a b x : Int} (hb : 0 < b) (h : a ≤ x * b) : cdiv a b ≤ x := by
  unfold cdiv
  have h1 : (a + b - 1) / b < x + 1 := Int.ediv_lt_of_lt_mul hb (by rw [Int.add_mul]; omega)
  omega
theorem cdiv_mul {a b : Int} (hb : 0 < b) : a ≤ cdiv a b * b := by
  unfold cdiv
  have h := Int.emod_add_mul_ediv (a + b - 1) b
  have h1 := Int.emod_lt_of_pos (a + b - 1) hb
  rw [Int.mul_comm] at h
  omega
theorem cdiv_nn {a b : Int} (hb : 0 < b) (ha : 0 ≤ a) : 0 ≤ cdiv a b := Int.ediv_nonneg (by omega) (by omega)
/-- what is missing cannot come, or not better -/
theorem py_R_hopeless {mu c : Nat → Int} {k d big ch : Nat} {co ct mi : Int} {tr : Nat → Int} {bp bc : Int} {bn : Nat → Int} (hmb : 0 < mu big) (hb : ∀ i, k ≤ i → i < k + d → mu i ≤ mu big) (hmc : 0 < mu ch) (hcc : 0 ≤ c ch) (hc : ∀ i, k ≤ i → i < k + d → c ch * mu i ≤ c i * mu ch)
    (h : 60 < ct + cdiv mi (mu big) ∨ ¬ py_bt (co + cdiv (mi * c ch) (mu ch)) (ct + cdiv mi (mu big)) bp bc) : py_R c k d co ct tr (py_F mu k d mi ct) bp bc bn bp bc bn := by
  refine py_R_none (fun n hn => ?_)
  obtain ⟨h1, h2, h3⟩ := hn
  have g1 : cdiv mi (mu big) ≤ sm n k d := by
    refine cdiv_le hmb (Int.le_trans h2 ?_)
    rw [← sm_mul]
    exact sm_le d k (fun i a b => Int.mul_le_mul_of_nonneg_left (hb i a b) (h1 i a b))
  have g2 : cdiv (mi * c ch) (mu ch) ≤ py_co c n k d := by
    refine cdiv_le hmc (Int.le_trans (Int.mul_le_mul_of_nonneg_right h2 hcc) ?_)
    unfold py_co
    rw [← sm_mul, ← sm_mul]
    refine sm_le d k (fun i a b => ?_)
    have := Int.mul_le_mul_of_nonneg_left (hc i a b) (h1 i a b)
    calc n i * mu i * c ch = n i * (c ch * mu i) := by rw [Int.mul_assoc, Int.mul_comm (mu i)]
      _ ≤ n i * (c i * mu ch) := this
      _ = n i * c i * mu ch := by rw [Int.mul_assoc]
  unfold py_bt at *
  omega
/-- from the choices with least .. most of a kind to all choices -/
theorem py_R_all {mu c : Nat → Int} {k d : Nat} {co ct mi least most : Int} {tr : Nat → Int} {bp bc bp1 bc1 : Int} {bn bn1 : Nat → Int} (hmi : 0 < mi) (hmu : ∀ i, k ≤ i → i < k + (d + 1) → 1 ≤ mu i) (hc : ∀ i, k ≤ i → i < k + (d + 1) → 1 ≤ c i) (hct : ct ≤ 60)
    (hmost : most = if 60 - ct < cdiv mi (mu k) then 60 - ct else cdiv mi (mu k)) (hleast : least = if d = 0 then most else 0)
    (h : py_R c k (d + 1) co ct tr (fun n => py_F mu k (d + 1) mi ct n ∧ least ≤ n k ∧ n k ≤ most) bp bc bn bp1 bc1 bn1) : py_R c k (d + 1) co ct tr (py_F mu k (d + 1) mi ct) bp bc bn bp1 bc1 bn1 := by
  have hmk := hmu k (by omega) (by omega)
  have hck := hc k (by omega) (by omega)
  have tail : ∀ n, py_F mu k (d + 1) mi ct n → 0 ≤ sm n (k + 1) d ∧ 0 ≤ py_co c n (k + 1) d := by
    rintro n ⟨h1, -, -⟩
    exact ⟨sm_nn d (k + 1) (fun i a b => h1 i (by omega) (by omega)), sm_nn d (k + 1) (fun i a b => Int.mul_nonneg (h1 i (by omega) (by omega)) (by have := hc i (by omega) (by omega); omega))⟩
  have out : ∀ n, py_F mu k (d + 1) mi ct n → (least ≤ n k ∧ n k ≤ most) ∨ (most = cdiv mi (mu k) ∧ most < n k ∧ ct + most ≤ 60) := by
    intro n hn
    obtain ⟨t1, t2⟩ := tail n hn
    obtain ⟨h1, h2, h3⟩ := hn
    have hk0 := h1 k (by omega) (by omega)
    rw [sm_s] at h3
    unfold py_co at h2
    rw [sm_s] at h2
    by_cases e : d = 0
    · subst e
      rw [sm_0] at h2 h3
      have g : cdiv mi (mu k) ≤ n k := cdiv_le (by omega) (by omega)
      rw [if_pos rfl] at hleast
      split at hmost
      · left; omega
      · by_cases e2 : n k ≤ most
        · left; omega
        · right; omega
    · rw [if_neg e] at hleast
      split at hmost
      · left; omega
      · by_cases e2 : n k ≤ most
        · left; omega
        · right; omega
  -- the choice of most of this kind and none of those behind it
  have alone : most = cdiv mi (mu k) → ct + most ≤ 60 → (py_F mu k (d + 1) mi ct (fun i => if i = k then most else 0) ∧ least ≤ (fun i => if i = k then most else 0) k ∧ (fun i => if i = k then most else 0) k ≤ most) ∧ py_co c (fun i => if i = k then most else 0) k (d + 1) = most * c k ∧ sm (fun i => if i = k then most else 0) k (d + 1) = most := by
    intro he h60
    have hm0 : 0 ≤ most := by rw [he]; exact cdiv_nn (by omega) (by omega)
    have z1 : ∀ f : Nat → Int, sm (fun i => (if i = k then most else 0) * f i) (k + 1) d = 0 := fun f => sm_zero d (k + 1) (fun i a b => by rw [if_neg (by omega), Int.zero_mul])
    have z2 : sm (fun i => if i = k then most else 0) (k + 1) d = 0 := sm_zero d (k + 1) (fun i a b => by rw [if_neg (by omega)])
    have e1 : ∀ f : Nat → Int, py_co f (fun i => if i = k then most else 0) k (d + 1) = most * f k := by
      intro f
      unfold py_co
      rw [sm_s, z1]
      show (if k = k then most else 0) * f k + 0 = most * f k
      rw [if_pos rfl, Int.add_zero]
    have e2 : sm (fun i => if i = k then most else 0) k (d + 1) = most := by
      rw [sm_s, z2]
      show (if k = k then most else 0) + 0 = most
      rw [if_pos rfl, Int.add_zero]
    refine ⟨⟨⟨fun i _ _ => ?_, ?_, ?_⟩, ?_, ?_⟩, e1 c, e2⟩
    · show 0 ≤ if i = k then most else 0
      split <;> omega
    · rw [e1, he]
      exact cdiv_mul (by omega)
    · rw [e2]; exact h60
    · show least ≤ if k = k then most else 0
      rw [if_pos rfl]
      split at hleast <;> omega
    · show (if k = k then most else 0) ≤ most
      rw [if_pos rfl]
      exact Int.le_refl _
  have dear : ∀ n, py_F mu k (d + 1) mi ct n → most < n k → most * c k < py_co c n k (d + 1) := by
    intro n hn hlt
    obtain ⟨t1, t2⟩ := tail n hn
    have e : py_co c n k (d + 1) = n k * c k + py_co c n (k + 1) d := rfl
    have g := Int.mul_lt_mul_of_pos_right hlt (show 0 < c k by omega)
    omega
  rcases h with ⟨rfl, rfl, rfl, h⟩ | ⟨n, hF, e1, e2, e3, hb, h⟩
  · refine Or.inl ⟨rfl, rfl, rfl, fun n hn => ?_⟩
    rcases out n hn with g | ⟨g1, g2, g3⟩
    · exact h n ⟨hn, g⟩
    · obtain ⟨a1, a2, a3⟩ := alone g1 g3
      have b1 := h _ a1
      have b2 := dear n hn g2
      rw [a2, a3] at b1
      unfold py_bt at *
      omega
  · refine Or.inr ⟨n, hF.1, e1, e2, e3, hb, fun n' hn' => ?_⟩
    rcases out n' hn' with g | ⟨g1, g2, g3⟩
    · exact h n' ⟨hn', g⟩
    · obtain ⟨a1, a2, a3⟩ := alone g1 g3
      have b1 := (h _ a1).1
      have b2 := dear n' hn' g2
      rw [a2, a3] at b1
      unfold py_bt at *
      exact ⟨by omega, fun _ _ => by omega⟩
