-- NUMBERS: ints and longs as images of integers
def iI (z : Int) : Int32 := Int32.ofInt z
def lI (z : Int) : Int64 := Int64.ofInt z
abbrev r32 (z : Int) : Prop := -2147483648 ≤ z ∧ z < 2147483648
abbrev r64 (z : Int) : Prop := -9223372036854775808 ≤ z ∧ z < 9223372036854775808
theorem iI_toInt {a : Int} (h : r32 a) : (iI a).toInt = a := Int32.toInt_ofInt_of_le (by omega) (by omega)
theorem lI_toInt {a : Int} (h : r64 a) : (lI a).toInt = a := Int64.toInt_ofInt_of_le (by omega) (by omega)
theorem iI_of (x : Int32) : x = iI x.toInt := (Int32.ofInt_toInt x).symm
theorem lI_of (x : Int64) : x = lI x.toInt := (Int64.ofInt_toInt x).symm
theorem r32_of (x : Int32) : r32 x.toInt := ⟨by have := x.le_toInt; omega, by have := x.toInt_lt; omega⟩
theorem r64_of (x : Int64) : r64 x.toInt := ⟨by have := x.le_toInt; omega, by have := x.toInt_lt; omega⟩
theorem iI_ex (x : Int32) : ∃ a : Int, r32 a ∧ x = iI a := ⟨_, r32_of x, iI_of x⟩
theorem lI_ex (x : Int64) : ∃ a : Int, r64 a ∧ x = lI a := ⟨_, r64_of x, lI_of x⟩
theorem iI_add (a b : Int) : iI a + iI b = iI (a + b) := (Int32.ofInt_add a b).symm
theorem iI_sub (a b : Int) : iI a - iI b = iI (a - b) := (Int32.ofInt_sub a b).symm
theorem iI_mul (a b : Int) : iI a * iI b = iI (a * b) := (Int32.ofInt_mul a b).symm
theorem iI_neg (a : Int) : -iI a = iI (-a) := (Int32.ofInt_neg a).symm
theorem lI_add (a b : Int) : lI a + lI b = lI (a + b) := (Int64.ofInt_add a b).symm
theorem lI_sub (a b : Int) : lI a - lI b = lI (a - b) := (Int64.ofInt_sub a b).symm
theorem lI_mul (a b : Int) : lI a * lI b = lI (a * b) := (Int64.ofInt_mul a b).symm
theorem iI_lt {a b : Int} (ha : r32 a) (hb : r32 b) : iI a < iI b ↔ a < b := by rw [Int32.lt_iff_toInt_lt, iI_toInt ha, iI_toInt hb]
theorem iI_le {a b : Int} (ha : r32 a) (hb : r32 b) : iI a ≤ iI b ↔ a ≤ b := by rw [Int32.le_iff_toInt_le, iI_toInt ha, iI_toInt hb]
theorem iI_eq {a b : Int} (ha : r32 a) (hb : r32 b) : iI a = iI b ↔ a = b := by rw [← Int32.toInt_inj, iI_toInt ha, iI_toInt hb]
theorem lI_lt {a b : Int} (ha : r64 a) (hb : r64 b) : lI a < lI b ↔ a < b := by rw [Int64.lt_iff_toInt_lt, lI_toInt ha, lI_toInt hb]
theorem lI_le {a b : Int} (ha : r64 a) (hb : r64 b) : lI a ≤ lI b ↔ a ≤ b := by rw [Int64.le_iff_toInt_le, lI_toInt ha, lI_toInt hb]
theorem lI_eq {a b : Int} (ha : r64 a) (hb : r64 b) : lI a = lI b ↔ a = b := by rw [← Int64.toInt_inj, lI_toInt ha, lI_toInt hb]
theorem iI_0 : (0 : Int32) = iI 0 := rfl
theorem lI_0 : (0 : Int64) = lI 0 := rfl
theorem iI_nat (n : Nat) : Int32.ofNat n = iI n := Int32.ofInt_eq_ofNat.symm
theorem iI_nI (n : Nat) : nI n = iI n := iI_nat n
theorem iI_cl {a : Int} (h : r32 a) : (iI a).toNatClampNeg = a.toNat := Int32.toNatClampNeg_ofInt_of_le (by omega) (by omega)
theorem iI_in {a : Int} {n : Nat} (h0 : 0 ≤ a) (h : a < n) (hn : a < 2147483648) : vp_in (iI a) n := by
  rw [vp_in_iff, iI_toInt ⟨by omega, by omega⟩]
  exact ⟨h0, h⟩
theorem iI_nn {a : Int} (h : r32 a) (h0 : 0 ≤ a) : ¬ iI a < 0 := by rw [iI_0, iI_lt h ⟨by omega, by omega⟩]; omega
theorem iI_l {a : Int} (h : r32 a) : (iI a).toInt64 = lI a := by
  rw [← Int64.toInt_inj, Int32.toInt_toInt64, iI_toInt h, lI_toInt ⟨by omega, by omega⟩]
theorem lI_i (a : Int) : (lI a).toInt32 = iI a := by
  rw [← Int32.toInt_inj]
  unfold lI iI
  simp
theorem lI_div {a b : Int} (ha : r64 a) (h0 : 0 ≤ a) (hb : r64 b) (hb0 : 0 < b) : lI a / lI b = lI (a / b) := by
  rw [← Int64.toInt_inj, Int64.toInt_div_of_ne_right, lI_toInt ha, lI_toInt hb, Int.tdiv_eq_ediv_of_nonneg h0, lI_toInt]
  · have h1 : 0 ≤ a / b := Int.ediv_nonneg h0 (by omega)
    have h2 : a / b ≤ a := Int.ediv_le_self b h0
    exact ⟨by omega, by omega⟩
  · intro h
    rw [← Int64.toInt_inj, lI_toInt hb] at h
    have h3 : (-1 : Int64).toInt = -1 := by decide
    omega
theorem iI_div {a b : Int} (ha : r32 a) (h0 : 0 ≤ a) (hb : r32 b) (hb0 : 0 < b) : iI a / iI b = iI (a / b) := by
  rw [← Int32.toInt_inj, Int32.toInt_div_of_ne_right, iI_toInt ha, iI_toInt hb, Int.tdiv_eq_ediv_of_nonneg h0, iI_toInt]
  · have h1 : 0 ≤ a / b := Int.ediv_nonneg h0 (by omega)
    have h2 : a / b ≤ a := Int.ediv_le_self b h0
    exact ⟨by omega, by omega⟩
  · intro h
    rw [← Int32.toInt_inj, iI_toInt hb] at h
    have h3 : (-1 : Int32).toInt = -1 := by decide
    omega
-- arrays: contents as integer functions
abbrev iA (g : Nat → Int) : Nat → Int32 := fun j => iI (g j)
abbrev lA (g : Nat → Int) : Nat → Int64 := fun j => lI (g j)
def ut {α : Type} (g : Nat → α) (k : Nat) (v : α) : Nat → α := fun j => if j = k then v else g j
theorem ut_s {α : Type} (g : Nat → α) (k : Nat) (v : α) : ut g k v k = v := by simp [ut]
theorem ut_n {α : Type} (g : Nat → α) {k j : Nat} (v : α) (h : j ≠ k) : ut g k v j = g j := by simp [ut, h]
theorem iA_ut (g : Nat → Int) (k : Nat) (v : Int) : upd (iA g) k (iI v) = iA (ut g k v) := by
  funext j
  by_cases h : j = k
  · subst h
    rw [pk_us]
    show _ = iI (ut g j v j)
    rw [ut_s]
  · rw [pk_un h]
    show _ = iI (ut g k v j)
    rw [ut_n g v h]
theorem lA_ut (g : Nat → Int) (k : Nat) (v : Int) : vp_updL (lA g) k (lI v) = lA (ut g k v) := by
  funext j
  by_cases h : j = k
  · subst h
    rw [pk_uLs]
    show _ = lI (ut g j v j)
    rw [ut_s]
  · rw [pk_uLn h]
    show _ = lI (ut g k v j)
    rw [ut_n g v h]
theorem iA_0 : (fun _ => 0 : Nat → Int32) = iA (fun _ => 0) := rfl
theorem lA_0 : (fun _ => 0 : Nat → Int64) = lA (fun _ => 0) := rfl
