theorem W.num {p : Program} {l : Launch} {e : Env} {R : Room} {s : State} {m : MethodId} {args : Array Value} {below : List Frame} {meth : Method} {c : Code} {H : Heap} {locs : List Loc} {cells slots c1 s1 : Nat} {Q : State → Prop} {g : JFrame} (h1 : cells = c1) (h2 : slots = s1) (k : W p l e R s m args below meth c H locs c1 s1 Q g) : W p l e R s m args below meth c H locs cells slots Q g := by
  subst h1
  subst h2
  exact k
/-- an array's contents matter within its length alone -/
theorem arr_congr {n : Nat} {f g : Nat → Int} (h : ∀ j, j < n → f j = g j) (cA : ClassId) : vp_cell cA (n, .inl (iA f)) = vp_cell cA (n, .inl (iA g)) := by
  show arrV cA n (fun j => .int (iI (f j))) = arrV cA n (fun j => .int (iI (g j)))
  unfold arrV
  congr 2
  funext j
  show Value.int (iI (f j.val)) = Value.int (iI (g j.val))
  rw [h j.val j.isLt]
theorem va_P_arr {D : va_G} {cl : List vw_C} {ws : va_W} {H : Heap} {k a n : Nat} {cA : ClassId} {f g : Nat → Int} (hP : va_P D cl ws H) (hk : ws[k]? = some (a, .inl (cA, n, .inl (iA f)))) (h : ∀ j, j < n → f j = g j) : va_P D cl (ws.set k (a, .inl (cA, n, .inl (iA g)))) H := by
  intro i q hq
  by_cases e : i = k
  · subst e
    have hl : i < ws.length := (List.getElem?_eq_some_iff.mp hk).1
    rw [List.getElem?_set_self hl] at hq
    cases hq
    have h1 := hP i _ hk
    show H[a]? = some (vp_cell cA (n, .inl (iA g)))
    rw [← arr_congr h]
    exact h1
  · rw [List.getElem?_set_ne (Ne.symm e)] at hq
    exact hP i q hq
/-- what a shelf's last search has found for a need -/
def ShF (Kn : Nat) (mu pr : Nat → Int) (N bp : Int) (bn : Nat → Int) : Prop := (bp = 6000001 ∧ ∀ n, ¬ py_F mu 0 Kn N 0 n) ∨ (∃ n, py_Best mu pr Kn N n ∧ bp = py_co pr n 0 Kn ∧ bp ≤ 6000000 ∧ ∀ i, i < Kn → bn i = n i)
def ShI (Kn : Nat) (mu pr bg ch bn : Nat → Int) (bp bc sf : Int) : Prop := ShOK Kn mu pr bg ch ∧ (0 ≤ bp ∧ bp ≤ 6000001) ∧ (0 ≤ bc ∧ bc ≤ 61) ∧ (sf = -1 ∨ (0 ≤ sf ∧ sf ≤ 100000000000 ∧ ShF Kn mu pr sf bp bn))
def flz (g : Nat → Int) (v : Int) (i : Nat) : Nat → Int := fun j => if j < i then v else g j
theorem flz_0 (g : Nat → Int) (v : Int) : flz g v 0 = g := by funext j; simp [flz]
theorem flz_s (g : Nat → Int) (v : Int) (i : Nat) : ut (flz g v i) i v = flz g v (i + 1) := by
  funext j
  unfold ut flz
  by_cases h1 : j = i
  · subst h1; simp
  · by_cases h2 : j < i
    · rw [if_neg h1, if_pos h2, if_pos (by omega)]
    · rw [if_neg h1, if_neg h2, if_neg (by omega)]
/-- no more cells have come than were counted -/
theorem W.sz {p : Program} {l : Launch} {e : Env} {R : Room} {s : State} {m : MethodId} {args : Array Value} {below : List Frame} {meth : Method} {c : Code} {H : Heap} {locs : List Loc} {cells slots : Nat} {Q : State → Prop} {g : JFrame} (k : H.size ≤ s.heap.size + cells → W p l e R s m args below meth c H locs cells slots Q g) : W p l e R s m args below meth c H locs cells slots Q g := fun T hT X => k (by rw [← hT]; exact X.heapSize) T hT X
theorem sm_const (x : Int) : ∀ (d k : Nat), sm (fun _ => x) k d = d * x := by
  intro d
  induction d with
  | zero => intro k; rw [sm_0]; simp
  | succ d ih => intro k; rw [sm_s, ih, Int.natCast_add, Int.add_mul]; omega
