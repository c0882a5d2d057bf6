-- THE WORDS that a state's tables keep
def isAC : Cond → Bool
  | .arrayClass _ => true
  | _ => false
def isAO : Cond → Bool
  | .arrayOver (.object _) => true
  | _ => false
def isSR : Cond → Bool
  | .stringRef _ _ _ => true
  | _ => false
def okw (w : Cond) : Bool := isAC w || (isAO w || (isSR w || (w.onTables && (w.keepsH || w.faceAtom))))
theorem isAC_sp {w : Cond} (h : isAC w = true) : ∃ ty, w = .arrayClass ty := by
  cases w <;> first | exact ⟨_, rfl⟩ | (exact absurd h (by simp [isAC]))
theorem isAO_sp {w : Cond} (h : isAO w = true) : ∃ C, w = .arrayOver (.object C) := by
  cases w with
  | arrayOver ty => cases ty <;> first | exact ⟨_, rfl⟩ | (exact absurd h (by simp [isAO]))
  | _ => exact absurd h (by simp [isAO])
theorem isSR_sp {w : Cond} (h : isSR w = true) : ∃ a b c, w = .stringRef a b c := by
  cases w <;> first | exact ⟨_, _, _, rfl⟩ | (exact absurd h (by simp [isSR]))
theorem okw_warm {w : Cond} (ho : okw w = true) {A A' : Array Value} {s U : State} (hW : s.WarmedH U.vm) (h : w.before A s = true) : w.before A' U = true := by
  unfold okw at ho
  rcases Bool.or_eq_true _ _ |>.mp ho with h1 | h1
  · obtain ⟨ty, rfl⟩ := isAC_sp h1
    exact word_at hW (Or.inr ⟨ty, rfl⟩) h
  rcases Bool.or_eq_true _ _ |>.mp h1 with h1 | h1
  · obtain ⟨C, rfl⟩ := isAO_sp h1
    exact va_AO.use (va_AO.moved hW.alike (va_AO.of h))
  rcases Bool.or_eq_true _ _ |>.mp h1 with h1 | h1
  · obtain ⟨a, b, c, rfl⟩ := isSR_sp h1
    have h2 := Cond.stringRef_warmed hW h
    first
      | exact h2
      | (simp only [Cond.before, Cond.holds, Cond.value, State.names, State.poolOf?, State.resolvedAt?] at h2 ⊢; exact h2)
  · obtain ⟨h2, h3⟩ := Bool.and_eq_true _ _ |>.mp h1
    rcases Bool.or_eq_true _ _ |>.mp h3 with h4 | h4
    · have h5 := Cond.onTables_warmH (T := U) (args' := A') hW h2 h4 h
      exact h5
    · exact va_tabs h2 (rfl : (s.setVm U.vm).vm = U.vm) (Cond.faceAtom_setVm hW.alike w h4 h)
def TW : List Cond := lw_tbl.filter okw
theorem tw_t {w : Cond} (h : w ∈ tables_1) (ho : okw w = true) : w ∈ TW := List.mem_filter.mpr ⟨List.mem_append_right _ h, ho⟩
theorem tw_s {w : Cond} (h : w ∈ k2_sels lw_privs) (ho : okw w = true) : w ∈ TW := List.mem_filter.mpr ⟨List.mem_append_left _ h, ho⟩
/-- the tables' words hold at a state, whatever the arguments -/
def TB (U : State) : Prop := ∀ w ∈ TW, ∀ a : Array Value, w.before a U = true
theorem TB.of {args : Array Value} {s : State} (h : ∀ w ∈ lw_tbl, w.before args s = true) : TB s := fun w hw a => okw_warm (List.mem_filter.mp hw).2 (State.WarmedH.refl s) (h w (List.mem_filter.mp hw).1)
theorem TB.warm {s U : State} (hW : s.WarmedH U.vm) (h : TB s) : TB U := fun w hw a => okw_warm (List.mem_filter.mp hw).2 hW (h w hw a)
theorem TB.calling {U : State} {g : JFrame} {mk : MethodId} {a : Array Value} (h : TB U) : TB (U.calling g mk a) := h.warm (show U.WarmedH (U.calling g mk a).vm from State.WarmedH.refl U)
