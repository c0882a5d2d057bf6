-- INSTRUCTION ROWS over integers (iI, lI)
section IzRows
variable {p : Program} {l : Launch} {e : Env} {R : Room} {s : State} {m : MethodId} {args : Array Value} {below : List Frame} {meth : Method} {c : Code} {H : Heap} {locs : List Loc} {cells slots : Nat} {Q : State → Prop}
variable {cc : ByteArray} {pc : Nat} {ls : Array Slot} {rest : List Value}
theorem iz_iconst (hx : p.tables.exec = Jvm.exec) (hb : c.code = cc) {n : Int} (hd : decode cc pc = .ok (.iconst n, 1)) (k : W p l e R s m args below meth c H locs cells slots Q (F0 m (pc + 1) ls (.int (iI n) :: rest))) : W p l e R s m args below meth c H locs cells slots Q (F0 m pc ls (rest)) := lv_iconst hx hb hd rfl k
theorem iz_bipush (hx : p.tables.exec = Jvm.exec) (hb : c.code = cc) {n : Int} (hd : decode cc pc = .ok (.bipush n, 2)) (hn : (Int8.ofInt n).toInt32 = iI n) (k : W p l e R s m args below meth c H locs cells slots Q (F0 m (pc + 2) ls (.int (iI n) :: rest))) : W p l e R s m args below meth c H locs cells slots Q (F0 m pc ls (rest)) := lv_bipush hx hb hd hn k
theorem iz_sipush (hx : p.tables.exec = Jvm.exec) (hb : c.code = cc) {n : Int} (hd : decode cc pc = .ok (.sipush n, 3)) (hn : (Int16.ofInt n).toInt32 = iI n) (k : W p l e R s m args below meth c H locs cells slots Q (F0 m (pc + 3) ls (.int (iI n) :: rest))) : W p l e R s m args below meth c H locs cells slots Q (F0 m pc ls (rest)) := lv_sipush hx hb hd hn k
theorem iz_lconst (hx : p.tables.exec = Jvm.exec) (hb : c.code = cc) {n : Fin 2} (z : Int) (hz : ((n : Nat) : Int) = z) (hd : decode cc pc = .ok (.lconst n, 1)) (k : W p l e R s m args below meth c H locs cells slots Q (F0 m (pc + 1) ls (.long (lI z) :: rest))) : W p l e R s m args below meth c H locs cells slots Q (F0 m pc ls (rest)) := lv_lconst hx hb hd (by rw [← hz]; exact Int64.ofInt_eq_ofNat.symm) k
theorem iz_iadd (hx : p.tables.exec = Jvm.exec) (hb : c.code = cc) {a b : Int} (hd : decode cc pc = .ok (.iadd, 1)) (k : W p l e R s m args below meth c H locs cells slots Q (F0 m (pc + 1) ls (.int (iI (a + b)) :: rest))) : W p l e R s m args below meth c H locs cells slots Q (F0 m pc ls (.int (iI b) :: .int (iI a) :: rest)) := lv_iadd hx hb hd (by rw [iI_add]; exact k)
theorem iz_ladd (hx : p.tables.exec = Jvm.exec) (hb : c.code = cc) {a b : Int} (hd : decode cc pc = .ok (.ladd, 1)) (k : W p l e R s m args below meth c H locs cells slots Q (F0 m (pc + 1) ls (.long (lI (a + b)) :: rest))) : W p l e R s m args below meth c H locs cells slots Q (F0 m pc ls (.long (lI b) :: .long (lI a) :: rest)) := lv_ladd hx hb hd (by rw [lI_add]; exact k)
theorem iz_isub (hx : p.tables.exec = Jvm.exec) (hb : c.code = cc) {a b : Int} (hd : decode cc pc = .ok (.isub, 1)) (k : W p l e R s m args below meth c H locs cells slots Q (F0 m (pc + 1) ls (.int (iI (a - b)) :: rest))) : W p l e R s m args below meth c H locs cells slots Q (F0 m pc ls (.int (iI b) :: .int (iI a) :: rest)) := lv_isub hx hb hd (by rw [iI_sub]; exact k)
theorem iz_lsub (hx : p.tables.exec = Jvm.exec) (hb : c.code = cc) {a b : Int} (hd : decode cc pc = .ok (.lsub, 1)) (k : W p l e R s m args below meth c H locs cells slots Q (F0 m (pc + 1) ls (.long (lI (a - b)) :: rest))) : W p l e R s m args below meth c H locs cells slots Q (F0 m pc ls (.long (lI b) :: .long (lI a) :: rest)) := lv_lsub hx hb hd (by rw [lI_sub]; exact k)
theorem iz_imul (hx : p.tables.exec = Jvm.exec) (hb : c.code = cc) {a b : Int} (hd : decode cc pc = .ok (.imul, 1)) (k : W p l e R s m args below meth c H locs cells slots Q (F0 m (pc + 1) ls (.int (iI (a * b)) :: rest))) : W p l e R s m args below meth c H locs cells slots Q (F0 m pc ls (.int (iI b) :: .int (iI a) :: rest)) := lv_imul hx hb hd (by rw [iI_mul]; exact k)
theorem iz_lmul (hx : p.tables.exec = Jvm.exec) (hb : c.code = cc) {a b : Int} (hd : decode cc pc = .ok (.lmul, 1)) (k : W p l e R s m args below meth c H locs cells slots Q (F0 m (pc + 1) ls (.long (lI (a * b)) :: rest))) : W p l e R s m args below meth c H locs cells slots Q (F0 m pc ls (.long (lI b) :: .long (lI a) :: rest)) := lv_lmul hx hb hd (by rw [lI_mul]; exact k)
theorem iz_ldiv (hx : p.tables.exec = Jvm.exec) (hb : c.code = cc) {a b : Int} (ha : r64 a) (h0 : 0 ≤ a) (hb1 : r64 b) (hb0 : 0 < b) (hd : decode cc pc = .ok (.ldiv, 1)) (k : W p l e R s m args below meth c H locs cells slots Q (F0 m (pc + 1) ls (.long (lI (a / b)) :: rest))) : W p l e R s m args below meth c H locs cells slots Q (F0 m pc ls (.long (lI b) :: .long (lI a) :: rest)) := by
  refine lv_ldiv hx hb hd ?_ (by rw [lI_div ha h0 hb1 hb0]; exact k)
  rw [lI_0, lI_eq hb1 ⟨by omega, by omega⟩]
  omega
theorem iz_idiv (hx : p.tables.exec = Jvm.exec) (hb : c.code = cc) {a b : Int} (ha : r32 a) (h0 : 0 ≤ a) (hb1 : r32 b) (hb0 : 0 < b) (hd : decode cc pc = .ok (.idiv, 1)) (k : W p l e R s m args below meth c H locs cells slots Q (F0 m (pc + 1) ls (.int (iI (a / b)) :: rest))) : W p l e R s m args below meth c H locs cells slots Q (F0 m pc ls (.int (iI b) :: .int (iI a) :: rest)) := by
  refine lv_idiv hx hb hd ?_ (by rw [iI_div ha h0 hb1 hb0]; exact k)
  rw [iI_0, iI_eq hb1 ⟨by omega, by omega⟩]
  omega
theorem iz_i2l (hx : p.tables.exec = Jvm.exec) (hb : c.code = cc) {a : Int} (ha : r32 a) (hd : decode cc pc = .ok (.i2l, 1)) (k : W p l e R s m args below meth c H locs cells slots Q (F0 m (pc + 1) ls (.long (lI a) :: rest))) : W p l e R s m args below meth c H locs cells slots Q (F0 m pc ls (.int (iI a) :: rest)) := lv_i2l hx hb hd (iI_l ha) k
theorem iz_l2i (hx : p.tables.exec = Jvm.exec) (hb : c.code = cc) {a : Int} (hd : decode cc pc = .ok (.l2i, 1)) (k : W p l e R s m args below meth c H locs cells slots Q (F0 m (pc + 1) ls (.int (iI a) :: rest))) : W p l e R s m args below meth c H locs cells slots Q (F0 m pc ls (.long (lI a) :: rest)) := lv_l2i hx hb hd (lI_i a) k
theorem iz_iinc (hx : p.tables.exec = Jvm.exec) (hb : c.code = cc) {i nL k : Nat} {n a : Int} {lv lv' : List (Nat × Value)} (hd : decode cc pc = .ok (.iinc i n, 3)) (h : lv_has ls nL lv) (hk : lv[k]? = some (i, .int (iI a))) (hn : i < nL) (hl : (i, Value.int (iI (a + n))) :: lv.filter (fun q => !(q.1 == i) && !(q.1 + 1 == i && q.2.category == 2)) = lv')
    (kk : ∀ ls' : Array Slot, lv_has ls' nL lv' → W p l e R s m args below meth c H locs cells slots Q (F0 m (pc + 3) ls' rest)) : W p l e R s m args below meth c H locs cells slots Q (F0 m pc ls (rest)) := lv_iinc hx hb hd h hk (iI_add a n) hn hl kk
theorem iz_icmp_eq (hx : p.tables.exec = Jvm.exec) (hb : c.code = cc) {a b : Int} (ha : r32 a) (hb1 : r32 b) {off : Int} {tgt : Nat} (hd : decode cc pc = .ok (.if_icmp .eq off, 3)) (ht : (pc : Int) + off = (tgt : Int)) (kt : a = b → W p l e R s m args below meth c H locs cells slots Q (F0 m tgt ls (rest))) (kf : ¬ a = b → W p l e R s m args below meth c H locs cells slots Q (F0 m (pc + 3) ls (rest))) : W p l e R s m args below meth c H locs cells slots Q (F0 m pc ls (.int (iI b) :: .int (iI a) :: rest)) := by
  refine lv_icmp_eq hx hb hd ht (fun h => kt ?_) (fun h => kf ?_)
  · have h := h
    first | rw [iI_lt ha hb1] at h | rw [iI_lt hb1 ha] at h | rw [iI_le ha hb1] at h | rw [iI_le hb1 ha] at h | rw [iI_eq ha hb1] at h | (rw [ne_eq, iI_eq ha hb1] at h)
    omega
  · have h := h
    first | rw [iI_lt ha hb1] at h | rw [iI_lt hb1 ha] at h | rw [iI_le ha hb1] at h | rw [iI_le hb1 ha] at h | rw [iI_eq ha hb1] at h | (rw [ne_eq, iI_eq ha hb1] at h)
    omega
theorem iz_if_eq (hx : p.tables.exec = Jvm.exec) (hb : c.code = cc) {a : Int} (ha : r32 a) {off : Int} {tgt : Nat} (hd : decode cc pc = .ok (.ifCond .eq off, 3)) (ht : (pc : Int) + off = (tgt : Int)) (kt : a = 0 → W p l e R s m args below meth c H locs cells slots Q (F0 m tgt ls (rest))) (kf : ¬ a = 0 → W p l e R s m args below meth c H locs cells slots Q (F0 m (pc + 3) ls (rest))) : W p l e R s m args below meth c H locs cells slots Q (F0 m pc ls (.int (iI a) :: rest)) := by
  have hz : r32 0 := ⟨by omega, by omega⟩
  refine lv_if_eq hx hb hd ht (fun h => kt ?_) (fun h => kf ?_)
  · have h := h
    rw [iI_0] at h
    first | rw [iI_lt ha hz] at h | rw [iI_lt hz ha] at h | rw [iI_le ha hz] at h | rw [iI_le hz ha] at h | rw [iI_eq ha hz] at h | (rw [ne_eq, iI_eq ha hz] at h)
    omega
  · have h := h
    rw [iI_0] at h
    first | rw [iI_lt ha hz] at h | rw [iI_lt hz ha] at h | rw [iI_le ha hz] at h | rw [iI_le hz ha] at h | rw [iI_eq ha hz] at h | (rw [ne_eq, iI_eq ha hz] at h)
    omega
theorem iz_icmp_ne (hx : p.tables.exec = Jvm.exec) (hb : c.code = cc) {a b : Int} (ha : r32 a) (hb1 : r32 b) {off : Int} {tgt : Nat} (hd : decode cc pc = .ok (.if_icmp .ne off, 3)) (ht : (pc : Int) + off = (tgt : Int)) (kt : ¬ a = b → W p l e R s m args below meth c H locs cells slots Q (F0 m tgt ls (rest))) (kf : a = b → W p l e R s m args below meth c H locs cells slots Q (F0 m (pc + 3) ls (rest))) : W p l e R s m args below meth c H locs cells slots Q (F0 m pc ls (.int (iI b) :: .int (iI a) :: rest)) := by
  refine lv_icmp_ne hx hb hd ht (fun h => kt ?_) (fun h => kf ?_)
  · have h := h
    first | rw [iI_lt ha hb1] at h | rw [iI_lt hb1 ha] at h | rw [iI_le ha hb1] at h | rw [iI_le hb1 ha] at h | rw [iI_eq ha hb1] at h | (rw [ne_eq, iI_eq ha hb1] at h)
    omega
  · have h := h
    first | rw [iI_lt ha hb1] at h | rw [iI_lt hb1 ha] at h | rw [iI_le ha hb1] at h | rw [iI_le hb1 ha] at h | rw [iI_eq ha hb1] at h | (rw [ne_eq, iI_eq ha hb1] at h)
    omega
theorem iz_if_ne (hx : p.tables.exec = Jvm.exec) (hb : c.code = cc) {a : Int} (ha : r32 a) {off : Int} {tgt : Nat} (hd : decode cc pc = .ok (.ifCond .ne off, 3)) (ht : (pc : Int) + off = (tgt : Int)) (kt : ¬ a = 0 → W p l e R s m args below meth c H locs cells slots Q (F0 m tgt ls (rest))) (kf : a = 0 → W p l e R s m args below meth c H locs cells slots Q (F0 m (pc + 3) ls (rest))) : W p l e R s m args below meth c H locs cells slots Q (F0 m pc ls (.int (iI a) :: rest)) := by
  have hz : r32 0 := ⟨by omega, by omega⟩
  refine lv_if_ne hx hb hd ht (fun h => kt ?_) (fun h => kf ?_)
  · have h := h
    rw [iI_0] at h
    first | rw [iI_lt ha hz] at h | rw [iI_lt hz ha] at h | rw [iI_le ha hz] at h | rw [iI_le hz ha] at h | rw [iI_eq ha hz] at h | (rw [ne_eq, iI_eq ha hz] at h)
    omega
  · have h := h
    rw [iI_0] at h
    first | rw [iI_lt ha hz] at h | rw [iI_lt hz ha] at h | rw [iI_le ha hz] at h | rw [iI_le hz ha] at h | rw [iI_eq ha hz] at h | (rw [ne_eq, iI_eq ha hz] at h)
    omega
theorem iz_icmp_lt (hx : p.tables.exec = Jvm.exec) (hb : c.code = cc) {a b : Int} (ha : r32 a) (hb1 : r32 b) {off : Int} {tgt : Nat} (hd : decode cc pc = .ok (.if_icmp .lt off, 3)) (ht : (pc : Int) + off = (tgt : Int)) (kt : a < b → W p l e R s m args below meth c H locs cells slots Q (F0 m tgt ls (rest))) (kf : b ≤ a → W p l e R s m args below meth c H locs cells slots Q (F0 m (pc + 3) ls (rest))) : W p l e R s m args below meth c H locs cells slots Q (F0 m pc ls (.int (iI b) :: .int (iI a) :: rest)) := by
  refine lv_icmp_lt hx hb hd ht (fun h => kt ?_) (fun h => kf ?_)
  · have h := h
    first | rw [iI_lt ha hb1] at h | rw [iI_lt hb1 ha] at h | rw [iI_le ha hb1] at h | rw [iI_le hb1 ha] at h | rw [iI_eq ha hb1] at h | (rw [ne_eq, iI_eq ha hb1] at h)
    omega
  · have h := h
    first | rw [iI_lt ha hb1] at h | rw [iI_lt hb1 ha] at h | rw [iI_le ha hb1] at h | rw [iI_le hb1 ha] at h | rw [iI_eq ha hb1] at h | (rw [ne_eq, iI_eq ha hb1] at h)
    omega
theorem iz_if_lt (hx : p.tables.exec = Jvm.exec) (hb : c.code = cc) {a : Int} (ha : r32 a) {off : Int} {tgt : Nat} (hd : decode cc pc = .ok (.ifCond .lt off, 3)) (ht : (pc : Int) + off = (tgt : Int)) (kt : a < 0 → W p l e R s m args below meth c H locs cells slots Q (F0 m tgt ls (rest))) (kf : 0 ≤ a → W p l e R s m args below meth c H locs cells slots Q (F0 m (pc + 3) ls (rest))) : W p l e R s m args below meth c H locs cells slots Q (F0 m pc ls (.int (iI a) :: rest)) := by
  have hz : r32 0 := ⟨by omega, by omega⟩
  refine lv_if_lt hx hb hd ht (fun h => kt ?_) (fun h => kf ?_)
  · have h := h
    rw [iI_0] at h
    first | rw [iI_lt ha hz] at h | rw [iI_lt hz ha] at h | rw [iI_le ha hz] at h | rw [iI_le hz ha] at h | rw [iI_eq ha hz] at h | (rw [ne_eq, iI_eq ha hz] at h)
    omega
  · have h := h
    rw [iI_0] at h
    first | rw [iI_lt ha hz] at h | rw [iI_lt hz ha] at h | rw [iI_le ha hz] at h | rw [iI_le hz ha] at h | rw [iI_eq ha hz] at h | (rw [ne_eq, iI_eq ha hz] at h)
    omega
theorem iz_icmp_ge (hx : p.tables.exec = Jvm.exec) (hb : c.code = cc) {a b : Int} (ha : r32 a) (hb1 : r32 b) {off : Int} {tgt : Nat} (hd : decode cc pc = .ok (.if_icmp .ge off, 3)) (ht : (pc : Int) + off = (tgt : Int)) (kt : b ≤ a → W p l e R s m args below meth c H locs cells slots Q (F0 m tgt ls (rest))) (kf : a < b → W p l e R s m args below meth c H locs cells slots Q (F0 m (pc + 3) ls (rest))) : W p l e R s m args below meth c H locs cells slots Q (F0 m pc ls (.int (iI b) :: .int (iI a) :: rest)) := by
  refine lv_icmp_ge hx hb hd ht (fun h => kt ?_) (fun h => kf ?_)
  · have h := h
    first | rw [iI_lt ha hb1] at h | rw [iI_lt hb1 ha] at h | rw [iI_le ha hb1] at h | rw [iI_le hb1 ha] at h | rw [iI_eq ha hb1] at h | (rw [ne_eq, iI_eq ha hb1] at h)
    omega
  · have h := h
    first | rw [iI_lt ha hb1] at h | rw [iI_lt hb1 ha] at h | rw [iI_le ha hb1] at h | rw [iI_le hb1 ha] at h | rw [iI_eq ha hb1] at h | (rw [ne_eq, iI_eq ha hb1] at h)
    omega
theorem iz_if_ge (hx : p.tables.exec = Jvm.exec) (hb : c.code = cc) {a : Int} (ha : r32 a) {off : Int} {tgt : Nat} (hd : decode cc pc = .ok (.ifCond .ge off, 3)) (ht : (pc : Int) + off = (tgt : Int)) (kt : 0 ≤ a → W p l e R s m args below meth c H locs cells slots Q (F0 m tgt ls (rest))) (kf : a < 0 → W p l e R s m args below meth c H locs cells slots Q (F0 m (pc + 3) ls (rest))) : W p l e R s m args below meth c H locs cells slots Q (F0 m pc ls (.int (iI a) :: rest)) := by
  have hz : r32 0 := ⟨by omega, by omega⟩
  refine lv_if_ge hx hb hd ht (fun h => kt ?_) (fun h => kf ?_)
  · have h := h
    rw [iI_0] at h
    first | rw [iI_lt ha hz] at h | rw [iI_lt hz ha] at h | rw [iI_le ha hz] at h | rw [iI_le hz ha] at h | rw [iI_eq ha hz] at h | (rw [ne_eq, iI_eq ha hz] at h)
    omega
  · have h := h
    rw [iI_0] at h
    first | rw [iI_lt ha hz] at h | rw [iI_lt hz ha] at h | rw [iI_le ha hz] at h | rw [iI_le hz ha] at h | rw [iI_eq ha hz] at h | (rw [ne_eq, iI_eq ha hz] at h)
    omega
theorem iz_icmp_gt (hx : p.tables.exec = Jvm.exec) (hb : c.code = cc) {a b : Int} (ha : r32 a) (hb1 : r32 b) {off : Int} {tgt : Nat} (hd : decode cc pc = .ok (.if_icmp .gt off, 3)) (ht : (pc : Int) + off = (tgt : Int)) (kt : b < a → W p l e R s m args below meth c H locs cells slots Q (F0 m tgt ls (rest))) (kf : a ≤ b → W p l e R s m args below meth c H locs cells slots Q (F0 m (pc + 3) ls (rest))) : W p l e R s m args below meth c H locs cells slots Q (F0 m pc ls (.int (iI b) :: .int (iI a) :: rest)) := by
  refine lv_icmp_gt hx hb hd ht (fun h => kt ?_) (fun h => kf ?_)
  · have h := h
    first | rw [iI_lt ha hb1] at h | rw [iI_lt hb1 ha] at h | rw [iI_le ha hb1] at h | rw [iI_le hb1 ha] at h | rw [iI_eq ha hb1] at h | (rw [ne_eq, iI_eq ha hb1] at h)
    omega
  · have h := h
    first | rw [iI_lt ha hb1] at h | rw [iI_lt hb1 ha] at h | rw [iI_le ha hb1] at h | rw [iI_le hb1 ha] at h | rw [iI_eq ha hb1] at h | (rw [ne_eq, iI_eq ha hb1] at h)
    omega
theorem iz_if_gt (hx : p.tables.exec = Jvm.exec) (hb : c.code = cc) {a : Int} (ha : r32 a) {off : Int} {tgt : Nat} (hd : decode cc pc = .ok (.ifCond .gt off, 3)) (ht : (pc : Int) + off = (tgt : Int)) (kt : 0 < a → W p l e R s m args below meth c H locs cells slots Q (F0 m tgt ls (rest))) (kf : a ≤ 0 → W p l e R s m args below meth c H locs cells slots Q (F0 m (pc + 3) ls (rest))) : W p l e R s m args below meth c H locs cells slots Q (F0 m pc ls (.int (iI a) :: rest)) := by
  have hz : r32 0 := ⟨by omega, by omega⟩
  refine lv_if_gt hx hb hd ht (fun h => kt ?_) (fun h => kf ?_)
  · have h := h
    rw [iI_0] at h
    first | rw [iI_lt ha hz] at h | rw [iI_lt hz ha] at h | rw [iI_le ha hz] at h | rw [iI_le hz ha] at h | rw [iI_eq ha hz] at h | (rw [ne_eq, iI_eq ha hz] at h)
    omega
  · have h := h
    rw [iI_0] at h
    first | rw [iI_lt ha hz] at h | rw [iI_lt hz ha] at h | rw [iI_le ha hz] at h | rw [iI_le hz ha] at h | rw [iI_eq ha hz] at h | (rw [ne_eq, iI_eq ha hz] at h)
    omega
theorem iz_icmp_le (hx : p.tables.exec = Jvm.exec) (hb : c.code = cc) {a b : Int} (ha : r32 a) (hb1 : r32 b) {off : Int} {tgt : Nat} (hd : decode cc pc = .ok (.if_icmp .le off, 3)) (ht : (pc : Int) + off = (tgt : Int)) (kt : a ≤ b → W p l e R s m args below meth c H locs cells slots Q (F0 m tgt ls (rest))) (kf : b < a → W p l e R s m args below meth c H locs cells slots Q (F0 m (pc + 3) ls (rest))) : W p l e R s m args below meth c H locs cells slots Q (F0 m pc ls (.int (iI b) :: .int (iI a) :: rest)) := by
  refine lv_icmp_le hx hb hd ht (fun h => kt ?_) (fun h => kf ?_)
  · have h := h
    first | rw [iI_lt ha hb1] at h | rw [iI_lt hb1 ha] at h | rw [iI_le ha hb1] at h | rw [iI_le hb1 ha] at h | rw [iI_eq ha hb1] at h | (rw [ne_eq, iI_eq ha hb1] at h)
    omega
  · have h := h
    first | rw [iI_lt ha hb1] at h | rw [iI_lt hb1 ha] at h | rw [iI_le ha hb1] at h | rw [iI_le hb1 ha] at h | rw [iI_eq ha hb1] at h | (rw [ne_eq, iI_eq ha hb1] at h)
    omega
theorem iz_if_le (hx : p.tables.exec = Jvm.exec) (hb : c.code = cc) {a : Int} (ha : r32 a) {off : Int} {tgt : Nat} (hd : decode cc pc = .ok (.ifCond .le off, 3)) (ht : (pc : Int) + off = (tgt : Int)) (kt : a ≤ 0 → W p l e R s m args below meth c H locs cells slots Q (F0 m tgt ls (rest))) (kf : 0 < a → W p l e R s m args below meth c H locs cells slots Q (F0 m (pc + 3) ls (rest))) : W p l e R s m args below meth c H locs cells slots Q (F0 m pc ls (.int (iI a) :: rest)) := by
  have hz : r32 0 := ⟨by omega, by omega⟩
  refine lv_if_le hx hb hd ht (fun h => kt ?_) (fun h => kf ?_)
  · have h := h
    rw [iI_0] at h
    first | rw [iI_lt ha hz] at h | rw [iI_lt hz ha] at h | rw [iI_le ha hz] at h | rw [iI_le hz ha] at h | rw [iI_eq ha hz] at h | (rw [ne_eq, iI_eq ha hz] at h)
    omega
  · have h := h
    rw [iI_0] at h
    first | rw [iI_lt ha hz] at h | rw [iI_lt hz ha] at h | rw [iI_le ha hz] at h | rw [iI_le hz ha] at h | rw [iI_eq ha hz] at h | (rw [ne_eq, iI_eq ha hz] at h)
    omega
theorem iz_cmp {a b : Int} (ha : r64 a) (hb : r64 b) : lg_cmp (lI a) (lI b) = iI (if b < a then 1 else if a = b then 0 else -1) := by
  unfold lg_cmp
  simp only [lI_lt hb ha, lI_lt ha hb, lI_eq ha hb, lI_eq hb ha]
  split
  · rfl
  · split
    · first | rfl | (rw [if_pos (by omega)]; rfl) | (rw [if_neg (by omega)]; rfl)
    · first | rfl | (rw [if_pos (by omega)]; rfl) | (rw [if_neg (by omega)]; rfl)
theorem iz_lc_eq (hx : p.tables.exec = Jvm.exec) (hb : c.code = cc) {a b : Int} (ha : r64 a) (hb1 : r64 b) {off : Int} {tgt : Nat} (hd : decode cc pc = .ok (.lcmp, 1)) (hd2 : decode cc (pc + 1) = .ok (.ifCond .eq off, 3)) (ht : ((pc + 1 : Nat) : Int) + off = (tgt : Int)) (kt : a = b → W p l e R s m args below meth c H locs cells slots Q (F0 m tgt ls (rest))) (kf : ¬ a = b → W p l e R s m args below meth c H locs cells slots Q (F0 m (pc + 1 + 3) ls (rest))) : W p l e R s m args below meth c H locs cells slots Q (F0 m pc ls (.long (lI b) :: .long (lI a) :: rest)) := by
  refine W.lcmp hx hb hd ?_
  rw [iz_cmp ha hb1]
  refine iz_if_eq hx hb (by split <;> (try split) <;> exact ⟨by omega, by omega⟩) hd2 ht (fun h => kt ?_) (fun h => kf ?_)
  · split at h <;> (try split at h) <;> omega
  · split at h <;> (try split at h) <;> omega
theorem iz_lc_ne (hx : p.tables.exec = Jvm.exec) (hb : c.code = cc) {a b : Int} (ha : r64 a) (hb1 : r64 b) {off : Int} {tgt : Nat} (hd : decode cc pc = .ok (.lcmp, 1)) (hd2 : decode cc (pc + 1) = .ok (.ifCond .ne off, 3)) (ht : ((pc + 1 : Nat) : Int) + off = (tgt : Int)) (kt : ¬ a = b → W p l e R s m args below meth c H locs cells slots Q (F0 m tgt ls (rest))) (kf : a = b → W p l e R s m args below meth c H locs cells slots Q (F0 m (pc + 1 + 3) ls (rest))) : W p l e R s m args below meth c H locs cells slots Q (F0 m pc ls (.long (lI b) :: .long (lI a) :: rest)) := by
  refine W.lcmp hx hb hd ?_
  rw [iz_cmp ha hb1]
  refine iz_if_ne hx hb (by split <;> (try split) <;> exact ⟨by omega, by omega⟩) hd2 ht (fun h => kt ?_) (fun h => kf ?_)
  · split at h <;> (try split at h) <;> omega
  · split at h <;> (try split at h) <;> omega
theorem iz_lc_lt (hx : p.tables.exec = Jvm.exec) (hb : c.code = cc) {a b : Int} (ha : r64 a) (hb1 : r64 b) {off : Int} {tgt : Nat} (hd : decode cc pc = .ok (.lcmp, 1)) (hd2 : decode cc (pc + 1) = .ok (.ifCond .lt off, 3)) (ht : ((pc + 1 : Nat) : Int) + off = (tgt : Int)) (kt : a < b → W p l e R s m args below meth c H locs cells slots Q (F0 m tgt ls (rest))) (kf : b ≤ a → W p l e R s m args below meth c H locs cells slots Q (F0 m (pc + 1 + 3) ls (rest))) : W p l e R s m args below meth c H locs cells slots Q (F0 m pc ls (.long (lI b) :: .long (lI a) :: rest)) := by
  refine W.lcmp hx hb hd ?_
  rw [iz_cmp ha hb1]
  refine iz_if_lt hx hb (by split <;> (try split) <;> exact ⟨by omega, by omega⟩) hd2 ht (fun h => kt ?_) (fun h => kf ?_)
  · split at h <;> (try split at h) <;> omega
  · split at h <;> (try split at h) <;> omega
theorem iz_lc_ge (hx : p.tables.exec = Jvm.exec) (hb : c.code = cc) {a b : Int} (ha : r64 a) (hb1 : r64 b) {off : Int} {tgt : Nat} (hd : decode cc pc = .ok (.lcmp, 1)) (hd2 : decode cc (pc + 1) = .ok (.ifCond .ge off, 3)) (ht : ((pc + 1 : Nat) : Int) + off = (tgt : Int)) (kt : b ≤ a → W p l e R s m args below meth c H locs cells slots Q (F0 m tgt ls (rest))) (kf : a < b → W p l e R s m args below meth c H locs cells slots Q (F0 m (pc + 1 + 3) ls (rest))) : W p l e R s m args below meth c H locs cells slots Q (F0 m pc ls (.long (lI b) :: .long (lI a) :: rest)) := by
  refine W.lcmp hx hb hd ?_
  rw [iz_cmp ha hb1]
  refine iz_if_ge hx hb (by split <;> (try split) <;> exact ⟨by omega, by omega⟩) hd2 ht (fun h => kt ?_) (fun h => kf ?_)
  · split at h <;> (try split at h) <;> omega
  · split at h <;> (try split at h) <;> omega
theorem iz_lc_gt (hx : p.tables.exec = Jvm.exec) (hb : c.code = cc) {a b : Int} (ha : r64 a) (hb1 : r64 b) {off : Int} {tgt : Nat} (hd : decode cc pc = .ok (.lcmp, 1)) (hd2 : decode cc (pc + 1) = .ok (.ifCond .gt off, 3)) (ht : ((pc + 1 : Nat) : Int) + off = (tgt : Int)) (kt : b < a → W p l e R s m args below meth c H locs cells slots Q (F0 m tgt ls (rest))) (kf : a ≤ b → W p l e R s m args below meth c H locs cells slots Q (F0 m (pc + 1 + 3) ls (rest))) : W p l e R s m args below meth c H locs cells slots Q (F0 m pc ls (.long (lI b) :: .long (lI a) :: rest)) := by
  refine W.lcmp hx hb hd ?_
  rw [iz_cmp ha hb1]
  refine iz_if_gt hx hb (by split <;> (try split) <;> exact ⟨by omega, by omega⟩) hd2 ht (fun h => kt ?_) (fun h => kf ?_)
  · split at h <;> (try split at h) <;> omega
  · split at h <;> (try split at h) <;> omega
theorem iz_lc_le (hx : p.tables.exec = Jvm.exec) (hb : c.code = cc) {a b : Int} (ha : r64 a) (hb1 : r64 b) {off : Int} {tgt : Nat} (hd : decode cc pc = .ok (.lcmp, 1)) (hd2 : decode cc (pc + 1) = .ok (.ifCond .le off, 3)) (ht : ((pc + 1 : Nat) : Int) + off = (tgt : Int)) (kt : a ≤ b → W p l e R s m args below meth c H locs cells slots Q (F0 m tgt ls (rest))) (kf : b < a → W p l e R s m args below meth c H locs cells slots Q (F0 m (pc + 1 + 3) ls (rest))) : W p l e R s m args below meth c H locs cells slots Q (F0 m pc ls (.long (lI b) :: .long (lI a) :: rest)) := by
  refine W.lcmp hx hb hd ?_
  rw [iz_cmp ha hb1]
  refine iz_if_le hx hb (by split <;> (try split) <;> exact ⟨by omega, by omega⟩) hd2 ht (fun h => kt ?_) (fun h => kf ?_)
  · split at h <;> (try split at h) <;> omega
  · split at h <;> (try split at h) <;> omega
end IzRows
