section
-- ===== PART A: goes FIRST, ahead of the names: the tables' words, and 'selects' of the private methods out of them =====
/-- a private method of a class that the tables say can be made, by its rows of tables_1 -/
def lw_okq (q : MethodName × Nat) : Prop := (q.1.cls ≠ "java/lang/invoke/MethodHandle" ∧ q.1.cls ≠ "java/lang/invoke/VarHandle") ∧ Cond.instantiable q.1.cls q.2 ∈ tables_1 ∧ Cond.privateMethod q.1 ∈ tables_1 ∧ Cond.instanceMethod q.1 ∈ tables_1
theorem lw_p0 : lw_okq (⟨"java/lang/Throwable", "fillInStackTrace", "(I)Ljava/lang/Throwable;"⟩, 6) := ⟨⟨by decide +kernel, by decide +kernel⟩, List.mem_of_getElem? (i := 191) (by decide +kernel), List.mem_of_getElem? (i := 189) (by decide +kernel), List.mem_of_getElem? (i := 190) (by decide +kernel)⟩
theorem lw_p1 : lw_okq (⟨"LayerQuantities$Shelf", "priceFor", "(J)I"⟩, 10) := ⟨⟨by decide +kernel, by decide +kernel⟩, List.mem_of_getElem? (i := 46) (by decide +kernel), List.mem_of_getElem? (i := 228) (by decide +kernel), List.mem_of_getElem? (i := 229) (by decide +kernel)⟩
theorem lw_p2 : lw_okq (⟨"LayerQuantities$Shelf", "search", "(J)V"⟩, 10) := ⟨⟨by decide +kernel, by decide +kernel⟩, List.mem_of_getElem? (i := 46) (by decide +kernel), List.mem_of_getElem? (i := 232) (by decide +kernel), List.mem_of_getElem? (i := 233) (by decide +kernel)⟩
theorem lw_p3 : lw_okq (⟨"LayerQuantities$Shelf", "priceOfOneKind", "(J)I"⟩, 10) := ⟨⟨by decide +kernel, by decide +kernel⟩, List.mem_of_getElem? (i := 46) (by decide +kernel), List.mem_of_getElem? (i := 236) (by decide +kernel), List.mem_of_getElem? (i := 237) (by decide +kernel)⟩
theorem lw_p4 : lw_okq (⟨"LayerQuantities$Shelf", "tryKind", "(IJII)V"⟩, 10) := ⟨⟨by decide +kernel, by decide +kernel⟩, List.mem_of_getElem? (i := 46) (by decide +kernel), List.mem_of_getElem? (i := 249) (by decide +kernel), List.mem_of_getElem? (i := 250) (by decide +kernel)⟩
theorem lw_p5 : lw_okq (⟨"LayerQuantities$Shelf", "keepIfBetter", "(II)V"⟩, 10) := ⟨⟨by decide +kernel, by decide +kernel⟩, List.mem_of_getElem? (i := 46) (by decide +kernel), List.mem_of_getElem? (i := 253) (by decide +kernel), List.mem_of_getElem? (i := 254) (by decide +kernel)⟩
theorem lw_p6 : lw_okq (⟨"LayerQuantities$Shelf", "isBetter", "(JJ)Z"⟩, 10) := ⟨⟨by decide +kernel, by decide +kernel⟩, List.mem_of_getElem? (i := 46) (by decide +kernel), List.mem_of_getElem? (i := 257) (by decide +kernel), List.mem_of_getElem? (i := 258) (by decide +kernel)⟩
theorem lw_p7 : lw_okq (⟨"LayerQuantities$Shelf", "isHopeless", "(IJII)Z"⟩, 10) := ⟨⟨by decide +kernel, by decide +kernel⟩, List.mem_of_getElem? (i := 46) (by decide +kernel), List.mem_of_getElem? (i := 264) (by decide +kernel), List.mem_of_getElem? (i := 265) (by decide +kernel)⟩
theorem lw_p8 : lw_okq (⟨"LayerQuantities$Saw", "makePlan", "()V"⟩, 10) := ⟨⟨by decide +kernel, by decide +kernel⟩, List.mem_of_getElem? (i := 85) (by decide +kernel), List.mem_of_getElem? (i := 274) (by decide +kernel), List.mem_of_getElem? (i := 275) (by decide +kernel)⟩
theorem lw_p9 : lw_okq (⟨"LayerQuantities$Saw", "sumFromBehind", "()V"⟩, 10) := ⟨⟨by decide +kernel, by decide +kernel⟩, List.mem_of_getElem? (i := 85) (by decide +kernel), List.mem_of_getElem? (i := 278) (by decide +kernel), List.mem_of_getElem? (i := 279) (by decide +kernel)⟩
theorem lw_p10 : lw_okq (⟨"LayerQuantities$Saw", "placeAll", "()Z"⟩, 10) := ⟨⟨by decide +kernel, by decide +kernel⟩, List.mem_of_getElem? (i := 85) (by decide +kernel), List.mem_of_getElem? (i := 285) (by decide +kernel), List.mem_of_getElem? (i := 286) (by decide +kernel)⟩
theorem lw_p11 : lw_okq (⟨"LayerQuantities$Saw", "placeFrom", "(I)Z"⟩, 10) := ⟨⟨by decide +kernel, by decide +kernel⟩, List.mem_of_getElem? (i := 85) (by decide +kernel), List.mem_of_getElem? (i := 290) (by decide +kernel), List.mem_of_getElem? (i := 291) (by decide +kernel)⟩
theorem lw_p12 : lw_okq (⟨"LayerQuantities$Saw", "usable", "(I)I"⟩, 10) := ⟨⟨by decide +kernel, by decide +kernel⟩, List.mem_of_getElem? (i := 85) (by decide +kernel), List.mem_of_getElem? (i := 294) (by decide +kernel), List.mem_of_getElem? (i := 295) (by decide +kernel)⟩
theorem lw_p13 : lw_okq (⟨"LayerQuantities$Saw", "isLikeEarlier", "(I)Z"⟩, 10) := ⟨⟨by decide +kernel, by decide +kernel⟩, List.mem_of_getElem? (i := 85) (by decide +kernel), List.mem_of_getElem? (i := 298) (by decide +kernel), List.mem_of_getElem? (i := 299) (by decide +kernel)⟩
theorem lw_p14 : lw_okq (⟨"LayerQuantities$Wall", "wholeThickness", "()I"⟩, 4) := ⟨⟨by decide +kernel, by decide +kernel⟩, List.mem_of_getElem? (i := 24) (by decide +kernel), List.mem_of_getElem? (i := 363) (by decide +kernel), List.mem_of_getElem? (i := 364) (by decide +kernel)⟩
theorem lw_p15 : lw_okq (⟨"LayerQuantities$Shelf", "stock", "(II)I"⟩, 10) := ⟨⟨by decide +kernel, by decide +kernel⟩, List.mem_of_getElem? (i := 46) (by decide +kernel), List.mem_of_getElem? (i := 380) (by decide +kernel), List.mem_of_getElem? (i := 381) (by decide +kernel)⟩
def lw_privs_1 : List (MethodName × Nat) := [(⟨"java/lang/Throwable", "fillInStackTrace", "(I)Ljava/lang/Throwable;"⟩, 6), (⟨"LayerQuantities$Shelf", "priceFor", "(J)I"⟩, 10), (⟨"LayerQuantities$Shelf", "search", "(J)V"⟩, 10), (⟨"LayerQuantities$Shelf", "priceOfOneKind", "(J)I"⟩, 10), (⟨"LayerQuantities$Shelf", "tryKind", "(IJII)V"⟩, 10), (⟨"LayerQuantities$Shelf", "keepIfBetter", "(II)V"⟩, 10), (⟨"LayerQuantities$Shelf", "isBetter", "(JJ)Z"⟩, 10), (⟨"LayerQuantities$Shelf", "isHopeless", "(IJII)Z"⟩, 10), (⟨"LayerQuantities$Saw", "makePlan", "()V"⟩, 10), (⟨"LayerQuantities$Saw", "sumFromBehind", "()V"⟩, 10), (⟨"LayerQuantities$Saw", "placeAll", "()Z"⟩, 10), (⟨"LayerQuantities$Saw", "placeFrom", "(I)Z"⟩, 10), (⟨"LayerQuantities$Saw", "usable", "(I)I"⟩, 10), (⟨"LayerQuantities$Saw", "isLikeEarlier", "(I)Z"⟩, 10), (⟨"LayerQuantities$Wall", "wholeThickness", "()I"⟩, 4), (⟨"LayerQuantities$Shelf", "stock", "(II)I"⟩, 10)]
theorem lw_r1 : ∀ q ∈ lw_privs_1, lw_okq q := List.forall_mem_cons.mpr ⟨lw_p0, List.forall_mem_cons.mpr ⟨lw_p1, List.forall_mem_cons.mpr ⟨lw_p2, List.forall_mem_cons.mpr ⟨lw_p3, List.forall_mem_cons.mpr ⟨lw_p4, List.forall_mem_cons.mpr ⟨lw_p5, List.forall_mem_cons.mpr ⟨lw_p6, List.forall_mem_cons.mpr ⟨lw_p7, List.forall_mem_cons.mpr ⟨lw_p8, List.forall_mem_cons.mpr ⟨lw_p9, List.forall_mem_cons.mpr ⟨lw_p10, List.forall_mem_cons.mpr ⟨lw_p11, List.forall_mem_cons.mpr ⟨lw_p12, List.forall_mem_cons.mpr ⟨lw_p13, List.forall_mem_cons.mpr ⟨lw_p14, List.forall_mem_cons.mpr ⟨lw_p15, fun _ h => absurd h List.not_mem_nil⟩⟩⟩⟩⟩⟩⟩⟩⟩⟩⟩⟩⟩⟩⟩⟩
theorem lw_p16 : lw_okq (⟨"LayerQuantities$Shelf", "rankFromBehind", "()V"⟩, 10) := ⟨⟨by decide +kernel, by decide +kernel⟩, List.mem_of_getElem? (i := 46) (by decide +kernel), List.mem_of_getElem? (i := 384) (by decide +kernel), List.mem_of_getElem? (i := 385) (by decide +kernel)⟩
theorem lw_p17 : lw_okq (⟨"LayerQuantities$Shelf", "countFor", "(JI)I"⟩, 10) := ⟨⟨by decide +kernel, by decide +kernel⟩, List.mem_of_getElem? (i := 46) (by decide +kernel), List.mem_of_getElem? (i := 395) (by decide +kernel), List.mem_of_getElem? (i := 396) (by decide +kernel)⟩
theorem lw_p18 : lw_okq (⟨"LayerQuantities$Saw", "longestPiece", "()I"⟩, 10) := ⟨⟨by decide +kernel, by decide +kernel⟩, List.mem_of_getElem? (i := 85) (by decide +kernel), List.mem_of_getElem? (i := 410) (by decide +kernel), List.mem_of_getElem? (i := 411) (by decide +kernel)⟩
theorem lw_p19 : lw_okq (⟨"LayerQuantities$Saw", "takeBars", "(II)V"⟩, 10) := ⟨⟨by decide +kernel, by decide +kernel⟩, List.mem_of_getElem? (i := 85) (by decide +kernel), List.mem_of_getElem? (i := 418) (by decide +kernel), List.mem_of_getElem? (i := 419) (by decide +kernel)⟩
theorem lw_p20 : lw_okq (⟨"LayerQuantities$Saw", "addPiece", "(I)I"⟩, 10) := ⟨⟨by decide +kernel, by decide +kernel⟩, List.mem_of_getElem? (i := 85) (by decide +kernel), List.mem_of_getElem? (i := 429) (by decide +kernel), List.mem_of_getElem? (i := 430) (by decide +kernel)⟩
theorem lw_p21 : lw_okq (⟨"LayerQuantities$Saw", "resizePiece", "(II)I"⟩, 10) := ⟨⟨by decide +kernel, by decide +kernel⟩, List.mem_of_getElem? (i := 85) (by decide +kernel), List.mem_of_getElem? (i := 440) (by decide +kernel), List.mem_of_getElem? (i := 441) (by decide +kernel)⟩
theorem lw_p22 : lw_okq (⟨"LayerQuantitiesModel", "isWall", "(I)Z"⟩, 21) := ⟨⟨by decide +kernel, by decide +kernel⟩, List.mem_of_getElem? (i := 458) (by decide +kernel), List.mem_of_getElem? (i := 545) (by decide +kernel), List.mem_of_getElem? (i := 546) (by decide +kernel)⟩
theorem lw_p23 : lw_okq (⟨"LayerQuantitiesModel", "needOf", "(I)J"⟩, 21) := ⟨⟨by decide +kernel, by decide +kernel⟩, List.mem_of_getElem? (i := 458) (by decide +kernel), List.mem_of_getElem? (i := 572) (by decide +kernel), List.mem_of_getElem? (i := 573) (by decide +kernel)⟩
theorem lw_p24 : lw_okq (⟨"LayerQuantitiesModel", "buy", "(I)V"⟩, 21) := ⟨⟨by decide +kernel, by decide +kernel⟩, List.mem_of_getElem? (i := 458) (by decide +kernel), List.mem_of_getElem? (i := 587) (by decide +kernel), List.mem_of_getElem? (i := 588) (by decide +kernel)⟩
theorem lw_p25 : lw_okq (⟨"LayerQuantitiesModel", "tryLast", "(IJ)V"⟩, 21) := ⟨⟨by decide +kernel, by decide +kernel⟩, List.mem_of_getElem? (i := 458) (by decide +kernel), List.mem_of_getElem? (i := 592) (by decide +kernel), List.mem_of_getElem? (i := 593) (by decide +kernel)⟩
theorem lw_p26 : lw_okq (⟨"LayerQuantitiesModel", "isBetter", "(J)Z"⟩, 21) := ⟨⟨by decide +kernel, by decide +kernel⟩, List.mem_of_getElem? (i := 458) (by decide +kernel), List.mem_of_getElem? (i := 600) (by decide +kernel), List.mem_of_getElem? (i := 601) (by decide +kernel)⟩
theorem lw_p27 : lw_okq (⟨"LayerQuantitiesModel", "findPlan", "()V"⟩, 21) := ⟨⟨by decide +kernel, by decide +kernel⟩, List.mem_of_getElem? (i := 458) (by decide +kernel), List.mem_of_getElem? (i := 629) (by decide +kernel), List.mem_of_getElem? (i := 630) (by decide +kernel)⟩
theorem lw_p28 : lw_okq (⟨"LayerQuantitiesModel", "goInto", "(I)Z"⟩, 21) := ⟨⟨by decide +kernel, by decide +kernel⟩, List.mem_of_getElem? (i := 458) (by decide +kernel), List.mem_of_getElem? (i := 633) (by decide +kernel), List.mem_of_getElem? (i := 634) (by decide +kernel)⟩
theorem lw_p29 : lw_okq (⟨"LayerQuantitiesModel", "usedBefore", "(I)I"⟩, 21) := ⟨⟨by decide +kernel, by decide +kernel⟩, List.mem_of_getElem? (i := 458) (by decide +kernel), List.mem_of_getElem? (i := 637) (by decide +kernel), List.mem_of_getElem? (i := 638) (by decide +kernel)⟩
def lw_privs_2 : List (MethodName × Nat) := [(⟨"LayerQuantities$Shelf", "rankFromBehind", "()V"⟩, 10), (⟨"LayerQuantities$Shelf", "countFor", "(JI)I"⟩, 10), (⟨"LayerQuantities$Saw", "longestPiece", "()I"⟩, 10), (⟨"LayerQuantities$Saw", "takeBars", "(II)V"⟩, 10), (⟨"LayerQuantities$Saw", "addPiece", "(I)I"⟩, 10), (⟨"LayerQuantities$Saw", "resizePiece", "(II)I"⟩, 10), (⟨"LayerQuantitiesModel", "isWall", "(I)Z"⟩, 21), (⟨"LayerQuantitiesModel", "needOf", "(I)J"⟩, 21), (⟨"LayerQuantitiesModel", "buy", "(I)V"⟩, 21), (⟨"LayerQuantitiesModel", "tryLast", "(IJ)V"⟩, 21), (⟨"LayerQuantitiesModel", "isBetter", "(J)Z"⟩, 21), (⟨"LayerQuantitiesModel", "findPlan", "()V"⟩, 21), (⟨"LayerQuantitiesModel", "goInto", "(I)Z"⟩, 21), (⟨"LayerQuantitiesModel", "usedBefore", "(I)I"⟩, 21)]
theorem lw_r2 : ∀ q ∈ lw_privs_2, lw_okq q := List.forall_mem_cons.mpr ⟨lw_p16, List.forall_mem_cons.mpr ⟨lw_p17, List.forall_mem_cons.mpr ⟨lw_p18, List.forall_mem_cons.mpr ⟨lw_p19, List.forall_mem_cons.mpr ⟨lw_p20, List.forall_mem_cons.mpr ⟨lw_p21, List.forall_mem_cons.mpr ⟨lw_p22, List.forall_mem_cons.mpr ⟨lw_p23, List.forall_mem_cons.mpr ⟨lw_p24, List.forall_mem_cons.mpr ⟨lw_p25, List.forall_mem_cons.mpr ⟨lw_p26, List.forall_mem_cons.mpr ⟨lw_p27, List.forall_mem_cons.mpr ⟨lw_p28, List.forall_mem_cons.mpr ⟨lw_p29, fun _ h => absurd h List.not_mem_nil⟩⟩⟩⟩⟩⟩⟩⟩⟩⟩⟩⟩⟩⟩
def lw_privs : List (MethodName × Nat) := lw_privs_1 ++ (lw_privs_2)
def lw_tbl : List Cond := k2_sels lw_privs ++ tables_1
theorem lw_privs_ok : ∀ q ∈ lw_privs, lw_okq q := by
  show ∀ q ∈ lw_privs_1 ++ (lw_privs_2), lw_okq q
  exact List.forall_mem_append.mpr ⟨lw_r1, lw_r2⟩
end
section
-- DECODE ROWS
theorem dA_init_0 : decode prog_2_method_1_code 0 = .ok (.aload_n 0, 1) := by decide +kernel
theorem dA_init_1 : decode prog_2_method_1_code 1 = .ok (.invokespecial 3, 3) := by decide +kernel
theorem dA_init_4 : decode prog_2_method_1_code 4 = .ok (.aload_n 0, 1) := by decide +kernel
theorem dA_init_5 : decode prog_2_method_1_code 5 = .ok (.sipush 10000, 3) := by decide +kernel
theorem dA_init_8 : decode prog_2_method_1_code 8 = .ok (.putfield 9, 3) := by decide +kernel
theorem dA_init_11 : decode prog_2_method_1_code 11 = .ok (.aload_n 0, 1) := by decide +kernel
theorem dA_init_12 : decode prog_2_method_1_code 12 = .ok (.bipush 10, 2) := by decide +kernel
theorem dA_init_14 : decode prog_2_method_1_code 14 = .ok (.newarray .int, 2) := by decide +kernel
theorem dA_init_16 : decode prog_2_method_1_code 16 = .ok (.putfield 15, 3) := by decide +kernel
theorem dA_init_19 : decode prog_2_method_1_code 19 = .ok (.aload_n 0, 1) := by decide +kernel
theorem dA_init_20 : decode prog_2_method_1_code 20 = .ok (.bipush 10, 2) := by decide +kernel
theorem dA_init_22 : decode prog_2_method_1_code 22 = .ok (.newarray .int, 2) := by decide +kernel
theorem dA_init_24 : decode prog_2_method_1_code 24 = .ok (.putfield 19, 3) := by decide +kernel
theorem dA_init_27 : decode prog_2_method_1_code 27 = .ok (.aload_n 0, 1) := by decide +kernel
theorem dA_init_28 : decode prog_2_method_1_code 28 = .ok (.bipush 10, 2) := by decide +kernel
theorem dA_init_30 : decode prog_2_method_1_code 30 = .ok (.newarray .int, 2) := by decide +kernel
theorem dA_init_32 : decode prog_2_method_1_code 32 = .ok (.putfield 22, 3) := by decide +kernel
theorem dA_init_35 : decode prog_2_method_1_code 35 = .ok (.aload_n 0, 1) := by decide +kernel
theorem dA_init_36 : decode prog_2_method_1_code 36 = .ok (.bipush 10, 2) := by decide +kernel
theorem dA_init_38 : decode prog_2_method_1_code 38 = .ok (.newarray .int, 2) := by decide +kernel
theorem dA_init_40 : decode prog_2_method_1_code 40 = .ok (.putfield 25, 3) := by decide +kernel
theorem dA_init_43 : decode prog_2_method_1_code 43 = .ok (.aload_n 0, 1) := by decide +kernel
theorem dA_init_44 : decode prog_2_method_1_code 44 = .ok (.bipush 10, 2) := by decide +kernel
theorem dA_init_46 : decode prog_2_method_1_code 46 = .ok (.newarray .int, 2) := by decide +kernel
theorem dA_init_48 : decode prog_2_method_1_code 48 = .ok (.putfield 28, 3) := by decide +kernel
theorem dA_init_51 : decode prog_2_method_1_code 51 = .ok (.return_, 1) := by decide +kernel
theorem dA_makePlan_0 : decode prog_2_method_6_code 0 = .ok (.aload_n 0, 1) := by decide +kernel
theorem dA_makePlan_1 : decode prog_2_method_6_code 1 = .ok (.getfield 43, 3) := by decide +kernel
theorem dA_makePlan_4 : decode prog_2_method_6_code 4 = .ok (.ifCond .eq 4, 3) := by decide +kernel
theorem dA_makePlan_7 : decode prog_2_method_6_code 7 = .ok (.return_, 1) := by decide +kernel
theorem dA_makePlan_8 : decode prog_2_method_6_code 8 = .ok (.aload_n 0, 1) := by decide +kernel
theorem dA_makePlan_9 : decode prog_2_method_6_code 9 = .ok (.iconst 1, 1) := by decide +kernel
theorem dA_makePlan_10 : decode prog_2_method_6_code 10 = .ok (.putfield 43, 3) := by decide +kernel
theorem dA_makePlan_13 : decode prog_2_method_6_code 13 = .ok (.aload_n 0, 1) := by decide +kernel
theorem dA_makePlan_14 : decode prog_2_method_6_code 14 = .ok (.invokevirtual 47, 3) := by decide +kernel
theorem dA_makePlan_17 : decode prog_2_method_6_code 17 = .ok (.aload_n 0, 1) := by decide +kernel
theorem dA_makePlan_18 : decode prog_2_method_6_code 18 = .ok (.iconst 0, 1) := by decide +kernel
theorem dA_makePlan_19 : decode prog_2_method_6_code 19 = .ok (.putfield 50, 3) := by decide +kernel
theorem dA_makePlan_22 : decode prog_2_method_6_code 22 = .ok (.aload_n 0, 1) := by decide +kernel
theorem dA_makePlan_23 : decode prog_2_method_6_code 23 = .ok (.invokevirtual 53, 3) := by decide +kernel
theorem dA_makePlan_26 : decode prog_2_method_6_code 26 = .ok (.ifCond .ne 27, 3) := by decide +kernel
theorem dA_makePlan_29 : decode prog_2_method_6_code 29 = .ok (.aload_n 0, 1) := by decide +kernel
theorem dA_makePlan_30 : decode prog_2_method_6_code 30 = .ok (.getfield 50, 3) := by decide +kernel
theorem dA_makePlan_33 : decode prog_2_method_6_code 33 = .ok (.aload_n 0, 1) := by decide +kernel
theorem dA_makePlan_34 : decode prog_2_method_6_code 34 = .ok (.getfield 31, 3) := by decide +kernel
theorem dA_makePlan_37 : decode prog_2_method_6_code 37 = .ok (.if_icmp .ge 16, 3) := by decide +kernel
theorem dA_makePlan_40 : decode prog_2_method_6_code 40 = .ok (.aload_n 0, 1) := by decide +kernel
theorem dA_makePlan_41 : decode prog_2_method_6_code 41 = .ok (.dup, 1) := by decide +kernel
theorem dA_makePlan_42 : decode prog_2_method_6_code 42 = .ok (.getfield 50, 3) := by decide +kernel
theorem dA_makePlan_45 : decode prog_2_method_6_code 45 = .ok (.iconst 1, 1) := by decide +kernel
theorem dA_makePlan_46 : decode prog_2_method_6_code 46 = .ok (.iadd, 1) := by decide +kernel
theorem dA_makePlan_47 : decode prog_2_method_6_code 47 = .ok (.putfield 50, 3) := by decide +kernel
theorem dA_makePlan_50 : decode prog_2_method_6_code 50 = .ok (.goto (-28), 3) := by decide +kernel
theorem dA_makePlan_53 : decode prog_2_method_6_code 53 = .ok (.return_, 1) := by decide +kernel
theorem dA_sumFromBehind_0 : decode prog_2_method_7_code 0 = .ok (.iconst 0, 1) := by decide +kernel
theorem dA_sumFromBehind_1 : decode prog_2_method_7_code 1 = .ok (.istore_n 1, 1) := by decide +kernel
theorem dA_sumFromBehind_2 : decode prog_2_method_7_code 2 = .ok (.aload_n 0, 1) := by decide +kernel
theorem dA_sumFromBehind_3 : decode prog_2_method_7_code 3 = .ok (.getfield 9, 3) := by decide +kernel
theorem dA_sumFromBehind_6 : decode prog_2_method_7_code 6 = .ok (.aload_n 0, 1) := by decide +kernel
theorem dA_sumFromBehind_7 : decode prog_2_method_7_code 7 = .ok (.getfield 40, 3) := by decide +kernel
theorem dA_sumFromBehind_10 : decode prog_2_method_7_code 10 = .ok (.iadd, 1) := by decide +kernel
theorem dA_sumFromBehind_11 : decode prog_2_method_7_code 11 = .ok (.istore_n 2, 1) := by decide +kernel
theorem dA_sumFromBehind_12 : decode prog_2_method_7_code 12 = .ok (.aload_n 0, 1) := by decide +kernel
theorem dA_sumFromBehind_13 : decode prog_2_method_7_code 13 = .ok (.getfield 31, 3) := by decide +kernel
theorem dA_sumFromBehind_16 : decode prog_2_method_7_code 16 = .ok (.iconst 1, 1) := by decide +kernel
theorem dA_sumFromBehind_17 : decode prog_2_method_7_code 17 = .ok (.isub, 1) := by decide +kernel
theorem dA_sumFromBehind_18 : decode prog_2_method_7_code 18 = .ok (.istore_n 3, 1) := by decide +kernel
theorem dA_sumFromBehind_19 : decode prog_2_method_7_code 19 = .ok (.iload_n 3, 1) := by decide +kernel
theorem dA_sumFromBehind_20 : decode prog_2_method_7_code 20 = .ok (.ifCond .lt 53, 3) := by decide +kernel
theorem dA_sumFromBehind_23 : decode prog_2_method_7_code 23 = .ok (.iload_n 1, 1) := by decide +kernel
theorem dA_sumFromBehind_24 : decode prog_2_method_7_code 24 = .ok (.aload_n 0, 1) := by decide +kernel
theorem dA_sumFromBehind_25 : decode prog_2_method_7_code 25 = .ok (.getfield 15, 3) := by decide +kernel
theorem dA_sumFromBehind_28 : decode prog_2_method_7_code 28 = .ok (.iload_n 3, 1) := by decide +kernel
theorem dA_sumFromBehind_29 : decode prog_2_method_7_code 29 = .ok (.iaload, 1) := by decide +kernel
theorem dA_sumFromBehind_30 : decode prog_2_method_7_code 30 = .ok (.aload_n 0, 1) := by decide +kernel
theorem dA_sumFromBehind_31 : decode prog_2_method_7_code 31 = .ok (.getfield 40, 3) := by decide +kernel
theorem dA_sumFromBehind_34 : decode prog_2_method_7_code 34 = .ok (.iadd, 1) := by decide +kernel
theorem dA_sumFromBehind_35 : decode prog_2_method_7_code 35 = .ok (.iadd, 1) := by decide +kernel
theorem dA_sumFromBehind_36 : decode prog_2_method_7_code 36 = .ok (.istore_n 1, 1) := by decide +kernel
theorem dA_sumFromBehind_37 : decode prog_2_method_7_code 37 = .ok (.iload_n 2, 1) := by decide +kernel
theorem dA_sumFromBehind_38 : decode prog_2_method_7_code 38 = .ok (.aload_n 0, 1) := by decide +kernel
theorem dA_sumFromBehind_39 : decode prog_2_method_7_code 39 = .ok (.getfield 15, 3) := by decide +kernel
theorem dA_sumFromBehind_42 : decode prog_2_method_7_code 42 = .ok (.iload_n 3, 1) := by decide +kernel
theorem dA_sumFromBehind_43 : decode prog_2_method_7_code 43 = .ok (.iaload, 1) := by decide +kernel
theorem dA_sumFromBehind_44 : decode prog_2_method_7_code 44 = .ok (.aload_n 0, 1) := by decide +kernel
theorem dA_sumFromBehind_45 : decode prog_2_method_7_code 45 = .ok (.getfield 40, 3) := by decide +kernel
theorem dA_sumFromBehind_48 : decode prog_2_method_7_code 48 = .ok (.iadd, 1) := by decide +kernel
theorem dA_sumFromBehind_49 : decode prog_2_method_7_code 49 = .ok (.invokestatic 57, 3) := by decide +kernel
theorem dA_sumFromBehind_52 : decode prog_2_method_7_code 52 = .ok (.istore_n 2, 1) := by decide +kernel
theorem dA_sumFromBehind_53 : decode prog_2_method_7_code 53 = .ok (.aload_n 0, 1) := by decide +kernel
theorem dA_sumFromBehind_54 : decode prog_2_method_7_code 54 = .ok (.getfield 25, 3) := by decide +kernel
theorem dA_sumFromBehind_57 : decode prog_2_method_7_code 57 = .ok (.iload_n 3, 1) := by decide +kernel
theorem dA_sumFromBehind_58 : decode prog_2_method_7_code 58 = .ok (.iload_n 1, 1) := by decide +kernel
theorem dA_sumFromBehind_59 : decode prog_2_method_7_code 59 = .ok (.iastore, 1) := by decide +kernel
theorem dA_sumFromBehind_60 : decode prog_2_method_7_code 60 = .ok (.aload_n 0, 1) := by decide +kernel
theorem dA_sumFromBehind_61 : decode prog_2_method_7_code 61 = .ok (.getfield 28, 3) := by decide +kernel
theorem dA_sumFromBehind_64 : decode prog_2_method_7_code 64 = .ok (.iload_n 3, 1) := by decide +kernel
theorem dA_sumFromBehind_65 : decode prog_2_method_7_code 65 = .ok (.iload_n 2, 1) := by decide +kernel
theorem dA_sumFromBehind_66 : decode prog_2_method_7_code 66 = .ok (.iastore, 1) := by decide +kernel
theorem dA_sumFromBehind_67 : decode prog_2_method_7_code 67 = .ok (.iinc 3 (-1), 3) := by decide +kernel
theorem dA_sumFromBehind_70 : decode prog_2_method_7_code 70 = .ok (.goto (-51), 3) := by decide +kernel
theorem dA_sumFromBehind_73 : decode prog_2_method_7_code 73 = .ok (.return_, 1) := by decide +kernel
theorem dA_placeAll_0 : decode prog_2_method_8_code 0 = .ok (.aload_n 0, 1) := by decide +kernel
theorem dA_placeAll_1 : decode prog_2_method_8_code 1 = .ok (.getfield 22, 3) := by decide +kernel
theorem dA_placeAll_4 : decode prog_2_method_8_code 4 = .ok (.aload_n 0, 1) := by decide +kernel
theorem dA_placeAll_5 : decode prog_2_method_8_code 5 = .ok (.getfield 9, 3) := by decide +kernel
theorem dA_placeAll_8 : decode prog_2_method_8_code 8 = .ok (.aload_n 0, 1) := by decide +kernel
theorem dA_placeAll_9 : decode prog_2_method_8_code 9 = .ok (.getfield 40, 3) := by decide +kernel
theorem dA_placeAll_12 : decode prog_2_method_8_code 12 = .ok (.iadd, 1) := by decide +kernel
theorem dA_placeAll_13 : decode prog_2_method_8_code 13 = .ok (.invokestatic 60, 3) := by decide +kernel
theorem dA_placeAll_16 : decode prog_2_method_8_code 16 = .ok (.aload_n 0, 1) := by decide +kernel
theorem dA_placeAll_17 : decode prog_2_method_8_code 17 = .ok (.iconst 0, 1) := by decide +kernel
theorem dA_placeAll_18 : decode prog_2_method_8_code 18 = .ok (.invokevirtual 66, 3) := by decide +kernel
theorem dA_placeAll_21 : decode prog_2_method_8_code 21 = .ok (.ireturn, 1) := by decide +kernel
theorem dA_placeFrom_0 : decode prog_2_method_9_code 0 = .ok (.iload_n 1, 1) := by decide +kernel
theorem dA_placeFrom_1 : decode prog_2_method_9_code 1 = .ok (.aload_n 0, 1) := by decide +kernel
theorem dA_placeFrom_2 : decode prog_2_method_9_code 2 = .ok (.getfield 31, 3) := by decide +kernel
theorem dA_placeFrom_5 : decode prog_2_method_9_code 5 = .ok (.if_icmp .lt 5, 3) := by decide +kernel
theorem dA_placeFrom_8 : decode prog_2_method_9_code 8 = .ok (.iconst 1, 1) := by decide +kernel
theorem dA_placeFrom_9 : decode prog_2_method_9_code 9 = .ok (.ireturn, 1) := by decide +kernel
theorem dA_placeFrom_10 : decode prog_2_method_9_code 10 = .ok (.aload_n 0, 1) := by decide +kernel
theorem dA_placeFrom_11 : decode prog_2_method_9_code 11 = .ok (.getfield 25, 3) := by decide +kernel
theorem dA_placeFrom_14 : decode prog_2_method_9_code 14 = .ok (.iload_n 1, 1) := by decide +kernel
theorem dA_placeFrom_15 : decode prog_2_method_9_code 15 = .ok (.iaload, 1) := by decide +kernel
theorem dA_placeFrom_16 : decode prog_2_method_9_code 16 = .ok (.aload_n 0, 1) := by decide +kernel
theorem dA_placeFrom_17 : decode prog_2_method_9_code 17 = .ok (.aload_n 0, 1) := by decide +kernel
theorem dA_placeFrom_18 : decode prog_2_method_9_code 18 = .ok (.getfield 28, 3) := by decide +kernel
theorem dA_placeFrom_21 : decode prog_2_method_9_code 21 = .ok (.iload_n 1, 1) := by decide +kernel
theorem dA_placeFrom_22 : decode prog_2_method_9_code 22 = .ok (.iaload, 1) := by decide +kernel
theorem dA_placeFrom_23 : decode prog_2_method_9_code 23 = .ok (.invokevirtual 70, 3) := by decide +kernel
theorem dA_placeFrom_26 : decode prog_2_method_9_code 26 = .ok (.if_icmp .le 5, 3) := by decide +kernel
theorem dA_placeFrom_29 : decode prog_2_method_9_code 29 = .ok (.iconst 0, 1) := by decide +kernel
theorem dA_placeFrom_30 : decode prog_2_method_9_code 30 = .ok (.ireturn, 1) := by decide +kernel
theorem dA_placeFrom_31 : decode prog_2_method_9_code 31 = .ok (.aload_n 0, 1) := by decide +kernel
theorem dA_placeFrom_32 : decode prog_2_method_9_code 32 = .ok (.getfield 15, 3) := by decide +kernel
theorem dA_placeFrom_35 : decode prog_2_method_9_code 35 = .ok (.iload_n 1, 1) := by decide +kernel
theorem dA_placeFrom_36 : decode prog_2_method_9_code 36 = .ok (.iaload, 1) := by decide +kernel
theorem dA_placeFrom_37 : decode prog_2_method_9_code 37 = .ok (.aload_n 0, 1) := by decide +kernel
theorem dA_placeFrom_38 : decode prog_2_method_9_code 38 = .ok (.getfield 40, 3) := by decide +kernel
theorem dA_placeFrom_41 : decode prog_2_method_9_code 41 = .ok (.iadd, 1) := by decide +kernel
theorem dA_placeFrom_42 : decode prog_2_method_9_code 42 = .ok (.istore_n 2, 1) := by decide +kernel
theorem dA_placeFrom_43 : decode prog_2_method_9_code 43 = .ok (.iconst 0, 1) := by decide +kernel
theorem dA_placeFrom_44 : decode prog_2_method_9_code 44 = .ok (.istore_n 3, 1) := by decide +kernel
theorem dA_placeFrom_45 : decode prog_2_method_9_code 45 = .ok (.iload_n 3, 1) := by decide +kernel
theorem dA_placeFrom_46 : decode prog_2_method_9_code 46 = .ok (.aload_n 0, 1) := by decide +kernel
theorem dA_placeFrom_47 : decode prog_2_method_9_code 47 = .ok (.getfield 50, 3) := by decide +kernel
theorem dA_placeFrom_50 : decode prog_2_method_9_code 50 = .ok (.if_icmp .ge 66, 3) := by decide +kernel
theorem dA_placeFrom_53 : decode prog_2_method_9_code 53 = .ok (.aload_n 0, 1) := by decide +kernel
theorem dA_placeFrom_54 : decode prog_2_method_9_code 54 = .ok (.getfield 22, 3) := by decide +kernel
theorem dA_placeFrom_57 : decode prog_2_method_9_code 57 = .ok (.iload_n 3, 1) := by decide +kernel
theorem dA_placeFrom_58 : decode prog_2_method_9_code 58 = .ok (.iaload, 1) := by decide +kernel
theorem dA_placeFrom_59 : decode prog_2_method_9_code 59 = .ok (.iload_n 2, 1) := by decide +kernel
theorem dA_placeFrom_60 : decode prog_2_method_9_code 60 = .ok (.if_icmp .lt 50, 3) := by decide +kernel
theorem dA_placeFrom_63 : decode prog_2_method_9_code 63 = .ok (.aload_n 0, 1) := by decide +kernel
theorem dA_placeFrom_64 : decode prog_2_method_9_code 64 = .ok (.iload_n 3, 1) := by decide +kernel
theorem dA_placeFrom_65 : decode prog_2_method_9_code 65 = .ok (.invokevirtual 74, 3) := by decide +kernel
theorem dA_placeFrom_68 : decode prog_2_method_9_code 68 = .ok (.ifCond .ne 42, 3) := by decide +kernel
theorem dA_placeFrom_71 : decode prog_2_method_9_code 71 = .ok (.aload_n 0, 1) := by decide +kernel
theorem dA_placeFrom_72 : decode prog_2_method_9_code 72 = .ok (.getfield 22, 3) := by decide +kernel
theorem dA_placeFrom_75 : decode prog_2_method_9_code 75 = .ok (.iload_n 3, 1) := by decide +kernel
theorem dA_placeFrom_76 : decode prog_2_method_9_code 76 = .ok (.dup2, 1) := by decide +kernel
theorem dA_placeFrom_77 : decode prog_2_method_9_code 77 = .ok (.iaload, 1) := by decide +kernel
theorem dA_placeFrom_78 : decode prog_2_method_9_code 78 = .ok (.iload_n 2, 1) := by decide +kernel
theorem dA_placeFrom_79 : decode prog_2_method_9_code 79 = .ok (.isub, 1) := by decide +kernel
theorem dA_placeFrom_80 : decode prog_2_method_9_code 80 = .ok (.iastore, 1) := by decide +kernel
theorem dA_placeFrom_81 : decode prog_2_method_9_code 81 = .ok (.aload_n 0, 1) := by decide +kernel
theorem dA_placeFrom_82 : decode prog_2_method_9_code 82 = .ok (.getfield 19, 3) := by decide +kernel
theorem dA_placeFrom_85 : decode prog_2_method_9_code 85 = .ok (.iload_n 1, 1) := by decide +kernel
theorem dA_placeFrom_86 : decode prog_2_method_9_code 86 = .ok (.iload_n 3, 1) := by decide +kernel
theorem dA_placeFrom_87 : decode prog_2_method_9_code 87 = .ok (.iastore, 1) := by decide +kernel
theorem dA_placeFrom_88 : decode prog_2_method_9_code 88 = .ok (.aload_n 0, 1) := by decide +kernel
theorem dA_placeFrom_89 : decode prog_2_method_9_code 89 = .ok (.iload_n 1, 1) := by decide +kernel
theorem dA_placeFrom_90 : decode prog_2_method_9_code 90 = .ok (.iconst 1, 1) := by decide +kernel
theorem dA_placeFrom_91 : decode prog_2_method_9_code 91 = .ok (.iadd, 1) := by decide +kernel
theorem dA_placeFrom_92 : decode prog_2_method_9_code 92 = .ok (.invokevirtual 66, 3) := by decide +kernel
theorem dA_placeFrom_95 : decode prog_2_method_9_code 95 = .ok (.ifCond .eq 5, 3) := by decide +kernel
theorem dA_placeFrom_98 : decode prog_2_method_9_code 98 = .ok (.iconst 1, 1) := by decide +kernel
theorem dA_placeFrom_99 : decode prog_2_method_9_code 99 = .ok (.ireturn, 1) := by decide +kernel
theorem dA_placeFrom_100 : decode prog_2_method_9_code 100 = .ok (.aload_n 0, 1) := by decide +kernel
theorem dA_placeFrom_101 : decode prog_2_method_9_code 101 = .ok (.getfield 22, 3) := by decide +kernel
theorem dA_placeFrom_104 : decode prog_2_method_9_code 104 = .ok (.iload_n 3, 1) := by decide +kernel
theorem dA_placeFrom_105 : decode prog_2_method_9_code 105 = .ok (.dup2, 1) := by decide +kernel
theorem dA_placeFrom_106 : decode prog_2_method_9_code 106 = .ok (.iaload, 1) := by decide +kernel
theorem dA_placeFrom_107 : decode prog_2_method_9_code 107 = .ok (.iload_n 2, 1) := by decide +kernel
theorem dA_placeFrom_108 : decode prog_2_method_9_code 108 = .ok (.iadd, 1) := by decide +kernel
theorem dA_placeFrom_109 : decode prog_2_method_9_code 109 = .ok (.iastore, 1) := by decide +kernel
theorem dA_placeFrom_110 : decode prog_2_method_9_code 110 = .ok (.iinc 3 1, 3) := by decide +kernel
theorem dA_placeFrom_113 : decode prog_2_method_9_code 113 = .ok (.goto (-68), 3) := by decide +kernel
theorem dA_placeFrom_116 : decode prog_2_method_9_code 116 = .ok (.iconst 0, 1) := by decide +kernel
theorem dA_placeFrom_117 : decode prog_2_method_9_code 117 = .ok (.ireturn, 1) := by decide +kernel
theorem dA_usable_0 : decode prog_2_method_10_code 0 = .ok (.iconst 0, 1) := by decide +kernel
theorem dA_usable_1 : decode prog_2_method_10_code 1 = .ok (.istore_n 2, 1) := by decide +kernel
theorem dA_usable_2 : decode prog_2_method_10_code 2 = .ok (.iconst 0, 1) := by decide +kernel
theorem dA_usable_3 : decode prog_2_method_10_code 3 = .ok (.istore_n 3, 1) := by decide +kernel
theorem dA_usable_4 : decode prog_2_method_10_code 4 = .ok (.iload_n 3, 1) := by decide +kernel
theorem dA_usable_5 : decode prog_2_method_10_code 5 = .ok (.aload_n 0, 1) := by decide +kernel
theorem dA_usable_6 : decode prog_2_method_10_code 6 = .ok (.getfield 50, 3) := by decide +kernel
theorem dA_usable_9 : decode prog_2_method_10_code 9 = .ok (.if_icmp .ge 32, 3) := by decide +kernel
theorem dA_usable_12 : decode prog_2_method_10_code 12 = .ok (.iload_n 2, 1) := by decide +kernel
theorem dA_usable_13 : decode prog_2_method_10_code 13 = .ok (.aload_n 0, 1) := by decide +kernel
theorem dA_usable_14 : decode prog_2_method_10_code 14 = .ok (.getfield 22, 3) := by decide +kernel
theorem dA_usable_17 : decode prog_2_method_10_code 17 = .ok (.iload_n 3, 1) := by decide +kernel
theorem dA_usable_18 : decode prog_2_method_10_code 18 = .ok (.iaload, 1) := by decide +kernel
theorem dA_usable_19 : decode prog_2_method_10_code 19 = .ok (.iload_n 1, 1) := by decide +kernel
theorem dA_usable_20 : decode prog_2_method_10_code 20 = .ok (.if_icmp .lt 12, 3) := by decide +kernel
theorem dA_usable_23 : decode prog_2_method_10_code 23 = .ok (.aload_n 0, 1) := by decide +kernel
theorem dA_usable_24 : decode prog_2_method_10_code 24 = .ok (.getfield 22, 3) := by decide +kernel
theorem dA_usable_27 : decode prog_2_method_10_code 27 = .ok (.iload_n 3, 1) := by decide +kernel
theorem dA_usable_28 : decode prog_2_method_10_code 28 = .ok (.iaload, 1) := by decide +kernel
theorem dA_usable_29 : decode prog_2_method_10_code 29 = .ok (.goto 4, 3) := by decide +kernel
theorem dA_usable_32 : decode prog_2_method_10_code 32 = .ok (.iconst 0, 1) := by decide +kernel
theorem dA_usable_33 : decode prog_2_method_10_code 33 = .ok (.iadd, 1) := by decide +kernel
theorem dA_usable_34 : decode prog_2_method_10_code 34 = .ok (.istore_n 2, 1) := by decide +kernel
theorem dA_usable_35 : decode prog_2_method_10_code 35 = .ok (.iinc 3 1, 3) := by decide +kernel
theorem dA_usable_38 : decode prog_2_method_10_code 38 = .ok (.goto (-34), 3) := by decide +kernel
theorem dA_usable_41 : decode prog_2_method_10_code 41 = .ok (.iload_n 2, 1) := by decide +kernel
theorem dA_usable_42 : decode prog_2_method_10_code 42 = .ok (.ireturn, 1) := by decide +kernel
theorem dA_isLikeEarlier_0 : decode prog_2_method_11_code 0 = .ok (.iconst 0, 1) := by decide +kernel
theorem dA_isLikeEarlier_1 : decode prog_2_method_11_code 1 = .ok (.istore_n 2, 1) := by decide +kernel
theorem dA_isLikeEarlier_2 : decode prog_2_method_11_code 2 = .ok (.iload_n 2, 1) := by decide +kernel
theorem dA_isLikeEarlier_3 : decode prog_2_method_11_code 3 = .ok (.iload_n 1, 1) := by decide +kernel
theorem dA_isLikeEarlier_4 : decode prog_2_method_11_code 4 = .ok (.if_icmp .ge 26, 3) := by decide +kernel
theorem dA_isLikeEarlier_7 : decode prog_2_method_11_code 7 = .ok (.aload_n 0, 1) := by decide +kernel
theorem dA_isLikeEarlier_8 : decode prog_2_method_11_code 8 = .ok (.getfield 22, 3) := by decide +kernel
theorem dA_isLikeEarlier_11 : decode prog_2_method_11_code 11 = .ok (.iload_n 2, 1) := by decide +kernel
theorem dA_isLikeEarlier_12 : decode prog_2_method_11_code 12 = .ok (.iaload, 1) := by decide +kernel
theorem dA_isLikeEarlier_13 : decode prog_2_method_11_code 13 = .ok (.aload_n 0, 1) := by decide +kernel
theorem dA_isLikeEarlier_14 : decode prog_2_method_11_code 14 = .ok (.getfield 22, 3) := by decide +kernel
theorem dA_isLikeEarlier_17 : decode prog_2_method_11_code 17 = .ok (.iload_n 1, 1) := by decide +kernel
theorem dA_isLikeEarlier_18 : decode prog_2_method_11_code 18 = .ok (.iaload, 1) := by decide +kernel
theorem dA_isLikeEarlier_19 : decode prog_2_method_11_code 19 = .ok (.if_icmp .ne 5, 3) := by decide +kernel
theorem dA_isLikeEarlier_22 : decode prog_2_method_11_code 22 = .ok (.iconst 1, 1) := by decide +kernel
theorem dA_isLikeEarlier_23 : decode prog_2_method_11_code 23 = .ok (.ireturn, 1) := by decide +kernel
theorem dA_isLikeEarlier_24 : decode prog_2_method_11_code 24 = .ok (.iinc 2 1, 3) := by decide +kernel
theorem dA_isLikeEarlier_27 : decode prog_2_method_11_code 27 = .ok (.goto (-25), 3) := by decide +kernel
theorem dA_isLikeEarlier_30 : decode prog_2_method_11_code 30 = .ok (.iconst 0, 1) := by decide +kernel
theorem dA_isLikeEarlier_31 : decode prog_2_method_11_code 31 = .ok (.ireturn, 1) := by decide +kernel
theorem dA_longestPiece_0 : decode prog_2_method_2_code 0 = .ok (.iconst 0, 1) := by decide +kernel
theorem dA_longestPiece_1 : decode prog_2_method_2_code 1 = .ok (.istore_n 1, 1) := by decide +kernel
theorem dA_longestPiece_2 : decode prog_2_method_2_code 2 = .ok (.iconst 0, 1) := by decide +kernel
theorem dA_longestPiece_3 : decode prog_2_method_2_code 3 = .ok (.istore_n 2, 1) := by decide +kernel
theorem dA_longestPiece_4 : decode prog_2_method_2_code 4 = .ok (.iload_n 2, 1) := by decide +kernel
theorem dA_longestPiece_5 : decode prog_2_method_2_code 5 = .ok (.aload_n 0, 1) := by decide +kernel
theorem dA_longestPiece_6 : decode prog_2_method_2_code 6 = .ok (.getfield 31, 3) := by decide +kernel
theorem dA_longestPiece_9 : decode prog_2_method_2_code 9 = .ok (.if_icmp .ge 20, 3) := by decide +kernel
theorem dA_longestPiece_12 : decode prog_2_method_2_code 12 = .ok (.iload_n 1, 1) := by decide +kernel
theorem dA_longestPiece_13 : decode prog_2_method_2_code 13 = .ok (.aload_n 0, 1) := by decide +kernel
theorem dA_longestPiece_14 : decode prog_2_method_2_code 14 = .ok (.getfield 15, 3) := by decide +kernel
theorem dA_longestPiece_17 : decode prog_2_method_2_code 17 = .ok (.iload_n 2, 1) := by decide +kernel
theorem dA_longestPiece_18 : decode prog_2_method_2_code 18 = .ok (.iaload, 1) := by decide +kernel
theorem dA_longestPiece_19 : decode prog_2_method_2_code 19 = .ok (.invokestatic 34, 3) := by decide +kernel
theorem dA_longestPiece_22 : decode prog_2_method_2_code 22 = .ok (.istore_n 1, 1) := by decide +kernel
theorem dA_longestPiece_23 : decode prog_2_method_2_code 23 = .ok (.iinc 2 1, 3) := by decide +kernel
theorem dA_longestPiece_26 : decode prog_2_method_2_code 26 = .ok (.goto (-22), 3) := by decide +kernel
theorem dA_longestPiece_29 : decode prog_2_method_2_code 29 = .ok (.iload_n 1, 1) := by decide +kernel
theorem dA_longestPiece_30 : decode prog_2_method_2_code 30 = .ok (.ireturn, 1) := by decide +kernel
theorem dA_takeBars_0 : decode prog_2_method_3_code 0 = .ok (.aload_n 0, 1) := by decide +kernel
theorem dA_takeBars_1 : decode prog_2_method_3_code 1 = .ok (.iload_n 1, 1) := by decide +kernel
theorem dA_takeBars_2 : decode prog_2_method_3_code 2 = .ok (.putfield 9, 3) := by decide +kernel
theorem dA_takeBars_5 : decode prog_2_method_3_code 5 = .ok (.aload_n 0, 1) := by decide +kernel
theorem dA_takeBars_6 : decode prog_2_method_3_code 6 = .ok (.iload_n 2, 1) := by decide +kernel
theorem dA_takeBars_7 : decode prog_2_method_3_code 7 = .ok (.putfield 40, 3) := by decide +kernel
theorem dA_takeBars_10 : decode prog_2_method_3_code 10 = .ok (.aload_n 0, 1) := by decide +kernel
theorem dA_takeBars_11 : decode prog_2_method_3_code 11 = .ok (.iconst 0, 1) := by decide +kernel
theorem dA_takeBars_12 : decode prog_2_method_3_code 12 = .ok (.putfield 43, 3) := by decide +kernel
theorem dA_takeBars_15 : decode prog_2_method_3_code 15 = .ok (.return_, 1) := by decide +kernel
theorem dA_addPiece_0 : decode prog_2_method_4_code 0 = .ok (.aload_n 0, 1) := by decide +kernel
theorem dA_addPiece_1 : decode prog_2_method_4_code 1 = .ok (.getfield 15, 3) := by decide +kernel
theorem dA_addPiece_4 : decode prog_2_method_4_code 4 = .ok (.aload_n 0, 1) := by decide +kernel
theorem dA_addPiece_5 : decode prog_2_method_4_code 5 = .ok (.getfield 31, 3) := by decide +kernel
theorem dA_addPiece_8 : decode prog_2_method_4_code 8 = .ok (.iload_n 1, 1) := by decide +kernel
theorem dA_addPiece_9 : decode prog_2_method_4_code 9 = .ok (.iastore, 1) := by decide +kernel
theorem dA_addPiece_10 : decode prog_2_method_4_code 10 = .ok (.aload_n 0, 1) := by decide +kernel
theorem dA_addPiece_11 : decode prog_2_method_4_code 11 = .ok (.dup, 1) := by decide +kernel
theorem dA_addPiece_12 : decode prog_2_method_4_code 12 = .ok (.getfield 31, 3) := by decide +kernel
theorem dA_addPiece_15 : decode prog_2_method_4_code 15 = .ok (.iconst 1, 1) := by decide +kernel
theorem dA_addPiece_16 : decode prog_2_method_4_code 16 = .ok (.iadd, 1) := by decide +kernel
theorem dA_addPiece_17 : decode prog_2_method_4_code 17 = .ok (.putfield 31, 3) := by decide +kernel
theorem dA_addPiece_20 : decode prog_2_method_4_code 20 = .ok (.aload_n 0, 1) := by decide +kernel
theorem dA_addPiece_21 : decode prog_2_method_4_code 21 = .ok (.iconst 0, 1) := by decide +kernel
theorem dA_addPiece_22 : decode prog_2_method_4_code 22 = .ok (.putfield 43, 3) := by decide +kernel
theorem dA_addPiece_25 : decode prog_2_method_4_code 25 = .ok (.aload_n 0, 1) := by decide +kernel
theorem dA_addPiece_26 : decode prog_2_method_4_code 26 = .ok (.getfield 31, 3) := by decide +kernel
theorem dA_addPiece_29 : decode prog_2_method_4_code 29 = .ok (.iconst 1, 1) := by decide +kernel
theorem dA_addPiece_30 : decode prog_2_method_4_code 30 = .ok (.isub, 1) := by decide +kernel
theorem dA_addPiece_31 : decode prog_2_method_4_code 31 = .ok (.ireturn, 1) := by decide +kernel
theorem dA_resizePiece_0 : decode prog_2_method_5_code 0 = .ok (.aload_n 0, 1) := by decide +kernel
theorem dA_resizePiece_1 : decode prog_2_method_5_code 1 = .ok (.getfield 15, 3) := by decide +kernel
theorem dA_resizePiece_4 : decode prog_2_method_5_code 4 = .ok (.iload_n 1, 1) := by decide +kernel
theorem dA_resizePiece_5 : decode prog_2_method_5_code 5 = .ok (.iaload, 1) := by decide +kernel
theorem dA_resizePiece_6 : decode prog_2_method_5_code 6 = .ok (.istore_n 3, 1) := by decide +kernel
theorem dA_resizePiece_7 : decode prog_2_method_5_code 7 = .ok (.aload_n 0, 1) := by decide +kernel
theorem dA_resizePiece_8 : decode prog_2_method_5_code 8 = .ok (.getfield 15, 3) := by decide +kernel
theorem dA_resizePiece_11 : decode prog_2_method_5_code 11 = .ok (.iload_n 1, 1) := by decide +kernel
theorem dA_resizePiece_12 : decode prog_2_method_5_code 12 = .ok (.iload_n 2, 1) := by decide +kernel
theorem dA_resizePiece_13 : decode prog_2_method_5_code 13 = .ok (.iastore, 1) := by decide +kernel
theorem dA_resizePiece_14 : decode prog_2_method_5_code 14 = .ok (.aload_n 0, 1) := by decide +kernel
theorem dA_resizePiece_15 : decode prog_2_method_5_code 15 = .ok (.iconst 0, 1) := by decide +kernel
theorem dA_resizePiece_16 : decode prog_2_method_5_code 16 = .ok (.putfield 43, 3) := by decide +kernel
theorem dA_resizePiece_19 : decode prog_2_method_5_code 19 = .ok (.iload_n 3, 1) := by decide +kernel
theorem dA_resizePiece_20 : decode prog_2_method_5_code 20 = .ok (.ireturn, 1) := by decide +kernel
end
section
-- DECODE ROWS
theorem dL_wall_0 : decode method_3_code 0 = .ok (.aload_n 3, 1) := by decide +kernel
theorem dL_wall_1 : decode method_3_code 1 = .ok (.iconst 0, 1) := by decide +kernel
theorem dL_wall_2 : decode method_3_code 2 = .ok (.aload_n 0, 1) := by decide +kernel
theorem dL_wall_3 : decode method_3_code 3 = .ok (.iload_n 1, 1) := by decide +kernel
theorem dL_wall_4 : decode method_3_code 4 = .ok (.iload_n 2, 1) := by decide +kernel
theorem dL_wall_5 : decode method_3_code 5 = .ok (.invokevirtual 7, 3) := by decide +kernel
theorem dL_wall_8 : decode method_3_code 8 = .ok (.i2l, 1) := by decide +kernel
theorem dL_wall_9 : decode method_3_code 9 = .ok (.lastore, 1) := by decide +kernel
theorem dL_wall_10 : decode method_3_code 10 = .ok (.goto 11, 3) := by decide +kernel
theorem dL_wall_13 : decode method_3_code 13 = .ok (.astore 4, 2) := by decide +kernel
theorem dL_wall_15 : decode method_3_code 15 = .ok (.iconst 1, 1) := by decide +kernel
theorem dL_wall_16 : decode method_3_code 16 = .ok (.ireturn, 1) := by decide +kernel
theorem dL_wall_17 : decode method_3_code 17 = .ok (.astore 4, 2) := by decide +kernel
theorem dL_wall_19 : decode method_3_code 19 = .ok (.iconst 2, 1) := by decide +kernel
theorem dL_wall_20 : decode method_3_code 20 = .ok (.ireturn, 1) := by decide +kernel
theorem dL_wall_21 : decode method_3_code 21 = .ok (.iconst 0, 1) := by decide +kernel
theorem dL_wall_22 : decode method_3_code 22 = .ok (.ireturn, 1) := by decide +kernel
theorem dL_opening_0 : decode method_4_code 0 = .ok (.aload 4, 2) := by decide +kernel
theorem dL_opening_2 : decode method_4_code 2 = .ok (.iconst 0, 1) := by decide +kernel
theorem dL_opening_3 : decode method_4_code 3 = .ok (.aload_n 0, 1) := by decide +kernel
theorem dL_opening_4 : decode method_4_code 4 = .ok (.iload_n 1, 1) := by decide +kernel
theorem dL_opening_5 : decode method_4_code 5 = .ok (.iload_n 2, 1) := by decide +kernel
theorem dL_opening_6 : decode method_4_code 6 = .ok (.iload_n 3, 1) := by decide +kernel
theorem dL_opening_7 : decode method_4_code 7 = .ok (.invokevirtual 17, 3) := by decide +kernel
theorem dL_opening_10 : decode method_4_code 10 = .ok (.i2l, 1) := by decide +kernel
theorem dL_opening_11 : decode method_4_code 11 = .ok (.lastore, 1) := by decide +kernel
theorem dL_opening_12 : decode method_4_code 12 = .ok (.goto 11, 3) := by decide +kernel
theorem dL_opening_15 : decode method_4_code 15 = .ok (.astore 5, 2) := by decide +kernel
theorem dL_opening_17 : decode method_4_code 17 = .ok (.iconst 1, 1) := by decide +kernel
theorem dL_opening_18 : decode method_4_code 18 = .ok (.ireturn, 1) := by decide +kernel
theorem dL_opening_19 : decode method_4_code 19 = .ok (.astore 5, 2) := by decide +kernel
theorem dL_opening_21 : decode method_4_code 21 = .ok (.iconst 2, 1) := by decide +kernel
theorem dL_opening_22 : decode method_4_code 22 = .ok (.ireturn, 1) := by decide +kernel
theorem dL_opening_23 : decode method_4_code 23 = .ok (.iconst 0, 1) := by decide +kernel
theorem dL_opening_24 : decode method_4_code 24 = .ok (.ireturn, 1) := by decide +kernel
theorem dL_layer_0 : decode method_5_code 0 = .ok (.aload 4, 2) := by decide +kernel
theorem dL_layer_2 : decode method_5_code 2 = .ok (.iconst 0, 1) := by decide +kernel
theorem dL_layer_3 : decode method_5_code 3 = .ok (.aload_n 0, 1) := by decide +kernel
theorem dL_layer_4 : decode method_5_code 4 = .ok (.iload_n 1, 1) := by decide +kernel
theorem dL_layer_5 : decode method_5_code 5 = .ok (.iload_n 2, 1) := by decide +kernel
theorem dL_layer_6 : decode method_5_code 6 = .ok (.iload_n 3, 1) := by decide +kernel
theorem dL_layer_7 : decode method_5_code 7 = .ok (.invokevirtual 21, 3) := by decide +kernel
theorem dL_layer_10 : decode method_5_code 10 = .ok (.i2l, 1) := by decide +kernel
theorem dL_layer_11 : decode method_5_code 11 = .ok (.lastore, 1) := by decide +kernel
theorem dL_layer_12 : decode method_5_code 12 = .ok (.goto 11, 3) := by decide +kernel
theorem dL_layer_15 : decode method_5_code 15 = .ok (.astore 5, 2) := by decide +kernel
theorem dL_layer_17 : decode method_5_code 17 = .ok (.iconst 1, 1) := by decide +kernel
theorem dL_layer_18 : decode method_5_code 18 = .ok (.ireturn, 1) := by decide +kernel
theorem dL_layer_19 : decode method_5_code 19 = .ok (.astore 5, 2) := by decide +kernel
theorem dL_layer_21 : decode method_5_code 21 = .ok (.iconst 2, 1) := by decide +kernel
theorem dL_layer_22 : decode method_5_code 22 = .ok (.ireturn, 1) := by decide +kernel
theorem dL_layer_23 : decode method_5_code 23 = .ok (.iconst 0, 1) := by decide +kernel
theorem dL_layer_24 : decode method_5_code 24 = .ok (.ireturn, 1) := by decide +kernel
theorem dL_waste_0 : decode method_6_code 0 = .ok (.aload_n 3, 1) := by decide +kernel
theorem dL_waste_1 : decode method_6_code 1 = .ok (.iconst 0, 1) := by decide +kernel
theorem dL_waste_2 : decode method_6_code 2 = .ok (.aload_n 0, 1) := by decide +kernel
theorem dL_waste_3 : decode method_6_code 3 = .ok (.iload_n 1, 1) := by decide +kernel
theorem dL_waste_4 : decode method_6_code 4 = .ok (.iload_n 2, 1) := by decide +kernel
theorem dL_waste_5 : decode method_6_code 5 = .ok (.invokevirtual 24, 3) := by decide +kernel
theorem dL_waste_8 : decode method_6_code 8 = .ok (.i2l, 1) := by decide +kernel
theorem dL_waste_9 : decode method_6_code 9 = .ok (.lastore, 1) := by decide +kernel
theorem dL_waste_10 : decode method_6_code 10 = .ok (.goto 7, 3) := by decide +kernel
theorem dL_waste_13 : decode method_6_code 13 = .ok (.astore 4, 2) := by decide +kernel
theorem dL_waste_15 : decode method_6_code 15 = .ok (.iconst 1, 1) := by decide +kernel
theorem dL_waste_16 : decode method_6_code 16 = .ok (.ireturn, 1) := by decide +kernel
theorem dL_waste_17 : decode method_6_code 17 = .ok (.iconst 0, 1) := by decide +kernel
theorem dL_waste_18 : decode method_6_code 18 = .ok (.ireturn, 1) := by decide +kernel
theorem dL_told_0 : decode method_7_code 0 = .ok (.aload_n 3, 1) := by decide +kernel
theorem dL_told_1 : decode method_7_code 1 = .ok (.iconst 0, 1) := by decide +kernel
theorem dL_told_2 : decode method_7_code 2 = .ok (.aload_n 0, 1) := by decide +kernel
theorem dL_told_3 : decode method_7_code 3 = .ok (.iload_n 1, 1) := by decide +kernel
theorem dL_told_4 : decode method_7_code 4 = .ok (.iload_n 2, 1) := by decide +kernel
theorem dL_told_5 : decode method_7_code 5 = .ok (.invokevirtual 27, 3) := by decide +kernel
theorem dL_told_8 : decode method_7_code 8 = .ok (.i2l, 1) := by decide +kernel
theorem dL_told_9 : decode method_7_code 9 = .ok (.lastore, 1) := by decide +kernel
theorem dL_told_10 : decode method_7_code 10 = .ok (.goto 7, 3) := by decide +kernel
theorem dL_told_13 : decode method_7_code 13 = .ok (.astore 4, 2) := by decide +kernel
theorem dL_told_15 : decode method_7_code 15 = .ok (.iconst 1, 1) := by decide +kernel
theorem dL_told_16 : decode method_7_code 16 = .ok (.ireturn, 1) := by decide +kernel
theorem dL_told_17 : decode method_7_code 17 = .ok (.iconst 0, 1) := by decide +kernel
theorem dL_told_18 : decode method_7_code 18 = .ok (.ireturn, 1) := by decide +kernel
theorem dL_need_0 : decode method_8_code 0 = .ok (.aload_n 2, 1) := by decide +kernel
theorem dL_need_1 : decode method_8_code 1 = .ok (.iconst 0, 1) := by decide +kernel
theorem dL_need_2 : decode method_8_code 2 = .ok (.aload_n 0, 1) := by decide +kernel
theorem dL_need_3 : decode method_8_code 3 = .ok (.iload_n 1, 1) := by decide +kernel
theorem dL_need_4 : decode method_8_code 4 = .ok (.invokevirtual 30, 3) := by decide +kernel
theorem dL_need_7 : decode method_8_code 7 = .ok (.lastore, 1) := by decide +kernel
theorem dL_need_8 : decode method_8_code 8 = .ok (.goto 6, 3) := by decide +kernel
theorem dL_need_11 : decode method_8_code 11 = .ok (.astore_n 3, 1) := by decide +kernel
theorem dL_need_12 : decode method_8_code 12 = .ok (.iconst 1, 1) := by decide +kernel
theorem dL_need_13 : decode method_8_code 13 = .ok (.ireturn, 1) := by decide +kernel
theorem dL_need_14 : decode method_8_code 14 = .ok (.iconst 0, 1) := by decide +kernel
theorem dL_need_15 : decode method_8_code 15 = .ok (.ireturn, 1) := by decide +kernel
theorem dL_pack_0 : decode method_9_code 0 = .ok (.aload 4, 2) := by decide +kernel
theorem dL_pack_2 : decode method_9_code 2 = .ok (.iconst 0, 1) := by decide +kernel
theorem dL_pack_3 : decode method_9_code 3 = .ok (.aload_n 0, 1) := by decide +kernel
theorem dL_pack_4 : decode method_9_code 4 = .ok (.iload_n 1, 1) := by decide +kernel
theorem dL_pack_5 : decode method_9_code 5 = .ok (.iload_n 2, 1) := by decide +kernel
theorem dL_pack_6 : decode method_9_code 6 = .ok (.iload_n 3, 1) := by decide +kernel
theorem dL_pack_7 : decode method_9_code 7 = .ok (.invokevirtual 34, 3) := by decide +kernel
theorem dL_pack_10 : decode method_9_code 10 = .ok (.i2l, 1) := by decide +kernel
theorem dL_pack_11 : decode method_9_code 11 = .ok (.lastore, 1) := by decide +kernel
theorem dL_pack_12 : decode method_9_code 12 = .ok (.goto 11, 3) := by decide +kernel
theorem dL_pack_15 : decode method_9_code 15 = .ok (.astore 5, 2) := by decide +kernel
theorem dL_pack_17 : decode method_9_code 17 = .ok (.iconst 1, 1) := by decide +kernel
theorem dL_pack_18 : decode method_9_code 18 = .ok (.ireturn, 1) := by decide +kernel
theorem dL_pack_19 : decode method_9_code 19 = .ok (.astore 5, 2) := by decide +kernel
theorem dL_pack_21 : decode method_9_code 21 = .ok (.iconst 2, 1) := by decide +kernel
theorem dL_pack_22 : decode method_9_code 22 = .ok (.ireturn, 1) := by decide +kernel
theorem dL_pack_23 : decode method_9_code 23 = .ok (.iconst 0, 1) := by decide +kernel
theorem dL_pack_24 : decode method_9_code 24 = .ok (.ireturn, 1) := by decide +kernel
theorem dL_bought_0 : decode method_10_code 0 = .ok (.aload_n 3, 1) := by decide +kernel
theorem dL_bought_1 : decode method_10_code 1 = .ok (.iconst 0, 1) := by decide +kernel
theorem dL_bought_2 : decode method_10_code 2 = .ok (.aload_n 0, 1) := by decide +kernel
theorem dL_bought_3 : decode method_10_code 3 = .ok (.iload_n 1, 1) := by decide +kernel
theorem dL_bought_4 : decode method_10_code 4 = .ok (.iload_n 2, 1) := by decide +kernel
theorem dL_bought_5 : decode method_10_code 5 = .ok (.invokevirtual 37, 3) := by decide +kernel
theorem dL_bought_8 : decode method_10_code 8 = .ok (.i2l, 1) := by decide +kernel
theorem dL_bought_9 : decode method_10_code 9 = .ok (.lastore, 1) := by decide +kernel
theorem dL_bought_10 : decode method_10_code 10 = .ok (.goto 7, 3) := by decide +kernel
theorem dL_bought_13 : decode method_10_code 13 = .ok (.astore 4, 2) := by decide +kernel
theorem dL_bought_15 : decode method_10_code 15 = .ok (.iconst 1, 1) := by decide +kernel
theorem dL_bought_16 : decode method_10_code 16 = .ok (.ireturn, 1) := by decide +kernel
theorem dL_bought_17 : decode method_10_code 17 = .ok (.iconst 0, 1) := by decide +kernel
theorem dL_bought_18 : decode method_10_code 18 = .ok (.ireturn, 1) := by decide +kernel
theorem dL_cents_0 : decode method_11_code 0 = .ok (.aload_n 2, 1) := by decide +kernel
theorem dL_cents_1 : decode method_11_code 1 = .ok (.iconst 0, 1) := by decide +kernel
theorem dL_cents_2 : decode method_11_code 2 = .ok (.aload_n 0, 1) := by decide +kernel
theorem dL_cents_3 : decode method_11_code 3 = .ok (.iload_n 1, 1) := by decide +kernel
theorem dL_cents_4 : decode method_11_code 4 = .ok (.invokevirtual 40, 3) := by decide +kernel
theorem dL_cents_7 : decode method_11_code 7 = .ok (.lastore, 1) := by decide +kernel
theorem dL_cents_8 : decode method_11_code 8 = .ok (.goto 6, 3) := by decide +kernel
theorem dL_cents_11 : decode method_11_code 11 = .ok (.astore_n 3, 1) := by decide +kernel
theorem dL_cents_12 : decode method_11_code 12 = .ok (.iconst 1, 1) := by decide +kernel
theorem dL_cents_13 : decode method_11_code 13 = .ok (.ireturn, 1) := by decide +kernel
theorem dL_cents_14 : decode method_11_code 14 = .ok (.iconst 0, 1) := by decide +kernel
theorem dL_cents_15 : decode method_11_code 15 = .ok (.ireturn, 1) := by decide +kernel
theorem dL_bars_0 : decode method_12_code 0 = .ok (.aload_n 0, 1) := by decide +kernel
theorem dL_bars_1 : decode method_12_code 1 = .ok (.iload_n 1, 1) := by decide +kernel
theorem dL_bars_2 : decode method_12_code 2 = .ok (.iload_n 2, 1) := by decide +kernel
theorem dL_bars_3 : decode method_12_code 3 = .ok (.invokevirtual 43, 3) := by decide +kernel
theorem dL_bars_6 : decode method_12_code 6 = .ok (.goto 9, 3) := by decide +kernel
theorem dL_bars_9 : decode method_12_code 9 = .ok (.astore_n 3, 1) := by decide +kernel
theorem dL_bars_10 : decode method_12_code 10 = .ok (.iconst 1, 1) := by decide +kernel
theorem dL_bars_11 : decode method_12_code 11 = .ok (.ireturn, 1) := by decide +kernel
theorem dL_bars_12 : decode method_12_code 12 = .ok (.astore_n 3, 1) := by decide +kernel
theorem dL_bars_13 : decode method_12_code 13 = .ok (.iconst 2, 1) := by decide +kernel
theorem dL_bars_14 : decode method_12_code 14 = .ok (.ireturn, 1) := by decide +kernel
theorem dL_bars_15 : decode method_12_code 15 = .ok (.iconst 0, 1) := by decide +kernel
theorem dL_bars_16 : decode method_12_code 16 = .ok (.ireturn, 1) := by decide +kernel
theorem dL_piece_0 : decode method_13_code 0 = .ok (.aload_n 2, 1) := by decide +kernel
theorem dL_piece_1 : decode method_13_code 1 = .ok (.iconst 0, 1) := by decide +kernel
theorem dL_piece_2 : decode method_13_code 2 = .ok (.aload_n 0, 1) := by decide +kernel
theorem dL_piece_3 : decode method_13_code 3 = .ok (.iload_n 1, 1) := by decide +kernel
theorem dL_piece_4 : decode method_13_code 4 = .ok (.invokevirtual 47, 3) := by decide +kernel
theorem dL_piece_7 : decode method_13_code 7 = .ok (.i2l, 1) := by decide +kernel
theorem dL_piece_8 : decode method_13_code 8 = .ok (.lastore, 1) := by decide +kernel
theorem dL_piece_9 : decode method_13_code 9 = .ok (.goto 9, 3) := by decide +kernel
theorem dL_piece_12 : decode method_13_code 12 = .ok (.astore_n 3, 1) := by decide +kernel
theorem dL_piece_13 : decode method_13_code 13 = .ok (.iconst 1, 1) := by decide +kernel
theorem dL_piece_14 : decode method_13_code 14 = .ok (.ireturn, 1) := by decide +kernel
theorem dL_piece_15 : decode method_13_code 15 = .ok (.astore_n 3, 1) := by decide +kernel
theorem dL_piece_16 : decode method_13_code 16 = .ok (.iconst 2, 1) := by decide +kernel
theorem dL_piece_17 : decode method_13_code 17 = .ok (.ireturn, 1) := by decide +kernel
theorem dL_piece_18 : decode method_13_code 18 = .ok (.iconst 0, 1) := by decide +kernel
theorem dL_piece_19 : decode method_13_code 19 = .ok (.ireturn, 1) := by decide +kernel
theorem dL_change_0 : decode method_14_code 0 = .ok (.aload_n 3, 1) := by decide +kernel
theorem dL_change_1 : decode method_14_code 1 = .ok (.iconst 0, 1) := by decide +kernel
theorem dL_change_2 : decode method_14_code 2 = .ok (.aload_n 0, 1) := by decide +kernel
theorem dL_change_3 : decode method_14_code 3 = .ok (.iload_n 1, 1) := by decide +kernel
theorem dL_change_4 : decode method_14_code 4 = .ok (.iload_n 2, 1) := by decide +kernel
theorem dL_change_5 : decode method_14_code 5 = .ok (.invokevirtual 51, 3) := by decide +kernel
theorem dL_change_8 : decode method_14_code 8 = .ok (.i2l, 1) := by decide +kernel
theorem dL_change_9 : decode method_14_code 9 = .ok (.lastore, 1) := by decide +kernel
theorem dL_change_10 : decode method_14_code 10 = .ok (.goto 7, 3) := by decide +kernel
theorem dL_change_13 : decode method_14_code 13 = .ok (.astore 4, 2) := by decide +kernel
theorem dL_change_15 : decode method_14_code 15 = .ok (.iconst 1, 1) := by decide +kernel
theorem dL_change_16 : decode method_14_code 16 = .ok (.ireturn, 1) := by decide +kernel
theorem dL_change_17 : decode method_14_code 17 = .ok (.iconst 0, 1) := by decide +kernel
theorem dL_change_18 : decode method_14_code 18 = .ok (.ireturn, 1) := by decide +kernel
theorem dL_bar_0 : decode method_15_code 0 = .ok (.aload_n 2, 1) := by decide +kernel
theorem dL_bar_1 : decode method_15_code 1 = .ok (.iconst 0, 1) := by decide +kernel
theorem dL_bar_2 : decode method_15_code 2 = .ok (.aload_n 0, 1) := by decide +kernel
theorem dL_bar_3 : decode method_15_code 3 = .ok (.iload_n 1, 1) := by decide +kernel
theorem dL_bar_4 : decode method_15_code 4 = .ok (.invokevirtual 54, 3) := by decide +kernel
theorem dL_bar_7 : decode method_15_code 7 = .ok (.i2l, 1) := by decide +kernel
theorem dL_bar_8 : decode method_15_code 8 = .ok (.lastore, 1) := by decide +kernel
theorem dL_bar_9 : decode method_15_code 9 = .ok (.goto 6, 3) := by decide +kernel
theorem dL_bar_12 : decode method_15_code 12 = .ok (.astore_n 3, 1) := by decide +kernel
theorem dL_bar_13 : decode method_15_code 13 = .ok (.iconst 1, 1) := by decide +kernel
theorem dL_bar_14 : decode method_15_code 14 = .ok (.ireturn, 1) := by decide +kernel
theorem dL_bar_15 : decode method_15_code 15 = .ok (.iconst 0, 1) := by decide +kernel
theorem dL_bar_16 : decode method_15_code 16 = .ok (.ireturn, 1) := by decide +kernel
theorem dL_rest_0 : decode method_16_code 0 = .ok (.aload_n 2, 1) := by decide +kernel
theorem dL_rest_1 : decode method_16_code 1 = .ok (.iconst 0, 1) := by decide +kernel
theorem dL_rest_2 : decode method_16_code 2 = .ok (.aload_n 0, 1) := by decide +kernel
theorem dL_rest_3 : decode method_16_code 3 = .ok (.iload_n 1, 1) := by decide +kernel
theorem dL_rest_4 : decode method_16_code 4 = .ok (.invokevirtual 57, 3) := by decide +kernel
theorem dL_rest_7 : decode method_16_code 7 = .ok (.i2l, 1) := by decide +kernel
theorem dL_rest_8 : decode method_16_code 8 = .ok (.lastore, 1) := by decide +kernel
theorem dL_rest_9 : decode method_16_code 9 = .ok (.goto 6, 3) := by decide +kernel
theorem dL_rest_12 : decode method_16_code 12 = .ok (.astore_n 3, 1) := by decide +kernel
theorem dL_rest_13 : decode method_16_code 13 = .ok (.iconst 1, 1) := by decide +kernel
theorem dL_rest_14 : decode method_16_code 14 = .ok (.ireturn, 1) := by decide +kernel
theorem dL_rest_15 : decode method_16_code 15 = .ok (.iconst 0, 1) := by decide +kernel
theorem dL_rest_16 : decode method_16_code 16 = .ok (.ireturn, 1) := by decide +kernel
theorem dL_law_0 : decode code 0 = .ok (.new 8, 3) := by decide +kernel
theorem dL_law_3 : decode code 3 = .ok (.dup, 1) := by decide +kernel
theorem dL_law_4 : decode code 4 = .ok (.invokespecial 60, 3) := by decide +kernel
theorem dL_law_7 : decode code 7 = .ok (.astore_n 1, 1) := by decide +kernel
theorem dL_law_8 : decode code 8 = .ok (.new 61, 3) := by decide +kernel
theorem dL_law_11 : decode code 11 = .ok (.dup, 1) := by decide +kernel
theorem dL_law_12 : decode code 12 = .ok (.invokespecial 63, 3) := by decide +kernel
theorem dL_law_15 : decode code 15 = .ok (.astore_n 2, 1) := by decide +kernel
theorem dL_law_16 : decode code 16 = .ok (.iconst 1, 1) := by decide +kernel
theorem dL_law_17 : decode code 17 = .ok (.newarray .long, 2) := by decide +kernel
theorem dL_law_19 : decode code 19 = .ok (.astore_n 3, 1) := by decide +kernel
theorem dL_law_20 : decode code 20 = .ok (.iconst 0, 1) := by decide +kernel
theorem dL_law_21 : decode code 21 = .ok (.istore 4, 2) := by decide +kernel
theorem dL_law_23 : decode code 23 = .ok (.iload 4, 2) := by decide +kernel
theorem dL_law_25 : decode code 25 = .ok (.aload_n 0, 1) := by decide +kernel
theorem dL_law_26 : decode code 26 = .ok (.arraylength, 1) := by decide +kernel
theorem dL_law_27 : decode code 27 = .ok (.iconst 4, 1) := by decide +kernel
theorem dL_law_28 : decode code 28 = .ok (.isub, 1) := by decide +kernel
theorem dL_law_29 : decode code 29 = .ok (.if_icmp .gt 1026, 3) := by decide +kernel
theorem dL_law_32 : decode code 32 = .ok (.aload_n 0, 1) := by decide +kernel
theorem dL_law_33 : decode code 33 = .ok (.iload 4, 2) := by decide +kernel
theorem dL_law_35 : decode code 35 = .ok (.iaload, 1) := by decide +kernel
theorem dL_law_36 : decode code 36 = .ok (.bipush 15, 2) := by decide +kernel
theorem dL_law_38 : decode code 38 = .ok (.iand, 1) := by decide +kernel
theorem dL_law_39 : decode code 39 = .ok (.tableswitch 1010 0 15 #[77, 145, 225, 305, 373, 441, 496, 576, 644, 699, 713, 761, 817, 885, 898, 954], 77) := by decide +kernel
theorem dL_law_116 : decode code 116 = .ok (.aload_n 1, 1) := by decide +kernel
theorem dL_law_117 : decode code 117 = .ok (.aload_n 0, 1) := by decide +kernel
theorem dL_law_118 : decode code 118 = .ok (.iload 4, 2) := by decide +kernel
theorem dL_law_120 : decode code 120 = .ok (.iconst 1, 1) := by decide +kernel
theorem dL_law_121 : decode code 121 = .ok (.iadd, 1) := by decide +kernel
theorem dL_law_122 : decode code 122 = .ok (.iaload, 1) := by decide +kernel
theorem dL_law_123 : decode code 123 = .ok (.aload_n 0, 1) := by decide +kernel
theorem dL_law_124 : decode code 124 = .ok (.iload 4, 2) := by decide +kernel
theorem dL_law_126 : decode code 126 = .ok (.iconst 2, 1) := by decide +kernel
theorem dL_law_127 : decode code 127 = .ok (.iadd, 1) := by decide +kernel
theorem dL_law_128 : decode code 128 = .ok (.iaload, 1) := by decide +kernel
theorem dL_law_129 : decode code 129 = .ok (.aload_n 3, 1) := by decide +kernel
theorem dL_law_130 : decode code 130 = .ok (.invokestatic 64, 3) := by decide +kernel
theorem dL_law_133 : decode code 133 = .ok (.istore 5, 2) := by decide +kernel
theorem dL_law_135 : decode code 135 = .ok (.aload_n 2, 1) := by decide +kernel
theorem dL_law_136 : decode code 136 = .ok (.aload_n 0, 1) := by decide +kernel
theorem dL_law_137 : decode code 137 = .ok (.iload 4, 2) := by decide +kernel
theorem dL_law_139 : decode code 139 = .ok (.iconst 1, 1) := by decide +kernel
theorem dL_law_140 : decode code 140 = .ok (.iadd, 1) := by decide +kernel
theorem dL_law_141 : decode code 141 = .ok (.iaload, 1) := by decide +kernel
theorem dL_law_142 : decode code 142 = .ok (.aload_n 0, 1) := by decide +kernel
theorem dL_law_143 : decode code 143 = .ok (.iload 4, 2) := by decide +kernel
theorem dL_law_145 : decode code 145 = .ok (.iconst 2, 1) := by decide +kernel
theorem dL_law_146 : decode code 146 = .ok (.iadd, 1) := by decide +kernel
theorem dL_law_147 : decode code 147 = .ok (.iaload, 1) := by decide +kernel
theorem dL_law_148 : decode code 148 = .ok (.invokevirtual 69, 3) := by decide +kernel
theorem dL_law_151 : decode code 151 = .ok (.istore 6, 2) := by decide +kernel
theorem dL_law_153 : decode code 153 = .ok (.aload_n 2, 1) := by decide +kernel
theorem dL_law_154 : decode code 154 = .ok (.invokevirtual 70, 3) := by decide +kernel
theorem dL_law_157 : decode code 157 = .ok (.iload 5, 2) := by decide +kernel
theorem dL_law_159 : decode code 159 = .ok (.if_icmp .eq 5, 3) := by decide +kernel
theorem dL_law_162 : decode code 162 = .ok (.iconst 0, 1) := by decide +kernel
theorem dL_law_163 : decode code 163 = .ok (.ireturn, 1) := by decide +kernel
theorem dL_law_164 : decode code 164 = .ok (.iload 5, 2) := by decide +kernel
theorem dL_law_166 : decode code 166 = .ok (.ifCond .ne 15, 3) := by decide +kernel
theorem dL_law_169 : decode code 169 = .ok (.aload_n 3, 1) := by decide +kernel
theorem dL_law_170 : decode code 170 = .ok (.iconst 0, 1) := by decide +kernel
theorem dL_law_171 : decode code 171 = .ok (.laload, 1) := by decide +kernel
theorem dL_law_172 : decode code 172 = .ok (.iload 6, 2) := by decide +kernel
theorem dL_law_174 : decode code 174 = .ok (.i2l, 1) := by decide +kernel
theorem dL_law_175 : decode code 175 = .ok (.lcmp, 1) := by decide +kernel
theorem dL_law_176 : decode code 176 = .ok (.ifCond .eq 5, 3) := by decide +kernel
theorem dL_law_179 : decode code 179 = .ok (.iconst 0, 1) := by decide +kernel
theorem dL_law_180 : decode code 180 = .ok (.ireturn, 1) := by decide +kernel
theorem dL_law_181 : decode code 181 = .ok (.goto 868, 3) := by decide +kernel
theorem dL_law_184 : decode code 184 = .ok (.aload_n 1, 1) := by decide +kernel
theorem dL_law_185 : decode code 185 = .ok (.aload_n 0, 1) := by decide +kernel
theorem dL_law_186 : decode code 186 = .ok (.iload 4, 2) := by decide +kernel
theorem dL_law_188 : decode code 188 = .ok (.iconst 1, 1) := by decide +kernel
theorem dL_law_189 : decode code 189 = .ok (.iadd, 1) := by decide +kernel
theorem dL_law_190 : decode code 190 = .ok (.iaload, 1) := by decide +kernel
theorem dL_law_191 : decode code 191 = .ok (.aload_n 0, 1) := by decide +kernel
theorem dL_law_192 : decode code 192 = .ok (.iload 4, 2) := by decide +kernel
theorem dL_law_194 : decode code 194 = .ok (.iconst 2, 1) := by decide +kernel
theorem dL_law_195 : decode code 195 = .ok (.iadd, 1) := by decide +kernel
theorem dL_law_196 : decode code 196 = .ok (.iaload, 1) := by decide +kernel
theorem dL_law_197 : decode code 197 = .ok (.aload_n 0, 1) := by decide +kernel
theorem dL_law_198 : decode code 198 = .ok (.iload 4, 2) := by decide +kernel
theorem dL_law_200 : decode code 200 = .ok (.iconst 3, 1) := by decide +kernel
theorem dL_law_201 : decode code 201 = .ok (.iadd, 1) := by decide +kernel
theorem dL_law_202 : decode code 202 = .ok (.iaload, 1) := by decide +kernel
theorem dL_law_203 : decode code 203 = .ok (.aload_n 3, 1) := by decide +kernel
theorem dL_law_204 : decode code 204 = .ok (.invokestatic 74, 3) := by decide +kernel
theorem dL_law_207 : decode code 207 = .ok (.istore 5, 2) := by decide +kernel
theorem dL_law_209 : decode code 209 = .ok (.aload_n 2, 1) := by decide +kernel
theorem dL_law_210 : decode code 210 = .ok (.aload_n 0, 1) := by decide +kernel
theorem dL_law_211 : decode code 211 = .ok (.iload 4, 2) := by decide +kernel
theorem dL_law_213 : decode code 213 = .ok (.iconst 1, 1) := by decide +kernel
theorem dL_law_214 : decode code 214 = .ok (.iadd, 1) := by decide +kernel
theorem dL_law_215 : decode code 215 = .ok (.iaload, 1) := by decide +kernel
theorem dL_law_216 : decode code 216 = .ok (.aload_n 0, 1) := by decide +kernel
theorem dL_law_217 : decode code 217 = .ok (.iload 4, 2) := by decide +kernel
theorem dL_law_219 : decode code 219 = .ok (.iconst 2, 1) := by decide +kernel
theorem dL_law_220 : decode code 220 = .ok (.iadd, 1) := by decide +kernel
theorem dL_law_221 : decode code 221 = .ok (.iaload, 1) := by decide +kernel
theorem dL_law_222 : decode code 222 = .ok (.aload_n 0, 1) := by decide +kernel
theorem dL_law_223 : decode code 223 = .ok (.iload 4, 2) := by decide +kernel
theorem dL_law_225 : decode code 225 = .ok (.iconst 3, 1) := by decide +kernel
theorem dL_law_226 : decode code 226 = .ok (.iadd, 1) := by decide +kernel
theorem dL_law_227 : decode code 227 = .ok (.iaload, 1) := by decide +kernel
theorem dL_law_228 : decode code 228 = .ok (.invokevirtual 77, 3) := by decide +kernel
theorem dL_law_231 : decode code 231 = .ok (.istore 6, 2) := by decide +kernel
theorem dL_law_233 : decode code 233 = .ok (.aload_n 2, 1) := by decide +kernel
theorem dL_law_234 : decode code 234 = .ok (.invokevirtual 70, 3) := by decide +kernel
theorem dL_law_237 : decode code 237 = .ok (.iload 5, 2) := by decide +kernel
theorem dL_law_239 : decode code 239 = .ok (.if_icmp .eq 5, 3) := by decide +kernel
theorem dL_law_242 : decode code 242 = .ok (.iconst 0, 1) := by decide +kernel
theorem dL_law_243 : decode code 243 = .ok (.ireturn, 1) := by decide +kernel
theorem dL_law_244 : decode code 244 = .ok (.iload 5, 2) := by decide +kernel
theorem dL_law_246 : decode code 246 = .ok (.ifCond .ne 15, 3) := by decide +kernel
theorem dL_law_249 : decode code 249 = .ok (.aload_n 3, 1) := by decide +kernel
theorem dL_law_250 : decode code 250 = .ok (.iconst 0, 1) := by decide +kernel
theorem dL_law_251 : decode code 251 = .ok (.laload, 1) := by decide +kernel
theorem dL_law_252 : decode code 252 = .ok (.iload 6, 2) := by decide +kernel
theorem dL_law_254 : decode code 254 = .ok (.i2l, 1) := by decide +kernel
theorem dL_law_255 : decode code 255 = .ok (.lcmp, 1) := by decide +kernel
theorem dL_law_256 : decode code 256 = .ok (.ifCond .eq 5, 3) := by decide +kernel
theorem dL_law_259 : decode code 259 = .ok (.iconst 0, 1) := by decide +kernel
theorem dL_law_260 : decode code 260 = .ok (.ireturn, 1) := by decide +kernel
theorem dL_law_261 : decode code 261 = .ok (.goto 788, 3) := by decide +kernel
theorem dL_law_264 : decode code 264 = .ok (.aload_n 1, 1) := by decide +kernel
theorem dL_law_265 : decode code 265 = .ok (.aload_n 0, 1) := by decide +kernel
theorem dL_law_266 : decode code 266 = .ok (.iload 4, 2) := by decide +kernel
theorem dL_law_268 : decode code 268 = .ok (.iconst 1, 1) := by decide +kernel
theorem dL_law_269 : decode code 269 = .ok (.iadd, 1) := by decide +kernel
theorem dL_law_270 : decode code 270 = .ok (.iaload, 1) := by decide +kernel
theorem dL_law_271 : decode code 271 = .ok (.aload_n 0, 1) := by decide +kernel
theorem dL_law_272 : decode code 272 = .ok (.iload 4, 2) := by decide +kernel
theorem dL_law_274 : decode code 274 = .ok (.iconst 2, 1) := by decide +kernel
theorem dL_law_275 : decode code 275 = .ok (.iadd, 1) := by decide +kernel
theorem dL_law_276 : decode code 276 = .ok (.iaload, 1) := by decide +kernel
theorem dL_law_277 : decode code 277 = .ok (.aload_n 0, 1) := by decide +kernel
theorem dL_law_278 : decode code 278 = .ok (.iload 4, 2) := by decide +kernel
theorem dL_law_280 : decode code 280 = .ok (.iconst 3, 1) := by decide +kernel
theorem dL_law_281 : decode code 281 = .ok (.iadd, 1) := by decide +kernel
theorem dL_law_282 : decode code 282 = .ok (.iaload, 1) := by decide +kernel
theorem dL_law_283 : decode code 283 = .ok (.aload_n 3, 1) := by decide +kernel
theorem dL_law_284 : decode code 284 = .ok (.invokestatic 78, 3) := by decide +kernel
theorem dL_law_287 : decode code 287 = .ok (.istore 5, 2) := by decide +kernel
theorem dL_law_289 : decode code 289 = .ok (.aload_n 2, 1) := by decide +kernel
theorem dL_law_290 : decode code 290 = .ok (.aload_n 0, 1) := by decide +kernel
theorem dL_law_291 : decode code 291 = .ok (.iload 4, 2) := by decide +kernel
theorem dL_law_293 : decode code 293 = .ok (.iconst 1, 1) := by decide +kernel
theorem dL_law_294 : decode code 294 = .ok (.iadd, 1) := by decide +kernel
theorem dL_law_295 : decode code 295 = .ok (.iaload, 1) := by decide +kernel
theorem dL_law_296 : decode code 296 = .ok (.aload_n 0, 1) := by decide +kernel
theorem dL_law_297 : decode code 297 = .ok (.iload 4, 2) := by decide +kernel
theorem dL_law_299 : decode code 299 = .ok (.iconst 2, 1) := by decide +kernel
theorem dL_law_300 : decode code 300 = .ok (.iadd, 1) := by decide +kernel
theorem dL_law_301 : decode code 301 = .ok (.iaload, 1) := by decide +kernel
theorem dL_law_302 : decode code 302 = .ok (.aload_n 0, 1) := by decide +kernel
theorem dL_law_303 : decode code 303 = .ok (.iload 4, 2) := by decide +kernel
theorem dL_law_305 : decode code 305 = .ok (.iconst 3, 1) := by decide +kernel
theorem dL_law_306 : decode code 306 = .ok (.iadd, 1) := by decide +kernel
theorem dL_law_307 : decode code 307 = .ok (.iaload, 1) := by decide +kernel
theorem dL_law_308 : decode code 308 = .ok (.invokevirtual 80, 3) := by decide +kernel
theorem dL_law_311 : decode code 311 = .ok (.istore 6, 2) := by decide +kernel
theorem dL_law_313 : decode code 313 = .ok (.aload_n 2, 1) := by decide +kernel
theorem dL_law_314 : decode code 314 = .ok (.invokevirtual 70, 3) := by decide +kernel
theorem dL_law_317 : decode code 317 = .ok (.iload 5, 2) := by decide +kernel
theorem dL_law_319 : decode code 319 = .ok (.if_icmp .eq 5, 3) := by decide +kernel
theorem dL_law_322 : decode code 322 = .ok (.iconst 0, 1) := by decide +kernel
theorem dL_law_323 : decode code 323 = .ok (.ireturn, 1) := by decide +kernel
theorem dL_law_324 : decode code 324 = .ok (.iload 5, 2) := by decide +kernel
theorem dL_law_326 : decode code 326 = .ok (.ifCond .ne 15, 3) := by decide +kernel
theorem dL_law_329 : decode code 329 = .ok (.aload_n 3, 1) := by decide +kernel
theorem dL_law_330 : decode code 330 = .ok (.iconst 0, 1) := by decide +kernel
theorem dL_law_331 : decode code 331 = .ok (.laload, 1) := by decide +kernel
theorem dL_law_332 : decode code 332 = .ok (.iload 6, 2) := by decide +kernel
theorem dL_law_334 : decode code 334 = .ok (.i2l, 1) := by decide +kernel
theorem dL_law_335 : decode code 335 = .ok (.lcmp, 1) := by decide +kernel
theorem dL_law_336 : decode code 336 = .ok (.ifCond .eq 5, 3) := by decide +kernel
theorem dL_law_339 : decode code 339 = .ok (.iconst 0, 1) := by decide +kernel
theorem dL_law_340 : decode code 340 = .ok (.ireturn, 1) := by decide +kernel
theorem dL_law_341 : decode code 341 = .ok (.goto 708, 3) := by decide +kernel
theorem dL_law_344 : decode code 344 = .ok (.aload_n 1, 1) := by decide +kernel
theorem dL_law_345 : decode code 345 = .ok (.aload_n 0, 1) := by decide +kernel
theorem dL_law_346 : decode code 346 = .ok (.iload 4, 2) := by decide +kernel
theorem dL_law_348 : decode code 348 = .ok (.iconst 1, 1) := by decide +kernel
theorem dL_law_349 : decode code 349 = .ok (.iadd, 1) := by decide +kernel
theorem dL_law_350 : decode code 350 = .ok (.iaload, 1) := by decide +kernel
theorem dL_law_351 : decode code 351 = .ok (.aload_n 0, 1) := by decide +kernel
theorem dL_law_352 : decode code 352 = .ok (.iload 4, 2) := by decide +kernel
theorem dL_law_354 : decode code 354 = .ok (.iconst 2, 1) := by decide +kernel
theorem dL_law_355 : decode code 355 = .ok (.iadd, 1) := by decide +kernel
theorem dL_law_356 : decode code 356 = .ok (.iaload, 1) := by decide +kernel
theorem dL_law_357 : decode code 357 = .ok (.aload_n 3, 1) := by decide +kernel
theorem dL_law_358 : decode code 358 = .ok (.invokestatic 81, 3) := by decide +kernel
theorem dL_law_361 : decode code 361 = .ok (.istore 5, 2) := by decide +kernel
theorem dL_law_363 : decode code 363 = .ok (.aload_n 2, 1) := by decide +kernel
theorem dL_law_364 : decode code 364 = .ok (.aload_n 0, 1) := by decide +kernel
theorem dL_law_365 : decode code 365 = .ok (.iload 4, 2) := by decide +kernel
theorem dL_law_367 : decode code 367 = .ok (.iconst 1, 1) := by decide +kernel
theorem dL_law_368 : decode code 368 = .ok (.iadd, 1) := by decide +kernel
theorem dL_law_369 : decode code 369 = .ok (.iaload, 1) := by decide +kernel
theorem dL_law_370 : decode code 370 = .ok (.aload_n 0, 1) := by decide +kernel
theorem dL_law_371 : decode code 371 = .ok (.iload 4, 2) := by decide +kernel
theorem dL_law_373 : decode code 373 = .ok (.iconst 2, 1) := by decide +kernel
theorem dL_law_374 : decode code 374 = .ok (.iadd, 1) := by decide +kernel
theorem dL_law_375 : decode code 375 = .ok (.iaload, 1) := by decide +kernel
theorem dL_law_376 : decode code 376 = .ok (.invokevirtual 83, 3) := by decide +kernel
theorem dL_law_379 : decode code 379 = .ok (.istore 6, 2) := by decide +kernel
theorem dL_law_381 : decode code 381 = .ok (.aload_n 2, 1) := by decide +kernel
theorem dL_law_382 : decode code 382 = .ok (.invokevirtual 70, 3) := by decide +kernel
theorem dL_law_385 : decode code 385 = .ok (.iload 5, 2) := by decide +kernel
theorem dL_law_387 : decode code 387 = .ok (.if_icmp .eq 5, 3) := by decide +kernel
theorem dL_law_390 : decode code 390 = .ok (.iconst 0, 1) := by decide +kernel
theorem dL_law_391 : decode code 391 = .ok (.ireturn, 1) := by decide +kernel
theorem dL_law_392 : decode code 392 = .ok (.iload 5, 2) := by decide +kernel
theorem dL_law_394 : decode code 394 = .ok (.ifCond .ne 15, 3) := by decide +kernel
theorem dL_law_397 : decode code 397 = .ok (.aload_n 3, 1) := by decide +kernel
theorem dL_law_398 : decode code 398 = .ok (.iconst 0, 1) := by decide +kernel
theorem dL_law_399 : decode code 399 = .ok (.laload, 1) := by decide +kernel
theorem dL_law_400 : decode code 400 = .ok (.iload 6, 2) := by decide +kernel
theorem dL_law_402 : decode code 402 = .ok (.i2l, 1) := by decide +kernel
theorem dL_law_403 : decode code 403 = .ok (.lcmp, 1) := by decide +kernel
theorem dL_law_404 : decode code 404 = .ok (.ifCond .eq 5, 3) := by decide +kernel
theorem dL_law_407 : decode code 407 = .ok (.iconst 0, 1) := by decide +kernel
theorem dL_law_408 : decode code 408 = .ok (.ireturn, 1) := by decide +kernel
theorem dL_law_409 : decode code 409 = .ok (.goto 640, 3) := by decide +kernel
theorem dL_law_412 : decode code 412 = .ok (.aload_n 1, 1) := by decide +kernel
theorem dL_law_413 : decode code 413 = .ok (.aload_n 0, 1) := by decide +kernel
theorem dL_law_414 : decode code 414 = .ok (.iload 4, 2) := by decide +kernel
theorem dL_law_416 : decode code 416 = .ok (.iconst 1, 1) := by decide +kernel
theorem dL_law_417 : decode code 417 = .ok (.iadd, 1) := by decide +kernel
theorem dL_law_418 : decode code 418 = .ok (.iaload, 1) := by decide +kernel
theorem dL_law_419 : decode code 419 = .ok (.aload_n 0, 1) := by decide +kernel
theorem dL_law_420 : decode code 420 = .ok (.iload 4, 2) := by decide +kernel
theorem dL_law_422 : decode code 422 = .ok (.iconst 2, 1) := by decide +kernel
theorem dL_law_423 : decode code 423 = .ok (.iadd, 1) := by decide +kernel
theorem dL_law_424 : decode code 424 = .ok (.iaload, 1) := by decide +kernel
theorem dL_law_425 : decode code 425 = .ok (.aload_n 3, 1) := by decide +kernel
theorem dL_law_426 : decode code 426 = .ok (.invokestatic 84, 3) := by decide +kernel
theorem dL_law_429 : decode code 429 = .ok (.istore 5, 2) := by decide +kernel
theorem dL_law_431 : decode code 431 = .ok (.aload_n 2, 1) := by decide +kernel
theorem dL_law_432 : decode code 432 = .ok (.aload_n 0, 1) := by decide +kernel
theorem dL_law_433 : decode code 433 = .ok (.iload 4, 2) := by decide +kernel
theorem dL_law_435 : decode code 435 = .ok (.iconst 1, 1) := by decide +kernel
theorem dL_law_436 : decode code 436 = .ok (.iadd, 1) := by decide +kernel
end
section
-- DECODE ROWS
theorem dL_law_437 : decode code 437 = .ok (.iaload, 1) := by decide +kernel
theorem dL_law_438 : decode code 438 = .ok (.aload_n 0, 1) := by decide +kernel
theorem dL_law_439 : decode code 439 = .ok (.iload 4, 2) := by decide +kernel
theorem dL_law_441 : decode code 441 = .ok (.iconst 2, 1) := by decide +kernel
theorem dL_law_442 : decode code 442 = .ok (.iadd, 1) := by decide +kernel
theorem dL_law_443 : decode code 443 = .ok (.iaload, 1) := by decide +kernel
theorem dL_law_444 : decode code 444 = .ok (.invokevirtual 86, 3) := by decide +kernel
theorem dL_law_447 : decode code 447 = .ok (.istore 6, 2) := by decide +kernel
theorem dL_law_449 : decode code 449 = .ok (.aload_n 2, 1) := by decide +kernel
theorem dL_law_450 : decode code 450 = .ok (.invokevirtual 70, 3) := by decide +kernel
theorem dL_law_453 : decode code 453 = .ok (.iload 5, 2) := by decide +kernel
theorem dL_law_455 : decode code 455 = .ok (.if_icmp .eq 5, 3) := by decide +kernel
theorem dL_law_458 : decode code 458 = .ok (.iconst 0, 1) := by decide +kernel
theorem dL_law_459 : decode code 459 = .ok (.ireturn, 1) := by decide +kernel
theorem dL_law_460 : decode code 460 = .ok (.iload 5, 2) := by decide +kernel
theorem dL_law_462 : decode code 462 = .ok (.ifCond .ne 15, 3) := by decide +kernel
theorem dL_law_465 : decode code 465 = .ok (.aload_n 3, 1) := by decide +kernel
theorem dL_law_466 : decode code 466 = .ok (.iconst 0, 1) := by decide +kernel
theorem dL_law_467 : decode code 467 = .ok (.laload, 1) := by decide +kernel
theorem dL_law_468 : decode code 468 = .ok (.iload 6, 2) := by decide +kernel
theorem dL_law_470 : decode code 470 = .ok (.i2l, 1) := by decide +kernel
theorem dL_law_471 : decode code 471 = .ok (.lcmp, 1) := by decide +kernel
theorem dL_law_472 : decode code 472 = .ok (.ifCond .eq 5, 3) := by decide +kernel
theorem dL_law_475 : decode code 475 = .ok (.iconst 0, 1) := by decide +kernel
theorem dL_law_476 : decode code 476 = .ok (.ireturn, 1) := by decide +kernel
theorem dL_law_477 : decode code 477 = .ok (.goto 572, 3) := by decide +kernel
theorem dL_law_480 : decode code 480 = .ok (.aload_n 1, 1) := by decide +kernel
theorem dL_law_481 : decode code 481 = .ok (.aload_n 0, 1) := by decide +kernel
theorem dL_law_482 : decode code 482 = .ok (.iload 4, 2) := by decide +kernel
theorem dL_law_484 : decode code 484 = .ok (.iconst 1, 1) := by decide +kernel
theorem dL_law_485 : decode code 485 = .ok (.iadd, 1) := by decide +kernel
theorem dL_law_486 : decode code 486 = .ok (.iaload, 1) := by decide +kernel
theorem dL_law_487 : decode code 487 = .ok (.aload_n 3, 1) := by decide +kernel
theorem dL_law_488 : decode code 488 = .ok (.invokestatic 87, 3) := by decide +kernel
theorem dL_law_491 : decode code 491 = .ok (.istore 5, 2) := by decide +kernel
theorem dL_law_493 : decode code 493 = .ok (.aload_n 2, 1) := by decide +kernel
theorem dL_law_494 : decode code 494 = .ok (.aload_n 0, 1) := by decide +kernel
theorem dL_law_495 : decode code 495 = .ok (.iload 4, 2) := by decide +kernel
theorem dL_law_497 : decode code 497 = .ok (.iconst 1, 1) := by decide +kernel
theorem dL_law_498 : decode code 498 = .ok (.iadd, 1) := by decide +kernel
theorem dL_law_499 : decode code 499 = .ok (.iaload, 1) := by decide +kernel
theorem dL_law_500 : decode code 500 = .ok (.invokevirtual 90, 3) := by decide +kernel
theorem dL_law_503 : decode code 503 = .ok (.lstore 6, 2) := by decide +kernel
theorem dL_law_505 : decode code 505 = .ok (.aload_n 2, 1) := by decide +kernel
theorem dL_law_506 : decode code 506 = .ok (.invokevirtual 70, 3) := by decide +kernel
theorem dL_law_509 : decode code 509 = .ok (.iload 5, 2) := by decide +kernel
theorem dL_law_511 : decode code 511 = .ok (.if_icmp .eq 5, 3) := by decide +kernel
theorem dL_law_514 : decode code 514 = .ok (.iconst 0, 1) := by decide +kernel
theorem dL_law_515 : decode code 515 = .ok (.ireturn, 1) := by decide +kernel
theorem dL_law_516 : decode code 516 = .ok (.iload 5, 2) := by decide +kernel
theorem dL_law_518 : decode code 518 = .ok (.ifCond .ne 14, 3) := by decide +kernel
theorem dL_law_521 : decode code 521 = .ok (.aload_n 3, 1) := by decide +kernel
theorem dL_law_522 : decode code 522 = .ok (.iconst 0, 1) := by decide +kernel
theorem dL_law_523 : decode code 523 = .ok (.laload, 1) := by decide +kernel
theorem dL_law_524 : decode code 524 = .ok (.lload 6, 2) := by decide +kernel
theorem dL_law_526 : decode code 526 = .ok (.lcmp, 1) := by decide +kernel
theorem dL_law_527 : decode code 527 = .ok (.ifCond .eq 5, 3) := by decide +kernel
theorem dL_law_530 : decode code 530 = .ok (.iconst 0, 1) := by decide +kernel
theorem dL_law_531 : decode code 531 = .ok (.ireturn, 1) := by decide +kernel
theorem dL_law_532 : decode code 532 = .ok (.goto 517, 3) := by decide +kernel
theorem dL_law_535 : decode code 535 = .ok (.aload_n 1, 1) := by decide +kernel
theorem dL_law_536 : decode code 536 = .ok (.aload_n 0, 1) := by decide +kernel
theorem dL_law_537 : decode code 537 = .ok (.iload 4, 2) := by decide +kernel
theorem dL_law_539 : decode code 539 = .ok (.iconst 1, 1) := by decide +kernel
theorem dL_law_540 : decode code 540 = .ok (.iadd, 1) := by decide +kernel
theorem dL_law_541 : decode code 541 = .ok (.iaload, 1) := by decide +kernel
theorem dL_law_542 : decode code 542 = .ok (.aload_n 0, 1) := by decide +kernel
theorem dL_law_543 : decode code 543 = .ok (.iload 4, 2) := by decide +kernel
theorem dL_law_545 : decode code 545 = .ok (.iconst 2, 1) := by decide +kernel
theorem dL_law_546 : decode code 546 = .ok (.iadd, 1) := by decide +kernel
theorem dL_law_547 : decode code 547 = .ok (.iaload, 1) := by decide +kernel
theorem dL_law_548 : decode code 548 = .ok (.aload_n 0, 1) := by decide +kernel
theorem dL_law_549 : decode code 549 = .ok (.iload 4, 2) := by decide +kernel
theorem dL_law_551 : decode code 551 = .ok (.iconst 3, 1) := by decide +kernel
theorem dL_law_552 : decode code 552 = .ok (.iadd, 1) := by decide +kernel
theorem dL_law_553 : decode code 553 = .ok (.iaload, 1) := by decide +kernel
theorem dL_law_554 : decode code 554 = .ok (.aload_n 3, 1) := by decide +kernel
theorem dL_law_555 : decode code 555 = .ok (.invokestatic 91, 3) := by decide +kernel
theorem dL_law_558 : decode code 558 = .ok (.istore 5, 2) := by decide +kernel
theorem dL_law_560 : decode code 560 = .ok (.aload_n 2, 1) := by decide +kernel
theorem dL_law_561 : decode code 561 = .ok (.aload_n 0, 1) := by decide +kernel
theorem dL_law_562 : decode code 562 = .ok (.iload 4, 2) := by decide +kernel
theorem dL_law_564 : decode code 564 = .ok (.iconst 1, 1) := by decide +kernel
theorem dL_law_565 : decode code 565 = .ok (.iadd, 1) := by decide +kernel
theorem dL_law_566 : decode code 566 = .ok (.iaload, 1) := by decide +kernel
theorem dL_law_567 : decode code 567 = .ok (.aload_n 0, 1) := by decide +kernel
theorem dL_law_568 : decode code 568 = .ok (.iload 4, 2) := by decide +kernel
theorem dL_law_570 : decode code 570 = .ok (.iconst 2, 1) := by decide +kernel
theorem dL_law_571 : decode code 571 = .ok (.iadd, 1) := by decide +kernel
theorem dL_law_572 : decode code 572 = .ok (.iaload, 1) := by decide +kernel
theorem dL_law_573 : decode code 573 = .ok (.aload_n 0, 1) := by decide +kernel
theorem dL_law_574 : decode code 574 = .ok (.iload 4, 2) := by decide +kernel
theorem dL_law_576 : decode code 576 = .ok (.iconst 3, 1) := by decide +kernel
theorem dL_law_577 : decode code 577 = .ok (.iadd, 1) := by decide +kernel
theorem dL_law_578 : decode code 578 = .ok (.iaload, 1) := by decide +kernel
theorem dL_law_579 : decode code 579 = .ok (.invokevirtual 93, 3) := by decide +kernel
theorem dL_law_582 : decode code 582 = .ok (.istore 6, 2) := by decide +kernel
theorem dL_law_584 : decode code 584 = .ok (.aload_n 2, 1) := by decide +kernel
theorem dL_law_585 : decode code 585 = .ok (.invokevirtual 70, 3) := by decide +kernel
theorem dL_law_588 : decode code 588 = .ok (.iload 5, 2) := by decide +kernel
theorem dL_law_590 : decode code 590 = .ok (.if_icmp .eq 5, 3) := by decide +kernel
theorem dL_law_593 : decode code 593 = .ok (.iconst 0, 1) := by decide +kernel
theorem dL_law_594 : decode code 594 = .ok (.ireturn, 1) := by decide +kernel
theorem dL_law_595 : decode code 595 = .ok (.iload 5, 2) := by decide +kernel
theorem dL_law_597 : decode code 597 = .ok (.ifCond .ne 15, 3) := by decide +kernel
theorem dL_law_600 : decode code 600 = .ok (.aload_n 3, 1) := by decide +kernel
theorem dL_law_601 : decode code 601 = .ok (.iconst 0, 1) := by decide +kernel
theorem dL_law_602 : decode code 602 = .ok (.laload, 1) := by decide +kernel
theorem dL_law_603 : decode code 603 = .ok (.iload 6, 2) := by decide +kernel
theorem dL_law_605 : decode code 605 = .ok (.i2l, 1) := by decide +kernel
theorem dL_law_606 : decode code 606 = .ok (.lcmp, 1) := by decide +kernel
theorem dL_law_607 : decode code 607 = .ok (.ifCond .eq 5, 3) := by decide +kernel
theorem dL_law_610 : decode code 610 = .ok (.iconst 0, 1) := by decide +kernel
theorem dL_law_611 : decode code 611 = .ok (.ireturn, 1) := by decide +kernel
theorem dL_law_612 : decode code 612 = .ok (.goto 437, 3) := by decide +kernel
theorem dL_law_615 : decode code 615 = .ok (.aload_n 1, 1) := by decide +kernel
theorem dL_law_616 : decode code 616 = .ok (.aload_n 0, 1) := by decide +kernel
theorem dL_law_617 : decode code 617 = .ok (.iload 4, 2) := by decide +kernel
theorem dL_law_619 : decode code 619 = .ok (.iconst 1, 1) := by decide +kernel
theorem dL_law_620 : decode code 620 = .ok (.iadd, 1) := by decide +kernel
theorem dL_law_621 : decode code 621 = .ok (.iaload, 1) := by decide +kernel
theorem dL_law_622 : decode code 622 = .ok (.aload_n 0, 1) := by decide +kernel
theorem dL_law_623 : decode code 623 = .ok (.iload 4, 2) := by decide +kernel
theorem dL_law_625 : decode code 625 = .ok (.iconst 2, 1) := by decide +kernel
theorem dL_law_626 : decode code 626 = .ok (.iadd, 1) := by decide +kernel
theorem dL_law_627 : decode code 627 = .ok (.iaload, 1) := by decide +kernel
theorem dL_law_628 : decode code 628 = .ok (.aload_n 3, 1) := by decide +kernel
theorem dL_law_629 : decode code 629 = .ok (.invokestatic 94, 3) := by decide +kernel
theorem dL_law_632 : decode code 632 = .ok (.istore 5, 2) := by decide +kernel
theorem dL_law_634 : decode code 634 = .ok (.aload_n 2, 1) := by decide +kernel
theorem dL_law_635 : decode code 635 = .ok (.aload_n 0, 1) := by decide +kernel
theorem dL_law_636 : decode code 636 = .ok (.iload 4, 2) := by decide +kernel
theorem dL_law_638 : decode code 638 = .ok (.iconst 1, 1) := by decide +kernel
theorem dL_law_639 : decode code 639 = .ok (.iadd, 1) := by decide +kernel
theorem dL_law_640 : decode code 640 = .ok (.iaload, 1) := by decide +kernel
theorem dL_law_641 : decode code 641 = .ok (.aload_n 0, 1) := by decide +kernel
theorem dL_law_642 : decode code 642 = .ok (.iload 4, 2) := by decide +kernel
theorem dL_law_644 : decode code 644 = .ok (.iconst 2, 1) := by decide +kernel
theorem dL_law_645 : decode code 645 = .ok (.iadd, 1) := by decide +kernel
theorem dL_law_646 : decode code 646 = .ok (.iaload, 1) := by decide +kernel
theorem dL_law_647 : decode code 647 = .ok (.invokevirtual 96, 3) := by decide +kernel
theorem dL_law_650 : decode code 650 = .ok (.istore 6, 2) := by decide +kernel
theorem dL_law_652 : decode code 652 = .ok (.aload_n 2, 1) := by decide +kernel
theorem dL_law_653 : decode code 653 = .ok (.invokevirtual 70, 3) := by decide +kernel
theorem dL_law_656 : decode code 656 = .ok (.iload 5, 2) := by decide +kernel
theorem dL_law_658 : decode code 658 = .ok (.if_icmp .eq 5, 3) := by decide +kernel
theorem dL_law_661 : decode code 661 = .ok (.iconst 0, 1) := by decide +kernel
theorem dL_law_662 : decode code 662 = .ok (.ireturn, 1) := by decide +kernel
theorem dL_law_663 : decode code 663 = .ok (.iload 5, 2) := by decide +kernel
theorem dL_law_665 : decode code 665 = .ok (.ifCond .ne 15, 3) := by decide +kernel
theorem dL_law_668 : decode code 668 = .ok (.aload_n 3, 1) := by decide +kernel
theorem dL_law_669 : decode code 669 = .ok (.iconst 0, 1) := by decide +kernel
theorem dL_law_670 : decode code 670 = .ok (.laload, 1) := by decide +kernel
theorem dL_law_671 : decode code 671 = .ok (.iload 6, 2) := by decide +kernel
theorem dL_law_673 : decode code 673 = .ok (.i2l, 1) := by decide +kernel
theorem dL_law_674 : decode code 674 = .ok (.lcmp, 1) := by decide +kernel
theorem dL_law_675 : decode code 675 = .ok (.ifCond .eq 5, 3) := by decide +kernel
theorem dL_law_678 : decode code 678 = .ok (.iconst 0, 1) := by decide +kernel
theorem dL_law_679 : decode code 679 = .ok (.ireturn, 1) := by decide +kernel
theorem dL_law_680 : decode code 680 = .ok (.goto 369, 3) := by decide +kernel
theorem dL_law_683 : decode code 683 = .ok (.aload_n 1, 1) := by decide +kernel
theorem dL_law_684 : decode code 684 = .ok (.aload_n 0, 1) := by decide +kernel
theorem dL_law_685 : decode code 685 = .ok (.iload 4, 2) := by decide +kernel
theorem dL_law_687 : decode code 687 = .ok (.iconst 1, 1) := by decide +kernel
theorem dL_law_688 : decode code 688 = .ok (.iadd, 1) := by decide +kernel
theorem dL_law_689 : decode code 689 = .ok (.iaload, 1) := by decide +kernel
theorem dL_law_690 : decode code 690 = .ok (.aload_n 3, 1) := by decide +kernel
theorem dL_law_691 : decode code 691 = .ok (.invokestatic 97, 3) := by decide +kernel
theorem dL_law_694 : decode code 694 = .ok (.istore 5, 2) := by decide +kernel
theorem dL_law_696 : decode code 696 = .ok (.aload_n 2, 1) := by decide +kernel
theorem dL_law_697 : decode code 697 = .ok (.aload_n 0, 1) := by decide +kernel
theorem dL_law_698 : decode code 698 = .ok (.iload 4, 2) := by decide +kernel
theorem dL_law_700 : decode code 700 = .ok (.iconst 1, 1) := by decide +kernel
theorem dL_law_701 : decode code 701 = .ok (.iadd, 1) := by decide +kernel
theorem dL_law_702 : decode code 702 = .ok (.iaload, 1) := by decide +kernel
theorem dL_law_703 : decode code 703 = .ok (.invokevirtual 99, 3) := by decide +kernel
theorem dL_law_706 : decode code 706 = .ok (.lstore 6, 2) := by decide +kernel
theorem dL_law_708 : decode code 708 = .ok (.aload_n 2, 1) := by decide +kernel
theorem dL_law_709 : decode code 709 = .ok (.invokevirtual 70, 3) := by decide +kernel
theorem dL_law_712 : decode code 712 = .ok (.iload 5, 2) := by decide +kernel
theorem dL_law_714 : decode code 714 = .ok (.if_icmp .eq 5, 3) := by decide +kernel
theorem dL_law_717 : decode code 717 = .ok (.iconst 0, 1) := by decide +kernel
theorem dL_law_718 : decode code 718 = .ok (.ireturn, 1) := by decide +kernel
theorem dL_law_719 : decode code 719 = .ok (.iload 5, 2) := by decide +kernel
theorem dL_law_721 : decode code 721 = .ok (.ifCond .ne 14, 3) := by decide +kernel
theorem dL_law_724 : decode code 724 = .ok (.aload_n 3, 1) := by decide +kernel
theorem dL_law_725 : decode code 725 = .ok (.iconst 0, 1) := by decide +kernel
theorem dL_law_726 : decode code 726 = .ok (.laload, 1) := by decide +kernel
theorem dL_law_727 : decode code 727 = .ok (.lload 6, 2) := by decide +kernel
theorem dL_law_729 : decode code 729 = .ok (.lcmp, 1) := by decide +kernel
theorem dL_law_730 : decode code 730 = .ok (.ifCond .eq 5, 3) := by decide +kernel
theorem dL_law_733 : decode code 733 = .ok (.iconst 0, 1) := by decide +kernel
theorem dL_law_734 : decode code 734 = .ok (.ireturn, 1) := by decide +kernel
theorem dL_law_735 : decode code 735 = .ok (.goto 314, 3) := by decide +kernel
theorem dL_law_738 : decode code 738 = .ok (.aload_n 1, 1) := by decide +kernel
theorem dL_law_739 : decode code 739 = .ok (.invokevirtual 100, 3) := by decide +kernel
theorem dL_law_742 : decode code 742 = .ok (.aload_n 2, 1) := by decide +kernel
theorem dL_law_743 : decode code 743 = .ok (.invokevirtual 103, 3) := by decide +kernel
theorem dL_law_746 : decode code 746 = .ok (.lcmp, 1) := by decide +kernel
theorem dL_law_747 : decode code 747 = .ok (.ifCond .eq 302, 3) := by decide +kernel
theorem dL_law_750 : decode code 750 = .ok (.iconst 0, 1) := by decide +kernel
theorem dL_law_751 : decode code 751 = .ok (.ireturn, 1) := by decide +kernel
theorem dL_law_752 : decode code 752 = .ok (.aload_n 1, 1) := by decide +kernel
theorem dL_law_753 : decode code 753 = .ok (.aload_n 0, 1) := by decide +kernel
theorem dL_law_754 : decode code 754 = .ok (.iload 4, 2) := by decide +kernel
theorem dL_law_756 : decode code 756 = .ok (.iconst 1, 1) := by decide +kernel
theorem dL_law_757 : decode code 757 = .ok (.iadd, 1) := by decide +kernel
theorem dL_law_758 : decode code 758 = .ok (.iaload, 1) := by decide +kernel
theorem dL_law_759 : decode code 759 = .ok (.aload_n 0, 1) := by decide +kernel
theorem dL_law_760 : decode code 760 = .ok (.iload 4, 2) := by decide +kernel
theorem dL_law_762 : decode code 762 = .ok (.iconst 2, 1) := by decide +kernel
theorem dL_law_763 : decode code 763 = .ok (.iadd, 1) := by decide +kernel
theorem dL_law_764 : decode code 764 = .ok (.iaload, 1) := by decide +kernel
theorem dL_law_765 : decode code 765 = .ok (.invokestatic 104, 3) := by decide +kernel
theorem dL_law_768 : decode code 768 = .ok (.istore 5, 2) := by decide +kernel
theorem dL_law_770 : decode code 770 = .ok (.aload_n 2, 1) := by decide +kernel
theorem dL_law_771 : decode code 771 = .ok (.aload_n 0, 1) := by decide +kernel
theorem dL_law_772 : decode code 772 = .ok (.iload 4, 2) := by decide +kernel
theorem dL_law_774 : decode code 774 = .ok (.iconst 1, 1) := by decide +kernel
theorem dL_law_775 : decode code 775 = .ok (.iadd, 1) := by decide +kernel
theorem dL_law_776 : decode code 776 = .ok (.iaload, 1) := by decide +kernel
theorem dL_law_777 : decode code 777 = .ok (.aload_n 0, 1) := by decide +kernel
theorem dL_law_778 : decode code 778 = .ok (.iload 4, 2) := by decide +kernel
theorem dL_law_780 : decode code 780 = .ok (.iconst 2, 1) := by decide +kernel
theorem dL_law_781 : decode code 781 = .ok (.iadd, 1) := by decide +kernel
theorem dL_law_782 : decode code 782 = .ok (.iaload, 1) := by decide +kernel
theorem dL_law_783 : decode code 783 = .ok (.invokevirtual 107, 3) := by decide +kernel
theorem dL_law_786 : decode code 786 = .ok (.aload_n 2, 1) := by decide +kernel
theorem dL_law_787 : decode code 787 = .ok (.invokevirtual 70, 3) := by decide +kernel
theorem dL_law_790 : decode code 790 = .ok (.iload 5, 2) := by decide +kernel
theorem dL_law_792 : decode code 792 = .ok (.if_icmp .eq 5, 3) := by decide +kernel
theorem dL_law_795 : decode code 795 = .ok (.iconst 0, 1) := by decide +kernel
theorem dL_law_796 : decode code 796 = .ok (.ireturn, 1) := by decide +kernel
theorem dL_law_797 : decode code 797 = .ok (.goto 252, 3) := by decide +kernel
theorem dL_law_800 : decode code 800 = .ok (.aload_n 1, 1) := by decide +kernel
theorem dL_law_801 : decode code 801 = .ok (.aload_n 0, 1) := by decide +kernel
theorem dL_law_802 : decode code 802 = .ok (.iload 4, 2) := by decide +kernel
theorem dL_law_804 : decode code 804 = .ok (.iconst 1, 1) := by decide +kernel
theorem dL_law_805 : decode code 805 = .ok (.iadd, 1) := by decide +kernel
theorem dL_law_806 : decode code 806 = .ok (.iaload, 1) := by decide +kernel
theorem dL_law_807 : decode code 807 = .ok (.aload_n 3, 1) := by decide +kernel
theorem dL_law_808 : decode code 808 = .ok (.invokestatic 108, 3) := by decide +kernel
theorem dL_law_811 : decode code 811 = .ok (.istore 5, 2) := by decide +kernel
theorem dL_law_813 : decode code 813 = .ok (.aload_n 2, 1) := by decide +kernel
theorem dL_law_814 : decode code 814 = .ok (.aload_n 0, 1) := by decide +kernel
theorem dL_law_815 : decode code 815 = .ok (.iload 4, 2) := by decide +kernel
theorem dL_law_817 : decode code 817 = .ok (.iconst 1, 1) := by decide +kernel
theorem dL_law_818 : decode code 818 = .ok (.iadd, 1) := by decide +kernel
theorem dL_law_819 : decode code 819 = .ok (.iaload, 1) := by decide +kernel
theorem dL_law_820 : decode code 820 = .ok (.invokevirtual 110, 3) := by decide +kernel
theorem dL_law_823 : decode code 823 = .ok (.istore 6, 2) := by decide +kernel
theorem dL_law_825 : decode code 825 = .ok (.aload_n 2, 1) := by decide +kernel
theorem dL_law_826 : decode code 826 = .ok (.invokevirtual 70, 3) := by decide +kernel
theorem dL_law_829 : decode code 829 = .ok (.iload 5, 2) := by decide +kernel
theorem dL_law_831 : decode code 831 = .ok (.if_icmp .eq 5, 3) := by decide +kernel
theorem dL_law_834 : decode code 834 = .ok (.iconst 0, 1) := by decide +kernel
theorem dL_law_835 : decode code 835 = .ok (.ireturn, 1) := by decide +kernel
theorem dL_law_836 : decode code 836 = .ok (.iload 5, 2) := by decide +kernel
theorem dL_law_838 : decode code 838 = .ok (.ifCond .ne 15, 3) := by decide +kernel
theorem dL_law_841 : decode code 841 = .ok (.aload_n 3, 1) := by decide +kernel
theorem dL_law_842 : decode code 842 = .ok (.iconst 0, 1) := by decide +kernel
theorem dL_law_843 : decode code 843 = .ok (.laload, 1) := by decide +kernel
theorem dL_law_844 : decode code 844 = .ok (.iload 6, 2) := by decide +kernel
theorem dL_law_846 : decode code 846 = .ok (.i2l, 1) := by decide +kernel
theorem dL_law_847 : decode code 847 = .ok (.lcmp, 1) := by decide +kernel
theorem dL_law_848 : decode code 848 = .ok (.ifCond .eq 5, 3) := by decide +kernel
theorem dL_law_851 : decode code 851 = .ok (.iconst 0, 1) := by decide +kernel
theorem dL_law_852 : decode code 852 = .ok (.ireturn, 1) := by decide +kernel
theorem dL_law_853 : decode code 853 = .ok (.goto 196, 3) := by decide +kernel
theorem dL_law_856 : decode code 856 = .ok (.aload_n 1, 1) := by decide +kernel
theorem dL_law_857 : decode code 857 = .ok (.aload_n 0, 1) := by decide +kernel
theorem dL_law_858 : decode code 858 = .ok (.iload 4, 2) := by decide +kernel
theorem dL_law_860 : decode code 860 = .ok (.iconst 1, 1) := by decide +kernel
theorem dL_law_861 : decode code 861 = .ok (.iadd, 1) := by decide +kernel
theorem dL_law_862 : decode code 862 = .ok (.iaload, 1) := by decide +kernel
theorem dL_law_863 : decode code 863 = .ok (.aload_n 0, 1) := by decide +kernel
theorem dL_law_864 : decode code 864 = .ok (.iload 4, 2) := by decide +kernel
theorem dL_law_866 : decode code 866 = .ok (.iconst 2, 1) := by decide +kernel
theorem dL_law_867 : decode code 867 = .ok (.iadd, 1) := by decide +kernel
theorem dL_law_868 : decode code 868 = .ok (.iaload, 1) := by decide +kernel
theorem dL_law_869 : decode code 869 = .ok (.aload_n 3, 1) := by decide +kernel
theorem dL_law_870 : decode code 870 = .ok (.invokestatic 111, 3) := by decide +kernel
theorem dL_law_873 : decode code 873 = .ok (.istore 5, 2) := by decide +kernel
theorem dL_law_875 : decode code 875 = .ok (.aload_n 2, 1) := by decide +kernel
theorem dL_law_876 : decode code 876 = .ok (.aload_n 0, 1) := by decide +kernel
theorem dL_law_877 : decode code 877 = .ok (.iload 4, 2) := by decide +kernel
theorem dL_law_879 : decode code 879 = .ok (.iconst 1, 1) := by decide +kernel
theorem dL_law_880 : decode code 880 = .ok (.iadd, 1) := by decide +kernel
theorem dL_law_881 : decode code 881 = .ok (.iaload, 1) := by decide +kernel
theorem dL_law_882 : decode code 882 = .ok (.aload_n 0, 1) := by decide +kernel
theorem dL_law_883 : decode code 883 = .ok (.iload 4, 2) := by decide +kernel
theorem dL_law_885 : decode code 885 = .ok (.iconst 2, 1) := by decide +kernel
theorem dL_law_886 : decode code 886 = .ok (.iadd, 1) := by decide +kernel
theorem dL_law_887 : decode code 887 = .ok (.iaload, 1) := by decide +kernel
theorem dL_law_888 : decode code 888 = .ok (.invokevirtual 113, 3) := by decide +kernel
theorem dL_law_891 : decode code 891 = .ok (.istore 6, 2) := by decide +kernel
theorem dL_law_893 : decode code 893 = .ok (.aload_n 2, 1) := by decide +kernel
theorem dL_law_894 : decode code 894 = .ok (.invokevirtual 70, 3) := by decide +kernel
theorem dL_law_897 : decode code 897 = .ok (.iload 5, 2) := by decide +kernel
theorem dL_law_899 : decode code 899 = .ok (.if_icmp .eq 5, 3) := by decide +kernel
theorem dL_law_902 : decode code 902 = .ok (.iconst 0, 1) := by decide +kernel
theorem dL_law_903 : decode code 903 = .ok (.ireturn, 1) := by decide +kernel
theorem dL_law_904 : decode code 904 = .ok (.iload 5, 2) := by decide +kernel
theorem dL_law_906 : decode code 906 = .ok (.ifCond .ne 15, 3) := by decide +kernel
theorem dL_law_909 : decode code 909 = .ok (.aload_n 3, 1) := by decide +kernel
theorem dL_law_910 : decode code 910 = .ok (.iconst 0, 1) := by decide +kernel
theorem dL_law_911 : decode code 911 = .ok (.laload, 1) := by decide +kernel
theorem dL_law_912 : decode code 912 = .ok (.iload 6, 2) := by decide +kernel
theorem dL_law_914 : decode code 914 = .ok (.i2l, 1) := by decide +kernel
theorem dL_law_915 : decode code 915 = .ok (.lcmp, 1) := by decide +kernel
theorem dL_law_916 : decode code 916 = .ok (.ifCond .eq 5, 3) := by decide +kernel
theorem dL_law_919 : decode code 919 = .ok (.iconst 0, 1) := by decide +kernel
theorem dL_law_920 : decode code 920 = .ok (.ireturn, 1) := by decide +kernel
theorem dL_law_921 : decode code 921 = .ok (.goto 128, 3) := by decide +kernel
theorem dL_law_924 : decode code 924 = .ok (.aload_n 1, 1) := by decide +kernel
theorem dL_law_925 : decode code 925 = .ok (.invokevirtual 114, 3) := by decide +kernel
theorem dL_law_928 : decode code 928 = .ok (.aload_n 2, 1) := by decide +kernel
theorem dL_law_929 : decode code 929 = .ok (.invokevirtual 117, 3) := by decide +kernel
theorem dL_law_932 : decode code 932 = .ok (.if_icmp .eq 117, 3) := by decide +kernel
theorem dL_law_935 : decode code 935 = .ok (.iconst 0, 1) := by decide +kernel
theorem dL_law_936 : decode code 936 = .ok (.ireturn, 1) := by decide +kernel
theorem dL_law_937 : decode code 937 = .ok (.aload_n 1, 1) := by decide +kernel
theorem dL_law_938 : decode code 938 = .ok (.aload_n 0, 1) := by decide +kernel
theorem dL_law_939 : decode code 939 = .ok (.iload 4, 2) := by decide +kernel
theorem dL_law_941 : decode code 941 = .ok (.iconst 1, 1) := by decide +kernel
theorem dL_law_942 : decode code 942 = .ok (.iadd, 1) := by decide +kernel
theorem dL_law_943 : decode code 943 = .ok (.iaload, 1) := by decide +kernel
theorem dL_law_944 : decode code 944 = .ok (.aload_n 3, 1) := by decide +kernel
theorem dL_law_945 : decode code 945 = .ok (.invokestatic 118, 3) := by decide +kernel
theorem dL_law_948 : decode code 948 = .ok (.istore 5, 2) := by decide +kernel
theorem dL_law_950 : decode code 950 = .ok (.aload_n 2, 1) := by decide +kernel
theorem dL_law_951 : decode code 951 = .ok (.aload_n 0, 1) := by decide +kernel
theorem dL_law_952 : decode code 952 = .ok (.iload 4, 2) := by decide +kernel
theorem dL_law_954 : decode code 954 = .ok (.iconst 1, 1) := by decide +kernel
theorem dL_law_955 : decode code 955 = .ok (.iadd, 1) := by decide +kernel
theorem dL_law_956 : decode code 956 = .ok (.iaload, 1) := by decide +kernel
theorem dL_law_957 : decode code 957 = .ok (.invokevirtual 120, 3) := by decide +kernel
theorem dL_law_960 : decode code 960 = .ok (.istore 6, 2) := by decide +kernel
theorem dL_law_962 : decode code 962 = .ok (.aload_n 2, 1) := by decide +kernel
theorem dL_law_963 : decode code 963 = .ok (.invokevirtual 70, 3) := by decide +kernel
theorem dL_law_966 : decode code 966 = .ok (.iload 5, 2) := by decide +kernel
theorem dL_law_968 : decode code 968 = .ok (.if_icmp .eq 5, 3) := by decide +kernel
theorem dL_law_971 : decode code 971 = .ok (.iconst 0, 1) := by decide +kernel
theorem dL_law_972 : decode code 972 = .ok (.ireturn, 1) := by decide +kernel
theorem dL_law_973 : decode code 973 = .ok (.iload 5, 2) := by decide +kernel
theorem dL_law_975 : decode code 975 = .ok (.ifCond .ne 15, 3) := by decide +kernel
theorem dL_law_978 : decode code 978 = .ok (.aload_n 3, 1) := by decide +kernel
theorem dL_law_979 : decode code 979 = .ok (.iconst 0, 1) := by decide +kernel
theorem dL_law_980 : decode code 980 = .ok (.laload, 1) := by decide +kernel
theorem dL_law_981 : decode code 981 = .ok (.iload 6, 2) := by decide +kernel
theorem dL_law_983 : decode code 983 = .ok (.i2l, 1) := by decide +kernel
theorem dL_law_984 : decode code 984 = .ok (.lcmp, 1) := by decide +kernel
theorem dL_law_985 : decode code 985 = .ok (.ifCond .eq 5, 3) := by decide +kernel
theorem dL_law_988 : decode code 988 = .ok (.iconst 0, 1) := by decide +kernel
theorem dL_law_989 : decode code 989 = .ok (.ireturn, 1) := by decide +kernel
theorem dL_law_990 : decode code 990 = .ok (.goto 59, 3) := by decide +kernel
theorem dL_law_993 : decode code 993 = .ok (.aload_n 1, 1) := by decide +kernel
theorem dL_law_994 : decode code 994 = .ok (.aload_n 0, 1) := by decide +kernel
theorem dL_law_995 : decode code 995 = .ok (.iload 4, 2) := by decide +kernel
theorem dL_law_997 : decode code 997 = .ok (.iconst 1, 1) := by decide +kernel
theorem dL_law_998 : decode code 998 = .ok (.iadd, 1) := by decide +kernel
theorem dL_law_999 : decode code 999 = .ok (.iaload, 1) := by decide +kernel
theorem dL_law_1000 : decode code 1000 = .ok (.aload_n 3, 1) := by decide +kernel
theorem dL_law_1001 : decode code 1001 = .ok (.invokestatic 121, 3) := by decide +kernel
theorem dL_law_1004 : decode code 1004 = .ok (.istore 5, 2) := by decide +kernel
theorem dL_law_1006 : decode code 1006 = .ok (.aload_n 2, 1) := by decide +kernel
theorem dL_law_1007 : decode code 1007 = .ok (.aload_n 0, 1) := by decide +kernel
theorem dL_law_1008 : decode code 1008 = .ok (.iload 4, 2) := by decide +kernel
theorem dL_law_1010 : decode code 1010 = .ok (.iconst 1, 1) := by decide +kernel
theorem dL_law_1011 : decode code 1011 = .ok (.iadd, 1) := by decide +kernel
theorem dL_law_1012 : decode code 1012 = .ok (.iaload, 1) := by decide +kernel
theorem dL_law_1013 : decode code 1013 = .ok (.invokevirtual 123, 3) := by decide +kernel
theorem dL_law_1016 : decode code 1016 = .ok (.istore 6, 2) := by decide +kernel
theorem dL_law_1018 : decode code 1018 = .ok (.aload_n 2, 1) := by decide +kernel
theorem dL_law_1019 : decode code 1019 = .ok (.invokevirtual 70, 3) := by decide +kernel
theorem dL_law_1022 : decode code 1022 = .ok (.iload 5, 2) := by decide +kernel
theorem dL_law_1024 : decode code 1024 = .ok (.if_icmp .eq 5, 3) := by decide +kernel
theorem dL_law_1027 : decode code 1027 = .ok (.iconst 0, 1) := by decide +kernel
theorem dL_law_1028 : decode code 1028 = .ok (.ireturn, 1) := by decide +kernel
theorem dL_law_1029 : decode code 1029 = .ok (.iload 5, 2) := by decide +kernel
theorem dL_law_1031 : decode code 1031 = .ok (.ifCond .ne 15, 3) := by decide +kernel
theorem dL_law_1034 : decode code 1034 = .ok (.aload_n 3, 1) := by decide +kernel
theorem dL_law_1035 : decode code 1035 = .ok (.iconst 0, 1) := by decide +kernel
theorem dL_law_1036 : decode code 1036 = .ok (.laload, 1) := by decide +kernel
theorem dL_law_1037 : decode code 1037 = .ok (.iload 6, 2) := by decide +kernel
theorem dL_law_1039 : decode code 1039 = .ok (.i2l, 1) := by decide +kernel
theorem dL_law_1040 : decode code 1040 = .ok (.lcmp, 1) := by decide +kernel
theorem dL_law_1041 : decode code 1041 = .ok (.ifCond .eq 5, 3) := by decide +kernel
theorem dL_law_1044 : decode code 1044 = .ok (.iconst 0, 1) := by decide +kernel
theorem dL_law_1045 : decode code 1045 = .ok (.ireturn, 1) := by decide +kernel
theorem dL_law_1046 : decode code 1046 = .ok (.goto 3, 3) := by decide +kernel
theorem dL_law_1049 : decode code 1049 = .ok (.iinc 4 4, 3) := by decide +kernel
theorem dL_law_1052 : decode code 1052 = .ok (.goto (-1029), 3) := by decide +kernel
theorem dL_law_1055 : decode code 1055 = .ok (.iconst 1, 1) := by decide +kernel
theorem dL_law_1056 : decode code 1056 = .ok (.ireturn, 1) := by decide +kernel
end
section
-- DECODE ROWS
theorem dM_init_0 : decode prog_6_method_1_code 0 = .ok (.aload_n 0, 1) := by decide +kernel
theorem dM_init_1 : decode prog_6_method_1_code 1 = .ok (.invokespecial 1, 3) := by decide +kernel
theorem dM_init_4 : decode prog_6_method_1_code 4 = .ok (.aload_n 0, 1) := by decide +kernel
theorem dM_init_5 : decode prog_6_method_1_code 5 = .ok (.bipush 12, 2) := by decide +kernel
theorem dM_init_7 : decode prog_6_method_1_code 7 = .ok (.newarray .int, 2) := by decide +kernel
theorem dM_init_9 : decode prog_6_method_1_code 9 = .ok (.putfield 7, 3) := by decide +kernel
theorem dM_init_12 : decode prog_6_method_1_code 12 = .ok (.aload_n 0, 1) := by decide +kernel
theorem dM_init_13 : decode prog_6_method_1_code 13 = .ok (.bipush 12, 2) := by decide +kernel
theorem dM_init_15 : decode prog_6_method_1_code 15 = .ok (.newarray .int, 2) := by decide +kernel
theorem dM_init_17 : decode prog_6_method_1_code 17 = .ok (.putfield 13, 3) := by decide +kernel
theorem dM_init_20 : decode prog_6_method_1_code 20 = .ok (.aload_n 0, 1) := by decide +kernel
theorem dM_init_21 : decode prog_6_method_1_code 21 = .ok (.bipush 12, 2) := by decide +kernel
theorem dM_init_23 : decode prog_6_method_1_code 23 = .ok (.newarray .int, 2) := by decide +kernel
theorem dM_init_25 : decode prog_6_method_1_code 25 = .ok (.putfield 16, 3) := by decide +kernel
theorem dM_init_28 : decode prog_6_method_1_code 28 = .ok (.aload_n 0, 1) := by decide +kernel
theorem dM_init_29 : decode prog_6_method_1_code 29 = .ok (.bipush 96, 2) := by decide +kernel
theorem dM_init_31 : decode prog_6_method_1_code 31 = .ok (.newarray .int, 2) := by decide +kernel
theorem dM_init_33 : decode prog_6_method_1_code 33 = .ok (.putfield 19, 3) := by decide +kernel
theorem dM_init_36 : decode prog_6_method_1_code 36 = .ok (.aload_n 0, 1) := by decide +kernel
theorem dM_init_37 : decode prog_6_method_1_code 37 = .ok (.bipush 96, 2) := by decide +kernel
theorem dM_init_39 : decode prog_6_method_1_code 39 = .ok (.newarray .int, 2) := by decide +kernel
theorem dM_init_41 : decode prog_6_method_1_code 41 = .ok (.putfield 22, 3) := by decide +kernel
theorem dM_init_44 : decode prog_6_method_1_code 44 = .ok (.aload_n 0, 1) := by decide +kernel
theorem dM_init_45 : decode prog_6_method_1_code 45 = .ok (.bipush 10, 2) := by decide +kernel
theorem dM_init_47 : decode prog_6_method_1_code 47 = .ok (.newarray .int, 2) := by decide +kernel
theorem dM_init_49 : decode prog_6_method_1_code 49 = .ok (.putfield 25, 3) := by decide +kernel
theorem dM_init_52 : decode prog_6_method_1_code 52 = .ok (.aload_n 0, 1) := by decide +kernel
theorem dM_init_53 : decode prog_6_method_1_code 53 = .ok (.bipush 10, 2) := by decide +kernel
theorem dM_init_55 : decode prog_6_method_1_code 55 = .ok (.newarray .int, 2) := by decide +kernel
theorem dM_init_57 : decode prog_6_method_1_code 57 = .ok (.putfield 28, 3) := by decide +kernel
theorem dM_init_60 : decode prog_6_method_1_code 60 = .ok (.aload_n 0, 1) := by decide +kernel
theorem dM_init_61 : decode prog_6_method_1_code 61 = .ok (.bipush 40, 2) := by decide +kernel
theorem dM_init_63 : decode prog_6_method_1_code 63 = .ok (.newarray .long, 2) := by decide +kernel
theorem dM_init_65 : decode prog_6_method_1_code 65 = .ok (.putfield 31, 3) := by decide +kernel
theorem dM_init_68 : decode prog_6_method_1_code 68 = .ok (.aload_n 0, 1) := by decide +kernel
theorem dM_init_69 : decode prog_6_method_1_code 69 = .ok (.bipush 40, 2) := by decide +kernel
theorem dM_init_71 : decode prog_6_method_1_code 71 = .ok (.newarray .long, 2) := by decide +kernel
theorem dM_init_73 : decode prog_6_method_1_code 73 = .ok (.putfield 35, 3) := by decide +kernel
theorem dM_init_76 : decode prog_6_method_1_code 76 = .ok (.aload_n 0, 1) := by decide +kernel
theorem dM_init_77 : decode prog_6_method_1_code 77 = .ok (.iconst 4, 1) := by decide +kernel
theorem dM_init_78 : decode prog_6_method_1_code 78 = .ok (.newarray .int, 2) := by decide +kernel
theorem dM_init_80 : decode prog_6_method_1_code 80 = .ok (.putfield 38, 3) := by decide +kernel
theorem dM_init_83 : decode prog_6_method_1_code 83 = .ok (.aload_n 0, 1) := by decide +kernel
theorem dM_init_84 : decode prog_6_method_1_code 84 = .ok (.iconst 4, 1) := by decide +kernel
theorem dM_init_85 : decode prog_6_method_1_code 85 = .ok (.newarray .int, 2) := by decide +kernel
theorem dM_init_87 : decode prog_6_method_1_code 87 = .ok (.putfield 41, 3) := by decide +kernel
theorem dM_init_90 : decode prog_6_method_1_code 90 = .ok (.aload_n 0, 1) := by decide +kernel
theorem dM_init_91 : decode prog_6_method_1_code 91 = .ok (.sipush 10000, 3) := by decide +kernel
theorem dM_init_94 : decode prog_6_method_1_code 94 = .ok (.putfield 44, 3) := by decide +kernel
theorem dM_init_97 : decode prog_6_method_1_code 97 = .ok (.aload_n 0, 1) := by decide +kernel
theorem dM_init_98 : decode prog_6_method_1_code 98 = .ok (.bipush 10, 2) := by decide +kernel
theorem dM_init_100 : decode prog_6_method_1_code 100 = .ok (.newarray .int, 2) := by decide +kernel
theorem dM_init_102 : decode prog_6_method_1_code 102 = .ok (.putfield 48, 3) := by decide +kernel
theorem dM_init_105 : decode prog_6_method_1_code 105 = .ok (.aload_n 0, 1) := by decide +kernel
theorem dM_init_106 : decode prog_6_method_1_code 106 = .ok (.bipush 10, 2) := by decide +kernel
theorem dM_init_108 : decode prog_6_method_1_code 108 = .ok (.newarray .int, 2) := by decide +kernel
theorem dM_init_110 : decode prog_6_method_1_code 110 = .ok (.putfield 51, 3) := by decide +kernel
theorem dM_init_113 : decode prog_6_method_1_code 113 = .ok (.aload_n 0, 1) := by decide +kernel
theorem dM_init_114 : decode prog_6_method_1_code 114 = .ok (.bipush 10, 2) := by decide +kernel
theorem dM_init_116 : decode prog_6_method_1_code 116 = .ok (.newarray .int, 2) := by decide +kernel
theorem dM_init_118 : decode prog_6_method_1_code 118 = .ok (.putfield 54, 3) := by decide +kernel
theorem dM_init_121 : decode prog_6_method_1_code 121 = .ok (.return_, 1) := by decide +kernel
theorem dM_thrown_0 : decode prog_6_method_2_code 0 = .ok (.aload_n 0, 1) := by decide +kernel
theorem dM_thrown_1 : decode prog_6_method_2_code 1 = .ok (.getfield 57, 3) := by decide +kernel
theorem dM_thrown_4 : decode prog_6_method_2_code 4 = .ok (.ireturn, 1) := by decide +kernel
theorem dM_wall_0 : decode prog_6_method_6_code 0 = .ok (.aload_n 0, 1) := by decide +kernel
theorem dM_wall_1 : decode prog_6_method_6_code 1 = .ok (.iload_n 1, 1) := by decide +kernel
theorem dM_wall_2 : decode prog_6_method_6_code 2 = .ok (.i2l, 1) := by decide +kernel
theorem dM_wall_3 : decode prog_6_method_6_code 3 = .ok (.lconst 1, 1) := by decide +kernel
theorem dM_wall_4 : decode prog_6_method_6_code 4 = .ok (.ldc2_w 69, 3) := by decide +kernel
theorem dM_wall_7 : decode prog_6_method_6_code 7 = .ok (.invokestatic 63, 3) := by decide +kernel
theorem dM_wall_10 : decode prog_6_method_6_code 10 = .ok (.ifCond .eq 15, 3) := by decide +kernel
theorem dM_wall_13 : decode prog_6_method_6_code 13 = .ok (.iload_n 2, 1) := by decide +kernel
theorem dM_wall_14 : decode prog_6_method_6_code 14 = .ok (.i2l, 1) := by decide +kernel
theorem dM_wall_15 : decode prog_6_method_6_code 15 = .ok (.lconst 1, 1) := by decide +kernel
theorem dM_wall_16 : decode prog_6_method_6_code 16 = .ok (.ldc2_w 69, 3) := by decide +kernel
theorem dM_wall_19 : decode prog_6_method_6_code 19 = .ok (.invokestatic 63, 3) := by decide +kernel
theorem dM_wall_22 : decode prog_6_method_6_code 22 = .ok (.ifCond .ne 7, 3) := by decide +kernel
theorem dM_wall_25 : decode prog_6_method_6_code 25 = .ok (.iconst 1, 1) := by decide +kernel
theorem dM_wall_26 : decode prog_6_method_6_code 26 = .ok (.goto 17, 3) := by decide +kernel
theorem dM_wall_29 : decode prog_6_method_6_code 29 = .ok (.aload_n 0, 1) := by decide +kernel
theorem dM_wall_30 : decode prog_6_method_6_code 30 = .ok (.getfield 60, 3) := by decide +kernel
theorem dM_wall_33 : decode prog_6_method_6_code 33 = .ok (.bipush 12, 2) := by decide +kernel
theorem dM_wall_35 : decode prog_6_method_6_code 35 = .ok (.if_icmp .ne 7, 3) := by decide +kernel
theorem dM_wall_38 : decode prog_6_method_6_code 38 = .ok (.iconst 2, 1) := by decide +kernel
theorem dM_wall_39 : decode prog_6_method_6_code 39 = .ok (.goto 4, 3) := by decide +kernel
theorem dM_wall_42 : decode prog_6_method_6_code 42 = .ok (.iconst 0, 1) := by decide +kernel
theorem dM_wall_43 : decode prog_6_method_6_code 43 = .ok (.putfield 57, 3) := by decide +kernel
theorem dM_wall_46 : decode prog_6_method_6_code 46 = .ok (.aload_n 0, 1) := by decide +kernel
theorem dM_wall_47 : decode prog_6_method_6_code 47 = .ok (.getfield 57, 3) := by decide +kernel
theorem dM_wall_50 : decode prog_6_method_6_code 50 = .ok (.ifCond .le 5, 3) := by decide +kernel
theorem dM_wall_53 : decode prog_6_method_6_code 53 = .ok (.iconst 0, 1) := by decide +kernel
theorem dM_wall_54 : decode prog_6_method_6_code 54 = .ok (.ireturn, 1) := by decide +kernel
theorem dM_wall_55 : decode prog_6_method_6_code 55 = .ok (.aload_n 0, 1) := by decide +kernel
theorem dM_wall_56 : decode prog_6_method_6_code 56 = .ok (.getfield 7, 3) := by decide +kernel
theorem dM_wall_59 : decode prog_6_method_6_code 59 = .ok (.aload_n 0, 1) := by decide +kernel
theorem dM_wall_60 : decode prog_6_method_6_code 60 = .ok (.getfield 60, 3) := by decide +kernel
theorem dM_wall_63 : decode prog_6_method_6_code 63 = .ok (.iload_n 1, 1) := by decide +kernel
theorem dM_wall_64 : decode prog_6_method_6_code 64 = .ok (.iload_n 2, 1) := by decide +kernel
theorem dM_wall_65 : decode prog_6_method_6_code 65 = .ok (.imul, 1) := by decide +kernel
theorem dM_wall_66 : decode prog_6_method_6_code 66 = .ok (.iastore, 1) := by decide +kernel
theorem dM_wall_67 : decode prog_6_method_6_code 67 = .ok (.aload_n 0, 1) := by decide +kernel
theorem dM_wall_68 : decode prog_6_method_6_code 68 = .ok (.dup, 1) := by decide +kernel
theorem dM_wall_69 : decode prog_6_method_6_code 69 = .ok (.getfield 60, 3) := by decide +kernel
theorem dM_wall_72 : decode prog_6_method_6_code 72 = .ok (.iconst 1, 1) := by decide +kernel
theorem dM_wall_73 : decode prog_6_method_6_code 73 = .ok (.iadd, 1) := by decide +kernel
theorem dM_wall_74 : decode prog_6_method_6_code 74 = .ok (.putfield 60, 3) := by decide +kernel
theorem dM_wall_77 : decode prog_6_method_6_code 77 = .ok (.aload_n 0, 1) := by decide +kernel
theorem dM_wall_78 : decode prog_6_method_6_code 78 = .ok (.getfield 60, 3) := by decide +kernel
theorem dM_wall_81 : decode prog_6_method_6_code 81 = .ok (.iconst 1, 1) := by decide +kernel
theorem dM_wall_82 : decode prog_6_method_6_code 82 = .ok (.isub, 1) := by decide +kernel
theorem dM_wall_83 : decode prog_6_method_6_code 83 = .ok (.ireturn, 1) := by decide +kernel
theorem dM_isIn_0 : decode prog_6_method_3_code 0 = .ok (.lload_n 0, 1) := by decide +kernel
theorem dM_isIn_1 : decode prog_6_method_3_code 1 = .ok (.lload_n 2, 1) := by decide +kernel
theorem dM_isIn_2 : decode prog_6_method_3_code 2 = .ok (.lcmp, 1) := by decide +kernel
theorem dM_isIn_3 : decode prog_6_method_3_code 3 = .ok (.ifCond .lt 14, 3) := by decide +kernel
theorem dM_isIn_6 : decode prog_6_method_3_code 6 = .ok (.lload_n 0, 1) := by decide +kernel
theorem dM_isIn_7 : decode prog_6_method_3_code 7 = .ok (.lload 4, 2) := by decide +kernel
theorem dM_isIn_9 : decode prog_6_method_3_code 9 = .ok (.lcmp, 1) := by decide +kernel
theorem dM_isIn_10 : decode prog_6_method_3_code 10 = .ok (.ifCond .gt 7, 3) := by decide +kernel
theorem dM_isIn_13 : decode prog_6_method_3_code 13 = .ok (.iconst 1, 1) := by decide +kernel
theorem dM_isIn_14 : decode prog_6_method_3_code 14 = .ok (.goto 4, 3) := by decide +kernel
theorem dM_isIn_17 : decode prog_6_method_3_code 17 = .ok (.iconst 0, 1) := by decide +kernel
theorem dM_isIn_18 : decode prog_6_method_3_code 18 = .ok (.ireturn, 1) := by decide +kernel
theorem dM_opening_0 : decode prog_6_method_7_code 0 = .ok (.aload_n 0, 1) := by decide +kernel
theorem dM_opening_1 : decode prog_6_method_7_code 1 = .ok (.iload_n 1, 1) := by decide +kernel
theorem dM_opening_2 : decode prog_6_method_7_code 2 = .ok (.invokevirtual 71, 3) := by decide +kernel
theorem dM_opening_5 : decode prog_6_method_7_code 5 = .ok (.ifCond .eq 31, 3) := by decide +kernel
theorem dM_opening_8 : decode prog_6_method_7_code 8 = .ok (.iload_n 2, 1) := by decide +kernel
theorem dM_opening_9 : decode prog_6_method_7_code 9 = .ok (.i2l, 1) := by decide +kernel
theorem dM_opening_10 : decode prog_6_method_7_code 10 = .ok (.lconst 1, 1) := by decide +kernel
theorem dM_opening_11 : decode prog_6_method_7_code 11 = .ok (.ldc2_w 69, 3) := by decide +kernel
theorem dM_opening_14 : decode prog_6_method_7_code 14 = .ok (.invokestatic 63, 3) := by decide +kernel
theorem dM_opening_17 : decode prog_6_method_7_code 17 = .ok (.ifCond .eq 19, 3) := by decide +kernel
theorem dM_opening_20 : decode prog_6_method_7_code 20 = .ok (.iload_n 3, 1) := by decide +kernel
theorem dM_opening_21 : decode prog_6_method_7_code 21 = .ok (.i2l, 1) := by decide +kernel
theorem dM_opening_22 : decode prog_6_method_7_code 22 = .ok (.lconst 1, 1) := by decide +kernel
theorem dM_opening_23 : decode prog_6_method_7_code 23 = .ok (.ldc2_w 69, 3) := by decide +kernel
theorem dM_opening_26 : decode prog_6_method_7_code 26 = .ok (.invokestatic 63, 3) := by decide +kernel
theorem dM_opening_29 : decode prog_6_method_7_code 29 = .ok (.ifCond .eq 7, 3) := by decide +kernel
theorem dM_opening_32 : decode prog_6_method_7_code 32 = .ok (.iconst 1, 1) := by decide +kernel
theorem dM_opening_33 : decode prog_6_method_7_code 33 = .ok (.goto 4, 3) := by decide +kernel
theorem dM_opening_36 : decode prog_6_method_7_code 36 = .ok (.iconst 0, 1) := by decide +kernel
theorem dM_opening_37 : decode prog_6_method_7_code 37 = .ok (.istore 4, 2) := by decide +kernel
theorem dM_opening_39 : decode prog_6_method_7_code 39 = .ok (.aload_n 0, 1) := by decide +kernel
theorem dM_opening_40 : decode prog_6_method_7_code 40 = .ok (.iload 4, 2) := by decide +kernel
theorem dM_opening_42 : decode prog_6_method_7_code 42 = .ok (.ifCond .ne 7, 3) := by decide +kernel
theorem dM_opening_45 : decode prog_6_method_7_code 45 = .ok (.iconst 1, 1) := by decide +kernel
theorem dM_opening_46 : decode prog_6_method_7_code 46 = .ok (.goto 31, 3) := by decide +kernel
theorem dM_opening_49 : decode prog_6_method_7_code 49 = .ok (.aload_n 0, 1) := by decide +kernel
theorem dM_opening_50 : decode prog_6_method_7_code 50 = .ok (.getfield 13, 3) := by decide +kernel
theorem dM_opening_53 : decode prog_6_method_7_code 53 = .ok (.iload_n 1, 1) := by decide +kernel
theorem dM_opening_54 : decode prog_6_method_7_code 54 = .ok (.iaload, 1) := by decide +kernel
theorem dM_opening_55 : decode prog_6_method_7_code 55 = .ok (.bipush 6, 2) := by decide +kernel
theorem dM_opening_57 : decode prog_6_method_7_code 57 = .ok (.if_icmp .eq 15, 3) := by decide +kernel
theorem dM_opening_60 : decode prog_6_method_7_code 60 = .ok (.aload_n 0, 1) := by decide +kernel
theorem dM_opening_61 : decode prog_6_method_7_code 61 = .ok (.getfield 7, 3) := by decide +kernel
theorem dM_opening_64 : decode prog_6_method_7_code 64 = .ok (.iload_n 1, 1) := by decide +kernel
theorem dM_opening_65 : decode prog_6_method_7_code 65 = .ok (.iaload, 1) := by decide +kernel
theorem dM_opening_66 : decode prog_6_method_7_code 66 = .ok (.iload_n 2, 1) := by decide +kernel
theorem dM_opening_67 : decode prog_6_method_7_code 67 = .ok (.iload_n 3, 1) := by decide +kernel
theorem dM_opening_68 : decode prog_6_method_7_code 68 = .ok (.imul, 1) := by decide +kernel
theorem dM_opening_69 : decode prog_6_method_7_code 69 = .ok (.if_icmp .ge 7, 3) := by decide +kernel
theorem dM_opening_72 : decode prog_6_method_7_code 72 = .ok (.iconst 2, 1) := by decide +kernel
theorem dM_opening_73 : decode prog_6_method_7_code 73 = .ok (.goto 4, 3) := by decide +kernel
theorem dM_opening_76 : decode prog_6_method_7_code 76 = .ok (.iconst 0, 1) := by decide +kernel
theorem dM_opening_77 : decode prog_6_method_7_code 77 = .ok (.putfield 57, 3) := by decide +kernel
theorem dM_opening_80 : decode prog_6_method_7_code 80 = .ok (.aload_n 0, 1) := by decide +kernel
theorem dM_opening_81 : decode prog_6_method_7_code 81 = .ok (.getfield 57, 3) := by decide +kernel
theorem dM_opening_84 : decode prog_6_method_7_code 84 = .ok (.ifCond .le 5, 3) := by decide +kernel
theorem dM_opening_87 : decode prog_6_method_7_code 87 = .ok (.iconst 0, 1) := by decide +kernel
theorem dM_opening_88 : decode prog_6_method_7_code 88 = .ok (.ireturn, 1) := by decide +kernel
theorem dM_opening_89 : decode prog_6_method_7_code 89 = .ok (.aload_n 0, 1) := by decide +kernel
theorem dM_opening_90 : decode prog_6_method_7_code 90 = .ok (.getfield 7, 3) := by decide +kernel
theorem dM_opening_93 : decode prog_6_method_7_code 93 = .ok (.iload_n 1, 1) := by decide +kernel
theorem dM_opening_94 : decode prog_6_method_7_code 94 = .ok (.dup2, 1) := by decide +kernel
theorem dM_opening_95 : decode prog_6_method_7_code 95 = .ok (.iaload, 1) := by decide +kernel
theorem dM_opening_96 : decode prog_6_method_7_code 96 = .ok (.iload_n 2, 1) := by decide +kernel
theorem dM_opening_97 : decode prog_6_method_7_code 97 = .ok (.iload_n 3, 1) := by decide +kernel
theorem dM_opening_98 : decode prog_6_method_7_code 98 = .ok (.imul, 1) := by decide +kernel
theorem dM_opening_99 : decode prog_6_method_7_code 99 = .ok (.isub, 1) := by decide +kernel
theorem dM_opening_100 : decode prog_6_method_7_code 100 = .ok (.iastore, 1) := by decide +kernel
theorem dM_opening_101 : decode prog_6_method_7_code 101 = .ok (.aload_n 0, 1) := by decide +kernel
theorem dM_opening_102 : decode prog_6_method_7_code 102 = .ok (.getfield 13, 3) := by decide +kernel
theorem dM_opening_105 : decode prog_6_method_7_code 105 = .ok (.iload_n 1, 1) := by decide +kernel
theorem dM_opening_106 : decode prog_6_method_7_code 106 = .ok (.dup2, 1) := by decide +kernel
theorem dM_opening_107 : decode prog_6_method_7_code 107 = .ok (.iaload, 1) := by decide +kernel
theorem dM_opening_108 : decode prog_6_method_7_code 108 = .ok (.iconst 1, 1) := by decide +kernel
theorem dM_opening_109 : decode prog_6_method_7_code 109 = .ok (.iadd, 1) := by decide +kernel
theorem dM_opening_110 : decode prog_6_method_7_code 110 = .ok (.iastore, 1) := by decide +kernel
theorem dM_opening_111 : decode prog_6_method_7_code 111 = .ok (.aload_n 0, 1) := by decide +kernel
theorem dM_opening_112 : decode prog_6_method_7_code 112 = .ok (.getfield 7, 3) := by decide +kernel
theorem dM_opening_115 : decode prog_6_method_7_code 115 = .ok (.iload_n 1, 1) := by decide +kernel
theorem dM_opening_116 : decode prog_6_method_7_code 116 = .ok (.iaload, 1) := by decide +kernel
theorem dM_opening_117 : decode prog_6_method_7_code 117 = .ok (.ireturn, 1) := by decide +kernel
theorem dM_isWall_0 : decode prog_6_method_4_code 0 = .ok (.iload_n 1, 1) := by decide +kernel
theorem dM_isWall_1 : decode prog_6_method_4_code 1 = .ok (.i2l, 1) := by decide +kernel
theorem dM_isWall_2 : decode prog_6_method_4_code 2 = .ok (.lconst 0, 1) := by decide +kernel
theorem dM_isWall_3 : decode prog_6_method_4_code 3 = .ok (.aload_n 0, 1) := by decide +kernel
theorem dM_isWall_4 : decode prog_6_method_4_code 4 = .ok (.getfield 60, 3) := by decide +kernel
theorem dM_isWall_7 : decode prog_6_method_4_code 7 = .ok (.iconst 1, 1) := by decide +kernel
theorem dM_isWall_8 : decode prog_6_method_4_code 8 = .ok (.isub, 1) := by decide +kernel
theorem dM_isWall_9 : decode prog_6_method_4_code 9 = .ok (.i2l, 1) := by decide +kernel
theorem dM_isWall_10 : decode prog_6_method_4_code 10 = .ok (.invokestatic 63, 3) := by decide +kernel
theorem dM_isWall_13 : decode prog_6_method_4_code 13 = .ok (.ireturn, 1) := by decide +kernel
theorem dM_layer_0 : decode prog_6_method_8_code 0 = .ok (.aload_n 0, 1) := by decide +kernel
theorem dM_layer_1 : decode prog_6_method_8_code 1 = .ok (.aload_n 0, 1) := by decide +kernel
theorem dM_layer_2 : decode prog_6_method_8_code 2 = .ok (.iload_n 1, 1) := by decide +kernel
theorem dM_layer_3 : decode prog_6_method_8_code 3 = .ok (.invokevirtual 71, 3) := by decide +kernel
theorem dM_layer_6 : decode prog_6_method_8_code 6 = .ok (.ifCond .eq 22, 3) := by decide +kernel
theorem dM_layer_9 : decode prog_6_method_8_code 9 = .ok (.iload_n 2, 1) := by decide +kernel
theorem dM_layer_10 : decode prog_6_method_8_code 10 = .ok (.invokestatic 75, 3) := by decide +kernel
theorem dM_layer_13 : decode prog_6_method_8_code 13 = .ok (.ifCond .eq 15, 3) := by decide +kernel
theorem dM_layer_16 : decode prog_6_method_8_code 16 = .ok (.iload_n 3, 1) := by decide +kernel
theorem dM_layer_17 : decode prog_6_method_8_code 17 = .ok (.i2l, 1) := by decide +kernel
theorem dM_layer_18 : decode prog_6_method_8_code 18 = .ok (.lconst 1, 1) := by decide +kernel
theorem dM_layer_19 : decode prog_6_method_8_code 19 = .ok (.ldc2_w 78, 3) := by decide +kernel
theorem dM_layer_22 : decode prog_6_method_8_code 22 = .ok (.invokestatic 63, 3) := by decide +kernel
theorem dM_layer_25 : decode prog_6_method_8_code 25 = .ok (.ifCond .ne 7, 3) := by decide +kernel
theorem dM_layer_28 : decode prog_6_method_8_code 28 = .ok (.iconst 1, 1) := by decide +kernel
theorem dM_layer_29 : decode prog_6_method_8_code 29 = .ok (.goto 19, 3) := by decide +kernel
theorem dM_layer_32 : decode prog_6_method_8_code 32 = .ok (.aload_n 0, 1) := by decide +kernel
theorem dM_layer_33 : decode prog_6_method_8_code 33 = .ok (.getfield 16, 3) := by decide +kernel
theorem dM_layer_36 : decode prog_6_method_8_code 36 = .ok (.iload_n 1, 1) := by decide +kernel
theorem dM_layer_37 : decode prog_6_method_8_code 37 = .ok (.iaload, 1) := by decide +kernel
theorem dM_layer_38 : decode prog_6_method_8_code 38 = .ok (.bipush 8, 2) := by decide +kernel
theorem dM_layer_40 : decode prog_6_method_8_code 40 = .ok (.if_icmp .ne 7, 3) := by decide +kernel
theorem dM_layer_43 : decode prog_6_method_8_code 43 = .ok (.iconst 2, 1) := by decide +kernel
theorem dM_layer_44 : decode prog_6_method_8_code 44 = .ok (.goto 4, 3) := by decide +kernel
theorem dM_layer_47 : decode prog_6_method_8_code 47 = .ok (.iconst 0, 1) := by decide +kernel
theorem dM_layer_48 : decode prog_6_method_8_code 48 = .ok (.putfield 57, 3) := by decide +kernel
theorem dM_layer_51 : decode prog_6_method_8_code 51 = .ok (.aload_n 0, 1) := by decide +kernel
theorem dM_layer_52 : decode prog_6_method_8_code 52 = .ok (.getfield 57, 3) := by decide +kernel
theorem dM_layer_55 : decode prog_6_method_8_code 55 = .ok (.ifCond .le 5, 3) := by decide +kernel
theorem dM_layer_58 : decode prog_6_method_8_code 58 = .ok (.iconst 0, 1) := by decide +kernel
theorem dM_layer_59 : decode prog_6_method_8_code 59 = .ok (.ireturn, 1) := by decide +kernel
theorem dM_layer_60 : decode prog_6_method_8_code 60 = .ok (.aload_n 0, 1) := by decide +kernel
theorem dM_layer_61 : decode prog_6_method_8_code 61 = .ok (.getfield 19, 3) := by decide +kernel
theorem dM_layer_64 : decode prog_6_method_8_code 64 = .ok (.bipush 8, 2) := by decide +kernel
theorem dM_layer_66 : decode prog_6_method_8_code 66 = .ok (.iload_n 1, 1) := by decide +kernel
theorem dM_layer_67 : decode prog_6_method_8_code 67 = .ok (.imul, 1) := by decide +kernel
theorem dM_layer_68 : decode prog_6_method_8_code 68 = .ok (.aload_n 0, 1) := by decide +kernel
theorem dM_layer_69 : decode prog_6_method_8_code 69 = .ok (.getfield 16, 3) := by decide +kernel
theorem dM_layer_72 : decode prog_6_method_8_code 72 = .ok (.iload_n 1, 1) := by decide +kernel
theorem dM_layer_73 : decode prog_6_method_8_code 73 = .ok (.iaload, 1) := by decide +kernel
theorem dM_layer_74 : decode prog_6_method_8_code 74 = .ok (.iadd, 1) := by decide +kernel
theorem dM_layer_75 : decode prog_6_method_8_code 75 = .ok (.iload_n 2, 1) := by decide +kernel
theorem dM_layer_76 : decode prog_6_method_8_code 76 = .ok (.iastore, 1) := by decide +kernel
theorem dM_layer_77 : decode prog_6_method_8_code 77 = .ok (.aload_n 0, 1) := by decide +kernel
theorem dM_layer_78 : decode prog_6_method_8_code 78 = .ok (.getfield 22, 3) := by decide +kernel
theorem dM_layer_81 : decode prog_6_method_8_code 81 = .ok (.bipush 8, 2) := by decide +kernel
theorem dM_layer_83 : decode prog_6_method_8_code 83 = .ok (.iload_n 1, 1) := by decide +kernel
theorem dM_layer_84 : decode prog_6_method_8_code 84 = .ok (.imul, 1) := by decide +kernel
theorem dM_layer_85 : decode prog_6_method_8_code 85 = .ok (.aload_n 0, 1) := by decide +kernel
theorem dM_layer_86 : decode prog_6_method_8_code 86 = .ok (.getfield 16, 3) := by decide +kernel
theorem dM_layer_89 : decode prog_6_method_8_code 89 = .ok (.iload_n 1, 1) := by decide +kernel
theorem dM_layer_90 : decode prog_6_method_8_code 90 = .ok (.iaload, 1) := by decide +kernel
theorem dM_layer_91 : decode prog_6_method_8_code 91 = .ok (.iadd, 1) := by decide +kernel
theorem dM_layer_92 : decode prog_6_method_8_code 92 = .ok (.iload_n 3, 1) := by decide +kernel
theorem dM_layer_93 : decode prog_6_method_8_code 93 = .ok (.iastore, 1) := by decide +kernel
theorem dM_layer_94 : decode prog_6_method_8_code 94 = .ok (.aload_n 0, 1) := by decide +kernel
theorem dM_layer_95 : decode prog_6_method_8_code 95 = .ok (.getfield 16, 3) := by decide +kernel
theorem dM_layer_98 : decode prog_6_method_8_code 98 = .ok (.iload_n 1, 1) := by decide +kernel
theorem dM_layer_99 : decode prog_6_method_8_code 99 = .ok (.dup2, 1) := by decide +kernel
theorem dM_layer_100 : decode prog_6_method_8_code 100 = .ok (.iaload, 1) := by decide +kernel
theorem dM_layer_101 : decode prog_6_method_8_code 101 = .ok (.iconst 1, 1) := by decide +kernel
theorem dM_layer_102 : decode prog_6_method_8_code 102 = .ok (.iadd, 1) := by decide +kernel
theorem dM_layer_103 : decode prog_6_method_8_code 103 = .ok (.iastore, 1) := by decide +kernel
theorem dM_layer_104 : decode prog_6_method_8_code 104 = .ok (.aload_n 0, 1) := by decide +kernel
theorem dM_layer_105 : decode prog_6_method_8_code 105 = .ok (.getfield 16, 3) := by decide +kernel
theorem dM_layer_108 : decode prog_6_method_8_code 108 = .ok (.iload_n 1, 1) := by decide +kernel
theorem dM_layer_109 : decode prog_6_method_8_code 109 = .ok (.iaload, 1) := by decide +kernel
theorem dM_layer_110 : decode prog_6_method_8_code 110 = .ok (.ireturn, 1) := by decide +kernel
theorem dM_isStuff_0 : decode prog_6_method_5_code 0 = .ok (.iload_n 0, 1) := by decide +kernel
theorem dM_isStuff_1 : decode prog_6_method_5_code 1 = .ok (.i2l, 1) := by decide +kernel
theorem dM_isStuff_2 : decode prog_6_method_5_code 2 = .ok (.lconst 0, 1) := by decide +kernel
theorem dM_isStuff_3 : decode prog_6_method_5_code 3 = .ok (.ldc2_w 67, 3) := by decide +kernel
theorem dM_isStuff_6 : decode prog_6_method_5_code 6 = .ok (.invokestatic 63, 3) := by decide +kernel
theorem dM_isStuff_9 : decode prog_6_method_5_code 9 = .ok (.ireturn, 1) := by decide +kernel
theorem dM_waste_0 : decode prog_6_method_9_code 0 = .ok (.aload_n 0, 1) := by decide +kernel
theorem dM_waste_1 : decode prog_6_method_9_code 1 = .ok (.iload_n 1, 1) := by decide +kernel
theorem dM_waste_2 : decode prog_6_method_9_code 2 = .ok (.invokestatic 75, 3) := by decide +kernel
theorem dM_waste_5 : decode prog_6_method_9_code 5 = .ok (.ifCond .eq 19, 3) := by decide +kernel
theorem dM_waste_8 : decode prog_6_method_9_code 8 = .ok (.iload_n 2, 1) := by decide +kernel
theorem dM_waste_9 : decode prog_6_method_9_code 9 = .ok (.i2l, 1) := by decide +kernel
theorem dM_waste_10 : decode prog_6_method_9_code 10 = .ok (.lconst 0, 1) := by decide +kernel
theorem dM_waste_11 : decode prog_6_method_9_code 11 = .ok (.ldc2_w 80, 3) := by decide +kernel
theorem dM_waste_14 : decode prog_6_method_9_code 14 = .ok (.invokestatic 63, 3) := by decide +kernel
theorem dM_waste_17 : decode prog_6_method_9_code 17 = .ok (.ifCond .eq 7, 3) := by decide +kernel
theorem dM_waste_20 : decode prog_6_method_9_code 20 = .ok (.iconst 0, 1) := by decide +kernel
theorem dM_waste_21 : decode prog_6_method_9_code 21 = .ok (.goto 4, 3) := by decide +kernel
theorem dM_waste_24 : decode prog_6_method_9_code 24 = .ok (.iconst 1, 1) := by decide +kernel
theorem dM_waste_25 : decode prog_6_method_9_code 25 = .ok (.putfield 57, 3) := by decide +kernel
theorem dM_waste_28 : decode prog_6_method_9_code 28 = .ok (.aload_n 0, 1) := by decide +kernel
theorem dM_waste_29 : decode prog_6_method_9_code 29 = .ok (.getfield 57, 3) := by decide +kernel
theorem dM_waste_32 : decode prog_6_method_9_code 32 = .ok (.ifCond .le 5, 3) := by decide +kernel
theorem dM_waste_35 : decode prog_6_method_9_code 35 = .ok (.iconst 0, 1) := by decide +kernel
theorem dM_waste_36 : decode prog_6_method_9_code 36 = .ok (.ireturn, 1) := by decide +kernel
theorem dM_waste_37 : decode prog_6_method_9_code 37 = .ok (.aload_n 0, 1) := by decide +kernel
theorem dM_waste_38 : decode prog_6_method_9_code 38 = .ok (.getfield 25, 3) := by decide +kernel
theorem dM_waste_41 : decode prog_6_method_9_code 41 = .ok (.iload_n 1, 1) := by decide +kernel
theorem dM_waste_42 : decode prog_6_method_9_code 42 = .ok (.iaload, 1) := by decide +kernel
theorem dM_waste_43 : decode prog_6_method_9_code 43 = .ok (.istore_n 3, 1) := by decide +kernel
theorem dM_waste_44 : decode prog_6_method_9_code 44 = .ok (.aload_n 0, 1) := by decide +kernel
theorem dM_waste_45 : decode prog_6_method_9_code 45 = .ok (.getfield 25, 3) := by decide +kernel
theorem dM_waste_48 : decode prog_6_method_9_code 48 = .ok (.iload_n 1, 1) := by decide +kernel
theorem dM_waste_49 : decode prog_6_method_9_code 49 = .ok (.iload_n 2, 1) := by decide +kernel
theorem dM_waste_50 : decode prog_6_method_9_code 50 = .ok (.iastore, 1) := by decide +kernel
theorem dM_waste_51 : decode prog_6_method_9_code 51 = .ok (.iload_n 3, 1) := by decide +kernel
theorem dM_waste_52 : decode prog_6_method_9_code 52 = .ok (.ireturn, 1) := by decide +kernel
theorem dM_told_0 : decode prog_6_method_10_code 0 = .ok (.aload_n 0, 1) := by decide +kernel
theorem dM_told_1 : decode prog_6_method_10_code 1 = .ok (.aload_n 0, 1) := by decide +kernel
theorem dM_told_2 : decode prog_6_method_10_code 2 = .ok (.iload_n 1, 1) := by decide +kernel
theorem dM_told_3 : decode prog_6_method_10_code 3 = .ok (.invokevirtual 71, 3) := by decide +kernel
theorem dM_told_6 : decode prog_6_method_10_code 6 = .ok (.ifCond .eq 19, 3) := by decide +kernel
theorem dM_told_9 : decode prog_6_method_10_code 9 = .ok (.iload_n 2, 1) := by decide +kernel
theorem dM_told_10 : decode prog_6_method_10_code 10 = .ok (.i2l, 1) := by decide +kernel
theorem dM_told_11 : decode prog_6_method_10_code 11 = .ok (.lconst 0, 1) := by decide +kernel
theorem dM_told_12 : decode prog_6_method_10_code 12 = .ok (.ldc2_w 82, 3) := by decide +kernel
theorem dM_told_15 : decode prog_6_method_10_code 15 = .ok (.invokestatic 63, 3) := by decide +kernel
theorem dM_told_18 : decode prog_6_method_10_code 18 = .ok (.ifCond .eq 7, 3) := by decide +kernel
theorem dM_told_21 : decode prog_6_method_10_code 21 = .ok (.iconst 0, 1) := by decide +kernel
theorem dM_told_22 : decode prog_6_method_10_code 22 = .ok (.goto 4, 3) := by decide +kernel
theorem dM_told_25 : decode prog_6_method_10_code 25 = .ok (.iconst 1, 1) := by decide +kernel
theorem dM_told_26 : decode prog_6_method_10_code 26 = .ok (.putfield 57, 3) := by decide +kernel
theorem dM_told_29 : decode prog_6_method_10_code 29 = .ok (.aload_n 0, 1) := by decide +kernel
theorem dM_told_30 : decode prog_6_method_10_code 30 = .ok (.getfield 57, 3) := by decide +kernel
theorem dM_told_33 : decode prog_6_method_10_code 33 = .ok (.ifCond .le 5, 3) := by decide +kernel
theorem dM_told_36 : decode prog_6_method_10_code 36 = .ok (.iconst 0, 1) := by decide +kernel
theorem dM_told_37 : decode prog_6_method_10_code 37 = .ok (.ireturn, 1) := by decide +kernel
theorem dM_told_38 : decode prog_6_method_10_code 38 = .ok (.iconst 0, 1) := by decide +kernel
theorem dM_told_39 : decode prog_6_method_10_code 39 = .ok (.istore_n 3, 1) := by decide +kernel
theorem dM_told_40 : decode prog_6_method_10_code 40 = .ok (.bipush 8, 2) := by decide +kernel
theorem dM_told_42 : decode prog_6_method_10_code 42 = .ok (.iload_n 1, 1) := by decide +kernel
theorem dM_told_43 : decode prog_6_method_10_code 43 = .ok (.imul, 1) := by decide +kernel
theorem dM_told_44 : decode prog_6_method_10_code 44 = .ok (.istore 4, 2) := by decide +kernel
theorem dM_told_46 : decode prog_6_method_10_code 46 = .ok (.iload 4, 2) := by decide +kernel
theorem dM_told_48 : decode prog_6_method_10_code 48 = .ok (.bipush 8, 2) := by decide +kernel
theorem dM_told_50 : decode prog_6_method_10_code 50 = .ok (.iload_n 1, 1) := by decide +kernel
theorem dM_told_51 : decode prog_6_method_10_code 51 = .ok (.imul, 1) := by decide +kernel
theorem dM_told_52 : decode prog_6_method_10_code 52 = .ok (.aload_n 0, 1) := by decide +kernel
theorem dM_told_53 : decode prog_6_method_10_code 53 = .ok (.getfield 16, 3) := by decide +kernel
theorem dM_told_56 : decode prog_6_method_10_code 56 = .ok (.iload_n 1, 1) := by decide +kernel
theorem dM_told_57 : decode prog_6_method_10_code 57 = .ok (.iaload, 1) := by decide +kernel
theorem dM_told_58 : decode prog_6_method_10_code 58 = .ok (.iadd, 1) := by decide +kernel
theorem dM_told_59 : decode prog_6_method_10_code 59 = .ok (.if_icmp .ge 19, 3) := by decide +kernel
theorem dM_told_62 : decode prog_6_method_10_code 62 = .ok (.iload_n 3, 1) := by decide +kernel
theorem dM_told_63 : decode prog_6_method_10_code 63 = .ok (.aload_n 0, 1) := by decide +kernel
theorem dM_told_64 : decode prog_6_method_10_code 64 = .ok (.getfield 22, 3) := by decide +kernel
theorem dM_told_67 : decode prog_6_method_10_code 67 = .ok (.iload 4, 2) := by decide +kernel
theorem dM_told_69 : decode prog_6_method_10_code 69 = .ok (.iaload, 1) := by decide +kernel
theorem dM_told_70 : decode prog_6_method_10_code 70 = .ok (.iadd, 1) := by decide +kernel
theorem dM_told_71 : decode prog_6_method_10_code 71 = .ok (.istore_n 3, 1) := by decide +kernel
theorem dM_told_72 : decode prog_6_method_10_code 72 = .ok (.iinc 4 1, 3) := by decide +kernel
theorem dM_told_75 : decode prog_6_method_10_code 75 = .ok (.goto (-29), 3) := by decide +kernel
theorem dM_told_78 : decode prog_6_method_10_code 78 = .ok (.iload_n 2, 1) := by decide +kernel
theorem dM_told_79 : decode prog_6_method_10_code 79 = .ok (.ifCond .ne 12, 3) := by decide +kernel
theorem dM_told_82 : decode prog_6_method_10_code 82 = .ok (.aload_n 0, 1) := by decide +kernel
theorem dM_told_83 : decode prog_6_method_10_code 83 = .ok (.getfield 7, 3) := by decide +kernel
theorem dM_told_86 : decode prog_6_method_10_code 86 = .ok (.iload_n 1, 1) := by decide +kernel
theorem dM_told_87 : decode prog_6_method_10_code 87 = .ok (.iaload, 1) := by decide +kernel
theorem dM_told_88 : decode prog_6_method_10_code 88 = .ok (.goto 18, 3) := by decide +kernel
theorem dM_told_91 : decode prog_6_method_10_code 91 = .ok (.iload_n 2, 1) := by decide +kernel
theorem dM_told_92 : decode prog_6_method_10_code 92 = .ok (.iconst 1, 1) := by decide +kernel
theorem dM_told_93 : decode prog_6_method_10_code 93 = .ok (.if_icmp .ne 7, 3) := by decide +kernel
theorem dM_told_96 : decode prog_6_method_10_code 96 = .ok (.iload_n 3, 1) := by decide +kernel
theorem dM_told_97 : decode prog_6_method_10_code 97 = .ok (.goto 9, 3) := by decide +kernel
theorem dM_told_100 : decode prog_6_method_10_code 100 = .ok (.aload_n 0, 1) := by decide +kernel
theorem dM_told_101 : decode prog_6_method_10_code 101 = .ok (.getfield 13, 3) := by decide +kernel
theorem dM_told_104 : decode prog_6_method_10_code 104 = .ok (.iload_n 1, 1) := by decide +kernel
theorem dM_told_105 : decode prog_6_method_10_code 105 = .ok (.iaload, 1) := by decide +kernel
theorem dM_told_106 : decode prog_6_method_10_code 106 = .ok (.ireturn, 1) := by decide +kernel
theorem dM_need_0 : decode prog_6_method_12_code 0 = .ok (.aload_n 0, 1) := by decide +kernel
theorem dM_need_1 : decode prog_6_method_12_code 1 = .ok (.iload_n 1, 1) := by decide +kernel
theorem dM_need_2 : decode prog_6_method_12_code 2 = .ok (.invokestatic 75, 3) := by decide +kernel
theorem dM_need_5 : decode prog_6_method_12_code 5 = .ok (.ifCond .eq 7, 3) := by decide +kernel
theorem dM_need_8 : decode prog_6_method_12_code 8 = .ok (.iconst 0, 1) := by decide +kernel
theorem dM_need_9 : decode prog_6_method_12_code 9 = .ok (.goto 4, 3) := by decide +kernel
theorem dM_need_12 : decode prog_6_method_12_code 12 = .ok (.iconst 1, 1) := by decide +kernel
theorem dM_need_13 : decode prog_6_method_12_code 13 = .ok (.putfield 57, 3) := by decide +kernel
theorem dM_need_16 : decode prog_6_method_12_code 16 = .ok (.aload_n 0, 1) := by decide +kernel
theorem dM_need_17 : decode prog_6_method_12_code 17 = .ok (.getfield 57, 3) := by decide +kernel
theorem dM_need_20 : decode prog_6_method_12_code 20 = .ok (.ifCond .le 7, 3) := by decide +kernel
theorem dM_need_23 : decode prog_6_method_12_code 23 = .ok (.lconst 0, 1) := by decide +kernel
theorem dM_need_24 : decode prog_6_method_12_code 24 = .ok (.goto 8, 3) := by decide +kernel
theorem dM_need_27 : decode prog_6_method_12_code 27 = .ok (.aload_n 0, 1) := by decide +kernel
theorem dM_need_28 : decode prog_6_method_12_code 28 = .ok (.iload_n 1, 1) := by decide +kernel
theorem dM_need_29 : decode prog_6_method_12_code 29 = .ok (.invokevirtual 86, 3) := by decide +kernel
theorem dM_need_32 : decode prog_6_method_12_code 32 = .ok (.lreturn, 1) := by decide +kernel
theorem dM_needOf_0 : decode prog_6_method_11_code 0 = .ok (.lconst 0, 1) := by decide +kernel
theorem dM_needOf_1 : decode prog_6_method_11_code 1 = .ok (.lstore_n 2, 1) := by decide +kernel
theorem dM_needOf_2 : decode prog_6_method_11_code 2 = .ok (.iconst 0, 1) := by decide +kernel
theorem dM_needOf_3 : decode prog_6_method_11_code 3 = .ok (.istore 4, 2) := by decide +kernel
theorem dM_needOf_5 : decode prog_6_method_11_code 5 = .ok (.iload 4, 2) := by decide +kernel
theorem dM_needOf_7 : decode prog_6_method_11_code 7 = .ok (.aload_n 0, 1) := by decide +kernel
theorem dM_needOf_8 : decode prog_6_method_11_code 8 = .ok (.getfield 60, 3) := by decide +kernel
theorem dM_needOf_11 : decode prog_6_method_11_code 11 = .ok (.if_icmp .ge 75, 3) := by decide +kernel
theorem dM_needOf_14 : decode prog_6_method_11_code 14 = .ok (.bipush 8, 2) := by decide +kernel
theorem dM_needOf_16 : decode prog_6_method_11_code 16 = .ok (.iload 4, 2) := by decide +kernel
theorem dM_needOf_18 : decode prog_6_method_11_code 18 = .ok (.imul, 1) := by decide +kernel
theorem dM_needOf_19 : decode prog_6_method_11_code 19 = .ok (.istore 5, 2) := by decide +kernel
theorem dM_needOf_21 : decode prog_6_method_11_code 21 = .ok (.iload 5, 2) := by decide +kernel
theorem dM_needOf_23 : decode prog_6_method_11_code 23 = .ok (.bipush 8, 2) := by decide +kernel
theorem dM_needOf_25 : decode prog_6_method_11_code 25 = .ok (.iload 4, 2) := by decide +kernel
theorem dM_needOf_27 : decode prog_6_method_11_code 27 = .ok (.imul, 1) := by decide +kernel
theorem dM_needOf_28 : decode prog_6_method_11_code 28 = .ok (.aload_n 0, 1) := by decide +kernel
theorem dM_needOf_29 : decode prog_6_method_11_code 29 = .ok (.getfield 16, 3) := by decide +kernel
theorem dM_needOf_32 : decode prog_6_method_11_code 32 = .ok (.iload 4, 2) := by decide +kernel
theorem dM_needOf_34 : decode prog_6_method_11_code 34 = .ok (.iaload, 1) := by decide +kernel
theorem dM_needOf_35 : decode prog_6_method_11_code 35 = .ok (.iadd, 1) := by decide +kernel
theorem dM_needOf_36 : decode prog_6_method_11_code 36 = .ok (.if_icmp .ge 44, 3) := by decide +kernel
theorem dM_needOf_39 : decode prog_6_method_11_code 39 = .ok (.lload_n 2, 1) := by decide +kernel
theorem dM_needOf_40 : decode prog_6_method_11_code 40 = .ok (.aload_n 0, 1) := by decide +kernel
theorem dM_needOf_41 : decode prog_6_method_11_code 41 = .ok (.getfield 19, 3) := by decide +kernel
theorem dM_needOf_44 : decode prog_6_method_11_code 44 = .ok (.iload 5, 2) := by decide +kernel
theorem dM_needOf_46 : decode prog_6_method_11_code 46 = .ok (.iaload, 1) := by decide +kernel
theorem dM_needOf_47 : decode prog_6_method_11_code 47 = .ok (.iload_n 1, 1) := by decide +kernel
theorem dM_needOf_48 : decode prog_6_method_11_code 48 = .ok (.if_icmp .ne 23, 3) := by decide +kernel
theorem dM_needOf_51 : decode prog_6_method_11_code 51 = .ok (.aload_n 0, 1) := by decide +kernel
theorem dM_needOf_52 : decode prog_6_method_11_code 52 = .ok (.getfield 22, 3) := by decide +kernel
theorem dM_needOf_55 : decode prog_6_method_11_code 55 = .ok (.iload 5, 2) := by decide +kernel
theorem dM_needOf_57 : decode prog_6_method_11_code 57 = .ok (.iaload, 1) := by decide +kernel
theorem dM_needOf_58 : decode prog_6_method_11_code 58 = .ok (.i2l, 1) := by decide +kernel
theorem dM_needOf_59 : decode prog_6_method_11_code 59 = .ok (.aload_n 0, 1) := by decide +kernel
theorem dM_needOf_60 : decode prog_6_method_11_code 60 = .ok (.getfield 7, 3) := by decide +kernel
theorem dM_needOf_63 : decode prog_6_method_11_code 63 = .ok (.iload 4, 2) := by decide +kernel
theorem dM_needOf_65 : decode prog_6_method_11_code 65 = .ok (.iaload, 1) := by decide +kernel
theorem dM_needOf_66 : decode prog_6_method_11_code 66 = .ok (.i2l, 1) := by decide +kernel
theorem dM_needOf_67 : decode prog_6_method_11_code 67 = .ok (.lmul, 1) := by decide +kernel
theorem dM_needOf_68 : decode prog_6_method_11_code 68 = .ok (.goto 4, 3) := by decide +kernel
theorem dM_needOf_71 : decode prog_6_method_11_code 71 = .ok (.lconst 0, 1) := by decide +kernel
theorem dM_needOf_72 : decode prog_6_method_11_code 72 = .ok (.ladd, 1) := by decide +kernel
theorem dM_needOf_73 : decode prog_6_method_11_code 73 = .ok (.lstore_n 2, 1) := by decide +kernel
theorem dM_needOf_74 : decode prog_6_method_11_code 74 = .ok (.iinc 5 1, 3) := by decide +kernel
theorem dM_needOf_77 : decode prog_6_method_11_code 77 = .ok (.goto (-56), 3) := by decide +kernel
theorem dM_needOf_80 : decode prog_6_method_11_code 80 = .ok (.iinc 4 1, 3) := by decide +kernel
theorem dM_needOf_83 : decode prog_6_method_11_code 83 = .ok (.goto (-78), 3) := by decide +kernel
theorem dM_needOf_86 : decode prog_6_method_11_code 86 = .ok (.lload_n 2, 1) := by decide +kernel
theorem dM_needOf_87 : decode prog_6_method_11_code 87 = .ok (.bipush 100, 2) := by decide +kernel
theorem dM_needOf_89 : decode prog_6_method_11_code 89 = .ok (.aload_n 0, 1) := by decide +kernel
theorem dM_needOf_90 : decode prog_6_method_11_code 90 = .ok (.getfield 25, 3) := by decide +kernel
theorem dM_needOf_93 : decode prog_6_method_11_code 93 = .ok (.iload_n 1, 1) := by decide +kernel
theorem dM_needOf_94 : decode prog_6_method_11_code 94 = .ok (.iaload, 1) := by decide +kernel
theorem dM_needOf_95 : decode prog_6_method_11_code 95 = .ok (.iadd, 1) := by decide +kernel
theorem dM_needOf_96 : decode prog_6_method_11_code 96 = .ok (.i2l, 1) := by decide +kernel
theorem dM_needOf_97 : decode prog_6_method_11_code 97 = .ok (.lmul, 1) := by decide +kernel
theorem dM_needOf_98 : decode prog_6_method_11_code 98 = .ok (.ldc2_w 84, 3) := by decide +kernel
theorem dM_needOf_101 : decode prog_6_method_11_code 101 = .ok (.ladd, 1) := by decide +kernel
theorem dM_needOf_102 : decode prog_6_method_11_code 102 = .ok (.ldc2_w 80, 3) := by decide +kernel
theorem dM_needOf_105 : decode prog_6_method_11_code 105 = .ok (.ldiv, 1) := by decide +kernel
end
section
-- DECODE ROWS
theorem dM_needOf_106 : decode prog_6_method_11_code 106 = .ok (.lreturn, 1) := by decide +kernel
theorem dM_pack_0 : decode prog_6_method_13_code 0 = .ok (.iload_n 1, 1) := by decide +kernel
theorem dM_pack_1 : decode prog_6_method_13_code 1 = .ok (.invokestatic 75, 3) := by decide +kernel
theorem dM_pack_4 : decode prog_6_method_13_code 4 = .ok (.ifCond .eq 31, 3) := by decide +kernel
theorem dM_pack_7 : decode prog_6_method_13_code 7 = .ok (.iload_n 2, 1) := by decide +kernel
theorem dM_pack_8 : decode prog_6_method_13_code 8 = .ok (.i2l, 1) := by decide +kernel
theorem dM_pack_9 : decode prog_6_method_13_code 9 = .ok (.lconst 1, 1) := by decide +kernel
theorem dM_pack_10 : decode prog_6_method_13_code 10 = .ok (.ldc2_w 90, 3) := by decide +kernel
theorem dM_pack_13 : decode prog_6_method_13_code 13 = .ok (.invokestatic 63, 3) := by decide +kernel
theorem dM_pack_16 : decode prog_6_method_13_code 16 = .ok (.ifCond .eq 19, 3) := by decide +kernel
theorem dM_pack_19 : decode prog_6_method_13_code 19 = .ok (.iload_n 3, 1) := by decide +kernel
theorem dM_pack_20 : decode prog_6_method_13_code 20 = .ok (.i2l, 1) := by decide +kernel
theorem dM_pack_21 : decode prog_6_method_13_code 21 = .ok (.lconst 1, 1) := by decide +kernel
theorem dM_pack_22 : decode prog_6_method_13_code 22 = .ok (.ldc2_w 92, 3) := by decide +kernel
theorem dM_pack_25 : decode prog_6_method_13_code 25 = .ok (.invokestatic 63, 3) := by decide +kernel
theorem dM_pack_28 : decode prog_6_method_13_code 28 = .ok (.ifCond .eq 7, 3) := by decide +kernel
theorem dM_pack_31 : decode prog_6_method_13_code 31 = .ok (.iconst 1, 1) := by decide +kernel
theorem dM_pack_32 : decode prog_6_method_13_code 32 = .ok (.goto 4, 3) := by decide +kernel
theorem dM_pack_35 : decode prog_6_method_13_code 35 = .ok (.iconst 0, 1) := by decide +kernel
theorem dM_pack_36 : decode prog_6_method_13_code 36 = .ok (.istore 4, 2) := by decide +kernel
theorem dM_pack_38 : decode prog_6_method_13_code 38 = .ok (.aload_n 0, 1) := by decide +kernel
theorem dM_pack_39 : decode prog_6_method_13_code 39 = .ok (.iload 4, 2) := by decide +kernel
theorem dM_pack_41 : decode prog_6_method_13_code 41 = .ok (.ifCond .ne 7, 3) := by decide +kernel
theorem dM_pack_44 : decode prog_6_method_13_code 44 = .ok (.iconst 1, 1) := by decide +kernel
theorem dM_pack_45 : decode prog_6_method_13_code 45 = .ok (.goto 18, 3) := by decide +kernel
theorem dM_pack_48 : decode prog_6_method_13_code 48 = .ok (.aload_n 0, 1) := by decide +kernel
theorem dM_pack_49 : decode prog_6_method_13_code 49 = .ok (.getfield 28, 3) := by decide +kernel
theorem dM_pack_52 : decode prog_6_method_13_code 52 = .ok (.iload_n 1, 1) := by decide +kernel
theorem dM_pack_53 : decode prog_6_method_13_code 53 = .ok (.iaload, 1) := by decide +kernel
theorem dM_pack_54 : decode prog_6_method_13_code 54 = .ok (.iconst 4, 1) := by decide +kernel
theorem dM_pack_55 : decode prog_6_method_13_code 55 = .ok (.if_icmp .ne 7, 3) := by decide +kernel
theorem dM_pack_58 : decode prog_6_method_13_code 58 = .ok (.iconst 2, 1) := by decide +kernel
theorem dM_pack_59 : decode prog_6_method_13_code 59 = .ok (.goto 4, 3) := by decide +kernel
theorem dM_pack_62 : decode prog_6_method_13_code 62 = .ok (.iconst 0, 1) := by decide +kernel
theorem dM_pack_63 : decode prog_6_method_13_code 63 = .ok (.putfield 57, 3) := by decide +kernel
theorem dM_pack_66 : decode prog_6_method_13_code 66 = .ok (.aload_n 0, 1) := by decide +kernel
theorem dM_pack_67 : decode prog_6_method_13_code 67 = .ok (.getfield 57, 3) := by decide +kernel
theorem dM_pack_70 : decode prog_6_method_13_code 70 = .ok (.ifCond .le 5, 3) := by decide +kernel
theorem dM_pack_73 : decode prog_6_method_13_code 73 = .ok (.iconst 0, 1) := by decide +kernel
theorem dM_pack_74 : decode prog_6_method_13_code 74 = .ok (.ireturn, 1) := by decide +kernel
theorem dM_pack_75 : decode prog_6_method_13_code 75 = .ok (.aload_n 0, 1) := by decide +kernel
theorem dM_pack_76 : decode prog_6_method_13_code 76 = .ok (.getfield 31, 3) := by decide +kernel
theorem dM_pack_79 : decode prog_6_method_13_code 79 = .ok (.iconst 4, 1) := by decide +kernel
theorem dM_pack_80 : decode prog_6_method_13_code 80 = .ok (.iload_n 1, 1) := by decide +kernel
theorem dM_pack_81 : decode prog_6_method_13_code 81 = .ok (.imul, 1) := by decide +kernel
theorem dM_pack_82 : decode prog_6_method_13_code 82 = .ok (.aload_n 0, 1) := by decide +kernel
theorem dM_pack_83 : decode prog_6_method_13_code 83 = .ok (.getfield 28, 3) := by decide +kernel
theorem dM_pack_86 : decode prog_6_method_13_code 86 = .ok (.iload_n 1, 1) := by decide +kernel
theorem dM_pack_87 : decode prog_6_method_13_code 87 = .ok (.iaload, 1) := by decide +kernel
theorem dM_pack_88 : decode prog_6_method_13_code 88 = .ok (.iadd, 1) := by decide +kernel
theorem dM_pack_89 : decode prog_6_method_13_code 89 = .ok (.iload_n 2, 1) := by decide +kernel
theorem dM_pack_90 : decode prog_6_method_13_code 90 = .ok (.i2l, 1) := by decide +kernel
theorem dM_pack_91 : decode prog_6_method_13_code 91 = .ok (.lastore, 1) := by decide +kernel
theorem dM_pack_92 : decode prog_6_method_13_code 92 = .ok (.aload_n 0, 1) := by decide +kernel
theorem dM_pack_93 : decode prog_6_method_13_code 93 = .ok (.getfield 35, 3) := by decide +kernel
theorem dM_pack_96 : decode prog_6_method_13_code 96 = .ok (.iconst 4, 1) := by decide +kernel
theorem dM_pack_97 : decode prog_6_method_13_code 97 = .ok (.iload_n 1, 1) := by decide +kernel
theorem dM_pack_98 : decode prog_6_method_13_code 98 = .ok (.imul, 1) := by decide +kernel
theorem dM_pack_99 : decode prog_6_method_13_code 99 = .ok (.aload_n 0, 1) := by decide +kernel
theorem dM_pack_100 : decode prog_6_method_13_code 100 = .ok (.getfield 28, 3) := by decide +kernel
theorem dM_pack_103 : decode prog_6_method_13_code 103 = .ok (.iload_n 1, 1) := by decide +kernel
theorem dM_pack_104 : decode prog_6_method_13_code 104 = .ok (.iaload, 1) := by decide +kernel
theorem dM_pack_105 : decode prog_6_method_13_code 105 = .ok (.iadd, 1) := by decide +kernel
theorem dM_pack_106 : decode prog_6_method_13_code 106 = .ok (.iload_n 3, 1) := by decide +kernel
theorem dM_pack_107 : decode prog_6_method_13_code 107 = .ok (.i2l, 1) := by decide +kernel
theorem dM_pack_108 : decode prog_6_method_13_code 108 = .ok (.lastore, 1) := by decide +kernel
theorem dM_pack_109 : decode prog_6_method_13_code 109 = .ok (.aload_n 0, 1) := by decide +kernel
theorem dM_pack_110 : decode prog_6_method_13_code 110 = .ok (.getfield 28, 3) := by decide +kernel
theorem dM_pack_113 : decode prog_6_method_13_code 113 = .ok (.iload_n 1, 1) := by decide +kernel
theorem dM_pack_114 : decode prog_6_method_13_code 114 = .ok (.dup2, 1) := by decide +kernel
theorem dM_pack_115 : decode prog_6_method_13_code 115 = .ok (.iaload, 1) := by decide +kernel
theorem dM_pack_116 : decode prog_6_method_13_code 116 = .ok (.iconst 1, 1) := by decide +kernel
theorem dM_pack_117 : decode prog_6_method_13_code 117 = .ok (.iadd, 1) := by decide +kernel
theorem dM_pack_118 : decode prog_6_method_13_code 118 = .ok (.iastore, 1) := by decide +kernel
theorem dM_pack_119 : decode prog_6_method_13_code 119 = .ok (.aload_n 0, 1) := by decide +kernel
theorem dM_pack_120 : decode prog_6_method_13_code 120 = .ok (.getfield 28, 3) := by decide +kernel
theorem dM_pack_123 : decode prog_6_method_13_code 123 = .ok (.iload_n 1, 1) := by decide +kernel
theorem dM_pack_124 : decode prog_6_method_13_code 124 = .ok (.iaload, 1) := by decide +kernel
theorem dM_pack_125 : decode prog_6_method_13_code 125 = .ok (.iconst 1, 1) := by decide +kernel
theorem dM_pack_126 : decode prog_6_method_13_code 126 = .ok (.isub, 1) := by decide +kernel
theorem dM_pack_127 : decode prog_6_method_13_code 127 = .ok (.ireturn, 1) := by decide +kernel
theorem dM_bought_0 : decode prog_6_method_18_code 0 = .ok (.aload_n 0, 1) := by decide +kernel
theorem dM_bought_1 : decode prog_6_method_18_code 1 = .ok (.iload_n 1, 1) := by decide +kernel
theorem dM_bought_2 : decode prog_6_method_18_code 2 = .ok (.invokestatic 75, 3) := by decide +kernel
theorem dM_bought_5 : decode prog_6_method_18_code 5 = .ok (.ifCond .eq 25, 3) := by decide +kernel
theorem dM_bought_8 : decode prog_6_method_18_code 8 = .ok (.iload_n 2, 1) := by decide +kernel
theorem dM_bought_9 : decode prog_6_method_18_code 9 = .ok (.i2l, 1) := by decide +kernel
theorem dM_bought_10 : decode prog_6_method_18_code 10 = .ok (.lconst 0, 1) := by decide +kernel
theorem dM_bought_11 : decode prog_6_method_18_code 11 = .ok (.aload_n 0, 1) := by decide +kernel
theorem dM_bought_12 : decode prog_6_method_18_code 12 = .ok (.getfield 28, 3) := by decide +kernel
theorem dM_bought_15 : decode prog_6_method_18_code 15 = .ok (.iload_n 1, 1) := by decide +kernel
theorem dM_bought_16 : decode prog_6_method_18_code 16 = .ok (.iaload, 1) := by decide +kernel
theorem dM_bought_17 : decode prog_6_method_18_code 17 = .ok (.iconst 1, 1) := by decide +kernel
theorem dM_bought_18 : decode prog_6_method_18_code 18 = .ok (.isub, 1) := by decide +kernel
theorem dM_bought_19 : decode prog_6_method_18_code 19 = .ok (.i2l, 1) := by decide +kernel
theorem dM_bought_20 : decode prog_6_method_18_code 20 = .ok (.invokestatic 63, 3) := by decide +kernel
theorem dM_bought_23 : decode prog_6_method_18_code 23 = .ok (.ifCond .eq 7, 3) := by decide +kernel
theorem dM_bought_26 : decode prog_6_method_18_code 26 = .ok (.iconst 0, 1) := by decide +kernel
theorem dM_bought_27 : decode prog_6_method_18_code 27 = .ok (.goto 4, 3) := by decide +kernel
theorem dM_bought_30 : decode prog_6_method_18_code 30 = .ok (.iconst 1, 1) := by decide +kernel
theorem dM_bought_31 : decode prog_6_method_18_code 31 = .ok (.putfield 57, 3) := by decide +kernel
theorem dM_bought_34 : decode prog_6_method_18_code 34 = .ok (.aload_n 0, 1) := by decide +kernel
theorem dM_bought_35 : decode prog_6_method_18_code 35 = .ok (.getfield 57, 3) := by decide +kernel
theorem dM_bought_38 : decode prog_6_method_18_code 38 = .ok (.ifCond .le 5, 3) := by decide +kernel
theorem dM_bought_41 : decode prog_6_method_18_code 41 = .ok (.iconst 0, 1) := by decide +kernel
theorem dM_bought_42 : decode prog_6_method_18_code 42 = .ok (.ireturn, 1) := by decide +kernel
theorem dM_bought_43 : decode prog_6_method_18_code 43 = .ok (.aload_n 0, 1) := by decide +kernel
theorem dM_bought_44 : decode prog_6_method_18_code 44 = .ok (.iload_n 1, 1) := by decide +kernel
theorem dM_bought_45 : decode prog_6_method_18_code 45 = .ok (.invokevirtual 114, 3) := by decide +kernel
theorem dM_bought_48 : decode prog_6_method_18_code 48 = .ok (.aload_n 0, 1) := by decide +kernel
theorem dM_bought_49 : decode prog_6_method_18_code 49 = .ok (.getfield 94, 3) := by decide +kernel
theorem dM_bought_52 : decode prog_6_method_18_code 52 = .ok (.lconst 0, 1) := by decide +kernel
theorem dM_bought_53 : decode prog_6_method_18_code 53 = .ok (.lcmp, 1) := by decide +kernel
theorem dM_bought_54 : decode prog_6_method_18_code 54 = .ok (.ifCond .ge 7, 3) := by decide +kernel
theorem dM_bought_57 : decode prog_6_method_18_code 57 = .ok (.iconst (-1), 1) := by decide +kernel
theorem dM_bought_58 : decode prog_6_method_18_code 58 = .ok (.goto 9, 3) := by decide +kernel
theorem dM_bought_61 : decode prog_6_method_18_code 61 = .ok (.aload_n 0, 1) := by decide +kernel
theorem dM_bought_62 : decode prog_6_method_18_code 62 = .ok (.getfield 41, 3) := by decide +kernel
theorem dM_bought_65 : decode prog_6_method_18_code 65 = .ok (.iload_n 2, 1) := by decide +kernel
theorem dM_bought_66 : decode prog_6_method_18_code 66 = .ok (.iaload, 1) := by decide +kernel
theorem dM_bought_67 : decode prog_6_method_18_code 67 = .ok (.ireturn, 1) := by decide +kernel
theorem dM_buy_0 : decode prog_6_method_17_code 0 = .ok (.aload_n 0, 1) := by decide +kernel
theorem dM_buy_1 : decode prog_6_method_17_code 1 = .ok (.ldc2_w 108, 3) := by decide +kernel
theorem dM_buy_4 : decode prog_6_method_17_code 4 = .ok (.putfield 94, 3) := by decide +kernel
theorem dM_buy_7 : decode prog_6_method_17_code 7 = .ok (.iconst 0, 1) := by decide +kernel
theorem dM_buy_8 : decode prog_6_method_17_code 8 = .ok (.istore_n 2, 1) := by decide +kernel
theorem dM_buy_9 : decode prog_6_method_17_code 9 = .ok (.iload_n 2, 1) := by decide +kernel
theorem dM_buy_10 : decode prog_6_method_17_code 10 = .ok (.iconst 4, 1) := by decide +kernel
theorem dM_buy_11 : decode prog_6_method_17_code 11 = .ok (.if_icmp .ge 23, 3) := by decide +kernel
theorem dM_buy_14 : decode prog_6_method_17_code 14 = .ok (.aload_n 0, 1) := by decide +kernel
theorem dM_buy_15 : decode prog_6_method_17_code 15 = .ok (.getfield 38, 3) := by decide +kernel
theorem dM_buy_18 : decode prog_6_method_17_code 18 = .ok (.iload_n 2, 1) := by decide +kernel
theorem dM_buy_19 : decode prog_6_method_17_code 19 = .ok (.iconst 0, 1) := by decide +kernel
theorem dM_buy_20 : decode prog_6_method_17_code 20 = .ok (.iastore, 1) := by decide +kernel
theorem dM_buy_21 : decode prog_6_method_17_code 21 = .ok (.aload_n 0, 1) := by decide +kernel
theorem dM_buy_22 : decode prog_6_method_17_code 22 = .ok (.getfield 41, 3) := by decide +kernel
theorem dM_buy_25 : decode prog_6_method_17_code 25 = .ok (.iload_n 2, 1) := by decide +kernel
theorem dM_buy_26 : decode prog_6_method_17_code 26 = .ok (.iconst 0, 1) := by decide +kernel
theorem dM_buy_27 : decode prog_6_method_17_code 27 = .ok (.iastore, 1) := by decide +kernel
theorem dM_buy_28 : decode prog_6_method_17_code 28 = .ok (.iinc 2 1, 3) := by decide +kernel
theorem dM_buy_31 : decode prog_6_method_17_code 31 = .ok (.goto (-22), 3) := by decide +kernel
theorem dM_buy_34 : decode prog_6_method_17_code 34 = .ok (.aload_n 0, 1) := by decide +kernel
theorem dM_buy_35 : decode prog_6_method_17_code 35 = .ok (.iload_n 1, 1) := by decide +kernel
theorem dM_buy_36 : decode prog_6_method_17_code 36 = .ok (.invokevirtual 86, 3) := by decide +kernel
theorem dM_buy_39 : decode prog_6_method_17_code 39 = .ok (.lstore_n 2, 1) := by decide +kernel
theorem dM_buy_40 : decode prog_6_method_17_code 40 = .ok (.aload_n 0, 1) := by decide +kernel
theorem dM_buy_41 : decode prog_6_method_17_code 41 = .ok (.getfield 28, 3) := by decide +kernel
theorem dM_buy_44 : decode prog_6_method_17_code 44 = .ok (.iload_n 1, 1) := by decide +kernel
theorem dM_buy_45 : decode prog_6_method_17_code 45 = .ok (.iaload, 1) := by decide +kernel
theorem dM_buy_46 : decode prog_6_method_17_code 46 = .ok (.istore 4, 2) := by decide +kernel
theorem dM_buy_48 : decode prog_6_method_17_code 48 = .ok (.iload 4, 2) := by decide +kernel
theorem dM_buy_50 : decode prog_6_method_17_code 50 = .ok (.ifCond .eq 9, 3) := by decide +kernel
theorem dM_buy_53 : decode prog_6_method_17_code 53 = .ok (.lload_n 2, 1) := by decide +kernel
theorem dM_buy_54 : decode prog_6_method_17_code 54 = .ok (.lconst 0, 1) := by decide +kernel
theorem dM_buy_55 : decode prog_6_method_17_code 55 = .ok (.lcmp, 1) := by decide +kernel
theorem dM_buy_56 : decode prog_6_method_17_code 56 = .ok (.ifCond .ne 21, 3) := by decide +kernel
theorem dM_buy_59 : decode prog_6_method_17_code 59 = .ok (.aload_n 0, 1) := by decide +kernel
theorem dM_buy_60 : decode prog_6_method_17_code 60 = .ok (.lload_n 2, 1) := by decide +kernel
theorem dM_buy_61 : decode prog_6_method_17_code 61 = .ok (.lconst 0, 1) := by decide +kernel
theorem dM_buy_62 : decode prog_6_method_17_code 62 = .ok (.lcmp, 1) := by decide +kernel
theorem dM_buy_63 : decode prog_6_method_17_code 63 = .ok (.ifCond .ne 7, 3) := by decide +kernel
theorem dM_buy_66 : decode prog_6_method_17_code 66 = .ok (.lconst 0, 1) := by decide +kernel
theorem dM_buy_67 : decode prog_6_method_17_code 67 = .ok (.goto 6, 3) := by decide +kernel
theorem dM_buy_70 : decode prog_6_method_17_code 70 = .ok (.ldc2_w 108, 3) := by decide +kernel
theorem dM_buy_73 : decode prog_6_method_17_code 73 = .ok (.putfield 94, 3) := by decide +kernel
theorem dM_buy_76 : decode prog_6_method_17_code 76 = .ok (.return_, 1) := by decide +kernel
theorem dM_buy_77 : decode prog_6_method_17_code 77 = .ok (.iload 4, 2) := by decide +kernel
theorem dM_buy_79 : decode prog_6_method_17_code 79 = .ok (.iconst 1, 1) := by decide +kernel
theorem dM_buy_80 : decode prog_6_method_17_code 80 = .ok (.if_icmp .le 8, 3) := by decide +kernel
theorem dM_buy_83 : decode prog_6_method_17_code 83 = .ok (.bipush 60, 2) := by decide +kernel
theorem dM_buy_85 : decode prog_6_method_17_code 85 = .ok (.goto 4, 3) := by decide +kernel
theorem dM_buy_88 : decode prog_6_method_17_code 88 = .ok (.iconst 0, 1) := by decide +kernel
theorem dM_buy_89 : decode prog_6_method_17_code 89 = .ok (.istore 5, 2) := by decide +kernel
theorem dM_buy_91 : decode prog_6_method_17_code 91 = .ok (.iconst 0, 1) := by decide +kernel
theorem dM_buy_92 : decode prog_6_method_17_code 92 = .ok (.istore 6, 2) := by decide +kernel
theorem dM_buy_94 : decode prog_6_method_17_code 94 = .ok (.iload 6, 2) := by decide +kernel
theorem dM_buy_96 : decode prog_6_method_17_code 96 = .ok (.iload 5, 2) := by decide +kernel
theorem dM_buy_98 : decode prog_6_method_17_code 98 = .ok (.if_icmp .gt 115, 3) := by decide +kernel
theorem dM_buy_101 : decode prog_6_method_17_code 101 = .ok (.iload 4, 2) := by decide +kernel
theorem dM_buy_103 : decode prog_6_method_17_code 103 = .ok (.iconst 2, 1) := by decide +kernel
theorem dM_buy_104 : decode prog_6_method_17_code 104 = .ok (.if_icmp .le 11, 3) := by decide +kernel
theorem dM_buy_107 : decode prog_6_method_17_code 107 = .ok (.bipush 60, 2) := by decide +kernel
theorem dM_buy_109 : decode prog_6_method_17_code 109 = .ok (.iload 6, 2) := by decide +kernel
theorem dM_buy_111 : decode prog_6_method_17_code 111 = .ok (.isub, 1) := by decide +kernel
theorem dM_buy_112 : decode prog_6_method_17_code 112 = .ok (.goto 4, 3) := by decide +kernel
theorem dM_buy_115 : decode prog_6_method_17_code 115 = .ok (.iconst 0, 1) := by decide +kernel
theorem dM_buy_116 : decode prog_6_method_17_code 116 = .ok (.istore 7, 2) := by decide +kernel
theorem dM_buy_118 : decode prog_6_method_17_code 118 = .ok (.iconst 0, 1) := by decide +kernel
theorem dM_buy_119 : decode prog_6_method_17_code 119 = .ok (.istore 8, 2) := by decide +kernel
theorem dM_buy_121 : decode prog_6_method_17_code 121 = .ok (.iload 8, 2) := by decide +kernel
theorem dM_buy_123 : decode prog_6_method_17_code 123 = .ok (.iload 7, 2) := by decide +kernel
theorem dM_buy_125 : decode prog_6_method_17_code 125 = .ok (.if_icmp .gt 82, 3) := by decide +kernel
theorem dM_buy_128 : decode prog_6_method_17_code 128 = .ok (.iload 4, 2) := by decide +kernel
theorem dM_buy_130 : decode prog_6_method_17_code 130 = .ok (.iconst 3, 1) := by decide +kernel
theorem dM_buy_131 : decode prog_6_method_17_code 131 = .ok (.if_icmp .le 14, 3) := by decide +kernel
theorem dM_buy_134 : decode prog_6_method_17_code 134 = .ok (.bipush 60, 2) := by decide +kernel
theorem dM_buy_136 : decode prog_6_method_17_code 136 = .ok (.iload 6, 2) := by decide +kernel
theorem dM_buy_138 : decode prog_6_method_17_code 138 = .ok (.isub, 1) := by decide +kernel
theorem dM_buy_139 : decode prog_6_method_17_code 139 = .ok (.iload 8, 2) := by decide +kernel
theorem dM_buy_141 : decode prog_6_method_17_code 141 = .ok (.isub, 1) := by decide +kernel
theorem dM_buy_142 : decode prog_6_method_17_code 142 = .ok (.goto 4, 3) := by decide +kernel
theorem dM_buy_145 : decode prog_6_method_17_code 145 = .ok (.iconst 0, 1) := by decide +kernel
theorem dM_buy_146 : decode prog_6_method_17_code 146 = .ok (.istore 9, 2) := by decide +kernel
theorem dM_buy_148 : decode prog_6_method_17_code 148 = .ok (.iconst 0, 1) := by decide +kernel
theorem dM_buy_149 : decode prog_6_method_17_code 149 = .ok (.istore 10, 2) := by decide +kernel
theorem dM_buy_151 : decode prog_6_method_17_code 151 = .ok (.iload 10, 2) := by decide +kernel
theorem dM_buy_153 : decode prog_6_method_17_code 153 = .ok (.iload 9, 2) := by decide +kernel
theorem dM_buy_155 : decode prog_6_method_17_code 155 = .ok (.if_icmp .gt 46, 3) := by decide +kernel
theorem dM_buy_158 : decode prog_6_method_17_code 158 = .ok (.aload_n 0, 1) := by decide +kernel
theorem dM_buy_159 : decode prog_6_method_17_code 159 = .ok (.getfield 38, 3) := by decide +kernel
theorem dM_buy_162 : decode prog_6_method_17_code 162 = .ok (.iconst 0, 1) := by decide +kernel
theorem dM_buy_163 : decode prog_6_method_17_code 163 = .ok (.iload 6, 2) := by decide +kernel
theorem dM_buy_165 : decode prog_6_method_17_code 165 = .ok (.iastore, 1) := by decide +kernel
theorem dM_buy_166 : decode prog_6_method_17_code 166 = .ok (.aload_n 0, 1) := by decide +kernel
theorem dM_buy_167 : decode prog_6_method_17_code 167 = .ok (.getfield 38, 3) := by decide +kernel
theorem dM_buy_170 : decode prog_6_method_17_code 170 = .ok (.iconst 1, 1) := by decide +kernel
theorem dM_buy_171 : decode prog_6_method_17_code 171 = .ok (.iload 8, 2) := by decide +kernel
theorem dM_buy_173 : decode prog_6_method_17_code 173 = .ok (.iastore, 1) := by decide +kernel
theorem dM_buy_174 : decode prog_6_method_17_code 174 = .ok (.aload_n 0, 1) := by decide +kernel
theorem dM_buy_175 : decode prog_6_method_17_code 175 = .ok (.getfield 38, 3) := by decide +kernel
theorem dM_buy_178 : decode prog_6_method_17_code 178 = .ok (.iconst 2, 1) := by decide +kernel
theorem dM_buy_179 : decode prog_6_method_17_code 179 = .ok (.iload 10, 2) := by decide +kernel
theorem dM_buy_181 : decode prog_6_method_17_code 181 = .ok (.iastore, 1) := by decide +kernel
theorem dM_buy_182 : decode prog_6_method_17_code 182 = .ok (.aload_n 0, 1) := by decide +kernel
theorem dM_buy_183 : decode prog_6_method_17_code 183 = .ok (.getfield 38, 3) := by decide +kernel
theorem dM_buy_186 : decode prog_6_method_17_code 186 = .ok (.iconst 3, 1) := by decide +kernel
theorem dM_buy_187 : decode prog_6_method_17_code 187 = .ok (.iconst 0, 1) := by decide +kernel
theorem dM_buy_188 : decode prog_6_method_17_code 188 = .ok (.iastore, 1) := by decide +kernel
theorem dM_buy_189 : decode prog_6_method_17_code 189 = .ok (.aload_n 0, 1) := by decide +kernel
theorem dM_buy_190 : decode prog_6_method_17_code 190 = .ok (.iload_n 1, 1) := by decide +kernel
theorem dM_buy_191 : decode prog_6_method_17_code 191 = .ok (.lload_n 2, 1) := by decide +kernel
theorem dM_buy_192 : decode prog_6_method_17_code 192 = .ok (.invokevirtual 110, 3) := by decide +kernel
theorem dM_buy_195 : decode prog_6_method_17_code 195 = .ok (.iinc 10 1, 3) := by decide +kernel
theorem dM_buy_198 : decode prog_6_method_17_code 198 = .ok (.goto (-47), 3) := by decide +kernel
theorem dM_buy_201 : decode prog_6_method_17_code 201 = .ok (.iinc 8 1, 3) := by decide +kernel
theorem dM_buy_204 : decode prog_6_method_17_code 204 = .ok (.goto (-83), 3) := by decide +kernel
theorem dM_buy_207 : decode prog_6_method_17_code 207 = .ok (.iinc 6 1, 3) := by decide +kernel
theorem dM_buy_210 : decode prog_6_method_17_code 210 = .ok (.goto (-116), 3) := by decide +kernel
theorem dM_buy_213 : decode prog_6_method_17_code 213 = .ok (.return_, 1) := by decide +kernel
theorem dM_tryLast_0 : decode prog_6_method_16_code 0 = .ok (.aload_n 0, 1) := by decide +kernel
theorem dM_tryLast_1 : decode prog_6_method_16_code 1 = .ok (.getfield 28, 3) := by decide +kernel
theorem dM_tryLast_4 : decode prog_6_method_16_code 4 = .ok (.iload_n 1, 1) := by decide +kernel
theorem dM_tryLast_5 : decode prog_6_method_16_code 5 = .ok (.iaload, 1) := by decide +kernel
theorem dM_tryLast_6 : decode prog_6_method_16_code 6 = .ok (.iconst 1, 1) := by decide +kernel
theorem dM_tryLast_7 : decode prog_6_method_16_code 7 = .ok (.isub, 1) := by decide +kernel
theorem dM_tryLast_8 : decode prog_6_method_16_code 8 = .ok (.istore 4, 2) := by decide +kernel
theorem dM_tryLast_10 : decode prog_6_method_16_code 10 = .ok (.aload_n 0, 1) := by decide +kernel
theorem dM_tryLast_11 : decode prog_6_method_16_code 11 = .ok (.getfield 38, 3) := by decide +kernel
theorem dM_tryLast_14 : decode prog_6_method_16_code 14 = .ok (.iload 4, 2) := by decide +kernel
theorem dM_tryLast_16 : decode prog_6_method_16_code 16 = .ok (.iconst 0, 1) := by decide +kernel
theorem dM_tryLast_17 : decode prog_6_method_16_code 17 = .ok (.iastore, 1) := by decide +kernel
theorem dM_tryLast_18 : decode prog_6_method_16_code 18 = .ok (.lconst 0, 1) := by decide +kernel
theorem dM_tryLast_19 : decode prog_6_method_16_code 19 = .ok (.lstore 5, 2) := by decide +kernel
theorem dM_tryLast_21 : decode prog_6_method_16_code 21 = .ok (.lconst 0, 1) := by decide +kernel
theorem dM_tryLast_22 : decode prog_6_method_16_code 22 = .ok (.lstore 7, 2) := by decide +kernel
theorem dM_tryLast_24 : decode prog_6_method_16_code 24 = .ok (.iconst 0, 1) := by decide +kernel
theorem dM_tryLast_25 : decode prog_6_method_16_code 25 = .ok (.istore 9, 2) := by decide +kernel
theorem dM_tryLast_27 : decode prog_6_method_16_code 27 = .ok (.iload 9, 2) := by decide +kernel
theorem dM_tryLast_29 : decode prog_6_method_16_code 29 = .ok (.iload 4, 2) := by decide +kernel
theorem dM_tryLast_31 : decode prog_6_method_16_code 31 = .ok (.if_icmp .ge 59, 3) := by decide +kernel
theorem dM_tryLast_34 : decode prog_6_method_16_code 34 = .ok (.lload 5, 2) := by decide +kernel
theorem dM_tryLast_36 : decode prog_6_method_16_code 36 = .ok (.aload_n 0, 1) := by decide +kernel
theorem dM_tryLast_37 : decode prog_6_method_16_code 37 = .ok (.getfield 38, 3) := by decide +kernel
theorem dM_tryLast_40 : decode prog_6_method_16_code 40 = .ok (.iload 9, 2) := by decide +kernel
theorem dM_tryLast_42 : decode prog_6_method_16_code 42 = .ok (.iaload, 1) := by decide +kernel
theorem dM_tryLast_43 : decode prog_6_method_16_code 43 = .ok (.i2l, 1) := by decide +kernel
theorem dM_tryLast_44 : decode prog_6_method_16_code 44 = .ok (.aload_n 0, 1) := by decide +kernel
theorem dM_tryLast_45 : decode prog_6_method_16_code 45 = .ok (.getfield 31, 3) := by decide +kernel
theorem dM_tryLast_48 : decode prog_6_method_16_code 48 = .ok (.iconst 4, 1) := by decide +kernel
theorem dM_tryLast_49 : decode prog_6_method_16_code 49 = .ok (.iload_n 1, 1) := by decide +kernel
theorem dM_tryLast_50 : decode prog_6_method_16_code 50 = .ok (.imul, 1) := by decide +kernel
theorem dM_tryLast_51 : decode prog_6_method_16_code 51 = .ok (.iload 9, 2) := by decide +kernel
theorem dM_tryLast_53 : decode prog_6_method_16_code 53 = .ok (.iadd, 1) := by decide +kernel
theorem dM_tryLast_54 : decode prog_6_method_16_code 54 = .ok (.laload, 1) := by decide +kernel
theorem dM_tryLast_55 : decode prog_6_method_16_code 55 = .ok (.lmul, 1) := by decide +kernel
theorem dM_tryLast_56 : decode prog_6_method_16_code 56 = .ok (.ladd, 1) := by decide +kernel
theorem dM_tryLast_57 : decode prog_6_method_16_code 57 = .ok (.lstore 5, 2) := by decide +kernel
theorem dM_tryLast_59 : decode prog_6_method_16_code 59 = .ok (.lload 7, 2) := by decide +kernel
theorem dM_tryLast_61 : decode prog_6_method_16_code 61 = .ok (.aload_n 0, 1) := by decide +kernel
theorem dM_tryLast_62 : decode prog_6_method_16_code 62 = .ok (.getfield 38, 3) := by decide +kernel
theorem dM_tryLast_65 : decode prog_6_method_16_code 65 = .ok (.iload 9, 2) := by decide +kernel
theorem dM_tryLast_67 : decode prog_6_method_16_code 67 = .ok (.iaload, 1) := by decide +kernel
theorem dM_tryLast_68 : decode prog_6_method_16_code 68 = .ok (.i2l, 1) := by decide +kernel
theorem dM_tryLast_69 : decode prog_6_method_16_code 69 = .ok (.aload_n 0, 1) := by decide +kernel
theorem dM_tryLast_70 : decode prog_6_method_16_code 70 = .ok (.getfield 35, 3) := by decide +kernel
theorem dM_tryLast_73 : decode prog_6_method_16_code 73 = .ok (.iconst 4, 1) := by decide +kernel
theorem dM_tryLast_74 : decode prog_6_method_16_code 74 = .ok (.iload_n 1, 1) := by decide +kernel
theorem dM_tryLast_75 : decode prog_6_method_16_code 75 = .ok (.imul, 1) := by decide +kernel
theorem dM_tryLast_76 : decode prog_6_method_16_code 76 = .ok (.iload 9, 2) := by decide +kernel
theorem dM_tryLast_78 : decode prog_6_method_16_code 78 = .ok (.iadd, 1) := by decide +kernel
theorem dM_tryLast_79 : decode prog_6_method_16_code 79 = .ok (.laload, 1) := by decide +kernel
theorem dM_tryLast_80 : decode prog_6_method_16_code 80 = .ok (.lmul, 1) := by decide +kernel
theorem dM_tryLast_81 : decode prog_6_method_16_code 81 = .ok (.ladd, 1) := by decide +kernel
theorem dM_tryLast_82 : decode prog_6_method_16_code 82 = .ok (.lstore 7, 2) := by decide +kernel
theorem dM_tryLast_84 : decode prog_6_method_16_code 84 = .ok (.iinc 9 1, 3) := by decide +kernel
theorem dM_tryLast_87 : decode prog_6_method_16_code 87 = .ok (.goto (-60), 3) := by decide +kernel
theorem dM_tryLast_90 : decode prog_6_method_16_code 90 = .ok (.aload_n 0, 1) := by decide +kernel
theorem dM_tryLast_91 : decode prog_6_method_16_code 91 = .ok (.getfield 31, 3) := by decide +kernel
theorem dM_tryLast_94 : decode prog_6_method_16_code 94 = .ok (.iconst 4, 1) := by decide +kernel
theorem dM_tryLast_95 : decode prog_6_method_16_code 95 = .ok (.iload_n 1, 1) := by decide +kernel
theorem dM_tryLast_96 : decode prog_6_method_16_code 96 = .ok (.imul, 1) := by decide +kernel
theorem dM_tryLast_97 : decode prog_6_method_16_code 97 = .ok (.iload 4, 2) := by decide +kernel
theorem dM_tryLast_99 : decode prog_6_method_16_code 99 = .ok (.iadd, 1) := by decide +kernel
theorem dM_tryLast_100 : decode prog_6_method_16_code 100 = .ok (.laload, 1) := by decide +kernel
theorem dM_tryLast_101 : decode prog_6_method_16_code 101 = .ok (.lstore 9, 2) := by decide +kernel
theorem dM_tryLast_103 : decode prog_6_method_16_code 103 = .ok (.lload 5, 2) := by decide +kernel
theorem dM_tryLast_105 : decode prog_6_method_16_code 105 = .ok (.lload_n 2, 1) := by decide +kernel
theorem dM_tryLast_106 : decode prog_6_method_16_code 106 = .ok (.lcmp, 1) := by decide +kernel
theorem dM_tryLast_107 : decode prog_6_method_16_code 107 = .ok (.ifCond .lt 7, 3) := by decide +kernel
theorem dM_tryLast_110 : decode prog_6_method_16_code 110 = .ok (.lconst 0, 1) := by decide +kernel
theorem dM_tryLast_111 : decode prog_6_method_16_code 111 = .ok (.goto 15, 3) := by decide +kernel
theorem dM_tryLast_114 : decode prog_6_method_16_code 114 = .ok (.lload_n 2, 1) := by decide +kernel
theorem dM_tryLast_115 : decode prog_6_method_16_code 115 = .ok (.lload 5, 2) := by decide +kernel
theorem dM_tryLast_117 : decode prog_6_method_16_code 117 = .ok (.lsub, 1) := by decide +kernel
theorem dM_tryLast_118 : decode prog_6_method_16_code 118 = .ok (.lload 9, 2) := by decide +kernel
theorem dM_tryLast_120 : decode prog_6_method_16_code 120 = .ok (.ladd, 1) := by decide +kernel
theorem dM_tryLast_121 : decode prog_6_method_16_code 121 = .ok (.lconst 1, 1) := by decide +kernel
theorem dM_tryLast_122 : decode prog_6_method_16_code 122 = .ok (.lsub, 1) := by decide +kernel
theorem dM_tryLast_123 : decode prog_6_method_16_code 123 = .ok (.lload 9, 2) := by decide +kernel
theorem dM_tryLast_125 : decode prog_6_method_16_code 125 = .ok (.ldiv, 1) := by decide +kernel
theorem dM_tryLast_126 : decode prog_6_method_16_code 126 = .ok (.lstore 11, 2) := by decide +kernel
theorem dM_tryLast_128 : decode prog_6_method_16_code 128 = .ok (.lload 11, 2) := by decide +kernel
theorem dM_tryLast_130 : decode prog_6_method_16_code 130 = .ok (.aload_n 0, 1) := by decide +kernel
theorem dM_tryLast_131 : decode prog_6_method_16_code 131 = .ok (.getfield 38, 3) := by decide +kernel
theorem dM_tryLast_134 : decode prog_6_method_16_code 134 = .ok (.invokestatic 98, 3) := by decide +kernel
theorem dM_tryLast_137 : decode prog_6_method_16_code 137 = .ok (.i2l, 1) := by decide +kernel
theorem dM_tryLast_138 : decode prog_6_method_16_code 138 = .ok (.ladd, 1) := by decide +kernel
theorem dM_tryLast_139 : decode prog_6_method_16_code 139 = .ok (.ldc2_w 102, 3) := by decide +kernel
theorem dM_tryLast_142 : decode prog_6_method_16_code 142 = .ok (.lcmp, 1) := by decide +kernel
theorem dM_tryLast_143 : decode prog_6_method_16_code 143 = .ok (.ifCond .le 4, 3) := by decide +kernel
theorem dM_tryLast_146 : decode prog_6_method_16_code 146 = .ok (.return_, 1) := by decide +kernel
theorem dM_tryLast_147 : decode prog_6_method_16_code 147 = .ok (.aload_n 0, 1) := by decide +kernel
theorem dM_tryLast_148 : decode prog_6_method_16_code 148 = .ok (.getfield 38, 3) := by decide +kernel
theorem dM_tryLast_151 : decode prog_6_method_16_code 151 = .ok (.iload 4, 2) := by decide +kernel
theorem dM_tryLast_153 : decode prog_6_method_16_code 153 = .ok (.lload 11, 2) := by decide +kernel
theorem dM_tryLast_155 : decode prog_6_method_16_code 155 = .ok (.l2i, 1) := by decide +kernel
theorem dM_tryLast_156 : decode prog_6_method_16_code 156 = .ok (.iastore, 1) := by decide +kernel
theorem dM_tryLast_157 : decode prog_6_method_16_code 157 = .ok (.lload 7, 2) := by decide +kernel
theorem dM_tryLast_159 : decode prog_6_method_16_code 159 = .ok (.lload 11, 2) := by decide +kernel
theorem dM_tryLast_161 : decode prog_6_method_16_code 161 = .ok (.aload_n 0, 1) := by decide +kernel
theorem dM_tryLast_162 : decode prog_6_method_16_code 162 = .ok (.getfield 35, 3) := by decide +kernel
theorem dM_tryLast_165 : decode prog_6_method_16_code 165 = .ok (.iconst 4, 1) := by decide +kernel
theorem dM_tryLast_166 : decode prog_6_method_16_code 166 = .ok (.iload_n 1, 1) := by decide +kernel
theorem dM_tryLast_167 : decode prog_6_method_16_code 167 = .ok (.imul, 1) := by decide +kernel
theorem dM_tryLast_168 : decode prog_6_method_16_code 168 = .ok (.iload 4, 2) := by decide +kernel
theorem dM_tryLast_170 : decode prog_6_method_16_code 170 = .ok (.iadd, 1) := by decide +kernel
theorem dM_tryLast_171 : decode prog_6_method_16_code 171 = .ok (.laload, 1) := by decide +kernel
theorem dM_tryLast_172 : decode prog_6_method_16_code 172 = .ok (.lmul, 1) := by decide +kernel
theorem dM_tryLast_173 : decode prog_6_method_16_code 173 = .ok (.ladd, 1) := by decide +kernel
theorem dM_tryLast_174 : decode prog_6_method_16_code 174 = .ok (.lstore 7, 2) := by decide +kernel
theorem dM_tryLast_176 : decode prog_6_method_16_code 176 = .ok (.aload_n 0, 1) := by decide +kernel
theorem dM_tryLast_177 : decode prog_6_method_16_code 177 = .ok (.lload 7, 2) := by decide +kernel
theorem dM_tryLast_179 : decode prog_6_method_16_code 179 = .ok (.invokevirtual 104, 3) := by decide +kernel
theorem dM_tryLast_182 : decode prog_6_method_16_code 182 = .ok (.ifCond .eq 38, 3) := by decide +kernel
theorem dM_tryLast_185 : decode prog_6_method_16_code 185 = .ok (.aload_n 0, 1) := by decide +kernel
theorem dM_tryLast_186 : decode prog_6_method_16_code 186 = .ok (.lload 7, 2) := by decide +kernel
theorem dM_tryLast_188 : decode prog_6_method_16_code 188 = .ok (.putfield 94, 3) := by decide +kernel
theorem dM_tryLast_191 : decode prog_6_method_16_code 191 = .ok (.iconst 0, 1) := by decide +kernel
theorem dM_tryLast_192 : decode prog_6_method_16_code 192 = .ok (.istore 13, 2) := by decide +kernel
theorem dM_tryLast_194 : decode prog_6_method_16_code 194 = .ok (.iload 13, 2) := by decide +kernel
theorem dM_tryLast_196 : decode prog_6_method_16_code 196 = .ok (.iconst 4, 1) := by decide +kernel
theorem dM_tryLast_197 : decode prog_6_method_16_code 197 = .ok (.if_icmp .ge 23, 3) := by decide +kernel
theorem dM_tryLast_200 : decode prog_6_method_16_code 200 = .ok (.aload_n 0, 1) := by decide +kernel
theorem dM_tryLast_201 : decode prog_6_method_16_code 201 = .ok (.getfield 41, 3) := by decide +kernel
theorem dM_tryLast_204 : decode prog_6_method_16_code 204 = .ok (.iload 13, 2) := by decide +kernel
theorem dM_tryLast_206 : decode prog_6_method_16_code 206 = .ok (.aload_n 0, 1) := by decide +kernel
theorem dM_tryLast_207 : decode prog_6_method_16_code 207 = .ok (.getfield 38, 3) := by decide +kernel
theorem dM_tryLast_210 : decode prog_6_method_16_code 210 = .ok (.iload 13, 2) := by decide +kernel
theorem dM_tryLast_212 : decode prog_6_method_16_code 212 = .ok (.iaload, 1) := by decide +kernel
theorem dM_tryLast_213 : decode prog_6_method_16_code 213 = .ok (.iastore, 1) := by decide +kernel
theorem dM_tryLast_214 : decode prog_6_method_16_code 214 = .ok (.iinc 13 1, 3) := by decide +kernel
theorem dM_tryLast_217 : decode prog_6_method_16_code 217 = .ok (.goto (-23), 3) := by decide +kernel
theorem dM_tryLast_220 : decode prog_6_method_16_code 220 = .ok (.return_, 1) := by decide +kernel
theorem dM_together_0 : decode prog_6_method_14_code 0 = .ok (.aload_n 0, 1) := by decide +kernel
theorem dM_together_1 : decode prog_6_method_14_code 1 = .ok (.iconst 0, 1) := by decide +kernel
theorem dM_together_2 : decode prog_6_method_14_code 2 = .ok (.iaload, 1) := by decide +kernel
theorem dM_together_3 : decode prog_6_method_14_code 3 = .ok (.aload_n 0, 1) := by decide +kernel
theorem dM_together_4 : decode prog_6_method_14_code 4 = .ok (.iconst 1, 1) := by decide +kernel
theorem dM_together_5 : decode prog_6_method_14_code 5 = .ok (.iaload, 1) := by decide +kernel
theorem dM_together_6 : decode prog_6_method_14_code 6 = .ok (.iadd, 1) := by decide +kernel
theorem dM_together_7 : decode prog_6_method_14_code 7 = .ok (.aload_n 0, 1) := by decide +kernel
theorem dM_together_8 : decode prog_6_method_14_code 8 = .ok (.iconst 2, 1) := by decide +kernel
theorem dM_together_9 : decode prog_6_method_14_code 9 = .ok (.iaload, 1) := by decide +kernel
theorem dM_together_10 : decode prog_6_method_14_code 10 = .ok (.iadd, 1) := by decide +kernel
theorem dM_together_11 : decode prog_6_method_14_code 11 = .ok (.aload_n 0, 1) := by decide +kernel
theorem dM_together_12 : decode prog_6_method_14_code 12 = .ok (.iconst 3, 1) := by decide +kernel
theorem dM_together_13 : decode prog_6_method_14_code 13 = .ok (.iaload, 1) := by decide +kernel
theorem dM_together_14 : decode prog_6_method_14_code 14 = .ok (.iadd, 1) := by decide +kernel
theorem dM_together_15 : decode prog_6_method_14_code 15 = .ok (.ireturn, 1) := by decide +kernel
theorem dM_isBetter_0 : decode prog_6_method_15_code 0 = .ok (.aload_n 0, 1) := by decide +kernel
theorem dM_isBetter_1 : decode prog_6_method_15_code 1 = .ok (.getfield 94, 3) := by decide +kernel
theorem dM_isBetter_4 : decode prog_6_method_15_code 4 = .ok (.lconst 0, 1) := by decide +kernel
theorem dM_isBetter_5 : decode prog_6_method_15_code 5 = .ok (.lcmp, 1) := by decide +kernel
theorem dM_isBetter_6 : decode prog_6_method_15_code 6 = .ok (.ifCond .lt 12, 3) := by decide +kernel
theorem dM_isBetter_9 : decode prog_6_method_15_code 9 = .ok (.lload_n 1, 1) := by decide +kernel
theorem dM_isBetter_10 : decode prog_6_method_15_code 10 = .ok (.aload_n 0, 1) := by decide +kernel
theorem dM_isBetter_11 : decode prog_6_method_15_code 11 = .ok (.getfield 94, 3) := by decide +kernel
theorem dM_isBetter_14 : decode prog_6_method_15_code 14 = .ok (.lcmp, 1) := by decide +kernel
theorem dM_isBetter_15 : decode prog_6_method_15_code 15 = .ok (.ifCond .eq 27, 3) := by decide +kernel
theorem dM_isBetter_18 : decode prog_6_method_15_code 18 = .ok (.aload_n 0, 1) := by decide +kernel
theorem dM_isBetter_19 : decode prog_6_method_15_code 19 = .ok (.getfield 94, 3) := by decide +kernel
theorem dM_isBetter_22 : decode prog_6_method_15_code 22 = .ok (.lconst 0, 1) := by decide +kernel
theorem dM_isBetter_23 : decode prog_6_method_15_code 23 = .ok (.lcmp, 1) := by decide +kernel
theorem dM_isBetter_24 : decode prog_6_method_15_code 24 = .ok (.ifCond .lt 12, 3) := by decide +kernel
theorem dM_isBetter_27 : decode prog_6_method_15_code 27 = .ok (.lload_n 1, 1) := by decide +kernel
theorem dM_isBetter_28 : decode prog_6_method_15_code 28 = .ok (.aload_n 0, 1) := by decide +kernel
theorem dM_isBetter_29 : decode prog_6_method_15_code 29 = .ok (.getfield 94, 3) := by decide +kernel
theorem dM_isBetter_32 : decode prog_6_method_15_code 32 = .ok (.lcmp, 1) := by decide +kernel
theorem dM_isBetter_33 : decode prog_6_method_15_code 33 = .ok (.ifCond .ge 7, 3) := by decide +kernel
theorem dM_isBetter_36 : decode prog_6_method_15_code 36 = .ok (.iconst 1, 1) := by decide +kernel
theorem dM_isBetter_37 : decode prog_6_method_15_code 37 = .ok (.goto 4, 3) := by decide +kernel
theorem dM_isBetter_40 : decode prog_6_method_15_code 40 = .ok (.iconst 0, 1) := by decide +kernel
theorem dM_isBetter_41 : decode prog_6_method_15_code 41 = .ok (.ireturn, 1) := by decide +kernel
theorem dM_isBetter_42 : decode prog_6_method_15_code 42 = .ok (.aload_n 0, 1) := by decide +kernel
theorem dM_isBetter_43 : decode prog_6_method_15_code 43 = .ok (.getfield 38, 3) := by decide +kernel
theorem dM_isBetter_46 : decode prog_6_method_15_code 46 = .ok (.invokestatic 98, 3) := by decide +kernel
theorem dM_isBetter_49 : decode prog_6_method_15_code 49 = .ok (.aload_n 0, 1) := by decide +kernel
theorem dM_isBetter_50 : decode prog_6_method_15_code 50 = .ok (.getfield 41, 3) := by decide +kernel
theorem dM_isBetter_53 : decode prog_6_method_15_code 53 = .ok (.invokestatic 98, 3) := by decide +kernel
theorem dM_isBetter_56 : decode prog_6_method_15_code 56 = .ok (.if_icmp .eq 26, 3) := by decide +kernel
theorem dM_isBetter_59 : decode prog_6_method_15_code 59 = .ok (.aload_n 0, 1) := by decide +kernel
theorem dM_isBetter_60 : decode prog_6_method_15_code 60 = .ok (.getfield 38, 3) := by decide +kernel
theorem dM_isBetter_63 : decode prog_6_method_15_code 63 = .ok (.invokestatic 98, 3) := by decide +kernel
theorem dM_isBetter_66 : decode prog_6_method_15_code 66 = .ok (.aload_n 0, 1) := by decide +kernel
theorem dM_isBetter_67 : decode prog_6_method_15_code 67 = .ok (.getfield 41, 3) := by decide +kernel
theorem dM_isBetter_70 : decode prog_6_method_15_code 70 = .ok (.invokestatic 98, 3) := by decide +kernel
theorem dM_isBetter_73 : decode prog_6_method_15_code 73 = .ok (.if_icmp .ge 7, 3) := by decide +kernel
theorem dM_isBetter_76 : decode prog_6_method_15_code 76 = .ok (.iconst 1, 1) := by decide +kernel
theorem dM_isBetter_77 : decode prog_6_method_15_code 77 = .ok (.goto 4, 3) := by decide +kernel
theorem dM_isBetter_80 : decode prog_6_method_15_code 80 = .ok (.iconst 0, 1) := by decide +kernel
theorem dM_isBetter_81 : decode prog_6_method_15_code 81 = .ok (.ireturn, 1) := by decide +kernel
theorem dM_isBetter_82 : decode prog_6_method_15_code 82 = .ok (.iconst 0, 1) := by decide +kernel
theorem dM_isBetter_83 : decode prog_6_method_15_code 83 = .ok (.istore_n 3, 1) := by decide +kernel
theorem dM_isBetter_84 : decode prog_6_method_15_code 84 = .ok (.iload_n 3, 1) := by decide +kernel
theorem dM_isBetter_85 : decode prog_6_method_15_code 85 = .ok (.iconst 3, 1) := by decide +kernel
theorem dM_isBetter_86 : decode prog_6_method_15_code 86 = .ok (.if_icmp .ge 24, 3) := by decide +kernel
theorem dM_isBetter_89 : decode prog_6_method_15_code 89 = .ok (.aload_n 0, 1) := by decide +kernel
theorem dM_isBetter_90 : decode prog_6_method_15_code 90 = .ok (.getfield 38, 3) := by decide +kernel
theorem dM_isBetter_93 : decode prog_6_method_15_code 93 = .ok (.iload_n 3, 1) := by decide +kernel
theorem dM_isBetter_94 : decode prog_6_method_15_code 94 = .ok (.iaload, 1) := by decide +kernel
theorem dM_isBetter_95 : decode prog_6_method_15_code 95 = .ok (.aload_n 0, 1) := by decide +kernel
theorem dM_isBetter_96 : decode prog_6_method_15_code 96 = .ok (.getfield 41, 3) := by decide +kernel
theorem dM_isBetter_99 : decode prog_6_method_15_code 99 = .ok (.iload_n 3, 1) := by decide +kernel
theorem dM_isBetter_100 : decode prog_6_method_15_code 100 = .ok (.iaload, 1) := by decide +kernel
theorem dM_isBetter_101 : decode prog_6_method_15_code 101 = .ok (.if_icmp .ne 9, 3) := by decide +kernel
theorem dM_isBetter_104 : decode prog_6_method_15_code 104 = .ok (.iinc 3 1, 3) := by decide +kernel
theorem dM_isBetter_107 : decode prog_6_method_15_code 107 = .ok (.goto (-23), 3) := by decide +kernel
theorem dM_isBetter_110 : decode prog_6_method_15_code 110 = .ok (.aload_n 0, 1) := by decide +kernel
theorem dM_isBetter_111 : decode prog_6_method_15_code 111 = .ok (.getfield 38, 3) := by decide +kernel
theorem dM_isBetter_114 : decode prog_6_method_15_code 114 = .ok (.iload_n 3, 1) := by decide +kernel
end
section
-- DECODE ROWS
theorem dM_isBetter_115 : decode prog_6_method_15_code 115 = .ok (.iaload, 1) := by decide +kernel
theorem dM_isBetter_116 : decode prog_6_method_15_code 116 = .ok (.aload_n 0, 1) := by decide +kernel
theorem dM_isBetter_117 : decode prog_6_method_15_code 117 = .ok (.getfield 41, 3) := by decide +kernel
theorem dM_isBetter_120 : decode prog_6_method_15_code 120 = .ok (.iload_n 3, 1) := by decide +kernel
theorem dM_isBetter_121 : decode prog_6_method_15_code 121 = .ok (.iaload, 1) := by decide +kernel
theorem dM_isBetter_122 : decode prog_6_method_15_code 122 = .ok (.if_icmp .le 7, 3) := by decide +kernel
theorem dM_isBetter_125 : decode prog_6_method_15_code 125 = .ok (.iconst 1, 1) := by decide +kernel
theorem dM_isBetter_126 : decode prog_6_method_15_code 126 = .ok (.goto 4, 3) := by decide +kernel
theorem dM_isBetter_129 : decode prog_6_method_15_code 129 = .ok (.iconst 0, 1) := by decide +kernel
theorem dM_isBetter_130 : decode prog_6_method_15_code 130 = .ok (.ireturn, 1) := by decide +kernel
theorem dM_cents1_0 : decode prog_6_method_19_code 0 = .ok (.aload_n 0, 1) := by decide +kernel
theorem dM_cents1_1 : decode prog_6_method_19_code 1 = .ok (.iload_n 1, 1) := by decide +kernel
theorem dM_cents1_2 : decode prog_6_method_19_code 2 = .ok (.invokestatic 75, 3) := by decide +kernel
theorem dM_cents1_5 : decode prog_6_method_19_code 5 = .ok (.ifCond .eq 7, 3) := by decide +kernel
theorem dM_cents1_8 : decode prog_6_method_19_code 8 = .ok (.iconst 0, 1) := by decide +kernel
theorem dM_cents1_9 : decode prog_6_method_19_code 9 = .ok (.goto 4, 3) := by decide +kernel
theorem dM_cents1_12 : decode prog_6_method_19_code 12 = .ok (.iconst 1, 1) := by decide +kernel
theorem dM_cents1_13 : decode prog_6_method_19_code 13 = .ok (.putfield 57, 3) := by decide +kernel
theorem dM_cents1_16 : decode prog_6_method_19_code 16 = .ok (.aload_n 0, 1) := by decide +kernel
theorem dM_cents1_17 : decode prog_6_method_19_code 17 = .ok (.getfield 57, 3) := by decide +kernel
theorem dM_cents1_20 : decode prog_6_method_19_code 20 = .ok (.ifCond .le 5, 3) := by decide +kernel
theorem dM_cents1_23 : decode prog_6_method_19_code 23 = .ok (.lconst 0, 1) := by decide +kernel
theorem dM_cents1_24 : decode prog_6_method_19_code 24 = .ok (.lreturn, 1) := by decide +kernel
theorem dM_cents1_25 : decode prog_6_method_19_code 25 = .ok (.aload_n 0, 1) := by decide +kernel
theorem dM_cents1_26 : decode prog_6_method_19_code 26 = .ok (.iload_n 1, 1) := by decide +kernel
theorem dM_cents1_27 : decode prog_6_method_19_code 27 = .ok (.invokevirtual 114, 3) := by decide +kernel
theorem dM_cents1_30 : decode prog_6_method_19_code 30 = .ok (.aload_n 0, 1) := by decide +kernel
theorem dM_cents1_31 : decode prog_6_method_19_code 31 = .ok (.getfield 94, 3) := by decide +kernel
theorem dM_cents1_34 : decode prog_6_method_19_code 34 = .ok (.lreturn, 1) := by decide +kernel
theorem dM_cents0_0 : decode prog_6_method_20_code 0 = .ok (.aload_n 0, 1) := by decide +kernel
theorem dM_cents0_1 : decode prog_6_method_20_code 1 = .ok (.iconst 0, 1) := by decide +kernel
theorem dM_cents0_2 : decode prog_6_method_20_code 2 = .ok (.putfield 57, 3) := by decide +kernel
theorem dM_cents0_5 : decode prog_6_method_20_code 5 = .ok (.lconst 0, 1) := by decide +kernel
theorem dM_cents0_6 : decode prog_6_method_20_code 6 = .ok (.lstore_n 1, 1) := by decide +kernel
theorem dM_cents0_7 : decode prog_6_method_20_code 7 = .ok (.iconst 0, 1) := by decide +kernel
theorem dM_cents0_8 : decode prog_6_method_20_code 8 = .ok (.istore_n 3, 1) := by decide +kernel
theorem dM_cents0_9 : decode prog_6_method_20_code 9 = .ok (.iload_n 3, 1) := by decide +kernel
theorem dM_cents0_10 : decode prog_6_method_20_code 10 = .ok (.bipush 10, 2) := by decide +kernel
theorem dM_cents0_12 : decode prog_6_method_20_code 12 = .ok (.if_icmp .ge 34, 3) := by decide +kernel
theorem dM_cents0_15 : decode prog_6_method_20_code 15 = .ok (.aload_n 0, 1) := by decide +kernel
theorem dM_cents0_16 : decode prog_6_method_20_code 16 = .ok (.iload_n 3, 1) := by decide +kernel
theorem dM_cents0_17 : decode prog_6_method_20_code 17 = .ok (.invokevirtual 114, 3) := by decide +kernel
theorem dM_cents0_20 : decode prog_6_method_20_code 20 = .ok (.aload_n 0, 1) := by decide +kernel
theorem dM_cents0_21 : decode prog_6_method_20_code 21 = .ok (.getfield 94, 3) := by decide +kernel
theorem dM_cents0_24 : decode prog_6_method_20_code 24 = .ok (.lconst 0, 1) := by decide +kernel
theorem dM_cents0_25 : decode prog_6_method_20_code 25 = .ok (.lcmp, 1) := by decide +kernel
theorem dM_cents0_26 : decode prog_6_method_20_code 26 = .ok (.ifCond .ge 7, 3) := by decide +kernel
theorem dM_cents0_29 : decode prog_6_method_20_code 29 = .ok (.ldc2_w 108, 3) := by decide +kernel
theorem dM_cents0_32 : decode prog_6_method_20_code 32 = .ok (.lreturn, 1) := by decide +kernel
theorem dM_cents0_33 : decode prog_6_method_20_code 33 = .ok (.lload_n 1, 1) := by decide +kernel
theorem dM_cents0_34 : decode prog_6_method_20_code 34 = .ok (.aload_n 0, 1) := by decide +kernel
theorem dM_cents0_35 : decode prog_6_method_20_code 35 = .ok (.getfield 94, 3) := by decide +kernel
theorem dM_cents0_38 : decode prog_6_method_20_code 38 = .ok (.ladd, 1) := by decide +kernel
theorem dM_cents0_39 : decode prog_6_method_20_code 39 = .ok (.lstore_n 1, 1) := by decide +kernel
theorem dM_cents0_40 : decode prog_6_method_20_code 40 = .ok (.iinc 3 1, 3) := by decide +kernel
theorem dM_cents0_43 : decode prog_6_method_20_code 43 = .ok (.goto (-34), 3) := by decide +kernel
theorem dM_cents0_46 : decode prog_6_method_20_code 46 = .ok (.lload_n 1, 1) := by decide +kernel
theorem dM_cents0_47 : decode prog_6_method_20_code 47 = .ok (.lreturn, 1) := by decide +kernel
theorem dM_bars_0 : decode prog_6_method_21_code 0 = .ok (.iconst 0, 1) := by decide +kernel
theorem dM_bars_1 : decode prog_6_method_21_code 1 = .ok (.istore_n 3, 1) := by decide +kernel
theorem dM_bars_2 : decode prog_6_method_21_code 2 = .ok (.iconst 0, 1) := by decide +kernel
theorem dM_bars_3 : decode prog_6_method_21_code 3 = .ok (.istore 4, 2) := by decide +kernel
theorem dM_bars_5 : decode prog_6_method_21_code 5 = .ok (.iload 4, 2) := by decide +kernel
theorem dM_bars_7 : decode prog_6_method_21_code 7 = .ok (.aload_n 0, 1) := by decide +kernel
theorem dM_bars_8 : decode prog_6_method_21_code 8 = .ok (.getfield 118, 3) := by decide +kernel
theorem dM_bars_11 : decode prog_6_method_21_code 11 = .ok (.if_icmp .ge 32, 3) := by decide +kernel
theorem dM_bars_14 : decode prog_6_method_21_code 14 = .ok (.aload_n 0, 1) := by decide +kernel
theorem dM_bars_15 : decode prog_6_method_21_code 15 = .ok (.getfield 48, 3) := by decide +kernel
theorem dM_bars_18 : decode prog_6_method_21_code 18 = .ok (.iload 4, 2) := by decide +kernel
theorem dM_bars_20 : decode prog_6_method_21_code 20 = .ok (.iaload, 1) := by decide +kernel
theorem dM_bars_21 : decode prog_6_method_21_code 21 = .ok (.iload_n 3, 1) := by decide +kernel
theorem dM_bars_22 : decode prog_6_method_21_code 22 = .ok (.if_icmp .le 13, 3) := by decide +kernel
theorem dM_bars_25 : decode prog_6_method_21_code 25 = .ok (.aload_n 0, 1) := by decide +kernel
theorem dM_bars_26 : decode prog_6_method_21_code 26 = .ok (.getfield 48, 3) := by decide +kernel
theorem dM_bars_29 : decode prog_6_method_21_code 29 = .ok (.iload 4, 2) := by decide +kernel
theorem dM_bars_31 : decode prog_6_method_21_code 31 = .ok (.iaload, 1) := by decide +kernel
theorem dM_bars_32 : decode prog_6_method_21_code 32 = .ok (.goto 4, 3) := by decide +kernel
theorem dM_bars_35 : decode prog_6_method_21_code 35 = .ok (.iload_n 3, 1) := by decide +kernel
theorem dM_bars_36 : decode prog_6_method_21_code 36 = .ok (.istore_n 3, 1) := by decide +kernel
theorem dM_bars_37 : decode prog_6_method_21_code 37 = .ok (.iinc 4 1, 3) := by decide +kernel
theorem dM_bars_40 : decode prog_6_method_21_code 40 = .ok (.goto (-35), 3) := by decide +kernel
theorem dM_bars_43 : decode prog_6_method_21_code 43 = .ok (.aload_n 0, 1) := by decide +kernel
theorem dM_bars_44 : decode prog_6_method_21_code 44 = .ok (.iload_n 1, 1) := by decide +kernel
theorem dM_bars_45 : decode prog_6_method_21_code 45 = .ok (.i2l, 1) := by decide +kernel
theorem dM_bars_46 : decode prog_6_method_21_code 46 = .ok (.lconst 1, 1) := by decide +kernel
theorem dM_bars_47 : decode prog_6_method_21_code 47 = .ok (.ldc2_w 121, 3) := by decide +kernel
theorem dM_bars_50 : decode prog_6_method_21_code 50 = .ok (.invokestatic 63, 3) := by decide +kernel
theorem dM_bars_53 : decode prog_6_method_21_code 53 = .ok (.ifCond .eq 15, 3) := by decide +kernel
theorem dM_bars_56 : decode prog_6_method_21_code 56 = .ok (.iload_n 2, 1) := by decide +kernel
theorem dM_bars_57 : decode prog_6_method_21_code 57 = .ok (.i2l, 1) := by decide +kernel
theorem dM_bars_58 : decode prog_6_method_21_code 58 = .ok (.lconst 0, 1) := by decide +kernel
theorem dM_bars_59 : decode prog_6_method_21_code 59 = .ok (.ldc2_w 80, 3) := by decide +kernel
theorem dM_bars_62 : decode prog_6_method_21_code 62 = .ok (.invokestatic 63, 3) := by decide +kernel
theorem dM_bars_65 : decode prog_6_method_21_code 65 = .ok (.ifCond .ne 7, 3) := by decide +kernel
theorem dM_bars_68 : decode prog_6_method_21_code 68 = .ok (.iconst 1, 1) := by decide +kernel
theorem dM_bars_69 : decode prog_6_method_21_code 69 = .ok (.goto 13, 3) := by decide +kernel
theorem dM_bars_72 : decode prog_6_method_21_code 72 = .ok (.iload_n 3, 1) := by decide +kernel
theorem dM_bars_73 : decode prog_6_method_21_code 73 = .ok (.iload_n 1, 1) := by decide +kernel
theorem dM_bars_74 : decode prog_6_method_21_code 74 = .ok (.if_icmp .le 7, 3) := by decide +kernel
theorem dM_bars_77 : decode prog_6_method_21_code 77 = .ok (.iconst 2, 1) := by decide +kernel
theorem dM_bars_78 : decode prog_6_method_21_code 78 = .ok (.goto 4, 3) := by decide +kernel
theorem dM_bars_81 : decode prog_6_method_21_code 81 = .ok (.iconst 0, 1) := by decide +kernel
theorem dM_bars_82 : decode prog_6_method_21_code 82 = .ok (.putfield 57, 3) := by decide +kernel
theorem dM_bars_85 : decode prog_6_method_21_code 85 = .ok (.aload_n 0, 1) := by decide +kernel
theorem dM_bars_86 : decode prog_6_method_21_code 86 = .ok (.getfield 57, 3) := by decide +kernel
theorem dM_bars_89 : decode prog_6_method_21_code 89 = .ok (.ifCond .ne 13, 3) := by decide +kernel
theorem dM_bars_92 : decode prog_6_method_21_code 92 = .ok (.aload_n 0, 1) := by decide +kernel
theorem dM_bars_93 : decode prog_6_method_21_code 93 = .ok (.iload_n 1, 1) := by decide +kernel
theorem dM_bars_94 : decode prog_6_method_21_code 94 = .ok (.putfield 44, 3) := by decide +kernel
theorem dM_bars_97 : decode prog_6_method_21_code 97 = .ok (.aload_n 0, 1) := by decide +kernel
theorem dM_bars_98 : decode prog_6_method_21_code 98 = .ok (.iload_n 2, 1) := by decide +kernel
theorem dM_bars_99 : decode prog_6_method_21_code 99 = .ok (.putfield 123, 3) := by decide +kernel
theorem dM_bars_102 : decode prog_6_method_21_code 102 = .ok (.return_, 1) := by decide +kernel
theorem dM_piece_0 : decode prog_6_method_22_code 0 = .ok (.aload_n 0, 1) := by decide +kernel
theorem dM_piece_1 : decode prog_6_method_22_code 1 = .ok (.iload_n 1, 1) := by decide +kernel
theorem dM_piece_2 : decode prog_6_method_22_code 2 = .ok (.i2l, 1) := by decide +kernel
theorem dM_piece_3 : decode prog_6_method_22_code 3 = .ok (.lconst 1, 1) := by decide +kernel
theorem dM_piece_4 : decode prog_6_method_22_code 4 = .ok (.aload_n 0, 1) := by decide +kernel
theorem dM_piece_5 : decode prog_6_method_22_code 5 = .ok (.getfield 44, 3) := by decide +kernel
theorem dM_piece_8 : decode prog_6_method_22_code 8 = .ok (.i2l, 1) := by decide +kernel
theorem dM_piece_9 : decode prog_6_method_22_code 9 = .ok (.invokestatic 63, 3) := by decide +kernel
theorem dM_piece_12 : decode prog_6_method_22_code 12 = .ok (.ifCond .ne 7, 3) := by decide +kernel
theorem dM_piece_15 : decode prog_6_method_22_code 15 = .ok (.iconst 1, 1) := by decide +kernel
theorem dM_piece_16 : decode prog_6_method_22_code 16 = .ok (.goto 17, 3) := by decide +kernel
theorem dM_piece_19 : decode prog_6_method_22_code 19 = .ok (.aload_n 0, 1) := by decide +kernel
theorem dM_piece_20 : decode prog_6_method_22_code 20 = .ok (.getfield 118, 3) := by decide +kernel
theorem dM_piece_23 : decode prog_6_method_22_code 23 = .ok (.bipush 10, 2) := by decide +kernel
theorem dM_piece_25 : decode prog_6_method_22_code 25 = .ok (.if_icmp .ne 7, 3) := by decide +kernel
theorem dM_piece_28 : decode prog_6_method_22_code 28 = .ok (.iconst 2, 1) := by decide +kernel
theorem dM_piece_29 : decode prog_6_method_22_code 29 = .ok (.goto 4, 3) := by decide +kernel
theorem dM_piece_32 : decode prog_6_method_22_code 32 = .ok (.iconst 0, 1) := by decide +kernel
theorem dM_piece_33 : decode prog_6_method_22_code 33 = .ok (.putfield 57, 3) := by decide +kernel
theorem dM_piece_36 : decode prog_6_method_22_code 36 = .ok (.aload_n 0, 1) := by decide +kernel
theorem dM_piece_37 : decode prog_6_method_22_code 37 = .ok (.getfield 57, 3) := by decide +kernel
theorem dM_piece_40 : decode prog_6_method_22_code 40 = .ok (.ifCond .le 5, 3) := by decide +kernel
theorem dM_piece_43 : decode prog_6_method_22_code 43 = .ok (.iconst 0, 1) := by decide +kernel
theorem dM_piece_44 : decode prog_6_method_22_code 44 = .ok (.ireturn, 1) := by decide +kernel
theorem dM_piece_45 : decode prog_6_method_22_code 45 = .ok (.aload_n 0, 1) := by decide +kernel
theorem dM_piece_46 : decode prog_6_method_22_code 46 = .ok (.getfield 48, 3) := by decide +kernel
theorem dM_piece_49 : decode prog_6_method_22_code 49 = .ok (.aload_n 0, 1) := by decide +kernel
theorem dM_piece_50 : decode prog_6_method_22_code 50 = .ok (.getfield 118, 3) := by decide +kernel
theorem dM_piece_53 : decode prog_6_method_22_code 53 = .ok (.iload_n 1, 1) := by decide +kernel
theorem dM_piece_54 : decode prog_6_method_22_code 54 = .ok (.iastore, 1) := by decide +kernel
theorem dM_piece_55 : decode prog_6_method_22_code 55 = .ok (.aload_n 0, 1) := by decide +kernel
theorem dM_piece_56 : decode prog_6_method_22_code 56 = .ok (.dup, 1) := by decide +kernel
theorem dM_piece_57 : decode prog_6_method_22_code 57 = .ok (.getfield 118, 3) := by decide +kernel
theorem dM_piece_60 : decode prog_6_method_22_code 60 = .ok (.iconst 1, 1) := by decide +kernel
theorem dM_piece_61 : decode prog_6_method_22_code 61 = .ok (.iadd, 1) := by decide +kernel
theorem dM_piece_62 : decode prog_6_method_22_code 62 = .ok (.putfield 118, 3) := by decide +kernel
theorem dM_piece_65 : decode prog_6_method_22_code 65 = .ok (.aload_n 0, 1) := by decide +kernel
theorem dM_piece_66 : decode prog_6_method_22_code 66 = .ok (.getfield 118, 3) := by decide +kernel
theorem dM_piece_69 : decode prog_6_method_22_code 69 = .ok (.iconst 1, 1) := by decide +kernel
theorem dM_piece_70 : decode prog_6_method_22_code 70 = .ok (.isub, 1) := by decide +kernel
theorem dM_piece_71 : decode prog_6_method_22_code 71 = .ok (.ireturn, 1) := by decide +kernel
theorem dM_change_0 : decode prog_6_method_23_code 0 = .ok (.aload_n 0, 1) := by decide +kernel
theorem dM_change_1 : decode prog_6_method_23_code 1 = .ok (.iload_n 1, 1) := by decide +kernel
theorem dM_change_2 : decode prog_6_method_23_code 2 = .ok (.i2l, 1) := by decide +kernel
theorem dM_change_3 : decode prog_6_method_23_code 3 = .ok (.lconst 0, 1) := by decide +kernel
theorem dM_change_4 : decode prog_6_method_23_code 4 = .ok (.aload_n 0, 1) := by decide +kernel
theorem dM_change_5 : decode prog_6_method_23_code 5 = .ok (.getfield 118, 3) := by decide +kernel
theorem dM_change_8 : decode prog_6_method_23_code 8 = .ok (.iconst 1, 1) := by decide +kernel
theorem dM_change_9 : decode prog_6_method_23_code 9 = .ok (.isub, 1) := by decide +kernel
theorem dM_change_10 : decode prog_6_method_23_code 10 = .ok (.i2l, 1) := by decide +kernel
theorem dM_change_11 : decode prog_6_method_23_code 11 = .ok (.invokestatic 63, 3) := by decide +kernel
theorem dM_change_14 : decode prog_6_method_23_code 14 = .ok (.ifCond .eq 21, 3) := by decide +kernel
theorem dM_change_17 : decode prog_6_method_23_code 17 = .ok (.iload_n 2, 1) := by decide +kernel
theorem dM_change_18 : decode prog_6_method_23_code 18 = .ok (.i2l, 1) := by decide +kernel
theorem dM_change_19 : decode prog_6_method_23_code 19 = .ok (.lconst 1, 1) := by decide +kernel
theorem dM_change_20 : decode prog_6_method_23_code 20 = .ok (.aload_n 0, 1) := by decide +kernel
theorem dM_change_21 : decode prog_6_method_23_code 21 = .ok (.getfield 44, 3) := by decide +kernel
theorem dM_change_24 : decode prog_6_method_23_code 24 = .ok (.i2l, 1) := by decide +kernel
theorem dM_change_25 : decode prog_6_method_23_code 25 = .ok (.invokestatic 63, 3) := by decide +kernel
theorem dM_change_28 : decode prog_6_method_23_code 28 = .ok (.ifCond .eq 7, 3) := by decide +kernel
theorem dM_change_31 : decode prog_6_method_23_code 31 = .ok (.iconst 0, 1) := by decide +kernel
theorem dM_change_32 : decode prog_6_method_23_code 32 = .ok (.goto 4, 3) := by decide +kernel
theorem dM_change_35 : decode prog_6_method_23_code 35 = .ok (.iconst 1, 1) := by decide +kernel
theorem dM_change_36 : decode prog_6_method_23_code 36 = .ok (.putfield 57, 3) := by decide +kernel
theorem dM_change_39 : decode prog_6_method_23_code 39 = .ok (.aload_n 0, 1) := by decide +kernel
theorem dM_change_40 : decode prog_6_method_23_code 40 = .ok (.getfield 57, 3) := by decide +kernel
theorem dM_change_43 : decode prog_6_method_23_code 43 = .ok (.ifCond .le 5, 3) := by decide +kernel
theorem dM_change_46 : decode prog_6_method_23_code 46 = .ok (.iconst 0, 1) := by decide +kernel
theorem dM_change_47 : decode prog_6_method_23_code 47 = .ok (.ireturn, 1) := by decide +kernel
theorem dM_change_48 : decode prog_6_method_23_code 48 = .ok (.aload_n 0, 1) := by decide +kernel
theorem dM_change_49 : decode prog_6_method_23_code 49 = .ok (.getfield 48, 3) := by decide +kernel
theorem dM_change_52 : decode prog_6_method_23_code 52 = .ok (.iload_n 1, 1) := by decide +kernel
theorem dM_change_53 : decode prog_6_method_23_code 53 = .ok (.iaload, 1) := by decide +kernel
theorem dM_change_54 : decode prog_6_method_23_code 54 = .ok (.istore_n 3, 1) := by decide +kernel
theorem dM_change_55 : decode prog_6_method_23_code 55 = .ok (.aload_n 0, 1) := by decide +kernel
theorem dM_change_56 : decode prog_6_method_23_code 56 = .ok (.getfield 48, 3) := by decide +kernel
theorem dM_change_59 : decode prog_6_method_23_code 59 = .ok (.iload_n 1, 1) := by decide +kernel
theorem dM_change_60 : decode prog_6_method_23_code 60 = .ok (.iload_n 2, 1) := by decide +kernel
theorem dM_change_61 : decode prog_6_method_23_code 61 = .ok (.iastore, 1) := by decide +kernel
theorem dM_change_62 : decode prog_6_method_23_code 62 = .ok (.iload_n 3, 1) := by decide +kernel
theorem dM_change_63 : decode prog_6_method_23_code 63 = .ok (.ireturn, 1) := by decide +kernel
theorem dM_plan_0 : decode prog_6_method_27_code 0 = .ok (.aload_n 0, 1) := by decide +kernel
theorem dM_plan_1 : decode prog_6_method_27_code 1 = .ok (.iconst 0, 1) := by decide +kernel
theorem dM_plan_2 : decode prog_6_method_27_code 2 = .ok (.putfield 57, 3) := by decide +kernel
theorem dM_plan_5 : decode prog_6_method_27_code 5 = .ok (.aload_n 0, 1) := by decide +kernel
theorem dM_plan_6 : decode prog_6_method_27_code 6 = .ok (.invokevirtual 136, 3) := by decide +kernel
theorem dM_plan_9 : decode prog_6_method_27_code 9 = .ok (.aload_n 0, 1) := by decide +kernel
theorem dM_plan_10 : decode prog_6_method_27_code 10 = .ok (.getfield 130, 3) := by decide +kernel
theorem dM_plan_13 : decode prog_6_method_27_code 13 = .ok (.ireturn, 1) := by decide +kernel
theorem dM_findPlan_0 : decode prog_6_method_26_code 0 = .ok (.lconst 0, 1) := by decide +kernel
theorem dM_findPlan_1 : decode prog_6_method_26_code 1 = .ok (.lstore_n 1, 1) := by decide +kernel
theorem dM_findPlan_2 : decode prog_6_method_26_code 2 = .ok (.iconst 0, 1) := by decide +kernel
theorem dM_findPlan_3 : decode prog_6_method_26_code 3 = .ok (.istore_n 3, 1) := by decide +kernel
theorem dM_findPlan_4 : decode prog_6_method_26_code 4 = .ok (.iload_n 3, 1) := by decide +kernel
theorem dM_findPlan_5 : decode prog_6_method_26_code 5 = .ok (.aload_n 0, 1) := by decide +kernel
theorem dM_findPlan_6 : decode prog_6_method_26_code 6 = .ok (.getfield 118, 3) := by decide +kernel
theorem dM_findPlan_9 : decode prog_6_method_26_code 9 = .ok (.if_icmp .ge 24, 3) := by decide +kernel
theorem dM_findPlan_12 : decode prog_6_method_26_code 12 = .ok (.lload_n 1, 1) := by decide +kernel
theorem dM_findPlan_13 : decode prog_6_method_26_code 13 = .ok (.aload_n 0, 1) := by decide +kernel
theorem dM_findPlan_14 : decode prog_6_method_26_code 14 = .ok (.getfield 48, 3) := by decide +kernel
theorem dM_findPlan_17 : decode prog_6_method_26_code 17 = .ok (.iload_n 3, 1) := by decide +kernel
theorem dM_findPlan_18 : decode prog_6_method_26_code 18 = .ok (.iaload, 1) := by decide +kernel
theorem dM_findPlan_19 : decode prog_6_method_26_code 19 = .ok (.aload_n 0, 1) := by decide +kernel
theorem dM_findPlan_20 : decode prog_6_method_26_code 20 = .ok (.getfield 123, 3) := by decide +kernel
theorem dM_findPlan_23 : decode prog_6_method_26_code 23 = .ok (.iadd, 1) := by decide +kernel
theorem dM_findPlan_24 : decode prog_6_method_26_code 24 = .ok (.i2l, 1) := by decide +kernel
theorem dM_findPlan_25 : decode prog_6_method_26_code 25 = .ok (.ladd, 1) := by decide +kernel
theorem dM_findPlan_26 : decode prog_6_method_26_code 26 = .ok (.lstore_n 1, 1) := by decide +kernel
theorem dM_findPlan_27 : decode prog_6_method_26_code 27 = .ok (.iinc 3 1, 3) := by decide +kernel
theorem dM_findPlan_30 : decode prog_6_method_26_code 30 = .ok (.goto (-26), 3) := by decide +kernel
theorem dM_findPlan_33 : decode prog_6_method_26_code 33 = .ok (.aload_n 0, 1) := by decide +kernel
theorem dM_findPlan_34 : decode prog_6_method_26_code 34 = .ok (.lload_n 1, 1) := by decide +kernel
theorem dM_findPlan_35 : decode prog_6_method_26_code 35 = .ok (.aload_n 0, 1) := by decide +kernel
theorem dM_findPlan_36 : decode prog_6_method_26_code 36 = .ok (.getfield 44, 3) := by decide +kernel
theorem dM_findPlan_39 : decode prog_6_method_26_code 39 = .ok (.i2l, 1) := by decide +kernel
theorem dM_findPlan_40 : decode prog_6_method_26_code 40 = .ok (.ladd, 1) := by decide +kernel
theorem dM_findPlan_41 : decode prog_6_method_26_code 41 = .ok (.aload_n 0, 1) := by decide +kernel
theorem dM_findPlan_42 : decode prog_6_method_26_code 42 = .ok (.getfield 123, 3) := by decide +kernel
theorem dM_findPlan_45 : decode prog_6_method_26_code 45 = .ok (.i2l, 1) := by decide +kernel
theorem dM_findPlan_46 : decode prog_6_method_26_code 46 = .ok (.ladd, 1) := by decide +kernel
theorem dM_findPlan_47 : decode prog_6_method_26_code 47 = .ok (.lconst 1, 1) := by decide +kernel
theorem dM_findPlan_48 : decode prog_6_method_26_code 48 = .ok (.lsub, 1) := by decide +kernel
theorem dM_findPlan_49 : decode prog_6_method_26_code 49 = .ok (.aload_n 0, 1) := by decide +kernel
theorem dM_findPlan_50 : decode prog_6_method_26_code 50 = .ok (.getfield 44, 3) := by decide +kernel
theorem dM_findPlan_53 : decode prog_6_method_26_code 53 = .ok (.aload_n 0, 1) := by decide +kernel
theorem dM_findPlan_54 : decode prog_6_method_26_code 54 = .ok (.getfield 123, 3) := by decide +kernel
theorem dM_findPlan_57 : decode prog_6_method_26_code 57 = .ok (.iadd, 1) := by decide +kernel
theorem dM_findPlan_58 : decode prog_6_method_26_code 58 = .ok (.i2l, 1) := by decide +kernel
theorem dM_findPlan_59 : decode prog_6_method_26_code 59 = .ok (.ldiv, 1) := by decide +kernel
theorem dM_findPlan_60 : decode prog_6_method_26_code 60 = .ok (.l2i, 1) := by decide +kernel
theorem dM_findPlan_61 : decode prog_6_method_26_code 61 = .ok (.putfield 130, 3) := by decide +kernel
theorem dM_findPlan_64 : decode prog_6_method_26_code 64 = .ok (.aload_n 0, 1) := by decide +kernel
theorem dM_findPlan_65 : decode prog_6_method_26_code 65 = .ok (.aload_n 0, 1) := by decide +kernel
theorem dM_findPlan_66 : decode prog_6_method_26_code 66 = .ok (.getfield 130, 3) := by decide +kernel
theorem dM_findPlan_69 : decode prog_6_method_26_code 69 = .ok (.invokevirtual 133, 3) := by decide +kernel
theorem dM_findPlan_72 : decode prog_6_method_26_code 72 = .ok (.ifCond .ne 16, 3) := by decide +kernel
theorem dM_findPlan_75 : decode prog_6_method_26_code 75 = .ok (.aload_n 0, 1) := by decide +kernel
theorem dM_findPlan_76 : decode prog_6_method_26_code 76 = .ok (.dup, 1) := by decide +kernel
theorem dM_findPlan_77 : decode prog_6_method_26_code 77 = .ok (.getfield 130, 3) := by decide +kernel
theorem dM_findPlan_80 : decode prog_6_method_26_code 80 = .ok (.iconst 1, 1) := by decide +kernel
theorem dM_findPlan_81 : decode prog_6_method_26_code 81 = .ok (.iadd, 1) := by decide +kernel
theorem dM_findPlan_82 : decode prog_6_method_26_code 82 = .ok (.putfield 130, 3) := by decide +kernel
theorem dM_findPlan_85 : decode prog_6_method_26_code 85 = .ok (.goto (-21), 3) := by decide +kernel
theorem dM_findPlan_88 : decode prog_6_method_26_code 88 = .ok (.return_, 1) := by decide +kernel
theorem dM_goInto_0 : decode prog_6_method_25_code 0 = .ok (.iconst 0, 1) := by decide +kernel
theorem dM_goInto_1 : decode prog_6_method_25_code 1 = .ok (.istore_n 2, 1) := by decide +kernel
theorem dM_goInto_2 : decode prog_6_method_25_code 2 = .ok (.iload_n 2, 1) := by decide +kernel
theorem dM_goInto_3 : decode prog_6_method_25_code 3 = .ok (.bipush 10, 2) := by decide +kernel
theorem dM_goInto_5 : decode prog_6_method_25_code 5 = .ok (.if_icmp .ge 16, 3) := by decide +kernel
theorem dM_goInto_8 : decode prog_6_method_25_code 8 = .ok (.aload_n 0, 1) := by decide +kernel
theorem dM_goInto_9 : decode prog_6_method_25_code 9 = .ok (.getfield 54, 3) := by decide +kernel
theorem dM_goInto_12 : decode prog_6_method_25_code 12 = .ok (.iload_n 2, 1) := by decide +kernel
theorem dM_goInto_13 : decode prog_6_method_25_code 13 = .ok (.iconst 0, 1) := by decide +kernel
theorem dM_goInto_14 : decode prog_6_method_25_code 14 = .ok (.iastore, 1) := by decide +kernel
theorem dM_goInto_15 : decode prog_6_method_25_code 15 = .ok (.iinc 2 1, 3) := by decide +kernel
theorem dM_goInto_18 : decode prog_6_method_25_code 18 = .ok (.goto (-16), 3) := by decide +kernel
theorem dM_goInto_21 : decode prog_6_method_25_code 21 = .ok (.iconst 0, 1) := by decide +kernel
theorem dM_goInto_22 : decode prog_6_method_25_code 22 = .ok (.istore_n 2, 1) := by decide +kernel
theorem dM_goInto_23 : decode prog_6_method_25_code 23 = .ok (.iconst 0, 1) := by decide +kernel
theorem dM_goInto_24 : decode prog_6_method_25_code 24 = .ok (.istore_n 3, 1) := by decide +kernel
theorem dM_goInto_25 : decode prog_6_method_25_code 25 = .ok (.iload_n 2, 1) := by decide +kernel
theorem dM_goInto_26 : decode prog_6_method_25_code 26 = .ok (.ifCond .lt 169, 3) := by decide +kernel
theorem dM_goInto_29 : decode prog_6_method_25_code 29 = .ok (.iload_n 2, 1) := by decide +kernel
theorem dM_goInto_30 : decode prog_6_method_25_code 30 = .ok (.aload_n 0, 1) := by decide +kernel
theorem dM_goInto_31 : decode prog_6_method_25_code 31 = .ok (.getfield 118, 3) := by decide +kernel
theorem dM_goInto_34 : decode prog_6_method_25_code 34 = .ok (.if_icmp .ge 161, 3) := by decide +kernel
theorem dM_goInto_37 : decode prog_6_method_25_code 37 = .ok (.aload_n 0, 1) := by decide +kernel
theorem dM_goInto_38 : decode prog_6_method_25_code 38 = .ok (.iload_n 2, 1) := by decide +kernel
theorem dM_goInto_39 : decode prog_6_method_25_code 39 = .ok (.invokevirtual 126, 3) := by decide +kernel
theorem dM_goInto_42 : decode prog_6_method_25_code 42 = .ok (.istore 4, 2) := by decide +kernel
theorem dM_goInto_44 : decode prog_6_method_25_code 44 = .ok (.iload 4, 2) := by decide +kernel
theorem dM_goInto_46 : decode prog_6_method_25_code 46 = .ok (.iload_n 1, 1) := by decide +kernel
theorem dM_goInto_47 : decode prog_6_method_25_code 47 = .ok (.if_icmp .ge 8, 3) := by decide +kernel
theorem dM_goInto_50 : decode prog_6_method_25_code 50 = .ok (.iload 4, 2) := by decide +kernel
theorem dM_goInto_52 : decode prog_6_method_25_code 52 = .ok (.goto 6, 3) := by decide +kernel
theorem dM_goInto_55 : decode prog_6_method_25_code 55 = .ok (.iload_n 1, 1) := by decide +kernel
theorem dM_goInto_56 : decode prog_6_method_25_code 56 = .ok (.iconst 1, 1) := by decide +kernel
theorem dM_goInto_57 : decode prog_6_method_25_code 57 = .ok (.isub, 1) := by decide +kernel
theorem dM_goInto_58 : decode prog_6_method_25_code 58 = .ok (.istore 5, 2) := by decide +kernel
theorem dM_goInto_60 : decode prog_6_method_25_code 60 = .ok (.iload_n 3, 1) := by decide +kernel
theorem dM_goInto_61 : decode prog_6_method_25_code 61 = .ok (.istore 6, 2) := by decide +kernel
theorem dM_goInto_63 : decode prog_6_method_25_code 63 = .ok (.iload 6, 2) := by decide +kernel
theorem dM_goInto_65 : decode prog_6_method_25_code 65 = .ok (.iload 5, 2) := by decide +kernel
theorem dM_goInto_67 : decode prog_6_method_25_code 67 = .ok (.if_icmp .gt 40, 3) := by decide +kernel
theorem dM_goInto_70 : decode prog_6_method_25_code 70 = .ok (.aload_n 0, 1) := by decide +kernel
theorem dM_goInto_71 : decode prog_6_method_25_code 71 = .ok (.getfield 54, 3) := by decide +kernel
theorem dM_goInto_74 : decode prog_6_method_25_code 74 = .ok (.iload 6, 2) := by decide +kernel
theorem dM_goInto_76 : decode prog_6_method_25_code 76 = .ok (.iaload, 1) := by decide +kernel
theorem dM_goInto_77 : decode prog_6_method_25_code 77 = .ok (.aload_n 0, 1) := by decide +kernel
theorem dM_goInto_78 : decode prog_6_method_25_code 78 = .ok (.getfield 48, 3) := by decide +kernel
theorem dM_goInto_81 : decode prog_6_method_25_code 81 = .ok (.iload_n 2, 1) := by decide +kernel
theorem dM_goInto_82 : decode prog_6_method_25_code 82 = .ok (.iaload, 1) := by decide +kernel
theorem dM_goInto_83 : decode prog_6_method_25_code 83 = .ok (.iadd, 1) := by decide +kernel
theorem dM_goInto_84 : decode prog_6_method_25_code 84 = .ok (.aload_n 0, 1) := by decide +kernel
theorem dM_goInto_85 : decode prog_6_method_25_code 85 = .ok (.getfield 123, 3) := by decide +kernel
theorem dM_goInto_88 : decode prog_6_method_25_code 88 = .ok (.iadd, 1) := by decide +kernel
theorem dM_goInto_89 : decode prog_6_method_25_code 89 = .ok (.aload_n 0, 1) := by decide +kernel
theorem dM_goInto_90 : decode prog_6_method_25_code 90 = .ok (.getfield 44, 3) := by decide +kernel
theorem dM_goInto_93 : decode prog_6_method_25_code 93 = .ok (.aload_n 0, 1) := by decide +kernel
theorem dM_goInto_94 : decode prog_6_method_25_code 94 = .ok (.getfield 123, 3) := by decide +kernel
theorem dM_goInto_97 : decode prog_6_method_25_code 97 = .ok (.iadd, 1) := by decide +kernel
theorem dM_goInto_98 : decode prog_6_method_25_code 98 = .ok (.if_icmp .le 9, 3) := by decide +kernel
theorem dM_goInto_101 : decode prog_6_method_25_code 101 = .ok (.iinc 6 1, 3) := by decide +kernel
theorem dM_goInto_104 : decode prog_6_method_25_code 104 = .ok (.goto (-41), 3) := by decide +kernel
theorem dM_goInto_107 : decode prog_6_method_25_code 107 = .ok (.iload 6, 2) := by decide +kernel
theorem dM_goInto_109 : decode prog_6_method_25_code 109 = .ok (.iload 5, 2) := by decide +kernel
theorem dM_goInto_111 : decode prog_6_method_25_code 111 = .ok (.if_icmp .gt 40, 3) := by decide +kernel
theorem dM_goInto_114 : decode prog_6_method_25_code 114 = .ok (.aload_n 0, 1) := by decide +kernel
theorem dM_goInto_115 : decode prog_6_method_25_code 115 = .ok (.getfield 51, 3) := by decide +kernel
theorem dM_goInto_118 : decode prog_6_method_25_code 118 = .ok (.iload_n 2, 1) := by decide +kernel
theorem dM_goInto_119 : decode prog_6_method_25_code 119 = .ok (.iload 6, 2) := by decide +kernel
theorem dM_goInto_121 : decode prog_6_method_25_code 121 = .ok (.iastore, 1) := by decide +kernel
theorem dM_goInto_122 : decode prog_6_method_25_code 122 = .ok (.aload_n 0, 1) := by decide +kernel
theorem dM_goInto_123 : decode prog_6_method_25_code 123 = .ok (.getfield 54, 3) := by decide +kernel
theorem dM_goInto_126 : decode prog_6_method_25_code 126 = .ok (.iload 6, 2) := by decide +kernel
theorem dM_goInto_128 : decode prog_6_method_25_code 128 = .ok (.dup2, 1) := by decide +kernel
theorem dM_goInto_129 : decode prog_6_method_25_code 129 = .ok (.iaload, 1) := by decide +kernel
theorem dM_goInto_130 : decode prog_6_method_25_code 130 = .ok (.aload_n 0, 1) := by decide +kernel
theorem dM_goInto_131 : decode prog_6_method_25_code 131 = .ok (.getfield 48, 3) := by decide +kernel
theorem dM_goInto_134 : decode prog_6_method_25_code 134 = .ok (.iload_n 2, 1) := by decide +kernel
theorem dM_goInto_135 : decode prog_6_method_25_code 135 = .ok (.iaload, 1) := by decide +kernel
theorem dM_goInto_136 : decode prog_6_method_25_code 136 = .ok (.aload_n 0, 1) := by decide +kernel
theorem dM_goInto_137 : decode prog_6_method_25_code 137 = .ok (.getfield 123, 3) := by decide +kernel
theorem dM_goInto_140 : decode prog_6_method_25_code 140 = .ok (.iadd, 1) := by decide +kernel
theorem dM_goInto_141 : decode prog_6_method_25_code 141 = .ok (.iadd, 1) := by decide +kernel
theorem dM_goInto_142 : decode prog_6_method_25_code 142 = .ok (.iastore, 1) := by decide +kernel
theorem dM_goInto_143 : decode prog_6_method_25_code 143 = .ok (.iinc 2 1, 3) := by decide +kernel
theorem dM_goInto_146 : decode prog_6_method_25_code 146 = .ok (.iconst 0, 1) := by decide +kernel
theorem dM_goInto_147 : decode prog_6_method_25_code 147 = .ok (.istore_n 3, 1) := by decide +kernel
theorem dM_goInto_148 : decode prog_6_method_25_code 148 = .ok (.goto 44, 3) := by decide +kernel
theorem dM_goInto_151 : decode prog_6_method_25_code 151 = .ok (.iinc 2 (-1), 3) := by decide +kernel
theorem dM_goInto_154 : decode prog_6_method_25_code 154 = .ok (.iload_n 2, 1) := by decide +kernel
theorem dM_goInto_155 : decode prog_6_method_25_code 155 = .ok (.ifCond .lt 37, 3) := by decide +kernel
theorem dM_goInto_158 : decode prog_6_method_25_code 158 = .ok (.aload_n 0, 1) := by decide +kernel
theorem dM_goInto_159 : decode prog_6_method_25_code 159 = .ok (.getfield 54, 3) := by decide +kernel
theorem dM_goInto_162 : decode prog_6_method_25_code 162 = .ok (.aload_n 0, 1) := by decide +kernel
theorem dM_goInto_163 : decode prog_6_method_25_code 163 = .ok (.getfield 51, 3) := by decide +kernel
theorem dM_goInto_166 : decode prog_6_method_25_code 166 = .ok (.iload_n 2, 1) := by decide +kernel
theorem dM_goInto_167 : decode prog_6_method_25_code 167 = .ok (.iaload, 1) := by decide +kernel
theorem dM_goInto_168 : decode prog_6_method_25_code 168 = .ok (.dup2, 1) := by decide +kernel
theorem dM_goInto_169 : decode prog_6_method_25_code 169 = .ok (.iaload, 1) := by decide +kernel
theorem dM_goInto_170 : decode prog_6_method_25_code 170 = .ok (.aload_n 0, 1) := by decide +kernel
theorem dM_goInto_171 : decode prog_6_method_25_code 171 = .ok (.getfield 48, 3) := by decide +kernel
theorem dM_goInto_174 : decode prog_6_method_25_code 174 = .ok (.iload_n 2, 1) := by decide +kernel
theorem dM_goInto_175 : decode prog_6_method_25_code 175 = .ok (.iaload, 1) := by decide +kernel
theorem dM_goInto_176 : decode prog_6_method_25_code 176 = .ok (.aload_n 0, 1) := by decide +kernel
theorem dM_goInto_177 : decode prog_6_method_25_code 177 = .ok (.getfield 123, 3) := by decide +kernel
theorem dM_goInto_180 : decode prog_6_method_25_code 180 = .ok (.iadd, 1) := by decide +kernel
theorem dM_goInto_181 : decode prog_6_method_25_code 181 = .ok (.isub, 1) := by decide +kernel
theorem dM_goInto_182 : decode prog_6_method_25_code 182 = .ok (.iastore, 1) := by decide +kernel
theorem dM_goInto_183 : decode prog_6_method_25_code 183 = .ok (.aload_n 0, 1) := by decide +kernel
theorem dM_goInto_184 : decode prog_6_method_25_code 184 = .ok (.getfield 51, 3) := by decide +kernel
theorem dM_goInto_187 : decode prog_6_method_25_code 187 = .ok (.iload_n 2, 1) := by decide +kernel
theorem dM_goInto_188 : decode prog_6_method_25_code 188 = .ok (.iaload, 1) := by decide +kernel
theorem dM_goInto_189 : decode prog_6_method_25_code 189 = .ok (.iconst 1, 1) := by decide +kernel
theorem dM_goInto_190 : decode prog_6_method_25_code 190 = .ok (.iadd, 1) := by decide +kernel
theorem dM_goInto_191 : decode prog_6_method_25_code 191 = .ok (.istore_n 3, 1) := by decide +kernel
theorem dM_goInto_192 : decode prog_6_method_25_code 192 = .ok (.goto (-167), 3) := by decide +kernel
theorem dM_goInto_195 : decode prog_6_method_25_code 195 = .ok (.iload_n 2, 1) := by decide +kernel
theorem dM_goInto_196 : decode prog_6_method_25_code 196 = .ok (.aload_n 0, 1) := by decide +kernel
theorem dM_goInto_197 : decode prog_6_method_25_code 197 = .ok (.getfield 118, 3) := by decide +kernel
theorem dM_goInto_200 : decode prog_6_method_25_code 200 = .ok (.if_icmp .ne 7, 3) := by decide +kernel
theorem dM_goInto_203 : decode prog_6_method_25_code 203 = .ok (.iconst 1, 1) := by decide +kernel
theorem dM_goInto_204 : decode prog_6_method_25_code 204 = .ok (.goto 4, 3) := by decide +kernel
theorem dM_goInto_207 : decode prog_6_method_25_code 207 = .ok (.iconst 0, 1) := by decide +kernel
theorem dM_goInto_208 : decode prog_6_method_25_code 208 = .ok (.ireturn, 1) := by decide +kernel
theorem dM_usedBefore_0 : decode prog_6_method_24_code 0 = .ok (.iconst 0, 1) := by decide +kernel
theorem dM_usedBefore_1 : decode prog_6_method_24_code 1 = .ok (.istore_n 2, 1) := by decide +kernel
theorem dM_usedBefore_2 : decode prog_6_method_24_code 2 = .ok (.iconst 0, 1) := by decide +kernel
theorem dM_usedBefore_3 : decode prog_6_method_24_code 3 = .ok (.istore_n 3, 1) := by decide +kernel
theorem dM_usedBefore_4 : decode prog_6_method_24_code 4 = .ok (.iload_n 3, 1) := by decide +kernel
theorem dM_usedBefore_5 : decode prog_6_method_24_code 5 = .ok (.iload_n 1, 1) := by decide +kernel
theorem dM_usedBefore_6 : decode prog_6_method_24_code 6 = .ok (.if_icmp .ge 34, 3) := by decide +kernel
theorem dM_usedBefore_9 : decode prog_6_method_24_code 9 = .ok (.aload_n 0, 1) := by decide +kernel
theorem dM_usedBefore_10 : decode prog_6_method_24_code 10 = .ok (.getfield 51, 3) := by decide +kernel
theorem dM_usedBefore_13 : decode prog_6_method_24_code 13 = .ok (.iload_n 3, 1) := by decide +kernel
theorem dM_usedBefore_14 : decode prog_6_method_24_code 14 = .ok (.iaload, 1) := by decide +kernel
theorem dM_usedBefore_15 : decode prog_6_method_24_code 15 = .ok (.iconst 1, 1) := by decide +kernel
theorem dM_usedBefore_16 : decode prog_6_method_24_code 16 = .ok (.iadd, 1) := by decide +kernel
theorem dM_usedBefore_17 : decode prog_6_method_24_code 17 = .ok (.iload_n 2, 1) := by decide +kernel
theorem dM_usedBefore_18 : decode prog_6_method_24_code 18 = .ok (.if_icmp .le 14, 3) := by decide +kernel
theorem dM_usedBefore_21 : decode prog_6_method_24_code 21 = .ok (.aload_n 0, 1) := by decide +kernel
theorem dM_usedBefore_22 : decode prog_6_method_24_code 22 = .ok (.getfield 51, 3) := by decide +kernel
theorem dM_usedBefore_25 : decode prog_6_method_24_code 25 = .ok (.iload_n 3, 1) := by decide +kernel
theorem dM_usedBefore_26 : decode prog_6_method_24_code 26 = .ok (.iaload, 1) := by decide +kernel
theorem dM_usedBefore_27 : decode prog_6_method_24_code 27 = .ok (.iconst 1, 1) := by decide +kernel
theorem dM_usedBefore_28 : decode prog_6_method_24_code 28 = .ok (.iadd, 1) := by decide +kernel
theorem dM_usedBefore_29 : decode prog_6_method_24_code 29 = .ok (.goto 4, 3) := by decide +kernel
theorem dM_usedBefore_32 : decode prog_6_method_24_code 32 = .ok (.iload_n 2, 1) := by decide +kernel
theorem dM_usedBefore_33 : decode prog_6_method_24_code 33 = .ok (.istore_n 2, 1) := by decide +kernel
theorem dM_usedBefore_34 : decode prog_6_method_24_code 34 = .ok (.iinc 3 1, 3) := by decide +kernel
theorem dM_usedBefore_37 : decode prog_6_method_24_code 37 = .ok (.goto (-33), 3) := by decide +kernel
theorem dM_usedBefore_40 : decode prog_6_method_24_code 40 = .ok (.iload_n 2, 1) := by decide +kernel
theorem dM_usedBefore_41 : decode prog_6_method_24_code 41 = .ok (.ireturn, 1) := by decide +kernel
theorem dM_bar_0 : decode prog_6_method_28_code 0 = .ok (.aload_n 0, 1) := by decide +kernel
theorem dM_bar_1 : decode prog_6_method_28_code 1 = .ok (.iload_n 1, 1) := by decide +kernel
theorem dM_bar_2 : decode prog_6_method_28_code 2 = .ok (.i2l, 1) := by decide +kernel
theorem dM_bar_3 : decode prog_6_method_28_code 3 = .ok (.lconst 0, 1) := by decide +kernel
theorem dM_bar_4 : decode prog_6_method_28_code 4 = .ok (.aload_n 0, 1) := by decide +kernel
theorem dM_bar_5 : decode prog_6_method_28_code 5 = .ok (.getfield 118, 3) := by decide +kernel
theorem dM_bar_8 : decode prog_6_method_28_code 8 = .ok (.iconst 1, 1) := by decide +kernel
theorem dM_bar_9 : decode prog_6_method_28_code 9 = .ok (.isub, 1) := by decide +kernel
theorem dM_bar_10 : decode prog_6_method_28_code 10 = .ok (.i2l, 1) := by decide +kernel
theorem dM_bar_11 : decode prog_6_method_28_code 11 = .ok (.invokestatic 63, 3) := by decide +kernel
theorem dM_bar_14 : decode prog_6_method_28_code 14 = .ok (.ifCond .eq 7, 3) := by decide +kernel
theorem dM_bar_17 : decode prog_6_method_28_code 17 = .ok (.iconst 0, 1) := by decide +kernel
theorem dM_bar_18 : decode prog_6_method_28_code 18 = .ok (.goto 4, 3) := by decide +kernel
theorem dM_bar_21 : decode prog_6_method_28_code 21 = .ok (.iconst 1, 1) := by decide +kernel
theorem dM_bar_22 : decode prog_6_method_28_code 22 = .ok (.putfield 57, 3) := by decide +kernel
theorem dM_bar_25 : decode prog_6_method_28_code 25 = .ok (.aload_n 0, 1) := by decide +kernel
theorem dM_bar_26 : decode prog_6_method_28_code 26 = .ok (.getfield 57, 3) := by decide +kernel
theorem dM_bar_29 : decode prog_6_method_28_code 29 = .ok (.ifCond .le 5, 3) := by decide +kernel
theorem dM_bar_32 : decode prog_6_method_28_code 32 = .ok (.iconst 0, 1) := by decide +kernel
theorem dM_bar_33 : decode prog_6_method_28_code 33 = .ok (.ireturn, 1) := by decide +kernel
theorem dM_bar_34 : decode prog_6_method_28_code 34 = .ok (.aload_n 0, 1) := by decide +kernel
theorem dM_bar_35 : decode prog_6_method_28_code 35 = .ok (.invokevirtual 136, 3) := by decide +kernel
theorem dM_bar_38 : decode prog_6_method_28_code 38 = .ok (.aload_n 0, 1) := by decide +kernel
theorem dM_bar_39 : decode prog_6_method_28_code 39 = .ok (.getfield 51, 3) := by decide +kernel
theorem dM_bar_42 : decode prog_6_method_28_code 42 = .ok (.iload_n 1, 1) := by decide +kernel
theorem dM_bar_43 : decode prog_6_method_28_code 43 = .ok (.iaload, 1) := by decide +kernel
theorem dM_bar_44 : decode prog_6_method_28_code 44 = .ok (.ireturn, 1) := by decide +kernel
theorem dM_rest_0 : decode prog_6_method_29_code 0 = .ok (.aload_n 0, 1) := by decide +kernel
theorem dM_rest_1 : decode prog_6_method_29_code 1 = .ok (.invokevirtual 136, 3) := by decide +kernel
theorem dM_rest_4 : decode prog_6_method_29_code 4 = .ok (.aload_n 0, 1) := by decide +kernel
theorem dM_rest_5 : decode prog_6_method_29_code 5 = .ok (.iload_n 1, 1) := by decide +kernel
theorem dM_rest_6 : decode prog_6_method_29_code 6 = .ok (.i2l, 1) := by decide +kernel
theorem dM_rest_7 : decode prog_6_method_29_code 7 = .ok (.lconst 0, 1) := by decide +kernel
theorem dM_rest_8 : decode prog_6_method_29_code 8 = .ok (.aload_n 0, 1) := by decide +kernel
theorem dM_rest_9 : decode prog_6_method_29_code 9 = .ok (.getfield 130, 3) := by decide +kernel
theorem dM_rest_12 : decode prog_6_method_29_code 12 = .ok (.iconst 1, 1) := by decide +kernel
theorem dM_rest_13 : decode prog_6_method_29_code 13 = .ok (.isub, 1) := by decide +kernel
theorem dM_rest_14 : decode prog_6_method_29_code 14 = .ok (.i2l, 1) := by decide +kernel
theorem dM_rest_15 : decode prog_6_method_29_code 15 = .ok (.invokestatic 63, 3) := by decide +kernel
theorem dM_rest_18 : decode prog_6_method_29_code 18 = .ok (.ifCond .eq 7, 3) := by decide +kernel
theorem dM_rest_21 : decode prog_6_method_29_code 21 = .ok (.iconst 0, 1) := by decide +kernel
theorem dM_rest_22 : decode prog_6_method_29_code 22 = .ok (.goto 4, 3) := by decide +kernel
theorem dM_rest_25 : decode prog_6_method_29_code 25 = .ok (.iconst 1, 1) := by decide +kernel
end
section
-- DECODE ROWS
theorem dM_rest_26 : decode prog_6_method_29_code 26 = .ok (.putfield 57, 3) := by decide +kernel
theorem dM_rest_29 : decode prog_6_method_29_code 29 = .ok (.aload_n 0, 1) := by decide +kernel
theorem dM_rest_30 : decode prog_6_method_29_code 30 = .ok (.getfield 57, 3) := by decide +kernel
theorem dM_rest_33 : decode prog_6_method_29_code 33 = .ok (.ifCond .le 7, 3) := by decide +kernel
theorem dM_rest_36 : decode prog_6_method_29_code 36 = .ok (.iconst 0, 1) := by decide +kernel
theorem dM_rest_37 : decode prog_6_method_29_code 37 = .ok (.goto 19, 3) := by decide +kernel
theorem dM_rest_40 : decode prog_6_method_29_code 40 = .ok (.aload_n 0, 1) := by decide +kernel
theorem dM_rest_41 : decode prog_6_method_29_code 41 = .ok (.getfield 44, 3) := by decide +kernel
theorem dM_rest_44 : decode prog_6_method_29_code 44 = .ok (.aload_n 0, 1) := by decide +kernel
theorem dM_rest_45 : decode prog_6_method_29_code 45 = .ok (.getfield 123, 3) := by decide +kernel
theorem dM_rest_48 : decode prog_6_method_29_code 48 = .ok (.iadd, 1) := by decide +kernel
theorem dM_rest_49 : decode prog_6_method_29_code 49 = .ok (.aload_n 0, 1) := by decide +kernel
theorem dM_rest_50 : decode prog_6_method_29_code 50 = .ok (.getfield 54, 3) := by decide +kernel
theorem dM_rest_53 : decode prog_6_method_29_code 53 = .ok (.iload_n 1, 1) := by decide +kernel
theorem dM_rest_54 : decode prog_6_method_29_code 54 = .ok (.iaload, 1) := by decide +kernel
theorem dM_rest_55 : decode prog_6_method_29_code 55 = .ok (.isub, 1) := by decide +kernel
theorem dM_rest_56 : decode prog_6_method_29_code 56 = .ok (.ireturn, 1) := by decide +kernel
end
section
-- DECODE ROWS
theorem dS_init_0 : decode prog_3_method_1_code 0 = .ok (.aload_n 0, 1) := by decide +kernel
theorem dS_init_1 : decode prog_3_method_1_code 1 = .ok (.invokespecial 3, 3) := by decide +kernel
theorem dS_init_4 : decode prog_3_method_1_code 4 = .ok (.aload_n 0, 1) := by decide +kernel
theorem dS_init_5 : decode prog_3_method_1_code 5 = .ok (.iconst 4, 1) := by decide +kernel
theorem dS_init_6 : decode prog_3_method_1_code 6 = .ok (.newarray .int, 2) := by decide +kernel
theorem dS_init_8 : decode prog_3_method_1_code 8 = .ok (.putfield 9, 3) := by decide +kernel
theorem dS_init_11 : decode prog_3_method_1_code 11 = .ok (.aload_n 0, 1) := by decide +kernel
theorem dS_init_12 : decode prog_3_method_1_code 12 = .ok (.iconst 4, 1) := by decide +kernel
theorem dS_init_13 : decode prog_3_method_1_code 13 = .ok (.newarray .int, 2) := by decide +kernel
theorem dS_init_15 : decode prog_3_method_1_code 15 = .ok (.putfield 15, 3) := by decide +kernel
theorem dS_init_18 : decode prog_3_method_1_code 18 = .ok (.aload_n 0, 1) := by decide +kernel
theorem dS_init_19 : decode prog_3_method_1_code 19 = .ok (.iconst 4, 1) := by decide +kernel
theorem dS_init_20 : decode prog_3_method_1_code 20 = .ok (.newarray .int, 2) := by decide +kernel
theorem dS_init_22 : decode prog_3_method_1_code 22 = .ok (.putfield 18, 3) := by decide +kernel
theorem dS_init_25 : decode prog_3_method_1_code 25 = .ok (.aload_n 0, 1) := by decide +kernel
theorem dS_init_26 : decode prog_3_method_1_code 26 = .ok (.iconst 4, 1) := by decide +kernel
theorem dS_init_27 : decode prog_3_method_1_code 27 = .ok (.newarray .int, 2) := by decide +kernel
theorem dS_init_29 : decode prog_3_method_1_code 29 = .ok (.putfield 21, 3) := by decide +kernel
theorem dS_init_32 : decode prog_3_method_1_code 32 = .ok (.aload_n 0, 1) := by decide +kernel
theorem dS_init_33 : decode prog_3_method_1_code 33 = .ok (.iconst 4, 1) := by decide +kernel
theorem dS_init_34 : decode prog_3_method_1_code 34 = .ok (.newarray .int, 2) := by decide +kernel
theorem dS_init_36 : decode prog_3_method_1_code 36 = .ok (.putfield 24, 3) := by decide +kernel
theorem dS_init_39 : decode prog_3_method_1_code 39 = .ok (.aload_n 0, 1) := by decide +kernel
theorem dS_init_40 : decode prog_3_method_1_code 40 = .ok (.iconst 4, 1) := by decide +kernel
theorem dS_init_41 : decode prog_3_method_1_code 41 = .ok (.newarray .int, 2) := by decide +kernel
theorem dS_init_43 : decode prog_3_method_1_code 43 = .ok (.putfield 27, 3) := by decide +kernel
theorem dS_init_46 : decode prog_3_method_1_code 46 = .ok (.aload_n 0, 1) := by decide +kernel
theorem dS_init_47 : decode prog_3_method_1_code 47 = .ok (.ldc2_w 30, 3) := by decide +kernel
theorem dS_init_50 : decode prog_3_method_1_code 50 = .ok (.putfield 32, 3) := by decide +kernel
theorem dS_init_53 : decode prog_3_method_1_code 53 = .ok (.return_, 1) := by decide +kernel
theorem dS_priceFor_0 : decode prog_3_method_5_code 0 = .ok (.aload_n 0, 1) := by decide +kernel
theorem dS_priceFor_1 : decode prog_3_method_5_code 1 = .ok (.lload_n 1, 1) := by decide +kernel
theorem dS_priceFor_2 : decode prog_3_method_5_code 2 = .ok (.invokevirtual 43, 3) := by decide +kernel
theorem dS_priceFor_5 : decode prog_3_method_5_code 5 = .ok (.aload_n 0, 1) := by decide +kernel
theorem dS_priceFor_6 : decode prog_3_method_5_code 6 = .ok (.getfield 47, 3) := by decide +kernel
theorem dS_priceFor_9 : decode prog_3_method_5_code 9 = .ok (.ldc 50, 2) := by decide +kernel
theorem dS_priceFor_11 : decode prog_3_method_5_code 11 = .ok (.if_icmp .ne 7, 3) := by decide +kernel
theorem dS_priceFor_14 : decode prog_3_method_5_code 14 = .ok (.iconst (-1), 1) := by decide +kernel
theorem dS_priceFor_15 : decode prog_3_method_5_code 15 = .ok (.goto 7, 3) := by decide +kernel
theorem dS_priceFor_18 : decode prog_3_method_5_code 18 = .ok (.aload_n 0, 1) := by decide +kernel
theorem dS_priceFor_19 : decode prog_3_method_5_code 19 = .ok (.getfield 47, 3) := by decide +kernel
theorem dS_priceFor_22 : decode prog_3_method_5_code 22 = .ok (.ireturn, 1) := by decide +kernel
theorem dS_search_0 : decode prog_3_method_6_code 0 = .ok (.lload_n 1, 1) := by decide +kernel
theorem dS_search_1 : decode prog_3_method_6_code 1 = .ok (.aload_n 0, 1) := by decide +kernel
theorem dS_search_2 : decode prog_3_method_6_code 2 = .ok (.getfield 32, 3) := by decide +kernel
theorem dS_search_5 : decode prog_3_method_6_code 5 = .ok (.lcmp, 1) := by decide +kernel
theorem dS_search_6 : decode prog_3_method_6_code 6 = .ok (.ifCond .ne 4, 3) := by decide +kernel
theorem dS_search_9 : decode prog_3_method_6_code 9 = .ok (.return_, 1) := by decide +kernel
theorem dS_search_10 : decode prog_3_method_6_code 10 = .ok (.aload_n 0, 1) := by decide +kernel
theorem dS_search_11 : decode prog_3_method_6_code 11 = .ok (.lload_n 1, 1) := by decide +kernel
theorem dS_search_12 : decode prog_3_method_6_code 12 = .ok (.putfield 32, 3) := by decide +kernel
theorem dS_search_15 : decode prog_3_method_6_code 15 = .ok (.aload_n 0, 1) := by decide +kernel
theorem dS_search_16 : decode prog_3_method_6_code 16 = .ok (.aload_n 0, 1) := by decide +kernel
theorem dS_search_17 : decode prog_3_method_6_code 17 = .ok (.lload_n 1, 1) := by decide +kernel
theorem dS_search_18 : decode prog_3_method_6_code 18 = .ok (.invokevirtual 51, 3) := by decide +kernel
theorem dS_search_21 : decode prog_3_method_6_code 21 = .ok (.putfield 47, 3) := by decide +kernel
theorem dS_search_24 : decode prog_3_method_6_code 24 = .ok (.aload_n 0, 1) := by decide +kernel
theorem dS_search_25 : decode prog_3_method_6_code 25 = .ok (.bipush 61, 2) := by decide +kernel
theorem dS_search_27 : decode prog_3_method_6_code 27 = .ok (.putfield 55, 3) := by decide +kernel
theorem dS_search_30 : decode prog_3_method_6_code 30 = .ok (.aload_n 0, 1) := by decide +kernel
theorem dS_search_31 : decode prog_3_method_6_code 31 = .ok (.getfield 24, 3) := by decide +kernel
theorem dS_search_34 : decode prog_3_method_6_code 34 = .ok (.iconst 0, 1) := by decide +kernel
theorem dS_search_35 : decode prog_3_method_6_code 35 = .ok (.invokestatic 58, 3) := by decide +kernel
theorem dS_search_38 : decode prog_3_method_6_code 38 = .ok (.aload_n 0, 1) := by decide +kernel
theorem dS_search_39 : decode prog_3_method_6_code 39 = .ok (.iconst 0, 1) := by decide +kernel
theorem dS_search_40 : decode prog_3_method_6_code 40 = .ok (.lload_n 1, 1) := by decide +kernel
theorem dS_search_41 : decode prog_3_method_6_code 41 = .ok (.iconst 0, 1) := by decide +kernel
theorem dS_search_42 : decode prog_3_method_6_code 42 = .ok (.iconst 0, 1) := by decide +kernel
theorem dS_search_43 : decode prog_3_method_6_code 43 = .ok (.invokevirtual 64, 3) := by decide +kernel
theorem dS_search_46 : decode prog_3_method_6_code 46 = .ok (.return_, 1) := by decide +kernel
theorem dS_priceOfOneKind_0 : decode prog_3_method_7_code 0 = .ok (.ldc2_w 68, 3) := by decide +kernel
theorem dS_priceOfOneKind_3 : decode prog_3_method_7_code 3 = .ok (.lstore_n 3, 1) := by decide +kernel
theorem dS_priceOfOneKind_4 : decode prog_3_method_7_code 4 = .ok (.iconst 0, 1) := by decide +kernel
theorem dS_priceOfOneKind_5 : decode prog_3_method_7_code 5 = .ok (.istore 5, 2) := by decide +kernel
theorem dS_priceOfOneKind_7 : decode prog_3_method_7_code 7 = .ok (.iload 5, 2) := by decide +kernel
theorem dS_priceOfOneKind_9 : decode prog_3_method_7_code 9 = .ok (.aload_n 0, 1) := by decide +kernel
theorem dS_priceOfOneKind_10 : decode prog_3_method_7_code 10 = .ok (.getfield 36, 3) := by decide +kernel
theorem dS_priceOfOneKind_13 : decode prog_3_method_7_code 13 = .ok (.if_icmp .ge 47, 3) := by decide +kernel
theorem dS_priceOfOneKind_16 : decode prog_3_method_7_code 16 = .ok (.lload_n 1, 1) := by decide +kernel
theorem dS_priceOfOneKind_17 : decode prog_3_method_7_code 17 = .ok (.aload_n 0, 1) := by decide +kernel
theorem dS_priceOfOneKind_18 : decode prog_3_method_7_code 18 = .ok (.getfield 9, 3) := by decide +kernel
theorem dS_priceOfOneKind_21 : decode prog_3_method_7_code 21 = .ok (.iload 5, 2) := by decide +kernel
theorem dS_priceOfOneKind_23 : decode prog_3_method_7_code 23 = .ok (.iaload, 1) := by decide +kernel
theorem dS_priceOfOneKind_24 : decode prog_3_method_7_code 24 = .ok (.invokestatic 70, 3) := by decide +kernel
theorem dS_priceOfOneKind_27 : decode prog_3_method_7_code 27 = .ok (.lstore 6, 2) := by decide +kernel
theorem dS_priceOfOneKind_29 : decode prog_3_method_7_code 29 = .ok (.lload 6, 2) := by decide +kernel
theorem dS_priceOfOneKind_31 : decode prog_3_method_7_code 31 = .ok (.ldc2_w 74, 3) := by decide +kernel
theorem dS_priceOfOneKind_34 : decode prog_3_method_7_code 34 = .ok (.lcmp, 1) := by decide +kernel
theorem dS_priceOfOneKind_35 : decode prog_3_method_7_code 35 = .ok (.ifCond .gt 19, 3) := by decide +kernel
theorem dS_priceOfOneKind_38 : decode prog_3_method_7_code 38 = .ok (.lload_n 3, 1) := by decide +kernel
theorem dS_priceOfOneKind_39 : decode prog_3_method_7_code 39 = .ok (.lload 6, 2) := by decide +kernel
theorem dS_priceOfOneKind_41 : decode prog_3_method_7_code 41 = .ok (.aload_n 0, 1) := by decide +kernel
theorem dS_priceOfOneKind_42 : decode prog_3_method_7_code 42 = .ok (.getfield 15, 3) := by decide +kernel
theorem dS_priceOfOneKind_45 : decode prog_3_method_7_code 45 = .ok (.iload 5, 2) := by decide +kernel
theorem dS_priceOfOneKind_47 : decode prog_3_method_7_code 47 = .ok (.iaload, 1) := by decide +kernel
theorem dS_priceOfOneKind_48 : decode prog_3_method_7_code 48 = .ok (.i2l, 1) := by decide +kernel
theorem dS_priceOfOneKind_49 : decode prog_3_method_7_code 49 = .ok (.lmul, 1) := by decide +kernel
theorem dS_priceOfOneKind_50 : decode prog_3_method_7_code 50 = .ok (.invokestatic 76, 3) := by decide +kernel
theorem dS_priceOfOneKind_53 : decode prog_3_method_7_code 53 = .ok (.lstore_n 3, 1) := by decide +kernel
theorem dS_priceOfOneKind_54 : decode prog_3_method_7_code 54 = .ok (.iinc 5 1, 3) := by decide +kernel
theorem dS_priceOfOneKind_57 : decode prog_3_method_7_code 57 = .ok (.goto (-50), 3) := by decide +kernel
theorem dS_priceOfOneKind_60 : decode prog_3_method_7_code 60 = .ok (.lload_n 3, 1) := by decide +kernel
theorem dS_priceOfOneKind_61 : decode prog_3_method_7_code 61 = .ok (.l2i, 1) := by decide +kernel
theorem dS_priceOfOneKind_62 : decode prog_3_method_7_code 62 = .ok (.ireturn, 1) := by decide +kernel
theorem dS_tryKind_0 : decode prog_3_method_8_code 0 = .ok (.lload_n 2, 1) := by decide +kernel
theorem dS_tryKind_1 : decode prog_3_method_8_code 1 = .ok (.lconst 0, 1) := by decide +kernel
theorem dS_tryKind_2 : decode prog_3_method_8_code 2 = .ok (.lcmp, 1) := by decide +kernel
theorem dS_tryKind_3 : decode prog_3_method_8_code 3 = .ok (.ifCond .gt 12, 3) := by decide +kernel
theorem dS_tryKind_6 : decode prog_3_method_8_code 6 = .ok (.aload_n 0, 1) := by decide +kernel
theorem dS_tryKind_7 : decode prog_3_method_8_code 7 = .ok (.iload 4, 2) := by decide +kernel
theorem dS_tryKind_9 : decode prog_3_method_8_code 9 = .ok (.iload 5, 2) := by decide +kernel
theorem dS_tryKind_11 : decode prog_3_method_8_code 11 = .ok (.invokevirtual 82, 3) := by decide +kernel
theorem dS_tryKind_14 : decode prog_3_method_8_code 14 = .ok (.return_, 1) := by decide +kernel
theorem dS_tryKind_15 : decode prog_3_method_8_code 15 = .ok (.iload_n 1, 1) := by decide +kernel
theorem dS_tryKind_16 : decode prog_3_method_8_code 16 = .ok (.aload_n 0, 1) := by decide +kernel
theorem dS_tryKind_17 : decode prog_3_method_8_code 17 = .ok (.getfield 36, 3) := by decide +kernel
theorem dS_tryKind_20 : decode prog_3_method_8_code 20 = .ok (.if_icmp .ge 16, 3) := by decide +kernel
theorem dS_tryKind_23 : decode prog_3_method_8_code 23 = .ok (.aload_n 0, 1) := by decide +kernel
theorem dS_tryKind_24 : decode prog_3_method_8_code 24 = .ok (.iload_n 1, 1) := by decide +kernel
theorem dS_tryKind_25 : decode prog_3_method_8_code 25 = .ok (.lload_n 2, 1) := by decide +kernel
theorem dS_tryKind_26 : decode prog_3_method_8_code 26 = .ok (.iload 4, 2) := by decide +kernel
theorem dS_tryKind_28 : decode prog_3_method_8_code 28 = .ok (.iload 5, 2) := by decide +kernel
theorem dS_tryKind_30 : decode prog_3_method_8_code 30 = .ok (.invokevirtual 86, 3) := by decide +kernel
theorem dS_tryKind_33 : decode prog_3_method_8_code 33 = .ok (.ifCond .eq 4, 3) := by decide +kernel
theorem dS_tryKind_36 : decode prog_3_method_8_code 36 = .ok (.return_, 1) := by decide +kernel
theorem dS_tryKind_37 : decode prog_3_method_8_code 37 = .ok (.lload_n 2, 1) := by decide +kernel
theorem dS_tryKind_38 : decode prog_3_method_8_code 38 = .ok (.aload_n 0, 1) := by decide +kernel
theorem dS_tryKind_39 : decode prog_3_method_8_code 39 = .ok (.getfield 9, 3) := by decide +kernel
theorem dS_tryKind_42 : decode prog_3_method_8_code 42 = .ok (.iload_n 1, 1) := by decide +kernel
theorem dS_tryKind_43 : decode prog_3_method_8_code 43 = .ok (.iaload, 1) := by decide +kernel
theorem dS_tryKind_44 : decode prog_3_method_8_code 44 = .ok (.invokestatic 70, 3) := by decide +kernel
theorem dS_tryKind_47 : decode prog_3_method_8_code 47 = .ok (.lstore 6, 2) := by decide +kernel
theorem dS_tryKind_49 : decode prog_3_method_8_code 49 = .ok (.lload 6, 2) := by decide +kernel
theorem dS_tryKind_51 : decode prog_3_method_8_code 51 = .ok (.bipush 60, 2) := by decide +kernel
theorem dS_tryKind_53 : decode prog_3_method_8_code 53 = .ok (.iload 4, 2) := by decide +kernel
theorem dS_tryKind_55 : decode prog_3_method_8_code 55 = .ok (.isub, 1) := by decide +kernel
theorem dS_tryKind_56 : decode prog_3_method_8_code 56 = .ok (.i2l, 1) := by decide +kernel
theorem dS_tryKind_57 : decode prog_3_method_8_code 57 = .ok (.invokestatic 76, 3) := by decide +kernel
theorem dS_tryKind_60 : decode prog_3_method_8_code 60 = .ok (.l2i, 1) := by decide +kernel
theorem dS_tryKind_61 : decode prog_3_method_8_code 61 = .ok (.istore 8, 2) := by decide +kernel
theorem dS_tryKind_63 : decode prog_3_method_8_code 63 = .ok (.iload_n 1, 1) := by decide +kernel
theorem dS_tryKind_64 : decode prog_3_method_8_code 64 = .ok (.aload_n 0, 1) := by decide +kernel
theorem dS_tryKind_65 : decode prog_3_method_8_code 65 = .ok (.getfield 36, 3) := by decide +kernel
theorem dS_tryKind_68 : decode prog_3_method_8_code 68 = .ok (.iconst 1, 1) := by decide +kernel
theorem dS_tryKind_69 : decode prog_3_method_8_code 69 = .ok (.isub, 1) := by decide +kernel
theorem dS_tryKind_70 : decode prog_3_method_8_code 70 = .ok (.if_icmp .ne 8, 3) := by decide +kernel
theorem dS_tryKind_73 : decode prog_3_method_8_code 73 = .ok (.iload 8, 2) := by decide +kernel
theorem dS_tryKind_75 : decode prog_3_method_8_code 75 = .ok (.goto 4, 3) := by decide +kernel
theorem dS_tryKind_78 : decode prog_3_method_8_code 78 = .ok (.iconst 0, 1) := by decide +kernel
theorem dS_tryKind_79 : decode prog_3_method_8_code 79 = .ok (.istore 9, 2) := by decide +kernel
theorem dS_tryKind_81 : decode prog_3_method_8_code 81 = .ok (.iload 8, 2) := by decide +kernel
theorem dS_tryKind_83 : decode prog_3_method_8_code 83 = .ok (.istore 10, 2) := by decide +kernel
theorem dS_tryKind_85 : decode prog_3_method_8_code 85 = .ok (.iload 10, 2) := by decide +kernel
theorem dS_tryKind_87 : decode prog_3_method_8_code 87 = .ok (.iload 9, 2) := by decide +kernel
theorem dS_tryKind_89 : decode prog_3_method_8_code 89 = .ok (.if_icmp .lt 54, 3) := by decide +kernel
theorem dS_tryKind_92 : decode prog_3_method_8_code 92 = .ok (.aload_n 0, 1) := by decide +kernel
theorem dS_tryKind_93 : decode prog_3_method_8_code 93 = .ok (.getfield 24, 3) := by decide +kernel
theorem dS_tryKind_96 : decode prog_3_method_8_code 96 = .ok (.iload_n 1, 1) := by decide +kernel
theorem dS_tryKind_97 : decode prog_3_method_8_code 97 = .ok (.iload 10, 2) := by decide +kernel
theorem dS_tryKind_99 : decode prog_3_method_8_code 99 = .ok (.iastore, 1) := by decide +kernel
theorem dS_tryKind_100 : decode prog_3_method_8_code 100 = .ok (.aload_n 0, 1) := by decide +kernel
theorem dS_tryKind_101 : decode prog_3_method_8_code 101 = .ok (.iload_n 1, 1) := by decide +kernel
theorem dS_tryKind_102 : decode prog_3_method_8_code 102 = .ok (.iconst 1, 1) := by decide +kernel
theorem dS_tryKind_103 : decode prog_3_method_8_code 103 = .ok (.iadd, 1) := by decide +kernel
theorem dS_tryKind_104 : decode prog_3_method_8_code 104 = .ok (.lload_n 2, 1) := by decide +kernel
theorem dS_tryKind_105 : decode prog_3_method_8_code 105 = .ok (.iload 10, 2) := by decide +kernel
theorem dS_tryKind_107 : decode prog_3_method_8_code 107 = .ok (.i2l, 1) := by decide +kernel
theorem dS_tryKind_108 : decode prog_3_method_8_code 108 = .ok (.aload_n 0, 1) := by decide +kernel
theorem dS_tryKind_109 : decode prog_3_method_8_code 109 = .ok (.getfield 9, 3) := by decide +kernel
theorem dS_tryKind_112 : decode prog_3_method_8_code 112 = .ok (.iload_n 1, 1) := by decide +kernel
theorem dS_tryKind_113 : decode prog_3_method_8_code 113 = .ok (.iaload, 1) := by decide +kernel
theorem dS_tryKind_114 : decode prog_3_method_8_code 114 = .ok (.i2l, 1) := by decide +kernel
theorem dS_tryKind_115 : decode prog_3_method_8_code 115 = .ok (.lmul, 1) := by decide +kernel
theorem dS_tryKind_116 : decode prog_3_method_8_code 116 = .ok (.lsub, 1) := by decide +kernel
theorem dS_tryKind_117 : decode prog_3_method_8_code 117 = .ok (.iload 4, 2) := by decide +kernel
theorem dS_tryKind_119 : decode prog_3_method_8_code 119 = .ok (.iload 10, 2) := by decide +kernel
theorem dS_tryKind_121 : decode prog_3_method_8_code 121 = .ok (.iadd, 1) := by decide +kernel
theorem dS_tryKind_122 : decode prog_3_method_8_code 122 = .ok (.iload 5, 2) := by decide +kernel
theorem dS_tryKind_124 : decode prog_3_method_8_code 124 = .ok (.iload 10, 2) := by decide +kernel
theorem dS_tryKind_126 : decode prog_3_method_8_code 126 = .ok (.aload_n 0, 1) := by decide +kernel
theorem dS_tryKind_127 : decode prog_3_method_8_code 127 = .ok (.getfield 15, 3) := by decide +kernel
theorem dS_tryKind_130 : decode prog_3_method_8_code 130 = .ok (.iload_n 1, 1) := by decide +kernel
theorem dS_tryKind_131 : decode prog_3_method_8_code 131 = .ok (.iaload, 1) := by decide +kernel
theorem dS_tryKind_132 : decode prog_3_method_8_code 132 = .ok (.imul, 1) := by decide +kernel
theorem dS_tryKind_133 : decode prog_3_method_8_code 133 = .ok (.iadd, 1) := by decide +kernel
theorem dS_tryKind_134 : decode prog_3_method_8_code 134 = .ok (.invokevirtual 64, 3) := by decide +kernel
theorem dS_tryKind_137 : decode prog_3_method_8_code 137 = .ok (.iinc 10 (-1), 3) := by decide +kernel
theorem dS_tryKind_140 : decode prog_3_method_8_code 140 = .ok (.goto (-55), 3) := by decide +kernel
theorem dS_tryKind_143 : decode prog_3_method_8_code 143 = .ok (.aload_n 0, 1) := by decide +kernel
theorem dS_tryKind_144 : decode prog_3_method_8_code 144 = .ok (.getfield 24, 3) := by decide +kernel
theorem dS_tryKind_147 : decode prog_3_method_8_code 147 = .ok (.iload_n 1, 1) := by decide +kernel
theorem dS_tryKind_148 : decode prog_3_method_8_code 148 = .ok (.iconst 0, 1) := by decide +kernel
theorem dS_tryKind_149 : decode prog_3_method_8_code 149 = .ok (.iastore, 1) := by decide +kernel
theorem dS_tryKind_150 : decode prog_3_method_8_code 150 = .ok (.return_, 1) := by decide +kernel
theorem dS_keepIfBetter_0 : decode prog_3_method_11_code 0 = .ok (.aload_n 0, 1) := by decide +kernel
theorem dS_keepIfBetter_1 : decode prog_3_method_11_code 1 = .ok (.iload_n 1, 1) := by decide +kernel
theorem dS_keepIfBetter_2 : decode prog_3_method_11_code 2 = .ok (.i2l, 1) := by decide +kernel
theorem dS_keepIfBetter_3 : decode prog_3_method_11_code 3 = .ok (.iload_n 2, 1) := by decide +kernel
theorem dS_keepIfBetter_4 : decode prog_3_method_11_code 4 = .ok (.i2l, 1) := by decide +kernel
theorem dS_keepIfBetter_5 : decode prog_3_method_11_code 5 = .ok (.invokevirtual 90, 3) := by decide +kernel
theorem dS_keepIfBetter_8 : decode prog_3_method_11_code 8 = .ok (.ifCond .eq 27, 3) := by decide +kernel
theorem dS_keepIfBetter_11 : decode prog_3_method_11_code 11 = .ok (.aload_n 0, 1) := by decide +kernel
theorem dS_keepIfBetter_12 : decode prog_3_method_11_code 12 = .ok (.iload_n 1, 1) := by decide +kernel
theorem dS_keepIfBetter_13 : decode prog_3_method_11_code 13 = .ok (.putfield 55, 3) := by decide +kernel
theorem dS_keepIfBetter_16 : decode prog_3_method_11_code 16 = .ok (.aload_n 0, 1) := by decide +kernel
theorem dS_keepIfBetter_17 : decode prog_3_method_11_code 17 = .ok (.iload_n 2, 1) := by decide +kernel
theorem dS_keepIfBetter_18 : decode prog_3_method_11_code 18 = .ok (.putfield 47, 3) := by decide +kernel
theorem dS_keepIfBetter_21 : decode prog_3_method_11_code 21 = .ok (.aload_n 0, 1) := by decide +kernel
theorem dS_keepIfBetter_22 : decode prog_3_method_11_code 22 = .ok (.getfield 24, 3) := by decide +kernel
theorem dS_keepIfBetter_25 : decode prog_3_method_11_code 25 = .ok (.iconst 0, 1) := by decide +kernel
theorem dS_keepIfBetter_26 : decode prog_3_method_11_code 26 = .ok (.aload_n 0, 1) := by decide +kernel
theorem dS_keepIfBetter_27 : decode prog_3_method_11_code 27 = .ok (.getfield 27, 3) := by decide +kernel
theorem dS_keepIfBetter_30 : decode prog_3_method_11_code 30 = .ok (.iconst 0, 1) := by decide +kernel
theorem dS_keepIfBetter_31 : decode prog_3_method_11_code 31 = .ok (.iconst 4, 1) := by decide +kernel
theorem dS_keepIfBetter_32 : decode prog_3_method_11_code 32 = .ok (.invokestatic 94, 3) := by decide +kernel
theorem dS_keepIfBetter_35 : decode prog_3_method_11_code 35 = .ok (.return_, 1) := by decide +kernel
theorem dS_isBetter_0 : decode prog_3_method_10_code 0 = .ok (.lload_n 3, 1) := by decide +kernel
theorem dS_isBetter_1 : decode prog_3_method_10_code 1 = .ok (.aload_n 0, 1) := by decide +kernel
theorem dS_isBetter_2 : decode prog_3_method_10_code 2 = .ok (.getfield 47, 3) := by decide +kernel
theorem dS_isBetter_5 : decode prog_3_method_10_code 5 = .ok (.i2l, 1) := by decide +kernel
theorem dS_isBetter_6 : decode prog_3_method_10_code 6 = .ok (.lcmp, 1) := by decide +kernel
theorem dS_isBetter_7 : decode prog_3_method_10_code 7 = .ok (.ifCond .lt 23, 3) := by decide +kernel
theorem dS_isBetter_10 : decode prog_3_method_10_code 10 = .ok (.lload_n 3, 1) := by decide +kernel
theorem dS_isBetter_11 : decode prog_3_method_10_code 11 = .ok (.aload_n 0, 1) := by decide +kernel
theorem dS_isBetter_12 : decode prog_3_method_10_code 12 = .ok (.getfield 47, 3) := by decide +kernel
theorem dS_isBetter_15 : decode prog_3_method_10_code 15 = .ok (.i2l, 1) := by decide +kernel
theorem dS_isBetter_16 : decode prog_3_method_10_code 16 = .ok (.lcmp, 1) := by decide +kernel
theorem dS_isBetter_17 : decode prog_3_method_10_code 17 = .ok (.ifCond .ne 17, 3) := by decide +kernel
theorem dS_isBetter_20 : decode prog_3_method_10_code 20 = .ok (.lload_n 1, 1) := by decide +kernel
theorem dS_isBetter_21 : decode prog_3_method_10_code 21 = .ok (.aload_n 0, 1) := by decide +kernel
theorem dS_isBetter_22 : decode prog_3_method_10_code 22 = .ok (.getfield 55, 3) := by decide +kernel
theorem dS_isBetter_25 : decode prog_3_method_10_code 25 = .ok (.i2l, 1) := by decide +kernel
theorem dS_isBetter_26 : decode prog_3_method_10_code 26 = .ok (.lcmp, 1) := by decide +kernel
theorem dS_isBetter_27 : decode prog_3_method_10_code 27 = .ok (.ifCond .ge 7, 3) := by decide +kernel
theorem dS_isBetter_30 : decode prog_3_method_10_code 30 = .ok (.iconst 1, 1) := by decide +kernel
theorem dS_isBetter_31 : decode prog_3_method_10_code 31 = .ok (.goto 4, 3) := by decide +kernel
theorem dS_isBetter_34 : decode prog_3_method_10_code 34 = .ok (.iconst 0, 1) := by decide +kernel
theorem dS_isBetter_35 : decode prog_3_method_10_code 35 = .ok (.ireturn, 1) := by decide +kernel
theorem dS_isHopeless_0 : decode prog_3_method_9_code 0 = .ok (.iload 4, 2) := by decide +kernel
theorem dS_isHopeless_2 : decode prog_3_method_9_code 2 = .ok (.i2l, 1) := by decide +kernel
theorem dS_isHopeless_3 : decode prog_3_method_9_code 3 = .ok (.lload_n 2, 1) := by decide +kernel
theorem dS_isHopeless_4 : decode prog_3_method_9_code 4 = .ok (.aload_n 0, 1) := by decide +kernel
theorem dS_isHopeless_5 : decode prog_3_method_9_code 5 = .ok (.getfield 9, 3) := by decide +kernel
theorem dS_isHopeless_8 : decode prog_3_method_9_code 8 = .ok (.aload_n 0, 1) := by decide +kernel
theorem dS_isHopeless_9 : decode prog_3_method_9_code 9 = .ok (.getfield 18, 3) := by decide +kernel
theorem dS_isHopeless_12 : decode prog_3_method_9_code 12 = .ok (.iload_n 1, 1) := by decide +kernel
theorem dS_isHopeless_13 : decode prog_3_method_9_code 13 = .ok (.iaload, 1) := by decide +kernel
theorem dS_isHopeless_14 : decode prog_3_method_9_code 14 = .ok (.iaload, 1) := by decide +kernel
theorem dS_isHopeless_15 : decode prog_3_method_9_code 15 = .ok (.invokestatic 70, 3) := by decide +kernel
theorem dS_isHopeless_18 : decode prog_3_method_9_code 18 = .ok (.ladd, 1) := by decide +kernel
theorem dS_isHopeless_19 : decode prog_3_method_9_code 19 = .ok (.lstore 6, 2) := by decide +kernel
theorem dS_isHopeless_21 : decode prog_3_method_9_code 21 = .ok (.lload 6, 2) := by decide +kernel
theorem dS_isHopeless_23 : decode prog_3_method_9_code 23 = .ok (.ldc2_w 74, 3) := by decide +kernel
theorem dS_isHopeless_26 : decode prog_3_method_9_code 26 = .ok (.lcmp, 1) := by decide +kernel
theorem dS_isHopeless_27 : decode prog_3_method_9_code 27 = .ok (.ifCond .le 5, 3) := by decide +kernel
theorem dS_isHopeless_30 : decode prog_3_method_9_code 30 = .ok (.iconst 1, 1) := by decide +kernel
theorem dS_isHopeless_31 : decode prog_3_method_9_code 31 = .ok (.ireturn, 1) := by decide +kernel
theorem dS_isHopeless_32 : decode prog_3_method_9_code 32 = .ok (.aload_n 0, 1) := by decide +kernel
theorem dS_isHopeless_33 : decode prog_3_method_9_code 33 = .ok (.getfield 21, 3) := by decide +kernel
theorem dS_isHopeless_36 : decode prog_3_method_9_code 36 = .ok (.iload_n 1, 1) := by decide +kernel
theorem dS_isHopeless_37 : decode prog_3_method_9_code 37 = .ok (.iaload, 1) := by decide +kernel
theorem dS_isHopeless_38 : decode prog_3_method_9_code 38 = .ok (.istore 8, 2) := by decide +kernel
theorem dS_isHopeless_40 : decode prog_3_method_9_code 40 = .ok (.iload 5, 2) := by decide +kernel
theorem dS_isHopeless_42 : decode prog_3_method_9_code 42 = .ok (.i2l, 1) := by decide +kernel
theorem dS_isHopeless_43 : decode prog_3_method_9_code 43 = .ok (.lload_n 2, 1) := by decide +kernel
theorem dS_isHopeless_44 : decode prog_3_method_9_code 44 = .ok (.aload_n 0, 1) := by decide +kernel
theorem dS_isHopeless_45 : decode prog_3_method_9_code 45 = .ok (.getfield 15, 3) := by decide +kernel
theorem dS_isHopeless_48 : decode prog_3_method_9_code 48 = .ok (.iload 8, 2) := by decide +kernel
theorem dS_isHopeless_50 : decode prog_3_method_9_code 50 = .ok (.iaload, 1) := by decide +kernel
theorem dS_isHopeless_51 : decode prog_3_method_9_code 51 = .ok (.i2l, 1) := by decide +kernel
theorem dS_isHopeless_52 : decode prog_3_method_9_code 52 = .ok (.lmul, 1) := by decide +kernel
theorem dS_isHopeless_53 : decode prog_3_method_9_code 53 = .ok (.aload_n 0, 1) := by decide +kernel
theorem dS_isHopeless_54 : decode prog_3_method_9_code 54 = .ok (.getfield 9, 3) := by decide +kernel
theorem dS_isHopeless_57 : decode prog_3_method_9_code 57 = .ok (.iload 8, 2) := by decide +kernel
theorem dS_isHopeless_59 : decode prog_3_method_9_code 59 = .ok (.iaload, 1) := by decide +kernel
theorem dS_isHopeless_60 : decode prog_3_method_9_code 60 = .ok (.invokestatic 70, 3) := by decide +kernel
theorem dS_isHopeless_63 : decode prog_3_method_9_code 63 = .ok (.ladd, 1) := by decide +kernel
theorem dS_isHopeless_64 : decode prog_3_method_9_code 64 = .ok (.lstore 9, 2) := by decide +kernel
theorem dS_isHopeless_66 : decode prog_3_method_9_code 66 = .ok (.aload_n 0, 1) := by decide +kernel
theorem dS_isHopeless_67 : decode prog_3_method_9_code 67 = .ok (.lload 6, 2) := by decide +kernel
theorem dS_isHopeless_69 : decode prog_3_method_9_code 69 = .ok (.lload 9, 2) := by decide +kernel
theorem dS_isHopeless_71 : decode prog_3_method_9_code 71 = .ok (.invokevirtual 90, 3) := by decide +kernel
theorem dS_isHopeless_74 : decode prog_3_method_9_code 74 = .ok (.ifCond .ne 7, 3) := by decide +kernel
theorem dS_isHopeless_77 : decode prog_3_method_9_code 77 = .ok (.iconst 1, 1) := by decide +kernel
theorem dS_isHopeless_78 : decode prog_3_method_9_code 78 = .ok (.goto 4, 3) := by decide +kernel
theorem dS_isHopeless_81 : decode prog_3_method_9_code 81 = .ok (.iconst 0, 1) := by decide +kernel
theorem dS_isHopeless_82 : decode prog_3_method_9_code 82 = .ok (.ireturn, 1) := by decide +kernel
theorem dS_stock_0 : decode prog_3_method_2_code 0 = .ok (.aload_n 0, 1) := by decide +kernel
theorem dS_stock_1 : decode prog_3_method_2_code 1 = .ok (.getfield 9, 3) := by decide +kernel
theorem dS_stock_4 : decode prog_3_method_2_code 4 = .ok (.aload_n 0, 1) := by decide +kernel
theorem dS_stock_5 : decode prog_3_method_2_code 5 = .ok (.getfield 36, 3) := by decide +kernel
theorem dS_stock_8 : decode prog_3_method_2_code 8 = .ok (.iload_n 1, 1) := by decide +kernel
theorem dS_stock_9 : decode prog_3_method_2_code 9 = .ok (.iastore, 1) := by decide +kernel
theorem dS_stock_10 : decode prog_3_method_2_code 10 = .ok (.aload_n 0, 1) := by decide +kernel
theorem dS_stock_11 : decode prog_3_method_2_code 11 = .ok (.getfield 15, 3) := by decide +kernel
theorem dS_stock_14 : decode prog_3_method_2_code 14 = .ok (.aload_n 0, 1) := by decide +kernel
theorem dS_stock_15 : decode prog_3_method_2_code 15 = .ok (.getfield 36, 3) := by decide +kernel
theorem dS_stock_18 : decode prog_3_method_2_code 18 = .ok (.iload_n 2, 1) := by decide +kernel
theorem dS_stock_19 : decode prog_3_method_2_code 19 = .ok (.iastore, 1) := by decide +kernel
theorem dS_stock_20 : decode prog_3_method_2_code 20 = .ok (.aload_n 0, 1) := by decide +kernel
theorem dS_stock_21 : decode prog_3_method_2_code 21 = .ok (.dup, 1) := by decide +kernel
theorem dS_stock_22 : decode prog_3_method_2_code 22 = .ok (.getfield 36, 3) := by decide +kernel
theorem dS_stock_25 : decode prog_3_method_2_code 25 = .ok (.iconst 1, 1) := by decide +kernel
theorem dS_stock_26 : decode prog_3_method_2_code 26 = .ok (.iadd, 1) := by decide +kernel
theorem dS_stock_27 : decode prog_3_method_2_code 27 = .ok (.putfield 36, 3) := by decide +kernel
theorem dS_stock_30 : decode prog_3_method_2_code 30 = .ok (.aload_n 0, 1) := by decide +kernel
theorem dS_stock_31 : decode prog_3_method_2_code 31 = .ok (.ldc2_w 30, 3) := by decide +kernel
theorem dS_stock_34 : decode prog_3_method_2_code 34 = .ok (.putfield 32, 3) := by decide +kernel
theorem dS_stock_37 : decode prog_3_method_2_code 37 = .ok (.aload_n 0, 1) := by decide +kernel
theorem dS_stock_38 : decode prog_3_method_2_code 38 = .ok (.invokevirtual 40, 3) := by decide +kernel
theorem dS_stock_41 : decode prog_3_method_2_code 41 = .ok (.aload_n 0, 1) := by decide +kernel
theorem dS_stock_42 : decode prog_3_method_2_code 42 = .ok (.getfield 36, 3) := by decide +kernel
theorem dS_stock_45 : decode prog_3_method_2_code 45 = .ok (.iconst 1, 1) := by decide +kernel
theorem dS_stock_46 : decode prog_3_method_2_code 46 = .ok (.isub, 1) := by decide +kernel
theorem dS_stock_47 : decode prog_3_method_2_code 47 = .ok (.ireturn, 1) := by decide +kernel
theorem dS_rankFromBehind_0 : decode prog_3_method_3_code 0 = .ok (.aload_n 0, 1) := by decide +kernel
theorem dS_rankFromBehind_1 : decode prog_3_method_3_code 1 = .ok (.getfield 36, 3) := by decide +kernel
theorem dS_rankFromBehind_4 : decode prog_3_method_3_code 4 = .ok (.iconst 1, 1) := by decide +kernel
theorem dS_rankFromBehind_5 : decode prog_3_method_3_code 5 = .ok (.isub, 1) := by decide +kernel
theorem dS_rankFromBehind_6 : decode prog_3_method_3_code 6 = .ok (.istore_n 1, 1) := by decide +kernel
theorem dS_rankFromBehind_7 : decode prog_3_method_3_code 7 = .ok (.aload_n 0, 1) := by decide +kernel
theorem dS_rankFromBehind_8 : decode prog_3_method_3_code 8 = .ok (.getfield 36, 3) := by decide +kernel
theorem dS_rankFromBehind_11 : decode prog_3_method_3_code 11 = .ok (.iconst 1, 1) := by decide +kernel
theorem dS_rankFromBehind_12 : decode prog_3_method_3_code 12 = .ok (.isub, 1) := by decide +kernel
theorem dS_rankFromBehind_13 : decode prog_3_method_3_code 13 = .ok (.istore_n 2, 1) := by decide +kernel
theorem dS_rankFromBehind_14 : decode prog_3_method_3_code 14 = .ok (.aload_n 0, 1) := by decide +kernel
theorem dS_rankFromBehind_15 : decode prog_3_method_3_code 15 = .ok (.getfield 36, 3) := by decide +kernel
theorem dS_rankFromBehind_18 : decode prog_3_method_3_code 18 = .ok (.iconst 1, 1) := by decide +kernel
theorem dS_rankFromBehind_19 : decode prog_3_method_3_code 19 = .ok (.isub, 1) := by decide +kernel
theorem dS_rankFromBehind_20 : decode prog_3_method_3_code 20 = .ok (.istore_n 3, 1) := by decide +kernel
theorem dS_rankFromBehind_21 : decode prog_3_method_3_code 21 = .ok (.iload_n 3, 1) := by decide +kernel
theorem dS_rankFromBehind_22 : decode prog_3_method_3_code 22 = .ok (.ifCond .lt 76, 3) := by decide +kernel
theorem dS_rankFromBehind_25 : decode prog_3_method_3_code 25 = .ok (.aload_n 0, 1) := by decide +kernel
theorem dS_rankFromBehind_26 : decode prog_3_method_3_code 26 = .ok (.getfield 9, 3) := by decide +kernel
theorem dS_rankFromBehind_29 : decode prog_3_method_3_code 29 = .ok (.iload_n 3, 1) := by decide +kernel
theorem dS_rankFromBehind_30 : decode prog_3_method_3_code 30 = .ok (.iaload, 1) := by decide +kernel
theorem dS_rankFromBehind_31 : decode prog_3_method_3_code 31 = .ok (.aload_n 0, 1) := by decide +kernel
theorem dS_rankFromBehind_32 : decode prog_3_method_3_code 32 = .ok (.getfield 9, 3) := by decide +kernel
theorem dS_rankFromBehind_35 : decode prog_3_method_3_code 35 = .ok (.iload_n 1, 1) := by decide +kernel
theorem dS_rankFromBehind_36 : decode prog_3_method_3_code 36 = .ok (.iaload, 1) := by decide +kernel
theorem dS_rankFromBehind_37 : decode prog_3_method_3_code 37 = .ok (.if_icmp .le 5, 3) := by decide +kernel
theorem dS_rankFromBehind_40 : decode prog_3_method_3_code 40 = .ok (.iload_n 3, 1) := by decide +kernel
theorem dS_rankFromBehind_41 : decode prog_3_method_3_code 41 = .ok (.istore_n 1, 1) := by decide +kernel
theorem dS_rankFromBehind_42 : decode prog_3_method_3_code 42 = .ok (.aload_n 0, 1) := by decide +kernel
theorem dS_rankFromBehind_43 : decode prog_3_method_3_code 43 = .ok (.getfield 15, 3) := by decide +kernel
theorem dS_rankFromBehind_46 : decode prog_3_method_3_code 46 = .ok (.iload_n 3, 1) := by decide +kernel
theorem dS_rankFromBehind_47 : decode prog_3_method_3_code 47 = .ok (.iaload, 1) := by decide +kernel
theorem dS_rankFromBehind_48 : decode prog_3_method_3_code 48 = .ok (.i2l, 1) := by decide +kernel
theorem dS_rankFromBehind_49 : decode prog_3_method_3_code 49 = .ok (.aload_n 0, 1) := by decide +kernel
theorem dS_rankFromBehind_50 : decode prog_3_method_3_code 50 = .ok (.getfield 9, 3) := by decide +kernel
theorem dS_rankFromBehind_53 : decode prog_3_method_3_code 53 = .ok (.iload_n 2, 1) := by decide +kernel
theorem dS_rankFromBehind_54 : decode prog_3_method_3_code 54 = .ok (.iaload, 1) := by decide +kernel
theorem dS_rankFromBehind_55 : decode prog_3_method_3_code 55 = .ok (.i2l, 1) := by decide +kernel
theorem dS_rankFromBehind_56 : decode prog_3_method_3_code 56 = .ok (.lmul, 1) := by decide +kernel
theorem dS_rankFromBehind_57 : decode prog_3_method_3_code 57 = .ok (.aload_n 0, 1) := by decide +kernel
theorem dS_rankFromBehind_58 : decode prog_3_method_3_code 58 = .ok (.getfield 15, 3) := by decide +kernel
theorem dS_rankFromBehind_61 : decode prog_3_method_3_code 61 = .ok (.iload_n 2, 1) := by decide +kernel
theorem dS_rankFromBehind_62 : decode prog_3_method_3_code 62 = .ok (.iaload, 1) := by decide +kernel
theorem dS_rankFromBehind_63 : decode prog_3_method_3_code 63 = .ok (.i2l, 1) := by decide +kernel
theorem dS_rankFromBehind_64 : decode prog_3_method_3_code 64 = .ok (.aload_n 0, 1) := by decide +kernel
theorem dS_rankFromBehind_65 : decode prog_3_method_3_code 65 = .ok (.getfield 9, 3) := by decide +kernel
theorem dS_rankFromBehind_68 : decode prog_3_method_3_code 68 = .ok (.iload_n 3, 1) := by decide +kernel
theorem dS_rankFromBehind_69 : decode prog_3_method_3_code 69 = .ok (.iaload, 1) := by decide +kernel
theorem dS_rankFromBehind_70 : decode prog_3_method_3_code 70 = .ok (.i2l, 1) := by decide +kernel
theorem dS_rankFromBehind_71 : decode prog_3_method_3_code 71 = .ok (.lmul, 1) := by decide +kernel
theorem dS_rankFromBehind_72 : decode prog_3_method_3_code 72 = .ok (.lcmp, 1) := by decide +kernel
theorem dS_rankFromBehind_73 : decode prog_3_method_3_code 73 = .ok (.ifCond .ge 5, 3) := by decide +kernel
theorem dS_rankFromBehind_76 : decode prog_3_method_3_code 76 = .ok (.iload_n 3, 1) := by decide +kernel
theorem dS_rankFromBehind_77 : decode prog_3_method_3_code 77 = .ok (.istore_n 2, 1) := by decide +kernel
theorem dS_rankFromBehind_78 : decode prog_3_method_3_code 78 = .ok (.aload_n 0, 1) := by decide +kernel
theorem dS_rankFromBehind_79 : decode prog_3_method_3_code 79 = .ok (.getfield 18, 3) := by decide +kernel
theorem dS_rankFromBehind_82 : decode prog_3_method_3_code 82 = .ok (.iload_n 3, 1) := by decide +kernel
theorem dS_rankFromBehind_83 : decode prog_3_method_3_code 83 = .ok (.iload_n 1, 1) := by decide +kernel
theorem dS_rankFromBehind_84 : decode prog_3_method_3_code 84 = .ok (.iastore, 1) := by decide +kernel
theorem dS_rankFromBehind_85 : decode prog_3_method_3_code 85 = .ok (.aload_n 0, 1) := by decide +kernel
theorem dS_rankFromBehind_86 : decode prog_3_method_3_code 86 = .ok (.getfield 21, 3) := by decide +kernel
theorem dS_rankFromBehind_89 : decode prog_3_method_3_code 89 = .ok (.iload_n 3, 1) := by decide +kernel
theorem dS_rankFromBehind_90 : decode prog_3_method_3_code 90 = .ok (.iload_n 2, 1) := by decide +kernel
theorem dS_rankFromBehind_91 : decode prog_3_method_3_code 91 = .ok (.iastore, 1) := by decide +kernel
theorem dS_rankFromBehind_92 : decode prog_3_method_3_code 92 = .ok (.iinc 3 (-1), 3) := by decide +kernel
theorem dS_rankFromBehind_95 : decode prog_3_method_3_code 95 = .ok (.goto (-74), 3) := by decide +kernel
theorem dS_rankFromBehind_98 : decode prog_3_method_3_code 98 = .ok (.return_, 1) := by decide +kernel
theorem dS_countFor_0 : decode prog_3_method_4_code 0 = .ok (.aload_n 0, 1) := by decide +kernel
theorem dS_countFor_1 : decode prog_3_method_4_code 1 = .ok (.lload_n 1, 1) := by decide +kernel
theorem dS_countFor_2 : decode prog_3_method_4_code 2 = .ok (.invokevirtual 43, 3) := by decide +kernel
theorem dS_countFor_5 : decode prog_3_method_4_code 5 = .ok (.aload_n 0, 1) := by decide +kernel
theorem dS_countFor_6 : decode prog_3_method_4_code 6 = .ok (.getfield 47, 3) := by decide +kernel
theorem dS_countFor_9 : decode prog_3_method_4_code 9 = .ok (.ldc 50, 2) := by decide +kernel
theorem dS_countFor_11 : decode prog_3_method_4_code 11 = .ok (.if_icmp .ne 7, 3) := by decide +kernel
theorem dS_countFor_14 : decode prog_3_method_4_code 14 = .ok (.iconst (-1), 1) := by decide +kernel
theorem dS_countFor_15 : decode prog_3_method_4_code 15 = .ok (.goto 9, 3) := by decide +kernel
theorem dS_countFor_18 : decode prog_3_method_4_code 18 = .ok (.aload_n 0, 1) := by decide +kernel
theorem dS_countFor_19 : decode prog_3_method_4_code 19 = .ok (.getfield 27, 3) := by decide +kernel
theorem dS_countFor_22 : decode prog_3_method_4_code 22 = .ok (.iload_n 3, 1) := by decide +kernel
theorem dS_countFor_23 : decode prog_3_method_4_code 23 = .ok (.iaload, 1) := by decide +kernel
theorem dS_countFor_24 : decode prog_3_method_4_code 24 = .ok (.ireturn, 1) := by decide +kernel
end
section
-- DECODE ROWS
theorem dW_init_0 : decode prog_4_method_1_code 0 = .ok (.aload_n 0, 1) := by decide +kernel
theorem dW_init_1 : decode prog_4_method_1_code 1 = .ok (.invokespecial 3, 3) := by decide +kernel
theorem dW_init_4 : decode prog_4_method_1_code 4 = .ok (.aload_n 0, 1) := by decide +kernel
theorem dW_init_5 : decode prog_4_method_1_code 5 = .ok (.bipush 10, 2) := by decide +kernel
theorem dW_init_7 : decode prog_4_method_1_code 7 = .ok (.newarray .int, 2) := by decide +kernel
theorem dW_init_9 : decode prog_4_method_1_code 9 = .ok (.putfield 9, 3) := by decide +kernel
theorem dW_init_12 : decode prog_4_method_1_code 12 = .ok (.return_, 1) := by decide +kernel
theorem dW_wholeThickness_0 : decode prog_4_method_2_code 0 = .ok (.iconst 0, 1) := by decide +kernel
theorem dW_wholeThickness_1 : decode prog_4_method_2_code 1 = .ok (.istore_n 1, 1) := by decide +kernel
theorem dW_wholeThickness_2 : decode prog_4_method_2_code 2 = .ok (.iconst 0, 1) := by decide +kernel
theorem dW_wholeThickness_3 : decode prog_4_method_2_code 3 = .ok (.istore_n 2, 1) := by decide +kernel
theorem dW_wholeThickness_4 : decode prog_4_method_2_code 4 = .ok (.iload_n 2, 1) := by decide +kernel
theorem dW_wholeThickness_5 : decode prog_4_method_2_code 5 = .ok (.aload_n 0, 1) := by decide +kernel
theorem dW_wholeThickness_6 : decode prog_4_method_2_code 6 = .ok (.getfield 9, 3) := by decide +kernel
theorem dW_wholeThickness_9 : decode prog_4_method_2_code 9 = .ok (.arraylength, 1) := by decide +kernel
theorem dW_wholeThickness_10 : decode prog_4_method_2_code 10 = .ok (.if_icmp .ge 18, 3) := by decide +kernel
theorem dW_wholeThickness_13 : decode prog_4_method_2_code 13 = .ok (.iload_n 1, 1) := by decide +kernel
theorem dW_wholeThickness_14 : decode prog_4_method_2_code 14 = .ok (.aload_n 0, 1) := by decide +kernel
theorem dW_wholeThickness_15 : decode prog_4_method_2_code 15 = .ok (.getfield 9, 3) := by decide +kernel
theorem dW_wholeThickness_18 : decode prog_4_method_2_code 18 = .ok (.iload_n 2, 1) := by decide +kernel
theorem dW_wholeThickness_19 : decode prog_4_method_2_code 19 = .ok (.iaload, 1) := by decide +kernel
theorem dW_wholeThickness_20 : decode prog_4_method_2_code 20 = .ok (.iadd, 1) := by decide +kernel
theorem dW_wholeThickness_21 : decode prog_4_method_2_code 21 = .ok (.istore_n 1, 1) := by decide +kernel
theorem dW_wholeThickness_22 : decode prog_4_method_2_code 22 = .ok (.iinc 2 1, 3) := by decide +kernel
theorem dW_wholeThickness_25 : decode prog_4_method_2_code 25 = .ok (.goto (-21), 3) := by decide +kernel
theorem dW_wholeThickness_28 : decode prog_4_method_2_code 28 = .ok (.iload_n 1, 1) := by decide +kernel
theorem dW_wholeThickness_29 : decode prog_4_method_2_code 29 = .ok (.ireturn, 1) := by decide +kernel
end
section
-- DECODE ROWS
theorem dX_init_0 : decode prog_1_method_1_code 0 = .ok (.aload_n 0, 1) := by decide +kernel
theorem dX_init_1 : decode prog_1_method_1_code 1 = .ok (.invokespecial 3, 3) := by decide +kernel
theorem dX_init_4 : decode prog_1_method_1_code 4 = .ok (.aload_n 0, 1) := by decide +kernel
theorem dX_init_5 : decode prog_1_method_1_code 5 = .ok (.bipush 12, 2) := by decide +kernel
theorem dX_init_7 : decode prog_1_method_1_code 7 = .ok (.anewarray 9, 3) := by decide +kernel
theorem dX_init_10 : decode prog_1_method_1_code 10 = .ok (.putfield 11, 3) := by decide +kernel
theorem dX_init_13 : decode prog_1_method_1_code 13 = .ok (.iconst 0, 1) := by decide +kernel
theorem dX_init_14 : decode prog_1_method_1_code 14 = .ok (.istore_n 1, 1) := by decide +kernel
theorem dX_init_15 : decode prog_1_method_1_code 15 = .ok (.iload_n 1, 1) := by decide +kernel
theorem dX_init_16 : decode prog_1_method_1_code 16 = .ok (.aload_n 0, 1) := by decide +kernel
theorem dX_init_17 : decode prog_1_method_1_code 17 = .ok (.getfield 11, 3) := by decide +kernel
theorem dX_init_20 : decode prog_1_method_1_code 20 = .ok (.arraylength, 1) := by decide +kernel
theorem dX_init_21 : decode prog_1_method_1_code 21 = .ok (.if_icmp .ge 22, 3) := by decide +kernel
theorem dX_init_24 : decode prog_1_method_1_code 24 = .ok (.aload_n 0, 1) := by decide +kernel
theorem dX_init_25 : decode prog_1_method_1_code 25 = .ok (.getfield 11, 3) := by decide +kernel
theorem dX_init_28 : decode prog_1_method_1_code 28 = .ok (.iload_n 1, 1) := by decide +kernel
theorem dX_init_29 : decode prog_1_method_1_code 29 = .ok (.new 9, 3) := by decide +kernel
theorem dX_init_32 : decode prog_1_method_1_code 32 = .ok (.dup, 1) := by decide +kernel
theorem dX_init_33 : decode prog_1_method_1_code 33 = .ok (.invokespecial 15, 3) := by decide +kernel
theorem dX_init_36 : decode prog_1_method_1_code 36 = .ok (.aastore, 1) := by decide +kernel
theorem dX_init_37 : decode prog_1_method_1_code 37 = .ok (.iinc 1 1, 3) := by decide +kernel
theorem dX_init_40 : decode prog_1_method_1_code 40 = .ok (.goto (-25), 3) := by decide +kernel
theorem dX_init_43 : decode prog_1_method_1_code 43 = .ok (.aload_n 0, 1) := by decide +kernel
theorem dX_init_44 : decode prog_1_method_1_code 44 = .ok (.bipush 10, 2) := by decide +kernel
theorem dX_init_46 : decode prog_1_method_1_code 46 = .ok (.newarray .int, 2) := by decide +kernel
theorem dX_init_48 : decode prog_1_method_1_code 48 = .ok (.putfield 16, 3) := by decide +kernel
theorem dX_init_51 : decode prog_1_method_1_code 51 = .ok (.aload_n 0, 1) := by decide +kernel
theorem dX_init_52 : decode prog_1_method_1_code 52 = .ok (.bipush 10, 2) := by decide +kernel
theorem dX_init_54 : decode prog_1_method_1_code 54 = .ok (.anewarray 20, 3) := by decide +kernel
theorem dX_init_57 : decode prog_1_method_1_code 57 = .ok (.putfield 22, 3) := by decide +kernel
theorem dX_init_60 : decode prog_1_method_1_code 60 = .ok (.iconst 0, 1) := by decide +kernel
theorem dX_init_61 : decode prog_1_method_1_code 61 = .ok (.istore_n 1, 1) := by decide +kernel
theorem dX_init_62 : decode prog_1_method_1_code 62 = .ok (.iload_n 1, 1) := by decide +kernel
theorem dX_init_63 : decode prog_1_method_1_code 63 = .ok (.aload_n 0, 1) := by decide +kernel
theorem dX_init_64 : decode prog_1_method_1_code 64 = .ok (.getfield 22, 3) := by decide +kernel
theorem dX_init_67 : decode prog_1_method_1_code 67 = .ok (.arraylength, 1) := by decide +kernel
theorem dX_init_68 : decode prog_1_method_1_code 68 = .ok (.if_icmp .ge 22, 3) := by decide +kernel
theorem dX_init_71 : decode prog_1_method_1_code 71 = .ok (.aload_n 0, 1) := by decide +kernel
theorem dX_init_72 : decode prog_1_method_1_code 72 = .ok (.getfield 22, 3) := by decide +kernel
theorem dX_init_75 : decode prog_1_method_1_code 75 = .ok (.iload_n 1, 1) := by decide +kernel
theorem dX_init_76 : decode prog_1_method_1_code 76 = .ok (.new 20, 3) := by decide +kernel
theorem dX_init_79 : decode prog_1_method_1_code 79 = .ok (.dup, 1) := by decide +kernel
theorem dX_init_80 : decode prog_1_method_1_code 80 = .ok (.invokespecial 26, 3) := by decide +kernel
theorem dX_init_83 : decode prog_1_method_1_code 83 = .ok (.aastore, 1) := by decide +kernel
theorem dX_init_84 : decode prog_1_method_1_code 84 = .ok (.iinc 1 1, 3) := by decide +kernel
theorem dX_init_87 : decode prog_1_method_1_code 87 = .ok (.goto (-25), 3) := by decide +kernel
theorem dX_init_90 : decode prog_1_method_1_code 90 = .ok (.aload_n 0, 1) := by decide +kernel
theorem dX_init_91 : decode prog_1_method_1_code 91 = .ok (.new 27, 3) := by decide +kernel
theorem dX_init_94 : decode prog_1_method_1_code 94 = .ok (.dup, 1) := by decide +kernel
theorem dX_init_95 : decode prog_1_method_1_code 95 = .ok (.invokespecial 29, 3) := by decide +kernel
theorem dX_init_98 : decode prog_1_method_1_code 98 = .ok (.putfield 30, 3) := by decide +kernel
theorem dX_init_101 : decode prog_1_method_1_code 101 = .ok (.return_, 1) := by decide +kernel
theorem dX_cents0_0 : decode prog_1_method_11_code 0 = .ok (.lconst 0, 1) := by decide +kernel
theorem dX_cents0_1 : decode prog_1_method_11_code 1 = .ok (.lstore_n 1, 1) := by decide +kernel
theorem dX_cents0_2 : decode prog_1_method_11_code 2 = .ok (.iconst 0, 1) := by decide +kernel
theorem dX_cents0_3 : decode prog_1_method_11_code 3 = .ok (.istore_n 3, 1) := by decide +kernel
theorem dX_cents0_4 : decode prog_1_method_11_code 4 = .ok (.iload_n 3, 1) := by decide +kernel
theorem dX_cents0_5 : decode prog_1_method_11_code 5 = .ok (.bipush 10, 2) := by decide +kernel
theorem dX_cents0_7 : decode prog_1_method_11_code 7 = .ok (.if_icmp .ge 34, 3) := by decide +kernel
theorem dX_cents0_10 : decode prog_1_method_11_code 10 = .ok (.aload_n 0, 1) := by decide +kernel
theorem dX_cents0_11 : decode prog_1_method_11_code 11 = .ok (.iload_n 3, 1) := by decide +kernel
theorem dX_cents0_12 : decode prog_1_method_11_code 12 = .ok (.invokevirtual 97, 3) := by decide +kernel
theorem dX_cents0_15 : decode prog_1_method_11_code 15 = .ok (.lstore 4, 2) := by decide +kernel
theorem dX_cents0_17 : decode prog_1_method_11_code 17 = .ok (.lload 4, 2) := by decide +kernel
theorem dX_cents0_19 : decode prog_1_method_11_code 19 = .ok (.ldc2_w 100, 3) := by decide +kernel
theorem dX_cents0_22 : decode prog_1_method_11_code 22 = .ok (.lcmp, 1) := by decide +kernel
theorem dX_cents0_23 : decode prog_1_method_11_code 23 = .ok (.ifCond .ne 7, 3) := by decide +kernel
theorem dX_cents0_26 : decode prog_1_method_11_code 26 = .ok (.ldc2_w 100, 3) := by decide +kernel
theorem dX_cents0_29 : decode prog_1_method_11_code 29 = .ok (.lreturn, 1) := by decide +kernel
theorem dX_cents0_30 : decode prog_1_method_11_code 30 = .ok (.lload_n 1, 1) := by decide +kernel
theorem dX_cents0_31 : decode prog_1_method_11_code 31 = .ok (.lload 4, 2) := by decide +kernel
theorem dX_cents0_33 : decode prog_1_method_11_code 33 = .ok (.ladd, 1) := by decide +kernel
theorem dX_cents0_34 : decode prog_1_method_11_code 34 = .ok (.lstore_n 1, 1) := by decide +kernel
theorem dX_cents0_35 : decode prog_1_method_11_code 35 = .ok (.iinc 3 1, 3) := by decide +kernel
theorem dX_cents0_38 : decode prog_1_method_11_code 38 = .ok (.goto (-34), 3) := by decide +kernel
theorem dX_cents0_41 : decode prog_1_method_11_code 41 = .ok (.lload_n 1, 1) := by decide +kernel
theorem dX_cents0_42 : decode prog_1_method_11_code 42 = .ok (.lreturn, 1) := by decide +kernel
theorem dX_cents1_0 : decode prog_1_method_10_code 0 = .ok (.iload_n 1, 1) := by decide +kernel
theorem dX_cents1_1 : decode prog_1_method_10_code 1 = .ok (.bipush 10, 2) := by decide +kernel
theorem dX_cents1_3 : decode prog_1_method_10_code 3 = .ok (.invokestatic 49, 3) := by decide +kernel
theorem dX_cents1_6 : decode prog_1_method_10_code 6 = .ok (.aload_n 0, 1) := by decide +kernel
theorem dX_cents1_7 : decode prog_1_method_10_code 7 = .ok (.getfield 22, 3) := by decide +kernel
theorem dX_cents1_10 : decode prog_1_method_10_code 10 = .ok (.iload_n 1, 1) := by decide +kernel
theorem dX_cents1_11 : decode prog_1_method_10_code 11 = .ok (.aaload, 1) := by decide +kernel
theorem dX_cents1_12 : decode prog_1_method_10_code 12 = .ok (.aload_n 0, 1) := by decide +kernel
theorem dX_cents1_13 : decode prog_1_method_10_code 13 = .ok (.iload_n 1, 1) := by decide +kernel
theorem dX_cents1_14 : decode prog_1_method_10_code 14 = .ok (.invokevirtual 85, 3) := by decide +kernel
theorem dX_cents1_17 : decode prog_1_method_10_code 17 = .ok (.invokevirtual 93, 3) := by decide +kernel
theorem dX_cents1_20 : decode prog_1_method_10_code 20 = .ok (.i2l, 1) := by decide +kernel
theorem dX_cents1_21 : decode prog_1_method_10_code 21 = .ok (.lreturn, 1) := by decide +kernel
theorem dX_checkNumber_0 : decode prog_1_method_19_code 0 = .ok (.iload_n 0, 1) := by decide +kernel
theorem dX_checkNumber_1 : decode prog_1_method_19_code 1 = .ok (.ifCond .lt 8, 3) := by decide +kernel
theorem dX_checkNumber_4 : decode prog_1_method_19_code 4 = .ok (.iload_n 0, 1) := by decide +kernel
theorem dX_checkNumber_5 : decode prog_1_method_19_code 5 = .ok (.iload_n 1, 1) := by decide +kernel
theorem dX_checkNumber_6 : decode prog_1_method_19_code 6 = .ok (.if_icmp .lt 13, 3) := by decide +kernel
theorem dX_checkNumber_9 : decode prog_1_method_19_code 9 = .ok (.new 135, 3) := by decide +kernel
theorem dX_checkNumber_12 : decode prog_1_method_19_code 12 = .ok (.dup, 1) := by decide +kernel
theorem dX_checkNumber_13 : decode prog_1_method_19_code 13 = .ok (.ldc 140, 2) := by decide +kernel
theorem dX_checkNumber_15 : decode prog_1_method_19_code 15 = .ok (.invokespecial 139, 3) := by decide +kernel
theorem dX_checkNumber_18 : decode prog_1_method_19_code 18 = .ok (.athrow, 1) := by decide +kernel
theorem dX_checkNumber_19 : decode prog_1_method_19_code 19 = .ok (.return_, 1) := by decide +kernel
theorem dX_need_0 : decode prog_1_method_7_code 0 = .ok (.iload_n 1, 1) := by decide +kernel
theorem dX_need_1 : decode prog_1_method_7_code 1 = .ok (.bipush 10, 2) := by decide +kernel
theorem dX_need_3 : decode prog_1_method_7_code 3 = .ok (.invokestatic 49, 3) := by decide +kernel
theorem dX_need_6 : decode prog_1_method_7_code 6 = .ok (.lconst 0, 1) := by decide +kernel
theorem dX_need_7 : decode prog_1_method_7_code 7 = .ok (.lstore_n 2, 1) := by decide +kernel
theorem dX_need_8 : decode prog_1_method_7_code 8 = .ok (.iconst 0, 1) := by decide +kernel
theorem dX_need_9 : decode prog_1_method_7_code 9 = .ok (.istore 4, 2) := by decide +kernel
theorem dX_need_11 : decode prog_1_method_7_code 11 = .ok (.iload 4, 2) := by decide +kernel
theorem dX_need_13 : decode prog_1_method_7_code 13 = .ok (.aload_n 0, 1) := by decide +kernel
theorem dX_need_14 : decode prog_1_method_7_code 14 = .ok (.getfield 38, 3) := by decide +kernel
theorem dX_need_17 : decode prog_1_method_7_code 17 = .ok (.if_icmp .ge 37, 3) := by decide +kernel
theorem dX_need_20 : decode prog_1_method_7_code 20 = .ok (.lload_n 2, 1) := by decide +kernel
theorem dX_need_21 : decode prog_1_method_7_code 21 = .ok (.aload_n 0, 1) := by decide +kernel
theorem dX_need_22 : decode prog_1_method_7_code 22 = .ok (.getfield 11, 3) := by decide +kernel
theorem dX_need_25 : decode prog_1_method_7_code 25 = .ok (.iload 4, 2) := by decide +kernel
theorem dX_need_27 : decode prog_1_method_7_code 27 = .ok (.aaload, 1) := by decide +kernel
theorem dX_need_28 : decode prog_1_method_7_code 28 = .ok (.getfield 46, 3) := by decide +kernel
theorem dX_need_31 : decode prog_1_method_7_code 31 = .ok (.i2l, 1) := by decide +kernel
theorem dX_need_32 : decode prog_1_method_7_code 32 = .ok (.aload_n 0, 1) := by decide +kernel
theorem dX_need_33 : decode prog_1_method_7_code 33 = .ok (.getfield 11, 3) := by decide +kernel
theorem dX_need_36 : decode prog_1_method_7_code 36 = .ok (.iload 4, 2) := by decide +kernel
theorem dX_need_38 : decode prog_1_method_7_code 38 = .ok (.aaload, 1) := by decide +kernel
theorem dX_need_39 : decode prog_1_method_7_code 39 = .ok (.getfield 65, 3) := by decide +kernel
theorem dX_need_42 : decode prog_1_method_7_code 42 = .ok (.iload_n 1, 1) := by decide +kernel
theorem dX_need_43 : decode prog_1_method_7_code 43 = .ok (.iaload, 1) := by decide +kernel
theorem dX_need_44 : decode prog_1_method_7_code 44 = .ok (.i2l, 1) := by decide +kernel
theorem dX_need_45 : decode prog_1_method_7_code 45 = .ok (.lmul, 1) := by decide +kernel
theorem dX_need_46 : decode prog_1_method_7_code 46 = .ok (.ladd, 1) := by decide +kernel
theorem dX_need_47 : decode prog_1_method_7_code 47 = .ok (.lstore_n 2, 1) := by decide +kernel
theorem dX_need_48 : decode prog_1_method_7_code 48 = .ok (.iinc 4 1, 3) := by decide +kernel
theorem dX_need_51 : decode prog_1_method_7_code 51 = .ok (.goto (-40), 3) := by decide +kernel
theorem dX_need_54 : decode prog_1_method_7_code 54 = .ok (.lload_n 2, 1) := by decide +kernel
theorem dX_need_55 : decode prog_1_method_7_code 55 = .ok (.bipush 100, 2) := by decide +kernel
theorem dX_need_57 : decode prog_1_method_7_code 57 = .ok (.aload_n 0, 1) := by decide +kernel
theorem dX_need_58 : decode prog_1_method_7_code 58 = .ok (.getfield 16, 3) := by decide +kernel
theorem dX_need_61 : decode prog_1_method_7_code 61 = .ok (.iload_n 1, 1) := by decide +kernel
theorem dX_need_62 : decode prog_1_method_7_code 62 = .ok (.iaload, 1) := by decide +kernel
theorem dX_need_63 : decode prog_1_method_7_code 63 = .ok (.iadd, 1) := by decide +kernel
theorem dX_need_64 : decode prog_1_method_7_code 64 = .ok (.i2l, 1) := by decide +kernel
theorem dX_need_65 : decode prog_1_method_7_code 65 = .ok (.lmul, 1) := by decide +kernel
theorem dX_need_66 : decode prog_1_method_7_code 66 = .ok (.bipush 100, 2) := by decide +kernel
theorem dX_need_68 : decode prog_1_method_7_code 68 = .ok (.invokestatic 72, 3) := by decide +kernel
theorem dX_need_71 : decode prog_1_method_7_code 71 = .ok (.lreturn, 1) := by decide +kernel
theorem dX_ratioRoundedUp_0 : decode prog_1_method_21_code 0 = .ok (.iload_n 2, 1) := by decide +kernel
theorem dX_ratioRoundedUp_1 : decode prog_1_method_21_code 1 = .ok (.ifCond .gt 7, 3) := by decide +kernel
theorem dX_ratioRoundedUp_4 : decode prog_1_method_21_code 4 = .ok (.lconst 0, 1) := by decide +kernel
theorem dX_ratioRoundedUp_5 : decode prog_1_method_21_code 5 = .ok (.goto 12, 3) := by decide +kernel
theorem dX_ratioRoundedUp_8 : decode prog_1_method_21_code 8 = .ok (.lload_n 0, 1) := by decide +kernel
theorem dX_ratioRoundedUp_9 : decode prog_1_method_21_code 9 = .ok (.iload_n 2, 1) := by decide +kernel
theorem dX_ratioRoundedUp_10 : decode prog_1_method_21_code 10 = .ok (.i2l, 1) := by decide +kernel
theorem dX_ratioRoundedUp_11 : decode prog_1_method_21_code 11 = .ok (.ladd, 1) := by decide +kernel
theorem dX_ratioRoundedUp_12 : decode prog_1_method_21_code 12 = .ok (.lconst 1, 1) := by decide +kernel
theorem dX_ratioRoundedUp_13 : decode prog_1_method_21_code 13 = .ok (.lsub, 1) := by decide +kernel
theorem dX_ratioRoundedUp_14 : decode prog_1_method_21_code 14 = .ok (.iload_n 2, 1) := by decide +kernel
theorem dX_ratioRoundedUp_15 : decode prog_1_method_21_code 15 = .ok (.i2l, 1) := by decide +kernel
theorem dX_ratioRoundedUp_16 : decode prog_1_method_21_code 16 = .ok (.ldiv, 1) := by decide +kernel
theorem dX_ratioRoundedUp_17 : decode prog_1_method_21_code 17 = .ok (.lreturn, 1) := by decide +kernel
theorem dX_plan_0 : decode prog_1_method_15_code 0 = .ok (.aload_n 0, 1) := by decide +kernel
theorem dX_plan_1 : decode prog_1_method_15_code 1 = .ok (.getfield 30, 3) := by decide +kernel
theorem dX_plan_4 : decode prog_1_method_15_code 4 = .ok (.invokevirtual 123, 3) := by decide +kernel
theorem dX_plan_7 : decode prog_1_method_15_code 7 = .ok (.aload_n 0, 1) := by decide +kernel
theorem dX_plan_8 : decode prog_1_method_15_code 8 = .ok (.getfield 30, 3) := by decide +kernel
theorem dX_plan_11 : decode prog_1_method_15_code 11 = .ok (.getfield 126, 3) := by decide +kernel
theorem dX_plan_14 : decode prog_1_method_15_code 14 = .ok (.ireturn, 1) := by decide +kernel
theorem dX_wall_0 : decode prog_1_method_2_code 0 = .ok (.iload_n 1, 1) := by decide +kernel
theorem dX_wall_1 : decode prog_1_method_2_code 1 = .ok (.iconst 1, 1) := by decide +kernel
theorem dX_wall_2 : decode prog_1_method_2_code 2 = .ok (.sipush 1000, 3) := by decide +kernel
theorem dX_wall_5 : decode prog_1_method_2_code 5 = .ok (.invokestatic 34, 3) := by decide +kernel
theorem dX_wall_8 : decode prog_1_method_2_code 8 = .ok (.iload_n 2, 1) := by decide +kernel
theorem dX_wall_9 : decode prog_1_method_2_code 9 = .ok (.iconst 1, 1) := by decide +kernel
theorem dX_wall_10 : decode prog_1_method_2_code 10 = .ok (.sipush 1000, 3) := by decide +kernel
theorem dX_wall_13 : decode prog_1_method_2_code 13 = .ok (.invokestatic 34, 3) := by decide +kernel
theorem dX_wall_16 : decode prog_1_method_2_code 16 = .ok (.aload_n 0, 1) := by decide +kernel
theorem dX_wall_17 : decode prog_1_method_2_code 17 = .ok (.getfield 38, 3) := by decide +kernel
theorem dX_wall_20 : decode prog_1_method_2_code 20 = .ok (.bipush 12, 2) := by decide +kernel
theorem dX_wall_22 : decode prog_1_method_2_code 22 = .ok (.invokestatic 42, 3) := by decide +kernel
theorem dX_wall_25 : decode prog_1_method_2_code 25 = .ok (.aload_n 0, 1) := by decide +kernel
theorem dX_wall_26 : decode prog_1_method_2_code 26 = .ok (.getfield 11, 3) := by decide +kernel
theorem dX_wall_29 : decode prog_1_method_2_code 29 = .ok (.aload_n 0, 1) := by decide +kernel
theorem dX_wall_30 : decode prog_1_method_2_code 30 = .ok (.getfield 38, 3) := by decide +kernel
theorem dX_wall_33 : decode prog_1_method_2_code 33 = .ok (.aaload, 1) := by decide +kernel
theorem dX_wall_34 : decode prog_1_method_2_code 34 = .ok (.iload_n 1, 1) := by decide +kernel
theorem dX_wall_35 : decode prog_1_method_2_code 35 = .ok (.iload_n 2, 1) := by decide +kernel
theorem dX_wall_36 : decode prog_1_method_2_code 36 = .ok (.imul, 1) := by decide +kernel
theorem dX_wall_37 : decode prog_1_method_2_code 37 = .ok (.putfield 46, 3) := by decide +kernel
theorem dX_wall_40 : decode prog_1_method_2_code 40 = .ok (.aload_n 0, 1) := by decide +kernel
theorem dX_wall_41 : decode prog_1_method_2_code 41 = .ok (.dup, 1) := by decide +kernel
theorem dX_wall_42 : decode prog_1_method_2_code 42 = .ok (.getfield 38, 3) := by decide +kernel
theorem dX_wall_45 : decode prog_1_method_2_code 45 = .ok (.iconst 1, 1) := by decide +kernel
theorem dX_wall_46 : decode prog_1_method_2_code 46 = .ok (.iadd, 1) := by decide +kernel
theorem dX_wall_47 : decode prog_1_method_2_code 47 = .ok (.putfield 38, 3) := by decide +kernel
theorem dX_wall_50 : decode prog_1_method_2_code 50 = .ok (.aload_n 0, 1) := by decide +kernel
theorem dX_wall_51 : decode prog_1_method_2_code 51 = .ok (.getfield 38, 3) := by decide +kernel
theorem dX_wall_54 : decode prog_1_method_2_code 54 = .ok (.iconst 1, 1) := by decide +kernel
theorem dX_wall_55 : decode prog_1_method_2_code 55 = .ok (.isub, 1) := by decide +kernel
theorem dX_wall_56 : decode prog_1_method_2_code 56 = .ok (.ireturn, 1) := by decide +kernel
theorem dX_checkBounds_0 : decode prog_1_method_18_code 0 = .ok (.iload_n 0, 1) := by decide +kernel
theorem dX_checkBounds_1 : decode prog_1_method_18_code 1 = .ok (.iload_n 1, 1) := by decide +kernel
theorem dX_checkBounds_2 : decode prog_1_method_18_code 2 = .ok (.if_icmp .lt 8, 3) := by decide +kernel
theorem dX_checkBounds_5 : decode prog_1_method_18_code 5 = .ok (.iload_n 0, 1) := by decide +kernel
theorem dX_checkBounds_6 : decode prog_1_method_18_code 6 = .ok (.iload_n 2, 1) := by decide +kernel
theorem dX_checkBounds_7 : decode prog_1_method_18_code 7 = .ok (.if_icmp .le 13, 3) := by decide +kernel
theorem dX_checkBounds_10 : decode prog_1_method_18_code 10 = .ok (.new 135, 3) := by decide +kernel
theorem dX_checkBounds_13 : decode prog_1_method_18_code 13 = .ok (.dup, 1) := by decide +kernel
theorem dX_checkBounds_14 : decode prog_1_method_18_code 14 = .ok (.ldc 137, 2) := by decide +kernel
theorem dX_checkBounds_16 : decode prog_1_method_18_code 16 = .ok (.invokespecial 139, 3) := by decide +kernel
theorem dX_checkBounds_19 : decode prog_1_method_18_code 19 = .ok (.athrow, 1) := by decide +kernel
theorem dX_checkBounds_20 : decode prog_1_method_18_code 20 = .ok (.return_, 1) := by decide +kernel
theorem dX_checkSpace_0 : decode prog_1_method_20_code 0 = .ok (.iload_n 0, 1) := by decide +kernel
theorem dX_checkSpace_1 : decode prog_1_method_20_code 1 = .ok (.iload_n 1, 1) := by decide +kernel
theorem dX_checkSpace_2 : decode prog_1_method_20_code 2 = .ok (.if_icmp .lt 13, 3) := by decide +kernel
theorem dX_checkSpace_5 : decode prog_1_method_20_code 5 = .ok (.new 55, 3) := by decide +kernel
theorem dX_checkSpace_8 : decode prog_1_method_20_code 8 = .ok (.dup, 1) := by decide +kernel
theorem dX_checkSpace_9 : decode prog_1_method_20_code 9 = .ok (.ldc 142, 2) := by decide +kernel
theorem dX_checkSpace_11 : decode prog_1_method_20_code 11 = .ok (.invokespecial 59, 3) := by decide +kernel
theorem dX_checkSpace_14 : decode prog_1_method_20_code 14 = .ok (.athrow, 1) := by decide +kernel
theorem dX_checkSpace_15 : decode prog_1_method_20_code 15 = .ok (.return_, 1) := by decide +kernel
theorem dX_opening_0 : decode prog_1_method_3_code 0 = .ok (.iload_n 1, 1) := by decide +kernel
theorem dX_opening_1 : decode prog_1_method_3_code 1 = .ok (.aload_n 0, 1) := by decide +kernel
theorem dX_opening_2 : decode prog_1_method_3_code 2 = .ok (.getfield 38, 3) := by decide +kernel
theorem dX_opening_5 : decode prog_1_method_3_code 5 = .ok (.invokestatic 49, 3) := by decide +kernel
theorem dX_opening_8 : decode prog_1_method_3_code 8 = .ok (.iload_n 2, 1) := by decide +kernel
theorem dX_opening_9 : decode prog_1_method_3_code 9 = .ok (.iconst 1, 1) := by decide +kernel
theorem dX_opening_10 : decode prog_1_method_3_code 10 = .ok (.sipush 1000, 3) := by decide +kernel
theorem dX_opening_13 : decode prog_1_method_3_code 13 = .ok (.invokestatic 34, 3) := by decide +kernel
theorem dX_opening_16 : decode prog_1_method_3_code 16 = .ok (.iload_n 3, 1) := by decide +kernel
theorem dX_opening_17 : decode prog_1_method_3_code 17 = .ok (.iconst 1, 1) := by decide +kernel
theorem dX_opening_18 : decode prog_1_method_3_code 18 = .ok (.sipush 1000, 3) := by decide +kernel
theorem dX_opening_21 : decode prog_1_method_3_code 21 = .ok (.invokestatic 34, 3) := by decide +kernel
theorem dX_opening_24 : decode prog_1_method_3_code 24 = .ok (.aload_n 0, 1) := by decide +kernel
theorem dX_opening_25 : decode prog_1_method_3_code 25 = .ok (.getfield 11, 3) := by decide +kernel
theorem dX_opening_28 : decode prog_1_method_3_code 28 = .ok (.iload_n 1, 1) := by decide +kernel
theorem dX_opening_29 : decode prog_1_method_3_code 29 = .ok (.aaload, 1) := by decide +kernel
theorem dX_opening_30 : decode prog_1_method_3_code 30 = .ok (.astore 4, 2) := by decide +kernel
theorem dX_opening_32 : decode prog_1_method_3_code 32 = .ok (.aload 4, 2) := by decide +kernel
theorem dX_opening_34 : decode prog_1_method_3_code 34 = .ok (.getfield 52, 3) := by decide +kernel
theorem dX_opening_37 : decode prog_1_method_3_code 37 = .ok (.bipush 6, 2) := by decide +kernel
theorem dX_opening_39 : decode prog_1_method_3_code 39 = .ok (.invokestatic 42, 3) := by decide +kernel
theorem dX_opening_42 : decode prog_1_method_3_code 42 = .ok (.iload_n 2, 1) := by decide +kernel
theorem dX_opening_43 : decode prog_1_method_3_code 43 = .ok (.iload_n 3, 1) := by decide +kernel
theorem dX_opening_44 : decode prog_1_method_3_code 44 = .ok (.imul, 1) := by decide +kernel
theorem dX_opening_45 : decode prog_1_method_3_code 45 = .ok (.aload 4, 2) := by decide +kernel
theorem dX_opening_47 : decode prog_1_method_3_code 47 = .ok (.getfield 46, 3) := by decide +kernel
theorem dX_opening_50 : decode prog_1_method_3_code 50 = .ok (.if_icmp .le 13, 3) := by decide +kernel
theorem dX_opening_53 : decode prog_1_method_3_code 53 = .ok (.new 55, 3) := by decide +kernel
theorem dX_opening_56 : decode prog_1_method_3_code 56 = .ok (.dup, 1) := by decide +kernel
theorem dX_opening_57 : decode prog_1_method_3_code 57 = .ok (.ldc 57, 2) := by decide +kernel
theorem dX_opening_59 : decode prog_1_method_3_code 59 = .ok (.invokespecial 59, 3) := by decide +kernel
theorem dX_opening_62 : decode prog_1_method_3_code 62 = .ok (.athrow, 1) := by decide +kernel
theorem dX_opening_63 : decode prog_1_method_3_code 63 = .ok (.aload 4, 2) := by decide +kernel
theorem dX_opening_65 : decode prog_1_method_3_code 65 = .ok (.dup, 1) := by decide +kernel
theorem dX_opening_66 : decode prog_1_method_3_code 66 = .ok (.getfield 46, 3) := by decide +kernel
theorem dX_opening_69 : decode prog_1_method_3_code 69 = .ok (.iload_n 2, 1) := by decide +kernel
theorem dX_opening_70 : decode prog_1_method_3_code 70 = .ok (.iload_n 3, 1) := by decide +kernel
theorem dX_opening_71 : decode prog_1_method_3_code 71 = .ok (.imul, 1) := by decide +kernel
theorem dX_opening_72 : decode prog_1_method_3_code 72 = .ok (.isub, 1) := by decide +kernel
theorem dX_opening_73 : decode prog_1_method_3_code 73 = .ok (.putfield 46, 3) := by decide +kernel
theorem dX_opening_76 : decode prog_1_method_3_code 76 = .ok (.aload 4, 2) := by decide +kernel
theorem dX_opening_78 : decode prog_1_method_3_code 78 = .ok (.dup, 1) := by decide +kernel
theorem dX_opening_79 : decode prog_1_method_3_code 79 = .ok (.getfield 52, 3) := by decide +kernel
theorem dX_opening_82 : decode prog_1_method_3_code 82 = .ok (.iconst 1, 1) := by decide +kernel
theorem dX_opening_83 : decode prog_1_method_3_code 83 = .ok (.iadd, 1) := by decide +kernel
theorem dX_opening_84 : decode prog_1_method_3_code 84 = .ok (.putfield 52, 3) := by decide +kernel
theorem dX_opening_87 : decode prog_1_method_3_code 87 = .ok (.aload 4, 2) := by decide +kernel
theorem dX_opening_89 : decode prog_1_method_3_code 89 = .ok (.getfield 46, 3) := by decide +kernel
theorem dX_opening_92 : decode prog_1_method_3_code 92 = .ok (.ireturn, 1) := by decide +kernel
theorem dX_layer_0 : decode prog_1_method_4_code 0 = .ok (.iload_n 1, 1) := by decide +kernel
theorem dX_layer_1 : decode prog_1_method_4_code 1 = .ok (.aload_n 0, 1) := by decide +kernel
theorem dX_layer_2 : decode prog_1_method_4_code 2 = .ok (.getfield 38, 3) := by decide +kernel
theorem dX_layer_5 : decode prog_1_method_4_code 5 = .ok (.invokestatic 49, 3) := by decide +kernel
theorem dX_layer_8 : decode prog_1_method_4_code 8 = .ok (.iload_n 2, 1) := by decide +kernel
theorem dX_layer_9 : decode prog_1_method_4_code 9 = .ok (.bipush 10, 2) := by decide +kernel
theorem dX_layer_11 : decode prog_1_method_4_code 11 = .ok (.invokestatic 49, 3) := by decide +kernel
theorem dX_layer_14 : decode prog_1_method_4_code 14 = .ok (.iload_n 3, 1) := by decide +kernel
theorem dX_layer_15 : decode prog_1_method_4_code 15 = .ok (.iconst 1, 1) := by decide +kernel
theorem dX_layer_16 : decode prog_1_method_4_code 16 = .ok (.sipush 500, 3) := by decide +kernel
theorem dX_layer_19 : decode prog_1_method_4_code 19 = .ok (.invokestatic 34, 3) := by decide +kernel
theorem dX_layer_22 : decode prog_1_method_4_code 22 = .ok (.aload_n 0, 1) := by decide +kernel
theorem dX_layer_23 : decode prog_1_method_4_code 23 = .ok (.getfield 11, 3) := by decide +kernel
theorem dX_layer_26 : decode prog_1_method_4_code 26 = .ok (.iload_n 1, 1) := by decide +kernel
theorem dX_layer_27 : decode prog_1_method_4_code 27 = .ok (.aaload, 1) := by decide +kernel
theorem dX_layer_28 : decode prog_1_method_4_code 28 = .ok (.astore 4, 2) := by decide +kernel
theorem dX_layer_30 : decode prog_1_method_4_code 30 = .ok (.aload 4, 2) := by decide +kernel
theorem dX_layer_32 : decode prog_1_method_4_code 32 = .ok (.getfield 62, 3) := by decide +kernel
theorem dX_layer_35 : decode prog_1_method_4_code 35 = .ok (.bipush 8, 2) := by decide +kernel
theorem dX_layer_37 : decode prog_1_method_4_code 37 = .ok (.invokestatic 42, 3) := by decide +kernel
theorem dX_layer_40 : decode prog_1_method_4_code 40 = .ok (.aload 4, 2) := by decide +kernel
theorem dX_layer_42 : decode prog_1_method_4_code 42 = .ok (.getfield 65, 3) := by decide +kernel
theorem dX_layer_45 : decode prog_1_method_4_code 45 = .ok (.iload_n 2, 1) := by decide +kernel
theorem dX_layer_46 : decode prog_1_method_4_code 46 = .ok (.dup2, 1) := by decide +kernel
theorem dX_layer_47 : decode prog_1_method_4_code 47 = .ok (.iaload, 1) := by decide +kernel
theorem dX_layer_48 : decode prog_1_method_4_code 48 = .ok (.iload_n 3, 1) := by decide +kernel
theorem dX_layer_49 : decode prog_1_method_4_code 49 = .ok (.iadd, 1) := by decide +kernel
theorem dX_layer_50 : decode prog_1_method_4_code 50 = .ok (.iastore, 1) := by decide +kernel
theorem dX_layer_51 : decode prog_1_method_4_code 51 = .ok (.aload 4, 2) := by decide +kernel
theorem dX_layer_53 : decode prog_1_method_4_code 53 = .ok (.dup, 1) := by decide +kernel
theorem dX_layer_54 : decode prog_1_method_4_code 54 = .ok (.getfield 62, 3) := by decide +kernel
theorem dX_layer_57 : decode prog_1_method_4_code 57 = .ok (.iconst 1, 1) := by decide +kernel
theorem dX_layer_58 : decode prog_1_method_4_code 58 = .ok (.iadd, 1) := by decide +kernel
theorem dX_layer_59 : decode prog_1_method_4_code 59 = .ok (.putfield 62, 3) := by decide +kernel
theorem dX_layer_62 : decode prog_1_method_4_code 62 = .ok (.aload 4, 2) := by decide +kernel
theorem dX_layer_64 : decode prog_1_method_4_code 64 = .ok (.getfield 62, 3) := by decide +kernel
theorem dX_layer_67 : decode prog_1_method_4_code 67 = .ok (.ireturn, 1) := by decide +kernel
theorem dX_waste_0 : decode prog_1_method_5_code 0 = .ok (.iload_n 1, 1) := by decide +kernel
theorem dX_waste_1 : decode prog_1_method_5_code 1 = .ok (.bipush 10, 2) := by decide +kernel
theorem dX_waste_3 : decode prog_1_method_5_code 3 = .ok (.invokestatic 49, 3) := by decide +kernel
theorem dX_waste_6 : decode prog_1_method_5_code 6 = .ok (.iload_n 2, 1) := by decide +kernel
theorem dX_waste_7 : decode prog_1_method_5_code 7 = .ok (.iconst 0, 1) := by decide +kernel
theorem dX_waste_8 : decode prog_1_method_5_code 8 = .ok (.bipush 100, 2) := by decide +kernel
theorem dX_waste_10 : decode prog_1_method_5_code 10 = .ok (.invokestatic 34, 3) := by decide +kernel
theorem dX_waste_13 : decode prog_1_method_5_code 13 = .ok (.aload_n 0, 1) := by decide +kernel
theorem dX_waste_14 : decode prog_1_method_5_code 14 = .ok (.getfield 16, 3) := by decide +kernel
theorem dX_waste_17 : decode prog_1_method_5_code 17 = .ok (.iload_n 1, 1) := by decide +kernel
theorem dX_waste_18 : decode prog_1_method_5_code 18 = .ok (.iaload, 1) := by decide +kernel
theorem dX_waste_19 : decode prog_1_method_5_code 19 = .ok (.istore_n 3, 1) := by decide +kernel
theorem dX_waste_20 : decode prog_1_method_5_code 20 = .ok (.aload_n 0, 1) := by decide +kernel
theorem dX_waste_21 : decode prog_1_method_5_code 21 = .ok (.getfield 16, 3) := by decide +kernel
theorem dX_waste_24 : decode prog_1_method_5_code 24 = .ok (.iload_n 1, 1) := by decide +kernel
theorem dX_waste_25 : decode prog_1_method_5_code 25 = .ok (.iload_n 2, 1) := by decide +kernel
theorem dX_waste_26 : decode prog_1_method_5_code 26 = .ok (.iastore, 1) := by decide +kernel
theorem dX_waste_27 : decode prog_1_method_5_code 27 = .ok (.iload_n 3, 1) := by decide +kernel
theorem dX_waste_28 : decode prog_1_method_5_code 28 = .ok (.ireturn, 1) := by decide +kernel
theorem dX_told_0 : decode prog_1_method_6_code 0 = .ok (.iload_n 1, 1) := by decide +kernel
theorem dX_told_1 : decode prog_1_method_6_code 1 = .ok (.aload_n 0, 1) := by decide +kernel
theorem dX_told_2 : decode prog_1_method_6_code 2 = .ok (.getfield 38, 3) := by decide +kernel
theorem dX_told_5 : decode prog_1_method_6_code 5 = .ok (.invokestatic 49, 3) := by decide +kernel
theorem dX_told_8 : decode prog_1_method_6_code 8 = .ok (.iload_n 2, 1) := by decide +kernel
theorem dX_told_9 : decode prog_1_method_6_code 9 = .ok (.iconst 0, 1) := by decide +kernel
theorem dX_told_10 : decode prog_1_method_6_code 10 = .ok (.iconst 2, 1) := by decide +kernel
theorem dX_told_11 : decode prog_1_method_6_code 11 = .ok (.invokestatic 34, 3) := by decide +kernel
theorem dX_told_14 : decode prog_1_method_6_code 14 = .ok (.aload_n 0, 1) := by decide +kernel
theorem dX_told_15 : decode prog_1_method_6_code 15 = .ok (.getfield 11, 3) := by decide +kernel
theorem dX_told_18 : decode prog_1_method_6_code 18 = .ok (.iload_n 1, 1) := by decide +kernel
theorem dX_told_19 : decode prog_1_method_6_code 19 = .ok (.aaload, 1) := by decide +kernel
theorem dX_told_20 : decode prog_1_method_6_code 20 = .ok (.astore_n 3, 1) := by decide +kernel
theorem dX_told_21 : decode prog_1_method_6_code 21 = .ok (.iload_n 2, 1) := by decide +kernel
theorem dX_told_22 : decode prog_1_method_6_code 22 = .ok (.ifCond .ne 8, 3) := by decide +kernel
theorem dX_told_25 : decode prog_1_method_6_code 25 = .ok (.aload_n 3, 1) := by decide +kernel
theorem dX_told_26 : decode prog_1_method_6_code 26 = .ok (.getfield 46, 3) := by decide +kernel
theorem dX_told_29 : decode prog_1_method_6_code 29 = .ok (.ireturn, 1) := by decide +kernel
theorem dX_told_30 : decode prog_1_method_6_code 30 = .ok (.iload_n 2, 1) := by decide +kernel
theorem dX_told_31 : decode prog_1_method_6_code 31 = .ok (.iconst 1, 1) := by decide +kernel
theorem dX_told_32 : decode prog_1_method_6_code 32 = .ok (.if_icmp .ne 10, 3) := by decide +kernel
theorem dX_told_35 : decode prog_1_method_6_code 35 = .ok (.aload_n 3, 1) := by decide +kernel
theorem dX_told_36 : decode prog_1_method_6_code 36 = .ok (.invokevirtual 68, 3) := by decide +kernel
theorem dX_told_39 : decode prog_1_method_6_code 39 = .ok (.goto 7, 3) := by decide +kernel
theorem dX_told_42 : decode prog_1_method_6_code 42 = .ok (.aload_n 3, 1) := by decide +kernel
theorem dX_told_43 : decode prog_1_method_6_code 43 = .ok (.getfield 52, 3) := by decide +kernel
theorem dX_told_46 : decode prog_1_method_6_code 46 = .ok (.ireturn, 1) := by decide +kernel
theorem dX_pack_0 : decode prog_1_method_8_code 0 = .ok (.iload_n 1, 1) := by decide +kernel
theorem dX_pack_1 : decode prog_1_method_8_code 1 = .ok (.bipush 10, 2) := by decide +kernel
theorem dX_pack_3 : decode prog_1_method_8_code 3 = .ok (.invokestatic 49, 3) := by decide +kernel
theorem dX_pack_6 : decode prog_1_method_8_code 6 = .ok (.iload_n 2, 1) := by decide +kernel
theorem dX_pack_7 : decode prog_1_method_8_code 7 = .ok (.iconst 1, 1) := by decide +kernel
theorem dX_pack_8 : decode prog_1_method_8_code 8 = .ok (.ldc 76, 2) := by decide +kernel
theorem dX_pack_10 : decode prog_1_method_8_code 10 = .ok (.invokestatic 34, 3) := by decide +kernel
theorem dX_pack_13 : decode prog_1_method_8_code 13 = .ok (.iload_n 3, 1) := by decide +kernel
theorem dX_pack_14 : decode prog_1_method_8_code 14 = .ok (.iconst 1, 1) := by decide +kernel
theorem dX_pack_15 : decode prog_1_method_8_code 15 = .ok (.ldc 77, 2) := by decide +kernel
theorem dX_pack_17 : decode prog_1_method_8_code 17 = .ok (.invokestatic 34, 3) := by decide +kernel
theorem dX_pack_20 : decode prog_1_method_8_code 20 = .ok (.aload_n 0, 1) := by decide +kernel
theorem dX_pack_21 : decode prog_1_method_8_code 21 = .ok (.getfield 22, 3) := by decide +kernel
theorem dX_pack_24 : decode prog_1_method_8_code 24 = .ok (.iload_n 1, 1) := by decide +kernel
theorem dX_pack_25 : decode prog_1_method_8_code 25 = .ok (.aaload, 1) := by decide +kernel
theorem dX_pack_26 : decode prog_1_method_8_code 26 = .ok (.getfield 78, 3) := by decide +kernel
theorem dX_pack_29 : decode prog_1_method_8_code 29 = .ok (.iconst 4, 1) := by decide +kernel
theorem dX_pack_30 : decode prog_1_method_8_code 30 = .ok (.invokestatic 42, 3) := by decide +kernel
theorem dX_pack_33 : decode prog_1_method_8_code 33 = .ok (.aload_n 0, 1) := by decide +kernel
theorem dX_pack_34 : decode prog_1_method_8_code 34 = .ok (.getfield 22, 3) := by decide +kernel
theorem dX_pack_37 : decode prog_1_method_8_code 37 = .ok (.iload_n 1, 1) := by decide +kernel
theorem dX_pack_38 : decode prog_1_method_8_code 38 = .ok (.aaload, 1) := by decide +kernel
theorem dX_pack_39 : decode prog_1_method_8_code 39 = .ok (.iload_n 2, 1) := by decide +kernel
theorem dX_pack_40 : decode prog_1_method_8_code 40 = .ok (.iload_n 3, 1) := by decide +kernel
theorem dX_pack_41 : decode prog_1_method_8_code 41 = .ok (.invokevirtual 81, 3) := by decide +kernel
theorem dX_pack_44 : decode prog_1_method_8_code 44 = .ok (.ireturn, 1) := by decide +kernel
theorem dX_bought_0 : decode prog_1_method_9_code 0 = .ok (.iload_n 1, 1) := by decide +kernel
theorem dX_bought_1 : decode prog_1_method_9_code 1 = .ok (.bipush 10, 2) := by decide +kernel
theorem dX_bought_3 : decode prog_1_method_9_code 3 = .ok (.invokestatic 49, 3) := by decide +kernel
theorem dX_bought_6 : decode prog_1_method_9_code 6 = .ok (.iload_n 2, 1) := by decide +kernel
theorem dX_bought_7 : decode prog_1_method_9_code 7 = .ok (.aload_n 0, 1) := by decide +kernel
theorem dX_bought_8 : decode prog_1_method_9_code 8 = .ok (.getfield 22, 3) := by decide +kernel
theorem dX_bought_11 : decode prog_1_method_9_code 11 = .ok (.iload_n 1, 1) := by decide +kernel
theorem dX_bought_12 : decode prog_1_method_9_code 12 = .ok (.aaload, 1) := by decide +kernel
theorem dX_bought_13 : decode prog_1_method_9_code 13 = .ok (.getfield 78, 3) := by decide +kernel
theorem dX_bought_16 : decode prog_1_method_9_code 16 = .ok (.invokestatic 49, 3) := by decide +kernel
theorem dX_bought_19 : decode prog_1_method_9_code 19 = .ok (.aload_n 0, 1) := by decide +kernel
theorem dX_bought_20 : decode prog_1_method_9_code 20 = .ok (.getfield 22, 3) := by decide +kernel
theorem dX_bought_23 : decode prog_1_method_9_code 23 = .ok (.iload_n 1, 1) := by decide +kernel
theorem dX_bought_24 : decode prog_1_method_9_code 24 = .ok (.aaload, 1) := by decide +kernel
theorem dX_bought_25 : decode prog_1_method_9_code 25 = .ok (.aload_n 0, 1) := by decide +kernel
theorem dX_bought_26 : decode prog_1_method_9_code 26 = .ok (.iload_n 1, 1) := by decide +kernel
theorem dX_bought_27 : decode prog_1_method_9_code 27 = .ok (.invokevirtual 85, 3) := by decide +kernel
theorem dX_bought_30 : decode prog_1_method_9_code 30 = .ok (.iload_n 2, 1) := by decide +kernel
theorem dX_bought_31 : decode prog_1_method_9_code 31 = .ok (.invokevirtual 89, 3) := by decide +kernel
theorem dX_bought_34 : decode prog_1_method_9_code 34 = .ok (.ireturn, 1) := by decide +kernel
theorem dX_bars_0 : decode prog_1_method_12_code 0 = .ok (.iload_n 1, 1) := by decide +kernel
theorem dX_bars_1 : decode prog_1_method_12_code 1 = .ok (.iconst 1, 1) := by decide +kernel
theorem dX_bars_2 : decode prog_1_method_12_code 2 = .ok (.sipush 10000, 3) := by decide +kernel
theorem dX_bars_5 : decode prog_1_method_12_code 5 = .ok (.invokestatic 34, 3) := by decide +kernel
theorem dX_bars_8 : decode prog_1_method_12_code 8 = .ok (.iload_n 2, 1) := by decide +kernel
theorem dX_bars_9 : decode prog_1_method_12_code 9 = .ok (.iconst 0, 1) := by decide +kernel
theorem dX_bars_10 : decode prog_1_method_12_code 10 = .ok (.bipush 100, 2) := by decide +kernel
theorem dX_bars_12 : decode prog_1_method_12_code 12 = .ok (.invokestatic 34, 3) := by decide +kernel
theorem dX_bars_15 : decode prog_1_method_12_code 15 = .ok (.aload_n 0, 1) := by decide +kernel
theorem dX_bars_16 : decode prog_1_method_12_code 16 = .ok (.getfield 30, 3) := by decide +kernel
theorem dX_bars_19 : decode prog_1_method_12_code 19 = .ok (.invokevirtual 102, 3) := by decide +kernel
theorem dX_bars_22 : decode prog_1_method_12_code 22 = .ok (.iload_n 1, 1) := by decide +kernel
theorem dX_bars_23 : decode prog_1_method_12_code 23 = .ok (.if_icmp .le 13, 3) := by decide +kernel
theorem dX_bars_26 : decode prog_1_method_12_code 26 = .ok (.new 55, 3) := by decide +kernel
theorem dX_bars_29 : decode prog_1_method_12_code 29 = .ok (.dup, 1) := by decide +kernel
theorem dX_bars_30 : decode prog_1_method_12_code 30 = .ok (.ldc 105, 2) := by decide +kernel
theorem dX_bars_32 : decode prog_1_method_12_code 32 = .ok (.invokespecial 59, 3) := by decide +kernel
theorem dX_bars_35 : decode prog_1_method_12_code 35 = .ok (.athrow, 1) := by decide +kernel
theorem dX_bars_36 : decode prog_1_method_12_code 36 = .ok (.aload_n 0, 1) := by decide +kernel
theorem dX_bars_37 : decode prog_1_method_12_code 37 = .ok (.getfield 30, 3) := by decide +kernel
theorem dX_bars_40 : decode prog_1_method_12_code 40 = .ok (.iload_n 1, 1) := by decide +kernel
theorem dX_bars_41 : decode prog_1_method_12_code 41 = .ok (.iload_n 2, 1) := by decide +kernel
theorem dX_bars_42 : decode prog_1_method_12_code 42 = .ok (.invokevirtual 107, 3) := by decide +kernel
theorem dX_bars_45 : decode prog_1_method_12_code 45 = .ok (.return_, 1) := by decide +kernel
theorem dX_piece_0 : decode prog_1_method_13_code 0 = .ok (.iload_n 1, 1) := by decide +kernel
theorem dX_piece_1 : decode prog_1_method_13_code 1 = .ok (.iconst 1, 1) := by decide +kernel
theorem dX_piece_2 : decode prog_1_method_13_code 2 = .ok (.aload_n 0, 1) := by decide +kernel
theorem dX_piece_3 : decode prog_1_method_13_code 3 = .ok (.getfield 30, 3) := by decide +kernel
theorem dX_piece_6 : decode prog_1_method_13_code 6 = .ok (.getfield 110, 3) := by decide +kernel
theorem dX_piece_9 : decode prog_1_method_13_code 9 = .ok (.invokestatic 34, 3) := by decide +kernel
theorem dX_piece_12 : decode prog_1_method_13_code 12 = .ok (.aload_n 0, 1) := by decide +kernel
theorem dX_piece_13 : decode prog_1_method_13_code 13 = .ok (.getfield 30, 3) := by decide +kernel
theorem dX_piece_16 : decode prog_1_method_13_code 16 = .ok (.getfield 113, 3) := by decide +kernel
theorem dX_piece_19 : decode prog_1_method_13_code 19 = .ok (.bipush 10, 2) := by decide +kernel
theorem dX_piece_21 : decode prog_1_method_13_code 21 = .ok (.invokestatic 42, 3) := by decide +kernel
theorem dX_piece_24 : decode prog_1_method_13_code 24 = .ok (.aload_n 0, 1) := by decide +kernel
theorem dX_piece_25 : decode prog_1_method_13_code 25 = .ok (.getfield 30, 3) := by decide +kernel
theorem dX_piece_28 : decode prog_1_method_13_code 28 = .ok (.iload_n 1, 1) := by decide +kernel
theorem dX_piece_29 : decode prog_1_method_13_code 29 = .ok (.invokevirtual 116, 3) := by decide +kernel
theorem dX_piece_32 : decode prog_1_method_13_code 32 = .ok (.ireturn, 1) := by decide +kernel
theorem dX_change_0 : decode prog_1_method_14_code 0 = .ok (.iload_n 1, 1) := by decide +kernel
theorem dX_change_1 : decode prog_1_method_14_code 1 = .ok (.aload_n 0, 1) := by decide +kernel
theorem dX_change_2 : decode prog_1_method_14_code 2 = .ok (.getfield 30, 3) := by decide +kernel
theorem dX_change_5 : decode prog_1_method_14_code 5 = .ok (.getfield 113, 3) := by decide +kernel
theorem dX_change_8 : decode prog_1_method_14_code 8 = .ok (.invokestatic 49, 3) := by decide +kernel
theorem dX_change_11 : decode prog_1_method_14_code 11 = .ok (.iload_n 2, 1) := by decide +kernel
theorem dX_change_12 : decode prog_1_method_14_code 12 = .ok (.iconst 1, 1) := by decide +kernel
theorem dX_change_13 : decode prog_1_method_14_code 13 = .ok (.aload_n 0, 1) := by decide +kernel
theorem dX_change_14 : decode prog_1_method_14_code 14 = .ok (.getfield 30, 3) := by decide +kernel
theorem dX_change_17 : decode prog_1_method_14_code 17 = .ok (.getfield 110, 3) := by decide +kernel
theorem dX_change_20 : decode prog_1_method_14_code 20 = .ok (.invokestatic 34, 3) := by decide +kernel
theorem dX_change_23 : decode prog_1_method_14_code 23 = .ok (.aload_n 0, 1) := by decide +kernel
theorem dX_change_24 : decode prog_1_method_14_code 24 = .ok (.getfield 30, 3) := by decide +kernel
theorem dX_change_27 : decode prog_1_method_14_code 27 = .ok (.iload_n 1, 1) := by decide +kernel
end
section
-- DECODE ROWS
theorem dX_change_28 : decode prog_1_method_14_code 28 = .ok (.iload_n 2, 1) := by decide +kernel
theorem dX_change_29 : decode prog_1_method_14_code 29 = .ok (.invokevirtual 120, 3) := by decide +kernel
theorem dX_change_32 : decode prog_1_method_14_code 32 = .ok (.ireturn, 1) := by decide +kernel
theorem dX_bar_0 : decode prog_1_method_16_code 0 = .ok (.iload_n 1, 1) := by decide +kernel
theorem dX_bar_1 : decode prog_1_method_16_code 1 = .ok (.aload_n 0, 1) := by decide +kernel
theorem dX_bar_2 : decode prog_1_method_16_code 2 = .ok (.getfield 30, 3) := by decide +kernel
theorem dX_bar_5 : decode prog_1_method_16_code 5 = .ok (.getfield 113, 3) := by decide +kernel
theorem dX_bar_8 : decode prog_1_method_16_code 8 = .ok (.invokestatic 49, 3) := by decide +kernel
theorem dX_bar_11 : decode prog_1_method_16_code 11 = .ok (.aload_n 0, 1) := by decide +kernel
theorem dX_bar_12 : decode prog_1_method_16_code 12 = .ok (.getfield 30, 3) := by decide +kernel
theorem dX_bar_15 : decode prog_1_method_16_code 15 = .ok (.invokevirtual 123, 3) := by decide +kernel
theorem dX_bar_18 : decode prog_1_method_16_code 18 = .ok (.aload_n 0, 1) := by decide +kernel
theorem dX_bar_19 : decode prog_1_method_16_code 19 = .ok (.getfield 30, 3) := by decide +kernel
theorem dX_bar_22 : decode prog_1_method_16_code 22 = .ok (.getfield 129, 3) := by decide +kernel
theorem dX_bar_25 : decode prog_1_method_16_code 25 = .ok (.iload_n 1, 1) := by decide +kernel
theorem dX_bar_26 : decode prog_1_method_16_code 26 = .ok (.iaload, 1) := by decide +kernel
theorem dX_bar_27 : decode prog_1_method_16_code 27 = .ok (.ireturn, 1) := by decide +kernel
theorem dX_rest_0 : decode prog_1_method_17_code 0 = .ok (.aload_n 0, 1) := by decide +kernel
theorem dX_rest_1 : decode prog_1_method_17_code 1 = .ok (.getfield 30, 3) := by decide +kernel
theorem dX_rest_4 : decode prog_1_method_17_code 4 = .ok (.invokevirtual 123, 3) := by decide +kernel
theorem dX_rest_7 : decode prog_1_method_17_code 7 = .ok (.iload_n 1, 1) := by decide +kernel
theorem dX_rest_8 : decode prog_1_method_17_code 8 = .ok (.aload_n 0, 1) := by decide +kernel
theorem dX_rest_9 : decode prog_1_method_17_code 9 = .ok (.getfield 30, 3) := by decide +kernel
theorem dX_rest_12 : decode prog_1_method_17_code 12 = .ok (.getfield 126, 3) := by decide +kernel
theorem dX_rest_15 : decode prog_1_method_17_code 15 = .ok (.invokestatic 49, 3) := by decide +kernel
theorem dX_rest_18 : decode prog_1_method_17_code 18 = .ok (.aload_n 0, 1) := by decide +kernel
theorem dX_rest_19 : decode prog_1_method_17_code 19 = .ok (.getfield 30, 3) := by decide +kernel
theorem dX_rest_22 : decode prog_1_method_17_code 22 = .ok (.getfield 132, 3) := by decide +kernel
theorem dX_rest_25 : decode prog_1_method_17_code 25 = .ok (.iload_n 1, 1) := by decide +kernel
theorem dX_rest_26 : decode prog_1_method_17_code 26 = .ok (.iaload, 1) := by decide +kernel
theorem dX_rest_27 : decode prog_1_method_17_code 27 = .ok (.ireturn, 1) := by decide +kernel
end
section
-- THE WORDS that a state's tables keep
def isAC : Cond → Bool
  | .arrayClass _ => true
  | _ => false
def isAO : Cond → Bool
  | .arrayOver (.object _) => true
  | _ => false
def isSR : Cond → Bool
  | .stringRef _ _ _ => true
  | _ => false
def okw (w : Cond) : Bool := isAC w || (isAO w || (isSR w || (w.onTables && (w.keepsH || w.faceAtom))))
theorem isAC_sp {w : Cond} (h : isAC w = true) : ∃ ty, w = .arrayClass ty := by
  cases w <;> first | exact ⟨_, rfl⟩ | (exact absurd h (by simp [isAC]))
theorem isAO_sp {w : Cond} (h : isAO w = true) : ∃ C, w = .arrayOver (.object C) := by
  cases w with
  | arrayOver ty => cases ty <;> first | exact ⟨_, rfl⟩ | (exact absurd h (by simp [isAO]))
  | _ => exact absurd h (by simp [isAO])
theorem isSR_sp {w : Cond} (h : isSR w = true) : ∃ a b c, w = .stringRef a b c := by
  cases w <;> first | exact ⟨_, _, _, rfl⟩ | (exact absurd h (by simp [isSR]))
theorem okw_warm {w : Cond} (ho : okw w = true) {A A' : Array Value} {s U : State} (hW : s.WarmedH U.vm) (h : w.before A s = true) : w.before A' U = true := by
  unfold okw at ho
  rcases Bool.or_eq_true _ _ |>.mp ho with h1 | h1
  · obtain ⟨ty, rfl⟩ := isAC_sp h1
    exact word_at hW (Or.inr ⟨ty, rfl⟩) h
  rcases Bool.or_eq_true _ _ |>.mp h1 with h1 | h1
  · obtain ⟨C, rfl⟩ := isAO_sp h1
    exact va_AO.use (va_AO.moved hW.alike (va_AO.of h))
  rcases Bool.or_eq_true _ _ |>.mp h1 with h1 | h1
  · obtain ⟨a, b, c, rfl⟩ := isSR_sp h1
    have h2 := Cond.stringRef_warmed hW h
    first
      | exact h2
      | (simp only [Cond.before, Cond.holds, Cond.value, State.names, State.poolOf?, State.resolvedAt?] at h2 ⊢; exact h2)
  · obtain ⟨h2, h3⟩ := Bool.and_eq_true _ _ |>.mp h1
    rcases Bool.or_eq_true _ _ |>.mp h3 with h4 | h4
    · have h5 := Cond.onTables_warmH (T := U) (args' := A') hW h2 h4 h
      exact h5
    · exact va_tabs h2 (rfl : (s.setVm U.vm).vm = U.vm) (Cond.faceAtom_setVm hW.alike w h4 h)
def TW : List Cond := lw_tbl.filter okw
theorem tw_t {w : Cond} (h : w ∈ tables_1) (ho : okw w = true) : w ∈ TW := List.mem_filter.mpr ⟨List.mem_append_right _ h, ho⟩
theorem tw_s {w : Cond} (h : w ∈ k2_sels lw_privs) (ho : okw w = true) : w ∈ TW := List.mem_filter.mpr ⟨List.mem_append_left _ h, ho⟩
/-- the tables' words hold at a state, whatever the arguments -/
def TB (U : State) : Prop := ∀ w ∈ TW, ∀ a : Array Value, w.before a U = true
theorem TB.of {args : Array Value} {s : State} (h : ∀ w ∈ lw_tbl, w.before args s = true) : TB s := fun w hw a => okw_warm (List.mem_filter.mp hw).2 (State.WarmedH.refl s) (h w (List.mem_filter.mp hw).1)
theorem TB.warm {s U : State} (hW : s.WarmedH U.vm) (h : TB s) : TB U := fun w hw a => okw_warm (List.mem_filter.mp hw).2 hW (h w hw a)
theorem TB.calling {U : State} {g : JFrame} {mk : MethodId} {a : Array Value} (h : TB U) : TB (U.calling g mk a) := h.warm (show U.WarmedH (U.calling g mk a).vm from State.WarmedH.refl U)
end
section
-- WORDS of the tables, each by its place
theorem mt_0 : (.initialized "LayerQuantitiesLaw" : Cond) ∈ TW := tw_t (List.mem_of_getElem? (i := 0) (by decide +kernel)) rfl
theorem mt_1 : (.initialized "LayerQuantities" : Cond) ∈ TW := tw_t (List.mem_of_getElem? (i := 1) (by decide +kernel)) rfl
theorem mt_2 : (.initialized "LayerQuantities$Wall" : Cond) ∈ TW := tw_t (List.mem_of_getElem? (i := 2) (by decide +kernel)) rfl
theorem mt_3 : (.initialized "LayerQuantities$Shelf" : Cond) ∈ TW := tw_t (List.mem_of_getElem? (i := 3) (by decide +kernel)) rfl
theorem mt_4 : (.initialized "LayerQuantities$Saw" : Cond) ∈ TW := tw_t (List.mem_of_getElem? (i := 4) (by decide +kernel)) rfl
theorem mt_5 : (.initialized "LayerQuantitiesModel" : Cond) ∈ TW := tw_t (List.mem_of_getElem? (i := 5) (by decide +kernel)) rfl
theorem mt_6 : (.initialized "java/lang/Throwable" : Cond) ∈ TW := tw_t (List.mem_of_getElem? (i := 6) (by decide +kernel)) rfl
theorem mt_7 : (.initialized "java/lang/Exception" : Cond) ∈ TW := tw_t (List.mem_of_getElem? (i := 7) (by decide +kernel)) rfl
theorem mt_8 : (.initialized "java/lang/RuntimeException" : Cond) ∈ TW := tw_t (List.mem_of_getElem? (i := 8) (by decide +kernel)) rfl
theorem mt_9 : (.initialized "java/lang/IllegalArgumentException" : Cond) ∈ TW := tw_t (List.mem_of_getElem? (i := 9) (by decide +kernel)) rfl
theorem mt_10 : (.initialized "java/lang/IllegalStateException" : Cond) ∈ TW := tw_t (List.mem_of_getElem? (i := 10) (by decide +kernel)) rfl
theorem mt_11 : (.initialized "java/lang/Math" : Cond) ∈ TW := tw_t (List.mem_of_getElem? (i := 11) (by decide +kernel)) rfl
theorem mt_12 : (.initialized "java/util/Arrays" : Cond) ∈ TW := tw_t (List.mem_of_getElem? (i := 12) (by decide +kernel)) rfl
theorem mt_13 : (.initialized "java/lang/System" : Cond) ∈ TW := tw_t (List.mem_of_getElem? (i := 13) (by decide +kernel)) rfl
theorem mt_14 : (.classLink "LayerQuantitiesLaw" 8 "LayerQuantities" : Cond) ∈ TW := tw_t (List.mem_of_getElem? (i := 14) (by decide +kernel)) rfl
theorem mt_15 : (.instantiable "LayerQuantities" 5 : Cond) ∈ TW := tw_t (List.mem_of_getElem? (i := 15) (by decide +kernel)) rfl
theorem mt_16 : (.methodLink "LayerQuantitiesLaw" 60 ⟨"LayerQuantities", "<init>", "()V"⟩ : Cond) ∈ TW := tw_t (List.mem_of_getElem? (i := 16) (by decide +kernel)) rfl
theorem mt_17 : (.instanceMethod ⟨"LayerQuantities", "<init>", "()V"⟩ : Cond) ∈ TW := tw_t (List.mem_of_getElem? (i := 17) (by decide +kernel)) rfl
theorem mt_18 : (.code ⟨"LayerQuantities", "<init>", "()V"⟩ prog_1_method_1_code 2 none : Cond) ∈ TW := tw_t (List.mem_of_getElem? (i := 18) (by decide +kernel)) rfl
theorem mt_19 : (.methodLink "LayerQuantities" 3 ⟨"java/lang/Object", "<init>", "()V"⟩ : Cond) ∈ TW := tw_t (List.mem_of_getElem? (i := 19) (by decide +kernel)) rfl
theorem mt_20 : (.instanceMethod ⟨"java/lang/Object", "<init>", "()V"⟩ : Cond) ∈ TW := tw_t (List.mem_of_getElem? (i := 20) (by decide +kernel)) rfl
theorem mt_21 : (.code ⟨"java/lang/Object", "<init>", "()V"⟩ object_method_1_code 1 none : Cond) ∈ TW := tw_t (List.mem_of_getElem? (i := 21) (by decide +kernel)) rfl
theorem mt_22 : (.classLink "LayerQuantities" 9 "LayerQuantities$Wall" : Cond) ∈ TW := tw_t (List.mem_of_getElem? (i := 22) (by decide +kernel)) rfl
theorem mt_23 : (.arrayOver (.object "LayerQuantities$Wall") : Cond) ∈ TW := tw_t (List.mem_of_getElem? (i := 23) (by decide +kernel)) rfl
theorem mt_24 : (.instantiable "LayerQuantities$Wall" 4 : Cond) ∈ TW := tw_t (List.mem_of_getElem? (i := 24) (by decide +kernel)) rfl
theorem mt_25 : (.methodLinkNest "LayerQuantities" 15 ⟨"LayerQuantities$Wall", "<init>", "()V"⟩ "LayerQuantities" : Cond) ∈ TW := tw_t (List.mem_of_getElem? (i := 25) (by decide +kernel)) rfl
theorem mt_26 : (.instanceMethod ⟨"LayerQuantities$Wall", "<init>", "()V"⟩ : Cond) ∈ TW := tw_t (List.mem_of_getElem? (i := 26) (by decide +kernel)) rfl
theorem mt_27 : (.code ⟨"LayerQuantities$Wall", "<init>", "()V"⟩ prog_4_method_1_code 1 none : Cond) ∈ TW := tw_t (List.mem_of_getElem? (i := 27) (by decide +kernel)) rfl
theorem mt_28 : (.methodLink "LayerQuantities$Wall" 3 ⟨"java/lang/Object", "<init>", "()V"⟩ : Cond) ∈ TW := tw_t (List.mem_of_getElem? (i := 28) (by decide +kernel)) rfl
theorem mt_29 : (.fieldLinkNest "LayerQuantities" 46 "LayerQuantities$Wall" "area" "I" "LayerQuantities" : Cond) ∈ TW := tw_t (List.mem_of_getElem? (i := 29) (by decide +kernel)) rfl
theorem mt_30 : (.fieldLinkNest "LayerQuantities" 52 "LayerQuantities$Wall" "openingCount" "I" "LayerQuantities" : Cond) ∈ TW := tw_t (List.mem_of_getElem? (i := 30) (by decide +kernel)) rfl
theorem mt_31 : (.fieldLinkNest "LayerQuantities" 62 "LayerQuantities$Wall" "layerCount" "I" "LayerQuantities" : Cond) ∈ TW := tw_t (List.mem_of_getElem? (i := 31) (by decide +kernel)) rfl
theorem mt_32 : (.fieldLink "LayerQuantities$Wall" 9 "LayerQuantities$Wall" "thicknessOf" "[I" : Cond) ∈ TW := tw_t (List.mem_of_getElem? (i := 32) (by decide +kernel)) rfl
theorem mt_33 : (.fieldLinkNest "LayerQuantities" 65 "LayerQuantities$Wall" "thicknessOf" "[I" "LayerQuantities" : Cond) ∈ TW := tw_t (List.mem_of_getElem? (i := 33) (by decide +kernel)) rfl
theorem mt_34 : (.lays "LayerQuantities$Wall" "LayerQuantities$Wall" "area" "I" : Cond) ∈ TW := tw_t (List.mem_of_getElem? (i := 34) (by decide +kernel)) rfl
theorem mt_35 : (.soleField "LayerQuantities$Wall" "area" : Cond) ∈ TW := tw_t (List.mem_of_getElem? (i := 35) (by decide +kernel)) rfl
theorem mt_36 : (.lays "LayerQuantities$Wall" "LayerQuantities$Wall" "openingCount" "I" : Cond) ∈ TW := tw_t (List.mem_of_getElem? (i := 36) (by decide +kernel)) rfl
theorem mt_37 : (.soleField "LayerQuantities$Wall" "openingCount" : Cond) ∈ TW := tw_t (List.mem_of_getElem? (i := 37) (by decide +kernel)) rfl
theorem mt_38 : (.lays "LayerQuantities$Wall" "LayerQuantities$Wall" "layerCount" "I" : Cond) ∈ TW := tw_t (List.mem_of_getElem? (i := 38) (by decide +kernel)) rfl
theorem mt_39 : (.soleField "LayerQuantities$Wall" "layerCount" : Cond) ∈ TW := tw_t (List.mem_of_getElem? (i := 39) (by decide +kernel)) rfl
theorem mt_40 : (.laysFinal "LayerQuantities$Wall" "LayerQuantities$Wall" "thicknessOf" "[I" : Cond) ∈ TW := tw_t (List.mem_of_getElem? (i := 40) (by decide +kernel)) rfl
theorem mt_41 : (.soleField "LayerQuantities$Wall" "thicknessOf" : Cond) ∈ TW := tw_t (List.mem_of_getElem? (i := 41) (by decide +kernel)) rfl
theorem mt_42 : (.superclass "LayerQuantities$Wall" "java/lang/Object" : Cond) ∈ TW := tw_t (List.mem_of_getElem? (i := 42) (by decide +kernel)) rfl
theorem mt_43 : (.arrayClass .int : Cond) ∈ TW := tw_t (List.mem_of_getElem? (i := 43) (by decide +kernel)) rfl
theorem mt_44 : (.classLink "LayerQuantities" 20 "LayerQuantities$Shelf" : Cond) ∈ TW := tw_t (List.mem_of_getElem? (i := 44) (by decide +kernel)) rfl
theorem mt_45 : (.arrayOver (.object "LayerQuantities$Shelf") : Cond) ∈ TW := tw_t (List.mem_of_getElem? (i := 45) (by decide +kernel)) rfl
theorem mt_46 : (.instantiable "LayerQuantities$Shelf" 10 : Cond) ∈ TW := tw_t (List.mem_of_getElem? (i := 46) (by decide +kernel)) rfl
theorem mt_47 : (.methodLinkNest "LayerQuantities" 26 ⟨"LayerQuantities$Shelf", "<init>", "()V"⟩ "LayerQuantities" : Cond) ∈ TW := tw_t (List.mem_of_getElem? (i := 47) (by decide +kernel)) rfl
theorem mt_48 : (.instanceMethod ⟨"LayerQuantities$Shelf", "<init>", "()V"⟩ : Cond) ∈ TW := tw_t (List.mem_of_getElem? (i := 48) (by decide +kernel)) rfl
theorem mt_49 : (.code ⟨"LayerQuantities$Shelf", "<init>", "()V"⟩ prog_3_method_1_code 1 none : Cond) ∈ TW := tw_t (List.mem_of_getElem? (i := 49) (by decide +kernel)) rfl
theorem mt_50 : (.methodLink "LayerQuantities$Shelf" 3 ⟨"java/lang/Object", "<init>", "()V"⟩ : Cond) ∈ TW := tw_t (List.mem_of_getElem? (i := 50) (by decide +kernel)) rfl
theorem mt_51 : (.constantLong "LayerQuantities$Shelf" 30 (-1) : Cond) ∈ TW := tw_t (List.mem_of_getElem? (i := 51) (by decide +kernel)) rfl
theorem mt_52 : (.fieldLink "LayerQuantities$Shelf" 36 "LayerQuantities$Shelf" "kinds" "I" : Cond) ∈ TW := tw_t (List.mem_of_getElem? (i := 52) (by decide +kernel)) rfl
theorem mt_53 : (.fieldLinkNest "LayerQuantities" 78 "LayerQuantities$Shelf" "kinds" "I" "LayerQuantities" : Cond) ∈ TW := tw_t (List.mem_of_getElem? (i := 53) (by decide +kernel)) rfl
theorem mt_54 : (.fieldLink "LayerQuantities$Shelf" 9 "LayerQuantities$Shelf" "much" "[I" : Cond) ∈ TW := tw_t (List.mem_of_getElem? (i := 54) (by decide +kernel)) rfl
theorem mt_55 : (.fieldLink "LayerQuantities$Shelf" 15 "LayerQuantities$Shelf" "price" "[I" : Cond) ∈ TW := tw_t (List.mem_of_getElem? (i := 55) (by decide +kernel)) rfl
theorem mt_56 : (.fieldLink "LayerQuantities$Shelf" 18 "LayerQuantities$Shelf" "biggest" "[I" : Cond) ∈ TW := tw_t (List.mem_of_getElem? (i := 56) (by decide +kernel)) rfl
theorem mt_57 : (.fieldLink "LayerQuantities$Shelf" 21 "LayerQuantities$Shelf" "cheapest" "[I" : Cond) ∈ TW := tw_t (List.mem_of_getElem? (i := 57) (by decide +kernel)) rfl
theorem mt_58 : (.fieldLink "LayerQuantities$Shelf" 24 "LayerQuantities$Shelf" "tried" "[I" : Cond) ∈ TW := tw_t (List.mem_of_getElem? (i := 58) (by decide +kernel)) rfl
theorem mt_59 : (.fieldLink "LayerQuantities$Shelf" 27 "LayerQuantities$Shelf" "best" "[I" : Cond) ∈ TW := tw_t (List.mem_of_getElem? (i := 59) (by decide +kernel)) rfl
theorem mt_60 : (.fieldLink "LayerQuantities$Shelf" 47 "LayerQuantities$Shelf" "bestPrice" "I" : Cond) ∈ TW := tw_t (List.mem_of_getElem? (i := 60) (by decide +kernel)) rfl
theorem mt_61 : (.fieldLink "LayerQuantities$Shelf" 55 "LayerQuantities$Shelf" "bestCount" "I" : Cond) ∈ TW := tw_t (List.mem_of_getElem? (i := 61) (by decide +kernel)) rfl
theorem mt_62 : (.fieldLink "LayerQuantities$Shelf" 32 "LayerQuantities$Shelf" "searchedFor" "J" : Cond) ∈ TW := tw_t (List.mem_of_getElem? (i := 62) (by decide +kernel)) rfl
theorem mt_63 : (.lays "LayerQuantities$Shelf" "LayerQuantities$Shelf" "kinds" "I" : Cond) ∈ TW := tw_t (List.mem_of_getElem? (i := 63) (by decide +kernel)) rfl
theorem mt_64 : (.soleField "LayerQuantities$Shelf" "kinds" : Cond) ∈ TW := tw_t (List.mem_of_getElem? (i := 64) (by decide +kernel)) rfl
theorem mt_65 : (.laysFinal "LayerQuantities$Shelf" "LayerQuantities$Shelf" "much" "[I" : Cond) ∈ TW := tw_t (List.mem_of_getElem? (i := 65) (by decide +kernel)) rfl
theorem mt_66 : (.soleField "LayerQuantities$Shelf" "much" : Cond) ∈ TW := tw_t (List.mem_of_getElem? (i := 66) (by decide +kernel)) rfl
theorem mt_67 : (.laysFinal "LayerQuantities$Shelf" "LayerQuantities$Shelf" "price" "[I" : Cond) ∈ TW := tw_t (List.mem_of_getElem? (i := 67) (by decide +kernel)) rfl
theorem mt_68 : (.soleField "LayerQuantities$Shelf" "price" : Cond) ∈ TW := tw_t (List.mem_of_getElem? (i := 68) (by decide +kernel)) rfl
theorem mt_69 : (.laysFinal "LayerQuantities$Shelf" "LayerQuantities$Shelf" "biggest" "[I" : Cond) ∈ TW := tw_t (List.mem_of_getElem? (i := 69) (by decide +kernel)) rfl
theorem mt_70 : (.soleField "LayerQuantities$Shelf" "biggest" : Cond) ∈ TW := tw_t (List.mem_of_getElem? (i := 70) (by decide +kernel)) rfl
theorem mt_71 : (.laysFinal "LayerQuantities$Shelf" "LayerQuantities$Shelf" "cheapest" "[I" : Cond) ∈ TW := tw_t (List.mem_of_getElem? (i := 71) (by decide +kernel)) rfl
theorem mt_72 : (.soleField "LayerQuantities$Shelf" "cheapest" : Cond) ∈ TW := tw_t (List.mem_of_getElem? (i := 72) (by decide +kernel)) rfl
theorem mt_73 : (.laysFinal "LayerQuantities$Shelf" "LayerQuantities$Shelf" "tried" "[I" : Cond) ∈ TW := tw_t (List.mem_of_getElem? (i := 73) (by decide +kernel)) rfl
theorem mt_74 : (.soleField "LayerQuantities$Shelf" "tried" : Cond) ∈ TW := tw_t (List.mem_of_getElem? (i := 74) (by decide +kernel)) rfl
theorem mt_75 : (.laysFinal "LayerQuantities$Shelf" "LayerQuantities$Shelf" "best" "[I" : Cond) ∈ TW := tw_t (List.mem_of_getElem? (i := 75) (by decide +kernel)) rfl
theorem mt_76 : (.soleField "LayerQuantities$Shelf" "best" : Cond) ∈ TW := tw_t (List.mem_of_getElem? (i := 76) (by decide +kernel)) rfl
theorem mt_77 : (.lays "LayerQuantities$Shelf" "LayerQuantities$Shelf" "bestPrice" "I" : Cond) ∈ TW := tw_t (List.mem_of_getElem? (i := 77) (by decide +kernel)) rfl
theorem mt_78 : (.soleField "LayerQuantities$Shelf" "bestPrice" : Cond) ∈ TW := tw_t (List.mem_of_getElem? (i := 78) (by decide +kernel)) rfl
theorem mt_79 : (.lays "LayerQuantities$Shelf" "LayerQuantities$Shelf" "bestCount" "I" : Cond) ∈ TW := tw_t (List.mem_of_getElem? (i := 79) (by decide +kernel)) rfl
theorem mt_80 : (.soleField "LayerQuantities$Shelf" "bestCount" : Cond) ∈ TW := tw_t (List.mem_of_getElem? (i := 80) (by decide +kernel)) rfl
theorem mt_81 : (.lays "LayerQuantities$Shelf" "LayerQuantities$Shelf" "searchedFor" "J" : Cond) ∈ TW := tw_t (List.mem_of_getElem? (i := 81) (by decide +kernel)) rfl
theorem mt_82 : (.soleField "LayerQuantities$Shelf" "searchedFor" : Cond) ∈ TW := tw_t (List.mem_of_getElem? (i := 82) (by decide +kernel)) rfl
theorem mt_83 : (.superclass "LayerQuantities$Shelf" "java/lang/Object" : Cond) ∈ TW := tw_t (List.mem_of_getElem? (i := 83) (by decide +kernel)) rfl
theorem mt_84 : (.classLink "LayerQuantities" 27 "LayerQuantities$Saw" : Cond) ∈ TW := tw_t (List.mem_of_getElem? (i := 84) (by decide +kernel)) rfl
theorem mt_85 : (.instantiable "LayerQuantities$Saw" 10 : Cond) ∈ TW := tw_t (List.mem_of_getElem? (i := 85) (by decide +kernel)) rfl
theorem mt_86 : (.methodLinkNest "LayerQuantities" 29 ⟨"LayerQuantities$Saw", "<init>", "()V"⟩ "LayerQuantities" : Cond) ∈ TW := tw_t (List.mem_of_getElem? (i := 86) (by decide +kernel)) rfl
theorem mt_87 : (.instanceMethod ⟨"LayerQuantities$Saw", "<init>", "()V"⟩ : Cond) ∈ TW := tw_t (List.mem_of_getElem? (i := 87) (by decide +kernel)) rfl
theorem mt_88 : (.code ⟨"LayerQuantities$Saw", "<init>", "()V"⟩ prog_2_method_1_code 1 none : Cond) ∈ TW := tw_t (List.mem_of_getElem? (i := 88) (by decide +kernel)) rfl
theorem mt_89 : (.methodLink "LayerQuantities$Saw" 3 ⟨"java/lang/Object", "<init>", "()V"⟩ : Cond) ∈ TW := tw_t (List.mem_of_getElem? (i := 89) (by decide +kernel)) rfl
theorem mt_90 : (.fieldLink "LayerQuantities$Saw" 9 "LayerQuantities$Saw" "barLength" "I" : Cond) ∈ TW := tw_t (List.mem_of_getElem? (i := 90) (by decide +kernel)) rfl
theorem mt_91 : (.fieldLinkNest "LayerQuantities" 110 "LayerQuantities$Saw" "barLength" "I" "LayerQuantities" : Cond) ∈ TW := tw_t (List.mem_of_getElem? (i := 91) (by decide +kernel)) rfl
theorem mt_92 : (.fieldLink "LayerQuantities$Saw" 40 "LayerQuantities$Saw" "cut" "I" : Cond) ∈ TW := tw_t (List.mem_of_getElem? (i := 92) (by decide +kernel)) rfl
theorem mt_93 : (.fieldLink "LayerQuantities$Saw" 31 "LayerQuantities$Saw" "pieceCount" "I" : Cond) ∈ TW := tw_t (List.mem_of_getElem? (i := 93) (by decide +kernel)) rfl
theorem mt_94 : (.fieldLinkNest "LayerQuantities" 113 "LayerQuantities$Saw" "pieceCount" "I" "LayerQuantities" : Cond) ∈ TW := tw_t (List.mem_of_getElem? (i := 94) (by decide +kernel)) rfl
theorem mt_95 : (.fieldLink "LayerQuantities$Saw" 15 "LayerQuantities$Saw" "lengths" "[I" : Cond) ∈ TW := tw_t (List.mem_of_getElem? (i := 95) (by decide +kernel)) rfl
theorem mt_96 : (.fieldLink "LayerQuantities$Saw" 43 "LayerQuantities$Saw" "planned" "Z" : Cond) ∈ TW := tw_t (List.mem_of_getElem? (i := 96) (by decide +kernel)) rfl
theorem mt_97 : (.fieldLink "LayerQuantities$Saw" 50 "LayerQuantities$Saw" "barCount" "I" : Cond) ∈ TW := tw_t (List.mem_of_getElem? (i := 97) (by decide +kernel)) rfl
theorem mt_98 : (.fieldLinkNest "LayerQuantities" 126 "LayerQuantities$Saw" "barCount" "I" "LayerQuantities" : Cond) ∈ TW := tw_t (List.mem_of_getElem? (i := 98) (by decide +kernel)) rfl
theorem mt_99 : (.fieldLink "LayerQuantities$Saw" 19 "LayerQuantities$Saw" "barOf" "[I" : Cond) ∈ TW := tw_t (List.mem_of_getElem? (i := 99) (by decide +kernel)) rfl
theorem mt_100 : (.fieldLinkNest "LayerQuantities" 129 "LayerQuantities$Saw" "barOf" "[I" "LayerQuantities" : Cond) ∈ TW := tw_t (List.mem_of_getElem? (i := 100) (by decide +kernel)) rfl
theorem mt_101 : (.fieldLink "LayerQuantities$Saw" 22 "LayerQuantities$Saw" "free" "[I" : Cond) ∈ TW := tw_t (List.mem_of_getElem? (i := 101) (by decide +kernel)) rfl
theorem mt_102 : (.fieldLinkNest "LayerQuantities" 132 "LayerQuantities$Saw" "free" "[I" "LayerQuantities" : Cond) ∈ TW := tw_t (List.mem_of_getElem? (i := 102) (by decide +kernel)) rfl
theorem mt_103 : (.fieldLink "LayerQuantities$Saw" 25 "LayerQuantities$Saw" "load" "[I" : Cond) ∈ TW := tw_t (List.mem_of_getElem? (i := 103) (by decide +kernel)) rfl
theorem mt_104 : (.fieldLink "LayerQuantities$Saw" 28 "LayerQuantities$Saw" "smallest" "[I" : Cond) ∈ TW := tw_t (List.mem_of_getElem? (i := 104) (by decide +kernel)) rfl
theorem mt_105 : (.lays "LayerQuantities$Saw" "LayerQuantities$Saw" "barLength" "I" : Cond) ∈ TW := tw_t (List.mem_of_getElem? (i := 105) (by decide +kernel)) rfl
theorem mt_106 : (.soleField "LayerQuantities$Saw" "barLength" : Cond) ∈ TW := tw_t (List.mem_of_getElem? (i := 106) (by decide +kernel)) rfl
theorem mt_107 : (.lays "LayerQuantities$Saw" "LayerQuantities$Saw" "cut" "I" : Cond) ∈ TW := tw_t (List.mem_of_getElem? (i := 107) (by decide +kernel)) rfl
theorem mt_108 : (.soleField "LayerQuantities$Saw" "cut" : Cond) ∈ TW := tw_t (List.mem_of_getElem? (i := 108) (by decide +kernel)) rfl
theorem mt_109 : (.lays "LayerQuantities$Saw" "LayerQuantities$Saw" "pieceCount" "I" : Cond) ∈ TW := tw_t (List.mem_of_getElem? (i := 109) (by decide +kernel)) rfl
theorem mt_110 : (.soleField "LayerQuantities$Saw" "pieceCount" : Cond) ∈ TW := tw_t (List.mem_of_getElem? (i := 110) (by decide +kernel)) rfl
theorem mt_111 : (.laysFinal "LayerQuantities$Saw" "LayerQuantities$Saw" "lengths" "[I" : Cond) ∈ TW := tw_t (List.mem_of_getElem? (i := 111) (by decide +kernel)) rfl
theorem mt_112 : (.soleField "LayerQuantities$Saw" "lengths" : Cond) ∈ TW := tw_t (List.mem_of_getElem? (i := 112) (by decide +kernel)) rfl
theorem mt_113 : (.lays "LayerQuantities$Saw" "LayerQuantities$Saw" "planned" "Z" : Cond) ∈ TW := tw_t (List.mem_of_getElem? (i := 113) (by decide +kernel)) rfl
theorem mt_114 : (.soleField "LayerQuantities$Saw" "planned" : Cond) ∈ TW := tw_t (List.mem_of_getElem? (i := 114) (by decide +kernel)) rfl
theorem mt_115 : (.lays "LayerQuantities$Saw" "LayerQuantities$Saw" "barCount" "I" : Cond) ∈ TW := tw_t (List.mem_of_getElem? (i := 115) (by decide +kernel)) rfl
theorem mt_116 : (.soleField "LayerQuantities$Saw" "barCount" : Cond) ∈ TW := tw_t (List.mem_of_getElem? (i := 116) (by decide +kernel)) rfl
theorem mt_117 : (.laysFinal "LayerQuantities$Saw" "LayerQuantities$Saw" "barOf" "[I" : Cond) ∈ TW := tw_t (List.mem_of_getElem? (i := 117) (by decide +kernel)) rfl
theorem mt_118 : (.soleField "LayerQuantities$Saw" "barOf" : Cond) ∈ TW := tw_t (List.mem_of_getElem? (i := 118) (by decide +kernel)) rfl
theorem mt_119 : (.laysFinal "LayerQuantities$Saw" "LayerQuantities$Saw" "free" "[I" : Cond) ∈ TW := tw_t (List.mem_of_getElem? (i := 119) (by decide +kernel)) rfl
theorem mt_120 : (.soleField "LayerQuantities$Saw" "free" : Cond) ∈ TW := tw_t (List.mem_of_getElem? (i := 120) (by decide +kernel)) rfl
theorem mt_121 : (.laysFinal "LayerQuantities$Saw" "LayerQuantities$Saw" "load" "[I" : Cond) ∈ TW := tw_t (List.mem_of_getElem? (i := 121) (by decide +kernel)) rfl
theorem mt_122 : (.soleField "LayerQuantities$Saw" "load" : Cond) ∈ TW := tw_t (List.mem_of_getElem? (i := 122) (by decide +kernel)) rfl
theorem mt_123 : (.laysFinal "LayerQuantities$Saw" "LayerQuantities$Saw" "smallest" "[I" : Cond) ∈ TW := tw_t (List.mem_of_getElem? (i := 123) (by decide +kernel)) rfl
theorem mt_124 : (.soleField "LayerQuantities$Saw" "smallest" : Cond) ∈ TW := tw_t (List.mem_of_getElem? (i := 124) (by decide +kernel)) rfl
theorem mt_125 : (.superclass "LayerQuantities$Saw" "java/lang/Object" : Cond) ∈ TW := tw_t (List.mem_of_getElem? (i := 125) (by decide +kernel)) rfl
theorem mt_126 : (.fieldLink "LayerQuantities" 11 "LayerQuantities" "walls" "[LLayerQuantities$Wall;" : Cond) ∈ TW := tw_t (List.mem_of_getElem? (i := 126) (by decide +kernel)) rfl
theorem mt_127 : (.fieldLink "LayerQuantities" 38 "LayerQuantities" "wallCount" "I" : Cond) ∈ TW := tw_t (List.mem_of_getElem? (i := 127) (by decide +kernel)) rfl
theorem mt_128 : (.fieldLink "LayerQuantities" 16 "LayerQuantities" "wastes" "[I" : Cond) ∈ TW := tw_t (List.mem_of_getElem? (i := 128) (by decide +kernel)) rfl
theorem mt_129 : (.fieldLink "LayerQuantities" 22 "LayerQuantities" "shelves" "[LLayerQuantities$Shelf;" : Cond) ∈ TW := tw_t (List.mem_of_getElem? (i := 129) (by decide +kernel)) rfl
theorem mt_130 : (.fieldLink "LayerQuantities" 30 "LayerQuantities" "saw" "LLayerQuantities$Saw;" : Cond) ∈ TW := tw_t (List.mem_of_getElem? (i := 130) (by decide +kernel)) rfl
theorem mt_131 : (.laysFinal "LayerQuantities" "LayerQuantities" "walls" "[LLayerQuantities$Wall;" : Cond) ∈ TW := tw_t (List.mem_of_getElem? (i := 131) (by decide +kernel)) rfl
theorem mt_132 : (.soleField "LayerQuantities" "walls" : Cond) ∈ TW := tw_t (List.mem_of_getElem? (i := 132) (by decide +kernel)) rfl
theorem mt_133 : (.lays "LayerQuantities" "LayerQuantities" "wallCount" "I" : Cond) ∈ TW := tw_t (List.mem_of_getElem? (i := 133) (by decide +kernel)) rfl
theorem mt_134 : (.soleField "LayerQuantities" "wallCount" : Cond) ∈ TW := tw_t (List.mem_of_getElem? (i := 134) (by decide +kernel)) rfl
theorem mt_135 : (.laysFinal "LayerQuantities" "LayerQuantities" "wastes" "[I" : Cond) ∈ TW := tw_t (List.mem_of_getElem? (i := 135) (by decide +kernel)) rfl
theorem mt_136 : (.soleField "LayerQuantities" "wastes" : Cond) ∈ TW := tw_t (List.mem_of_getElem? (i := 136) (by decide +kernel)) rfl
theorem mt_137 : (.laysFinal "LayerQuantities" "LayerQuantities" "shelves" "[LLayerQuantities$Shelf;" : Cond) ∈ TW := tw_t (List.mem_of_getElem? (i := 137) (by decide +kernel)) rfl
theorem mt_138 : (.soleField "LayerQuantities" "shelves" : Cond) ∈ TW := tw_t (List.mem_of_getElem? (i := 138) (by decide +kernel)) rfl
theorem mt_139 : (.laysFinal "LayerQuantities" "LayerQuantities" "saw" "LLayerQuantities$Saw;" : Cond) ∈ TW := tw_t (List.mem_of_getElem? (i := 139) (by decide +kernel)) rfl
theorem mt_140 : (.soleField "LayerQuantities" "saw" : Cond) ∈ TW := tw_t (List.mem_of_getElem? (i := 140) (by decide +kernel)) rfl
theorem mt_141 : (.superclass "LayerQuantities" "java/lang/Object" : Cond) ∈ TW := tw_t (List.mem_of_getElem? (i := 141) (by decide +kernel)) rfl
theorem mt_142 : (.methodLink "LayerQuantitiesLaw" 100 ⟨"LayerQuantities", "cents", "()J"⟩ : Cond) ∈ TW := tw_t (List.mem_of_getElem? (i := 142) (by decide +kernel)) rfl
theorem mt_143 : (.instanceMethod ⟨"LayerQuantities", "cents", "()J"⟩ : Cond) ∈ TW := tw_t (List.mem_of_getElem? (i := 143) (by decide +kernel)) rfl
theorem mt_144 : (.selects "LayerQuantities" ⟨"LayerQuantities", "cents", "()J"⟩ ⟨"LayerQuantities", "cents", "()J"⟩ : Cond) ∈ TW := tw_t (List.mem_of_getElem? (i := 144) (by decide +kernel)) rfl
theorem mt_145 : (.code ⟨"LayerQuantities", "cents", "()J"⟩ prog_1_method_11_code 6 (some (.long)) : Cond) ∈ TW := tw_t (List.mem_of_getElem? (i := 145) (by decide +kernel)) rfl
theorem mt_146 : (.methodLink "LayerQuantities" 97 ⟨"LayerQuantities", "cents", "(I)J"⟩ : Cond) ∈ TW := tw_t (List.mem_of_getElem? (i := 146) (by decide +kernel)) rfl
theorem mt_147 : (.instanceMethod ⟨"LayerQuantities", "cents", "(I)J"⟩ : Cond) ∈ TW := tw_t (List.mem_of_getElem? (i := 147) (by decide +kernel)) rfl
theorem mt_148 : (.selects "LayerQuantities" ⟨"LayerQuantities", "cents", "(I)J"⟩ ⟨"LayerQuantities", "cents", "(I)J"⟩ : Cond) ∈ TW := tw_t (List.mem_of_getElem? (i := 148) (by decide +kernel)) rfl
theorem mt_149 : (.code ⟨"LayerQuantities", "cents", "(I)J"⟩ prog_1_method_10_code 2 (some (.long)) : Cond) ∈ TW := tw_t (List.mem_of_getElem? (i := 149) (by decide +kernel)) rfl
theorem mt_150 : (.methodLink "LayerQuantities" 49 ⟨"LayerQuantities", "checkNumber", "(II)V"⟩ : Cond) ∈ TW := tw_t (List.mem_of_getElem? (i := 150) (by decide +kernel)) rfl
theorem mt_151 : (.static ⟨"LayerQuantities", "checkNumber", "(II)V"⟩ : Cond) ∈ TW := tw_t (List.mem_of_getElem? (i := 151) (by decide +kernel)) rfl
theorem mt_152 : (.code ⟨"LayerQuantities", "checkNumber", "(II)V"⟩ prog_1_method_19_code 2 none : Cond) ∈ TW := tw_t (List.mem_of_getElem? (i := 152) (by decide +kernel)) rfl
theorem mt_153 : (.classLink "LayerQuantities" 135 "java/lang/IllegalArgumentException" : Cond) ∈ TW := tw_t (List.mem_of_getElem? (i := 153) (by decide +kernel)) rfl
theorem mt_154 : (.instantiable "java/lang/IllegalArgumentException" 6 : Cond) ∈ TW := tw_t (List.mem_of_getElem? (i := 154) (by decide +kernel)) rfl
theorem mt_155 : (.castable "java/lang/IllegalArgumentException" "java/lang/IllegalArgumentException" : Cond) ∈ TW := tw_t (List.mem_of_getElem? (i := 155) (by decide +kernel)) rfl
theorem mt_156 : (.declares ⟨"java/lang/RuntimeException", "<init>", "()V"⟩ : Cond) ∈ TW := tw_t (List.mem_of_getElem? (i := 156) (by decide +kernel)) rfl
theorem mt_157 : (.declares ⟨"java/lang/RuntimeException", "<init>", "(Ljava/lang/String;)V"⟩ : Cond) ∈ TW := tw_t (List.mem_of_getElem? (i := 157) (by decide +kernel)) rfl
theorem mt_158 : (.declares ⟨"java/lang/Exception", "<init>", "()V"⟩ : Cond) ∈ TW := tw_t (List.mem_of_getElem? (i := 158) (by decide +kernel)) rfl
theorem mt_159 : (.declares ⟨"java/lang/Exception", "<init>", "(Ljava/lang/String;)V"⟩ : Cond) ∈ TW := tw_t (List.mem_of_getElem? (i := 159) (by decide +kernel)) rfl
theorem mt_160 : (.declares ⟨"java/lang/Throwable", "<init>", "()V"⟩ : Cond) ∈ TW := tw_t (List.mem_of_getElem? (i := 160) (by decide +kernel)) rfl
theorem mt_161 : (.declares ⟨"java/lang/Throwable", "<init>", "(Ljava/lang/String;)V"⟩ : Cond) ∈ TW := tw_t (List.mem_of_getElem? (i := 161) (by decide +kernel)) rfl
theorem mt_162 : (.selects "java/lang/IllegalArgumentException" ⟨"java/lang/Throwable", "fillInStackTrace", "(I)Ljava/lang/Throwable;"⟩ ⟨"java/lang/Throwable", "fillInStackTrace", "(I)Ljava/lang/Throwable;"⟩ : Cond) ∈ TW := tw_t (List.mem_of_getElem? (i := 162) (by decide +kernel)) rfl
theorem mt_163 : (.selects "java/lang/IllegalArgumentException" ⟨"java/lang/Throwable", "fillInStackTrace", "()Ljava/lang/Throwable;"⟩ ⟨"java/lang/Throwable", "fillInStackTrace", "()Ljava/lang/Throwable;"⟩ : Cond) ∈ TW := tw_t (List.mem_of_getElem? (i := 163) (by decide +kernel)) rfl
theorem mt_164 : (.lays "java/lang/IllegalArgumentException" "java/lang/Throwable" "cause" "Ljava/lang/Throwable;" : Cond) ∈ TW := tw_t (List.mem_of_getElem? (i := 164) (by decide +kernel)) rfl
theorem mt_165 : (.lays "java/lang/Throwable" "java/lang/Throwable" "cause" "Ljava/lang/Throwable;" : Cond) ∈ TW := tw_t (List.mem_of_getElem? (i := 165) (by decide +kernel)) rfl
theorem mt_166 : (.lays "java/lang/IllegalArgumentException" "java/lang/Throwable" "stackTrace" "[Ljava/lang/StackTraceElement;" : Cond) ∈ TW := tw_t (List.mem_of_getElem? (i := 166) (by decide +kernel)) rfl
theorem mt_167 : (.lays "java/lang/Throwable" "java/lang/Throwable" "stackTrace" "[Ljava/lang/StackTraceElement;" : Cond) ∈ TW := tw_t (List.mem_of_getElem? (i := 167) (by decide +kernel)) rfl
theorem mt_168 : (.lays "java/lang/IllegalArgumentException" "java/lang/Throwable" "suppressedExceptions" "Ljava/util/List;" : Cond) ∈ TW := tw_t (List.mem_of_getElem? (i := 168) (by decide +kernel)) rfl
theorem mt_169 : (.lays "java/lang/Throwable" "java/lang/Throwable" "suppressedExceptions" "Ljava/util/List;" : Cond) ∈ TW := tw_t (List.mem_of_getElem? (i := 169) (by decide +kernel)) rfl
theorem mt_170 : (.lays "java/lang/IllegalArgumentException" "java/lang/Throwable" "detailMessage" "Ljava/lang/String;" : Cond) ∈ TW := tw_t (List.mem_of_getElem? (i := 170) (by decide +kernel)) rfl
theorem mt_171 : (.lays "java/lang/Throwable" "java/lang/Throwable" "detailMessage" "Ljava/lang/String;" : Cond) ∈ TW := tw_t (List.mem_of_getElem? (i := 171) (by decide +kernel)) rfl
theorem mt_172 : (.lays "java/lang/IllegalArgumentException" "java/lang/Throwable" "backtrace" "Ljava/lang/Object;" : Cond) ∈ TW := tw_t (List.mem_of_getElem? (i := 172) (by decide +kernel)) rfl
theorem mt_173 : (.lays "java/lang/Throwable" "java/lang/Throwable" "backtrace" "Ljava/lang/Object;" : Cond) ∈ TW := tw_t (List.mem_of_getElem? (i := 173) (by decide +kernel)) rfl
theorem mt_174 : (.fieldLink "java/lang/Throwable" 198 "java/lang/Throwable" "backtrace" "Ljava/lang/Object;" : Cond) ∈ TW := tw_t (List.mem_of_getElem? (i := 174) (by decide +kernel)) rfl
theorem mt_175 : (.superclass "java/lang/Throwable" "java/lang/Object" : Cond) ∈ TW := tw_t (List.mem_of_getElem? (i := 175) (by decide +kernel)) rfl
theorem mt_176 : (.instanceMethod ⟨"java/lang/Throwable", "<init>", "()V"⟩ : Cond) ∈ TW := tw_t (List.mem_of_getElem? (i := 176) (by decide +kernel)) rfl
theorem mt_177 : (.code ⟨"java/lang/Throwable", "<init>", "()V"⟩ prog_14_method_1_code 1 none : Cond) ∈ TW := tw_t (List.mem_of_getElem? (i := 177) (by decide +kernel)) rfl
theorem mt_178 : (.methodLink "java/lang/Throwable" 1 ⟨"java/lang/Object", "<init>", "()V"⟩ : Cond) ∈ TW := tw_t (List.mem_of_getElem? (i := 178) (by decide +kernel)) rfl
theorem mt_179 : (.fieldLink "java/lang/Throwable" 13 "java/lang/Throwable" "UNASSIGNED_STACK" "[Ljava/lang/StackTraceElement;" : Cond) ∈ TW := tw_t (List.mem_of_getElem? (i := 179) (by decide +kernel)) rfl
theorem ml_180 : (.laysStatic "java/lang/Throwable" "UNASSIGNED_STACK" "[Ljava/lang/StackTraceElement;" : Cond) ∈ lw_tbl := List.mem_append_right _ (List.mem_of_getElem? (i := 180) (by decide +kernel))
theorem mt_181 : (.fieldLink "java/lang/Throwable" 20 "java/lang/Throwable" "SUPPRESSED_SENTINEL" "Ljava/util/List;" : Cond) ∈ TW := tw_t (List.mem_of_getElem? (i := 181) (by decide +kernel)) rfl
theorem ml_182 : (.laysStatic "java/lang/Throwable" "SUPPRESSED_SENTINEL" "Ljava/util/List;" : Cond) ∈ lw_tbl := List.mem_append_right _ (List.mem_of_getElem? (i := 182) (by decide +kernel))
theorem mt_183 : (.methodLink "java/lang/Throwable" 27 ⟨"java/lang/Throwable", "fillInStackTrace", "()Ljava/lang/Throwable;"⟩ : Cond) ∈ TW := tw_t (List.mem_of_getElem? (i := 183) (by decide +kernel)) rfl
theorem mt_184 : (.instanceMethod ⟨"java/lang/Throwable", "fillInStackTrace", "()Ljava/lang/Throwable;"⟩ : Cond) ∈ TW := tw_t (List.mem_of_getElem? (i := 184) (by decide +kernel)) rfl
theorem mt_185 : (.sameMethod "java/lang/Throwable" "java/lang/Throwable" "fillInStackTrace" "()Ljava/lang/Throwable;" : Cond) ∈ TW := tw_t (List.mem_of_getElem? (i := 185) (by decide +kernel)) rfl
theorem mt_186 : (.selects "java/lang/IllegalStateException" ⟨"java/lang/Throwable", "fillInStackTrace", "()Ljava/lang/Throwable;"⟩ ⟨"java/lang/Throwable", "fillInStackTrace", "()Ljava/lang/Throwable;"⟩ : Cond) ∈ TW := tw_t (List.mem_of_getElem? (i := 186) (by decide +kernel)) rfl
theorem mt_187 : (.codeSync ⟨"java/lang/Throwable", "fillInStackTrace", "()Ljava/lang/Throwable;"⟩ prog_14_method_18_code 1 (some (.object "java/lang/Throwable")) : Cond) ∈ TW := tw_t (List.mem_of_getElem? (i := 187) (by decide +kernel)) rfl
theorem mt_188 : (.methodLink "java/lang/Throwable" 202 ⟨"java/lang/Throwable", "fillInStackTrace", "(I)Ljava/lang/Throwable;"⟩ : Cond) ∈ TW := tw_t (List.mem_of_getElem? (i := 188) (by decide +kernel)) rfl
theorem mt_189 : (.privateMethod ⟨"java/lang/Throwable", "fillInStackTrace", "(I)Ljava/lang/Throwable;"⟩ : Cond) ∈ TW := tw_t (List.mem_of_getElem? (i := 189) (by decide +kernel)) rfl
theorem mt_190 : (.instanceMethod ⟨"java/lang/Throwable", "fillInStackTrace", "(I)Ljava/lang/Throwable;"⟩ : Cond) ∈ TW := tw_t (List.mem_of_getElem? (i := 190) (by decide +kernel)) rfl
theorem mt_191 : (.instantiable "java/lang/Throwable" 6 : Cond) ∈ TW := tw_t (List.mem_of_getElem? (i := 191) (by decide +kernel)) rfl
theorem mt_192 : (.native ⟨"java/lang/Throwable", "fillInStackTrace", "(I)Ljava/lang/Throwable;"⟩ : Cond) ∈ TW := tw_t (List.mem_of_getElem? (i := 192) (by decide +kernel)) rfl
theorem mt_193 : (.stringRef "LayerQuantities" 140 "there is nothing of this number" : Cond) ∈ TW := tw_t (List.mem_of_getElem? (i := 193) (by decide +kernel)) rfl
theorem mt_194 : (.methodLink "LayerQuantities" 139 ⟨"java/lang/IllegalArgumentException", "<init>", "(Ljava/lang/String;)V"⟩ : Cond) ∈ TW := tw_t (List.mem_of_getElem? (i := 194) (by decide +kernel)) rfl
theorem mt_195 : (.instanceMethod ⟨"java/lang/IllegalArgumentException", "<init>", "(Ljava/lang/String;)V"⟩ : Cond) ∈ TW := tw_t (List.mem_of_getElem? (i := 195) (by decide +kernel)) rfl
theorem mt_196 : (.code ⟨"java/lang/IllegalArgumentException", "<init>", "(Ljava/lang/String;)V"⟩ prog_8_method_2_code 2 none : Cond) ∈ TW := tw_t (List.mem_of_getElem? (i := 196) (by decide +kernel)) rfl
theorem mt_197 : (.methodLink "java/lang/IllegalArgumentException" 7 ⟨"java/lang/RuntimeException", "<init>", "(Ljava/lang/String;)V"⟩ : Cond) ∈ TW := tw_t (List.mem_of_getElem? (i := 197) (by decide +kernel)) rfl
theorem mt_198 : (.instanceMethod ⟨"java/lang/RuntimeException", "<init>", "(Ljava/lang/String;)V"⟩ : Cond) ∈ TW := tw_t (List.mem_of_getElem? (i := 198) (by decide +kernel)) rfl
theorem mt_199 : (.code ⟨"java/lang/RuntimeException", "<init>", "(Ljava/lang/String;)V"⟩ prog_11_method_2_code 2 none : Cond) ∈ TW := tw_t (List.mem_of_getElem? (i := 199) (by decide +kernel)) rfl
theorem mt_200 : (.methodLink "java/lang/RuntimeException" 7 ⟨"java/lang/Exception", "<init>", "(Ljava/lang/String;)V"⟩ : Cond) ∈ TW := tw_t (List.mem_of_getElem? (i := 200) (by decide +kernel)) rfl
theorem mt_201 : (.instanceMethod ⟨"java/lang/Exception", "<init>", "(Ljava/lang/String;)V"⟩ : Cond) ∈ TW := tw_t (List.mem_of_getElem? (i := 201) (by decide +kernel)) rfl
theorem mt_202 : (.code ⟨"java/lang/Exception", "<init>", "(Ljava/lang/String;)V"⟩ prog_7_method_2_code 2 none : Cond) ∈ TW := tw_t (List.mem_of_getElem? (i := 202) (by decide +kernel)) rfl
theorem mt_203 : (.methodLink "java/lang/Exception" 7 ⟨"java/lang/Throwable", "<init>", "(Ljava/lang/String;)V"⟩ : Cond) ∈ TW := tw_t (List.mem_of_getElem? (i := 203) (by decide +kernel)) rfl
theorem mt_204 : (.instanceMethod ⟨"java/lang/Throwable", "<init>", "(Ljava/lang/String;)V"⟩ : Cond) ∈ TW := tw_t (List.mem_of_getElem? (i := 204) (by decide +kernel)) rfl
theorem mt_205 : (.code ⟨"java/lang/Throwable", "<init>", "(Ljava/lang/String;)V"⟩ prog_14_method_2_code 2 none : Cond) ∈ TW := tw_t (List.mem_of_getElem? (i := 205) (by decide +kernel)) rfl
theorem mt_206 : (.fieldLink "java/lang/Throwable" 198 "java/lang/Throwable" "backtrace" "Ljava/lang/Object;" : Cond) ∈ TW := tw_t (List.mem_of_getElem? (i := 206) (by decide +kernel)) rfl
theorem mt_207 : (.fieldLink "java/lang/Throwable" 31 "java/lang/Throwable" "detailMessage" "Ljava/lang/String;" : Cond) ∈ TW := tw_t (List.mem_of_getElem? (i := 207) (by decide +kernel)) rfl
theorem mt_208 : (.fieldLink "java/lang/Throwable" 7 "java/lang/Throwable" "cause" "Ljava/lang/Throwable;" : Cond) ∈ TW := tw_t (List.mem_of_getElem? (i := 208) (by decide +kernel)) rfl
theorem mt_209 : (.fieldLink "java/lang/Throwable" 17 "java/lang/Throwable" "stackTrace" "[Ljava/lang/StackTraceElement;" : Cond) ∈ TW := tw_t (List.mem_of_getElem? (i := 209) (by decide +kernel)) rfl
theorem mt_210 : (.fieldLink "java/lang/Throwable" 24 "java/lang/Throwable" "suppressedExceptions" "Ljava/util/List;" : Cond) ∈ TW := tw_t (List.mem_of_getElem? (i := 210) (by decide +kernel)) rfl
theorem mt_211 : (.soleField "java/lang/Throwable" "backtrace" : Cond) ∈ TW := tw_t (List.mem_of_getElem? (i := 211) (by decide +kernel)) rfl
theorem mt_212 : (.soleField "java/lang/Throwable" "detailMessage" : Cond) ∈ TW := tw_t (List.mem_of_getElem? (i := 212) (by decide +kernel)) rfl
theorem mt_213 : (.soleField "java/lang/Throwable" "cause" : Cond) ∈ TW := tw_t (List.mem_of_getElem? (i := 213) (by decide +kernel)) rfl
theorem mt_214 : (.soleField "java/lang/Throwable" "stackTrace" : Cond) ∈ TW := tw_t (List.mem_of_getElem? (i := 214) (by decide +kernel)) rfl
theorem mt_215 : (.lays "java/lang/IllegalArgumentException" "java/lang/Throwable" "depth" "I" : Cond) ∈ TW := tw_t (List.mem_of_getElem? (i := 215) (by decide +kernel)) rfl
theorem mt_216 : (.soleField "java/lang/Throwable" "depth" : Cond) ∈ TW := tw_t (List.mem_of_getElem? (i := 216) (by decide +kernel)) rfl
theorem mt_217 : (.soleField "java/lang/Throwable" "suppressedExceptions" : Cond) ∈ TW := tw_t (List.mem_of_getElem? (i := 217) (by decide +kernel)) rfl
theorem mt_218 : (.superclass "java/lang/IllegalArgumentException" "java/lang/RuntimeException" : Cond) ∈ TW := tw_t (List.mem_of_getElem? (i := 218) (by decide +kernel)) rfl
theorem mt_219 : (.arrayClass .byte : Cond) ∈ TW := tw_t (List.mem_of_getElem? (i := 219) (by decide +kernel)) rfl
theorem mt_220 : (.methodLink "LayerQuantities" 85 ⟨"LayerQuantities", "need", "(I)J"⟩ : Cond) ∈ TW := tw_t (List.mem_of_getElem? (i := 220) (by decide +kernel)) rfl
theorem mt_221 : (.instanceMethod ⟨"LayerQuantities", "need", "(I)J"⟩ : Cond) ∈ TW := tw_t (List.mem_of_getElem? (i := 221) (by decide +kernel)) rfl
theorem mt_222 : (.selects "LayerQuantities" ⟨"LayerQuantities", "need", "(I)J"⟩ ⟨"LayerQuantities", "need", "(I)J"⟩ : Cond) ∈ TW := tw_t (List.mem_of_getElem? (i := 222) (by decide +kernel)) rfl
theorem mt_223 : (.code ⟨"LayerQuantities", "need", "(I)J"⟩ prog_1_method_7_code 5 (some (.long)) : Cond) ∈ TW := tw_t (List.mem_of_getElem? (i := 223) (by decide +kernel)) rfl
theorem mt_224 : (.methodLink "LayerQuantities" 72 ⟨"LayerQuantities", "ratioRoundedUp", "(JI)J"⟩ : Cond) ∈ TW := tw_t (List.mem_of_getElem? (i := 224) (by decide +kernel)) rfl
theorem mt_225 : (.static ⟨"LayerQuantities", "ratioRoundedUp", "(JI)J"⟩ : Cond) ∈ TW := tw_t (List.mem_of_getElem? (i := 225) (by decide +kernel)) rfl
theorem mt_226 : (.code ⟨"LayerQuantities", "ratioRoundedUp", "(JI)J"⟩ prog_1_method_21_code 3 (some (.long)) : Cond) ∈ TW := tw_t (List.mem_of_getElem? (i := 226) (by decide +kernel)) rfl
theorem mt_227 : (.methodLinkNest "LayerQuantities" 93 ⟨"LayerQuantities$Shelf", "priceFor", "(J)I"⟩ "LayerQuantities" : Cond) ∈ TW := tw_t (List.mem_of_getElem? (i := 227) (by decide +kernel)) rfl
theorem mt_228 : (.privateMethod ⟨"LayerQuantities$Shelf", "priceFor", "(J)I"⟩ : Cond) ∈ TW := tw_t (List.mem_of_getElem? (i := 228) (by decide +kernel)) rfl
theorem mt_229 : (.instanceMethod ⟨"LayerQuantities$Shelf", "priceFor", "(J)I"⟩ : Cond) ∈ TW := tw_t (List.mem_of_getElem? (i := 229) (by decide +kernel)) rfl
theorem mt_230 : (.code ⟨"LayerQuantities$Shelf", "priceFor", "(J)I"⟩ prog_3_method_5_code 3 (some (.int)) : Cond) ∈ TW := tw_t (List.mem_of_getElem? (i := 230) (by decide +kernel)) rfl
theorem mt_231 : (.methodLink "LayerQuantities$Shelf" 43 ⟨"LayerQuantities$Shelf", "search", "(J)V"⟩ : Cond) ∈ TW := tw_t (List.mem_of_getElem? (i := 231) (by decide +kernel)) rfl
theorem mt_232 : (.privateMethod ⟨"LayerQuantities$Shelf", "search", "(J)V"⟩ : Cond) ∈ TW := tw_t (List.mem_of_getElem? (i := 232) (by decide +kernel)) rfl
theorem mt_233 : (.instanceMethod ⟨"LayerQuantities$Shelf", "search", "(J)V"⟩ : Cond) ∈ TW := tw_t (List.mem_of_getElem? (i := 233) (by decide +kernel)) rfl
theorem mt_234 : (.code ⟨"LayerQuantities$Shelf", "search", "(J)V"⟩ prog_3_method_6_code 3 none : Cond) ∈ TW := tw_t (List.mem_of_getElem? (i := 234) (by decide +kernel)) rfl
theorem mt_235 : (.methodLink "LayerQuantities$Shelf" 51 ⟨"LayerQuantities$Shelf", "priceOfOneKind", "(J)I"⟩ : Cond) ∈ TW := tw_t (List.mem_of_getElem? (i := 235) (by decide +kernel)) rfl
theorem mt_236 : (.privateMethod ⟨"LayerQuantities$Shelf", "priceOfOneKind", "(J)I"⟩ : Cond) ∈ TW := tw_t (List.mem_of_getElem? (i := 236) (by decide +kernel)) rfl
theorem mt_237 : (.instanceMethod ⟨"LayerQuantities$Shelf", "priceOfOneKind", "(J)I"⟩ : Cond) ∈ TW := tw_t (List.mem_of_getElem? (i := 237) (by decide +kernel)) rfl
theorem mt_238 : (.code ⟨"LayerQuantities$Shelf", "priceOfOneKind", "(J)I"⟩ prog_3_method_7_code 8 (some (.int)) : Cond) ∈ TW := tw_t (List.mem_of_getElem? (i := 238) (by decide +kernel)) rfl
theorem mt_239 : (.constantLong "LayerQuantities$Shelf" 68 (6000001) : Cond) ∈ TW := tw_t (List.mem_of_getElem? (i := 239) (by decide +kernel)) rfl
theorem mt_240 : (.methodLinkNest "LayerQuantities$Shelf" 70 ⟨"LayerQuantities", "ratioRoundedUp", "(JI)J"⟩ "LayerQuantities" : Cond) ∈ TW := tw_t (List.mem_of_getElem? (i := 240) (by decide +kernel)) rfl
theorem mt_241 : (.constantLong "LayerQuantities$Shelf" 74 (60) : Cond) ∈ TW := tw_t (List.mem_of_getElem? (i := 241) (by decide +kernel)) rfl
theorem mt_242 : (.methodLink "LayerQuantities$Shelf" 76 ⟨"java/lang/Math", "min", "(JJ)J"⟩ : Cond) ∈ TW := tw_t (List.mem_of_getElem? (i := 242) (by decide +kernel)) rfl
theorem mt_243 : (.static ⟨"java/lang/Math", "min", "(JJ)J"⟩ : Cond) ∈ TW := tw_t (List.mem_of_getElem? (i := 243) (by decide +kernel)) rfl
theorem mt_244 : (.code ⟨"java/lang/Math", "min", "(JJ)J"⟩ prog_10_method_70_code 4 (some (.long)) : Cond) ∈ TW := tw_t (List.mem_of_getElem? (i := 244) (by decide +kernel)) rfl
theorem mt_245 : (.methodLink "LayerQuantities$Shelf" 58 ⟨"java/util/Arrays", "fill", "([II)V"⟩ : Cond) ∈ TW := tw_t (List.mem_of_getElem? (i := 245) (by decide +kernel)) rfl
theorem mt_246 : (.static ⟨"java/util/Arrays", "fill", "([II)V"⟩ : Cond) ∈ TW := tw_t (List.mem_of_getElem? (i := 246) (by decide +kernel)) rfl
theorem mt_247 : (.code ⟨"java/util/Arrays", "fill", "([II)V"⟩ prog_15_method_103_code 4 none : Cond) ∈ TW := tw_t (List.mem_of_getElem? (i := 247) (by decide +kernel)) rfl
theorem mt_248 : (.methodLink "LayerQuantities$Shelf" 64 ⟨"LayerQuantities$Shelf", "tryKind", "(IJII)V"⟩ : Cond) ∈ TW := tw_t (List.mem_of_getElem? (i := 248) (by decide +kernel)) rfl
theorem mt_249 : (.privateMethod ⟨"LayerQuantities$Shelf", "tryKind", "(IJII)V"⟩ : Cond) ∈ TW := tw_t (List.mem_of_getElem? (i := 249) (by decide +kernel)) rfl
theorem mt_250 : (.instanceMethod ⟨"LayerQuantities$Shelf", "tryKind", "(IJII)V"⟩ : Cond) ∈ TW := tw_t (List.mem_of_getElem? (i := 250) (by decide +kernel)) rfl
theorem mt_251 : (.code ⟨"LayerQuantities$Shelf", "tryKind", "(IJII)V"⟩ prog_3_method_8_code 11 none : Cond) ∈ TW := tw_t (List.mem_of_getElem? (i := 251) (by decide +kernel)) rfl
theorem mt_252 : (.methodLink "LayerQuantities$Shelf" 82 ⟨"LayerQuantities$Shelf", "keepIfBetter", "(II)V"⟩ : Cond) ∈ TW := tw_t (List.mem_of_getElem? (i := 252) (by decide +kernel)) rfl
theorem mt_253 : (.privateMethod ⟨"LayerQuantities$Shelf", "keepIfBetter", "(II)V"⟩ : Cond) ∈ TW := tw_t (List.mem_of_getElem? (i := 253) (by decide +kernel)) rfl
theorem mt_254 : (.instanceMethod ⟨"LayerQuantities$Shelf", "keepIfBetter", "(II)V"⟩ : Cond) ∈ TW := tw_t (List.mem_of_getElem? (i := 254) (by decide +kernel)) rfl
theorem mt_255 : (.code ⟨"LayerQuantities$Shelf", "keepIfBetter", "(II)V"⟩ prog_3_method_11_code 3 none : Cond) ∈ TW := tw_t (List.mem_of_getElem? (i := 255) (by decide +kernel)) rfl
theorem mt_256 : (.methodLink "LayerQuantities$Shelf" 90 ⟨"LayerQuantities$Shelf", "isBetter", "(JJ)Z"⟩ : Cond) ∈ TW := tw_t (List.mem_of_getElem? (i := 256) (by decide +kernel)) rfl
theorem mt_257 : (.privateMethod ⟨"LayerQuantities$Shelf", "isBetter", "(JJ)Z"⟩ : Cond) ∈ TW := tw_t (List.mem_of_getElem? (i := 257) (by decide +kernel)) rfl
theorem mt_258 : (.instanceMethod ⟨"LayerQuantities$Shelf", "isBetter", "(JJ)Z"⟩ : Cond) ∈ TW := tw_t (List.mem_of_getElem? (i := 258) (by decide +kernel)) rfl
theorem mt_259 : (.code ⟨"LayerQuantities$Shelf", "isBetter", "(JJ)Z"⟩ prog_3_method_10_code 5 (some (.boolean)) : Cond) ∈ TW := tw_t (List.mem_of_getElem? (i := 259) (by decide +kernel)) rfl
theorem mt_260 : (.methodLink "LayerQuantities$Shelf" 94 ⟨"java/lang/System", "arraycopy", "(Ljava/lang/Object;ILjava/lang/Object;II)V"⟩ : Cond) ∈ TW := tw_t (List.mem_of_getElem? (i := 260) (by decide +kernel)) rfl
theorem mt_261 : (.static ⟨"java/lang/System", "arraycopy", "(Ljava/lang/Object;ILjava/lang/Object;II)V"⟩ : Cond) ∈ TW := tw_t (List.mem_of_getElem? (i := 261) (by decide +kernel)) rfl
theorem mt_262 : (.native ⟨"java/lang/System", "arraycopy", "(Ljava/lang/Object;ILjava/lang/Object;II)V"⟩ : Cond) ∈ TW := tw_t (List.mem_of_getElem? (i := 262) (by decide +kernel)) rfl
theorem mt_263 : (.methodLink "LayerQuantities$Shelf" 86 ⟨"LayerQuantities$Shelf", "isHopeless", "(IJII)Z"⟩ : Cond) ∈ TW := tw_t (List.mem_of_getElem? (i := 263) (by decide +kernel)) rfl
theorem mt_264 : (.privateMethod ⟨"LayerQuantities$Shelf", "isHopeless", "(IJII)Z"⟩ : Cond) ∈ TW := tw_t (List.mem_of_getElem? (i := 264) (by decide +kernel)) rfl
theorem mt_265 : (.instanceMethod ⟨"LayerQuantities$Shelf", "isHopeless", "(IJII)Z"⟩ : Cond) ∈ TW := tw_t (List.mem_of_getElem? (i := 265) (by decide +kernel)) rfl
theorem mt_266 : (.code ⟨"LayerQuantities$Shelf", "isHopeless", "(IJII)Z"⟩ prog_3_method_9_code 11 (some (.boolean)) : Cond) ∈ TW := tw_t (List.mem_of_getElem? (i := 266) (by decide +kernel)) rfl
theorem mt_267 : (.constant "LayerQuantities$Shelf" 50 (6000001) : Cond) ∈ TW := tw_t (List.mem_of_getElem? (i := 267) (by decide +kernel)) rfl
theorem mt_268 : (.constantLong "LayerQuantities" 100 (-1) : Cond) ∈ TW := tw_t (List.mem_of_getElem? (i := 268) (by decide +kernel)) rfl
theorem mt_269 : (.methodLink "LayerQuantitiesLaw" 114 ⟨"LayerQuantities", "plan", "()I"⟩ : Cond) ∈ TW := tw_t (List.mem_of_getElem? (i := 269) (by decide +kernel)) rfl
theorem mt_270 : (.instanceMethod ⟨"LayerQuantities", "plan", "()I"⟩ : Cond) ∈ TW := tw_t (List.mem_of_getElem? (i := 270) (by decide +kernel)) rfl
theorem mt_271 : (.selects "LayerQuantities" ⟨"LayerQuantities", "plan", "()I"⟩ ⟨"LayerQuantities", "plan", "()I"⟩ : Cond) ∈ TW := tw_t (List.mem_of_getElem? (i := 271) (by decide +kernel)) rfl
theorem mt_272 : (.code ⟨"LayerQuantities", "plan", "()I"⟩ prog_1_method_15_code 1 (some (.int)) : Cond) ∈ TW := tw_t (List.mem_of_getElem? (i := 272) (by decide +kernel)) rfl
theorem mt_273 : (.methodLinkNest "LayerQuantities" 123 ⟨"LayerQuantities$Saw", "makePlan", "()V"⟩ "LayerQuantities" : Cond) ∈ TW := tw_t (List.mem_of_getElem? (i := 273) (by decide +kernel)) rfl
theorem mt_274 : (.privateMethod ⟨"LayerQuantities$Saw", "makePlan", "()V"⟩ : Cond) ∈ TW := tw_t (List.mem_of_getElem? (i := 274) (by decide +kernel)) rfl
theorem mt_275 : (.instanceMethod ⟨"LayerQuantities$Saw", "makePlan", "()V"⟩ : Cond) ∈ TW := tw_t (List.mem_of_getElem? (i := 275) (by decide +kernel)) rfl
theorem mt_276 : (.code ⟨"LayerQuantities$Saw", "makePlan", "()V"⟩ prog_2_method_6_code 1 none : Cond) ∈ TW := tw_t (List.mem_of_getElem? (i := 276) (by decide +kernel)) rfl
theorem mt_277 : (.methodLink "LayerQuantities$Saw" 47 ⟨"LayerQuantities$Saw", "sumFromBehind", "()V"⟩ : Cond) ∈ TW := tw_t (List.mem_of_getElem? (i := 277) (by decide +kernel)) rfl
theorem mt_278 : (.privateMethod ⟨"LayerQuantities$Saw", "sumFromBehind", "()V"⟩ : Cond) ∈ TW := tw_t (List.mem_of_getElem? (i := 278) (by decide +kernel)) rfl
theorem mt_279 : (.instanceMethod ⟨"LayerQuantities$Saw", "sumFromBehind", "()V"⟩ : Cond) ∈ TW := tw_t (List.mem_of_getElem? (i := 279) (by decide +kernel)) rfl
theorem mt_280 : (.code ⟨"LayerQuantities$Saw", "sumFromBehind", "()V"⟩ prog_2_method_7_code 4 none : Cond) ∈ TW := tw_t (List.mem_of_getElem? (i := 280) (by decide +kernel)) rfl
theorem mt_281 : (.methodLink "LayerQuantities$Saw" 57 ⟨"java/lang/Math", "min", "(II)I"⟩ : Cond) ∈ TW := tw_t (List.mem_of_getElem? (i := 281) (by decide +kernel)) rfl
theorem mt_282 : (.static ⟨"java/lang/Math", "min", "(II)I"⟩ : Cond) ∈ TW := tw_t (List.mem_of_getElem? (i := 282) (by decide +kernel)) rfl
theorem mt_283 : (.code ⟨"java/lang/Math", "min", "(II)I"⟩ prog_10_method_69_code 2 (some (.int)) : Cond) ∈ TW := tw_t (List.mem_of_getElem? (i := 283) (by decide +kernel)) rfl
theorem mt_284 : (.methodLink "LayerQuantities$Saw" 53 ⟨"LayerQuantities$Saw", "placeAll", "()Z"⟩ : Cond) ∈ TW := tw_t (List.mem_of_getElem? (i := 284) (by decide +kernel)) rfl
theorem mt_285 : (.privateMethod ⟨"LayerQuantities$Saw", "placeAll", "()Z"⟩ : Cond) ∈ TW := tw_t (List.mem_of_getElem? (i := 285) (by decide +kernel)) rfl
theorem mt_286 : (.instanceMethod ⟨"LayerQuantities$Saw", "placeAll", "()Z"⟩ : Cond) ∈ TW := tw_t (List.mem_of_getElem? (i := 286) (by decide +kernel)) rfl
theorem mt_287 : (.code ⟨"LayerQuantities$Saw", "placeAll", "()Z"⟩ prog_2_method_8_code 1 (some (.boolean)) : Cond) ∈ TW := tw_t (List.mem_of_getElem? (i := 287) (by decide +kernel)) rfl
theorem mt_288 : (.methodLink "LayerQuantities$Saw" 60 ⟨"java/util/Arrays", "fill", "([II)V"⟩ : Cond) ∈ TW := tw_t (List.mem_of_getElem? (i := 288) (by decide +kernel)) rfl
theorem mt_289 : (.methodLink "LayerQuantities$Saw" 66 ⟨"LayerQuantities$Saw", "placeFrom", "(I)Z"⟩ : Cond) ∈ TW := tw_t (List.mem_of_getElem? (i := 289) (by decide +kernel)) rfl
theorem mt_290 : (.privateMethod ⟨"LayerQuantities$Saw", "placeFrom", "(I)Z"⟩ : Cond) ∈ TW := tw_t (List.mem_of_getElem? (i := 290) (by decide +kernel)) rfl
theorem mt_291 : (.instanceMethod ⟨"LayerQuantities$Saw", "placeFrom", "(I)Z"⟩ : Cond) ∈ TW := tw_t (List.mem_of_getElem? (i := 291) (by decide +kernel)) rfl
theorem mt_292 : (.code ⟨"LayerQuantities$Saw", "placeFrom", "(I)Z"⟩ prog_2_method_9_code 4 (some (.boolean)) : Cond) ∈ TW := tw_t (List.mem_of_getElem? (i := 292) (by decide +kernel)) rfl
theorem mt_293 : (.methodLink "LayerQuantities$Saw" 70 ⟨"LayerQuantities$Saw", "usable", "(I)I"⟩ : Cond) ∈ TW := tw_t (List.mem_of_getElem? (i := 293) (by decide +kernel)) rfl
theorem mt_294 : (.privateMethod ⟨"LayerQuantities$Saw", "usable", "(I)I"⟩ : Cond) ∈ TW := tw_t (List.mem_of_getElem? (i := 294) (by decide +kernel)) rfl
theorem mt_295 : (.instanceMethod ⟨"LayerQuantities$Saw", "usable", "(I)I"⟩ : Cond) ∈ TW := tw_t (List.mem_of_getElem? (i := 295) (by decide +kernel)) rfl
theorem mt_296 : (.code ⟨"LayerQuantities$Saw", "usable", "(I)I"⟩ prog_2_method_10_code 4 (some (.int)) : Cond) ∈ TW := tw_t (List.mem_of_getElem? (i := 296) (by decide +kernel)) rfl
theorem mt_297 : (.methodLink "LayerQuantities$Saw" 74 ⟨"LayerQuantities$Saw", "isLikeEarlier", "(I)Z"⟩ : Cond) ∈ TW := tw_t (List.mem_of_getElem? (i := 297) (by decide +kernel)) rfl
theorem mt_298 : (.privateMethod ⟨"LayerQuantities$Saw", "isLikeEarlier", "(I)Z"⟩ : Cond) ∈ TW := tw_t (List.mem_of_getElem? (i := 298) (by decide +kernel)) rfl
theorem mt_299 : (.instanceMethod ⟨"LayerQuantities$Saw", "isLikeEarlier", "(I)Z"⟩ : Cond) ∈ TW := tw_t (List.mem_of_getElem? (i := 299) (by decide +kernel)) rfl
theorem mt_300 : (.code ⟨"LayerQuantities$Saw", "isLikeEarlier", "(I)Z"⟩ prog_2_method_11_code 3 (some (.boolean)) : Cond) ∈ TW := tw_t (List.mem_of_getElem? (i := 300) (by decide +kernel)) rfl
theorem mt_301 : (.methodLink "LayerQuantitiesLaw" 64 ⟨"LayerQuantitiesLaw", "wall", "(LLayerQuantities;II[J)I"⟩ : Cond) ∈ TW := tw_t (List.mem_of_getElem? (i := 301) (by decide +kernel)) rfl
theorem mt_302 : (.static ⟨"LayerQuantitiesLaw", "wall", "(LLayerQuantities;II[J)I"⟩ : Cond) ∈ TW := tw_t (List.mem_of_getElem? (i := 302) (by decide +kernel)) rfl
theorem mt_303 : (.codeWith ⟨"LayerQuantitiesLaw", "wall", "(LLayerQuantities;II[J)I"⟩ method_3_code 5 (some (.int)) [(0, 10, 13, 13), (0, 10, 17, 15)] : Cond) ∈ TW := tw_t (List.mem_of_getElem? (i := 303) (by decide +kernel)) rfl
theorem mt_304 : (.classLink "LayerQuantitiesLaw" 13 "java/lang/IllegalArgumentException" : Cond) ∈ TW := tw_t (List.mem_of_getElem? (i := 304) (by decide +kernel)) rfl
theorem mt_305 : (.classLink "LayerQuantitiesLaw" 15 "java/lang/IllegalStateException" : Cond) ∈ TW := tw_t (List.mem_of_getElem? (i := 305) (by decide +kernel)) rfl
theorem mt_306 : (.methodLink "LayerQuantitiesLaw" 7 ⟨"LayerQuantities", "wall", "(II)I"⟩ : Cond) ∈ TW := tw_t (List.mem_of_getElem? (i := 306) (by decide +kernel)) rfl
theorem mt_307 : (.instanceMethod ⟨"LayerQuantities", "wall", "(II)I"⟩ : Cond) ∈ TW := tw_t (List.mem_of_getElem? (i := 307) (by decide +kernel)) rfl
theorem mt_308 : (.selects "LayerQuantities" ⟨"LayerQuantities", "wall", "(II)I"⟩ ⟨"LayerQuantities", "wall", "(II)I"⟩ : Cond) ∈ TW := tw_t (List.mem_of_getElem? (i := 308) (by decide +kernel)) rfl
theorem mt_309 : (.code ⟨"LayerQuantities", "wall", "(II)I"⟩ prog_1_method_2_code 3 (some (.int)) : Cond) ∈ TW := tw_t (List.mem_of_getElem? (i := 309) (by decide +kernel)) rfl
theorem mt_310 : (.methodLink "LayerQuantities" 34 ⟨"LayerQuantities", "checkBounds", "(III)V"⟩ : Cond) ∈ TW := tw_t (List.mem_of_getElem? (i := 310) (by decide +kernel)) rfl
theorem mt_311 : (.static ⟨"LayerQuantities", "checkBounds", "(III)V"⟩ : Cond) ∈ TW := tw_t (List.mem_of_getElem? (i := 311) (by decide +kernel)) rfl
theorem mt_312 : (.code ⟨"LayerQuantities", "checkBounds", "(III)V"⟩ prog_1_method_18_code 3 none : Cond) ∈ TW := tw_t (List.mem_of_getElem? (i := 312) (by decide +kernel)) rfl
theorem mt_313 : (.stringRef "LayerQuantities" 137 "a number is out of its bounds" : Cond) ∈ TW := tw_t (List.mem_of_getElem? (i := 313) (by decide +kernel)) rfl
theorem mt_314 : (.methodLink "LayerQuantities" 42 ⟨"LayerQuantities", "checkSpace", "(II)V"⟩ : Cond) ∈ TW := tw_t (List.mem_of_getElem? (i := 314) (by decide +kernel)) rfl
theorem mt_315 : (.static ⟨"LayerQuantities", "checkSpace", "(II)V"⟩ : Cond) ∈ TW := tw_t (List.mem_of_getElem? (i := 315) (by decide +kernel)) rfl
theorem mt_316 : (.code ⟨"LayerQuantities", "checkSpace", "(II)V"⟩ prog_1_method_20_code 2 none : Cond) ∈ TW := tw_t (List.mem_of_getElem? (i := 316) (by decide +kernel)) rfl
theorem mt_317 : (.classLink "LayerQuantities" 55 "java/lang/IllegalStateException" : Cond) ∈ TW := tw_t (List.mem_of_getElem? (i := 317) (by decide +kernel)) rfl
theorem mt_318 : (.instantiable "java/lang/IllegalStateException" 6 : Cond) ∈ TW := tw_t (List.mem_of_getElem? (i := 318) (by decide +kernel)) rfl
theorem mt_319 : (.castable "java/lang/IllegalStateException" "java/lang/IllegalStateException" : Cond) ∈ TW := tw_t (List.mem_of_getElem? (i := 319) (by decide +kernel)) rfl
theorem mt_320 : (.selects "java/lang/IllegalStateException" ⟨"java/lang/Throwable", "fillInStackTrace", "(I)Ljava/lang/Throwable;"⟩ ⟨"java/lang/Throwable", "fillInStackTrace", "(I)Ljava/lang/Throwable;"⟩ : Cond) ∈ TW := tw_t (List.mem_of_getElem? (i := 320) (by decide +kernel)) rfl
theorem mt_321 : (.lays "java/lang/IllegalStateException" "java/lang/Throwable" "cause" "Ljava/lang/Throwable;" : Cond) ∈ TW := tw_t (List.mem_of_getElem? (i := 321) (by decide +kernel)) rfl
theorem mt_322 : (.lays "java/lang/IllegalStateException" "java/lang/Throwable" "stackTrace" "[Ljava/lang/StackTraceElement;" : Cond) ∈ TW := tw_t (List.mem_of_getElem? (i := 322) (by decide +kernel)) rfl
theorem mt_323 : (.lays "java/lang/IllegalStateException" "java/lang/Throwable" "suppressedExceptions" "Ljava/util/List;" : Cond) ∈ TW := tw_t (List.mem_of_getElem? (i := 323) (by decide +kernel)) rfl
theorem mt_324 : (.lays "java/lang/IllegalStateException" "java/lang/Throwable" "detailMessage" "Ljava/lang/String;" : Cond) ∈ TW := tw_t (List.mem_of_getElem? (i := 324) (by decide +kernel)) rfl
theorem mt_325 : (.lays "java/lang/IllegalStateException" "java/lang/Throwable" "backtrace" "Ljava/lang/Object;" : Cond) ∈ TW := tw_t (List.mem_of_getElem? (i := 325) (by decide +kernel)) rfl
theorem mt_326 : (.stringRef "LayerQuantities" 142 "there are as many as there may be" : Cond) ∈ TW := tw_t (List.mem_of_getElem? (i := 326) (by decide +kernel)) rfl
theorem mt_327 : (.methodLink "LayerQuantities" 59 ⟨"java/lang/IllegalStateException", "<init>", "(Ljava/lang/String;)V"⟩ : Cond) ∈ TW := tw_t (List.mem_of_getElem? (i := 327) (by decide +kernel)) rfl
theorem mt_328 : (.instanceMethod ⟨"java/lang/IllegalStateException", "<init>", "(Ljava/lang/String;)V"⟩ : Cond) ∈ TW := tw_t (List.mem_of_getElem? (i := 328) (by decide +kernel)) rfl
theorem mt_329 : (.code ⟨"java/lang/IllegalStateException", "<init>", "(Ljava/lang/String;)V"⟩ prog_9_method_2_code 2 none : Cond) ∈ TW := tw_t (List.mem_of_getElem? (i := 329) (by decide +kernel)) rfl
theorem mt_330 : (.methodLink "java/lang/IllegalStateException" 7 ⟨"java/lang/RuntimeException", "<init>", "(Ljava/lang/String;)V"⟩ : Cond) ∈ TW := tw_t (List.mem_of_getElem? (i := 330) (by decide +kernel)) rfl
theorem mt_331 : (.lays "java/lang/IllegalStateException" "java/lang/Throwable" "depth" "I" : Cond) ∈ TW := tw_t (List.mem_of_getElem? (i := 331) (by decide +kernel)) rfl
theorem mt_332 : (.superclass "java/lang/IllegalStateException" "java/lang/RuntimeException" : Cond) ∈ TW := tw_t (List.mem_of_getElem? (i := 332) (by decide +kernel)) rfl
theorem mt_333 : (.methodLink "LayerQuantitiesLaw" 74 ⟨"LayerQuantitiesLaw", "opening", "(LLayerQuantities;III[J)I"⟩ : Cond) ∈ TW := tw_t (List.mem_of_getElem? (i := 333) (by decide +kernel)) rfl
theorem mt_334 : (.static ⟨"LayerQuantitiesLaw", "opening", "(LLayerQuantities;III[J)I"⟩ : Cond) ∈ TW := tw_t (List.mem_of_getElem? (i := 334) (by decide +kernel)) rfl
theorem mt_335 : (.codeWith ⟨"LayerQuantitiesLaw", "opening", "(LLayerQuantities;III[J)I"⟩ method_4_code 6 (some (.int)) [(0, 12, 15, 13), (0, 12, 19, 15)] : Cond) ∈ TW := tw_t (List.mem_of_getElem? (i := 335) (by decide +kernel)) rfl
theorem mt_336 : (.methodLink "LayerQuantitiesLaw" 17 ⟨"LayerQuantities", "opening", "(III)I"⟩ : Cond) ∈ TW := tw_t (List.mem_of_getElem? (i := 336) (by decide +kernel)) rfl
theorem mt_337 : (.instanceMethod ⟨"LayerQuantities", "opening", "(III)I"⟩ : Cond) ∈ TW := tw_t (List.mem_of_getElem? (i := 337) (by decide +kernel)) rfl
theorem mt_338 : (.selects "LayerQuantities" ⟨"LayerQuantities", "opening", "(III)I"⟩ ⟨"LayerQuantities", "opening", "(III)I"⟩ : Cond) ∈ TW := tw_t (List.mem_of_getElem? (i := 338) (by decide +kernel)) rfl
end
section
theorem mt_339 : (.code ⟨"LayerQuantities", "opening", "(III)I"⟩ prog_1_method_3_code 5 (some (.int)) : Cond) ∈ TW := tw_t (List.mem_of_getElem? (i := 339) (by decide +kernel)) rfl
theorem mt_340 : (.stringRef "LayerQuantities" 57 "the wall's area would come below 0" : Cond) ∈ TW := tw_t (List.mem_of_getElem? (i := 340) (by decide +kernel)) rfl
theorem mt_341 : (.methodLink "LayerQuantitiesLaw" 78 ⟨"LayerQuantitiesLaw", "layer", "(LLayerQuantities;III[J)I"⟩ : Cond) ∈ TW := tw_t (List.mem_of_getElem? (i := 341) (by decide +kernel)) rfl
theorem mt_342 : (.static ⟨"LayerQuantitiesLaw", "layer", "(LLayerQuantities;III[J)I"⟩ : Cond) ∈ TW := tw_t (List.mem_of_getElem? (i := 342) (by decide +kernel)) rfl
theorem mt_343 : (.codeWith ⟨"LayerQuantitiesLaw", "layer", "(LLayerQuantities;III[J)I"⟩ method_5_code 6 (some (.int)) [(0, 12, 15, 13), (0, 12, 19, 15)] : Cond) ∈ TW := tw_t (List.mem_of_getElem? (i := 343) (by decide +kernel)) rfl
theorem mt_344 : (.methodLink "LayerQuantitiesLaw" 21 ⟨"LayerQuantities", "layer", "(III)I"⟩ : Cond) ∈ TW := tw_t (List.mem_of_getElem? (i := 344) (by decide +kernel)) rfl
theorem mt_345 : (.instanceMethod ⟨"LayerQuantities", "layer", "(III)I"⟩ : Cond) ∈ TW := tw_t (List.mem_of_getElem? (i := 345) (by decide +kernel)) rfl
theorem mt_346 : (.selects "LayerQuantities" ⟨"LayerQuantities", "layer", "(III)I"⟩ ⟨"LayerQuantities", "layer", "(III)I"⟩ : Cond) ∈ TW := tw_t (List.mem_of_getElem? (i := 346) (by decide +kernel)) rfl
theorem mt_347 : (.code ⟨"LayerQuantities", "layer", "(III)I"⟩ prog_1_method_4_code 5 (some (.int)) : Cond) ∈ TW := tw_t (List.mem_of_getElem? (i := 347) (by decide +kernel)) rfl
theorem mt_348 : (.methodLink "LayerQuantitiesLaw" 81 ⟨"LayerQuantitiesLaw", "waste", "(LLayerQuantities;II[J)I"⟩ : Cond) ∈ TW := tw_t (List.mem_of_getElem? (i := 348) (by decide +kernel)) rfl
theorem mt_349 : (.static ⟨"LayerQuantitiesLaw", "waste", "(LLayerQuantities;II[J)I"⟩ : Cond) ∈ TW := tw_t (List.mem_of_getElem? (i := 349) (by decide +kernel)) rfl
theorem mt_350 : (.codeWith ⟨"LayerQuantitiesLaw", "waste", "(LLayerQuantities;II[J)I"⟩ method_6_code 5 (some (.int)) [(0, 10, 13, 13)] : Cond) ∈ TW := tw_t (List.mem_of_getElem? (i := 350) (by decide +kernel)) rfl
theorem mt_351 : (.methodLink "LayerQuantitiesLaw" 24 ⟨"LayerQuantities", "waste", "(II)I"⟩ : Cond) ∈ TW := tw_t (List.mem_of_getElem? (i := 351) (by decide +kernel)) rfl
theorem mt_352 : (.instanceMethod ⟨"LayerQuantities", "waste", "(II)I"⟩ : Cond) ∈ TW := tw_t (List.mem_of_getElem? (i := 352) (by decide +kernel)) rfl
theorem mt_353 : (.selects "LayerQuantities" ⟨"LayerQuantities", "waste", "(II)I"⟩ ⟨"LayerQuantities", "waste", "(II)I"⟩ : Cond) ∈ TW := tw_t (List.mem_of_getElem? (i := 353) (by decide +kernel)) rfl
theorem mt_354 : (.code ⟨"LayerQuantities", "waste", "(II)I"⟩ prog_1_method_5_code 4 (some (.int)) : Cond) ∈ TW := tw_t (List.mem_of_getElem? (i := 354) (by decide +kernel)) rfl
theorem mt_355 : (.methodLink "LayerQuantitiesLaw" 84 ⟨"LayerQuantitiesLaw", "told", "(LLayerQuantities;II[J)I"⟩ : Cond) ∈ TW := tw_t (List.mem_of_getElem? (i := 355) (by decide +kernel)) rfl
theorem mt_356 : (.static ⟨"LayerQuantitiesLaw", "told", "(LLayerQuantities;II[J)I"⟩ : Cond) ∈ TW := tw_t (List.mem_of_getElem? (i := 356) (by decide +kernel)) rfl
theorem mt_357 : (.codeWith ⟨"LayerQuantitiesLaw", "told", "(LLayerQuantities;II[J)I"⟩ method_7_code 5 (some (.int)) [(0, 10, 13, 13)] : Cond) ∈ TW := tw_t (List.mem_of_getElem? (i := 357) (by decide +kernel)) rfl
theorem mt_358 : (.methodLink "LayerQuantitiesLaw" 27 ⟨"LayerQuantities", "told", "(II)I"⟩ : Cond) ∈ TW := tw_t (List.mem_of_getElem? (i := 358) (by decide +kernel)) rfl
theorem mt_359 : (.instanceMethod ⟨"LayerQuantities", "told", "(II)I"⟩ : Cond) ∈ TW := tw_t (List.mem_of_getElem? (i := 359) (by decide +kernel)) rfl
theorem mt_360 : (.selects "LayerQuantities" ⟨"LayerQuantities", "told", "(II)I"⟩ ⟨"LayerQuantities", "told", "(II)I"⟩ : Cond) ∈ TW := tw_t (List.mem_of_getElem? (i := 360) (by decide +kernel)) rfl
theorem mt_361 : (.code ⟨"LayerQuantities", "told", "(II)I"⟩ prog_1_method_6_code 4 (some (.int)) : Cond) ∈ TW := tw_t (List.mem_of_getElem? (i := 361) (by decide +kernel)) rfl
theorem mt_362 : (.methodLinkNest "LayerQuantities" 68 ⟨"LayerQuantities$Wall", "wholeThickness", "()I"⟩ "LayerQuantities" : Cond) ∈ TW := tw_t (List.mem_of_getElem? (i := 362) (by decide +kernel)) rfl
theorem mt_363 : (.privateMethod ⟨"LayerQuantities$Wall", "wholeThickness", "()I"⟩ : Cond) ∈ TW := tw_t (List.mem_of_getElem? (i := 363) (by decide +kernel)) rfl
theorem mt_364 : (.instanceMethod ⟨"LayerQuantities$Wall", "wholeThickness", "()I"⟩ : Cond) ∈ TW := tw_t (List.mem_of_getElem? (i := 364) (by decide +kernel)) rfl
theorem mt_365 : (.code ⟨"LayerQuantities$Wall", "wholeThickness", "()I"⟩ prog_4_method_2_code 3 (some (.int)) : Cond) ∈ TW := tw_t (List.mem_of_getElem? (i := 365) (by decide +kernel)) rfl
theorem mt_366 : (.methodLink "LayerQuantitiesLaw" 87 ⟨"LayerQuantitiesLaw", "need", "(LLayerQuantities;I[J)I"⟩ : Cond) ∈ TW := tw_t (List.mem_of_getElem? (i := 366) (by decide +kernel)) rfl
theorem mt_367 : (.static ⟨"LayerQuantitiesLaw", "need", "(LLayerQuantities;I[J)I"⟩ : Cond) ∈ TW := tw_t (List.mem_of_getElem? (i := 367) (by decide +kernel)) rfl
theorem mt_368 : (.codeWith ⟨"LayerQuantitiesLaw", "need", "(LLayerQuantities;I[J)I"⟩ method_8_code 4 (some (.int)) [(0, 8, 11, 13)] : Cond) ∈ TW := tw_t (List.mem_of_getElem? (i := 368) (by decide +kernel)) rfl
theorem mt_369 : (.methodLink "LayerQuantitiesLaw" 30 ⟨"LayerQuantities", "need", "(I)J"⟩ : Cond) ∈ TW := tw_t (List.mem_of_getElem? (i := 369) (by decide +kernel)) rfl
theorem mt_370 : (.methodLink "LayerQuantitiesLaw" 91 ⟨"LayerQuantitiesLaw", "pack", "(LLayerQuantities;III[J)I"⟩ : Cond) ∈ TW := tw_t (List.mem_of_getElem? (i := 370) (by decide +kernel)) rfl
theorem mt_371 : (.static ⟨"LayerQuantitiesLaw", "pack", "(LLayerQuantities;III[J)I"⟩ : Cond) ∈ TW := tw_t (List.mem_of_getElem? (i := 371) (by decide +kernel)) rfl
theorem mt_372 : (.codeWith ⟨"LayerQuantitiesLaw", "pack", "(LLayerQuantities;III[J)I"⟩ method_9_code 6 (some (.int)) [(0, 12, 15, 13), (0, 12, 19, 15)] : Cond) ∈ TW := tw_t (List.mem_of_getElem? (i := 372) (by decide +kernel)) rfl
theorem mt_373 : (.methodLink "LayerQuantitiesLaw" 34 ⟨"LayerQuantities", "pack", "(III)I"⟩ : Cond) ∈ TW := tw_t (List.mem_of_getElem? (i := 373) (by decide +kernel)) rfl
theorem mt_374 : (.instanceMethod ⟨"LayerQuantities", "pack", "(III)I"⟩ : Cond) ∈ TW := tw_t (List.mem_of_getElem? (i := 374) (by decide +kernel)) rfl
theorem mt_375 : (.selects "LayerQuantities" ⟨"LayerQuantities", "pack", "(III)I"⟩ ⟨"LayerQuantities", "pack", "(III)I"⟩ : Cond) ∈ TW := tw_t (List.mem_of_getElem? (i := 375) (by decide +kernel)) rfl
theorem mt_376 : (.code ⟨"LayerQuantities", "pack", "(III)I"⟩ prog_1_method_8_code 4 (some (.int)) : Cond) ∈ TW := tw_t (List.mem_of_getElem? (i := 376) (by decide +kernel)) rfl
theorem mt_377 : (.constant "LayerQuantities" 76 (1000000000) : Cond) ∈ TW := tw_t (List.mem_of_getElem? (i := 377) (by decide +kernel)) rfl
theorem mt_378 : (.constant "LayerQuantities" 77 (100000) : Cond) ∈ TW := tw_t (List.mem_of_getElem? (i := 378) (by decide +kernel)) rfl
theorem mt_379 : (.methodLinkNest "LayerQuantities" 81 ⟨"LayerQuantities$Shelf", "stock", "(II)I"⟩ "LayerQuantities" : Cond) ∈ TW := tw_t (List.mem_of_getElem? (i := 379) (by decide +kernel)) rfl
theorem mt_380 : (.privateMethod ⟨"LayerQuantities$Shelf", "stock", "(II)I"⟩ : Cond) ∈ TW := tw_t (List.mem_of_getElem? (i := 380) (by decide +kernel)) rfl
theorem mt_381 : (.instanceMethod ⟨"LayerQuantities$Shelf", "stock", "(II)I"⟩ : Cond) ∈ TW := tw_t (List.mem_of_getElem? (i := 381) (by decide +kernel)) rfl
theorem mt_382 : (.code ⟨"LayerQuantities$Shelf", "stock", "(II)I"⟩ prog_3_method_2_code 3 (some (.int)) : Cond) ∈ TW := tw_t (List.mem_of_getElem? (i := 382) (by decide +kernel)) rfl
theorem mt_383 : (.methodLink "LayerQuantities$Shelf" 40 ⟨"LayerQuantities$Shelf", "rankFromBehind", "()V"⟩ : Cond) ∈ TW := tw_t (List.mem_of_getElem? (i := 383) (by decide +kernel)) rfl
theorem mt_384 : (.privateMethod ⟨"LayerQuantities$Shelf", "rankFromBehind", "()V"⟩ : Cond) ∈ TW := tw_t (List.mem_of_getElem? (i := 384) (by decide +kernel)) rfl
theorem mt_385 : (.instanceMethod ⟨"LayerQuantities$Shelf", "rankFromBehind", "()V"⟩ : Cond) ∈ TW := tw_t (List.mem_of_getElem? (i := 385) (by decide +kernel)) rfl
theorem mt_386 : (.code ⟨"LayerQuantities$Shelf", "rankFromBehind", "()V"⟩ prog_3_method_3_code 4 none : Cond) ∈ TW := tw_t (List.mem_of_getElem? (i := 386) (by decide +kernel)) rfl
theorem mt_387 : (.methodLink "LayerQuantitiesLaw" 94 ⟨"LayerQuantitiesLaw", "bought", "(LLayerQuantities;II[J)I"⟩ : Cond) ∈ TW := tw_t (List.mem_of_getElem? (i := 387) (by decide +kernel)) rfl
theorem mt_388 : (.static ⟨"LayerQuantitiesLaw", "bought", "(LLayerQuantities;II[J)I"⟩ : Cond) ∈ TW := tw_t (List.mem_of_getElem? (i := 388) (by decide +kernel)) rfl
theorem mt_389 : (.codeWith ⟨"LayerQuantitiesLaw", "bought", "(LLayerQuantities;II[J)I"⟩ method_10_code 5 (some (.int)) [(0, 10, 13, 13)] : Cond) ∈ TW := tw_t (List.mem_of_getElem? (i := 389) (by decide +kernel)) rfl
theorem mt_390 : (.methodLink "LayerQuantitiesLaw" 37 ⟨"LayerQuantities", "bought", "(II)I"⟩ : Cond) ∈ TW := tw_t (List.mem_of_getElem? (i := 390) (by decide +kernel)) rfl
theorem mt_391 : (.instanceMethod ⟨"LayerQuantities", "bought", "(II)I"⟩ : Cond) ∈ TW := tw_t (List.mem_of_getElem? (i := 391) (by decide +kernel)) rfl
theorem mt_392 : (.selects "LayerQuantities" ⟨"LayerQuantities", "bought", "(II)I"⟩ ⟨"LayerQuantities", "bought", "(II)I"⟩ : Cond) ∈ TW := tw_t (List.mem_of_getElem? (i := 392) (by decide +kernel)) rfl
theorem mt_393 : (.code ⟨"LayerQuantities", "bought", "(II)I"⟩ prog_1_method_9_code 3 (some (.int)) : Cond) ∈ TW := tw_t (List.mem_of_getElem? (i := 393) (by decide +kernel)) rfl
theorem mt_394 : (.methodLinkNest "LayerQuantities" 89 ⟨"LayerQuantities$Shelf", "countFor", "(JI)I"⟩ "LayerQuantities" : Cond) ∈ TW := tw_t (List.mem_of_getElem? (i := 394) (by decide +kernel)) rfl
theorem mt_395 : (.privateMethod ⟨"LayerQuantities$Shelf", "countFor", "(JI)I"⟩ : Cond) ∈ TW := tw_t (List.mem_of_getElem? (i := 395) (by decide +kernel)) rfl
theorem mt_396 : (.instanceMethod ⟨"LayerQuantities$Shelf", "countFor", "(JI)I"⟩ : Cond) ∈ TW := tw_t (List.mem_of_getElem? (i := 396) (by decide +kernel)) rfl
theorem mt_397 : (.code ⟨"LayerQuantities$Shelf", "countFor", "(JI)I"⟩ prog_3_method_4_code 4 (some (.int)) : Cond) ∈ TW := tw_t (List.mem_of_getElem? (i := 397) (by decide +kernel)) rfl
theorem mt_398 : (.methodLink "LayerQuantitiesLaw" 97 ⟨"LayerQuantitiesLaw", "cents", "(LLayerQuantities;I[J)I"⟩ : Cond) ∈ TW := tw_t (List.mem_of_getElem? (i := 398) (by decide +kernel)) rfl
theorem mt_399 : (.static ⟨"LayerQuantitiesLaw", "cents", "(LLayerQuantities;I[J)I"⟩ : Cond) ∈ TW := tw_t (List.mem_of_getElem? (i := 399) (by decide +kernel)) rfl
theorem mt_400 : (.codeWith ⟨"LayerQuantitiesLaw", "cents", "(LLayerQuantities;I[J)I"⟩ method_11_code 4 (some (.int)) [(0, 8, 11, 13)] : Cond) ∈ TW := tw_t (List.mem_of_getElem? (i := 400) (by decide +kernel)) rfl
theorem mt_401 : (.methodLink "LayerQuantitiesLaw" 40 ⟨"LayerQuantities", "cents", "(I)J"⟩ : Cond) ∈ TW := tw_t (List.mem_of_getElem? (i := 401) (by decide +kernel)) rfl
theorem mt_402 : (.methodLink "LayerQuantitiesLaw" 104 ⟨"LayerQuantitiesLaw", "bars", "(LLayerQuantities;II)I"⟩ : Cond) ∈ TW := tw_t (List.mem_of_getElem? (i := 402) (by decide +kernel)) rfl
theorem mt_403 : (.static ⟨"LayerQuantitiesLaw", "bars", "(LLayerQuantities;II)I"⟩ : Cond) ∈ TW := tw_t (List.mem_of_getElem? (i := 403) (by decide +kernel)) rfl
theorem mt_404 : (.codeWith ⟨"LayerQuantitiesLaw", "bars", "(LLayerQuantities;II)I"⟩ method_12_code 4 (some (.int)) [(0, 6, 9, 13), (0, 6, 12, 15)] : Cond) ∈ TW := tw_t (List.mem_of_getElem? (i := 404) (by decide +kernel)) rfl
theorem mt_405 : (.methodLink "LayerQuantitiesLaw" 43 ⟨"LayerQuantities", "bars", "(II)V"⟩ : Cond) ∈ TW := tw_t (List.mem_of_getElem? (i := 405) (by decide +kernel)) rfl
theorem mt_406 : (.instanceMethod ⟨"LayerQuantities", "bars", "(II)V"⟩ : Cond) ∈ TW := tw_t (List.mem_of_getElem? (i := 406) (by decide +kernel)) rfl
theorem mt_407 : (.selects "LayerQuantities" ⟨"LayerQuantities", "bars", "(II)V"⟩ ⟨"LayerQuantities", "bars", "(II)V"⟩ : Cond) ∈ TW := tw_t (List.mem_of_getElem? (i := 407) (by decide +kernel)) rfl
theorem mt_408 : (.code ⟨"LayerQuantities", "bars", "(II)V"⟩ prog_1_method_12_code 3 none : Cond) ∈ TW := tw_t (List.mem_of_getElem? (i := 408) (by decide +kernel)) rfl
theorem mt_409 : (.methodLinkNest "LayerQuantities" 102 ⟨"LayerQuantities$Saw", "longestPiece", "()I"⟩ "LayerQuantities" : Cond) ∈ TW := tw_t (List.mem_of_getElem? (i := 409) (by decide +kernel)) rfl
theorem mt_410 : (.privateMethod ⟨"LayerQuantities$Saw", "longestPiece", "()I"⟩ : Cond) ∈ TW := tw_t (List.mem_of_getElem? (i := 410) (by decide +kernel)) rfl
theorem mt_411 : (.instanceMethod ⟨"LayerQuantities$Saw", "longestPiece", "()I"⟩ : Cond) ∈ TW := tw_t (List.mem_of_getElem? (i := 411) (by decide +kernel)) rfl
theorem mt_412 : (.code ⟨"LayerQuantities$Saw", "longestPiece", "()I"⟩ prog_2_method_2_code 3 (some (.int)) : Cond) ∈ TW := tw_t (List.mem_of_getElem? (i := 412) (by decide +kernel)) rfl
theorem mt_413 : (.methodLink "LayerQuantities$Saw" 34 ⟨"java/lang/Math", "max", "(II)I"⟩ : Cond) ∈ TW := tw_t (List.mem_of_getElem? (i := 413) (by decide +kernel)) rfl
theorem mt_414 : (.static ⟨"java/lang/Math", "max", "(II)I"⟩ : Cond) ∈ TW := tw_t (List.mem_of_getElem? (i := 414) (by decide +kernel)) rfl
theorem mt_415 : (.code ⟨"java/lang/Math", "max", "(II)I"⟩ prog_10_method_65_code 2 (some (.int)) : Cond) ∈ TW := tw_t (List.mem_of_getElem? (i := 415) (by decide +kernel)) rfl
theorem mt_416 : (.stringRef "LayerQuantities" 105 "a piece is longer" : Cond) ∈ TW := tw_t (List.mem_of_getElem? (i := 416) (by decide +kernel)) rfl
theorem mt_417 : (.methodLinkNest "LayerQuantities" 107 ⟨"LayerQuantities$Saw", "takeBars", "(II)V"⟩ "LayerQuantities" : Cond) ∈ TW := tw_t (List.mem_of_getElem? (i := 417) (by decide +kernel)) rfl
theorem mt_418 : (.privateMethod ⟨"LayerQuantities$Saw", "takeBars", "(II)V"⟩ : Cond) ∈ TW := tw_t (List.mem_of_getElem? (i := 418) (by decide +kernel)) rfl
theorem mt_419 : (.instanceMethod ⟨"LayerQuantities$Saw", "takeBars", "(II)V"⟩ : Cond) ∈ TW := tw_t (List.mem_of_getElem? (i := 419) (by decide +kernel)) rfl
theorem mt_420 : (.code ⟨"LayerQuantities$Saw", "takeBars", "(II)V"⟩ prog_2_method_3_code 3 none : Cond) ∈ TW := tw_t (List.mem_of_getElem? (i := 420) (by decide +kernel)) rfl
theorem mt_421 : (.methodLink "LayerQuantitiesLaw" 108 ⟨"LayerQuantitiesLaw", "piece", "(LLayerQuantities;I[J)I"⟩ : Cond) ∈ TW := tw_t (List.mem_of_getElem? (i := 421) (by decide +kernel)) rfl
theorem mt_422 : (.static ⟨"LayerQuantitiesLaw", "piece", "(LLayerQuantities;I[J)I"⟩ : Cond) ∈ TW := tw_t (List.mem_of_getElem? (i := 422) (by decide +kernel)) rfl
theorem mt_423 : (.codeWith ⟨"LayerQuantitiesLaw", "piece", "(LLayerQuantities;I[J)I"⟩ method_13_code 4 (some (.int)) [(0, 9, 12, 13), (0, 9, 15, 15)] : Cond) ∈ TW := tw_t (List.mem_of_getElem? (i := 423) (by decide +kernel)) rfl
theorem mt_424 : (.methodLink "LayerQuantitiesLaw" 47 ⟨"LayerQuantities", "piece", "(I)I"⟩ : Cond) ∈ TW := tw_t (List.mem_of_getElem? (i := 424) (by decide +kernel)) rfl
theorem mt_425 : (.instanceMethod ⟨"LayerQuantities", "piece", "(I)I"⟩ : Cond) ∈ TW := tw_t (List.mem_of_getElem? (i := 425) (by decide +kernel)) rfl
theorem mt_426 : (.selects "LayerQuantities" ⟨"LayerQuantities", "piece", "(I)I"⟩ ⟨"LayerQuantities", "piece", "(I)I"⟩ : Cond) ∈ TW := tw_t (List.mem_of_getElem? (i := 426) (by decide +kernel)) rfl
theorem mt_427 : (.code ⟨"LayerQuantities", "piece", "(I)I"⟩ prog_1_method_13_code 2 (some (.int)) : Cond) ∈ TW := tw_t (List.mem_of_getElem? (i := 427) (by decide +kernel)) rfl
theorem mt_428 : (.methodLinkNest "LayerQuantities" 116 ⟨"LayerQuantities$Saw", "addPiece", "(I)I"⟩ "LayerQuantities" : Cond) ∈ TW := tw_t (List.mem_of_getElem? (i := 428) (by decide +kernel)) rfl
theorem mt_429 : (.privateMethod ⟨"LayerQuantities$Saw", "addPiece", "(I)I"⟩ : Cond) ∈ TW := tw_t (List.mem_of_getElem? (i := 429) (by decide +kernel)) rfl
theorem mt_430 : (.instanceMethod ⟨"LayerQuantities$Saw", "addPiece", "(I)I"⟩ : Cond) ∈ TW := tw_t (List.mem_of_getElem? (i := 430) (by decide +kernel)) rfl
theorem mt_431 : (.code ⟨"LayerQuantities$Saw", "addPiece", "(I)I"⟩ prog_2_method_4_code 2 (some (.int)) : Cond) ∈ TW := tw_t (List.mem_of_getElem? (i := 431) (by decide +kernel)) rfl
theorem mt_432 : (.methodLink "LayerQuantitiesLaw" 111 ⟨"LayerQuantitiesLaw", "change", "(LLayerQuantities;II[J)I"⟩ : Cond) ∈ TW := tw_t (List.mem_of_getElem? (i := 432) (by decide +kernel)) rfl
theorem mt_433 : (.static ⟨"LayerQuantitiesLaw", "change", "(LLayerQuantities;II[J)I"⟩ : Cond) ∈ TW := tw_t (List.mem_of_getElem? (i := 433) (by decide +kernel)) rfl
theorem mt_434 : (.codeWith ⟨"LayerQuantitiesLaw", "change", "(LLayerQuantities;II[J)I"⟩ method_14_code 5 (some (.int)) [(0, 10, 13, 13)] : Cond) ∈ TW := tw_t (List.mem_of_getElem? (i := 434) (by decide +kernel)) rfl
theorem mt_435 : (.methodLink "LayerQuantitiesLaw" 51 ⟨"LayerQuantities", "change", "(II)I"⟩ : Cond) ∈ TW := tw_t (List.mem_of_getElem? (i := 435) (by decide +kernel)) rfl
theorem mt_436 : (.instanceMethod ⟨"LayerQuantities", "change", "(II)I"⟩ : Cond) ∈ TW := tw_t (List.mem_of_getElem? (i := 436) (by decide +kernel)) rfl
theorem mt_437 : (.selects "LayerQuantities" ⟨"LayerQuantities", "change", "(II)I"⟩ ⟨"LayerQuantities", "change", "(II)I"⟩ : Cond) ∈ TW := tw_t (List.mem_of_getElem? (i := 437) (by decide +kernel)) rfl
theorem mt_438 : (.code ⟨"LayerQuantities", "change", "(II)I"⟩ prog_1_method_14_code 3 (some (.int)) : Cond) ∈ TW := tw_t (List.mem_of_getElem? (i := 438) (by decide +kernel)) rfl
theorem mt_439 : (.methodLinkNest "LayerQuantities" 120 ⟨"LayerQuantities$Saw", "resizePiece", "(II)I"⟩ "LayerQuantities" : Cond) ∈ TW := tw_t (List.mem_of_getElem? (i := 439) (by decide +kernel)) rfl
theorem mt_440 : (.privateMethod ⟨"LayerQuantities$Saw", "resizePiece", "(II)I"⟩ : Cond) ∈ TW := tw_t (List.mem_of_getElem? (i := 440) (by decide +kernel)) rfl
theorem mt_441 : (.instanceMethod ⟨"LayerQuantities$Saw", "resizePiece", "(II)I"⟩ : Cond) ∈ TW := tw_t (List.mem_of_getElem? (i := 441) (by decide +kernel)) rfl
theorem mt_442 : (.code ⟨"LayerQuantities$Saw", "resizePiece", "(II)I"⟩ prog_2_method_5_code 4 (some (.int)) : Cond) ∈ TW := tw_t (List.mem_of_getElem? (i := 442) (by decide +kernel)) rfl
theorem mt_443 : (.methodLink "LayerQuantitiesLaw" 118 ⟨"LayerQuantitiesLaw", "bar", "(LLayerQuantities;I[J)I"⟩ : Cond) ∈ TW := tw_t (List.mem_of_getElem? (i := 443) (by decide +kernel)) rfl
theorem mt_444 : (.static ⟨"LayerQuantitiesLaw", "bar", "(LLayerQuantities;I[J)I"⟩ : Cond) ∈ TW := tw_t (List.mem_of_getElem? (i := 444) (by decide +kernel)) rfl
theorem mt_445 : (.codeWith ⟨"LayerQuantitiesLaw", "bar", "(LLayerQuantities;I[J)I"⟩ method_15_code 4 (some (.int)) [(0, 9, 12, 13)] : Cond) ∈ TW := tw_t (List.mem_of_getElem? (i := 445) (by decide +kernel)) rfl
theorem mt_446 : (.methodLink "LayerQuantitiesLaw" 54 ⟨"LayerQuantities", "bar", "(I)I"⟩ : Cond) ∈ TW := tw_t (List.mem_of_getElem? (i := 446) (by decide +kernel)) rfl
theorem mt_447 : (.instanceMethod ⟨"LayerQuantities", "bar", "(I)I"⟩ : Cond) ∈ TW := tw_t (List.mem_of_getElem? (i := 447) (by decide +kernel)) rfl
theorem mt_448 : (.selects "LayerQuantities" ⟨"LayerQuantities", "bar", "(I)I"⟩ ⟨"LayerQuantities", "bar", "(I)I"⟩ : Cond) ∈ TW := tw_t (List.mem_of_getElem? (i := 448) (by decide +kernel)) rfl
theorem mt_449 : (.code ⟨"LayerQuantities", "bar", "(I)I"⟩ prog_1_method_16_code 2 (some (.int)) : Cond) ∈ TW := tw_t (List.mem_of_getElem? (i := 449) (by decide +kernel)) rfl
theorem mt_450 : (.methodLink "LayerQuantitiesLaw" 121 ⟨"LayerQuantitiesLaw", "rest", "(LLayerQuantities;I[J)I"⟩ : Cond) ∈ TW := tw_t (List.mem_of_getElem? (i := 450) (by decide +kernel)) rfl
theorem mt_451 : (.static ⟨"LayerQuantitiesLaw", "rest", "(LLayerQuantities;I[J)I"⟩ : Cond) ∈ TW := tw_t (List.mem_of_getElem? (i := 451) (by decide +kernel)) rfl
theorem mt_452 : (.codeWith ⟨"LayerQuantitiesLaw", "rest", "(LLayerQuantities;I[J)I"⟩ method_16_code 4 (some (.int)) [(0, 9, 12, 13)] : Cond) ∈ TW := tw_t (List.mem_of_getElem? (i := 452) (by decide +kernel)) rfl
theorem mt_453 : (.methodLink "LayerQuantitiesLaw" 57 ⟨"LayerQuantities", "rest", "(I)I"⟩ : Cond) ∈ TW := tw_t (List.mem_of_getElem? (i := 453) (by decide +kernel)) rfl
theorem mt_454 : (.instanceMethod ⟨"LayerQuantities", "rest", "(I)I"⟩ : Cond) ∈ TW := tw_t (List.mem_of_getElem? (i := 454) (by decide +kernel)) rfl
theorem mt_455 : (.selects "LayerQuantities" ⟨"LayerQuantities", "rest", "(I)I"⟩ ⟨"LayerQuantities", "rest", "(I)I"⟩ : Cond) ∈ TW := tw_t (List.mem_of_getElem? (i := 455) (by decide +kernel)) rfl
theorem mt_456 : (.code ⟨"LayerQuantities", "rest", "(I)I"⟩ prog_1_method_17_code 2 (some (.int)) : Cond) ∈ TW := tw_t (List.mem_of_getElem? (i := 456) (by decide +kernel)) rfl
theorem mt_457 : (.classLink "LayerQuantitiesLaw" 61 "LayerQuantitiesModel" : Cond) ∈ TW := tw_t (List.mem_of_getElem? (i := 457) (by decide +kernel)) rfl
theorem mt_458 : (.instantiable "LayerQuantitiesModel" 21 : Cond) ∈ TW := tw_t (List.mem_of_getElem? (i := 458) (by decide +kernel)) rfl
theorem mt_459 : (.methodLink "LayerQuantitiesLaw" 63 ⟨"LayerQuantitiesModel", "<init>", "()V"⟩ : Cond) ∈ TW := tw_t (List.mem_of_getElem? (i := 459) (by decide +kernel)) rfl
theorem mt_460 : (.instanceMethod ⟨"LayerQuantitiesModel", "<init>", "()V"⟩ : Cond) ∈ TW := tw_t (List.mem_of_getElem? (i := 460) (by decide +kernel)) rfl
theorem mt_461 : (.code ⟨"LayerQuantitiesModel", "<init>", "()V"⟩ prog_6_method_1_code 1 none : Cond) ∈ TW := tw_t (List.mem_of_getElem? (i := 461) (by decide +kernel)) rfl
theorem mt_462 : (.methodLink "LayerQuantitiesModel" 1 ⟨"java/lang/Object", "<init>", "()V"⟩ : Cond) ∈ TW := tw_t (List.mem_of_getElem? (i := 462) (by decide +kernel)) rfl
theorem mt_463 : (.fieldLink "LayerQuantitiesModel" 57 "LayerQuantitiesModel" "code" "I" : Cond) ∈ TW := tw_t (List.mem_of_getElem? (i := 463) (by decide +kernel)) rfl
theorem mt_464 : (.fieldLink "LayerQuantitiesModel" 60 "LayerQuantitiesModel" "walls" "I" : Cond) ∈ TW := tw_t (List.mem_of_getElem? (i := 464) (by decide +kernel)) rfl
theorem mt_465 : (.fieldLink "LayerQuantitiesModel" 7 "LayerQuantitiesModel" "areas" "[I" : Cond) ∈ TW := tw_t (List.mem_of_getElem? (i := 465) (by decide +kernel)) rfl
theorem mt_466 : (.fieldLink "LayerQuantitiesModel" 13 "LayerQuantitiesModel" "openings" "[I" : Cond) ∈ TW := tw_t (List.mem_of_getElem? (i := 466) (by decide +kernel)) rfl
theorem mt_467 : (.fieldLink "LayerQuantitiesModel" 16 "LayerQuantitiesModel" "layers" "[I" : Cond) ∈ TW := tw_t (List.mem_of_getElem? (i := 467) (by decide +kernel)) rfl
theorem mt_468 : (.fieldLink "LayerQuantitiesModel" 19 "LayerQuantitiesModel" "stuffs" "[I" : Cond) ∈ TW := tw_t (List.mem_of_getElem? (i := 468) (by decide +kernel)) rfl
theorem mt_469 : (.fieldLink "LayerQuantitiesModel" 22 "LayerQuantitiesModel" "thicknesses" "[I" : Cond) ∈ TW := tw_t (List.mem_of_getElem? (i := 469) (by decide +kernel)) rfl
theorem mt_470 : (.fieldLink "LayerQuantitiesModel" 25 "LayerQuantitiesModel" "wastes" "[I" : Cond) ∈ TW := tw_t (List.mem_of_getElem? (i := 470) (by decide +kernel)) rfl
theorem mt_471 : (.fieldLink "LayerQuantitiesModel" 28 "LayerQuantitiesModel" "packs" "[I" : Cond) ∈ TW := tw_t (List.mem_of_getElem? (i := 471) (by decide +kernel)) rfl
theorem mt_472 : (.fieldLink "LayerQuantitiesModel" 31 "LayerQuantitiesModel" "muches" "[J" : Cond) ∈ TW := tw_t (List.mem_of_getElem? (i := 472) (by decide +kernel)) rfl
theorem mt_473 : (.fieldLink "LayerQuantitiesModel" 35 "LayerQuantitiesModel" "prices" "[J" : Cond) ∈ TW := tw_t (List.mem_of_getElem? (i := 473) (by decide +kernel)) rfl
theorem mt_474 : (.fieldLink "LayerQuantitiesModel" 94 "LayerQuantitiesModel" "cost" "J" : Cond) ∈ TW := tw_t (List.mem_of_getElem? (i := 474) (by decide +kernel)) rfl
theorem mt_475 : (.fieldLink "LayerQuantitiesModel" 38 "LayerQuantitiesModel" "counts" "[I" : Cond) ∈ TW := tw_t (List.mem_of_getElem? (i := 475) (by decide +kernel)) rfl
theorem mt_476 : (.fieldLink "LayerQuantitiesModel" 41 "LayerQuantitiesModel" "best" "[I" : Cond) ∈ TW := tw_t (List.mem_of_getElem? (i := 476) (by decide +kernel)) rfl
theorem mt_477 : (.fieldLink "LayerQuantitiesModel" 44 "LayerQuantitiesModel" "length" "I" : Cond) ∈ TW := tw_t (List.mem_of_getElem? (i := 477) (by decide +kernel)) rfl
theorem mt_478 : (.fieldLink "LayerQuantitiesModel" 123 "LayerQuantitiesModel" "cut" "I" : Cond) ∈ TW := tw_t (List.mem_of_getElem? (i := 478) (by decide +kernel)) rfl
theorem mt_479 : (.fieldLink "LayerQuantitiesModel" 118 "LayerQuantitiesModel" "pieces" "I" : Cond) ∈ TW := tw_t (List.mem_of_getElem? (i := 479) (by decide +kernel)) rfl
theorem mt_480 : (.fieldLink "LayerQuantitiesModel" 48 "LayerQuantitiesModel" "lengths" "[I" : Cond) ∈ TW := tw_t (List.mem_of_getElem? (i := 480) (by decide +kernel)) rfl
theorem mt_481 : (.fieldLink "LayerQuantitiesModel" 130 "LayerQuantitiesModel" "barCount" "I" : Cond) ∈ TW := tw_t (List.mem_of_getElem? (i := 481) (by decide +kernel)) rfl
theorem mt_482 : (.fieldLink "LayerQuantitiesModel" 51 "LayerQuantitiesModel" "bars" "[I" : Cond) ∈ TW := tw_t (List.mem_of_getElem? (i := 482) (by decide +kernel)) rfl
theorem mt_483 : (.fieldLink "LayerQuantitiesModel" 54 "LayerQuantitiesModel" "loads" "[I" : Cond) ∈ TW := tw_t (List.mem_of_getElem? (i := 483) (by decide +kernel)) rfl
theorem mt_484 : (.lays "LayerQuantitiesModel" "LayerQuantitiesModel" "code" "I" : Cond) ∈ TW := tw_t (List.mem_of_getElem? (i := 484) (by decide +kernel)) rfl
theorem mt_485 : (.soleField "LayerQuantitiesModel" "code" : Cond) ∈ TW := tw_t (List.mem_of_getElem? (i := 485) (by decide +kernel)) rfl
theorem mt_486 : (.lays "LayerQuantitiesModel" "LayerQuantitiesModel" "walls" "I" : Cond) ∈ TW := tw_t (List.mem_of_getElem? (i := 486) (by decide +kernel)) rfl
theorem mt_487 : (.soleField "LayerQuantitiesModel" "walls" : Cond) ∈ TW := tw_t (List.mem_of_getElem? (i := 487) (by decide +kernel)) rfl
theorem mt_488 : (.laysFinal "LayerQuantitiesModel" "LayerQuantitiesModel" "areas" "[I" : Cond) ∈ TW := tw_t (List.mem_of_getElem? (i := 488) (by decide +kernel)) rfl
theorem mt_489 : (.soleField "LayerQuantitiesModel" "areas" : Cond) ∈ TW := tw_t (List.mem_of_getElem? (i := 489) (by decide +kernel)) rfl
theorem mt_490 : (.laysFinal "LayerQuantitiesModel" "LayerQuantitiesModel" "openings" "[I" : Cond) ∈ TW := tw_t (List.mem_of_getElem? (i := 490) (by decide +kernel)) rfl
theorem mt_491 : (.soleField "LayerQuantitiesModel" "openings" : Cond) ∈ TW := tw_t (List.mem_of_getElem? (i := 491) (by decide +kernel)) rfl
theorem mt_492 : (.laysFinal "LayerQuantitiesModel" "LayerQuantitiesModel" "layers" "[I" : Cond) ∈ TW := tw_t (List.mem_of_getElem? (i := 492) (by decide +kernel)) rfl
theorem mt_493 : (.soleField "LayerQuantitiesModel" "layers" : Cond) ∈ TW := tw_t (List.mem_of_getElem? (i := 493) (by decide +kernel)) rfl
theorem mt_494 : (.laysFinal "LayerQuantitiesModel" "LayerQuantitiesModel" "stuffs" "[I" : Cond) ∈ TW := tw_t (List.mem_of_getElem? (i := 494) (by decide +kernel)) rfl
theorem mt_495 : (.soleField "LayerQuantitiesModel" "stuffs" : Cond) ∈ TW := tw_t (List.mem_of_getElem? (i := 495) (by decide +kernel)) rfl
theorem mt_496 : (.laysFinal "LayerQuantitiesModel" "LayerQuantitiesModel" "thicknesses" "[I" : Cond) ∈ TW := tw_t (List.mem_of_getElem? (i := 496) (by decide +kernel)) rfl
theorem mt_497 : (.soleField "LayerQuantitiesModel" "thicknesses" : Cond) ∈ TW := tw_t (List.mem_of_getElem? (i := 497) (by decide +kernel)) rfl
theorem mt_498 : (.laysFinal "LayerQuantitiesModel" "LayerQuantitiesModel" "wastes" "[I" : Cond) ∈ TW := tw_t (List.mem_of_getElem? (i := 498) (by decide +kernel)) rfl
theorem mt_499 : (.soleField "LayerQuantitiesModel" "wastes" : Cond) ∈ TW := tw_t (List.mem_of_getElem? (i := 499) (by decide +kernel)) rfl
theorem mt_500 : (.laysFinal "LayerQuantitiesModel" "LayerQuantitiesModel" "packs" "[I" : Cond) ∈ TW := tw_t (List.mem_of_getElem? (i := 500) (by decide +kernel)) rfl
theorem mt_501 : (.soleField "LayerQuantitiesModel" "packs" : Cond) ∈ TW := tw_t (List.mem_of_getElem? (i := 501) (by decide +kernel)) rfl
theorem mt_502 : (.laysFinal "LayerQuantitiesModel" "LayerQuantitiesModel" "muches" "[J" : Cond) ∈ TW := tw_t (List.mem_of_getElem? (i := 502) (by decide +kernel)) rfl
theorem mt_503 : (.soleField "LayerQuantitiesModel" "muches" : Cond) ∈ TW := tw_t (List.mem_of_getElem? (i := 503) (by decide +kernel)) rfl
theorem mt_504 : (.laysFinal "LayerQuantitiesModel" "LayerQuantitiesModel" "prices" "[J" : Cond) ∈ TW := tw_t (List.mem_of_getElem? (i := 504) (by decide +kernel)) rfl
theorem mt_505 : (.soleField "LayerQuantitiesModel" "prices" : Cond) ∈ TW := tw_t (List.mem_of_getElem? (i := 505) (by decide +kernel)) rfl
theorem mt_506 : (.lays "LayerQuantitiesModel" "LayerQuantitiesModel" "cost" "J" : Cond) ∈ TW := tw_t (List.mem_of_getElem? (i := 506) (by decide +kernel)) rfl
theorem mt_507 : (.soleField "LayerQuantitiesModel" "cost" : Cond) ∈ TW := tw_t (List.mem_of_getElem? (i := 507) (by decide +kernel)) rfl
theorem mt_508 : (.laysFinal "LayerQuantitiesModel" "LayerQuantitiesModel" "counts" "[I" : Cond) ∈ TW := tw_t (List.mem_of_getElem? (i := 508) (by decide +kernel)) rfl
theorem mt_509 : (.soleField "LayerQuantitiesModel" "counts" : Cond) ∈ TW := tw_t (List.mem_of_getElem? (i := 509) (by decide +kernel)) rfl
theorem mt_510 : (.laysFinal "LayerQuantitiesModel" "LayerQuantitiesModel" "best" "[I" : Cond) ∈ TW := tw_t (List.mem_of_getElem? (i := 510) (by decide +kernel)) rfl
theorem mt_511 : (.soleField "LayerQuantitiesModel" "best" : Cond) ∈ TW := tw_t (List.mem_of_getElem? (i := 511) (by decide +kernel)) rfl
theorem mt_512 : (.lays "LayerQuantitiesModel" "LayerQuantitiesModel" "length" "I" : Cond) ∈ TW := tw_t (List.mem_of_getElem? (i := 512) (by decide +kernel)) rfl
theorem mt_513 : (.soleField "LayerQuantitiesModel" "length" : Cond) ∈ TW := tw_t (List.mem_of_getElem? (i := 513) (by decide +kernel)) rfl
theorem mt_514 : (.lays "LayerQuantitiesModel" "LayerQuantitiesModel" "cut" "I" : Cond) ∈ TW := tw_t (List.mem_of_getElem? (i := 514) (by decide +kernel)) rfl
theorem mt_515 : (.soleField "LayerQuantitiesModel" "cut" : Cond) ∈ TW := tw_t (List.mem_of_getElem? (i := 515) (by decide +kernel)) rfl
theorem mt_516 : (.lays "LayerQuantitiesModel" "LayerQuantitiesModel" "pieces" "I" : Cond) ∈ TW := tw_t (List.mem_of_getElem? (i := 516) (by decide +kernel)) rfl
theorem mt_517 : (.soleField "LayerQuantitiesModel" "pieces" : Cond) ∈ TW := tw_t (List.mem_of_getElem? (i := 517) (by decide +kernel)) rfl
theorem mt_518 : (.laysFinal "LayerQuantitiesModel" "LayerQuantitiesModel" "lengths" "[I" : Cond) ∈ TW := tw_t (List.mem_of_getElem? (i := 518) (by decide +kernel)) rfl
theorem mt_519 : (.soleField "LayerQuantitiesModel" "lengths" : Cond) ∈ TW := tw_t (List.mem_of_getElem? (i := 519) (by decide +kernel)) rfl
theorem mt_520 : (.lays "LayerQuantitiesModel" "LayerQuantitiesModel" "barCount" "I" : Cond) ∈ TW := tw_t (List.mem_of_getElem? (i := 520) (by decide +kernel)) rfl
theorem mt_521 : (.soleField "LayerQuantitiesModel" "barCount" : Cond) ∈ TW := tw_t (List.mem_of_getElem? (i := 521) (by decide +kernel)) rfl
theorem mt_522 : (.laysFinal "LayerQuantitiesModel" "LayerQuantitiesModel" "bars" "[I" : Cond) ∈ TW := tw_t (List.mem_of_getElem? (i := 522) (by decide +kernel)) rfl
theorem mt_523 : (.soleField "LayerQuantitiesModel" "bars" : Cond) ∈ TW := tw_t (List.mem_of_getElem? (i := 523) (by decide +kernel)) rfl
theorem mt_524 : (.laysFinal "LayerQuantitiesModel" "LayerQuantitiesModel" "loads" "[I" : Cond) ∈ TW := tw_t (List.mem_of_getElem? (i := 524) (by decide +kernel)) rfl
theorem mt_525 : (.soleField "LayerQuantitiesModel" "loads" : Cond) ∈ TW := tw_t (List.mem_of_getElem? (i := 525) (by decide +kernel)) rfl
theorem mt_526 : (.superclass "LayerQuantitiesModel" "java/lang/Object" : Cond) ∈ TW := tw_t (List.mem_of_getElem? (i := 526) (by decide +kernel)) rfl
theorem mt_527 : (.arrayClass .long : Cond) ∈ TW := tw_t (List.mem_of_getElem? (i := 527) (by decide +kernel)) rfl
theorem mt_528 : (.methodLink "LayerQuantitiesLaw" 70 ⟨"LayerQuantitiesModel", "thrown", "()I"⟩ : Cond) ∈ TW := tw_t (List.mem_of_getElem? (i := 528) (by decide +kernel)) rfl
theorem mt_529 : (.instanceMethod ⟨"LayerQuantitiesModel", "thrown", "()I"⟩ : Cond) ∈ TW := tw_t (List.mem_of_getElem? (i := 529) (by decide +kernel)) rfl
theorem mt_530 : (.selects "LayerQuantitiesModel" ⟨"LayerQuantitiesModel", "thrown", "()I"⟩ ⟨"LayerQuantitiesModel", "thrown", "()I"⟩ : Cond) ∈ TW := tw_t (List.mem_of_getElem? (i := 530) (by decide +kernel)) rfl
theorem mt_531 : (.code ⟨"LayerQuantitiesModel", "thrown", "()I"⟩ prog_6_method_2_code 1 (some (.int)) : Cond) ∈ TW := tw_t (List.mem_of_getElem? (i := 531) (by decide +kernel)) rfl
theorem mt_532 : (.methodLink "LayerQuantitiesLaw" 69 ⟨"LayerQuantitiesModel", "wall", "(II)I"⟩ : Cond) ∈ TW := tw_t (List.mem_of_getElem? (i := 532) (by decide +kernel)) rfl
theorem mt_533 : (.instanceMethod ⟨"LayerQuantitiesModel", "wall", "(II)I"⟩ : Cond) ∈ TW := tw_t (List.mem_of_getElem? (i := 533) (by decide +kernel)) rfl
theorem mt_534 : (.selects "LayerQuantitiesModel" ⟨"LayerQuantitiesModel", "wall", "(II)I"⟩ ⟨"LayerQuantitiesModel", "wall", "(II)I"⟩ : Cond) ∈ TW := tw_t (List.mem_of_getElem? (i := 534) (by decide +kernel)) rfl
theorem mt_535 : (.code ⟨"LayerQuantitiesModel", "wall", "(II)I"⟩ prog_6_method_6_code 3 (some (.int)) : Cond) ∈ TW := tw_t (List.mem_of_getElem? (i := 535) (by decide +kernel)) rfl
theorem mt_536 : (.constantLong "LayerQuantitiesModel" 69 (1000) : Cond) ∈ TW := tw_t (List.mem_of_getElem? (i := 536) (by decide +kernel)) rfl
theorem mt_537 : (.methodLink "LayerQuantitiesModel" 63 ⟨"LayerQuantitiesModel", "isIn", "(JJJ)Z"⟩ : Cond) ∈ TW := tw_t (List.mem_of_getElem? (i := 537) (by decide +kernel)) rfl
theorem mt_538 : (.static ⟨"LayerQuantitiesModel", "isIn", "(JJJ)Z"⟩ : Cond) ∈ TW := tw_t (List.mem_of_getElem? (i := 538) (by decide +kernel)) rfl
theorem mt_539 : (.code ⟨"LayerQuantitiesModel", "isIn", "(JJJ)Z"⟩ prog_6_method_3_code 6 (some (.boolean)) : Cond) ∈ TW := tw_t (List.mem_of_getElem? (i := 539) (by decide +kernel)) rfl
theorem mt_540 : (.methodLink "LayerQuantitiesLaw" 77 ⟨"LayerQuantitiesModel", "opening", "(III)I"⟩ : Cond) ∈ TW := tw_t (List.mem_of_getElem? (i := 540) (by decide +kernel)) rfl
theorem mt_541 : (.instanceMethod ⟨"LayerQuantitiesModel", "opening", "(III)I"⟩ : Cond) ∈ TW := tw_t (List.mem_of_getElem? (i := 541) (by decide +kernel)) rfl
theorem mt_542 : (.selects "LayerQuantitiesModel" ⟨"LayerQuantitiesModel", "opening", "(III)I"⟩ ⟨"LayerQuantitiesModel", "opening", "(III)I"⟩ : Cond) ∈ TW := tw_t (List.mem_of_getElem? (i := 542) (by decide +kernel)) rfl
theorem mt_543 : (.code ⟨"LayerQuantitiesModel", "opening", "(III)I"⟩ prog_6_method_7_code 5 (some (.int)) : Cond) ∈ TW := tw_t (List.mem_of_getElem? (i := 543) (by decide +kernel)) rfl
theorem mt_544 : (.methodLink "LayerQuantitiesModel" 71 ⟨"LayerQuantitiesModel", "isWall", "(I)Z"⟩ : Cond) ∈ TW := tw_t (List.mem_of_getElem? (i := 544) (by decide +kernel)) rfl
theorem mt_545 : (.privateMethod ⟨"LayerQuantitiesModel", "isWall", "(I)Z"⟩ : Cond) ∈ TW := tw_t (List.mem_of_getElem? (i := 545) (by decide +kernel)) rfl
theorem mt_546 : (.instanceMethod ⟨"LayerQuantitiesModel", "isWall", "(I)Z"⟩ : Cond) ∈ TW := tw_t (List.mem_of_getElem? (i := 546) (by decide +kernel)) rfl
theorem mt_547 : (.code ⟨"LayerQuantitiesModel", "isWall", "(I)Z"⟩ prog_6_method_4_code 2 (some (.boolean)) : Cond) ∈ TW := tw_t (List.mem_of_getElem? (i := 547) (by decide +kernel)) rfl
theorem mt_548 : (.methodLink "LayerQuantitiesLaw" 80 ⟨"LayerQuantitiesModel", "layer", "(III)I"⟩ : Cond) ∈ TW := tw_t (List.mem_of_getElem? (i := 548) (by decide +kernel)) rfl
theorem mt_549 : (.instanceMethod ⟨"LayerQuantitiesModel", "layer", "(III)I"⟩ : Cond) ∈ TW := tw_t (List.mem_of_getElem? (i := 549) (by decide +kernel)) rfl
theorem mt_550 : (.selects "LayerQuantitiesModel" ⟨"LayerQuantitiesModel", "layer", "(III)I"⟩ ⟨"LayerQuantitiesModel", "layer", "(III)I"⟩ : Cond) ∈ TW := tw_t (List.mem_of_getElem? (i := 550) (by decide +kernel)) rfl
theorem mt_551 : (.code ⟨"LayerQuantitiesModel", "layer", "(III)I"⟩ prog_6_method_8_code 4 (some (.int)) : Cond) ∈ TW := tw_t (List.mem_of_getElem? (i := 551) (by decide +kernel)) rfl
theorem mt_552 : (.methodLink "LayerQuantitiesModel" 75 ⟨"LayerQuantitiesModel", "isStuff", "(I)Z"⟩ : Cond) ∈ TW := tw_t (List.mem_of_getElem? (i := 552) (by decide +kernel)) rfl
theorem mt_553 : (.static ⟨"LayerQuantitiesModel", "isStuff", "(I)Z"⟩ : Cond) ∈ TW := tw_t (List.mem_of_getElem? (i := 553) (by decide +kernel)) rfl
theorem mt_554 : (.code ⟨"LayerQuantitiesModel", "isStuff", "(I)Z"⟩ prog_6_method_5_code 1 (some (.boolean)) : Cond) ∈ TW := tw_t (List.mem_of_getElem? (i := 554) (by decide +kernel)) rfl
theorem mt_555 : (.constantLong "LayerQuantitiesModel" 67 (9) : Cond) ∈ TW := tw_t (List.mem_of_getElem? (i := 555) (by decide +kernel)) rfl
theorem mt_556 : (.constantLong "LayerQuantitiesModel" 78 (500) : Cond) ∈ TW := tw_t (List.mem_of_getElem? (i := 556) (by decide +kernel)) rfl
theorem mt_557 : (.methodLink "LayerQuantitiesLaw" 83 ⟨"LayerQuantitiesModel", "waste", "(II)I"⟩ : Cond) ∈ TW := tw_t (List.mem_of_getElem? (i := 557) (by decide +kernel)) rfl
theorem mt_558 : (.instanceMethod ⟨"LayerQuantitiesModel", "waste", "(II)I"⟩ : Cond) ∈ TW := tw_t (List.mem_of_getElem? (i := 558) (by decide +kernel)) rfl
theorem mt_559 : (.selects "LayerQuantitiesModel" ⟨"LayerQuantitiesModel", "waste", "(II)I"⟩ ⟨"LayerQuantitiesModel", "waste", "(II)I"⟩ : Cond) ∈ TW := tw_t (List.mem_of_getElem? (i := 559) (by decide +kernel)) rfl
theorem mt_560 : (.code ⟨"LayerQuantitiesModel", "waste", "(II)I"⟩ prog_6_method_9_code 4 (some (.int)) : Cond) ∈ TW := tw_t (List.mem_of_getElem? (i := 560) (by decide +kernel)) rfl
theorem mt_561 : (.constantLong "LayerQuantitiesModel" 80 (100) : Cond) ∈ TW := tw_t (List.mem_of_getElem? (i := 561) (by decide +kernel)) rfl
theorem mt_562 : (.methodLink "LayerQuantitiesLaw" 86 ⟨"LayerQuantitiesModel", "told", "(II)I"⟩ : Cond) ∈ TW := tw_t (List.mem_of_getElem? (i := 562) (by decide +kernel)) rfl
theorem mt_563 : (.instanceMethod ⟨"LayerQuantitiesModel", "told", "(II)I"⟩ : Cond) ∈ TW := tw_t (List.mem_of_getElem? (i := 563) (by decide +kernel)) rfl
theorem mt_564 : (.selects "LayerQuantitiesModel" ⟨"LayerQuantitiesModel", "told", "(II)I"⟩ ⟨"LayerQuantitiesModel", "told", "(II)I"⟩ : Cond) ∈ TW := tw_t (List.mem_of_getElem? (i := 564) (by decide +kernel)) rfl
theorem mt_565 : (.code ⟨"LayerQuantitiesModel", "told", "(II)I"⟩ prog_6_method_10_code 5 (some (.int)) : Cond) ∈ TW := tw_t (List.mem_of_getElem? (i := 565) (by decide +kernel)) rfl
theorem mt_566 : (.constantLong "LayerQuantitiesModel" 82 (2) : Cond) ∈ TW := tw_t (List.mem_of_getElem? (i := 566) (by decide +kernel)) rfl
theorem mt_567 : (.methodLink "LayerQuantitiesLaw" 90 ⟨"LayerQuantitiesModel", "need", "(I)J"⟩ : Cond) ∈ TW := tw_t (List.mem_of_getElem? (i := 567) (by decide +kernel)) rfl
theorem mt_568 : (.instanceMethod ⟨"LayerQuantitiesModel", "need", "(I)J"⟩ : Cond) ∈ TW := tw_t (List.mem_of_getElem? (i := 568) (by decide +kernel)) rfl
theorem mt_569 : (.selects "LayerQuantitiesModel" ⟨"LayerQuantitiesModel", "need", "(I)J"⟩ ⟨"LayerQuantitiesModel", "need", "(I)J"⟩ : Cond) ∈ TW := tw_t (List.mem_of_getElem? (i := 569) (by decide +kernel)) rfl
theorem mt_570 : (.code ⟨"LayerQuantitiesModel", "need", "(I)J"⟩ prog_6_method_12_code 2 (some (.long)) : Cond) ∈ TW := tw_t (List.mem_of_getElem? (i := 570) (by decide +kernel)) rfl
theorem mt_571 : (.methodLink "LayerQuantitiesModel" 86 ⟨"LayerQuantitiesModel", "needOf", "(I)J"⟩ : Cond) ∈ TW := tw_t (List.mem_of_getElem? (i := 571) (by decide +kernel)) rfl
theorem mt_572 : (.privateMethod ⟨"LayerQuantitiesModel", "needOf", "(I)J"⟩ : Cond) ∈ TW := tw_t (List.mem_of_getElem? (i := 572) (by decide +kernel)) rfl
theorem mt_573 : (.instanceMethod ⟨"LayerQuantitiesModel", "needOf", "(I)J"⟩ : Cond) ∈ TW := tw_t (List.mem_of_getElem? (i := 573) (by decide +kernel)) rfl
theorem mt_574 : (.code ⟨"LayerQuantitiesModel", "needOf", "(I)J"⟩ prog_6_method_11_code 6 (some (.long)) : Cond) ∈ TW := tw_t (List.mem_of_getElem? (i := 574) (by decide +kernel)) rfl
theorem mt_575 : (.constantLong "LayerQuantitiesModel" 84 (99) : Cond) ∈ TW := tw_t (List.mem_of_getElem? (i := 575) (by decide +kernel)) rfl
theorem mt_576 : (.methodLink "LayerQuantitiesLaw" 93 ⟨"LayerQuantitiesModel", "pack", "(III)I"⟩ : Cond) ∈ TW := tw_t (List.mem_of_getElem? (i := 576) (by decide +kernel)) rfl
theorem mt_577 : (.instanceMethod ⟨"LayerQuantitiesModel", "pack", "(III)I"⟩ : Cond) ∈ TW := tw_t (List.mem_of_getElem? (i := 577) (by decide +kernel)) rfl
theorem mt_578 : (.selects "LayerQuantitiesModel" ⟨"LayerQuantitiesModel", "pack", "(III)I"⟩ ⟨"LayerQuantitiesModel", "pack", "(III)I"⟩ : Cond) ∈ TW := tw_t (List.mem_of_getElem? (i := 578) (by decide +kernel)) rfl
theorem mt_579 : (.code ⟨"LayerQuantitiesModel", "pack", "(III)I"⟩ prog_6_method_13_code 5 (some (.int)) : Cond) ∈ TW := tw_t (List.mem_of_getElem? (i := 579) (by decide +kernel)) rfl
theorem mt_580 : (.constantLong "LayerQuantitiesModel" 90 (1000000000) : Cond) ∈ TW := tw_t (List.mem_of_getElem? (i := 580) (by decide +kernel)) rfl
theorem mt_581 : (.constantLong "LayerQuantitiesModel" 92 (100000) : Cond) ∈ TW := tw_t (List.mem_of_getElem? (i := 581) (by decide +kernel)) rfl
theorem mt_582 : (.methodLink "LayerQuantitiesLaw" 96 ⟨"LayerQuantitiesModel", "bought", "(II)I"⟩ : Cond) ∈ TW := tw_t (List.mem_of_getElem? (i := 582) (by decide +kernel)) rfl
theorem mt_583 : (.instanceMethod ⟨"LayerQuantitiesModel", "bought", "(II)I"⟩ : Cond) ∈ TW := tw_t (List.mem_of_getElem? (i := 583) (by decide +kernel)) rfl
theorem mt_584 : (.selects "LayerQuantitiesModel" ⟨"LayerQuantitiesModel", "bought", "(II)I"⟩ ⟨"LayerQuantitiesModel", "bought", "(II)I"⟩ : Cond) ∈ TW := tw_t (List.mem_of_getElem? (i := 584) (by decide +kernel)) rfl
theorem mt_585 : (.code ⟨"LayerQuantitiesModel", "bought", "(II)I"⟩ prog_6_method_18_code 3 (some (.int)) : Cond) ∈ TW := tw_t (List.mem_of_getElem? (i := 585) (by decide +kernel)) rfl
theorem mt_586 : (.methodLink "LayerQuantitiesModel" 114 ⟨"LayerQuantitiesModel", "buy", "(I)V"⟩ : Cond) ∈ TW := tw_t (List.mem_of_getElem? (i := 586) (by decide +kernel)) rfl
theorem mt_587 : (.privateMethod ⟨"LayerQuantitiesModel", "buy", "(I)V"⟩ : Cond) ∈ TW := tw_t (List.mem_of_getElem? (i := 587) (by decide +kernel)) rfl
theorem mt_588 : (.instanceMethod ⟨"LayerQuantitiesModel", "buy", "(I)V"⟩ : Cond) ∈ TW := tw_t (List.mem_of_getElem? (i := 588) (by decide +kernel)) rfl
theorem mt_589 : (.code ⟨"LayerQuantitiesModel", "buy", "(I)V"⟩ prog_6_method_17_code 11 none : Cond) ∈ TW := tw_t (List.mem_of_getElem? (i := 589) (by decide +kernel)) rfl
theorem mt_590 : (.constantLong "LayerQuantitiesModel" 108 (-1) : Cond) ∈ TW := tw_t (List.mem_of_getElem? (i := 590) (by decide +kernel)) rfl
theorem mt_591 : (.methodLink "LayerQuantitiesModel" 110 ⟨"LayerQuantitiesModel", "tryLast", "(IJ)V"⟩ : Cond) ∈ TW := tw_t (List.mem_of_getElem? (i := 591) (by decide +kernel)) rfl
theorem mt_592 : (.privateMethod ⟨"LayerQuantitiesModel", "tryLast", "(IJ)V"⟩ : Cond) ∈ TW := tw_t (List.mem_of_getElem? (i := 592) (by decide +kernel)) rfl
theorem mt_593 : (.instanceMethod ⟨"LayerQuantitiesModel", "tryLast", "(IJ)V"⟩ : Cond) ∈ TW := tw_t (List.mem_of_getElem? (i := 593) (by decide +kernel)) rfl
theorem mt_594 : (.code ⟨"LayerQuantitiesModel", "tryLast", "(IJ)V"⟩ prog_6_method_16_code 14 none : Cond) ∈ TW := tw_t (List.mem_of_getElem? (i := 594) (by decide +kernel)) rfl
theorem mt_595 : (.methodLink "LayerQuantitiesModel" 98 ⟨"LayerQuantitiesModel", "together", "([I)I"⟩ : Cond) ∈ TW := tw_t (List.mem_of_getElem? (i := 595) (by decide +kernel)) rfl
theorem mt_596 : (.static ⟨"LayerQuantitiesModel", "together", "([I)I"⟩ : Cond) ∈ TW := tw_t (List.mem_of_getElem? (i := 596) (by decide +kernel)) rfl
theorem mt_597 : (.code ⟨"LayerQuantitiesModel", "together", "([I)I"⟩ prog_6_method_14_code 1 (some (.int)) : Cond) ∈ TW := tw_t (List.mem_of_getElem? (i := 597) (by decide +kernel)) rfl
theorem mt_598 : (.constantLong "LayerQuantitiesModel" 102 (60) : Cond) ∈ TW := tw_t (List.mem_of_getElem? (i := 598) (by decide +kernel)) rfl
theorem mt_599 : (.methodLink "LayerQuantitiesModel" 104 ⟨"LayerQuantitiesModel", "isBetter", "(J)Z"⟩ : Cond) ∈ TW := tw_t (List.mem_of_getElem? (i := 599) (by decide +kernel)) rfl
theorem mt_600 : (.privateMethod ⟨"LayerQuantitiesModel", "isBetter", "(J)Z"⟩ : Cond) ∈ TW := tw_t (List.mem_of_getElem? (i := 600) (by decide +kernel)) rfl
theorem mt_601 : (.instanceMethod ⟨"LayerQuantitiesModel", "isBetter", "(J)Z"⟩ : Cond) ∈ TW := tw_t (List.mem_of_getElem? (i := 601) (by decide +kernel)) rfl
theorem mt_602 : (.code ⟨"LayerQuantitiesModel", "isBetter", "(J)Z"⟩ prog_6_method_15_code 4 (some (.boolean)) : Cond) ∈ TW := tw_t (List.mem_of_getElem? (i := 602) (by decide +kernel)) rfl
theorem mt_603 : (.methodLink "LayerQuantitiesLaw" 99 ⟨"LayerQuantitiesModel", "cents", "(I)J"⟩ : Cond) ∈ TW := tw_t (List.mem_of_getElem? (i := 603) (by decide +kernel)) rfl
theorem mt_604 : (.instanceMethod ⟨"LayerQuantitiesModel", "cents", "(I)J"⟩ : Cond) ∈ TW := tw_t (List.mem_of_getElem? (i := 604) (by decide +kernel)) rfl
theorem mt_605 : (.selects "LayerQuantitiesModel" ⟨"LayerQuantitiesModel", "cents", "(I)J"⟩ ⟨"LayerQuantitiesModel", "cents", "(I)J"⟩ : Cond) ∈ TW := tw_t (List.mem_of_getElem? (i := 605) (by decide +kernel)) rfl
theorem mt_606 : (.code ⟨"LayerQuantitiesModel", "cents", "(I)J"⟩ prog_6_method_19_code 2 (some (.long)) : Cond) ∈ TW := tw_t (List.mem_of_getElem? (i := 606) (by decide +kernel)) rfl
theorem mt_607 : (.methodLink "LayerQuantitiesLaw" 103 ⟨"LayerQuantitiesModel", "cents", "()J"⟩ : Cond) ∈ TW := tw_t (List.mem_of_getElem? (i := 607) (by decide +kernel)) rfl
theorem mt_608 : (.instanceMethod ⟨"LayerQuantitiesModel", "cents", "()J"⟩ : Cond) ∈ TW := tw_t (List.mem_of_getElem? (i := 608) (by decide +kernel)) rfl
theorem mt_609 : (.selects "LayerQuantitiesModel" ⟨"LayerQuantitiesModel", "cents", "()J"⟩ ⟨"LayerQuantitiesModel", "cents", "()J"⟩ : Cond) ∈ TW := tw_t (List.mem_of_getElem? (i := 609) (by decide +kernel)) rfl
theorem mt_610 : (.code ⟨"LayerQuantitiesModel", "cents", "()J"⟩ prog_6_method_20_code 4 (some (.long)) : Cond) ∈ TW := tw_t (List.mem_of_getElem? (i := 610) (by decide +kernel)) rfl
theorem mt_611 : (.methodLink "LayerQuantitiesLaw" 107 ⟨"LayerQuantitiesModel", "bars", "(II)V"⟩ : Cond) ∈ TW := tw_t (List.mem_of_getElem? (i := 611) (by decide +kernel)) rfl
theorem mt_612 : (.instanceMethod ⟨"LayerQuantitiesModel", "bars", "(II)V"⟩ : Cond) ∈ TW := tw_t (List.mem_of_getElem? (i := 612) (by decide +kernel)) rfl
theorem mt_613 : (.selects "LayerQuantitiesModel" ⟨"LayerQuantitiesModel", "bars", "(II)V"⟩ ⟨"LayerQuantitiesModel", "bars", "(II)V"⟩ : Cond) ∈ TW := tw_t (List.mem_of_getElem? (i := 613) (by decide +kernel)) rfl
theorem mt_614 : (.code ⟨"LayerQuantitiesModel", "bars", "(II)V"⟩ prog_6_method_21_code 5 none : Cond) ∈ TW := tw_t (List.mem_of_getElem? (i := 614) (by decide +kernel)) rfl
theorem mt_615 : (.constantLong "LayerQuantitiesModel" 121 (10000) : Cond) ∈ TW := tw_t (List.mem_of_getElem? (i := 615) (by decide +kernel)) rfl
theorem mt_616 : (.methodLink "LayerQuantitiesLaw" 110 ⟨"LayerQuantitiesModel", "piece", "(I)I"⟩ : Cond) ∈ TW := tw_t (List.mem_of_getElem? (i := 616) (by decide +kernel)) rfl
theorem mt_617 : (.instanceMethod ⟨"LayerQuantitiesModel", "piece", "(I)I"⟩ : Cond) ∈ TW := tw_t (List.mem_of_getElem? (i := 617) (by decide +kernel)) rfl
theorem mt_618 : (.selects "LayerQuantitiesModel" ⟨"LayerQuantitiesModel", "piece", "(I)I"⟩ ⟨"LayerQuantitiesModel", "piece", "(I)I"⟩ : Cond) ∈ TW := tw_t (List.mem_of_getElem? (i := 618) (by decide +kernel)) rfl
theorem mt_619 : (.code ⟨"LayerQuantitiesModel", "piece", "(I)I"⟩ prog_6_method_22_code 2 (some (.int)) : Cond) ∈ TW := tw_t (List.mem_of_getElem? (i := 619) (by decide +kernel)) rfl
theorem mt_620 : (.methodLink "LayerQuantitiesLaw" 113 ⟨"LayerQuantitiesModel", "change", "(II)I"⟩ : Cond) ∈ TW := tw_t (List.mem_of_getElem? (i := 620) (by decide +kernel)) rfl
theorem mt_621 : (.instanceMethod ⟨"LayerQuantitiesModel", "change", "(II)I"⟩ : Cond) ∈ TW := tw_t (List.mem_of_getElem? (i := 621) (by decide +kernel)) rfl
theorem mt_622 : (.selects "LayerQuantitiesModel" ⟨"LayerQuantitiesModel", "change", "(II)I"⟩ ⟨"LayerQuantitiesModel", "change", "(II)I"⟩ : Cond) ∈ TW := tw_t (List.mem_of_getElem? (i := 622) (by decide +kernel)) rfl
theorem mt_623 : (.code ⟨"LayerQuantitiesModel", "change", "(II)I"⟩ prog_6_method_23_code 4 (some (.int)) : Cond) ∈ TW := tw_t (List.mem_of_getElem? (i := 623) (by decide +kernel)) rfl
theorem mt_624 : (.methodLink "LayerQuantitiesLaw" 117 ⟨"LayerQuantitiesModel", "plan", "()I"⟩ : Cond) ∈ TW := tw_t (List.mem_of_getElem? (i := 624) (by decide +kernel)) rfl
theorem mt_625 : (.instanceMethod ⟨"LayerQuantitiesModel", "plan", "()I"⟩ : Cond) ∈ TW := tw_t (List.mem_of_getElem? (i := 625) (by decide +kernel)) rfl
theorem mt_626 : (.selects "LayerQuantitiesModel" ⟨"LayerQuantitiesModel", "plan", "()I"⟩ ⟨"LayerQuantitiesModel", "plan", "()I"⟩ : Cond) ∈ TW := tw_t (List.mem_of_getElem? (i := 626) (by decide +kernel)) rfl
theorem mt_627 : (.code ⟨"LayerQuantitiesModel", "plan", "()I"⟩ prog_6_method_27_code 1 (some (.int)) : Cond) ∈ TW := tw_t (List.mem_of_getElem? (i := 627) (by decide +kernel)) rfl
theorem mt_628 : (.methodLink "LayerQuantitiesModel" 136 ⟨"LayerQuantitiesModel", "findPlan", "()V"⟩ : Cond) ∈ TW := tw_t (List.mem_of_getElem? (i := 628) (by decide +kernel)) rfl
theorem mt_629 : (.privateMethod ⟨"LayerQuantitiesModel", "findPlan", "()V"⟩ : Cond) ∈ TW := tw_t (List.mem_of_getElem? (i := 629) (by decide +kernel)) rfl
theorem mt_630 : (.instanceMethod ⟨"LayerQuantitiesModel", "findPlan", "()V"⟩ : Cond) ∈ TW := tw_t (List.mem_of_getElem? (i := 630) (by decide +kernel)) rfl
theorem mt_631 : (.code ⟨"LayerQuantitiesModel", "findPlan", "()V"⟩ prog_6_method_26_code 4 none : Cond) ∈ TW := tw_t (List.mem_of_getElem? (i := 631) (by decide +kernel)) rfl
theorem mt_632 : (.methodLink "LayerQuantitiesModel" 133 ⟨"LayerQuantitiesModel", "goInto", "(I)Z"⟩ : Cond) ∈ TW := tw_t (List.mem_of_getElem? (i := 632) (by decide +kernel)) rfl
theorem mt_633 : (.privateMethod ⟨"LayerQuantitiesModel", "goInto", "(I)Z"⟩ : Cond) ∈ TW := tw_t (List.mem_of_getElem? (i := 633) (by decide +kernel)) rfl
theorem mt_634 : (.instanceMethod ⟨"LayerQuantitiesModel", "goInto", "(I)Z"⟩ : Cond) ∈ TW := tw_t (List.mem_of_getElem? (i := 634) (by decide +kernel)) rfl
theorem mt_635 : (.code ⟨"LayerQuantitiesModel", "goInto", "(I)Z"⟩ prog_6_method_25_code 7 (some (.boolean)) : Cond) ∈ TW := tw_t (List.mem_of_getElem? (i := 635) (by decide +kernel)) rfl
theorem mt_636 : (.methodLink "LayerQuantitiesModel" 126 ⟨"LayerQuantitiesModel", "usedBefore", "(I)I"⟩ : Cond) ∈ TW := tw_t (List.mem_of_getElem? (i := 636) (by decide +kernel)) rfl
theorem mt_637 : (.privateMethod ⟨"LayerQuantitiesModel", "usedBefore", "(I)I"⟩ : Cond) ∈ TW := tw_t (List.mem_of_getElem? (i := 637) (by decide +kernel)) rfl
theorem mt_638 : (.instanceMethod ⟨"LayerQuantitiesModel", "usedBefore", "(I)I"⟩ : Cond) ∈ TW := tw_t (List.mem_of_getElem? (i := 638) (by decide +kernel)) rfl
theorem mt_639 : (.code ⟨"LayerQuantitiesModel", "usedBefore", "(I)I"⟩ prog_6_method_24_code 4 (some (.int)) : Cond) ∈ TW := tw_t (List.mem_of_getElem? (i := 639) (by decide +kernel)) rfl
theorem mt_640 : (.methodLink "LayerQuantitiesLaw" 120 ⟨"LayerQuantitiesModel", "bar", "(I)I"⟩ : Cond) ∈ TW := tw_t (List.mem_of_getElem? (i := 640) (by decide +kernel)) rfl
theorem mt_641 : (.instanceMethod ⟨"LayerQuantitiesModel", "bar", "(I)I"⟩ : Cond) ∈ TW := tw_t (List.mem_of_getElem? (i := 641) (by decide +kernel)) rfl
theorem mt_642 : (.selects "LayerQuantitiesModel" ⟨"LayerQuantitiesModel", "bar", "(I)I"⟩ ⟨"LayerQuantitiesModel", "bar", "(I)I"⟩ : Cond) ∈ TW := tw_t (List.mem_of_getElem? (i := 642) (by decide +kernel)) rfl
theorem mt_643 : (.code ⟨"LayerQuantitiesModel", "bar", "(I)I"⟩ prog_6_method_28_code 2 (some (.int)) : Cond) ∈ TW := tw_t (List.mem_of_getElem? (i := 643) (by decide +kernel)) rfl
theorem mt_644 : (.methodLink "LayerQuantitiesLaw" 123 ⟨"LayerQuantitiesModel", "rest", "(I)I"⟩ : Cond) ∈ TW := tw_t (List.mem_of_getElem? (i := 644) (by decide +kernel)) rfl
theorem mt_645 : (.instanceMethod ⟨"LayerQuantitiesModel", "rest", "(I)I"⟩ : Cond) ∈ TW := tw_t (List.mem_of_getElem? (i := 645) (by decide +kernel)) rfl
theorem mt_646 : (.selects "LayerQuantitiesModel" ⟨"LayerQuantitiesModel", "rest", "(I)I"⟩ ⟨"LayerQuantitiesModel", "rest", "(I)I"⟩ : Cond) ∈ TW := tw_t (List.mem_of_getElem? (i := 646) (by decide +kernel)) rfl
theorem mt_647 : (.code ⟨"LayerQuantitiesModel", "rest", "(I)I"⟩ prog_6_method_29_code 2 (some (.int)) : Cond) ∈ TW := tw_t (List.mem_of_getElem? (i := 647) (by decide +kernel)) rfl
theorem mt_648 : (.sameMethod "java/lang/Throwable" "java/lang/Throwable" "fillInStackTrace" "(I)Ljava/lang/Throwable;" : Cond) ∈ TW := tw_t (List.mem_of_getElem? (i := 648) (by decide +kernel)) rfl
theorem ms_0 : (.selects "java/lang/Throwable" ⟨"java/lang/Throwable", "fillInStackTrace", "(I)Ljava/lang/Throwable;"⟩ ⟨"java/lang/Throwable", "fillInStackTrace", "(I)Ljava/lang/Throwable;"⟩ : Cond) ∈ TW := tw_s (List.mem_of_getElem? (i := 0) (by decide +kernel)) rfl
theorem ms_1 : (.selects "LayerQuantities$Shelf" ⟨"LayerQuantities$Shelf", "priceFor", "(J)I"⟩ ⟨"LayerQuantities$Shelf", "priceFor", "(J)I"⟩ : Cond) ∈ TW := tw_s (List.mem_of_getElem? (i := 1) (by decide +kernel)) rfl
theorem ms_2 : (.selects "LayerQuantities$Shelf" ⟨"LayerQuantities$Shelf", "search", "(J)V"⟩ ⟨"LayerQuantities$Shelf", "search", "(J)V"⟩ : Cond) ∈ TW := tw_s (List.mem_of_getElem? (i := 2) (by decide +kernel)) rfl
theorem ms_3 : (.selects "LayerQuantities$Shelf" ⟨"LayerQuantities$Shelf", "priceOfOneKind", "(J)I"⟩ ⟨"LayerQuantities$Shelf", "priceOfOneKind", "(J)I"⟩ : Cond) ∈ TW := tw_s (List.mem_of_getElem? (i := 3) (by decide +kernel)) rfl
theorem ms_4 : (.selects "LayerQuantities$Shelf" ⟨"LayerQuantities$Shelf", "tryKind", "(IJII)V"⟩ ⟨"LayerQuantities$Shelf", "tryKind", "(IJII)V"⟩ : Cond) ∈ TW := tw_s (List.mem_of_getElem? (i := 4) (by decide +kernel)) rfl
theorem ms_5 : (.selects "LayerQuantities$Shelf" ⟨"LayerQuantities$Shelf", "keepIfBetter", "(II)V"⟩ ⟨"LayerQuantities$Shelf", "keepIfBetter", "(II)V"⟩ : Cond) ∈ TW := tw_s (List.mem_of_getElem? (i := 5) (by decide +kernel)) rfl
theorem ms_6 : (.selects "LayerQuantities$Shelf" ⟨"LayerQuantities$Shelf", "isBetter", "(JJ)Z"⟩ ⟨"LayerQuantities$Shelf", "isBetter", "(JJ)Z"⟩ : Cond) ∈ TW := tw_s (List.mem_of_getElem? (i := 6) (by decide +kernel)) rfl
theorem ms_7 : (.selects "LayerQuantities$Shelf" ⟨"LayerQuantities$Shelf", "isHopeless", "(IJII)Z"⟩ ⟨"LayerQuantities$Shelf", "isHopeless", "(IJII)Z"⟩ : Cond) ∈ TW := tw_s (List.mem_of_getElem? (i := 7) (by decide +kernel)) rfl
theorem ms_8 : (.selects "LayerQuantities$Saw" ⟨"LayerQuantities$Saw", "makePlan", "()V"⟩ ⟨"LayerQuantities$Saw", "makePlan", "()V"⟩ : Cond) ∈ TW := tw_s (List.mem_of_getElem? (i := 8) (by decide +kernel)) rfl
theorem ms_9 : (.selects "LayerQuantities$Saw" ⟨"LayerQuantities$Saw", "sumFromBehind", "()V"⟩ ⟨"LayerQuantities$Saw", "sumFromBehind", "()V"⟩ : Cond) ∈ TW := tw_s (List.mem_of_getElem? (i := 9) (by decide +kernel)) rfl
theorem ms_10 : (.selects "LayerQuantities$Saw" ⟨"LayerQuantities$Saw", "placeAll", "()Z"⟩ ⟨"LayerQuantities$Saw", "placeAll", "()Z"⟩ : Cond) ∈ TW := tw_s (List.mem_of_getElem? (i := 10) (by decide +kernel)) rfl
theorem ms_11 : (.selects "LayerQuantities$Saw" ⟨"LayerQuantities$Saw", "placeFrom", "(I)Z"⟩ ⟨"LayerQuantities$Saw", "placeFrom", "(I)Z"⟩ : Cond) ∈ TW := tw_s (List.mem_of_getElem? (i := 11) (by decide +kernel)) rfl
theorem ms_12 : (.selects "LayerQuantities$Saw" ⟨"LayerQuantities$Saw", "usable", "(I)I"⟩ ⟨"LayerQuantities$Saw", "usable", "(I)I"⟩ : Cond) ∈ TW := tw_s (List.mem_of_getElem? (i := 12) (by decide +kernel)) rfl
theorem ms_13 : (.selects "LayerQuantities$Saw" ⟨"LayerQuantities$Saw", "isLikeEarlier", "(I)Z"⟩ ⟨"LayerQuantities$Saw", "isLikeEarlier", "(I)Z"⟩ : Cond) ∈ TW := tw_s (List.mem_of_getElem? (i := 13) (by decide +kernel)) rfl
theorem ms_14 : (.selects "LayerQuantities$Wall" ⟨"LayerQuantities$Wall", "wholeThickness", "()I"⟩ ⟨"LayerQuantities$Wall", "wholeThickness", "()I"⟩ : Cond) ∈ TW := tw_s (List.mem_of_getElem? (i := 14) (by decide +kernel)) rfl
theorem ms_15 : (.selects "LayerQuantities$Shelf" ⟨"LayerQuantities$Shelf", "stock", "(II)I"⟩ ⟨"LayerQuantities$Shelf", "stock", "(II)I"⟩ : Cond) ∈ TW := tw_s (List.mem_of_getElem? (i := 15) (by decide +kernel)) rfl
theorem ms_16 : (.selects "LayerQuantities$Shelf" ⟨"LayerQuantities$Shelf", "rankFromBehind", "()V"⟩ ⟨"LayerQuantities$Shelf", "rankFromBehind", "()V"⟩ : Cond) ∈ TW := tw_s (List.mem_of_getElem? (i := 16) (by decide +kernel)) rfl
theorem ms_17 : (.selects "LayerQuantities$Shelf" ⟨"LayerQuantities$Shelf", "countFor", "(JI)I"⟩ ⟨"LayerQuantities$Shelf", "countFor", "(JI)I"⟩ : Cond) ∈ TW := tw_s (List.mem_of_getElem? (i := 17) (by decide +kernel)) rfl
theorem ms_18 : (.selects "LayerQuantities$Saw" ⟨"LayerQuantities$Saw", "longestPiece", "()I"⟩ ⟨"LayerQuantities$Saw", "longestPiece", "()I"⟩ : Cond) ∈ TW := tw_s (List.mem_of_getElem? (i := 18) (by decide +kernel)) rfl
theorem ms_19 : (.selects "LayerQuantities$Saw" ⟨"LayerQuantities$Saw", "takeBars", "(II)V"⟩ ⟨"LayerQuantities$Saw", "takeBars", "(II)V"⟩ : Cond) ∈ TW := tw_s (List.mem_of_getElem? (i := 19) (by decide +kernel)) rfl
theorem ms_20 : (.selects "LayerQuantities$Saw" ⟨"LayerQuantities$Saw", "addPiece", "(I)I"⟩ ⟨"LayerQuantities$Saw", "addPiece", "(I)I"⟩ : Cond) ∈ TW := tw_s (List.mem_of_getElem? (i := 20) (by decide +kernel)) rfl
theorem ms_21 : (.selects "LayerQuantities$Saw" ⟨"LayerQuantities$Saw", "resizePiece", "(II)I"⟩ ⟨"LayerQuantities$Saw", "resizePiece", "(II)I"⟩ : Cond) ∈ TW := tw_s (List.mem_of_getElem? (i := 21) (by decide +kernel)) rfl
theorem ms_22 : (.selects "LayerQuantitiesModel" ⟨"LayerQuantitiesModel", "isWall", "(I)Z"⟩ ⟨"LayerQuantitiesModel", "isWall", "(I)Z"⟩ : Cond) ∈ TW := tw_s (List.mem_of_getElem? (i := 22) (by decide +kernel)) rfl
theorem ms_23 : (.selects "LayerQuantitiesModel" ⟨"LayerQuantitiesModel", "needOf", "(I)J"⟩ ⟨"LayerQuantitiesModel", "needOf", "(I)J"⟩ : Cond) ∈ TW := tw_s (List.mem_of_getElem? (i := 23) (by decide +kernel)) rfl
theorem ms_24 : (.selects "LayerQuantitiesModel" ⟨"LayerQuantitiesModel", "buy", "(I)V"⟩ ⟨"LayerQuantitiesModel", "buy", "(I)V"⟩ : Cond) ∈ TW := tw_s (List.mem_of_getElem? (i := 24) (by decide +kernel)) rfl
theorem ms_25 : (.selects "LayerQuantitiesModel" ⟨"LayerQuantitiesModel", "tryLast", "(IJ)V"⟩ ⟨"LayerQuantitiesModel", "tryLast", "(IJ)V"⟩ : Cond) ∈ TW := tw_s (List.mem_of_getElem? (i := 25) (by decide +kernel)) rfl
theorem ms_26 : (.selects "LayerQuantitiesModel" ⟨"LayerQuantitiesModel", "isBetter", "(J)Z"⟩ ⟨"LayerQuantitiesModel", "isBetter", "(J)Z"⟩ : Cond) ∈ TW := tw_s (List.mem_of_getElem? (i := 26) (by decide +kernel)) rfl
theorem ms_27 : (.selects "LayerQuantitiesModel" ⟨"LayerQuantitiesModel", "findPlan", "()V"⟩ ⟨"LayerQuantitiesModel", "findPlan", "()V"⟩ : Cond) ∈ TW := tw_s (List.mem_of_getElem? (i := 27) (by decide +kernel)) rfl
theorem ms_28 : (.selects "LayerQuantitiesModel" ⟨"LayerQuantitiesModel", "goInto", "(I)Z"⟩ ⟨"LayerQuantitiesModel", "goInto", "(I)Z"⟩ : Cond) ∈ TW := tw_s (List.mem_of_getElem? (i := 28) (by decide +kernel)) rfl
theorem ms_29 : (.selects "LayerQuantitiesModel" ⟨"LayerQuantitiesModel", "usedBefore", "(I)I"⟩ ⟨"LayerQuantitiesModel", "usedBefore", "(I)I"⟩ : Cond) ∈ TW := tw_s (List.mem_of_getElem? (i := 29) (by decide +kernel)) rfl
end
section
-- NUMBERS: ints and longs as images of integers
def iI (z : Int) : Int32 := Int32.ofInt z
def lI (z : Int) : Int64 := Int64.ofInt z
abbrev r32 (z : Int) : Prop := -2147483648 ≤ z ∧ z < 2147483648
abbrev r64 (z : Int) : Prop := -9223372036854775808 ≤ z ∧ z < 9223372036854775808
theorem iI_toInt {a : Int} (h : r32 a) : (iI a).toInt = a := Int32.toInt_ofInt_of_le (by omega) (by omega)
theorem lI_toInt {a : Int} (h : r64 a) : (lI a).toInt = a := Int64.toInt_ofInt_of_le (by omega) (by omega)
theorem iI_of (x : Int32) : x = iI x.toInt := (Int32.ofInt_toInt x).symm
theorem lI_of (x : Int64) : x = lI x.toInt := (Int64.ofInt_toInt x).symm
theorem r32_of (x : Int32) : r32 x.toInt := ⟨by have := x.le_toInt; omega, by have := x.toInt_lt; omega⟩
theorem r64_of (x : Int64) : r64 x.toInt := ⟨by have := x.le_toInt; omega, by have := x.toInt_lt; omega⟩
theorem iI_ex (x : Int32) : ∃ a : Int, r32 a ∧ x = iI a := ⟨_, r32_of x, iI_of x⟩
theorem lI_ex (x : Int64) : ∃ a : Int, r64 a ∧ x = lI a := ⟨_, r64_of x, lI_of x⟩
theorem iI_add (a b : Int) : iI a + iI b = iI (a + b) := (Int32.ofInt_add a b).symm
theorem iI_sub (a b : Int) : iI a - iI b = iI (a - b) := (Int32.ofInt_sub a b).symm
theorem iI_mul (a b : Int) : iI a * iI b = iI (a * b) := (Int32.ofInt_mul a b).symm
theorem iI_neg (a : Int) : -iI a = iI (-a) := (Int32.ofInt_neg a).symm
theorem lI_add (a b : Int) : lI a + lI b = lI (a + b) := (Int64.ofInt_add a b).symm
theorem lI_sub (a b : Int) : lI a - lI b = lI (a - b) := (Int64.ofInt_sub a b).symm
theorem lI_mul (a b : Int) : lI a * lI b = lI (a * b) := (Int64.ofInt_mul a b).symm
theorem iI_lt {a b : Int} (ha : r32 a) (hb : r32 b) : iI a < iI b ↔ a < b := by rw [Int32.lt_iff_toInt_lt, iI_toInt ha, iI_toInt hb]
theorem iI_le {a b : Int} (ha : r32 a) (hb : r32 b) : iI a ≤ iI b ↔ a ≤ b := by rw [Int32.le_iff_toInt_le, iI_toInt ha, iI_toInt hb]
theorem iI_eq {a b : Int} (ha : r32 a) (hb : r32 b) : iI a = iI b ↔ a = b := by rw [← Int32.toInt_inj, iI_toInt ha, iI_toInt hb]
theorem lI_lt {a b : Int} (ha : r64 a) (hb : r64 b) : lI a < lI b ↔ a < b := by rw [Int64.lt_iff_toInt_lt, lI_toInt ha, lI_toInt hb]
theorem lI_le {a b : Int} (ha : r64 a) (hb : r64 b) : lI a ≤ lI b ↔ a ≤ b := by rw [Int64.le_iff_toInt_le, lI_toInt ha, lI_toInt hb]
theorem lI_eq {a b : Int} (ha : r64 a) (hb : r64 b) : lI a = lI b ↔ a = b := by rw [← Int64.toInt_inj, lI_toInt ha, lI_toInt hb]
theorem iI_0 : (0 : Int32) = iI 0 := rfl
theorem lI_0 : (0 : Int64) = lI 0 := rfl
theorem iI_nat (n : Nat) : Int32.ofNat n = iI n := Int32.ofInt_eq_ofNat.symm
theorem iI_nI (n : Nat) : nI n = iI n := iI_nat n
theorem iI_cl {a : Int} (h : r32 a) : (iI a).toNatClampNeg = a.toNat := Int32.toNatClampNeg_ofInt_of_le (by omega) (by omega)
theorem iI_in {a : Int} {n : Nat} (h0 : 0 ≤ a) (h : a < n) (hn : a < 2147483648) : vp_in (iI a) n := by
  rw [vp_in_iff, iI_toInt ⟨by omega, by omega⟩]
  exact ⟨h0, h⟩
theorem iI_nn {a : Int} (h : r32 a) (h0 : 0 ≤ a) : ¬ iI a < 0 := by rw [iI_0, iI_lt h ⟨by omega, by omega⟩]; omega
theorem iI_l {a : Int} (h : r32 a) : (iI a).toInt64 = lI a := by
  rw [← Int64.toInt_inj, Int32.toInt_toInt64, iI_toInt h, lI_toInt ⟨by omega, by omega⟩]
theorem lI_i (a : Int) : (lI a).toInt32 = iI a := by
  rw [← Int32.toInt_inj]
  unfold lI iI
  simp
theorem lI_div {a b : Int} (ha : r64 a) (h0 : 0 ≤ a) (hb : r64 b) (hb0 : 0 < b) : lI a / lI b = lI (a / b) := by
  rw [← Int64.toInt_inj, Int64.toInt_div_of_ne_right, lI_toInt ha, lI_toInt hb, Int.tdiv_eq_ediv_of_nonneg h0, lI_toInt]
  · have h1 : 0 ≤ a / b := Int.ediv_nonneg h0 (by omega)
    have h2 : a / b ≤ a := Int.ediv_le_self b h0
    exact ⟨by omega, by omega⟩
  · intro h
    rw [← Int64.toInt_inj, lI_toInt hb] at h
    have h3 : (-1 : Int64).toInt = -1 := by decide
    omega
theorem iI_div {a b : Int} (ha : r32 a) (h0 : 0 ≤ a) (hb : r32 b) (hb0 : 0 < b) : iI a / iI b = iI (a / b) := by
  rw [← Int32.toInt_inj, Int32.toInt_div_of_ne_right, iI_toInt ha, iI_toInt hb, Int.tdiv_eq_ediv_of_nonneg h0, iI_toInt]
  · have h1 : 0 ≤ a / b := Int.ediv_nonneg h0 (by omega)
    have h2 : a / b ≤ a := Int.ediv_le_self b h0
    exact ⟨by omega, by omega⟩
  · intro h
    rw [← Int32.toInt_inj, iI_toInt hb] at h
    have h3 : (-1 : Int32).toInt = -1 := by decide
    omega
-- arrays: contents as integer functions
abbrev iA (g : Nat → Int) : Nat → Int32 := fun j => iI (g j)
abbrev lA (g : Nat → Int) : Nat → Int64 := fun j => lI (g j)
def ut {α : Type} (g : Nat → α) (k : Nat) (v : α) : Nat → α := fun j => if j = k then v else g j
theorem ut_s {α : Type} (g : Nat → α) (k : Nat) (v : α) : ut g k v k = v := by simp [ut]
theorem ut_n {α : Type} (g : Nat → α) {k j : Nat} (v : α) (h : j ≠ k) : ut g k v j = g j := by simp [ut, h]
theorem iA_ut (g : Nat → Int) (k : Nat) (v : Int) : upd (iA g) k (iI v) = iA (ut g k v) := by
  funext j
  by_cases h : j = k
  · subst h
    rw [pk_us]
    show _ = iI (ut g j v j)
    rw [ut_s]
  · rw [pk_un h]
    show _ = iI (ut g k v j)
    rw [ut_n g v h]
theorem lA_ut (g : Nat → Int) (k : Nat) (v : Int) : vp_updL (lA g) k (lI v) = lA (ut g k v) := by
  funext j
  by_cases h : j = k
  · subst h
    rw [pk_uLs]
    show _ = lI (ut g j v j)
    rw [ut_s]
  · rw [pk_uLn h]
    show _ = lI (ut g k v j)
    rw [ut_n g v h]
theorem iA_0 : (fun _ => 0 : Nat → Int32) = iA (fun _ => 0) := rfl
theorem lA_0 : (fun _ => 0 : Nat → Int64) = lA (fun _ => 0) := rfl
end
section
-- INSTRUCTION ROWS over integers (iI, lI)
section IzRows
variable {p : Program} {l : Launch} {e : Env} {R : Room} {s : State} {m : MethodId} {args : Array Value} {below : List Frame} {meth : Method} {c : Code} {H : Heap} {locs : List Loc} {cells slots : Nat} {Q : State → Prop}
variable {cc : ByteArray} {pc : Nat} {ls : Array Slot} {rest : List Value}
theorem iz_iconst (hx : p.tables.exec = Jvm.exec) (hb : c.code = cc) {n : Int} (hd : decode cc pc = .ok (.iconst n, 1)) (k : W p l e R s m args below meth c H locs cells slots Q (F0 m (pc + 1) ls (.int (iI n) :: rest))) : W p l e R s m args below meth c H locs cells slots Q (F0 m pc ls (rest)) := lv_iconst hx hb hd rfl k
theorem iz_bipush (hx : p.tables.exec = Jvm.exec) (hb : c.code = cc) {n : Int} (hd : decode cc pc = .ok (.bipush n, 2)) (hn : (Int8.ofInt n).toInt32 = iI n) (k : W p l e R s m args below meth c H locs cells slots Q (F0 m (pc + 2) ls (.int (iI n) :: rest))) : W p l e R s m args below meth c H locs cells slots Q (F0 m pc ls (rest)) := lv_bipush hx hb hd hn k
theorem iz_sipush (hx : p.tables.exec = Jvm.exec) (hb : c.code = cc) {n : Int} (hd : decode cc pc = .ok (.sipush n, 3)) (hn : (Int16.ofInt n).toInt32 = iI n) (k : W p l e R s m args below meth c H locs cells slots Q (F0 m (pc + 3) ls (.int (iI n) :: rest))) : W p l e R s m args below meth c H locs cells slots Q (F0 m pc ls (rest)) := lv_sipush hx hb hd hn k
theorem iz_lconst (hx : p.tables.exec = Jvm.exec) (hb : c.code = cc) {n : Fin 2} (z : Int) (hz : ((n : Nat) : Int) = z) (hd : decode cc pc = .ok (.lconst n, 1)) (k : W p l e R s m args below meth c H locs cells slots Q (F0 m (pc + 1) ls (.long (lI z) :: rest))) : W p l e R s m args below meth c H locs cells slots Q (F0 m pc ls (rest)) := lv_lconst hx hb hd (by rw [← hz]; exact Int64.ofInt_eq_ofNat.symm) k
theorem iz_iadd (hx : p.tables.exec = Jvm.exec) (hb : c.code = cc) {a b : Int} (hd : decode cc pc = .ok (.iadd, 1)) (k : W p l e R s m args below meth c H locs cells slots Q (F0 m (pc + 1) ls (.int (iI (a + b)) :: rest))) : W p l e R s m args below meth c H locs cells slots Q (F0 m pc ls (.int (iI b) :: .int (iI a) :: rest)) := lv_iadd hx hb hd (by rw [iI_add]; exact k)
theorem iz_ladd (hx : p.tables.exec = Jvm.exec) (hb : c.code = cc) {a b : Int} (hd : decode cc pc = .ok (.ladd, 1)) (k : W p l e R s m args below meth c H locs cells slots Q (F0 m (pc + 1) ls (.long (lI (a + b)) :: rest))) : W p l e R s m args below meth c H locs cells slots Q (F0 m pc ls (.long (lI b) :: .long (lI a) :: rest)) := lv_ladd hx hb hd (by rw [lI_add]; exact k)
theorem iz_isub (hx : p.tables.exec = Jvm.exec) (hb : c.code = cc) {a b : Int} (hd : decode cc pc = .ok (.isub, 1)) (k : W p l e R s m args below meth c H locs cells slots Q (F0 m (pc + 1) ls (.int (iI (a - b)) :: rest))) : W p l e R s m args below meth c H locs cells slots Q (F0 m pc ls (.int (iI b) :: .int (iI a) :: rest)) := lv_isub hx hb hd (by rw [iI_sub]; exact k)
theorem iz_lsub (hx : p.tables.exec = Jvm.exec) (hb : c.code = cc) {a b : Int} (hd : decode cc pc = .ok (.lsub, 1)) (k : W p l e R s m args below meth c H locs cells slots Q (F0 m (pc + 1) ls (.long (lI (a - b)) :: rest))) : W p l e R s m args below meth c H locs cells slots Q (F0 m pc ls (.long (lI b) :: .long (lI a) :: rest)) := lv_lsub hx hb hd (by rw [lI_sub]; exact k)
theorem iz_imul (hx : p.tables.exec = Jvm.exec) (hb : c.code = cc) {a b : Int} (hd : decode cc pc = .ok (.imul, 1)) (k : W p l e R s m args below meth c H locs cells slots Q (F0 m (pc + 1) ls (.int (iI (a * b)) :: rest))) : W p l e R s m args below meth c H locs cells slots Q (F0 m pc ls (.int (iI b) :: .int (iI a) :: rest)) := lv_imul hx hb hd (by rw [iI_mul]; exact k)
theorem iz_lmul (hx : p.tables.exec = Jvm.exec) (hb : c.code = cc) {a b : Int} (hd : decode cc pc = .ok (.lmul, 1)) (k : W p l e R s m args below meth c H locs cells slots Q (F0 m (pc + 1) ls (.long (lI (a * b)) :: rest))) : W p l e R s m args below meth c H locs cells slots Q (F0 m pc ls (.long (lI b) :: .long (lI a) :: rest)) := lv_lmul hx hb hd (by rw [lI_mul]; exact k)
theorem iz_ldiv (hx : p.tables.exec = Jvm.exec) (hb : c.code = cc) {a b : Int} (ha : r64 a) (h0 : 0 ≤ a) (hb1 : r64 b) (hb0 : 0 < b) (hd : decode cc pc = .ok (.ldiv, 1)) (k : W p l e R s m args below meth c H locs cells slots Q (F0 m (pc + 1) ls (.long (lI (a / b)) :: rest))) : W p l e R s m args below meth c H locs cells slots Q (F0 m pc ls (.long (lI b) :: .long (lI a) :: rest)) := by
  refine lv_ldiv hx hb hd ?_ (by rw [lI_div ha h0 hb1 hb0]; exact k)
  rw [lI_0, lI_eq hb1 ⟨by omega, by omega⟩]
  omega
theorem iz_idiv (hx : p.tables.exec = Jvm.exec) (hb : c.code = cc) {a b : Int} (ha : r32 a) (h0 : 0 ≤ a) (hb1 : r32 b) (hb0 : 0 < b) (hd : decode cc pc = .ok (.idiv, 1)) (k : W p l e R s m args below meth c H locs cells slots Q (F0 m (pc + 1) ls (.int (iI (a / b)) :: rest))) : W p l e R s m args below meth c H locs cells slots Q (F0 m pc ls (.int (iI b) :: .int (iI a) :: rest)) := by
  refine lv_idiv hx hb hd ?_ (by rw [iI_div ha h0 hb1 hb0]; exact k)
  rw [iI_0, iI_eq hb1 ⟨by omega, by omega⟩]
  omega
theorem iz_i2l (hx : p.tables.exec = Jvm.exec) (hb : c.code = cc) {a : Int} (ha : r32 a) (hd : decode cc pc = .ok (.i2l, 1)) (k : W p l e R s m args below meth c H locs cells slots Q (F0 m (pc + 1) ls (.long (lI a) :: rest))) : W p l e R s m args below meth c H locs cells slots Q (F0 m pc ls (.int (iI a) :: rest)) := lv_i2l hx hb hd (iI_l ha) k
theorem iz_l2i (hx : p.tables.exec = Jvm.exec) (hb : c.code = cc) {a : Int} (hd : decode cc pc = .ok (.l2i, 1)) (k : W p l e R s m args below meth c H locs cells slots Q (F0 m (pc + 1) ls (.int (iI a) :: rest))) : W p l e R s m args below meth c H locs cells slots Q (F0 m pc ls (.long (lI a) :: rest)) := lv_l2i hx hb hd (lI_i a) k
theorem iz_iinc (hx : p.tables.exec = Jvm.exec) (hb : c.code = cc) {i nL k : Nat} {n a : Int} {lv lv' : List (Nat × Value)} (hd : decode cc pc = .ok (.iinc i n, 3)) (h : lv_has ls nL lv) (hk : lv[k]? = some (i, .int (iI a))) (hn : i < nL) (hl : (i, Value.int (iI (a + n))) :: lv.filter (fun q => !(q.1 == i) && !(q.1 + 1 == i && q.2.category == 2)) = lv')
    (kk : ∀ ls' : Array Slot, lv_has ls' nL lv' → W p l e R s m args below meth c H locs cells slots Q (F0 m (pc + 3) ls' rest)) : W p l e R s m args below meth c H locs cells slots Q (F0 m pc ls (rest)) := lv_iinc hx hb hd h hk (iI_add a n) hn hl kk
theorem iz_icmp_eq (hx : p.tables.exec = Jvm.exec) (hb : c.code = cc) {a b : Int} (ha : r32 a) (hb1 : r32 b) {off : Int} {tgt : Nat} (hd : decode cc pc = .ok (.if_icmp .eq off, 3)) (ht : (pc : Int) + off = (tgt : Int)) (kt : a = b → W p l e R s m args below meth c H locs cells slots Q (F0 m tgt ls (rest))) (kf : ¬ a = b → W p l e R s m args below meth c H locs cells slots Q (F0 m (pc + 3) ls (rest))) : W p l e R s m args below meth c H locs cells slots Q (F0 m pc ls (.int (iI b) :: .int (iI a) :: rest)) := by
  refine lv_icmp_eq hx hb hd ht (fun h => kt ?_) (fun h => kf ?_)
  · have h := h
    first | rw [iI_lt ha hb1] at h | rw [iI_lt hb1 ha] at h | rw [iI_le ha hb1] at h | rw [iI_le hb1 ha] at h | rw [iI_eq ha hb1] at h | (rw [ne_eq, iI_eq ha hb1] at h)
    omega
  · have h := h
    first | rw [iI_lt ha hb1] at h | rw [iI_lt hb1 ha] at h | rw [iI_le ha hb1] at h | rw [iI_le hb1 ha] at h | rw [iI_eq ha hb1] at h | (rw [ne_eq, iI_eq ha hb1] at h)
    omega
theorem iz_if_eq (hx : p.tables.exec = Jvm.exec) (hb : c.code = cc) {a : Int} (ha : r32 a) {off : Int} {tgt : Nat} (hd : decode cc pc = .ok (.ifCond .eq off, 3)) (ht : (pc : Int) + off = (tgt : Int)) (kt : a = 0 → W p l e R s m args below meth c H locs cells slots Q (F0 m tgt ls (rest))) (kf : ¬ a = 0 → W p l e R s m args below meth c H locs cells slots Q (F0 m (pc + 3) ls (rest))) : W p l e R s m args below meth c H locs cells slots Q (F0 m pc ls (.int (iI a) :: rest)) := by
  have hz : r32 0 := ⟨by omega, by omega⟩
  refine lv_if_eq hx hb hd ht (fun h => kt ?_) (fun h => kf ?_)
  · have h := h
    rw [iI_0] at h
    first | rw [iI_lt ha hz] at h | rw [iI_lt hz ha] at h | rw [iI_le ha hz] at h | rw [iI_le hz ha] at h | rw [iI_eq ha hz] at h | (rw [ne_eq, iI_eq ha hz] at h)
    omega
  · have h := h
    rw [iI_0] at h
    first | rw [iI_lt ha hz] at h | rw [iI_lt hz ha] at h | rw [iI_le ha hz] at h | rw [iI_le hz ha] at h | rw [iI_eq ha hz] at h | (rw [ne_eq, iI_eq ha hz] at h)
    omega
theorem iz_icmp_ne (hx : p.tables.exec = Jvm.exec) (hb : c.code = cc) {a b : Int} (ha : r32 a) (hb1 : r32 b) {off : Int} {tgt : Nat} (hd : decode cc pc = .ok (.if_icmp .ne off, 3)) (ht : (pc : Int) + off = (tgt : Int)) (kt : ¬ a = b → W p l e R s m args below meth c H locs cells slots Q (F0 m tgt ls (rest))) (kf : a = b → W p l e R s m args below meth c H locs cells slots Q (F0 m (pc + 3) ls (rest))) : W p l e R s m args below meth c H locs cells slots Q (F0 m pc ls (.int (iI b) :: .int (iI a) :: rest)) := by
  refine lv_icmp_ne hx hb hd ht (fun h => kt ?_) (fun h => kf ?_)
  · have h := h
    first | rw [iI_lt ha hb1] at h | rw [iI_lt hb1 ha] at h | rw [iI_le ha hb1] at h | rw [iI_le hb1 ha] at h | rw [iI_eq ha hb1] at h | (rw [ne_eq, iI_eq ha hb1] at h)
    omega
  · have h := h
    first | rw [iI_lt ha hb1] at h | rw [iI_lt hb1 ha] at h | rw [iI_le ha hb1] at h | rw [iI_le hb1 ha] at h | rw [iI_eq ha hb1] at h | (rw [ne_eq, iI_eq ha hb1] at h)
    omega
theorem iz_if_ne (hx : p.tables.exec = Jvm.exec) (hb : c.code = cc) {a : Int} (ha : r32 a) {off : Int} {tgt : Nat} (hd : decode cc pc = .ok (.ifCond .ne off, 3)) (ht : (pc : Int) + off = (tgt : Int)) (kt : ¬ a = 0 → W p l e R s m args below meth c H locs cells slots Q (F0 m tgt ls (rest))) (kf : a = 0 → W p l e R s m args below meth c H locs cells slots Q (F0 m (pc + 3) ls (rest))) : W p l e R s m args below meth c H locs cells slots Q (F0 m pc ls (.int (iI a) :: rest)) := by
  have hz : r32 0 := ⟨by omega, by omega⟩
  refine lv_if_ne hx hb hd ht (fun h => kt ?_) (fun h => kf ?_)
  · have h := h
    rw [iI_0] at h
    first | rw [iI_lt ha hz] at h | rw [iI_lt hz ha] at h | rw [iI_le ha hz] at h | rw [iI_le hz ha] at h | rw [iI_eq ha hz] at h | (rw [ne_eq, iI_eq ha hz] at h)
    omega
  · have h := h
    rw [iI_0] at h
    first | rw [iI_lt ha hz] at h | rw [iI_lt hz ha] at h | rw [iI_le ha hz] at h | rw [iI_le hz ha] at h | rw [iI_eq ha hz] at h | (rw [ne_eq, iI_eq ha hz] at h)
    omega
theorem iz_icmp_lt (hx : p.tables.exec = Jvm.exec) (hb : c.code = cc) {a b : Int} (ha : r32 a) (hb1 : r32 b) {off : Int} {tgt : Nat} (hd : decode cc pc = .ok (.if_icmp .lt off, 3)) (ht : (pc : Int) + off = (tgt : Int)) (kt : a < b → W p l e R s m args below meth c H locs cells slots Q (F0 m tgt ls (rest))) (kf : b ≤ a → W p l e R s m args below meth c H locs cells slots Q (F0 m (pc + 3) ls (rest))) : W p l e R s m args below meth c H locs cells slots Q (F0 m pc ls (.int (iI b) :: .int (iI a) :: rest)) := by
  refine lv_icmp_lt hx hb hd ht (fun h => kt ?_) (fun h => kf ?_)
  · have h := h
    first | rw [iI_lt ha hb1] at h | rw [iI_lt hb1 ha] at h | rw [iI_le ha hb1] at h | rw [iI_le hb1 ha] at h | rw [iI_eq ha hb1] at h | (rw [ne_eq, iI_eq ha hb1] at h)
    omega
  · have h := h
    first | rw [iI_lt ha hb1] at h | rw [iI_lt hb1 ha] at h | rw [iI_le ha hb1] at h | rw [iI_le hb1 ha] at h | rw [iI_eq ha hb1] at h | (rw [ne_eq, iI_eq ha hb1] at h)
    omega
theorem iz_if_lt (hx : p.tables.exec = Jvm.exec) (hb : c.code = cc) {a : Int} (ha : r32 a) {off : Int} {tgt : Nat} (hd : decode cc pc = .ok (.ifCond .lt off, 3)) (ht : (pc : Int) + off = (tgt : Int)) (kt : a < 0 → W p l e R s m args below meth c H locs cells slots Q (F0 m tgt ls (rest))) (kf : 0 ≤ a → W p l e R s m args below meth c H locs cells slots Q (F0 m (pc + 3) ls (rest))) : W p l e R s m args below meth c H locs cells slots Q (F0 m pc ls (.int (iI a) :: rest)) := by
  have hz : r32 0 := ⟨by omega, by omega⟩
  refine lv_if_lt hx hb hd ht (fun h => kt ?_) (fun h => kf ?_)
  · have h := h
    rw [iI_0] at h
    first | rw [iI_lt ha hz] at h | rw [iI_lt hz ha] at h | rw [iI_le ha hz] at h | rw [iI_le hz ha] at h | rw [iI_eq ha hz] at h | (rw [ne_eq, iI_eq ha hz] at h)
    omega
  · have h := h
    rw [iI_0] at h
    first | rw [iI_lt ha hz] at h | rw [iI_lt hz ha] at h | rw [iI_le ha hz] at h | rw [iI_le hz ha] at h | rw [iI_eq ha hz] at h | (rw [ne_eq, iI_eq ha hz] at h)
    omega
theorem iz_icmp_ge (hx : p.tables.exec = Jvm.exec) (hb : c.code = cc) {a b : Int} (ha : r32 a) (hb1 : r32 b) {off : Int} {tgt : Nat} (hd : decode cc pc = .ok (.if_icmp .ge off, 3)) (ht : (pc : Int) + off = (tgt : Int)) (kt : b ≤ a → W p l e R s m args below meth c H locs cells slots Q (F0 m tgt ls (rest))) (kf : a < b → W p l e R s m args below meth c H locs cells slots Q (F0 m (pc + 3) ls (rest))) : W p l e R s m args below meth c H locs cells slots Q (F0 m pc ls (.int (iI b) :: .int (iI a) :: rest)) := by
  refine lv_icmp_ge hx hb hd ht (fun h => kt ?_) (fun h => kf ?_)
  · have h := h
    first | rw [iI_lt ha hb1] at h | rw [iI_lt hb1 ha] at h | rw [iI_le ha hb1] at h | rw [iI_le hb1 ha] at h | rw [iI_eq ha hb1] at h | (rw [ne_eq, iI_eq ha hb1] at h)
    omega
  · have h := h
    first | rw [iI_lt ha hb1] at h | rw [iI_lt hb1 ha] at h | rw [iI_le ha hb1] at h | rw [iI_le hb1 ha] at h | rw [iI_eq ha hb1] at h | (rw [ne_eq, iI_eq ha hb1] at h)
    omega
theorem iz_if_ge (hx : p.tables.exec = Jvm.exec) (hb : c.code = cc) {a : Int} (ha : r32 a) {off : Int} {tgt : Nat} (hd : decode cc pc = .ok (.ifCond .ge off, 3)) (ht : (pc : Int) + off = (tgt : Int)) (kt : 0 ≤ a → W p l e R s m args below meth c H locs cells slots Q (F0 m tgt ls (rest))) (kf : a < 0 → W p l e R s m args below meth c H locs cells slots Q (F0 m (pc + 3) ls (rest))) : W p l e R s m args below meth c H locs cells slots Q (F0 m pc ls (.int (iI a) :: rest)) := by
  have hz : r32 0 := ⟨by omega, by omega⟩
  refine lv_if_ge hx hb hd ht (fun h => kt ?_) (fun h => kf ?_)
  · have h := h
    rw [iI_0] at h
    first | rw [iI_lt ha hz] at h | rw [iI_lt hz ha] at h | rw [iI_le ha hz] at h | rw [iI_le hz ha] at h | rw [iI_eq ha hz] at h | (rw [ne_eq, iI_eq ha hz] at h)
    omega
  · have h := h
    rw [iI_0] at h
    first | rw [iI_lt ha hz] at h | rw [iI_lt hz ha] at h | rw [iI_le ha hz] at h | rw [iI_le hz ha] at h | rw [iI_eq ha hz] at h | (rw [ne_eq, iI_eq ha hz] at h)
    omega
theorem iz_icmp_gt (hx : p.tables.exec = Jvm.exec) (hb : c.code = cc) {a b : Int} (ha : r32 a) (hb1 : r32 b) {off : Int} {tgt : Nat} (hd : decode cc pc = .ok (.if_icmp .gt off, 3)) (ht : (pc : Int) + off = (tgt : Int)) (kt : b < a → W p l e R s m args below meth c H locs cells slots Q (F0 m tgt ls (rest))) (kf : a ≤ b → W p l e R s m args below meth c H locs cells slots Q (F0 m (pc + 3) ls (rest))) : W p l e R s m args below meth c H locs cells slots Q (F0 m pc ls (.int (iI b) :: .int (iI a) :: rest)) := by
  refine lv_icmp_gt hx hb hd ht (fun h => kt ?_) (fun h => kf ?_)
  · have h := h
    first | rw [iI_lt ha hb1] at h | rw [iI_lt hb1 ha] at h | rw [iI_le ha hb1] at h | rw [iI_le hb1 ha] at h | rw [iI_eq ha hb1] at h | (rw [ne_eq, iI_eq ha hb1] at h)
    omega
  · have h := h
    first | rw [iI_lt ha hb1] at h | rw [iI_lt hb1 ha] at h | rw [iI_le ha hb1] at h | rw [iI_le hb1 ha] at h | rw [iI_eq ha hb1] at h | (rw [ne_eq, iI_eq ha hb1] at h)
    omega
theorem iz_if_gt (hx : p.tables.exec = Jvm.exec) (hb : c.code = cc) {a : Int} (ha : r32 a) {off : Int} {tgt : Nat} (hd : decode cc pc = .ok (.ifCond .gt off, 3)) (ht : (pc : Int) + off = (tgt : Int)) (kt : 0 < a → W p l e R s m args below meth c H locs cells slots Q (F0 m tgt ls (rest))) (kf : a ≤ 0 → W p l e R s m args below meth c H locs cells slots Q (F0 m (pc + 3) ls (rest))) : W p l e R s m args below meth c H locs cells slots Q (F0 m pc ls (.int (iI a) :: rest)) := by
  have hz : r32 0 := ⟨by omega, by omega⟩
  refine lv_if_gt hx hb hd ht (fun h => kt ?_) (fun h => kf ?_)
  · have h := h
    rw [iI_0] at h
    first | rw [iI_lt ha hz] at h | rw [iI_lt hz ha] at h | rw [iI_le ha hz] at h | rw [iI_le hz ha] at h | rw [iI_eq ha hz] at h | (rw [ne_eq, iI_eq ha hz] at h)
    omega
  · have h := h
    rw [iI_0] at h
    first | rw [iI_lt ha hz] at h | rw [iI_lt hz ha] at h | rw [iI_le ha hz] at h | rw [iI_le hz ha] at h | rw [iI_eq ha hz] at h | (rw [ne_eq, iI_eq ha hz] at h)
    omega
theorem iz_icmp_le (hx : p.tables.exec = Jvm.exec) (hb : c.code = cc) {a b : Int} (ha : r32 a) (hb1 : r32 b) {off : Int} {tgt : Nat} (hd : decode cc pc = .ok (.if_icmp .le off, 3)) (ht : (pc : Int) + off = (tgt : Int)) (kt : a ≤ b → W p l e R s m args below meth c H locs cells slots Q (F0 m tgt ls (rest))) (kf : b < a → W p l e R s m args below meth c H locs cells slots Q (F0 m (pc + 3) ls (rest))) : W p l e R s m args below meth c H locs cells slots Q (F0 m pc ls (.int (iI b) :: .int (iI a) :: rest)) := by
  refine lv_icmp_le hx hb hd ht (fun h => kt ?_) (fun h => kf ?_)
  · have h := h
    first | rw [iI_lt ha hb1] at h | rw [iI_lt hb1 ha] at h | rw [iI_le ha hb1] at h | rw [iI_le hb1 ha] at h | rw [iI_eq ha hb1] at h | (rw [ne_eq, iI_eq ha hb1] at h)
    omega
  · have h := h
    first | rw [iI_lt ha hb1] at h | rw [iI_lt hb1 ha] at h | rw [iI_le ha hb1] at h | rw [iI_le hb1 ha] at h | rw [iI_eq ha hb1] at h | (rw [ne_eq, iI_eq ha hb1] at h)
    omega
theorem iz_if_le (hx : p.tables.exec = Jvm.exec) (hb : c.code = cc) {a : Int} (ha : r32 a) {off : Int} {tgt : Nat} (hd : decode cc pc = .ok (.ifCond .le off, 3)) (ht : (pc : Int) + off = (tgt : Int)) (kt : a ≤ 0 → W p l e R s m args below meth c H locs cells slots Q (F0 m tgt ls (rest))) (kf : 0 < a → W p l e R s m args below meth c H locs cells slots Q (F0 m (pc + 3) ls (rest))) : W p l e R s m args below meth c H locs cells slots Q (F0 m pc ls (.int (iI a) :: rest)) := by
  have hz : r32 0 := ⟨by omega, by omega⟩
  refine lv_if_le hx hb hd ht (fun h => kt ?_) (fun h => kf ?_)
  · have h := h
    rw [iI_0] at h
    first | rw [iI_lt ha hz] at h | rw [iI_lt hz ha] at h | rw [iI_le ha hz] at h | rw [iI_le hz ha] at h | rw [iI_eq ha hz] at h | (rw [ne_eq, iI_eq ha hz] at h)
    omega
  · have h := h
    rw [iI_0] at h
    first | rw [iI_lt ha hz] at h | rw [iI_lt hz ha] at h | rw [iI_le ha hz] at h | rw [iI_le hz ha] at h | rw [iI_eq ha hz] at h | (rw [ne_eq, iI_eq ha hz] at h)
    omega
theorem iz_cmp {a b : Int} (ha : r64 a) (hb : r64 b) : lg_cmp (lI a) (lI b) = iI (if b < a then 1 else if a = b then 0 else -1) := by
  unfold lg_cmp
  simp only [lI_lt hb ha, lI_lt ha hb, lI_eq ha hb, lI_eq hb ha]
  split
  · rfl
  · split
    · first | rfl | (rw [if_pos (by omega)]; rfl) | (rw [if_neg (by omega)]; rfl)
    · first | rfl | (rw [if_pos (by omega)]; rfl) | (rw [if_neg (by omega)]; rfl)
theorem iz_lc_eq (hx : p.tables.exec = Jvm.exec) (hb : c.code = cc) {a b : Int} (ha : r64 a) (hb1 : r64 b) {off : Int} {tgt : Nat} (hd : decode cc pc = .ok (.lcmp, 1)) (hd2 : decode cc (pc + 1) = .ok (.ifCond .eq off, 3)) (ht : ((pc + 1 : Nat) : Int) + off = (tgt : Int)) (kt : a = b → W p l e R s m args below meth c H locs cells slots Q (F0 m tgt ls (rest))) (kf : ¬ a = b → W p l e R s m args below meth c H locs cells slots Q (F0 m (pc + 1 + 3) ls (rest))) : W p l e R s m args below meth c H locs cells slots Q (F0 m pc ls (.long (lI b) :: .long (lI a) :: rest)) := by
  refine W.lcmp hx hb hd ?_
  rw [iz_cmp ha hb1]
  refine iz_if_eq hx hb (by split <;> (try split) <;> exact ⟨by omega, by omega⟩) hd2 ht (fun h => kt ?_) (fun h => kf ?_)
  · split at h <;> (try split at h) <;> omega
  · split at h <;> (try split at h) <;> omega
theorem iz_lc_ne (hx : p.tables.exec = Jvm.exec) (hb : c.code = cc) {a b : Int} (ha : r64 a) (hb1 : r64 b) {off : Int} {tgt : Nat} (hd : decode cc pc = .ok (.lcmp, 1)) (hd2 : decode cc (pc + 1) = .ok (.ifCond .ne off, 3)) (ht : ((pc + 1 : Nat) : Int) + off = (tgt : Int)) (kt : ¬ a = b → W p l e R s m args below meth c H locs cells slots Q (F0 m tgt ls (rest))) (kf : a = b → W p l e R s m args below meth c H locs cells slots Q (F0 m (pc + 1 + 3) ls (rest))) : W p l e R s m args below meth c H locs cells slots Q (F0 m pc ls (.long (lI b) :: .long (lI a) :: rest)) := by
  refine W.lcmp hx hb hd ?_
  rw [iz_cmp ha hb1]
  refine iz_if_ne hx hb (by split <;> (try split) <;> exact ⟨by omega, by omega⟩) hd2 ht (fun h => kt ?_) (fun h => kf ?_)
  · split at h <;> (try split at h) <;> omega
  · split at h <;> (try split at h) <;> omega
theorem iz_lc_lt (hx : p.tables.exec = Jvm.exec) (hb : c.code = cc) {a b : Int} (ha : r64 a) (hb1 : r64 b) {off : Int} {tgt : Nat} (hd : decode cc pc = .ok (.lcmp, 1)) (hd2 : decode cc (pc + 1) = .ok (.ifCond .lt off, 3)) (ht : ((pc + 1 : Nat) : Int) + off = (tgt : Int)) (kt : a < b → W p l e R s m args below meth c H locs cells slots Q (F0 m tgt ls (rest))) (kf : b ≤ a → W p l e R s m args below meth c H locs cells slots Q (F0 m (pc + 1 + 3) ls (rest))) : W p l e R s m args below meth c H locs cells slots Q (F0 m pc ls (.long (lI b) :: .long (lI a) :: rest)) := by
  refine W.lcmp hx hb hd ?_
  rw [iz_cmp ha hb1]
  refine iz_if_lt hx hb (by split <;> (try split) <;> exact ⟨by omega, by omega⟩) hd2 ht (fun h => kt ?_) (fun h => kf ?_)
  · split at h <;> (try split at h) <;> omega
  · split at h <;> (try split at h) <;> omega
theorem iz_lc_ge (hx : p.tables.exec = Jvm.exec) (hb : c.code = cc) {a b : Int} (ha : r64 a) (hb1 : r64 b) {off : Int} {tgt : Nat} (hd : decode cc pc = .ok (.lcmp, 1)) (hd2 : decode cc (pc + 1) = .ok (.ifCond .ge off, 3)) (ht : ((pc + 1 : Nat) : Int) + off = (tgt : Int)) (kt : b ≤ a → W p l e R s m args below meth c H locs cells slots Q (F0 m tgt ls (rest))) (kf : a < b → W p l e R s m args below meth c H locs cells slots Q (F0 m (pc + 1 + 3) ls (rest))) : W p l e R s m args below meth c H locs cells slots Q (F0 m pc ls (.long (lI b) :: .long (lI a) :: rest)) := by
  refine W.lcmp hx hb hd ?_
  rw [iz_cmp ha hb1]
  refine iz_if_ge hx hb (by split <;> (try split) <;> exact ⟨by omega, by omega⟩) hd2 ht (fun h => kt ?_) (fun h => kf ?_)
  · split at h <;> (try split at h) <;> omega
  · split at h <;> (try split at h) <;> omega
theorem iz_lc_gt (hx : p.tables.exec = Jvm.exec) (hb : c.code = cc) {a b : Int} (ha : r64 a) (hb1 : r64 b) {off : Int} {tgt : Nat} (hd : decode cc pc = .ok (.lcmp, 1)) (hd2 : decode cc (pc + 1) = .ok (.ifCond .gt off, 3)) (ht : ((pc + 1 : Nat) : Int) + off = (tgt : Int)) (kt : b < a → W p l e R s m args below meth c H locs cells slots Q (F0 m tgt ls (rest))) (kf : a ≤ b → W p l e R s m args below meth c H locs cells slots Q (F0 m (pc + 1 + 3) ls (rest))) : W p l e R s m args below meth c H locs cells slots Q (F0 m pc ls (.long (lI b) :: .long (lI a) :: rest)) := by
  refine W.lcmp hx hb hd ?_
  rw [iz_cmp ha hb1]
  refine iz_if_gt hx hb (by split <;> (try split) <;> exact ⟨by omega, by omega⟩) hd2 ht (fun h => kt ?_) (fun h => kf ?_)
  · split at h <;> (try split at h) <;> omega
  · split at h <;> (try split at h) <;> omega
theorem iz_lc_le (hx : p.tables.exec = Jvm.exec) (hb : c.code = cc) {a b : Int} (ha : r64 a) (hb1 : r64 b) {off : Int} {tgt : Nat} (hd : decode cc pc = .ok (.lcmp, 1)) (hd2 : decode cc (pc + 1) = .ok (.ifCond .le off, 3)) (ht : ((pc + 1 : Nat) : Int) + off = (tgt : Int)) (kt : a ≤ b → W p l e R s m args below meth c H locs cells slots Q (F0 m tgt ls (rest))) (kf : b < a → W p l e R s m args below meth c H locs cells slots Q (F0 m (pc + 1 + 3) ls (rest))) : W p l e R s m args below meth c H locs cells slots Q (F0 m pc ls (.long (lI b) :: .long (lI a) :: rest)) := by
  refine W.lcmp hx hb hd ?_
  rw [iz_cmp ha hb1]
  refine iz_if_le hx hb (by split <;> (try split) <;> exact ⟨by omega, by omega⟩) hd2 ht (fun h => kt ?_) (fun h => kf ?_)
  · split at h <;> (try split at h) <;> omega
  · split at h <;> (try split at h) <;> omega
end IzRows
end
section
-- NAMES: classes, fields, methods
abbrev RX : String := "LayerQuantities"
abbrev RW : String := "LayerQuantities$Wall"
abbrev RS : String := "LayerQuantities$Shelf"
abbrev RA : String := "LayerQuantities$Saw"
abbrev RM : String := "LayerQuantitiesModel"
abbrev RL : String := "LayerQuantitiesLaw"
def FX : u_T := fun k => match k with
  | 0 => ("LayerQuantities", "walls", "[LLayerQuantities$Wall;", true)
  | 1 => ("LayerQuantities", "wallCount", "I", false)
  | 2 => ("LayerQuantities", "wastes", "[I", true)
  | 3 => ("LayerQuantities", "shelves", "[LLayerQuantities$Shelf;", true)
  | _ => ("LayerQuantities", "saw", "LLayerQuantities$Saw;", true)
def tX : Nat → FieldType := fun k => match k with
  | 0 => .array (.object "LayerQuantities$Wall")
  | 1 => .int
  | 2 => .array .int
  | 3 => .array (.object "LayerQuantities$Shelf")
  | _ => .object "LayerQuantities$Saw"
def FW : u_T := fun k => match k with
  | 0 => ("LayerQuantities$Wall", "area", "I", false)
  | 1 => ("LayerQuantities$Wall", "openingCount", "I", false)
  | 2 => ("LayerQuantities$Wall", "layerCount", "I", false)
  | _ => ("LayerQuantities$Wall", "thicknessOf", "[I", true)
def tW : Nat → FieldType := fun k => match k with
  | 0 => .int
  | 1 => .int
  | 2 => .int
  | _ => .array .int
def FS : u_T := fun k => match k with
  | 0 => ("LayerQuantities$Shelf", "kinds", "I", false)
  | 1 => ("LayerQuantities$Shelf", "much", "[I", true)
  | 2 => ("LayerQuantities$Shelf", "price", "[I", true)
  | 3 => ("LayerQuantities$Shelf", "biggest", "[I", true)
  | 4 => ("LayerQuantities$Shelf", "cheapest", "[I", true)
  | 5 => ("LayerQuantities$Shelf", "tried", "[I", true)
  | 6 => ("LayerQuantities$Shelf", "best", "[I", true)
  | 7 => ("LayerQuantities$Shelf", "bestPrice", "I", false)
  | 8 => ("LayerQuantities$Shelf", "bestCount", "I", false)
  | _ => ("LayerQuantities$Shelf", "searchedFor", "J", false)
def tS : Nat → FieldType := fun k => match k with
  | 0 => .int
  | 1 => .array .int
  | 2 => .array .int
  | 3 => .array .int
  | 4 => .array .int
  | 5 => .array .int
  | 6 => .array .int
  | 7 => .int
  | 8 => .int
  | _ => .long
def FA : u_T := fun k => match k with
  | 0 => ("LayerQuantities$Saw", "barLength", "I", false)
  | 1 => ("LayerQuantities$Saw", "cut", "I", false)
  | 2 => ("LayerQuantities$Saw", "pieceCount", "I", false)
  | 3 => ("LayerQuantities$Saw", "lengths", "[I", true)
  | 4 => ("LayerQuantities$Saw", "planned", "Z", false)
  | 5 => ("LayerQuantities$Saw", "barCount", "I", false)
  | 6 => ("LayerQuantities$Saw", "barOf", "[I", true)
  | 7 => ("LayerQuantities$Saw", "free", "[I", true)
  | 8 => ("LayerQuantities$Saw", "load", "[I", true)
  | _ => ("LayerQuantities$Saw", "smallest", "[I", true)
def tA : Nat → FieldType := fun k => match k with
  | 0 => .int
  | 1 => .int
  | 2 => .int
  | 3 => .array .int
  | 4 => .boolean
  | 5 => .int
  | 6 => .array .int
  | 7 => .array .int
  | 8 => .array .int
  | _ => .array .int
def FM : u_T := fun k => match k with
  | 0 => ("LayerQuantitiesModel", "code", "I", false)
  | 1 => ("LayerQuantitiesModel", "walls", "I", false)
  | 2 => ("LayerQuantitiesModel", "areas", "[I", true)
  | 3 => ("LayerQuantitiesModel", "openings", "[I", true)
  | 4 => ("LayerQuantitiesModel", "layers", "[I", true)
  | 5 => ("LayerQuantitiesModel", "stuffs", "[I", true)
  | 6 => ("LayerQuantitiesModel", "thicknesses", "[I", true)
  | 7 => ("LayerQuantitiesModel", "wastes", "[I", true)
  | 8 => ("LayerQuantitiesModel", "packs", "[I", true)
  | 9 => ("LayerQuantitiesModel", "muches", "[J", true)
  | 10 => ("LayerQuantitiesModel", "prices", "[J", true)
  | 11 => ("LayerQuantitiesModel", "cost", "J", false)
  | 12 => ("LayerQuantitiesModel", "counts", "[I", true)
  | 13 => ("LayerQuantitiesModel", "best", "[I", true)
  | 14 => ("LayerQuantitiesModel", "length", "I", false)
  | 15 => ("LayerQuantitiesModel", "cut", "I", false)
  | 16 => ("LayerQuantitiesModel", "pieces", "I", false)
  | 17 => ("LayerQuantitiesModel", "lengths", "[I", true)
  | 18 => ("LayerQuantitiesModel", "barCount", "I", false)
  | 19 => ("LayerQuantitiesModel", "bars", "[I", true)
  | _ => ("LayerQuantitiesModel", "loads", "[I", true)
def tM : Nat → FieldType := fun k => match k with
  | 0 => .int
  | 1 => .int
  | 2 => .array .int
  | 3 => .array .int
  | 4 => .array .int
  | 5 => .array .int
  | 6 => .array .int
  | 7 => .array .int
  | 8 => .array .int
  | 9 => .array .long
  | 10 => .array .long
  | 11 => .long
  | 12 => .array .int
  | 13 => .array .int
  | 14 => .int
  | 15 => .int
  | 16 => .int
  | 17 => .array .int
  | 18 => .int
  | 19 => .array .int
  | _ => .array .int
abbrev vcl : List vw_C := [(RX, FX, 5), (RW, FW, 4), (RS, FS, 10), (RA, FA, 10), (RM, FM, 21)]
theorem nX : ∀ a, a < 5 → ∀ b, b < 5 → a ≠ b → (FX a).2.1 ≠ (FX b).2.1 := by decide +kernel
theorem tX_ok : ∀ k, k < 5 → parseFieldDescriptor (FX k).2.2.1 = some (tX k) := by decide +kernel
theorem jnX : ∀ w ∈ u_ws RX FX 5, w ∈ TW := by
  intro w hw
  obtain ⟨k, hk, rfl⟩ := List.mem_map.mp hw
  have hk := List.mem_range.mp hk
  match k, hk with
  | 0, _ => exact mt_131
  | 1, _ => exact mt_133
  | 2, _ => exact mt_135
  | 3, _ => exact mt_137
  | 4, _ => exact mt_139
  | k + 5, hk => exact absurd hk (by omega)
theorem nW : ∀ a, a < 4 → ∀ b, b < 4 → a ≠ b → (FW a).2.1 ≠ (FW b).2.1 := by decide +kernel
theorem tW_ok : ∀ k, k < 4 → parseFieldDescriptor (FW k).2.2.1 = some (tW k) := by decide +kernel
theorem jnW : ∀ w ∈ u_ws RW FW 4, w ∈ TW := by
  intro w hw
  obtain ⟨k, hk, rfl⟩ := List.mem_map.mp hw
  have hk := List.mem_range.mp hk
  match k, hk with
  | 0, _ => exact mt_34
  | 1, _ => exact mt_36
  | 2, _ => exact mt_38
  | 3, _ => exact mt_40
  | k + 4, hk => exact absurd hk (by omega)
theorem nS : ∀ a, a < 10 → ∀ b, b < 10 → a ≠ b → (FS a).2.1 ≠ (FS b).2.1 := by decide +kernel
theorem tS_ok : ∀ k, k < 10 → parseFieldDescriptor (FS k).2.2.1 = some (tS k) := by decide +kernel
theorem jnS : ∀ w ∈ u_ws RS FS 10, w ∈ TW := by
  intro w hw
  obtain ⟨k, hk, rfl⟩ := List.mem_map.mp hw
  have hk := List.mem_range.mp hk
  match k, hk with
  | 0, _ => exact mt_63
  | 1, _ => exact mt_65
  | 2, _ => exact mt_67
  | 3, _ => exact mt_69
  | 4, _ => exact mt_71
  | 5, _ => exact mt_73
  | 6, _ => exact mt_75
  | 7, _ => exact mt_77
  | 8, _ => exact mt_79
  | 9, _ => exact mt_81
  | k + 10, hk => exact absurd hk (by omega)
theorem nA : ∀ a, a < 10 → ∀ b, b < 10 → a ≠ b → (FA a).2.1 ≠ (FA b).2.1 := by decide +kernel
theorem tA_ok : ∀ k, k < 10 → parseFieldDescriptor (FA k).2.2.1 = some (tA k) := by decide +kernel
theorem jnA : ∀ w ∈ u_ws RA FA 10, w ∈ TW := by
  intro w hw
  obtain ⟨k, hk, rfl⟩ := List.mem_map.mp hw
  have hk := List.mem_range.mp hk
  match k, hk with
  | 0, _ => exact mt_105
  | 1, _ => exact mt_107
  | 2, _ => exact mt_109
  | 3, _ => exact mt_111
  | 4, _ => exact mt_113
  | 5, _ => exact mt_115
  | 6, _ => exact mt_117
  | 7, _ => exact mt_119
  | 8, _ => exact mt_121
  | 9, _ => exact mt_123
  | k + 10, hk => exact absurd hk (by omega)
theorem nM : ∀ a, a < 21 → ∀ b, b < 21 → a ≠ b → (FM a).2.1 ≠ (FM b).2.1 := by decide +kernel
theorem tM_ok : ∀ k, k < 21 → parseFieldDescriptor (FM k).2.2.1 = some (tM k) := by decide +kernel
theorem jnM : ∀ w ∈ u_ws RM FM 21, w ∈ TW := by
  intro w hw
  obtain ⟨k, hk, rfl⟩ := List.mem_map.mp hw
  have hk := List.mem_range.mp hk
  match k, hk with
  | 0, _ => exact mt_484
  | 1, _ => exact mt_486
  | 2, _ => exact mt_488
  | 3, _ => exact mt_490
  | 4, _ => exact mt_492
  | 5, _ => exact mt_494
  | 6, _ => exact mt_496
  | 7, _ => exact mt_498
  | 8, _ => exact mt_500
  | 9, _ => exact mt_502
  | 10, _ => exact mt_504
  | 11, _ => exact mt_506
  | 12, _ => exact mt_508
  | 13, _ => exact mt_510
  | 14, _ => exact mt_512
  | 15, _ => exact mt_514
  | 16, _ => exact mt_516
  | 17, _ => exact mt_518
  | 18, _ => exact mt_520
  | 19, _ => exact mt_522
  | 20, _ => exact mt_524
  | k + 21, hk => exact absurd hk (by omega)
abbrev yX_init : MethodName := ⟨"LayerQuantities", "<init>", "()V"⟩
abbrev kX_init : Cond := .code ⟨"LayerQuantities", "<init>", "()V"⟩ prog_1_method_1_code 2 none
abbrev yO_init : MethodName := ⟨"java/lang/Object", "<init>", "()V"⟩
abbrev kO_init : Cond := .code ⟨"java/lang/Object", "<init>", "()V"⟩ object_method_1_code 1 none
abbrev yW_init : MethodName := ⟨"LayerQuantities$Wall", "<init>", "()V"⟩
abbrev kW_init : Cond := .code ⟨"LayerQuantities$Wall", "<init>", "()V"⟩ prog_4_method_1_code 1 none
abbrev yS_init : MethodName := ⟨"LayerQuantities$Shelf", "<init>", "()V"⟩
abbrev kS_init : Cond := .code ⟨"LayerQuantities$Shelf", "<init>", "()V"⟩ prog_3_method_1_code 1 none
abbrev yA_init : MethodName := ⟨"LayerQuantities$Saw", "<init>", "()V"⟩
abbrev kA_init : Cond := .code ⟨"LayerQuantities$Saw", "<init>", "()V"⟩ prog_2_method_1_code 1 none
abbrev yX_cents0 : MethodName := ⟨"LayerQuantities", "cents", "()J"⟩
abbrev kX_cents0 : Cond := .code ⟨"LayerQuantities", "cents", "()J"⟩ prog_1_method_11_code 6 (some (.long))
abbrev yX_cents1 : MethodName := ⟨"LayerQuantities", "cents", "(I)J"⟩
abbrev kX_cents1 : Cond := .code ⟨"LayerQuantities", "cents", "(I)J"⟩ prog_1_method_10_code 2 (some (.long))
abbrev yX_checkNumber : MethodName := ⟨"LayerQuantities", "checkNumber", "(II)V"⟩
abbrev kX_checkNumber : Cond := .code ⟨"LayerQuantities", "checkNumber", "(II)V"⟩ prog_1_method_19_code 2 none
abbrev yT_init : MethodName := ⟨"java/lang/Throwable", "<init>", "(Ljava/lang/String;)V"⟩
abbrev kT_init : Cond := .code ⟨"java/lang/Throwable", "<init>", "(Ljava/lang/String;)V"⟩ prog_14_method_2_code 2 none
abbrev yIA_init : MethodName := ⟨"java/lang/IllegalArgumentException", "<init>", "(Ljava/lang/String;)V"⟩
abbrev kIA_init : Cond := .code ⟨"java/lang/IllegalArgumentException", "<init>", "(Ljava/lang/String;)V"⟩ prog_8_method_2_code 2 none
abbrev yU_init : MethodName := ⟨"java/lang/RuntimeException", "<init>", "(Ljava/lang/String;)V"⟩
abbrev kU_init : Cond := .code ⟨"java/lang/RuntimeException", "<init>", "(Ljava/lang/String;)V"⟩ prog_11_method_2_code 2 none
abbrev yE_init : MethodName := ⟨"java/lang/Exception", "<init>", "(Ljava/lang/String;)V"⟩
abbrev kE_init : Cond := .code ⟨"java/lang/Exception", "<init>", "(Ljava/lang/String;)V"⟩ prog_7_method_2_code 2 none
abbrev yX_need : MethodName := ⟨"LayerQuantities", "need", "(I)J"⟩
abbrev kX_need : Cond := .code ⟨"LayerQuantities", "need", "(I)J"⟩ prog_1_method_7_code 5 (some (.long))
abbrev yX_ratioRoundedUp : MethodName := ⟨"LayerQuantities", "ratioRoundedUp", "(JI)J"⟩
abbrev kX_ratioRoundedUp : Cond := .code ⟨"LayerQuantities", "ratioRoundedUp", "(JI)J"⟩ prog_1_method_21_code 3 (some (.long))
abbrev yS_priceFor : MethodName := ⟨"LayerQuantities$Shelf", "priceFor", "(J)I"⟩
abbrev kS_priceFor : Cond := .code ⟨"LayerQuantities$Shelf", "priceFor", "(J)I"⟩ prog_3_method_5_code 3 (some (.int))
abbrev yS_search : MethodName := ⟨"LayerQuantities$Shelf", "search", "(J)V"⟩
abbrev kS_search : Cond := .code ⟨"LayerQuantities$Shelf", "search", "(J)V"⟩ prog_3_method_6_code 3 none
abbrev yS_priceOfOneKind : MethodName := ⟨"LayerQuantities$Shelf", "priceOfOneKind", "(J)I"⟩
abbrev kS_priceOfOneKind : Cond := .code ⟨"LayerQuantities$Shelf", "priceOfOneKind", "(J)I"⟩ prog_3_method_7_code 8 (some (.int))
abbrev yQ_minL : MethodName := ⟨"java/lang/Math", "min", "(JJ)J"⟩
abbrev kQ_minL : Cond := .code ⟨"java/lang/Math", "min", "(JJ)J"⟩ prog_10_method_70_code 4 (some (.long))
abbrev yY_fill : MethodName := ⟨"java/util/Arrays", "fill", "([II)V"⟩
abbrev kY_fill : Cond := .code ⟨"java/util/Arrays", "fill", "([II)V"⟩ prog_15_method_103_code 4 none
abbrev yS_tryKind : MethodName := ⟨"LayerQuantities$Shelf", "tryKind", "(IJII)V"⟩
abbrev kS_tryKind : Cond := .code ⟨"LayerQuantities$Shelf", "tryKind", "(IJII)V"⟩ prog_3_method_8_code 11 none
abbrev yS_keepIfBetter : MethodName := ⟨"LayerQuantities$Shelf", "keepIfBetter", "(II)V"⟩
abbrev kS_keepIfBetter : Cond := .code ⟨"LayerQuantities$Shelf", "keepIfBetter", "(II)V"⟩ prog_3_method_11_code 3 none
abbrev yS_isBetter : MethodName := ⟨"LayerQuantities$Shelf", "isBetter", "(JJ)Z"⟩
abbrev kS_isBetter : Cond := .code ⟨"LayerQuantities$Shelf", "isBetter", "(JJ)Z"⟩ prog_3_method_10_code 5 (some (.boolean))
abbrev yS_isHopeless : MethodName := ⟨"LayerQuantities$Shelf", "isHopeless", "(IJII)Z"⟩
abbrev kS_isHopeless : Cond := .code ⟨"LayerQuantities$Shelf", "isHopeless", "(IJII)Z"⟩ prog_3_method_9_code 11 (some (.boolean))
abbrev yX_plan : MethodName := ⟨"LayerQuantities", "plan", "()I"⟩
abbrev kX_plan : Cond := .code ⟨"LayerQuantities", "plan", "()I"⟩ prog_1_method_15_code 1 (some (.int))
abbrev yA_makePlan : MethodName := ⟨"LayerQuantities$Saw", "makePlan", "()V"⟩
abbrev kA_makePlan : Cond := .code ⟨"LayerQuantities$Saw", "makePlan", "()V"⟩ prog_2_method_6_code 1 none
abbrev yA_sumFromBehind : MethodName := ⟨"LayerQuantities$Saw", "sumFromBehind", "()V"⟩
abbrev kA_sumFromBehind : Cond := .code ⟨"LayerQuantities$Saw", "sumFromBehind", "()V"⟩ prog_2_method_7_code 4 none
abbrev yQ_min : MethodName := ⟨"java/lang/Math", "min", "(II)I"⟩
abbrev kQ_min : Cond := .code ⟨"java/lang/Math", "min", "(II)I"⟩ prog_10_method_69_code 2 (some (.int))
abbrev yA_placeAll : MethodName := ⟨"LayerQuantities$Saw", "placeAll", "()Z"⟩
abbrev kA_placeAll : Cond := .code ⟨"LayerQuantities$Saw", "placeAll", "()Z"⟩ prog_2_method_8_code 1 (some (.boolean))
abbrev yA_placeFrom : MethodName := ⟨"LayerQuantities$Saw", "placeFrom", "(I)Z"⟩
abbrev kA_placeFrom : Cond := .code ⟨"LayerQuantities$Saw", "placeFrom", "(I)Z"⟩ prog_2_method_9_code 4 (some (.boolean))
abbrev yA_usable : MethodName := ⟨"LayerQuantities$Saw", "usable", "(I)I"⟩
abbrev kA_usable : Cond := .code ⟨"LayerQuantities$Saw", "usable", "(I)I"⟩ prog_2_method_10_code 4 (some (.int))
abbrev yA_isLikeEarlier : MethodName := ⟨"LayerQuantities$Saw", "isLikeEarlier", "(I)Z"⟩
abbrev kA_isLikeEarlier : Cond := .code ⟨"LayerQuantities$Saw", "isLikeEarlier", "(I)Z"⟩ prog_2_method_11_code 3 (some (.boolean))
abbrev yL_wall : MethodName := ⟨"LayerQuantitiesLaw", "wall", "(LLayerQuantities;II[J)I"⟩
abbrev kL_wall : Cond := .codeWith ⟨"LayerQuantitiesLaw", "wall", "(LLayerQuantities;II[J)I"⟩ method_3_code 5 (some (.int)) [(0, 10, 13, 13), (0, 10, 17, 15)]
abbrev yX_wall : MethodName := ⟨"LayerQuantities", "wall", "(II)I"⟩
abbrev kX_wall : Cond := .code ⟨"LayerQuantities", "wall", "(II)I"⟩ prog_1_method_2_code 3 (some (.int))
abbrev yX_checkBounds : MethodName := ⟨"LayerQuantities", "checkBounds", "(III)V"⟩
abbrev kX_checkBounds : Cond := .code ⟨"LayerQuantities", "checkBounds", "(III)V"⟩ prog_1_method_18_code 3 none
abbrev yX_checkSpace : MethodName := ⟨"LayerQuantities", "checkSpace", "(II)V"⟩
abbrev kX_checkSpace : Cond := .code ⟨"LayerQuantities", "checkSpace", "(II)V"⟩ prog_1_method_20_code 2 none
abbrev yIS_init : MethodName := ⟨"java/lang/IllegalStateException", "<init>", "(Ljava/lang/String;)V"⟩
abbrev kIS_init : Cond := .code ⟨"java/lang/IllegalStateException", "<init>", "(Ljava/lang/String;)V"⟩ prog_9_method_2_code 2 none
abbrev yL_opening : MethodName := ⟨"LayerQuantitiesLaw", "opening", "(LLayerQuantities;III[J)I"⟩
abbrev kL_opening : Cond := .codeWith ⟨"LayerQuantitiesLaw", "opening", "(LLayerQuantities;III[J)I"⟩ method_4_code 6 (some (.int)) [(0, 12, 15, 13), (0, 12, 19, 15)]
abbrev yX_opening : MethodName := ⟨"LayerQuantities", "opening", "(III)I"⟩
abbrev kX_opening : Cond := .code ⟨"LayerQuantities", "opening", "(III)I"⟩ prog_1_method_3_code 5 (some (.int))
abbrev yL_layer : MethodName := ⟨"LayerQuantitiesLaw", "layer", "(LLayerQuantities;III[J)I"⟩
abbrev kL_layer : Cond := .codeWith ⟨"LayerQuantitiesLaw", "layer", "(LLayerQuantities;III[J)I"⟩ method_5_code 6 (some (.int)) [(0, 12, 15, 13), (0, 12, 19, 15)]
abbrev yX_layer : MethodName := ⟨"LayerQuantities", "layer", "(III)I"⟩
abbrev kX_layer : Cond := .code ⟨"LayerQuantities", "layer", "(III)I"⟩ prog_1_method_4_code 5 (some (.int))
abbrev yL_waste : MethodName := ⟨"LayerQuantitiesLaw", "waste", "(LLayerQuantities;II[J)I"⟩
abbrev kL_waste : Cond := .codeWith ⟨"LayerQuantitiesLaw", "waste", "(LLayerQuantities;II[J)I"⟩ method_6_code 5 (some (.int)) [(0, 10, 13, 13)]
abbrev yX_waste : MethodName := ⟨"LayerQuantities", "waste", "(II)I"⟩
abbrev kX_waste : Cond := .code ⟨"LayerQuantities", "waste", "(II)I"⟩ prog_1_method_5_code 4 (some (.int))
abbrev yL_told : MethodName := ⟨"LayerQuantitiesLaw", "told", "(LLayerQuantities;II[J)I"⟩
abbrev kL_told : Cond := .codeWith ⟨"LayerQuantitiesLaw", "told", "(LLayerQuantities;II[J)I"⟩ method_7_code 5 (some (.int)) [(0, 10, 13, 13)]
abbrev yX_told : MethodName := ⟨"LayerQuantities", "told", "(II)I"⟩
abbrev kX_told : Cond := .code ⟨"LayerQuantities", "told", "(II)I"⟩ prog_1_method_6_code 4 (some (.int))
abbrev yW_wholeThickness : MethodName := ⟨"LayerQuantities$Wall", "wholeThickness", "()I"⟩
abbrev kW_wholeThickness : Cond := .code ⟨"LayerQuantities$Wall", "wholeThickness", "()I"⟩ prog_4_method_2_code 3 (some (.int))
abbrev yL_need : MethodName := ⟨"LayerQuantitiesLaw", "need", "(LLayerQuantities;I[J)I"⟩
abbrev kL_need : Cond := .codeWith ⟨"LayerQuantitiesLaw", "need", "(LLayerQuantities;I[J)I"⟩ method_8_code 4 (some (.int)) [(0, 8, 11, 13)]
abbrev yL_pack : MethodName := ⟨"LayerQuantitiesLaw", "pack", "(LLayerQuantities;III[J)I"⟩
abbrev kL_pack : Cond := .codeWith ⟨"LayerQuantitiesLaw", "pack", "(LLayerQuantities;III[J)I"⟩ method_9_code 6 (some (.int)) [(0, 12, 15, 13), (0, 12, 19, 15)]
abbrev yX_pack : MethodName := ⟨"LayerQuantities", "pack", "(III)I"⟩
abbrev kX_pack : Cond := .code ⟨"LayerQuantities", "pack", "(III)I"⟩ prog_1_method_8_code 4 (some (.int))
abbrev yS_stock : MethodName := ⟨"LayerQuantities$Shelf", "stock", "(II)I"⟩
abbrev kS_stock : Cond := .code ⟨"LayerQuantities$Shelf", "stock", "(II)I"⟩ prog_3_method_2_code 3 (some (.int))
abbrev yS_rankFromBehind : MethodName := ⟨"LayerQuantities$Shelf", "rankFromBehind", "()V"⟩
abbrev kS_rankFromBehind : Cond := .code ⟨"LayerQuantities$Shelf", "rankFromBehind", "()V"⟩ prog_3_method_3_code 4 none
abbrev yL_bought : MethodName := ⟨"LayerQuantitiesLaw", "bought", "(LLayerQuantities;II[J)I"⟩
abbrev kL_bought : Cond := .codeWith ⟨"LayerQuantitiesLaw", "bought", "(LLayerQuantities;II[J)I"⟩ method_10_code 5 (some (.int)) [(0, 10, 13, 13)]
abbrev yX_bought : MethodName := ⟨"LayerQuantities", "bought", "(II)I"⟩
abbrev kX_bought : Cond := .code ⟨"LayerQuantities", "bought", "(II)I"⟩ prog_1_method_9_code 3 (some (.int))
abbrev yS_countFor : MethodName := ⟨"LayerQuantities$Shelf", "countFor", "(JI)I"⟩
abbrev kS_countFor : Cond := .code ⟨"LayerQuantities$Shelf", "countFor", "(JI)I"⟩ prog_3_method_4_code 4 (some (.int))
abbrev yL_cents : MethodName := ⟨"LayerQuantitiesLaw", "cents", "(LLayerQuantities;I[J)I"⟩
abbrev kL_cents : Cond := .codeWith ⟨"LayerQuantitiesLaw", "cents", "(LLayerQuantities;I[J)I"⟩ method_11_code 4 (some (.int)) [(0, 8, 11, 13)]
abbrev yL_bars : MethodName := ⟨"LayerQuantitiesLaw", "bars", "(LLayerQuantities;II)I"⟩
abbrev kL_bars : Cond := .codeWith ⟨"LayerQuantitiesLaw", "bars", "(LLayerQuantities;II)I"⟩ method_12_code 4 (some (.int)) [(0, 6, 9, 13), (0, 6, 12, 15)]
abbrev yX_bars : MethodName := ⟨"LayerQuantities", "bars", "(II)V"⟩
abbrev kX_bars : Cond := .code ⟨"LayerQuantities", "bars", "(II)V"⟩ prog_1_method_12_code 3 none
abbrev yA_longestPiece : MethodName := ⟨"LayerQuantities$Saw", "longestPiece", "()I"⟩
abbrev kA_longestPiece : Cond := .code ⟨"LayerQuantities$Saw", "longestPiece", "()I"⟩ prog_2_method_2_code 3 (some (.int))
abbrev yQ_max : MethodName := ⟨"java/lang/Math", "max", "(II)I"⟩
abbrev kQ_max : Cond := .code ⟨"java/lang/Math", "max", "(II)I"⟩ prog_10_method_65_code 2 (some (.int))
abbrev yA_takeBars : MethodName := ⟨"LayerQuantities$Saw", "takeBars", "(II)V"⟩
abbrev kA_takeBars : Cond := .code ⟨"LayerQuantities$Saw", "takeBars", "(II)V"⟩ prog_2_method_3_code 3 none
abbrev yL_piece : MethodName := ⟨"LayerQuantitiesLaw", "piece", "(LLayerQuantities;I[J)I"⟩
abbrev kL_piece : Cond := .codeWith ⟨"LayerQuantitiesLaw", "piece", "(LLayerQuantities;I[J)I"⟩ method_13_code 4 (some (.int)) [(0, 9, 12, 13), (0, 9, 15, 15)]
abbrev yX_piece : MethodName := ⟨"LayerQuantities", "piece", "(I)I"⟩
abbrev kX_piece : Cond := .code ⟨"LayerQuantities", "piece", "(I)I"⟩ prog_1_method_13_code 2 (some (.int))
abbrev yA_addPiece : MethodName := ⟨"LayerQuantities$Saw", "addPiece", "(I)I"⟩
abbrev kA_addPiece : Cond := .code ⟨"LayerQuantities$Saw", "addPiece", "(I)I"⟩ prog_2_method_4_code 2 (some (.int))
abbrev yL_change : MethodName := ⟨"LayerQuantitiesLaw", "change", "(LLayerQuantities;II[J)I"⟩
abbrev kL_change : Cond := .codeWith ⟨"LayerQuantitiesLaw", "change", "(LLayerQuantities;II[J)I"⟩ method_14_code 5 (some (.int)) [(0, 10, 13, 13)]
abbrev yX_change : MethodName := ⟨"LayerQuantities", "change", "(II)I"⟩
abbrev kX_change : Cond := .code ⟨"LayerQuantities", "change", "(II)I"⟩ prog_1_method_14_code 3 (some (.int))
abbrev yA_resizePiece : MethodName := ⟨"LayerQuantities$Saw", "resizePiece", "(II)I"⟩
abbrev kA_resizePiece : Cond := .code ⟨"LayerQuantities$Saw", "resizePiece", "(II)I"⟩ prog_2_method_5_code 4 (some (.int))
abbrev yL_bar : MethodName := ⟨"LayerQuantitiesLaw", "bar", "(LLayerQuantities;I[J)I"⟩
abbrev kL_bar : Cond := .codeWith ⟨"LayerQuantitiesLaw", "bar", "(LLayerQuantities;I[J)I"⟩ method_15_code 4 (some (.int)) [(0, 9, 12, 13)]
abbrev yX_bar : MethodName := ⟨"LayerQuantities", "bar", "(I)I"⟩
abbrev kX_bar : Cond := .code ⟨"LayerQuantities", "bar", "(I)I"⟩ prog_1_method_16_code 2 (some (.int))
abbrev yL_rest : MethodName := ⟨"LayerQuantitiesLaw", "rest", "(LLayerQuantities;I[J)I"⟩
abbrev kL_rest : Cond := .codeWith ⟨"LayerQuantitiesLaw", "rest", "(LLayerQuantities;I[J)I"⟩ method_16_code 4 (some (.int)) [(0, 9, 12, 13)]
abbrev yX_rest : MethodName := ⟨"LayerQuantities", "rest", "(I)I"⟩
abbrev kX_rest : Cond := .code ⟨"LayerQuantities", "rest", "(I)I"⟩ prog_1_method_17_code 2 (some (.int))
abbrev yM_init : MethodName := ⟨"LayerQuantitiesModel", "<init>", "()V"⟩
abbrev kM_init : Cond := .code ⟨"LayerQuantitiesModel", "<init>", "()V"⟩ prog_6_method_1_code 1 none
abbrev yM_thrown : MethodName := ⟨"LayerQuantitiesModel", "thrown", "()I"⟩
abbrev kM_thrown : Cond := .code ⟨"LayerQuantitiesModel", "thrown", "()I"⟩ prog_6_method_2_code 1 (some (.int))
abbrev yM_wall : MethodName := ⟨"LayerQuantitiesModel", "wall", "(II)I"⟩
abbrev kM_wall : Cond := .code ⟨"LayerQuantitiesModel", "wall", "(II)I"⟩ prog_6_method_6_code 3 (some (.int))
abbrev yM_isIn : MethodName := ⟨"LayerQuantitiesModel", "isIn", "(JJJ)Z"⟩
abbrev kM_isIn : Cond := .code ⟨"LayerQuantitiesModel", "isIn", "(JJJ)Z"⟩ prog_6_method_3_code 6 (some (.boolean))
abbrev yM_opening : MethodName := ⟨"LayerQuantitiesModel", "opening", "(III)I"⟩
abbrev kM_opening : Cond := .code ⟨"LayerQuantitiesModel", "opening", "(III)I"⟩ prog_6_method_7_code 5 (some (.int))
abbrev yM_isWall : MethodName := ⟨"LayerQuantitiesModel", "isWall", "(I)Z"⟩
abbrev kM_isWall : Cond := .code ⟨"LayerQuantitiesModel", "isWall", "(I)Z"⟩ prog_6_method_4_code 2 (some (.boolean))
abbrev yM_layer : MethodName := ⟨"LayerQuantitiesModel", "layer", "(III)I"⟩
abbrev kM_layer : Cond := .code ⟨"LayerQuantitiesModel", "layer", "(III)I"⟩ prog_6_method_8_code 4 (some (.int))
abbrev yM_isStuff : MethodName := ⟨"LayerQuantitiesModel", "isStuff", "(I)Z"⟩
abbrev kM_isStuff : Cond := .code ⟨"LayerQuantitiesModel", "isStuff", "(I)Z"⟩ prog_6_method_5_code 1 (some (.boolean))
abbrev yM_waste : MethodName := ⟨"LayerQuantitiesModel", "waste", "(II)I"⟩
abbrev kM_waste : Cond := .code ⟨"LayerQuantitiesModel", "waste", "(II)I"⟩ prog_6_method_9_code 4 (some (.int))
abbrev yM_told : MethodName := ⟨"LayerQuantitiesModel", "told", "(II)I"⟩
abbrev kM_told : Cond := .code ⟨"LayerQuantitiesModel", "told", "(II)I"⟩ prog_6_method_10_code 5 (some (.int))
abbrev yM_need : MethodName := ⟨"LayerQuantitiesModel", "need", "(I)J"⟩
abbrev kM_need : Cond := .code ⟨"LayerQuantitiesModel", "need", "(I)J"⟩ prog_6_method_12_code 2 (some (.long))
abbrev yM_needOf : MethodName := ⟨"LayerQuantitiesModel", "needOf", "(I)J"⟩
abbrev kM_needOf : Cond := .code ⟨"LayerQuantitiesModel", "needOf", "(I)J"⟩ prog_6_method_11_code 6 (some (.long))
abbrev yM_pack : MethodName := ⟨"LayerQuantitiesModel", "pack", "(III)I"⟩
abbrev kM_pack : Cond := .code ⟨"LayerQuantitiesModel", "pack", "(III)I"⟩ prog_6_method_13_code 5 (some (.int))
abbrev yM_bought : MethodName := ⟨"LayerQuantitiesModel", "bought", "(II)I"⟩
abbrev kM_bought : Cond := .code ⟨"LayerQuantitiesModel", "bought", "(II)I"⟩ prog_6_method_18_code 3 (some (.int))
abbrev yM_buy : MethodName := ⟨"LayerQuantitiesModel", "buy", "(I)V"⟩
abbrev kM_buy : Cond := .code ⟨"LayerQuantitiesModel", "buy", "(I)V"⟩ prog_6_method_17_code 11 none
abbrev yM_tryLast : MethodName := ⟨"LayerQuantitiesModel", "tryLast", "(IJ)V"⟩
abbrev kM_tryLast : Cond := .code ⟨"LayerQuantitiesModel", "tryLast", "(IJ)V"⟩ prog_6_method_16_code 14 none
abbrev yM_together : MethodName := ⟨"LayerQuantitiesModel", "together", "([I)I"⟩
abbrev kM_together : Cond := .code ⟨"LayerQuantitiesModel", "together", "([I)I"⟩ prog_6_method_14_code 1 (some (.int))
abbrev yM_isBetter : MethodName := ⟨"LayerQuantitiesModel", "isBetter", "(J)Z"⟩
abbrev kM_isBetter : Cond := .code ⟨"LayerQuantitiesModel", "isBetter", "(J)Z"⟩ prog_6_method_15_code 4 (some (.boolean))
abbrev yM_cents1 : MethodName := ⟨"LayerQuantitiesModel", "cents", "(I)J"⟩
abbrev kM_cents1 : Cond := .code ⟨"LayerQuantitiesModel", "cents", "(I)J"⟩ prog_6_method_19_code 2 (some (.long))
abbrev yM_cents0 : MethodName := ⟨"LayerQuantitiesModel", "cents", "()J"⟩
abbrev kM_cents0 : Cond := .code ⟨"LayerQuantitiesModel", "cents", "()J"⟩ prog_6_method_20_code 4 (some (.long))
abbrev yM_bars : MethodName := ⟨"LayerQuantitiesModel", "bars", "(II)V"⟩
abbrev kM_bars : Cond := .code ⟨"LayerQuantitiesModel", "bars", "(II)V"⟩ prog_6_method_21_code 5 none
abbrev yM_piece : MethodName := ⟨"LayerQuantitiesModel", "piece", "(I)I"⟩
abbrev kM_piece : Cond := .code ⟨"LayerQuantitiesModel", "piece", "(I)I"⟩ prog_6_method_22_code 2 (some (.int))
abbrev yM_change : MethodName := ⟨"LayerQuantitiesModel", "change", "(II)I"⟩
abbrev kM_change : Cond := .code ⟨"LayerQuantitiesModel", "change", "(II)I"⟩ prog_6_method_23_code 4 (some (.int))
abbrev yM_plan : MethodName := ⟨"LayerQuantitiesModel", "plan", "()I"⟩
abbrev kM_plan : Cond := .code ⟨"LayerQuantitiesModel", "plan", "()I"⟩ prog_6_method_27_code 1 (some (.int))
abbrev yM_findPlan : MethodName := ⟨"LayerQuantitiesModel", "findPlan", "()V"⟩
abbrev kM_findPlan : Cond := .code ⟨"LayerQuantitiesModel", "findPlan", "()V"⟩ prog_6_method_26_code 4 none
abbrev yM_goInto : MethodName := ⟨"LayerQuantitiesModel", "goInto", "(I)Z"⟩
abbrev kM_goInto : Cond := .code ⟨"LayerQuantitiesModel", "goInto", "(I)Z"⟩ prog_6_method_25_code 7 (some (.boolean))
abbrev yM_usedBefore : MethodName := ⟨"LayerQuantitiesModel", "usedBefore", "(I)I"⟩
abbrev kM_usedBefore : Cond := .code ⟨"LayerQuantitiesModel", "usedBefore", "(I)I"⟩ prog_6_method_24_code 4 (some (.int))
abbrev yM_bar : MethodName := ⟨"LayerQuantitiesModel", "bar", "(I)I"⟩
abbrev kM_bar : Cond := .code ⟨"LayerQuantitiesModel", "bar", "(I)I"⟩ prog_6_method_28_code 2 (some (.int))
abbrev yM_rest : MethodName := ⟨"LayerQuantitiesModel", "rest", "(I)I"⟩
abbrev kM_rest : Cond := .code ⟨"LayerQuantitiesModel", "rest", "(I)I"⟩ prog_6_method_29_code 2 (some (.int))
abbrev yL_law : MethodName := ⟨"LayerQuantitiesLaw", "law", "([I)Z"⟩
theorem wa_arrInt : (.arrayClass .int : Cond) ∈ TW := mt_43
theorem wa_arrLong : (.arrayClass .long : Cond) ∈ TW := mt_527
theorem wa_stMin : (.static ⟨"java/lang/Math", "min", "(II)I"⟩ : Cond) ∈ TW := mt_282
theorem wa_stMinL : (.static ⟨"java/lang/Math", "min", "(JJ)J"⟩ : Cond) ∈ TW := mt_243
theorem wa_stMax : (.static ⟨"java/lang/Math", "max", "(II)I"⟩ : Cond) ∈ TW := mt_414
theorem wa_inMath : (.initialized "java/lang/Math" : Cond) ∈ TW := mt_11
theorem wa_cdMin : kQ_min ∈ TW := mt_283
theorem wa_cdMinL : kQ_minL ∈ TW := mt_244
theorem wa_cdMax : kQ_max ∈ TW := mt_415
end
section
-- DECODE ROWS
theorem dY_fill_0 : decode prog_15_method_103_code 0 = .ok (.iconst 0, 1) := by decide +kernel
theorem dY_fill_1 : decode prog_15_method_103_code 1 = .ok (.istore_n 2, 1) := by decide +kernel
theorem dY_fill_2 : decode prog_15_method_103_code 2 = .ok (.aload_n 0, 1) := by decide +kernel
theorem dY_fill_3 : decode prog_15_method_103_code 3 = .ok (.arraylength, 1) := by decide +kernel
theorem dY_fill_4 : decode prog_15_method_103_code 4 = .ok (.istore_n 3, 1) := by decide +kernel
theorem dY_fill_5 : decode prog_15_method_103_code 5 = .ok (.iload_n 2, 1) := by decide +kernel
theorem dY_fill_6 : decode prog_15_method_103_code 6 = .ok (.iload_n 3, 1) := by decide +kernel
theorem dY_fill_7 : decode prog_15_method_103_code 7 = .ok (.if_icmp .ge 13, 3) := by decide +kernel
theorem dY_fill_10 : decode prog_15_method_103_code 10 = .ok (.aload_n 0, 1) := by decide +kernel
theorem dY_fill_11 : decode prog_15_method_103_code 11 = .ok (.iload_n 2, 1) := by decide +kernel
theorem dY_fill_12 : decode prog_15_method_103_code 12 = .ok (.iload_n 1, 1) := by decide +kernel
theorem dY_fill_13 : decode prog_15_method_103_code 13 = .ok (.iastore, 1) := by decide +kernel
theorem dY_fill_14 : decode prog_15_method_103_code 14 = .ok (.iinc 2 1, 3) := by decide +kernel
theorem dY_fill_17 : decode prog_15_method_103_code 17 = .ok (.goto (-12), 3) := by decide +kernel
theorem dY_fill_20 : decode prog_15_method_103_code 20 = .ok (.return_, 1) := by decide +kernel
end
section
-- CONTRACTS whose end may be a return or a throw; the calls over them
/-- how a method's end stands to its start -/
def XE (st t : State) (L : List Loc) (k n : Nat) : Prop := st.WarmedH t.vm ∧ st.sameButNew ({ t with vm := st.vm } : State) L k n
def XQ (below : List Frame) (Qc : Array Value → State → Outcome → State → Prop) (a : Array Value) (s : State) (mc ms : Nat) (free : Addr → Prop) : State → Prop := fun t =>
  ∃ o, t.status = .running ∧ Ended t below o ∧ Qc a s o t ∧ ∃ L, XE s t L mc ms ∧ ∀ q ∈ L, free q.base
/-- a method's contract: it ends, with Qc; at most rm.cells cells of rm.slots slots are new; nothing old is written but what free names -/
def Ct (l : Launch) (y : MethodName) (kw : Cond) (rm : Room) (Pc : Array Value → State → Prop) (Qc : Array Value → State → Outcome → State → Prop) (free : Addr → Prop) : Prop :=
  MetFree l y (headSpec [kw] rm) Pc (fun _ _ _ _ _ => True) (fun a st o t => Qc a st o t ∧ ∃ L, XE st t L rm.cells rm.slots ∧ ∀ q ∈ L, free q.base)
/-- a word that gives a method's code -/
def CW (kw : Cond) (y : MethodName) (cc : ByteArray) (maxL : Nat) (ret : Option FieldType) (hh : List (Nat × Nat × Nat × Nat)) : Prop := (kw = .code y cc maxL ret ∧ hh = []) ∨ kw = .codeWith y cc maxL ret hh
theorem CW.spec {kw : Cond} {y : MethodName} {cc : ByteArray} {maxL : Nat} {ret : Option FieldType} {hh : List (Nat × Nat × Nat × Nat)} (h : CW kw y cc maxL ret hh) {args : Array Value} {s : State} (hb : kw.before args s = true) :
    ∃ m meth c, s.methodNamed? y = some m ∧ s.vm.method? m = some meth ∧ meth.code = some c ∧ c.code = cc ∧ c.maxLocals = maxL ∧
      c.exceptionTable.toList.map (fun h => (h.startPc, h.endPc, h.handlerPc, h.catchType)) = hh ∧ meth.sig.returnType = ret ∧ meth.locks = false ∧ parseMethodDescriptor y.desc = some meth.sig := by
  rcases h with ⟨rfl, rfl⟩ | rfl
  · obtain ⟨m, hn⟩ := Cond.code_named hb
    obtain ⟨meth, c, h1, h2, h3, h4, h5, h6, h7, h8⟩ := Cond.code_spec hn hb
    refine ⟨m, meth, c, hn, h1, h2, h3, h4, ?_, h5, h6, h8⟩
    have h9 : c.exceptionTable = #[] := by simpa using h7
    rw [h9]
    rfl
  · exact Cond.codeWith_spec hb
/-- what a body knows of its machine, its own code and class -/
def BF (p : Program) (l : Launch) (e : Env) (s : State) (m : MethodId) (meth : Method) (c : Code) (y : MethodName) (cc : ByteArray) (maxL : Nat) (ret : Option FieldType) (hh : List (Nat × Nat × Nat × Nat)) : Prop :=
  p.tables.exec = Jvm.exec ∧ c.code = cc ∧ meth.sig.returnType = ret ∧ c.maxLocals = maxL ∧ s.vm.findClass y.cls = some m.cls ∧ meth.locks = false ∧ meth.name = y.name ∧
    c.exceptionTable.toList.map (fun h => (h.startPc, h.endPc, h.handlerPc, h.catchType)) = hh
theorem ct_of {l : Launch} {y : MethodName} {kw : Cond} {cc : ByteArray} {maxL : Nat} {ret : Option FieldType} {hh : List (Nat × Nat × Nat × Nat)} {rm : Room} {Pc : Array Value → State → Prop} {Qc : Array Value → State → Outcome → State → Prop} {free : Addr → Prop}
    (hy : plainName y.cls = true) (hk : CW kw y cc maxL ret hh)
    (body : ∀ p e s m args below meth c, BF p l e s m meth c y cc maxL ret hh → Pc args s → W p l e rm s m args below meth c s.heap [] 0 0 (XQ below Qc args s rm.cells rm.slots free) (entryFrame m args maxL)) : Ct l y kw rm Pc Qc free := by
  refine MetFree.of_bodyS (code := cc) (maxLocals := maxL) (ret := ret) hy ?_ ?_
  · intro args s m h hn
    obtain ⟨m9, meth, c, hn9, h1, h2, h3, h4, -, h5, h6, -⟩ := hk.spec (atoms_spec (ws := [kw]) h _ List.mem_cons_self)
    cases hn.symm.trans hn9
    exact ⟨meth, c, h1, h2, h3, h4, h5, h6⟩
  · intro p e s m args below meth c s₁ B hml hP _
    have hh0 : s₁.heap = s.heap := by rw [B.state]; rfl
    have hpre : kw.before args s = true := atoms_spec (ws := [kw]) B.pre _ List.mem_cons_self
    obtain ⟨m9, meth9, c9, hn9, h1, h2, h3, h4, h7, h5, h6, -⟩ := hk.spec hpre
    cases B.named.symm.trans hn9
    cases B.method.symm.trans h1
    cases (Stand.of_body B).code.symm.trans h2
    obtain ⟨t, a1, o, b1, b2, b3⟩ := body p e s m args below meth c ⟨B.exec, B.bytes, B.returns, hml, findClass_of_methodNamed B.named, B.notSynchronized, (name_of_methodNamed B.named B.method).1, h7⟩ hP s₁ hh0 (Stand.of_body B)
    exact ⟨t, o, a1, b1, b2, ⟨b3.1, b3.2⟩⟩
section CtCalls
variable {p : Program} {l : Launch} {e : Env} {R : Room} {s : State} {m : MethodId} {args : Array Value} {below : List Frame} {meth : Method} {c : Code} {H : Heap} {locs : List Loc} {cells slots : Nat} {Q : State → Prop}
theorem W.mono {Q' : State → Prop} {g : JFrame} (h : ∀ t, Q t → Q' t) (k : W p l e R s m args below meth c H locs cells slots Q g) : W p l e R s m args below meth c H locs cells slots Q' g := fun T hT X => by
  obtain ⟨t, a, b⟩ := k T hT X
  exact ⟨t, a, h t b⟩
theorem xq_of {Qc : Array Value → State → Outcome → State → Prop} {free : Addr → Prop} {mc ms : Nat} : ∀ t, MQ below Qc args s mc ms free t → XQ below Qc args s mc ms free t := by
  rintro t ⟨o, h1, h2, h3, L, ⟨-, h4, h5⟩, h6⟩
  exact ⟨o, h1, h2, h3, L, ⟨h4, h5⟩, h6⟩
/-- the frame g with x thrown over it -/
def WX (p : Program) (l : Launch) (e : Env) (R : Room) (s : State) (m : MethodId) (args : Array Value) (below : List Frame) (meth : Method) (c : Code) (H : Heap) (locs : List Loc) (cells slots : Nat) (Q : State → Prop) (g : JFrame) (x : Addr) : Prop :=
  ∀ T : State, T.heap = H → Stand p l e R s m args below meth c T locs cells slots → ∃ t, Steps p.tables e below ((T.setTop g).pushFrame (.throwing x)) t ∧ Q t
/-- a call comes back: with a value, or with an exception over the caller's frame -/
theorem ct_back {y : MethodName} {kw : Cond} {cc : ByteArray} {maxL : Nat} {ret : Option FieldType} {hh : List (Nat × Nat × Nat × Nat)} {rm : Room} {Pc : Array Value → State → Prop} {Qc : Array Value → State → Outcome → State → Prop} {free : Addr → Prop}
    (hM : Ct l y kw rm Pc Qc free) (hk : CW kw y cc maxL ret hh) (hbl : FrameBlind Pc) (hfr : rm.frames + 1 ≤ R.frames) (hlo : 8 + (maxL + 11) + rm.locals ≤ R.locals) (hce : cells + rm.cells ≤ R.cells) (hsl : slots + rm.slots ≤ R.slots)
    {U : State} (X : Stand p l e R s m args below meth c U locs cells slots) {g : JFrame} (hg : g.method = m) (hsize : g.locals.size = c.maxLocals) {ig : Instr} {len : Nat} (hdg : decode c.code g.pc = .ok (ig, len)) (hW : 2 * g.monitorRoom + (g.stack.map fun v => v.category).sum ≤ 8)
    {mk : MethodId} (hn : U.methodNamed? y = some mk) (hkw : ∀ a, kw.before a U = true) (hini : ∀ a, (Cond.initialized y.cls).before a U = true) {a : Array Value} (hp : Pc a U) :
    ∃ (o : Outcome) (t T' : State) (L : List Loc), Qc a (U.calling g mk a) o t ∧ T'.heap = t.heap ∧ T'.vm = t.vm ∧ (∀ q ∈ L, free q.base) ∧ Stand p l e R s m args below meth c T' (locs ++ L) (cells + rm.cells) (slots + rm.slots) ∧ U.WarmedH T'.vm ∧ U.sameButNew (T'.setVm U.vm) L rm.cells rm.slots ∧
      ((∃ v, o = .returned v ∧ Steps p.tables e below (doInvoke e (U.setTop g) [] mk a).1 (T'.setTop { g with pc := g.pc + len, stack := v.toList ++ g.stack })) ∨
       (∃ x, o = .threw x ∧ Steps p.tables e below (doInvoke e (U.setTop g) [] mk a).1 ((T'.setTop g).pushFrame (.throwing x)))) := by
  obtain ⟨m9, methY, cY, hn9, hmY, hcY, -, hlY, -⟩ := hk.spec (hkw a)
  cases hn.symm.trans hn9
  obtain ⟨kY, hkY, -⟩ := className_of_methodNamed hn
  have hinitY : kY.init = .initialized := Cond.initialized_spec (findClass_of_methodNamed hn) hkY (hini a)
  have h : At U g.method c below := by rw [hg]; exact X.here
  have hpre : (headSpec [kw] rm).pre.before a U = true := atoms_intro (fun w hw => by
    rcases List.mem_cons.mp hw with rfl | hw
    · exact hkw a
    · cases hw)
  have happ : (headSpec [kw] rm).appliesLoose y e.platform (U.calling g mk a) = true :=
    Spec.appliesLoose_calling (g := g) h hdg hn hkY hinitY (X.room_calling (g := g) (R' := rm) hsize hmY hcY hfr (by rw [hlY]; omega) hce hsl) hpre
  obtain ⟨g₀, hg0⟩ := X.frames_eq
  have hfrm : (U.setTop g).frames = .java g :: below := by rw [State.frames_setTop _ hg0]
  obtain ⟨o, t, hsteps, -, hend, hq, L, ⟨hWt, hsame⟩, hL⟩ := Steps.callFree hM p X.admits X.cas X.clock (acts := []) (mid := [.java g]) (below := below) hfrm happ (hbl _ _ g mk hp) trivial
  rw [hfrm] at hend
  cases o with
  | returned v =>
    obtain ⟨T', X', w1, w2, e1⟩ := X.outOf hg hdg hend hWt hsame
    refine ⟨_, t, T', L, hq, by rw [e1]; rfl, by rw [e1]; rfl, hL, X', w1, w2, Or.inl ⟨v, rfl, ?_⟩⟩
    rw [← e1]
    exact hsteps
  | threw x =>
    obtain ⟨T', X', w1, w2, e1⟩ := X.outOfThrown hg hend hWt hsame
    refine ⟨_, t, T', L, hq, by rw [e1]; rfl, by rw [e1]; rfl, hL, X', w1, w2, Or.inr ⟨x, rfl, ?_⟩⟩
    rw [← e1]
    exact hsteps
/-- behind a call: the heap t.heap = H1 grew by at most n cells, and nothing changed but what free names -/
def Af (s : State) (H : Heap) (free : Addr → Prop) (n : Nat) (t : State) (H1 : Heap) : Prop := t.heap = H1 ∧ s.WarmedH t.vm ∧ H.size ≤ H1.size ∧ H1.size ≤ H.size + n ∧ ∀ q : Nat, q < H.size → ¬ free q → H1[q]? = H[q]?
theorem same_kept {U T' : State} {L : List Loc} {k n : Nat} (h : U.sameButNew (T'.setVm U.vm) L k n) {free : Addr → Prop} (hL : ∀ q ∈ L, free q.base) : U.heap.size ≤ T'.heap.size ∧ T'.heap.size ≤ U.heap.size + k ∧ ∀ q : Nat, q < U.heap.size → ¬ free q → T'.heap[q]? = U.heap[q]? := by
  obtain ⟨-, h2, h3, -, -, h6⟩ := id h
  refine ⟨h2, h3, fun q hq hf => ?_⟩
  obtain ⟨c, hc⟩ : ∃ c, U.heap[q]? = some c := ⟨U.heap[q], Array.getElem?_eq_getElem hq⟩
  obtain ⟨c', e1, e2, -, e4⟩ := h6 q c hc
  have hs : c'.slots = c.slots := Array.ext_getElem? (fun i => e4 i (fun hm => hf (hL _ hm)))
  have e5 : T'.heap[q]? = some c' := e1
  rw [e5, hc, e2, hs]
theorem Af.same {H H1 : Heap} {free : Addr → Prop} {t : State} (h : Af s H free 0 t H1) (hf : ∀ q, ¬ free q) : H1 = H := by
  obtain ⟨-, -, h2, h3, h4⟩ := h
  refine Array.ext_getElem? (fun i => ?_)
  by_cases hi : i < H.size
  · exact h4 i hi (hf i)
  · rw [Array.getElem?_eq_none (by omega), Array.getElem?_eq_none (by omega)]
theorem Af.S {A0 free : Addr → Prop} {H0 H H1 : Heap} {locs L : List Loc} {n : Nat} {t : State} (h : Af s H free n t H1) (hS : va_S A0 H0 H locs) (hf : ∀ q, free q → A0 q) (hL : ∀ q ∈ L, free q.base) : va_S A0 H0 H1 (locs ++ L) := by
  obtain ⟨-, -, h2, h3, h4⟩ := h
  refine ⟨Nat.le_trans hS.1 h2, fun q h5 h6 => ?_, fun l hl => ?_⟩
  · rw [h4 q (Nat.lt_of_lt_of_le h5 hS.1) (fun h7 => h6 (hf q h7))]
    exact hS.2.1 q h5 h6
  · rcases List.mem_append.mp hl with hl | hl
    · exact hS.2.2 l hl
    · exact hf _ (hL l hl)
theorem Af.P {free : Addr → Prop} {H H1 : Heap} {n : Nat} {t : State} {D : va_G} {cl : List vw_C} {ws : va_W} (h : Af s H free n t H1) (hP : va_P D cl ws H) (hf : ∀ (k : Nat) (q : Nat × va_E), ws[k]? = some q → ¬ free q.1) : va_P D cl ws H1 :=
  hP.kept (fun k q hk => h.2.2.2.2 q.1 ((hP k q hk).lt) (hf k q hk))
-- the environment of every contract: the tables' words, the classes' and arrays' numbers
abbrev KG : Type := (Nat → ClassId) × (Nat → Nat → Nat) × (Nat → ClassId)
abbrev kD (K : KG) : va_G := (K.1, K.2.1)
abbrev kI (K : KG) : ClassId := K.2.2 0
abbrev kL (K : KG) : ClassId := K.2.2 1
abbrev kW (K : KG) : ClassId := K.2.2 2
abbrev kS (K : KG) : ClassId := K.2.2 3
abbrev kTY (K : KG) : List (ClassId × FieldType) := [(kI K, .int), (kL K, .long), (kW K, .object RW), (kS K, .object RS)]
def EN (K : KG) (U : State) : Prop := TB U ∧ va_K (kD K) vcl (kTY K) U
theorem EN.warm {K : KG} {U : State} (hW : s.WarmedH U.vm) (h : EN K s) : EN K U := ⟨h.1.warm hW, va_K.moved hW.alike h.2⟩
def PC (K : KG) (av : List Value) (B : Heap → Prop) : Array Value → State → Prop := fun v U => v = av.toArray ∧ EN K U ∧ B U.heap
theorem PC.blind {K : KG} {av : List Value} {B : Heap → Prop} : FrameBlind (PC K av B) := fun a U g mk h => ⟨h.1, h.2.1.warm (show U.WarmedH (U.calling g mk a).vm from State.WarmedH.refl U), h.2.2⟩
theorem PC.at {K : KG} {av : List Value} {B : Heap → Prop} (hE : EN K s) (hB : B H) : ∀ U : State, U.heap = H → s.WarmedH U.vm → PC K av B av.toArray U := fun U hU hW => ⟨rfl, hE.warm hW, by rw [hU]; exact hB⟩
-- ends
def QV (po : Heap → Prop) : Array Value → State → Outcome → State → Prop := fun _ _ o t => o = .returned none ∧ po t.heap
def QI (po : Int → Heap → Prop) : Array Value → State → Outcome → State → Prop := fun _ _ o t => ∃ r : Int, o = .returned (some (.int (iI r))) ∧ po r t.heap
def QL (po : Int → Heap → Prop) : Array Value → State → Outcome → State → Prop := fun _ _ o t => ∃ r : Int, o = .returned (some (.long (lI r))) ∧ po r t.heap
variable {cc : ByteArray} {pc : Nat} {ls : Array Slot} {rest : List Value} {free : Addr → Prop}
theorem iz_vret {po : Heap → Prop} (hx : p.tables.exec = Jvm.exec) (hb : c.code = cc) (hr : meth.sig.returnType = none) (hlocks : meth.locks = false) (hq : po H) (hf : ∀ q ∈ locs, free q.base) (hd : decode cc pc = .ok (.return_, 1)) : W p l e R s m args below meth c H locs cells slots (XQ below (QV po) args s cells slots free) (F0 m pc ls []) :=
  W.mono xq_of (W.vret (Qc := QV po) hx hb hr (fun t ht _ => ⟨rfl, by rw [ht]; exact hq⟩) hf hd hlocks)
theorem iz_iret {po : Int → Heap → Prop} {r : Int} (hx : p.tables.exec = Jvm.exec) (hb : c.code = cc) (hr : meth.sig.returnType = some .int) (hlocks : meth.locks = false) (hq : po r H) (hf : ∀ q ∈ locs, free q.base) (hd : decode cc pc = .ok (.ireturn, 1)) : W p l e R s m args below meth c H locs cells slots (XQ below (QI po) args s cells slots free) (F0 m pc ls [.int (iI r)]) :=
  W.mono xq_of (W.iret (Qc := QI po) hx hb hr (fun t ht _ => ⟨r, rfl, by rw [ht]; exact hq⟩) hf hd hlocks)
theorem iz_zret {po : Int → Heap → Prop} {r : Int} (hx : p.tables.exec = Jvm.exec) (hb : c.code = cc) (hr : meth.sig.returnType = some .boolean) (hlocks : meth.locks = false) (h01 : r = 0 ∨ r = 1) (hq : po r H) (hf : ∀ q ∈ locs, free q.base) (hd : decode cc pc = .ok (.ireturn, 1)) : W p l e R s m args below meth c H locs cells slots (XQ below (QI po) args s cells slots free) (F0 m pc ls [.int (iI r)]) :=
  W.mono xq_of (W.zret (Qc := QI po) hx hb hr (by rcases h01 with rfl | rfl <;> rfl) (fun t ht _ => ⟨r, rfl, by rw [ht]; exact hq⟩) hf hd hlocks)
theorem iz_lret {po : Int → Heap → Prop} {r : Int} (hx : p.tables.exec = Jvm.exec) (hb : c.code = cc) (hr : meth.sig.returnType = some .long) (hlocks : meth.locks = false) (hq : po r H) (hf : ∀ q ∈ locs, free q.base) (hd : decode cc pc = .ok (.lreturn, 1)) : W p l e R s m args below meth c H locs cells slots (XQ below (QL po) args s cells slots free) (F0 m pc ls [.long (lI r)]) :=
  W.mono xq_of (W.lret (Qc := QL po) hx hb hr (fun t ht _ => ⟨r, rfl, by rw [ht]; exact hq⟩) hf hd hlocks)
-- calls: what every kind of call has in common
/-- a callee: its contract, its words in the tables, its room within the caller's -/
def CL (l : Launch) (R : Room) (y : MethodName) (kw : Cond) (maxL n cells slots : Nat) (rm : Room) (Pc : Array Value → State → Prop) (Qc : Array Value → State → Outcome → State → Prop) (free : Addr → Prop) : Prop :=
  Ct l y kw rm Pc Qc free ∧ (∃ cc ret hh, CW kw y cc maxL ret hh) ∧ kw ∈ TW ∧ Cond.initialized y.cls ∈ TW ∧ (y.cls ≠ "java/lang/invoke/MethodHandle" ∧ y.cls ≠ "java/lang/invoke/VarHandle") ∧ (parseMethodDescriptor y.desc).map (fun d => d.parameters.length) = some n ∧
    rm.frames + 1 ≤ R.frames ∧ 8 + (maxL + 11) + rm.locals ≤ R.locals ∧ cells + rm.cells ≤ R.cells ∧ slots + rm.slots ≤ R.slots
/-- a call's two ends -/
def KR (p : Program) (l : Launch) (e : Env) (R : Room) (s : State) (m : MethodId) (args : Array Value) (below : List Frame) (meth : Method) (c : Code) (H : Heap) (locs : List Loc) (cells slots : Nat) (Q : State → Prop) (rm : Room) (free : Addr → Prop) (Qa : State → Outcome → State → Prop) (pc : Nat) (ls : Array Slot) (rest : List Value) : Prop :=
  ∀ (st0 t : State) (H1 : Heap) (L : List Loc), st0.heap = H → Af s H free rm.cells t H1 → (∀ q ∈ L, free q.base) →
    (∀ v, Qa st0 (.returned v) t → W p l e R s m args below meth c H1 (locs ++ L) (cells + rm.cells) (slots + rm.slots) Q (F0 m (pc + 3) ls (v.toList ++ rest))) ∧
    (∀ x, Qa st0 (.threw x) t → WX p l e R s m args below meth c H1 (locs ++ L) (cells + rm.cells) (slots + rm.slots) Q (F0 m pc ls rest) x)
variable {y : MethodName} {kw : Cond} {maxL nL n index : Nat} {rm : Room} {Pc : Array Value → State → Prop} {Qc : Array Value → State → Outcome → State → Prop} {own : String}
theorem ct_go {T : State} {g0 : JFrame} (hT : T.heap = H) (X : Stand p l e R s m args below meth c T locs cells slots) (hTB : TB s) (hC : CL l R y kw maxL n cells slots rm Pc Qc free) (hbl : FrameBlind Pc) {a : Array Value} (hpre : ∀ U : State, U.heap = H → s.WarmedH U.vm → Pc a U)
    (hsize : ls.size = c.maxLocals) (hW : (rest.map fun v => v.category).sum ≤ 8) {ig : Instr} (hd : decode c.code pc = .ok (ig, 3)) {mk : MethodId} (hn : s.methodNamed? y = some mk) {vm₁ : Vm} (hW₁ : s.WarmedH vm₁) (X₁ : Stand p l e R s m args below meth c (T.setVm vm₁) locs cells slots)
    (hst : ∀ target, (∀ acts, Steps p.tables e below (doInvoke e ((T.setVm vm₁).setTop (F0 m pc ls rest)) acts mk a).1 target) → Steps p.tables e below (T.setTop g0) target)
    (kr : KR p l e R s m args below meth c H locs cells slots Q rm free (Qc a) pc ls rest) : ∃ t, Steps p.tables e below (T.setTop g0) t ∧ Q t := by
  obtain ⟨hM, ⟨cc, ret, hh, hk⟩, m1, m2, -, -, hfr, hlo, hce, hsl⟩ := hC
  have hTB1 : TB (T.setVm vm₁) := hTB.warm hW₁
  obtain ⟨o, t, T', L, hq, eh, ev, hL, X', w1, w2, hs⟩ := ct_back hM hk hbl hfr hlo hce hsl X₁ (g := F0 m pc ls rest) rfl hsize hd (by show 2 * 0 + (rest.map fun v => v.category).sum ≤ 8; omega) (X₁.named hn) (hTB1 _ m1) (hTB1 _ m2) (hpre (T.setVm vm₁) hT hW₁)
  have hA : Af s H free rm.cells t T'.heap := by
    obtain ⟨z1, z2, z3⟩ := same_kept w2 hL
    have hT2 : (T.setVm vm₁).heap = H := hT
    rw [hT2] at z1 z2 z3
    exact ⟨eh.symm, by rw [← ev]; exact X'.warmed, z1, z2, z3⟩
  obtain ⟨k1, k2⟩ := kr ((T.setVm vm₁).calling (F0 m pc ls rest) mk a) t T'.heap L hT hA hL
  rcases hs with ⟨v, rfl, hs⟩ | ⟨x, rfl, hs⟩
  · obtain ⟨t', a1, b1⟩ := k1 v hq T' rfl X'
    exact ⟨t', hst _ (fun acts => by rw [doInvoke_state]; exact hs.trans a1), b1⟩
  · obtain ⟨t', a1, b1⟩ := k2 x hq T' rfl X'
    exact ⟨t', hst _ (fun acts => by rw [doInvoke_state]; exact hs.trans a1), b1⟩
end CtCalls
end
section
-- THE CALLS, a row a kind
section CtRows
variable {p : Program} {l : Launch} {e : Env} {R : Room} {s : State} {m : MethodId} {args : Array Value} {below : List Frame} {meth : Method} {c : Code} {H : Heap} {locs : List Loc} {cells slots : Nat} {Q : State → Prop}
variable {cc : ByteArray} {pc : Nat} {ls : Array Slot} {rest : List Value} {free : Addr → Prop}
variable {y : MethodName} {kw : Cond} {maxL nL n index : Nat} {rm : Room} {Pc : Array Value → State → Prop} {Qc : Array Value → State → Outcome → State → Prop} {own C host : String}
theorem ct_len {sig : MethodDescriptor} {As : List Value} (hlen : (parseMethodDescriptor y.desc).map (fun d => d.parameters.length) = some n) (hs : parseMethodDescriptor y.desc = some sig) (hn : As.length = n) : As.length = sig.parameters.length := by
  rw [hs] at hlen
  rw [hn]
  exact (Option.some.inj hlen).symm
theorem ctS (hx : p.tables.exec = Jvm.exec) (hb : c.code = cc) (hml : c.maxLocals = nL) (hown : s.vm.findClass own = some m.cls) (hTB : TB s) (hC : CL l R y kw maxL n cells slots rm Pc Qc free) (hbl : FrameBlind Pc) (ml : Cond.methodLink own index y ∈ TW) (mst : Cond.static y ∈ TW)
    {As : List Value} (hn : As.length = n) (hpre : ∀ U : State, U.heap = H → s.WarmedH U.vm → Pc As.toArray U) (hsize : ls.size = nL) {st : List Value} (hst : st = As.reverse ++ rest) (hW : (rest.map fun v => v.category).sum ≤ 8) (hd : decode cc pc = .ok (.invokestatic index, 3))
    (kr : KR p l e R s m args below meth c H locs cells slots Q rm free (Qc As.toArray) pc ls rest) : W p l e R s m args below meth c H locs cells slots Q (F0 m pc ls st) := by
  intro T hT X
  obtain ⟨-, ⟨cc9, ret9, hh9, hk⟩, m1, m2, hy, hlen, -⟩ := id hC
  obtain ⟨mk, methM, cM, hnamed, hmethM, -, -, -, -, -, -, hsigM⟩ := hk.spec (hTB _ m1 #[])
  have hstatic : methM.isStatic = true := Cond.static_spec hnamed hmethM (hTB _ mst args)
  obtain ⟨kP, hkP, -⟩ := className_of_methodNamed hnamed
  have hinitP : kP.init = .initialized := Cond.initialized_spec (findClass_of_methodNamed hnamed) hkP (hTB _ m2 args)
  subst hst
  obtain ⟨vm₁, X₁, hstep₁⟩ := X.invokestatic hx hown (hTB _ ml args) hnamed hmethM hstatic hkP hinitP hy (g := F0 m pc ls (As.reverse ++ rest)) rfl (argsL := As) (rest := rest) (ct_len hlen hsigM hn) rfl (by rw [hb]; exact hd)
  exact ct_go hT X hTB hC hbl hpre (hsize.trans hml.symm) hW (ig := .invokestatic index) (by rw [hb]; exact hd) hnamed X₁.warmed X₁ hstep₁ kr
theorem ctSN (hx : p.tables.exec = Jvm.exec) (hb : c.code = cc) (hml : c.maxLocals = nL) (hown : s.vm.findClass own = some m.cls) (hTB : TB s) (hC : CL l R y kw maxL n cells slots rm Pc Qc free) (hbl : FrameBlind Pc) (ml : Cond.methodLinkNest own index y host ∈ TW) (mst : Cond.static y ∈ TW)
    {As : List Value} (hn : As.length = n) (hpre : ∀ U : State, U.heap = H → s.WarmedH U.vm → Pc As.toArray U) (hsize : ls.size = nL) {st : List Value} (hst : st = As.reverse ++ rest) (hW : (rest.map fun v => v.category).sum ≤ 8) (hd : decode cc pc = .ok (.invokestatic index, 3))
    (kr : KR p l e R s m args below meth c H locs cells slots Q rm free (Qc As.toArray) pc ls rest) : W p l e R s m args below meth c H locs cells slots Q (F0 m pc ls st) := by
  intro T hT X
  obtain ⟨-, ⟨cc9, ret9, hh9, hk⟩, m1, m2, hy, hlen, -⟩ := id hC
  obtain ⟨mk, methM, cM, hnamed, hmethM, -, -, -, -, -, -, hsigM⟩ := hk.spec (hTB _ m1 #[])
  have hstatic : methM.isStatic = true := Cond.static_spec hnamed hmethM (hTB _ mst args)
  obtain ⟨kP, hkP, -⟩ := className_of_methodNamed hnamed
  have hinitP : kP.init = .initialized := Cond.initialized_spec (findClass_of_methodNamed hnamed) hkP (hTB _ m2 args)
  subst hst
  obtain ⟨vm₁, X₁, hstep₁⟩ := X.invokestaticNest hx hown (hTB _ ml args) hnamed hmethM hstatic hkP hinitP hy (g := F0 m pc ls (As.reverse ++ rest)) rfl (argsL := As) (rest := rest) (ct_len hlen hsigM hn) rfl (by rw [hb]; exact hd)
  exact ct_go hT X hTB hC hbl hpre (hsize.trans hml.symm) hW (ig := .invokestatic index) (by rw [hb]; exact hd) hnamed X₁.warmed X₁ hstep₁ kr
/-- the receiver -/
def RV (s : State) (H : Heap) (C : String) (b : Addr) : Prop := ∃ cell : Cell, H[b]? = some cell ∧ cell.vm.isStatics = false ∧ s.vm.findClass C = some cell.cls
theorem ctV (hx : p.tables.exec = Jvm.exec) (hb : c.code = cc) (hml : c.maxLocals = nL) (hown : s.vm.findClass own = some m.cls) (hTB : TB s) (hC : CL l R y kw maxL n cells slots rm Pc Qc free) (hbl : FrameBlind Pc) (ml : Cond.methodLink own index y ∈ TW) (mi : Cond.instanceMethod y ∈ TW) (ms : Cond.selects C y y ∈ TW)
    {b : Addr} (hrv : RV s H C b) {As : List Value} (hn : As.length = n) (hpre : ∀ U : State, U.heap = H → s.WarmedH U.vm → Pc (Value.ref b :: As).toArray U) (hsize : ls.size = nL) {st : List Value} (hst : st = As.reverse ++ .ref b :: rest) (hW : (rest.map fun v => v.category).sum ≤ 8) (hd : decode cc pc = .ok (.invokevirtual index, 3))
    (kr : KR p l e R s m args below meth c H locs cells slots Q rm free (Qc (Value.ref b :: As).toArray) pc ls rest) : W p l e R s m args below meth c H locs cells slots Q (F0 m pc ls st) := by
  intro T hT X
  obtain ⟨-, ⟨cc9, ret9, hh9, hk⟩, m1, m2, hy, hlen, -⟩ := id hC
  obtain ⟨mk, methM, hnamed, hmethM, hstM, habM⟩ := Cond.instanceMethod_spec (hTB _ mi args)
  obtain ⟨mk9, methM', cM, hnamed9, hmethM', -, -, -, -, -, -, hsigM⟩ := hk.spec (hTB _ m1 #[])
  cases hnamed.symm.trans hnamed9
  cases hmethM.symm.trans hmethM'
  obtain ⟨cellB, hcB, hoB, hclB⟩ := hrv
  obtain ⟨c2, r2, m2', q1, q2, q3, q4, kP, hkP, hkPi⟩ := Cond.selects_spec (hTB _ ms args)
  cases hclB.symm.trans q1
  cases (State.methodFound?_of_named hnamed hy).symm.trans q2
  cases hnamed.symm.trans q3
  have hselP : selectMethod e.platform s.vm cellB.cls mk = .method mk := by rw [Launch.admits_selectMethod X.admits]; exact q4
  subst hst
  obtain ⟨vm₁, X₁, hstep₁⟩ := X.invokevirtual hx hown (hTB _ ml args) hnamed hmethM hstM hkP hkPi hy (a := b) (cell := cellB) (by rw [hT]; exact hcB)
    (fun z h => by rw [h] at hoB; cases hoB) hselP hmethM habM hkP hkPi (g := F0 m pc ls (As.reverse ++ .ref b :: rest)) rfl (argsL := As) (rest := rest) (ct_len hlen hsigM hn) rfl (by rw [hb]; exact hd)
  exact ct_go hT X hTB hC hbl hpre (hsize.trans hml.symm) hW (ig := .invokevirtual index) (by rw [hb]; exact hd) hnamed X₁.warmed X₁ hstep₁ kr
theorem ctVN (hx : p.tables.exec = Jvm.exec) (hb : c.code = cc) (hml : c.maxLocals = nL) (hown : s.vm.findClass own = some m.cls) (hTB : TB s) (hC : CL l R y kw maxL n cells slots rm Pc Qc free) (hbl : FrameBlind Pc) (ml : Cond.methodLinkNest own index y host ∈ TW) (mi : Cond.instanceMethod y ∈ TW) (ms : Cond.selects C y y ∈ TW)
    {b : Addr} (hrv : RV s H C b) {As : List Value} (hn : As.length = n) (hpre : ∀ U : State, U.heap = H → s.WarmedH U.vm → Pc (Value.ref b :: As).toArray U) (hsize : ls.size = nL) {st : List Value} (hst : st = As.reverse ++ .ref b :: rest) (hW : (rest.map fun v => v.category).sum ≤ 8) (hd : decode cc pc = .ok (.invokevirtual index, 3))
    (kr : KR p l e R s m args below meth c H locs cells slots Q rm free (Qc (Value.ref b :: As).toArray) pc ls rest) : W p l e R s m args below meth c H locs cells slots Q (F0 m pc ls st) := by
  intro T hT X
  obtain ⟨-, ⟨cc9, ret9, hh9, hk⟩, m1, m2, hy, hlen, -⟩ := id hC
  obtain ⟨mk, methM, hnamed, hmethM, hstM, habM⟩ := Cond.instanceMethod_spec (hTB _ mi args)
  obtain ⟨mk9, methM', cM, hnamed9, hmethM', -, -, -, -, -, -, hsigM⟩ := hk.spec (hTB _ m1 #[])
  cases hnamed.symm.trans hnamed9
  cases hmethM.symm.trans hmethM'
  obtain ⟨cellB, hcB, hoB, hclB⟩ := hrv
  obtain ⟨c2, r2, m2', q1, q2, q3, q4, kP, hkP, hkPi⟩ := Cond.selects_spec (hTB _ ms args)
  cases hclB.symm.trans q1
  cases (State.methodFound?_of_named hnamed hy).symm.trans q2
  cases hnamed.symm.trans q3
  have hselP : selectMethod e.platform s.vm cellB.cls mk = .method mk := by rw [Launch.admits_selectMethod X.admits]; exact q4
  subst hst
  obtain ⟨vm₁, X₁, hstep₁⟩ := X.invokevirtualNest hx hown (hTB _ ml args) hnamed hmethM hstM hkP hkPi hy (a := b) (cell := cellB) (by rw [hT]; exact hcB)
    (fun z h => by rw [h] at hoB; cases hoB) hselP hmethM habM hkP hkPi (g := F0 m pc ls (As.reverse ++ .ref b :: rest)) rfl (argsL := As) (rest := rest) (ct_len hlen hsigM hn) rfl (by rw [hb]; exact hd)
  exact ct_go hT X hTB hC hbl hpre (hsize.trans hml.symm) hW (ig := .invokevirtual index) (by rw [hb]; exact hd) hnamed X₁.warmed X₁ hstep₁ kr
theorem ctI (hx : p.tables.exec = Jvm.exec) (hb : c.code = cc) (hml : c.maxLocals = nL) (hown : s.vm.findClass own = some m.cls) (hTB : TB s) (hC : CL l R y kw maxL n cells slots rm Pc Qc free) (hbl : FrameBlind Pc) {bytes : ByteArray} (hkw : kw = .code y bytes maxL none) (hy1 : y.name = "<init>") (ml : Cond.methodLink own index y ∈ TW) (mi : Cond.instanceMethod y ∈ TW)
    {b : Addr} {As : List Value} (hn : As.length = n) (hpre : ∀ U : State, U.heap = H → s.WarmedH U.vm → Pc (Value.ref b :: As).toArray U) (hsize : ls.size = nL) {st : List Value} (hst : st = As.reverse ++ .ref b :: rest) (hW : (rest.map fun v => v.category).sum ≤ 8) (hd : decode cc pc = .ok (.invokespecial index, 3))
    (kr : KR p l e R s m args below meth c H locs cells slots Q rm free (Qc (Value.ref b :: As).toArray) pc ls rest) : W p l e R s m args below meth c H locs cells slots Q (F0 m pc ls st) := by
  intro T hT X
  obtain ⟨-, -, m1, m2, hy, hlen, -⟩ := id hC
  have hpl : e.platform.magicAccessors = ({} : Platform).magicAccessors := by rw [X.admits.platform]
  subst hst
  have hcode : (Cond.code y bytes maxL none).before args s = true := by rw [← hkw]; exact hTB _ m1 args
  obtain ⟨mk, methM, cM, kP, vm₁, hnamed, hmethM, hcodeM, -, hlocalsM, -, hkP, -, hW₁, hstep₁⟩ := Steps.initColdArgs (e := e) X.here hx X.warmed hpl hown hy1 hy (hTB _ ml args) (hTB _ mi args) hcode (f := F0 m pc ls (As.reverse ++ .ref b :: rest)) rfl (argsL := As) (rest := rest) (a := b) (fun sig h => ct_len hlen h hn) rfl (by rw [hb]; exact hd)
  exact ct_go hT X hTB hC hbl hpre (hsize.trans hml.symm) hW (ig := .invokespecial index) (by rw [hb]; exact hd) hnamed hW₁ (X.noted hW₁) hstep₁ kr
theorem ctIN (hx : p.tables.exec = Jvm.exec) (hb : c.code = cc) (hml : c.maxLocals = nL) (hown : s.vm.findClass own = some m.cls) (hTB : TB s) (hC : CL l R y kw maxL n cells slots rm Pc Qc free) (hbl : FrameBlind Pc) {bytes : ByteArray} (hkw : kw = .code y bytes maxL none) (hy1 : y.name = "<init>") (ml : Cond.methodLinkNest own index y host ∈ TW) (mi : Cond.instanceMethod y ∈ TW)
    {b : Addr} {As : List Value} (hn : As.length = n) (hpre : ∀ U : State, U.heap = H → s.WarmedH U.vm → Pc (Value.ref b :: As).toArray U) (hsize : ls.size = nL) {st : List Value} (hst : st = As.reverse ++ .ref b :: rest) (hW : (rest.map fun v => v.category).sum ≤ 8) (hd : decode cc pc = .ok (.invokespecial index, 3))
    (kr : KR p l e R s m args below meth c H locs cells slots Q rm free (Qc (Value.ref b :: As).toArray) pc ls rest) : W p l e R s m args below meth c H locs cells slots Q (F0 m pc ls st) := by
  intro T hT X
  obtain ⟨-, -, m1, m2, hy, hlen, -⟩ := id hC
  have hpl : e.platform.magicAccessors = ({} : Platform).magicAccessors := by rw [X.admits.platform]
  subst hst
  have hcode : (Cond.code y bytes maxL none).before args s = true := by rw [← hkw]; exact hTB _ m1 args
  obtain ⟨mk, methM, cM, kP, vm₁, hnamed, hmethM, hcodeM, -, hlocalsM, -, hkP, -, hW₁, hstep₁⟩ := Steps.initColdArgsNest (e := e) X.here hx X.warmed hpl hown hy1 hy (hTB _ ml args) (hTB _ mi args) hcode (f := F0 m pc ls (As.reverse ++ .ref b :: rest)) rfl (argsL := As) (rest := rest) (a := b) (fun sig h => ct_len hlen h hn) rfl (by rw [hb]; exact hd)
  exact ct_go hT X hTB hC hbl hpre (hsize.trans hml.symm) hW (ig := .invokespecial index) (by rw [hb]; exact hd) hnamed hW₁ (X.noted hW₁) hstep₁ kr
-- what comes back from a callee that does not throw
theorem krV {po : Heap → Prop} {a : Array Value} {c1 s1 : Nat} (hc1 : cells + rm.cells = c1) (hs1 : slots + rm.slots = s1) (k : ∀ (t : State) (H1 : Heap) (L : List Loc), Af s H free rm.cells t H1 → (∀ q ∈ L, free q.base) → po H1 → W p l e R s m args below meth c H1 (locs ++ L) c1 s1 Q (F0 m (pc + 3) ls rest)) :
    KR p l e R s m args below meth c H locs cells slots Q rm free (QV po a) pc ls rest := by
  subst hc1
  subst hs1
  intro st0 t H1 L _ hA hL
  refine ⟨fun v hq => ?_, fun x hq => ?_⟩
  · obtain ⟨e1, hp⟩ := hq
    cases e1
    exact k t H1 L hA hL (by rw [← hA.1]; exact hp)
  · obtain ⟨e1, -⟩ := hq
    cases e1
theorem krI {po : Int → Heap → Prop} {a : Array Value} {c1 s1 : Nat} (hc1 : cells + rm.cells = c1) (hs1 : slots + rm.slots = s1) (k : ∀ (r : Int) (t : State) (H1 : Heap) (L : List Loc), Af s H free rm.cells t H1 → (∀ q ∈ L, free q.base) → po r H1 → W p l e R s m args below meth c H1 (locs ++ L) c1 s1 Q (F0 m (pc + 3) ls (.int (iI r) :: rest))) :
    KR p l e R s m args below meth c H locs cells slots Q rm free (QI po a) pc ls rest := by
  subst hc1
  subst hs1
  intro st0 t H1 L _ hA hL
  refine ⟨fun v hq => ?_, fun x hq => ?_⟩
  · obtain ⟨r, e1, hp⟩ := hq
    cases e1
    exact k r t H1 L hA hL (by rw [← hA.1]; exact hp)
  · obtain ⟨r, e1, -⟩ := hq
    cases e1
theorem krL {po : Int → Heap → Prop} {a : Array Value} {c1 s1 : Nat} (hc1 : cells + rm.cells = c1) (hs1 : slots + rm.slots = s1) (k : ∀ (r : Int) (t : State) (H1 : Heap) (L : List Loc), Af s H free rm.cells t H1 → (∀ q ∈ L, free q.base) → po r H1 → W p l e R s m args below meth c H1 (locs ++ L) c1 s1 Q (F0 m (pc + 3) ls (.long (lI r) :: rest))) :
    KR p l e R s m args below meth c H locs cells slots Q rm free (QL po a) pc ls rest := by
  subst hc1
  subst hs1
  intro st0 t H1 L _ hA hL
  refine ⟨fun v hq => ?_, fun x hq => ?_⟩
  · obtain ⟨r, e1, hp⟩ := hq
    cases e1
    exact k r t H1 L hA hL (by rw [← hA.1]; exact hp)
  · obtain ⟨r, e1, -⟩ := hq
    cases e1
theorem nil_of {L : List Loc} (hL : ∀ q ∈ L, free q.base) (hf : ∀ q, ¬ free q) : L = [] := by
  cases L with
  | nil => rfl
  | cons x L => exact absurd (hL x List.mem_cons_self) (hf _)
-- .. from one that writes nothing and makes nothing
theorem krV0 {po : Heap → Prop} {a : Array Value} (h0 : rm.cells = 0) (h1 : rm.slots = 0) (hf : ∀ q, ¬ free q) (k : po H → W p l e R s m args below meth c H locs cells slots Q (F0 m (pc + 3) ls rest)) :
    KR p l e R s m args below meth c H locs cells slots Q rm free (QV po a) pc ls rest := by
  refine krV (c1 := cells) (s1 := slots) (by omega) (by omega) (fun t H1 L hA hL hp => ?_)
  rw [h0] at hA
  have e1 := hA.same hf
  subst e1
  rw [nil_of hL hf, List.append_nil]
  exact k hp
theorem krI0 {po : Int → Heap → Prop} {a : Array Value} (h0 : rm.cells = 0) (h1 : rm.slots = 0) (hf : ∀ q, ¬ free q) (k : ∀ r : Int, po r H → W p l e R s m args below meth c H locs cells slots Q (F0 m (pc + 3) ls (.int (iI r) :: rest))) :
    KR p l e R s m args below meth c H locs cells slots Q rm free (QI po a) pc ls rest := by
  refine krI (c1 := cells) (s1 := slots) (by omega) (by omega) (fun r t H1 L hA hL hp => ?_)
  rw [h0] at hA
  have e1 := hA.same hf
  subst e1
  rw [nil_of hL hf, List.append_nil]
  exact k r hp
theorem krL0 {po : Int → Heap → Prop} {a : Array Value} (h0 : rm.cells = 0) (h1 : rm.slots = 0) (hf : ∀ q, ¬ free q) (k : ∀ r : Int, po r H → W p l e R s m args below meth c H locs cells slots Q (F0 m (pc + 3) ls (.long (lI r) :: rest))) :
    KR p l e R s m args below meth c H locs cells slots Q rm free (QL po a) pc ls rest := by
  refine krL (c1 := cells) (s1 := slots) (by omega) (by omega) (fun r t H1 L hA hL hp => ?_)
  rw [h0] at hA
  have e1 := hA.same hf
  subst e1
  rw [nil_of hL hf, List.append_nil]
  exact k r hp
-- Math.min, Math.max
theorem iz_min (hx : p.tables.exec = Jvm.exec) (hb : c.code = cc) (hml : c.maxLocals = nL) (hsize : ls.size = nL) (hown : s.vm.findClass own = some m.cls) (hTB : TB s) (ml : Cond.methodLink own index Lib.Math.min.name ∈ TW) (hframes : 1 ≤ R.frames) (hlocals : (rest.map fun v => v.category).sum + 13 ≤ R.locals) (hc : cells ≤ R.cells) (hs : slots ≤ R.slots) {a b : Int} (ha : r32 a) (hb1 : r32 b) (hd : decode cc pc = .ok (.invokestatic index, 3))
    (kk : W p l e R s m args below meth c H locs cells slots Q (F0 m (pc + 3) ls (.int (iI (if b < a then b else a)) :: rest))) : W p l e R s m args below meth c H locs cells slots Q (F0 m pc ls (.int (iI b) :: .int (iI a) :: rest)) := by
  refine va_mmin hx hb (hml.trans hsize.symm) hown (hTB _ ml args) (hTB _ wa_stMin args) (hTB _ wa_inMath args) (hTB _ wa_cdMin args) hframes hlocals hc hs hd ?_
  rw [show (if iI b < iI a then iI b else iI a) = iI (if b < a then b else a) by simp only [iI_lt hb1 ha]; split <;> rfl]
  exact kk
theorem iz_max (hx : p.tables.exec = Jvm.exec) (hb : c.code = cc) (hml : c.maxLocals = nL) (hsize : ls.size = nL) (hown : s.vm.findClass own = some m.cls) (hTB : TB s) (ml : Cond.methodLink own index Lib.Math.max.name ∈ TW) (hframes : 1 ≤ R.frames) (hlocals : (rest.map fun v => v.category).sum + 13 ≤ R.locals) (hc : cells ≤ R.cells) (hs : slots ≤ R.slots) {a b : Int} (ha : r32 a) (hb1 : r32 b) (hd : decode cc pc = .ok (.invokestatic index, 3))
    (kk : W p l e R s m args below meth c H locs cells slots Q (F0 m (pc + 3) ls (.int (iI (if a < b then b else a)) :: rest))) : W p l e R s m args below meth c H locs cells slots Q (F0 m pc ls (.int (iI b) :: .int (iI a) :: rest)) := by
  refine va_mmax hx hb (hml.trans hsize.symm) hown (hTB _ ml args) (hTB _ wa_stMax args) (hTB _ wa_inMath args) (hTB _ wa_cdMax args) hframes hlocals hc hs hd ?_
  rw [show (if iI a < iI b then iI b else iI a) = iI (if a < b then b else a) by simp only [iI_lt ha hb1]; split <;> rfl]
  exact kk
theorem iz_minL (hx : p.tables.exec = Jvm.exec) (hb : c.code = cc) (hml : c.maxLocals = nL) (hsize : ls.size = nL) (hown : s.vm.findClass own = some m.cls) (hTB : TB s) (ml : Cond.methodLink own index Lib.MathLoose.min_long.x ∈ TW) (hframes : 1 ≤ R.frames) (hlocals : (rest.map fun v => v.category).sum + 15 ≤ R.locals) (hc : cells ≤ R.cells) (hs : slots ≤ R.slots) {a b : Int} (ha : r64 a) (hb1 : r64 b) (hd : decode cc pc = .ok (.invokestatic index, 3))
    (kk : W p l e R s m args below meth c H locs cells slots Q (F0 m (pc + 3) ls (.long (lI (if b < a then b else a)) :: rest))) : W p l e R s m args below meth c H locs cells slots Q (F0 m pc ls (.long (lI b) :: .long (lI a) :: rest)) := by
  refine va_mmin_long hx hb (hml.trans hsize.symm) hown (hTB _ ml args) (hTB _ wa_stMinL args) (hTB _ wa_inMath args) (hTB _ wa_cdMinL args) hframes hlocals hc hs hd ?_
  rw [show (if lI b < lI a then lI b else lI a) = lI (if b < a then b else a) by simp only [lI_lt hb1 ha]; split <;> rfl]
  exact kk
end CtRows
end
section
-- ARRAYS AND NEW CELLS over integers
section IzCells
variable {p : Program} {l : Launch} {e : Env} {R : Room} {s : State} {m : MethodId} {args : Array Value} {below : List Frame} {meth : Method} {c : Code} {H : Heap} {locs : List Loc} {cells slots : Nat} {Q : State → Prop}
variable {cc : ByteArray} {pc : Nat} {ls : Array Slot} {rest : List Value} {K : KG} {ws : va_W} {A : Nat → Prop} {H0 : Heap} {a n : Nat} {g : Nat → Int}
theorem iI_k {k : Nat} (h : k < 2147483648) : (iI (k : Int)).toNatClampNeg = k := by rw [iI_cl ⟨by omega, by omega⟩]; rfl
theorem iz_iald (hx : p.tables.exec = Jvm.exec) (hb : c.code = cc) (hK : va_K (kD K) vcl (kTY K) s) (hP : va_P (kD K) vcl ws H) (q0 : Nat) (ha : ws[q0]? = some (a, .inl (kI K, n, .inl (iA g)))) {i : Int} (k : Nat) (hi : i = (k : Int)) (hk : k < n) (hn : n < 2147483648) (hd : decode cc pc = .ok (.iaload, 1))
    (kk : W p l e R s m args below meth c H locs cells slots Q (F0 m (pc + 1) ls (.int (iI (g k)) :: rest))) : W p l e R s m args below meth c H locs cells slots Q (F0 m pc ls (.int (iI i) :: .ref a :: rest)) := by
  subst hi
  refine va_iald hx hb hK hP q0 0 ha rfl (iI_in (by omega) (by omega) (by omega)) hd ?_
  rw [iI_k (by omega)]
  exact kk
theorem iz_iast (hx : p.tables.exec = Jvm.exec) (hb : c.code = cc) (hK : va_K (kD K) vcl (kTY K) s) (hP : va_P (kD K) vcl ws H) (hD : va_D A ws) (hS : va_S A H0 H locs) (q0 : Nat) (ha : ws[q0]? = some (a, .inl (kI K, n, .inl (iA g)))) {i v : Int} (k : Nat) (hi : i = (k : Int)) (hk : k < n) (hn : n < 2147483648) (hd : decode cc pc = .ok (.iastore, 1))
    (kk : ∀ (H1 : Heap) (locs1 : List Loc), va_P (kD K) vcl (ws.set q0 (a, .inl (kI K, n, .inl (iA (ut g k v))))) H1 → va_D A (ws.set q0 (a, .inl (kI K, n, .inl (iA (ut g k v))))) → va_S A H0 H1 locs1 → W p l e R s m args below meth c H1 locs1 cells slots Q (F0 m (pc + 1) ls rest)) : W p l e R s m args below meth c H locs cells slots Q (F0 m pc ls (.int (iI v) :: .int (iI i) :: .ref a :: rest)) := by
  subst hi
  refine va_iast hx hb hK hP hD hS q0 0 ha rfl (iI_in (by omega) (by omega) (by omega)) hd (fun H1 locs1 h1 h2 h3 => ?_)
  rw [iI_k (by omega), iA_ut] at h1 h2
  exact kk H1 locs1 h1 h2 h3
theorem iz_lald (hx : p.tables.exec = Jvm.exec) (hb : c.code = cc) (hK : va_K (kD K) vcl (kTY K) s) (hP : va_P (kD K) vcl ws H) (q0 : Nat) (ha : ws[q0]? = some (a, .inl (kL K, n, .inr (.inl (lA g))))) {i : Int} (k : Nat) (hi : i = (k : Int)) (hk : k < n) (hn : n < 2147483648) (hd : decode cc pc = .ok (.laload, 1))
    (kk : W p l e R s m args below meth c H locs cells slots Q (F0 m (pc + 1) ls (.long (lI (g k)) :: rest))) : W p l e R s m args below meth c H locs cells slots Q (F0 m pc ls (.int (iI i) :: .ref a :: rest)) := by
  subst hi
  refine va_lald hx hb hK hP q0 1 ha rfl (iI_in (by omega) (by omega) (by omega)) hd ?_
  rw [iI_k (by omega)]
  exact kk
theorem iz_last (hx : p.tables.exec = Jvm.exec) (hb : c.code = cc) (hK : va_K (kD K) vcl (kTY K) s) (hP : va_P (kD K) vcl ws H) (hD : va_D A ws) (hS : va_S A H0 H locs) (q0 : Nat) (ha : ws[q0]? = some (a, .inl (kL K, n, .inr (.inl (lA g))))) {i v : Int} (k : Nat) (hi : i = (k : Int)) (hk : k < n) (hn : n < 2147483648) (hd : decode cc pc = .ok (.lastore, 1))
    (kk : ∀ (H1 : Heap) (locs1 : List Loc), va_P (kD K) vcl (ws.set q0 (a, .inl (kL K, n, .inr (.inl (lA (ut g k v)))))) H1 → va_D A (ws.set q0 (a, .inl (kL K, n, .inr (.inl (lA (ut g k v)))))) → va_S A H0 H1 locs1 → W p l e R s m args below meth c H1 locs1 cells slots Q (F0 m (pc + 1) ls rest)) : W p l e R s m args below meth c H locs cells slots Q (F0 m pc ls (.long (lI v) :: .int (iI i) :: .ref a :: rest)) := by
  subst hi
  refine va_last hx hb hK hP hD hS q0 1 ha rfl (iI_in (by omega) (by omega) (by omega)) hd (fun H1 locs1 h1 h2 h3 => ?_)
  rw [iI_k (by omega), lA_ut] at h1 h2
  exact kk H1 locs1 h1 h2 h3
theorem iz_alen (hx : p.tables.exec = Jvm.exec) (hb : c.code = cc) (hK : va_K (kD K) vcl (kTY K) s) (hP : va_P (kD K) vcl ws H) (q0 t0 : Nat) {cA : ClassId} {x : vp_A} (ha : ws[q0]? = some (a, .inl (cA, x))) {ty : FieldType} (ht : (kTY K)[t0]? = some (cA, ty)) (hd : decode cc pc = .ok (.arraylength, 1))
    (kk : W p l e R s m args below meth c H locs cells slots Q (F0 m (pc + 1) ls (.int (iI (x.1 : Nat)) :: rest))) : W p l e R s m args below meth c H locs cells slots Q (F0 m pc ls (.ref a :: rest)) :=
  va_alen hx hb hK hP q0 t0 ha ht (iI_nat _) hd kk
theorem iz_aald (hx : p.tables.exec = Jvm.exec) (hb : c.code = cc) (hK : va_K (kD K) vcl (kTY K) s) (hP : va_P (kD K) vcl ws H) (q0 t0 : Nat) {cA : ClassId} {C : String} {f : Nat → Option Nat} (ha : ws[q0]? = some (a, .inl (cA, n, .inr (.inr (.inr (.inr f)))))) (ht : (kTY K)[t0]? = some (cA, .object C)) {i : Int} (k : Nat) (hi : i = (k : Int)) (hk : k < n) (hn : n < 2147483648) {x : Nat} (hf : f k = some x) (hd : decode cc pc = .ok (.aaload, 1))
    (kk : W p l e R s m args below meth c H locs cells slots Q (F0 m (pc + 1) ls (.ref x :: rest))) : W p l e R s m args below meth c H locs cells slots Q (F0 m pc ls (.int (iI i) :: .ref a :: rest)) := by
  subst hi
  refine va_aldq hx hb hK hP q0 t0 ha ht (iI_in (by omega) (by omega) (by omega)) hd ?_
  rw [iI_k (by omega), hf]
  exact kk
theorem iz_ldc (hx : p.tables.exec = Jvm.exec) (hb : c.code = cc) {own : String} {index : Nat} {v : Int32} (z : Int) (hz : v = iI z) (hown : s.vm.findClass own = some m.cls) (hc : (Cond.constant own index v).before args s = true) (hd : decode cc pc = .ok (.ldc index, 2))
    (k : W p l e R s m args below meth c H locs cells slots Q (F0 m (pc + 2) ls (.int (iI z) :: rest))) : W p l e R s m args below meth c H locs cells slots Q (F0 m pc ls rest) := lv_ldc hx hb hown hc hd (by rw [hz]; exact k)
theorem iz_ldc2 (hx : p.tables.exec = Jvm.exec) (hb : c.code = cc) {own : String} {index : Nat} {v : Int64} (z : Int) (hz : v = lI z) (hown : s.vm.findClass own = some m.cls) (hc : (Cond.constantLong own index v).before args s = true) (hd : decode cc pc = .ok (.ldc2_w index, 3))
    (k : W p l e R s m args below meth c H locs cells slots Q (F0 m (pc + 3) ls (.long (lI z) :: rest))) : W p l e R s m args below meth c H locs cells slots Q (F0 m pc ls rest) := lv_ldc2 hx hb hown hc hd (by rw [hz]; exact k)
/-- a new array of ints: at the heap's end -/
theorem iz_newi (hx : p.tables.exec = Jvm.exec) (hb : c.code = cc) (hTB : TB s) (hK : va_K (kD K) vcl (kTY K) s) (hP : va_P (kD K) vcl ws H) (hD : va_D A ws) (hS : va_S A H0 H locs) (hA : ∀ q, H0.size ≤ q → A q) (N : Nat) {i : Int} (hi : i = (N : Int)) (hN : N < 1000) (hcells : cells + 1 ≤ R.cells) (hslots : slots + N ≤ R.slots) {z : Nat} (hz : H.size = z) (hd : decode cc pc = .ok (.newarray .int, 2))
    (kk : ∀ (H1 : Heap), H1.size = z + 1 → va_P (kD K) vcl (ws ++ [(z, .inl (kI K, N, .inl (iA (fun _ => 0))))]) H1 → va_D A (ws ++ [(z, .inl (kI K, N, .inl (iA (fun _ => 0))))]) → va_S A H0 H1 locs → W p l e R s m args below meth c H1 locs (cells + 1) (slots + N) Q (F0 m (pc + 2) ls (.ref z :: rest))) : W p l e R s m args below meth c H locs cells slots Q (F0 m pc ls (.int (iI i) :: rest)) := by
  subst hi
  subst hz
  refine va_newaK (atype := .int) hx hb (hTB _ wa_arrInt args) rfl hd rfl (iI_nn ⟨by omega, by omega⟩ (by omega)) (iI_k (by omega)) (by show N * 4 ≤ _; omega) hcells hslots rfl fun H1 cA e1 z1 o1 hAr hNm => ?_
  have hcA : cA = kI K := Option.some.inj (hNm.symm.trans (hK.2 0 _ rfl).2)
  subst hcA
  have hk : ∀ (k : Nat) (x : Nat × va_E), ws[k]? = some x → H1[x.1]? = H[x.1]? := fun k x hx => o1 x.1 ((hP k x hx).lt)
  refine kk H1 z1 ((hP.kept hk).app (fun k x hx => ?_)) (hD.push hP rfl (hA _ hS.1)) ⟨Nat.le_trans hS.1 (by omega), fun x h1 h2 => (o1 x (Nat.lt_of_lt_of_le h1 hS.1)).trans (hS.2.1 x h1 h2), hS.2.2⟩
  have hz : k < 1 := (List.getElem?_eq_some_iff.mp hx).1
  rw [show k = 0 by omega] at hx
  cases hx
  exact e1
theorem iz_newl (hx : p.tables.exec = Jvm.exec) (hb : c.code = cc) (hTB : TB s) (hK : va_K (kD K) vcl (kTY K) s) (hP : va_P (kD K) vcl ws H) (hD : va_D A ws) (hS : va_S A H0 H locs) (hA : ∀ q, H0.size ≤ q → A q) (N : Nat) {i : Int} (hi : i = (N : Int)) (hN : N < 1000) (hcells : cells + 1 ≤ R.cells) (hslots : slots + N ≤ R.slots) {z : Nat} (hz : H.size = z) (hd : decode cc pc = .ok (.newarray .long, 2))
    (kk : ∀ (H1 : Heap), H1.size = z + 1 → va_P (kD K) vcl (ws ++ [(z, .inl (kL K, N, .inr (.inl (lA (fun _ => 0)))))]) H1 → va_D A (ws ++ [(z, .inl (kL K, N, .inr (.inl (lA (fun _ => 0)))))]) → va_S A H0 H1 locs → W p l e R s m args below meth c H1 locs (cells + 1) (slots + N) Q (F0 m (pc + 2) ls (.ref z :: rest))) : W p l e R s m args below meth c H locs cells slots Q (F0 m pc ls (.int (iI i) :: rest)) := by
  subst hi
  subst hz
  refine va_newaK (atype := .long) hx hb (hTB _ wa_arrLong args) rfl hd rfl (iI_nn ⟨by omega, by omega⟩ (by omega)) (iI_k (by omega)) (by show N * 8 ≤ _; omega) hcells hslots rfl fun H1 cA e1 z1 o1 hAr hNm => ?_
  have hcA : cA = kL K := Option.some.inj (hNm.symm.trans (hK.2 1 _ rfl).2)
  subst hcA
  have hk : ∀ (k : Nat) (x : Nat × va_E), ws[k]? = some x → H1[x.1]? = H[x.1]? := fun k x hx => o1 x.1 ((hP k x hx).lt)
  refine kk H1 z1 ((hP.kept hk).app (fun k x hx => ?_)) (hD.push hP rfl (hA _ hS.1)) ⟨Nat.le_trans hS.1 (by omega), fun x h1 h2 => (o1 x (Nat.lt_of_lt_of_le h1 hS.1)).trans (hS.2.1 x h1 h2), hS.2.2⟩
  have hz : k < 1 := (List.getElem?_eq_some_iff.mp hx).1
  rw [show k = 0 by omega] at hx
  cases hx
  exact e1
/-- apart, by the addresses -/
theorem va_D_of {B : Nat → Prop} {ws : va_W} (h1 : (ws.map Prod.fst).Nodup) (h2 : ∀ q ∈ ws, B q.1) : va_D B ws := by
  refine ⟨fun i j p q hp hq hpq => ?_, fun k q hk => h2 q (List.mem_of_getElem? hk)⟩
  have hi : (ws.map Prod.fst)[i]? = some p.1 := by rw [List.getElem?_map, hp]; rfl
  have hj : (ws.map Prod.fst)[j]? = some p.1 := by rw [List.getElem?_map, hq, hpq]; rfl
  obtain ⟨gi, ei⟩ := List.getElem?_eq_some_iff.mp hi
  obtain ⟨gj, ej⟩ := List.getElem?_eq_some_iff.mp hj
  rcases Nat.lt_trichotomy i j with h | h | h
  · exact absurd (ei.trans ej.symm) (List.pairwise_iff_getElem.mp h1 i j gi gj h)
  · exact h
  · exact absurd (ej.trans ei.symm) (List.pairwise_iff_getElem.mp h1 j i gj gi h)
theorem va_RVof {ci q0 : Nat} {q : vw_C} {fs : List Value} (hK : va_K (kD K) vcl (kTY K) s) (hP : va_P (kD K) vcl ws H) (hc : vcl[ci]? = some q) (he : ws[q0]? = some (a, .inr (ci, fs))) : RV s H q.1 a := va_recv hK hP hc he
end IzCells
end
section
-- THE PURCHASE: what the search for the cheapest packages answers
def sm (f : Nat → Int) : Nat → Nat → Int
  | _, 0 => 0
  | k, d + 1 => f k + sm f (k + 1) d
theorem sm_0 (f : Nat → Int) (k : Nat) : sm f k 0 = 0 := rfl
theorem sm_s (f : Nat → Int) (k d : Nat) : sm f k (d + 1) = f k + sm f (k + 1) d := rfl
theorem sm_congr {f g : Nat → Int} : ∀ (d k : Nat), (∀ i, k ≤ i → i < k + d → f i = g i) → sm f k d = sm g k d := by
  intro d
  induction d with
  | zero => intro k _; rfl
  | succ d ih =>
    intro k h
    rw [sm_s, sm_s, h k (by omega) (by omega), ih (k + 1) (fun i h1 h2 => h i (by omega) (by omega))]
theorem sm_nn {f : Nat → Int} : ∀ (d k : Nat), (∀ i, k ≤ i → i < k + d → 0 ≤ f i) → 0 ≤ sm f k d := by
  intro d
  induction d with
  | zero => intro k _; exact Int.le_refl 0
  | succ d ih =>
    intro k h
    rw [sm_s]
    have h1 := h k (by omega) (by omega)
    have h2 := ih (k + 1) (fun i h1 h2 => h i (by omega) (by omega))
    omega
theorem sm_z {f : Nat → Int} : ∀ (d k : Nat), (∀ i, k ≤ i → i < k + d → 0 ≤ f i) → sm f k d ≤ 0 → ∀ i, k ≤ i → i < k + d → f i = 0 := by
  intro d
  induction d with
  | zero => intro k _ _ i h1 h2; omega
  | succ d ih =>
    intro k h hs i h1 h2
    rw [sm_s] at hs
    have g1 := h k (by omega) (by omega)
    have g2 := sm_nn d (k + 1) (fun i h1 h2 => h i (by omega) (by omega))
    by_cases e : i = k
    · subst e; omega
    · exact ih (k + 1) (fun i h1 h2 => h i (by omega) (by omega)) (by omega) i (by omega) (by omega)
theorem sm_le {f g : Nat → Int} : ∀ (d k : Nat), (∀ i, k ≤ i → i < k + d → f i ≤ g i) → sm f k d ≤ sm g k d := by
  intro d
  induction d with
  | zero => intro k _; exact Int.le_refl 0
  | succ d ih =>
    intro k h
    rw [sm_s, sm_s]
    have h1 := h k (by omega) (by omega)
    have h2 := ih (k + 1) (fun i h1 h2 => h i (by omega) (by omega))
    omega
theorem sm_mul (f : Nat → Int) (x : Int) : ∀ (d k : Nat), sm (fun i => f i * x) k d = sm f k d * x := by
  intro d
  induction d with
  | zero => intro k; rw [sm_0, sm_0, Int.zero_mul]
  | succ d ih => intro k; rw [sm_s, sm_s, ih, Int.add_mul]
theorem sm_zero : ∀ (d k : Nat) {f : Nat → Int}, (∀ i, k ≤ i → i < k + d → f i = 0) → sm f k d = 0 := by
  intro d
  induction d with
  | zero => intro k f _; rfl
  | succ d ih =>
    intro k f h
    rw [sm_s, h k (by omega) (by omega), ih (k + 1) (fun i h1 h2 => h i (by omega) (by omega))]
    rfl
/-- cheaper, or as cheap with fewer -/
def py_bt (co ct bp bc : Int) : Prop := co < bp ∨ (co = bp ∧ ct < bc)
/-- as much of the first kinds -/
def py_lx (n n' : Nat → Int) : Nat → Nat → Prop
  | _, 0 => True
  | k, d + 1 => n' k < n k ∨ (n k = n' k ∧ py_lx n n' (k + 1) d)
theorem py_lx_s {n n' : Nat → Int} {k d : Nat} : py_lx n n' k (d + 1) ↔ n' k < n k ∨ (n k = n' k ∧ py_lx n n' (k + 1) d) := Iff.rfl
theorem py_lx_eq {n n' : Nat → Int} : ∀ (d k : Nat), (∀ i, k ≤ i → i < k + d → n i = n' i) → py_lx n n' k d := by
  intro d
  induction d with
  | zero => intro k _; exact trivial
  | succ d ih => intro k h; exact Or.inr ⟨h k (by omega) (by omega), ih (k + 1) (fun i h1 h2 => h i (by omega) (by omega))⟩
theorem py_lx_congr {n n' q q' : Nat → Int} : ∀ (d k : Nat), (∀ i, k ≤ i → i < k + d → n i = q i ∧ n' i = q' i) → py_lx n n' k d → py_lx q q' k d := by
  intro d
  induction d with
  | zero => intro k _ _; exact trivial
  | succ d ih =>
    intro k h hl
    obtain ⟨h1, h2⟩ := h k (by omega) (by omega)
    rcases hl with hl | ⟨hl, hr⟩
    · exact Or.inl (by omega)
    · exact Or.inr ⟨by omega, ih (k + 1) (fun i h1 h2 => h i (by omega) (by omega)) hr⟩
/-- antisymmetry of the two orders together -/
theorem py_lx_anti {n n' : Nat → Int} : ∀ (d k : Nat), py_lx n n' k d → py_lx n' n k d → ∀ i, k ≤ i → i < k + d → n i = n' i := by
  intro d
  induction d with
  | zero => intro k _ _ i h1 h2; omega
  | succ d ih =>
    intro k h1 h2 i g1 g2
    rcases h1 with h1 | ⟨h1, h1'⟩
    · rcases h2 with h2 | ⟨h2, h2'⟩ <;> omega
    · rcases h2 with h2 | ⟨h2, h2'⟩
      · omega
      · by_cases e : i = k
        · subst e; exact h1
        · exact ih (k + 1) h1' h2' i (by omega) (by omega)
def py_co (c n : Nat → Int) (k d : Nat) : Int := sm (fun i => n i * c i) k d
/-- a choice of the kinds k .. k + d - 1 that gives what is missing, within 60 -/
def py_F (mu : Nat → Int) (k d : Nat) (mi ct : Int) (n : Nat → Int) : Prop := (∀ i, k ≤ i → i < k + d → 0 ≤ n i) ∧ mi ≤ py_co mu n k d ∧ ct + sm n k d ≤ 60
/-- the best that was known (price, count, choice) before and after a search through the choices F -/
def py_R (c : Nat → Int) (k d : Nat) (co ct : Int) (tr : Nat → Int) (F : (Nat → Int) → Prop) (bp bc : Int) (bn : Nat → Int) (bp' bc' : Int) (bn' : Nat → Int) : Prop :=
  (bp' = bp ∧ bc' = bc ∧ bn' = bn ∧ ∀ n, F n → ¬ py_bt (co + py_co c n k d) (ct + sm n k d) bp bc) ∨
  (∃ n, F n ∧ bp' = co + py_co c n k d ∧ bc' = ct + sm n k d ∧ (∀ i, i < 4 → bn' i = if k ≤ i ∧ i < k + d then n i else tr i) ∧ py_bt bp' bc' bp bc ∧
    ∀ n', F n' → ¬ py_bt (co + py_co c n' k d) (ct + sm n' k d) bp' bc' ∧ (co + py_co c n' k d = bp' → ct + sm n' k d = bc' → py_lx n n' k d))
/-- nothing to search -/
theorem py_R_none {c : Nat → Int} {k d : Nat} {co ct : Int} {tr : Nat → Int} {F : (Nat → Int) → Prop} {bp bc : Int} {bn : Nat → Int} (h : ∀ n, F n → ¬ py_bt (co + py_co c n k d) (ct + sm n k d) bp bc) : py_R c k d co ct tr F bp bc bn bp bc bn := Or.inl ⟨rfl, rfl, rfl, h⟩
/-- one search behind another, whose choices have less of the first kinds -/
theorem py_R_two {c : Nat → Int} {k d : Nat} {co ct : Int} {tr : Nat → Int} {F G E : (Nat → Int) → Prop} {bp bc bp1 bc1 bp2 bc2 : Int} {bn bn1 bn2 : Nat → Int}
    (h1 : py_R c k d co ct tr F bp bc bn bp1 bc1 bn1) (h2 : py_R c k d co ct tr G bp1 bc1 bn1 bp2 bc2 bn2) (hE : ∀ n, E n ↔ F n ∨ G n) (hl : ∀ n n', F n → G n' → py_lx n n' k d) : py_R c k d co ct tr E bp bc bn bp2 bc2 bn2 := by
  rcases h1 with ⟨rfl, rfl, rfl, h1⟩ | ⟨n1, hF, e1, e2, e3, hb, h1⟩
  · rcases h2 with ⟨rfl, rfl, rfl, h2⟩ | ⟨n2, hG, e1, e2, e3, hb, h2⟩
    · exact Or.inl ⟨rfl, rfl, rfl, fun n hn => ((hE n).mp hn).elim (h1 n) (h2 n)⟩
    · refine Or.inr ⟨n2, (hE n2).mpr (Or.inr hG), e1, e2, e3, hb, fun n' hn' => ?_⟩
      rcases (hE n').mp hn' with hF | hG'
      · have h3 := h1 n' hF
        unfold py_bt at h3 hb ⊢
        exact ⟨by omega, fun q1 q2 => by omega⟩
      · exact h2 n' hG'
  · rcases h2 with ⟨rfl, rfl, rfl, h2⟩ | ⟨n2, hG, e1', e2', e3', hb', h2⟩
    · refine Or.inr ⟨n1, (hE n1).mpr (Or.inl hF), e1, e2, e3, hb, fun n' hn' => ?_⟩
      rcases (hE n').mp hn' with hF' | hG'
      · exact h1 n' hF'
      · exact ⟨h2 n' hG', fun _ _ => hl n1 n' hF hG'⟩
    · refine Or.inr ⟨n2, (hE n2).mpr (Or.inr hG), e1', e2', e3', ?_, fun n' hn' => ?_⟩
      · unfold py_bt at *
        omega
      · rcases (hE n').mp hn' with hF' | hG'
        · have h3 := (h1 n' hF').1
          unfold py_bt at h3 hb' ⊢
          exact ⟨by omega, fun q1 q2 => by omega⟩
        · exact h2 n' hG'
/-- the search at the next kind, with v of this one -/
theorem py_R_lift {mu c : Nat → Int} {k d : Nat} {co ct mi v : Int} {tr : Nat → Int} {bp bc bp1 bc1 : Int} {bn bn1 : Nat → Int} (hv : 0 ≤ v)
    (h : py_R c (k + 1) d (co + v * c k) (ct + v) (ut tr k v) (py_F mu (k + 1) d (mi - v * mu k) (ct + v)) bp bc bn bp1 bc1 bn1) :
    py_R c k (d + 1) co ct tr (fun n => py_F mu k (d + 1) mi ct n ∧ n k = v) bp bc bn bp1 bc1 bn1 := by
  have key : ∀ n : Nat → Int, n k = v → co + py_co c n k (d + 1) = (co + v * c k) + py_co c n (k + 1) d ∧ ct + sm n k (d + 1) = (ct + v) + sm n (k + 1) d := by
    intro n hn
    unfold py_co
    rw [sm_s, sm_s, hn]
    exact ⟨by omega, by omega⟩
  have down : ∀ n : Nat → Int, py_F mu k (d + 1) mi ct n ∧ n k = v → py_F mu (k + 1) d (mi - v * mu k) (ct + v) n := by
    rintro n ⟨⟨h1, h2, h3⟩, hn⟩
    unfold py_co at h2
    rw [sm_s] at h2 h3
    rw [hn] at h2 h3
    exact ⟨fun i a b => h1 i (by omega) (by omega), by unfold py_co; omega, by omega⟩
  have agree : ∀ n : Nat → Int, ∀ i, k + 1 ≤ i → i < k + 1 + d → ut n k v i = n i := fun n i a b => ut_n n v (by omega)
  have co' : ∀ n : Nat → Int, py_co c (ut n k v) (k + 1) d = py_co c n (k + 1) d := fun n => sm_congr d (k + 1) (fun i a b => by rw [agree n i a b])
  have mu' : ∀ n : Nat → Int, py_co mu (ut n k v) (k + 1) d = py_co mu n (k + 1) d := fun n => sm_congr d (k + 1) (fun i a b => by rw [agree n i a b])
  have ct' : ∀ n : Nat → Int, sm (ut n k v) (k + 1) d = sm n (k + 1) d := fun n => sm_congr d (k + 1) (fun i a b => agree n i a b)
  rcases h with ⟨rfl, rfl, rfl, h⟩ | ⟨n, hF, e1, e2, e3, hb, h⟩
  · refine Or.inl ⟨rfl, rfl, rfl, fun n hn => ?_⟩
    obtain ⟨g1, g2⟩ := key n hn.2
    rw [g1, g2]
    exact h n (down n hn)
  · have hk : ut n k v k = v := ut_s n k v
    obtain ⟨g1, g2⟩ := key (ut n k v) hk
    rw [co', ct'] at *
    obtain ⟨f1, f2, f3⟩ := hF
    refine Or.inr ⟨ut n k v, ⟨⟨fun i a b => ?_, ?_, ?_⟩, hk⟩, by rw [g1]; exact e1, by rw [g2]; exact e2, fun i hi => ?_, hb, fun n' hn' => ?_⟩
    · by_cases e : i = k
      · subst e; rw [hk]; exact hv
      · rw [ut_n n v e]; exact f1 i (by omega) (by omega)
    · unfold py_co
      rw [sm_s, hk]
      have := mu' n
      unfold py_co at this f2
      rw [this]
      omega
    · rw [sm_s, hk, ct']
      omega
    · rw [e3 i hi]
      by_cases e : i = k
      · subst e
        rw [if_neg (by omega), if_pos ⟨by omega, by omega⟩, hk, ut_s]
      · rw [ut_n n v e, ut_n tr v e]
        by_cases e2 : k + 1 ≤ i ∧ i < k + 1 + d
        · rw [if_pos e2, if_pos ⟨by omega, by omega⟩]
        · rw [if_neg e2, if_neg (by omega)]
    · obtain ⟨q1, q2⟩ := key n' hn'.2
      rw [q1, q2]
      obtain ⟨p1, p2⟩ := h n' (down n' hn')
      refine ⟨p1, fun r1 r2 => Or.inr ⟨by rw [hk, hn'.2], ?_⟩⟩
      exact py_lx_congr d (k + 1) (fun i a b => ⟨(agree n i a b).symm, rfl⟩) (p2 r1 r2)
/-- nothing is missing: none is bought -/
theorem py_R_zero {mu c : Nat → Int} {k d : Nat} {co ct mi : Int} {tr : Nat → Int} {bp bc : Int} {bn : Nat → Int} (hmi : mi ≤ 0) (hct : ct ≤ 60) (hc : ∀ i, k ≤ i → i < k + d → 1 ≤ c i) (htr : ∀ i, k ≤ i → tr i = 0) :
    (¬ py_bt co ct bp bc → py_R c k d co ct tr (py_F mu k d mi ct) bp bc bn bp bc bn) ∧ (py_bt co ct bp bc → py_R c k d co ct tr (py_F mu k d mi ct) bp bc bn co ct tr) := by
  have low : ∀ n, py_F mu k d mi ct n → 0 ≤ py_co c n k d ∧ 0 ≤ sm n k d ∧ (py_co c n k d ≤ 0 → ∀ i, k ≤ i → i < k + d → n i = 0) := by
    rintro n ⟨h1, -, -⟩
    have hp : ∀ i, k ≤ i → i < k + d → 0 ≤ n i * c i := fun i a b => Int.mul_nonneg (h1 i a b) (by have := hc i a b; omega)
    refine ⟨sm_nn d k hp, sm_nn d k h1, fun h i a b => ?_⟩
    have := sm_z d k hp h i a b
    rcases Int.mul_eq_zero.mp this with h | h
    · exact h
    · have := hc i a b; omega
  have z1 : py_co c (fun _ => 0) k d = 0 := sm_zero d k (fun i _ _ => Int.zero_mul _)
  have z2 : sm (fun _ => 0) k d = 0 := sm_zero d k (fun i _ _ => rfl)
  have z3 : py_co mu (fun _ => 0) k d = 0 := sm_zero d k (fun i _ _ => Int.zero_mul _)
  refine ⟨fun h => py_R_none (fun n hn => ?_), fun h => Or.inr ⟨fun _ => 0, ⟨fun _ _ _ => Int.le_refl 0, by rw [z3]; exact hmi, by rw [z2]; omega⟩, by rw [z1]; omega, by rw [z2]; omega, fun i _ => ?_, h, fun n hn => ⟨?_, fun q1 q2 => ?_⟩⟩⟩
  · obtain ⟨g1, g2, -⟩ := low n hn
    unfold py_bt at *
    omega
  · by_cases e : k ≤ i ∧ i < k + d
    · rw [if_pos e]; exact htr i e.1
    · rw [if_neg e]
  · obtain ⟨g1, g2, -⟩ := low n hn
    unfold py_bt at *
    omega
  · obtain ⟨g1, g2, g3⟩ := low n hn
    exact py_lx_eq d k (fun i a b => (g3 (by omega) i a b).symm)
/-- something is missing, and there is no kind left -/
theorem py_R_end {mu c : Nat → Int} {k : Nat} {co ct mi : Int} {tr : Nat → Int} {bp bc : Int} {bn : Nat → Int} (hmi : 0 < mi) : py_R c k 0 co ct tr (py_F mu k 0 mi ct) bp bc bn bp bc bn :=
  py_R_none (fun n hn => by have := hn.2.1; unfold py_co at this; rw [sm_0] at this; omega)
def cdiv (a b : Int) : Int := (a + b - 1) / b
theorem cdiv_le {a b x : Int} (hb : 0 < b) (h : a ≤ x * b) : cdiv a b ≤ x := by
  unfold cdiv
  have h1 : (a + b - 1) / b < x + 1 := Int.ediv_lt_of_lt_mul hb (by rw [Int.add_mul]; omega)
  omega
theorem cdiv_mul {a b : Int} (hb : 0 < b) : a ≤ cdiv a b * b := by
  unfold cdiv
  have h := Int.emod_add_mul_ediv (a + b - 1) b
  have h1 := Int.emod_lt_of_pos (a + b - 1) hb
  rw [Int.mul_comm] at h
  omega
theorem cdiv_nn {a b : Int} (hb : 0 < b) (ha : 0 ≤ a) : 0 ≤ cdiv a b := Int.ediv_nonneg (by omega) (by omega)
/-- what is missing cannot come, or not better -/
theorem py_R_hopeless {mu c : Nat → Int} {k d big ch : Nat} {co ct mi : Int} {tr : Nat → Int} {bp bc : Int} {bn : Nat → Int} (hmb : 0 < mu big) (hb : ∀ i, k ≤ i → i < k + d → mu i ≤ mu big) (hmc : 0 < mu ch) (hcc : 0 ≤ c ch) (hc : ∀ i, k ≤ i → i < k + d → c ch * mu i ≤ c i * mu ch)
    (h : 60 < ct + cdiv mi (mu big) ∨ ¬ py_bt (co + cdiv (mi * c ch) (mu ch)) (ct + cdiv mi (mu big)) bp bc) : py_R c k d co ct tr (py_F mu k d mi ct) bp bc bn bp bc bn := by
  refine py_R_none (fun n hn => ?_)
  obtain ⟨h1, h2, h3⟩ := hn
  have g1 : cdiv mi (mu big) ≤ sm n k d := by
    refine cdiv_le hmb (Int.le_trans h2 ?_)
    rw [← sm_mul]
    exact sm_le d k (fun i a b => Int.mul_le_mul_of_nonneg_left (hb i a b) (h1 i a b))
  have g2 : cdiv (mi * c ch) (mu ch) ≤ py_co c n k d := by
    refine cdiv_le hmc (Int.le_trans (Int.mul_le_mul_of_nonneg_right h2 hcc) ?_)
    unfold py_co
    rw [← sm_mul, ← sm_mul]
    refine sm_le d k (fun i a b => ?_)
    have := Int.mul_le_mul_of_nonneg_left (hc i a b) (h1 i a b)
    calc n i * mu i * c ch = n i * (c ch * mu i) := by rw [Int.mul_assoc, Int.mul_comm (mu i)]
      _ ≤ n i * (c i * mu ch) := this
      _ = n i * c i * mu ch := by rw [Int.mul_assoc]
  unfold py_bt at *
  omega
/-- from the choices with least .. most of a kind to all choices -/
theorem py_R_all {mu c : Nat → Int} {k d : Nat} {co ct mi least most : Int} {tr : Nat → Int} {bp bc bp1 bc1 : Int} {bn bn1 : Nat → Int} (hmi : 0 < mi) (hmu : ∀ i, k ≤ i → i < k + (d + 1) → 1 ≤ mu i) (hc : ∀ i, k ≤ i → i < k + (d + 1) → 1 ≤ c i) (hct : ct ≤ 60)
    (hmost : most = if 60 - ct < cdiv mi (mu k) then 60 - ct else cdiv mi (mu k)) (hleast : least = if d = 0 then most else 0)
    (h : py_R c k (d + 1) co ct tr (fun n => py_F mu k (d + 1) mi ct n ∧ least ≤ n k ∧ n k ≤ most) bp bc bn bp1 bc1 bn1) : py_R c k (d + 1) co ct tr (py_F mu k (d + 1) mi ct) bp bc bn bp1 bc1 bn1 := by
  have hmk := hmu k (by omega) (by omega)
  have hck := hc k (by omega) (by omega)
  have tail : ∀ n, py_F mu k (d + 1) mi ct n → 0 ≤ sm n (k + 1) d ∧ 0 ≤ py_co c n (k + 1) d := by
    rintro n ⟨h1, -, -⟩
    exact ⟨sm_nn d (k + 1) (fun i a b => h1 i (by omega) (by omega)), sm_nn d (k + 1) (fun i a b => Int.mul_nonneg (h1 i (by omega) (by omega)) (by have := hc i (by omega) (by omega); omega))⟩
  have out : ∀ n, py_F mu k (d + 1) mi ct n → (least ≤ n k ∧ n k ≤ most) ∨ (most = cdiv mi (mu k) ∧ most < n k ∧ ct + most ≤ 60) := by
    intro n hn
    obtain ⟨t1, t2⟩ := tail n hn
    obtain ⟨h1, h2, h3⟩ := hn
    have hk0 := h1 k (by omega) (by omega)
    rw [sm_s] at h3
    unfold py_co at h2
    rw [sm_s] at h2
    by_cases e : d = 0
    · subst e
      rw [sm_0] at h2 h3
      have g : cdiv mi (mu k) ≤ n k := cdiv_le (by omega) (by omega)
      rw [if_pos rfl] at hleast
      split at hmost
      · left; omega
      · by_cases e2 : n k ≤ most
        · left; omega
        · right; omega
    · rw [if_neg e] at hleast
      split at hmost
      · left; omega
      · by_cases e2 : n k ≤ most
        · left; omega
        · right; omega
  -- the choice of most of this kind and none of those behind it
  have alone : most = cdiv mi (mu k) → ct + most ≤ 60 → (py_F mu k (d + 1) mi ct (fun i => if i = k then most else 0) ∧ least ≤ (fun i => if i = k then most else 0) k ∧ (fun i => if i = k then most else 0) k ≤ most) ∧ py_co c (fun i => if i = k then most else 0) k (d + 1) = most * c k ∧ sm (fun i => if i = k then most else 0) k (d + 1) = most := by
    intro he h60
    have hm0 : 0 ≤ most := by rw [he]; exact cdiv_nn (by omega) (by omega)
    have z1 : ∀ f : Nat → Int, sm (fun i => (if i = k then most else 0) * f i) (k + 1) d = 0 := fun f => sm_zero d (k + 1) (fun i a b => by rw [if_neg (by omega), Int.zero_mul])
    have z2 : sm (fun i => if i = k then most else 0) (k + 1) d = 0 := sm_zero d (k + 1) (fun i a b => by rw [if_neg (by omega)])
    have e1 : ∀ f : Nat → Int, py_co f (fun i => if i = k then most else 0) k (d + 1) = most * f k := by
      intro f
      unfold py_co
      rw [sm_s, z1]
      show (if k = k then most else 0) * f k + 0 = most * f k
      rw [if_pos rfl, Int.add_zero]
    have e2 : sm (fun i => if i = k then most else 0) k (d + 1) = most := by
      rw [sm_s, z2]
      show (if k = k then most else 0) + 0 = most
      rw [if_pos rfl, Int.add_zero]
    refine ⟨⟨⟨fun i _ _ => ?_, ?_, ?_⟩, ?_, ?_⟩, e1 c, e2⟩
    · show 0 ≤ if i = k then most else 0
      split <;> omega
    · rw [e1, he]
      exact cdiv_mul (by omega)
    · rw [e2]; exact h60
    · show least ≤ if k = k then most else 0
      rw [if_pos rfl]
      split at hleast <;> omega
    · show (if k = k then most else 0) ≤ most
      rw [if_pos rfl]
      exact Int.le_refl _
  have dear : ∀ n, py_F mu k (d + 1) mi ct n → most < n k → most * c k < py_co c n k (d + 1) := by
    intro n hn hlt
    obtain ⟨t1, t2⟩ := tail n hn
    have e : py_co c n k (d + 1) = n k * c k + py_co c n (k + 1) d := rfl
    have g := Int.mul_lt_mul_of_pos_right hlt (show 0 < c k by omega)
    omega
  rcases h with ⟨rfl, rfl, rfl, h⟩ | ⟨n, hF, e1, e2, e3, hb, h⟩
  · refine Or.inl ⟨rfl, rfl, rfl, fun n hn => ?_⟩
    rcases out n hn with g | ⟨g1, g2, g3⟩
    · exact h n ⟨hn, g⟩
    · obtain ⟨a1, a2, a3⟩ := alone g1 g3
      have b1 := h _ a1
      have b2 := dear n hn g2
      rw [a2, a3] at b1
      unfold py_bt at *
      omega
  · refine Or.inr ⟨n, hF.1, e1, e2, e3, hb, fun n' hn' => ?_⟩
    rcases out n' hn' with g | ⟨g1, g2, g3⟩
    · exact h n' ⟨hn', g⟩
    · obtain ⟨a1, a2, a3⟩ := alone g1 g3
      have b1 := (h _ a1).1
      have b2 := dear n' hn' g2
      rw [a2, a3] at b1
      unfold py_bt at *
      exact ⟨by omega, fun _ _ => by omega⟩
end
section
-- THE PLAN: pieces p .. p + d - 1 of sizes sz into B bars with fr free in each
def pl_X (sz : Nat → Int) (B : Nat) (a : Nat → Nat) : Nat → Nat → (Nat → Int) → Prop
  | _, 0, _ => True
  | p, d + 1, fr => a p < B ∧ sz p ≤ fr (a p) ∧ pl_X sz B a (p + 1) d (ut fr (a p) (fr (a p) - sz p))
def pl_fr (sz : Nat → Int) (a : Nat → Nat) : Nat → Nat → (Nat → Int) → (Nat → Int)
  | _, 0, fr => fr
  | p, d + 1, fr => pl_fr sz a (p + 1) d (ut fr (a p) (fr (a p) - sz p))
/-- into bars of lesser numbers -/
def pl_lx (a a' : Nat → Nat) : Nat → Nat → Prop
  | _, 0 => True
  | p, d + 1 => a p < a' p ∨ (a p = a' p ∧ pl_lx a a' (p + 1) d)
theorem pl_X_s {sz : Nat → Int} {B : Nat} {a : Nat → Nat} {p d : Nat} {fr : Nat → Int} : pl_X sz B a p (d + 1) fr ↔ a p < B ∧ sz p ≤ fr (a p) ∧ pl_X sz B a (p + 1) d (ut fr (a p) (fr (a p) - sz p)) := Iff.rfl
theorem pl_fr_s {sz : Nat → Int} {a : Nat → Nat} {p d : Nat} {fr : Nat → Int} : pl_fr sz a p (d + 1) fr = pl_fr sz a (p + 1) d (ut fr (a p) (fr (a p) - sz p)) := rfl
theorem pl_X_congr {sz : Nat → Int} {B : Nat} {a a' : Nat → Nat} : ∀ (d p : Nat) (fr : Nat → Int), (∀ i, p ≤ i → i < p + d → a i = a' i) → pl_X sz B a p d fr → pl_X sz B a' p d fr := by
  intro d
  induction d with
  | zero => intro p fr _ _; exact trivial
  | succ d ih =>
    intro p fr h hx
    obtain ⟨h1, h2, h3⟩ := hx
    have e := h p (by omega) (by omega)
    refine ⟨by rw [← e]; exact h1, by rw [← e]; exact h2, ?_⟩
    rw [← e]
    exact ih (p + 1) _ (fun i a b => h i (by omega) (by omega)) h3
theorem pl_fr_congr {sz : Nat → Int} {a a' : Nat → Nat} : ∀ (d p : Nat) (fr : Nat → Int), (∀ i, p ≤ i → i < p + d → a i = a' i) → pl_fr sz a p d fr = pl_fr sz a' p d fr := by
  intro d
  induction d with
  | zero => intro p fr _; rfl
  | succ d ih =>
    intro p fr h
    rw [pl_fr_s, pl_fr_s, h p (by omega) (by omega), ih (p + 1) _ (fun i a b => h i (by omega) (by omega))]
theorem pl_lx_congr {a a' b b' : Nat → Nat} : ∀ (d p : Nat), (∀ i, p ≤ i → i < p + d → a i = b i ∧ a' i = b' i) → pl_lx a a' p d → pl_lx b b' p d := by
  intro d
  induction d with
  | zero => intro p _ _; exact trivial
  | succ d ih =>
    intro p h hl
    obtain ⟨h1, h2⟩ := h p (by omega) (by omega)
    rcases hl with hl | ⟨hl, hr⟩
    · exact Or.inl (by omega)
    · exact Or.inr ⟨by omega, ih (p + 1) (fun i h1 h2 => h i (by omega) (by omega)) hr⟩
theorem pl_lx_anti {a a' : Nat → Nat} : ∀ (d p : Nat), pl_lx a a' p d → pl_lx a' a p d → ∀ i, p ≤ i → i < p + d → a i = a' i := by
  intro d
  induction d with
  | zero => intro p _ _ i h1 h2; omega
  | succ d ih =>
    intro p h1 h2 i g1 g2
    rcases h1 with h1 | ⟨h1, h1'⟩
    · rcases h2 with h2 | ⟨h2, h2'⟩ <;> omega
    · rcases h2 with h2 | ⟨h2, h2'⟩
      · omega
      · by_cases e : i = p
        · subst e; exact h1
        · exact ih (p + 1) h1' h2' i (by omega) (by omega)
/-- two bars change their places -/
def pl_sw (e b x : Nat) : Nat := if x = e then b else if x = b then e else x
theorem pl_sw_sw (e b x : Nat) : pl_sw e b (pl_sw e b x) = x := by
  unfold pl_sw
  by_cases h1 : x = e
  · by_cases h3 : b = e
    · simp [h1, h3]
    · simp [h1, h3]
  · by_cases h2 : x = b
    · simp [h1, h2]
    · simp [h1, h2]
theorem pl_sw_lt {e b x B : Nat} (he : e < B) (hb : b < B) (hx : x < B) : pl_sw e b x < B := by
  unfold pl_sw
  split
  · exact hb
  · split <;> omega
theorem pl_ut_sw (fr : Nat → Int) (e b x : Nat) (v : Int) : (fun y => ut fr x v (pl_sw e b y)) = ut (fun y => fr (pl_sw e b y)) (pl_sw e b x) v := by
  funext y
  by_cases h : y = pl_sw e b x
  · subst h
    rw [ut_s, pl_sw_sw, ut_s]
  · have h2 : pl_sw e b y ≠ x := fun q => h (by rw [← q, pl_sw_sw])
    rw [ut_n _ _ h, ut_n _ _ h2]
theorem pl_X_sw {sz : Nat → Int} {B e b : Nat} (he : e < B) (hb : b < B) {a : Nat → Nat} : ∀ (d p : Nat) (fr : Nat → Int), pl_X sz B a p d fr → pl_X sz B (fun i => pl_sw e b (a i)) p d (fun y => fr (pl_sw e b y)) := by
  intro d
  induction d with
  | zero => intro p fr _; exact trivial
  | succ d ih =>
    intro p fr h
    obtain ⟨h1, h2, h3⟩ := h
    refine ⟨pl_sw_lt he hb h1, by show sz p ≤ fr (pl_sw e b (pl_sw e b (a p))); rw [pl_sw_sw]; exact h2, ?_⟩
    have h4 := ih (p + 1) _ h3
    rw [pl_ut_sw] at h4
    show pl_X sz B _ (p + 1) d (ut (fun y => fr (pl_sw e b y)) (pl_sw e b (a p)) (fr (pl_sw e b (pl_sw e b (a p))) - sz p))
    rw [pl_sw_sw]
    exact h4
/-- a bar with as much free as another does what the other does -/
theorem pl_like {sz : Nat → Int} {B e b p d : Nat} {fr : Nat → Int} {x : Int} (he : e < B) (hb : b < B) (hf : fr e = fr b) (h : ∃ a, pl_X sz B a p d (ut fr b (fr b - x))) : ∃ a, pl_X sz B a p d (ut fr e (fr e - x)) := by
  obtain ⟨a, ha⟩ := h
  refine ⟨fun i => pl_sw e b (a i), ?_⟩
  have h1 := pl_X_sw he hb d p _ ha
  rw [pl_ut_sw] at h1
  have e1 : (fun y => fr (pl_sw e b y)) = fr := by
    funext y
    unfold pl_sw
    split
    · rename_i q; rw [q, hf]
    · split
      · rename_i q; rw [q, hf]
      · rfl
  have e2 : pl_sw e b b = e := by
    unfold pl_sw
    split
    · rename_i q; exact q
    · rw [if_pos rfl]
  rw [e1, e2, ← hf] at h1
  exact h1
theorem sm_one {f g : Nat → Int} : ∀ (d k j : Nat), k ≤ j → j < k + d → (∀ i, k ≤ i → i < k + d → i ≠ j → f i = g i) → sm f k d = sm g k d + (f j - g j) := by
  intro d
  induction d with
  | zero => intro k j h1 h2; omega
  | succ d ih =>
    intro k j h1 h2 h
    rw [sm_s, sm_s]
    by_cases e : j = k
    · subst e
      rw [sm_congr d (j + 1) (fun i a b => h i (by omega) (by omega) (by omega))]
      omega
    · rw [h k (by omega) (by omega) (by omega), ih (k + 1) j (by omega) (by omega) (fun i a b c => h i (by omega) (by omega) c)]
      omega
/-- what is free in the bars that still hold the least size -/
def pl_us (fr : Nat → Int) (s : Int) (B : Nat) : Int := sm (fun b => if s ≤ fr b then fr b else 0) 0 B
theorem pl_load {sz : Nat → Int} {B : Nat} {a : Nat → Nat} {s : Int} : ∀ (d p : Nat) (fr : Nat → Int), (∀ i, p ≤ i → i < p + d → s ≤ sz i) → (∀ b, b < B → 0 ≤ fr b) → pl_X sz B a p d fr → sm sz p d ≤ pl_us fr s B := by
  intro d
  induction d with
  | zero =>
    intro p fr _ h0 _
    rw [sm_0]
    refine sm_nn B 0 (fun i _ hi => ?_)
    show 0 ≤ if s ≤ fr i then fr i else 0
    split
    · exact h0 i (by omega)
    · exact Int.le_refl 0
  | succ d ih =>
    intro p fr hs h0 h
    obtain ⟨h1, h2, h3⟩ := h
    have hsp := hs p (by omega) (by omega)
    have h4 := ih (p + 1) _ (fun i a b => hs i (by omega) (by omega)) (fun b hb => by
      by_cases e : b = a p
      · subst e; rw [ut_s]; omega
      · rw [ut_n _ _ e]; exact h0 b hb) h3
    rw [sm_s]
    have h5 : pl_us (ut fr (a p) (fr (a p) - sz p)) s B = pl_us fr s B + ((if s ≤ fr (a p) - sz p then fr (a p) - sz p else 0) - (if s ≤ fr (a p) then fr (a p) else 0)) := by
      unfold pl_us
      rw [sm_one (f := fun b => if s ≤ ut fr (a p) (fr (a p) - sz p) b then ut fr (a p) (fr (a p) - sz p) b else 0) (g := fun b => if s ≤ fr b then fr b else 0) B 0 (a p) (by omega) (by omega) (fun i _ _ hne => by
        show (if s ≤ ut fr (a p) (fr (a p) - sz p) i then ut fr (a p) (fr (a p) - sz p) i else 0) = if s ≤ fr i then fr i else 0
        rw [ut_n _ _ hne])]
      show _ + ((if s ≤ ut fr (a p) (fr (a p) - sz p) (a p) then ut fr (a p) (fr (a p) - sz p) (a p) else 0) - _) = _
      rw [ut_s]
    rw [if_pos (by omega : s ≤ fr (a p))] at h5
    split at h5 <;> omega
/-- every piece into a bar of its own -/
theorem pl_own {sz : Nat → Int} {B : Nat} : ∀ (d p : Nat) (fr : Nat → Int), p + d ≤ B → (∀ i, p ≤ i → i < p + d → sz i ≤ fr i) → pl_X sz B (fun i => i) p d fr := by
  intro d
  induction d with
  | zero => intro p fr _ _; exact trivial
  | succ d ih =>
    intro p fr hB h
    exact ⟨by show p < B; omega, h p (by omega) (by omega), ih (p + 1) _ (by omega) (fun i a b => by rw [ut_n _ _ (show i ≠ p by omega)]; exact h i (by omega) (by omega))⟩
theorem pl_more {sz : Nat → Int} {B B' : Nat} (hB : B ≤ B') {a : Nat → Nat} : ∀ (d p : Nat) (fr : Nat → Int), pl_X sz B a p d fr → pl_X sz B' a p d fr := by
  intro d
  induction d with
  | zero => intro p fr _; exact trivial
  | succ d ih =>
    intro p fr h
    exact ⟨Nat.lt_of_lt_of_le h.1 hB, h.2.1, ih (p + 1) _ h.2.2⟩
/-- the answer of the search for bars of the pieces p .. p + d - 1: found, the first such choice, what is free then, who is where -/
def pl_R (sz : Nat → Int) (B p d : Nat) (fr : Nat → Int) (ba : Nat → Int) (r : Int) (fr' ba' : Nat → Int) : Prop :=
  (r = 1 ∧ ∃ a, pl_X sz B a p d fr ∧ (∀ a', pl_X sz B a' p d fr → pl_lx a a' p d) ∧ fr' = pl_fr sz a p d fr ∧ ∀ i, i < p + d → ba' i = if p ≤ i then (a i : Int) else ba i) ∨
  (r = 0 ∧ (¬ ∃ a, pl_X sz B a p d fr) ∧ fr' = fr ∧ ∀ i, i < p → ba' i = ba i)
theorem pl_R_0 {sz : Nat → Int} {B p : Nat} {fr ba : Nat → Int} : pl_R sz B p 0 fr ba 1 fr ba := by
  refine Or.inl ⟨rfl, fun _ => 0, trivial, fun _ _ => trivial, rfl, fun i hi => ?_⟩
  rw [if_neg (by omega)]
theorem pl_R_no {sz : Nat → Int} {B p d : Nat} {fr ba : Nat → Int} (h : ¬ ∃ a, pl_X sz B a p d fr) : pl_R sz B p d fr ba 0 fr ba := Or.inr ⟨rfl, h, rfl, fun _ _ => rfl⟩
/-- the first bar that will do -/
theorem pl_R_yes {sz : Nat → Int} {B p d b : Nat} {fr ba fr' ba' : Nat → Int} (hb : b < B) (hs : sz p ≤ fr b) (hno : ∀ b', b' < b → ¬ (sz p ≤ fr b' ∧ ∃ a, pl_X sz B a (p + 1) d (ut fr b' (fr b' - sz p))))
    (h : pl_R sz B (p + 1) d (ut fr b (fr b - sz p)) (ut ba p b) 1 fr' ba') : pl_R sz B p (d + 1) fr ba 1 fr' ba' := by
  rcases h with ⟨-, a, h1, h2, h3, h4⟩ | ⟨h, -⟩
  · have ag : ∀ i, p + 1 ≤ i → i < p + 1 + d → ut a p b i = a i := fun i x y => ut_n a b (by omega)
    have e : ut a p b p = b := ut_s a p b
    refine Or.inl ⟨rfl, ut a p b, ⟨by rw [e]; exact hb, by rw [e]; exact hs, ?_⟩, fun a' ha' => ?_, ?_, fun i hi => ?_⟩
    · rw [e]
      exact pl_X_congr d (p + 1) _ (fun i x y => (ag i x y).symm) h1
    · obtain ⟨g1, g2, g3⟩ := ha'
      rcases Nat.lt_trichotomy (a' p) b with q | q | q
      · exact absurd ⟨g2, a', g3⟩ (hno (a' p) q)
      · refine Or.inr ⟨by rw [e, q], ?_⟩
        rw [q] at g3
        exact pl_lx_congr d (p + 1) (fun i x y => ⟨(ag i x y).symm, rfl⟩) (h2 a' g3)
      · exact Or.inl (by rw [e]; exact q)
    · rw [pl_fr_s, e, pl_fr_congr d (p + 1) _ ag]
      exact h3
    · rw [h4 i (by omega)]
      by_cases e1 : i = p
      · subst e1
        rw [if_neg (by omega), if_pos (by omega), e, ut_s]
      · rw [ut_n a b e1, ut_n ba _ e1]
        by_cases e2 : p + 1 ≤ i
        · rw [if_pos e2, if_pos (by omega)]
        · rw [if_neg e2, if_neg (by omega)]
  · exact absurd h (by decide)
theorem pl_R_nobar {sz : Nat → Int} {B p d : Nat} {fr : Nat → Int} (hno : ∀ b', b' < B → ¬ (sz p ≤ fr b' ∧ ∃ a, pl_X sz B a (p + 1) d (ut fr b' (fr b' - sz p)))) : ¬ ∃ a, pl_X sz B a p (d + 1) fr := by
  rintro ⟨a, h1, h2, h3⟩
  exact hno (a p) h1 ⟨h2, a, h3⟩
theorem pl_R_ba {sz : Nat → Int} {B p d : Nat} {fr ba ba1 fr' ba' : Nat → Int} {r : Int} (hb : ∀ i, i < p → ba1 i = ba i) (h : pl_R sz B p d fr ba1 r fr' ba') : pl_R sz B p d fr ba r fr' ba' := by
  rcases h with ⟨h0, a, h1, h2, h3, h4⟩ | ⟨h0, h1, h2, h3⟩
  · refine Or.inl ⟨h0, a, h1, h2, h3, fun i hi => ?_⟩
    rw [h4 i hi]
    split
    · rfl
    · exact hb i (by omega)
  · exact Or.inr ⟨h0, h1, h2, fun i hi => (h3 i hi).trans (hb i hi)⟩
theorem pl_fr_bd {sz : Nat → Int} {B : Nat} {a : Nat → Nat} {M : Int} : ∀ (d p : Nat) (fr : Nat → Int), (∀ i, p ≤ i → i < p + d → 0 ≤ sz i) → (∀ b, b < B → 0 ≤ fr b ∧ fr b ≤ M) → pl_X sz B a p d fr → ∀ b, b < B → 0 ≤ pl_fr sz a p d fr b ∧ pl_fr sz a p d fr b ≤ M := by
  intro d
  induction d with
  | zero => intro p fr _ h _; exact h
  | succ d ih =>
    intro p fr hs h hx
    obtain ⟨h1, h2, h3⟩ := hx
    rw [pl_fr_s]
    refine ih (p + 1) _ (fun i x y => hs i (by omega) (by omega)) (fun b hb => ?_) h3
    have q1 := h b hb
    have q2 := hs p (by omega) (by omega)
    by_cases e : b = a p
    · subst e; rw [ut_s]; omega
    · rw [ut_n _ _ e]; exact q1
end
section
-- THE BEST PURCHASE of K kinds for a need N
def py_Best (mu c : Nat → Int) (K : Nat) (N : Int) (n : Nat → Int) : Prop := py_F mu 0 K N 0 n ∧ ∀ n', py_F mu 0 K N 0 n' → ¬ py_bt (py_co c n' 0 K) (sm n' 0 K) (py_co c n 0 K) (sm n 0 K) ∧ (py_co c n' 0 K = py_co c n 0 K → sm n' 0 K = sm n 0 K → py_lx n n' 0 K)
theorem py_Best_eq {mu c : Nat → Int} {K : Nat} {N : Int} {n n' : Nat → Int} (h : py_Best mu c K N n) (h' : py_Best mu c K N n') : py_co c n 0 K = py_co c n' 0 K ∧ ∀ i, i < K → n i = n' i := by
  have a1 := (h.2 n' h'.1).1
  have a2 := (h'.2 n h.1).1
  unfold py_bt at a1 a2
  have e1 : py_co c n' 0 K = py_co c n 0 K := by omega
  have e2 : sm n' 0 K = sm n 0 K := by omega
  have b1 := (h.2 n' h'.1).2 e1 e2
  have b2 := (h'.2 n h.1).2 e1.symm e2.symm
  exact ⟨e1.symm, fun i hi => py_lx_anti K 0 b1 b2 i (by omega) (by omega)⟩
/-- what is known of a price to begin with: of so many of one kind, or more than all -/
def py_One (mu c : Nat → Int) (K : Nat) (N bp : Int) : Prop := bp = 6000001 ∨ ∃ i, i < K ∧ cdiv N (mu i) ≤ 60 ∧ bp = cdiv N (mu i) * c i
theorem py_cost_le {mu c : Nat → Int} {K : Nat} {N : Int} {n : Nat → Int} (hc : ∀ i, i < K → c i ≤ 100000) (h : py_F mu 0 K N 0 n) : py_co c n 0 K ≤ 6000000 := by
  obtain ⟨h1, -, h3⟩ := h
  have g : py_co c n 0 K ≤ sm n 0 K * 100000 := by
    rw [← sm_mul]
    exact sm_le K 0 (fun i a b => Int.mul_le_mul_of_nonneg_left (hc i (by omega)) (h1 i a b))
  omega
theorem py_one_F {mu : Nat → Int} {K i : Nat} {N v : Int} (hi : i < K) (hv : 0 ≤ v) (hN : N ≤ v * mu i) (h60 : v ≤ 60) (c : Nat → Int) : py_F mu 0 K N 0 (fun j => if j = i then v else 0) ∧ py_co c (fun j => if j = i then v else 0) 0 K = v * c i ∧ sm (fun j => if j = i then v else 0) 0 K = v := by
  have e1 : ∀ f : Nat → Int, py_co f (fun j => if j = i then v else 0) 0 K = v * f i := by
    intro f
    unfold py_co
    rw [sm_one (f := fun j => (if j = i then v else 0) * f j) (g := fun _ => 0) K 0 i (by omega) (by omega) (fun j _ _ hne => by show (if j = i then v else 0) * f j = 0; rw [if_neg hne, Int.zero_mul]), sm_zero K 0 (fun _ _ _ => rfl)]
    show 0 + ((if i = i then v else 0) * f i - 0) = v * f i
    rw [if_pos rfl]
    omega
  have e2 : sm (fun j => if j = i then v else 0) 0 K = v := by
    rw [sm_one (f := fun j => if j = i then v else 0) (g := fun _ => 0) K 0 i (by omega) (by omega) (fun j _ _ hne => by show (if j = i then v else 0) = 0; rw [if_neg hne]), sm_zero K 0 (fun _ _ _ => rfl)]
    show 0 + ((if i = i then v else 0) - 0) = v
    rw [if_pos rfl]
    omega
  refine ⟨⟨fun j _ _ => ?_, ?_, ?_⟩, e1 c, e2⟩
  · show 0 ≤ if j = i then v else 0
    split <;> omega
  · rw [e1]; exact hN
  · rw [e2]; omega
/-- what the whole search has found -/
theorem py_end {mu c : Nat → Int} {K : Nat} {N bp bp1 bc1 : Int} {bn bn1 : Nat → Int} (hN : 0 ≤ N) (hK : K ≤ 4) (hmu : ∀ i, i < K → 1 ≤ mu i) (hc : ∀ i, i < K → 1 ≤ c i ∧ c i ≤ 100000) (hone : py_One mu c K N bp)
    (h : py_R c 0 K 0 0 (fun _ => 0) (py_F mu 0 K N 0) bp 61 bn bp1 bc1 bn1) :
    (bp1 = 6000001 ∧ ∀ n, ¬ py_F mu 0 K N 0 n) ∨ (∃ n, py_Best mu c K N n ∧ bp1 = py_co c n 0 K ∧ bp1 ≤ 6000000 ∧ ∀ i, i < K → bn1 i = n i) := by
  rcases h with ⟨rfl, -, -, h⟩ | ⟨n, hF, e1, e2, e3, -, h⟩
  · left
    have hb : bp1 = 6000001 := by
      rcases hone with e | ⟨i, hi, h60, e⟩
      · exact e
      · obtain ⟨g1, g2, g3⟩ := py_one_F (mu := mu) hi (cdiv_nn (by have := hmu i hi; omega) hN) (cdiv_mul (by have := hmu i hi; omega)) h60 c
        have g4 := h _ g1
        rw [g2, g3] at g4
        unfold py_bt at g4
        omega
    refine ⟨hb, fun n hn => ?_⟩
    have g := h n hn
    have g2 := py_cost_le (c := c) (fun i hi => (hc i hi).2) hn
    unfold py_bt at g
    omega
  · right
    have g2 := py_cost_le (c := c) (fun i hi => (hc i hi).2) hF
    refine ⟨n, ⟨hF, fun n' hn' => ?_⟩, by omega, by omega, fun i hi => ?_⟩
    · obtain ⟨h1, h2⟩ := h n' hn'
      rw [e1, e2] at h1 h2
      refine ⟨?_, fun q1 q2 => h2 (by omega) (by omega)⟩
      unfold py_bt at h1 ⊢
      omega
    · rw [e3 i (by omega), if_pos ⟨by omega, by omega⟩]
/-- the cheapest for what it holds, of this kind and those behind it -/
theorem py_ratio {c1 m1 c2 m2 ci mi : Int} (h1 : 0 < m1) (h2 : 0 < m2) (h : c2 * m1 ≤ c1 * m2) (hi : c1 * mi ≤ ci * m1) (hmi : 0 ≤ mi) : c2 * mi ≤ ci * m2 := by
  have a : c2 * m1 * mi ≤ c1 * m2 * mi := Int.mul_le_mul_of_nonneg_right h hmi
  have b : c1 * mi * m2 ≤ ci * m1 * m2 := Int.mul_le_mul_of_nonneg_right hi (by omega)
  have e1 : c2 * m1 * mi = (c2 * mi) * m1 := by rw [Int.mul_assoc, Int.mul_comm m1, ← Int.mul_assoc]
  have e2 : c1 * m2 * mi = c1 * mi * m2 := by rw [Int.mul_assoc, Int.mul_comm m2, ← Int.mul_assoc]
  have e3 : ci * m1 * m2 = (ci * m2) * m1 := by rw [Int.mul_assoc, Int.mul_comm m1, ← Int.mul_assoc]
  have d : (c2 * mi) * m1 ≤ (ci * m2) * m1 := by rw [← e1, ← e3]; exact Int.le_trans a (by rw [e2]; exact b)
  exact Int.le_of_mul_le_mul_right d h1
end
section
theorem sm_snoc (f : Nat → Int) : ∀ (d k : Nat), sm f k (d + 1) = sm f k d + f (k + d) := by
  intro d
  induction d with
  | zero => intro k; rw [sm_s, sm_0, sm_0, Nat.add_zero]; omega
  | succ d ih => intro k; rw [sm_s, ih, sm_s, show k + 1 + d = k + (d + 1) by omega]; omega
end
section
theorem cdiv_bd {a b : Int} (hb : 0 < b) (ha : 0 ≤ a) : 0 ≤ cdiv a b ∧ cdiv a b ≤ a := by
  refine ⟨cdiv_nn hb ha, cdiv_le hb ?_⟩
  have h := Int.mul_le_mul_of_nonneg_left (show (1 : Int) ≤ b by omega) ha
  omega
theorem cdiv_ub {a b : Int} (hb : 0 < b) : cdiv a b * b ≤ a + b - 1 := by
  unfold cdiv
  have h := Int.emod_add_mul_ediv (a + b - 1) b
  have h1 := Int.emod_nonneg (a + b - 1) (show b ≠ 0 by omega)
  rw [Int.mul_comm] at h
  omega
theorem mul_bd {a b A B : Int} (ha : 0 ≤ a) (hA : a ≤ A) (hb : 0 ≤ b) (hB : b ≤ B) : 0 ≤ a * b ∧ a * b ≤ A * B :=
  ⟨Int.mul_nonneg ha hb, Int.le_trans (Int.mul_le_mul_of_nonneg_right hA hb) (Int.mul_le_mul_of_nonneg_left hB (by omega))⟩
theorem ut_ut {α : Type} (g : Nat → α) (k : Nat) (v w : α) : ut (ut g k v) k w = ut g k w := by
  funext j
  unfold ut
  by_cases h : j = k <;> simp [h]
theorem ut_id {α : Type} (g : Nat → α) (k : Nat) {v : α} (h : g k = v) : ut g k v = g := by
  funext j
  unfold ut
  by_cases hj : j = k
  · simp [hj, h]
  · simp [hj]
/-- what a shelf knows of its kinds -/
def ShOK (Kn : Nat) (mu pr bg ch : Nat → Int) : Prop := Kn ≤ 4 ∧ (∀ i, i < Kn → 1 ≤ mu i ∧ mu i ≤ 1000000000 ∧ 1 ≤ pr i ∧ pr i ≤ 100000) ∧ ∀ k, k < Kn → ∃ b c : Nat, bg k = b ∧ ch k = c ∧ b < Kn ∧ c < Kn ∧ (∀ i, k ≤ i → i < Kn → mu i ≤ mu b) ∧ ∀ i, k ≤ i → i < Kn → pr c * mu i ≤ pr i * mu c
theorem py_R_congr {c : Nat → Int} {k d : Nat} {co ct : Int} {tr : Nat → Int} {F G : (Nat → Int) → Prop} {bp bc bp1 bc1 : Int} {bn bn1 : Nat → Int} (hE : ∀ n, F n ↔ G n) (h : py_R c k d co ct tr F bp bc bn bp1 bc1 bn1) : py_R c k d co ct tr G bp bc bn bp1 bc1 bn1 := by
  have e : F = G := funext fun n => propext (hE n)
  rw [← e]
  exact h
end
section
theorem W.num {p : Program} {l : Launch} {e : Env} {R : Room} {s : State} {m : MethodId} {args : Array Value} {below : List Frame} {meth : Method} {c : Code} {H : Heap} {locs : List Loc} {cells slots c1 s1 : Nat} {Q : State → Prop} {g : JFrame} (h1 : cells = c1) (h2 : slots = s1) (k : W p l e R s m args below meth c H locs c1 s1 Q g) : W p l e R s m args below meth c H locs cells slots Q g := by
  subst h1
  subst h2
  exact k
/-- an array's contents matter within its length alone -/
theorem arr_congr {n : Nat} {f g : Nat → Int} (h : ∀ j, j < n → f j = g j) (cA : ClassId) : vp_cell cA (n, .inl (iA f)) = vp_cell cA (n, .inl (iA g)) := by
  show arrV cA n (fun j => .int (iI (f j))) = arrV cA n (fun j => .int (iI (g j)))
  unfold arrV
  congr 2
  funext j
  show Value.int (iI (f j.val)) = Value.int (iI (g j.val))
  rw [h j.val j.isLt]
theorem va_P_arr {D : va_G} {cl : List vw_C} {ws : va_W} {H : Heap} {k a n : Nat} {cA : ClassId} {f g : Nat → Int} (hP : va_P D cl ws H) (hk : ws[k]? = some (a, .inl (cA, n, .inl (iA f)))) (h : ∀ j, j < n → f j = g j) : va_P D cl (ws.set k (a, .inl (cA, n, .inl (iA g)))) H := by
  intro i q hq
  by_cases e : i = k
  · subst e
    have hl : i < ws.length := (List.getElem?_eq_some_iff.mp hk).1
    rw [List.getElem?_set_self hl] at hq
    cases hq
    have h1 := hP i _ hk
    show H[a]? = some (vp_cell cA (n, .inl (iA g)))
    rw [← arr_congr h]
    exact h1
  · rw [List.getElem?_set_ne (Ne.symm e)] at hq
    exact hP i q hq
/-- what a shelf's last search has found for a need -/
def ShF (Kn : Nat) (mu pr : Nat → Int) (N bp : Int) (bn : Nat → Int) : Prop := (bp = 6000001 ∧ ∀ n, ¬ py_F mu 0 Kn N 0 n) ∨ (∃ n, py_Best mu pr Kn N n ∧ bp = py_co pr n 0 Kn ∧ bp ≤ 6000000 ∧ ∀ i, i < Kn → bn i = n i)
def ShI (Kn : Nat) (mu pr bg ch bn : Nat → Int) (bp bc sf : Int) : Prop := ShOK Kn mu pr bg ch ∧ (0 ≤ bp ∧ bp ≤ 6000001) ∧ (0 ≤ bc ∧ bc ≤ 61) ∧ (sf = -1 ∨ (0 ≤ sf ∧ sf ≤ 100000000000 ∧ ShF Kn mu pr sf bp bn))
def flz (g : Nat → Int) (v : Int) (i : Nat) : Nat → Int := fun j => if j < i then v else g j
theorem flz_0 (g : Nat → Int) (v : Int) : flz g v 0 = g := by funext j; simp [flz]
theorem flz_s (g : Nat → Int) (v : Int) (i : Nat) : ut (flz g v i) i v = flz g v (i + 1) := by
  funext j
  unfold ut flz
  by_cases h1 : j = i
  · subst h1; simp
  · by_cases h2 : j < i
    · rw [if_neg h1, if_pos h2, if_pos (by omega)]
    · rw [if_neg h1, if_neg h2, if_neg (by omega)]
/-- no more cells have come than were counted -/
theorem W.sz {p : Program} {l : Launch} {e : Env} {R : Room} {s : State} {m : MethodId} {args : Array Value} {below : List Frame} {meth : Method} {c : Code} {H : Heap} {locs : List Loc} {cells slots : Nat} {Q : State → Prop} {g : JFrame} (k : H.size ≤ s.heap.size + cells → W p l e R s m args below meth c H locs cells slots Q g) : W p l e R s m args below meth c H locs cells slots Q g := fun T hT X => k (by rw [← hT]; exact X.heapSize) T hT X
theorem sm_const (x : Int) : ∀ (d k : Nat), sm (fun _ => x) k d = d * x := by
  intro d
  induction d with
  | zero => intro k; rw [sm_0]; simp
  | succ d ih => intro k; rw [sm_s, ih, Int.natCast_add, Int.add_mul]; omega
end
section
-- class Wall: its methods
/-- a wall at q: area, openings, layers; the thickness of each stuff -/
abbrev wlW (K : KG) (q : Nat) (ar oc lc : Int) (th : Nat → Int) : va_W := [(q, .inr (1, [.int (iI ar), .int (iI oc), .int (iI lc), .ref (q + 1)])), (q + 1, .inl (kI K, 10, .inl (iA th)))]
abbrev rmW_wholeThickness : Room := { frames := 0, cells := 0, slots := 0, locals := 0 }
set_option maxHeartbeats 4000000 in
set_option maxRecDepth 100000 in
/-- Wall.wholeThickness(): the sum of the thicknesses -/
theorem c_W_wholeThickness (l : Launch) (K : KG) (q : Nat) (ar oc lc : Int) (th : Nat → Int) : Ct l yW_wholeThickness kW_wholeThickness rmW_wholeThickness (PC K [.ref q] (fun H => va_P (kD K) vcl [(q, .inr (1, [.int (iI ar), .int (iI oc), .int (iI lc), .ref (q + 1)])), (q + 1, .inl (kI K, 10, .inl (iA th)))] H)) (QI (fun r _ => r = sm th 0 10)) (fun _ => False) := by
  refine ct_of (by decide) (Or.inl ⟨rfl, rfl⟩) ?_
  intro p e s m args below meth c B0 hP0
  obtain ⟨hx, hb, hr, hml, hown, hlocks, hnm, htab⟩ := B0
  obtain ⟨ha, ⟨hT, hK⟩, hB⟩ := hP0
  have hl := lv_entry ([.ref q]) (n := 3) (Nat.le_of_ble_eq_true rfl)
  obtain ⟨Q, hQ⟩ : ∃ Q, Q = XQ below (QI (fun r _ => r = sm th 0 10)) args s rmW_wholeThickness.cells rmW_wholeThickness.slots (fun _ => False) := ⟨_, rfl⟩
  rw [← hQ, ha, lg_entry_eq]
  rw [ha] at hQ
  generalize (lg_sl ([.ref q]) ++ List.replicate (3 - (lg_sl ([.ref q])).length) Slot.unset).toArray = ls at hl ⊢
  generalize ([.ref q] : List Value).toArray = args at hQ ⊢
  have hts : ∀ w ∈ TW, w.before args s = true := fun w h => hT w h args
  have hl : lv_has ls 3 [(0, .ref q)] := hl
  obtain ⟨A, hAe⟩ : ∃ A : Addr → Prop, A = (fun _ => False) := ⟨_, rfl⟩
  rw [← hAe] at hQ
  have hS : va_S A s.heap s.heap [] := va_S.rf
  have hP : va_P (kD K) vcl [(q, .inr (1, [.int (iI ar), .int (iI oc), .int (iI lc), .ref (q + 1)])), (q + 1, .inl (kI K, 10, .inl (iA th)))] s.heap := hB
  have loop : ∀ (n i : Nat) (acc : Int), 11 ≤ i + n → i ≤ 10 → acc = sm th 0 i → ∀ ls : Array Slot, lv_has ls 3 [(0, .ref q), (1, .int (iI acc)), (2, .int (iI (i : Int)))] → W p l e rmW_wholeThickness s m args below meth c s.heap [] 0 0 Q (F0 m 4 ls []) := by
    intro n
    induction n with
    | zero => intro i acc h1 h2; omega
    | succ n ih =>
      intro i acc h1 h2 h3 ls hl
      refine lv_iload_n hx hb dW_wholeThickness_4 rfl (lv_at hl 2 rfl) ?_
      refine lv_aload_n hx hb dW_wholeThickness_5 rfl (lv_at hl 0 rfl) ?_
      refine va_get (D := kD K) (ci := 1) (v := .ref (q + 1)) (C := RW) (T := FW) (N := 4) hx hb hts jnW hown hK hP 0 rfl rfl 3 (by decide) (hts _ mt_32) (fun _ h9 => h9) rfl dW_wholeThickness_6 ?_
      refine iz_alen hx hb hK hP 1 0 rfl rfl dW_wholeThickness_9 ?_
      refine iz_icmp_ge (tgt := 28) hx hb ⟨by omega, by omega⟩ ⟨by omega, by omega⟩ dW_wholeThickness_10 (by decide) (fun h4 => ?_) (fun h4 => ?_)
      · refine lv_iload_n hx hb dW_wholeThickness_28 rfl (lv_at hl 1 rfl) ?_
        rw [hQ]
        exact iz_iret hx hb hr hlocks (by show acc = sm th 0 10; rw [h3, show i = 10 by omega]) (fun _ h => absurd h List.not_mem_nil) dW_wholeThickness_29
      · refine lv_iload_n hx hb dW_wholeThickness_13 rfl (lv_at hl 1 rfl) ?_
        refine lv_aload_n hx hb dW_wholeThickness_14 rfl (lv_at hl 0 rfl) ?_
        refine va_get (D := kD K) (ci := 1) (v := .ref (q + 1)) (C := RW) (T := FW) (N := 4) hx hb hts jnW hown hK hP 0 rfl rfl 3 (by decide) (hts _ mt_32) (fun _ h9 => h9) rfl dW_wholeThickness_15 ?_
        refine lv_iload_n hx hb dW_wholeThickness_18 rfl (lv_at hl 2 rfl) ?_
        refine iz_iald hx hb hK hP 1 rfl i rfl (by omega) (by omega) dW_wholeThickness_19 ?_
        refine iz_iadd hx hb dW_wholeThickness_20 ?_
        refine lv_istore_n (lv' := [(1, .int (iI (acc + (th i)))), (0, .ref q), (2, .int (iI ((i : Int))))]) hx hb dW_wholeThickness_21 rfl hl (by decide) rfl (fun ls hl => ?_)
        refine iz_iinc (k := 2) (lv' := [(2, .int (iI ((i : Int) + 1))), (1, .int (iI (acc + (th i)))), (0, .ref q)]) hx hb dW_wholeThickness_22 hl rfl (by decide) rfl (fun ls hl => ?_)
        refine lv_goto (tgt := 4) hx hb dW_wholeThickness_25 (by decide) ?_
        exact ih (i + 1) (acc + th i) (by omega) (by omega) (by rw [sm_snoc, Nat.zero_add, h3]) ls (lv_sub hl [2, 1, 0] rfl)
  refine iz_iconst hx hb dW_wholeThickness_0 ?_
  refine lv_istore_n (lv' := [(1, .int (iI 0)), (0, .ref q)]) hx hb dW_wholeThickness_1 rfl hl (by decide) rfl (fun ls hl => ?_)
  refine iz_iconst hx hb dW_wholeThickness_2 ?_
  refine lv_istore_n (lv' := [(2, .int (iI 0)), (1, .int (iI 0)), (0, .ref q)]) hx hb dW_wholeThickness_3 rfl hl (by decide) rfl (fun ls hl => ?_)
  exact loop 11 0 0 (by omega) (by omega) rfl ls (lv_sub hl [2, 1, 0] rfl)
abbrev rmW_init : Room := { frames := 1, cells := 1, slots := 10, locals := 20 }
set_option maxHeartbeats 4000000 in
set_option maxRecDepth 100000 in
/-- Wall() -/
theorem c_W_init (l : Launch) (K : KG) (q : Nat) : Ct l yW_init kW_init rmW_init (PC K [.ref q] (fun H => H.size = q + 1 ∧ va_P (kD K) vcl [(q, .inr (1, [.int (iI 0), .int (iI 0), .int (iI 0), .null]))] H)) (QV (fun H => H.size = q + 2 ∧ va_P (kD K) vcl (wlW K q 0 0 0 (fun _ => 0)) H)) (fun x => q ≤ x) := by
  refine ct_of (by decide) (Or.inl ⟨rfl, rfl⟩) ?_
  intro p e s m args below meth c B0 hP0
  obtain ⟨hx, hb, hr, hml, hown, hlocks, hnm, htab⟩ := B0
  obtain ⟨ha, ⟨hT, hK⟩, hB⟩ := hP0
  have hl := lv_entry ([.ref q]) (n := 1) (Nat.le_of_ble_eq_true rfl)
  obtain ⟨Q, hQ⟩ : ∃ Q, Q = XQ below (QV (fun H => H.size = q + 2 ∧ va_P (kD K) vcl (wlW K q 0 0 0 (fun _ => 0)) H)) args s rmW_init.cells rmW_init.slots (fun x => q ≤ x) := ⟨_, rfl⟩
  rw [← hQ, ha, lg_entry_eq]
  rw [ha] at hQ
  generalize (lg_sl ([.ref q]) ++ List.replicate (1 - (lg_sl ([.ref q])).length) Slot.unset).toArray = ls at hl ⊢
  generalize ([.ref q] : List Value).toArray = args at hQ ⊢
  have hts : ∀ w ∈ TW, w.before args s = true := fun w h => hT w h args
  have hl : lv_has ls 1 [(0, .ref q)] := hl
  obtain ⟨A, hAe⟩ : ∃ A : Addr → Prop, A = (fun x => q ≤ x) := ⟨_, rfl⟩
  rw [← hAe] at hQ
  have hS : va_S A s.heap s.heap [] := va_S.rf
  obtain ⟨hz0, hP⟩ := hB
  have hD : va_D A [(q, .inr (1, [.int (iI 0), .int (iI 0), .int (iI 0), .null]))] := by rw [hAe]; exact va_D_of (by simp) (by simp)
  have hA : ∀ x, s.heap.size ≤ x → A x := fun x hx => by rw [hAe]; show q ≤ x; omega
  refine lv_aload_n hx hb dW_init_0 rfl (lv_at hl 0 rfl) ?_
  refine W.objInit hx hb hown (hts _ mt_28) (hts _ mt_20) (hts _ mt_21) rfl (by rw [hml]; exact hl.1) rfl dW_init_1 (Nat.le_of_ble_eq_true rfl) (Nat.le_of_ble_eq_true rfl) ?_
  refine W.eq (g2 := F0 m 4 ls []) rfl ?_
  refine lv_aload_n hx hb dW_init_4 rfl (lv_at hl 0 rfl) ?_
  refine iz_bipush hx hb dW_init_5 (by decide) ?_
  have hz := hz0
  refine iz_newi hx hb hT hK hP hD hS hA 10 rfl (by omega) (Nat.le_of_ble_eq_true rfl) (Nat.le_of_ble_eq_true rfl) (z := q + 1) hz dW_init_7 (fun H hz hP hD hS => ?_)
  have hP : va_P (kD K) vcl [(q, .inr (1, [.int (iI 0), .int (iI 0), .int (iI 0), .null])), (q + 1, .inl (kI K, 10, .inl (iA (fun _ => 0))))] H := hP
  have hD : va_D A [(q, .inr (1, [.int (iI 0), .int (iI 0), .int (iI 0), .null])), (q + 1, .inl (kI K, 10, .inl (iA (fun _ => 0))))] := hD
  refine W.num (c1 := 1) (s1 := 10) rfl rfl ?_
  refine va_putF (D := kD K) (ci := 1) (v := .ref (q + 1)) (ty := .array .int) (C := RW) (T := FW) (N := 4) hx hb hts jnW tW tW_ok nW hown hK hP hD hS 0 rfl rfl 3 (by decide) (hts _ mt_32) (fun _ h9 => h9) rfl hnm rfl (by decide +kernel) rfl rfl (Nat.le_of_ble_eq_true rfl) dW_init_9 (fun H locs hP hD hS => ?_)
  have hP : va_P (kD K) vcl [(q, .inr (1, [.int (iI 0), .int (iI 0), .int (iI 0), .ref (q + 1)])), (q + 1, .inl (kI K, 10, .inl (iA (fun _ => 0))))] H := hP
  have hD : va_D A [(q, .inr (1, [.int (iI 0), .int (iI 0), .int (iI 0), .ref (q + 1)])), (q + 1, .inl (kI K, 10, .inl (iA (fun _ => 0))))] := hD
  refine W.sz (fun hs9 => ?_)
  have hz : H.size = q + 2 := by have h9 : q + 1 < H.size := (hP 1 _ rfl).lt; omega
  rw [hQ]
  exact iz_vret hx hb hr hlocks (⟨hz, hP⟩) hS.2.2 dW_init_12
end
section
-- class Shelf: what its cells are
/-- a shelf at q: how many kinds; much, price, biggest, cheapest, tried, best; the best price and count; the need that was searched for -/
abbrev shW (K : KG) (q : Nat) (kd : Int) (mu pr bg ch tr bn : Nat → Int) (bp bc sf : Int) : va_W := [(q, .inr (2, [.int (iI kd), .ref (q + 1), .ref (q + 2), .ref (q + 3), .ref (q + 4), .ref (q + 5), .ref (q + 6), .int (iI bp), .int (iI bc), .long (lI sf)])), (q + 1, .inl (kI K, 4, .inl (iA mu))), (q + 2, .inl (kI K, 4, .inl (iA pr))), (q + 3, .inl (kI K, 4, .inl (iA bg))), (q + 4, .inl (kI K, 4, .inl (iA ch))), (q + 5, .inl (kI K, 4, .inl (iA tr))), (q + 6, .inl (kI K, 4, .inl (iA bn)))]
abbrev rmX_ratioRoundedUp : Room := { frames := 0, cells := 0, slots := 0, locals := 0 }
set_option maxHeartbeats 4000000 in
set_option maxRecDepth 100000 in
/-- ratioRoundedUp(a, b), b above 0 -/
theorem c_X_ratio (l : Launch) (K : KG) (a b : Int) (h0 : 0 ≤ a) (h1 : a < 4000000000000000000) (h2 : 0 < b) (h3 : b < 2147483648) : Ct l yX_ratioRoundedUp kX_ratioRoundedUp rmX_ratioRoundedUp (PC K [.long (lI a), .int (iI b)] (fun H => True)) (QL (fun r _ => r = cdiv a b)) (fun _ => False) := by
  refine ct_of (by decide) (Or.inl ⟨rfl, rfl⟩) ?_
  intro p e s m args below meth c B0 hP0
  obtain ⟨hx, hb, hr, hml, hown, hlocks, hnm, htab⟩ := B0
  obtain ⟨ha, ⟨hT, hK⟩, hB⟩ := hP0
  have hl := lv_entry ([.long (lI a), .int (iI b)]) (n := 3) (Nat.le_of_ble_eq_true rfl)
  obtain ⟨Q, hQ⟩ : ∃ Q, Q = XQ below (QL (fun r _ => r = cdiv a b)) args s rmX_ratioRoundedUp.cells rmX_ratioRoundedUp.slots (fun _ => False) := ⟨_, rfl⟩
  rw [← hQ, ha, lg_entry_eq]
  rw [ha] at hQ
  generalize (lg_sl ([.long (lI a), .int (iI b)]) ++ List.replicate (3 - (lg_sl ([.long (lI a), .int (iI b)])).length) Slot.unset).toArray = ls at hl ⊢
  generalize ([.long (lI a), .int (iI b)] : List Value).toArray = args at hQ ⊢
  have hts : ∀ w ∈ TW, w.before args s = true := fun w h => hT w h args
  have hl : lv_has ls 3 [(0, .long (lI a)), (2, .int (iI b))] := hl
  obtain ⟨A, hAe⟩ : ∃ A : Addr → Prop, A = (fun _ => False) := ⟨_, rfl⟩
  rw [← hAe] at hQ
  have hS : va_S A s.heap s.heap [] := va_S.rf
  refine lv_iload_n hx hb dX_ratioRoundedUp_0 rfl (lv_at hl 1 rfl) ?_
  refine iz_if_gt (tgt := 8) hx hb ⟨by omega, by omega⟩ dX_ratioRoundedUp_1 (by decide) (fun h4 => ?_) (fun h4 => ?_)
  · refine lv_lload_n hx hb dX_ratioRoundedUp_8 rfl (lv_at hl 0 rfl) ?_
    refine lv_iload_n hx hb dX_ratioRoundedUp_9 rfl (lv_at hl 1 rfl) ?_
    refine iz_i2l hx hb ⟨by omega, by omega⟩ dX_ratioRoundedUp_10 ?_
    refine iz_ladd hx hb dX_ratioRoundedUp_11 ?_
    refine iz_lconst hx hb 1 rfl dX_ratioRoundedUp_12 ?_
    refine iz_lsub hx hb dX_ratioRoundedUp_13 ?_
    refine lv_iload_n hx hb dX_ratioRoundedUp_14 rfl (lv_at hl 1 rfl) ?_
    refine iz_i2l hx hb ⟨by omega, by omega⟩ dX_ratioRoundedUp_15 ?_
    refine iz_ldiv hx hb ⟨by omega, by omega⟩ (by omega) ⟨by omega, by omega⟩ (by omega) dX_ratioRoundedUp_16 ?_
    rw [hQ]
    exact iz_lret hx hb hr hlocks (rfl) (fun _ h => absurd h List.not_mem_nil) dX_ratioRoundedUp_17
  · exact absurd h4 (by omega)
abbrev rmS_isBetter : Room := { frames := 0, cells := 0, slots := 0, locals := 0 }
set_option maxHeartbeats 4000000 in
set_option maxRecDepth 100000 in
/-- Shelf.isBetter(count, cost) -/
theorem c_S_isBetter (l : Launch) (K : KG) (q : Nat) (kd : Int) (mu pr bg ch tr bn : Nat → Int) (bp bc sf : Int) (ct co : Int) (h1 : r64 ct) (h2 : r64 co) (h3 : r32 bp) (h4 : r32 bc) : Ct l yS_isBetter kS_isBetter rmS_isBetter (PC K [.ref q, .long (lI ct), .long (lI co)] (fun H => va_P (kD K) vcl (shW K q kd mu pr bg ch tr bn bp bc sf) H)) (QI (fun r _ => (r = 1 ∧ py_bt co ct bp bc) ∨ (r = 0 ∧ ¬ py_bt co ct bp bc))) (fun _ => False) := by
  refine ct_of (by decide) (Or.inl ⟨rfl, rfl⟩) ?_
  intro p e s m args below meth c B0 hP0
  obtain ⟨hx, hb, hr, hml, hown, hlocks, hnm, htab⟩ := B0
  obtain ⟨ha, ⟨hT, hK⟩, hB⟩ := hP0
  have hl := lv_entry ([.ref q, .long (lI ct), .long (lI co)]) (n := 5) (Nat.le_of_ble_eq_true rfl)
  obtain ⟨Q, hQ⟩ : ∃ Q, Q = XQ below (QI (fun r _ => (r = 1 ∧ py_bt co ct bp bc) ∨ (r = 0 ∧ ¬ py_bt co ct bp bc))) args s rmS_isBetter.cells rmS_isBetter.slots (fun _ => False) := ⟨_, rfl⟩
  rw [← hQ, ha, lg_entry_eq]
  rw [ha] at hQ
  generalize (lg_sl ([.ref q, .long (lI ct), .long (lI co)]) ++ List.replicate (5 - (lg_sl ([.ref q, .long (lI ct), .long (lI co)])).length) Slot.unset).toArray = ls at hl ⊢
  generalize ([.ref q, .long (lI ct), .long (lI co)] : List Value).toArray = args at hQ ⊢
  have hts : ∀ w ∈ TW, w.before args s = true := fun w h => hT w h args
  have hl : lv_has ls 5 [(0, .ref q), (1, .long (lI ct)), (3, .long (lI co))] := hl
  obtain ⟨A, hAe⟩ : ∃ A : Addr → Prop, A = (fun _ => False) := ⟨_, rfl⟩
  rw [← hAe] at hQ
  have hS : va_S A s.heap s.heap [] := va_S.rf
  have hP : va_P (kD K) vcl [(q, .inr (2, [.int (iI kd), .ref (q + 1), .ref (q + 2), .ref (q + 3), .ref (q + 4), .ref (q + 5), .ref (q + 6), .int (iI bp), .int (iI bc), .long (lI sf)])), (q + 1, .inl (kI K, 4, .inl (iA mu))), (q + 2, .inl (kI K, 4, .inl (iA pr))), (q + 3, .inl (kI K, 4, .inl (iA bg))), (q + 4, .inl (kI K, 4, .inl (iA ch))), (q + 5, .inl (kI K, 4, .inl (iA tr))), (q + 6, .inl (kI K, 4, .inl (iA bn)))] s.heap := hB
  refine lv_lload_n hx hb dS_isBetter_0 rfl (lv_at hl 2 rfl) ?_
  refine lv_aload_n hx hb dS_isBetter_1 rfl (lv_at hl 0 rfl) ?_
  refine va_get (D := kD K) (ci := 2) (v := .int (iI bp)) (C := RS) (T := FS) (N := 10) hx hb hts jnS hown hK hP 0 rfl rfl 7 (by decide) (hts _ mt_60) (fun _ h9 => h9) rfl dS_isBetter_2 ?_
  refine iz_i2l hx hb ⟨by omega, by omega⟩ dS_isBetter_5 ?_
  refine iz_lc_lt (tgt := 30) hx hb ⟨by omega, by omega⟩ ⟨by omega, by omega⟩ dS_isBetter_6 dS_isBetter_7 (by decide) (fun g1 => ?_) (fun g1 => ?_)
  · refine iz_iconst hx hb dS_isBetter_30 ?_
    refine lv_goto (tgt := 35) hx hb dS_isBetter_31 (by decide) ?_
    rw [hQ]
    exact iz_zret hx hb hr hlocks (Or.inr rfl) (Or.inl ⟨rfl, (Or.inl g1)⟩) (fun _ h => absurd h List.not_mem_nil) dS_isBetter_35
  · refine lv_lload_n hx hb dS_isBetter_10 rfl (lv_at hl 2 rfl) ?_
    refine lv_aload_n hx hb dS_isBetter_11 rfl (lv_at hl 0 rfl) ?_
    refine va_get (D := kD K) (ci := 2) (v := .int (iI bp)) (C := RS) (T := FS) (N := 10) hx hb hts jnS hown hK hP 0 rfl rfl 7 (by decide) (hts _ mt_60) (fun _ h9 => h9) rfl dS_isBetter_12 ?_
    refine iz_i2l hx hb ⟨by omega, by omega⟩ dS_isBetter_15 ?_
    refine iz_lc_ne (tgt := 34) hx hb ⟨by omega, by omega⟩ ⟨by omega, by omega⟩ dS_isBetter_16 dS_isBetter_17 (by decide) (fun g2 => ?_) (fun g2 => ?_)
    · refine iz_iconst hx hb dS_isBetter_34 ?_
      rw [hQ]
      exact iz_zret hx hb hr hlocks (Or.inl rfl) (Or.inr ⟨rfl, (by unfold py_bt; omega)⟩) (fun _ h => absurd h List.not_mem_nil) dS_isBetter_35
    · refine lv_lload_n hx hb dS_isBetter_20 rfl (lv_at hl 1 rfl) ?_
      refine lv_aload_n hx hb dS_isBetter_21 rfl (lv_at hl 0 rfl) ?_
      refine va_get (D := kD K) (ci := 2) (v := .int (iI bc)) (C := RS) (T := FS) (N := 10) hx hb hts jnS hown hK hP 0 rfl rfl 8 (by decide) (hts _ mt_61) (fun _ h9 => h9) rfl dS_isBetter_22 ?_
      refine iz_i2l hx hb ⟨by omega, by omega⟩ dS_isBetter_25 ?_
      refine iz_lc_ge (tgt := 34) hx hb ⟨by omega, by omega⟩ ⟨by omega, by omega⟩ dS_isBetter_26 dS_isBetter_27 (by decide) (fun g3 => ?_) (fun g3 => ?_)
      · refine iz_iconst hx hb dS_isBetter_34 ?_
        rw [hQ]
        exact iz_zret hx hb hr hlocks (Or.inl rfl) (Or.inr ⟨rfl, (by unfold py_bt; omega)⟩) (fun _ h => absurd h List.not_mem_nil) dS_isBetter_35
      · refine iz_iconst hx hb dS_isBetter_30 ?_
        refine lv_goto (tgt := 35) hx hb dS_isBetter_31 (by decide) ?_
        rw [hQ]
        exact iz_zret hx hb hr hlocks (Or.inr rfl) (Or.inl ⟨rfl, (by unfold py_bt; omega)⟩) (fun _ h => absurd h List.not_mem_nil) dS_isBetter_35
abbrev rmS_keepIfBetter : Room := { frames := 1, cells := 0, slots := 0, locals := 60 }
set_option maxHeartbeats 4000000 in
set_option maxRecDepth 100000 in
/-- Shelf.keepIfBetter(count, cost) -/
theorem c_S_keep (l : Launch) (K : KG) (q : Nat) (kd : Int) (mu pr bg ch tr bn : Nat → Int) (bp bc sf : Int) (ct co : Int) (h1 : r32 ct) (h2 : r32 co) (h3 : r32 bp) (h4 : r32 bc) : Ct l yS_keepIfBetter kS_keepIfBetter rmS_keepIfBetter (PC K [.ref q, .int (iI ct), .int (iI co)] (fun H => va_P (kD K) vcl (shW K q kd mu pr bg ch tr bn bp bc sf) H)) (QV (fun H => (¬ py_bt co ct bp bc ∧ va_P (kD K) vcl (shW K q kd mu pr bg ch tr bn bp bc sf) H) ∨ (py_bt co ct bp bc ∧ va_P (kD K) vcl (shW K q kd mu pr bg ch tr (fun j => if j < 4 then tr j else bn j) co ct sf) H))) (fun x => q ≤ x ∧ x < q + 7) := by
  refine ct_of (by decide) (Or.inl ⟨rfl, rfl⟩) ?_
  intro p e s m args below meth c B0 hP0
  obtain ⟨hx, hb, hr, hml, hown, hlocks, hnm, htab⟩ := B0
  obtain ⟨ha, ⟨hT, hK⟩, hB⟩ := hP0
  have hl := lv_entry ([.ref q, .int (iI ct), .int (iI co)]) (n := 3) (Nat.le_of_ble_eq_true rfl)
  obtain ⟨Q, hQ⟩ : ∃ Q, Q = XQ below (QV (fun H => (¬ py_bt co ct bp bc ∧ va_P (kD K) vcl (shW K q kd mu pr bg ch tr bn bp bc sf) H) ∨ (py_bt co ct bp bc ∧ va_P (kD K) vcl (shW K q kd mu pr bg ch tr (fun j => if j < 4 then tr j else bn j) co ct sf) H))) args s rmS_keepIfBetter.cells rmS_keepIfBetter.slots (fun x => q ≤ x ∧ x < q + 7) := ⟨_, rfl⟩
  rw [← hQ, ha, lg_entry_eq]
  rw [ha] at hQ
  generalize (lg_sl ([.ref q, .int (iI ct), .int (iI co)]) ++ List.replicate (3 - (lg_sl ([.ref q, .int (iI ct), .int (iI co)])).length) Slot.unset).toArray = ls at hl ⊢
  generalize ([.ref q, .int (iI ct), .int (iI co)] : List Value).toArray = args at hQ ⊢
  have hts : ∀ w ∈ TW, w.before args s = true := fun w h => hT w h args
  have hl : lv_has ls 3 [(0, .ref q), (1, .int (iI ct)), (2, .int (iI co))] := hl
  obtain ⟨A, hAe⟩ : ∃ A : Addr → Prop, A = (fun x => q ≤ x ∧ x < q + 7) := ⟨_, rfl⟩
  rw [← hAe] at hQ
  have hS : va_S A s.heap s.heap [] := va_S.rf
  have hP : va_P (kD K) vcl [(q, .inr (2, [.int (iI kd), .ref (q + 1), .ref (q + 2), .ref (q + 3), .ref (q + 4), .ref (q + 5), .ref (q + 6), .int (iI bp), .int (iI bc), .long (lI sf)])), (q + 1, .inl (kI K, 4, .inl (iA mu))), (q + 2, .inl (kI K, 4, .inl (iA pr))), (q + 3, .inl (kI K, 4, .inl (iA bg))), (q + 4, .inl (kI K, 4, .inl (iA ch))), (q + 5, .inl (kI K, 4, .inl (iA tr))), (q + 6, .inl (kI K, 4, .inl (iA bn)))] s.heap := hB
  have hD : va_D A [(q, .inr (2, [.int (iI kd), .ref (q + 1), .ref (q + 2), .ref (q + 3), .ref (q + 4), .ref (q + 5), .ref (q + 6), .int (iI bp), .int (iI bc), .long (lI sf)])), (q + 1, .inl (kI K, 4, .inl (iA mu))), (q + 2, .inl (kI K, 4, .inl (iA pr))), (q + 3, .inl (kI K, 4, .inl (iA bg))), (q + 4, .inl (kI K, 4, .inl (iA ch))), (q + 5, .inl (kI K, 4, .inl (iA tr))), (q + 6, .inl (kI K, 4, .inl (iA bn)))] := by rw [hAe]; exact va_D_of (by simp) (by simp <;> omega)
  refine lv_aload_n hx hb dS_keepIfBetter_0 rfl (lv_at hl 0 rfl) ?_
  refine lv_iload_n hx hb dS_keepIfBetter_1 rfl (lv_at hl 1 rfl) ?_
  refine iz_i2l hx hb ⟨by omega, by omega⟩ dS_keepIfBetter_2 ?_
  refine lv_iload_n hx hb dS_keepIfBetter_3 rfl (lv_at hl 2 rfl) ?_
  refine iz_i2l hx hb ⟨by omega, by omega⟩ dS_keepIfBetter_4 ?_
  refine ctV (n := 2) hx hb hml hown hT ⟨c_S_isBetter l K q kd mu pr bg ch tr bn bp bc sf ct co ⟨by omega, by omega⟩ ⟨by omega, by omega⟩ h3 h4, ⟨_, _, _, Or.inl ⟨rfl, rfl⟩⟩, mt_259, mt_3, by decide, by decide +kernel, by decide, by decide, by decide, by decide⟩ PC.blind mt_256 mt_258 ms_6 (va_RVof (ci := 2) (q0 := 0) hK hP rfl rfl) (As := [.long (lI ct), .long (lI co)]) (rest := []) rfl (PC.at ⟨hT, hK⟩ hP) hl.1 rfl (Nat.le_of_ble_eq_true rfl) dS_keepIfBetter_5 (krI0 rfl rfl (fun _ h => h) (fun r hr9 => ?_))
  refine iz_if_eq (tgt := 35) hx hb (by rcases hr9 with ⟨rfl, -⟩ | ⟨rfl, -⟩ <;> exact ⟨by omega, by omega⟩) dS_keepIfBetter_8 (by decide) (fun g1 => ?_) (fun g1 => ?_)
  · rw [hQ]
    exact iz_vret hx hb hr hlocks (Or.inl ⟨by rcases hr9 with ⟨rfl, -⟩ | ⟨-, h⟩; exact absurd g1 (by omega); exact h, hP⟩) hS.2.2 dS_keepIfBetter_35
  · refine lv_aload_n hx hb dS_keepIfBetter_11 rfl (lv_at hl 0 rfl) ?_
    refine lv_iload_n hx hb dS_keepIfBetter_12 rfl (lv_at hl 1 rfl) ?_
    refine va_put (D := kD K) (ci := 2) (v := .int (iI ct)) (ty := .int) (C := RS) (T := FS) (N := 10) hx hb hts jnS tS tS_ok nS hown hK hP hD hS 0 rfl rfl 8 (by decide) (hts _ mt_61) (fun _ h9 => h9) rfl (by decide +kernel) rfl rfl (Nat.le_of_ble_eq_true rfl) dS_keepIfBetter_13 (fun H locs hP hD hS => ?_)
    have hP : va_P (kD K) vcl [(q, .inr (2, [.int (iI kd), .ref (q + 1), .ref (q + 2), .ref (q + 3), .ref (q + 4), .ref (q + 5), .ref (q + 6), .int (iI bp), .int (iI ct), .long (lI sf)])), (q + 1, .inl (kI K, 4, .inl (iA mu))), (q + 2, .inl (kI K, 4, .inl (iA pr))), (q + 3, .inl (kI K, 4, .inl (iA bg))), (q + 4, .inl (kI K, 4, .inl (iA ch))), (q + 5, .inl (kI K, 4, .inl (iA tr))), (q + 6, .inl (kI K, 4, .inl (iA bn)))] H := hP
    have hD : va_D A [(q, .inr (2, [.int (iI kd), .ref (q + 1), .ref (q + 2), .ref (q + 3), .ref (q + 4), .ref (q + 5), .ref (q + 6), .int (iI bp), .int (iI ct), .long (lI sf)])), (q + 1, .inl (kI K, 4, .inl (iA mu))), (q + 2, .inl (kI K, 4, .inl (iA pr))), (q + 3, .inl (kI K, 4, .inl (iA bg))), (q + 4, .inl (kI K, 4, .inl (iA ch))), (q + 5, .inl (kI K, 4, .inl (iA tr))), (q + 6, .inl (kI K, 4, .inl (iA bn)))] := hD
    refine lv_aload_n hx hb dS_keepIfBetter_16 rfl (lv_at hl 0 rfl) ?_
    refine lv_iload_n hx hb dS_keepIfBetter_17 rfl (lv_at hl 2 rfl) ?_
    refine va_put (D := kD K) (ci := 2) (v := .int (iI co)) (ty := .int) (C := RS) (T := FS) (N := 10) hx hb hts jnS tS tS_ok nS hown hK hP hD hS 0 rfl rfl 7 (by decide) (hts _ mt_60) (fun _ h9 => h9) rfl (by decide +kernel) rfl rfl (Nat.le_of_ble_eq_true rfl) dS_keepIfBetter_18 (fun H locs hP hD hS => ?_)
    have hP : va_P (kD K) vcl [(q, .inr (2, [.int (iI kd), .ref (q + 1), .ref (q + 2), .ref (q + 3), .ref (q + 4), .ref (q + 5), .ref (q + 6), .int (iI co), .int (iI ct), .long (lI sf)])), (q + 1, .inl (kI K, 4, .inl (iA mu))), (q + 2, .inl (kI K, 4, .inl (iA pr))), (q + 3, .inl (kI K, 4, .inl (iA bg))), (q + 4, .inl (kI K, 4, .inl (iA ch))), (q + 5, .inl (kI K, 4, .inl (iA tr))), (q + 6, .inl (kI K, 4, .inl (iA bn)))] H := hP
    have hD : va_D A [(q, .inr (2, [.int (iI kd), .ref (q + 1), .ref (q + 2), .ref (q + 3), .ref (q + 4), .ref (q + 5), .ref (q + 6), .int (iI co), .int (iI ct), .long (lI sf)])), (q + 1, .inl (kI K, 4, .inl (iA mu))), (q + 2, .inl (kI K, 4, .inl (iA pr))), (q + 3, .inl (kI K, 4, .inl (iA bg))), (q + 4, .inl (kI K, 4, .inl (iA ch))), (q + 5, .inl (kI K, 4, .inl (iA tr))), (q + 6, .inl (kI K, 4, .inl (iA bn)))] := hD
    refine lv_aload_n hx hb dS_keepIfBetter_21 rfl (lv_at hl 0 rfl) ?_
    refine va_get (D := kD K) (ci := 2) (v := .ref (q + 5)) (C := RS) (T := FS) (N := 10) hx hb hts jnS hown hK hP 0 rfl rfl 5 (by decide) (hts _ mt_58) (fun _ h9 => h9) rfl dS_keepIfBetter_22 ?_
    refine iz_iconst hx hb dS_keepIfBetter_25 ?_
    refine lv_aload_n hx hb dS_keepIfBetter_26 rfl (lv_at hl 0 rfl) ?_
    refine va_get (D := kD K) (ci := 2) (v := .ref (q + 6)) (C := RS) (T := FS) (N := 10) hx hb hts jnS hown hK hP 0 rfl rfl 6 (by decide) (hts _ mt_59) (fun _ h9 => h9) rfl dS_keepIfBetter_27 ?_
    refine iz_iconst hx hb dS_keepIfBetter_30 ?_
    refine iz_iconst hx hb dS_keepIfBetter_31 ?_
    refine va_copyi hx hb (hml.trans hl.1.symm) hown (hts _ mt_260) (hts _ mt_262) (hts _ mt_261) (hts _ mt_13) hK hP hD hS 5 6 0 0 rfl rfl rfl rfl rfl (iI_nn ⟨by omega, by omega⟩ (by omega)) (iI_nn ⟨by omega, by omega⟩ (by omega)) (iI_nn ⟨by omega, by omega⟩ (by omega)) (by decide) (by decide) (fun i _ => rfl) (by decide) (by decide) dS_keepIfBetter_32 (fun H locs hP hD hS => ?_)
    have hcp : va_cpy (iA tr) (iA bn) (iI 0).toNatClampNeg (iI 0).toNatClampNeg (iI 4).toNatClampNeg = iA (fun j => if j < 4 then tr j else bn j) := by
      funext j
      show (if 0 ≤ j ∧ j < 0 + 4 then iI (tr (0 + (j - 0))) else iI (bn j)) = iI (if j < 4 then tr j else bn j)
      by_cases hj : j < 4
      · rw [if_pos ⟨by omega, by omega⟩, if_pos hj, show 0 + (j - 0) = j by omega]
      · rw [if_neg (by omega), if_neg hj]
    rw [hcp] at hP
    have hP : va_P (kD K) vcl [(q, .inr (2, [.int (iI kd), .ref (q + 1), .ref (q + 2), .ref (q + 3), .ref (q + 4), .ref (q + 5), .ref (q + 6), .int (iI co), .int (iI ct), .long (lI sf)])), (q + 1, .inl (kI K, 4, .inl (iA mu))), (q + 2, .inl (kI K, 4, .inl (iA pr))), (q + 3, .inl (kI K, 4, .inl (iA bg))), (q + 4, .inl (kI K, 4, .inl (iA ch))), (q + 5, .inl (kI K, 4, .inl (iA tr))), (q + 6, .inl (kI K, 4, .inl (iA (fun j => if j < 4 then tr j else bn j))))] H := hP
    rw [hQ]
    exact iz_vret hx hb hr hlocks (Or.inr ⟨by rcases hr9 with ⟨-, h⟩ | ⟨rfl, -⟩; exact h; exact absurd rfl g1, hP⟩) hS.2.2 dS_keepIfBetter_35
end
section
-- class Shelf: the search
abbrev rmS_isHopeless : Room := { frames := 1, cells := 0, slots := 0, locals := 60 }
set_option maxHeartbeats 4000000 in
set_option maxRecDepth 100000 in
/-- Shelf.isHopeless(kind, missing, count, cost) -/
theorem c_S_hopeless (l : Launch) (K : KG) (q : Nat) (kd : Int) (mu pr bg ch tr bn : Nat → Int) (bp bc sf : Int) (k bi ci : Nat) (mi ct co : Int) (hk : k < 4) (hbi : bg k = bi) (hb4 : bi < 4) (hci : ch k = ci) (hc4 : ci < 4) (hmb : 0 < mu bi ∧ mu bi < 2147483648) (hmc : 0 < mu ci ∧ mu ci < 2147483648) (hpc : 0 ≤ pr ci ∧ pr ci ≤ 100000) (hmi : 0 < mi ∧ mi ≤ 100000000000) (hct : 0 ≤ ct ∧ ct ≤ 60) (hco : 0 ≤ co ∧ co ≤ 6000000) (h3 : r32 bp) (h4 : r32 bc) : Ct l yS_isHopeless kS_isHopeless rmS_isHopeless (PC K [.ref q, .int (iI ((k : Int))), .long (lI mi), .int (iI ct), .int (iI co)] (fun H => va_P (kD K) vcl (shW K q kd mu pr bg ch tr bn bp bc sf) H)) (QI (fun r _ => (r = 1 ∧ (60 < ct + cdiv mi (mu bi) ∨ ¬ py_bt (co + cdiv (mi * pr ci) (mu ci)) (ct + cdiv mi (mu bi)) bp bc)) ∨ r = 0)) (fun _ => False) := by
  refine ct_of (by decide) (Or.inl ⟨rfl, rfl⟩) ?_
  intro p e s m args below meth c B0 hP0
  obtain ⟨hx, hb, hr, hml, hown, hlocks, hnm, htab⟩ := B0
  obtain ⟨ha, ⟨hT, hK⟩, hB⟩ := hP0
  have hl := lv_entry ([.ref q, .int (iI ((k : Int))), .long (lI mi), .int (iI ct), .int (iI co)]) (n := 11) (Nat.le_of_ble_eq_true rfl)
  obtain ⟨Q, hQ⟩ : ∃ Q, Q = XQ below (QI (fun r _ => (r = 1 ∧ (60 < ct + cdiv mi (mu bi) ∨ ¬ py_bt (co + cdiv (mi * pr ci) (mu ci)) (ct + cdiv mi (mu bi)) bp bc)) ∨ r = 0)) args s rmS_isHopeless.cells rmS_isHopeless.slots (fun _ => False) := ⟨_, rfl⟩
  rw [← hQ, ha, lg_entry_eq]
  rw [ha] at hQ
  generalize (lg_sl ([.ref q, .int (iI ((k : Int))), .long (lI mi), .int (iI ct), .int (iI co)]) ++ List.replicate (11 - (lg_sl ([.ref q, .int (iI ((k : Int))), .long (lI mi), .int (iI ct), .int (iI co)])).length) Slot.unset).toArray = ls at hl ⊢
  generalize ([.ref q, .int (iI ((k : Int))), .long (lI mi), .int (iI ct), .int (iI co)] : List Value).toArray = args at hQ ⊢
  have hts : ∀ w ∈ TW, w.before args s = true := fun w h => hT w h args
  have hl : lv_has ls 11 [(0, .ref q), (1, .int (iI ((k : Int)))), (2, .long (lI mi)), (4, .int (iI ct)), (5, .int (iI co))] := hl
  obtain ⟨A, hAe⟩ : ∃ A : Addr → Prop, A = (fun _ => False) := ⟨_, rfl⟩
  rw [← hAe] at hQ
  have hS : va_S A s.heap s.heap [] := va_S.rf
  have hP : va_P (kD K) vcl [(q, .inr (2, [.int (iI kd), .ref (q + 1), .ref (q + 2), .ref (q + 3), .ref (q + 4), .ref (q + 5), .ref (q + 6), .int (iI bp), .int (iI bc), .long (lI sf)])), (q + 1, .inl (kI K, 4, .inl (iA mu))), (q + 2, .inl (kI K, 4, .inl (iA pr))), (q + 3, .inl (kI K, 4, .inl (iA bg))), (q + 4, .inl (kI K, 4, .inl (iA ch))), (q + 5, .inl (kI K, 4, .inl (iA tr))), (q + 6, .inl (kI K, 4, .inl (iA bn)))] s.heap := hB
  have hc1 := cdiv_bd hmb.1 (show 0 ≤ mi by omega)
  have hmp := mul_bd (show 0 ≤ mi by omega) hmi.2 hpc.1 hpc.2
  have hc2 := cdiv_bd hmc.1 hmp.1
  refine lv_iload hx hb dS_isHopeless_0 (lv_at hl 3 rfl) ?_
  refine iz_i2l hx hb ⟨by omega, by omega⟩ dS_isHopeless_2 ?_
  refine lv_lload_n hx hb dS_isHopeless_3 rfl (lv_at hl 2 rfl) ?_
  refine lv_aload_n hx hb dS_isHopeless_4 rfl (lv_at hl 0 rfl) ?_
  refine va_get (D := kD K) (ci := 2) (v := .ref (q + 1)) (C := RS) (T := FS) (N := 10) hx hb hts jnS hown hK hP 0 rfl rfl 1 (by decide) (hts _ mt_54) (fun _ h9 => h9) rfl dS_isHopeless_5 ?_
  refine lv_aload_n hx hb dS_isHopeless_8 rfl (lv_at hl 0 rfl) ?_
  refine va_get (D := kD K) (ci := 2) (v := .ref (q + 3)) (C := RS) (T := FS) (N := 10) hx hb hts jnS hown hK hP 0 rfl rfl 3 (by decide) (hts _ mt_56) (fun _ h9 => h9) rfl dS_isHopeless_9 ?_
  refine lv_iload_n hx hb dS_isHopeless_12 rfl (lv_at hl 1 rfl) ?_
  refine iz_iald hx hb hK hP 3 rfl k rfl hk (by omega) dS_isHopeless_13 ?_
  refine iz_iald hx hb hK hP 1 rfl bi hbi hb4 (by omega) dS_isHopeless_14 ?_
  refine ctSN (n := 2) hx hb hml hown hT ⟨c_X_ratio l K mi (mu bi) (by omega) (by omega) hmb.1 hmb.2, ⟨_, _, _, Or.inl ⟨rfl, rfl⟩⟩, mt_226, mt_1, by decide, by decide +kernel, by decide, by decide, by decide, by decide⟩ PC.blind mt_240 mt_225 (As := [.long (lI mi), .int (iI (mu bi))]) (rest := [.long (lI ct)]) rfl (PC.at ⟨hT, hK⟩ trivial) hl.1 rfl (Nat.le_of_ble_eq_true rfl) dS_isHopeless_15 (krL0 rfl rfl (fun _ h => h) (fun r1 hr1 => ?_))
  subst hr1
  refine iz_ladd hx hb dS_isHopeless_18 ?_
  refine lv_lstore (lv' := [(6, .long (lI (ct + (cdiv mi (mu bi))))), (0, .ref q), (1, .int (iI ((k : Int)))), (2, .long (lI mi)), (4, .int (iI ct)), (5, .int (iI co))]) hx hb dS_isHopeless_19 hl (by decide) rfl (fun ls hl => ?_)
  refine lv_lload hx hb dS_isHopeless_21 (lv_at hl 0 rfl) ?_
  refine iz_ldc2 hx hb (60) (by decide) hown (hts _ mt_241) dS_isHopeless_23 ?_
  refine iz_lc_le (tgt := 32) hx hb ⟨by omega, by omega⟩ ⟨by omega, by omega⟩ dS_isHopeless_26 dS_isHopeless_27 (by decide) (fun g1 => ?_) (fun g1 => ?_)
  · refine lv_aload_n hx hb dS_isHopeless_32 rfl (lv_at hl 1 rfl) ?_
    refine va_get (D := kD K) (ci := 2) (v := .ref (q + 4)) (C := RS) (T := FS) (N := 10) hx hb hts jnS hown hK hP 0 rfl rfl 4 (by decide) (hts _ mt_57) (fun _ h9 => h9) rfl dS_isHopeless_33 ?_
    refine lv_iload_n hx hb dS_isHopeless_36 rfl (lv_at hl 2 rfl) ?_
    refine iz_iald hx hb hK hP 4 rfl k rfl hk (by omega) dS_isHopeless_37 ?_
    rw [hci]
    refine lv_istore (lv' := [(8, .int (iI ((ci : Int)))), (6, .long (lI (ct + (cdiv mi (mu bi))))), (0, .ref q), (1, .int (iI ((k : Int)))), (2, .long (lI mi)), (4, .int (iI ct)), (5, .int (iI co))]) hx hb dS_isHopeless_38 hl (by decide) rfl (fun ls hl => ?_)
    refine lv_iload hx hb dS_isHopeless_40 (lv_at hl 6 rfl) ?_
    refine iz_i2l hx hb ⟨by omega, by omega⟩ dS_isHopeless_42 ?_
    refine lv_lload_n hx hb dS_isHopeless_43 rfl (lv_at hl 4 rfl) ?_
    refine lv_aload_n hx hb dS_isHopeless_44 rfl (lv_at hl 2 rfl) ?_
    refine va_get (D := kD K) (ci := 2) (v := .ref (q + 2)) (C := RS) (T := FS) (N := 10) hx hb hts jnS hown hK hP 0 rfl rfl 2 (by decide) (hts _ mt_55) (fun _ h9 => h9) rfl dS_isHopeless_45 ?_
    refine lv_iload hx hb dS_isHopeless_48 (lv_at hl 0 rfl) ?_
    refine iz_iald hx hb hK hP 2 rfl ci rfl hc4 (by omega) dS_isHopeless_50 ?_
    refine iz_i2l hx hb ⟨by omega, by omega⟩ dS_isHopeless_51 ?_
    refine iz_lmul hx hb dS_isHopeless_52 ?_
    refine lv_aload_n hx hb dS_isHopeless_53 rfl (lv_at hl 2 rfl) ?_
    refine va_get (D := kD K) (ci := 2) (v := .ref (q + 1)) (C := RS) (T := FS) (N := 10) hx hb hts jnS hown hK hP 0 rfl rfl 1 (by decide) (hts _ mt_54) (fun _ h9 => h9) rfl dS_isHopeless_54 ?_
    refine lv_iload hx hb dS_isHopeless_57 (lv_at hl 0 rfl) ?_
    refine iz_iald hx hb hK hP 1 rfl ci rfl hc4 (by omega) dS_isHopeless_59 ?_
    refine ctSN (n := 2) hx hb hml hown hT ⟨c_X_ratio l K (mi * pr ci) (mu ci) (by omega) (by omega) hmc.1 hmc.2, ⟨_, _, _, Or.inl ⟨rfl, rfl⟩⟩, mt_226, mt_1, by decide, by decide +kernel, by decide, by decide, by decide, by decide⟩ PC.blind mt_240 mt_225 (As := [.long (lI (mi * (pr ci))), .int (iI (mu ci))]) (rest := [.long (lI co)]) rfl (PC.at ⟨hT, hK⟩ trivial) hl.1 rfl (Nat.le_of_ble_eq_true rfl) dS_isHopeless_60 (krL0 rfl rfl (fun _ h => h) (fun r2 hr2 => ?_))
    subst hr2
    refine iz_ladd hx hb dS_isHopeless_63 ?_
    refine lv_lstore (lv' := [(9, .long (lI (co + (cdiv (mi * pr ci) (mu ci))))), (8, .int (iI ((ci : Int)))), (6, .long (lI (ct + (cdiv mi (mu bi))))), (0, .ref q), (1, .int (iI ((k : Int)))), (2, .long (lI mi)), (4, .int (iI ct)), (5, .int (iI co))]) hx hb dS_isHopeless_64 hl (by decide) rfl (fun ls hl => ?_)
    refine lv_aload_n hx hb dS_isHopeless_66 rfl (lv_at hl 3 rfl) ?_
    refine lv_lload hx hb dS_isHopeless_67 (lv_at hl 2 rfl) ?_
    refine lv_lload hx hb dS_isHopeless_69 (lv_at hl 0 rfl) ?_
    refine ctV (n := 2) hx hb hml hown hT ⟨c_S_isBetter l K q kd mu pr bg ch tr bn bp bc sf (ct + cdiv mi (mu bi)) (co + cdiv (mi * pr ci) (mu ci)) ⟨by omega, by omega⟩ ⟨by omega, by omega⟩ h3 h4, ⟨_, _, _, Or.inl ⟨rfl, rfl⟩⟩, mt_259, mt_3, by decide, by decide +kernel, by decide, by decide, by decide, by decide⟩ PC.blind mt_256 mt_258 ms_6 (va_RVof (ci := 2) (q0 := 0) hK hP rfl rfl) (As := [.long (lI (ct + (cdiv mi (mu bi)))), .long (lI (co + (cdiv (mi * pr ci) (mu ci))))]) (rest := []) rfl (PC.at ⟨hT, hK⟩ hP) hl.1 rfl (Nat.le_of_ble_eq_true rfl) dS_isHopeless_71 (krI0 rfl rfl (fun _ h => h) (fun r3 hr3 => ?_))
    refine iz_if_ne (tgt := 81) hx hb (by rcases hr3 with ⟨rfl, -⟩ | ⟨rfl, -⟩ <;> exact ⟨by omega, by omega⟩) dS_isHopeless_74 (by decide) (fun g2 => ?_) (fun g2 => ?_)
    · refine iz_iconst hx hb dS_isHopeless_81 ?_
      rw [hQ]
      exact iz_zret hx hb hr hlocks (Or.inl rfl) (Or.inr rfl) (fun _ h => absurd h List.not_mem_nil) dS_isHopeless_82
    · refine iz_iconst hx hb dS_isHopeless_77 ?_
      refine lv_goto (tgt := 82) hx hb dS_isHopeless_78 (by decide) ?_
      rw [hQ]
      exact iz_zret hx hb hr hlocks (Or.inr rfl) (Or.inl ⟨rfl, Or.inr (by rcases hr3 with ⟨rfl, -⟩ | ⟨-, h⟩; exact absurd g2 (by omega); exact h)⟩) (fun _ h => absurd h List.not_mem_nil) dS_isHopeless_82
  · refine iz_iconst hx hb dS_isHopeless_30 ?_
    rw [hQ]
    exact iz_zret hx hb hr hlocks (Or.inr rfl) (Or.inl ⟨rfl, Or.inl (by omega)⟩) (fun _ h => absurd h List.not_mem_nil) dS_isHopeless_31
abbrev rmT (d : Nat) : Room := { frames := 3 + d, cells := 0, slots := 0, locals := 100 + 40 * d }
set_option maxHeartbeats 8000000 in
set_option maxRecDepth 100000 in
/-- Shelf.tryKind(kind, missing, count, cost): the best of all choices of this kind and those behind it -/
theorem c_S_tryKind (l : Launch) (K : KG) (q Kn : Nat) (mu pr bg ch : Nat → Int) (sf : Int) (hok : ShOK Kn mu pr bg ch) : ∀ (d k : Nat), k + d = Kn → ∀ (tr bn : Nat → Int) (bp bc mi ct co : Int), (∀ i, k ≤ i → tr i = 0) → (0 ≤ bp ∧ bp ≤ 6000001) → (0 ≤ bc ∧ bc ≤ 61) → (mi ≤ 100000000000 ∧ -2000000000 ≤ mi) → (0 ≤ ct ∧ ct ≤ 60) → (0 ≤ co ∧ co ≤ ct * 100000) → Ct l yS_tryKind kS_tryKind (rmT d) (PC K [.ref q, .int (iI ((k : Int))), .long (lI mi), .int (iI ct), .int (iI co)] (fun H => va_P (kD K) vcl (shW K q (Kn : Int) mu pr bg ch tr bn bp bc sf) H)) (QV (fun H => ∃ (bp' bc' : Int) (bn' : Nat → Int), py_R pr k d co ct tr (py_F mu k d mi ct) bp bc bn bp' bc' bn' ∧ (0 ≤ bp' ∧ bp' ≤ 6000001) ∧ (0 ≤ bc' ∧ bc' ≤ 61) ∧ va_P (kD K) vcl (shW K q (Kn : Int) mu pr bg ch tr bn' bp' bc' sf) H)) (fun x => q ≤ x ∧ x < q + 7) := by
  obtain ⟨hK4, hbd, hrk⟩ := id hok
  intro d
  induction d with
  | zero =>
    intro k hkd tr bn bp bc mi ct co htr hbp hbc hmi hct hco
    refine ct_of (by decide) (Or.inl ⟨rfl, rfl⟩) ?_
    intro p e s m args below meth c B0 hP0
    obtain ⟨hx, hb, hr, hml, hown, hlocks, hnm, htab⟩ := B0
    obtain ⟨ha, ⟨hT, hK⟩, hB⟩ := hP0
    have hl := lv_entry ([.ref q, .int (iI ((k : Int))), .long (lI mi), .int (iI ct), .int (iI co)]) (n := 11) (Nat.le_of_ble_eq_true rfl)
    obtain ⟨Q, hQ⟩ : ∃ Q, Q = XQ below (QV (fun H => ∃ (bp' bc' : Int) (bn' : Nat → Int), py_R pr k 0 co ct tr (py_F mu k 0 mi ct) bp bc bn bp' bc' bn' ∧ (0 ≤ bp' ∧ bp' ≤ 6000001) ∧ (0 ≤ bc' ∧ bc' ≤ 61) ∧ va_P (kD K) vcl (shW K q (Kn : Int) mu pr bg ch tr bn' bp' bc' sf) H)) args s (rmT 0).cells (rmT 0).slots (fun x => q ≤ x ∧ x < q + 7) := ⟨_, rfl⟩
    rw [← hQ, ha, lg_entry_eq]
    rw [ha] at hQ
    generalize (lg_sl ([.ref q, .int (iI ((k : Int))), .long (lI mi), .int (iI ct), .int (iI co)]) ++ List.replicate (11 - (lg_sl ([.ref q, .int (iI ((k : Int))), .long (lI mi), .int (iI ct), .int (iI co)])).length) Slot.unset).toArray = ls at hl ⊢
    generalize ([.ref q, .int (iI ((k : Int))), .long (lI mi), .int (iI ct), .int (iI co)] : List Value).toArray = args at hQ ⊢
    have hts : ∀ w ∈ TW, w.before args s = true := fun w h => hT w h args
    have hl : lv_has ls 11 [(0, .ref q), (1, .int (iI ((k : Int)))), (2, .long (lI mi)), (4, .int (iI ct)), (5, .int (iI co))] := hl
    obtain ⟨A, hAe⟩ : ∃ A : Addr → Prop, A = (fun x => q ≤ x ∧ x < q + 7) := ⟨_, rfl⟩
    rw [← hAe] at hQ
    have hS : va_S A s.heap s.heap [] := va_S.rf
    have hP : va_P (kD K) vcl [(q, .inr (2, [.int (iI ((Kn : Int))), .ref (q + 1), .ref (q + 2), .ref (q + 3), .ref (q + 4), .ref (q + 5), .ref (q + 6), .int (iI bp), .int (iI bc), .long (lI sf)])), (q + 1, .inl (kI K, 4, .inl (iA mu))), (q + 2, .inl (kI K, 4, .inl (iA pr))), (q + 3, .inl (kI K, 4, .inl (iA bg))), (q + 4, .inl (kI K, 4, .inl (iA ch))), (q + 5, .inl (kI K, 4, .inl (iA tr))), (q + 6, .inl (kI K, 4, .inl (iA bn)))] s.heap := hB
    have hD : va_D A [(q, .inr (2, [.int (iI ((Kn : Int))), .ref (q + 1), .ref (q + 2), .ref (q + 3), .ref (q + 4), .ref (q + 5), .ref (q + 6), .int (iI bp), .int (iI bc), .long (lI sf)])), (q + 1, .inl (kI K, 4, .inl (iA mu))), (q + 2, .inl (kI K, 4, .inl (iA pr))), (q + 3, .inl (kI K, 4, .inl (iA bg))), (q + 4, .inl (kI K, 4, .inl (iA ch))), (q + 5, .inl (kI K, 4, .inl (iA tr))), (q + 6, .inl (kI K, 4, .inl (iA bn)))] := by rw [hAe]; exact va_D_of (by simp) (by simp <;> omega)
    have hcp : ∀ i, k ≤ i → i < k + 0 → 1 ≤ pr i := fun i h1 h2 => (hbd i (by omega)).2.2.1
    refine lv_lload_n hx hb dS_tryKind_0 rfl (lv_at hl 2 rfl) ?_
    refine iz_lconst hx hb 0 rfl dS_tryKind_1 ?_
    refine iz_lc_gt (tgt := 15) hx hb ⟨by omega, by omega⟩ ⟨by omega, by omega⟩ dS_tryKind_2 dS_tryKind_3 (by decide) (fun g1 => ?_) (fun g1 => ?_)
    · refine lv_iload_n hx hb dS_tryKind_15 rfl (lv_at hl 1 rfl) ?_
      refine lv_aload_n hx hb dS_tryKind_16 rfl (lv_at hl 0 rfl) ?_
      refine va_get (D := kD K) (ci := 2) (v := .int (iI ((Kn : Int)))) (C := RS) (T := FS) (N := 10) hx hb hts jnS hown hK hP 0 rfl rfl 0 (by decide) (hts _ mt_52) (fun _ h9 => h9) rfl dS_tryKind_17 ?_
      refine iz_icmp_ge (tgt := 36) hx hb ⟨by omega, by omega⟩ ⟨by omega, by omega⟩ dS_tryKind_20 (by decide) (fun g2 => ?_) (fun g2 => ?_)
      · rw [hQ]
        exact iz_vret hx hb hr hlocks (⟨bp, bc, bn, py_R_end g1, hbp, hbc, hP⟩) hS.2.2 dS_tryKind_36
      · exact absurd g2 (by omega)
    · refine lv_aload_n hx hb dS_tryKind_6 rfl (lv_at hl 0 rfl) ?_
      refine lv_iload hx hb dS_tryKind_7 (lv_at hl 3 rfl) ?_
      refine lv_iload hx hb dS_tryKind_9 (lv_at hl 4 rfl) ?_
      refine ctV (n := 2) hx hb hml hown hT ⟨c_S_keep l K q (Kn : Int) mu pr bg ch tr bn bp bc sf ct co ⟨by omega, by omega⟩ ⟨by omega, by omega⟩ ⟨by omega, by omega⟩ ⟨by omega, by omega⟩, ⟨_, _, _, Or.inl ⟨rfl, rfl⟩⟩, mt_255, mt_3, by decide, by decide +kernel, by show 1 + 1 ≤ 3 + 0; omega, by show 8 + (3 + 11) + 60 ≤ 100 + 40 * 0; omega, Nat.le_of_ble_eq_true rfl, Nat.le_of_ble_eq_true rfl⟩ PC.blind mt_252 mt_254 ms_5 (va_RVof (ci := 2) (q0 := 0) hK hP rfl rfl) (As := [.int (iI ct), .int (iI co)]) (rest := []) rfl (PC.at ⟨hT, hK⟩ hP) hl.1 rfl (Nat.le_of_ble_eq_true rfl) dS_tryKind_11 (krV (c1 := 0) (s1 := 0) rfl rfl (fun t1 H L hA hL hpo => ?_))
      rcases hpo with ⟨hn, hP⟩ | ⟨hn, hP⟩
      · rw [hQ]
        exact iz_vret hx hb hr hlocks (⟨bp, bc, bn, (py_R_zero (mu := mu) (mi := mi) (tr := tr) (by omega) hct.2 hcp htr).1 hn, hbp, hbc, hP⟩) (fun x hx => by rw [hAe]; exact hL x (by simpa using hx)) dS_tryKind_14
      · obtain ⟨hR, -⟩ : py_R pr k 0 co ct tr (py_F mu k 0 mi ct) bp bc bn co ct (fun j => if j < 4 then tr j else bn j) ∧ True := by
          refine ⟨?_, trivial⟩
          rcases (py_R_zero (mu := mu) (mi := mi) (tr := tr) (bn := bn) (by omega) hct.2 hcp htr).2 hn with ⟨e1, e2, -, e4⟩ | ⟨n, e1, e2, e3, e4, e5⟩
          · exact absurd hn (by rw [← e1, ← e2]; unfold py_bt; omega)
          · exact Or.inr ⟨n, e1, e2, e3, fun i hi => (show (if i < 4 then tr i else bn i) = tr i from if_pos hi).trans (e4 i hi), e5⟩
        rw [hQ]
        exact iz_vret hx hb hr hlocks (⟨co, ct, (fun j => if j < 4 then tr j else bn j), hR, ⟨by omega, by omega⟩, ⟨by omega, by omega⟩, hP⟩) (fun x hx => by rw [hAe]; exact hL x (by simpa using hx)) dS_tryKind_14
  | succ d ih =>
    intro k hkd tr bn bp bc mi ct co htr hbp hbc hmi hct hco
    refine ct_of (by decide) (Or.inl ⟨rfl, rfl⟩) ?_
    intro p e s m args below meth c B0 hP0
    obtain ⟨hx, hb, hr, hml, hown, hlocks, hnm, htab⟩ := B0
    obtain ⟨ha, ⟨hT, hK⟩, hB⟩ := hP0
    have hl := lv_entry ([.ref q, .int (iI ((k : Int))), .long (lI mi), .int (iI ct), .int (iI co)]) (n := 11) (Nat.le_of_ble_eq_true rfl)
    obtain ⟨Q, hQ⟩ : ∃ Q, Q = XQ below (QV (fun H => ∃ (bp' bc' : Int) (bn' : Nat → Int), py_R pr k (d + 1) co ct tr (py_F mu k (d + 1) mi ct) bp bc bn bp' bc' bn' ∧ (0 ≤ bp' ∧ bp' ≤ 6000001) ∧ (0 ≤ bc' ∧ bc' ≤ 61) ∧ va_P (kD K) vcl (shW K q (Kn : Int) mu pr bg ch tr bn' bp' bc' sf) H)) args s (rmT (d + 1)).cells (rmT (d + 1)).slots (fun x => q ≤ x ∧ x < q + 7) := ⟨_, rfl⟩
    rw [← hQ, ha, lg_entry_eq]
    rw [ha] at hQ
    generalize (lg_sl ([.ref q, .int (iI ((k : Int))), .long (lI mi), .int (iI ct), .int (iI co)]) ++ List.replicate (11 - (lg_sl ([.ref q, .int (iI ((k : Int))), .long (lI mi), .int (iI ct), .int (iI co)])).length) Slot.unset).toArray = ls at hl ⊢
    generalize ([.ref q, .int (iI ((k : Int))), .long (lI mi), .int (iI ct), .int (iI co)] : List Value).toArray = args at hQ ⊢
    have hts : ∀ w ∈ TW, w.before args s = true := fun w h => hT w h args
    have hl : lv_has ls 11 [(0, .ref q), (1, .int (iI ((k : Int)))), (2, .long (lI mi)), (4, .int (iI ct)), (5, .int (iI co))] := hl
    obtain ⟨A, hAe⟩ : ∃ A : Addr → Prop, A = (fun x => q ≤ x ∧ x < q + 7) := ⟨_, rfl⟩
    rw [← hAe] at hQ
    have hS : va_S A s.heap s.heap [] := va_S.rf
    have hP : va_P (kD K) vcl [(q, .inr (2, [.int (iI ((Kn : Int))), .ref (q + 1), .ref (q + 2), .ref (q + 3), .ref (q + 4), .ref (q + 5), .ref (q + 6), .int (iI bp), .int (iI bc), .long (lI sf)])), (q + 1, .inl (kI K, 4, .inl (iA mu))), (q + 2, .inl (kI K, 4, .inl (iA pr))), (q + 3, .inl (kI K, 4, .inl (iA bg))), (q + 4, .inl (kI K, 4, .inl (iA ch))), (q + 5, .inl (kI K, 4, .inl (iA tr))), (q + 6, .inl (kI K, 4, .inl (iA bn)))] s.heap := hB
    have hD : va_D A [(q, .inr (2, [.int (iI ((Kn : Int))), .ref (q + 1), .ref (q + 2), .ref (q + 3), .ref (q + 4), .ref (q + 5), .ref (q + 6), .int (iI bp), .int (iI bc), .long (lI sf)])), (q + 1, .inl (kI K, 4, .inl (iA mu))), (q + 2, .inl (kI K, 4, .inl (iA pr))), (q + 3, .inl (kI K, 4, .inl (iA bg))), (q + 4, .inl (kI K, 4, .inl (iA ch))), (q + 5, .inl (kI K, 4, .inl (iA tr))), (q + 6, .inl (kI K, 4, .inl (iA bn)))] := by rw [hAe]; exact va_D_of (by simp) (by simp <;> omega)
    have hcp : ∀ i, k ≤ i → i < k + (d + 1) → 1 ≤ pr i := fun i h1 h2 => (hbd i (by omega)).2.2.1
    refine lv_lload_n hx hb dS_tryKind_0 rfl (lv_at hl 2 rfl) ?_
    refine iz_lconst hx hb 0 rfl dS_tryKind_1 ?_
    refine iz_lc_gt (tgt := 15) hx hb ⟨by omega, by omega⟩ ⟨by omega, by omega⟩ dS_tryKind_2 dS_tryKind_3 (by decide) (fun g1 => ?_) (fun g1 => ?_)
    · refine lv_iload_n hx hb dS_tryKind_15 rfl (lv_at hl 1 rfl) ?_
      refine lv_aload_n hx hb dS_tryKind_16 rfl (lv_at hl 0 rfl) ?_
      refine va_get (D := kD K) (ci := 2) (v := .int (iI ((Kn : Int)))) (C := RS) (T := FS) (N := 10) hx hb hts jnS hown hK hP 0 rfl rfl 0 (by decide) (hts _ mt_52) (fun _ h9 => h9) rfl dS_tryKind_17 ?_
      refine iz_icmp_ge (tgt := 36) hx hb ⟨by omega, by omega⟩ ⟨by omega, by omega⟩ dS_tryKind_20 (by decide) (fun g2 => ?_) (fun g2 => ?_)
      · exact absurd g2 (by omega)
      · obtain ⟨bi, ci, hbi, hci, hb4, hc4, hbm, hcm⟩ := hrk k (by omega)
        have qk := hbd k (by omega)
        have qb := hbd bi hb4
        have qc := hbd ci hc4
        refine lv_aload_n hx hb dS_tryKind_23 rfl (lv_at hl 0 rfl) ?_
        refine lv_iload_n hx hb dS_tryKind_24 rfl (lv_at hl 1 rfl) ?_
        refine lv_lload_n hx hb dS_tryKind_25 rfl (lv_at hl 2 rfl) ?_
        refine lv_iload hx hb dS_tryKind_26 (lv_at hl 3 rfl) ?_
        refine lv_iload hx hb dS_tryKind_28 (lv_at hl 4 rfl) ?_
        refine ctV (n := 4) hx hb hml hown hT ⟨c_S_hopeless l K q (Kn : Int) mu pr bg ch tr bn bp bc sf k bi ci mi ct co (by omega) hbi (by omega) hci (by omega) ⟨by omega, by omega⟩ ⟨by omega, by omega⟩ ⟨by omega, by omega⟩ ⟨by omega, by omega⟩ hct ⟨by omega, by omega⟩ ⟨by omega, by omega⟩ ⟨by omega, by omega⟩, ⟨_, _, _, Or.inl ⟨rfl, rfl⟩⟩, mt_266, mt_3, by decide, by decide +kernel, by show 1 + 1 ≤ 3 + (d + 1); omega, by show 8 + (11 + 11) + 60 ≤ 100 + 40 * (d + 1); omega, Nat.le_of_ble_eq_true rfl, Nat.le_of_ble_eq_true rfl⟩ PC.blind mt_263 mt_265 ms_7 (va_RVof (ci := 2) (q0 := 0) hK hP rfl rfl) (As := [.int (iI ((k : Int))), .long (lI mi), .int (iI ct), .int (iI co)]) (rest := []) rfl (PC.at ⟨hT, hK⟩ hP) hl.1 rfl (Nat.le_of_ble_eq_true rfl) dS_tryKind_30 (krI0 rfl rfl (fun _ h => h) (fun r hr9 => ?_))
        refine iz_if_eq (tgt := 37) hx hb (by rcases hr9 with ⟨rfl, -⟩ | rfl <;> exact ⟨by omega, by omega⟩) dS_tryKind_33 (by decide) (fun g3 => ?_) (fun g3 => ?_)
        · refine lv_lload_n hx hb dS_tryKind_37 rfl (lv_at hl 2 rfl) ?_
          refine lv_aload_n hx hb dS_tryKind_38 rfl (lv_at hl 0 rfl) ?_
          refine va_get (D := kD K) (ci := 2) (v := .ref (q + 1)) (C := RS) (T := FS) (N := 10) hx hb hts jnS hown hK hP 0 rfl rfl 1 (by decide) (hts _ mt_54) (fun _ h9 => h9) rfl dS_tryKind_39 ?_
          refine lv_iload_n hx hb dS_tryKind_42 rfl (lv_at hl 1 rfl) ?_
          refine iz_iald hx hb hK hP 1 rfl k rfl (by omega) (by omega) dS_tryKind_43 ?_
          refine ctSN (n := 2) hx hb hml hown hT ⟨c_X_ratio l K mi (mu k) (by omega) (by omega) (by omega) (by omega), ⟨_, _, _, Or.inl ⟨rfl, rfl⟩⟩, mt_226, mt_1, by decide, by decide +kernel, by show 0 + 1 ≤ 3 + (d + 1); omega, by show 8 + (3 + 11) + 0 ≤ 100 + 40 * (d + 1); omega, Nat.le_of_ble_eq_true rfl, Nat.le_of_ble_eq_true rfl⟩ PC.blind mt_240 mt_225 (As := [.long (lI mi), .int (iI (mu k))]) (rest := []) rfl (PC.at ⟨hT, hK⟩ trivial) hl.1 rfl (Nat.le_of_ble_eq_true rfl) dS_tryKind_44 (krL0 rfl rfl (fun _ h => h) (fun en hen => ?_))
          have hc1 := cdiv_bd (show 0 < mu k by omega) (show 0 ≤ mi by omega)
          have hc3 := cdiv_ub (a := mi) (show 0 < mu k by omega)
          rw [← hen] at hc1 hc3
          refine lv_lstore (lv' := [(6, .long (lI en)), (0, .ref q), (1, .int (iI ((k : Int)))), (2, .long (lI mi)), (4, .int (iI ct)), (5, .int (iI co))]) hx hb dS_tryKind_47 hl (by decide) rfl (fun ls hl => ?_)
          refine lv_lload hx hb dS_tryKind_49 (lv_at hl 0 rfl) ?_
          refine iz_bipush hx hb dS_tryKind_51 (by decide) ?_
          refine lv_iload hx hb dS_tryKind_53 (lv_at hl 4 rfl) ?_
          refine iz_isub hx hb dS_tryKind_55 ?_
          refine iz_i2l hx hb ⟨by omega, by omega⟩ dS_tryKind_56 ?_
          refine iz_minL hx hb hml hl.1 hown hT mt_242 (by show 1 ≤ 3 + (d + 1); omega) (by show _ ≤ 100 + 40 * (d + 1); show 0 + 15 ≤ 100 + 40 * (d + 1); omega) (Nat.le_of_ble_eq_true rfl) (Nat.le_of_ble_eq_true rfl) ⟨by omega, by omega⟩ ⟨by omega, by omega⟩ dS_tryKind_57 ?_
          obtain ⟨mo, hmo⟩ : ∃ mo : Int, mo = if 60 - ct < en then 60 - ct else en := ⟨_, rfl⟩
          rw [← hmo]
          have hmb : 0 ≤ mo ∧ mo ≤ 60 - ct ∧ mo ≤ en := by rw [hmo]; split <;> omega
          have loop : ∀ (j : Nat) (v le : Int), le = (if d = 0 then mo else 0) → v + 1 - le = j → v ≤ mo → ∀ (bp1 bc1 x : Int) (bn1 : Nat → Int), (0 ≤ bp1 ∧ bp1 ≤ 6000001) → (0 ≤ bc1 ∧ bc1 ≤ 61) → py_R pr k (d + 1) co ct tr (fun n => py_F mu k (d + 1) mi ct n ∧ v < n k ∧ n k ≤ mo) bp bc bn bp1 bc1 bn1 → ∀ (H : Heap) (locs : List Loc), va_P (kD K) vcl [(q, .inr (2, [.int (iI ((Kn : Int))), .ref (q + 1), .ref (q + 2), .ref (q + 3), .ref (q + 4), .ref (q + 5), .ref (q + 6), .int (iI bp1), .int (iI bc1), .long (lI sf)])), (q + 1, .inl (kI K, 4, .inl (iA mu))), (q + 2, .inl (kI K, 4, .inl (iA pr))), (q + 3, .inl (kI K, 4, .inl (iA bg))), (q + 4, .inl (kI K, 4, .inl (iA ch))), (q + 5, .inl (kI K, 4, .inl (iA (ut tr k x)))), (q + 6, .inl (kI K, 4, .inl (iA bn1)))] H → va_D A [(q, .inr (2, [.int (iI ((Kn : Int))), .ref (q + 1), .ref (q + 2), .ref (q + 3), .ref (q + 4), .ref (q + 5), .ref (q + 6), .int (iI bp1), .int (iI bc1), .long (lI sf)])), (q + 1, .inl (kI K, 4, .inl (iA mu))), (q + 2, .inl (kI K, 4, .inl (iA pr))), (q + 3, .inl (kI K, 4, .inl (iA bg))), (q + 4, .inl (kI K, 4, .inl (iA ch))), (q + 5, .inl (kI K, 4, .inl (iA (ut tr k x)))), (q + 6, .inl (kI K, 4, .inl (iA bn1)))] → va_S A s.heap H locs → ∀ ls : Array Slot, lv_has ls 11 [(0, .ref q), (1, .int (iI ((k : Int)))), (2, .long (lI mi)), (4, .int (iI ct)), (5, .int (iI co)), (8, .int (iI mo)), (9, .int (iI le)), (10, .int (iI v))] → W p l e (rmT (d + 1)) s m args below meth c H locs 0 0 Q (F0 m 85 ls []) := by
            intro j
            induction j with
            | zero =>
              intro v le hle hj hv bp1 bc1 x bn1 hb1 hb2 hR H locs hP hD hS ls hl
              have hle0 : 0 ≤ le ∧ le ≤ mo := by rw [hle]; split <;> omega
              refine lv_iload hx hb dS_tryKind_85 (lv_at hl 7 rfl) ?_
              refine lv_iload hx hb dS_tryKind_87 (lv_at hl 6 rfl) ?_
              refine iz_icmp_lt (tgt := 143) hx hb ⟨by omega, by omega⟩ ⟨by omega, by omega⟩ dS_tryKind_89 (by decide) (fun g4 => ?_) (fun g4 => ?_)
              · refine lv_aload_n hx hb dS_tryKind_143 rfl (lv_at hl 0 rfl) ?_
                refine va_get (D := kD K) (ci := 2) (v := .ref (q + 5)) (C := RS) (T := FS) (N := 10) hx hb hts jnS hown hK hP 0 rfl rfl 5 (by decide) (hts _ mt_58) (fun _ h9 => h9) rfl dS_tryKind_144 ?_
                refine lv_iload_n hx hb dS_tryKind_147 rfl (lv_at hl 1 rfl) ?_
                refine iz_iconst hx hb dS_tryKind_148 ?_
                refine iz_iast hx hb hK hP hD hS 5 rfl k rfl (by omega) (by omega) dS_tryKind_149 (fun H locs hP hD hS => ?_)
                have hP : va_P (kD K) vcl [(q, .inr (2, [.int (iI ((Kn : Int))), .ref (q + 1), .ref (q + 2), .ref (q + 3), .ref (q + 4), .ref (q + 5), .ref (q + 6), .int (iI bp1), .int (iI bc1), .long (lI sf)])), (q + 1, .inl (kI K, 4, .inl (iA mu))), (q + 2, .inl (kI K, 4, .inl (iA pr))), (q + 3, .inl (kI K, 4, .inl (iA bg))), (q + 4, .inl (kI K, 4, .inl (iA ch))), (q + 5, .inl (kI K, 4, .inl (iA (ut (ut tr k x) k 0)))), (q + 6, .inl (kI K, 4, .inl (iA bn1)))] H := hP
                have hD : va_D A [(q, .inr (2, [.int (iI ((Kn : Int))), .ref (q + 1), .ref (q + 2), .ref (q + 3), .ref (q + 4), .ref (q + 5), .ref (q + 6), .int (iI bp1), .int (iI bc1), .long (lI sf)])), (q + 1, .inl (kI K, 4, .inl (iA mu))), (q + 2, .inl (kI K, 4, .inl (iA pr))), (q + 3, .inl (kI K, 4, .inl (iA bg))), (q + 4, .inl (kI K, 4, .inl (iA ch))), (q + 5, .inl (kI K, 4, .inl (iA (ut (ut tr k x) k 0)))), (q + 6, .inl (kI K, 4, .inl (iA bn1)))] := hD
                rw [ut_ut, ut_id tr k (htr k (by omega))] at hP
                rw [hQ]
                exact iz_vret hx hb hr hlocks (⟨bp1, bc1, bn1, py_R_all (most := mo) (least := le) (by omega) (fun i h1 h2 => (hbd i (by omega)).1) hcp hct.2 (by rw [hmo, hen]) hle (py_R_congr (fun n => ⟨fun h => ⟨h.1, by omega, h.2.2⟩, fun h => ⟨h.1, by omega, h.2.2⟩⟩) hR), hb1, hb2, hP⟩) hS.2.2 dS_tryKind_150
              · exact absurd g4 (by omega)
            | succ j ihj =>
              intro v le hle hj hv bp1 bc1 x bn1 hb1 hb2 hR H locs hP hD hS ls hl
              have hle0 : 0 ≤ le ∧ le ≤ mo := by rw [hle]; split <;> omega
              refine lv_iload hx hb dS_tryKind_85 (lv_at hl 7 rfl) ?_
              refine lv_iload hx hb dS_tryKind_87 (lv_at hl 6 rfl) ?_
              refine iz_icmp_lt (tgt := 143) hx hb ⟨by omega, by omega⟩ ⟨by omega, by omega⟩ dS_tryKind_89 (by decide) (fun g4 => ?_) (fun g4 => ?_)
              · exact absurd g4 (by omega)
              · have hv1 := mul_bd (show 0 ≤ v by omega) (show v ≤ en by omega) (show 0 ≤ mu k by omega) (Int.le_refl (mu k))
                have hv2 := mul_bd (show 0 ≤ v by omega) (Int.le_refl v) (show 0 ≤ pr k by omega) qk.2.2.2
                refine lv_aload_n hx hb dS_tryKind_92 rfl (lv_at hl 0 rfl) ?_
                refine va_get (D := kD K) (ci := 2) (v := .ref (q + 5)) (C := RS) (T := FS) (N := 10) hx hb hts jnS hown hK hP 0 rfl rfl 5 (by decide) (hts _ mt_58) (fun _ h9 => h9) rfl dS_tryKind_93 ?_
                refine lv_iload_n hx hb dS_tryKind_96 rfl (lv_at hl 1 rfl) ?_
                refine lv_iload hx hb dS_tryKind_97 (lv_at hl 7 rfl) ?_
                refine iz_iast hx hb hK hP hD hS 5 rfl k rfl (by omega) (by omega) dS_tryKind_99 (fun H locs hP hD hS => ?_)
                have hP : va_P (kD K) vcl [(q, .inr (2, [.int (iI ((Kn : Int))), .ref (q + 1), .ref (q + 2), .ref (q + 3), .ref (q + 4), .ref (q + 5), .ref (q + 6), .int (iI bp1), .int (iI bc1), .long (lI sf)])), (q + 1, .inl (kI K, 4, .inl (iA mu))), (q + 2, .inl (kI K, 4, .inl (iA pr))), (q + 3, .inl (kI K, 4, .inl (iA bg))), (q + 4, .inl (kI K, 4, .inl (iA ch))), (q + 5, .inl (kI K, 4, .inl (iA (ut (ut tr k x) k v)))), (q + 6, .inl (kI K, 4, .inl (iA bn1)))] H := hP
                have hD : va_D A [(q, .inr (2, [.int (iI ((Kn : Int))), .ref (q + 1), .ref (q + 2), .ref (q + 3), .ref (q + 4), .ref (q + 5), .ref (q + 6), .int (iI bp1), .int (iI bc1), .long (lI sf)])), (q + 1, .inl (kI K, 4, .inl (iA mu))), (q + 2, .inl (kI K, 4, .inl (iA pr))), (q + 3, .inl (kI K, 4, .inl (iA bg))), (q + 4, .inl (kI K, 4, .inl (iA ch))), (q + 5, .inl (kI K, 4, .inl (iA (ut (ut tr k x) k v)))), (q + 6, .inl (kI K, 4, .inl (iA bn1)))] := hD
                refine lv_aload_n hx hb dS_tryKind_100 rfl (lv_at hl 0 rfl) ?_
                refine lv_iload_n hx hb dS_tryKind_101 rfl (lv_at hl 1 rfl) ?_
                refine iz_iconst hx hb dS_tryKind_102 ?_
                refine iz_iadd hx hb dS_tryKind_103 ?_
                refine lv_lload_n hx hb dS_tryKind_104 rfl (lv_at hl 2 rfl) ?_
                refine lv_iload hx hb dS_tryKind_105 (lv_at hl 7 rfl) ?_
                refine iz_i2l hx hb ⟨by omega, by omega⟩ dS_tryKind_107 ?_
                refine lv_aload_n hx hb dS_tryKind_108 rfl (lv_at hl 0 rfl) ?_
                refine va_get (D := kD K) (ci := 2) (v := .ref (q + 1)) (C := RS) (T := FS) (N := 10) hx hb hts jnS hown hK hP 0 rfl rfl 1 (by decide) (hts _ mt_54) (fun _ h9 => h9) rfl dS_tryKind_109 ?_
                refine lv_iload_n hx hb dS_tryKind_112 rfl (lv_at hl 1 rfl) ?_
                refine iz_iald hx hb hK hP 1 rfl k rfl (by omega) (by omega) dS_tryKind_113 ?_
                refine iz_i2l hx hb ⟨by omega, by omega⟩ dS_tryKind_114 ?_
                refine iz_lmul hx hb dS_tryKind_115 ?_
                refine iz_lsub hx hb dS_tryKind_116 ?_
                refine lv_iload hx hb dS_tryKind_117 (lv_at hl 3 rfl) ?_
                refine lv_iload hx hb dS_tryKind_119 (lv_at hl 7 rfl) ?_
                refine iz_iadd hx hb dS_tryKind_121 ?_
                refine lv_iload hx hb dS_tryKind_122 (lv_at hl 4 rfl) ?_
                refine lv_iload hx hb dS_tryKind_124 (lv_at hl 7 rfl) ?_
                refine lv_aload_n hx hb dS_tryKind_126 rfl (lv_at hl 0 rfl) ?_
                refine va_get (D := kD K) (ci := 2) (v := .ref (q + 2)) (C := RS) (T := FS) (N := 10) hx hb hts jnS hown hK hP 0 rfl rfl 2 (by decide) (hts _ mt_55) (fun _ h9 => h9) rfl dS_tryKind_127 ?_
                refine lv_iload_n hx hb dS_tryKind_130 rfl (lv_at hl 1 rfl) ?_
                refine iz_iald hx hb hK hP 2 rfl k rfl (by omega) (by omega) dS_tryKind_131 ?_
                refine iz_imul hx hb dS_tryKind_132 ?_
                refine iz_iadd hx hb dS_tryKind_133 ?_
                rw [ut_ut] at hP hD
                refine ctV (n := 4) hx hb hml hown hT ⟨ih (k + 1) (by omega) (ut tr k v) bn1 bp1 bc1 (mi - v * mu k) (ct + v) (co + v * pr k) (fun i hi => by rw [ut_n tr v (show i ≠ k by omega)]; exact htr i (by omega)) hb1 hb2 ⟨by omega, by omega⟩ ⟨by omega, by omega⟩ ⟨by omega, by omega⟩, ⟨_, _, _, Or.inl ⟨rfl, rfl⟩⟩, mt_251, mt_3, by decide, by decide +kernel, by show 3 + d + 1 ≤ 3 + (d + 1); omega, by show 8 + (11 + 11) + (100 + 40 * d) ≤ 100 + 40 * (d + 1); omega, Nat.le_of_ble_eq_true rfl, Nat.le_of_ble_eq_true rfl⟩ PC.blind mt_248 mt_250 ms_4 (va_RVof (ci := 2) (q0 := 0) hK hP rfl rfl) (As := [.int (iI (((k : Int)) + 1)), .long (lI (mi - (v * (mu k)))), .int (iI (ct + v)), .int (iI (co + (v * (pr k))))]) (rest := []) rfl (PC.at ⟨hT, hK⟩ hP) hl.1 rfl (Nat.le_of_ble_eq_true rfl) dS_tryKind_134 (krV (c1 := 0) (s1 := 0) rfl rfl (fun t1 H1 L hA hL hpo => ?_))
                obtain ⟨bp2, bc2, bn2, hR2, hb3, hb4, hP⟩ := hpo
                have hS := hA.S hS (fun x hx => by rw [hAe]; exact hx) hL
                have hD : va_D A [(q, .inr (2, [.int (iI ((Kn : Int))), .ref (q + 1), .ref (q + 2), .ref (q + 3), .ref (q + 4), .ref (q + 5), .ref (q + 6), .int (iI bp2), .int (iI bc2), .long (lI sf)])), (q + 1, .inl (kI K, 4, .inl (iA mu))), (q + 2, .inl (kI K, 4, .inl (iA pr))), (q + 3, .inl (kI K, 4, .inl (iA bg))), (q + 4, .inl (kI K, 4, .inl (iA ch))), (q + 5, .inl (kI K, 4, .inl (iA (ut tr k v)))), (q + 6, .inl (kI K, 4, .inl (iA bn2)))] := by rw [hAe]; exact va_D_of (by simp) (by simp <;> omega)
                refine iz_iinc (k := 7) (lv' := [(10, .int (iI (v + (-1)))), (0, .ref q), (1, .int (iI ((k : Int)))), (2, .long (lI mi)), (4, .int (iI ct)), (5, .int (iI co)), (8, .int (iI mo)), (9, .int (iI le))]) hx hb dS_tryKind_137 hl rfl (by decide) rfl (fun ls hl => ?_)
                refine lv_goto (tgt := 85) hx hb dS_tryKind_140 (by decide) ?_
                exact ihj (v + -1) le hle (by omega) (by omega) bp2 bc2 v bn2 hb3 hb4 (py_R_two hR (py_R_lift (mu := mu) (mi := mi) (by omega) hR2) (fun n => ⟨fun h => by by_cases e : n k = v; exact Or.inr ⟨h.1, e⟩; exact Or.inl ⟨h.1, by omega, h.2.2⟩, fun h => by rcases h with h | h; exact ⟨h.1, by omega, h.2.2⟩; exact ⟨h.1, by omega, by omega⟩⟩) (fun n n' h1 h2 => Or.inl (by omega))) H1 _ hP hD hS ls (lv_sub hl [1, 2, 3, 4, 5, 6, 7, 0] rfl)
          refine iz_l2i hx hb dS_tryKind_60 ?_
          refine lv_istore (lv' := [(8, .int (iI mo)), (6, .long (lI en)), (0, .ref q), (1, .int (iI ((k : Int)))), (2, .long (lI mi)), (4, .int (iI ct)), (5, .int (iI co))]) hx hb dS_tryKind_61 hl (by decide) rfl (fun ls hl => ?_)
          refine lv_iload_n hx hb dS_tryKind_63 rfl (lv_at hl 3 rfl) ?_
          refine lv_aload_n hx hb dS_tryKind_64 rfl (lv_at hl 2 rfl) ?_
          refine va_get (D := kD K) (ci := 2) (v := .int (iI ((Kn : Int)))) (C := RS) (T := FS) (N := 10) hx hb hts jnS hown hK hP 0 rfl rfl 0 (by decide) (hts _ mt_52) (fun _ h9 => h9) rfl dS_tryKind_65 ?_
          refine iz_iconst hx hb dS_tryKind_68 ?_
          refine iz_isub hx hb dS_tryKind_69 ?_
          refine iz_icmp_ne (tgt := 78) hx hb ⟨by omega, by omega⟩ ⟨by omega, by omega⟩ dS_tryKind_70 (by decide) (fun g5 => ?_) (fun g5 => ?_)
          · refine iz_iconst hx hb dS_tryKind_78 ?_
            refine lv_istore (lv' := [(9, .int (iI 0)), (8, .int (iI mo)), (6, .long (lI en)), (0, .ref q), (1, .int (iI ((k : Int)))), (2, .long (lI mi)), (4, .int (iI ct)), (5, .int (iI co))]) hx hb dS_tryKind_79 hl (by decide) rfl (fun ls hl => ?_)
            refine lv_iload hx hb dS_tryKind_81 (lv_at hl 1 rfl) ?_
            refine lv_istore (lv' := [(10, .int (iI mo)), (9, .int (iI 0)), (8, .int (iI mo)), (6, .long (lI en)), (0, .ref q), (1, .int (iI ((k : Int)))), (2, .long (lI mi)), (4, .int (iI ct)), (5, .int (iI co))]) hx hb dS_tryKind_83 hl (by decide) rfl (fun ls hl => ?_)
            have hP : va_P (kD K) vcl [(q, .inr (2, [.int (iI ((Kn : Int))), .ref (q + 1), .ref (q + 2), .ref (q + 3), .ref (q + 4), .ref (q + 5), .ref (q + 6), .int (iI bp), .int (iI bc), .long (lI sf)])), (q + 1, .inl (kI K, 4, .inl (iA mu))), (q + 2, .inl (kI K, 4, .inl (iA pr))), (q + 3, .inl (kI K, 4, .inl (iA bg))), (q + 4, .inl (kI K, 4, .inl (iA ch))), (q + 5, .inl (kI K, 4, .inl (iA (ut tr k 0)))), (q + 6, .inl (kI K, 4, .inl (iA bn)))] s.heap := by rw [ut_id tr k (htr k (by omega))]; exact hP
            have hD : va_D A [(q, .inr (2, [.int (iI ((Kn : Int))), .ref (q + 1), .ref (q + 2), .ref (q + 3), .ref (q + 4), .ref (q + 5), .ref (q + 6), .int (iI bp), .int (iI bc), .long (lI sf)])), (q + 1, .inl (kI K, 4, .inl (iA mu))), (q + 2, .inl (kI K, 4, .inl (iA pr))), (q + 3, .inl (kI K, 4, .inl (iA bg))), (q + 4, .inl (kI K, 4, .inl (iA ch))), (q + 5, .inl (kI K, 4, .inl (iA (ut tr k 0)))), (q + 6, .inl (kI K, 4, .inl (iA bn)))] := by rw [hAe]; exact va_D_of (by simp) (by simp <;> omega)
            exact loop (mo + 1 - 0).toNat mo 0 (by rw [if_neg (by omega)]) (by omega) (by omega) bp bc 0 bn hbp hbc (py_R_none (fun n hn => absurd hn.2 (by omega))) s.heap [] hP hD hS ls (lv_sub hl [4, 5, 6, 7, 8, 2, 1, 0] rfl)
          · refine lv_iload hx hb dS_tryKind_73 (lv_at hl 0 rfl) ?_
            refine lv_goto (tgt := 79) hx hb dS_tryKind_75 (by decide) ?_
            refine lv_istore (lv' := [(9, .int (iI mo)), (8, .int (iI mo)), (6, .long (lI en)), (0, .ref q), (1, .int (iI ((k : Int)))), (2, .long (lI mi)), (4, .int (iI ct)), (5, .int (iI co))]) hx hb dS_tryKind_79 hl (by decide) rfl (fun ls hl => ?_)
            refine lv_iload hx hb dS_tryKind_81 (lv_at hl 1 rfl) ?_
            refine lv_istore (lv' := [(10, .int (iI mo)), (9, .int (iI mo)), (8, .int (iI mo)), (6, .long (lI en)), (0, .ref q), (1, .int (iI ((k : Int)))), (2, .long (lI mi)), (4, .int (iI ct)), (5, .int (iI co))]) hx hb dS_tryKind_83 hl (by decide) rfl (fun ls hl => ?_)
            have hP : va_P (kD K) vcl [(q, .inr (2, [.int (iI ((Kn : Int))), .ref (q + 1), .ref (q + 2), .ref (q + 3), .ref (q + 4), .ref (q + 5), .ref (q + 6), .int (iI bp), .int (iI bc), .long (lI sf)])), (q + 1, .inl (kI K, 4, .inl (iA mu))), (q + 2, .inl (kI K, 4, .inl (iA pr))), (q + 3, .inl (kI K, 4, .inl (iA bg))), (q + 4, .inl (kI K, 4, .inl (iA ch))), (q + 5, .inl (kI K, 4, .inl (iA (ut tr k 0)))), (q + 6, .inl (kI K, 4, .inl (iA bn)))] s.heap := by rw [ut_id tr k (htr k (by omega))]; exact hP
            have hD : va_D A [(q, .inr (2, [.int (iI ((Kn : Int))), .ref (q + 1), .ref (q + 2), .ref (q + 3), .ref (q + 4), .ref (q + 5), .ref (q + 6), .int (iI bp), .int (iI bc), .long (lI sf)])), (q + 1, .inl (kI K, 4, .inl (iA mu))), (q + 2, .inl (kI K, 4, .inl (iA pr))), (q + 3, .inl (kI K, 4, .inl (iA bg))), (q + 4, .inl (kI K, 4, .inl (iA ch))), (q + 5, .inl (kI K, 4, .inl (iA (ut tr k 0)))), (q + 6, .inl (kI K, 4, .inl (iA bn)))] := by rw [hAe]; exact va_D_of (by simp) (by simp <;> omega)
            exact loop (mo + 1 - mo).toNat mo mo (by rw [if_pos (by omega)]) (by omega) (by omega) bp bc 0 bn hbp hbc (py_R_none (fun n hn => absurd hn.2 (by omega))) s.heap [] hP hD hS ls (lv_sub hl [4, 5, 6, 7, 8, 2, 1, 0] rfl)
        · rw [hQ]
          exact iz_vret hx hb hr hlocks (⟨bp, bc, bn, py_R_hopeless (big := bi) (ch := ci) (by omega) (fun i h1 h2 => hbm i h1 (by omega)) (by omega) (by omega) (fun i h1 h2 => hcm i h1 (by omega)) (by rcases hr9 with ⟨-, h⟩ | h; exact h; exact absurd h g3), hbp, hbc, hP⟩) hS.2.2 dS_tryKind_36
    · refine lv_aload_n hx hb dS_tryKind_6 rfl (lv_at hl 0 rfl) ?_
      refine lv_iload hx hb dS_tryKind_7 (lv_at hl 3 rfl) ?_
      refine lv_iload hx hb dS_tryKind_9 (lv_at hl 4 rfl) ?_
      refine ctV (n := 2) hx hb hml hown hT ⟨c_S_keep l K q (Kn : Int) mu pr bg ch tr bn bp bc sf ct co ⟨by omega, by omega⟩ ⟨by omega, by omega⟩ ⟨by omega, by omega⟩ ⟨by omega, by omega⟩, ⟨_, _, _, Or.inl ⟨rfl, rfl⟩⟩, mt_255, mt_3, by decide, by decide +kernel, by show 1 + 1 ≤ 3 + (d + 1); omega, by show 8 + (3 + 11) + 60 ≤ 100 + 40 * (d + 1); omega, Nat.le_of_ble_eq_true rfl, Nat.le_of_ble_eq_true rfl⟩ PC.blind mt_252 mt_254 ms_5 (va_RVof (ci := 2) (q0 := 0) hK hP rfl rfl) (As := [.int (iI ct), .int (iI co)]) (rest := []) rfl (PC.at ⟨hT, hK⟩ hP) hl.1 rfl (Nat.le_of_ble_eq_true rfl) dS_tryKind_11 (krV (c1 := 0) (s1 := 0) rfl rfl (fun t1 H L hA hL hpo => ?_))
      rcases hpo with ⟨hn, hP⟩ | ⟨hn, hP⟩
      · rw [hQ]
        exact iz_vret hx hb hr hlocks (⟨bp, bc, bn, (py_R_zero (mu := mu) (mi := mi) (tr := tr) (by omega) hct.2 hcp htr).1 hn, hbp, hbc, hP⟩) (fun x hx => by rw [hAe]; exact hL x (by simpa using hx)) dS_tryKind_14
      · obtain ⟨hR, -⟩ : py_R pr k (d + 1) co ct tr (py_F mu k (d + 1) mi ct) bp bc bn co ct (fun j => if j < 4 then tr j else bn j) ∧ True := by
          refine ⟨?_, trivial⟩
          rcases (py_R_zero (mu := mu) (mi := mi) (tr := tr) (bn := bn) (by omega) hct.2 hcp htr).2 hn with ⟨e1, e2, -, e4⟩ | ⟨n, e1, e2, e3, e4, e5⟩
          · exact absurd hn (by rw [← e1, ← e2]; unfold py_bt; omega)
          · exact Or.inr ⟨n, e1, e2, e3, fun i hi => (show (if i < 4 then tr i else bn i) = tr i from if_pos hi).trans (e4 i hi), e5⟩
        rw [hQ]
        exact iz_vret hx hb hr hlocks (⟨co, ct, (fun j => if j < 4 then tr j else bn j), hR, ⟨by omega, by omega⟩, ⟨by omega, by omega⟩, hP⟩) (fun x hx => by rw [hAe]; exact hL x (by simpa using hx)) dS_tryKind_14
end
section
-- class Shelf: the rest
abbrev rmY_fill : Room := { frames := 0, cells := 0, slots := 0, locals := 0 }
set_option maxHeartbeats 4000000 in
set_option maxRecDepth 100000 in
/-- Arrays.fill(array, v) -/
theorem c_Y_fill (l : Launch) (K : KG) (a n : Nat) (g : Nat → Int) (v : Int) (hn : n < 1000) : Ct l yY_fill kY_fill rmY_fill (PC K [.ref a, .int (iI v)] (fun H => va_P (kD K) vcl [(a, .inl (kI K, n, .inl (iA g)))] H)) (QV (fun H => va_P (kD K) vcl [(a, .inl (kI K, n, .inl (iA (flz g v n))))] H)) (fun x => x = a) := by
  refine ct_of (by decide) (Or.inl ⟨rfl, rfl⟩) ?_
  intro p e s m args below meth c B0 hP0
  obtain ⟨hx, hb, hr, hml, hown, hlocks, hnm, htab⟩ := B0
  obtain ⟨ha, ⟨hT, hK⟩, hB⟩ := hP0
  have hl := lv_entry ([.ref a, .int (iI v)]) (n := 4) (Nat.le_of_ble_eq_true rfl)
  obtain ⟨Q, hQ⟩ : ∃ Q, Q = XQ below (QV (fun H => va_P (kD K) vcl [(a, .inl (kI K, n, .inl (iA (flz g v n))))] H)) args s rmY_fill.cells rmY_fill.slots (fun x => x = a) := ⟨_, rfl⟩
  rw [← hQ, ha, lg_entry_eq]
  rw [ha] at hQ
  generalize (lg_sl ([.ref a, .int (iI v)]) ++ List.replicate (4 - (lg_sl ([.ref a, .int (iI v)])).length) Slot.unset).toArray = ls at hl ⊢
  generalize ([.ref a, .int (iI v)] : List Value).toArray = args at hQ ⊢
  have hts : ∀ w ∈ TW, w.before args s = true := fun w h => hT w h args
  have hl : lv_has ls 4 [(0, .ref a), (1, .int (iI v))] := hl
  obtain ⟨A, hAe⟩ : ∃ A : Addr → Prop, A = (fun x => x = a) := ⟨_, rfl⟩
  rw [← hAe] at hQ
  have hS : va_S A s.heap s.heap [] := va_S.rf
  have hP : va_P (kD K) vcl [(a, .inl (kI K, n, .inl (iA g)))] s.heap := hB
  have hD : va_D A [(a, .inl (kI K, n, .inl (iA g)))] := by rw [hAe]; exact va_D_of (by simp) (by simp)
  have loop : ∀ (j i : Nat), n + 1 ≤ i + j → i ≤ n → ∀ (H : Heap) (locs : List Loc), va_P (kD K) vcl [(a, .inl (kI K, n, .inl (iA (flz g v i))))] H → va_D A [(a, .inl (kI K, n, .inl (iA (flz g v i))))] → va_S A s.heap H locs → ∀ ls : Array Slot, lv_has ls 4 [(0, .ref a), (1, .int (iI v)), (2, .int (iI ((i : Int)))), (3, .int (iI ((n : Int))))] → W p l e rmY_fill s m args below meth c H locs 0 0 Q (F0 m 5 ls []) := by
    intro j
    induction j with
    | zero => intro i h1 h2; omega
    | succ j ih =>
      intro i h1 h2 H locs hP hD hS ls hl
      refine lv_iload_n hx hb dY_fill_5 rfl (lv_at hl 2 rfl) ?_
      refine lv_iload_n hx hb dY_fill_6 rfl (lv_at hl 3 rfl) ?_
      refine iz_icmp_ge (tgt := 20) hx hb ⟨by omega, by omega⟩ ⟨by omega, by omega⟩ dY_fill_7 (by decide) (fun g1 => ?_) (fun g1 => ?_)
      · have e : i = n := by omega
        subst e
        rw [hQ]
        exact iz_vret hx hb hr hlocks (hP) hS.2.2 dY_fill_20
      · refine lv_aload_n hx hb dY_fill_10 rfl (lv_at hl 0 rfl) ?_
        refine lv_iload_n hx hb dY_fill_11 rfl (lv_at hl 2 rfl) ?_
        refine lv_iload_n hx hb dY_fill_12 rfl (lv_at hl 1 rfl) ?_
        refine iz_iast hx hb hK hP hD hS 0 rfl i rfl (by omega) (by omega) dY_fill_13 (fun H locs hP hD hS => ?_)
        have hP : va_P (kD K) vcl [(a, .inl (kI K, n, .inl (iA (ut (flz g v i) i v))))] H := hP
        have hD : va_D A [(a, .inl (kI K, n, .inl (iA (ut (flz g v i) i v))))] := hD
        rw [flz_s] at hP hD
        refine iz_iinc (k := 2) (lv' := [(2, .int (iI ((i : Int) + 1))), (0, .ref a), (1, .int (iI v)), (3, .int (iI ((n : Int))))]) hx hb dY_fill_14 hl rfl (by decide) rfl (fun ls hl => ?_)
        refine lv_goto (tgt := 5) hx hb dY_fill_17 (by decide) ?_
        exact ih (i + 1) (by omega) (by omega) H _ hP hD hS ls (lv_sub hl [1, 2, 0, 3] rfl)
  refine iz_iconst hx hb dY_fill_0 ?_
  refine lv_istore_n (lv' := [(2, .int (iI 0)), (0, .ref a), (1, .int (iI v))]) hx hb dY_fill_1 rfl hl (by decide) rfl (fun ls hl => ?_)
  refine lv_aload_n hx hb dY_fill_2 rfl (lv_at hl 1 rfl) ?_
  refine iz_alen hx hb hK hP 0 0 rfl rfl dY_fill_3 ?_
  refine lv_istore_n (lv' := [(3, .int (iI ((n : Nat)))), (2, .int (iI 0)), (0, .ref a), (1, .int (iI v))]) hx hb dY_fill_4 rfl hl (by decide) rfl (fun ls hl => ?_)
  rw [← flz_0 g v] at hP hD
  exact loop (n + 1) 0 (by omega) (by omega) s.heap [] hP hD hS ls (lv_sub hl [2, 3, 1, 0] rfl)
abbrev rmS_priceOfOneKind : Room := { frames := 1, cells := 0, slots := 0, locals := 60 }
set_option maxHeartbeats 4000000 in
set_option maxRecDepth 100000 in
/-- Shelf.priceOfOneKind(need) -/
theorem c_S_one (l : Launch) (K : KG) (q Kn : Nat) (mu pr bg ch tr bn : Nat → Int) (bp bc sf : Int) (N : Int) (hok : ShOK Kn mu pr bg ch) (hN : 0 ≤ N ∧ N ≤ 100000000000) : Ct l yS_priceOfOneKind kS_priceOfOneKind rmS_priceOfOneKind (PC K [.ref q, .long (lI N)] (fun H => va_P (kD K) vcl (shW K q (Kn : Int) mu pr bg ch tr bn bp bc sf) H)) (QI (fun r _ => py_One mu pr Kn N r ∧ 0 ≤ r ∧ r ≤ 6000001)) (fun _ => False) := by
  refine ct_of (by decide) (Or.inl ⟨rfl, rfl⟩) ?_
  intro p e s m args below meth c B0 hP0
  obtain ⟨hx, hb, hr, hml, hown, hlocks, hnm, htab⟩ := B0
  obtain ⟨ha, ⟨hT, hK⟩, hB⟩ := hP0
  have hl := lv_entry ([.ref q, .long (lI N)]) (n := 8) (Nat.le_of_ble_eq_true rfl)
  obtain ⟨Q, hQ⟩ : ∃ Q, Q = XQ below (QI (fun r _ => py_One mu pr Kn N r ∧ 0 ≤ r ∧ r ≤ 6000001)) args s rmS_priceOfOneKind.cells rmS_priceOfOneKind.slots (fun _ => False) := ⟨_, rfl⟩
  rw [← hQ, ha, lg_entry_eq]
  rw [ha] at hQ
  generalize (lg_sl ([.ref q, .long (lI N)]) ++ List.replicate (8 - (lg_sl ([.ref q, .long (lI N)])).length) Slot.unset).toArray = ls at hl ⊢
  generalize ([.ref q, .long (lI N)] : List Value).toArray = args at hQ ⊢
  have hts : ∀ w ∈ TW, w.before args s = true := fun w h => hT w h args
  have hl : lv_has ls 8 [(0, .ref q), (1, .long (lI N))] := hl
  obtain ⟨A, hAe⟩ : ∃ A : Addr → Prop, A = (fun _ => False) := ⟨_, rfl⟩
  rw [← hAe] at hQ
  have hS : va_S A s.heap s.heap [] := va_S.rf
  have hP : va_P (kD K) vcl [(q, .inr (2, [.int (iI ((Kn : Int))), .ref (q + 1), .ref (q + 2), .ref (q + 3), .ref (q + 4), .ref (q + 5), .ref (q + 6), .int (iI bp), .int (iI bc), .long (lI sf)])), (q + 1, .inl (kI K, 4, .inl (iA mu))), (q + 2, .inl (kI K, 4, .inl (iA pr))), (q + 3, .inl (kI K, 4, .inl (iA bg))), (q + 4, .inl (kI K, 4, .inl (iA ch))), (q + 5, .inl (kI K, 4, .inl (iA tr))), (q + 6, .inl (kI K, 4, .inl (iA bn)))] s.heap := hB
  obtain ⟨hK4, hbd, hrk⟩ := hok
  have loop : ∀ (j i : Nat) (z : Int), Kn + 1 ≤ i + j → i ≤ Kn → (py_One mu pr Kn N z ∧ 0 ≤ z ∧ z ≤ 6000001) → ∀ ls : Array Slot, lv_has ls 8 [(0, .ref q), (1, .long (lI N)), (3, .long (lI z)), (5, .int (iI ((i : Int))))] → W p l e rmS_priceOfOneKind s m args below meth c s.heap [] 0 0 Q (F0 m 7 ls []) := by
    intro j
    induction j with
    | zero => intro i z h1 h2; omega
    | succ j ih =>
      intro i z h1 h2 hz ls hl
      refine lv_iload hx hb dS_priceOfOneKind_7 (lv_at hl 3 rfl) ?_
      refine lv_aload_n hx hb dS_priceOfOneKind_9 rfl (lv_at hl 0 rfl) ?_
      refine va_get (D := kD K) (ci := 2) (v := .int (iI ((Kn : Int)))) (C := RS) (T := FS) (N := 10) hx hb hts jnS hown hK hP 0 rfl rfl 0 (by decide) (hts _ mt_52) (fun _ h9 => h9) rfl dS_priceOfOneKind_10 ?_
      refine iz_icmp_ge (tgt := 60) hx hb ⟨by omega, by omega⟩ ⟨by omega, by omega⟩ dS_priceOfOneKind_13 (by decide) (fun g1 => ?_) (fun g1 => ?_)
      · refine lv_lload_n hx hb dS_priceOfOneKind_60 rfl (lv_at hl 2 rfl) ?_
        refine iz_l2i hx hb dS_priceOfOneKind_61 ?_
        rw [hQ]
        exact iz_iret hx hb hr hlocks (hz) (fun _ h => absurd h List.not_mem_nil) dS_priceOfOneKind_62
      · have qi := hbd i (by omega)
        refine lv_lload_n hx hb dS_priceOfOneKind_16 rfl (lv_at hl 1 rfl) ?_
        refine lv_aload_n hx hb dS_priceOfOneKind_17 rfl (lv_at hl 0 rfl) ?_
        refine va_get (D := kD K) (ci := 2) (v := .ref (q + 1)) (C := RS) (T := FS) (N := 10) hx hb hts jnS hown hK hP 0 rfl rfl 1 (by decide) (hts _ mt_54) (fun _ h9 => h9) rfl dS_priceOfOneKind_18 ?_
        refine lv_iload hx hb dS_priceOfOneKind_21 (lv_at hl 3 rfl) ?_
        refine iz_iald hx hb hK hP 1 rfl i rfl (by omega) (by omega) dS_priceOfOneKind_23 ?_
        refine ctSN (n := 2) hx hb hml hown hT ⟨c_X_ratio l K N (mu i) (by omega) (by omega) (by omega) (by omega), ⟨_, _, _, Or.inl ⟨rfl, rfl⟩⟩, mt_226, mt_1, by decide, by decide +kernel, by decide, by decide, by decide, by decide⟩ PC.blind mt_240 mt_225 (As := [.long (lI N), .int (iI (mu i))]) (rest := []) rfl (PC.at ⟨hT, hK⟩ trivial) hl.1 rfl (Nat.le_of_ble_eq_true rfl) dS_priceOfOneKind_24 (krL0 rfl rfl (fun _ h => h) (fun cn hcn => ?_))
        have hc1 := cdiv_bd (show 0 < mu i by omega) hN.1
        rw [← hcn] at hc1
        refine lv_lstore (lv' := [(6, .long (lI cn)), (0, .ref q), (1, .long (lI N)), (3, .long (lI z)), (5, .int (iI ((i : Int))))]) hx hb dS_priceOfOneKind_27 hl (by decide) rfl (fun ls hl => ?_)
        refine lv_lload hx hb dS_priceOfOneKind_29 (lv_at hl 0 rfl) ?_
        refine iz_ldc2 hx hb (60) (by decide) hown (hts _ mt_241) dS_priceOfOneKind_31 ?_
        refine iz_lc_gt (tgt := 54) hx hb ⟨by omega, by omega⟩ ⟨by omega, by omega⟩ dS_priceOfOneKind_34 dS_priceOfOneKind_35 (by decide) (fun g2 => ?_) (fun g2 => ?_)
        · refine iz_iinc (k := 4) (lv' := [(5, .int (iI ((i : Int) + 1))), (6, .long (lI cn)), (0, .ref q), (1, .long (lI N)), (3, .long (lI z))]) hx hb dS_priceOfOneKind_54 hl rfl (by decide) rfl (fun ls hl => ?_)
          refine lv_goto (tgt := 7) hx hb dS_priceOfOneKind_57 (by decide) ?_
          exact ih (i + 1) (z) (by omega) (by omega) hz ls (lv_sub hl [2, 3, 4, 0] rfl)
        · have hm := mul_bd hc1.1 g2 (show 0 ≤ pr i by omega) qi.2.2.2
          refine lv_lload_n hx hb dS_priceOfOneKind_38 rfl (lv_at hl 3 rfl) ?_
          refine lv_lload hx hb dS_priceOfOneKind_39 (lv_at hl 0 rfl) ?_
          refine lv_aload_n hx hb dS_priceOfOneKind_41 rfl (lv_at hl 1 rfl) ?_
          refine va_get (D := kD K) (ci := 2) (v := .ref (q + 2)) (C := RS) (T := FS) (N := 10) hx hb hts jnS hown hK hP 0 rfl rfl 2 (by decide) (hts _ mt_55) (fun _ h9 => h9) rfl dS_priceOfOneKind_42 ?_
          refine lv_iload hx hb dS_priceOfOneKind_45 (lv_at hl 4 rfl) ?_
          refine iz_iald hx hb hK hP 2 rfl i rfl (by omega) (by omega) dS_priceOfOneKind_47 ?_
          refine iz_i2l hx hb ⟨by omega, by omega⟩ dS_priceOfOneKind_48 ?_
          refine iz_lmul hx hb dS_priceOfOneKind_49 ?_
          refine iz_minL hx hb hml hl.1 hown hT mt_242 (Nat.le_of_ble_eq_true rfl) (Nat.le_of_ble_eq_true rfl) (Nat.le_of_ble_eq_true rfl) (Nat.le_of_ble_eq_true rfl) ⟨by omega, by omega⟩ ⟨by omega, by omega⟩ dS_priceOfOneKind_50 ?_
          obtain ⟨y, hy⟩ : ∃ y : Int, y = if cn * pr i < z then cn * pr i else z := ⟨_, rfl⟩
          rw [← hy]
          have hyz : py_One mu pr Kn N y ∧ 0 ≤ y ∧ y ≤ 6000001 := by
            rw [hy]
            split
            · exact ⟨Or.inr ⟨i, by omega, by rw [← hcn]; omega, by rw [← hcn]⟩, by omega, by omega⟩
            · exact hz
          refine lv_lstore_n (lv' := [(3, .long (lI y)), (6, .long (lI cn)), (0, .ref q), (1, .long (lI N)), (5, .int (iI ((i : Int))))]) hx hb dS_priceOfOneKind_53 rfl hl (by decide) rfl (fun ls hl => ?_)
          refine iz_iinc (k := 4) (lv' := [(5, .int (iI ((i : Int) + 1))), (3, .long (lI y)), (6, .long (lI cn)), (0, .ref q), (1, .long (lI N))]) hx hb dS_priceOfOneKind_54 hl rfl (by decide) rfl (fun ls hl => ?_)
          refine lv_goto (tgt := 7) hx hb dS_priceOfOneKind_57 (by decide) ?_
          exact ih (i + 1) (y) (by omega) (by omega) hyz ls (lv_sub hl [3, 4, 1, 0] rfl)
  refine iz_ldc2 hx hb (6000001) (by decide) hown (hts _ mt_239) dS_priceOfOneKind_0 ?_
  refine lv_lstore_n (lv' := [(3, .long (lI 6000001)), (0, .ref q), (1, .long (lI N))]) hx hb dS_priceOfOneKind_3 rfl hl (by decide) rfl (fun ls hl => ?_)
  refine iz_iconst hx hb dS_priceOfOneKind_4 ?_
  refine lv_istore (lv' := [(5, .int (iI 0)), (3, .long (lI 6000001)), (0, .ref q), (1, .long (lI N))]) hx hb dS_priceOfOneKind_5 hl (by decide) rfl (fun ls hl => ?_)
  exact loop (Kn + 1) 0 6000001 (by omega) (by omega) ⟨Or.inl rfl, by omega, by omega⟩ ls (lv_sub hl [2, 3, 1, 0] rfl)
abbrev rmS_search : Room := { frames := 10, cells := 0, slots := 0, locals := 400 }
set_option maxHeartbeats 4000000 in
set_option maxRecDepth 100000 in
/-- Shelf.search(need) -/
theorem c_S_search (l : Launch) (K : KG) (q Kn : Nat) (mu pr bg ch tr bn : Nat → Int) (bp bc sf : Int) (N : Int) (hI : ShI Kn mu pr bg ch bn bp bc sf) (hN : 0 ≤ N ∧ N ≤ 100000000000) : Ct l yS_search kS_search rmS_search (PC K [.ref q, .long (lI N)] (fun H => va_P (kD K) vcl (shW K q (Kn : Int) mu pr bg ch tr bn bp bc sf) H)) (QV (fun H => ∃ (tr' bn' : Nat → Int) (bp' bc' : Int), ShI Kn mu pr bg ch bn' bp' bc' N ∧ ShF Kn mu pr N bp' bn' ∧ va_P (kD K) vcl (shW K q (Kn : Int) mu pr bg ch tr' bn' bp' bc' N) H)) (fun x => q ≤ x ∧ x < q + 7) := by
  refine ct_of (by decide) (Or.inl ⟨rfl, rfl⟩) ?_
  intro p e s m args below meth c B0 hP0
  obtain ⟨hx, hb, hr, hml, hown, hlocks, hnm, htab⟩ := B0
  obtain ⟨ha, ⟨hT, hK⟩, hB⟩ := hP0
  have hl := lv_entry ([.ref q, .long (lI N)]) (n := 3) (Nat.le_of_ble_eq_true rfl)
  obtain ⟨Q, hQ⟩ : ∃ Q, Q = XQ below (QV (fun H => ∃ (tr' bn' : Nat → Int) (bp' bc' : Int), ShI Kn mu pr bg ch bn' bp' bc' N ∧ ShF Kn mu pr N bp' bn' ∧ va_P (kD K) vcl (shW K q (Kn : Int) mu pr bg ch tr' bn' bp' bc' N) H)) args s rmS_search.cells rmS_search.slots (fun x => q ≤ x ∧ x < q + 7) := ⟨_, rfl⟩
  rw [← hQ, ha, lg_entry_eq]
  rw [ha] at hQ
  generalize (lg_sl ([.ref q, .long (lI N)]) ++ List.replicate (3 - (lg_sl ([.ref q, .long (lI N)])).length) Slot.unset).toArray = ls at hl ⊢
  generalize ([.ref q, .long (lI N)] : List Value).toArray = args at hQ ⊢
  have hts : ∀ w ∈ TW, w.before args s = true := fun w h => hT w h args
  have hl : lv_has ls 3 [(0, .ref q), (1, .long (lI N))] := hl
  obtain ⟨A, hAe⟩ : ∃ A : Addr → Prop, A = (fun x => q ≤ x ∧ x < q + 7) := ⟨_, rfl⟩
  rw [← hAe] at hQ
  have hS : va_S A s.heap s.heap [] := va_S.rf
  have hP : va_P (kD K) vcl [(q, .inr (2, [.int (iI ((Kn : Int))), .ref (q + 1), .ref (q + 2), .ref (q + 3), .ref (q + 4), .ref (q + 5), .ref (q + 6), .int (iI bp), .int (iI bc), .long (lI sf)])), (q + 1, .inl (kI K, 4, .inl (iA mu))), (q + 2, .inl (kI K, 4, .inl (iA pr))), (q + 3, .inl (kI K, 4, .inl (iA bg))), (q + 4, .inl (kI K, 4, .inl (iA ch))), (q + 5, .inl (kI K, 4, .inl (iA tr))), (q + 6, .inl (kI K, 4, .inl (iA bn)))] s.heap := hB
  have hD : va_D A [(q, .inr (2, [.int (iI ((Kn : Int))), .ref (q + 1), .ref (q + 2), .ref (q + 3), .ref (q + 4), .ref (q + 5), .ref (q + 6), .int (iI bp), .int (iI bc), .long (lI sf)])), (q + 1, .inl (kI K, 4, .inl (iA mu))), (q + 2, .inl (kI K, 4, .inl (iA pr))), (q + 3, .inl (kI K, 4, .inl (iA bg))), (q + 4, .inl (kI K, 4, .inl (iA ch))), (q + 5, .inl (kI K, 4, .inl (iA tr))), (q + 6, .inl (kI K, 4, .inl (iA bn)))] := by rw [hAe]; exact va_D_of (by simp) (by simp <;> omega)
  obtain ⟨hok, hb1, hb2, hsf⟩ := id hI
  refine lv_lload_n hx hb dS_search_0 rfl (lv_at hl 1 rfl) ?_
  refine lv_aload_n hx hb dS_search_1 rfl (lv_at hl 0 rfl) ?_
  refine va_get (D := kD K) (ci := 2) (v := .long (lI sf)) (C := RS) (T := FS) (N := 10) hx hb hts jnS hown hK hP 0 rfl rfl 9 (by decide) (hts _ mt_62) (fun _ h9 => h9) rfl dS_search_2 ?_
  refine iz_lc_ne (tgt := 10) hx hb ⟨by omega, by omega⟩ (by rcases hsf with h | h <;> exact ⟨by omega, by omega⟩) dS_search_5 dS_search_6 (by decide) (fun g1 => ?_) (fun g1 => ?_)
  · refine lv_aload_n hx hb dS_search_10 rfl (lv_at hl 0 rfl) ?_
    refine lv_lload_n hx hb dS_search_11 rfl (lv_at hl 1 rfl) ?_
    refine va_put (D := kD K) (ci := 2) (v := .long (lI N)) (ty := .long) (C := RS) (T := FS) (N := 10) hx hb hts jnS tS tS_ok nS hown hK hP hD hS 0 rfl rfl 9 (by decide) (hts _ mt_62) (fun _ h9 => h9) rfl (by decide +kernel) rfl rfl (Nat.le_of_ble_eq_true rfl) dS_search_12 (fun H locs hP hD hS => ?_)
    have hP : va_P (kD K) vcl [(q, .inr (2, [.int (iI ((Kn : Int))), .ref (q + 1), .ref (q + 2), .ref (q + 3), .ref (q + 4), .ref (q + 5), .ref (q + 6), .int (iI bp), .int (iI bc), .long (lI N)])), (q + 1, .inl (kI K, 4, .inl (iA mu))), (q + 2, .inl (kI K, 4, .inl (iA pr))), (q + 3, .inl (kI K, 4, .inl (iA bg))), (q + 4, .inl (kI K, 4, .inl (iA ch))), (q + 5, .inl (kI K, 4, .inl (iA tr))), (q + 6, .inl (kI K, 4, .inl (iA bn)))] H := hP
    have hD : va_D A [(q, .inr (2, [.int (iI ((Kn : Int))), .ref (q + 1), .ref (q + 2), .ref (q + 3), .ref (q + 4), .ref (q + 5), .ref (q + 6), .int (iI bp), .int (iI bc), .long (lI N)])), (q + 1, .inl (kI K, 4, .inl (iA mu))), (q + 2, .inl (kI K, 4, .inl (iA pr))), (q + 3, .inl (kI K, 4, .inl (iA bg))), (q + 4, .inl (kI K, 4, .inl (iA ch))), (q + 5, .inl (kI K, 4, .inl (iA tr))), (q + 6, .inl (kI K, 4, .inl (iA bn)))] := hD
    refine lv_aload_n hx hb dS_search_15 rfl (lv_at hl 0 rfl) ?_
    refine lv_aload_n hx hb dS_search_16 rfl (lv_at hl 0 rfl) ?_
    refine lv_lload_n hx hb dS_search_17 rfl (lv_at hl 1 rfl) ?_
    refine ctV (n := 1) hx hb hml hown hT ⟨c_S_one l K q Kn mu pr bg ch tr bn bp bc N N hok hN, ⟨_, _, _, Or.inl ⟨rfl, rfl⟩⟩, mt_238, mt_3, by decide, by decide +kernel, by decide, by decide, by decide, by decide⟩ PC.blind mt_235 mt_237 ms_3 (va_RVof (ci := 2) (q0 := 0) hK hP rfl rfl) (As := [.long (lI N)]) (rest := [.ref q]) rfl (PC.at ⟨hT, hK⟩ hP) hl.1 rfl (Nat.le_of_ble_eq_true rfl) dS_search_18 (krI0 rfl rfl (fun _ h => h) (fun r hr9 => ?_))
    refine va_put (D := kD K) (ci := 2) (v := .int (iI r)) (ty := .int) (C := RS) (T := FS) (N := 10) hx hb hts jnS tS tS_ok nS hown hK hP hD hS 0 rfl rfl 7 (by decide) (hts _ mt_60) (fun _ h9 => h9) rfl (by decide +kernel) rfl rfl (Nat.le_of_ble_eq_true rfl) dS_search_21 (fun H locs hP hD hS => ?_)
    have hP : va_P (kD K) vcl [(q, .inr (2, [.int (iI ((Kn : Int))), .ref (q + 1), .ref (q + 2), .ref (q + 3), .ref (q + 4), .ref (q + 5), .ref (q + 6), .int (iI r), .int (iI bc), .long (lI N)])), (q + 1, .inl (kI K, 4, .inl (iA mu))), (q + 2, .inl (kI K, 4, .inl (iA pr))), (q + 3, .inl (kI K, 4, .inl (iA bg))), (q + 4, .inl (kI K, 4, .inl (iA ch))), (q + 5, .inl (kI K, 4, .inl (iA tr))), (q + 6, .inl (kI K, 4, .inl (iA bn)))] H := hP
    have hD : va_D A [(q, .inr (2, [.int (iI ((Kn : Int))), .ref (q + 1), .ref (q + 2), .ref (q + 3), .ref (q + 4), .ref (q + 5), .ref (q + 6), .int (iI r), .int (iI bc), .long (lI N)])), (q + 1, .inl (kI K, 4, .inl (iA mu))), (q + 2, .inl (kI K, 4, .inl (iA pr))), (q + 3, .inl (kI K, 4, .inl (iA bg))), (q + 4, .inl (kI K, 4, .inl (iA ch))), (q + 5, .inl (kI K, 4, .inl (iA tr))), (q + 6, .inl (kI K, 4, .inl (iA bn)))] := hD
    refine lv_aload_n hx hb dS_search_24 rfl (lv_at hl 0 rfl) ?_
    refine iz_bipush hx hb dS_search_25 (by decide) ?_
    refine va_put (D := kD K) (ci := 2) (v := .int (iI 61)) (ty := .int) (C := RS) (T := FS) (N := 10) hx hb hts jnS tS tS_ok nS hown hK hP hD hS 0 rfl rfl 8 (by decide) (hts _ mt_61) (fun _ h9 => h9) rfl (by decide +kernel) rfl rfl (Nat.le_of_ble_eq_true rfl) dS_search_27 (fun H locs hP hD hS => ?_)
    have hP : va_P (kD K) vcl [(q, .inr (2, [.int (iI ((Kn : Int))), .ref (q + 1), .ref (q + 2), .ref (q + 3), .ref (q + 4), .ref (q + 5), .ref (q + 6), .int (iI r), .int (iI 61), .long (lI N)])), (q + 1, .inl (kI K, 4, .inl (iA mu))), (q + 2, .inl (kI K, 4, .inl (iA pr))), (q + 3, .inl (kI K, 4, .inl (iA bg))), (q + 4, .inl (kI K, 4, .inl (iA ch))), (q + 5, .inl (kI K, 4, .inl (iA tr))), (q + 6, .inl (kI K, 4, .inl (iA bn)))] H := hP
    have hD : va_D A [(q, .inr (2, [.int (iI ((Kn : Int))), .ref (q + 1), .ref (q + 2), .ref (q + 3), .ref (q + 4), .ref (q + 5), .ref (q + 6), .int (iI r), .int (iI 61), .long (lI N)])), (q + 1, .inl (kI K, 4, .inl (iA mu))), (q + 2, .inl (kI K, 4, .inl (iA pr))), (q + 3, .inl (kI K, 4, .inl (iA bg))), (q + 4, .inl (kI K, 4, .inl (iA ch))), (q + 5, .inl (kI K, 4, .inl (iA tr))), (q + 6, .inl (kI K, 4, .inl (iA bn)))] := hD
    refine lv_aload_n hx hb dS_search_30 rfl (lv_at hl 0 rfl) ?_
    refine va_get (D := kD K) (ci := 2) (v := .ref (q + 5)) (C := RS) (T := FS) (N := 10) hx hb hts jnS hown hK hP 0 rfl rfl 5 (by decide) (hts _ mt_58) (fun _ h9 => h9) rfl dS_search_31 ?_
    refine iz_iconst hx hb dS_search_34 ?_
    refine ctS (n := 2) hx hb hml hown hT ⟨c_Y_fill l K (q + 5) 4 tr 0 (by omega), ⟨_, _, _, Or.inl ⟨rfl, rfl⟩⟩, mt_247, mt_12, by decide, by decide +kernel, by decide, by decide, by decide, by decide⟩ PC.blind mt_245 mt_246 (As := [.ref (q + 5), .int (iI 0)]) (rest := []) rfl (PC.at ⟨hT, hK⟩ (hP.sub (ws' := [(q + 5, .inl (kI K, 4, .inl (iA tr)))]) [5] rfl)) hl.1 rfl (Nat.le_of_ble_eq_true rfl) dS_search_35 (krV (c1 := 0) (s1 := 0) rfl rfl (fun t1 H1 L hA hL hpo => ?_))
    have hP5 := va_P_arr (k := 0) hpo rfl (g := fun _ => 0) (fun j hj => by simp [flz, hj])
    have hPr := hA.P (hP.sub (ws' := [(q, .inr (2, [.int (iI ((Kn : Int))), .ref (q + 1), .ref (q + 2), .ref (q + 3), .ref (q + 4), .ref (q + 5), .ref (q + 6), .int (iI r), .int (iI 61), .long (lI N)])), (q + 1, .inl (kI K, 4, .inl (iA mu))), (q + 2, .inl (kI K, 4, .inl (iA pr))), (q + 3, .inl (kI K, 4, .inl (iA bg))), (q + 4, .inl (kI K, 4, .inl (iA ch))), (q + 6, .inl (kI K, 4, .inl (iA bn)))]) [0, 1, 2, 3, 4, 6] rfl) (fun k x hk => by
      have hx9 := List.mem_of_getElem? hk
      simp at hx9
      rcases hx9 with rfl | rfl | rfl | rfl | rfl | rfl <;> (show ¬ (_ = q + 5)) <;> omega)
    have hP : va_P (kD K) vcl [(q, .inr (2, [.int (iI ((Kn : Int))), .ref (q + 1), .ref (q + 2), .ref (q + 3), .ref (q + 4), .ref (q + 5), .ref (q + 6), .int (iI r), .int (iI 61), .long (lI N)])), (q + 1, .inl (kI K, 4, .inl (iA mu))), (q + 2, .inl (kI K, 4, .inl (iA pr))), (q + 3, .inl (kI K, 4, .inl (iA bg))), (q + 4, .inl (kI K, 4, .inl (iA ch))), (q + 5, .inl (kI K, 4, .inl (iA (fun _ => 0)))), (q + 6, .inl (kI K, 4, .inl (iA bn)))] H1 := by
      have h9 := hPr.app hP5
      exact h9.sub [0, 1, 2, 3, 4, 6, 5] rfl
    have hS := hA.S hS (fun x hx => by rw [hAe]; have hx : x = q + 5 := hx; subst hx; exact ⟨Nat.le_add_right _ _, Nat.add_lt_add_left (by decide) _⟩) hL
    have hD : va_D A [(q, .inr (2, [.int (iI ((Kn : Int))), .ref (q + 1), .ref (q + 2), .ref (q + 3), .ref (q + 4), .ref (q + 5), .ref (q + 6), .int (iI r), .int (iI 61), .long (lI N)])), (q + 1, .inl (kI K, 4, .inl (iA mu))), (q + 2, .inl (kI K, 4, .inl (iA pr))), (q + 3, .inl (kI K, 4, .inl (iA bg))), (q + 4, .inl (kI K, 4, .inl (iA ch))), (q + 5, .inl (kI K, 4, .inl (iA (fun _ => 0)))), (q + 6, .inl (kI K, 4, .inl (iA bn)))] := by rw [hAe]; exact va_D_of (by simp) (by simp <;> omega)
    refine lv_aload_n hx hb dS_search_38 rfl (lv_at hl 0 rfl) ?_
    refine iz_iconst hx hb dS_search_39 ?_
    refine lv_lload_n hx hb dS_search_40 rfl (lv_at hl 1 rfl) ?_
    refine iz_iconst hx hb dS_search_41 ?_
    refine iz_iconst hx hb dS_search_42 ?_
    refine ctV (n := 4) hx hb hml hown hT ⟨c_S_tryKind l K q Kn mu pr bg ch N hok Kn 0 (by omega) (fun _ => 0) bn r 61 N 0 0 (fun i _ => rfl) ⟨by omega, by omega⟩ ⟨by omega, by omega⟩ ⟨by omega, by omega⟩ ⟨by omega, by omega⟩ ⟨by omega, by omega⟩, ⟨_, _, _, Or.inl ⟨rfl, rfl⟩⟩, mt_251, mt_3, by decide, by decide +kernel, by show 3 + Kn + 1 ≤ 10; have := hok.1; omega, by show 8 + (11 + 11) + (100 + 40 * Kn) ≤ 400; have := hok.1; omega, Nat.le_of_ble_eq_true rfl, Nat.le_of_ble_eq_true rfl⟩ PC.blind mt_248 mt_250 ms_4 (va_RVof (ci := 2) (q0 := 0) hK hP rfl rfl) (As := [.int (iI 0), .long (lI N), .int (iI 0), .int (iI 0)]) (rest := []) rfl (PC.at ⟨hT, hK⟩ hP) hl.1 rfl (Nat.le_of_ble_eq_true rfl) dS_search_43 (krV (c1 := 0) (s1 := 0) rfl rfl (fun t2 H2 L2 hA2 hL2 hpo2 => ?_))
    obtain ⟨bp', bc', bn', hR, hb3, hb4, hP⟩ := hpo2
    have hF : ShF Kn mu pr N bp' bn' := py_end hN.1 hok.1 (fun i hi => (hok.2.1 i hi).1) (fun i hi => (hok.2.1 i hi).2.2) hr9.1 hR
    have hS := hA2.S hS (fun x hx => by rw [hAe]; exact hx) hL2
    rw [hQ]
    exact iz_vret hx hb hr hlocks (⟨fun _ => 0, bn', bp', bc', ⟨hok, hb3, hb4, Or.inr ⟨hN.1, hN.2, hF⟩⟩, hF, hP⟩) hS.2.2 dS_search_46
  · have e : N = sf := g1
    subst e
    have hF : ShF Kn mu pr N bp bn := by rcases hsf with h | h; exact absurd h (by omega); exact h.2.2
    rw [hQ]
    exact iz_vret hx hb hr hlocks (⟨tr, bn, bp, bc, hI, hF, hP⟩) hS.2.2 dS_search_9
abbrev rmS_countFor : Room := { frames := 11, cells := 0, slots := 0, locals := 500 }
set_option maxHeartbeats 4000000 in
set_option maxRecDepth 100000 in
/-- S_countFor -/
theorem c_S_countFor (l : Launch) (K : KG) (q Kn : Nat) (mu pr bg ch tr bn : Nat → Int) (bp bc sf : Int) (N : Int) (hI : ShI Kn mu pr bg ch bn bp bc sf) (hN : 0 ≤ N ∧ N ≤ 100000000000) (k : Nat) (hk : k < Kn) : Ct l yS_countFor kS_countFor rmS_countFor (PC K [.ref q, .long (lI N), .int (iI ((k : Int)))] (fun H => va_P (kD K) vcl (shW K q (Kn : Int) mu pr bg ch tr bn bp bc sf) H)) (QI (fun r H => ((r = -1 ∧ ∀ n, ¬ py_F mu 0 Kn N 0 n) ∨ ∃ n, py_Best mu pr Kn N n ∧ r = n k) ∧ ∃ (tr' bn' : Nat → Int) (bp' bc' : Int), ShI Kn mu pr bg ch bn' bp' bc' N ∧ va_P (kD K) vcl (shW K q (Kn : Int) mu pr bg ch tr' bn' bp' bc' N) H)) (fun x => q ≤ x ∧ x < q + 7) := by
  refine ct_of (by decide) (Or.inl ⟨rfl, rfl⟩) ?_
  intro p e s m args below meth c B0 hP0
  obtain ⟨hx, hb, hr, hml, hown, hlocks, hnm, htab⟩ := B0
  obtain ⟨ha, ⟨hT, hK⟩, hB⟩ := hP0
  have hl := lv_entry ([.ref q, .long (lI N), .int (iI ((k : Int)))]) (n := 4) (Nat.le_of_ble_eq_true rfl)
  obtain ⟨Q, hQ⟩ : ∃ Q, Q = XQ below (QI (fun r H => ((r = -1 ∧ ∀ n, ¬ py_F mu 0 Kn N 0 n) ∨ ∃ n, py_Best mu pr Kn N n ∧ r = n k) ∧ ∃ (tr' bn' : Nat → Int) (bp' bc' : Int), ShI Kn mu pr bg ch bn' bp' bc' N ∧ va_P (kD K) vcl (shW K q (Kn : Int) mu pr bg ch tr' bn' bp' bc' N) H)) args s rmS_countFor.cells rmS_countFor.slots (fun x => q ≤ x ∧ x < q + 7) := ⟨_, rfl⟩
  rw [← hQ, ha, lg_entry_eq]
  rw [ha] at hQ
  generalize (lg_sl ([.ref q, .long (lI N), .int (iI ((k : Int)))]) ++ List.replicate (4 - (lg_sl ([.ref q, .long (lI N), .int (iI ((k : Int)))])).length) Slot.unset).toArray = ls at hl ⊢
  generalize ([.ref q, .long (lI N), .int (iI ((k : Int)))] : List Value).toArray = args at hQ ⊢
  have hts : ∀ w ∈ TW, w.before args s = true := fun w h => hT w h args
  have hl : lv_has ls 4 [(0, .ref q), (1, .long (lI N)), (3, .int (iI ((k : Int))))] := hl
  obtain ⟨A, hAe⟩ : ∃ A : Addr → Prop, A = (fun x => q ≤ x ∧ x < q + 7) := ⟨_, rfl⟩
  rw [← hAe] at hQ
  have hS : va_S A s.heap s.heap [] := va_S.rf
  have hP : va_P (kD K) vcl [(q, .inr (2, [.int (iI ((Kn : Int))), .ref (q + 1), .ref (q + 2), .ref (q + 3), .ref (q + 4), .ref (q + 5), .ref (q + 6), .int (iI bp), .int (iI bc), .long (lI sf)])), (q + 1, .inl (kI K, 4, .inl (iA mu))), (q + 2, .inl (kI K, 4, .inl (iA pr))), (q + 3, .inl (kI K, 4, .inl (iA bg))), (q + 4, .inl (kI K, 4, .inl (iA ch))), (q + 5, .inl (kI K, 4, .inl (iA tr))), (q + 6, .inl (kI K, 4, .inl (iA bn)))] s.heap := hB
  have hK4 := hI.1.1
  refine lv_aload_n hx hb dS_countFor_0 rfl (lv_at hl 0 rfl) ?_
  refine lv_lload_n hx hb dS_countFor_1 rfl (lv_at hl 1 rfl) ?_
  refine ctV (n := 1) hx hb hml hown hT ⟨c_S_search l K q Kn mu pr bg ch tr bn bp bc sf N hI hN, ⟨_, _, _, Or.inl ⟨rfl, rfl⟩⟩, mt_234, mt_3, by decide, by decide +kernel, by decide, by decide, by decide, by decide⟩ PC.blind mt_231 mt_233 ms_2 (va_RVof (ci := 2) (q0 := 0) hK hP rfl rfl) (As := [.long (lI N)]) (rest := []) rfl (PC.at ⟨hT, hK⟩ hP) hl.1 rfl (Nat.le_of_ble_eq_true rfl) dS_countFor_2 (krV (c1 := 0) (s1 := 0) rfl rfl (fun t1 H L hA hL hpo => ?_))
  obtain ⟨tr', bn', bp', bc', hI', hF, hP⟩ := hpo
  have hb1 := hI'.2.1
  have hP : va_P (kD K) vcl [(q, .inr (2, [.int (iI ((Kn : Int))), .ref (q + 1), .ref (q + 2), .ref (q + 3), .ref (q + 4), .ref (q + 5), .ref (q + 6), .int (iI bp'), .int (iI bc'), .long (lI N)])), (q + 1, .inl (kI K, 4, .inl (iA mu))), (q + 2, .inl (kI K, 4, .inl (iA pr))), (q + 3, .inl (kI K, 4, .inl (iA bg))), (q + 4, .inl (kI K, 4, .inl (iA ch))), (q + 5, .inl (kI K, 4, .inl (iA tr'))), (q + 6, .inl (kI K, 4, .inl (iA bn')))] H := hP
  refine lv_aload_n hx hb dS_countFor_5 rfl (lv_at hl 0 rfl) ?_
  refine va_get (D := kD K) (ci := 2) (v := .int (iI bp')) (C := RS) (T := FS) (N := 10) hx hb hts jnS hown hK hP 0 rfl rfl 7 (by decide) (hts _ mt_60) (fun _ h9 => h9) rfl dS_countFor_6 ?_
  refine iz_ldc hx hb (6000001) (by decide) hown (hts _ mt_267) dS_countFor_9 ?_
  refine iz_icmp_ne (tgt := 18) hx hb ⟨by omega, by omega⟩ ⟨by omega, by omega⟩ dS_countFor_11 (by decide) (fun g1 => ?_) (fun g1 => ?_)
  · refine lv_aload_n hx hb dS_countFor_18 rfl (lv_at hl 0 rfl) ?_
    refine va_get (D := kD K) (ci := 2) (v := .ref (q + 6)) (C := RS) (T := FS) (N := 10) hx hb hts jnS hown hK hP 0 rfl rfl 6 (by decide) (hts _ mt_59) (fun _ h9 => h9) rfl dS_countFor_19 ?_
    refine lv_iload_n hx hb dS_countFor_22 rfl (lv_at hl 2 rfl) ?_
    refine iz_iald hx hb hK hP 6 rfl k rfl (by omega) (by omega) dS_countFor_23 ?_
    rw [hQ]
    exact iz_iret hx hb hr hlocks (⟨Or.inr (by rcases hF with ⟨h1, -⟩ | ⟨n, h1, h2, h3, h4⟩; exact absurd h1 g1; exact ⟨n, h1, h4 k hk⟩), tr', bn', bp', bc', hI', hP⟩) (fun x hx => by rw [hAe]; exact hL x (by simpa using hx)) dS_countFor_24
  · refine iz_iconst hx hb dS_countFor_14 ?_
    refine lv_goto (tgt := 24) hx hb dS_countFor_15 (by decide) ?_
    rw [hQ]
    exact iz_iret hx hb hr hlocks (⟨Or.inl ⟨rfl, by rcases hF with ⟨-, h2⟩ | ⟨n, h1, h2, h3, h4⟩; exact h2; exact absurd g1 (by omega)⟩, tr', bn', bp', bc', hI', hP⟩) (fun x hx => by rw [hAe]; exact hL x (by simpa using hx)) dS_countFor_24
abbrev rmS_priceFor : Room := { frames := 11, cells := 0, slots := 0, locals := 500 }
set_option maxHeartbeats 4000000 in
set_option maxRecDepth 100000 in
/-- S_priceFor -/
theorem c_S_priceFor (l : Launch) (K : KG) (q Kn : Nat) (mu pr bg ch tr bn : Nat → Int) (bp bc sf : Int) (N : Int) (hI : ShI Kn mu pr bg ch bn bp bc sf) (hN : 0 ≤ N ∧ N ≤ 100000000000) : Ct l yS_priceFor kS_priceFor rmS_priceFor (PC K [.ref q, .long (lI N)] (fun H => va_P (kD K) vcl (shW K q (Kn : Int) mu pr bg ch tr bn bp bc sf) H)) (QI (fun r H => ((r = -1 ∧ ∀ n, ¬ py_F mu 0 Kn N 0 n) ∨ ∃ n, py_Best mu pr Kn N n ∧ r = py_co pr n 0 Kn) ∧ ∃ (tr' bn' : Nat → Int) (bp' bc' : Int), ShI Kn mu pr bg ch bn' bp' bc' N ∧ va_P (kD K) vcl (shW K q (Kn : Int) mu pr bg ch tr' bn' bp' bc' N) H)) (fun x => q ≤ x ∧ x < q + 7) := by
  refine ct_of (by decide) (Or.inl ⟨rfl, rfl⟩) ?_
  intro p e s m args below meth c B0 hP0
  obtain ⟨hx, hb, hr, hml, hown, hlocks, hnm, htab⟩ := B0
  obtain ⟨ha, ⟨hT, hK⟩, hB⟩ := hP0
  have hl := lv_entry ([.ref q, .long (lI N)]) (n := 3) (Nat.le_of_ble_eq_true rfl)
  obtain ⟨Q, hQ⟩ : ∃ Q, Q = XQ below (QI (fun r H => ((r = -1 ∧ ∀ n, ¬ py_F mu 0 Kn N 0 n) ∨ ∃ n, py_Best mu pr Kn N n ∧ r = py_co pr n 0 Kn) ∧ ∃ (tr' bn' : Nat → Int) (bp' bc' : Int), ShI Kn mu pr bg ch bn' bp' bc' N ∧ va_P (kD K) vcl (shW K q (Kn : Int) mu pr bg ch tr' bn' bp' bc' N) H)) args s rmS_priceFor.cells rmS_priceFor.slots (fun x => q ≤ x ∧ x < q + 7) := ⟨_, rfl⟩
  rw [← hQ, ha, lg_entry_eq]
  rw [ha] at hQ
  generalize (lg_sl ([.ref q, .long (lI N)]) ++ List.replicate (3 - (lg_sl ([.ref q, .long (lI N)])).length) Slot.unset).toArray = ls at hl ⊢
  generalize ([.ref q, .long (lI N)] : List Value).toArray = args at hQ ⊢
  have hts : ∀ w ∈ TW, w.before args s = true := fun w h => hT w h args
  have hl : lv_has ls 3 [(0, .ref q), (1, .long (lI N))] := hl
  obtain ⟨A, hAe⟩ : ∃ A : Addr → Prop, A = (fun x => q ≤ x ∧ x < q + 7) := ⟨_, rfl⟩
  rw [← hAe] at hQ
  have hS : va_S A s.heap s.heap [] := va_S.rf
  have hP : va_P (kD K) vcl [(q, .inr (2, [.int (iI ((Kn : Int))), .ref (q + 1), .ref (q + 2), .ref (q + 3), .ref (q + 4), .ref (q + 5), .ref (q + 6), .int (iI bp), .int (iI bc), .long (lI sf)])), (q + 1, .inl (kI K, 4, .inl (iA mu))), (q + 2, .inl (kI K, 4, .inl (iA pr))), (q + 3, .inl (kI K, 4, .inl (iA bg))), (q + 4, .inl (kI K, 4, .inl (iA ch))), (q + 5, .inl (kI K, 4, .inl (iA tr))), (q + 6, .inl (kI K, 4, .inl (iA bn)))] s.heap := hB
  have hK4 := hI.1.1
  refine lv_aload_n hx hb dS_priceFor_0 rfl (lv_at hl 0 rfl) ?_
  refine lv_lload_n hx hb dS_priceFor_1 rfl (lv_at hl 1 rfl) ?_
  refine ctV (n := 1) hx hb hml hown hT ⟨c_S_search l K q Kn mu pr bg ch tr bn bp bc sf N hI hN, ⟨_, _, _, Or.inl ⟨rfl, rfl⟩⟩, mt_234, mt_3, by decide, by decide +kernel, by decide, by decide, by decide, by decide⟩ PC.blind mt_231 mt_233 ms_2 (va_RVof (ci := 2) (q0 := 0) hK hP rfl rfl) (As := [.long (lI N)]) (rest := []) rfl (PC.at ⟨hT, hK⟩ hP) hl.1 rfl (Nat.le_of_ble_eq_true rfl) dS_priceFor_2 (krV (c1 := 0) (s1 := 0) rfl rfl (fun t1 H L hA hL hpo => ?_))
  obtain ⟨tr', bn', bp', bc', hI', hF, hP⟩ := hpo
  have hb1 := hI'.2.1
  have hP : va_P (kD K) vcl [(q, .inr (2, [.int (iI ((Kn : Int))), .ref (q + 1), .ref (q + 2), .ref (q + 3), .ref (q + 4), .ref (q + 5), .ref (q + 6), .int (iI bp'), .int (iI bc'), .long (lI N)])), (q + 1, .inl (kI K, 4, .inl (iA mu))), (q + 2, .inl (kI K, 4, .inl (iA pr))), (q + 3, .inl (kI K, 4, .inl (iA bg))), (q + 4, .inl (kI K, 4, .inl (iA ch))), (q + 5, .inl (kI K, 4, .inl (iA tr'))), (q + 6, .inl (kI K, 4, .inl (iA bn')))] H := hP
  refine lv_aload_n hx hb dS_priceFor_5 rfl (lv_at hl 0 rfl) ?_
  refine va_get (D := kD K) (ci := 2) (v := .int (iI bp')) (C := RS) (T := FS) (N := 10) hx hb hts jnS hown hK hP 0 rfl rfl 7 (by decide) (hts _ mt_60) (fun _ h9 => h9) rfl dS_priceFor_6 ?_
  refine iz_ldc hx hb (6000001) (by decide) hown (hts _ mt_267) dS_priceFor_9 ?_
  refine iz_icmp_ne (tgt := 18) hx hb ⟨by omega, by omega⟩ ⟨by omega, by omega⟩ dS_priceFor_11 (by decide) (fun g1 => ?_) (fun g1 => ?_)
  · refine lv_aload_n hx hb dS_priceFor_18 rfl (lv_at hl 0 rfl) ?_
    refine va_get (D := kD K) (ci := 2) (v := .int (iI bp')) (C := RS) (T := FS) (N := 10) hx hb hts jnS hown hK hP 0 rfl rfl 7 (by decide) (hts _ mt_60) (fun _ h9 => h9) rfl dS_priceFor_19 ?_
    rw [hQ]
    exact iz_iret hx hb hr hlocks (⟨Or.inr (by rcases hF with ⟨h1, -⟩ | ⟨n, h1, h2, h3, h4⟩; exact absurd h1 g1; exact ⟨n, h1, h2⟩), tr', bn', bp', bc', hI', hP⟩) (fun x hx => by rw [hAe]; exact hL x (by simpa using hx)) dS_priceFor_22
  · refine iz_iconst hx hb dS_priceFor_14 ?_
    refine lv_goto (tgt := 22) hx hb dS_priceFor_15 (by decide) ?_
    rw [hQ]
    exact iz_iret hx hb hr hlocks (⟨Or.inl ⟨rfl, by rcases hF with ⟨-, h2⟩ | ⟨n, h1, h2, h3, h4⟩; exact h2; exact absurd g1 (by omega)⟩, tr', bn', bp', bc', hI', hP⟩) (fun x hx => by rw [hAe]; exact hL x (by simpa using hx)) dS_priceFor_22
end
section
-- class Shelf: its kinds, its making
/-- the ranks from j on -/
def ShR (Kn j : Nat) (mu pr bg ch : Nat → Int) : Prop := ∀ k, j ≤ k → k < Kn → ∃ b c : Nat, bg k = b ∧ ch k = c ∧ b < Kn ∧ c < Kn ∧ (∀ i, k ≤ i → i < Kn → mu i ≤ mu b) ∧ ∀ i, k ≤ i → i < Kn → pr c * mu i ≤ pr i * mu c
theorem ShR_s {Kn j b d : Nat} {mu pr bg ch : Nat → Int} (h : ShR Kn (j + 1) mu pr bg ch) (hb : b < Kn) (hd : d < Kn) (hbm : ∀ i, j ≤ i → i < Kn → mu i ≤ mu b) (hdm : ∀ i, j ≤ i → i < Kn → pr d * mu i ≤ pr i * mu d) : ShR Kn j mu pr (ut bg j b) (ut ch j d) := by
  intro k h1 h2
  by_cases e : k = j
  · subst e
    exact ⟨b, d, ut_s _ _ _, ut_s _ _ _, hb, hd, hbm, hdm⟩
  · rw [ut_n _ _ e, ut_n _ _ e]
    exact h k (by omega) h2
abbrev rmS_rankFromBehind : Room := { frames := 0, cells := 0, slots := 0, locals := 0 }
set_option maxHeartbeats 4000000 in
set_option maxRecDepth 100000 in
/-- Shelf.rankFromBehind() -/
theorem c_S_rank (l : Launch) (K : KG) (q Kn : Nat) (mu pr bg ch tr bn : Nat → Int) (bp bc sf : Int) (hK4 : Kn ≤ 4) (hK1 : 1 ≤ Kn) (hbd : ∀ i, i < Kn → 1 ≤ mu i ∧ mu i ≤ 1000000000 ∧ 1 ≤ pr i ∧ pr i ≤ 100000) : Ct l yS_rankFromBehind kS_rankFromBehind rmS_rankFromBehind (PC K [.ref q] (fun H => va_P (kD K) vcl (shW K q (Kn : Int) mu pr bg ch tr bn bp bc sf) H)) (QV (fun H => ∃ (bg' ch' : Nat → Int), ShR Kn 0 mu pr bg' ch' ∧ va_P (kD K) vcl (shW K q (Kn : Int) mu pr bg' ch' tr bn bp bc sf) H)) (fun x => q ≤ x ∧ x < q + 7) := by
  refine ct_of (by decide) (Or.inl ⟨rfl, rfl⟩) ?_
  intro p e s m args below meth c B0 hP0
  obtain ⟨hx, hb, hr, hml, hown, hlocks, hnm, htab⟩ := B0
  obtain ⟨ha, ⟨hT, hK⟩, hB⟩ := hP0
  have hl := lv_entry ([.ref q]) (n := 4) (Nat.le_of_ble_eq_true rfl)
  obtain ⟨Q, hQ⟩ : ∃ Q, Q = XQ below (QV (fun H => ∃ (bg' ch' : Nat → Int), ShR Kn 0 mu pr bg' ch' ∧ va_P (kD K) vcl (shW K q (Kn : Int) mu pr bg' ch' tr bn bp bc sf) H)) args s rmS_rankFromBehind.cells rmS_rankFromBehind.slots (fun x => q ≤ x ∧ x < q + 7) := ⟨_, rfl⟩
  rw [← hQ, ha, lg_entry_eq]
  rw [ha] at hQ
  generalize (lg_sl ([.ref q]) ++ List.replicate (4 - (lg_sl ([.ref q])).length) Slot.unset).toArray = ls at hl ⊢
  generalize ([.ref q] : List Value).toArray = args at hQ ⊢
  have hts : ∀ w ∈ TW, w.before args s = true := fun w h => hT w h args
  have hl : lv_has ls 4 [(0, .ref q)] := hl
  obtain ⟨A, hAe⟩ : ∃ A : Addr → Prop, A = (fun x => q ≤ x ∧ x < q + 7) := ⟨_, rfl⟩
  rw [← hAe] at hQ
  have hS : va_S A s.heap s.heap [] := va_S.rf
  have hP : va_P (kD K) vcl [(q, .inr (2, [.int (iI ((Kn : Int))), .ref (q + 1), .ref (q + 2), .ref (q + 3), .ref (q + 4), .ref (q + 5), .ref (q + 6), .int (iI bp), .int (iI bc), .long (lI sf)])), (q + 1, .inl (kI K, 4, .inl (iA mu))), (q + 2, .inl (kI K, 4, .inl (iA pr))), (q + 3, .inl (kI K, 4, .inl (iA bg))), (q + 4, .inl (kI K, 4, .inl (iA ch))), (q + 5, .inl (kI K, 4, .inl (iA tr))), (q + 6, .inl (kI K, 4, .inl (iA bn)))] s.heap := hB
  have hD : va_D A [(q, .inr (2, [.int (iI ((Kn : Int))), .ref (q + 1), .ref (q + 2), .ref (q + 3), .ref (q + 4), .ref (q + 5), .ref (q + 6), .int (iI bp), .int (iI bc), .long (lI sf)])), (q + 1, .inl (kI K, 4, .inl (iA mu))), (q + 2, .inl (kI K, 4, .inl (iA pr))), (q + 3, .inl (kI K, 4, .inl (iA bg))), (q + 4, .inl (kI K, 4, .inl (iA ch))), (q + 5, .inl (kI K, 4, .inl (iA tr))), (q + 6, .inl (kI K, 4, .inl (iA bn)))] := by rw [hAe]; exact va_D_of (by simp) (by simp <;> omega)
  have loop : ∀ (j b d : Nat) (bg1 ch1 : Nat → Int), j ≤ Kn → b < Kn → d < Kn → (∀ i, j ≤ i → i < Kn → mu i ≤ mu b) → (∀ i, j ≤ i → i < Kn → pr d * mu i ≤ pr i * mu d) → ShR Kn j mu pr bg1 ch1 → ∀ (H : Heap) (locs : List Loc), va_P (kD K) vcl [(q, .inr (2, [.int (iI ((Kn : Int))), .ref (q + 1), .ref (q + 2), .ref (q + 3), .ref (q + 4), .ref (q + 5), .ref (q + 6), .int (iI bp), .int (iI bc), .long (lI sf)])), (q + 1, .inl (kI K, 4, .inl (iA mu))), (q + 2, .inl (kI K, 4, .inl (iA pr))), (q + 3, .inl (kI K, 4, .inl (iA bg1))), (q + 4, .inl (kI K, 4, .inl (iA ch1))), (q + 5, .inl (kI K, 4, .inl (iA tr))), (q + 6, .inl (kI K, 4, .inl (iA bn)))] H → va_D A [(q, .inr (2, [.int (iI ((Kn : Int))), .ref (q + 1), .ref (q + 2), .ref (q + 3), .ref (q + 4), .ref (q + 5), .ref (q + 6), .int (iI bp), .int (iI bc), .long (lI sf)])), (q + 1, .inl (kI K, 4, .inl (iA mu))), (q + 2, .inl (kI K, 4, .inl (iA pr))), (q + 3, .inl (kI K, 4, .inl (iA bg1))), (q + 4, .inl (kI K, 4, .inl (iA ch1))), (q + 5, .inl (kI K, 4, .inl (iA tr))), (q + 6, .inl (kI K, 4, .inl (iA bn)))] → va_S A s.heap H locs → ∀ ls : Array Slot, lv_has ls 4 [(0, .ref q), (1, .int (iI ((b : Int)))), (2, .int (iI ((d : Int)))), (3, .int (iI ((j : Int) - 1)))] → W p l e rmS_rankFromBehind s m args below meth c H locs 0 0 Q (F0 m 21 ls []) := by
    intro j
    induction j with
    | zero =>
      intro b d bg1 ch1 hj hbK hdK hbm hdm hR H locs hP hD hS ls hl
      refine lv_iload_n hx hb dS_rankFromBehind_21 rfl (lv_at hl 3 rfl) ?_
      refine iz_if_lt (tgt := 98) hx hb ⟨by omega, by omega⟩ dS_rankFromBehind_22 (by decide) (fun g1 => ?_) (fun g1 => ?_)
      · rw [hQ]
        exact iz_vret hx hb hr hlocks (⟨bg1, ch1, hR, hP⟩) hS.2.2 dS_rankFromBehind_98
      · exact absurd g1 (by omega)
    | succ j ih =>
      intro b d bg1 ch1 hj hbK hdK hbm hdm hR H locs hP hD hS ls hl
      refine lv_iload_n hx hb dS_rankFromBehind_21 rfl (lv_at hl 3 rfl) ?_
      refine iz_if_lt (tgt := 98) hx hb ⟨by omega, by omega⟩ dS_rankFromBehind_22 (by decide) (fun g1 => ?_) (fun g1 => ?_)
      · exact absurd g1 (by omega)
      · have qj := hbd j (by omega)
        have qb := hbd b hbK
        have qd := hbd d hdK
        refine lv_aload_n hx hb dS_rankFromBehind_25 rfl (lv_at hl 0 rfl) ?_
        refine va_get (D := kD K) (ci := 2) (v := .ref (q + 1)) (C := RS) (T := FS) (N := 10) hx hb hts jnS hown hK hP 0 rfl rfl 1 (by decide) (hts _ mt_54) (fun _ h9 => h9) rfl dS_rankFromBehind_26 ?_
        refine lv_iload_n hx hb dS_rankFromBehind_29 rfl (lv_at hl 3 rfl) ?_
        refine iz_iald hx hb hK hP 1 rfl j (by omega) (by omega) (by omega) dS_rankFromBehind_30 ?_
        refine lv_aload_n hx hb dS_rankFromBehind_31 rfl (lv_at hl 0 rfl) ?_
        refine va_get (D := kD K) (ci := 2) (v := .ref (q + 1)) (C := RS) (T := FS) (N := 10) hx hb hts jnS hown hK hP 0 rfl rfl 1 (by decide) (hts _ mt_54) (fun _ h9 => h9) rfl dS_rankFromBehind_32 ?_
        refine lv_iload_n hx hb dS_rankFromBehind_35 rfl (lv_at hl 1 rfl) ?_
        refine iz_iald hx hb hK hP 1 rfl b rfl (by omega) (by omega) dS_rankFromBehind_36 ?_
        refine iz_icmp_le (tgt := 42) hx hb ⟨by omega, by omega⟩ ⟨by omega, by omega⟩ dS_rankFromBehind_37 (by decide) (fun g2 => ?_) (fun g2 => ?_)
        · have hp1 := mul_bd (show 0 ≤ pr j by omega) qj.2.2.2 (show 0 ≤ mu d by omega) qd.2.1
          have hp2 := mul_bd (show 0 ≤ pr d by omega) qd.2.2.2 (show 0 ≤ mu j by omega) qj.2.1
          refine lv_aload_n hx hb dS_rankFromBehind_42 rfl (lv_at hl 0 rfl) ?_
          refine va_get (D := kD K) (ci := 2) (v := .ref (q + 2)) (C := RS) (T := FS) (N := 10) hx hb hts jnS hown hK hP 0 rfl rfl 2 (by decide) (hts _ mt_55) (fun _ h9 => h9) rfl dS_rankFromBehind_43 ?_
          refine lv_iload_n hx hb dS_rankFromBehind_46 rfl (lv_at hl 3 rfl) ?_
          refine iz_iald hx hb hK hP 2 rfl j (by omega) (by omega) (by omega) dS_rankFromBehind_47 ?_
          refine iz_i2l hx hb ⟨by omega, by omega⟩ dS_rankFromBehind_48 ?_
          refine lv_aload_n hx hb dS_rankFromBehind_49 rfl (lv_at hl 0 rfl) ?_
          refine va_get (D := kD K) (ci := 2) (v := .ref (q + 1)) (C := RS) (T := FS) (N := 10) hx hb hts jnS hown hK hP 0 rfl rfl 1 (by decide) (hts _ mt_54) (fun _ h9 => h9) rfl dS_rankFromBehind_50 ?_
          refine lv_iload_n hx hb dS_rankFromBehind_53 rfl (lv_at hl 2 rfl) ?_
          refine iz_iald hx hb hK hP 1 rfl d rfl (by omega) (by omega) dS_rankFromBehind_54 ?_
          refine iz_i2l hx hb ⟨by omega, by omega⟩ dS_rankFromBehind_55 ?_
          refine iz_lmul hx hb dS_rankFromBehind_56 ?_
          refine lv_aload_n hx hb dS_rankFromBehind_57 rfl (lv_at hl 0 rfl) ?_
          refine va_get (D := kD K) (ci := 2) (v := .ref (q + 2)) (C := RS) (T := FS) (N := 10) hx hb hts jnS hown hK hP 0 rfl rfl 2 (by decide) (hts _ mt_55) (fun _ h9 => h9) rfl dS_rankFromBehind_58 ?_
          refine lv_iload_n hx hb dS_rankFromBehind_61 rfl (lv_at hl 2 rfl) ?_
          refine iz_iald hx hb hK hP 2 rfl d rfl (by omega) (by omega) dS_rankFromBehind_62 ?_
          refine iz_i2l hx hb ⟨by omega, by omega⟩ dS_rankFromBehind_63 ?_
          refine lv_aload_n hx hb dS_rankFromBehind_64 rfl (lv_at hl 0 rfl) ?_
          refine va_get (D := kD K) (ci := 2) (v := .ref (q + 1)) (C := RS) (T := FS) (N := 10) hx hb hts jnS hown hK hP 0 rfl rfl 1 (by decide) (hts _ mt_54) (fun _ h9 => h9) rfl dS_rankFromBehind_65 ?_
          refine lv_iload_n hx hb dS_rankFromBehind_68 rfl (lv_at hl 3 rfl) ?_
          refine iz_iald hx hb hK hP 1 rfl j (by omega) (by omega) (by omega) dS_rankFromBehind_69 ?_
          refine iz_i2l hx hb ⟨by omega, by omega⟩ dS_rankFromBehind_70 ?_
          refine iz_lmul hx hb dS_rankFromBehind_71 ?_
          refine iz_lc_ge (tgt := 78) hx hb ⟨by omega, by omega⟩ ⟨by omega, by omega⟩ dS_rankFromBehind_72 dS_rankFromBehind_73 (by decide) (fun g3 => ?_) (fun g3 => ?_)
          · refine lv_aload_n hx hb dS_rankFromBehind_78 rfl (lv_at hl 0 rfl) ?_
            refine va_get (D := kD K) (ci := 2) (v := .ref (q + 3)) (C := RS) (T := FS) (N := 10) hx hb hts jnS hown hK hP 0 rfl rfl 3 (by decide) (hts _ mt_56) (fun _ h9 => h9) rfl dS_rankFromBehind_79 ?_
            refine lv_iload_n hx hb dS_rankFromBehind_82 rfl (lv_at hl 3 rfl) ?_
            refine lv_iload_n hx hb dS_rankFromBehind_83 rfl (lv_at hl 1 rfl) ?_
            refine iz_iast hx hb hK hP hD hS 3 rfl j (by omega) (by omega) (by omega) dS_rankFromBehind_84 (fun H locs hP hD hS => ?_)
            have hP : va_P (kD K) vcl [(q, .inr (2, [.int (iI ((Kn : Int))), .ref (q + 1), .ref (q + 2), .ref (q + 3), .ref (q + 4), .ref (q + 5), .ref (q + 6), .int (iI bp), .int (iI bc), .long (lI sf)])), (q + 1, .inl (kI K, 4, .inl (iA mu))), (q + 2, .inl (kI K, 4, .inl (iA pr))), (q + 3, .inl (kI K, 4, .inl (iA (ut bg1 j ((b : Int)))))), (q + 4, .inl (kI K, 4, .inl (iA ch1))), (q + 5, .inl (kI K, 4, .inl (iA tr))), (q + 6, .inl (kI K, 4, .inl (iA bn)))] H := hP
            have hD : va_D A [(q, .inr (2, [.int (iI ((Kn : Int))), .ref (q + 1), .ref (q + 2), .ref (q + 3), .ref (q + 4), .ref (q + 5), .ref (q + 6), .int (iI bp), .int (iI bc), .long (lI sf)])), (q + 1, .inl (kI K, 4, .inl (iA mu))), (q + 2, .inl (kI K, 4, .inl (iA pr))), (q + 3, .inl (kI K, 4, .inl (iA (ut bg1 j ((b : Int)))))), (q + 4, .inl (kI K, 4, .inl (iA ch1))), (q + 5, .inl (kI K, 4, .inl (iA tr))), (q + 6, .inl (kI K, 4, .inl (iA bn)))] := hD
            refine lv_aload_n hx hb dS_rankFromBehind_85 rfl (lv_at hl 0 rfl) ?_
            refine va_get (D := kD K) (ci := 2) (v := .ref (q + 4)) (C := RS) (T := FS) (N := 10) hx hb hts jnS hown hK hP 0 rfl rfl 4 (by decide) (hts _ mt_57) (fun _ h9 => h9) rfl dS_rankFromBehind_86 ?_
            refine lv_iload_n hx hb dS_rankFromBehind_89 rfl (lv_at hl 3 rfl) ?_
            refine lv_iload_n hx hb dS_rankFromBehind_90 rfl (lv_at hl 2 rfl) ?_
            refine iz_iast hx hb hK hP hD hS 4 rfl j (by omega) (by omega) (by omega) dS_rankFromBehind_91 (fun H locs hP hD hS => ?_)
            have hP : va_P (kD K) vcl [(q, .inr (2, [.int (iI ((Kn : Int))), .ref (q + 1), .ref (q + 2), .ref (q + 3), .ref (q + 4), .ref (q + 5), .ref (q + 6), .int (iI bp), .int (iI bc), .long (lI sf)])), (q + 1, .inl (kI K, 4, .inl (iA mu))), (q + 2, .inl (kI K, 4, .inl (iA pr))), (q + 3, .inl (kI K, 4, .inl (iA (ut bg1 j ((b : Int)))))), (q + 4, .inl (kI K, 4, .inl (iA (ut ch1 j ((d : Int)))))), (q + 5, .inl (kI K, 4, .inl (iA tr))), (q + 6, .inl (kI K, 4, .inl (iA bn)))] H := hP
            have hD : va_D A [(q, .inr (2, [.int (iI ((Kn : Int))), .ref (q + 1), .ref (q + 2), .ref (q + 3), .ref (q + 4), .ref (q + 5), .ref (q + 6), .int (iI bp), .int (iI bc), .long (lI sf)])), (q + 1, .inl (kI K, 4, .inl (iA mu))), (q + 2, .inl (kI K, 4, .inl (iA pr))), (q + 3, .inl (kI K, 4, .inl (iA (ut bg1 j ((b : Int)))))), (q + 4, .inl (kI K, 4, .inl (iA (ut ch1 j ((d : Int)))))), (q + 5, .inl (kI K, 4, .inl (iA tr))), (q + 6, .inl (kI K, 4, .inl (iA bn)))] := hD
            refine iz_iinc (k := 3) (lv' := [(3, .int (iI (((j + 1 : Nat) : Int) - 1 + (-1)))), (0, .ref q), (1, .int (iI ((b : Int)))), (2, .int (iI ((d : Int))))]) hx hb dS_rankFromBehind_92 hl rfl (by decide) rfl (fun ls hl => ?_)
            refine lv_goto (tgt := 21) hx hb dS_rankFromBehind_95 (by decide) ?_
            exact ih b d (ut bg1 j b) (ut ch1 j d) (by omega) hbK hdK (fun i h1 h2 => by by_cases e : i = j; subst e; exact g2; exact hbm i (by omega) h2) (fun i h1 h2 => by by_cases e : i = j; subst e; omega; exact hdm i (by omega) h2) (ShR_s hR hbK hdK (fun i h1 h2 => by by_cases e : i = j; subst e; exact g2; exact hbm i (by omega) h2) (fun i h1 h2 => by by_cases e : i = j; subst e; omega; exact hdm i (by omega) h2)) H _ hP hD hS ls (lv_sub hl [1, 2, 3, 0] (by rw [show ((j : Nat) : Int) - 1 = ((j + 1 : Nat) : Int) - 1 + -1 by omega]; rfl))
          · refine lv_iload_n hx hb dS_rankFromBehind_76 rfl (lv_at hl 3 rfl) ?_
            refine lv_istore_n (lv' := [(2, .int (iI (((j + 1 : Nat) : Int) - 1))), (0, .ref q), (1, .int (iI ((b : Int)))), (3, .int (iI (((j + 1 : Nat) : Int) - 1)))]) hx hb dS_rankFromBehind_77 rfl hl (by decide) rfl (fun ls hl => ?_)
            have ej : ((j + 1 : Nat) : Int) - 1 = (j : Int) := by omega
            rw [ej] at hl
            refine lv_aload_n hx hb dS_rankFromBehind_78 rfl (lv_at hl 1 rfl) ?_
            refine va_get (D := kD K) (ci := 2) (v := .ref (q + 3)) (C := RS) (T := FS) (N := 10) hx hb hts jnS hown hK hP 0 rfl rfl 3 (by decide) (hts _ mt_56) (fun _ h9 => h9) rfl dS_rankFromBehind_79 ?_
            refine lv_iload_n hx hb dS_rankFromBehind_82 rfl (lv_at hl 3 rfl) ?_
            refine lv_iload_n hx hb dS_rankFromBehind_83 rfl (lv_at hl 2 rfl) ?_
            refine iz_iast hx hb hK hP hD hS 3 rfl j rfl (by omega) (by omega) dS_rankFromBehind_84 (fun H locs hP hD hS => ?_)
            have hP : va_P (kD K) vcl [(q, .inr (2, [.int (iI ((Kn : Int))), .ref (q + 1), .ref (q + 2), .ref (q + 3), .ref (q + 4), .ref (q + 5), .ref (q + 6), .int (iI bp), .int (iI bc), .long (lI sf)])), (q + 1, .inl (kI K, 4, .inl (iA mu))), (q + 2, .inl (kI K, 4, .inl (iA pr))), (q + 3, .inl (kI K, 4, .inl (iA (ut bg1 j ((b : Int)))))), (q + 4, .inl (kI K, 4, .inl (iA ch1))), (q + 5, .inl (kI K, 4, .inl (iA tr))), (q + 6, .inl (kI K, 4, .inl (iA bn)))] H := hP
            have hD : va_D A [(q, .inr (2, [.int (iI ((Kn : Int))), .ref (q + 1), .ref (q + 2), .ref (q + 3), .ref (q + 4), .ref (q + 5), .ref (q + 6), .int (iI bp), .int (iI bc), .long (lI sf)])), (q + 1, .inl (kI K, 4, .inl (iA mu))), (q + 2, .inl (kI K, 4, .inl (iA pr))), (q + 3, .inl (kI K, 4, .inl (iA (ut bg1 j ((b : Int)))))), (q + 4, .inl (kI K, 4, .inl (iA ch1))), (q + 5, .inl (kI K, 4, .inl (iA tr))), (q + 6, .inl (kI K, 4, .inl (iA bn)))] := hD
            refine lv_aload_n hx hb dS_rankFromBehind_85 rfl (lv_at hl 1 rfl) ?_
            refine va_get (D := kD K) (ci := 2) (v := .ref (q + 4)) (C := RS) (T := FS) (N := 10) hx hb hts jnS hown hK hP 0 rfl rfl 4 (by decide) (hts _ mt_57) (fun _ h9 => h9) rfl dS_rankFromBehind_86 ?_
            refine lv_iload_n hx hb dS_rankFromBehind_89 rfl (lv_at hl 3 rfl) ?_
            refine lv_iload_n hx hb dS_rankFromBehind_90 rfl (lv_at hl 0 rfl) ?_
            refine iz_iast hx hb hK hP hD hS 4 rfl j rfl (by omega) (by omega) dS_rankFromBehind_91 (fun H locs hP hD hS => ?_)
            have hP : va_P (kD K) vcl [(q, .inr (2, [.int (iI ((Kn : Int))), .ref (q + 1), .ref (q + 2), .ref (q + 3), .ref (q + 4), .ref (q + 5), .ref (q + 6), .int (iI bp), .int (iI bc), .long (lI sf)])), (q + 1, .inl (kI K, 4, .inl (iA mu))), (q + 2, .inl (kI K, 4, .inl (iA pr))), (q + 3, .inl (kI K, 4, .inl (iA (ut bg1 j ((b : Int)))))), (q + 4, .inl (kI K, 4, .inl (iA (ut ch1 j ((j : Int)))))), (q + 5, .inl (kI K, 4, .inl (iA tr))), (q + 6, .inl (kI K, 4, .inl (iA bn)))] H := hP
            have hD : va_D A [(q, .inr (2, [.int (iI ((Kn : Int))), .ref (q + 1), .ref (q + 2), .ref (q + 3), .ref (q + 4), .ref (q + 5), .ref (q + 6), .int (iI bp), .int (iI bc), .long (lI sf)])), (q + 1, .inl (kI K, 4, .inl (iA mu))), (q + 2, .inl (kI K, 4, .inl (iA pr))), (q + 3, .inl (kI K, 4, .inl (iA (ut bg1 j ((b : Int)))))), (q + 4, .inl (kI K, 4, .inl (iA (ut ch1 j ((j : Int)))))), (q + 5, .inl (kI K, 4, .inl (iA tr))), (q + 6, .inl (kI K, 4, .inl (iA bn)))] := hD
            refine iz_iinc (k := 3) (lv' := [(3, .int (iI ((j : Int) + (-1)))), (2, .int (iI ((j : Int)))), (0, .ref q), (1, .int (iI ((b : Int))))]) hx hb dS_rankFromBehind_92 hl rfl (by decide) rfl (fun ls hl => ?_)
            refine lv_goto (tgt := 21) hx hb dS_rankFromBehind_95 (by decide) ?_
            exact ih b j (ut bg1 j b) (ut ch1 j j) (by omega) hbK (by omega) (fun i h1 h2 => by by_cases e : i = j; subst e; exact g2; exact hbm i (by omega) h2) (fun i h1 h2 => by by_cases e : i = j; subst e; exact Int.le_refl _; exact py_ratio (by omega) (by omega) (by omega) (hdm i (by omega) h2) (by have := hbd i h2; omega)) (ShR_s hR hbK (by omega) (fun i h1 h2 => by by_cases e : i = j; subst e; exact g2; exact hbm i (by omega) h2) (fun i h1 h2 => by by_cases e : i = j; subst e; exact Int.le_refl _; exact py_ratio (by omega) (by omega) (by omega) (hdm i (by omega) h2) (by have := hbd i h2; omega))) H _ hP hD hS ls (lv_sub hl [2, 3, 1, 0] rfl)
        · have hp1 := mul_bd (show 0 ≤ pr j by omega) qj.2.2.2 (show 0 ≤ mu d by omega) qd.2.1
          have hp2 := mul_bd (show 0 ≤ pr d by omega) qd.2.2.2 (show 0 ≤ mu j by omega) qj.2.1
          refine lv_iload_n hx hb dS_rankFromBehind_40 rfl (lv_at hl 3 rfl) ?_
          refine lv_istore_n (lv' := [(1, .int (iI (((j + 1 : Nat) : Int) - 1))), (0, .ref q), (2, .int (iI ((d : Int)))), (3, .int (iI (((j + 1 : Nat) : Int) - 1)))]) hx hb dS_rankFromBehind_41 rfl hl (by decide) rfl (fun ls hl => ?_)
          have ej : ((j + 1 : Nat) : Int) - 1 = (j : Int) := by omega
          rw [ej] at hl
          refine lv_aload_n hx hb dS_rankFromBehind_42 rfl (lv_at hl 1 rfl) ?_
          refine va_get (D := kD K) (ci := 2) (v := .ref (q + 2)) (C := RS) (T := FS) (N := 10) hx hb hts jnS hown hK hP 0 rfl rfl 2 (by decide) (hts _ mt_55) (fun _ h9 => h9) rfl dS_rankFromBehind_43 ?_
          refine lv_iload_n hx hb dS_rankFromBehind_46 rfl (lv_at hl 3 rfl) ?_
          refine iz_iald hx hb hK hP 2 rfl j rfl (by omega) (by omega) dS_rankFromBehind_47 ?_
          refine iz_i2l hx hb ⟨by omega, by omega⟩ dS_rankFromBehind_48 ?_
          refine lv_aload_n hx hb dS_rankFromBehind_49 rfl (lv_at hl 1 rfl) ?_
          refine va_get (D := kD K) (ci := 2) (v := .ref (q + 1)) (C := RS) (T := FS) (N := 10) hx hb hts jnS hown hK hP 0 rfl rfl 1 (by decide) (hts _ mt_54) (fun _ h9 => h9) rfl dS_rankFromBehind_50 ?_
          refine lv_iload_n hx hb dS_rankFromBehind_53 rfl (lv_at hl 2 rfl) ?_
          refine iz_iald hx hb hK hP 1 rfl d rfl (by omega) (by omega) dS_rankFromBehind_54 ?_
          refine iz_i2l hx hb ⟨by omega, by omega⟩ dS_rankFromBehind_55 ?_
          refine iz_lmul hx hb dS_rankFromBehind_56 ?_
          refine lv_aload_n hx hb dS_rankFromBehind_57 rfl (lv_at hl 1 rfl) ?_
          refine va_get (D := kD K) (ci := 2) (v := .ref (q + 2)) (C := RS) (T := FS) (N := 10) hx hb hts jnS hown hK hP 0 rfl rfl 2 (by decide) (hts _ mt_55) (fun _ h9 => h9) rfl dS_rankFromBehind_58 ?_
          refine lv_iload_n hx hb dS_rankFromBehind_61 rfl (lv_at hl 2 rfl) ?_
          refine iz_iald hx hb hK hP 2 rfl d rfl (by omega) (by omega) dS_rankFromBehind_62 ?_
          refine iz_i2l hx hb ⟨by omega, by omega⟩ dS_rankFromBehind_63 ?_
          refine lv_aload_n hx hb dS_rankFromBehind_64 rfl (lv_at hl 1 rfl) ?_
          refine va_get (D := kD K) (ci := 2) (v := .ref (q + 1)) (C := RS) (T := FS) (N := 10) hx hb hts jnS hown hK hP 0 rfl rfl 1 (by decide) (hts _ mt_54) (fun _ h9 => h9) rfl dS_rankFromBehind_65 ?_
          refine lv_iload_n hx hb dS_rankFromBehind_68 rfl (lv_at hl 3 rfl) ?_
          refine iz_iald hx hb hK hP 1 rfl j rfl (by omega) (by omega) dS_rankFromBehind_69 ?_
          refine iz_i2l hx hb ⟨by omega, by omega⟩ dS_rankFromBehind_70 ?_
          refine iz_lmul hx hb dS_rankFromBehind_71 ?_
          refine iz_lc_ge (tgt := 78) hx hb ⟨by omega, by omega⟩ ⟨by omega, by omega⟩ dS_rankFromBehind_72 dS_rankFromBehind_73 (by decide) (fun g3 => ?_) (fun g3 => ?_)
          · refine lv_aload_n hx hb dS_rankFromBehind_78 rfl (lv_at hl 1 rfl) ?_
            refine va_get (D := kD K) (ci := 2) (v := .ref (q + 3)) (C := RS) (T := FS) (N := 10) hx hb hts jnS hown hK hP 0 rfl rfl 3 (by decide) (hts _ mt_56) (fun _ h9 => h9) rfl dS_rankFromBehind_79 ?_
            refine lv_iload_n hx hb dS_rankFromBehind_82 rfl (lv_at hl 3 rfl) ?_
            refine lv_iload_n hx hb dS_rankFromBehind_83 rfl (lv_at hl 0 rfl) ?_
            refine iz_iast hx hb hK hP hD hS 3 rfl j rfl (by omega) (by omega) dS_rankFromBehind_84 (fun H locs hP hD hS => ?_)
            have hP : va_P (kD K) vcl [(q, .inr (2, [.int (iI ((Kn : Int))), .ref (q + 1), .ref (q + 2), .ref (q + 3), .ref (q + 4), .ref (q + 5), .ref (q + 6), .int (iI bp), .int (iI bc), .long (lI sf)])), (q + 1, .inl (kI K, 4, .inl (iA mu))), (q + 2, .inl (kI K, 4, .inl (iA pr))), (q + 3, .inl (kI K, 4, .inl (iA (ut bg1 j ((j : Int)))))), (q + 4, .inl (kI K, 4, .inl (iA ch1))), (q + 5, .inl (kI K, 4, .inl (iA tr))), (q + 6, .inl (kI K, 4, .inl (iA bn)))] H := hP
            have hD : va_D A [(q, .inr (2, [.int (iI ((Kn : Int))), .ref (q + 1), .ref (q + 2), .ref (q + 3), .ref (q + 4), .ref (q + 5), .ref (q + 6), .int (iI bp), .int (iI bc), .long (lI sf)])), (q + 1, .inl (kI K, 4, .inl (iA mu))), (q + 2, .inl (kI K, 4, .inl (iA pr))), (q + 3, .inl (kI K, 4, .inl (iA (ut bg1 j ((j : Int)))))), (q + 4, .inl (kI K, 4, .inl (iA ch1))), (q + 5, .inl (kI K, 4, .inl (iA tr))), (q + 6, .inl (kI K, 4, .inl (iA bn)))] := hD
            refine lv_aload_n hx hb dS_rankFromBehind_85 rfl (lv_at hl 1 rfl) ?_
            refine va_get (D := kD K) (ci := 2) (v := .ref (q + 4)) (C := RS) (T := FS) (N := 10) hx hb hts jnS hown hK hP 0 rfl rfl 4 (by decide) (hts _ mt_57) (fun _ h9 => h9) rfl dS_rankFromBehind_86 ?_
            refine lv_iload_n hx hb dS_rankFromBehind_89 rfl (lv_at hl 3 rfl) ?_
            refine lv_iload_n hx hb dS_rankFromBehind_90 rfl (lv_at hl 2 rfl) ?_
            refine iz_iast hx hb hK hP hD hS 4 rfl j rfl (by omega) (by omega) dS_rankFromBehind_91 (fun H locs hP hD hS => ?_)
            have hP : va_P (kD K) vcl [(q, .inr (2, [.int (iI ((Kn : Int))), .ref (q + 1), .ref (q + 2), .ref (q + 3), .ref (q + 4), .ref (q + 5), .ref (q + 6), .int (iI bp), .int (iI bc), .long (lI sf)])), (q + 1, .inl (kI K, 4, .inl (iA mu))), (q + 2, .inl (kI K, 4, .inl (iA pr))), (q + 3, .inl (kI K, 4, .inl (iA (ut bg1 j ((j : Int)))))), (q + 4, .inl (kI K, 4, .inl (iA (ut ch1 j ((d : Int)))))), (q + 5, .inl (kI K, 4, .inl (iA tr))), (q + 6, .inl (kI K, 4, .inl (iA bn)))] H := hP
            have hD : va_D A [(q, .inr (2, [.int (iI ((Kn : Int))), .ref (q + 1), .ref (q + 2), .ref (q + 3), .ref (q + 4), .ref (q + 5), .ref (q + 6), .int (iI bp), .int (iI bc), .long (lI sf)])), (q + 1, .inl (kI K, 4, .inl (iA mu))), (q + 2, .inl (kI K, 4, .inl (iA pr))), (q + 3, .inl (kI K, 4, .inl (iA (ut bg1 j ((j : Int)))))), (q + 4, .inl (kI K, 4, .inl (iA (ut ch1 j ((d : Int)))))), (q + 5, .inl (kI K, 4, .inl (iA tr))), (q + 6, .inl (kI K, 4, .inl (iA bn)))] := hD
            refine iz_iinc (k := 3) (lv' := [(3, .int (iI ((j : Int) + (-1)))), (1, .int (iI ((j : Int)))), (0, .ref q), (2, .int (iI ((d : Int))))]) hx hb dS_rankFromBehind_92 hl rfl (by decide) rfl (fun ls hl => ?_)
            refine lv_goto (tgt := 21) hx hb dS_rankFromBehind_95 (by decide) ?_
            exact ih j d (ut bg1 j j) (ut ch1 j d) (by omega) (by omega) hdK (fun i h1 h2 => by by_cases e : i = j; subst e; exact Int.le_refl _; have := hbm i (by omega) h2; omega) (fun i h1 h2 => by by_cases e : i = j; subst e; omega; exact hdm i (by omega) h2) (ShR_s hR (by omega) hdK (fun i h1 h2 => by by_cases e : i = j; subst e; exact Int.le_refl _; have := hbm i (by omega) h2; omega) (fun i h1 h2 => by by_cases e : i = j; subst e; omega; exact hdm i (by omega) h2)) H _ hP hD hS ls (lv_sub hl [2, 1, 3, 0] rfl)
          · refine lv_iload_n hx hb dS_rankFromBehind_76 rfl (lv_at hl 3 rfl) ?_
            refine lv_istore_n (lv' := [(2, .int (iI ((j : Int)))), (1, .int (iI ((j : Int)))), (0, .ref q), (3, .int (iI ((j : Int))))]) hx hb dS_rankFromBehind_77 rfl hl (by decide) rfl (fun ls hl => ?_)
            refine lv_aload_n hx hb dS_rankFromBehind_78 rfl (lv_at hl 2 rfl) ?_
            refine va_get (D := kD K) (ci := 2) (v := .ref (q + 3)) (C := RS) (T := FS) (N := 10) hx hb hts jnS hown hK hP 0 rfl rfl 3 (by decide) (hts _ mt_56) (fun _ h9 => h9) rfl dS_rankFromBehind_79 ?_
            refine lv_iload_n hx hb dS_rankFromBehind_82 rfl (lv_at hl 3 rfl) ?_
            refine lv_iload_n hx hb dS_rankFromBehind_83 rfl (lv_at hl 1 rfl) ?_
            refine iz_iast hx hb hK hP hD hS 3 rfl j rfl (by omega) (by omega) dS_rankFromBehind_84 (fun H locs hP hD hS => ?_)
            have hP : va_P (kD K) vcl [(q, .inr (2, [.int (iI ((Kn : Int))), .ref (q + 1), .ref (q + 2), .ref (q + 3), .ref (q + 4), .ref (q + 5), .ref (q + 6), .int (iI bp), .int (iI bc), .long (lI sf)])), (q + 1, .inl (kI K, 4, .inl (iA mu))), (q + 2, .inl (kI K, 4, .inl (iA pr))), (q + 3, .inl (kI K, 4, .inl (iA (ut bg1 j ((j : Int)))))), (q + 4, .inl (kI K, 4, .inl (iA ch1))), (q + 5, .inl (kI K, 4, .inl (iA tr))), (q + 6, .inl (kI K, 4, .inl (iA bn)))] H := hP
            have hD : va_D A [(q, .inr (2, [.int (iI ((Kn : Int))), .ref (q + 1), .ref (q + 2), .ref (q + 3), .ref (q + 4), .ref (q + 5), .ref (q + 6), .int (iI bp), .int (iI bc), .long (lI sf)])), (q + 1, .inl (kI K, 4, .inl (iA mu))), (q + 2, .inl (kI K, 4, .inl (iA pr))), (q + 3, .inl (kI K, 4, .inl (iA (ut bg1 j ((j : Int)))))), (q + 4, .inl (kI K, 4, .inl (iA ch1))), (q + 5, .inl (kI K, 4, .inl (iA tr))), (q + 6, .inl (kI K, 4, .inl (iA bn)))] := hD
            refine lv_aload_n hx hb dS_rankFromBehind_85 rfl (lv_at hl 2 rfl) ?_
            refine va_get (D := kD K) (ci := 2) (v := .ref (q + 4)) (C := RS) (T := FS) (N := 10) hx hb hts jnS hown hK hP 0 rfl rfl 4 (by decide) (hts _ mt_57) (fun _ h9 => h9) rfl dS_rankFromBehind_86 ?_
            refine lv_iload_n hx hb dS_rankFromBehind_89 rfl (lv_at hl 3 rfl) ?_
            refine lv_iload_n hx hb dS_rankFromBehind_90 rfl (lv_at hl 0 rfl) ?_
            refine iz_iast hx hb hK hP hD hS 4 rfl j rfl (by omega) (by omega) dS_rankFromBehind_91 (fun H locs hP hD hS => ?_)
            have hP : va_P (kD K) vcl [(q, .inr (2, [.int (iI ((Kn : Int))), .ref (q + 1), .ref (q + 2), .ref (q + 3), .ref (q + 4), .ref (q + 5), .ref (q + 6), .int (iI bp), .int (iI bc), .long (lI sf)])), (q + 1, .inl (kI K, 4, .inl (iA mu))), (q + 2, .inl (kI K, 4, .inl (iA pr))), (q + 3, .inl (kI K, 4, .inl (iA (ut bg1 j ((j : Int)))))), (q + 4, .inl (kI K, 4, .inl (iA (ut ch1 j ((j : Int)))))), (q + 5, .inl (kI K, 4, .inl (iA tr))), (q + 6, .inl (kI K, 4, .inl (iA bn)))] H := hP
            have hD : va_D A [(q, .inr (2, [.int (iI ((Kn : Int))), .ref (q + 1), .ref (q + 2), .ref (q + 3), .ref (q + 4), .ref (q + 5), .ref (q + 6), .int (iI bp), .int (iI bc), .long (lI sf)])), (q + 1, .inl (kI K, 4, .inl (iA mu))), (q + 2, .inl (kI K, 4, .inl (iA pr))), (q + 3, .inl (kI K, 4, .inl (iA (ut bg1 j ((j : Int)))))), (q + 4, .inl (kI K, 4, .inl (iA (ut ch1 j ((j : Int)))))), (q + 5, .inl (kI K, 4, .inl (iA tr))), (q + 6, .inl (kI K, 4, .inl (iA bn)))] := hD
            refine iz_iinc (k := 3) (lv' := [(3, .int (iI ((j : Int) + (-1)))), (2, .int (iI ((j : Int)))), (1, .int (iI ((j : Int)))), (0, .ref q)]) hx hb dS_rankFromBehind_92 hl rfl (by decide) rfl (fun ls hl => ?_)
            refine lv_goto (tgt := 21) hx hb dS_rankFromBehind_95 (by decide) ?_
            exact ih j j (ut bg1 j j) (ut ch1 j j) (by omega) (by omega) (by omega) (fun i h1 h2 => by by_cases e : i = j; subst e; exact Int.le_refl _; have := hbm i (by omega) h2; omega) (fun i h1 h2 => by by_cases e : i = j; subst e; exact Int.le_refl _; exact py_ratio (by omega) (by omega) (by omega) (hdm i (by omega) h2) (by have := hbd i h2; omega)) (ShR_s hR (by omega) (by omega) (fun i h1 h2 => by by_cases e : i = j; subst e; exact Int.le_refl _; have := hbm i (by omega) h2; omega) (fun i h1 h2 => by by_cases e : i = j; subst e; exact Int.le_refl _; exact py_ratio (by omega) (by omega) (by omega) (hdm i (by omega) h2) (by have := hbd i h2; omega))) H _ hP hD hS ls (lv_sub hl [3, 2, 1, 0] rfl)
  refine lv_aload_n hx hb dS_rankFromBehind_0 rfl (lv_at hl 0 rfl) ?_
  refine va_get (D := kD K) (ci := 2) (v := .int (iI ((Kn : Int)))) (C := RS) (T := FS) (N := 10) hx hb hts jnS hown hK hP 0 rfl rfl 0 (by decide) (hts _ mt_52) (fun _ h9 => h9) rfl dS_rankFromBehind_1 ?_
  refine iz_iconst hx hb dS_rankFromBehind_4 ?_
  refine iz_isub hx hb dS_rankFromBehind_5 ?_
  refine lv_istore_n (lv' := [(1, .int (iI (((Kn : Int)) - 1))), (0, .ref q)]) hx hb dS_rankFromBehind_6 rfl hl (by decide) rfl (fun ls hl => ?_)
  refine lv_aload_n hx hb dS_rankFromBehind_7 rfl (lv_at hl 1 rfl) ?_
  refine va_get (D := kD K) (ci := 2) (v := .int (iI ((Kn : Int)))) (C := RS) (T := FS) (N := 10) hx hb hts jnS hown hK hP 0 rfl rfl 0 (by decide) (hts _ mt_52) (fun _ h9 => h9) rfl dS_rankFromBehind_8 ?_
  refine iz_iconst hx hb dS_rankFromBehind_11 ?_
  refine iz_isub hx hb dS_rankFromBehind_12 ?_
  refine lv_istore_n (lv' := [(2, .int (iI (((Kn : Int)) - 1))), (1, .int (iI (((Kn : Int)) - 1))), (0, .ref q)]) hx hb dS_rankFromBehind_13 rfl hl (by decide) rfl (fun ls hl => ?_)
  refine lv_aload_n hx hb dS_rankFromBehind_14 rfl (lv_at hl 2 rfl) ?_
  refine va_get (D := kD K) (ci := 2) (v := .int (iI ((Kn : Int)))) (C := RS) (T := FS) (N := 10) hx hb hts jnS hown hK hP 0 rfl rfl 0 (by decide) (hts _ mt_52) (fun _ h9 => h9) rfl dS_rankFromBehind_15 ?_
  refine iz_iconst hx hb dS_rankFromBehind_18 ?_
  refine iz_isub hx hb dS_rankFromBehind_19 ?_
  refine lv_istore_n (lv' := [(3, .int (iI (((Kn : Int)) - 1))), (2, .int (iI (((Kn : Int)) - 1))), (1, .int (iI (((Kn : Int)) - 1))), (0, .ref q)]) hx hb dS_rankFromBehind_20 rfl hl (by decide) rfl (fun ls hl => ?_)
  have ek : (Kn : Int) - 1 = ((Kn - 1 : Nat) : Int) := by omega
  exact loop Kn (Kn - 1) (Kn - 1) bg ch (Nat.le_refl _) (by omega) (by omega) (fun i h1 h2 => absurd h1 (by omega)) (fun i h1 h2 => absurd h1 (by omega)) (fun k h1 h2 => absurd h1 (by omega)) s.heap [] hP hD hS ls (lv_sub hl [3, 2, 1, 0] (by rw [← ek]; rfl))
abbrev rmS_stock : Room := { frames := 1, cells := 0, slots := 0, locals := 60 }
set_option maxHeartbeats 4000000 in
set_option maxRecDepth 100000 in
/-- Shelf.stock(much, price) -/
theorem c_S_stock (l : Launch) (K : KG) (q Kn : Nat) (mu pr bg ch tr bn : Nat → Int) (bp bc sf : Int) (mm pp : Int) (hok : ShOK Kn mu pr bg ch) (hK3 : Kn < 4) (hm : 1 ≤ mm ∧ mm ≤ 1000000000) (hp : 1 ≤ pp ∧ pp ≤ 100000) : Ct l yS_stock kS_stock rmS_stock (PC K [.ref q, .int (iI mm), .int (iI pp)] (fun H => va_P (kD K) vcl (shW K q (Kn : Int) mu pr bg ch tr bn bp bc sf) H)) (QI (fun r H => r = Kn ∧ ∃ (bg' ch' : Nat → Int), ShOK (Kn + 1) (ut mu Kn mm) (ut pr Kn pp) bg' ch' ∧ va_P (kD K) vcl (shW K q ((Kn + 1 : Nat) : Int) (ut mu Kn mm) (ut pr Kn pp) bg' ch' tr bn bp bc (-1)) H)) (fun x => q ≤ x ∧ x < q + 7) := by
  refine ct_of (by decide) (Or.inl ⟨rfl, rfl⟩) ?_
  intro p e s m args below meth c B0 hP0
  obtain ⟨hx, hb, hr, hml, hown, hlocks, hnm, htab⟩ := B0
  obtain ⟨ha, ⟨hT, hK⟩, hB⟩ := hP0
  have hl := lv_entry ([.ref q, .int (iI mm), .int (iI pp)]) (n := 3) (Nat.le_of_ble_eq_true rfl)
  obtain ⟨Q, hQ⟩ : ∃ Q, Q = XQ below (QI (fun r H => r = Kn ∧ ∃ (bg' ch' : Nat → Int), ShOK (Kn + 1) (ut mu Kn mm) (ut pr Kn pp) bg' ch' ∧ va_P (kD K) vcl (shW K q ((Kn + 1 : Nat) : Int) (ut mu Kn mm) (ut pr Kn pp) bg' ch' tr bn bp bc (-1)) H)) args s rmS_stock.cells rmS_stock.slots (fun x => q ≤ x ∧ x < q + 7) := ⟨_, rfl⟩
  rw [← hQ, ha, lg_entry_eq]
  rw [ha] at hQ
  generalize (lg_sl ([.ref q, .int (iI mm), .int (iI pp)]) ++ List.replicate (3 - (lg_sl ([.ref q, .int (iI mm), .int (iI pp)])).length) Slot.unset).toArray = ls at hl ⊢
  generalize ([.ref q, .int (iI mm), .int (iI pp)] : List Value).toArray = args at hQ ⊢
  have hts : ∀ w ∈ TW, w.before args s = true := fun w h => hT w h args
  have hl : lv_has ls 3 [(0, .ref q), (1, .int (iI mm)), (2, .int (iI pp))] := hl
  obtain ⟨A, hAe⟩ : ∃ A : Addr → Prop, A = (fun x => q ≤ x ∧ x < q + 7) := ⟨_, rfl⟩
  rw [← hAe] at hQ
  have hS : va_S A s.heap s.heap [] := va_S.rf
  have hP : va_P (kD K) vcl [(q, .inr (2, [.int (iI ((Kn : Int))), .ref (q + 1), .ref (q + 2), .ref (q + 3), .ref (q + 4), .ref (q + 5), .ref (q + 6), .int (iI bp), .int (iI bc), .long (lI sf)])), (q + 1, .inl (kI K, 4, .inl (iA mu))), (q + 2, .inl (kI K, 4, .inl (iA pr))), (q + 3, .inl (kI K, 4, .inl (iA bg))), (q + 4, .inl (kI K, 4, .inl (iA ch))), (q + 5, .inl (kI K, 4, .inl (iA tr))), (q + 6, .inl (kI K, 4, .inl (iA bn)))] s.heap := hB
  have hD : va_D A [(q, .inr (2, [.int (iI ((Kn : Int))), .ref (q + 1), .ref (q + 2), .ref (q + 3), .ref (q + 4), .ref (q + 5), .ref (q + 6), .int (iI bp), .int (iI bc), .long (lI sf)])), (q + 1, .inl (kI K, 4, .inl (iA mu))), (q + 2, .inl (kI K, 4, .inl (iA pr))), (q + 3, .inl (kI K, 4, .inl (iA bg))), (q + 4, .inl (kI K, 4, .inl (iA ch))), (q + 5, .inl (kI K, 4, .inl (iA tr))), (q + 6, .inl (kI K, 4, .inl (iA bn)))] := by rw [hAe]; exact va_D_of (by simp) (by simp <;> omega)
  have hbd : ∀ i, i < Kn + 1 → 1 ≤ ut mu Kn mm i ∧ ut mu Kn mm i ≤ 1000000000 ∧ 1 ≤ ut pr Kn pp i ∧ ut pr Kn pp i ≤ 100000 := by
    intro i hi
    by_cases e : i = Kn
    · subst e; rw [ut_s, ut_s]; exact ⟨hm.1, hm.2, hp.1, hp.2⟩
    · rw [ut_n _ _ e, ut_n _ _ e]; exact hok.2.1 i (by omega)
  refine lv_aload_n hx hb dS_stock_0 rfl (lv_at hl 0 rfl) ?_
  refine va_get (D := kD K) (ci := 2) (v := .ref (q + 1)) (C := RS) (T := FS) (N := 10) hx hb hts jnS hown hK hP 0 rfl rfl 1 (by decide) (hts _ mt_54) (fun _ h9 => h9) rfl dS_stock_1 ?_
  refine lv_aload_n hx hb dS_stock_4 rfl (lv_at hl 0 rfl) ?_
  refine va_get (D := kD K) (ci := 2) (v := .int (iI ((Kn : Int)))) (C := RS) (T := FS) (N := 10) hx hb hts jnS hown hK hP 0 rfl rfl 0 (by decide) (hts _ mt_52) (fun _ h9 => h9) rfl dS_stock_5 ?_
  refine lv_iload_n hx hb dS_stock_8 rfl (lv_at hl 1 rfl) ?_
  refine iz_iast hx hb hK hP hD hS 1 rfl Kn rfl (by omega) (by omega) dS_stock_9 (fun H locs hP hD hS => ?_)
  have hP : va_P (kD K) vcl [(q, .inr (2, [.int (iI ((Kn : Int))), .ref (q + 1), .ref (q + 2), .ref (q + 3), .ref (q + 4), .ref (q + 5), .ref (q + 6), .int (iI bp), .int (iI bc), .long (lI sf)])), (q + 1, .inl (kI K, 4, .inl (iA (ut mu Kn mm)))), (q + 2, .inl (kI K, 4, .inl (iA pr))), (q + 3, .inl (kI K, 4, .inl (iA bg))), (q + 4, .inl (kI K, 4, .inl (iA ch))), (q + 5, .inl (kI K, 4, .inl (iA tr))), (q + 6, .inl (kI K, 4, .inl (iA bn)))] H := hP
  have hD : va_D A [(q, .inr (2, [.int (iI ((Kn : Int))), .ref (q + 1), .ref (q + 2), .ref (q + 3), .ref (q + 4), .ref (q + 5), .ref (q + 6), .int (iI bp), .int (iI bc), .long (lI sf)])), (q + 1, .inl (kI K, 4, .inl (iA (ut mu Kn mm)))), (q + 2, .inl (kI K, 4, .inl (iA pr))), (q + 3, .inl (kI K, 4, .inl (iA bg))), (q + 4, .inl (kI K, 4, .inl (iA ch))), (q + 5, .inl (kI K, 4, .inl (iA tr))), (q + 6, .inl (kI K, 4, .inl (iA bn)))] := hD
  refine lv_aload_n hx hb dS_stock_10 rfl (lv_at hl 0 rfl) ?_
  refine va_get (D := kD K) (ci := 2) (v := .ref (q + 2)) (C := RS) (T := FS) (N := 10) hx hb hts jnS hown hK hP 0 rfl rfl 2 (by decide) (hts _ mt_55) (fun _ h9 => h9) rfl dS_stock_11 ?_
  refine lv_aload_n hx hb dS_stock_14 rfl (lv_at hl 0 rfl) ?_
  refine va_get (D := kD K) (ci := 2) (v := .int (iI ((Kn : Int)))) (C := RS) (T := FS) (N := 10) hx hb hts jnS hown hK hP 0 rfl rfl 0 (by decide) (hts _ mt_52) (fun _ h9 => h9) rfl dS_stock_15 ?_
  refine lv_iload_n hx hb dS_stock_18 rfl (lv_at hl 2 rfl) ?_
  refine iz_iast hx hb hK hP hD hS 2 rfl Kn rfl (by omega) (by omega) dS_stock_19 (fun H locs hP hD hS => ?_)
  have hP : va_P (kD K) vcl [(q, .inr (2, [.int (iI ((Kn : Int))), .ref (q + 1), .ref (q + 2), .ref (q + 3), .ref (q + 4), .ref (q + 5), .ref (q + 6), .int (iI bp), .int (iI bc), .long (lI sf)])), (q + 1, .inl (kI K, 4, .inl (iA (ut mu Kn mm)))), (q + 2, .inl (kI K, 4, .inl (iA (ut pr Kn pp)))), (q + 3, .inl (kI K, 4, .inl (iA bg))), (q + 4, .inl (kI K, 4, .inl (iA ch))), (q + 5, .inl (kI K, 4, .inl (iA tr))), (q + 6, .inl (kI K, 4, .inl (iA bn)))] H := hP
  have hD : va_D A [(q, .inr (2, [.int (iI ((Kn : Int))), .ref (q + 1), .ref (q + 2), .ref (q + 3), .ref (q + 4), .ref (q + 5), .ref (q + 6), .int (iI bp), .int (iI bc), .long (lI sf)])), (q + 1, .inl (kI K, 4, .inl (iA (ut mu Kn mm)))), (q + 2, .inl (kI K, 4, .inl (iA (ut pr Kn pp)))), (q + 3, .inl (kI K, 4, .inl (iA bg))), (q + 4, .inl (kI K, 4, .inl (iA ch))), (q + 5, .inl (kI K, 4, .inl (iA tr))), (q + 6, .inl (kI K, 4, .inl (iA bn)))] := hD
  refine lv_aload_n hx hb dS_stock_20 rfl (lv_at hl 0 rfl) ?_
  refine lv_dup hx hb dS_stock_21 rfl ?_
  refine va_get (D := kD K) (ci := 2) (v := .int (iI ((Kn : Int)))) (C := RS) (T := FS) (N := 10) hx hb hts jnS hown hK hP 0 rfl rfl 0 (by decide) (hts _ mt_52) (fun _ h9 => h9) rfl dS_stock_22 ?_
  refine iz_iconst hx hb dS_stock_25 ?_
  refine iz_iadd hx hb dS_stock_26 ?_
  refine va_put (D := kD K) (ci := 2) (v := .int (iI (((Kn : Int)) + 1))) (ty := .int) (C := RS) (T := FS) (N := 10) hx hb hts jnS tS tS_ok nS hown hK hP hD hS 0 rfl rfl 0 (by decide) (hts _ mt_52) (fun _ h9 => h9) rfl (by decide +kernel) rfl rfl (Nat.le_of_ble_eq_true rfl) dS_stock_27 (fun H locs hP hD hS => ?_)
  have hP : va_P (kD K) vcl [(q, .inr (2, [.int (iI (((Kn : Int)) + 1)), .ref (q + 1), .ref (q + 2), .ref (q + 3), .ref (q + 4), .ref (q + 5), .ref (q + 6), .int (iI bp), .int (iI bc), .long (lI sf)])), (q + 1, .inl (kI K, 4, .inl (iA (ut mu Kn mm)))), (q + 2, .inl (kI K, 4, .inl (iA (ut pr Kn pp)))), (q + 3, .inl (kI K, 4, .inl (iA bg))), (q + 4, .inl (kI K, 4, .inl (iA ch))), (q + 5, .inl (kI K, 4, .inl (iA tr))), (q + 6, .inl (kI K, 4, .inl (iA bn)))] H := hP
  have hD : va_D A [(q, .inr (2, [.int (iI (((Kn : Int)) + 1)), .ref (q + 1), .ref (q + 2), .ref (q + 3), .ref (q + 4), .ref (q + 5), .ref (q + 6), .int (iI bp), .int (iI bc), .long (lI sf)])), (q + 1, .inl (kI K, 4, .inl (iA (ut mu Kn mm)))), (q + 2, .inl (kI K, 4, .inl (iA (ut pr Kn pp)))), (q + 3, .inl (kI K, 4, .inl (iA bg))), (q + 4, .inl (kI K, 4, .inl (iA ch))), (q + 5, .inl (kI K, 4, .inl (iA tr))), (q + 6, .inl (kI K, 4, .inl (iA bn)))] := hD
  refine lv_aload_n hx hb dS_stock_30 rfl (lv_at hl 0 rfl) ?_
  refine iz_ldc2 hx hb (-1) (by decide) hown (hts _ mt_51) dS_stock_31 ?_
  refine va_put (D := kD K) (ci := 2) (v := .long (lI (-1))) (ty := .long) (C := RS) (T := FS) (N := 10) hx hb hts jnS tS tS_ok nS hown hK hP hD hS 0 rfl rfl 9 (by decide) (hts _ mt_62) (fun _ h9 => h9) rfl (by decide +kernel) rfl rfl (Nat.le_of_ble_eq_true rfl) dS_stock_34 (fun H locs hP hD hS => ?_)
  have hP : va_P (kD K) vcl [(q, .inr (2, [.int (iI (((Kn : Int)) + 1)), .ref (q + 1), .ref (q + 2), .ref (q + 3), .ref (q + 4), .ref (q + 5), .ref (q + 6), .int (iI bp), .int (iI bc), .long (lI (-1))])), (q + 1, .inl (kI K, 4, .inl (iA (ut mu Kn mm)))), (q + 2, .inl (kI K, 4, .inl (iA (ut pr Kn pp)))), (q + 3, .inl (kI K, 4, .inl (iA bg))), (q + 4, .inl (kI K, 4, .inl (iA ch))), (q + 5, .inl (kI K, 4, .inl (iA tr))), (q + 6, .inl (kI K, 4, .inl (iA bn)))] H := hP
  have hD : va_D A [(q, .inr (2, [.int (iI (((Kn : Int)) + 1)), .ref (q + 1), .ref (q + 2), .ref (q + 3), .ref (q + 4), .ref (q + 5), .ref (q + 6), .int (iI bp), .int (iI bc), .long (lI (-1))])), (q + 1, .inl (kI K, 4, .inl (iA (ut mu Kn mm)))), (q + 2, .inl (kI K, 4, .inl (iA (ut pr Kn pp)))), (q + 3, .inl (kI K, 4, .inl (iA bg))), (q + 4, .inl (kI K, 4, .inl (iA ch))), (q + 5, .inl (kI K, 4, .inl (iA tr))), (q + 6, .inl (kI K, 4, .inl (iA bn)))] := hD
  refine lv_aload_n hx hb dS_stock_37 rfl (lv_at hl 0 rfl) ?_
  refine ctV (n := 0) hx hb hml hown hT ⟨c_S_rank l K q (Kn + 1) (ut mu Kn mm) (ut pr Kn pp) bg ch tr bn bp bc (-1) (by omega) (by omega) hbd, ⟨_, _, _, Or.inl ⟨rfl, rfl⟩⟩, mt_386, mt_3, by decide, by decide +kernel, by decide, by decide, by decide, by decide⟩ PC.blind mt_383 mt_385 ms_16 (va_RVof (ci := 2) (q0 := 0) hK hP rfl rfl) (As := []) (rest := []) rfl (PC.at ⟨hT, hK⟩ hP) hl.1 rfl (Nat.le_of_ble_eq_true rfl) dS_stock_38 (krV (c1 := 0) (s1 := 0) rfl rfl (fun t1 H L hA hL hpo => ?_))
  obtain ⟨bg', ch', hR, hP⟩ := hpo
  have hP : va_P (kD K) vcl [(q, .inr (2, [.int (iI (((Kn + 1 : Nat) : Int))), .ref (q + 1), .ref (q + 2), .ref (q + 3), .ref (q + 4), .ref (q + 5), .ref (q + 6), .int (iI bp), .int (iI bc), .long (lI (-1))])), (q + 1, .inl (kI K, 4, .inl (iA (ut mu Kn mm)))), (q + 2, .inl (kI K, 4, .inl (iA (ut pr Kn pp)))), (q + 3, .inl (kI K, 4, .inl (iA bg'))), (q + 4, .inl (kI K, 4, .inl (iA ch'))), (q + 5, .inl (kI K, 4, .inl (iA tr))), (q + 6, .inl (kI K, 4, .inl (iA bn)))] H := hP
  have hS := hA.S hS (fun x hx => by rw [hAe]; exact hx) hL
  refine lv_aload_n hx hb dS_stock_41 rfl (lv_at hl 0 rfl) ?_
  refine va_get (D := kD K) (ci := 2) (v := .int (iI (((Kn + 1 : Nat) : Int)))) (C := RS) (T := FS) (N := 10) hx hb hts jnS hown hK hP 0 rfl rfl 0 (by decide) (hts _ mt_52) (fun _ h9 => h9) rfl dS_stock_42 ?_
  refine iz_iconst hx hb dS_stock_45 ?_
  refine iz_isub hx hb dS_stock_46 ?_
  rw [hQ]
  exact iz_iret hx hb hr hlocks (⟨by omega, bg', ch', ⟨by omega, hbd, fun k hk => hR k (Nat.zero_le k) hk⟩, hP⟩) hS.2.2 dS_stock_47
abbrev rmS_init : Room := { frames := 1, cells := 6, slots := 24, locals := 20 }
set_option maxHeartbeats 4000000 in
set_option maxRecDepth 100000 in
/-- Shelf() -/
theorem c_S_init (l : Launch) (K : KG) (q : Nat) : Ct l yS_init kS_init rmS_init (PC K [.ref q] (fun H => H.size = q + 1 ∧ va_P (kD K) vcl [(q, .inr (2, [.int (iI 0), .null, .null, .null, .null, .null, .null, .int (iI 0), .int (iI 0), .long (lI 0)]))] H)) (QV (fun H => H.size = q + 7 ∧ va_P (kD K) vcl (shW K q 0 (fun _ => 0) (fun _ => 0) (fun _ => 0) (fun _ => 0) (fun _ => 0) (fun _ => 0) 0 0 (-1)) H)) (fun x => q ≤ x) := by
  refine ct_of (by decide) (Or.inl ⟨rfl, rfl⟩) ?_
  intro p e s m args below meth c B0 hP0
  obtain ⟨hx, hb, hr, hml, hown, hlocks, hnm, htab⟩ := B0
  obtain ⟨ha, ⟨hT, hK⟩, hB⟩ := hP0
  have hl := lv_entry ([.ref q]) (n := 1) (Nat.le_of_ble_eq_true rfl)
  obtain ⟨Q, hQ⟩ : ∃ Q, Q = XQ below (QV (fun H => H.size = q + 7 ∧ va_P (kD K) vcl (shW K q 0 (fun _ => 0) (fun _ => 0) (fun _ => 0) (fun _ => 0) (fun _ => 0) (fun _ => 0) 0 0 (-1)) H)) args s rmS_init.cells rmS_init.slots (fun x => q ≤ x) := ⟨_, rfl⟩
  rw [← hQ, ha, lg_entry_eq]
  rw [ha] at hQ
  generalize (lg_sl ([.ref q]) ++ List.replicate (1 - (lg_sl ([.ref q])).length) Slot.unset).toArray = ls at hl ⊢
  generalize ([.ref q] : List Value).toArray = args at hQ ⊢
  have hts : ∀ w ∈ TW, w.before args s = true := fun w h => hT w h args
  have hl : lv_has ls 1 [(0, .ref q)] := hl
  obtain ⟨A, hAe⟩ : ∃ A : Addr → Prop, A = (fun x => q ≤ x) := ⟨_, rfl⟩
  rw [← hAe] at hQ
  have hS : va_S A s.heap s.heap [] := va_S.rf
  obtain ⟨hz0, hP⟩ := hB
  have hD : va_D A [(q, .inr (2, [.int (iI 0), .null, .null, .null, .null, .null, .null, .int (iI 0), .int (iI 0), .long (lI 0)]))] := by rw [hAe]; exact va_D_of (by simp) (by simp)
  have hA : ∀ x, s.heap.size ≤ x → A x := fun x hx => by rw [hAe]; show q ≤ x; omega
  refine lv_aload_n hx hb dS_init_0 rfl (lv_at hl 0 rfl) ?_
  refine W.objInit hx hb hown (hts _ mt_50) (hts _ mt_20) (hts _ mt_21) rfl (by rw [hml]; exact hl.1) rfl dS_init_1 (Nat.le_of_ble_eq_true rfl) (Nat.le_of_ble_eq_true rfl) ?_
  refine W.eq (g2 := F0 m 4 ls []) rfl ?_
  refine lv_aload_n hx hb dS_init_4 rfl (lv_at hl 0 rfl) ?_
  refine iz_iconst hx hb dS_init_5 ?_
  have hz := hz0
  refine iz_newi hx hb hT hK hP hD hS hA 4 rfl (by omega) (Nat.le_of_ble_eq_true rfl) (Nat.le_of_ble_eq_true rfl) (z := q + 1) hz dS_init_6 (fun H hz hP hD hS => ?_)
  have hP : va_P (kD K) vcl [(q, .inr (2, [.int (iI 0), .null, .null, .null, .null, .null, .null, .int (iI 0), .int (iI 0), .long (lI 0)])), (q + 1, .inl (kI K, 4, .inl (iA (fun _ => 0))))] H := hP
  have hD : va_D A [(q, .inr (2, [.int (iI 0), .null, .null, .null, .null, .null, .null, .int (iI 0), .int (iI 0), .long (lI 0)])), (q + 1, .inl (kI K, 4, .inl (iA (fun _ => 0))))] := hD
  refine W.num (c1 := 1) (s1 := 4) rfl rfl ?_
  refine va_putF (D := kD K) (ci := 2) (v := .ref (q + 1)) (ty := .array .int) (C := RS) (T := FS) (N := 10) hx hb hts jnS tS tS_ok nS hown hK hP hD hS 0 rfl rfl 1 (by decide) (hts _ mt_54) (fun _ h9 => h9) rfl hnm rfl (by decide +kernel) rfl rfl (Nat.le_of_ble_eq_true rfl) dS_init_8 (fun H locs hP hD hS => ?_)
  have hP : va_P (kD K) vcl [(q, .inr (2, [.int (iI 0), .ref (q + 1), .null, .null, .null, .null, .null, .int (iI 0), .int (iI 0), .long (lI 0)])), (q + 1, .inl (kI K, 4, .inl (iA (fun _ => 0))))] H := hP
  have hD : va_D A [(q, .inr (2, [.int (iI 0), .ref (q + 1), .null, .null, .null, .null, .null, .int (iI 0), .int (iI 0), .long (lI 0)])), (q + 1, .inl (kI K, 4, .inl (iA (fun _ => 0))))] := hD
  refine lv_aload_n hx hb dS_init_11 rfl (lv_at hl 0 rfl) ?_
  refine iz_iconst hx hb dS_init_12 ?_
  refine W.sz (fun hs9 => ?_)
  have hz : H.size = q + 2 := by have h9 : q + 1 < H.size := (hP 1 _ rfl).lt; omega
  refine iz_newi hx hb hT hK hP hD hS hA 4 rfl (by omega) (Nat.le_of_ble_eq_true rfl) (Nat.le_of_ble_eq_true rfl) (z := q + 2) hz dS_init_13 (fun H hz hP hD hS => ?_)
  have hP : va_P (kD K) vcl [(q, .inr (2, [.int (iI 0), .ref (q + 1), .null, .null, .null, .null, .null, .int (iI 0), .int (iI 0), .long (lI 0)])), (q + 1, .inl (kI K, 4, .inl (iA (fun _ => 0)))), (q + 2, .inl (kI K, 4, .inl (iA (fun _ => 0))))] H := hP
  have hD : va_D A [(q, .inr (2, [.int (iI 0), .ref (q + 1), .null, .null, .null, .null, .null, .int (iI 0), .int (iI 0), .long (lI 0)])), (q + 1, .inl (kI K, 4, .inl (iA (fun _ => 0)))), (q + 2, .inl (kI K, 4, .inl (iA (fun _ => 0))))] := hD
  refine W.num (c1 := 2) (s1 := 8) rfl rfl ?_
  refine va_putF (D := kD K) (ci := 2) (v := .ref (q + 2)) (ty := .array .int) (C := RS) (T := FS) (N := 10) hx hb hts jnS tS tS_ok nS hown hK hP hD hS 0 rfl rfl 2 (by decide) (hts _ mt_55) (fun _ h9 => h9) rfl hnm rfl (by decide +kernel) rfl rfl (Nat.le_of_ble_eq_true rfl) dS_init_15 (fun H locs hP hD hS => ?_)
  have hP : va_P (kD K) vcl [(q, .inr (2, [.int (iI 0), .ref (q + 1), .ref (q + 2), .null, .null, .null, .null, .int (iI 0), .int (iI 0), .long (lI 0)])), (q + 1, .inl (kI K, 4, .inl (iA (fun _ => 0)))), (q + 2, .inl (kI K, 4, .inl (iA (fun _ => 0))))] H := hP
  have hD : va_D A [(q, .inr (2, [.int (iI 0), .ref (q + 1), .ref (q + 2), .null, .null, .null, .null, .int (iI 0), .int (iI 0), .long (lI 0)])), (q + 1, .inl (kI K, 4, .inl (iA (fun _ => 0)))), (q + 2, .inl (kI K, 4, .inl (iA (fun _ => 0))))] := hD
  refine lv_aload_n hx hb dS_init_18 rfl (lv_at hl 0 rfl) ?_
  refine iz_iconst hx hb dS_init_19 ?_
  refine W.sz (fun hs9 => ?_)
  have hz : H.size = q + 3 := by have h9 : q + 2 < H.size := (hP 2 _ rfl).lt; omega
  refine iz_newi hx hb hT hK hP hD hS hA 4 rfl (by omega) (Nat.le_of_ble_eq_true rfl) (Nat.le_of_ble_eq_true rfl) (z := q + 3) hz dS_init_20 (fun H hz hP hD hS => ?_)
  have hP : va_P (kD K) vcl [(q, .inr (2, [.int (iI 0), .ref (q + 1), .ref (q + 2), .null, .null, .null, .null, .int (iI 0), .int (iI 0), .long (lI 0)])), (q + 1, .inl (kI K, 4, .inl (iA (fun _ => 0)))), (q + 2, .inl (kI K, 4, .inl (iA (fun _ => 0)))), (q + 3, .inl (kI K, 4, .inl (iA (fun _ => 0))))] H := hP
  have hD : va_D A [(q, .inr (2, [.int (iI 0), .ref (q + 1), .ref (q + 2), .null, .null, .null, .null, .int (iI 0), .int (iI 0), .long (lI 0)])), (q + 1, .inl (kI K, 4, .inl (iA (fun _ => 0)))), (q + 2, .inl (kI K, 4, .inl (iA (fun _ => 0)))), (q + 3, .inl (kI K, 4, .inl (iA (fun _ => 0))))] := hD
  refine W.num (c1 := 3) (s1 := 12) rfl rfl ?_
  refine va_putF (D := kD K) (ci := 2) (v := .ref (q + 3)) (ty := .array .int) (C := RS) (T := FS) (N := 10) hx hb hts jnS tS tS_ok nS hown hK hP hD hS 0 rfl rfl 3 (by decide) (hts _ mt_56) (fun _ h9 => h9) rfl hnm rfl (by decide +kernel) rfl rfl (Nat.le_of_ble_eq_true rfl) dS_init_22 (fun H locs hP hD hS => ?_)
  have hP : va_P (kD K) vcl [(q, .inr (2, [.int (iI 0), .ref (q + 1), .ref (q + 2), .ref (q + 3), .null, .null, .null, .int (iI 0), .int (iI 0), .long (lI 0)])), (q + 1, .inl (kI K, 4, .inl (iA (fun _ => 0)))), (q + 2, .inl (kI K, 4, .inl (iA (fun _ => 0)))), (q + 3, .inl (kI K, 4, .inl (iA (fun _ => 0))))] H := hP
  have hD : va_D A [(q, .inr (2, [.int (iI 0), .ref (q + 1), .ref (q + 2), .ref (q + 3), .null, .null, .null, .int (iI 0), .int (iI 0), .long (lI 0)])), (q + 1, .inl (kI K, 4, .inl (iA (fun _ => 0)))), (q + 2, .inl (kI K, 4, .inl (iA (fun _ => 0)))), (q + 3, .inl (kI K, 4, .inl (iA (fun _ => 0))))] := hD
  refine lv_aload_n hx hb dS_init_25 rfl (lv_at hl 0 rfl) ?_
  refine iz_iconst hx hb dS_init_26 ?_
  refine W.sz (fun hs9 => ?_)
  have hz : H.size = q + 4 := by have h9 : q + 3 < H.size := (hP 3 _ rfl).lt; omega
  refine iz_newi hx hb hT hK hP hD hS hA 4 rfl (by omega) (Nat.le_of_ble_eq_true rfl) (Nat.le_of_ble_eq_true rfl) (z := q + 4) hz dS_init_27 (fun H hz hP hD hS => ?_)
  have hP : va_P (kD K) vcl [(q, .inr (2, [.int (iI 0), .ref (q + 1), .ref (q + 2), .ref (q + 3), .null, .null, .null, .int (iI 0), .int (iI 0), .long (lI 0)])), (q + 1, .inl (kI K, 4, .inl (iA (fun _ => 0)))), (q + 2, .inl (kI K, 4, .inl (iA (fun _ => 0)))), (q + 3, .inl (kI K, 4, .inl (iA (fun _ => 0)))), (q + 4, .inl (kI K, 4, .inl (iA (fun _ => 0))))] H := hP
  have hD : va_D A [(q, .inr (2, [.int (iI 0), .ref (q + 1), .ref (q + 2), .ref (q + 3), .null, .null, .null, .int (iI 0), .int (iI 0), .long (lI 0)])), (q + 1, .inl (kI K, 4, .inl (iA (fun _ => 0)))), (q + 2, .inl (kI K, 4, .inl (iA (fun _ => 0)))), (q + 3, .inl (kI K, 4, .inl (iA (fun _ => 0)))), (q + 4, .inl (kI K, 4, .inl (iA (fun _ => 0))))] := hD
  refine W.num (c1 := 4) (s1 := 16) rfl rfl ?_
  refine va_putF (D := kD K) (ci := 2) (v := .ref (q + 4)) (ty := .array .int) (C := RS) (T := FS) (N := 10) hx hb hts jnS tS tS_ok nS hown hK hP hD hS 0 rfl rfl 4 (by decide) (hts _ mt_57) (fun _ h9 => h9) rfl hnm rfl (by decide +kernel) rfl rfl (Nat.le_of_ble_eq_true rfl) dS_init_29 (fun H locs hP hD hS => ?_)
  have hP : va_P (kD K) vcl [(q, .inr (2, [.int (iI 0), .ref (q + 1), .ref (q + 2), .ref (q + 3), .ref (q + 4), .null, .null, .int (iI 0), .int (iI 0), .long (lI 0)])), (q + 1, .inl (kI K, 4, .inl (iA (fun _ => 0)))), (q + 2, .inl (kI K, 4, .inl (iA (fun _ => 0)))), (q + 3, .inl (kI K, 4, .inl (iA (fun _ => 0)))), (q + 4, .inl (kI K, 4, .inl (iA (fun _ => 0))))] H := hP
  have hD : va_D A [(q, .inr (2, [.int (iI 0), .ref (q + 1), .ref (q + 2), .ref (q + 3), .ref (q + 4), .null, .null, .int (iI 0), .int (iI 0), .long (lI 0)])), (q + 1, .inl (kI K, 4, .inl (iA (fun _ => 0)))), (q + 2, .inl (kI K, 4, .inl (iA (fun _ => 0)))), (q + 3, .inl (kI K, 4, .inl (iA (fun _ => 0)))), (q + 4, .inl (kI K, 4, .inl (iA (fun _ => 0))))] := hD
  refine lv_aload_n hx hb dS_init_32 rfl (lv_at hl 0 rfl) ?_
  refine iz_iconst hx hb dS_init_33 ?_
  refine W.sz (fun hs9 => ?_)
  have hz : H.size = q + 5 := by have h9 : q + 4 < H.size := (hP 4 _ rfl).lt; omega
  refine iz_newi hx hb hT hK hP hD hS hA 4 rfl (by omega) (Nat.le_of_ble_eq_true rfl) (Nat.le_of_ble_eq_true rfl) (z := q + 5) hz dS_init_34 (fun H hz hP hD hS => ?_)
  have hP : va_P (kD K) vcl [(q, .inr (2, [.int (iI 0), .ref (q + 1), .ref (q + 2), .ref (q + 3), .ref (q + 4), .null, .null, .int (iI 0), .int (iI 0), .long (lI 0)])), (q + 1, .inl (kI K, 4, .inl (iA (fun _ => 0)))), (q + 2, .inl (kI K, 4, .inl (iA (fun _ => 0)))), (q + 3, .inl (kI K, 4, .inl (iA (fun _ => 0)))), (q + 4, .inl (kI K, 4, .inl (iA (fun _ => 0)))), (q + 5, .inl (kI K, 4, .inl (iA (fun _ => 0))))] H := hP
  have hD : va_D A [(q, .inr (2, [.int (iI 0), .ref (q + 1), .ref (q + 2), .ref (q + 3), .ref (q + 4), .null, .null, .int (iI 0), .int (iI 0), .long (lI 0)])), (q + 1, .inl (kI K, 4, .inl (iA (fun _ => 0)))), (q + 2, .inl (kI K, 4, .inl (iA (fun _ => 0)))), (q + 3, .inl (kI K, 4, .inl (iA (fun _ => 0)))), (q + 4, .inl (kI K, 4, .inl (iA (fun _ => 0)))), (q + 5, .inl (kI K, 4, .inl (iA (fun _ => 0))))] := hD
  refine W.num (c1 := 5) (s1 := 20) rfl rfl ?_
  refine va_putF (D := kD K) (ci := 2) (v := .ref (q + 5)) (ty := .array .int) (C := RS) (T := FS) (N := 10) hx hb hts jnS tS tS_ok nS hown hK hP hD hS 0 rfl rfl 5 (by decide) (hts _ mt_58) (fun _ h9 => h9) rfl hnm rfl (by decide +kernel) rfl rfl (Nat.le_of_ble_eq_true rfl) dS_init_36 (fun H locs hP hD hS => ?_)
  have hP : va_P (kD K) vcl [(q, .inr (2, [.int (iI 0), .ref (q + 1), .ref (q + 2), .ref (q + 3), .ref (q + 4), .ref (q + 5), .null, .int (iI 0), .int (iI 0), .long (lI 0)])), (q + 1, .inl (kI K, 4, .inl (iA (fun _ => 0)))), (q + 2, .inl (kI K, 4, .inl (iA (fun _ => 0)))), (q + 3, .inl (kI K, 4, .inl (iA (fun _ => 0)))), (q + 4, .inl (kI K, 4, .inl (iA (fun _ => 0)))), (q + 5, .inl (kI K, 4, .inl (iA (fun _ => 0))))] H := hP
  have hD : va_D A [(q, .inr (2, [.int (iI 0), .ref (q + 1), .ref (q + 2), .ref (q + 3), .ref (q + 4), .ref (q + 5), .null, .int (iI 0), .int (iI 0), .long (lI 0)])), (q + 1, .inl (kI K, 4, .inl (iA (fun _ => 0)))), (q + 2, .inl (kI K, 4, .inl (iA (fun _ => 0)))), (q + 3, .inl (kI K, 4, .inl (iA (fun _ => 0)))), (q + 4, .inl (kI K, 4, .inl (iA (fun _ => 0)))), (q + 5, .inl (kI K, 4, .inl (iA (fun _ => 0))))] := hD
  refine lv_aload_n hx hb dS_init_39 rfl (lv_at hl 0 rfl) ?_
  refine iz_iconst hx hb dS_init_40 ?_
  refine W.sz (fun hs9 => ?_)
  have hz : H.size = q + 6 := by have h9 : q + 5 < H.size := (hP 5 _ rfl).lt; omega
  refine iz_newi hx hb hT hK hP hD hS hA 4 rfl (by omega) (Nat.le_of_ble_eq_true rfl) (Nat.le_of_ble_eq_true rfl) (z := q + 6) hz dS_init_41 (fun H hz hP hD hS => ?_)
  have hP : va_P (kD K) vcl [(q, .inr (2, [.int (iI 0), .ref (q + 1), .ref (q + 2), .ref (q + 3), .ref (q + 4), .ref (q + 5), .null, .int (iI 0), .int (iI 0), .long (lI 0)])), (q + 1, .inl (kI K, 4, .inl (iA (fun _ => 0)))), (q + 2, .inl (kI K, 4, .inl (iA (fun _ => 0)))), (q + 3, .inl (kI K, 4, .inl (iA (fun _ => 0)))), (q + 4, .inl (kI K, 4, .inl (iA (fun _ => 0)))), (q + 5, .inl (kI K, 4, .inl (iA (fun _ => 0)))), (q + 6, .inl (kI K, 4, .inl (iA (fun _ => 0))))] H := hP
  have hD : va_D A [(q, .inr (2, [.int (iI 0), .ref (q + 1), .ref (q + 2), .ref (q + 3), .ref (q + 4), .ref (q + 5), .null, .int (iI 0), .int (iI 0), .long (lI 0)])), (q + 1, .inl (kI K, 4, .inl (iA (fun _ => 0)))), (q + 2, .inl (kI K, 4, .inl (iA (fun _ => 0)))), (q + 3, .inl (kI K, 4, .inl (iA (fun _ => 0)))), (q + 4, .inl (kI K, 4, .inl (iA (fun _ => 0)))), (q + 5, .inl (kI K, 4, .inl (iA (fun _ => 0)))), (q + 6, .inl (kI K, 4, .inl (iA (fun _ => 0))))] := hD
  refine W.num (c1 := 6) (s1 := 24) rfl rfl ?_
  refine va_putF (D := kD K) (ci := 2) (v := .ref (q + 6)) (ty := .array .int) (C := RS) (T := FS) (N := 10) hx hb hts jnS tS tS_ok nS hown hK hP hD hS 0 rfl rfl 6 (by decide) (hts _ mt_59) (fun _ h9 => h9) rfl hnm rfl (by decide +kernel) rfl rfl (Nat.le_of_ble_eq_true rfl) dS_init_43 (fun H locs hP hD hS => ?_)
  have hP : va_P (kD K) vcl [(q, .inr (2, [.int (iI 0), .ref (q + 1), .ref (q + 2), .ref (q + 3), .ref (q + 4), .ref (q + 5), .ref (q + 6), .int (iI 0), .int (iI 0), .long (lI 0)])), (q + 1, .inl (kI K, 4, .inl (iA (fun _ => 0)))), (q + 2, .inl (kI K, 4, .inl (iA (fun _ => 0)))), (q + 3, .inl (kI K, 4, .inl (iA (fun _ => 0)))), (q + 4, .inl (kI K, 4, .inl (iA (fun _ => 0)))), (q + 5, .inl (kI K, 4, .inl (iA (fun _ => 0)))), (q + 6, .inl (kI K, 4, .inl (iA (fun _ => 0))))] H := hP
  have hD : va_D A [(q, .inr (2, [.int (iI 0), .ref (q + 1), .ref (q + 2), .ref (q + 3), .ref (q + 4), .ref (q + 5), .ref (q + 6), .int (iI 0), .int (iI 0), .long (lI 0)])), (q + 1, .inl (kI K, 4, .inl (iA (fun _ => 0)))), (q + 2, .inl (kI K, 4, .inl (iA (fun _ => 0)))), (q + 3, .inl (kI K, 4, .inl (iA (fun _ => 0)))), (q + 4, .inl (kI K, 4, .inl (iA (fun _ => 0)))), (q + 5, .inl (kI K, 4, .inl (iA (fun _ => 0)))), (q + 6, .inl (kI K, 4, .inl (iA (fun _ => 0))))] := hD
  refine lv_aload_n hx hb dS_init_46 rfl (lv_at hl 0 rfl) ?_
  refine iz_ldc2 hx hb (-1) (by decide) hown (hts _ mt_51) dS_init_47 ?_
  refine va_put (D := kD K) (ci := 2) (v := .long (lI (-1))) (ty := .long) (C := RS) (T := FS) (N := 10) hx hb hts jnS tS tS_ok nS hown hK hP hD hS 0 rfl rfl 9 (by decide) (hts _ mt_62) (fun _ h9 => h9) rfl (by decide +kernel) rfl rfl (Nat.le_of_ble_eq_true rfl) dS_init_50 (fun H locs hP hD hS => ?_)
  have hP : va_P (kD K) vcl [(q, .inr (2, [.int (iI 0), .ref (q + 1), .ref (q + 2), .ref (q + 3), .ref (q + 4), .ref (q + 5), .ref (q + 6), .int (iI 0), .int (iI 0), .long (lI (-1))])), (q + 1, .inl (kI K, 4, .inl (iA (fun _ => 0)))), (q + 2, .inl (kI K, 4, .inl (iA (fun _ => 0)))), (q + 3, .inl (kI K, 4, .inl (iA (fun _ => 0)))), (q + 4, .inl (kI K, 4, .inl (iA (fun _ => 0)))), (q + 5, .inl (kI K, 4, .inl (iA (fun _ => 0)))), (q + 6, .inl (kI K, 4, .inl (iA (fun _ => 0))))] H := hP
  have hD : va_D A [(q, .inr (2, [.int (iI 0), .ref (q + 1), .ref (q + 2), .ref (q + 3), .ref (q + 4), .ref (q + 5), .ref (q + 6), .int (iI 0), .int (iI 0), .long (lI (-1))])), (q + 1, .inl (kI K, 4, .inl (iA (fun _ => 0)))), (q + 2, .inl (kI K, 4, .inl (iA (fun _ => 0)))), (q + 3, .inl (kI K, 4, .inl (iA (fun _ => 0)))), (q + 4, .inl (kI K, 4, .inl (iA (fun _ => 0)))), (q + 5, .inl (kI K, 4, .inl (iA (fun _ => 0)))), (q + 6, .inl (kI K, 4, .inl (iA (fun _ => 0))))] := hD
  refine W.sz (fun hs9 => ?_)
  have hz : H.size = q + 7 := by have h9 : q + 6 < H.size := (hP 6 _ rfl).lt; omega
  rw [hQ]
  exact iz_vret hx hb hr hlocks (⟨hz, hP⟩) hS.2.2 dS_init_53
end
section
-- class Saw
/-- the saw at q: bar length, cut, pieces; planned, bars; their bar, what is free, loads, smallest -/
abbrev saW (K : KG) (q : Nat) (bl cu : Int) (Pn : Nat) (le : Nat → Int) (pl : Int) (Bn : Nat) (bo fr lo sl : Nat → Int) : va_W := [(q, .inr (3, [.int (iI bl), .int (iI cu), .int (iI ((Pn : Int))), .ref (q + 1), .int (iI pl), .int (iI ((Bn : Int))), .ref (q + 2), .ref (q + 3), .ref (q + 4), .ref (q + 5)])), (q + 1, .inl (kI K, 10, .inl (iA le))), (q + 2, .inl (kI K, 10, .inl (iA bo))), (q + 3, .inl (kI K, 10, .inl (iA fr))), (q + 4, .inl (kI K, 10, .inl (iA lo))), (q + 5, .inl (kI K, 10, .inl (iA sl)))]
/-- what is known of the pieces -/
def SwB (bl cu : Int) (Pn : Nat) (le : Nat → Int) : Prop := (1 ≤ bl ∧ bl ≤ 10000) ∧ (0 ≤ cu ∧ cu ≤ 100) ∧ Pn ≤ 10 ∧ ∀ i, i < Pn → 1 ≤ le i ∧ le i ≤ bl
/-- a piece with its cut -/
abbrev swz (le : Nat → Int) (cu : Int) : Nat → Int := fun i => le i + cu
abbrev rmA_init : Room := { frames := 1, cells := 5, slots := 50, locals := 20 }
set_option maxHeartbeats 4000000 in
set_option maxRecDepth 100000 in
/-- Saw() -/
theorem c_A_init (l : Launch) (K : KG) (q : Nat) : Ct l yA_init kA_init rmA_init (PC K [.ref q] (fun H => H.size = q + 1 ∧ va_P (kD K) vcl [(q, .inr (3, [.int (iI 0), .int (iI 0), .int (iI 0), .null, .int (iI 0), .int (iI 0), .null, .null, .null, .null]))] H)) (QV (fun H => H.size = q + 6 ∧ va_P (kD K) vcl (saW K q 10000 0 0 (fun _ => 0) 0 0 (fun _ => 0) (fun _ => 0) (fun _ => 0) (fun _ => 0)) H)) (fun x => q ≤ x) := by
  refine ct_of (by decide) (Or.inl ⟨rfl, rfl⟩) ?_
  intro p e s m args below meth c B0 hP0
  obtain ⟨hx, hb, hr, hml, hown, hlocks, hnm, htab⟩ := B0
  obtain ⟨ha, ⟨hT, hK⟩, hB⟩ := hP0
  have hl := lv_entry ([.ref q]) (n := 1) (Nat.le_of_ble_eq_true rfl)
  obtain ⟨Q, hQ⟩ : ∃ Q, Q = XQ below (QV (fun H => H.size = q + 6 ∧ va_P (kD K) vcl (saW K q 10000 0 0 (fun _ => 0) 0 0 (fun _ => 0) (fun _ => 0) (fun _ => 0) (fun _ => 0)) H)) args s rmA_init.cells rmA_init.slots (fun x => q ≤ x) := ⟨_, rfl⟩
  rw [← hQ, ha, lg_entry_eq]
  rw [ha] at hQ
  generalize (lg_sl ([.ref q]) ++ List.replicate (1 - (lg_sl ([.ref q])).length) Slot.unset).toArray = ls at hl ⊢
  generalize ([.ref q] : List Value).toArray = args at hQ ⊢
  have hts : ∀ w ∈ TW, w.before args s = true := fun w h => hT w h args
  have hl : lv_has ls 1 [(0, .ref q)] := hl
  obtain ⟨A, hAe⟩ : ∃ A : Addr → Prop, A = (fun x => q ≤ x) := ⟨_, rfl⟩
  rw [← hAe] at hQ
  have hS : va_S A s.heap s.heap [] := va_S.rf
  obtain ⟨hz0, hP⟩ := hB
  have hD : va_D A [(q, .inr (3, [.int (iI 0), .int (iI 0), .int (iI 0), .null, .int (iI 0), .int (iI 0), .null, .null, .null, .null]))] := by rw [hAe]; exact va_D_of (by simp) (by simp)
  have hA : ∀ x, s.heap.size ≤ x → A x := fun x hx => by rw [hAe]; show q ≤ x; omega
  refine lv_aload_n hx hb dA_init_0 rfl (lv_at hl 0 rfl) ?_
  refine W.objInit hx hb hown (hts _ mt_89) (hts _ mt_20) (hts _ mt_21) rfl (by rw [hml]; exact hl.1) rfl dA_init_1 (Nat.le_of_ble_eq_true rfl) (Nat.le_of_ble_eq_true rfl) ?_
  refine W.eq (g2 := F0 m 4 ls []) rfl ?_
  refine lv_aload_n hx hb dA_init_4 rfl (lv_at hl 0 rfl) ?_
  refine iz_sipush hx hb dA_init_5 (by decide) ?_
  refine va_put (D := kD K) (ci := 3) (v := .int (iI 10000)) (ty := .int) (C := RA) (T := FA) (N := 10) hx hb hts jnA tA tA_ok nA hown hK hP hD hS 0 rfl rfl 0 (by decide) (hts _ mt_90) (fun _ h9 => h9) rfl (by decide +kernel) rfl rfl (Nat.le_of_ble_eq_true rfl) dA_init_8 (fun H locs hP hD hS => ?_)
  have hP : va_P (kD K) vcl [(q, .inr (3, [.int (iI 10000), .int (iI 0), .int (iI 0), .null, .int (iI 0), .int (iI 0), .null, .null, .null, .null]))] H := hP
  have hD : va_D A [(q, .inr (3, [.int (iI 10000), .int (iI 0), .int (iI 0), .null, .int (iI 0), .int (iI 0), .null, .null, .null, .null]))] := hD
  refine lv_aload_n hx hb dA_init_11 rfl (lv_at hl 0 rfl) ?_
  refine iz_bipush hx hb dA_init_12 (by decide) ?_
  refine W.sz (fun hs9 => ?_)
  have hz0 : H.size = q + 1 := by have h9 := hS.1; omega
  have hz := hz0
  refine iz_newi hx hb hT hK hP hD hS hA 10 rfl (by omega) (Nat.le_of_ble_eq_true rfl) (Nat.le_of_ble_eq_true rfl) (z := q + 1) hz dA_init_14 (fun H hz hP hD hS => ?_)
  have hP : va_P (kD K) vcl [(q, .inr (3, [.int (iI 10000), .int (iI 0), .int (iI 0), .null, .int (iI 0), .int (iI 0), .null, .null, .null, .null])), (q + 1, .inl (kI K, 10, .inl (iA (fun _ => 0))))] H := hP
  have hD : va_D A [(q, .inr (3, [.int (iI 10000), .int (iI 0), .int (iI 0), .null, .int (iI 0), .int (iI 0), .null, .null, .null, .null])), (q + 1, .inl (kI K, 10, .inl (iA (fun _ => 0))))] := hD
  refine W.num (c1 := 1) (s1 := 10) rfl rfl ?_
  refine va_putF (D := kD K) (ci := 3) (v := .ref (q + 1)) (ty := .array .int) (C := RA) (T := FA) (N := 10) hx hb hts jnA tA tA_ok nA hown hK hP hD hS 0 rfl rfl 3 (by decide) (hts _ mt_95) (fun _ h9 => h9) rfl hnm rfl (by decide +kernel) rfl rfl (Nat.le_of_ble_eq_true rfl) dA_init_16 (fun H locs hP hD hS => ?_)
  have hP : va_P (kD K) vcl [(q, .inr (3, [.int (iI 10000), .int (iI 0), .int (iI 0), .ref (q + 1), .int (iI 0), .int (iI 0), .null, .null, .null, .null])), (q + 1, .inl (kI K, 10, .inl (iA (fun _ => 0))))] H := hP
  have hD : va_D A [(q, .inr (3, [.int (iI 10000), .int (iI 0), .int (iI 0), .ref (q + 1), .int (iI 0), .int (iI 0), .null, .null, .null, .null])), (q + 1, .inl (kI K, 10, .inl (iA (fun _ => 0))))] := hD
  refine lv_aload_n hx hb dA_init_19 rfl (lv_at hl 0 rfl) ?_
  refine iz_bipush hx hb dA_init_20 (by decide) ?_
  refine W.sz (fun hs9 => ?_)
  have hz : H.size = q + 2 := by have h9 : q + 1 < H.size := (hP 1 _ rfl).lt; omega
  refine iz_newi hx hb hT hK hP hD hS hA 10 rfl (by omega) (Nat.le_of_ble_eq_true rfl) (Nat.le_of_ble_eq_true rfl) (z := q + 2) hz dA_init_22 (fun H hz hP hD hS => ?_)
  have hP : va_P (kD K) vcl [(q, .inr (3, [.int (iI 10000), .int (iI 0), .int (iI 0), .ref (q + 1), .int (iI 0), .int (iI 0), .null, .null, .null, .null])), (q + 1, .inl (kI K, 10, .inl (iA (fun _ => 0)))), (q + 2, .inl (kI K, 10, .inl (iA (fun _ => 0))))] H := hP
  have hD : va_D A [(q, .inr (3, [.int (iI 10000), .int (iI 0), .int (iI 0), .ref (q + 1), .int (iI 0), .int (iI 0), .null, .null, .null, .null])), (q + 1, .inl (kI K, 10, .inl (iA (fun _ => 0)))), (q + 2, .inl (kI K, 10, .inl (iA (fun _ => 0))))] := hD
  refine W.num (c1 := 2) (s1 := 20) rfl rfl ?_
  refine va_putF (D := kD K) (ci := 3) (v := .ref (q + 2)) (ty := .array .int) (C := RA) (T := FA) (N := 10) hx hb hts jnA tA tA_ok nA hown hK hP hD hS 0 rfl rfl 6 (by decide) (hts _ mt_99) (fun _ h9 => h9) rfl hnm rfl (by decide +kernel) rfl rfl (Nat.le_of_ble_eq_true rfl) dA_init_24 (fun H locs hP hD hS => ?_)
  have hP : va_P (kD K) vcl [(q, .inr (3, [.int (iI 10000), .int (iI 0), .int (iI 0), .ref (q + 1), .int (iI 0), .int (iI 0), .ref (q + 2), .null, .null, .null])), (q + 1, .inl (kI K, 10, .inl (iA (fun _ => 0)))), (q + 2, .inl (kI K, 10, .inl (iA (fun _ => 0))))] H := hP
  have hD : va_D A [(q, .inr (3, [.int (iI 10000), .int (iI 0), .int (iI 0), .ref (q + 1), .int (iI 0), .int (iI 0), .ref (q + 2), .null, .null, .null])), (q + 1, .inl (kI K, 10, .inl (iA (fun _ => 0)))), (q + 2, .inl (kI K, 10, .inl (iA (fun _ => 0))))] := hD
  refine lv_aload_n hx hb dA_init_27 rfl (lv_at hl 0 rfl) ?_
  refine iz_bipush hx hb dA_init_28 (by decide) ?_
  refine W.sz (fun hs9 => ?_)
  have hz : H.size = q + 3 := by have h9 : q + 2 < H.size := (hP 2 _ rfl).lt; omega
  refine iz_newi hx hb hT hK hP hD hS hA 10 rfl (by omega) (Nat.le_of_ble_eq_true rfl) (Nat.le_of_ble_eq_true rfl) (z := q + 3) hz dA_init_30 (fun H hz hP hD hS => ?_)
  have hP : va_P (kD K) vcl [(q, .inr (3, [.int (iI 10000), .int (iI 0), .int (iI 0), .ref (q + 1), .int (iI 0), .int (iI 0), .ref (q + 2), .null, .null, .null])), (q + 1, .inl (kI K, 10, .inl (iA (fun _ => 0)))), (q + 2, .inl (kI K, 10, .inl (iA (fun _ => 0)))), (q + 3, .inl (kI K, 10, .inl (iA (fun _ => 0))))] H := hP
  have hD : va_D A [(q, .inr (3, [.int (iI 10000), .int (iI 0), .int (iI 0), .ref (q + 1), .int (iI 0), .int (iI 0), .ref (q + 2), .null, .null, .null])), (q + 1, .inl (kI K, 10, .inl (iA (fun _ => 0)))), (q + 2, .inl (kI K, 10, .inl (iA (fun _ => 0)))), (q + 3, .inl (kI K, 10, .inl (iA (fun _ => 0))))] := hD
  refine W.num (c1 := 3) (s1 := 30) rfl rfl ?_
  refine va_putF (D := kD K) (ci := 3) (v := .ref (q + 3)) (ty := .array .int) (C := RA) (T := FA) (N := 10) hx hb hts jnA tA tA_ok nA hown hK hP hD hS 0 rfl rfl 7 (by decide) (hts _ mt_101) (fun _ h9 => h9) rfl hnm rfl (by decide +kernel) rfl rfl (Nat.le_of_ble_eq_true rfl) dA_init_32 (fun H locs hP hD hS => ?_)
  have hP : va_P (kD K) vcl [(q, .inr (3, [.int (iI 10000), .int (iI 0), .int (iI 0), .ref (q + 1), .int (iI 0), .int (iI 0), .ref (q + 2), .ref (q + 3), .null, .null])), (q + 1, .inl (kI K, 10, .inl (iA (fun _ => 0)))), (q + 2, .inl (kI K, 10, .inl (iA (fun _ => 0)))), (q + 3, .inl (kI K, 10, .inl (iA (fun _ => 0))))] H := hP
  have hD : va_D A [(q, .inr (3, [.int (iI 10000), .int (iI 0), .int (iI 0), .ref (q + 1), .int (iI 0), .int (iI 0), .ref (q + 2), .ref (q + 3), .null, .null])), (q + 1, .inl (kI K, 10, .inl (iA (fun _ => 0)))), (q + 2, .inl (kI K, 10, .inl (iA (fun _ => 0)))), (q + 3, .inl (kI K, 10, .inl (iA (fun _ => 0))))] := hD
  refine lv_aload_n hx hb dA_init_35 rfl (lv_at hl 0 rfl) ?_
  refine iz_bipush hx hb dA_init_36 (by decide) ?_
  refine W.sz (fun hs9 => ?_)
  have hz : H.size = q + 4 := by have h9 : q + 3 < H.size := (hP 3 _ rfl).lt; omega
  refine iz_newi hx hb hT hK hP hD hS hA 10 rfl (by omega) (Nat.le_of_ble_eq_true rfl) (Nat.le_of_ble_eq_true rfl) (z := q + 4) hz dA_init_38 (fun H hz hP hD hS => ?_)
  have hP : va_P (kD K) vcl [(q, .inr (3, [.int (iI 10000), .int (iI 0), .int (iI 0), .ref (q + 1), .int (iI 0), .int (iI 0), .ref (q + 2), .ref (q + 3), .null, .null])), (q + 1, .inl (kI K, 10, .inl (iA (fun _ => 0)))), (q + 2, .inl (kI K, 10, .inl (iA (fun _ => 0)))), (q + 3, .inl (kI K, 10, .inl (iA (fun _ => 0)))), (q + 4, .inl (kI K, 10, .inl (iA (fun _ => 0))))] H := hP
  have hD : va_D A [(q, .inr (3, [.int (iI 10000), .int (iI 0), .int (iI 0), .ref (q + 1), .int (iI 0), .int (iI 0), .ref (q + 2), .ref (q + 3), .null, .null])), (q + 1, .inl (kI K, 10, .inl (iA (fun _ => 0)))), (q + 2, .inl (kI K, 10, .inl (iA (fun _ => 0)))), (q + 3, .inl (kI K, 10, .inl (iA (fun _ => 0)))), (q + 4, .inl (kI K, 10, .inl (iA (fun _ => 0))))] := hD
  refine W.num (c1 := 4) (s1 := 40) rfl rfl ?_
  refine va_putF (D := kD K) (ci := 3) (v := .ref (q + 4)) (ty := .array .int) (C := RA) (T := FA) (N := 10) hx hb hts jnA tA tA_ok nA hown hK hP hD hS 0 rfl rfl 8 (by decide) (hts _ mt_103) (fun _ h9 => h9) rfl hnm rfl (by decide +kernel) rfl rfl (Nat.le_of_ble_eq_true rfl) dA_init_40 (fun H locs hP hD hS => ?_)
  have hP : va_P (kD K) vcl [(q, .inr (3, [.int (iI 10000), .int (iI 0), .int (iI 0), .ref (q + 1), .int (iI 0), .int (iI 0), .ref (q + 2), .ref (q + 3), .ref (q + 4), .null])), (q + 1, .inl (kI K, 10, .inl (iA (fun _ => 0)))), (q + 2, .inl (kI K, 10, .inl (iA (fun _ => 0)))), (q + 3, .inl (kI K, 10, .inl (iA (fun _ => 0)))), (q + 4, .inl (kI K, 10, .inl (iA (fun _ => 0))))] H := hP
  have hD : va_D A [(q, .inr (3, [.int (iI 10000), .int (iI 0), .int (iI 0), .ref (q + 1), .int (iI 0), .int (iI 0), .ref (q + 2), .ref (q + 3), .ref (q + 4), .null])), (q + 1, .inl (kI K, 10, .inl (iA (fun _ => 0)))), (q + 2, .inl (kI K, 10, .inl (iA (fun _ => 0)))), (q + 3, .inl (kI K, 10, .inl (iA (fun _ => 0)))), (q + 4, .inl (kI K, 10, .inl (iA (fun _ => 0))))] := hD
  refine lv_aload_n hx hb dA_init_43 rfl (lv_at hl 0 rfl) ?_
  refine iz_bipush hx hb dA_init_44 (by decide) ?_
  refine W.sz (fun hs9 => ?_)
  have hz : H.size = q + 5 := by have h9 : q + 4 < H.size := (hP 4 _ rfl).lt; omega
  refine iz_newi hx hb hT hK hP hD hS hA 10 rfl (by omega) (Nat.le_of_ble_eq_true rfl) (Nat.le_of_ble_eq_true rfl) (z := q + 5) hz dA_init_46 (fun H hz hP hD hS => ?_)
  have hP : va_P (kD K) vcl [(q, .inr (3, [.int (iI 10000), .int (iI 0), .int (iI 0), .ref (q + 1), .int (iI 0), .int (iI 0), .ref (q + 2), .ref (q + 3), .ref (q + 4), .null])), (q + 1, .inl (kI K, 10, .inl (iA (fun _ => 0)))), (q + 2, .inl (kI K, 10, .inl (iA (fun _ => 0)))), (q + 3, .inl (kI K, 10, .inl (iA (fun _ => 0)))), (q + 4, .inl (kI K, 10, .inl (iA (fun _ => 0)))), (q + 5, .inl (kI K, 10, .inl (iA (fun _ => 0))))] H := hP
  have hD : va_D A [(q, .inr (3, [.int (iI 10000), .int (iI 0), .int (iI 0), .ref (q + 1), .int (iI 0), .int (iI 0), .ref (q + 2), .ref (q + 3), .ref (q + 4), .null])), (q + 1, .inl (kI K, 10, .inl (iA (fun _ => 0)))), (q + 2, .inl (kI K, 10, .inl (iA (fun _ => 0)))), (q + 3, .inl (kI K, 10, .inl (iA (fun _ => 0)))), (q + 4, .inl (kI K, 10, .inl (iA (fun _ => 0)))), (q + 5, .inl (kI K, 10, .inl (iA (fun _ => 0))))] := hD
  refine W.num (c1 := 5) (s1 := 50) rfl rfl ?_
  refine va_putF (D := kD K) (ci := 3) (v := .ref (q + 5)) (ty := .array .int) (C := RA) (T := FA) (N := 10) hx hb hts jnA tA tA_ok nA hown hK hP hD hS 0 rfl rfl 9 (by decide) (hts _ mt_104) (fun _ h9 => h9) rfl hnm rfl (by decide +kernel) rfl rfl (Nat.le_of_ble_eq_true rfl) dA_init_48 (fun H locs hP hD hS => ?_)
  have hP : va_P (kD K) vcl [(q, .inr (3, [.int (iI 10000), .int (iI 0), .int (iI 0), .ref (q + 1), .int (iI 0), .int (iI 0), .ref (q + 2), .ref (q + 3), .ref (q + 4), .ref (q + 5)])), (q + 1, .inl (kI K, 10, .inl (iA (fun _ => 0)))), (q + 2, .inl (kI K, 10, .inl (iA (fun _ => 0)))), (q + 3, .inl (kI K, 10, .inl (iA (fun _ => 0)))), (q + 4, .inl (kI K, 10, .inl (iA (fun _ => 0)))), (q + 5, .inl (kI K, 10, .inl (iA (fun _ => 0))))] H := hP
  have hD : va_D A [(q, .inr (3, [.int (iI 10000), .int (iI 0), .int (iI 0), .ref (q + 1), .int (iI 0), .int (iI 0), .ref (q + 2), .ref (q + 3), .ref (q + 4), .ref (q + 5)])), (q + 1, .inl (kI K, 10, .inl (iA (fun _ => 0)))), (q + 2, .inl (kI K, 10, .inl (iA (fun _ => 0)))), (q + 3, .inl (kI K, 10, .inl (iA (fun _ => 0)))), (q + 4, .inl (kI K, 10, .inl (iA (fun _ => 0)))), (q + 5, .inl (kI K, 10, .inl (iA (fun _ => 0))))] := hD
  refine W.sz (fun hs9 => ?_)
  have hz : H.size = q + 6 := by have h9 : q + 5 < H.size := (hP 5 _ rfl).lt; omega
  rw [hQ]
  exact iz_vret hx hb hr hlocks (⟨hz, hP⟩) hS.2.2 dA_init_51
abbrev rmA_longestPiece : Room := { frames := 1, cells := 0, slots := 0, locals := 40 }
set_option maxHeartbeats 4000000 in
set_option maxRecDepth 100000 in
/-- Saw.longestPiece() -/
theorem c_A_longest (l : Launch) (K : KG) (q : Nat) (bl cu : Int) (Pn : Nat) (le : Nat → Int) (pl : Int) (Bn : Nat) (bo fr lo sl : Nat → Int) (hB9 : SwB bl cu Pn le) : Ct l yA_longestPiece kA_longestPiece rmA_longestPiece (PC K [.ref q] (fun H => va_P (kD K) vcl (saW K q bl cu Pn le pl Bn bo fr lo sl) H)) (QI (fun r _ => (0 ≤ r ∧ r ≤ 10000) ∧ ∀ x : Int, 0 ≤ x → (x < r ↔ ∃ i, i < Pn ∧ x < le i))) (fun _ => False) := by
  refine ct_of (by decide) (Or.inl ⟨rfl, rfl⟩) ?_
  intro p e s m args below meth c B0 hP0
  obtain ⟨hx, hb, hr, hml, hown, hlocks, hnm, htab⟩ := B0
  obtain ⟨ha, ⟨hT, hK⟩, hB⟩ := hP0
  have hl := lv_entry ([.ref q]) (n := 3) (Nat.le_of_ble_eq_true rfl)
  obtain ⟨Q, hQ⟩ : ∃ Q, Q = XQ below (QI (fun r _ => (0 ≤ r ∧ r ≤ 10000) ∧ ∀ x : Int, 0 ≤ x → (x < r ↔ ∃ i, i < Pn ∧ x < le i))) args s rmA_longestPiece.cells rmA_longestPiece.slots (fun _ => False) := ⟨_, rfl⟩
  rw [← hQ, ha, lg_entry_eq]
  rw [ha] at hQ
  generalize (lg_sl ([.ref q]) ++ List.replicate (3 - (lg_sl ([.ref q])).length) Slot.unset).toArray = ls at hl ⊢
  generalize ([.ref q] : List Value).toArray = args at hQ ⊢
  have hts : ∀ w ∈ TW, w.before args s = true := fun w h => hT w h args
  have hl : lv_has ls 3 [(0, .ref q)] := hl
  obtain ⟨A, hAe⟩ : ∃ A : Addr → Prop, A = (fun _ => False) := ⟨_, rfl⟩
  rw [← hAe] at hQ
  have hS : va_S A s.heap s.heap [] := va_S.rf
  have hP : va_P (kD K) vcl [(q, .inr (3, [.int (iI bl), .int (iI cu), .int (iI ((Pn : Int))), .ref (q + 1), .int (iI pl), .int (iI ((Bn : Int))), .ref (q + 2), .ref (q + 3), .ref (q + 4), .ref (q + 5)])), (q + 1, .inl (kI K, 10, .inl (iA le))), (q + 2, .inl (kI K, 10, .inl (iA bo))), (q + 3, .inl (kI K, 10, .inl (iA fr))), (q + 4, .inl (kI K, 10, .inl (iA lo))), (q + 5, .inl (kI K, 10, .inl (iA sl)))] s.heap := hB
  obtain ⟨hbl, hcu, hP10, hle⟩ := hB9
  have loop : ∀ (j i : Nat) (z : Int), Pn + 1 ≤ i + j → i ≤ Pn → (0 ≤ z ∧ z ≤ 10000) → (∀ x : Int, 0 ≤ x → (x < z ↔ ∃ k, k < i ∧ x < le k)) → ∀ ls : Array Slot, lv_has ls 3 [(0, .ref q), (1, .int (iI z)), (2, .int (iI ((i : Int))))] → W p l e rmA_longestPiece s m args below meth c s.heap [] 0 0 Q (F0 m 4 ls []) := by
    intro j
    induction j with
    | zero => intro i z h1 h2; omega
    | succ j ih =>
      intro i z h1 h2 hz hm ls hl
      refine lv_iload_n hx hb dA_longestPiece_4 rfl (lv_at hl 2 rfl) ?_
      refine lv_aload_n hx hb dA_longestPiece_5 rfl (lv_at hl 0 rfl) ?_
      refine va_get (D := kD K) (ci := 3) (v := .int (iI ((Pn : Int)))) (C := RA) (T := FA) (N := 10) hx hb hts jnA hown hK hP 0 rfl rfl 2 (by decide) (hts _ mt_93) (fun _ h9 => h9) rfl dA_longestPiece_6 ?_
      refine iz_icmp_ge (tgt := 29) hx hb ⟨by omega, by omega⟩ ⟨by omega, by omega⟩ dA_longestPiece_9 (by decide) (fun g1 => ?_) (fun g1 => ?_)
      · have e : i = Pn := by omega
        subst e
        refine lv_iload_n hx hb dA_longestPiece_29 rfl (lv_at hl 1 rfl) ?_
        rw [hQ]
        exact iz_iret hx hb hr hlocks (⟨hz, hm⟩) (fun _ h => absurd h List.not_mem_nil) dA_longestPiece_30
      · have qi := hle i (by omega)
        refine lv_iload_n hx hb dA_longestPiece_12 rfl (lv_at hl 1 rfl) ?_
        refine lv_aload_n hx hb dA_longestPiece_13 rfl (lv_at hl 0 rfl) ?_
        refine va_get (D := kD K) (ci := 3) (v := .ref (q + 1)) (C := RA) (T := FA) (N := 10) hx hb hts jnA hown hK hP 0 rfl rfl 3 (by decide) (hts _ mt_95) (fun _ h9 => h9) rfl dA_longestPiece_14 ?_
        refine lv_iload_n hx hb dA_longestPiece_17 rfl (lv_at hl 2 rfl) ?_
        refine iz_iald hx hb hK hP 1 rfl i rfl (by omega) (by omega) dA_longestPiece_18 ?_
        refine iz_max hx hb hml hl.1 hown hT mt_413 (Nat.le_of_ble_eq_true rfl) (Nat.le_of_ble_eq_true rfl) (Nat.le_of_ble_eq_true rfl) (Nat.le_of_ble_eq_true rfl) ⟨by omega, by omega⟩ ⟨by omega, by omega⟩ dA_longestPiece_19 ?_
        obtain ⟨y, hy⟩ : ∃ y : Int, y = if z < le i then le i else z := ⟨_, rfl⟩
        rw [← hy]
        have hym : ∀ x : Int, 0 ≤ x → (x < y ↔ ∃ k, k < i + 1 ∧ x < le k) := by
          intro x hx0
          constructor
          · intro h
            by_cases e : x < z
            · obtain ⟨k, hk, hk2⟩ := (hm x hx0).mp e
              exact ⟨k, by omega, hk2⟩
            · refine ⟨i, by omega, ?_⟩
              rw [hy] at h
              split at h <;> omega
          · rintro ⟨k, hk, hk2⟩
            rw [hy]
            by_cases e : k = i
            · subst e; split <;> omega
            · have h := (hm x hx0).mpr ⟨k, by omega, hk2⟩
              split <;> omega
        have hyb : 0 ≤ y ∧ y ≤ 10000 := by rw [hy]; split <;> omega
        refine lv_istore_n (lv' := [(1, .int (iI y)), (0, .ref q), (2, .int (iI ((i : Int))))]) hx hb dA_longestPiece_22 rfl hl (by decide) rfl (fun ls hl => ?_)
        refine iz_iinc (k := 2) (lv' := [(2, .int (iI ((i : Int) + 1))), (1, .int (iI y)), (0, .ref q)]) hx hb dA_longestPiece_23 hl rfl (by decide) rfl (fun ls hl => ?_)
        refine lv_goto (tgt := 4) hx hb dA_longestPiece_26 (by decide) ?_
        exact ih (i + 1) y (by omega) (by omega) hyb hym ls (lv_sub hl [2, 1, 0] rfl)
  refine iz_iconst hx hb dA_longestPiece_0 ?_
  refine lv_istore_n (lv' := [(1, .int (iI 0)), (0, .ref q)]) hx hb dA_longestPiece_1 rfl hl (by decide) rfl (fun ls hl => ?_)
  refine iz_iconst hx hb dA_longestPiece_2 ?_
  refine lv_istore_n (lv' := [(2, .int (iI 0)), (1, .int (iI 0)), (0, .ref q)]) hx hb dA_longestPiece_3 rfl hl (by decide) rfl (fun ls hl => ?_)
  exact loop (Pn + 1) 0 0 (by omega) (by omega) ⟨by omega, by omega⟩ (fun x hx0 => ⟨fun h => absurd h (by omega), fun ⟨k, hk, _⟩ => absurd hk (by omega)⟩) ls (lv_sub hl [2, 1, 0] rfl)
abbrev rmA_takeBars : Room := { frames := 0, cells := 0, slots := 0, locals := 0 }
set_option maxHeartbeats 4000000 in
set_option maxRecDepth 100000 in
/-- Saw.takeBars(length, cut) -/
theorem c_A_take (l : Launch) (K : KG) (q : Nat) (bl cu : Int) (Pn : Nat) (le : Nat → Int) (pl : Int) (Bn : Nat) (bo fr lo sl : Nat → Int) (l1 c1 : Int) : Ct l yA_takeBars kA_takeBars rmA_takeBars (PC K [.ref q, .int (iI l1), .int (iI c1)] (fun H => va_P (kD K) vcl (saW K q bl cu Pn le pl Bn bo fr lo sl) H)) (QV (fun H => va_P (kD K) vcl (saW K q l1 c1 Pn le 0 Bn bo fr lo sl) H)) (fun x => q ≤ x ∧ x < q + 6) := by
  refine ct_of (by decide) (Or.inl ⟨rfl, rfl⟩) ?_
  intro p e s m args below meth c B0 hP0
  obtain ⟨hx, hb, hr, hml, hown, hlocks, hnm, htab⟩ := B0
  obtain ⟨ha, ⟨hT, hK⟩, hB⟩ := hP0
  have hl := lv_entry ([.ref q, .int (iI l1), .int (iI c1)]) (n := 3) (Nat.le_of_ble_eq_true rfl)
  obtain ⟨Q, hQ⟩ : ∃ Q, Q = XQ below (QV (fun H => va_P (kD K) vcl (saW K q l1 c1 Pn le 0 Bn bo fr lo sl) H)) args s rmA_takeBars.cells rmA_takeBars.slots (fun x => q ≤ x ∧ x < q + 6) := ⟨_, rfl⟩
  rw [← hQ, ha, lg_entry_eq]
  rw [ha] at hQ
  generalize (lg_sl ([.ref q, .int (iI l1), .int (iI c1)]) ++ List.replicate (3 - (lg_sl ([.ref q, .int (iI l1), .int (iI c1)])).length) Slot.unset).toArray = ls at hl ⊢
  generalize ([.ref q, .int (iI l1), .int (iI c1)] : List Value).toArray = args at hQ ⊢
  have hts : ∀ w ∈ TW, w.before args s = true := fun w h => hT w h args
  have hl : lv_has ls 3 [(0, .ref q), (1, .int (iI l1)), (2, .int (iI c1))] := hl
  obtain ⟨A, hAe⟩ : ∃ A : Addr → Prop, A = (fun x => q ≤ x ∧ x < q + 6) := ⟨_, rfl⟩
  rw [← hAe] at hQ
  have hS : va_S A s.heap s.heap [] := va_S.rf
  have hP : va_P (kD K) vcl [(q, .inr (3, [.int (iI bl), .int (iI cu), .int (iI ((Pn : Int))), .ref (q + 1), .int (iI pl), .int (iI ((Bn : Int))), .ref (q + 2), .ref (q + 3), .ref (q + 4), .ref (q + 5)])), (q + 1, .inl (kI K, 10, .inl (iA le))), (q + 2, .inl (kI K, 10, .inl (iA bo))), (q + 3, .inl (kI K, 10, .inl (iA fr))), (q + 4, .inl (kI K, 10, .inl (iA lo))), (q + 5, .inl (kI K, 10, .inl (iA sl)))] s.heap := hB
  have hD : va_D A [(q, .inr (3, [.int (iI bl), .int (iI cu), .int (iI ((Pn : Int))), .ref (q + 1), .int (iI pl), .int (iI ((Bn : Int))), .ref (q + 2), .ref (q + 3), .ref (q + 4), .ref (q + 5)])), (q + 1, .inl (kI K, 10, .inl (iA le))), (q + 2, .inl (kI K, 10, .inl (iA bo))), (q + 3, .inl (kI K, 10, .inl (iA fr))), (q + 4, .inl (kI K, 10, .inl (iA lo))), (q + 5, .inl (kI K, 10, .inl (iA sl)))] := by rw [hAe]; exact va_D_of (by simp) (by simp <;> omega)
  refine lv_aload_n hx hb dA_takeBars_0 rfl (lv_at hl 0 rfl) ?_
  refine lv_iload_n hx hb dA_takeBars_1 rfl (lv_at hl 1 rfl) ?_
  refine va_put (D := kD K) (ci := 3) (v := .int (iI l1)) (ty := .int) (C := RA) (T := FA) (N := 10) hx hb hts jnA tA tA_ok nA hown hK hP hD hS 0 rfl rfl 0 (by decide) (hts _ mt_90) (fun _ h9 => h9) rfl (by decide +kernel) rfl rfl (Nat.le_of_ble_eq_true rfl) dA_takeBars_2 (fun H locs hP hD hS => ?_)
  have hP : va_P (kD K) vcl [(q, .inr (3, [.int (iI l1), .int (iI cu), .int (iI ((Pn : Int))), .ref (q + 1), .int (iI pl), .int (iI ((Bn : Int))), .ref (q + 2), .ref (q + 3), .ref (q + 4), .ref (q + 5)])), (q + 1, .inl (kI K, 10, .inl (iA le))), (q + 2, .inl (kI K, 10, .inl (iA bo))), (q + 3, .inl (kI K, 10, .inl (iA fr))), (q + 4, .inl (kI K, 10, .inl (iA lo))), (q + 5, .inl (kI K, 10, .inl (iA sl)))] H := hP
  have hD : va_D A [(q, .inr (3, [.int (iI l1), .int (iI cu), .int (iI ((Pn : Int))), .ref (q + 1), .int (iI pl), .int (iI ((Bn : Int))), .ref (q + 2), .ref (q + 3), .ref (q + 4), .ref (q + 5)])), (q + 1, .inl (kI K, 10, .inl (iA le))), (q + 2, .inl (kI K, 10, .inl (iA bo))), (q + 3, .inl (kI K, 10, .inl (iA fr))), (q + 4, .inl (kI K, 10, .inl (iA lo))), (q + 5, .inl (kI K, 10, .inl (iA sl)))] := hD
  refine lv_aload_n hx hb dA_takeBars_5 rfl (lv_at hl 0 rfl) ?_
  refine lv_iload_n hx hb dA_takeBars_6 rfl (lv_at hl 2 rfl) ?_
  refine va_put (D := kD K) (ci := 3) (v := .int (iI c1)) (ty := .int) (C := RA) (T := FA) (N := 10) hx hb hts jnA tA tA_ok nA hown hK hP hD hS 0 rfl rfl 1 (by decide) (hts _ mt_92) (fun _ h9 => h9) rfl (by decide +kernel) rfl rfl (Nat.le_of_ble_eq_true rfl) dA_takeBars_7 (fun H locs hP hD hS => ?_)
  have hP : va_P (kD K) vcl [(q, .inr (3, [.int (iI l1), .int (iI c1), .int (iI ((Pn : Int))), .ref (q + 1), .int (iI pl), .int (iI ((Bn : Int))), .ref (q + 2), .ref (q + 3), .ref (q + 4), .ref (q + 5)])), (q + 1, .inl (kI K, 10, .inl (iA le))), (q + 2, .inl (kI K, 10, .inl (iA bo))), (q + 3, .inl (kI K, 10, .inl (iA fr))), (q + 4, .inl (kI K, 10, .inl (iA lo))), (q + 5, .inl (kI K, 10, .inl (iA sl)))] H := hP
  have hD : va_D A [(q, .inr (3, [.int (iI l1), .int (iI c1), .int (iI ((Pn : Int))), .ref (q + 1), .int (iI pl), .int (iI ((Bn : Int))), .ref (q + 2), .ref (q + 3), .ref (q + 4), .ref (q + 5)])), (q + 1, .inl (kI K, 10, .inl (iA le))), (q + 2, .inl (kI K, 10, .inl (iA bo))), (q + 3, .inl (kI K, 10, .inl (iA fr))), (q + 4, .inl (kI K, 10, .inl (iA lo))), (q + 5, .inl (kI K, 10, .inl (iA sl)))] := hD
  refine lv_aload_n hx hb dA_takeBars_10 rfl (lv_at hl 0 rfl) ?_
  refine iz_iconst hx hb dA_takeBars_11 ?_
  refine va_put (D := kD K) (ci := 3) (v := .int (iI 0)) (ty := .boolean) (C := RA) (T := FA) (N := 10) hx hb hts jnA tA tA_ok nA hown hK hP hD hS 0 rfl rfl 4 (by decide) (hts _ mt_96) (fun _ h9 => h9) rfl (by decide +kernel) rfl rfl (Nat.le_of_ble_eq_true rfl) dA_takeBars_12 (fun H locs hP hD hS => ?_)
  have hP : va_P (kD K) vcl [(q, .inr (3, [.int (iI l1), .int (iI c1), .int (iI ((Pn : Int))), .ref (q + 1), .int (iI 0), .int (iI ((Bn : Int))), .ref (q + 2), .ref (q + 3), .ref (q + 4), .ref (q + 5)])), (q + 1, .inl (kI K, 10, .inl (iA le))), (q + 2, .inl (kI K, 10, .inl (iA bo))), (q + 3, .inl (kI K, 10, .inl (iA fr))), (q + 4, .inl (kI K, 10, .inl (iA lo))), (q + 5, .inl (kI K, 10, .inl (iA sl)))] H := hP
  have hD : va_D A [(q, .inr (3, [.int (iI l1), .int (iI c1), .int (iI ((Pn : Int))), .ref (q + 1), .int (iI 0), .int (iI ((Bn : Int))), .ref (q + 2), .ref (q + 3), .ref (q + 4), .ref (q + 5)])), (q + 1, .inl (kI K, 10, .inl (iA le))), (q + 2, .inl (kI K, 10, .inl (iA bo))), (q + 3, .inl (kI K, 10, .inl (iA fr))), (q + 4, .inl (kI K, 10, .inl (iA lo))), (q + 5, .inl (kI K, 10, .inl (iA sl)))] := hD
  rw [hQ]
  exact iz_vret hx hb hr hlocks (hP) hS.2.2 dA_takeBars_15
abbrev rmA_addPiece : Room := { frames := 0, cells := 0, slots := 0, locals := 0 }
set_option maxHeartbeats 4000000 in
set_option maxRecDepth 100000 in
/-- Saw.addPiece(length) -/
theorem c_A_add (l : Launch) (K : KG) (q : Nat) (bl cu : Int) (Pn : Nat) (le : Nat → Int) (pl : Int) (Bn : Nat) (bo fr lo sl : Nat → Int) (x : Int) (h1 : Pn < 10) : Ct l yA_addPiece kA_addPiece rmA_addPiece (PC K [.ref q, .int (iI x)] (fun H => va_P (kD K) vcl (saW K q bl cu Pn le pl Bn bo fr lo sl) H)) (QI (fun r H => r = Pn ∧ va_P (kD K) vcl (saW K q bl cu (Pn + 1) (ut le Pn x) 0 Bn bo fr lo sl) H)) (fun x => q ≤ x ∧ x < q + 6) := by
  refine ct_of (by decide) (Or.inl ⟨rfl, rfl⟩) ?_
  intro p e s m args below meth c B0 hP0
  obtain ⟨hx, hb, hr, hml, hown, hlocks, hnm, htab⟩ := B0
  obtain ⟨ha, ⟨hT, hK⟩, hB⟩ := hP0
  have hl := lv_entry ([.ref q, .int (iI x)]) (n := 2) (Nat.le_of_ble_eq_true rfl)
  obtain ⟨Q, hQ⟩ : ∃ Q, Q = XQ below (QI (fun r H => r = Pn ∧ va_P (kD K) vcl (saW K q bl cu (Pn + 1) (ut le Pn x) 0 Bn bo fr lo sl) H)) args s rmA_addPiece.cells rmA_addPiece.slots (fun x => q ≤ x ∧ x < q + 6) := ⟨_, rfl⟩
  rw [← hQ, ha, lg_entry_eq]
  rw [ha] at hQ
  generalize (lg_sl ([.ref q, .int (iI x)]) ++ List.replicate (2 - (lg_sl ([.ref q, .int (iI x)])).length) Slot.unset).toArray = ls at hl ⊢
  generalize ([.ref q, .int (iI x)] : List Value).toArray = args at hQ ⊢
  have hts : ∀ w ∈ TW, w.before args s = true := fun w h => hT w h args
  have hl : lv_has ls 2 [(0, .ref q), (1, .int (iI x))] := hl
  obtain ⟨A, hAe⟩ : ∃ A : Addr → Prop, A = (fun x => q ≤ x ∧ x < q + 6) := ⟨_, rfl⟩
  rw [← hAe] at hQ
  have hS : va_S A s.heap s.heap [] := va_S.rf
  have hP : va_P (kD K) vcl [(q, .inr (3, [.int (iI bl), .int (iI cu), .int (iI ((Pn : Int))), .ref (q + 1), .int (iI pl), .int (iI ((Bn : Int))), .ref (q + 2), .ref (q + 3), .ref (q + 4), .ref (q + 5)])), (q + 1, .inl (kI K, 10, .inl (iA le))), (q + 2, .inl (kI K, 10, .inl (iA bo))), (q + 3, .inl (kI K, 10, .inl (iA fr))), (q + 4, .inl (kI K, 10, .inl (iA lo))), (q + 5, .inl (kI K, 10, .inl (iA sl)))] s.heap := hB
  have hD : va_D A [(q, .inr (3, [.int (iI bl), .int (iI cu), .int (iI ((Pn : Int))), .ref (q + 1), .int (iI pl), .int (iI ((Bn : Int))), .ref (q + 2), .ref (q + 3), .ref (q + 4), .ref (q + 5)])), (q + 1, .inl (kI K, 10, .inl (iA le))), (q + 2, .inl (kI K, 10, .inl (iA bo))), (q + 3, .inl (kI K, 10, .inl (iA fr))), (q + 4, .inl (kI K, 10, .inl (iA lo))), (q + 5, .inl (kI K, 10, .inl (iA sl)))] := by rw [hAe]; exact va_D_of (by simp) (by simp <;> omega)
  refine lv_aload_n hx hb dA_addPiece_0 rfl (lv_at hl 0 rfl) ?_
  refine va_get (D := kD K) (ci := 3) (v := .ref (q + 1)) (C := RA) (T := FA) (N := 10) hx hb hts jnA hown hK hP 0 rfl rfl 3 (by decide) (hts _ mt_95) (fun _ h9 => h9) rfl dA_addPiece_1 ?_
  refine lv_aload_n hx hb dA_addPiece_4 rfl (lv_at hl 0 rfl) ?_
  refine va_get (D := kD K) (ci := 3) (v := .int (iI ((Pn : Int)))) (C := RA) (T := FA) (N := 10) hx hb hts jnA hown hK hP 0 rfl rfl 2 (by decide) (hts _ mt_93) (fun _ h9 => h9) rfl dA_addPiece_5 ?_
  refine lv_iload_n hx hb dA_addPiece_8 rfl (lv_at hl 1 rfl) ?_
  refine iz_iast hx hb hK hP hD hS 1 rfl Pn rfl (by omega) (by omega) dA_addPiece_9 (fun H locs hP hD hS => ?_)
  have hP : va_P (kD K) vcl [(q, .inr (3, [.int (iI bl), .int (iI cu), .int (iI ((Pn : Int))), .ref (q + 1), .int (iI pl), .int (iI ((Bn : Int))), .ref (q + 2), .ref (q + 3), .ref (q + 4), .ref (q + 5)])), (q + 1, .inl (kI K, 10, .inl (iA (ut le Pn x)))), (q + 2, .inl (kI K, 10, .inl (iA bo))), (q + 3, .inl (kI K, 10, .inl (iA fr))), (q + 4, .inl (kI K, 10, .inl (iA lo))), (q + 5, .inl (kI K, 10, .inl (iA sl)))] H := hP
  have hD : va_D A [(q, .inr (3, [.int (iI bl), .int (iI cu), .int (iI ((Pn : Int))), .ref (q + 1), .int (iI pl), .int (iI ((Bn : Int))), .ref (q + 2), .ref (q + 3), .ref (q + 4), .ref (q + 5)])), (q + 1, .inl (kI K, 10, .inl (iA (ut le Pn x)))), (q + 2, .inl (kI K, 10, .inl (iA bo))), (q + 3, .inl (kI K, 10, .inl (iA fr))), (q + 4, .inl (kI K, 10, .inl (iA lo))), (q + 5, .inl (kI K, 10, .inl (iA sl)))] := hD
  refine lv_aload_n hx hb dA_addPiece_10 rfl (lv_at hl 0 rfl) ?_
  refine lv_dup hx hb dA_addPiece_11 rfl ?_
  refine va_get (D := kD K) (ci := 3) (v := .int (iI ((Pn : Int)))) (C := RA) (T := FA) (N := 10) hx hb hts jnA hown hK hP 0 rfl rfl 2 (by decide) (hts _ mt_93) (fun _ h9 => h9) rfl dA_addPiece_12 ?_
  refine iz_iconst hx hb dA_addPiece_15 ?_
  refine iz_iadd hx hb dA_addPiece_16 ?_
  refine va_put (D := kD K) (ci := 3) (v := .int (iI (((Pn : Int)) + 1))) (ty := .int) (C := RA) (T := FA) (N := 10) hx hb hts jnA tA tA_ok nA hown hK hP hD hS 0 rfl rfl 2 (by decide) (hts _ mt_93) (fun _ h9 => h9) rfl (by decide +kernel) rfl rfl (Nat.le_of_ble_eq_true rfl) dA_addPiece_17 (fun H locs hP hD hS => ?_)
  have hP : va_P (kD K) vcl [(q, .inr (3, [.int (iI bl), .int (iI cu), .int (iI (((Pn : Int)) + 1)), .ref (q + 1), .int (iI pl), .int (iI ((Bn : Int))), .ref (q + 2), .ref (q + 3), .ref (q + 4), .ref (q + 5)])), (q + 1, .inl (kI K, 10, .inl (iA (ut le Pn x)))), (q + 2, .inl (kI K, 10, .inl (iA bo))), (q + 3, .inl (kI K, 10, .inl (iA fr))), (q + 4, .inl (kI K, 10, .inl (iA lo))), (q + 5, .inl (kI K, 10, .inl (iA sl)))] H := hP
  have hD : va_D A [(q, .inr (3, [.int (iI bl), .int (iI cu), .int (iI (((Pn : Int)) + 1)), .ref (q + 1), .int (iI pl), .int (iI ((Bn : Int))), .ref (q + 2), .ref (q + 3), .ref (q + 4), .ref (q + 5)])), (q + 1, .inl (kI K, 10, .inl (iA (ut le Pn x)))), (q + 2, .inl (kI K, 10, .inl (iA bo))), (q + 3, .inl (kI K, 10, .inl (iA fr))), (q + 4, .inl (kI K, 10, .inl (iA lo))), (q + 5, .inl (kI K, 10, .inl (iA sl)))] := hD
  refine lv_aload_n hx hb dA_addPiece_20 rfl (lv_at hl 0 rfl) ?_
  refine iz_iconst hx hb dA_addPiece_21 ?_
  refine va_put (D := kD K) (ci := 3) (v := .int (iI 0)) (ty := .boolean) (C := RA) (T := FA) (N := 10) hx hb hts jnA tA tA_ok nA hown hK hP hD hS 0 rfl rfl 4 (by decide) (hts _ mt_96) (fun _ h9 => h9) rfl (by decide +kernel) rfl rfl (Nat.le_of_ble_eq_true rfl) dA_addPiece_22 (fun H locs hP hD hS => ?_)
  have hP : va_P (kD K) vcl [(q, .inr (3, [.int (iI bl), .int (iI cu), .int (iI (((Pn : Int)) + 1)), .ref (q + 1), .int (iI 0), .int (iI ((Bn : Int))), .ref (q + 2), .ref (q + 3), .ref (q + 4), .ref (q + 5)])), (q + 1, .inl (kI K, 10, .inl (iA (ut le Pn x)))), (q + 2, .inl (kI K, 10, .inl (iA bo))), (q + 3, .inl (kI K, 10, .inl (iA fr))), (q + 4, .inl (kI K, 10, .inl (iA lo))), (q + 5, .inl (kI K, 10, .inl (iA sl)))] H := hP
  have hD : va_D A [(q, .inr (3, [.int (iI bl), .int (iI cu), .int (iI (((Pn : Int)) + 1)), .ref (q + 1), .int (iI 0), .int (iI ((Bn : Int))), .ref (q + 2), .ref (q + 3), .ref (q + 4), .ref (q + 5)])), (q + 1, .inl (kI K, 10, .inl (iA (ut le Pn x)))), (q + 2, .inl (kI K, 10, .inl (iA bo))), (q + 3, .inl (kI K, 10, .inl (iA fr))), (q + 4, .inl (kI K, 10, .inl (iA lo))), (q + 5, .inl (kI K, 10, .inl (iA sl)))] := hD
  refine lv_aload_n hx hb dA_addPiece_25 rfl (lv_at hl 0 rfl) ?_
  refine va_get (D := kD K) (ci := 3) (v := .int (iI (((Pn : Int)) + 1))) (C := RA) (T := FA) (N := 10) hx hb hts jnA hown hK hP 0 rfl rfl 2 (by decide) (hts _ mt_93) (fun _ h9 => h9) rfl dA_addPiece_26 ?_
  refine iz_iconst hx hb dA_addPiece_29 ?_
  refine iz_isub hx hb dA_addPiece_30 ?_
  rw [hQ]
  exact iz_iret hx hb hr hlocks (⟨by omega, hP⟩) hS.2.2 dA_addPiece_31
abbrev rmA_resizePiece : Room := { frames := 0, cells := 0, slots := 0, locals := 0 }
set_option maxHeartbeats 4000000 in
set_option maxRecDepth 100000 in
/-- Saw.resizePiece(piece, length) -/
theorem c_A_resize (l : Launch) (K : KG) (q : Nat) (bl cu : Int) (Pn : Nat) (le : Nat → Int) (pl : Int) (Bn : Nat) (bo fr lo sl : Nat → Int) (k : Nat) (x : Int) (h1 : k < 10) : Ct l yA_resizePiece kA_resizePiece rmA_resizePiece (PC K [.ref q, .int (iI ((k : Int))), .int (iI x)] (fun H => va_P (kD K) vcl (saW K q bl cu Pn le pl Bn bo fr lo sl) H)) (QI (fun r H => r = le k ∧ va_P (kD K) vcl (saW K q bl cu Pn (ut le k x) 0 Bn bo fr lo sl) H)) (fun x => q ≤ x ∧ x < q + 6) := by
  refine ct_of (by decide) (Or.inl ⟨rfl, rfl⟩) ?_
  intro p e s m args below meth c B0 hP0
  obtain ⟨hx, hb, hr, hml, hown, hlocks, hnm, htab⟩ := B0
  obtain ⟨ha, ⟨hT, hK⟩, hB⟩ := hP0
  have hl := lv_entry ([.ref q, .int (iI ((k : Int))), .int (iI x)]) (n := 4) (Nat.le_of_ble_eq_true rfl)
  obtain ⟨Q, hQ⟩ : ∃ Q, Q = XQ below (QI (fun r H => r = le k ∧ va_P (kD K) vcl (saW K q bl cu Pn (ut le k x) 0 Bn bo fr lo sl) H)) args s rmA_resizePiece.cells rmA_resizePiece.slots (fun x => q ≤ x ∧ x < q + 6) := ⟨_, rfl⟩
  rw [← hQ, ha, lg_entry_eq]
  rw [ha] at hQ
  generalize (lg_sl ([.ref q, .int (iI ((k : Int))), .int (iI x)]) ++ List.replicate (4 - (lg_sl ([.ref q, .int (iI ((k : Int))), .int (iI x)])).length) Slot.unset).toArray = ls at hl ⊢
  generalize ([.ref q, .int (iI ((k : Int))), .int (iI x)] : List Value).toArray = args at hQ ⊢
  have hts : ∀ w ∈ TW, w.before args s = true := fun w h => hT w h args
  have hl : lv_has ls 4 [(0, .ref q), (1, .int (iI ((k : Int)))), (2, .int (iI x))] := hl
  obtain ⟨A, hAe⟩ : ∃ A : Addr → Prop, A = (fun x => q ≤ x ∧ x < q + 6) := ⟨_, rfl⟩
  rw [← hAe] at hQ
  have hS : va_S A s.heap s.heap [] := va_S.rf
  have hP : va_P (kD K) vcl [(q, .inr (3, [.int (iI bl), .int (iI cu), .int (iI ((Pn : Int))), .ref (q + 1), .int (iI pl), .int (iI ((Bn : Int))), .ref (q + 2), .ref (q + 3), .ref (q + 4), .ref (q + 5)])), (q + 1, .inl (kI K, 10, .inl (iA le))), (q + 2, .inl (kI K, 10, .inl (iA bo))), (q + 3, .inl (kI K, 10, .inl (iA fr))), (q + 4, .inl (kI K, 10, .inl (iA lo))), (q + 5, .inl (kI K, 10, .inl (iA sl)))] s.heap := hB
  have hD : va_D A [(q, .inr (3, [.int (iI bl), .int (iI cu), .int (iI ((Pn : Int))), .ref (q + 1), .int (iI pl), .int (iI ((Bn : Int))), .ref (q + 2), .ref (q + 3), .ref (q + 4), .ref (q + 5)])), (q + 1, .inl (kI K, 10, .inl (iA le))), (q + 2, .inl (kI K, 10, .inl (iA bo))), (q + 3, .inl (kI K, 10, .inl (iA fr))), (q + 4, .inl (kI K, 10, .inl (iA lo))), (q + 5, .inl (kI K, 10, .inl (iA sl)))] := by rw [hAe]; exact va_D_of (by simp) (by simp <;> omega)
  refine lv_aload_n hx hb dA_resizePiece_0 rfl (lv_at hl 0 rfl) ?_
  refine va_get (D := kD K) (ci := 3) (v := .ref (q + 1)) (C := RA) (T := FA) (N := 10) hx hb hts jnA hown hK hP 0 rfl rfl 3 (by decide) (hts _ mt_95) (fun _ h9 => h9) rfl dA_resizePiece_1 ?_
  refine lv_iload_n hx hb dA_resizePiece_4 rfl (lv_at hl 1 rfl) ?_
  refine iz_iald hx hb hK hP 1 rfl k rfl (by omega) (by omega) dA_resizePiece_5 ?_
  refine lv_istore_n (lv' := [(3, .int (iI (le k))), (0, .ref q), (1, .int (iI ((k : Int)))), (2, .int (iI x))]) hx hb dA_resizePiece_6 rfl hl (by decide) rfl (fun ls hl => ?_)
  refine lv_aload_n hx hb dA_resizePiece_7 rfl (lv_at hl 1 rfl) ?_
  refine va_get (D := kD K) (ci := 3) (v := .ref (q + 1)) (C := RA) (T := FA) (N := 10) hx hb hts jnA hown hK hP 0 rfl rfl 3 (by decide) (hts _ mt_95) (fun _ h9 => h9) rfl dA_resizePiece_8 ?_
  refine lv_iload_n hx hb dA_resizePiece_11 rfl (lv_at hl 2 rfl) ?_
  refine lv_iload_n hx hb dA_resizePiece_12 rfl (lv_at hl 3 rfl) ?_
  refine iz_iast hx hb hK hP hD hS 1 rfl k rfl (by omega) (by omega) dA_resizePiece_13 (fun H locs hP hD hS => ?_)
  have hP : va_P (kD K) vcl [(q, .inr (3, [.int (iI bl), .int (iI cu), .int (iI ((Pn : Int))), .ref (q + 1), .int (iI pl), .int (iI ((Bn : Int))), .ref (q + 2), .ref (q + 3), .ref (q + 4), .ref (q + 5)])), (q + 1, .inl (kI K, 10, .inl (iA (ut le k x)))), (q + 2, .inl (kI K, 10, .inl (iA bo))), (q + 3, .inl (kI K, 10, .inl (iA fr))), (q + 4, .inl (kI K, 10, .inl (iA lo))), (q + 5, .inl (kI K, 10, .inl (iA sl)))] H := hP
  have hD : va_D A [(q, .inr (3, [.int (iI bl), .int (iI cu), .int (iI ((Pn : Int))), .ref (q + 1), .int (iI pl), .int (iI ((Bn : Int))), .ref (q + 2), .ref (q + 3), .ref (q + 4), .ref (q + 5)])), (q + 1, .inl (kI K, 10, .inl (iA (ut le k x)))), (q + 2, .inl (kI K, 10, .inl (iA bo))), (q + 3, .inl (kI K, 10, .inl (iA fr))), (q + 4, .inl (kI K, 10, .inl (iA lo))), (q + 5, .inl (kI K, 10, .inl (iA sl)))] := hD
  refine lv_aload_n hx hb dA_resizePiece_14 rfl (lv_at hl 1 rfl) ?_
  refine iz_iconst hx hb dA_resizePiece_15 ?_
  refine va_put (D := kD K) (ci := 3) (v := .int (iI 0)) (ty := .boolean) (C := RA) (T := FA) (N := 10) hx hb hts jnA tA tA_ok nA hown hK hP hD hS 0 rfl rfl 4 (by decide) (hts _ mt_96) (fun _ h9 => h9) rfl (by decide +kernel) rfl rfl (Nat.le_of_ble_eq_true rfl) dA_resizePiece_16 (fun H locs hP hD hS => ?_)
  have hP : va_P (kD K) vcl [(q, .inr (3, [.int (iI bl), .int (iI cu), .int (iI ((Pn : Int))), .ref (q + 1), .int (iI 0), .int (iI ((Bn : Int))), .ref (q + 2), .ref (q + 3), .ref (q + 4), .ref (q + 5)])), (q + 1, .inl (kI K, 10, .inl (iA (ut le k x)))), (q + 2, .inl (kI K, 10, .inl (iA bo))), (q + 3, .inl (kI K, 10, .inl (iA fr))), (q + 4, .inl (kI K, 10, .inl (iA lo))), (q + 5, .inl (kI K, 10, .inl (iA sl)))] H := hP
  have hD : va_D A [(q, .inr (3, [.int (iI bl), .int (iI cu), .int (iI ((Pn : Int))), .ref (q + 1), .int (iI 0), .int (iI ((Bn : Int))), .ref (q + 2), .ref (q + 3), .ref (q + 4), .ref (q + 5)])), (q + 1, .inl (kI K, 10, .inl (iA (ut le k x)))), (q + 2, .inl (kI K, 10, .inl (iA bo))), (q + 3, .inl (kI K, 10, .inl (iA fr))), (q + 4, .inl (kI K, 10, .inl (iA lo))), (q + 5, .inl (kI K, 10, .inl (iA sl)))] := hD
  refine lv_iload_n hx hb dA_resizePiece_19 rfl (lv_at hl 0 rfl) ?_
  rw [hQ]
  exact iz_iret hx hb hr hlocks (⟨rfl, hP⟩) hS.2.2 dA_resizePiece_20
abbrev rmA_usable : Room := { frames := 0, cells := 0, slots := 0, locals := 0 }
set_option maxHeartbeats 4000000 in
set_option maxRecDepth 100000 in
/-- Saw.usable(size) -/
theorem c_A_usable (l : Launch) (K : KG) (q : Nat) (bl cu : Int) (Pn : Nat) (le : Nat → Int) (pl : Int) (Bn : Nat) (bo fr lo sl : Nat → Int) (z : Int) (hz : r32 z) (hBn : Bn ≤ 10) (hfr : ∀ b, b < Bn → 0 ≤ fr b ∧ fr b ≤ 10100) : Ct l yA_usable kA_usable rmA_usable (PC K [.ref q, .int (iI z)] (fun H => va_P (kD K) vcl (saW K q bl cu Pn le pl Bn bo fr lo sl) H)) (QI (fun r _ => r = pl_us fr z Bn)) (fun _ => False) := by
  refine ct_of (by decide) (Or.inl ⟨rfl, rfl⟩) ?_
  intro p e s m args below meth c B0 hP0
  obtain ⟨hx, hb, hr, hml, hown, hlocks, hnm, htab⟩ := B0
  obtain ⟨ha, ⟨hT, hK⟩, hB⟩ := hP0
  have hl := lv_entry ([.ref q, .int (iI z)]) (n := 4) (Nat.le_of_ble_eq_true rfl)
  obtain ⟨Q, hQ⟩ : ∃ Q, Q = XQ below (QI (fun r _ => r = pl_us fr z Bn)) args s rmA_usable.cells rmA_usable.slots (fun _ => False) := ⟨_, rfl⟩
  rw [← hQ, ha, lg_entry_eq]
  rw [ha] at hQ
  generalize (lg_sl ([.ref q, .int (iI z)]) ++ List.replicate (4 - (lg_sl ([.ref q, .int (iI z)])).length) Slot.unset).toArray = ls at hl ⊢
  generalize ([.ref q, .int (iI z)] : List Value).toArray = args at hQ ⊢
  have hts : ∀ w ∈ TW, w.before args s = true := fun w h => hT w h args
  have hl : lv_has ls 4 [(0, .ref q), (1, .int (iI z))] := hl
  obtain ⟨A, hAe⟩ : ∃ A : Addr → Prop, A = (fun _ => False) := ⟨_, rfl⟩
  rw [← hAe] at hQ
  have hS : va_S A s.heap s.heap [] := va_S.rf
  have hP : va_P (kD K) vcl [(q, .inr (3, [.int (iI bl), .int (iI cu), .int (iI ((Pn : Int))), .ref (q + 1), .int (iI pl), .int (iI ((Bn : Int))), .ref (q + 2), .ref (q + 3), .ref (q + 4), .ref (q + 5)])), (q + 1, .inl (kI K, 10, .inl (iA le))), (q + 2, .inl (kI K, 10, .inl (iA bo))), (q + 3, .inl (kI K, 10, .inl (iA fr))), (q + 4, .inl (kI K, 10, .inl (iA lo))), (q + 5, .inl (kI K, 10, .inl (iA sl)))] s.heap := hB
  have loop : ∀ (j i : Nat) (ac : Int), Bn + 1 ≤ i + j → i ≤ Bn → ac = sm (fun b => if z ≤ fr b then fr b else 0) 0 i → ∀ ls : Array Slot, lv_has ls 4 [(0, .ref q), (1, .int (iI z)), (2, .int (iI ac)), (3, .int (iI ((i : Int))))] → W p l e rmA_usable s m args below meth c s.heap [] 0 0 Q (F0 m 4 ls []) := by
    intro j
    induction j with
    | zero => intro i ac h1 h2; omega
    | succ j ih =>
      intro i ac h1 h2 hac ls hl
      refine lv_iload_n hx hb dA_usable_4 rfl (lv_at hl 3 rfl) ?_
      refine lv_aload_n hx hb dA_usable_5 rfl (lv_at hl 0 rfl) ?_
      refine va_get (D := kD K) (ci := 3) (v := .int (iI ((Bn : Int)))) (C := RA) (T := FA) (N := 10) hx hb hts jnA hown hK hP 0 rfl rfl 5 (by decide) (hts _ mt_97) (fun _ h9 => h9) rfl dA_usable_6 ?_
      refine iz_icmp_ge (tgt := 41) hx hb ⟨by omega, by omega⟩ ⟨by omega, by omega⟩ dA_usable_9 (by decide) (fun g1 => ?_) (fun g1 => ?_)
      · have e : i = Bn := by omega
        subst e
        refine lv_iload_n hx hb dA_usable_41 rfl (lv_at hl 2 rfl) ?_
        rw [hQ]
        exact iz_iret hx hb hr hlocks (hac) (fun _ h => absurd h List.not_mem_nil) dA_usable_42
      · have qi := hfr i (by omega)
        refine lv_iload_n hx hb dA_usable_12 rfl (lv_at hl 2 rfl) ?_
        refine lv_aload_n hx hb dA_usable_13 rfl (lv_at hl 0 rfl) ?_
        refine va_get (D := kD K) (ci := 3) (v := .ref (q + 3)) (C := RA) (T := FA) (N := 10) hx hb hts jnA hown hK hP 0 rfl rfl 7 (by decide) (hts _ mt_101) (fun _ h9 => h9) rfl dA_usable_14 ?_
        refine lv_iload_n hx hb dA_usable_17 rfl (lv_at hl 3 rfl) ?_
        refine iz_iald hx hb hK hP 3 rfl i rfl (by omega) (by omega) dA_usable_18 ?_
        refine lv_iload_n hx hb dA_usable_19 rfl (lv_at hl 1 rfl) ?_
        refine iz_icmp_lt (tgt := 32) hx hb ⟨by omega, by omega⟩ ⟨by omega, by omega⟩ dA_usable_20 (by decide) (fun g2 => ?_) (fun g2 => ?_)
        · refine iz_iconst hx hb dA_usable_32 ?_
          refine iz_iadd hx hb dA_usable_33 ?_
          refine lv_istore_n (lv' := [(2, .int (iI (ac + 0))), (0, .ref q), (1, .int (iI z)), (3, .int (iI ((i : Int))))]) hx hb dA_usable_34 rfl hl (by decide) rfl (fun ls hl => ?_)
          refine iz_iinc (k := 3) (lv' := [(3, .int (iI ((i : Int) + 1))), (2, .int (iI (ac + 0))), (0, .ref q), (1, .int (iI z))]) hx hb dA_usable_35 hl rfl (by decide) rfl (fun ls hl => ?_)
          refine lv_goto (tgt := 4) hx hb dA_usable_38 (by decide) ?_
          exact ih (i + 1) (ac + 0) (by omega) (by omega) (by rw [sm_snoc, Nat.zero_add, hac]; show _ = _ + (if z ≤ fr i then fr i else 0); rw [if_neg (by omega)]) ls (lv_sub hl [2, 3, 1, 0] rfl)
        · refine lv_aload_n hx hb dA_usable_23 rfl (lv_at hl 0 rfl) ?_
          refine va_get (D := kD K) (ci := 3) (v := .ref (q + 3)) (C := RA) (T := FA) (N := 10) hx hb hts jnA hown hK hP 0 rfl rfl 7 (by decide) (hts _ mt_101) (fun _ h9 => h9) rfl dA_usable_24 ?_
          refine lv_iload_n hx hb dA_usable_27 rfl (lv_at hl 3 rfl) ?_
          refine iz_iald hx hb hK hP 3 rfl i rfl (by omega) (by omega) dA_usable_28 ?_
          refine lv_goto (tgt := 33) hx hb dA_usable_29 (by decide) ?_
          refine iz_iadd hx hb dA_usable_33 ?_
          refine lv_istore_n (lv' := [(2, .int (iI (ac + (fr i)))), (0, .ref q), (1, .int (iI z)), (3, .int (iI ((i : Int))))]) hx hb dA_usable_34 rfl hl (by decide) rfl (fun ls hl => ?_)
          refine iz_iinc (k := 3) (lv' := [(3, .int (iI ((i : Int) + 1))), (2, .int (iI (ac + (fr i)))), (0, .ref q), (1, .int (iI z))]) hx hb dA_usable_35 hl rfl (by decide) rfl (fun ls hl => ?_)
          refine lv_goto (tgt := 4) hx hb dA_usable_38 (by decide) ?_
          exact ih (i + 1) (ac + fr i) (by omega) (by omega) (by rw [sm_snoc, Nat.zero_add, hac]; show _ = _ + (if z ≤ fr i then fr i else 0); rw [if_pos (by omega)]) ls (lv_sub hl [2, 3, 1, 0] rfl)
  refine iz_iconst hx hb dA_usable_0 ?_
  refine lv_istore_n (lv' := [(2, .int (iI 0)), (0, .ref q), (1, .int (iI z))]) hx hb dA_usable_1 rfl hl (by decide) rfl (fun ls hl => ?_)
  refine iz_iconst hx hb dA_usable_2 ?_
  refine lv_istore_n (lv' := [(3, .int (iI 0)), (2, .int (iI 0)), (0, .ref q), (1, .int (iI z))]) hx hb dA_usable_3 rfl hl (by decide) rfl (fun ls hl => ?_)
  exact loop (Bn + 1) 0 0 (by omega) (by omega) rfl ls (lv_sub hl [2, 3, 1, 0] rfl)
abbrev rmA_isLikeEarlier : Room := { frames := 0, cells := 0, slots := 0, locals := 0 }
set_option maxHeartbeats 4000000 in
set_option maxRecDepth 100000 in
/-- Saw.isLikeEarlier(bar) -/
theorem c_A_like (l : Launch) (K : KG) (q : Nat) (bl cu : Int) (Pn : Nat) (le : Nat → Int) (pl : Int) (Bn : Nat) (bo fr lo sl : Nat → Int) (b : Nat) (h1 : b < Bn) (hBn : Bn ≤ 10) (hfr : ∀ b, b < Bn → 0 ≤ fr b ∧ fr b ≤ 10100) : Ct l yA_isLikeEarlier kA_isLikeEarlier rmA_isLikeEarlier (PC K [.ref q, .int (iI ((b : Int)))] (fun H => va_P (kD K) vcl (saW K q bl cu Pn le pl Bn bo fr lo sl) H)) (QI (fun r _ => (r = 1 ∧ ∃ x, x < b ∧ fr x = fr b) ∨ (r = 0 ∧ ∀ x, x < b → fr x ≠ fr b))) (fun _ => False) := by
  refine ct_of (by decide) (Or.inl ⟨rfl, rfl⟩) ?_
  intro p e s m args below meth c B0 hP0
  obtain ⟨hx, hb, hr, hml, hown, hlocks, hnm, htab⟩ := B0
  obtain ⟨ha, ⟨hT, hK⟩, hB⟩ := hP0
  have hl := lv_entry ([.ref q, .int (iI ((b : Int)))]) (n := 3) (Nat.le_of_ble_eq_true rfl)
  obtain ⟨Q, hQ⟩ : ∃ Q, Q = XQ below (QI (fun r _ => (r = 1 ∧ ∃ x, x < b ∧ fr x = fr b) ∨ (r = 0 ∧ ∀ x, x < b → fr x ≠ fr b))) args s rmA_isLikeEarlier.cells rmA_isLikeEarlier.slots (fun _ => False) := ⟨_, rfl⟩
  rw [← hQ, ha, lg_entry_eq]
  rw [ha] at hQ
  generalize (lg_sl ([.ref q, .int (iI ((b : Int)))]) ++ List.replicate (3 - (lg_sl ([.ref q, .int (iI ((b : Int)))])).length) Slot.unset).toArray = ls at hl ⊢
  generalize ([.ref q, .int (iI ((b : Int)))] : List Value).toArray = args at hQ ⊢
  have hts : ∀ w ∈ TW, w.before args s = true := fun w h => hT w h args
  have hl : lv_has ls 3 [(0, .ref q), (1, .int (iI ((b : Int))))] := hl
  obtain ⟨A, hAe⟩ : ∃ A : Addr → Prop, A = (fun _ => False) := ⟨_, rfl⟩
  rw [← hAe] at hQ
  have hS : va_S A s.heap s.heap [] := va_S.rf
  have hP : va_P (kD K) vcl [(q, .inr (3, [.int (iI bl), .int (iI cu), .int (iI ((Pn : Int))), .ref (q + 1), .int (iI pl), .int (iI ((Bn : Int))), .ref (q + 2), .ref (q + 3), .ref (q + 4), .ref (q + 5)])), (q + 1, .inl (kI K, 10, .inl (iA le))), (q + 2, .inl (kI K, 10, .inl (iA bo))), (q + 3, .inl (kI K, 10, .inl (iA fr))), (q + 4, .inl (kI K, 10, .inl (iA lo))), (q + 5, .inl (kI K, 10, .inl (iA sl)))] s.heap := hB
  have qb := hfr b h1
  have loop : ∀ (j i : Nat), b + 1 ≤ i + j → i ≤ b → (∀ x, x < i → fr x ≠ fr b) → ∀ ls : Array Slot, lv_has ls 3 [(0, .ref q), (1, .int (iI ((b : Int)))), (2, .int (iI ((i : Int))))] → W p l e rmA_isLikeEarlier s m args below meth c s.heap [] 0 0 Q (F0 m 2 ls []) := by
    intro j
    induction j with
    | zero => intro i h1 h2; omega
    | succ j ih =>
      intro i h1 h2 hm ls hl
      refine lv_iload_n hx hb dA_isLikeEarlier_2 rfl (lv_at hl 2 rfl) ?_
      refine lv_iload_n hx hb dA_isLikeEarlier_3 rfl (lv_at hl 1 rfl) ?_
      refine iz_icmp_ge (tgt := 30) hx hb ⟨by omega, by omega⟩ ⟨by omega, by omega⟩ dA_isLikeEarlier_4 (by decide) (fun g1 => ?_) (fun g1 => ?_)
      · have e : i = b := by omega
        subst e
        refine iz_iconst hx hb dA_isLikeEarlier_30 ?_
        rw [hQ]
        exact iz_zret hx hb hr hlocks (Or.inl rfl) (Or.inr ⟨rfl, hm⟩) (fun _ h => absurd h List.not_mem_nil) dA_isLikeEarlier_31
      · have qi := hfr i (by omega)
        refine lv_aload_n hx hb dA_isLikeEarlier_7 rfl (lv_at hl 0 rfl) ?_
        refine va_get (D := kD K) (ci := 3) (v := .ref (q + 3)) (C := RA) (T := FA) (N := 10) hx hb hts jnA hown hK hP 0 rfl rfl 7 (by decide) (hts _ mt_101) (fun _ h9 => h9) rfl dA_isLikeEarlier_8 ?_
        refine lv_iload_n hx hb dA_isLikeEarlier_11 rfl (lv_at hl 2 rfl) ?_
        refine iz_iald hx hb hK hP 3 rfl i rfl (by omega) (by omega) dA_isLikeEarlier_12 ?_
        refine lv_aload_n hx hb dA_isLikeEarlier_13 rfl (lv_at hl 0 rfl) ?_
        refine va_get (D := kD K) (ci := 3) (v := .ref (q + 3)) (C := RA) (T := FA) (N := 10) hx hb hts jnA hown hK hP 0 rfl rfl 7 (by decide) (hts _ mt_101) (fun _ h9 => h9) rfl dA_isLikeEarlier_14 ?_
        refine lv_iload_n hx hb dA_isLikeEarlier_17 rfl (lv_at hl 1 rfl) ?_
        refine iz_iald hx hb hK hP 3 rfl b rfl (by omega) (by omega) dA_isLikeEarlier_18 ?_
        refine iz_icmp_ne (tgt := 24) hx hb ⟨by omega, by omega⟩ ⟨by omega, by omega⟩ dA_isLikeEarlier_19 (by decide) (fun g2 => ?_) (fun g2 => ?_)
        · refine iz_iinc (k := 2) (lv' := [(2, .int (iI ((i : Int) + 1))), (0, .ref q), (1, .int (iI ((b : Int))))]) hx hb dA_isLikeEarlier_24 hl rfl (by decide) rfl (fun ls hl => ?_)
          refine lv_goto (tgt := 2) hx hb dA_isLikeEarlier_27 (by decide) ?_
          exact ih (i + 1) (by omega) (by omega) (fun x hx9 => by by_cases e : x = i; subst e; exact g2; exact hm x (by omega)) ls (lv_sub hl [1, 2, 0] rfl)
        · refine iz_iconst hx hb dA_isLikeEarlier_22 ?_
          rw [hQ]
          exact iz_zret hx hb hr hlocks (Or.inr rfl) (Or.inl ⟨rfl, i, by omega, g2⟩) (fun _ h => absurd h List.not_mem_nil) dA_isLikeEarlier_23
  refine iz_iconst hx hb dA_isLikeEarlier_0 ?_
  refine lv_istore_n (lv' := [(2, .int (iI 0)), (0, .ref q), (1, .int (iI ((b : Int))))]) hx hb dA_isLikeEarlier_1 rfl hl (by decide) rfl (fun ls hl => ?_)
  exact loop (b + 1) 0 (by omega) (by omega) (fun x hx9 => absurd hx9 (by omega)) ls (lv_sub hl [1, 2, 0] rfl)
/-- loads and smallest sizes, from j on -/
def SwL (Pn j : Nat) (z lo sl : Nat → Int) : Prop := ∀ i, j ≤ i → i < Pn → lo i = sm z i (Pn - i) ∧ (0 ≤ sl i ∧ sl i ≤ 10100) ∧ ∀ k, i ≤ k → k < Pn → sl i ≤ z k
theorem SwL_s {Pn j : Nat} {z lo sl : Nat → Int} {S l : Int} (h : SwL Pn (j + 1) z lo sl) (h1 : S = sm z j (Pn - j)) (h2 : 0 ≤ l ∧ l ≤ 10100) (h3 : ∀ k, j ≤ k → k < Pn → l ≤ z k) : SwL Pn j z (ut lo j S) (ut sl j l) := by
  intro i hi hn
  by_cases e : i = j
  · subst e; rw [ut_s, ut_s]; exact ⟨h1, h2, h3⟩
  · rw [ut_n _ _ e, ut_n _ _ e]; exact h i (by omega) hn
abbrev rmA_sumFromBehind : Room := { frames := 1, cells := 0, slots := 0, locals := 40 }
set_option maxHeartbeats 4000000 in
set_option maxRecDepth 100000 in
/-- Saw.sumFromBehind() -/
theorem c_A_sum (l : Launch) (K : KG) (q : Nat) (bl cu : Int) (Pn : Nat) (le : Nat → Int) (pl : Int) (Bn : Nat) (bo fr lo sl : Nat → Int) (hB9 : SwB bl cu Pn le) : Ct l yA_sumFromBehind kA_sumFromBehind rmA_sumFromBehind (PC K [.ref q] (fun H => va_P (kD K) vcl (saW K q bl cu Pn le pl Bn bo fr lo sl) H)) (QV (fun H => ∃ lo' sl' : Nat → Int, SwL Pn 0 (swz le cu) lo' sl' ∧ va_P (kD K) vcl (saW K q bl cu Pn le pl Bn bo fr lo' sl') H)) (fun x => q ≤ x ∧ x < q + 6) := by
  refine ct_of (by decide) (Or.inl ⟨rfl, rfl⟩) ?_
  intro p e s m args below meth c B0 hP0
  obtain ⟨hx, hb, hr, hml, hown, hlocks, hnm, htab⟩ := B0
  obtain ⟨ha, ⟨hT, hK⟩, hB⟩ := hP0
  have hl := lv_entry ([.ref q]) (n := 4) (Nat.le_of_ble_eq_true rfl)
  obtain ⟨Q, hQ⟩ : ∃ Q, Q = XQ below (QV (fun H => ∃ lo' sl' : Nat → Int, SwL Pn 0 (swz le cu) lo' sl' ∧ va_P (kD K) vcl (saW K q bl cu Pn le pl Bn bo fr lo' sl') H)) args s rmA_sumFromBehind.cells rmA_sumFromBehind.slots (fun x => q ≤ x ∧ x < q + 6) := ⟨_, rfl⟩
  rw [← hQ, ha, lg_entry_eq]
  rw [ha] at hQ
  generalize (lg_sl ([.ref q]) ++ List.replicate (4 - (lg_sl ([.ref q])).length) Slot.unset).toArray = ls at hl ⊢
  generalize ([.ref q] : List Value).toArray = args at hQ ⊢
  have hts : ∀ w ∈ TW, w.before args s = true := fun w h => hT w h args
  have hl : lv_has ls 4 [(0, .ref q)] := hl
  obtain ⟨A, hAe⟩ : ∃ A : Addr → Prop, A = (fun x => q ≤ x ∧ x < q + 6) := ⟨_, rfl⟩
  rw [← hAe] at hQ
  have hS : va_S A s.heap s.heap [] := va_S.rf
  have hP : va_P (kD K) vcl [(q, .inr (3, [.int (iI bl), .int (iI cu), .int (iI ((Pn : Int))), .ref (q + 1), .int (iI pl), .int (iI ((Bn : Int))), .ref (q + 2), .ref (q + 3), .ref (q + 4), .ref (q + 5)])), (q + 1, .inl (kI K, 10, .inl (iA le))), (q + 2, .inl (kI K, 10, .inl (iA bo))), (q + 3, .inl (kI K, 10, .inl (iA fr))), (q + 4, .inl (kI K, 10, .inl (iA lo))), (q + 5, .inl (kI K, 10, .inl (iA sl)))] s.heap := hB
  have hD : va_D A [(q, .inr (3, [.int (iI bl), .int (iI cu), .int (iI ((Pn : Int))), .ref (q + 1), .int (iI pl), .int (iI ((Bn : Int))), .ref (q + 2), .ref (q + 3), .ref (q + 4), .ref (q + 5)])), (q + 1, .inl (kI K, 10, .inl (iA le))), (q + 2, .inl (kI K, 10, .inl (iA bo))), (q + 3, .inl (kI K, 10, .inl (iA fr))), (q + 4, .inl (kI K, 10, .inl (iA lo))), (q + 5, .inl (kI K, 10, .inl (iA sl)))] := by rw [hAe]; exact va_D_of (by simp) (by simp <;> omega)
  obtain ⟨hbl, hcu, hP10, hle⟩ := hB9
  have loop : ∀ (j : Nat) (S ml : Int) (lo1 sl1 : Nat → Int), j ≤ Pn → S = sm (swz le cu) j (Pn - j) → (0 ≤ ml ∧ ml ≤ 10100) → (∀ k, j ≤ k → k < Pn → ml ≤ swz le cu k) → SwL Pn j (swz le cu) lo1 sl1 → ∀ (H : Heap) (locs : List Loc), va_P (kD K) vcl [(q, .inr (3, [.int (iI bl), .int (iI cu), .int (iI ((Pn : Int))), .ref (q + 1), .int (iI pl), .int (iI ((Bn : Int))), .ref (q + 2), .ref (q + 3), .ref (q + 4), .ref (q + 5)])), (q + 1, .inl (kI K, 10, .inl (iA le))), (q + 2, .inl (kI K, 10, .inl (iA bo))), (q + 3, .inl (kI K, 10, .inl (iA fr))), (q + 4, .inl (kI K, 10, .inl (iA lo1))), (q + 5, .inl (kI K, 10, .inl (iA sl1)))] H → va_D A [(q, .inr (3, [.int (iI bl), .int (iI cu), .int (iI ((Pn : Int))), .ref (q + 1), .int (iI pl), .int (iI ((Bn : Int))), .ref (q + 2), .ref (q + 3), .ref (q + 4), .ref (q + 5)])), (q + 1, .inl (kI K, 10, .inl (iA le))), (q + 2, .inl (kI K, 10, .inl (iA bo))), (q + 3, .inl (kI K, 10, .inl (iA fr))), (q + 4, .inl (kI K, 10, .inl (iA lo1))), (q + 5, .inl (kI K, 10, .inl (iA sl1)))] → va_S A s.heap H locs → ∀ ls : Array Slot, lv_has ls 4 [(0, .ref q), (1, .int (iI S)), (2, .int (iI ml)), (3, .int (iI ((j : Int) - 1)))] → W p l e rmA_sumFromBehind s m args below meth c H locs 0 0 Q (F0 m 19 ls []) := by
    intro j
    induction j with
    | zero =>
      intro S ml lo1 sl1 hj hS9 hml9 hk9 hL9 H locs hP hD hS ls hl
      refine lv_iload_n hx hb dA_sumFromBehind_19 rfl (lv_at hl 3 rfl) ?_
      refine iz_if_lt (tgt := 73) hx hb ⟨by omega, by omega⟩ dA_sumFromBehind_20 (by decide) (fun g1 => ?_) (fun g1 => ?_)
      · rw [hQ]
        exact iz_vret hx hb hr hlocks (⟨lo1, sl1, hL9, hP⟩) hS.2.2 dA_sumFromBehind_73
      · exact absurd g1 (by omega)
    | succ j ih =>
      intro S ml lo1 sl1 hj hS9 hml9 hk9 hL9 H locs hP hD hS ls hl
      have ej : ((j + 1 : Nat) : Int) - 1 = (j : Int) := by omega
      rw [ej] at hl
      have qj := hle j (by omega)
      refine lv_iload_n hx hb dA_sumFromBehind_19 rfl (lv_at hl 3 rfl) ?_
      refine iz_if_lt (tgt := 73) hx hb ⟨by omega, by omega⟩ dA_sumFromBehind_20 (by decide) (fun g1 => ?_) (fun g1 => ?_)
      · exact absurd g1 (by omega)
      · refine lv_iload_n hx hb dA_sumFromBehind_23 rfl (lv_at hl 1 rfl) ?_
        refine lv_aload_n hx hb dA_sumFromBehind_24 rfl (lv_at hl 0 rfl) ?_
        refine va_get (D := kD K) (ci := 3) (v := .ref (q + 1)) (C := RA) (T := FA) (N := 10) hx hb hts jnA hown hK hP 0 rfl rfl 3 (by decide) (hts _ mt_95) (fun _ h9 => h9) rfl dA_sumFromBehind_25 ?_
        refine lv_iload_n hx hb dA_sumFromBehind_28 rfl (lv_at hl 3 rfl) ?_
        refine iz_iald hx hb hK hP 1 rfl j rfl (by omega) (by omega) dA_sumFromBehind_29 ?_
        refine lv_aload_n hx hb dA_sumFromBehind_30 rfl (lv_at hl 0 rfl) ?_
        refine va_get (D := kD K) (ci := 3) (v := .int (iI cu)) (C := RA) (T := FA) (N := 10) hx hb hts jnA hown hK hP 0 rfl rfl 1 (by decide) (hts _ mt_92) (fun _ h9 => h9) rfl dA_sumFromBehind_31 ?_
        refine iz_iadd hx hb dA_sumFromBehind_34 ?_
        refine iz_iadd hx hb dA_sumFromBehind_35 ?_
        refine lv_istore_n (lv' := [(1, .int (iI (S + ((le j) + cu)))), (0, .ref q), (2, .int (iI ml)), (3, .int (iI ((j : Int))))]) hx hb dA_sumFromBehind_36 rfl hl (by decide) rfl (fun ls hl => ?_)
        refine lv_iload_n hx hb dA_sumFromBehind_37 rfl (lv_at hl 2 rfl) ?_
        refine lv_aload_n hx hb dA_sumFromBehind_38 rfl (lv_at hl 1 rfl) ?_
        refine va_get (D := kD K) (ci := 3) (v := .ref (q + 1)) (C := RA) (T := FA) (N := 10) hx hb hts jnA hown hK hP 0 rfl rfl 3 (by decide) (hts _ mt_95) (fun _ h9 => h9) rfl dA_sumFromBehind_39 ?_
        refine lv_iload_n hx hb dA_sumFromBehind_42 rfl (lv_at hl 3 rfl) ?_
        refine iz_iald hx hb hK hP 1 rfl j rfl (by omega) (by omega) dA_sumFromBehind_43 ?_
        refine lv_aload_n hx hb dA_sumFromBehind_44 rfl (lv_at hl 1 rfl) ?_
        refine va_get (D := kD K) (ci := 3) (v := .int (iI cu)) (C := RA) (T := FA) (N := 10) hx hb hts jnA hown hK hP 0 rfl rfl 1 (by decide) (hts _ mt_92) (fun _ h9 => h9) rfl dA_sumFromBehind_45 ?_
        refine iz_iadd hx hb dA_sumFromBehind_48 ?_
        refine iz_min hx hb hml hl.1 hown hT mt_281 (Nat.le_of_ble_eq_true rfl) (Nat.le_of_ble_eq_true rfl) (Nat.le_of_ble_eq_true rfl) (Nat.le_of_ble_eq_true rfl) ⟨by omega, by omega⟩ ⟨by omega, by omega⟩ dA_sumFromBehind_49 ?_
        obtain ⟨y, hy⟩ : ∃ y : Int, y = if le j + cu < ml then le j + cu else ml := ⟨_, rfl⟩
        rw [← hy]
        have hyb : 0 ≤ y ∧ y ≤ 10100 := by rw [hy]; split <;> omega
        have hyk : ∀ k, j ≤ k → k < Pn → y ≤ swz le cu k := by
          intro k h1 h2
          by_cases e : k = j
          · subst e; show y ≤ le k + cu; rw [hy]; split <;> omega
          · have h := hk9 k (by omega) h2
            rw [hy]; split <;> omega
        have hSn : S + (le j + cu) = sm (swz le cu) j (Pn - j) := by rw [show Pn - j = (Pn - (j + 1)) + 1 by omega, sm_s, hS9]; show _ = (le j + cu) + _; omega
        refine lv_istore_n (lv' := [(2, .int (iI y)), (1, .int (iI (S + ((le j) + cu)))), (0, .ref q), (3, .int (iI ((j : Int))))]) hx hb dA_sumFromBehind_52 rfl hl (by decide) rfl (fun ls hl => ?_)
        refine lv_aload_n hx hb dA_sumFromBehind_53 rfl (lv_at hl 2 rfl) ?_
        refine va_get (D := kD K) (ci := 3) (v := .ref (q + 4)) (C := RA) (T := FA) (N := 10) hx hb hts jnA hown hK hP 0 rfl rfl 8 (by decide) (hts _ mt_103) (fun _ h9 => h9) rfl dA_sumFromBehind_54 ?_
        refine lv_iload_n hx hb dA_sumFromBehind_57 rfl (lv_at hl 3 rfl) ?_
        refine lv_iload_n hx hb dA_sumFromBehind_58 rfl (lv_at hl 1 rfl) ?_
        refine iz_iast hx hb hK hP hD hS 4 rfl j rfl (by omega) (by omega) dA_sumFromBehind_59 (fun H locs hP hD hS => ?_)
        have hP : va_P (kD K) vcl [(q, .inr (3, [.int (iI bl), .int (iI cu), .int (iI ((Pn : Int))), .ref (q + 1), .int (iI pl), .int (iI ((Bn : Int))), .ref (q + 2), .ref (q + 3), .ref (q + 4), .ref (q + 5)])), (q + 1, .inl (kI K, 10, .inl (iA le))), (q + 2, .inl (kI K, 10, .inl (iA bo))), (q + 3, .inl (kI K, 10, .inl (iA fr))), (q + 4, .inl (kI K, 10, .inl (iA (ut lo1 j (S + ((le j) + cu)))))), (q + 5, .inl (kI K, 10, .inl (iA sl1)))] H := hP
        have hD : va_D A [(q, .inr (3, [.int (iI bl), .int (iI cu), .int (iI ((Pn : Int))), .ref (q + 1), .int (iI pl), .int (iI ((Bn : Int))), .ref (q + 2), .ref (q + 3), .ref (q + 4), .ref (q + 5)])), (q + 1, .inl (kI K, 10, .inl (iA le))), (q + 2, .inl (kI K, 10, .inl (iA bo))), (q + 3, .inl (kI K, 10, .inl (iA fr))), (q + 4, .inl (kI K, 10, .inl (iA (ut lo1 j (S + ((le j) + cu)))))), (q + 5, .inl (kI K, 10, .inl (iA sl1)))] := hD
        refine lv_aload_n hx hb dA_sumFromBehind_60 rfl (lv_at hl 2 rfl) ?_
        refine va_get (D := kD K) (ci := 3) (v := .ref (q + 5)) (C := RA) (T := FA) (N := 10) hx hb hts jnA hown hK hP 0 rfl rfl 9 (by decide) (hts _ mt_104) (fun _ h9 => h9) rfl dA_sumFromBehind_61 ?_
        refine lv_iload_n hx hb dA_sumFromBehind_64 rfl (lv_at hl 3 rfl) ?_
        refine lv_iload_n hx hb dA_sumFromBehind_65 rfl (lv_at hl 0 rfl) ?_
        refine iz_iast hx hb hK hP hD hS 5 rfl j rfl (by omega) (by omega) dA_sumFromBehind_66 (fun H locs hP hD hS => ?_)
        have hP : va_P (kD K) vcl [(q, .inr (3, [.int (iI bl), .int (iI cu), .int (iI ((Pn : Int))), .ref (q + 1), .int (iI pl), .int (iI ((Bn : Int))), .ref (q + 2), .ref (q + 3), .ref (q + 4), .ref (q + 5)])), (q + 1, .inl (kI K, 10, .inl (iA le))), (q + 2, .inl (kI K, 10, .inl (iA bo))), (q + 3, .inl (kI K, 10, .inl (iA fr))), (q + 4, .inl (kI K, 10, .inl (iA (ut lo1 j (S + ((le j) + cu)))))), (q + 5, .inl (kI K, 10, .inl (iA (ut sl1 j y))))] H := hP
        have hD : va_D A [(q, .inr (3, [.int (iI bl), .int (iI cu), .int (iI ((Pn : Int))), .ref (q + 1), .int (iI pl), .int (iI ((Bn : Int))), .ref (q + 2), .ref (q + 3), .ref (q + 4), .ref (q + 5)])), (q + 1, .inl (kI K, 10, .inl (iA le))), (q + 2, .inl (kI K, 10, .inl (iA bo))), (q + 3, .inl (kI K, 10, .inl (iA fr))), (q + 4, .inl (kI K, 10, .inl (iA (ut lo1 j (S + ((le j) + cu)))))), (q + 5, .inl (kI K, 10, .inl (iA (ut sl1 j y))))] := hD
        refine iz_iinc (k := 3) (lv' := [(3, .int (iI ((j : Int) + (-1)))), (2, .int (iI y)), (1, .int (iI (S + ((le j) + cu)))), (0, .ref q)]) hx hb dA_sumFromBehind_67 hl rfl (by decide) rfl (fun ls hl => ?_)
        refine lv_goto (tgt := 19) hx hb dA_sumFromBehind_70 (by decide) ?_
        exact ih (S + (le j + cu)) y (ut lo1 j (S + (le j + cu))) (ut sl1 j y) (by omega) hSn hyb hyk (SwL_s hL9 hSn hyb hyk) H _ hP hD hS ls (lv_sub hl [3, 2, 1, 0] rfl)
  refine iz_iconst hx hb dA_sumFromBehind_0 ?_
  refine lv_istore_n (lv' := [(1, .int (iI 0)), (0, .ref q)]) hx hb dA_sumFromBehind_1 rfl hl (by decide) rfl (fun ls hl => ?_)
  refine lv_aload_n hx hb dA_sumFromBehind_2 rfl (lv_at hl 1 rfl) ?_
  refine va_get (D := kD K) (ci := 3) (v := .int (iI bl)) (C := RA) (T := FA) (N := 10) hx hb hts jnA hown hK hP 0 rfl rfl 0 (by decide) (hts _ mt_90) (fun _ h9 => h9) rfl dA_sumFromBehind_3 ?_
  refine lv_aload_n hx hb dA_sumFromBehind_6 rfl (lv_at hl 1 rfl) ?_
  refine va_get (D := kD K) (ci := 3) (v := .int (iI cu)) (C := RA) (T := FA) (N := 10) hx hb hts jnA hown hK hP 0 rfl rfl 1 (by decide) (hts _ mt_92) (fun _ h9 => h9) rfl dA_sumFromBehind_7 ?_
  refine iz_iadd hx hb dA_sumFromBehind_10 ?_
  refine lv_istore_n (lv' := [(2, .int (iI (bl + cu))), (1, .int (iI 0)), (0, .ref q)]) hx hb dA_sumFromBehind_11 rfl hl (by decide) rfl (fun ls hl => ?_)
  refine lv_aload_n hx hb dA_sumFromBehind_12 rfl (lv_at hl 2 rfl) ?_
  refine va_get (D := kD K) (ci := 3) (v := .int (iI ((Pn : Int)))) (C := RA) (T := FA) (N := 10) hx hb hts jnA hown hK hP 0 rfl rfl 2 (by decide) (hts _ mt_93) (fun _ h9 => h9) rfl dA_sumFromBehind_13 ?_
  refine iz_iconst hx hb dA_sumFromBehind_16 ?_
  refine iz_isub hx hb dA_sumFromBehind_17 ?_
  refine lv_istore_n (lv' := [(3, .int (iI (((Pn : Int)) - 1))), (2, .int (iI (bl + cu))), (1, .int (iI 0)), (0, .ref q)]) hx hb dA_sumFromBehind_18 rfl hl (by decide) rfl (fun ls hl => ?_)
  exact loop Pn 0 (bl + cu) lo sl (Nat.le_refl _) (by rw [Nat.sub_self]; rfl) ⟨by omega, by omega⟩ (fun k h1 h2 => absurd h1 (by omega)) (fun i h1 h2 => absurd h1 (by omega)) s.heap [] hP hD hS ls (lv_sub hl [3, 2, 1, 0] rfl)
end
section
-- class Saw: the plan
abbrev rmF (d : Nat) : Room := { frames := 2 + d, cells := 0, slots := 0, locals := 60 + 40 * d }
set_option maxHeartbeats 8000000 in
set_option maxRecDepth 100000 in
/-- Saw.placeFrom(piece) -/
theorem c_A_placeFrom (l : Launch) (K : KG) (q : Nat) (bl cu : Int) (Pn : Nat) (le : Nat → Int) (pl : Int) (Bn : Nat) (lo sl : Nat → Int) (hB9 : SwB bl cu Pn le) (hBn : Bn ≤ 10) (hL9 : SwL Pn 0 (swz le cu) lo sl) : ∀ (d p0 : Nat), p0 + d = Pn → ∀ (bo fr : Nat → Int), (∀ b, b < Bn → 0 ≤ fr b ∧ fr b ≤ 10100) → Ct l yA_placeFrom kA_placeFrom (rmF d) (PC K [.ref q, .int (iI (p0 : Int))] (fun H => va_P (kD K) vcl (saW K q bl cu Pn le pl Bn bo fr lo sl) H)) (QI (fun r H => ∃ fr' bo' : Nat → Int, pl_R (swz le cu) Bn p0 d fr bo r fr' bo' ∧ va_P (kD K) vcl (saW K q bl cu Pn le pl Bn bo' fr' lo sl) H)) (fun x => q ≤ x ∧ x < q + 6) := by
  obtain ⟨hbl, hcu, hP10, hle⟩ := id hB9
  intro d
  induction d with
  | zero =>
    intro p0 hpd bo fr hfr
    refine ct_of (by decide) (Or.inl ⟨rfl, rfl⟩) ?_
    intro p e s m args below meth c B0 hP0
    obtain ⟨hx, hb, hr, hml, hown, hlocks, hnm, htab⟩ := B0
    obtain ⟨ha, ⟨hT, hK⟩, hB⟩ := hP0
    have hl := lv_entry ([.ref q, .int (iI ((p0 : Int)))]) (n := 4) (Nat.le_of_ble_eq_true rfl)
    obtain ⟨Q, hQ⟩ : ∃ Q, Q = XQ below (QI (fun r H => ∃ fr' bo' : Nat → Int, pl_R (swz le cu) Bn p0 0 fr bo r fr' bo' ∧ va_P (kD K) vcl (saW K q bl cu Pn le pl Bn bo' fr' lo sl) H)) args s (rmF 0).cells (rmF 0).slots (fun x => q ≤ x ∧ x < q + 6) := ⟨_, rfl⟩
    rw [← hQ, ha, lg_entry_eq]
    rw [ha] at hQ
    generalize (lg_sl ([.ref q, .int (iI ((p0 : Int)))]) ++ List.replicate (4 - (lg_sl ([.ref q, .int (iI ((p0 : Int)))])).length) Slot.unset).toArray = ls at hl ⊢
    generalize ([.ref q, .int (iI ((p0 : Int)))] : List Value).toArray = args at hQ ⊢
    have hts : ∀ w ∈ TW, w.before args s = true := fun w h => hT w h args
    have hl : lv_has ls 4 [(0, .ref q), (1, .int (iI ((p0 : Int))))] := hl
    obtain ⟨A, hAe⟩ : ∃ A : Addr → Prop, A = (fun x => q ≤ x ∧ x < q + 6) := ⟨_, rfl⟩
    rw [← hAe] at hQ
    have hS : va_S A s.heap s.heap [] := va_S.rf
    have hP : va_P (kD K) vcl [(q, .inr (3, [.int (iI bl), .int (iI cu), .int (iI ((Pn : Int))), .ref (q + 1), .int (iI pl), .int (iI ((Bn : Int))), .ref (q + 2), .ref (q + 3), .ref (q + 4), .ref (q + 5)])), (q + 1, .inl (kI K, 10, .inl (iA le))), (q + 2, .inl (kI K, 10, .inl (iA bo))), (q + 3, .inl (kI K, 10, .inl (iA fr))), (q + 4, .inl (kI K, 10, .inl (iA lo))), (q + 5, .inl (kI K, 10, .inl (iA sl)))] s.heap := hB
    have hD : va_D A [(q, .inr (3, [.int (iI bl), .int (iI cu), .int (iI ((Pn : Int))), .ref (q + 1), .int (iI pl), .int (iI ((Bn : Int))), .ref (q + 2), .ref (q + 3), .ref (q + 4), .ref (q + 5)])), (q + 1, .inl (kI K, 10, .inl (iA le))), (q + 2, .inl (kI K, 10, .inl (iA bo))), (q + 3, .inl (kI K, 10, .inl (iA fr))), (q + 4, .inl (kI K, 10, .inl (iA lo))), (q + 5, .inl (kI K, 10, .inl (iA sl)))] := by rw [hAe]; exact va_D_of (by simp) (by simp <;> omega)
    refine lv_iload_n hx hb dA_placeFrom_0 rfl (lv_at hl 1 rfl) ?_
    refine lv_aload_n hx hb dA_placeFrom_1 rfl (lv_at hl 0 rfl) ?_
    refine va_get (D := kD K) (ci := 3) (v := .int (iI ((Pn : Int)))) (C := RA) (T := FA) (N := 10) hx hb hts jnA hown hK hP 0 rfl rfl 2 (by decide) (hts _ mt_93) (fun _ h9 => h9) rfl dA_placeFrom_2 ?_
    refine iz_icmp_lt (tgt := 10) hx hb ⟨by omega, by omega⟩ ⟨by omega, by omega⟩ dA_placeFrom_5 (by decide) (fun g1 => ?_) (fun g1 => ?_)
    · exact absurd g1 (by omega)
    · refine iz_iconst hx hb dA_placeFrom_8 ?_
      rw [hQ]
      exact iz_zret hx hb hr hlocks (Or.inr rfl) (⟨fr, bo, pl_R_0, hP⟩) hS.2.2 dA_placeFrom_9
  | succ d ih =>
    intro p0 hpd bo fr hfr
    refine ct_of (by decide) (Or.inl ⟨rfl, rfl⟩) ?_
    intro p e s m args below meth c B0 hP0
    obtain ⟨hx, hb, hr, hml, hown, hlocks, hnm, htab⟩ := B0
    obtain ⟨ha, ⟨hT, hK⟩, hB⟩ := hP0
    have hl := lv_entry ([.ref q, .int (iI ((p0 : Int)))]) (n := 4) (Nat.le_of_ble_eq_true rfl)
    obtain ⟨Q, hQ⟩ : ∃ Q, Q = XQ below (QI (fun r H => ∃ fr' bo' : Nat → Int, pl_R (swz le cu) Bn p0 (d + 1) fr bo r fr' bo' ∧ va_P (kD K) vcl (saW K q bl cu Pn le pl Bn bo' fr' lo sl) H)) args s (rmF (d + 1)).cells (rmF (d + 1)).slots (fun x => q ≤ x ∧ x < q + 6) := ⟨_, rfl⟩
    rw [← hQ, ha, lg_entry_eq]
    rw [ha] at hQ
    generalize (lg_sl ([.ref q, .int (iI ((p0 : Int)))]) ++ List.replicate (4 - (lg_sl ([.ref q, .int (iI ((p0 : Int)))])).length) Slot.unset).toArray = ls at hl ⊢
    generalize ([.ref q, .int (iI ((p0 : Int)))] : List Value).toArray = args at hQ ⊢
    have hts : ∀ w ∈ TW, w.before args s = true := fun w h => hT w h args
    have hl : lv_has ls 4 [(0, .ref q), (1, .int (iI ((p0 : Int))))] := hl
    obtain ⟨A, hAe⟩ : ∃ A : Addr → Prop, A = (fun x => q ≤ x ∧ x < q + 6) := ⟨_, rfl⟩
    rw [← hAe] at hQ
    have hS : va_S A s.heap s.heap [] := va_S.rf
    have hP : va_P (kD K) vcl [(q, .inr (3, [.int (iI bl), .int (iI cu), .int (iI ((Pn : Int))), .ref (q + 1), .int (iI pl), .int (iI ((Bn : Int))), .ref (q + 2), .ref (q + 3), .ref (q + 4), .ref (q + 5)])), (q + 1, .inl (kI K, 10, .inl (iA le))), (q + 2, .inl (kI K, 10, .inl (iA bo))), (q + 3, .inl (kI K, 10, .inl (iA fr))), (q + 4, .inl (kI K, 10, .inl (iA lo))), (q + 5, .inl (kI K, 10, .inl (iA sl)))] s.heap := hB
    have hD : va_D A [(q, .inr (3, [.int (iI bl), .int (iI cu), .int (iI ((Pn : Int))), .ref (q + 1), .int (iI pl), .int (iI ((Bn : Int))), .ref (q + 2), .ref (q + 3), .ref (q + 4), .ref (q + 5)])), (q + 1, .inl (kI K, 10, .inl (iA le))), (q + 2, .inl (kI K, 10, .inl (iA bo))), (q + 3, .inl (kI K, 10, .inl (iA fr))), (q + 4, .inl (kI K, 10, .inl (iA lo))), (q + 5, .inl (kI K, 10, .inl (iA sl)))] := by rw [hAe]; exact va_D_of (by simp) (by simp <;> omega)
    refine lv_iload_n hx hb dA_placeFrom_0 rfl (lv_at hl 1 rfl) ?_
    refine lv_aload_n hx hb dA_placeFrom_1 rfl (lv_at hl 0 rfl) ?_
    refine va_get (D := kD K) (ci := 3) (v := .int (iI ((Pn : Int)))) (C := RA) (T := FA) (N := 10) hx hb hts jnA hown hK hP 0 rfl rfl 2 (by decide) (hts _ mt_93) (fun _ h9 => h9) rfl dA_placeFrom_2 ?_
    refine iz_icmp_lt (tgt := 10) hx hb ⟨by omega, by omega⟩ ⟨by omega, by omega⟩ dA_placeFrom_5 (by decide) (fun g1 => ?_) (fun g1 => ?_)
    · obtain ⟨hlo, hsl, hsk⟩ := hL9 p0 (Nat.zero_le _) (by omega)
      have hsz := hle p0 (by omega)
      have hszb : ∀ i, p0 ≤ i → i < p0 + (d + 1) → 1 ≤ swz le cu i ∧ swz le cu i ≤ 10100 := fun i h1 h2 => by have := hle i (by omega); show 1 ≤ le i + cu ∧ le i + cu ≤ 10100; omega
      have hsum : 0 ≤ sm (swz le cu) p0 (Pn - p0) ∧ sm (swz le cu) p0 (Pn - p0) ≤ 101000 := by
        rw [show Pn - p0 = d + 1 by omega]
        refine ⟨sm_nn _ _ (fun i h1 h2 => by have := hszb i h1 h2; omega), ?_⟩
        have h9 := sm_le (f := swz le cu) (g := fun _ => 10100) (d + 1) p0 (fun i h1 h2 => (hszb i h1 h2).2)
        rw [sm_const] at h9
        omega
      have hus : 0 ≤ pl_us fr (sl p0) Bn ∧ pl_us fr (sl p0) Bn ≤ 101000 := by
        refine ⟨sm_nn _ _ (fun i h1 h2 => ?_), ?_⟩
        · show 0 ≤ if sl p0 ≤ fr i then fr i else 0
          have := hfr i (by omega)
          split <;> omega
        · have h9 := sm_le (f := fun b => if sl p0 ≤ fr b then fr b else 0) (g := fun _ => 10100) Bn 0 (fun i h1 h2 => by
            have := hfr i (by omega)
            show (if sl p0 ≤ fr i then fr i else 0) ≤ 10100
            split <;> omega)
          rw [sm_const] at h9
          exact Int.le_trans h9 (by omega)
      refine lv_aload_n hx hb dA_placeFrom_10 rfl (lv_at hl 0 rfl) ?_
      refine va_get (D := kD K) (ci := 3) (v := .ref (q + 4)) (C := RA) (T := FA) (N := 10) hx hb hts jnA hown hK hP 0 rfl rfl 8 (by decide) (hts _ mt_103) (fun _ h9 => h9) rfl dA_placeFrom_11 ?_
      refine lv_iload_n hx hb dA_placeFrom_14 rfl (lv_at hl 1 rfl) ?_
      refine iz_iald hx hb hK hP 4 rfl p0 rfl (by omega) (by omega) dA_placeFrom_15 ?_
      refine lv_aload_n hx hb dA_placeFrom_16 rfl (lv_at hl 0 rfl) ?_
      refine lv_aload_n hx hb dA_placeFrom_17 rfl (lv_at hl 0 rfl) ?_
      refine va_get (D := kD K) (ci := 3) (v := .ref (q + 5)) (C := RA) (T := FA) (N := 10) hx hb hts jnA hown hK hP 0 rfl rfl 9 (by decide) (hts _ mt_104) (fun _ h9 => h9) rfl dA_placeFrom_18 ?_
      refine lv_iload_n hx hb dA_placeFrom_21 rfl (lv_at hl 1 rfl) ?_
      refine iz_iald hx hb hK hP 5 rfl p0 rfl (by omega) (by omega) dA_placeFrom_22 ?_
      refine ctV (n := 1) hx hb hml hown hT ⟨c_A_usable l K q bl cu Pn le pl Bn bo fr lo sl (sl p0) ⟨by omega, by omega⟩ hBn hfr, ⟨_, _, _, Or.inl ⟨rfl, rfl⟩⟩, mt_296, mt_4, by decide, by decide +kernel, by show 0 + 1 ≤ 2 + (d + 1); omega, by show 8 + (4 + 11) + 0 ≤ 60 + 40 * (d + 1); omega, Nat.le_of_ble_eq_true rfl, Nat.le_of_ble_eq_true rfl⟩ PC.blind mt_293 mt_295 ms_12 (va_RVof (ci := 3) (q0 := 0) hK hP rfl rfl) (As := [.int (iI (sl p0))]) (rest := [.int (iI (lo p0))]) rfl (PC.at ⟨hT, hK⟩ hP) hl.1 rfl (Nat.le_of_ble_eq_true rfl) dA_placeFrom_23 (krI0 rfl rfl (fun _ h => h) (fun us hu => ?_))
      subst hu
      refine iz_icmp_le (tgt := 31) hx hb ⟨by omega, by omega⟩ ⟨by omega, by omega⟩ dA_placeFrom_26 (by decide) (fun g2 => ?_) (fun g2 => ?_)
      · refine lv_aload_n hx hb dA_placeFrom_31 rfl (lv_at hl 0 rfl) ?_
        refine va_get (D := kD K) (ci := 3) (v := .ref (q + 1)) (C := RA) (T := FA) (N := 10) hx hb hts jnA hown hK hP 0 rfl rfl 3 (by decide) (hts _ mt_95) (fun _ h9 => h9) rfl dA_placeFrom_32 ?_
        refine lv_iload_n hx hb dA_placeFrom_35 rfl (lv_at hl 1 rfl) ?_
        refine iz_iald hx hb hK hP 1 rfl p0 rfl (by omega) (by omega) dA_placeFrom_36 ?_
        refine lv_aload_n hx hb dA_placeFrom_37 rfl (lv_at hl 0 rfl) ?_
        refine va_get (D := kD K) (ci := 3) (v := .int (iI cu)) (C := RA) (T := FA) (N := 10) hx hb hts jnA hown hK hP 0 rfl rfl 1 (by decide) (hts _ mt_92) (fun _ h9 => h9) rfl dA_placeFrom_38 ?_
        refine iz_iadd hx hb dA_placeFrom_41 ?_
        refine lv_istore_n (lv' := [(2, .int (iI ((le p0) + cu))), (0, .ref q), (1, .int (iI ((p0 : Int))))]) hx hb dA_placeFrom_42 rfl hl (by decide) rfl (fun ls hl => ?_)
        have loop : ∀ (j b : Nat), Bn + 1 ≤ b + j → b ≤ Bn → ∀ (bo1 : Nat → Int), (∀ i, i < p0 → bo1 i = bo i) → (∀ b', b' < b → ¬ (swz le cu p0 ≤ fr b' ∧ ∃ a, pl_X (swz le cu) Bn a (p0 + 1) d (ut fr b' (fr b' - swz le cu p0)))) → ∀ (H : Heap) (locs : List Loc), va_P (kD K) vcl [(q, .inr (3, [.int (iI bl), .int (iI cu), .int (iI ((Pn : Int))), .ref (q + 1), .int (iI pl), .int (iI ((Bn : Int))), .ref (q + 2), .ref (q + 3), .ref (q + 4), .ref (q + 5)])), (q + 1, .inl (kI K, 10, .inl (iA le))), (q + 2, .inl (kI K, 10, .inl (iA bo1))), (q + 3, .inl (kI K, 10, .inl (iA fr))), (q + 4, .inl (kI K, 10, .inl (iA lo))), (q + 5, .inl (kI K, 10, .inl (iA sl)))] H → va_D A [(q, .inr (3, [.int (iI bl), .int (iI cu), .int (iI ((Pn : Int))), .ref (q + 1), .int (iI pl), .int (iI ((Bn : Int))), .ref (q + 2), .ref (q + 3), .ref (q + 4), .ref (q + 5)])), (q + 1, .inl (kI K, 10, .inl (iA le))), (q + 2, .inl (kI K, 10, .inl (iA bo1))), (q + 3, .inl (kI K, 10, .inl (iA fr))), (q + 4, .inl (kI K, 10, .inl (iA lo))), (q + 5, .inl (kI K, 10, .inl (iA sl)))] → va_S A s.heap H locs → ∀ ls : Array Slot, lv_has ls 4 [(0, .ref q), (1, .int (iI ((p0 : Int)))), (2, .int (iI (le p0 + cu))), (3, .int (iI ((b : Int))))] → W p l e (rmF (d + 1)) s m args below meth c H locs 0 0 Q (F0 m 45 ls []) := by
          intro j
          induction j with
          | zero => intro b h1 h2; omega
          | succ j ihj =>
            intro b h1 h2 bo1 hbo hno H locs hP hD hS ls hl
            refine lv_iload_n hx hb dA_placeFrom_45 rfl (lv_at hl 3 rfl) ?_
            refine lv_aload_n hx hb dA_placeFrom_46 rfl (lv_at hl 0 rfl) ?_
            refine va_get (D := kD K) (ci := 3) (v := .int (iI ((Bn : Int)))) (C := RA) (T := FA) (N := 10) hx hb hts jnA hown hK hP 0 rfl rfl 5 (by decide) (hts _ mt_97) (fun _ h9 => h9) rfl dA_placeFrom_47 ?_
            refine iz_icmp_ge (tgt := 116) hx hb ⟨by omega, by omega⟩ ⟨by omega, by omega⟩ dA_placeFrom_50 (by decide) (fun g3 => ?_) (fun g3 => ?_)
            · have e : b = Bn := by omega
              subst e
              refine iz_iconst hx hb dA_placeFrom_116 ?_
              rw [hQ]
              exact iz_zret hx hb hr hlocks (Or.inl rfl) (⟨fr, bo1, Or.inr ⟨rfl, pl_R_nobar hno, rfl, hbo⟩, hP⟩) hS.2.2 dA_placeFrom_117
            · have qb := hfr b (by omega)
              refine lv_aload_n hx hb dA_placeFrom_53 rfl (lv_at hl 0 rfl) ?_
              refine va_get (D := kD K) (ci := 3) (v := .ref (q + 3)) (C := RA) (T := FA) (N := 10) hx hb hts jnA hown hK hP 0 rfl rfl 7 (by decide) (hts _ mt_101) (fun _ h9 => h9) rfl dA_placeFrom_54 ?_
              refine lv_iload_n hx hb dA_placeFrom_57 rfl (lv_at hl 3 rfl) ?_
              refine iz_iald hx hb hK hP 3 rfl b rfl (by omega) (by omega) dA_placeFrom_58 ?_
              refine lv_iload_n hx hb dA_placeFrom_59 rfl (lv_at hl 2 rfl) ?_
              refine iz_icmp_lt (tgt := 110) hx hb ⟨by omega, by omega⟩ ⟨by omega, by omega⟩ dA_placeFrom_60 (by decide) (fun g4 => ?_) (fun g4 => ?_)
              · refine iz_iinc (k := 3) (lv' := [(3, .int (iI ((b : Int) + 1))), (0, .ref q), (1, .int (iI ((p0 : Int)))), (2, .int (iI (le p0 + cu)))]) hx hb dA_placeFrom_110 hl rfl (by decide) rfl (fun ls hl => ?_)
                refine lv_goto (tgt := 45) hx hb dA_placeFrom_113 (by decide) ?_
                exact ihj (b + 1) (by omega) (by omega) bo1 hbo (fun b' hb' => by by_cases e : b' = b; subst e; exact (fun h => absurd h.1 (show ¬ le p0 + cu ≤ fr b' by omega)); exact hno b' (by omega)) H _ hP hD hS ls (lv_sub hl [1, 2, 3, 0] rfl)
              · refine lv_aload_n hx hb dA_placeFrom_63 rfl (lv_at hl 0 rfl) ?_
                refine lv_iload_n hx hb dA_placeFrom_64 rfl (lv_at hl 3 rfl) ?_
                refine ctV (n := 1) hx hb hml hown hT ⟨c_A_like l K q bl cu Pn le pl Bn bo1 fr lo sl b (by omega) hBn hfr, ⟨_, _, _, Or.inl ⟨rfl, rfl⟩⟩, mt_300, mt_4, by decide, by decide +kernel, by show 0 + 1 ≤ 2 + (d + 1); omega, by show 8 + (3 + 11) + 0 ≤ 60 + 40 * (d + 1); omega, Nat.le_of_ble_eq_true rfl, Nat.le_of_ble_eq_true rfl⟩ PC.blind mt_297 mt_299 ms_13 (va_RVof (ci := 3) (q0 := 0) hK hP rfl rfl) (As := [.int (iI ((b : Int)))]) (rest := []) rfl (PC.at ⟨hT, hK⟩ hP) hl.1 rfl (Nat.le_of_ble_eq_true rfl) dA_placeFrom_65 (krI0 rfl rfl (fun _ h => h) (fun r hr9 => ?_))
                refine iz_if_ne (tgt := 110) hx hb (by rcases hr9 with ⟨rfl, -⟩ | ⟨rfl, -⟩ <;> exact ⟨by omega, by omega⟩) dA_placeFrom_68 (by decide) (fun g5 => ?_) (fun g5 => ?_)
                · obtain ⟨x9, hx9, hf9⟩ : ∃ x, x < b ∧ fr x = fr b := by rcases hr9 with ⟨-, h⟩ | ⟨h, -⟩; exact h; exact absurd h g5
                  refine iz_iinc (k := 3) (lv' := [(3, .int (iI ((b : Int) + 1))), (0, .ref q), (1, .int (iI ((p0 : Int)))), (2, .int (iI (le p0 + cu)))]) hx hb dA_placeFrom_110 hl rfl (by decide) rfl (fun ls hl => ?_)
                  refine lv_goto (tgt := 45) hx hb dA_placeFrom_113 (by decide) ?_
                  exact ihj (b + 1) (by omega) (by omega) bo1 hbo (fun b' hb' => by by_cases e : b' = b; subst e; exact (fun h => hno x9 hx9 ⟨by rw [hf9]; exact h.1, pl_like (show x9 < Bn by omega) (show b' < Bn by omega) hf9 h.2⟩); exact hno b' (by omega)) H _ hP hD hS ls (lv_sub hl [1, 2, 3, 0] rfl)
                · refine lv_aload_n hx hb dA_placeFrom_71 rfl (lv_at hl 0 rfl) ?_
                  refine va_get (D := kD K) (ci := 3) (v := .ref (q + 3)) (C := RA) (T := FA) (N := 10) hx hb hts jnA hown hK hP 0 rfl rfl 7 (by decide) (hts _ mt_101) (fun _ h9 => h9) rfl dA_placeFrom_72 ?_
                  refine lv_iload_n hx hb dA_placeFrom_75 rfl (lv_at hl 3 rfl) ?_
                  refine lv_dup2_11 hx hb dA_placeFrom_76 rfl rfl ?_
                  refine iz_iald hx hb hK hP 3 rfl b rfl (by omega) (by omega) dA_placeFrom_77 ?_
                  refine lv_iload_n hx hb dA_placeFrom_78 rfl (lv_at hl 2 rfl) ?_
                  refine iz_isub hx hb dA_placeFrom_79 ?_
                  refine iz_iast hx hb hK hP hD hS 3 rfl b rfl (by omega) (by omega) dA_placeFrom_80 (fun H locs hP hD hS => ?_)
                  have hP : va_P (kD K) vcl [(q, .inr (3, [.int (iI bl), .int (iI cu), .int (iI ((Pn : Int))), .ref (q + 1), .int (iI pl), .int (iI ((Bn : Int))), .ref (q + 2), .ref (q + 3), .ref (q + 4), .ref (q + 5)])), (q + 1, .inl (kI K, 10, .inl (iA le))), (q + 2, .inl (kI K, 10, .inl (iA bo1))), (q + 3, .inl (kI K, 10, .inl (iA (ut fr b ((fr b) - (le p0 + cu)))))), (q + 4, .inl (kI K, 10, .inl (iA lo))), (q + 5, .inl (kI K, 10, .inl (iA sl)))] H := hP
                  have hD : va_D A [(q, .inr (3, [.int (iI bl), .int (iI cu), .int (iI ((Pn : Int))), .ref (q + 1), .int (iI pl), .int (iI ((Bn : Int))), .ref (q + 2), .ref (q + 3), .ref (q + 4), .ref (q + 5)])), (q + 1, .inl (kI K, 10, .inl (iA le))), (q + 2, .inl (kI K, 10, .inl (iA bo1))), (q + 3, .inl (kI K, 10, .inl (iA (ut fr b ((fr b) - (le p0 + cu)))))), (q + 4, .inl (kI K, 10, .inl (iA lo))), (q + 5, .inl (kI K, 10, .inl (iA sl)))] := hD
                  refine lv_aload_n hx hb dA_placeFrom_81 rfl (lv_at hl 0 rfl) ?_
                  refine va_get (D := kD K) (ci := 3) (v := .ref (q + 2)) (C := RA) (T := FA) (N := 10) hx hb hts jnA hown hK hP 0 rfl rfl 6 (by decide) (hts _ mt_99) (fun _ h9 => h9) rfl dA_placeFrom_82 ?_
                  refine lv_iload_n hx hb dA_placeFrom_85 rfl (lv_at hl 1 rfl) ?_
                  refine lv_iload_n hx hb dA_placeFrom_86 rfl (lv_at hl 3 rfl) ?_
                  refine iz_iast hx hb hK hP hD hS 2 rfl p0 rfl (by omega) (by omega) dA_placeFrom_87 (fun H locs hP hD hS => ?_)
                  have hP : va_P (kD K) vcl [(q, .inr (3, [.int (iI bl), .int (iI cu), .int (iI ((Pn : Int))), .ref (q + 1), .int (iI pl), .int (iI ((Bn : Int))), .ref (q + 2), .ref (q + 3), .ref (q + 4), .ref (q + 5)])), (q + 1, .inl (kI K, 10, .inl (iA le))), (q + 2, .inl (kI K, 10, .inl (iA (ut bo1 p0 ((b : Int)))))), (q + 3, .inl (kI K, 10, .inl (iA (ut fr b ((fr b) - (le p0 + cu)))))), (q + 4, .inl (kI K, 10, .inl (iA lo))), (q + 5, .inl (kI K, 10, .inl (iA sl)))] H := hP
                  have hD : va_D A [(q, .inr (3, [.int (iI bl), .int (iI cu), .int (iI ((Pn : Int))), .ref (q + 1), .int (iI pl), .int (iI ((Bn : Int))), .ref (q + 2), .ref (q + 3), .ref (q + 4), .ref (q + 5)])), (q + 1, .inl (kI K, 10, .inl (iA le))), (q + 2, .inl (kI K, 10, .inl (iA (ut bo1 p0 ((b : Int)))))), (q + 3, .inl (kI K, 10, .inl (iA (ut fr b ((fr b) - (le p0 + cu)))))), (q + 4, .inl (kI K, 10, .inl (iA lo))), (q + 5, .inl (kI K, 10, .inl (iA sl)))] := hD
                  refine lv_aload_n hx hb dA_placeFrom_88 rfl (lv_at hl 0 rfl) ?_
                  refine lv_iload_n hx hb dA_placeFrom_89 rfl (lv_at hl 1 rfl) ?_
                  refine iz_iconst hx hb dA_placeFrom_90 ?_
                  refine iz_iadd hx hb dA_placeFrom_91 ?_
                  refine ctV (n := 1) hx hb hml hown hT ⟨ih (p0 + 1) (by omega) (ut bo1 p0 b) (ut fr b (fr b - (le p0 + cu))) (fun x hx9 => by by_cases e : x = b; subst e; rw [ut_s]; omega; rw [ut_n _ _ e]; exact hfr x hx9), ⟨_, _, _, Or.inl ⟨rfl, rfl⟩⟩, mt_292, mt_4, by decide, by decide +kernel, by show 2 + d + 1 ≤ 2 + (d + 1); omega, by show 8 + (4 + 11) + (60 + 40 * d) ≤ 60 + 40 * (d + 1); omega, Nat.le_of_ble_eq_true rfl, Nat.le_of_ble_eq_true rfl⟩ PC.blind mt_289 mt_291 ms_11 (va_RVof (ci := 3) (q0 := 0) hK hP rfl rfl) (As := [.int (iI (((p0 : Int)) + 1))]) (rest := []) rfl (PC.at ⟨hT, hK⟩ hP) hl.1 rfl (Nat.le_of_ble_eq_true rfl) dA_placeFrom_92 (krI (c1 := 0) (s1 := 0) rfl rfl (fun r2 t1 H1 L hA hL hpo => ?_))
                  obtain ⟨fr2, bo2, hR, hP⟩ := hpo
                  have hS := hA.S hS (fun x hx => by rw [hAe]; exact hx) hL
                  have hD : va_D A [(q, .inr (3, [.int (iI bl), .int (iI cu), .int (iI ((Pn : Int))), .ref (q + 1), .int (iI pl), .int (iI ((Bn : Int))), .ref (q + 2), .ref (q + 3), .ref (q + 4), .ref (q + 5)])), (q + 1, .inl (kI K, 10, .inl (iA le))), (q + 2, .inl (kI K, 10, .inl (iA bo2))), (q + 3, .inl (kI K, 10, .inl (iA fr2))), (q + 4, .inl (kI K, 10, .inl (iA lo))), (q + 5, .inl (kI K, 10, .inl (iA sl)))] := by rw [hAe]; exact va_D_of (by simp) (by simp <;> omega)
                  have hP : va_P (kD K) vcl [(q, .inr (3, [.int (iI bl), .int (iI cu), .int (iI ((Pn : Int))), .ref (q + 1), .int (iI pl), .int (iI ((Bn : Int))), .ref (q + 2), .ref (q + 3), .ref (q + 4), .ref (q + 5)])), (q + 1, .inl (kI K, 10, .inl (iA le))), (q + 2, .inl (kI K, 10, .inl (iA bo2))), (q + 3, .inl (kI K, 10, .inl (iA fr2))), (q + 4, .inl (kI K, 10, .inl (iA lo))), (q + 5, .inl (kI K, 10, .inl (iA sl)))] H1 := hP
                  generalize H1 = H at hP hS ⊢
                  refine iz_if_eq (tgt := 100) hx hb (by rcases hR with ⟨rfl, -⟩ | ⟨rfl, -⟩ <;> exact ⟨by omega, by omega⟩) dA_placeFrom_95 (by decide) (fun g6 => ?_) (fun g6 => ?_)
                  · obtain ⟨hne, e2, hb2⟩ : (¬ ∃ a, pl_X (swz le cu) Bn a (p0 + 1) d (ut fr b (fr b - swz le cu p0))) ∧ fr2 = ut fr b (fr b - (le p0 + cu)) ∧ ∀ i, i < p0 + 1 → bo2 i = ut bo1 p0 b i := by
                      rcases hR with ⟨h, -⟩ | ⟨-, h3, h4, h5⟩
                      · exact absurd (h.symm.trans g6) (by omega)
                      · exact ⟨h3, h4, h5⟩
                    refine lv_aload_n hx hb dA_placeFrom_100 rfl (lv_at hl 0 rfl) ?_
                    refine va_get (D := kD K) (ci := 3) (v := .ref (q + 3)) (C := RA) (T := FA) (N := 10) hx hb hts jnA hown hK hP 0 rfl rfl 7 (by decide) (hts _ mt_101) (fun _ h9 => h9) rfl dA_placeFrom_101 ?_
                    refine lv_iload_n hx hb dA_placeFrom_104 rfl (lv_at hl 3 rfl) ?_
                    refine lv_dup2_11 hx hb dA_placeFrom_105 rfl rfl ?_
                    refine iz_iald hx hb hK hP 3 rfl b rfl (by omega) (by omega) dA_placeFrom_106 ?_
                    refine lv_iload_n hx hb dA_placeFrom_107 rfl (lv_at hl 2 rfl) ?_
                    refine iz_iadd hx hb dA_placeFrom_108 ?_
                    refine iz_iast hx hb hK hP hD hS 3 rfl b rfl (by omega) (by omega) dA_placeFrom_109 (fun H locs hP hD hS => ?_)
                    have hP : va_P (kD K) vcl [(q, .inr (3, [.int (iI bl), .int (iI cu), .int (iI ((Pn : Int))), .ref (q + 1), .int (iI pl), .int (iI ((Bn : Int))), .ref (q + 2), .ref (q + 3), .ref (q + 4), .ref (q + 5)])), (q + 1, .inl (kI K, 10, .inl (iA le))), (q + 2, .inl (kI K, 10, .inl (iA bo2))), (q + 3, .inl (kI K, 10, .inl (iA (ut fr2 b ((fr2 b) + (le p0 + cu)))))), (q + 4, .inl (kI K, 10, .inl (iA lo))), (q + 5, .inl (kI K, 10, .inl (iA sl)))] H := hP
                    have hD : va_D A [(q, .inr (3, [.int (iI bl), .int (iI cu), .int (iI ((Pn : Int))), .ref (q + 1), .int (iI pl), .int (iI ((Bn : Int))), .ref (q + 2), .ref (q + 3), .ref (q + 4), .ref (q + 5)])), (q + 1, .inl (kI K, 10, .inl (iA le))), (q + 2, .inl (kI K, 10, .inl (iA bo2))), (q + 3, .inl (kI K, 10, .inl (iA (ut fr2 b ((fr2 b) + (le p0 + cu)))))), (q + 4, .inl (kI K, 10, .inl (iA lo))), (q + 5, .inl (kI K, 10, .inl (iA sl)))] := hD
                    have e3 : ut fr2 b (fr2 b + (le p0 + cu)) = fr := by rw [e2, ut_ut, ut_s]; exact ut_id fr b (by omega)
                    rw [e3] at hP hD
                    refine iz_iinc (k := 3) (lv' := [(3, .int (iI ((b : Int) + 1))), (0, .ref q), (1, .int (iI ((p0 : Int)))), (2, .int (iI (le p0 + cu)))]) hx hb dA_placeFrom_110 hl rfl (by decide) rfl (fun ls hl => ?_)
                    refine lv_goto (tgt := 45) hx hb dA_placeFrom_113 (by decide) ?_
                    exact ihj (b + 1) (by omega) (by omega) bo2 (fun i hi => by rw [hb2 i (by omega), ut_n _ _ (show i ≠ p0 by omega)]; exact hbo i hi) (fun b' hb' => by by_cases e : b' = b; subst e; exact (fun h => hne h.2); exact hno b' (by omega)) H _ hP hD hS ls (lv_sub hl [1, 2, 3, 0] rfl)
                  · have e1 : r2 = 1 := by rcases hR with ⟨h, -⟩ | ⟨h, -⟩; exact h; exact absurd h g6
                    subst e1
                    refine iz_iconst hx hb dA_placeFrom_98 ?_
                    rw [hQ]
                    exact iz_zret hx hb hr hlocks (Or.inr rfl) (⟨fr2, bo2, pl_R_ba hbo (pl_R_yes (by omega) (show le p0 + cu ≤ fr b by omega) hno hR), hP⟩) hS.2.2 dA_placeFrom_99
        refine iz_iconst hx hb dA_placeFrom_43 ?_
        refine lv_istore_n (lv' := [(3, .int (iI 0)), (2, .int (iI ((le p0) + cu))), (0, .ref q), (1, .int (iI ((p0 : Int))))]) hx hb dA_placeFrom_44 rfl hl (by decide) rfl (fun ls hl => ?_)
        exact loop (Bn + 1) 0 (by omega) (by omega) bo (fun _ _ => rfl) (fun b' hb' => absurd hb' (by omega)) s.heap [] hP hD hS ls (lv_sub hl [2, 3, 1, 0] rfl)
      · refine iz_iconst hx hb dA_placeFrom_29 ?_
        rw [hQ]
        exact iz_zret hx hb hr hlocks (Or.inl rfl) (⟨fr, bo, pl_R_no (fun ⟨a9, ha9⟩ => by have h9 := pl_load (s := sl p0) (d + 1) p0 fr (fun i h1 h2 => hsk i h1 (by omega)) (fun x hx9 => (hfr x hx9).1) ha9; rw [show Pn - p0 = d + 1 by omega] at hlo; omega), hP⟩) hS.2.2 dA_placeFrom_30
    · exact absurd g1 (by omega)
abbrev rmA_placeAll : Room := { frames := 13, cells := 0, slots := 0, locals := 500 }
set_option maxHeartbeats 4000000 in
set_option maxRecDepth 100000 in
/-- Saw.placeAll() -/
theorem c_A_placeAll (l : Launch) (K : KG) (q : Nat) (bl cu : Int) (Pn : Nat) (le : Nat → Int) (pl : Int) (Bn : Nat) (bo fr lo sl : Nat → Int) (hB9 : SwB bl cu Pn le) (hBn : Bn ≤ 10) (hL9 : SwL Pn 0 (swz le cu) lo sl) : Ct l yA_placeAll kA_placeAll rmA_placeAll (PC K [.ref q] (fun H => va_P (kD K) vcl (saW K q bl cu Pn le pl Bn bo fr lo sl) H)) (QI (fun r H => ∃ fr' bo' : Nat → Int, pl_R (swz le cu) Bn 0 Pn (fun _ => bl + cu) bo r fr' bo' ∧ va_P (kD K) vcl (saW K q bl cu Pn le pl Bn bo' fr' lo sl) H)) (fun x => q ≤ x ∧ x < q + 6) := by
  refine ct_of (by decide) (Or.inl ⟨rfl, rfl⟩) ?_
  intro p e s m args below meth c B0 hP0
  obtain ⟨hx, hb, hr, hml, hown, hlocks, hnm, htab⟩ := B0
  obtain ⟨ha, ⟨hT, hK⟩, hB⟩ := hP0
  have hl := lv_entry ([.ref q]) (n := 1) (Nat.le_of_ble_eq_true rfl)
  obtain ⟨Q, hQ⟩ : ∃ Q, Q = XQ below (QI (fun r H => ∃ fr' bo' : Nat → Int, pl_R (swz le cu) Bn 0 Pn (fun _ => bl + cu) bo r fr' bo' ∧ va_P (kD K) vcl (saW K q bl cu Pn le pl Bn bo' fr' lo sl) H)) args s rmA_placeAll.cells rmA_placeAll.slots (fun x => q ≤ x ∧ x < q + 6) := ⟨_, rfl⟩
  rw [← hQ, ha, lg_entry_eq]
  rw [ha] at hQ
  generalize (lg_sl ([.ref q]) ++ List.replicate (1 - (lg_sl ([.ref q])).length) Slot.unset).toArray = ls at hl ⊢
  generalize ([.ref q] : List Value).toArray = args at hQ ⊢
  have hts : ∀ w ∈ TW, w.before args s = true := fun w h => hT w h args
  have hl : lv_has ls 1 [(0, .ref q)] := hl
  obtain ⟨A, hAe⟩ : ∃ A : Addr → Prop, A = (fun x => q ≤ x ∧ x < q + 6) := ⟨_, rfl⟩
  rw [← hAe] at hQ
  have hS : va_S A s.heap s.heap [] := va_S.rf
  have hP : va_P (kD K) vcl [(q, .inr (3, [.int (iI bl), .int (iI cu), .int (iI ((Pn : Int))), .ref (q + 1), .int (iI pl), .int (iI ((Bn : Int))), .ref (q + 2), .ref (q + 3), .ref (q + 4), .ref (q + 5)])), (q + 1, .inl (kI K, 10, .inl (iA le))), (q + 2, .inl (kI K, 10, .inl (iA bo))), (q + 3, .inl (kI K, 10, .inl (iA fr))), (q + 4, .inl (kI K, 10, .inl (iA lo))), (q + 5, .inl (kI K, 10, .inl (iA sl)))] s.heap := hB
  have hD : va_D A [(q, .inr (3, [.int (iI bl), .int (iI cu), .int (iI ((Pn : Int))), .ref (q + 1), .int (iI pl), .int (iI ((Bn : Int))), .ref (q + 2), .ref (q + 3), .ref (q + 4), .ref (q + 5)])), (q + 1, .inl (kI K, 10, .inl (iA le))), (q + 2, .inl (kI K, 10, .inl (iA bo))), (q + 3, .inl (kI K, 10, .inl (iA fr))), (q + 4, .inl (kI K, 10, .inl (iA lo))), (q + 5, .inl (kI K, 10, .inl (iA sl)))] := by rw [hAe]; exact va_D_of (by simp) (by simp <;> omega)
  obtain ⟨hbl, hcu, hP10, hle⟩ := id hB9
  refine lv_aload_n hx hb dA_placeAll_0 rfl (lv_at hl 0 rfl) ?_
  refine va_get (D := kD K) (ci := 3) (v := .ref (q + 3)) (C := RA) (T := FA) (N := 10) hx hb hts jnA hown hK hP 0 rfl rfl 7 (by decide) (hts _ mt_101) (fun _ h9 => h9) rfl dA_placeAll_1 ?_
  refine lv_aload_n hx hb dA_placeAll_4 rfl (lv_at hl 0 rfl) ?_
  refine va_get (D := kD K) (ci := 3) (v := .int (iI bl)) (C := RA) (T := FA) (N := 10) hx hb hts jnA hown hK hP 0 rfl rfl 0 (by decide) (hts _ mt_90) (fun _ h9 => h9) rfl dA_placeAll_5 ?_
  refine lv_aload_n hx hb dA_placeAll_8 rfl (lv_at hl 0 rfl) ?_
  refine va_get (D := kD K) (ci := 3) (v := .int (iI cu)) (C := RA) (T := FA) (N := 10) hx hb hts jnA hown hK hP 0 rfl rfl 1 (by decide) (hts _ mt_92) (fun _ h9 => h9) rfl dA_placeAll_9 ?_
  refine iz_iadd hx hb dA_placeAll_12 ?_
  refine ctS (n := 2) hx hb hml hown hT ⟨c_Y_fill l K (q + 3) 10 fr (bl + cu) (by omega), ⟨_, _, _, Or.inl ⟨rfl, rfl⟩⟩, mt_247, mt_12, by decide, by decide +kernel, by decide, by decide, by decide, by decide⟩ PC.blind mt_288 mt_246 (As := [.ref (q + 3), .int (iI (bl + cu))]) (rest := []) rfl (PC.at ⟨hT, hK⟩ (hP.sub (ws' := [(q + 3, .inl (kI K, 10, .inl (iA fr)))]) [3] rfl)) hl.1 rfl (Nat.le_of_ble_eq_true rfl) dA_placeAll_13 (krV (c1 := 0) (s1 := 0) rfl rfl (fun t1 H1 L hA hL hpo => ?_))
  have hP5 := va_P_arr (k := 0) hpo rfl (g := fun _ => bl + cu) (fun j hj => by simp [flz, hj])
  have hPr := hA.P (hP.sub (ws' := [(q, .inr (3, [.int (iI bl), .int (iI cu), .int (iI ((Pn : Int))), .ref (q + 1), .int (iI pl), .int (iI ((Bn : Int))), .ref (q + 2), .ref (q + 3), .ref (q + 4), .ref (q + 5)])), (q + 1, .inl (kI K, 10, .inl (iA le))), (q + 2, .inl (kI K, 10, .inl (iA bo))), (q + 4, .inl (kI K, 10, .inl (iA lo))), (q + 5, .inl (kI K, 10, .inl (iA sl)))]) [0, 1, 2, 4, 5] rfl) (fun k x hk => by
    have hx9 := List.mem_of_getElem? hk
    simp at hx9
    rcases hx9 with rfl | rfl | rfl | rfl | rfl <;> (show ¬ (_ = q + 3)) <;> omega)
  have hP : va_P (kD K) vcl [(q, .inr (3, [.int (iI bl), .int (iI cu), .int (iI ((Pn : Int))), .ref (q + 1), .int (iI pl), .int (iI ((Bn : Int))), .ref (q + 2), .ref (q + 3), .ref (q + 4), .ref (q + 5)])), (q + 1, .inl (kI K, 10, .inl (iA le))), (q + 2, .inl (kI K, 10, .inl (iA bo))), (q + 3, .inl (kI K, 10, .inl (iA (fun _ => bl + cu)))), (q + 4, .inl (kI K, 10, .inl (iA lo))), (q + 5, .inl (kI K, 10, .inl (iA sl)))] H1 := by
    have h9 := hPr.app hP5
    exact h9.sub [0, 1, 2, 5, 3, 4] rfl
  have hS := hA.S hS (fun x hx => by rw [hAe]; have hx : x = q + 3 := hx; subst hx; exact ⟨Nat.le_add_right _ _, Nat.add_lt_add_left (by decide) _⟩) hL
  refine lv_aload_n hx hb dA_placeAll_16 rfl (lv_at hl 0 rfl) ?_
  refine iz_iconst hx hb dA_placeAll_17 ?_
  refine ctV (n := 1) hx hb hml hown hT ⟨c_A_placeFrom l K q bl cu Pn le pl Bn lo sl hB9 hBn hL9 Pn 0 (by omega) bo (fun _ => bl + cu) (fun b hb9 => by constructor <;> omega), ⟨_, _, _, Or.inl ⟨rfl, rfl⟩⟩, mt_292, mt_4, by decide, by decide +kernel, by show 2 + Pn + 1 ≤ 13; omega, by show 8 + (4 + 11) + (60 + 40 * Pn) ≤ 500; omega, Nat.le_of_ble_eq_true rfl, Nat.le_of_ble_eq_true rfl⟩ PC.blind mt_289 mt_291 ms_11 (va_RVof (ci := 3) (q0 := 0) hK hP rfl rfl) (As := [.int (iI 0)]) (rest := []) rfl (PC.at ⟨hT, hK⟩ hP) hl.1 rfl (Nat.le_of_ble_eq_true rfl) dA_placeAll_18 (krI (c1 := 0) (s1 := 0) rfl rfl (fun r2 t2 H2 L2 hA2 hL2 hpo2 => ?_))
  have hS := hA2.S hS (fun x hx => by rw [hAe]; exact hx) hL2
  rw [hQ]
  exact iz_zret hx hb hr hlocks (by obtain ⟨fr', bo', hR, -⟩ := hpo2; rcases hR with ⟨h, -⟩ | ⟨h, -⟩; exact Or.inr h; exact Or.inl h) (hpo2) hS.2.2 dA_placeAll_21
/-- the plan: the fewest bars, the first choice, what is free then, who is where -/
def SwF (bl cu : Int) (Pn : Nat) (le : Nat → Int) (Bn : Nat) (bo fr : Nat → Int) : Prop := ∃ a, pl_X (swz le cu) Bn a 0 Pn (fun _ => bl + cu) ∧ (∀ a', pl_X (swz le cu) Bn a' 0 Pn (fun _ => bl + cu) → pl_lx a a' 0 Pn) ∧ (∀ B', B' < Bn → ¬ ∃ a, pl_X (swz le cu) B' a 0 Pn (fun _ => bl + cu)) ∧ fr = pl_fr (swz le cu) a 0 Pn (fun _ => bl + cu) ∧ ∀ i, i < Pn → bo i = a i
def SwI (bl cu : Int) (Pn : Nat) (le : Nat → Int) (pl : Int) (Bn : Nat) (bo fr : Nat → Int) : Prop := SwB bl cu Pn le ∧ (pl = 0 ∨ (pl = 1 ∧ Bn ≤ Pn ∧ SwF bl cu Pn le Bn bo fr))
abbrev rmA_makePlan : Room := { frames := 14, cells := 0, slots := 0, locals := 600 }
set_option maxHeartbeats 4000000 in
set_option maxRecDepth 100000 in
/-- Saw.makePlan() -/
theorem c_A_makePlan (l : Launch) (K : KG) (q : Nat) (bl cu : Int) (Pn : Nat) (le : Nat → Int) (pl : Int) (Bn : Nat) (bo fr lo sl : Nat → Int) (hI : SwI bl cu Pn le pl Bn bo fr) : Ct l yA_makePlan kA_makePlan rmA_makePlan (PC K [.ref q] (fun H => va_P (kD K) vcl (saW K q bl cu Pn le pl Bn bo fr lo sl) H)) (QV (fun H => ∃ (Bn' : Nat) (bo' fr' lo' sl' : Nat → Int), Bn' ≤ Pn ∧ SwF bl cu Pn le Bn' bo' fr' ∧ va_P (kD K) vcl (saW K q bl cu Pn le 1 Bn' bo' fr' lo' sl') H)) (fun x => q ≤ x ∧ x < q + 6) := by
  refine ct_of (by decide) (Or.inl ⟨rfl, rfl⟩) ?_
  intro p e s m args below meth c B0 hP0
  obtain ⟨hx, hb, hr, hml, hown, hlocks, hnm, htab⟩ := B0
  obtain ⟨ha, ⟨hT, hK⟩, hB⟩ := hP0
  have hl := lv_entry ([.ref q]) (n := 1) (Nat.le_of_ble_eq_true rfl)
  obtain ⟨Q, hQ⟩ : ∃ Q, Q = XQ below (QV (fun H => ∃ (Bn' : Nat) (bo' fr' lo' sl' : Nat → Int), Bn' ≤ Pn ∧ SwF bl cu Pn le Bn' bo' fr' ∧ va_P (kD K) vcl (saW K q bl cu Pn le 1 Bn' bo' fr' lo' sl') H)) args s rmA_makePlan.cells rmA_makePlan.slots (fun x => q ≤ x ∧ x < q + 6) := ⟨_, rfl⟩
  rw [← hQ, ha, lg_entry_eq]
  rw [ha] at hQ
  generalize (lg_sl ([.ref q]) ++ List.replicate (1 - (lg_sl ([.ref q])).length) Slot.unset).toArray = ls at hl ⊢
  generalize ([.ref q] : List Value).toArray = args at hQ ⊢
  have hts : ∀ w ∈ TW, w.before args s = true := fun w h => hT w h args
  have hl : lv_has ls 1 [(0, .ref q)] := hl
  obtain ⟨A, hAe⟩ : ∃ A : Addr → Prop, A = (fun x => q ≤ x ∧ x < q + 6) := ⟨_, rfl⟩
  rw [← hAe] at hQ
  have hS : va_S A s.heap s.heap [] := va_S.rf
  have hP : va_P (kD K) vcl [(q, .inr (3, [.int (iI bl), .int (iI cu), .int (iI ((Pn : Int))), .ref (q + 1), .int (iI pl), .int (iI ((Bn : Int))), .ref (q + 2), .ref (q + 3), .ref (q + 4), .ref (q + 5)])), (q + 1, .inl (kI K, 10, .inl (iA le))), (q + 2, .inl (kI K, 10, .inl (iA bo))), (q + 3, .inl (kI K, 10, .inl (iA fr))), (q + 4, .inl (kI K, 10, .inl (iA lo))), (q + 5, .inl (kI K, 10, .inl (iA sl)))] s.heap := hB
  have hD : va_D A [(q, .inr (3, [.int (iI bl), .int (iI cu), .int (iI ((Pn : Int))), .ref (q + 1), .int (iI pl), .int (iI ((Bn : Int))), .ref (q + 2), .ref (q + 3), .ref (q + 4), .ref (q + 5)])), (q + 1, .inl (kI K, 10, .inl (iA le))), (q + 2, .inl (kI K, 10, .inl (iA bo))), (q + 3, .inl (kI K, 10, .inl (iA fr))), (q + 4, .inl (kI K, 10, .inl (iA lo))), (q + 5, .inl (kI K, 10, .inl (iA sl)))] := by rw [hAe]; exact va_D_of (by simp) (by simp <;> omega)
  obtain ⟨hB9, hpl⟩ := hI
  obtain ⟨hbl, hcu, hP10, hle⟩ := id hB9
  refine lv_aload_n hx hb dA_makePlan_0 rfl (lv_at hl 0 rfl) ?_
  refine va_get (D := kD K) (ci := 3) (v := .int (iI pl)) (C := RA) (T := FA) (N := 10) hx hb hts jnA hown hK hP 0 rfl rfl 4 (by decide) (hts _ mt_96) (fun _ h9 => h9) rfl dA_makePlan_1 ?_
  refine iz_if_eq (tgt := 8) hx hb (by rcases hpl with h | ⟨h, -⟩ <;> exact ⟨by omega, by omega⟩) dA_makePlan_4 (by decide) (fun g1 => ?_) (fun g1 => ?_)
  · refine lv_aload_n hx hb dA_makePlan_8 rfl (lv_at hl 0 rfl) ?_
    refine iz_iconst hx hb dA_makePlan_9 ?_
    refine va_put (D := kD K) (ci := 3) (v := .int (iI 1)) (ty := .boolean) (C := RA) (T := FA) (N := 10) hx hb hts jnA tA tA_ok nA hown hK hP hD hS 0 rfl rfl 4 (by decide) (hts _ mt_96) (fun _ h9 => h9) rfl (by decide +kernel) rfl rfl (Nat.le_of_ble_eq_true rfl) dA_makePlan_10 (fun H locs hP hD hS => ?_)
    have hP : va_P (kD K) vcl [(q, .inr (3, [.int (iI bl), .int (iI cu), .int (iI ((Pn : Int))), .ref (q + 1), .int (iI 1), .int (iI ((Bn : Int))), .ref (q + 2), .ref (q + 3), .ref (q + 4), .ref (q + 5)])), (q + 1, .inl (kI K, 10, .inl (iA le))), (q + 2, .inl (kI K, 10, .inl (iA bo))), (q + 3, .inl (kI K, 10, .inl (iA fr))), (q + 4, .inl (kI K, 10, .inl (iA lo))), (q + 5, .inl (kI K, 10, .inl (iA sl)))] H := hP
    have hD : va_D A [(q, .inr (3, [.int (iI bl), .int (iI cu), .int (iI ((Pn : Int))), .ref (q + 1), .int (iI 1), .int (iI ((Bn : Int))), .ref (q + 2), .ref (q + 3), .ref (q + 4), .ref (q + 5)])), (q + 1, .inl (kI K, 10, .inl (iA le))), (q + 2, .inl (kI K, 10, .inl (iA bo))), (q + 3, .inl (kI K, 10, .inl (iA fr))), (q + 4, .inl (kI K, 10, .inl (iA lo))), (q + 5, .inl (kI K, 10, .inl (iA sl)))] := hD
    refine lv_aload_n hx hb dA_makePlan_13 rfl (lv_at hl 0 rfl) ?_
    refine ctV (n := 0) hx hb hml hown hT ⟨c_A_sum l K q bl cu Pn le 1 Bn bo fr lo sl hB9, ⟨_, _, _, Or.inl ⟨rfl, rfl⟩⟩, mt_280, mt_4, by decide, by decide +kernel, by decide, by decide, by decide, by decide⟩ PC.blind mt_277 mt_279 ms_9 (va_RVof (ci := 3) (q0 := 0) hK hP rfl rfl) (As := []) (rest := []) rfl (PC.at ⟨hT, hK⟩ hP) hl.1 rfl (Nat.le_of_ble_eq_true rfl) dA_makePlan_14 (krV (c1 := 0) (s1 := 0) rfl rfl (fun t1 H1 L hA hL hpo => ?_))
    obtain ⟨lo1, sl1, hL9, hP⟩ := hpo
    have hS := hA.S hS (fun x hx => by rw [hAe]; exact hx) hL
    have hP : va_P (kD K) vcl [(q, .inr (3, [.int (iI bl), .int (iI cu), .int (iI ((Pn : Int))), .ref (q + 1), .int (iI 1), .int (iI ((Bn : Int))), .ref (q + 2), .ref (q + 3), .ref (q + 4), .ref (q + 5)])), (q + 1, .inl (kI K, 10, .inl (iA le))), (q + 2, .inl (kI K, 10, .inl (iA bo))), (q + 3, .inl (kI K, 10, .inl (iA fr))), (q + 4, .inl (kI K, 10, .inl (iA lo1))), (q + 5, .inl (kI K, 10, .inl (iA sl1)))] H1 := hP
    have hD : va_D A [(q, .inr (3, [.int (iI bl), .int (iI cu), .int (iI ((Pn : Int))), .ref (q + 1), .int (iI 1), .int (iI ((Bn : Int))), .ref (q + 2), .ref (q + 3), .ref (q + 4), .ref (q + 5)])), (q + 1, .inl (kI K, 10, .inl (iA le))), (q + 2, .inl (kI K, 10, .inl (iA bo))), (q + 3, .inl (kI K, 10, .inl (iA fr))), (q + 4, .inl (kI K, 10, .inl (iA lo1))), (q + 5, .inl (kI K, 10, .inl (iA sl1)))] := by rw [hAe]; exact va_D_of (by simp) (by simp <;> omega)
    generalize H1 = H at hP hS ⊢
    generalize (_ ++ L) = locs at hS ⊢
    refine lv_aload_n hx hb dA_makePlan_17 rfl (lv_at hl 0 rfl) ?_
    refine iz_iconst hx hb dA_makePlan_18 ?_
    refine va_put (D := kD K) (ci := 3) (v := .int (iI 0)) (ty := .int) (C := RA) (T := FA) (N := 10) hx hb hts jnA tA tA_ok nA hown hK hP hD hS 0 rfl rfl 5 (by decide) (hts _ mt_97) (fun _ h9 => h9) rfl (by decide +kernel) rfl rfl (Nat.le_of_ble_eq_true rfl) dA_makePlan_19 (fun H locs hP hD hS => ?_)
    have hP : va_P (kD K) vcl [(q, .inr (3, [.int (iI bl), .int (iI cu), .int (iI ((Pn : Int))), .ref (q + 1), .int (iI 1), .int (iI 0), .ref (q + 2), .ref (q + 3), .ref (q + 4), .ref (q + 5)])), (q + 1, .inl (kI K, 10, .inl (iA le))), (q + 2, .inl (kI K, 10, .inl (iA bo))), (q + 3, .inl (kI K, 10, .inl (iA fr))), (q + 4, .inl (kI K, 10, .inl (iA lo1))), (q + 5, .inl (kI K, 10, .inl (iA sl1)))] H := hP
    have hD : va_D A [(q, .inr (3, [.int (iI bl), .int (iI cu), .int (iI ((Pn : Int))), .ref (q + 1), .int (iI 1), .int (iI 0), .ref (q + 2), .ref (q + 3), .ref (q + 4), .ref (q + 5)])), (q + 1, .inl (kI K, 10, .inl (iA le))), (q + 2, .inl (kI K, 10, .inl (iA bo))), (q + 3, .inl (kI K, 10, .inl (iA fr))), (q + 4, .inl (kI K, 10, .inl (iA lo1))), (q + 5, .inl (kI K, 10, .inl (iA sl1)))] := hD
    have loop : ∀ (j b : Nat), Pn + 1 ≤ b + j → b ≤ Pn → ∀ (bo1 fr1 : Nat → Int), (∀ B', B' < b → ¬ ∃ a, pl_X (swz le cu) B' a 0 Pn (fun _ => bl + cu)) → ∀ (H : Heap) (locs : List Loc), va_P (kD K) vcl [(q, .inr (3, [.int (iI bl), .int (iI cu), .int (iI ((Pn : Int))), .ref (q + 1), .int (iI 1), .int (iI ((b : Int))), .ref (q + 2), .ref (q + 3), .ref (q + 4), .ref (q + 5)])), (q + 1, .inl (kI K, 10, .inl (iA le))), (q + 2, .inl (kI K, 10, .inl (iA bo1))), (q + 3, .inl (kI K, 10, .inl (iA fr1))), (q + 4, .inl (kI K, 10, .inl (iA lo1))), (q + 5, .inl (kI K, 10, .inl (iA sl1)))] H → va_D A [(q, .inr (3, [.int (iI bl), .int (iI cu), .int (iI ((Pn : Int))), .ref (q + 1), .int (iI 1), .int (iI ((b : Int))), .ref (q + 2), .ref (q + 3), .ref (q + 4), .ref (q + 5)])), (q + 1, .inl (kI K, 10, .inl (iA le))), (q + 2, .inl (kI K, 10, .inl (iA bo1))), (q + 3, .inl (kI K, 10, .inl (iA fr1))), (q + 4, .inl (kI K, 10, .inl (iA lo1))), (q + 5, .inl (kI K, 10, .inl (iA sl1)))] → va_S A s.heap H locs → ∀ ls : Array Slot, lv_has ls 1 [(0, .ref q)] → W p l e rmA_makePlan s m args below meth c H locs 0 0 Q (F0 m 22 ls []) := by
      intro j
      induction j with
      | zero => intro b h1 h2; omega
      | succ j ihj =>
        intro b h1 h2 bo1 fr1 hno H locs hP hD hS ls hl
        refine lv_aload_n hx hb dA_makePlan_22 rfl (lv_at hl 0 rfl) ?_
        refine ctV (n := 0) hx hb hml hown hT ⟨c_A_placeAll l K q bl cu Pn le 1 b bo1 fr1 lo1 sl1 hB9 (by omega) hL9, ⟨_, _, _, Or.inl ⟨rfl, rfl⟩⟩, mt_287, mt_4, by decide, by decide +kernel, by decide, by decide, by decide, by decide⟩ PC.blind mt_284 mt_286 ms_10 (va_RVof (ci := 3) (q0 := 0) hK hP rfl rfl) (As := []) (rest := []) rfl (PC.at ⟨hT, hK⟩ hP) hl.1 rfl (Nat.le_of_ble_eq_true rfl) dA_makePlan_23 (krI (c1 := 0) (s1 := 0) rfl rfl (fun r t2 H2 L2 hA2 hL2 hpo => ?_))
        obtain ⟨fr2, bo2, hR, hP⟩ := hpo
        have hS := hA2.S hS (fun x hx => by rw [hAe]; exact hx) hL2
        have hP : va_P (kD K) vcl [(q, .inr (3, [.int (iI bl), .int (iI cu), .int (iI ((Pn : Int))), .ref (q + 1), .int (iI 1), .int (iI ((b : Int))), .ref (q + 2), .ref (q + 3), .ref (q + 4), .ref (q + 5)])), (q + 1, .inl (kI K, 10, .inl (iA le))), (q + 2, .inl (kI K, 10, .inl (iA bo2))), (q + 3, .inl (kI K, 10, .inl (iA fr2))), (q + 4, .inl (kI K, 10, .inl (iA lo1))), (q + 5, .inl (kI K, 10, .inl (iA sl1)))] H2 := hP
        have hD : va_D A [(q, .inr (3, [.int (iI bl), .int (iI cu), .int (iI ((Pn : Int))), .ref (q + 1), .int (iI 1), .int (iI ((b : Int))), .ref (q + 2), .ref (q + 3), .ref (q + 4), .ref (q + 5)])), (q + 1, .inl (kI K, 10, .inl (iA le))), (q + 2, .inl (kI K, 10, .inl (iA bo2))), (q + 3, .inl (kI K, 10, .inl (iA fr2))), (q + 4, .inl (kI K, 10, .inl (iA lo1))), (q + 5, .inl (kI K, 10, .inl (iA sl1)))] := by rw [hAe]; exact va_D_of (by simp) (by simp <;> omega)
        generalize H2 = H at hP hS ⊢
        refine iz_if_ne (tgt := 53) hx hb (by rcases hR with ⟨rfl, -⟩ | ⟨rfl, -⟩ <;> exact ⟨by omega, by omega⟩) dA_makePlan_26 (by decide) (fun g2 => ?_) (fun g2 => ?_)
        · obtain ⟨a9, h3, h4, h5, h6⟩ : ∃ a, pl_X (swz le cu) b a 0 Pn (fun _ => bl + cu) ∧ (∀ a', pl_X (swz le cu) b a' 0 Pn (fun _ => bl + cu) → pl_lx a a' 0 Pn) ∧ fr2 = pl_fr (swz le cu) a 0 Pn (fun _ => bl + cu) ∧ ∀ i, i < 0 + Pn → bo2 i = if 0 ≤ i then (a i : Int) else bo1 i := by
            rcases hR with ⟨-, h⟩ | ⟨h, -⟩
            · exact h
            · exact absurd h g2
          rw [hQ]
          exact iz_vret hx hb hr hlocks (⟨b, bo2, fr2, lo1, sl1, h2, ⟨a9, h3, h4, hno, h5, fun i hi => by rw [h6 i (by omega), if_pos (Nat.zero_le i)]⟩, hP⟩) hS.2.2 dA_makePlan_53
        · have hne : ¬ ∃ a, pl_X (swz le cu) b a 0 Pn (fun _ => bl + cu) := by rcases hR with ⟨h, -⟩ | ⟨-, h, -⟩; exact absurd (h.symm.trans g2) (by omega); exact h
          refine lv_aload_n hx hb dA_makePlan_29 rfl (lv_at hl 0 rfl) ?_
          refine va_get (D := kD K) (ci := 3) (v := .int (iI ((b : Int)))) (C := RA) (T := FA) (N := 10) hx hb hts jnA hown hK hP 0 rfl rfl 5 (by decide) (hts _ mt_97) (fun _ h9 => h9) rfl dA_makePlan_30 ?_
          refine lv_aload_n hx hb dA_makePlan_33 rfl (lv_at hl 0 rfl) ?_
          refine va_get (D := kD K) (ci := 3) (v := .int (iI ((Pn : Int)))) (C := RA) (T := FA) (N := 10) hx hb hts jnA hown hK hP 0 rfl rfl 2 (by decide) (hts _ mt_93) (fun _ h9 => h9) rfl dA_makePlan_34 ?_
          refine iz_icmp_ge (tgt := 53) hx hb ⟨by omega, by omega⟩ ⟨by omega, by omega⟩ dA_makePlan_37 (by decide) (fun g3 => ?_) (fun g3 => ?_)
          · have e9 : b = Pn := by omega
            subst e9
            exact absurd ⟨fun i => i, pl_own b 0 (fun _ => bl + cu) (by omega) (fun i h7 h8 => by have := hle i (by omega); show le i + cu ≤ bl + cu; omega)⟩ hne
          · refine lv_aload_n hx hb dA_makePlan_40 rfl (lv_at hl 0 rfl) ?_
            refine lv_dup hx hb dA_makePlan_41 rfl ?_
            refine va_get (D := kD K) (ci := 3) (v := .int (iI ((b : Int)))) (C := RA) (T := FA) (N := 10) hx hb hts jnA hown hK hP 0 rfl rfl 5 (by decide) (hts _ mt_97) (fun _ h9 => h9) rfl dA_makePlan_42 ?_
            refine iz_iconst hx hb dA_makePlan_45 ?_
            refine iz_iadd hx hb dA_makePlan_46 ?_
            refine va_put (D := kD K) (ci := 3) (v := .int (iI (((b : Int)) + 1))) (ty := .int) (C := RA) (T := FA) (N := 10) hx hb hts jnA tA tA_ok nA hown hK hP hD hS 0 rfl rfl 5 (by decide) (hts _ mt_97) (fun _ h9 => h9) rfl (by decide +kernel) rfl rfl (Nat.le_of_ble_eq_true rfl) dA_makePlan_47 (fun H locs hP hD hS => ?_)
            have hP : va_P (kD K) vcl [(q, .inr (3, [.int (iI bl), .int (iI cu), .int (iI ((Pn : Int))), .ref (q + 1), .int (iI 1), .int (iI (((b : Int)) + 1)), .ref (q + 2), .ref (q + 3), .ref (q + 4), .ref (q + 5)])), (q + 1, .inl (kI K, 10, .inl (iA le))), (q + 2, .inl (kI K, 10, .inl (iA bo2))), (q + 3, .inl (kI K, 10, .inl (iA fr2))), (q + 4, .inl (kI K, 10, .inl (iA lo1))), (q + 5, .inl (kI K, 10, .inl (iA sl1)))] H := hP
            have hD : va_D A [(q, .inr (3, [.int (iI bl), .int (iI cu), .int (iI ((Pn : Int))), .ref (q + 1), .int (iI 1), .int (iI (((b : Int)) + 1)), .ref (q + 2), .ref (q + 3), .ref (q + 4), .ref (q + 5)])), (q + 1, .inl (kI K, 10, .inl (iA le))), (q + 2, .inl (kI K, 10, .inl (iA bo2))), (q + 3, .inl (kI K, 10, .inl (iA fr2))), (q + 4, .inl (kI K, 10, .inl (iA lo1))), (q + 5, .inl (kI K, 10, .inl (iA sl1)))] := hD
            refine lv_goto (tgt := 22) hx hb dA_makePlan_50 (by decide) ?_
            exact ihj (b + 1) (by omega) (by omega) bo2 fr2 (fun B' hB' => by by_cases e : B' = b; subst e; exact hne; exact hno B' (by omega)) H _ hP hD hS ls (lv_sub hl [0] rfl)
    exact loop (Pn + 1) 0 (by omega) (by omega) bo fr (fun B' hB' => absurd hB' (by omega)) H _ hP hD hS ls (lv_sub hl [0] rfl)
  · obtain ⟨e1, h2, h3⟩ : pl = 1 ∧ Bn ≤ Pn ∧ SwF bl cu Pn le Bn bo fr := by rcases hpl with h | h; exact absurd h g1; exact h
    subst e1
    rw [hQ]
    exact iz_vret hx hb hr hlocks (⟨Bn, bo, fr, lo, sl, h2, h3, hP⟩) hS.2.2 dA_makePlan_7
end
section
-- THROWS AND CATCHES
abbrev exA : String := "java/lang/IllegalArgumentException"
abbrev exS : String := "java/lang/IllegalStateException"
abbrev tNm : String := "java/lang/Throwable"
abbrev stD : String := "[Ljava/lang/StackTraceElement;"
abbrev liD : String := "Ljava/util/List;"
/-- a static field of Throwable, in the cell z: it holds a reference or null -/
def SL (n d : String) (z : Nat) (U : State) : Prop := ∃ (c : ClassId) (k : Class) (i : Nat) (f : Field) (cell : Cell) (u : RefV), U.vm.findClass tNm = some c ∧ U.fieldFound? tNm n d = some (c, k, i, f) ∧ f.isStatic = true ∧ k.statics = some z ∧ U.heap[z]? = some cell ∧ cell.vm.isStatics = true ∧ cell.cls = c ∧ f.slot < cell.slots.size ∧ k.staticTypes[f.slot]? = some f.type ∧ cell.slots[f.slot]? = some u.v
theorem SL.warm {n d : String} {z : Nat} {s U : State} (hW : s.WarmedH U.vm) (hh : U.heap[z]? = s.heap[z]?) (h : SL n d z s) : SL n d z U := by
  obtain ⟨c, k, i, f, cell, u, h1, h2, h3, h4, h5, h6, h7, h8, h9, h10⟩ := h
  obtain ⟨k', hi', he⟩ := State.fieldFound?_setVm hW.alike h2
  exact ⟨c, k', i, f, cell, u, by rw [hW.alike.findClass]; exact h1, hi', h3, by rw [he]; exact h4, by rw [hh]; exact h5, h6, h7, h8, by rw [he]; exact h9, h10⟩
theorem SL.lt {n d : String} {z : Nat} {s : State} (h : SL n d z s) : z < s.heap.size := by
  obtain ⟨c, k, i, f, cell, u, h1, h2, h3, h4, h5, h6⟩ := h
  exact (Array.getElem?_eq_some_iff.mp h5).1
theorem SL.lays {n d : String} {z : Nat} {s : State} {args : Array Value} (h : SL n d z s) : (Cond.laysStatic tNm n d).before args s = true := by
  obtain ⟨c, k, i, f, cell, u, h1, h2, h3, h4, h5, h6, h7, h8, h9, h10⟩ := h
  show (Cond.laysStatic tNm n d).holds args s none s [] = true
  exact Cond.laysStatic_of h1 h2 h3 h4 h5 h6 h7 h8 h9
theorem SL.isRef {n d : String} {z : Nat} {s : State} {args : Array Value} (h : SL n d z s) : (Cond.isRef (.static tNm n d)).before args s = true := by
  obtain ⟨c, k, i, f, cell, u, h1, h2, h3, h4, h5, h6, h7, h8, h9, h10⟩ := h
  have he : (Term.static tNm n d).eval args s none [] s = some u.v := by
    simp [Term.eval, State.fieldNamed?, h2, h3, h4, h5, h6, h10]
  obtain ⟨v, hv⟩ := u
  simp only [Cond.before, Cond.holds, Cond.value, he]
  cases v <;> first | rfl | exact absurd hv Bool.false_ne_true | simp
theorem SL.of {n d : String} {s : State} {args : Array Value} (hl : (Cond.laysStatic tNm n d).before args s = true) (hr : (Cond.isRef (.static tNm n d)).before args s = true) : ∃ z, SL n d z s ∧ ∃ c k, s.vm.findClass tNm = some c ∧ s.vm.classes[c]? = some k ∧ k.statics = some z := by
  obtain ⟨c, k, i, f, a, cell, h1, h2, h3, h4, h5, h6, h7, h8, h9⟩ := Cond.laysStatic_spec hl
  obtain ⟨u, hu⟩ := Cond.staticRefV h2 h3 h4 h5 h6 hr
  refine ⟨a, ⟨c, k, i, f, cell, u, h1, h2, h3, h4, h5, h6, h7, h8, h9, hu⟩, c, k, h1, ?_, h4⟩
  exact (State.fieldFound?_spec h2).1
/-- the environment of a method that may throw -/
def EX (K : KG) (z : Nat) (U : State) : Prop := EN K U ∧ SL "UNASSIGNED_STACK" stD z U ∧ SL "SUPPRESSED_SENTINEL" liD z U ∧ va_Nc exS exA U
theorem EX.warm {K : KG} {z : Nat} {s U : State} (hW : s.WarmedH U.vm) (hh : U.heap[z]? = s.heap[z]?) (h : EX K z s) : EX K z U := ⟨h.1.warm hW, h.2.1.warm hW hh, h.2.2.1.warm hW hh, va_Nc.moved hW.alike h.2.2.2⟩
def PX (K : KG) (z : Nat) (av : List Value) (B : Heap → Prop) : Array Value → State → Prop := fun v U => v = av.toArray ∧ EX K z U ∧ B U.heap
theorem PX.blind {K : KG} {z : Nat} {av : List Value} {B : Heap → Prop} : FrameBlind (PX K z av B) := fun a U g mk h => ⟨h.1, h.2.1.warm (show U.WarmedH (U.calling g mk a).vm from State.WarmedH.refl U) rfl, h.2.2⟩
theorem PX.at {K : KG} {z : Nat} {av : List Value} {B : Heap → Prop} {s : State} {H : Heap} (hE : EX K z s) (hz : H[z]? = s.heap[z]?) (hB : B H) : ∀ U : State, U.heap = H → s.WarmedH U.vm → PX K z av B av.toArray U := fun U hU hW => ⟨rfl, hE.warm hW (by rw [hU]; exact hz), by rw [hU]; exact hB⟩
/-- what was thrown: an object of the class E, at x -/
def TX (E : String) (x : Addr) (s : State) (H : Heap) : Prop := ∃ ce : Cell, H[x]? = some ce ∧ ce.vm = .none ∧ s.vm.findClass E = some ce.cls
/-- nothing old has changed -/
def KE (H0 H : Heap) : Prop := H0.size ≤ H.size ∧ ∀ q : Nat, q < H0.size → H[q]? = H0[q]?
theorem KE.trans {H0 H1 H2 : Heap} (h : KE H0 H1) (h' : KE H1 H2) : KE H0 H2 := ⟨Nat.le_trans h.1 h'.1, fun q hq => (h'.2 q (Nat.lt_of_lt_of_le hq h.1)).trans (h.2 q hq)⟩
theorem KE.rf (H : Heap) : KE H H := ⟨Nat.le_refl _, fun _ _ => rfl⟩
theorem KE.P {H0 H : Heap} {D : va_G} {cl : List vw_C} {ws : va_W} (h : KE H0 H) (hP : va_P D cl ws H0) : va_P D cl ws H := hP.kept (fun k q hk => h.2 q.1 ((hP k q hk).lt))
def TH (px : String → Prop) (st : State) (o : Outcome) (t : State) : Prop := ∃ (x : Addr) (E : String), o = .threw x ∧ TX E x t t.heap ∧ KE st.heap t.heap ∧ px E
def QTV (po : Heap → Heap → Prop) (px : String → Prop) : Array Value → State → Outcome → State → Prop := fun _ st o t => (o = .returned none ∧ po st.heap t.heap) ∨ TH px st o t
def QTI (po : Int → Heap → Heap → Prop) (px : String → Prop) : Array Value → State → Outcome → State → Prop := fun _ st o t => (∃ r : Int, o = .returned (some (.int (iI r))) ∧ po r st.heap t.heap) ∨ TH px st o t
def QTL (po : Int → Heap → Heap → Prop) (px : String → Prop) : Array Value → State → Outcome → State → Prop := fun _ st o t => (∃ r : Int, o = .returned (some (.long (lI r))) ∧ po r st.heap t.heap) ∨ TH px st o t
section Thr
variable {p : Program} {l : Launch} {e : Env} {R : Room} {s : State} {m : MethodId} {args : Array Value} {below : List Frame} {meth : Method} {c : Code} {H : Heap} {locs : List Loc} {cells slots : Nat} {Q : State → Prop}
variable {cc : ByteArray} {pc : Nat} {ls : Array Slot} {rest : List Value} {free : Addr → Prop} {Qc : Array Value → State → Outcome → State → Prop}
theorem WX.widen {g : JFrame} {x : Addr} {k n : Nat} (h1 : cells ≤ k) (h2 : slots ≤ n) (kk : WX p l e R s m args below meth c H locs k n Q g x) : WX p l e R s m args below meth c H locs cells slots Q g x := fun T hT X => kk T hT (stand_widen X h1 h2)
/-- the exception goes on to the caller -/
theorem wx_out {x : Addr} (htab : c.exceptionTable.toList.map (fun h => (h.startPc, h.endPc, h.handlerPc, h.catchType)) = []) (hlocks : meth.locks = false) (hq : ∀ t : State, t.heap = H → s.WarmedH t.vm → Qc args s (.threw x) t) (hf : ∀ q ∈ locs, free q.base) :
    WX p l e R s m args below meth c H locs cells slots (XQ below Qc args s cells slots free) (F0 m pc ls rest) x := by
  intro T hT X
  have hn : c.exceptionTable.toList = [] := List.map_eq_nil_iff.mp htab
  obtain ⟨st, hrun, hend, hW, hsm⟩ := X.leaveThrown x (g := F0 m pc ls rest) rfl rfl rfl (fun y hy => by rw [hn] at hy; cases hy) hlocks
  exact ⟨_, st, .threw x, hrun, hend, hq _ hT hW, locs, ⟨hW, hsm⟩, hf⟩
/-- the words of a throw that speak of the heap -/
def SWl : List Cond := [.isRef (.static tNm "UNASSIGNED_STACK" stD), .isRef (.static tNm "SUPPRESSED_SENTINEL" liD), .laysStatic tNm "UNASSIGNED_STACK" stD, .laysStatic tNm "SUPPRESSED_SENTINEL" liD]
set_option maxHeartbeats 4000000 in
/-- 'throw new E("text")' where nothing has been written yet -/
theorem tx_throw {K : KG} {z : Nat} (hx : p.tables.exec = Jvm.exec) (hb : c.code = cc) (htr : l.stackTraces = false) (hE : EX K z s) {own cls text : String} {names : List String} {ik is ic mc ms : Nat}
    (hown : s.vm.findClass own = some m.cls) (hcls : Bundle.fit cls = true) (hnames : ∀ n ∈ names, Bundle.fit n = true) (hat : ∀ w ∈ Bundle.ownAtoms own ic cls names, w ∈ TW ∨ w ∈ SWl)
    (m1 : Cond.classLink own ik cls ∈ TW) (m2 : Cond.initialized cls ∈ TW) (m3 : Cond.stringRef own is text ∈ TW) (hsize : ls.size = c.maxLocals)
    (d0 : decode cc pc = .ok (.new ik, 3)) (d3 : decode cc (pc + 3) = .ok (.dup, 1)) (d4 : decode cc (pc + 4) = .ok (.ldc is, 2)) (d6 : decode cc (pc + 6) = .ok (.invokespecial ic, 3)) (d9 : decode cc (pc + 9) = .ok (.athrow, 1))
    (htab : c.exceptionTable.toList.map (fun h => (h.startPc, h.endPc, h.handlerPc, h.catchType)) = []) (hlocks : meth.locks = false)
    (hRf : names.length + 3 < R.frames) (hRl : (rest.map fun v => v.category).sum + (13 * (names.length + 1) + 43) ≤ R.locals) (hRc : cells + 1 ≤ R.cells) (hRs : slots + 6 ≤ R.slots) (hc : cells + 1 ≤ mc) (hs : slots + 6 ≤ ms)
    (hq : ∀ (x : Addr) (t : State), s.WarmedH t.vm → TX cls x t t.heap → KE s.heap t.heap → Qc args s (.threw x) t) :
    W p l e R s m args below meth c s.heap [] cells slots (XQ below Qc args s mc ms free) (F0 m pc ls rest) := by
  intro T hT X
  have hn : c.exceptionTable.toList = [] := List.map_eq_nil_iff.mp htab
  have htr' : e.platform.stackTraces = false := (show e.platform.stackTraces = l.stackTraces by rw [X.admits.platform]).trans htr
  have hTB : TB s := hE.1.1
  have h : ∀ w ∈ Bundle.ownAtoms own ic cls names, w.before args s = true := by
    intro w hw
    rcases hat w hw with h1 | h1
    · exact hTB w h1 args
    · simp only [SWl, List.mem_cons, List.not_mem_nil, or_false] at h1
      rcases h1 with rfl | rfl | rfl | rfl
      · exact hE.2.1.isRef
      · exact hE.2.2.1.isRef
      · exact hE.2.1.lays
      · exact hE.2.2.1.lays
  have hins : (Cond.instantiable cls 6).before args s = true := h _ (by simp [Bundle.ownAtoms])
  obtain ⟨vm₁, cX, kX, hfX, hkX, -, -, X₁, st1⟩ := X.newCold hx (own := own) (C := cls) (index := ik) (n := 6) hown (hTB _ m1 args) hins (hTB _ m2 args) (g := F0 m pc ls rest) rfl (by rw [hb]; exact d0) hRc hRs
  obtain ⟨sk, scf, si, sa, -, -, -, -, -, hev⟩ := Cond.stringRef_spec (args := #[]) (first := s) (o := none) (idx := []) hown (hTB _ m3 #[])
  generalize hT1 : (T.setVm vm₁).pushCell { cls := cX, slots := kX.instanceTypes.map defaultValue, vm := .none } = T1 at X₁ st1
  have hcellA : T1.heap[T.heap.size]? = some (freshCell cX kX) := by rw [← hT1]; exact State.heap_pushCell_size _ _
  have d3' : decode c.code (pc + 3) = .ok (.dup, 1) := by rw [hb]; exact d3
  have d4' : decode c.code (pc + 4) = .ok (.ldc is, 2) := by rw [hb]; exact d4
  have hcat : (Value.ref T.heap.size).category = 1 := rfl
  obtain ⟨U, hsteps, hrun, hend, hW, hsame, ce, hce, hO⟩ := X₁.ctorThrowS hx htr' (own := own) (cls := cls) (names := names) (ic := ic) hown hcls hnames h (fun x hx => nomatch hx) hfX hkX hcellA (by rw [hT]; exact Nat.le_refl _) (msg := .ref sa) rfl
    (g := { method := m, pc := pc + 6, locals := ls, stack := .ref sa :: .ref T.heap.size :: .ref T.heap.size :: rest, locked := none }) rfl hsize rfl rfl (rest := rest) rfl
    (by rw [hb]; exact d6) (by rw [hb]; exact d9) (fun y hy => by rw [hn] at hy; cases hy) hRf (by simp only [List.map_cons, List.sum_cons, hcat]; omega) hlocks
  have hke : KE s.heap U.heap := by
    have h9 : s.sameButNew (U.setVm s.vm) [] (cells + 1) (slots + 6) := hsame
    obtain ⟨z1, -, z3⟩ := same_kept (free := fun _ => False) h9 (fun q hq => nomatch hq)
    exact ⟨z1, fun q hq => z3 q hq (fun h => h)⟩
  have htx : TX cls T.heap.size U U.heap := ⟨ce, hce, hO.vm, by rw [hW.alike.findClass]; exact hO.cls⟩
  refine ⟨U, ?_, .threw T.heap.size, hrun, hend, hq _ U hW htx hke, [], ⟨hW, hsame.mono hc hs⟩, fun q hq => nomatch hq⟩
  refine st1 _ ?_
  show Steps p.tables e below (T1.setTop { method := m, pc := pc + 3, locals := ls, stack := .ref T.heap.size :: rest, locked := none }) _
  jvm_step X₁.here [X₁.here.top, hx, d3', Value.category]
  exact X₁.ldcString hx (own := own) (text := text) (index := is) (a := sa) hown (hTB _ m3 #[]) hev
    (g := { method := m, pc := pc + 4, locals := ls, stack := .ref T.heap.size :: .ref T.heap.size :: rest, locked := none }) rfl d4' _ hsteps
-- the search for a handler, its class linked now if it wasn't
theorem fh_take {f : JFrame} {a : Addr} {S : State} {x : ExceptionTableEntry} {t : List ExceptionTableEntry} {k : ClassId} {cell : Cell} {P : Handler → Pre} {E : CtlPost} {d : Bool} {acts : List Action} (hx : covers x f.pc = true) (h0 : x.catchType ≠ 0) (hl : S.vm.ClassLinks e.platform f.method.cls x.catchType k) (hcell : S.heap[a]? = some cell) (hobj : ∀ j, cell.vm ≠ .statics j)
    (hk1 : ∃ j, S.vm.classes[cell.cls]? = some j) (hk2 : ∃ j, S.vm.classes[k]? = some j) :
    wp (findHandler.go f a (x :: t)) P E e d acts S ↔ if S.vm.assignable cell.cls k = true then P (.found x.handlerPc) d acts (S.setVm (S.vm.noted f.method.cls x.catchType (.cls k))) else wp (findHandler.go f a t) P E e d acts (S.setVm (S.vm.noted f.method.cls x.catchType (.cls k))) := by
  simp only [covers] at hx
  obtain ⟨ha, ht⟩ := (resolveClass_links e.toSetting hl).op (op := VmOp.resolveClass f.method.cls x.catchType) rfl
  have hal : S.vm.Alike (S.vm.noted f.method.cls x.catchType (.cls k)) := (Vm.Alike.refl S.vm).noted _ _ _
  obtain ⟨j1, hj1⟩ := hk1
  obtain ⟨j2, hj2⟩ := hk2
  obtain ⟨j1', hj1', -⟩ := hal.2.2 _ _ hj1
  obtain ⟨j2', hj2', -⟩ := hal.2.2 _ _ hj2
  have hfe := hal.assignable cell.cls k
  by_cases hfit : S.vm.assignable cell.cls k = true
  · have h9 : (S.vm.noted f.method.cls x.catchType (.cls k)).assignable cell.cls k = true := by rw [hfe]; exact hfit
    rw [if_pos hfit]
    simp [findHandler.go, hx, h0, ha, ht, hcell, hobj, hj1', hj2', h9, VmOp.dirties, VmOp.acts]
  · have h9 : (S.vm.noted f.method.cls x.catchType (.cls k)).assignable cell.cls k = false := by rw [hfe]; simpa using hfit
    rw [if_neg hfit]
    simp [findHandler.go, hx, h0, ha, ht, hcell, hobj, hj1', hj2', h9, VmOp.dirties, VmOp.acts]
end Thr
end
section
-- CATCHES
section Cat
variable {p : Program} {l : Launch} {e : Env} {R : Room} {s : State} {m : MethodId} {args : Array Value} {below : List Frame} {meth : Method} {c : Code} {H : Heap} {locs : List Loc} {cells slots : Nat} {Q : State → Prop}
variable {pc : Nat} {ls : Array Slot} {rest : List Value} {own : String}
/-- a handler is found, the tables are warmer by it: the frame goes on there -/
theorem st_caught {T target : State} {g : JFrame} {x : Addr} {h : Nat} {vm' : Vm} (hA : At T g.method c below)
    (hf : ∀ (P : Handler → Pre) (E : CtlPost) (d : Bool) (acts : List Action), wp (findHandler g x) P E e d acts ((T.setTop g).pushFrame (.throwing x)) ↔ P (.found h) d acts (((T.setTop g).pushFrame (.throwing x)).setVm vm'))
    (hr : Steps p.tables e below ((T.setVm vm').setTop { g with pc := h, stack := [.ref x] }) target) : Steps p.tables e below ((T.setTop g).pushFrame (.throwing x)) target := by
  obtain ⟨hgo, hw⟩ := hA.throwing x
  refine Steps.head hgo hw ?_
  have hst : ∀ r : List Frame, (stepThrowing e ((T.setTop g).pushFrame (.throwing x)) x (.java g :: r)).Is ((((T.setTop g).pushFrame (.throwing x)).setVm vm').setFrames (.java { g with pc := h, stack := [.ref x] } :: r)) [] := by
    intro r
    simp only [stepThrowing, searchFrame, vmDo]
    generalize hgr : Sem.go _ e false [] ((T.setTop g).pushFrame (.throwing x)) = res
    obtain ⟨as, rfl, ha⟩ := Sem.eq_ok_of hgr (a := Handler.found h) (s' := ((T.setTop g).pushFrame (.throwing x)).setVm vm') (acts' := []) (by simp [hf _ _ _ _])
    exact ⟨rfl, ha⟩
  rw [stepThread_throwing (frames_entered hA.top _), (hst _).1]
  obtain ⟨g₀, hg⟩ := Option.isSome_iff_exists.mp hA.top
  obtain ⟨r, hr0⟩ := State.topJava?_eq_some.mp hg
  have e1 : ∀ F : List Frame, (((T.setTop g).pushFrame (.throwing x)).setVm vm').setFrames F = (T.setVm vm').setFrames F := by
    intro F
    rw [State.pushFrame, State.setTop_of_frames _ hr0, State.setFrames_setFrames]
    have e2 : ∀ G : List Frame, (T.setFrames G).setVm vm' = (T.setVm vm').setFrames G := fun _ => rfl
    rw [e2, State.setFrames_setFrames]
  rw [hr0, List.tail_cons, e1]
  rw [State.setTop_of_frames _ (show (T.setVm vm').frames = .java g₀ :: r from hr0)] at hr
  exact hr
theorem tab1 {es : List ExceptionTableEntry} {a b h t : Nat} {tl : List (Nat × Nat × Nat × Nat)} (he : es.map (fun x => (x.startPc, x.endPc, x.handlerPc, x.catchType)) = (a, b, h, t) :: tl) : ∃ x es', es = x :: es' ∧ x.startPc = a ∧ x.endPc = b ∧ x.handlerPc = h ∧ x.catchType = t ∧ es'.map (fun x => (x.startPc, x.endPc, x.handlerPc, x.catchType)) = tl := by
  cases es with
  | nil => cases he
  | cons x es' =>
    simp only [List.map_cons, List.cons.injEq, Prod.mk.injEq] at he
    exact ⟨x, es', rfl, he.1.1, he.1.2.1, he.1.2.2.1, he.1.2.2.2, he.2⟩
theorem cov_of {x : ExceptionTableEntry} {a b q : Nat} (h1 : x.startPc = a) (h2 : x.endPc = b) (h : a ≤ q ∧ q < b) : covers x q = true := by
  unfold covers
  rw [h1, h2]
  simp [h.1, h.2]
/-- the first row of the table takes it -/
theorem wx_catch1 {a1 b1 h1 t1 : Nat} {tl : List (Nat × Nat × Nat × Nat)} {E nm : String} {x : Addr} (hown : s.vm.findClass own = some m.cls) (hTB : TB s) (htab : c.exceptionTable.toList.map (fun h => (h.startPc, h.endPc, h.handlerPc, h.catchType)) = (a1, b1, h1, t1) :: tl) (hcov : a1 ≤ pc ∧ pc < b1) (ht0 : t1 ≠ 0)
    (ml : Cond.classLink own t1 nm ∈ TW) (mc : Cond.castable E nm ∈ TW) (hx : TX E x s H) (kk : W p l e R s m args below meth c H locs cells slots Q (F0 m h1 ls [.ref x])) : WX p l e R s m args below meth c H locs cells slots Q (F0 m pc ls rest) x := by
  intro T hT X
  have hpl : e.platform.magicAccessors = ({} : Platform).magicAccessors := by rw [X.admits.platform]
  obtain ⟨ce, hce, hv, hcl⟩ := hx
  obtain ⟨y, es', hes, y1, y2, y3, y4, -⟩ := tab1 htab
  subst y3; subst y4
  obtain ⟨c3, c4, hc3, hc4, hasg⟩ := Cond.castable_spec (hTB _ mc args)
  cases Option.some.inj (hc3.symm.trans hcl)
  obtain ⟨c5, hc5, hl5⟩ := Cond.classLink_spec hown (hTB _ ml args) e.platform hpl
  cases Option.some.inj (hc4.symm.trans hc5)
  obtain ⟨dk, _, _, kt, hd, _, _, _, _, hkt, _, hopen⟩ := hl5.here
  obtain ⟨ke, hke, -⟩ := Vm.findClass_spec hcl
  obtain ⟨kt', hkt', -⟩ := X.warmed.alike.2.2 _ _ hkt
  obtain ⟨ke', hke', -⟩ := X.warmed.alike.2.2 _ _ hke
  have hW1 := X.warmed.noted hd hopen (State.rightAt_cls hl5)
  obtain ⟨t, a1', b1'⟩ := kk _ (show (T.setVm (T.vm.noted m.cls y.catchType (.cls c4))).heap = H from hT) (X.noted hW1)
  refine ⟨t, st_caught (h := y.handlerPc) (vm' := T.vm.noted m.cls y.catchType (.cls c4)) X.here (fun P E d acts => ?_) a1', b1'⟩
  rw [W.findHandler_eq (meth := meth) (code := c) X.method' X.code, hes]
  have h9 := fh_take (e := e) (f := F0 m pc ls rest) (a := x) (S := ((T.setTop (F0 m pc ls rest)).pushFrame (.throwing x))) (x := y) (t := es') (k := c4) (cell := ce) (P := P) (E := E) (d := d) (acts := acts) (cov_of y1 y2 hcov) ht0 (X.warmed.classLinks hl5) (by show T.heap[x]? = some ce; rw [hT]; exact hce) (fun j hj => by rw [hv] at hj; cases hj) ⟨ke', hke'⟩ ⟨kt', hkt'⟩
  rw [h9]
  rw [if_pos (show ((T.setTop (F0 m pc ls rest)).pushFrame (Frame.throwing x)).vm.assignable ce.cls c4 = true by show T.vm.assignable ce.cls c4 = true; rw [X.warmed.alike.assignable]; exact hasg)]
  rfl
/-- the first row does not take it, the second does -/
theorem wx_catch2 {a1 b1 h1 t1 a2 b2 h2 t2 : Nat} {tl : List (Nat × Nat × Nat × Nat)} {E nm nm2 : String} {x : Addr} (hown : s.vm.findClass own = some m.cls) (hTB : TB s) (htab : c.exceptionTable.toList.map (fun h => (h.startPc, h.endPc, h.handlerPc, h.catchType)) = (a1, b1, h1, t1) :: (a2, b2, h2, t2) :: tl) (hcov : a1 ≤ pc ∧ pc < b1) (hcov2 : a2 ≤ pc ∧ pc < b2) (ht0 : t1 ≠ 0) (ht2 : t2 ≠ 0)
    (ml : Cond.classLink own t1 nm ∈ TW) (hno : va_Nc E nm s) (ml2 : Cond.classLink own t2 nm2 ∈ TW) (mc : Cond.castable E nm2 ∈ TW) (hx : TX E x s H) (kk : W p l e R s m args below meth c H locs cells slots Q (F0 m h2 ls [.ref x])) : WX p l e R s m args below meth c H locs cells slots Q (F0 m pc ls rest) x := by
  intro T hT X
  have hpl : e.platform.magicAccessors = ({} : Platform).magicAccessors := by rw [X.admits.platform]
  obtain ⟨ce, hce, hv, hcl⟩ := hx
  obtain ⟨y, es', hes, y1, y2, y3, y4, htl⟩ := tab1 htab
  obtain ⟨u, es2, hes2, u1, u2, u3, u4, -⟩ := tab1 htl
  subst y3; subst y4; subst u3; subst u4; subst hes2
  obtain ⟨c3, c4, hc3, hc4, hasg⟩ := Cond.castable_spec (hTB _ mc args)
  cases Option.some.inj (hc3.symm.trans hcl)
  obtain ⟨c5, hc5, hl5⟩ := Cond.classLink_spec hown (hTB _ ml2 args) e.platform hpl
  cases Option.some.inj (hc4.symm.trans hc5)
  obtain ⟨c6, hc6, hl6⟩ := Cond.classLink_spec hown (hTB _ ml args) e.platform hpl
  obtain ⟨a8, b8, g1, g2, g3⟩ := hno
  cases Option.some.inj (g1.symm.trans hcl)
  cases Option.some.inj (g2.symm.trans hc6)
  obtain ⟨dk, _, _, kt, hd, _, _, _, _, hkt, _, hopen⟩ := hl5.here
  obtain ⟨dk6, _, _, kt6, hd6, _, _, _, _, hkt6, _, hopen6⟩ := hl6.here
  obtain ⟨ke, hke, -⟩ := Vm.findClass_spec hcl
  obtain ⟨kt6', hkt6', -⟩ := X.warmed.alike.2.2 _ _ hkt6
  obtain ⟨ke', hke', -⟩ := X.warmed.alike.2.2 _ _ hke
  have hW1 := X.warmed.noted hd6 hopen6 (State.rightAt_cls hl6)
  have X1 := X.noted hW1
  obtain ⟨ke1, hke1, -⟩ := X1.warmed.alike.2.2 _ _ hke
  obtain ⟨kt1, hkt1, -⟩ := X1.warmed.alike.2.2 _ _ hkt
  have hW2 := X1.warmed.noted hd hopen (State.rightAt_cls hl5)
  obtain ⟨t, a1', b1'⟩ := kk _ (show ((T.setVm (T.vm.noted m.cls y.catchType (.cls c6))).setVm ((T.setVm (T.vm.noted m.cls y.catchType (.cls c6))).vm.noted m.cls u.catchType (.cls c4))).heap = H from hT) (X1.noted hW2)
  refine ⟨t, st_caught (h := u.handlerPc) (vm' := (T.vm.noted m.cls y.catchType (.cls c6)).noted m.cls u.catchType (.cls c4)) X.here (fun P E d acts => ?_) a1', b1'⟩
  rw [W.findHandler_eq (meth := meth) (code := c) X.method' X.code, hes]
  have h9 := fh_take (e := e) (f := F0 m pc ls rest) (a := x) (S := ((T.setTop (F0 m pc ls rest)).pushFrame (.throwing x))) (x := y) (t := u :: es2) (k := c6) (cell := ce) (P := P) (E := E) (d := d) (acts := acts) (cov_of y1 y2 hcov) ht0 (X.warmed.classLinks hl6) (by show T.heap[x]? = some ce; rw [hT]; exact hce) (fun j hj => by rw [hv] at hj; cases hj) ⟨ke', hke'⟩ ⟨kt6', hkt6'⟩
  rw [h9]
  rw [if_neg (show ¬ ((T.setTop (F0 m pc ls rest)).pushFrame (Frame.throwing x)).vm.assignable ce.cls c6 = true by show ¬ T.vm.assignable ce.cls c6 = true; rw [X.warmed.alike.assignable, g3]; exact Bool.false_ne_true)]
  have h8 := fh_take (e := e) (f := F0 m pc ls rest) (a := x) (S := ((T.setTop (F0 m pc ls rest)).pushFrame (.throwing x)).setVm (T.vm.noted m.cls y.catchType (.cls c6))) (x := u) (t := es2) (k := c4) (cell := ce) (P := P) (E := E) (d := d) (acts := acts) (cov_of u1 u2 hcov2) ht2 (X1.warmed.classLinks hl5) (by show T.heap[x]? = some ce; rw [hT]; exact hce) (fun j hj => by rw [hv] at hj; cases hj) ⟨ke1, hke1⟩ ⟨kt1, hkt1⟩
  refine Iff.trans h8 ?_
  rw [if_pos (show (((T.setTop (F0 m pc ls rest)).pushFrame (Frame.throwing x)).setVm (T.vm.noted m.cls y.catchType (.cls c6))).vm.assignable ce.cls c4 = true by show (T.setVm (T.vm.noted m.cls y.catchType (.cls c6))).vm.assignable ce.cls c4 = true; rw [X1.warmed.alike.assignable]; exact hasg)]
  rfl
end Cat
end
section
-- what the class's own methods need: calls that may throw, read-only cells
section XH
variable {p : Program} {l : Launch} {e : Env} {R : Room} {s : State} {m : MethodId} {args : Array Value} {below : List Frame} {meth : Method} {c : Code} {H : Heap} {locs : List Loc} {cells slots : Nat} {Q : State → Prop}
variable {pc : Nat} {ls : Array Slot} {rest : List Value} {free : Addr → Prop} {rm : Room} {Qc : Array Value → State → Outcome → State → Prop}
theorem TX.back {E : String} {x : Addr} {t : State} {H1 : Heap} (hW : s.WarmedH t.vm) (ht : t.heap = H1) (h : TX E x t t.heap) : TX E x s H1 := by
  obtain ⟨ce, h1, h2, h3⟩ := h
  exact ⟨ce, by rw [← ht]; exact h1, h2, by rw [← hW.alike.findClass]; exact h3⟩
theorem TX.to {E : String} {x : Addr} {t : State} {H1 : Heap} (hW : s.WarmedH t.vm) (ht : t.heap = H1) (h : TX E x s H1) : TX E x t t.heap := by
  obtain ⟨ce, h1, h2, h3⟩ := h
  exact ⟨ce, by rw [ht]; exact h1, h2, by rw [hW.alike.findClass]; exact h3⟩
/-- a check: it comes back if all is well, and throws E0 otherwise -/
theorem krC {cnd : Prop} {E0 : String} {a : Array Value} {c1 s1 : Nat} (h0 : rm.cells = 1) (h1 : rm.slots = 6) (hf : ∀ q, ¬ free q) (hc1 : cells + 1 = c1) (hs1 : slots + 6 = s1) (k : cnd → W p l e R s m args below meth c H locs c1 s1 Q (F0 m (pc + 3) ls rest))
    (kx : ∀ (x : Addr) (H1 : Heap), TX E0 x s H1 → KE H H1 → ¬ cnd → WX p l e R s m args below meth c H1 locs c1 s1 Q (F0 m pc ls rest) x) :
    KR p l e R s m args below meth c H locs cells slots Q rm free (QTV (fun H0 H => H = H0 ∧ cnd) (fun E => E = E0 ∧ ¬ cnd) a) pc ls rest := by
  subst hc1
  subst hs1
  intro st0 t H1 L hst hA hL
  rw [h0, h1]
  have hL0 := nil_of hL hf
  subst hL0
  rw [List.append_nil]
  refine ⟨fun v hq => ?_, fun x hq => ?_⟩
  · rcases hq with ⟨e1, e2, hc⟩ | ⟨x, E, e1, -⟩
    · cases e1
      rw [hst, hA.1] at e2
      subst e2
      exact k hc
    · cases e1
  · rcases hq with ⟨e1, -⟩ | ⟨y, E, e1, hX, hk, rfl, hn⟩
    · cases e1
    · cases e1
      exact kx x H1 (hX.back hA.2.1 hA.1) (by rw [← hst, ← hA.1]; exact hk) hn
theorem x_out {px : String → Prop} {x : Addr} {E : String} {mc ms : Nat} (htab : c.exceptionTable.toList.map (fun h => (h.startPc, h.endPc, h.handlerPc, h.catchType)) = []) (hlocks : meth.locks = false) (hQ : ∀ o t, TH px s o t → Qc args s o t) (hX : TX E x s H) (hk : KE s.heap H) (hp : px E) (hc : cells ≤ mc) (hs : slots ≤ ms) :
    WX p l e R s m args below meth c H [] cells slots (XQ below Qc args s mc ms free) (F0 m pc ls rest) x :=
  WX.widen hc hs (wx_out htab hlocks (fun t ht hW => hQ _ _ ⟨x, E, rfl, hX.to hW ht, by rw [ht]; exact hk, hp⟩) (fun q hq => nomatch hq))
theorem ro_at {A : Nat → Prop} {H0 : Heap} {D : va_G} {cl : List vw_C} {rs : va_W} (hS : va_S A H0 H locs) (hR : va_P D cl rs H0) (hA : ∀ (k : Nat) (q : Nat × va_E), rs[k]? = some q → ¬ A q.1) : va_P D cl rs H := hR.kept (fun k q hk => hS.2.1 q.1 ((hR k q hk).lt) (hA k q hk))
variable {cc : ByteArray}
theorem ix_iret {po : Int → Heap → Heap → Prop} {px : String → Prop} {r : Int} {mc ms : Nat} (hx : p.tables.exec = Jvm.exec) (hb : c.code = cc) (hr : meth.sig.returnType = some .int) (hlocks : meth.locks = false) (hq : po r s.heap H) (hf : ∀ q ∈ locs, free q.base) (hc : cells ≤ mc) (hs : slots ≤ ms) (hd : decode cc pc = .ok (.ireturn, 1)) : W p l e R s m args below meth c H locs cells slots (XQ below (QTI po px) args s mc ms free) (F0 m pc ls [.int (iI r)]) :=
  W.widen hc hs (W.mono xq_of (W.iret (Qc := QTI po px) hx hb hr (fun t ht _ => Or.inl ⟨r, rfl, by rw [ht]; exact hq⟩) hf hd hlocks))
theorem ix_lret {po : Int → Heap → Heap → Prop} {px : String → Prop} {r : Int} {mc ms : Nat} (hx : p.tables.exec = Jvm.exec) (hb : c.code = cc) (hr : meth.sig.returnType = some .long) (hlocks : meth.locks = false) (hq : po r s.heap H) (hf : ∀ q ∈ locs, free q.base) (hc : cells ≤ mc) (hs : slots ≤ ms) (hd : decode cc pc = .ok (.lreturn, 1)) : W p l e R s m args below meth c H locs cells slots (XQ below (QTL po px) args s mc ms free) (F0 m pc ls [.long (lI r)]) :=
  W.widen hc hs (W.mono xq_of (W.lret (Qc := QTL po px) hx hb hr (fun t ht _ => Or.inl ⟨r, rfl, by rw [ht]; exact hq⟩) hf hd hlocks))
theorem ix_vret {po : Heap → Heap → Prop} {px : String → Prop} {mc ms : Nat} (hx : p.tables.exec = Jvm.exec) (hb : c.code = cc) (hr : meth.sig.returnType = none) (hlocks : meth.locks = false) (hq : po s.heap H) (hf : ∀ q ∈ locs, free q.base) (hc : cells ≤ mc) (hs : slots ≤ ms) (hd : decode cc pc = .ok (.return_, 1)) : W p l e R s m args below meth c H locs cells slots (XQ below (QTV po px) args s mc ms free) (F0 m pc ls []) :=
  W.widen hc hs (W.mono xq_of (W.vret (Qc := QTV po px) hx hb hr (fun t ht _ => Or.inl ⟨rfl, by rw [ht]; exact hq⟩) hf hd hlocks))
end XH
theorem at_A : ∀ w ∈ Bundle.ownAtoms RX 139 exA ["java/lang/RuntimeException", "java/lang/Exception"], w ∈ TW ∨ w ∈ SWl := by decide +kernel
theorem at_S : ∀ w ∈ Bundle.ownAtoms RX 59 exS ["java/lang/RuntimeException", "java/lang/Exception"], w ∈ TW ∨ w ∈ SWl := by decide +kernel
end
section
-- class LayerQuantities: the checks
abbrev rmX_checkBounds : Room := { frames := 6, cells := 1, slots := 6, locals := 90 }
set_option maxHeartbeats 4000000 in
set_option maxRecDepth 100000 in
theorem c_X_checkBounds (l : Launch) (htr : l.stackTraces = false) (K : KG) (z : Nat) (v lo hi : Int) (h1 : r32 v) (h2 : r32 lo) (h3 : r32 hi) : Ct l yX_checkBounds kX_checkBounds rmX_checkBounds (PX K z [.int (iI v), .int (iI lo), .int (iI hi)] (fun H => True)) (QTV (fun H0 H => H = H0 ∧ (lo ≤ v ∧ v ≤ hi)) (fun E => E = exA ∧ ¬ (lo ≤ v ∧ v ≤ hi))) (fun _ => False) := by
  refine ct_of (by decide) (Or.inl ⟨rfl, rfl⟩) ?_
  intro p e s m args below meth c B0 hP0
  obtain ⟨hx, hb, hr, hml, hown, hlocks, hnm, htab⟩ := B0
  obtain ⟨ha, hE, hB⟩ := hP0
  obtain ⟨hT, hK⟩ := hE.1
  have hl := lv_entry ([.int (iI v), .int (iI lo), .int (iI hi)]) (n := 3) (Nat.le_of_ble_eq_true rfl)
  obtain ⟨Q, hQ⟩ : ∃ Q, Q = XQ below (QTV (fun H0 H => H = H0 ∧ (lo ≤ v ∧ v ≤ hi)) (fun E => E = exA ∧ ¬ (lo ≤ v ∧ v ≤ hi))) args s (rmX_checkBounds).cells (rmX_checkBounds).slots (fun _ => False) := ⟨_, rfl⟩
  rw [← hQ, ha, lg_entry_eq]
  rw [ha] at hQ
  generalize (lg_sl ([.int (iI v), .int (iI lo), .int (iI hi)]) ++ List.replicate (3 - (lg_sl ([.int (iI v), .int (iI lo), .int (iI hi)])).length) Slot.unset).toArray = ls at hl ⊢
  generalize ([.int (iI v), .int (iI lo), .int (iI hi)] : List Value).toArray = args at hQ ⊢
  have hts : ∀ w ∈ TW, w.before args s = true := fun w h => hT w h args
  have hl : lv_has ls 3 [(0, .int (iI v)), (1, .int (iI lo)), (2, .int (iI hi))] := hl
  obtain ⟨A, hAe⟩ : ∃ A : Addr → Prop, A = (fun _ => False) := ⟨_, rfl⟩
  rw [← hAe] at hQ
  have hS : va_S A s.heap s.heap [] := va_S.rf
  refine lv_iload_n hx hb dX_checkBounds_0 rfl (lv_at hl 0 rfl) ?_
  refine lv_iload_n hx hb dX_checkBounds_1 rfl (lv_at hl 1 rfl) ?_
  refine iz_icmp_lt (tgt := 10) hx hb ⟨by omega, by omega⟩ ⟨by omega, by omega⟩ dX_checkBounds_2 (by decide) (fun g1 => ?_) (fun g1 => ?_)
  · rw [hQ]
    exact tx_throw hx hb htr hE hown (by decide) (by decide) at_A mt_153 mt_9 mt_313 (hl.1.trans hml.symm) dX_checkBounds_10 dX_checkBounds_13 dX_checkBounds_14 dX_checkBounds_16 dX_checkBounds_19 htab hlocks (by decide) (Nat.le_of_ble_eq_true rfl) (Nat.le_of_ble_eq_true rfl) (Nat.le_of_ble_eq_true rfl) (Nat.le_of_ble_eq_true rfl) (Nat.le_of_ble_eq_true rfl) (fun x t hW hX hke => Or.inr ⟨x, exA, rfl, hX, hke, rfl, by omega⟩)
  · refine lv_iload_n hx hb dX_checkBounds_5 rfl (lv_at hl 0 rfl) ?_
    refine lv_iload_n hx hb dX_checkBounds_6 rfl (lv_at hl 2 rfl) ?_
    refine iz_icmp_le (tgt := 20) hx hb ⟨by omega, by omega⟩ ⟨by omega, by omega⟩ dX_checkBounds_7 (by decide) (fun g2 => ?_) (fun g2 => ?_)
    · rw [hQ]
      exact ix_vret hx hb hr hlocks (⟨rfl, by omega⟩) (fun _ h => absurd h List.not_mem_nil) (by decide) (by decide) dX_checkBounds_20
    · rw [hQ]
      exact tx_throw hx hb htr hE hown (by decide) (by decide) at_A mt_153 mt_9 mt_313 (hl.1.trans hml.symm) dX_checkBounds_10 dX_checkBounds_13 dX_checkBounds_14 dX_checkBounds_16 dX_checkBounds_19 htab hlocks (by decide) (Nat.le_of_ble_eq_true rfl) (Nat.le_of_ble_eq_true rfl) (Nat.le_of_ble_eq_true rfl) (Nat.le_of_ble_eq_true rfl) (Nat.le_of_ble_eq_true rfl) (fun x t hW hX hke => Or.inr ⟨x, exA, rfl, hX, hke, rfl, by omega⟩)
abbrev rmX_checkNumber : Room := { frames := 6, cells := 1, slots := 6, locals := 90 }
set_option maxHeartbeats 4000000 in
set_option maxRecDepth 100000 in
theorem c_X_checkNumber (l : Launch) (htr : l.stackTraces = false) (K : KG) (z : Nat) (v hi : Int) (h1 : r32 v) (h2 : r32 hi) : Ct l yX_checkNumber kX_checkNumber rmX_checkNumber (PX K z [.int (iI v), .int (iI hi)] (fun H => True)) (QTV (fun H0 H => H = H0 ∧ (0 ≤ v ∧ v < hi)) (fun E => E = exA ∧ ¬ (0 ≤ v ∧ v < hi))) (fun _ => False) := by
  refine ct_of (by decide) (Or.inl ⟨rfl, rfl⟩) ?_
  intro p e s m args below meth c B0 hP0
  obtain ⟨hx, hb, hr, hml, hown, hlocks, hnm, htab⟩ := B0
  obtain ⟨ha, hE, hB⟩ := hP0
  obtain ⟨hT, hK⟩ := hE.1
  have hl := lv_entry ([.int (iI v), .int (iI hi)]) (n := 2) (Nat.le_of_ble_eq_true rfl)
  obtain ⟨Q, hQ⟩ : ∃ Q, Q = XQ below (QTV (fun H0 H => H = H0 ∧ (0 ≤ v ∧ v < hi)) (fun E => E = exA ∧ ¬ (0 ≤ v ∧ v < hi))) args s (rmX_checkNumber).cells (rmX_checkNumber).slots (fun _ => False) := ⟨_, rfl⟩
  rw [← hQ, ha, lg_entry_eq]
  rw [ha] at hQ
  generalize (lg_sl ([.int (iI v), .int (iI hi)]) ++ List.replicate (2 - (lg_sl ([.int (iI v), .int (iI hi)])).length) Slot.unset).toArray = ls at hl ⊢
  generalize ([.int (iI v), .int (iI hi)] : List Value).toArray = args at hQ ⊢
  have hts : ∀ w ∈ TW, w.before args s = true := fun w h => hT w h args
  have hl : lv_has ls 2 [(0, .int (iI v)), (1, .int (iI hi))] := hl
  obtain ⟨A, hAe⟩ : ∃ A : Addr → Prop, A = (fun _ => False) := ⟨_, rfl⟩
  rw [← hAe] at hQ
  have hS : va_S A s.heap s.heap [] := va_S.rf
  refine lv_iload_n hx hb dX_checkNumber_0 rfl (lv_at hl 0 rfl) ?_
  refine iz_if_lt (tgt := 9) hx hb ⟨by omega, by omega⟩ dX_checkNumber_1 (by decide) (fun g1 => ?_) (fun g1 => ?_)
  · rw [hQ]
    exact tx_throw hx hb htr hE hown (by decide) (by decide) at_A mt_153 mt_9 mt_193 (hl.1.trans hml.symm) dX_checkNumber_9 dX_checkNumber_12 dX_checkNumber_13 dX_checkNumber_15 dX_checkNumber_18 htab hlocks (by decide) (Nat.le_of_ble_eq_true rfl) (Nat.le_of_ble_eq_true rfl) (Nat.le_of_ble_eq_true rfl) (Nat.le_of_ble_eq_true rfl) (Nat.le_of_ble_eq_true rfl) (fun x t hW hX hke => Or.inr ⟨x, exA, rfl, hX, hke, rfl, by omega⟩)
  · refine lv_iload_n hx hb dX_checkNumber_4 rfl (lv_at hl 0 rfl) ?_
    refine lv_iload_n hx hb dX_checkNumber_5 rfl (lv_at hl 1 rfl) ?_
    refine iz_icmp_lt (tgt := 19) hx hb ⟨by omega, by omega⟩ ⟨by omega, by omega⟩ dX_checkNumber_6 (by decide) (fun g2 => ?_) (fun g2 => ?_)
    · rw [hQ]
      exact ix_vret hx hb hr hlocks (⟨rfl, by omega⟩) (fun _ h => absurd h List.not_mem_nil) (by decide) (by decide) dX_checkNumber_19
    · rw [hQ]
      exact tx_throw hx hb htr hE hown (by decide) (by decide) at_A mt_153 mt_9 mt_193 (hl.1.trans hml.symm) dX_checkNumber_9 dX_checkNumber_12 dX_checkNumber_13 dX_checkNumber_15 dX_checkNumber_18 htab hlocks (by decide) (Nat.le_of_ble_eq_true rfl) (Nat.le_of_ble_eq_true rfl) (Nat.le_of_ble_eq_true rfl) (Nat.le_of_ble_eq_true rfl) (Nat.le_of_ble_eq_true rfl) (fun x t hW hX hke => Or.inr ⟨x, exA, rfl, hX, hke, rfl, by omega⟩)
abbrev rmX_checkSpace : Room := { frames := 6, cells := 1, slots := 6, locals := 90 }
set_option maxHeartbeats 4000000 in
set_option maxRecDepth 100000 in
theorem c_X_checkSpace (l : Launch) (htr : l.stackTraces = false) (K : KG) (z : Nat) (v hi : Int) (h1 : r32 v) (h2 : r32 hi) : Ct l yX_checkSpace kX_checkSpace rmX_checkSpace (PX K z [.int (iI v), .int (iI hi)] (fun H => True)) (QTV (fun H0 H => H = H0 ∧ (v < hi)) (fun E => E = exS ∧ ¬ (v < hi))) (fun _ => False) := by
  refine ct_of (by decide) (Or.inl ⟨rfl, rfl⟩) ?_
  intro p e s m args below meth c B0 hP0
  obtain ⟨hx, hb, hr, hml, hown, hlocks, hnm, htab⟩ := B0
  obtain ⟨ha, hE, hB⟩ := hP0
  obtain ⟨hT, hK⟩ := hE.1
  have hl := lv_entry ([.int (iI v), .int (iI hi)]) (n := 2) (Nat.le_of_ble_eq_true rfl)
  obtain ⟨Q, hQ⟩ : ∃ Q, Q = XQ below (QTV (fun H0 H => H = H0 ∧ (v < hi)) (fun E => E = exS ∧ ¬ (v < hi))) args s (rmX_checkSpace).cells (rmX_checkSpace).slots (fun _ => False) := ⟨_, rfl⟩
  rw [← hQ, ha, lg_entry_eq]
  rw [ha] at hQ
  generalize (lg_sl ([.int (iI v), .int (iI hi)]) ++ List.replicate (2 - (lg_sl ([.int (iI v), .int (iI hi)])).length) Slot.unset).toArray = ls at hl ⊢
  generalize ([.int (iI v), .int (iI hi)] : List Value).toArray = args at hQ ⊢
  have hts : ∀ w ∈ TW, w.before args s = true := fun w h => hT w h args
  have hl : lv_has ls 2 [(0, .int (iI v)), (1, .int (iI hi))] := hl
  obtain ⟨A, hAe⟩ : ∃ A : Addr → Prop, A = (fun _ => False) := ⟨_, rfl⟩
  rw [← hAe] at hQ
  have hS : va_S A s.heap s.heap [] := va_S.rf
  refine lv_iload_n hx hb dX_checkSpace_0 rfl (lv_at hl 0 rfl) ?_
  refine lv_iload_n hx hb dX_checkSpace_1 rfl (lv_at hl 1 rfl) ?_
  refine iz_icmp_lt (tgt := 15) hx hb ⟨by omega, by omega⟩ ⟨by omega, by omega⟩ dX_checkSpace_2 (by decide) (fun g1 => ?_) (fun g1 => ?_)
  · rw [hQ]
    exact ix_vret hx hb hr hlocks (⟨rfl, g1⟩) (fun _ h => absurd h List.not_mem_nil) (by decide) (by decide) dX_checkSpace_15
  · rw [hQ]
    exact tx_throw hx hb htr hE hown (by decide) (by decide) at_S mt_317 mt_10 mt_326 (hl.1.trans hml.symm) dX_checkSpace_5 dX_checkSpace_8 dX_checkSpace_9 dX_checkSpace_11 dX_checkSpace_14 htab hlocks (by decide) (Nat.le_of_ble_eq_true rfl) (Nat.le_of_ble_eq_true rfl) (Nat.le_of_ble_eq_true rfl) (Nat.le_of_ble_eq_true rfl) (Nat.le_of_ble_eq_true rfl) (fun x t hW hX hke => Or.inr ⟨x, exS, rfl, hX, hke, rfl, by omega⟩)
-- class LayerQuantities: walls
abbrev rmX_wall : Room := { frames := 8, cells := 3, slots := 18, locals := 140 }
set_option maxHeartbeats 4000000 in
set_option maxRecDepth 100000 in
/-- wall(length, height) -/
theorem c_X_wall (l : Launch) (htr : l.stackTraces = false) (K : KG) (z : Nat) (b wn j : Nat) (ar oc lc x1 x2 : Int) (h1 : r32 x1) (h2 : r32 x2) (hn : wn ≤ 12) (hj : wn < 12 → j = wn) : Ct l yX_wall kX_wall rmX_wall (PX K z [.ref b, .int (iI x1), .int (iI x2)] (fun H => va_P (kD K) vcl [(b, .inr (0, [.ref (b + 1), .int (iI ((wn : Int))), .ref (b + 26), .ref (b + 27), .ref (b + 98)])), (b + 2 + 2 * j, .inr (1, [.int (iI ar), .int (iI oc), .int (iI lc), .ref (b + 2 + 2 * j + 1)]))] H ∧ va_P (kD K) vcl [(b + 1, .inl (kW K, 12, .inr (.inr (.inr (.inr (fun i => some (b + 2 + 2 * i)))))))] H)) (QTI (fun r _ H => (((1 ≤ x1 ∧ x1 ≤ 1000) ∧ (1 ≤ x2 ∧ x2 ≤ 1000)) ∧ wn < 12) ∧ r = wn ∧ va_P (kD K) vcl [(b, .inr (0, [.ref (b + 1), .int (iI (((wn + 1 : Nat) : Int))), .ref (b + 26), .ref (b + 27), .ref (b + 98)])), (b + 2 + 2 * j, .inr (1, [.int (iI (x1 * x2)), .int (iI oc), .int (iI lc), .ref (b + 2 + 2 * j + 1)]))] H) (fun E => (E = exA ∧ ¬ ((1 ≤ x1 ∧ x1 ≤ 1000) ∧ (1 ≤ x2 ∧ x2 ≤ 1000))) ∨ (E = exS ∧ ((1 ≤ x1 ∧ x1 ≤ 1000) ∧ (1 ≤ x2 ∧ x2 ≤ 1000)) ∧ ¬ wn < 12))) (fun q => q = b ∨ q = b + 2 + 2 * j) := by
  refine ct_of (by decide) (Or.inl ⟨rfl, rfl⟩) ?_
  intro p e s m args below meth c B0 hP0
  obtain ⟨hx, hb, hr, hml, hown, hlocks, hnm, htab⟩ := B0
  obtain ⟨ha, hE, hB⟩ := hP0
  obtain ⟨hT, hK⟩ := hE.1
  have hl := lv_entry ([.ref b, .int (iI x1), .int (iI x2)]) (n := 3) (Nat.le_of_ble_eq_true rfl)
  obtain ⟨Q, hQ⟩ : ∃ Q, Q = XQ below (QTI (fun r _ H => (((1 ≤ x1 ∧ x1 ≤ 1000) ∧ (1 ≤ x2 ∧ x2 ≤ 1000)) ∧ wn < 12) ∧ r = wn ∧ va_P (kD K) vcl [(b, .inr (0, [.ref (b + 1), .int (iI (((wn + 1 : Nat) : Int))), .ref (b + 26), .ref (b + 27), .ref (b + 98)])), (b + 2 + 2 * j, .inr (1, [.int (iI (x1 * x2)), .int (iI oc), .int (iI lc), .ref (b + 2 + 2 * j + 1)]))] H) (fun E => (E = exA ∧ ¬ ((1 ≤ x1 ∧ x1 ≤ 1000) ∧ (1 ≤ x2 ∧ x2 ≤ 1000))) ∨ (E = exS ∧ ((1 ≤ x1 ∧ x1 ≤ 1000) ∧ (1 ≤ x2 ∧ x2 ≤ 1000)) ∧ ¬ wn < 12))) args s (rmX_wall).cells (rmX_wall).slots (fun q => q = b ∨ q = b + 2 + 2 * j) := ⟨_, rfl⟩
  rw [← hQ, ha, lg_entry_eq]
  rw [ha] at hQ
  generalize (lg_sl ([.ref b, .int (iI x1), .int (iI x2)]) ++ List.replicate (3 - (lg_sl ([.ref b, .int (iI x1), .int (iI x2)])).length) Slot.unset).toArray = ls at hl ⊢
  generalize ([.ref b, .int (iI x1), .int (iI x2)] : List Value).toArray = args at hQ ⊢
  have hts : ∀ w ∈ TW, w.before args s = true := fun w h => hT w h args
  have hl : lv_has ls 3 [(0, .ref b), (1, .int (iI x1)), (2, .int (iI x2))] := hl
  obtain ⟨A, hAe⟩ : ∃ A : Addr → Prop, A = (fun q => q = b ∨ q = b + 2 + 2 * j) := ⟨_, rfl⟩
  rw [← hAe] at hQ
  have hS : va_S A s.heap s.heap [] := va_S.rf
  obtain ⟨hP, hR⟩ := hB
  have hP : va_P (kD K) vcl [(b, .inr (0, [.ref (b + 1), .int (iI ((wn : Int))), .ref (b + 26), .ref (b + 27), .ref (b + 98)])), (b + 2 + 2 * j, .inr (1, [.int (iI ar), .int (iI oc), .int (iI lc), .ref (b + 2 + 2 * j + 1)]))] s.heap := hP
  have hD : va_D A [(b, .inr (0, [.ref (b + 1), .int (iI ((wn : Int))), .ref (b + 26), .ref (b + 27), .ref (b + 98)])), (b + 2 + 2 * j, .inr (1, [.int (iI ar), .int (iI oc), .int (iI lc), .ref (b + 2 + 2 * j + 1)]))] := by rw [hAe]; exact va_D_of (by simp <;> omega) (by simp <;> omega)
  have hR : va_P (kD K) vcl [(b + 1, .inl (kW K, 12, .inr (.inr (.inr (.inr (fun i => some (b + 2 + 2 * i)))))))] s.heap := hR
  have hRA : ∀ (k : Nat) (q : Nat × va_E), [(b + 1, .inl (kW K, 12, .inr (.inr (.inr (.inr (fun i => some (b + 2 + 2 * i)))))))][k]? = some q → ¬ A q.1 := by
    intro k q hk
    have hk := List.mem_of_getElem? hk
    simp only [List.mem_cons, List.not_mem_nil, or_false] at hk
    rw [hAe]
    rcases hk with rfl <;> (show ¬ _) <;> simp <;> omega
  refine lv_iload_n hx hb dX_wall_0 rfl (lv_at hl 1 rfl) ?_
  refine iz_iconst hx hb dX_wall_1 ?_
  refine iz_sipush hx hb dX_wall_2 (by decide) ?_
  refine ctS (n := 3) hx hb hml hown hT ⟨c_X_checkBounds l htr K z x1 1 1000 ⟨by omega, by omega⟩ ⟨by omega, by omega⟩ ⟨by omega, by omega⟩, ⟨_, _, _, Or.inl ⟨rfl, rfl⟩⟩, mt_312, mt_1, by decide, by decide +kernel, by decide, by decide, by decide, by decide⟩ PX.blind mt_310 mt_311 (As := [.int (iI x1), .int (iI 1), .int (iI 1000)]) (rest := []) rfl (PX.at hE rfl trivial) hl.1 rfl (Nat.le_of_ble_eq_true rfl) dX_wall_5 (krC (c1 := 1) (s1 := 6) rfl rfl (fun _ h => h) rfl rfl (fun g1 => ?_) (fun x H1 hX hk hn => by rw [hQ]; exact x_out htab hlocks (fun _ _ h => Or.inr h) hX hk (Or.inl ⟨rfl, by omega⟩) (by decide) (by decide)))
  refine lv_iload_n hx hb dX_wall_8 rfl (lv_at hl 2 rfl) ?_
  refine iz_iconst hx hb dX_wall_9 ?_
  refine iz_sipush hx hb dX_wall_10 (by decide) ?_
  refine ctS (n := 3) hx hb hml hown hT ⟨c_X_checkBounds l htr K z x2 1 1000 ⟨by omega, by omega⟩ ⟨by omega, by omega⟩ ⟨by omega, by omega⟩, ⟨_, _, _, Or.inl ⟨rfl, rfl⟩⟩, mt_312, mt_1, by decide, by decide +kernel, by decide, by decide, by decide, by decide⟩ PX.blind mt_310 mt_311 (As := [.int (iI x2), .int (iI 1), .int (iI 1000)]) (rest := []) rfl (PX.at hE rfl trivial) hl.1 rfl (Nat.le_of_ble_eq_true rfl) dX_wall_13 (krC (c1 := 2) (s1 := 12) rfl rfl (fun _ h => h) rfl rfl (fun g2 => ?_) (fun x H1 hX hk hn => by rw [hQ]; exact x_out htab hlocks (fun _ _ h => Or.inr h) hX hk (Or.inl ⟨rfl, by omega⟩) (by decide) (by decide)))
  refine lv_aload_n hx hb dX_wall_16 rfl (lv_at hl 0 rfl) ?_
  refine va_get (D := kD K) (ci := 0) (v := .int (iI ((wn : Int)))) (C := RX) (T := FX) (N := 5) hx hb hts jnX hown hK hP 0 rfl rfl 1 (by decide) (hts _ mt_127) (fun _ h9 => h9) rfl dX_wall_17 ?_
  refine iz_bipush hx hb dX_wall_20 (by decide) ?_
  refine ctS (n := 2) hx hb hml hown hT ⟨c_X_checkSpace l htr K z wn 12 ⟨by omega, by omega⟩ ⟨by omega, by omega⟩, ⟨_, _, _, Or.inl ⟨rfl, rfl⟩⟩, mt_316, mt_1, by decide, by decide +kernel, by decide, by decide, by decide, by decide⟩ PX.blind mt_314 mt_315 (As := [.int (iI ((wn : Int))), .int (iI 12)]) (rest := []) rfl (PX.at hE rfl trivial) hl.1 rfl (Nat.le_of_ble_eq_true rfl) dX_wall_22 (krC (c1 := 3) (s1 := 18) rfl rfl (fun _ h => h) rfl rfl (fun g3 => ?_) (fun x H1 hX hk hn => by rw [hQ]; exact x_out htab hlocks (fun _ _ h => Or.inr h) hX hk (Or.inr ⟨rfl, by omega, by omega⟩) (by decide) (by decide)))
  have hj := hj (by omega)
  refine lv_aload_n hx hb dX_wall_25 rfl (lv_at hl 0 rfl) ?_
  refine va_get (D := kD K) (ci := 0) (v := .ref (b + 1)) (C := RX) (T := FX) (N := 5) hx hb hts jnX hown hK hP 0 rfl rfl 0 (by decide) (hts _ mt_126) (fun _ h9 => h9) rfl dX_wall_26 ?_
  refine lv_aload_n hx hb dX_wall_29 rfl (lv_at hl 0 rfl) ?_
  refine va_get (D := kD K) (ci := 0) (v := .int (iI ((wn : Int)))) (C := RX) (T := FX) (N := 5) hx hb hts jnX hown hK hP 0 rfl rfl 1 (by decide) (hts _ mt_127) (fun _ h9 => h9) rfl dX_wall_30 ?_
  refine iz_aald hx hb hK (ro_at hS hR hRA) 0 2 rfl rfl j (by omega) (by omega) (by omega) rfl dX_wall_33 ?_
  refine lv_iload_n hx hb dX_wall_34 rfl (lv_at hl 1 rfl) ?_
  refine lv_iload_n hx hb dX_wall_35 rfl (lv_at hl 2 rfl) ?_
  refine iz_imul hx hb dX_wall_36 ?_
  refine va_putN (D := kD K) (ci := 1) (v := .int (iI (x1 * x2))) (ty := .int) (C := RW) (T := FW) (N := 4) hx hb hts jnW tW tW_ok nW hown hK hP hD hS 1 rfl rfl 0 (by decide) (hts _ mt_29) (fun _ h9 => h9) rfl (by decide +kernel) rfl rfl (Nat.le_of_ble_eq_true rfl) dX_wall_37 (fun H locs hP hD hS => ?_)
  have hP : va_P (kD K) vcl [(b, .inr (0, [.ref (b + 1), .int (iI ((wn : Int))), .ref (b + 26), .ref (b + 27), .ref (b + 98)])), (b + 2 + 2 * j, .inr (1, [.int (iI (x1 * x2)), .int (iI oc), .int (iI lc), .ref (b + 2 + 2 * j + 1)]))] H := hP
  have hD : va_D A [(b, .inr (0, [.ref (b + 1), .int (iI ((wn : Int))), .ref (b + 26), .ref (b + 27), .ref (b + 98)])), (b + 2 + 2 * j, .inr (1, [.int (iI (x1 * x2)), .int (iI oc), .int (iI lc), .ref (b + 2 + 2 * j + 1)]))] := hD
  refine lv_aload_n hx hb dX_wall_40 rfl (lv_at hl 0 rfl) ?_
  refine lv_dup hx hb dX_wall_41 rfl ?_
  refine va_get (D := kD K) (ci := 0) (v := .int (iI ((wn : Int)))) (C := RX) (T := FX) (N := 5) hx hb hts jnX hown hK hP 0 rfl rfl 1 (by decide) (hts _ mt_127) (fun _ h9 => h9) rfl dX_wall_42 ?_
  refine iz_iconst hx hb dX_wall_45 ?_
  refine iz_iadd hx hb dX_wall_46 ?_
  refine va_put (D := kD K) (ci := 0) (v := .int (iI (((wn : Int)) + 1))) (ty := .int) (C := RX) (T := FX) (N := 5) hx hb hts jnX tX tX_ok nX hown hK hP hD hS 0 rfl rfl 1 (by decide) (hts _ mt_127) (fun _ h9 => h9) rfl (by decide +kernel) rfl rfl (Nat.le_of_ble_eq_true rfl) dX_wall_47 (fun H locs hP hD hS => ?_)
  have hP : va_P (kD K) vcl [(b, .inr (0, [.ref (b + 1), .int (iI (((wn : Int)) + 1)), .ref (b + 26), .ref (b + 27), .ref (b + 98)])), (b + 2 + 2 * j, .inr (1, [.int (iI (x1 * x2)), .int (iI oc), .int (iI lc), .ref (b + 2 + 2 * j + 1)]))] H := hP
  have hD : va_D A [(b, .inr (0, [.ref (b + 1), .int (iI (((wn : Int)) + 1)), .ref (b + 26), .ref (b + 27), .ref (b + 98)])), (b + 2 + 2 * j, .inr (1, [.int (iI (x1 * x2)), .int (iI oc), .int (iI lc), .ref (b + 2 + 2 * j + 1)]))] := hD
  refine lv_aload_n hx hb dX_wall_50 rfl (lv_at hl 0 rfl) ?_
  refine va_get (D := kD K) (ci := 0) (v := .int (iI (((wn : Int)) + 1))) (C := RX) (T := FX) (N := 5) hx hb hts jnX hown hK hP 0 rfl rfl 1 (by decide) (hts _ mt_127) (fun _ h9 => h9) rfl dX_wall_51 ?_
  refine iz_iconst hx hb dX_wall_54 ?_
  refine iz_isub hx hb dX_wall_55 ?_
  rw [hQ]
  exact ix_iret hx hb hr hlocks (⟨⟨⟨g1, g2⟩, by omega⟩, by omega, hP⟩) hS.2.2 (by decide) (by decide) dX_wall_56
abbrev rmX_opening : Room := { frames := 8, cells := 5, slots := 30, locals := 140 }
set_option maxHeartbeats 4000000 in
set_option maxRecDepth 100000 in
/-- opening(wall, width, height) -/
theorem c_X_opening (l : Launch) (htr : l.stackTraces = false) (K : KG) (z : Nat) (b wn j : Nat) (ar oc lc x1 x2 x3 : Int) (h1 : r32 x1) (h2 : r32 x2) (h3 : r32 x3) (hn : wn ≤ 12) (hj : j < 12) (hjw : 0 ≤ x1 → x1 < wn → x1 = j) (har : r32 ar) (hoc : r32 oc) : Ct l yX_opening kX_opening rmX_opening (PX K z [.ref b, .int (iI x1), .int (iI x2), .int (iI x3)] (fun H => va_P (kD K) vcl [(b + 2 + 2 * j, .inr (1, [.int (iI ar), .int (iI oc), .int (iI lc), .ref (b + 2 + 2 * j + 1)]))] H ∧ va_P (kD K) vcl [(b, .inr (0, [.ref (b + 1), .int (iI ((wn : Int))), .ref (b + 26), .ref (b + 27), .ref (b + 98)])), (b + 1, .inl (kW K, 12, .inr (.inr (.inr (.inr (fun i => some (b + 2 + 2 * i)))))))] H)) (QTI (fun r _ H => (((0 ≤ x1 ∧ x1 < wn) ∧ (1 ≤ x2 ∧ x2 ≤ 1000) ∧ (1 ≤ x3 ∧ x3 ≤ 1000)) ∧ (oc < 6 ∧ x2 * x3 ≤ ar)) ∧ r = ar - x2 * x3 ∧ va_P (kD K) vcl [(b + 2 + 2 * j, .inr (1, [.int (iI (ar - x2 * x3)), .int (iI (oc + 1)), .int (iI lc), .ref (b + 2 + 2 * j + 1)]))] H) (fun E => (E = exA ∧ ¬ ((0 ≤ x1 ∧ x1 < wn) ∧ (1 ≤ x2 ∧ x2 ≤ 1000) ∧ (1 ≤ x3 ∧ x3 ≤ 1000))) ∨ (E = exS ∧ ((0 ≤ x1 ∧ x1 < wn) ∧ (1 ≤ x2 ∧ x2 ≤ 1000) ∧ (1 ≤ x3 ∧ x3 ≤ 1000)) ∧ ¬ (oc < 6 ∧ x2 * x3 ≤ ar)))) (fun q => q = b + 2 + 2 * j) := by
  refine ct_of (by decide) (Or.inl ⟨rfl, rfl⟩) ?_
  intro p e s m args below meth c B0 hP0
  obtain ⟨hx, hb, hr, hml, hown, hlocks, hnm, htab⟩ := B0
  obtain ⟨ha, hE, hB⟩ := hP0
  obtain ⟨hT, hK⟩ := hE.1
  have hl := lv_entry ([.ref b, .int (iI x1), .int (iI x2), .int (iI x3)]) (n := 5) (Nat.le_of_ble_eq_true rfl)
  obtain ⟨Q, hQ⟩ : ∃ Q, Q = XQ below (QTI (fun r _ H => (((0 ≤ x1 ∧ x1 < wn) ∧ (1 ≤ x2 ∧ x2 ≤ 1000) ∧ (1 ≤ x3 ∧ x3 ≤ 1000)) ∧ (oc < 6 ∧ x2 * x3 ≤ ar)) ∧ r = ar - x2 * x3 ∧ va_P (kD K) vcl [(b + 2 + 2 * j, .inr (1, [.int (iI (ar - x2 * x3)), .int (iI (oc + 1)), .int (iI lc), .ref (b + 2 + 2 * j + 1)]))] H) (fun E => (E = exA ∧ ¬ ((0 ≤ x1 ∧ x1 < wn) ∧ (1 ≤ x2 ∧ x2 ≤ 1000) ∧ (1 ≤ x3 ∧ x3 ≤ 1000))) ∨ (E = exS ∧ ((0 ≤ x1 ∧ x1 < wn) ∧ (1 ≤ x2 ∧ x2 ≤ 1000) ∧ (1 ≤ x3 ∧ x3 ≤ 1000)) ∧ ¬ (oc < 6 ∧ x2 * x3 ≤ ar)))) args s (rmX_opening).cells (rmX_opening).slots (fun q => q = b + 2 + 2 * j) := ⟨_, rfl⟩
  rw [← hQ, ha, lg_entry_eq]
  rw [ha] at hQ
  generalize (lg_sl ([.ref b, .int (iI x1), .int (iI x2), .int (iI x3)]) ++ List.replicate (5 - (lg_sl ([.ref b, .int (iI x1), .int (iI x2), .int (iI x3)])).length) Slot.unset).toArray = ls at hl ⊢
  generalize ([.ref b, .int (iI x1), .int (iI x2), .int (iI x3)] : List Value).toArray = args at hQ ⊢
  have hts : ∀ w ∈ TW, w.before args s = true := fun w h => hT w h args
  have hl : lv_has ls 5 [(0, .ref b), (1, .int (iI x1)), (2, .int (iI x2)), (3, .int (iI x3))] := hl
  obtain ⟨A, hAe⟩ : ∃ A : Addr → Prop, A = (fun q => q = b + 2 + 2 * j) := ⟨_, rfl⟩
  rw [← hAe] at hQ
  have hS : va_S A s.heap s.heap [] := va_S.rf
  obtain ⟨hP, hR⟩ := hB
  have hP : va_P (kD K) vcl [(b + 2 + 2 * j, .inr (1, [.int (iI ar), .int (iI oc), .int (iI lc), .ref (b + 2 + 2 * j + 1)]))] s.heap := hP
  have hD : va_D A [(b + 2 + 2 * j, .inr (1, [.int (iI ar), .int (iI oc), .int (iI lc), .ref (b + 2 + 2 * j + 1)]))] := by rw [hAe]; exact va_D_of (by simp <;> omega) (by simp <;> omega)
  have hR : va_P (kD K) vcl [(b, .inr (0, [.ref (b + 1), .int (iI ((wn : Int))), .ref (b + 26), .ref (b + 27), .ref (b + 98)])), (b + 1, .inl (kW K, 12, .inr (.inr (.inr (.inr (fun i => some (b + 2 + 2 * i)))))))] s.heap := hR
  have hRA : ∀ (k : Nat) (q : Nat × va_E), [(b, .inr (0, [.ref (b + 1), .int (iI ((wn : Int))), .ref (b + 26), .ref (b + 27), .ref (b + 98)])), (b + 1, .inl (kW K, 12, .inr (.inr (.inr (.inr (fun i => some (b + 2 + 2 * i)))))))][k]? = some q → ¬ A q.1 := by
    intro k q hk
    have hk := List.mem_of_getElem? hk
    simp only [List.mem_cons, List.not_mem_nil, or_false] at hk
    rw [hAe]
    rcases hk with rfl | rfl <;> (show ¬ _) <;> simp <;> omega
  refine lv_iload_n hx hb dX_opening_0 rfl (lv_at hl 1 rfl) ?_
  refine lv_aload_n hx hb dX_opening_1 rfl (lv_at hl 0 rfl) ?_
  refine va_get (D := kD K) (ci := 0) (v := .int (iI ((wn : Int)))) (C := RX) (T := FX) (N := 5) hx hb hts jnX hown hK (ro_at hS hR hRA) 0 rfl rfl 1 (by decide) (hts _ mt_127) (fun _ h9 => h9) rfl dX_opening_2 ?_
  refine ctS (n := 2) hx hb hml hown hT ⟨c_X_checkNumber l htr K z x1 wn ⟨by omega, by omega⟩ ⟨by omega, by omega⟩, ⟨_, _, _, Or.inl ⟨rfl, rfl⟩⟩, mt_152, mt_1, by decide, by decide +kernel, by decide, by decide, by decide, by decide⟩ PX.blind mt_150 mt_151 (As := [.int (iI x1), .int (iI ((wn : Int)))]) (rest := []) rfl (PX.at hE rfl trivial) hl.1 rfl (Nat.le_of_ble_eq_true rfl) dX_opening_5 (krC (c1 := 1) (s1 := 6) rfl rfl (fun _ h => h) rfl rfl (fun g1 => ?_) (fun x H1 hX hk hn => by rw [hQ]; exact x_out htab hlocks (fun _ _ h => Or.inr h) hX hk (Or.inl ⟨rfl, by omega⟩) (by decide) (by decide)))
  refine lv_iload_n hx hb dX_opening_8 rfl (lv_at hl 2 rfl) ?_
  refine iz_iconst hx hb dX_opening_9 ?_
  refine iz_sipush hx hb dX_opening_10 (by decide) ?_
  refine ctS (n := 3) hx hb hml hown hT ⟨c_X_checkBounds l htr K z x2 1 1000 ⟨by omega, by omega⟩ ⟨by omega, by omega⟩ ⟨by omega, by omega⟩, ⟨_, _, _, Or.inl ⟨rfl, rfl⟩⟩, mt_312, mt_1, by decide, by decide +kernel, by decide, by decide, by decide, by decide⟩ PX.blind mt_310 mt_311 (As := [.int (iI x2), .int (iI 1), .int (iI 1000)]) (rest := []) rfl (PX.at hE rfl trivial) hl.1 rfl (Nat.le_of_ble_eq_true rfl) dX_opening_13 (krC (c1 := 2) (s1 := 12) rfl rfl (fun _ h => h) rfl rfl (fun g2 => ?_) (fun x H1 hX hk hn => by rw [hQ]; exact x_out htab hlocks (fun _ _ h => Or.inr h) hX hk (Or.inl ⟨rfl, by omega⟩) (by decide) (by decide)))
  refine lv_iload_n hx hb dX_opening_16 rfl (lv_at hl 3 rfl) ?_
  refine iz_iconst hx hb dX_opening_17 ?_
  refine iz_sipush hx hb dX_opening_18 (by decide) ?_
  refine ctS (n := 3) hx hb hml hown hT ⟨c_X_checkBounds l htr K z x3 1 1000 ⟨by omega, by omega⟩ ⟨by omega, by omega⟩ ⟨by omega, by omega⟩, ⟨_, _, _, Or.inl ⟨rfl, rfl⟩⟩, mt_312, mt_1, by decide, by decide +kernel, by decide, by decide, by decide, by decide⟩ PX.blind mt_310 mt_311 (As := [.int (iI x3), .int (iI 1), .int (iI 1000)]) (rest := []) rfl (PX.at hE rfl trivial) hl.1 rfl (Nat.le_of_ble_eq_true rfl) dX_opening_21 (krC (c1 := 3) (s1 := 18) rfl rfl (fun _ h => h) rfl rfl (fun g3 => ?_) (fun x H1 hX hk hn => by rw [hQ]; exact x_out htab hlocks (fun _ _ h => Or.inr h) hX hk (Or.inl ⟨rfl, by omega⟩) (by decide) (by decide)))
  have hjw := hjw (by omega) (by omega)
  have hpr := mul_bd (show 0 ≤ x2 by omega) g2.2 (show 0 ≤ x3 by omega) g3.2
  refine lv_aload_n hx hb dX_opening_24 rfl (lv_at hl 0 rfl) ?_
  refine va_get (D := kD K) (ci := 0) (v := .ref (b + 1)) (C := RX) (T := FX) (N := 5) hx hb hts jnX hown hK (ro_at hS hR hRA) 0 rfl rfl 0 (by decide) (hts _ mt_126) (fun _ h9 => h9) rfl dX_opening_25 ?_
  refine lv_iload_n hx hb dX_opening_28 rfl (lv_at hl 1 rfl) ?_
  refine iz_aald hx hb hK (ro_at hS hR hRA) 1 2 rfl rfl j hjw (by omega) (by omega) rfl dX_opening_29 ?_
  refine lv_astore (lv' := [(4, .ref (b + 2 + 2 * j)), (0, .ref b), (1, .int (iI x1)), (2, .int (iI x2)), (3, .int (iI x3))]) hx hb dX_opening_30 hl (by decide) rfl (fun ls hl => ?_)
  refine lv_aload hx hb dX_opening_32 (lv_at hl 0 rfl) ?_
  refine va_getN (D := kD K) (ci := 1) (v := .int (iI oc)) (C := RW) (T := FW) (N := 4) hx hb hts jnW hown hK hP 0 rfl rfl 1 (by decide) (hts _ mt_30) (fun _ h9 => h9) rfl dX_opening_34 ?_
  refine iz_bipush hx hb dX_opening_37 (by decide) ?_
  refine ctS (n := 2) hx hb hml hown hT ⟨c_X_checkSpace l htr K z oc 6 ⟨by omega, by omega⟩ ⟨by omega, by omega⟩, ⟨_, _, _, Or.inl ⟨rfl, rfl⟩⟩, mt_316, mt_1, by decide, by decide +kernel, by decide, by decide, by decide, by decide⟩ PX.blind mt_314 mt_315 (As := [.int (iI oc), .int (iI 6)]) (rest := []) rfl (PX.at hE rfl trivial) hl.1 rfl (Nat.le_of_ble_eq_true rfl) dX_opening_39 (krC (c1 := 4) (s1 := 24) rfl rfl (fun _ h => h) rfl rfl (fun g4 => ?_) (fun x H1 hX hk hn => by rw [hQ]; exact x_out htab hlocks (fun _ _ h => Or.inr h) hX hk (Or.inr ⟨rfl, by omega, by omega⟩) (by decide) (by decide)))
  refine lv_iload_n hx hb dX_opening_42 rfl (lv_at hl 3 rfl) ?_
  refine lv_iload_n hx hb dX_opening_43 rfl (lv_at hl 4 rfl) ?_
  refine iz_imul hx hb dX_opening_44 ?_
  refine lv_aload hx hb dX_opening_45 (lv_at hl 0 rfl) ?_
  refine va_getN (D := kD K) (ci := 1) (v := .int (iI ar)) (C := RW) (T := FW) (N := 4) hx hb hts jnW hown hK hP 0 rfl rfl 0 (by decide) (hts _ mt_29) (fun _ h9 => h9) rfl dX_opening_47 ?_
  refine iz_icmp_le (tgt := 63) hx hb ⟨by omega, by omega⟩ ⟨by omega, by omega⟩ dX_opening_50 (by decide) (fun g5 => ?_) (fun g5 => ?_)
  · refine lv_aload hx hb dX_opening_63 (lv_at hl 0 rfl) ?_
    refine lv_dup hx hb dX_opening_65 rfl ?_
    refine va_getN (D := kD K) (ci := 1) (v := .int (iI ar)) (C := RW) (T := FW) (N := 4) hx hb hts jnW hown hK hP 0 rfl rfl 0 (by decide) (hts _ mt_29) (fun _ h9 => h9) rfl dX_opening_66 ?_
    refine lv_iload_n hx hb dX_opening_69 rfl (lv_at hl 3 rfl) ?_
    refine lv_iload_n hx hb dX_opening_70 rfl (lv_at hl 4 rfl) ?_
    refine iz_imul hx hb dX_opening_71 ?_
    refine iz_isub hx hb dX_opening_72 ?_
    refine va_putN (D := kD K) (ci := 1) (v := .int (iI (ar - (x2 * x3)))) (ty := .int) (C := RW) (T := FW) (N := 4) hx hb hts jnW tW tW_ok nW hown hK hP hD hS 0 rfl rfl 0 (by decide) (hts _ mt_29) (fun _ h9 => h9) rfl (by decide +kernel) rfl rfl (Nat.le_of_ble_eq_true rfl) dX_opening_73 (fun H locs hP hD hS => ?_)
    have hP : va_P (kD K) vcl [(b + 2 + 2 * j, .inr (1, [.int (iI (ar - (x2 * x3))), .int (iI oc), .int (iI lc), .ref (b + 2 + 2 * j + 1)]))] H := hP
    have hD : va_D A [(b + 2 + 2 * j, .inr (1, [.int (iI (ar - (x2 * x3))), .int (iI oc), .int (iI lc), .ref (b + 2 + 2 * j + 1)]))] := hD
    refine lv_aload hx hb dX_opening_76 (lv_at hl 0 rfl) ?_
    refine lv_dup hx hb dX_opening_78 rfl ?_
    refine va_getN (D := kD K) (ci := 1) (v := .int (iI oc)) (C := RW) (T := FW) (N := 4) hx hb hts jnW hown hK hP 0 rfl rfl 1 (by decide) (hts _ mt_30) (fun _ h9 => h9) rfl dX_opening_79 ?_
    refine iz_iconst hx hb dX_opening_82 ?_
    refine iz_iadd hx hb dX_opening_83 ?_
    refine va_putN (D := kD K) (ci := 1) (v := .int (iI (oc + 1))) (ty := .int) (C := RW) (T := FW) (N := 4) hx hb hts jnW tW tW_ok nW hown hK hP hD hS 0 rfl rfl 1 (by decide) (hts _ mt_30) (fun _ h9 => h9) rfl (by decide +kernel) rfl rfl (Nat.le_of_ble_eq_true rfl) dX_opening_84 (fun H locs hP hD hS => ?_)
    have hP : va_P (kD K) vcl [(b + 2 + 2 * j, .inr (1, [.int (iI (ar - (x2 * x3))), .int (iI (oc + 1)), .int (iI lc), .ref (b + 2 + 2 * j + 1)]))] H := hP
    have hD : va_D A [(b + 2 + 2 * j, .inr (1, [.int (iI (ar - (x2 * x3))), .int (iI (oc + 1)), .int (iI lc), .ref (b + 2 + 2 * j + 1)]))] := hD
    refine lv_aload hx hb dX_opening_87 (lv_at hl 0 rfl) ?_
    refine va_getN (D := kD K) (ci := 1) (v := .int (iI (ar - (x2 * x3)))) (C := RW) (T := FW) (N := 4) hx hb hts jnW hown hK hP 0 rfl rfl 0 (by decide) (hts _ mt_29) (fun _ h9 => h9) rfl dX_opening_89 ?_
    rw [hQ]
    exact ix_iret hx hb hr hlocks (⟨⟨⟨g1, g2, g3⟩, g4, g5⟩, rfl, hP⟩) hS.2.2 (by decide) (by decide) dX_opening_92
  · rw [hQ]
    exact tx_throw hx hb htr hE hown (by decide) (by decide) at_S mt_317 mt_10 mt_340 (hl.1.trans hml.symm) dX_opening_53 dX_opening_56 dX_opening_57 dX_opening_59 dX_opening_62 htab hlocks (by decide) (Nat.le_of_ble_eq_true rfl) (Nat.le_of_ble_eq_true rfl) (Nat.le_of_ble_eq_true rfl) (Nat.le_of_ble_eq_true rfl) (Nat.le_of_ble_eq_true rfl) (fun x t hW hX hke => Or.inr ⟨x, exS, rfl, hX, hke, Or.inr ⟨rfl, by omega, by omega⟩⟩)
abbrev rmX_layer : Room := { frames := 8, cells := 4, slots := 24, locals := 140 }
set_option maxHeartbeats 4000000 in
set_option maxRecDepth 100000 in
/-- layer(wall, stuff, thickness) -/
theorem c_X_layer (l : Launch) (htr : l.stackTraces = false) (K : KG) (z : Nat) (b wn j k2 : Nat) (ar oc lc x1 x2 x3 : Int) (th : Nat → Int) (h1 : r32 x1) (h2 : r32 x2) (h3 : r32 x3) (hn : wn ≤ 12) (hj : j < 12) (hjw : 0 ≤ x1 → x1 < wn → x1 = j) (hk2 : 0 ≤ x2 → x2 < 10 → x2 = k2) (hlc : r32 lc) : Ct l yX_layer kX_layer rmX_layer (PX K z [.ref b, .int (iI x1), .int (iI x2), .int (iI x3)] (fun H => va_P (kD K) vcl [(b + 2 + 2 * j, .inr (1, [.int (iI ar), .int (iI oc), .int (iI lc), .ref (b + 2 + 2 * j + 1)])), (b + 2 + 2 * j + 1, .inl (kI K, 10, .inl (iA th)))] H ∧ va_P (kD K) vcl [(b, .inr (0, [.ref (b + 1), .int (iI ((wn : Int))), .ref (b + 26), .ref (b + 27), .ref (b + 98)])), (b + 1, .inl (kW K, 12, .inr (.inr (.inr (.inr (fun i => some (b + 2 + 2 * i)))))))] H)) (QTI (fun r _ H => (((0 ≤ x1 ∧ x1 < wn) ∧ (0 ≤ x2 ∧ x2 < 10) ∧ (1 ≤ x3 ∧ x3 ≤ 500)) ∧ lc < 8) ∧ r = lc + 1 ∧ va_P (kD K) vcl [(b + 2 + 2 * j, .inr (1, [.int (iI ar), .int (iI oc), .int (iI (lc + 1)), .ref (b + 2 + 2 * j + 1)])), (b + 2 + 2 * j + 1, .inl (kI K, 10, .inl (iA (ut th k2 (th k2 + x3)))))] H) (fun E => (E = exA ∧ ¬ ((0 ≤ x1 ∧ x1 < wn) ∧ (0 ≤ x2 ∧ x2 < 10) ∧ (1 ≤ x3 ∧ x3 ≤ 500))) ∨ (E = exS ∧ ((0 ≤ x1 ∧ x1 < wn) ∧ (0 ≤ x2 ∧ x2 < 10) ∧ (1 ≤ x3 ∧ x3 ≤ 500)) ∧ ¬ lc < 8))) (fun q => q = b + 2 + 2 * j ∨ q = b + 2 + 2 * j + 1) := by
  refine ct_of (by decide) (Or.inl ⟨rfl, rfl⟩) ?_
  intro p e s m args below meth c B0 hP0
  obtain ⟨hx, hb, hr, hml, hown, hlocks, hnm, htab⟩ := B0
  obtain ⟨ha, hE, hB⟩ := hP0
  obtain ⟨hT, hK⟩ := hE.1
  have hl := lv_entry ([.ref b, .int (iI x1), .int (iI x2), .int (iI x3)]) (n := 5) (Nat.le_of_ble_eq_true rfl)
  obtain ⟨Q, hQ⟩ : ∃ Q, Q = XQ below (QTI (fun r _ H => (((0 ≤ x1 ∧ x1 < wn) ∧ (0 ≤ x2 ∧ x2 < 10) ∧ (1 ≤ x3 ∧ x3 ≤ 500)) ∧ lc < 8) ∧ r = lc + 1 ∧ va_P (kD K) vcl [(b + 2 + 2 * j, .inr (1, [.int (iI ar), .int (iI oc), .int (iI (lc + 1)), .ref (b + 2 + 2 * j + 1)])), (b + 2 + 2 * j + 1, .inl (kI K, 10, .inl (iA (ut th k2 (th k2 + x3)))))] H) (fun E => (E = exA ∧ ¬ ((0 ≤ x1 ∧ x1 < wn) ∧ (0 ≤ x2 ∧ x2 < 10) ∧ (1 ≤ x3 ∧ x3 ≤ 500))) ∨ (E = exS ∧ ((0 ≤ x1 ∧ x1 < wn) ∧ (0 ≤ x2 ∧ x2 < 10) ∧ (1 ≤ x3 ∧ x3 ≤ 500)) ∧ ¬ lc < 8))) args s (rmX_layer).cells (rmX_layer).slots (fun q => q = b + 2 + 2 * j ∨ q = b + 2 + 2 * j + 1) := ⟨_, rfl⟩
  rw [← hQ, ha, lg_entry_eq]
  rw [ha] at hQ
  generalize (lg_sl ([.ref b, .int (iI x1), .int (iI x2), .int (iI x3)]) ++ List.replicate (5 - (lg_sl ([.ref b, .int (iI x1), .int (iI x2), .int (iI x3)])).length) Slot.unset).toArray = ls at hl ⊢
  generalize ([.ref b, .int (iI x1), .int (iI x2), .int (iI x3)] : List Value).toArray = args at hQ ⊢
  have hts : ∀ w ∈ TW, w.before args s = true := fun w h => hT w h args
  have hl : lv_has ls 5 [(0, .ref b), (1, .int (iI x1)), (2, .int (iI x2)), (3, .int (iI x3))] := hl
  obtain ⟨A, hAe⟩ : ∃ A : Addr → Prop, A = (fun q => q = b + 2 + 2 * j ∨ q = b + 2 + 2 * j + 1) := ⟨_, rfl⟩
  rw [← hAe] at hQ
  have hS : va_S A s.heap s.heap [] := va_S.rf
  obtain ⟨hP, hR⟩ := hB
  have hP : va_P (kD K) vcl [(b + 2 + 2 * j, .inr (1, [.int (iI ar), .int (iI oc), .int (iI lc), .ref (b + 2 + 2 * j + 1)])), (b + 2 + 2 * j + 1, .inl (kI K, 10, .inl (iA th)))] s.heap := hP
  have hD : va_D A [(b + 2 + 2 * j, .inr (1, [.int (iI ar), .int (iI oc), .int (iI lc), .ref (b + 2 + 2 * j + 1)])), (b + 2 + 2 * j + 1, .inl (kI K, 10, .inl (iA th)))] := by rw [hAe]; exact va_D_of (by simp <;> omega) (by simp <;> omega)
  have hR : va_P (kD K) vcl [(b, .inr (0, [.ref (b + 1), .int (iI ((wn : Int))), .ref (b + 26), .ref (b + 27), .ref (b + 98)])), (b + 1, .inl (kW K, 12, .inr (.inr (.inr (.inr (fun i => some (b + 2 + 2 * i)))))))] s.heap := hR
  have hRA : ∀ (k : Nat) (q : Nat × va_E), [(b, .inr (0, [.ref (b + 1), .int (iI ((wn : Int))), .ref (b + 26), .ref (b + 27), .ref (b + 98)])), (b + 1, .inl (kW K, 12, .inr (.inr (.inr (.inr (fun i => some (b + 2 + 2 * i)))))))][k]? = some q → ¬ A q.1 := by
    intro k q hk
    have hk := List.mem_of_getElem? hk
    simp only [List.mem_cons, List.not_mem_nil, or_false] at hk
    rw [hAe]
    rcases hk with rfl | rfl <;> (show ¬ _) <;> simp <;> omega
  refine lv_iload_n hx hb dX_layer_0 rfl (lv_at hl 1 rfl) ?_
  refine lv_aload_n hx hb dX_layer_1 rfl (lv_at hl 0 rfl) ?_
  refine va_get (D := kD K) (ci := 0) (v := .int (iI ((wn : Int)))) (C := RX) (T := FX) (N := 5) hx hb hts jnX hown hK (ro_at hS hR hRA) 0 rfl rfl 1 (by decide) (hts _ mt_127) (fun _ h9 => h9) rfl dX_layer_2 ?_
  refine ctS (n := 2) hx hb hml hown hT ⟨c_X_checkNumber l htr K z x1 wn ⟨by omega, by omega⟩ ⟨by omega, by omega⟩, ⟨_, _, _, Or.inl ⟨rfl, rfl⟩⟩, mt_152, mt_1, by decide, by decide +kernel, by decide, by decide, by decide, by decide⟩ PX.blind mt_150 mt_151 (As := [.int (iI x1), .int (iI ((wn : Int)))]) (rest := []) rfl (PX.at hE rfl trivial) hl.1 rfl (Nat.le_of_ble_eq_true rfl) dX_layer_5 (krC (c1 := 1) (s1 := 6) rfl rfl (fun _ h => h) rfl rfl (fun g1 => ?_) (fun x H1 hX hk hn => by rw [hQ]; exact x_out htab hlocks (fun _ _ h => Or.inr h) hX hk (Or.inl ⟨rfl, by omega⟩) (by decide) (by decide)))
  refine lv_iload_n hx hb dX_layer_8 rfl (lv_at hl 2 rfl) ?_
  refine iz_bipush hx hb dX_layer_9 (by decide) ?_
  refine ctS (n := 2) hx hb hml hown hT ⟨c_X_checkNumber l htr K z x2 10 ⟨by omega, by omega⟩ ⟨by omega, by omega⟩, ⟨_, _, _, Or.inl ⟨rfl, rfl⟩⟩, mt_152, mt_1, by decide, by decide +kernel, by decide, by decide, by decide, by decide⟩ PX.blind mt_150 mt_151 (As := [.int (iI x2), .int (iI 10)]) (rest := []) rfl (PX.at hE rfl trivial) hl.1 rfl (Nat.le_of_ble_eq_true rfl) dX_layer_11 (krC (c1 := 2) (s1 := 12) rfl rfl (fun _ h => h) rfl rfl (fun g2 => ?_) (fun x H1 hX hk hn => by rw [hQ]; exact x_out htab hlocks (fun _ _ h => Or.inr h) hX hk (Or.inl ⟨rfl, by omega⟩) (by decide) (by decide)))
  refine lv_iload_n hx hb dX_layer_14 rfl (lv_at hl 3 rfl) ?_
  refine iz_iconst hx hb dX_layer_15 ?_
  refine iz_sipush hx hb dX_layer_16 (by decide) ?_
  refine ctS (n := 3) hx hb hml hown hT ⟨c_X_checkBounds l htr K z x3 1 500 ⟨by omega, by omega⟩ ⟨by omega, by omega⟩ ⟨by omega, by omega⟩, ⟨_, _, _, Or.inl ⟨rfl, rfl⟩⟩, mt_312, mt_1, by decide, by decide +kernel, by decide, by decide, by decide, by decide⟩ PX.blind mt_310 mt_311 (As := [.int (iI x3), .int (iI 1), .int (iI 500)]) (rest := []) rfl (PX.at hE rfl trivial) hl.1 rfl (Nat.le_of_ble_eq_true rfl) dX_layer_19 (krC (c1 := 3) (s1 := 18) rfl rfl (fun _ h => h) rfl rfl (fun g3 => ?_) (fun x H1 hX hk hn => by rw [hQ]; exact x_out htab hlocks (fun _ _ h => Or.inr h) hX hk (Or.inl ⟨rfl, by omega⟩) (by decide) (by decide)))
  have hjw := hjw (by omega) (by omega)
  have hk2 := hk2 (by omega) (by omega)
  refine lv_aload_n hx hb dX_layer_22 rfl (lv_at hl 0 rfl) ?_
  refine va_get (D := kD K) (ci := 0) (v := .ref (b + 1)) (C := RX) (T := FX) (N := 5) hx hb hts jnX hown hK (ro_at hS hR hRA) 0 rfl rfl 0 (by decide) (hts _ mt_126) (fun _ h9 => h9) rfl dX_layer_23 ?_
  refine lv_iload_n hx hb dX_layer_26 rfl (lv_at hl 1 rfl) ?_
  refine iz_aald hx hb hK (ro_at hS hR hRA) 1 2 rfl rfl j hjw (by omega) (by omega) rfl dX_layer_27 ?_
  refine lv_astore (lv' := [(4, .ref (b + 2 + 2 * j)), (0, .ref b), (1, .int (iI x1)), (2, .int (iI x2)), (3, .int (iI x3))]) hx hb dX_layer_28 hl (by decide) rfl (fun ls hl => ?_)
  refine lv_aload hx hb dX_layer_30 (lv_at hl 0 rfl) ?_
  refine va_getN (D := kD K) (ci := 1) (v := .int (iI lc)) (C := RW) (T := FW) (N := 4) hx hb hts jnW hown hK hP 0 rfl rfl 2 (by decide) (hts _ mt_31) (fun _ h9 => h9) rfl dX_layer_32 ?_
  refine iz_bipush hx hb dX_layer_35 (by decide) ?_
  refine ctS (n := 2) hx hb hml hown hT ⟨c_X_checkSpace l htr K z lc 8 ⟨by omega, by omega⟩ ⟨by omega, by omega⟩, ⟨_, _, _, Or.inl ⟨rfl, rfl⟩⟩, mt_316, mt_1, by decide, by decide +kernel, by decide, by decide, by decide, by decide⟩ PX.blind mt_314 mt_315 (As := [.int (iI lc), .int (iI 8)]) (rest := []) rfl (PX.at hE rfl trivial) hl.1 rfl (Nat.le_of_ble_eq_true rfl) dX_layer_37 (krC (c1 := 4) (s1 := 24) rfl rfl (fun _ h => h) rfl rfl (fun g4 => ?_) (fun x H1 hX hk hn => by rw [hQ]; exact x_out htab hlocks (fun _ _ h => Or.inr h) hX hk (Or.inr ⟨rfl, by omega, by omega⟩) (by decide) (by decide)))
  refine lv_aload hx hb dX_layer_40 (lv_at hl 0 rfl) ?_
  refine va_getN (D := kD K) (ci := 1) (v := .ref (b + 2 + 2 * j + 1)) (C := RW) (T := FW) (N := 4) hx hb hts jnW hown hK hP 0 rfl rfl 3 (by decide) (hts _ mt_33) (fun _ h9 => h9) rfl dX_layer_42 ?_
  refine lv_iload_n hx hb dX_layer_45 rfl (lv_at hl 3 rfl) ?_
  refine lv_dup2_11 hx hb dX_layer_46 rfl rfl ?_
  refine iz_iald hx hb hK hP 1 rfl k2 hk2 (by omega) (by omega) dX_layer_47 ?_
  refine lv_iload_n hx hb dX_layer_48 rfl (lv_at hl 4 rfl) ?_
  refine iz_iadd hx hb dX_layer_49 ?_
  refine iz_iast hx hb hK hP hD hS 1 rfl k2 hk2 (by omega) (by omega) dX_layer_50 (fun H locs hP hD hS => ?_)
  have hP : va_P (kD K) vcl [(b + 2 + 2 * j, .inr (1, [.int (iI ar), .int (iI oc), .int (iI lc), .ref (b + 2 + 2 * j + 1)])), (b + 2 + 2 * j + 1, .inl (kI K, 10, .inl (iA (ut th k2 ((th k2) + x3)))))] H := hP
  have hD : va_D A [(b + 2 + 2 * j, .inr (1, [.int (iI ar), .int (iI oc), .int (iI lc), .ref (b + 2 + 2 * j + 1)])), (b + 2 + 2 * j + 1, .inl (kI K, 10, .inl (iA (ut th k2 ((th k2) + x3)))))] := hD
  refine lv_aload hx hb dX_layer_51 (lv_at hl 0 rfl) ?_
  refine lv_dup hx hb dX_layer_53 rfl ?_
  refine va_getN (D := kD K) (ci := 1) (v := .int (iI lc)) (C := RW) (T := FW) (N := 4) hx hb hts jnW hown hK hP 0 rfl rfl 2 (by decide) (hts _ mt_31) (fun _ h9 => h9) rfl dX_layer_54 ?_
  refine iz_iconst hx hb dX_layer_57 ?_
  refine iz_iadd hx hb dX_layer_58 ?_
  refine va_putN (D := kD K) (ci := 1) (v := .int (iI (lc + 1))) (ty := .int) (C := RW) (T := FW) (N := 4) hx hb hts jnW tW tW_ok nW hown hK hP hD hS 0 rfl rfl 2 (by decide) (hts _ mt_31) (fun _ h9 => h9) rfl (by decide +kernel) rfl rfl (Nat.le_of_ble_eq_true rfl) dX_layer_59 (fun H locs hP hD hS => ?_)
  have hP : va_P (kD K) vcl [(b + 2 + 2 * j, .inr (1, [.int (iI ar), .int (iI oc), .int (iI (lc + 1)), .ref (b + 2 + 2 * j + 1)])), (b + 2 + 2 * j + 1, .inl (kI K, 10, .inl (iA (ut th k2 ((th k2) + x3)))))] H := hP
  have hD : va_D A [(b + 2 + 2 * j, .inr (1, [.int (iI ar), .int (iI oc), .int (iI (lc + 1)), .ref (b + 2 + 2 * j + 1)])), (b + 2 + 2 * j + 1, .inl (kI K, 10, .inl (iA (ut th k2 ((th k2) + x3)))))] := hD
  refine lv_aload hx hb dX_layer_62 (lv_at hl 0 rfl) ?_
  refine va_getN (D := kD K) (ci := 1) (v := .int (iI (lc + 1))) (C := RW) (T := FW) (N := 4) hx hb hts jnW hown hK hP 0 rfl rfl 2 (by decide) (hts _ mt_31) (fun _ h9 => h9) rfl dX_layer_64 ?_
  rw [hQ]
  exact ix_iret hx hb hr hlocks (⟨⟨⟨g1, g2, g3⟩, g4⟩, rfl, hP⟩) hS.2.2 (by decide) (by decide) dX_layer_67
abbrev rmX_waste : Room := { frames := 8, cells := 2, slots := 12, locals := 140 }
set_option maxHeartbeats 4000000 in
set_option maxRecDepth 100000 in
/-- waste(stuff, hundredths) -/
theorem c_X_waste (l : Launch) (htr : l.stackTraces = false) (K : KG) (z : Nat) (b wn k : Nat) (x1 x2 : Int) (wa : Nat → Int) (h1 : r32 x1) (h2 : r32 x2) (hk : 0 ≤ x1 → x1 < 10 → x1 = k) : Ct l yX_waste kX_waste rmX_waste (PX K z [.ref b, .int (iI x1), .int (iI x2)] (fun H => va_P (kD K) vcl [(b + 26, .inl (kI K, 10, .inl (iA wa)))] H ∧ va_P (kD K) vcl [(b, .inr (0, [.ref (b + 1), .int (iI ((wn : Int))), .ref (b + 26), .ref (b + 27), .ref (b + 98)]))] H)) (QTI (fun r _ H => ((0 ≤ x1 ∧ x1 < 10) ∧ (0 ≤ x2 ∧ x2 ≤ 100)) ∧ r = wa k ∧ va_P (kD K) vcl [(b + 26, .inl (kI K, 10, .inl (iA (ut wa k x2))))] H) (fun E => E = exA ∧ ¬ ((0 ≤ x1 ∧ x1 < 10) ∧ (0 ≤ x2 ∧ x2 ≤ 100)))) (fun q => q = b + 26) := by
  refine ct_of (by decide) (Or.inl ⟨rfl, rfl⟩) ?_
  intro p e s m args below meth c B0 hP0
  obtain ⟨hx, hb, hr, hml, hown, hlocks, hnm, htab⟩ := B0
  obtain ⟨ha, hE, hB⟩ := hP0
  obtain ⟨hT, hK⟩ := hE.1
  have hl := lv_entry ([.ref b, .int (iI x1), .int (iI x2)]) (n := 4) (Nat.le_of_ble_eq_true rfl)
  obtain ⟨Q, hQ⟩ : ∃ Q, Q = XQ below (QTI (fun r _ H => ((0 ≤ x1 ∧ x1 < 10) ∧ (0 ≤ x2 ∧ x2 ≤ 100)) ∧ r = wa k ∧ va_P (kD K) vcl [(b + 26, .inl (kI K, 10, .inl (iA (ut wa k x2))))] H) (fun E => E = exA ∧ ¬ ((0 ≤ x1 ∧ x1 < 10) ∧ (0 ≤ x2 ∧ x2 ≤ 100)))) args s (rmX_waste).cells (rmX_waste).slots (fun q => q = b + 26) := ⟨_, rfl⟩
  rw [← hQ, ha, lg_entry_eq]
  rw [ha] at hQ
  generalize (lg_sl ([.ref b, .int (iI x1), .int (iI x2)]) ++ List.replicate (4 - (lg_sl ([.ref b, .int (iI x1), .int (iI x2)])).length) Slot.unset).toArray = ls at hl ⊢
  generalize ([.ref b, .int (iI x1), .int (iI x2)] : List Value).toArray = args at hQ ⊢
  have hts : ∀ w ∈ TW, w.before args s = true := fun w h => hT w h args
  have hl : lv_has ls 4 [(0, .ref b), (1, .int (iI x1)), (2, .int (iI x2))] := hl
  obtain ⟨A, hAe⟩ : ∃ A : Addr → Prop, A = (fun q => q = b + 26) := ⟨_, rfl⟩
  rw [← hAe] at hQ
  have hS : va_S A s.heap s.heap [] := va_S.rf
  obtain ⟨hP, hR⟩ := hB
  have hP : va_P (kD K) vcl [(b + 26, .inl (kI K, 10, .inl (iA wa)))] s.heap := hP
  have hD : va_D A [(b + 26, .inl (kI K, 10, .inl (iA wa)))] := by rw [hAe]; exact va_D_of (by simp <;> omega) (by simp <;> omega)
  have hR : va_P (kD K) vcl [(b, .inr (0, [.ref (b + 1), .int (iI ((wn : Int))), .ref (b + 26), .ref (b + 27), .ref (b + 98)]))] s.heap := hR
  have hRA : ∀ (k : Nat) (q : Nat × va_E), [(b, .inr (0, [.ref (b + 1), .int (iI ((wn : Int))), .ref (b + 26), .ref (b + 27), .ref (b + 98)]))][k]? = some q → ¬ A q.1 := by
    intro k q hk
    have hk := List.mem_of_getElem? hk
    simp only [List.mem_cons, List.not_mem_nil, or_false] at hk
    rw [hAe]
    rcases hk with rfl <;> (show ¬ _) <;> simp <;> omega
  refine lv_iload_n hx hb dX_waste_0 rfl (lv_at hl 1 rfl) ?_
  refine iz_bipush hx hb dX_waste_1 (by decide) ?_
  refine ctS (n := 2) hx hb hml hown hT ⟨c_X_checkNumber l htr K z x1 10 ⟨by omega, by omega⟩ ⟨by omega, by omega⟩, ⟨_, _, _, Or.inl ⟨rfl, rfl⟩⟩, mt_152, mt_1, by decide, by decide +kernel, by decide, by decide, by decide, by decide⟩ PX.blind mt_150 mt_151 (As := [.int (iI x1), .int (iI 10)]) (rest := []) rfl (PX.at hE rfl trivial) hl.1 rfl (Nat.le_of_ble_eq_true rfl) dX_waste_3 (krC (c1 := 1) (s1 := 6) rfl rfl (fun _ h => h) rfl rfl (fun g1 => ?_) (fun x H1 hX hk hn => by rw [hQ]; exact x_out htab hlocks (fun _ _ h => Or.inr h) hX hk (⟨rfl, by omega⟩) (by decide) (by decide)))
  refine lv_iload_n hx hb dX_waste_6 rfl (lv_at hl 2 rfl) ?_
  refine iz_iconst hx hb dX_waste_7 ?_
  refine iz_bipush hx hb dX_waste_8 (by decide) ?_
  refine ctS (n := 3) hx hb hml hown hT ⟨c_X_checkBounds l htr K z x2 0 100 ⟨by omega, by omega⟩ ⟨by omega, by omega⟩ ⟨by omega, by omega⟩, ⟨_, _, _, Or.inl ⟨rfl, rfl⟩⟩, mt_312, mt_1, by decide, by decide +kernel, by decide, by decide, by decide, by decide⟩ PX.blind mt_310 mt_311 (As := [.int (iI x2), .int (iI 0), .int (iI 100)]) (rest := []) rfl (PX.at hE rfl trivial) hl.1 rfl (Nat.le_of_ble_eq_true rfl) dX_waste_10 (krC (c1 := 2) (s1 := 12) rfl rfl (fun _ h => h) rfl rfl (fun g2 => ?_) (fun x H1 hX hk hn => by rw [hQ]; exact x_out htab hlocks (fun _ _ h => Or.inr h) hX hk (⟨rfl, by omega⟩) (by decide) (by decide)))
  have hk := hk (by omega) (by omega)
  refine lv_aload_n hx hb dX_waste_13 rfl (lv_at hl 0 rfl) ?_
  refine va_get (D := kD K) (ci := 0) (v := .ref (b + 26)) (C := RX) (T := FX) (N := 5) hx hb hts jnX hown hK (ro_at hS hR hRA) 0 rfl rfl 2 (by decide) (hts _ mt_128) (fun _ h9 => h9) rfl dX_waste_14 ?_
  refine lv_iload_n hx hb dX_waste_17 rfl (lv_at hl 1 rfl) ?_
  refine iz_iald hx hb hK hP 0 rfl k hk (by omega) (by omega) dX_waste_18 ?_
  refine lv_istore_n (lv' := [(3, .int (iI (wa k))), (0, .ref b), (1, .int (iI x1)), (2, .int (iI x2))]) hx hb dX_waste_19 rfl hl (by decide) rfl (fun ls hl => ?_)
  refine lv_aload_n hx hb dX_waste_20 rfl (lv_at hl 1 rfl) ?_
  refine va_get (D := kD K) (ci := 0) (v := .ref (b + 26)) (C := RX) (T := FX) (N := 5) hx hb hts jnX hown hK (ro_at hS hR hRA) 0 rfl rfl 2 (by decide) (hts _ mt_128) (fun _ h9 => h9) rfl dX_waste_21 ?_
  refine lv_iload_n hx hb dX_waste_24 rfl (lv_at hl 2 rfl) ?_
  refine lv_iload_n hx hb dX_waste_25 rfl (lv_at hl 3 rfl) ?_
  refine iz_iast hx hb hK hP hD hS 0 rfl k hk (by omega) (by omega) dX_waste_26 (fun H locs hP hD hS => ?_)
  have hP : va_P (kD K) vcl [(b + 26, .inl (kI K, 10, .inl (iA (ut wa k x2))))] H := hP
  have hD : va_D A [(b + 26, .inl (kI K, 10, .inl (iA (ut wa k x2))))] := hD
  refine lv_iload_n hx hb dX_waste_27 rfl (lv_at hl 0 rfl) ?_
  rw [hQ]
  exact ix_iret hx hb hr hlocks (⟨⟨g1, g2⟩, rfl, hP⟩) hS.2.2 (by decide) (by decide) dX_waste_28
abbrev rmX_told : Room := { frames := 8, cells := 2, slots := 12, locals := 140 }
set_option maxHeartbeats 4000000 in
set_option maxRecDepth 100000 in
/-- told(wall, what) -/
theorem c_X_told (l : Launch) (htr : l.stackTraces = false) (K : KG) (z : Nat) (b wn j : Nat) (ar oc lc x1 x2 : Int) (th : Nat → Int) (h1 : r32 x1) (h2 : r32 x2) (hn : wn ≤ 12) (hj : j < 12) (hjw : 0 ≤ x1 → x1 < wn → x1 = j) : Ct l yX_told kX_told rmX_told (PX K z [.ref b, .int (iI x1), .int (iI x2)] (fun H => va_P (kD K) vcl [(b, .inr (0, [.ref (b + 1), .int (iI ((wn : Int))), .ref (b + 26), .ref (b + 27), .ref (b + 98)])), (b + 1, .inl (kW K, 12, .inr (.inr (.inr (.inr (fun i => some (b + 2 + 2 * i))))))), (b + 2 + 2 * j, .inr (1, [.int (iI ar), .int (iI oc), .int (iI lc), .ref (b + 2 + 2 * j + 1)])), (b + 2 + 2 * j + 1, .inl (kI K, 10, .inl (iA th)))] H)) (QTI (fun r H0 H => ((0 ≤ x1 ∧ x1 < wn) ∧ (0 ≤ x2 ∧ x2 ≤ 2)) ∧ H = H0 ∧ r = (if x2 = 0 then ar else if x2 = 1 then sm th 0 10 else oc)) (fun E => E = exA ∧ ¬ ((0 ≤ x1 ∧ x1 < wn) ∧ (0 ≤ x2 ∧ x2 ≤ 2)))) (fun _ => False) := by
  refine ct_of (by decide) (Or.inl ⟨rfl, rfl⟩) ?_
  intro p e s m args below meth c B0 hP0
  obtain ⟨hx, hb, hr, hml, hown, hlocks, hnm, htab⟩ := B0
  obtain ⟨ha, hE, hB⟩ := hP0
  obtain ⟨hT, hK⟩ := hE.1
  have hl := lv_entry ([.ref b, .int (iI x1), .int (iI x2)]) (n := 4) (Nat.le_of_ble_eq_true rfl)
  obtain ⟨Q, hQ⟩ : ∃ Q, Q = XQ below (QTI (fun r H0 H => ((0 ≤ x1 ∧ x1 < wn) ∧ (0 ≤ x2 ∧ x2 ≤ 2)) ∧ H = H0 ∧ r = (if x2 = 0 then ar else if x2 = 1 then sm th 0 10 else oc)) (fun E => E = exA ∧ ¬ ((0 ≤ x1 ∧ x1 < wn) ∧ (0 ≤ x2 ∧ x2 ≤ 2)))) args s (rmX_told).cells (rmX_told).slots (fun _ => False) := ⟨_, rfl⟩
  rw [← hQ, ha, lg_entry_eq]
  rw [ha] at hQ
  generalize (lg_sl ([.ref b, .int (iI x1), .int (iI x2)]) ++ List.replicate (4 - (lg_sl ([.ref b, .int (iI x1), .int (iI x2)])).length) Slot.unset).toArray = ls at hl ⊢
  generalize ([.ref b, .int (iI x1), .int (iI x2)] : List Value).toArray = args at hQ ⊢
  have hts : ∀ w ∈ TW, w.before args s = true := fun w h => hT w h args
  have hl : lv_has ls 4 [(0, .ref b), (1, .int (iI x1)), (2, .int (iI x2))] := hl
  obtain ⟨A, hAe⟩ : ∃ A : Addr → Prop, A = (fun _ => False) := ⟨_, rfl⟩
  rw [← hAe] at hQ
  have hS : va_S A s.heap s.heap [] := va_S.rf
  have hR := hB
  have hR : va_P (kD K) vcl [(b, .inr (0, [.ref (b + 1), .int (iI ((wn : Int))), .ref (b + 26), .ref (b + 27), .ref (b + 98)])), (b + 1, .inl (kW K, 12, .inr (.inr (.inr (.inr (fun i => some (b + 2 + 2 * i))))))), (b + 2 + 2 * j, .inr (1, [.int (iI ar), .int (iI oc), .int (iI lc), .ref (b + 2 + 2 * j + 1)])), (b + 2 + 2 * j + 1, .inl (kI K, 10, .inl (iA th)))] s.heap := hR
  have hRA : ∀ (k : Nat) (q : Nat × va_E), [(b, .inr (0, [.ref (b + 1), .int (iI ((wn : Int))), .ref (b + 26), .ref (b + 27), .ref (b + 98)])), (b + 1, .inl (kW K, 12, .inr (.inr (.inr (.inr (fun i => some (b + 2 + 2 * i))))))), (b + 2 + 2 * j, .inr (1, [.int (iI ar), .int (iI oc), .int (iI lc), .ref (b + 2 + 2 * j + 1)])), (b + 2 + 2 * j + 1, .inl (kI K, 10, .inl (iA th)))][k]? = some q → ¬ A q.1 := by
    intro k q hk
    have hk := List.mem_of_getElem? hk
    simp only [List.mem_cons, List.not_mem_nil, or_false] at hk
    rw [hAe]
    rcases hk with rfl | rfl | rfl | rfl <;> (show ¬ _) <;> exact fun h => h
  refine lv_iload_n hx hb dX_told_0 rfl (lv_at hl 1 rfl) ?_
  refine lv_aload_n hx hb dX_told_1 rfl (lv_at hl 0 rfl) ?_
  refine va_get (D := kD K) (ci := 0) (v := .int (iI ((wn : Int)))) (C := RX) (T := FX) (N := 5) hx hb hts jnX hown hK hR 0 rfl rfl 1 (by decide) (hts _ mt_127) (fun _ h9 => h9) rfl dX_told_2 ?_
  refine ctS (n := 2) hx hb hml hown hT ⟨c_X_checkNumber l htr K z x1 wn ⟨by omega, by omega⟩ ⟨by omega, by omega⟩, ⟨_, _, _, Or.inl ⟨rfl, rfl⟩⟩, mt_152, mt_1, by decide, by decide +kernel, by decide, by decide, by decide, by decide⟩ PX.blind mt_150 mt_151 (As := [.int (iI x1), .int (iI ((wn : Int)))]) (rest := []) rfl (PX.at hE rfl trivial) hl.1 rfl (Nat.le_of_ble_eq_true rfl) dX_told_5 (krC (c1 := 1) (s1 := 6) rfl rfl (fun _ h => h) rfl rfl (fun g1 => ?_) (fun x H1 hX hk hn => by rw [hQ]; exact x_out htab hlocks (fun _ _ h => Or.inr h) hX hk (⟨rfl, by omega⟩) (by decide) (by decide)))
  refine lv_iload_n hx hb dX_told_8 rfl (lv_at hl 2 rfl) ?_
  refine iz_iconst hx hb dX_told_9 ?_
  refine iz_iconst hx hb dX_told_10 ?_
  refine ctS (n := 3) hx hb hml hown hT ⟨c_X_checkBounds l htr K z x2 0 2 ⟨by omega, by omega⟩ ⟨by omega, by omega⟩ ⟨by omega, by omega⟩, ⟨_, _, _, Or.inl ⟨rfl, rfl⟩⟩, mt_312, mt_1, by decide, by decide +kernel, by decide, by decide, by decide, by decide⟩ PX.blind mt_310 mt_311 (As := [.int (iI x2), .int (iI 0), .int (iI 2)]) (rest := []) rfl (PX.at hE rfl trivial) hl.1 rfl (Nat.le_of_ble_eq_true rfl) dX_told_11 (krC (c1 := 2) (s1 := 12) rfl rfl (fun _ h => h) rfl rfl (fun g2 => ?_) (fun x H1 hX hk hn => by rw [hQ]; exact x_out htab hlocks (fun _ _ h => Or.inr h) hX hk (⟨rfl, by omega⟩) (by decide) (by decide)))
  have hjw := hjw (by omega) (by omega)
  refine lv_aload_n hx hb dX_told_14 rfl (lv_at hl 0 rfl) ?_
  refine va_get (D := kD K) (ci := 0) (v := .ref (b + 1)) (C := RX) (T := FX) (N := 5) hx hb hts jnX hown hK hR 0 rfl rfl 0 (by decide) (hts _ mt_126) (fun _ h9 => h9) rfl dX_told_15 ?_
  refine lv_iload_n hx hb dX_told_18 rfl (lv_at hl 1 rfl) ?_
  refine iz_aald hx hb hK hR 1 2 rfl rfl j hjw (by omega) (by omega) rfl dX_told_19 ?_
  refine lv_astore_n (lv' := [(3, .ref (b + 2 + 2 * j)), (0, .ref b), (1, .int (iI x1)), (2, .int (iI x2))]) hx hb dX_told_20 rfl hl (by decide) rfl (fun ls hl => ?_)
  refine lv_iload_n hx hb dX_told_21 rfl (lv_at hl 3 rfl) ?_
  refine iz_if_ne (tgt := 30) hx hb ⟨by omega, by omega⟩ dX_told_22 (by decide) (fun g3 => ?_) (fun g3 => ?_)
  · refine lv_iload_n hx hb dX_told_30 rfl (lv_at hl 3 rfl) ?_
    refine iz_iconst hx hb dX_told_31 ?_
    refine iz_icmp_ne (tgt := 42) hx hb ⟨by omega, by omega⟩ ⟨by omega, by omega⟩ dX_told_32 (by decide) (fun g4 => ?_) (fun g4 => ?_)
    · refine lv_aload_n hx hb dX_told_42 rfl (lv_at hl 0 rfl) ?_
      refine va_getN (D := kD K) (ci := 1) (v := .int (iI oc)) (C := RW) (T := FW) (N := 4) hx hb hts jnW hown hK hR 2 rfl rfl 1 (by decide) (hts _ mt_30) (fun _ h9 => h9) rfl dX_told_43 ?_
      rw [hQ]
      exact ix_iret hx hb hr hlocks (⟨⟨g1, g2⟩, rfl, by rw [if_neg g3, if_neg g4]⟩) (fun _ h => absurd h List.not_mem_nil) (by decide) (by decide) dX_told_46
    · refine lv_aload_n hx hb dX_told_35 rfl (lv_at hl 0 rfl) ?_
      refine ctVN (n := 0) hx hb hml hown hT ⟨c_W_wholeThickness l K (b + 2 + 2 * j) ar oc lc th, ⟨_, _, _, Or.inl ⟨rfl, rfl⟩⟩, mt_365, mt_2, by decide, by decide +kernel, by decide, by decide, by decide, by decide⟩ PC.blind mt_362 mt_364 ms_14 (va_RVof (ci := 1) (q0 := 2) hK hR rfl rfl) (As := []) (rest := []) rfl (PC.at ⟨hT, hK⟩ (hR.sub [2, 3] rfl)) hl.1 rfl (Nat.le_of_ble_eq_true rfl) dX_told_36 (krI0 rfl rfl (fun _ h => h) (fun r hr9 => ?_))
      refine lv_goto (tgt := 46) hx hb dX_told_39 (by decide) ?_
      rw [hQ]
      exact ix_iret hx hb hr hlocks (⟨⟨g1, g2⟩, rfl, by rw [if_neg g3, if_pos g4]; exact hr9⟩) (fun _ h => absurd h List.not_mem_nil) (by decide) (by decide) dX_told_46
  · refine lv_aload_n hx hb dX_told_25 rfl (lv_at hl 0 rfl) ?_
    refine va_getN (D := kD K) (ci := 1) (v := .int (iI ar)) (C := RW) (T := FW) (N := 4) hx hb hts jnW hown hK hR 2 rfl rfl 0 (by decide) (hts _ mt_29) (fun _ h9 => h9) rfl dX_told_26 ?_
    rw [hQ]
    exact ix_iret hx hb hr hlocks (⟨⟨g1, g2⟩, rfl, by rw [if_pos g3]⟩) (fun _ h => absurd h List.not_mem_nil) (by decide) (by decide) dX_told_29
end
