-- DECODE ROWS
theorem dA_init_0 : decode prog_2_method_1_code 0 = .ok (.aload_n 0, 1) := by decide +kernel
theorem dA_init_1 : decode prog_2_method_1_code 1 = .ok (.invokespecial 3, 3) := by decide +kernel
theorem dA_init_4 : decode prog_2_method_1_code 4 = .ok (.aload_n 0, 1) := by decide +kernel
theorem dA_init_5 : decode prog_2_method_1_code 5 = .ok (.sipush 10000, 3) := by decide +kernel
theorem dA_init_8 : decode prog_2_method_1_code 8 = .ok (.putfield 9, 3) := by decide +kernel
theorem dA_init_11 : decode prog_2_method_1_code 11 = .ok (.aload_n 0, 1) := by decide +kernel
theorem dA_init_12 : decode prog_2_method_1_code 12 = .ok (.bipush 10, 2) := by decide +kernel
theorem dA_init_14 : decode prog_2_method_1_code 14 = .ok (.newarray .int, 2) := by decide +kernel
theorem dA_init_16 : decode prog_2_method_1_code 16 = .ok (.putfield 15, 3) := by decide +kernel
theorem dA_init_19 : decode prog_2_method_1_code 19 = .ok (.aload_n 0, 1) := by decide +kernel
theorem dA_init_20 : decode prog_2_method_1_code 20 = .ok (.bipush 10, 2) := by decide +kernel
theorem dA_init_22 : decode prog_2_method_1_code 22 = .ok (.newarray .int, 2) := by decide +kernel
theorem dA_init_24 : decode prog_2_method_1_code 24 = .ok (.putfield 19, 3) := by decide +kernel
theorem dA_init_27 : decode prog_2_method_1_code 27 = .ok (.aload_n 0, 1) := by decide +kernel
theorem dA_init_28 : decode prog_2_method_1_code 28 = .ok (.bipush 10, 2) := by decide +kernel
theorem dA_init_30 : decode prog_2_method_1_code 30 = .ok (.newarray .int, 2) := by decide +kernel
theorem dA_init_32 : decode prog_2_method_1_code 32 = .ok (.putfield 22, 3) := by decide +kernel
theorem dA_init_35 : decode prog_2_method_1_code 35 = .ok (.aload_n 0, 1) := by decide +kernel
theorem dA_init_36 : decode prog_2_method_1_code 36 = .ok (.bipush 10, 2) := by decide +kernel
theorem dA_init_38 : decode prog_2_method_1_code 38 = .ok (.newarray .int, 2) := by decide +kernel
theorem dA_init_40 : decode prog_2_method_1_code 40 = .ok (.putfield 25, 3) := by decide +kernel
theorem dA_init_43 : decode prog_2_method_1_code 43 = .ok (.aload_n 0, 1) := by decide +kernel
theorem dA_init_44 : decode prog_2_method_1_code 44 = .ok (.bipush 10, 2) := by decide +kernel
theorem dA_init_46 : decode prog_2_method_1_code 46 = .ok (.newarray .int, 2) := by decide +kernel
theorem dA_init_48 : decode prog_2_method_1_code 48 = .ok (.putfield 28, 3) := by decide +kernel
theorem dA_init_51 : decode prog_2_method_1_code 51 = .ok (.return_, 1) := by decide +kernel
theorem dA_makePlan_0 : decode prog_2_method_6_code 0 = .ok (.aload_n 0, 1) := by decide +kernel
theorem dA_makePlan_1 : decode prog_2_method_6_code 1 = .ok (.getfield 43, 3) := by decide +kernel
theorem dA_makePlan_4 : decode prog_2_method_6_code 4 = .ok (.ifCond .eq 4, 3) := by decide +kernel
theorem dA_makePlan_7 : decode prog_2_method_6_code 7 = .ok (.return_, 1) := by decide +kernel
theorem dA_makePlan_8 : decode prog_2_method_6_code 8 = .ok (.aload_n 0, 1) := by decide +kernel
theorem dA_makePlan_9 : decode prog_2_method_6_code 9 = .ok (.iconst 1, 1) := by decide +kernel
theorem dA_makePlan_10 : decode prog_2_method_6_code 10 = .ok (.putfield 43, 3) := by decide +kernel
theorem dA_makePlan_13 : decode prog_2_method_6_code 13 = .ok (.aload_n 0, 1) := by decide +kernel
theorem dA_makePlan_14 : decode prog_2_method_6_code 14 = .ok (.invokevirtual 47, 3) := by decide +kernel
theorem dA_makePlan_17 : decode prog_2_method_6_code 17 = .ok (.aload_n 0, 1) := by decide +kernel
theorem dA_makePlan_18 : decode prog_2_method_6_code 18 = .ok (.iconst 0, 1) := by decide +kernel
theorem dA_makePlan_19 : decode prog_2_method_6_code 19 = .ok (.putfield 50, 3) := by decide +kernel
theorem dA_makePlan_22 : decode prog_2_method_6_code 22 = .ok (.aload_n 0, 1) := by decide +kernel
theorem dA_makePlan_23 : decode prog_2_method_6_code 23 = .ok (.invokevirtual 53, 3) := by decide +kernel
theorem dA_makePlan_26 : decode prog_2_method_6_code 26 = .ok (.ifCond .ne 27, 3) := by decide +kernel
theorem dA_makePlan_29 : decode prog_2_method_6_code 29 = .ok (.aload_n 0, 1) := by decide +kernel
theorem dA_makePlan_30 : decode prog_2_method_6_code 30 = .ok (.getfield 50, 3) := by decide +kernel
theorem dA_makePlan_33 : decode prog_2_method_6_code 33 = .ok (.aload_n 0, 1) := by decide +kernel
theorem dA_makePlan_34 : decode prog_2_method_6_code 34 = .ok (.getfield 31, 3) := by decide +kernel
theorem dA_makePlan_37 : decode prog_2_method_6_code 37 = .ok (.if_icmp .ge 16, 3) := by decide +kernel
theorem dA_makePlan_40 : decode prog_2_method_6_code 40 = .ok (.aload_n 0, 1) := by decide +kernel
theorem dA_makePlan_41 : decode prog_2_method_6_code 41 = .ok (.dup, 1) := by decide +kernel
theorem dA_makePlan_42 : decode prog_2_method_6_code 42 = .ok (.getfield 50, 3) := by decide +kernel
theorem dA_makePlan_45 : decode prog_2_method_6_code 45 = .ok (.iconst 1, 1) := by decide +kernel
theorem dA_makePlan_46 : decode prog_2_method_6_code 46 = .ok (.iadd, 1) := by decide +kernel
theorem dA_makePlan_47 : decode prog_2_method_6_code 47 = .ok (.putfield 50, 3) := by decide +kernel
theorem dA_makePlan_50 : decode prog_2_method_6_code 50 = .ok (.goto (-28), 3) := by decide +kernel
theorem dA_makePlan_53 : decode prog_2_method_6_code 53 = .ok (.return_, 1) := by decide +kernel
theorem dA_sumFromBehind_0 : decode prog_2_method_7_code 0 = .ok (.iconst 0, 1) := by decide +kernel
theorem dA_sumFromBehind_1 : decode prog_2_method_7_code 1 = .ok (.istore_n 1, 1) := by decide +kernel
theorem dA_sumFromBehind_2 : decode prog_2_method_7_code 2 = .ok (.aload_n 0, 1) := by decide +kernel
theorem dA_sumFromBehind_3 : decode prog_2_method_7_code 3 = .ok (.getfield 9, 3) := by decide +kernel
theorem dA_sumFromBehind_6 : decode prog_2_method_7_code 6 = .ok (.aload_n 0, 1) := by decide +kernel
theorem dA_sumFromBehind_7 : decode prog_2_method_7_code 7 = .ok (.getfield 40, 3) := by decide +kernel
theorem dA_sumFromBehind_10 : decode prog_2_method_7_code 10 = .ok (.iadd, 1) := by decide +kernel
theorem dA_sumFromBehind_11 : decode prog_2_method_7_code 11 = .ok (.istore_n 2, 1) := by decide +kernel
theorem dA_sumFromBehind_12 : decode prog_2_method_7_code 12 = .ok (.aload_n 0, 1) := by decide +kernel
theorem dA_sumFromBehind_13 : decode prog_2_method_7_code 13 = .ok (.getfield 31, 3) := by decide +kernel
theorem dA_sumFromBehind_16 : decode prog_2_method_7_code 16 = .ok (.iconst 1, 1) := by decide +kernel
theorem dA_sumFromBehind_17 : decode prog_2_method_7_code 17 = .ok (.isub, 1) := by decide +kernel
theorem dA_sumFromBehind_18 : decode prog_2_method_7_code 18 = .ok (.istore_n 3, 1) := by decide +kernel
theorem dA_sumFromBehind_19 : decode prog_2_method_7_code 19 = .ok (.iload_n 3, 1) := by decide +kernel
theorem dA_sumFromBehind_20 : decode prog_2_method_7_code 20 = .ok (.ifCond .lt 53, 3) := by decide +kernel
theorem dA_sumFromBehind_23 : decode prog_2_method_7_code 23 = .ok (.iload_n 1, 1) := by decide +kernel
theorem dA_sumFromBehind_24 : decode prog_2_method_7_code 24 = .ok (.aload_n 0, 1) := by decide +kernel
theorem dA_sumFromBehind_25 : decode prog_2_method_7_code 25 = .ok (.getfield 15, 3) := by decide +kernel
theorem dA_sumFromBehind_28 : decode prog_2_method_7_code 28 = .ok (.iload_n 3, 1) := by decide +kernel
theorem dA_sumFromBehind_29 : decode prog_2_method_7_code 29 = .ok (.iaload, 1) := by decide +kernel
theorem dA_sumFromBehind_30 : decode prog_2_method_7_code 30 = .ok (.aload_n 0, 1) := by decide +kernel
theorem dA_sumFromBehind_31 : decode prog_2_method_7_code 31 = .ok (.getfield 40, 3) := by decide +kernel
theorem dA_sumFromBehind_34 : decode prog_2_method_7_code 34 = .ok (.iadd, 1) := by decide +kernel
theorem dA_sumFromBehind_35 : decode prog_2_method_7_code 35 = .ok (.iadd, 1) := by decide +kernel
theorem dA_sumFromBehind_36 : decode prog_2_method_7_code 36 = .ok (.istore_n 1, 1) := by decide +kernel
theorem dA_sumFromBehind_37 : decode prog_2_method_7_code 37 = .ok (.iload_n 2, 1) := by decide +kernel
theorem dA_sumFromBehind_38 : decode prog_2_method_7_code 38 = .ok (.aload_n 0, 1) := by decide +kernel
theorem dA_sumFromBehind_39 : decode prog_2_method_7_code 39 = .ok (.getfield 15, 3) := by decide +kernel
theorem dA_sumFromBehind_42 : decode prog_2_method_7_code 42 = .ok (.iload_n 3, 1) := by decide +kernel
theorem dA_sumFromBehind_43 : decode prog_2_method_7_code 43 = .ok (.iaload, 1) := by decide +kernel
theorem dA_sumFromBehind_44 : decode prog_2_method_7_code 44 = .ok (.aload_n 0, 1) := by decide +kernel
theorem dA_sumFromBehind_45 : decode prog_2_method_7_code 45 = .ok (.getfield 40, 3) := by decide +kernel
theorem dA_sumFromBehind_48 : decode prog_2_method_7_code 48 = .ok (.iadd, 1) := by decide +kernel
theorem dA_sumFromBehind_49 : decode prog_2_method_7_code 49 = .ok (.invokestatic 57, 3) := by decide +kernel
theorem dA_sumFromBehind_52 : decode prog_2_method_7_code 52 = .ok (.istore_n 2, 1) := by decide +kernel
theorem dA_sumFromBehind_53 : decode prog_2_method_7_code 53 = .ok (.aload_n 0, 1) := by decide +kernel
theorem dA_sumFromBehind_54 : decode prog_2_method_7_code 54 = .ok (.getfield 25, 3) := by decide +kernel
theorem dA_sumFromBehind_57 : decode prog_2_method_7_code 57 = .ok (.iload_n 3, 1) := by decide +kernel
theorem dA_sumFromBehind_58 : decode prog_2_method_7_code 58 = .ok (.iload_n 1, 1) := by decide +kernel
theorem dA_sumFromBehind_59 : decode prog_2_method_7_code 59 = .ok (.iastore, 1) := by decide +kernel
theorem dA_sumFromBehind_60 : decode prog_2_method_7_code 60 = .ok (.aload_n 0, 1) := by decide +kernel
theorem dA_sumFromBehind_61 : decode prog_2_method_7_code 61 = .ok (.getfield 28, 3) := by decide +kernel
theorem dA_sumFromBehind_64 : decode prog_2_method_7_code 64 = .ok (.iload_n 3, 1) := by decide +kernel
theorem dA_sumFromBehind_65 : decode prog_2_method_7_code 65 = .ok (.iload_n 2, 1) := by decide +kernel
theorem dA_sumFromBehind_66 : decode prog_2_method_7_code 66 = .ok (.iastore, 1) := by decide +kernel
theorem dA_sumFromBehind_67 : decode prog_2_method_7_code 67 = .ok (.iinc 3 (-1), 3) := by decide +kernel
theorem dA_sumFromBehind_70 : decode prog_2_method_7_code 70 = .ok (.goto (-51), 3) := by decide +kernel
theorem dA_sumFromBehind_73 : decode prog_2_method_7_code 73 = .ok (.return_, 1) := by decide +kernel
theorem dA_placeAll_0 : decode prog_2_method_8_code 0 = .ok (.aload_n 0, 1) := by decide +kernel
theorem dA_placeAll_1 : decode prog_2_method_8_code 1 = .ok (.getfield 22, 3) := by decide +kernel
theorem dA_placeAll_4 : decode prog_2_method_8_code 4 = .ok (.aload_n 0, 1) := by decide +kernel
theorem dA_placeAll_5 : decode prog_2_method_8_code 5 = .ok (.getfield 9, 3) := by decide +kernel
theorem dA_placeAll_8 : decode prog_2_method_8_code 8 = .ok (.aload_n 0, 1) := by decide +kernel
theorem dA_placeAll_9 : decode prog_2_method_8_code 9 = .ok (.getfield 40, 3) := by decide +kernel
theorem dA_placeAll_12 : decode prog_2_method_8_code 12 = .ok (.iadd, 1) := by decide +kernel
theorem dA_placeAll_13 : decode prog_2_method_8_code 13 = .ok (.invokestatic 60, 3) := by decide +kernel
theorem dA_placeAll_16 : decode prog_2_method_8_code 16 = .ok (.aload_n 0, 1) := by decide +kernel
theorem dA_placeAll_17 : decode prog_2_method_8_code 17 = .ok (.iconst 0, 1) := by decide +kernel
theorem dA_placeAll_18 : decode prog_2_method_8_code 18 = .ok (.invokevirtual 66, 3) := by decide +kernel
theorem dA_placeAll_21 : decode prog_2_method_8_code 21 = .ok (.ireturn, 1) := by decide +kernel
theorem dA_placeFrom_0 : decode prog_2_method_9_code 0 = .ok (.iload_n 1, 1) := by decide +kernel
theorem dA_placeFrom_1 : decode prog_2_method_9_code 1 = .ok (.aload_n 0, 1) := by decide +kernel
theorem dA_placeFrom_2 : decode prog_2_method_9_code 2 = .ok (.getfield 31, 3) := by decide +kernel
theorem dA_placeFrom_5 : decode prog_2_method_9_code 5 = .ok (.if_icmp .lt 5, 3) := by decide +kernel
theorem dA_placeFrom_8 : decode prog_2_method_9_code 8 = .ok (.iconst 1, 1) := by decide +kernel
theorem dA_placeFrom_9 : decode prog_2_method_9_code 9 = .ok (.ireturn, 1) := by decide +kernel
theorem dA_placeFrom_10 : decode prog_2_method_9_code 10 = .ok (.aload_n 0, 1) := by decide +kernel
theorem dA_placeFrom_11 : decode prog_2_method_9_code 11 = .ok (.getfield 25, 3) := by decide +kernel
theorem dA_placeFrom_14 : decode prog_2_method_9_code 14 = .ok (.iload_n 1, 1) := by decide +kernel
theorem dA_placeFrom_15 : decode prog_2_method_9_code 15 = .ok (.iaload, 1) := by decide +kernel
theorem dA_placeFrom_16 : decode prog_2_method_9_code 16 = .ok (.aload_n 0, 1) := by decide +kernel
theorem dA_placeFrom_17 : decode prog_2_method_9_code 17 = .ok (.aload_n 0, 1) := by decide +kernel
theorem dA_placeFrom_18 : decode prog_2_method_9_code 18 = .ok (.getfield 28, 3) := by decide +kernel
theorem dA_placeFrom_21 : decode prog_2_method_9_code 21 = .ok (.iload_n 1, 1) := by decide +kernel
theorem dA_placeFrom_22 : decode prog_2_method_9_code 22 = .ok (.iaload, 1) := by decide +kernel
theorem dA_placeFrom_23 : decode prog_2_method_9_code 23 = .ok (.invokevirtual 70, 3) := by decide +kernel
theorem dA_placeFrom_26 : decode prog_2_method_9_code 26 = .ok (.if_icmp .le 5, 3) := by decide +kernel
theorem dA_placeFrom_29 : decode prog_2_method_9_code 29 = .ok (.iconst 0, 1) := by decide +kernel
theorem dA_placeFrom_30 : decode prog_2_method_9_code 30 = .ok (.ireturn, 1) := by decide +kernel
theorem dA_placeFrom_31 : decode prog_2_method_9_code 31 = .ok (.aload_n 0, 1) := by decide +kernel
theorem dA_placeFrom_32 : decode prog_2_method_9_code 32 = .ok (.getfield 15, 3) := by decide +kernel
theorem dA_placeFrom_35 : decode prog_2_method_9_code 35 = .ok (.iload_n 1, 1) := by decide +kernel
theorem dA_placeFrom_36 : decode prog_2_method_9_code 36 = .ok (.iaload, 1) := by decide +kernel
theorem dA_placeFrom_37 : decode prog_2_method_9_code 37 = .ok (.aload_n 0, 1) := by decide +kernel
theorem dA_placeFrom_38 : decode prog_2_method_9_code 38 = .ok (.getfield 40, 3) := by decide +kernel
theorem dA_placeFrom_41 : decode prog_2_method_9_code 41 = .ok (.iadd, 1) := by decide +kernel
theorem dA_placeFrom_42 : decode prog_2_method_9_code 42 = .ok (.istore_n 2, 1) := by decide +kernel
theorem dA_placeFrom_43 : decode prog_2_method_9_code 43 = .ok (.iconst 0, 1) := by decide +kernel
theorem dA_placeFrom_44 : decode prog_2_method_9_code 44 = .ok (.istore_n 3, 1) := by decide +kernel
theorem dA_placeFrom_45 : decode prog_2_method_9_code 45 = .ok (.iload_n 3, 1) := by decide +kernel
theorem dA_placeFrom_46 : decode prog_2_method_9_code 46 = .ok (.aload_n 0, 1) := by decide +kernel
theorem dA_placeFrom_47 : decode prog_2_method_9_code 47 = .ok (.getfield 50, 3) := by decide +kernel
theorem dA_placeFrom_50 : decode prog_2_method_9_code 50 = .ok (.if_icmp .ge 66, 3) := by decide +kernel
theorem dA_placeFrom_53 : decode prog_2_method_9_code 53 = .ok (.aload_n 0, 1) := by decide +kernel
theorem dA_placeFrom_54 : decode prog_2_method_9_code 54 = .ok (.getfield 22, 3) := by decide +kernel
theorem dA_placeFrom_57 : decode prog_2_method_9_code 57 = .ok (.iload_n 3, 1) := by decide +kernel
theorem dA_placeFrom_58 : decode prog_2_method_9_code 58 = .ok (.iaload, 1) := by decide +kernel
theorem dA_placeFrom_59 : decode prog_2_method_9_code 59 = .ok (.iload_n 2, 1) := by decide +kernel
theorem dA_placeFrom_60 : decode prog_2_method_9_code 60 = .ok (.if_icmp .lt 50, 3) := by decide +kernel
theorem dA_placeFrom_63 : decode prog_2_method_9_code 63 = .ok (.aload_n 0, 1) := by decide +kernel
theorem dA_placeFrom_64 : decode prog_2_method_9_code 64 = .ok (.iload_n 3, 1) := by decide +kernel
theorem dA_placeFrom_65 : decode prog_2_method_9_code 65 = .ok (.invokevirtual 74, 3) := by decide +kernel
theorem dA_placeFrom_68 : decode prog_2_method_9_code 68 = .ok (.ifCond .ne 42, 3) := by decide +kernel
theorem dA_placeFrom_71 : decode prog_2_method_9_code 71 = .ok (.aload_n 0, 1) := by decide +kernel
theorem dA_placeFrom_72 : decode prog_2_method_9_code 72 = .ok (.getfield 22, 3) := by decide +kernel
theorem dA_placeFrom_75 : decode prog_2_method_9_code 75 = .ok (.iload_n 3, 1) := by decide +kernel
theorem dA_placeFrom_76 : decode prog_2_method_9_code 76 = .ok (.dup2, 1) := by decide +kernel
theorem dA_placeFrom_77 : decode prog_2_method_9_code 77 = .ok (.iaload, 1) := by decide +kernel
theorem dA_placeFrom_78 : decode prog_2_method_9_code 78 = .ok (.iload_n 2, 1) := by decide +kernel
theorem dA_placeFrom_79 : decode prog_2_method_9_code 79 = .ok (.isub, 1) := by decide +kernel
theorem dA_placeFrom_80 : decode prog_2_method_9_code 80 = .ok (.iastore, 1) := by decide +kernel
theorem dA_placeFrom_81 : decode prog_2_method_9_code 81 = .ok (.aload_n 0, 1) := by decide +kernel
theorem dA_placeFrom_82 : decode prog_2_method_9_code 82 = .ok (.getfield 19, 3) := by decide +kernel
theorem dA_placeFrom_85 : decode prog_2_method_9_code 85 = .ok (.iload_n 1, 1) := by decide +kernel
theorem dA_placeFrom_86 : decode prog_2_method_9_code 86 = .ok (.iload_n 3, 1) := by decide +kernel
theorem dA_placeFrom_87 : decode prog_2_method_9_code 87 = .ok (.iastore, 1) := by decide +kernel
theorem dA_placeFrom_88 : decode prog_2_method_9_code 88 = .ok (.aload_n 0, 1) := by decide +kernel
theorem dA_placeFrom_89 : decode prog_2_method_9_code 89 = .ok (.iload_n 1, 1) := by decide +kernel
theorem dA_placeFrom_90 : decode prog_2_method_9_code 90 = .ok (.iconst 1, 1) := by decide +kernel
theorem dA_placeFrom_91 : decode prog_2_method_9_code 91 = .ok (.iadd, 1) := by decide +kernel
theorem dA_placeFrom_92 : decode prog_2_method_9_code 92 = .ok (.invokevirtual 66, 3) := by decide +kernel
theorem dA_placeFrom_95 : decode prog_2_method_9_code 95 = .ok (.ifCond .eq 5, 3) := by decide +kernel
theorem dA_placeFrom_98 : decode prog_2_method_9_code 98 = .ok (.iconst 1, 1) := by decide +kernel
theorem dA_placeFrom_99 : decode prog_2_method_9_code 99 = .ok (.ireturn, 1) := by decide +kernel
theorem dA_placeFrom_100 : decode prog_2_method_9_code 100 = .ok (.aload_n 0, 1) := by decide +kernel
theorem dA_placeFrom_101 : decode prog_2_method_9_code 101 = .ok (.getfield 22, 3) := by decide +kernel
theorem dA_placeFrom_104 : decode prog_2_method_9_code 104 = .ok (.iload_n 3, 1) := by decide +kernel
theorem dA_placeFrom_105 : decode prog_2_method_9_code 105 = .ok (.dup2, 1) := by decide +kernel
theorem dA_placeFrom_106 : decode prog_2_method_9_code 106 = .ok (.iaload, 1) := by decide +kernel
theorem dA_placeFrom_107 : decode prog_2_method_9_code 107 = .ok (.iload_n 2, 1) := by decide +kernel
theorem dA_placeFrom_108 : decode prog_2_method_9_code 108 = .ok (.iadd, 1) := by decide +kernel
theorem dA_placeFrom_109 : decode prog_2_method_9_code 109 = .ok (.iastore, 1) := by decide +kernel
theorem dA_placeFrom_110 : decode prog_2_method_9_code 110 = .ok (.iinc 3 1, 3) := by decide +kernel
theorem dA_placeFrom_113 : decode prog_2_method_9_code 113 = .ok (.goto (-68), 3) := by decide +kernel
theorem dA_placeFrom_116 : decode prog_2_method_9_code 116 = .ok (.iconst 0, 1) := by decide +kernel
theorem dA_placeFrom_117 : decode prog_2_method_9_code 117 = .ok (.ireturn, 1) := by decide +kernel
theorem dA_usable_0 : decode prog_2_method_10_code 0 = .ok (.iconst 0, 1) := by decide +kernel
theorem dA_usable_1 : decode prog_2_method_10_code 1 = .ok (.istore_n 2, 1) := by decide +kernel
theorem dA_usable_2 : decode prog_2_method_10_code 2 = .ok (.iconst 0, 1) := by decide +kernel
theorem dA_usable_3 : decode prog_2_method_10_code 3 = .ok (.istore_n 3, 1) := by decide +kernel
theorem dA_usable_4 : decode prog_2_method_10_code 4 = .ok (.iload_n 3, 1) := by decide +kernel
theorem dA_usable_5 : decode prog_2_method_10_code 5 = .ok (.aload_n 0, 1) := by decide +kernel
theorem dA_usable_6 : decode prog_2_method_10_code 6 = .ok (.getfield 50, 3) := by decide +kernel
theorem dA_usable_9 : decode prog_2_method_10_code 9 = .ok (.if_icmp .ge 32, 3) := by decide +kernel
theorem dA_usable_12 : decode prog_2_method_10_code 12 = .ok (.iload_n 2, 1) := by decide +kernel
theorem dA_usable_13 : decode prog_2_method_10_code 13 = .ok (.aload_n 0, 1) := by decide +kernel
theorem dA_usable_14 : decode prog_2_method_10_code 14 = .ok (.getfield 22, 3) := by decide +kernel
theorem dA_usable_17 : decode prog_2_method_10_code 17 = .ok (.iload_n 3, 1) := by decide +kernel
theorem dA_usable_18 : decode prog_2_method_10_code 18 = .ok (.iaload, 1) := by decide +kernel
theorem dA_usable_19 : decode prog_2_method_10_code 19 = .ok (.iload_n 1, 1) := by decide +kernel
theorem dA_usable_20 : decode prog_2_method_10_code 20 = .ok (.if_icmp .lt 12, 3) := by decide +kernel
theorem dA_usable_23 : decode prog_2_method_10_code 23 = .ok (.aload_n 0, 1) := by decide +kernel
theorem dA_usable_24 : decode prog_2_method_10_code 24 = .ok (.getfield 22, 3) := by decide +kernel
theorem dA_usable_27 : decode prog_2_method_10_code 27 = .ok (.iload_n 3, 1) := by decide +kernel
theorem dA_usable_28 : decode prog_2_method_10_code 28 = .ok (.iaload, 1) := by decide +kernel
theorem dA_usable_29 : decode prog_2_method_10_code 29 = .ok (.goto 4, 3) := by decide +kernel
theorem dA_usable_32 : decode prog_2_method_10_code 32 = .ok (.iconst 0, 1) := by decide +kernel
theorem dA_usable_33 : decode prog_2_method_10_code 33 = .ok (.iadd, 1) := by decide +kernel
theorem dA_usable_34 : decode prog_2_method_10_code 34 = .ok (.istore_n 2, 1) := by decide +kernel
theorem dA_usable_35 : decode prog_2_method_10_code 35 = .ok (.iinc 3 1, 3) := by decide +kernel
theorem dA_usable_38 : decode prog_2_method_10_code 38 = .ok (.goto (-34), 3) := by decide +kernel
theorem dA_usable_41 : decode prog_2_method_10_code 41 = .ok (.iload_n 2, 1) := by decide +kernel
theorem dA_usable_42 : decode prog_2_method_10_code 42 = .ok (.ireturn, 1) := by decide +kernel
theorem dA_isLikeEarlier_0 : decode prog_2_method_11_code 0 = .ok (.iconst 0, 1) := by decide +kernel
theorem dA_isLikeEarlier_1 : decode prog_2_method_11_code 1 = .ok (.istore_n 2, 1) := by decide +kernel
theorem dA_isLikeEarlier_2 : decode prog_2_method_11_code 2 = .ok (.iload_n 2, 1) := by decide +kernel
theorem dA_isLikeEarlier_3 : decode prog_2_method_11_code 3 = .ok (.iload_n 1, 1) := by decide +kernel
theorem dA_isLikeEarlier_4 : decode prog_2_method_11_code 4 = .ok (.if_icmp .ge 26, 3) := by decide +kernel
theorem dA_isLikeEarlier_7 : decode prog_2_method_11_code 7 = .ok (.aload_n 0, 1) := by decide +kernel
theorem dA_isLikeEarlier_8 : decode prog_2_method_11_code 8 = .ok (.getfield 22, 3) := by decide +kernel
theorem dA_isLikeEarlier_11 : decode prog_2_method_11_code 11 = .ok (.iload_n 2, 1) := by decide +kernel
theorem dA_isLikeEarlier_12 : decode prog_2_method_11_code 12 = .ok (.iaload, 1) := by decide +kernel
theorem dA_isLikeEarlier_13 : decode prog_2_method_11_code 13 = .ok (.aload_n 0, 1) := by decide +kernel
theorem dA_isLikeEarlier_14 : decode prog_2_method_11_code 14 = .ok (.getfield 22, 3) := by decide +kernel
theorem dA_isLikeEarlier_17 : decode prog_2_method_11_code 17 = .ok (.iload_n 1, 1) := by decide +kernel
theorem dA_isLikeEarlier_18 : decode prog_2_method_11_code 18 = .ok (.iaload, 1) := by decide +kernel
theorem dA_isLikeEarlier_19 : decode prog_2_method_11_code 19 = .ok (.if_icmp .ne 5, 3) := by decide +kernel
theorem dA_isLikeEarlier_22 : decode prog_2_method_11_code 22 = .ok (.iconst 1, 1) := by decide +kernel
theorem dA_isLikeEarlier_23 : decode prog_2_method_11_code 23 = .ok (.ireturn, 1) := by decide +kernel
theorem dA_isLikeEarlier_24 : decode prog_2_method_11_code 24 = .ok (.iinc 2 1, 3) := by decide +kernel
theorem dA_isLikeEarlier_27 : decode prog_2_method_11_code 27 = .ok (.goto (-25), 3) := by decide +kernel
theorem dA_isLikeEarlier_30 : decode prog_2_method_11_code 30 = .ok (.iconst 0, 1) := by decide +kernel
theorem dA_isLikeEarlier_31 : decode prog_2_method_11_code 31 = .ok (.ireturn, 1) := by decide +kernel
theorem dA_longestPiece_0 : decode prog_2_method_2_code 0 = .ok (.iconst 0, 1) := by decide +kernel
theorem dA_longestPiece_1 : decode prog_2_method_2_code 1 = .ok (.istore_n 1, 1) := by decide +kernel
theorem dA_longestPiece_2 : decode prog_2_method_2_code 2 = .ok (.iconst 0, 1) := by decide +kernel
theorem dA_longestPiece_3 : decode prog_2_method_2_code 3 = .ok (.istore_n 2, 1) := by decide +kernel
theorem dA_longestPiece_4 : decode prog_2_method_2_code 4 = .ok (.iload_n 2, 1) := by decide +kernel
theorem dA_longestPiece_5 : decode prog_2_method_2_code 5 = .ok (.aload_n 0, 1) := by decide +kernel
theorem dA_longestPiece_6 : decode prog_2_method_2_code 6 = .ok (.getfield 31, 3) := by decide +kernel
theorem dA_longestPiece_9 : decode prog_2_method_2_code 9 = .ok (.if_icmp .ge 20, 3) := by decide +kernel
theorem dA_longestPiece_12 : decode prog_2_method_2_code 12 = .ok (.iload_n 1, 1) := by decide +kernel
theorem dA_longestPiece_13 : decode prog_2_method_2_code 13 = .ok (.aload_n 0, 1) := by decide +kernel
theorem dA_longestPiece_14 : decode prog_2_method_2_code 14 = .ok (.getfield 15, 3) := by decide +kernel
theorem dA_longestPiece_17 : decode prog_2_method_2_code 17 = .ok (.iload_n 2, 1) := by decide +kernel
theorem dA_longestPiece_18 : decode prog_2_method_2_code 18 = .ok (.iaload, 1) := by decide +kernel
theorem dA_longestPiece_19 : decode prog_2_method_2_code 19 = .ok (.invokestatic 34, 3) := by decide +kernel
theorem dA_longestPiece_22 : decode prog_2_method_2_code 22 = .ok (.istore_n 1, 1) := by decide +kernel
theorem dA_longestPiece_23 : decode prog_2_method_2_code 23 = .ok (.iinc 2 1, 3) := by decide +kernel
theorem dA_longestPiece_26 : decode prog_2_method_2_code 26 = .ok (.goto (-22), 3) := by decide +kernel
theorem dA_longestPiece_29 : decode prog_2_method_2_code 29 = .ok (.iload_n 1, 1) := by decide +kernel
theorem dA_longestPiece_30 : decode prog_2_method_2_code 30 = .ok (.ireturn, 1) := by decide +kernel
theorem dA_takeBars_0 : decode prog_2_method_3_code 0 = .ok (.aload_n 0, 1) := by decide +kernel
theorem dA_takeBars_1 : decode prog_2_method_3_code 1 = .ok (.iload_n 1, 1) := by decide +kernel
theorem dA_takeBars_2 : decode prog_2_method_3_code 2 = .ok (.putfield 9, 3) := by decide +kernel
theorem dA_takeBars_5 : decode prog_2_method_3_code 5 = .ok (.aload_n 0, 1) := by decide +kernel
theorem dA_takeBars_6 : decode prog_2_method_3_code 6 = .ok (.iload_n 2, 1) := by decide +kernel
theorem dA_takeBars_7 : decode prog_2_method_3_code 7 = .ok (.putfield 40, 3) := by decide +kernel
theorem dA_takeBars_10 : decode prog_2_method_3_code 10 = .ok (.aload_n 0, 1) := by decide +kernel
theorem dA_takeBars_11 : decode prog_2_method_3_code 11 = .ok (.iconst 0, 1) := by decide +kernel
theorem dA_takeBars_12 : decode prog_2_method_3_code 12 = .ok (.putfield 43, 3) := by decide +kernel
theorem dA_takeBars_15 : decode prog_2_method_3_code 15 = .ok (.return_, 1) := by decide +kernel
theorem dA_addPiece_0 : decode prog_2_method_4_code 0 = .ok (.aload_n 0, 1) := by decide +kernel
theorem dA_addPiece_1 : decode prog_2_method_4_code 1 = .ok (.getfield 15, 3) := by decide +kernel
theorem dA_addPiece_4 : decode prog_2_method_4_code 4 = .ok (.aload_n 0, 1) := by decide +kernel
theorem dA_addPiece_5 : decode prog_2_method_4_code 5 = .ok (.getfield 31, 3) := by decide +kernel
theorem dA_addPiece_8 : decode prog_2_method_4_code 8 = .ok (.iload_n 1, 1) := by decide +kernel
theorem dA_addPiece_9 : decode prog_2_method_4_code 9 = .ok (.iastore, 1) := by decide +kernel
theorem dA_addPiece_10 : decode prog_2_method_4_code 10 = .ok (.aload_n 0, 1) := by decide +kernel
theorem dA_addPiece_11 : decode prog_2_method_4_code 11 = .ok (.dup, 1) := by decide +kernel
theorem dA_addPiece_12 : decode prog_2_method_4_code 12 = .ok (.getfield 31, 3) := by decide +kernel
theorem dA_addPiece_15 : decode prog_2_method_4_code 15 = .ok (.iconst 1, 1) := by decide +kernel
theorem dA_addPiece_16 : decode prog_2_method_4_code 16 = .ok (.iadd, 1) := by decide +kernel
theorem dA_addPiece_17 : decode prog_2_method_4_code 17 = .ok (.putfield 31, 3) := by decide +kernel
theorem dA_addPiece_20 : decode prog_2_method_4_code 20 = .ok (.aload_n 0, 1) := by decide +kernel
theorem dA_addPiece_21 : decode prog_2_method_4_code 21 = .ok (.iconst 0, 1) := by decide +kernel
theorem dA_addPiece_22 : decode prog_2_method_4_code 22 = .ok (.putfield 43, 3) := by decide +kernel
theorem dA_addPiece_25 : decode prog_2_method_4_code 25 = .ok (.aload_n 0, 1) := by decide +kernel
theorem dA_addPiece_26 : decode prog_2_method_4_code 26 = .ok (.getfield 31, 3) := by decide +kernel
theorem dA_addPiece_29 : decode prog_2_method_4_code 29 = .ok (.iconst 1, 1) := by decide +kernel
theorem dA_addPiece_30 : decode prog_2_method_4_code 30 = .ok (.isub, 1) := by decide +kernel
theorem dA_addPiece_31 : decode prog_2_method_4_code 31 = .ok (.ireturn, 1) := by decide +kernel
theorem dA_resizePiece_0 : decode prog_2_method_5_code 0 = .ok (.aload_n 0, 1) := by decide +kernel
theorem dA_resizePiece_1 : decode prog_2_method_5_code 1 = .ok (.getfield 15, 3) := by decide +kernel
theorem dA_resizePiece_4 : decode prog_2_method_5_code 4 = .ok (.iload_n 1, 1) := by decide +kernel
theorem dA_resizePiece_5 : decode prog_2_method_5_code 5 = .ok (.iaload, 1) := by decide +kernel
theorem dA_resizePiece_6 : decode prog_2_method_5_code 6 = .ok (.istore_n 3, 1) := by decide +kernel
theorem dA_resizePiece_7 : decode prog_2_method_5_code 7 = .ok (.aload_n 0, 1) := by decide +kernel
theorem dA_resizePiece_8 : decode prog_2_method_5_code 8 = .ok (.getfield 15, 3) := by decide +kernel
theorem dA_resizePiece_11 : decode prog_2_method_5_code 11 = .ok (.iload_n 1, 1) := by decide +kernel
theorem dA_resizePiece_12 : decode prog_2_method_5_code 12 = .ok (.iload_n 2, 1) := by decide +kernel
theorem dA_resizePiece_13 : decode prog_2_method_5_code 13 = .ok (.iastore, 1) := by decide +kernel
theorem dA_resizePiece_14 : decode prog_2_method_5_code 14 = .ok (.aload_n 0, 1) := by decide +kernel
theorem dA_resizePiece_15 : decode prog_2_method_5_code 15 = .ok (.iconst 0, 1) := by decide +kernel
theorem dA_resizePiece_16 : decode prog_2_method_5_code 16 = .ok (.putfield 43, 3) := by decide +kernel
theorem dA_resizePiece_19 : decode prog_2_method_5_code 19 = .ok (.iload_n 3, 1) := by decide +kernel
theorem dA_resizePiece_20 : decode prog_2_method_5_code 20 = .ok (.ireturn, 1) := by decide +kernel
