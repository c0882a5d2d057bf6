-- DECODE ROWS
theorem dS_init_0 : decode prog_3_method_1_code 0 = .ok (.aload_n 0, 1) := by decide +kernel
theorem dS_init_1 : decode prog_3_method_1_code 1 = .ok (.invokespecial 3, 3) := by decide +kernel
theorem dS_init_4 : decode prog_3_method_1_code 4 = .ok (.aload_n 0, 1) := by decide +kernel
theorem dS_init_5 : decode prog_3_method_1_code 5 = .ok (.iconst 4, 1) := by decide +kernel
theorem dS_init_6 : decode prog_3_method_1_code 6 = .ok (.newarray .int, 2) := by decide +kernel
theorem dS_init_8 : decode prog_3_method_1_code 8 = .ok (.putfield 9, 3) := by decide +kernel
theorem dS_init_11 : decode prog_3_method_1_code 11 = .ok (.aload_n 0, 1) := by decide +kernel
theorem dS_init_12 : decode prog_3_method_1_code 12 = .ok (.iconst 4, 1) := by decide +kernel
theorem dS_init_13 : decode prog_3_method_1_code 13 = .ok (.newarray .int, 2) := by decide +kernel
theorem dS_init_15 : decode prog_3_method_1_code 15 = .ok (.putfield 15, 3) := by decide +kernel
theorem dS_init_18 : decode prog_3_method_1_code 18 = .ok (.aload_n 0, 1) := by decide +kernel
theorem dS_init_19 : decode prog_3_method_1_code 19 = .ok (.iconst 4, 1) := by decide +kernel
theorem dS_init_20 : decode prog_3_method_1_code 20 = .ok (.newarray .int, 2) := by decide +kernel
theorem dS_init_22 : decode prog_3_method_1_code 22 = .ok (.putfield 18, 3) := by decide +kernel
theorem dS_init_25 : decode prog_3_method_1_code 25 = .ok (.aload_n 0, 1) := by decide +kernel
theorem dS_init_26 : decode prog_3_method_1_code 26 = .ok (.iconst 4, 1) := by decide +kernel
theorem dS_init_27 : decode prog_3_method_1_code 27 = .ok (.newarray .int, 2) := by decide +kernel
theorem dS_init_29 : decode prog_3_method_1_code 29 = .ok (.putfield 21, 3) := by decide +kernel
theorem dS_init_32 : decode prog_3_method_1_code 32 = .ok (.aload_n 0, 1) := by decide +kernel
theorem dS_init_33 : decode prog_3_method_1_code 33 = .ok (.iconst 4, 1) := by decide +kernel
theorem dS_init_34 : decode prog_3_method_1_code 34 = .ok (.newarray .int, 2) := by decide +kernel
theorem dS_init_36 : decode prog_3_method_1_code 36 = .ok (.putfield 24, 3) := by decide +kernel
theorem dS_init_39 : decode prog_3_method_1_code 39 = .ok (.aload_n 0, 1) := by decide +kernel
theorem dS_init_40 : decode prog_3_method_1_code 40 = .ok (.iconst 4, 1) := by decide +kernel
theorem dS_init_41 : decode prog_3_method_1_code 41 = .ok (.newarray .int, 2) := by decide +kernel
theorem dS_init_43 : decode prog_3_method_1_code 43 = .ok (.putfield 27, 3) := by decide +kernel
theorem dS_init_46 : decode prog_3_method_1_code 46 = .ok (.aload_n 0, 1) := by decide +kernel
theorem dS_init_47 : decode prog_3_method_1_code 47 = .ok (.ldc2_w 30, 3) := by decide +kernel
theorem dS_init_50 : decode prog_3_method_1_code 50 = .ok (.putfield 32, 3) := by decide +kernel
theorem dS_init_53 : decode prog_3_method_1_code 53 = .ok (.return_, 1) := by decide +kernel
theorem dS_priceFor_0 : decode prog_3_method_5_code 0 = .ok (.aload_n 0, 1) := by decide +kernel
theorem dS_priceFor_1 : decode prog_3_method_5_code 1 = .ok (.lload_n 1, 1) := by decide +kernel
theorem dS_priceFor_2 : decode prog_3_method_5_code 2 = .ok (.invokevirtual 43, 3) := by decide +kernel
theorem dS_priceFor_5 : decode prog_3_method_5_code 5 = .ok (.aload_n 0, 1) := by decide +kernel
theorem dS_priceFor_6 : decode prog_3_method_5_code 6 = .ok (.getfield 47, 3) := by decide +kernel
theorem dS_priceFor_9 : decode prog_3_method_5_code 9 = .ok (.ldc 50, 2) := by decide +kernel
theorem dS_priceFor_11 : decode prog_3_method_5_code 11 = .ok (.if_icmp .ne 7, 3) := by decide +kernel
theorem dS_priceFor_14 : decode prog_3_method_5_code 14 = .ok (.iconst (-1), 1) := by decide +kernel
theorem dS_priceFor_15 : decode prog_3_method_5_code 15 = .ok (.goto 7, 3) := by decide +kernel
theorem dS_priceFor_18 : decode prog_3_method_5_code 18 = .ok (.aload_n 0, 1) := by decide +kernel
theorem dS_priceFor_19 : decode prog_3_method_5_code 19 = .ok (.getfield 47, 3) := by decide +kernel
theorem dS_priceFor_22 : decode prog_3_method_5_code 22 = .ok (.ireturn, 1) := by decide +kernel
theorem dS_search_0 : decode prog_3_method_6_code 0 = .ok (.lload_n 1, 1) := by decide +kernel
theorem dS_search_1 : decode prog_3_method_6_code 1 = .ok (.aload_n 0, 1) := by decide +kernel
theorem dS_search_2 : decode prog_3_method_6_code 2 = .ok (.getfield 32, 3) := by decide +kernel
theorem dS_search_5 : decode prog_3_method_6_code 5 = .ok (.lcmp, 1) := by decide +kernel
theorem dS_search_6 : decode prog_3_method_6_code 6 = .ok (.ifCond .ne 4, 3) := by decide +kernel
theorem dS_search_9 : decode prog_3_method_6_code 9 = .ok (.return_, 1) := by decide +kernel
theorem dS_search_10 : decode prog_3_method_6_code 10 = .ok (.aload_n 0, 1) := by decide +kernel
theorem dS_search_11 : decode prog_3_method_6_code 11 = .ok (.lload_n 1, 1) := by decide +kernel
theorem dS_search_12 : decode prog_3_method_6_code 12 = .ok (.putfield 32, 3) := by decide +kernel
theorem dS_search_15 : decode prog_3_method_6_code 15 = .ok (.aload_n 0, 1) := by decide +kernel
theorem dS_search_16 : decode prog_3_method_6_code 16 = .ok (.aload_n 0, 1) := by decide +kernel
theorem dS_search_17 : decode prog_3_method_6_code 17 = .ok (.lload_n 1, 1) := by decide +kernel
theorem dS_search_18 : decode prog_3_method_6_code 18 = .ok (.invokevirtual 51, 3) := by decide +kernel
theorem dS_search_21 : decode prog_3_method_6_code 21 = .ok (.putfield 47, 3) := by decide +kernel
theorem dS_search_24 : decode prog_3_method_6_code 24 = .ok (.aload_n 0, 1) := by decide +kernel
theorem dS_search_25 : decode prog_3_method_6_code 25 = .ok (.bipush 61, 2) := by decide +kernel
theorem dS_search_27 : decode prog_3_method_6_code 27 = .ok (.putfield 55, 3) := by decide +kernel
theorem dS_search_30 : decode prog_3_method_6_code 30 = .ok (.aload_n 0, 1) := by decide +kernel
theorem dS_search_31 : decode prog_3_method_6_code 31 = .ok (.getfield 24, 3) := by decide +kernel
theorem dS_search_34 : decode prog_3_method_6_code 34 = .ok (.iconst 0, 1) := by decide +kernel
theorem dS_search_35 : decode prog_3_method_6_code 35 = .ok (.invokestatic 58, 3) := by decide +kernel
theorem dS_search_38 : decode prog_3_method_6_code 38 = .ok (.aload_n 0, 1) := by decide +kernel
theorem dS_search_39 : decode prog_3_method_6_code 39 = .ok (.iconst 0, 1) := by decide +kernel
theorem dS_search_40 : decode prog_3_method_6_code 40 = .ok (.lload_n 1, 1) := by decide +kernel
theorem dS_search_41 : decode prog_3_method_6_code 41 = .ok (.iconst 0, 1) := by decide +kernel
theorem dS_search_42 : decode prog_3_method_6_code 42 = .ok (.iconst 0, 1) := by decide +kernel
theorem dS_search_43 : decode prog_3_method_6_code 43 = .ok (.invokevirtual 64, 3) := by decide +kernel
theorem dS_search_46 : decode prog_3_method_6_code 46 = .ok (.return_, 1) := by decide +kernel
theorem dS_priceOfOneKind_0 : decode prog_3_method_7_code 0 = .ok (.ldc2_w 68, 3) := by decide +kernel
theorem dS_priceOfOneKind_3 : decode prog_3_method_7_code 3 = .ok (.lstore_n 3, 1) := by decide +kernel
theorem dS_priceOfOneKind_4 : decode prog_3_method_7_code 4 = .ok (.iconst 0, 1) := by decide +kernel
theorem dS_priceOfOneKind_5 : decode prog_3_method_7_code 5 = .ok (.istore 5, 2) := by decide +kernel
theorem dS_priceOfOneKind_7 : decode prog_3_method_7_code 7 = .ok (.iload 5, 2) := by decide +kernel
theorem dS_priceOfOneKind_9 : decode prog_3_method_7_code 9 = .ok (.aload_n 0, 1) := by decide +kernel
theorem dS_priceOfOneKind_10 : decode prog_3_method_7_code 10 = .ok (.getfield 36, 3) := by decide +kernel
theorem dS_priceOfOneKind_13 : decode prog_3_method_7_code 13 = .ok (.if_icmp .ge 47, 3) := by decide +kernel
theorem dS_priceOfOneKind_16 : decode prog_3_method_7_code 16 = .ok (.lload_n 1, 1) := by decide +kernel
theorem dS_priceOfOneKind_17 : decode prog_3_method_7_code 17 = .ok (.aload_n 0, 1) := by decide +kernel
theorem dS_priceOfOneKind_18 : decode prog_3_method_7_code 18 = .ok (.getfield 9, 3) := by decide +kernel
theorem dS_priceOfOneKind_21 : decode prog_3_method_7_code 21 = .ok (.iload 5, 2) := by decide +kernel
theorem dS_priceOfOneKind_23 : decode prog_3_method_7_code 23 = .ok (.iaload, 1) := by decide +kernel
theorem dS_priceOfOneKind_24 : decode prog_3_method_7_code 24 = .ok (.invokestatic 70, 3) := by decide +kernel
theorem dS_priceOfOneKind_27 : decode prog_3_method_7_code 27 = .ok (.lstore 6, 2) := by decide +kernel
theorem dS_priceOfOneKind_29 : decode prog_3_method_7_code 29 = .ok (.lload 6, 2) := by decide +kernel
theorem dS_priceOfOneKind_31 : decode prog_3_method_7_code 31 = .ok (.ldc2_w 74, 3) := by decide +kernel
theorem dS_priceOfOneKind_34 : decode prog_3_method_7_code 34 = .ok (.lcmp, 1) := by decide +kernel
theorem dS_priceOfOneKind_35 : decode prog_3_method_7_code 35 = .ok (.ifCond .gt 19, 3) := by decide +kernel
theorem dS_priceOfOneKind_38 : decode prog_3_method_7_code 38 = .ok (.lload_n 3, 1) := by decide +kernel
theorem dS_priceOfOneKind_39 : decode prog_3_method_7_code 39 = .ok (.lload 6, 2) := by decide +kernel
theorem dS_priceOfOneKind_41 : decode prog_3_method_7_code 41 = .ok (.aload_n 0, 1) := by decide +kernel
theorem dS_priceOfOneKind_42 : decode prog_3_method_7_code 42 = .ok (.getfield 15, 3) := by decide +kernel
theorem dS_priceOfOneKind_45 : decode prog_3_method_7_code 45 = .ok (.iload 5, 2) := by decide +kernel
theorem dS_priceOfOneKind_47 : decode prog_3_method_7_code 47 = .ok (.iaload, 1) := by decide +kernel
theorem dS_priceOfOneKind_48 : decode prog_3_method_7_code 48 = .ok (.i2l, 1) := by decide +kernel
theorem dS_priceOfOneKind_49 : decode prog_3_method_7_code 49 = .ok (.lmul, 1) := by decide +kernel
theorem dS_priceOfOneKind_50 : decode prog_3_method_7_code 50 = .ok (.invokestatic 76, 3) := by decide +kernel
theorem dS_priceOfOneKind_53 : decode prog_3_method_7_code 53 = .ok (.lstore_n 3, 1) := by decide +kernel
theorem dS_priceOfOneKind_54 : decode prog_3_method_7_code 54 = .ok (.iinc 5 1, 3) := by decide +kernel
theorem dS_priceOfOneKind_57 : decode prog_3_method_7_code 57 = .ok (.goto (-50), 3) := by decide +kernel
theorem dS_priceOfOneKind_60 : decode prog_3_method_7_code 60 = .ok (.lload_n 3, 1) := by decide +kernel
theorem dS_priceOfOneKind_61 : decode prog_3_method_7_code 61 = .ok (.l2i, 1) := by decide +kernel
theorem dS_priceOfOneKind_62 : decode prog_3_method_7_code 62 = .ok (.ireturn, 1) := by decide +kernel
theorem dS_tryKind_0 : decode prog_3_method_8_code 0 = .ok (.lload_n 2, 1) := by decide +kernel
theorem dS_tryKind_1 : decode prog_3_method_8_code 1 = .ok (.lconst 0, 1) := by decide +kernel
theorem dS_tryKind_2 : decode prog_3_method_8_code 2 = .ok (.lcmp, 1) := by decide +kernel
theorem dS_tryKind_3 : decode prog_3_method_8_code 3 = .ok (.ifCond .gt 12, 3) := by decide +kernel
theorem dS_tryKind_6 : decode prog_3_method_8_code 6 = .ok (.aload_n 0, 1) := by decide +kernel
theorem dS_tryKind_7 : decode prog_3_method_8_code 7 = .ok (.iload 4, 2) := by decide +kernel
theorem dS_tryKind_9 : decode prog_3_method_8_code 9 = .ok (.iload 5, 2) := by decide +kernel
theorem dS_tryKind_11 : decode prog_3_method_8_code 11 = .ok (.invokevirtual 82, 3) := by decide +kernel
theorem dS_tryKind_14 : decode prog_3_method_8_code 14 = .ok (.return_, 1) := by decide +kernel
theorem dS_tryKind_15 : decode prog_3_method_8_code 15 = .ok (.iload_n 1, 1) := by decide +kernel
theorem dS_tryKind_16 : decode prog_3_method_8_code 16 = .ok (.aload_n 0, 1) := by decide +kernel
theorem dS_tryKind_17 : decode prog_3_method_8_code 17 = .ok (.getfield 36, 3) := by decide +kernel
theorem dS_tryKind_20 : decode prog_3_method_8_code 20 = .ok (.if_icmp .ge 16, 3) := by decide +kernel
theorem dS_tryKind_23 : decode prog_3_method_8_code 23 = .ok (.aload_n 0, 1) := by decide +kernel
theorem dS_tryKind_24 : decode prog_3_method_8_code 24 = .ok (.iload_n 1, 1) := by decide +kernel
theorem dS_tryKind_25 : decode prog_3_method_8_code 25 = .ok (.lload_n 2, 1) := by decide +kernel
theorem dS_tryKind_26 : decode prog_3_method_8_code 26 = .ok (.iload 4, 2) := by decide +kernel
theorem dS_tryKind_28 : decode prog_3_method_8_code 28 = .ok (.iload 5, 2) := by decide +kernel
theorem dS_tryKind_30 : decode prog_3_method_8_code 30 = .ok (.invokevirtual 86, 3) := by decide +kernel
theorem dS_tryKind_33 : decode prog_3_method_8_code 33 = .ok (.ifCond .eq 4, 3) := by decide +kernel
theorem dS_tryKind_36 : decode prog_3_method_8_code 36 = .ok (.return_, 1) := by decide +kernel
theorem dS_tryKind_37 : decode prog_3_method_8_code 37 = .ok (.lload_n 2, 1) := by decide +kernel
theorem dS_tryKind_38 : decode prog_3_method_8_code 38 = .ok (.aload_n 0, 1) := by decide +kernel
theorem dS_tryKind_39 : decode prog_3_method_8_code 39 = .ok (.getfield 9, 3) := by decide +kernel
theorem dS_tryKind_42 : decode prog_3_method_8_code 42 = .ok (.iload_n 1, 1) := by decide +kernel
theorem dS_tryKind_43 : decode prog_3_method_8_code 43 = .ok (.iaload, 1) := by decide +kernel
theorem dS_tryKind_44 : decode prog_3_method_8_code 44 = .ok (.invokestatic 70, 3) := by decide +kernel
theorem dS_tryKind_47 : decode prog_3_method_8_code 47 = .ok (.lstore 6, 2) := by decide +kernel
theorem dS_tryKind_49 : decode prog_3_method_8_code 49 = .ok (.lload 6, 2) := by decide +kernel
theorem dS_tryKind_51 : decode prog_3_method_8_code 51 = .ok (.bipush 60, 2) := by decide +kernel
theorem dS_tryKind_53 : decode prog_3_method_8_code 53 = .ok (.iload 4, 2) := by decide +kernel
theorem dS_tryKind_55 : decode prog_3_method_8_code 55 = .ok (.isub, 1) := by decide +kernel
theorem dS_tryKind_56 : decode prog_3_method_8_code 56 = .ok (.i2l, 1) := by decide +kernel
theorem dS_tryKind_57 : decode prog_3_method_8_code 57 = .ok (.invokestatic 76, 3) := by decide +kernel
theorem dS_tryKind_60 : decode prog_3_method_8_code 60 = .ok (.l2i, 1) := by decide +kernel
theorem dS_tryKind_61 : decode prog_3_method_8_code 61 = .ok (.istore 8, 2) := by decide +kernel
theorem dS_tryKind_63 : decode prog_3_method_8_code 63 = .ok (.iload_n 1, 1) := by decide +kernel
theorem dS_tryKind_64 : decode prog_3_method_8_code 64 = .ok (.aload_n 0, 1) := by decide +kernel
theorem dS_tryKind_65 : decode prog_3_method_8_code 65 = .ok (.getfield 36, 3) := by decide +kernel
theorem dS_tryKind_68 : decode prog_3_method_8_code 68 = .ok (.iconst 1, 1) := by decide +kernel
theorem dS_tryKind_69 : decode prog_3_method_8_code 69 = .ok (.isub, 1) := by decide +kernel
theorem dS_tryKind_70 : decode prog_3_method_8_code 70 = .ok (.if_icmp .ne 8, 3) := by decide +kernel
theorem dS_tryKind_73 : decode prog_3_method_8_code 73 = .ok (.iload 8, 2) := by decide +kernel
theorem dS_tryKind_75 : decode prog_3_method_8_code 75 = .ok (.goto 4, 3) := by decide +kernel
theorem dS_tryKind_78 : decode prog_3_method_8_code 78 = .ok (.iconst 0, 1) := by decide +kernel
theorem dS_tryKind_79 : decode prog_3_method_8_code 79 = .ok (.istore 9, 2) := by decide +kernel
theorem dS_tryKind_81 : decode prog_3_method_8_code 81 = .ok (.iload 8, 2) := by decide +kernel
theorem dS_tryKind_83 : decode prog_3_method_8_code 83 = .ok (.istore 10, 2) := by decide +kernel
theorem dS_tryKind_85 : decode prog_3_method_8_code 85 = .ok (.iload 10, 2) := by decide +kernel
theorem dS_tryKind_87 : decode prog_3_method_8_code 87 = .ok (.iload 9, 2) := by decide +kernel
theorem dS_tryKind_89 : decode prog_3_method_8_code 89 = .ok (.if_icmp .lt 54, 3) := by decide +kernel
theorem dS_tryKind_92 : decode prog_3_method_8_code 92 = .ok (.aload_n 0, 1) := by decide +kernel
theorem dS_tryKind_93 : decode prog_3_method_8_code 93 = .ok (.getfield 24, 3) := by decide +kernel
theorem dS_tryKind_96 : decode prog_3_method_8_code 96 = .ok (.iload_n 1, 1) := by decide +kernel
theorem dS_tryKind_97 : decode prog_3_method_8_code 97 = .ok (.iload 10, 2) := by decide +kernel
theorem dS_tryKind_99 : decode prog_3_method_8_code 99 = .ok (.iastore, 1) := by decide +kernel
theorem dS_tryKind_100 : decode prog_3_method_8_code 100 = .ok (.aload_n 0, 1) := by decide +kernel
theorem dS_tryKind_101 : decode prog_3_method_8_code 101 = .ok (.iload_n 1, 1) := by decide +kernel
theorem dS_tryKind_102 : decode prog_3_method_8_code 102 = .ok (.iconst 1, 1) := by decide +kernel
theorem dS_tryKind_103 : decode prog_3_method_8_code 103 = .ok (.iadd, 1) := by decide +kernel
theorem dS_tryKind_104 : decode prog_3_method_8_code 104 = .ok (.lload_n 2, 1) := by decide +kernel
theorem dS_tryKind_105 : decode prog_3_method_8_code 105 = .ok (.iload 10, 2) := by decide +kernel
theorem dS_tryKind_107 : decode prog_3_method_8_code 107 = .ok (.i2l, 1) := by decide +kernel
theorem dS_tryKind_108 : decode prog_3_method_8_code 108 = .ok (.aload_n 0, 1) := by decide +kernel
theorem dS_tryKind_109 : decode prog_3_method_8_code 109 = .ok (.getfield 9, 3) := by decide +kernel
theorem dS_tryKind_112 : decode prog_3_method_8_code 112 = .ok (.iload_n 1, 1) := by decide +kernel
theorem dS_tryKind_113 : decode prog_3_method_8_code 113 = .ok (.iaload, 1) := by decide +kernel
theorem dS_tryKind_114 : decode prog_3_method_8_code 114 = .ok (.i2l, 1) := by decide +kernel
theorem dS_tryKind_115 : decode prog_3_method_8_code 115 = .ok (.lmul, 1) := by decide +kernel
theorem dS_tryKind_116 : decode prog_3_method_8_code 116 = .ok (.lsub, 1) := by decide +kernel
theorem dS_tryKind_117 : decode prog_3_method_8_code 117 = .ok (.iload 4, 2) := by decide +kernel
theorem dS_tryKind_119 : decode prog_3_method_8_code 119 = .ok (.iload 10, 2) := by decide +kernel
theorem dS_tryKind_121 : decode prog_3_method_8_code 121 = .ok (.iadd, 1) := by decide +kernel
theorem dS_tryKind_122 : decode prog_3_method_8_code 122 = .ok (.iload 5, 2) := by decide +kernel
theorem dS_tryKind_124 : decode prog_3_method_8_code 124 = .ok (.iload 10, 2) := by decide +kernel
theorem dS_tryKind_126 : decode prog_3_method_8_code 126 = .ok (.aload_n 0, 1) := by decide +kernel
theorem dS_tryKind_127 : decode prog_3_method_8_code 127 = .ok (.getfield 15, 3) := by decide +kernel
theorem dS_tryKind_130 : decode prog_3_method_8_code 130 = .ok (.iload_n 1, 1) := by decide +kernel
theorem dS_tryKind_131 : decode prog_3_method_8_code 131 = .ok (.iaload, 1) := by decide +kernel
theorem dS_tryKind_132 : decode prog_3_method_8_code 132 = .ok (.imul, 1) := by decide +kernel
theorem dS_tryKind_133 : decode prog_3_method_8_code 133 = .ok (.iadd, 1) := by decide +kernel
theorem dS_tryKind_134 : decode prog_3_method_8_code 134 = .ok (.invokevirtual 64, 3) := by decide +kernel
theorem dS_tryKind_137 : decode prog_3_method_8_code 137 = .ok (.iinc 10 (-1), 3) := by decide +kernel
theorem dS_tryKind_140 : decode prog_3_method_8_code 140 = .ok (.goto (-55), 3) := by decide +kernel
theorem dS_tryKind_143 : decode prog_3_method_8_code 143 = .ok (.aload_n 0, 1) := by decide +kernel
theorem dS_tryKind_144 : decode prog_3_method_8_code 144 = .ok (.getfield 24, 3) := by decide +kernel
theorem dS_tryKind_147 : decode prog_3_method_8_code 147 = .ok (.iload_n 1, 1) := by decide +kernel
theorem dS_tryKind_148 : decode prog_3_method_8_code 148 = .ok (.iconst 0, 1) := by decide +kernel
theorem dS_tryKind_149 : decode prog_3_method_8_code 149 = .ok (.iastore, 1) := by decide +kernel
theorem dS_tryKind_150 : decode prog_3_method_8_code 150 = .ok (.return_, 1) := by decide +kernel
theorem dS_keepIfBetter_0 : decode prog_3_method_11_code 0 = .ok (.aload_n 0, 1) := by decide +kernel
theorem dS_keepIfBetter_1 : decode prog_3_method_11_code 1 = .ok (.iload_n 1, 1) := by decide +kernel
theorem dS_keepIfBetter_2 : decode prog_3_method_11_code 2 = .ok (.i2l, 1) := by decide +kernel
theorem dS_keepIfBetter_3 : decode prog_3_method_11_code 3 = .ok (.iload_n 2, 1) := by decide +kernel
theorem dS_keepIfBetter_4 : decode prog_3_method_11_code 4 = .ok (.i2l, 1) := by decide +kernel
theorem dS_keepIfBetter_5 : decode prog_3_method_11_code 5 = .ok (.invokevirtual 90, 3) := by decide +kernel
theorem dS_keepIfBetter_8 : decode prog_3_method_11_code 8 = .ok (.ifCond .eq 27, 3) := by decide +kernel
theorem dS_keepIfBetter_11 : decode prog_3_method_11_code 11 = .ok (.aload_n 0, 1) := by decide +kernel
theorem dS_keepIfBetter_12 : decode prog_3_method_11_code 12 = .ok (.iload_n 1, 1) := by decide +kernel
theorem dS_keepIfBetter_13 : decode prog_3_method_11_code 13 = .ok (.putfield 55, 3) := by decide +kernel
theorem dS_keepIfBetter_16 : decode prog_3_method_11_code 16 = .ok (.aload_n 0, 1) := by decide +kernel
theorem dS_keepIfBetter_17 : decode prog_3_method_11_code 17 = .ok (.iload_n 2, 1) := by decide +kernel
theorem dS_keepIfBetter_18 : decode prog_3_method_11_code 18 = .ok (.putfield 47, 3) := by decide +kernel
theorem dS_keepIfBetter_21 : decode prog_3_method_11_code 21 = .ok (.aload_n 0, 1) := by decide +kernel
theorem dS_keepIfBetter_22 : decode prog_3_method_11_code 22 = .ok (.getfield 24, 3) := by decide +kernel
theorem dS_keepIfBetter_25 : decode prog_3_method_11_code 25 = .ok (.iconst 0, 1) := by decide +kernel
theorem dS_keepIfBetter_26 : decode prog_3_method_11_code 26 = .ok (.aload_n 0, 1) := by decide +kernel
theorem dS_keepIfBetter_27 : decode prog_3_method_11_code 27 = .ok (.getfield 27, 3) := by decide +kernel
theorem dS_keepIfBetter_30 : decode prog_3_method_11_code 30 = .ok (.iconst 0, 1) := by decide +kernel
theorem dS_keepIfBetter_31 : decode prog_3_method_11_code 31 = .ok (.iconst 4, 1) := by decide +kernel
theorem dS_keepIfBetter_32 : decode prog_3_method_11_code 32 = .ok (.invokestatic 94, 3) := by decide +kernel
theorem dS_keepIfBetter_35 : decode prog_3_method_11_code 35 = .ok (.return_, 1) := by decide +kernel
theorem dS_isBetter_0 : decode prog_3_method_10_code 0 = .ok (.lload_n 3, 1) := by decide +kernel
theorem dS_isBetter_1 : decode prog_3_method_10_code 1 = .ok (.aload_n 0, 1) := by decide +kernel
theorem dS_isBetter_2 : decode prog_3_method_10_code 2 = .ok (.getfield 47, 3) := by decide +kernel
theorem dS_isBetter_5 : decode prog_3_method_10_code 5 = .ok (.i2l, 1) := by decide +kernel
theorem dS_isBetter_6 : decode prog_3_method_10_code 6 = .ok (.lcmp, 1) := by decide +kernel
theorem dS_isBetter_7 : decode prog_3_method_10_code 7 = .ok (.ifCond .lt 23, 3) := by decide +kernel
theorem dS_isBetter_10 : decode prog_3_method_10_code 10 = .ok (.lload_n 3, 1) := by decide +kernel
theorem dS_isBetter_11 : decode prog_3_method_10_code 11 = .ok (.aload_n 0, 1) := by decide +kernel
theorem dS_isBetter_12 : decode prog_3_method_10_code 12 = .ok (.getfield 47, 3) := by decide +kernel
theorem dS_isBetter_15 : decode prog_3_method_10_code 15 = .ok (.i2l, 1) := by decide +kernel
theorem dS_isBetter_16 : decode prog_3_method_10_code 16 = .ok (.lcmp, 1) := by decide +kernel
theorem dS_isBetter_17 : decode prog_3_method_10_code 17 = .ok (.ifCond .ne 17, 3) := by decide +kernel
theorem dS_isBetter_20 : decode prog_3_method_10_code 20 = .ok (.lload_n 1, 1) := by decide +kernel
theorem dS_isBetter_21 : decode prog_3_method_10_code 21 = .ok (.aload_n 0, 1) := by decide +kernel
theorem dS_isBetter_22 : decode prog_3_method_10_code 22 = .ok (.getfield 55, 3) := by decide +kernel
theorem dS_isBetter_25 : decode prog_3_method_10_code 25 = .ok (.i2l, 1) := by decide +kernel
theorem dS_isBetter_26 : decode prog_3_method_10_code 26 = .ok (.lcmp, 1) := by decide +kernel
theorem dS_isBetter_27 : decode prog_3_method_10_code 27 = .ok (.ifCond .ge 7, 3) := by decide +kernel
theorem dS_isBetter_30 : decode prog_3_method_10_code 30 = .ok (.iconst 1, 1) := by decide +kernel
theorem dS_isBetter_31 : decode prog_3_method_10_code 31 = .ok (.goto 4, 3) := by decide +kernel
theorem dS_isBetter_34 : decode prog_3_method_10_code 34 = .ok (.iconst 0, 1) := by decide +kernel
theorem dS_isBetter_35 : decode prog_3_method_10_code 35 = .ok (.ireturn, 1) := by decide +kernel
theorem dS_isHopeless_0 : decode prog_3_method_9_code 0 = .ok (.iload 4, 2) := by decide +kernel
theorem dS_isHopeless_2 : decode prog_3_method_9_code 2 = .ok (.i2l, 1) := by decide +kernel
theorem dS_isHopeless_3 : decode prog_3_method_9_code 3 = .ok (.lload_n 2, 1) := by decide +kernel
theorem dS_isHopeless_4 : decode prog_3_method_9_code 4 = .ok (.aload_n 0, 1) := by decide +kernel
theorem dS_isHopeless_5 : decode prog_3_method_9_code 5 = .ok (.getfield 9, 3) := by decide +kernel
theorem dS_isHopeless_8 : decode prog_3_method_9_code 8 = .ok (.aload_n 0, 1) := by decide +kernel
theorem dS_isHopeless_9 : decode prog_3_method_9_code 9 = .ok (.getfield 18, 3) := by decide +kernel
theorem dS_isHopeless_12 : decode prog_3_method_9_code 12 = .ok (.iload_n 1, 1) := by decide +kernel
theorem dS_isHopeless_13 : decode prog_3_method_9_code 13 = .ok (.iaload, 1) := by decide +kernel
theorem dS_isHopeless_14 : decode prog_3_method_9_code 14 = .ok (.iaload, 1) := by decide +kernel
theorem dS_isHopeless_15 : decode prog_3_method_9_code 15 = .ok (.invokestatic 70, 3) := by decide +kernel
theorem dS_isHopeless_18 : decode prog_3_method_9_code 18 = .ok (.ladd, 1) := by decide +kernel
theorem dS_isHopeless_19 : decode prog_3_method_9_code 19 = .ok (.lstore 6, 2) := by decide +kernel
theorem dS_isHopeless_21 : decode prog_3_method_9_code 21 = .ok (.lload 6, 2) := by decide +kernel
theorem dS_isHopeless_23 : decode prog_3_method_9_code 23 = .ok (.ldc2_w 74, 3) := by decide +kernel
theorem dS_isHopeless_26 : decode prog_3_method_9_code 26 = .ok (.lcmp, 1) := by decide +kernel
theorem dS_isHopeless_27 : decode prog_3_method_9_code 27 = .ok (.ifCond .le 5, 3) := by decide +kernel
theorem dS_isHopeless_30 : decode prog_3_method_9_code 30 = .ok (.iconst 1, 1) := by decide +kernel
theorem dS_isHopeless_31 : decode prog_3_method_9_code 31 = .ok (.ireturn, 1) := by decide +kernel
theorem dS_isHopeless_32 : decode prog_3_method_9_code 32 = .ok (.aload_n 0, 1) := by decide +kernel
theorem dS_isHopeless_33 : decode prog_3_method_9_code 33 = .ok (.getfield 21, 3) := by decide +kernel
theorem dS_isHopeless_36 : decode prog_3_method_9_code 36 = .ok (.iload_n 1, 1) := by decide +kernel
theorem dS_isHopeless_37 : decode prog_3_method_9_code 37 = .ok (.iaload, 1) := by decide +kernel
theorem dS_isHopeless_38 : decode prog_3_method_9_code 38 = .ok (.istore 8, 2) := by decide +kernel
theorem dS_isHopeless_40 : decode prog_3_method_9_code 40 = .ok (.iload 5, 2) := by decide +kernel
theorem dS_isHopeless_42 : decode prog_3_method_9_code 42 = .ok (.i2l, 1) := by decide +kernel
theorem dS_isHopeless_43 : decode prog_3_method_9_code 43 = .ok (.lload_n 2, 1) := by decide +kernel
theorem dS_isHopeless_44 : decode prog_3_method_9_code 44 = .ok (.aload_n 0, 1) := by decide +kernel
theorem dS_isHopeless_45 : decode prog_3_method_9_code 45 = .ok (.getfield 15, 3) := by decide +kernel
theorem dS_isHopeless_48 : decode prog_3_method_9_code 48 = .ok (.iload 8, 2) := by decide +kernel
theorem dS_isHopeless_50 : decode prog_3_method_9_code 50 = .ok (.iaload, 1) := by decide +kernel
theorem dS_isHopeless_51 : decode prog_3_method_9_code 51 = .ok (.i2l, 1) := by decide +kernel
theorem dS_isHopeless_52 : decode prog_3_method_9_code 52 = .ok (.lmul, 1) := by decide +kernel
theorem dS_isHopeless_53 : decode prog_3_method_9_code 53 = .ok (.aload_n 0, 1) := by decide +kernel
theorem dS_isHopeless_54 : decode prog_3_method_9_code 54 = .ok (.getfield 9, 3) := by decide +kernel
theorem dS_isHopeless_57 : decode prog_3_method_9_code 57 = .ok (.iload 8, 2) := by decide +kernel
theorem dS_isHopeless_59 : decode prog_3_method_9_code 59 = .ok (.iaload, 1) := by decide +kernel
theorem dS_isHopeless_60 : decode prog_3_method_9_code 60 = .ok (.invokestatic 70, 3) := by decide +kernel
theorem dS_isHopeless_63 : decode prog_3_method_9_code 63 = .ok (.ladd, 1) := by decide +kernel
theorem dS_isHopeless_64 : decode prog_3_method_9_code 64 = .ok (.lstore 9, 2) := by decide +kernel
theorem dS_isHopeless_66 : decode prog_3_method_9_code 66 = .ok (.aload_n 0, 1) := by decide +kernel
theorem dS_isHopeless_67 : decode prog_3_method_9_code 67 = .ok (.lload 6, 2) := by decide +kernel
theorem dS_isHopeless_69 : decode prog_3_method_9_code 69 = .ok (.lload 9, 2) := by decide +kernel
theorem dS_isHopeless_71 : decode prog_3_method_9_code 71 = .ok (.invokevirtual 90, 3) := by decide +kernel
theorem dS_isHopeless_74 : decode prog_3_method_9_code 74 = .ok (.ifCond .ne 7, 3) := by decide +kernel
theorem dS_isHopeless_77 : decode prog_3_method_9_code 77 = .ok (.iconst 1, 1) := by decide +kernel
theorem dS_isHopeless_78 : decode prog_3_method_9_code 78 = .ok (.goto 4, 3) := by decide +kernel
theorem dS_isHopeless_81 : decode prog_3_method_9_code 81 = .ok (.iconst 0, 1) := by decide +kernel
theorem dS_isHopeless_82 : decode prog_3_method_9_code 82 = .ok (.ireturn, 1) := by decide +kernel
theorem dS_stock_0 : decode prog_3_method_2_code 0 = .ok (.aload_n 0, 1) := by decide +kernel
theorem dS_stock_1 : decode prog_3_method_2_code 1 = .ok (.getfield 9, 3) := by decide +kernel
theorem dS_stock_4 : decode prog_3_method_2_code 4 = .ok (.aload_n 0, 1) := by decide +kernel
theorem dS_stock_5 : decode prog_3_method_2_code 5 = .ok (.getfield 36, 3) := by decide +kernel
theorem dS_stock_8 : decode prog_3_method_2_code 8 = .ok (.iload_n 1, 1) := by decide +kernel
theorem dS_stock_9 : decode prog_3_method_2_code 9 = .ok (.iastore, 1) := by decide +kernel
theorem dS_stock_10 : decode prog_3_method_2_code 10 = .ok (.aload_n 0, 1) := by decide +kernel
theorem dS_stock_11 : decode prog_3_method_2_code 11 = .ok (.getfield 15, 3) := by decide +kernel
theorem dS_stock_14 : decode prog_3_method_2_code 14 = .ok (.aload_n 0, 1) := by decide +kernel
theorem dS_stock_15 : decode prog_3_method_2_code 15 = .ok (.getfield 36, 3) := by decide +kernel
theorem dS_stock_18 : decode prog_3_method_2_code 18 = .ok (.iload_n 2, 1) := by decide +kernel
theorem dS_stock_19 : decode prog_3_method_2_code 19 = .ok (.iastore, 1) := by decide +kernel
theorem dS_stock_20 : decode prog_3_method_2_code 20 = .ok (.aload_n 0, 1) := by decide +kernel
theorem dS_stock_21 : decode prog_3_method_2_code 21 = .ok (.dup, 1) := by decide +kernel
theorem dS_stock_22 : decode prog_3_method_2_code 22 = .ok (.getfield 36, 3) := by decide +kernel
theorem dS_stock_25 : decode prog_3_method_2_code 25 = .ok (.iconst 1, 1) := by decide +kernel
theorem dS_stock_26 : decode prog_3_method_2_code 26 = .ok (.iadd, 1) := by decide +kernel
theorem dS_stock_27 : decode prog_3_method_2_code 27 = .ok (.putfield 36, 3) := by decide +kernel
theorem dS_stock_30 : decode prog_3_method_2_code 30 = .ok (.aload_n 0, 1) := by decide +kernel
theorem dS_stock_31 : decode prog_3_method_2_code 31 = .ok (.ldc2_w 30, 3) := by decide +kernel
theorem dS_stock_34 : decode prog_3_method_2_code 34 = .ok (.putfield 32, 3) := by decide +kernel
theorem dS_stock_37 : decode prog_3_method_2_code 37 = .ok (.aload_n 0, 1) := by decide +kernel
theorem dS_stock_38 : decode prog_3_method_2_code 38 = .ok (.invokevirtual 40, 3) := by decide +kernel
theorem dS_stock_41 : decode prog_3_method_2_code 41 = .ok (.aload_n 0, 1) := by decide +kernel
theorem dS_stock_42 : decode prog_3_method_2_code 42 = .ok (.getfield 36, 3) := by decide +kernel
theorem dS_stock_45 : decode prog_3_method_2_code 45 = .ok (.iconst 1, 1) := by decide +kernel
theorem dS_stock_46 : decode prog_3_method_2_code 46 = .ok (.isub, 1) := by decide +kernel
theorem dS_stock_47 : decode prog_3_method_2_code 47 = .ok (.ireturn, 1) := by decide +kernel
theorem dS_rankFromBehind_0 : decode prog_3_method_3_code 0 = .ok (.aload_n 0, 1) := by decide +kernel
theorem dS_rankFromBehind_1 : decode prog_3_method_3_code 1 = .ok (.getfield 36, 3) := by decide +kernel
theorem dS_rankFromBehind_4 : decode prog_3_method_3_code 4 = .ok (.iconst 1, 1) := by decide +kernel
theorem dS_rankFromBehind_5 : decode prog_3_method_3_code 5 = .ok (.isub, 1) := by decide +kernel
theorem dS_rankFromBehind_6 : decode prog_3_method_3_code 6 = .ok (.istore_n 1, 1) := by decide +kernel
theorem dS_rankFromBehind_7 : decode prog_3_method_3_code 7 = .ok (.aload_n 0, 1) := by decide +kernel
theorem dS_rankFromBehind_8 : decode prog_3_method_3_code 8 = .ok (.getfield 36, 3) := by decide +kernel
theorem dS_rankFromBehind_11 : decode prog_3_method_3_code 11 = .ok (.iconst 1, 1) := by decide +kernel
theorem dS_rankFromBehind_12 : decode prog_3_method_3_code 12 = .ok (.isub, 1) := by decide +kernel
theorem dS_rankFromBehind_13 : decode prog_3_method_3_code 13 = .ok (.istore_n 2, 1) := by decide +kernel
theorem dS_rankFromBehind_14 : decode prog_3_method_3_code 14 = .ok (.aload_n 0, 1) := by decide +kernel
theorem dS_rankFromBehind_15 : decode prog_3_method_3_code 15 = .ok (.getfield 36, 3) := by decide +kernel
theorem dS_rankFromBehind_18 : decode prog_3_method_3_code 18 = .ok (.iconst 1, 1) := by decide +kernel
theorem dS_rankFromBehind_19 : decode prog_3_method_3_code 19 = .ok (.isub, 1) := by decide +kernel
theorem dS_rankFromBehind_20 : decode prog_3_method_3_code 20 = .ok (.istore_n 3, 1) := by decide +kernel
theorem dS_rankFromBehind_21 : decode prog_3_method_3_code 21 = .ok (.iload_n 3, 1) := by decide +kernel
theorem dS_rankFromBehind_22 : decode prog_3_method_3_code 22 = .ok (.ifCond .lt 76, 3) := by decide +kernel
theorem dS_rankFromBehind_25 : decode prog_3_method_3_code 25 = .ok (.aload_n 0, 1) := by decide +kernel
theorem dS_rankFromBehind_26 : decode prog_3_method_3_code 26 = .ok (.getfield 9, 3) := by decide +kernel
theorem dS_rankFromBehind_29 : decode prog_3_method_3_code 29 = .ok (.iload_n 3, 1) := by decide +kernel
theorem dS_rankFromBehind_30 : decode prog_3_method_3_code 30 = .ok (.iaload, 1) := by decide +kernel
theorem dS_rankFromBehind_31 : decode prog_3_method_3_code 31 = .ok (.aload_n 0, 1) := by decide +kernel
theorem dS_rankFromBehind_32 : decode prog_3_method_3_code 32 = .ok (.getfield 9, 3) := by decide +kernel
theorem dS_rankFromBehind_35 : decode prog_3_method_3_code 35 = .ok (.iload_n 1, 1) := by decide +kernel
theorem dS_rankFromBehind_36 : decode prog_3_method_3_code 36 = .ok (.iaload, 1) := by decide +kernel
theorem dS_rankFromBehind_37 : decode prog_3_method_3_code 37 = .ok (.if_icmp .le 5, 3) := by decide +kernel
theorem dS_rankFromBehind_40 : decode prog_3_method_3_code 40 = .ok (.iload_n 3, 1) := by decide +kernel
theorem dS_rankFromBehind_41 : decode prog_3_method_3_code 41 = .ok (.istore_n 1, 1) := by decide +kernel
theorem dS_rankFromBehind_42 : decode prog_3_method_3_code 42 = .ok (.aload_n 0, 1) := by decide +kernel
theorem dS_rankFromBehind_43 : decode prog_3_method_3_code 43 = .ok (.getfield 15, 3) := by decide +kernel
theorem dS_rankFromBehind_46 : decode prog_3_method_3_code 46 = .ok (.iload_n 3, 1) := by decide +kernel
theorem dS_rankFromBehind_47 : decode prog_3_method_3_code 47 = .ok (.iaload, 1) := by decide +kernel
theorem dS_rankFromBehind_48 : decode prog_3_method_3_code 48 = .ok (.i2l, 1) := by decide +kernel
theorem dS_rankFromBehind_49 : decode prog_3_method_3_code 49 = .ok (.aload_n 0, 1) := by decide +kernel
theorem dS_rankFromBehind_50 : decode prog_3_method_3_code 50 = .ok (.getfield 9, 3) := by decide +kernel
theorem dS_rankFromBehind_53 : decode prog_3_method_3_code 53 = .ok (.iload_n 2, 1) := by decide +kernel
theorem dS_rankFromBehind_54 : decode prog_3_method_3_code 54 = .ok (.iaload, 1) := by decide +kernel
theorem dS_rankFromBehind_55 : decode prog_3_method_3_code 55 = .ok (.i2l, 1) := by decide +kernel
theorem dS_rankFromBehind_56 : decode prog_3_method_3_code 56 = .ok (.lmul, 1) := by decide +kernel
theorem dS_rankFromBehind_57 : decode prog_3_method_3_code 57 = .ok (.aload_n 0, 1) := by decide +kernel
theorem dS_rankFromBehind_58 : decode prog_3_method_3_code 58 = .ok (.getfield 15, 3) := by decide +kernel
theorem dS_rankFromBehind_61 : decode prog_3_method_3_code 61 = .ok (.iload_n 2, 1) := by decide +kernel
theorem dS_rankFromBehind_62 : decode prog_3_method_3_code 62 = .ok (.iaload, 1) := by decide +kernel
theorem dS_rankFromBehind_63 : decode prog_3_method_3_code 63 = .ok (.i2l, 1) := by decide +kernel
theorem dS_rankFromBehind_64 : decode prog_3_method_3_code 64 = .ok (.aload_n 0, 1) := by decide +kernel
theorem dS_rankFromBehind_65 : decode prog_3_method_3_code 65 = .ok (.getfield 9, 3) := by decide +kernel
theorem dS_rankFromBehind_68 : decode prog_3_method_3_code 68 = .ok (.iload_n 3, 1) := by decide +kernel
theorem dS_rankFromBehind_69 : decode prog_3_method_3_code 69 = .ok (.iaload, 1) := by decide +kernel
theorem dS_rankFromBehind_70 : decode prog_3_method_3_code 70 = .ok (.i2l, 1) := by decide +kernel
theorem dS_rankFromBehind_71 : decode prog_3_method_3_code 71 = .ok (.lmul, 1) := by decide +kernel
theorem dS_rankFromBehind_72 : decode prog_3_method_3_code 72 = .ok (.lcmp, 1) := by decide +kernel
theorem dS_rankFromBehind_73 : decode prog_3_method_3_code 73 = .ok (.ifCond .ge 5, 3) := by decide +kernel
theorem dS_rankFromBehind_76 : decode prog_3_method_3_code 76 = .ok (.iload_n 3, 1) := by decide +kernel
theorem dS_rankFromBehind_77 : decode prog_3_method_3_code 77 = .ok (.istore_n 2, 1) := by decide +kernel
theorem dS_rankFromBehind_78 : decode prog_3_method_3_code 78 = .ok (.aload_n 0, 1) := by decide +kernel
theorem dS_rankFromBehind_79 : decode prog_3_method_3_code 79 = .ok (.getfield 18, 3) := by decide +kernel
theorem dS_rankFromBehind_82 : decode prog_3_method_3_code 82 = .ok (.iload_n 3, 1) := by decide +kernel
theorem dS_rankFromBehind_83 : decode prog_3_method_3_code 83 = .ok (.iload_n 1, 1) := by decide +kernel
theorem dS_rankFromBehind_84 : decode prog_3_method_3_code 84 = .ok (.iastore, 1) := by decide +kernel
theorem dS_rankFromBehind_85 : decode prog_3_method_3_code 85 = .ok (.aload_n 0, 1) := by decide +kernel
theorem dS_rankFromBehind_86 : decode prog_3_method_3_code 86 = .ok (.getfield 21, 3) := by decide +kernel
theorem dS_rankFromBehind_89 : decode prog_3_method_3_code 89 = .ok (.iload_n 3, 1) := by decide +kernel
theorem dS_rankFromBehind_90 : decode prog_3_method_3_code 90 = .ok (.iload_n 2, 1) := by decide +kernel
theorem dS_rankFromBehind_91 : decode prog_3_method_3_code 91 = .ok (.iastore, 1) := by decide +kernel
theorem dS_rankFromBehind_92 : decode prog_3_method_3_code 92 = .ok (.iinc 3 (-1), 3) := by decide +kernel
theorem dS_rankFromBehind_95 : decode prog_3_method_3_code 95 = .ok (.goto (-74), 3) := by decide +kernel
theorem dS_rankFromBehind_98 : decode prog_3_method_3_code 98 = .ok (.return_, 1) := by decide +kernel
theorem dS_countFor_0 : decode prog_3_method_4_code 0 = .ok (.aload_n 0, 1) := by decide +kernel
theorem dS_countFor_1 : decode prog_3_method_4_code 1 = .ok (.lload_n 1, 1) := by decide +kernel
theorem dS_countFor_2 : decode prog_3_method_4_code 2 = .ok (.invokevirtual 43, 3) := by decide +kernel
theorem dS_countFor_5 : decode prog_3_method_4_code 5 = .ok (.aload_n 0, 1) := by decide +kernel
theorem dS_countFor_6 : decode prog_3_method_4_code 6 = .ok (.getfield 47, 3) := by decide +kernel
theorem dS_countFor_9 : decode prog_3_method_4_code 9 = .ok (.ldc 50, 2) := by decide +kernel
theorem dS_countFor_11 : decode prog_3_method_4_code 11 = .ok (.if_icmp .ne 7, 3) := by decide +kernel
theorem dS_countFor_14 : decode prog_3_method_4_code 14 = .ok (.iconst (-1), 1) := by decide +kernel
theorem dS_countFor_15 : decode prog_3_method_4_code 15 = .ok (.goto 9, 3) := by decide +kernel
theorem dS_countFor_18 : decode prog_3_method_4_code 18 = .ok (.aload_n 0, 1) := by decide +kernel
theorem dS_countFor_19 : decode prog_3_method_4_code 19 = .ok (.getfield 27, 3) := by decide +kernel
theorem dS_countFor_22 : decode prog_3_method_4_code 22 = .ok (.iload_n 3, 1) := by decide +kernel
theorem dS_countFor_23 : decode prog_3_method_4_code 23 = .ok (.iaload, 1) := by decide +kernel
theorem dS_countFor_24 : decode prog_3_method_4_code 24 = .ok (.ireturn, 1) := by decide +kernel
