-- DECODE ROWS
theorem dM_init_0 : decode prog_6_method_1_code 0 = .ok (.aload_n 0, 1) := by decide +kernel
theorem dM_init_1 : decode prog_6_method_1_code 1 = .ok (.invokespecial 1, 3) := by decide +kernel
theorem dM_init_4 : decode prog_6_method_1_code 4 = .ok (.aload_n 0, 1) := by decide +kernel
theorem dM_init_5 : decode prog_6_method_1_code 5 = .ok (.bipush 12, 2) := by decide +kernel
theorem dM_init_7 : decode prog_6_method_1_code 7 = .ok (.newarray .int, 2) := by decide +kernel
theorem dM_init_9 : decode prog_6_method_1_code 9 = .ok (.putfield 7, 3) := by decide +kernel
theorem dM_init_12 : decode prog_6_method_1_code 12 = .ok (.aload_n 0, 1) := by decide +kernel
theorem dM_init_13 : decode prog_6_method_1_code 13 = .ok (.bipush 12, 2) := by decide +kernel
theorem dM_init_15 : decode prog_6_method_1_code 15 = .ok (.newarray .int, 2) := by decide +kernel
theorem dM_init_17 : decode prog_6_method_1_code 17 = .ok (.putfield 13, 3) := by decide +kernel
theorem dM_init_20 : decode prog_6_method_1_code 20 = .ok (.aload_n 0, 1) := by decide +kernel
theorem dM_init_21 : decode prog_6_method_1_code 21 = .ok (.bipush 12, 2) := by decide +kernel
theorem dM_init_23 : decode prog_6_method_1_code 23 = .ok (.newarray .int, 2) := by decide +kernel
theorem dM_init_25 : decode prog_6_method_1_code 25 = .ok (.putfield 16, 3) := by decide +kernel
theorem dM_init_28 : decode prog_6_method_1_code 28 = .ok (.aload_n 0, 1) := by decide +kernel
theorem dM_init_29 : decode prog_6_method_1_code 29 = .ok (.bipush 96, 2) := by decide +kernel
theorem dM_init_31 : decode prog_6_method_1_code 31 = .ok (.newarray .int, 2) := by decide +kernel
theorem dM_init_33 : decode prog_6_method_1_code 33 = .ok (.putfield 19, 3) := by decide +kernel
theorem dM_init_36 : decode prog_6_method_1_code 36 = .ok (.aload_n 0, 1) := by decide +kernel
theorem dM_init_37 : decode prog_6_method_1_code 37 = .ok (.bipush 96, 2) := by decide +kernel
theorem dM_init_39 : decode prog_6_method_1_code 39 = .ok (.newarray .int, 2) := by decide +kernel
theorem dM_init_41 : decode prog_6_method_1_code 41 = .ok (.putfield 22, 3) := by decide +kernel
theorem dM_init_44 : decode prog_6_method_1_code 44 = .ok (.aload_n 0, 1) := by decide +kernel
theorem dM_init_45 : decode prog_6_method_1_code 45 = .ok (.bipush 10, 2) := by decide +kernel
theorem dM_init_47 : decode prog_6_method_1_code 47 = .ok (.newarray .int, 2) := by decide +kernel
theorem dM_init_49 : decode prog_6_method_1_code 49 = .ok (.putfield 25, 3) := by decide +kernel
theorem dM_init_52 : decode prog_6_method_1_code 52 = .ok (.aload_n 0, 1) := by decide +kernel
theorem dM_init_53 : decode prog_6_method_1_code 53 = .ok (.bipush 10, 2) := by decide +kernel
theorem dM_init_55 : decode prog_6_method_1_code 55 = .ok (.newarray .int, 2) := by decide +kernel
theorem dM_init_57 : decode prog_6_method_1_code 57 = .ok (.putfield 28, 3) := by decide +kernel
theorem dM_init_60 : decode prog_6_method_1_code 60 = .ok (.aload_n 0, 1) := by decide +kernel
theorem dM_init_61 : decode prog_6_method_1_code 61 = .ok (.bipush 40, 2) := by decide +kernel
theorem dM_init_63 : decode prog_6_method_1_code 63 = .ok (.newarray .long, 2) := by decide +kernel
theorem dM_init_65 : decode prog_6_method_1_code 65 = .ok (.putfield 31, 3) := by decide +kernel
theorem dM_init_68 : decode prog_6_method_1_code 68 = .ok (.aload_n 0, 1) := by decide +kernel
theorem dM_init_69 : decode prog_6_method_1_code 69 = .ok (.bipush 40, 2) := by decide +kernel
theorem dM_init_71 : decode prog_6_method_1_code 71 = .ok (.newarray .long, 2) := by decide +kernel
theorem dM_init_73 : decode prog_6_method_1_code 73 = .ok (.putfield 35, 3) := by decide +kernel
theorem dM_init_76 : decode prog_6_method_1_code 76 = .ok (.aload_n 0, 1) := by decide +kernel
theorem dM_init_77 : decode prog_6_method_1_code 77 = .ok (.iconst 4, 1) := by decide +kernel
theorem dM_init_78 : decode prog_6_method_1_code 78 = .ok (.newarray .int, 2) := by decide +kernel
theorem dM_init_80 : decode prog_6_method_1_code 80 = .ok (.putfield 38, 3) := by decide +kernel
theorem dM_init_83 : decode prog_6_method_1_code 83 = .ok (.aload_n 0, 1) := by decide +kernel
theorem dM_init_84 : decode prog_6_method_1_code 84 = .ok (.iconst 4, 1) := by decide +kernel
theorem dM_init_85 : decode prog_6_method_1_code 85 = .ok (.newarray .int, 2) := by decide +kernel
theorem dM_init_87 : decode prog_6_method_1_code 87 = .ok (.putfield 41, 3) := by decide +kernel
theorem dM_init_90 : decode prog_6_method_1_code 90 = .ok (.aload_n 0, 1) := by decide +kernel
theorem dM_init_91 : decode prog_6_method_1_code 91 = .ok (.sipush 10000, 3) := by decide +kernel
theorem dM_init_94 : decode prog_6_method_1_code 94 = .ok (.putfield 44, 3) := by decide +kernel
theorem dM_init_97 : decode prog_6_method_1_code 97 = .ok (.aload_n 0, 1) := by decide +kernel
theorem dM_init_98 : decode prog_6_method_1_code 98 = .ok (.bipush 10, 2) := by decide +kernel
theorem dM_init_100 : decode prog_6_method_1_code 100 = .ok (.newarray .int, 2) := by decide +kernel
theorem dM_init_102 : decode prog_6_method_1_code 102 = .ok (.putfield 48, 3) := by decide +kernel
theorem dM_init_105 : decode prog_6_method_1_code 105 = .ok (.aload_n 0, 1) := by decide +kernel
theorem dM_init_106 : decode prog_6_method_1_code 106 = .ok (.bipush 10, 2) := by decide +kernel
theorem dM_init_108 : decode prog_6_method_1_code 108 = .ok (.newarray .int, 2) := by decide +kernel
theorem dM_init_110 : decode prog_6_method_1_code 110 = .ok (.putfield 51, 3) := by decide +kernel
theorem dM_init_113 : decode prog_6_method_1_code 113 = .ok (.aload_n 0, 1) := by decide +kernel
theorem dM_init_114 : decode prog_6_method_1_code 114 = .ok (.bipush 10, 2) := by decide +kernel
theorem dM_init_116 : decode prog_6_method_1_code 116 = .ok (.newarray .int, 2) := by decide +kernel
theorem dM_init_118 : decode prog_6_method_1_code 118 = .ok (.putfield 54, 3) := by decide +kernel
theorem dM_init_121 : decode prog_6_method_1_code 121 = .ok (.return_, 1) := by decide +kernel
theorem dM_thrown_0 : decode prog_6_method_2_code 0 = .ok (.aload_n 0, 1) := by decide +kernel
theorem dM_thrown_1 : decode prog_6_method_2_code 1 = .ok (.getfield 57, 3) := by decide +kernel
theorem dM_thrown_4 : decode prog_6_method_2_code 4 = .ok (.ireturn, 1) := by decide +kernel
theorem dM_wall_0 : decode prog_6_method_6_code 0 = .ok (.aload_n 0, 1) := by decide +kernel
theorem dM_wall_1 : decode prog_6_method_6_code 1 = .ok (.iload_n 1, 1) := by decide +kernel
theorem dM_wall_2 : decode prog_6_method_6_code 2 = .ok (.i2l, 1) := by decide +kernel
theorem dM_wall_3 : decode prog_6_method_6_code 3 = .ok (.lconst 1, 1) := by decide +kernel
theorem dM_wall_4 : decode prog_6_method_6_code 4 = .ok (.ldc2_w 69, 3) := by decide +kernel
theorem dM_wall_7 : decode prog_6_method_6_code 7 = .ok (.invokestatic 63, 3) := by decide +kernel
theorem dM_wall_10 : decode prog_6_method_6_code 10 = .ok (.ifCond .eq 15, 3) := by decide +kernel
theorem dM_wall_13 : decode prog_6_method_6_code 13 = .ok (.iload_n 2, 1) := by decide +kernel
theorem dM_wall_14 : decode prog_6_method_6_code 14 = .ok (.i2l, 1) := by decide +kernel
theorem dM_wall_15 : decode prog_6_method_6_code 15 = .ok (.lconst 1, 1) := by decide +kernel
theorem dM_wall_16 : decode prog_6_method_6_code 16 = .ok (.ldc2_w 69, 3) := by decide +kernel
theorem dM_wall_19 : decode prog_6_method_6_code 19 = .ok (.invokestatic 63, 3) := by decide +kernel
theorem dM_wall_22 : decode prog_6_method_6_code 22 = .ok (.ifCond .ne 7, 3) := by decide +kernel
theorem dM_wall_25 : decode prog_6_method_6_code 25 = .ok (.iconst 1, 1) := by decide +kernel
theorem dM_wall_26 : decode prog_6_method_6_code 26 = .ok (.goto 17, 3) := by decide +kernel
theorem dM_wall_29 : decode prog_6_method_6_code 29 = .ok (.aload_n 0, 1) := by decide +kernel
theorem dM_wall_30 : decode prog_6_method_6_code 30 = .ok (.getfield 60, 3) := by decide +kernel
theorem dM_wall_33 : decode prog_6_method_6_code 33 = .ok (.bipush 12, 2) := by decide +kernel
theorem dM_wall_35 : decode prog_6_method_6_code 35 = .ok (.if_icmp .ne 7, 3) := by decide +kernel
theorem dM_wall_38 : decode prog_6_method_6_code 38 = .ok (.iconst 2, 1) := by decide +kernel
theorem dM_wall_39 : decode prog_6_method_6_code 39 = .ok (.goto 4, 3) := by decide +kernel
theorem dM_wall_42 : decode prog_6_method_6_code 42 = .ok (.iconst 0, 1) := by decide +kernel
theorem dM_wall_43 : decode prog_6_method_6_code 43 = .ok (.putfield 57, 3) := by decide +kernel
theorem dM_wall_46 : decode prog_6_method_6_code 46 = .ok (.aload_n 0, 1) := by decide +kernel
theorem dM_wall_47 : decode prog_6_method_6_code 47 = .ok (.getfield 57, 3) := by decide +kernel
theorem dM_wall_50 : decode prog_6_method_6_code 50 = .ok (.ifCond .le 5, 3) := by decide +kernel
theorem dM_wall_53 : decode prog_6_method_6_code 53 = .ok (.iconst 0, 1) := by decide +kernel
theorem dM_wall_54 : decode prog_6_method_6_code 54 = .ok (.ireturn, 1) := by decide +kernel
theorem dM_wall_55 : decode prog_6_method_6_code 55 = .ok (.aload_n 0, 1) := by decide +kernel
theorem dM_wall_56 : decode prog_6_method_6_code 56 = .ok (.getfield 7, 3) := by decide +kernel
theorem dM_wall_59 : decode prog_6_method_6_code 59 = .ok (.aload_n 0, 1) := by decide +kernel
theorem dM_wall_60 : decode prog_6_method_6_code 60 = .ok (.getfield 60, 3) := by decide +kernel
theorem dM_wall_63 : decode prog_6_method_6_code 63 = .ok (.iload_n 1, 1) := by decide +kernel
theorem dM_wall_64 : decode prog_6_method_6_code 64 = .ok (.iload_n 2, 1) := by decide +kernel
theorem dM_wall_65 : decode prog_6_method_6_code 65 = .ok (.imul, 1) := by decide +kernel
theorem dM_wall_66 : decode prog_6_method_6_code 66 = .ok (.iastore, 1) := by decide +kernel
theorem dM_wall_67 : decode prog_6_method_6_code 67 = .ok (.aload_n 0, 1) := by decide +kernel
theorem dM_wall_68 : decode prog_6_method_6_code 68 = .ok (.dup, 1) := by decide +kernel
theorem dM_wall_69 : decode prog_6_method_6_code 69 = .ok (.getfield 60, 3) := by decide +kernel
theorem dM_wall_72 : decode prog_6_method_6_code 72 = .ok (.iconst 1, 1) := by decide +kernel
theorem dM_wall_73 : decode prog_6_method_6_code 73 = .ok (.iadd, 1) := by decide +kernel
theorem dM_wall_74 : decode prog_6_method_6_code 74 = .ok (.putfield 60, 3) := by decide +kernel
theorem dM_wall_77 : decode prog_6_method_6_code 77 = .ok (.aload_n 0, 1) := by decide +kernel
theorem dM_wall_78 : decode prog_6_method_6_code 78 = .ok (.getfield 60, 3) := by decide +kernel
theorem dM_wall_81 : decode prog_6_method_6_code 81 = .ok (.iconst 1, 1) := by decide +kernel
theorem dM_wall_82 : decode prog_6_method_6_code 82 = .ok (.isub, 1) := by decide +kernel
theorem dM_wall_83 : decode prog_6_method_6_code 83 = .ok (.ireturn, 1) := by decide +kernel
theorem dM_isIn_0 : decode prog_6_method_3_code 0 = .ok (.lload_n 0, 1) := by decide +kernel
theorem dM_isIn_1 : decode prog_6_method_3_code 1 = .ok (.lload_n 2, 1) := by decide +kernel
theorem dM_isIn_2 : decode prog_6_method_3_code 2 = .ok (.lcmp, 1) := by decide +kernel
theorem dM_isIn_3 : decode prog_6_method_3_code 3 = .ok (.ifCond .lt 14, 3) := by decide +kernel
theorem dM_isIn_6 : decode prog_6_method_3_code 6 = .ok (.lload_n 0, 1) := by decide +kernel
theorem dM_isIn_7 : decode prog_6_method_3_code 7 = .ok (.lload 4, 2) := by decide +kernel
theorem dM_isIn_9 : decode prog_6_method_3_code 9 = .ok (.lcmp, 1) := by decide +kernel
theorem dM_isIn_10 : decode prog_6_method_3_code 10 = .ok (.ifCond .gt 7, 3) := by decide +kernel
theorem dM_isIn_13 : decode prog_6_method_3_code 13 = .ok (.iconst 1, 1) := by decide +kernel
theorem dM_isIn_14 : decode prog_6_method_3_code 14 = .ok (.goto 4, 3) := by decide +kernel
theorem dM_isIn_17 : decode prog_6_method_3_code 17 = .ok (.iconst 0, 1) := by decide +kernel
theorem dM_isIn_18 : decode prog_6_method_3_code 18 = .ok (.ireturn, 1) := by decide +kernel
theorem dM_opening_0 : decode prog_6_method_7_code 0 = .ok (.aload_n 0, 1) := by decide +kernel
theorem dM_opening_1 : decode prog_6_method_7_code 1 = .ok (.iload_n 1, 1) := by decide +kernel
theorem dM_opening_2 : decode prog_6_method_7_code 2 = .ok (.invokevirtual 71, 3) := by decide +kernel
theorem dM_opening_5 : decode prog_6_method_7_code 5 = .ok (.ifCond .eq 31, 3) := by decide +kernel
theorem dM_opening_8 : decode prog_6_method_7_code 8 = .ok (.iload_n 2, 1) := by decide +kernel
theorem dM_opening_9 : decode prog_6_method_7_code 9 = .ok (.i2l, 1) := by decide +kernel
theorem dM_opening_10 : decode prog_6_method_7_code 10 = .ok (.lconst 1, 1) := by decide +kernel
theorem dM_opening_11 : decode prog_6_method_7_code 11 = .ok (.ldc2_w 69, 3) := by decide +kernel
theorem dM_opening_14 : decode prog_6_method_7_code 14 = .ok (.invokestatic 63, 3) := by decide +kernel
theorem dM_opening_17 : decode prog_6_method_7_code 17 = .ok (.ifCond .eq 19, 3) := by decide +kernel
theorem dM_opening_20 : decode prog_6_method_7_code 20 = .ok (.iload_n 3, 1) := by decide +kernel
theorem dM_opening_21 : decode prog_6_method_7_code 21 = .ok (.i2l, 1) := by decide +kernel
theorem dM_opening_22 : decode prog_6_method_7_code 22 = .ok (.lconst 1, 1) := by decide +kernel
theorem dM_opening_23 : decode prog_6_method_7_code 23 = .ok (.ldc2_w 69, 3) := by decide +kernel
theorem dM_opening_26 : decode prog_6_method_7_code 26 = .ok (.invokestatic 63, 3) := by decide +kernel
theorem dM_opening_29 : decode prog_6_method_7_code 29 = .ok (.ifCond .eq 7, 3) := by decide +kernel
theorem dM_opening_32 : decode prog_6_method_7_code 32 = .ok (.iconst 1, 1) := by decide +kernel
theorem dM_opening_33 : decode prog_6_method_7_code 33 = .ok (.goto 4, 3) := by decide +kernel
theorem dM_opening_36 : decode prog_6_method_7_code 36 = .ok (.iconst 0, 1) := by decide +kernel
theorem dM_opening_37 : decode prog_6_method_7_code 37 = .ok (.istore 4, 2) := by decide +kernel
theorem dM_opening_39 : decode prog_6_method_7_code 39 = .ok (.aload_n 0, 1) := by decide +kernel
theorem dM_opening_40 : decode prog_6_method_7_code 40 = .ok (.iload 4, 2) := by decide +kernel
theorem dM_opening_42 : decode prog_6_method_7_code 42 = .ok (.ifCond .ne 7, 3) := by decide +kernel
theorem dM_opening_45 : decode prog_6_method_7_code 45 = .ok (.iconst 1, 1) := by decide +kernel
theorem dM_opening_46 : decode prog_6_method_7_code 46 = .ok (.goto 31, 3) := by decide +kernel
theorem dM_opening_49 : decode prog_6_method_7_code 49 = .ok (.aload_n 0, 1) := by decide +kernel
theorem dM_opening_50 : decode prog_6_method_7_code 50 = .ok (.getfield 13, 3) := by decide +kernel
theorem dM_opening_53 : decode prog_6_method_7_code 53 = .ok (.iload_n 1, 1) := by decide +kernel
theorem dM_opening_54 : decode prog_6_method_7_code 54 = .ok (.iaload, 1) := by decide +kernel
theorem dM_opening_55 : decode prog_6_method_7_code 55 = .ok (.bipush 6, 2) := by decide +kernel
theorem dM_opening_57 : decode prog_6_method_7_code 57 = .ok (.if_icmp .eq 15, 3) := by decide +kernel
theorem dM_opening_60 : decode prog_6_method_7_code 60 = .ok (.aload_n 0, 1) := by decide +kernel
theorem dM_opening_61 : decode prog_6_method_7_code 61 = .ok (.getfield 7, 3) := by decide +kernel
theorem dM_opening_64 : decode prog_6_method_7_code 64 = .ok (.iload_n 1, 1) := by decide +kernel
theorem dM_opening_65 : decode prog_6_method_7_code 65 = .ok (.iaload, 1) := by decide +kernel
theorem dM_opening_66 : decode prog_6_method_7_code 66 = .ok (.iload_n 2, 1) := by decide +kernel
theorem dM_opening_67 : decode prog_6_method_7_code 67 = .ok (.iload_n 3, 1) := by decide +kernel
theorem dM_opening_68 : decode prog_6_method_7_code 68 = .ok (.imul, 1) := by decide +kernel
theorem dM_opening_69 : decode prog_6_method_7_code 69 = .ok (.if_icmp .ge 7, 3) := by decide +kernel
theorem dM_opening_72 : decode prog_6_method_7_code 72 = .ok (.iconst 2, 1) := by decide +kernel
theorem dM_opening_73 : decode prog_6_method_7_code 73 = .ok (.goto 4, 3) := by decide +kernel
theorem dM_opening_76 : decode prog_6_method_7_code 76 = .ok (.iconst 0, 1) := by decide +kernel
theorem dM_opening_77 : decode prog_6_method_7_code 77 = .ok (.putfield 57, 3) := by decide +kernel
theorem dM_opening_80 : decode prog_6_method_7_code 80 = .ok (.aload_n 0, 1) := by decide +kernel
theorem dM_opening_81 : decode prog_6_method_7_code 81 = .ok (.getfield 57, 3) := by decide +kernel
theorem dM_opening_84 : decode prog_6_method_7_code 84 = .ok (.ifCond .le 5, 3) := by decide +kernel
theorem dM_opening_87 : decode prog_6_method_7_code 87 = .ok (.iconst 0, 1) := by decide +kernel
theorem dM_opening_88 : decode prog_6_method_7_code 88 = .ok (.ireturn, 1) := by decide +kernel
theorem dM_opening_89 : decode prog_6_method_7_code 89 = .ok (.aload_n 0, 1) := by decide +kernel
theorem dM_opening_90 : decode prog_6_method_7_code 90 = .ok (.getfield 7, 3) := by decide +kernel
theorem dM_opening_93 : decode prog_6_method_7_code 93 = .ok (.iload_n 1, 1) := by decide +kernel
theorem dM_opening_94 : decode prog_6_method_7_code 94 = .ok (.dup2, 1) := by decide +kernel
theorem dM_opening_95 : decode prog_6_method_7_code 95 = .ok (.iaload, 1) := by decide +kernel
theorem dM_opening_96 : decode prog_6_method_7_code 96 = .ok (.iload_n 2, 1) := by decide +kernel
theorem dM_opening_97 : decode prog_6_method_7_code 97 = .ok (.iload_n 3, 1) := by decide +kernel
theorem dM_opening_98 : decode prog_6_method_7_code 98 = .ok (.imul, 1) := by decide +kernel
theorem dM_opening_99 : decode prog_6_method_7_code 99 = .ok (.isub, 1) := by decide +kernel
theorem dM_opening_100 : decode prog_6_method_7_code 100 = .ok (.iastore, 1) := by decide +kernel
theorem dM_opening_101 : decode prog_6_method_7_code 101 = .ok (.aload_n 0, 1) := by decide +kernel
theorem dM_opening_102 : decode prog_6_method_7_code 102 = .ok (.getfield 13, 3) := by decide +kernel
theorem dM_opening_105 : decode prog_6_method_7_code 105 = .ok (.iload_n 1, 1) := by decide +kernel
theorem dM_opening_106 : decode prog_6_method_7_code 106 = .ok (.dup2, 1) := by decide +kernel
theorem dM_opening_107 : decode prog_6_method_7_code 107 = .ok (.iaload, 1) := by decide +kernel
theorem dM_opening_108 : decode prog_6_method_7_code 108 = .ok (.iconst 1, 1) := by decide +kernel
theorem dM_opening_109 : decode prog_6_method_7_code 109 = .ok (.iadd, 1) := by decide +kernel
theorem dM_opening_110 : decode prog_6_method_7_code 110 = .ok (.iastore, 1) := by decide +kernel
theorem dM_opening_111 : decode prog_6_method_7_code 111 = .ok (.aload_n 0, 1) := by decide +kernel
theorem dM_opening_112 : decode prog_6_method_7_code 112 = .ok (.getfield 7, 3) := by decide +kernel
theorem dM_opening_115 : decode prog_6_method_7_code 115 = .ok (.iload_n 1, 1) := by decide +kernel
theorem dM_opening_116 : decode prog_6_method_7_code 116 = .ok (.iaload, 1) := by decide +kernel
theorem dM_opening_117 : decode prog_6_method_7_code 117 = .ok (.ireturn, 1) := by decide +kernel
theorem dM_isWall_0 : decode prog_6_method_4_code 0 = .ok (.iload_n 1, 1) := by decide +kernel
theorem dM_isWall_1 : decode prog_6_method_4_code 1 = .ok (.i2l, 1) := by decide +kernel
theorem dM_isWall_2 : decode prog_6_method_4_code 2 = .ok (.lconst 0, 1) := by decide +kernel
theorem dM_isWall_3 : decode prog_6_method_4_code 3 = .ok (.aload_n 0, 1) := by decide +kernel
theorem dM_isWall_4 : decode prog_6_method_4_code 4 = .ok (.getfield 60, 3) := by decide +kernel
theorem dM_isWall_7 : decode prog_6_method_4_code 7 = .ok (.iconst 1, 1) := by decide +kernel
theorem dM_isWall_8 : decode prog_6_method_4_code 8 = .ok (.isub, 1) := by decide +kernel
theorem dM_isWall_9 : decode prog_6_method_4_code 9 = .ok (.i2l, 1) := by decide +kernel
theorem dM_isWall_10 : decode prog_6_method_4_code 10 = .ok (.invokestatic 63, 3) := by decide +kernel
theorem dM_isWall_13 : decode prog_6_method_4_code 13 = .ok (.ireturn, 1) := by decide +kernel
theorem dM_layer_0 : decode prog_6_method_8_code 0 = .ok (.aload_n 0, 1) := by decide +kernel
theorem dM_layer_1 : decode prog_6_method_8_code 1 = .ok (.aload_n 0, 1) := by decide +kernel
theorem dM_layer_2 : decode prog_6_method_8_code 2 = .ok (.iload_n 1, 1) := by decide +kernel
theorem dM_layer_3 : decode prog_6_method_8_code 3 = .ok (.invokevirtual 71, 3) := by decide +kernel
theorem dM_layer_6 : decode prog_6_method_8_code 6 = .ok (.ifCond .eq 22, 3) := by decide +kernel
theorem dM_layer_9 : decode prog_6_method_8_code 9 = .ok (.iload_n 2, 1) := by decide +kernel
theorem dM_layer_10 : decode prog_6_method_8_code 10 = .ok (.invokestatic 75, 3) := by decide +kernel
theorem dM_layer_13 : decode prog_6_method_8_code 13 = .ok (.ifCond .eq 15, 3) := by decide +kernel
theorem dM_layer_16 : decode prog_6_method_8_code 16 = .ok (.iload_n 3, 1) := by decide +kernel
theorem dM_layer_17 : decode prog_6_method_8_code 17 = .ok (.i2l, 1) := by decide +kernel
theorem dM_layer_18 : decode prog_6_method_8_code 18 = .ok (.lconst 1, 1) := by decide +kernel
theorem dM_layer_19 : decode prog_6_method_8_code 19 = .ok (.ldc2_w 78, 3) := by decide +kernel
theorem dM_layer_22 : decode prog_6_method_8_code 22 = .ok (.invokestatic 63, 3) := by decide +kernel
theorem dM_layer_25 : decode prog_6_method_8_code 25 = .ok (.ifCond .ne 7, 3) := by decide +kernel
theorem dM_layer_28 : decode prog_6_method_8_code 28 = .ok (.iconst 1, 1) := by decide +kernel
theorem dM_layer_29 : decode prog_6_method_8_code 29 = .ok (.goto 19, 3) := by decide +kernel
theorem dM_layer_32 : decode prog_6_method_8_code 32 = .ok (.aload_n 0, 1) := by decide +kernel
theorem dM_layer_33 : decode prog_6_method_8_code 33 = .ok (.getfield 16, 3) := by decide +kernel
theorem dM_layer_36 : decode prog_6_method_8_code 36 = .ok (.iload_n 1, 1) := by decide +kernel
theorem dM_layer_37 : decode prog_6_method_8_code 37 = .ok (.iaload, 1) := by decide +kernel
theorem dM_layer_38 : decode prog_6_method_8_code 38 = .ok (.bipush 8, 2) := by decide +kernel
theorem dM_layer_40 : decode prog_6_method_8_code 40 = .ok (.if_icmp .ne 7, 3) := by decide +kernel
theorem dM_layer_43 : decode prog_6_method_8_code 43 = .ok (.iconst 2, 1) := by decide +kernel
theorem dM_layer_44 : decode prog_6_method_8_code 44 = .ok (.goto 4, 3) := by decide +kernel
theorem dM_layer_47 : decode prog_6_method_8_code 47 = .ok (.iconst 0, 1) := by decide +kernel
theorem dM_layer_48 : decode prog_6_method_8_code 48 = .ok (.putfield 57, 3) := by decide +kernel
theorem dM_layer_51 : decode prog_6_method_8_code 51 = .ok (.aload_n 0, 1) := by decide +kernel
theorem dM_layer_52 : decode prog_6_method_8_code 52 = .ok (.getfield 57, 3) := by decide +kernel
theorem dM_layer_55 : decode prog_6_method_8_code 55 = .ok (.ifCond .le 5, 3) := by decide +kernel
theorem dM_layer_58 : decode prog_6_method_8_code 58 = .ok (.iconst 0, 1) := by decide +kernel
theorem dM_layer_59 : decode prog_6_method_8_code 59 = .ok (.ireturn, 1) := by decide +kernel
theorem dM_layer_60 : decode prog_6_method_8_code 60 = .ok (.aload_n 0, 1) := by decide +kernel
theorem dM_layer_61 : decode prog_6_method_8_code 61 = .ok (.getfield 19, 3) := by decide +kernel
theorem dM_layer_64 : decode prog_6_method_8_code 64 = .ok (.bipush 8, 2) := by decide +kernel
theorem dM_layer_66 : decode prog_6_method_8_code 66 = .ok (.iload_n 1, 1) := by decide +kernel
theorem dM_layer_67 : decode prog_6_method_8_code 67 = .ok (.imul, 1) := by decide +kernel
theorem dM_layer_68 : decode prog_6_method_8_code 68 = .ok (.aload_n 0, 1) := by decide +kernel
theorem dM_layer_69 : decode prog_6_method_8_code 69 = .ok (.getfield 16, 3) := by decide +kernel
theorem dM_layer_72 : decode prog_6_method_8_code 72 = .ok (.iload_n 1, 1) := by decide +kernel
theorem dM_layer_73 : decode prog_6_method_8_code 73 = .ok (.iaload, 1) := by decide +kernel
theorem dM_layer_74 : decode prog_6_method_8_code 74 = .ok (.iadd, 1) := by decide +kernel
theorem dM_layer_75 : decode prog_6_method_8_code 75 = .ok (.iload_n 2, 1) := by decide +kernel
theorem dM_layer_76 : decode prog_6_method_8_code 76 = .ok (.iastore, 1) := by decide +kernel
theorem dM_layer_77 : decode prog_6_method_8_code 77 = .ok (.aload_n 0, 1) := by decide +kernel
theorem dM_layer_78 : decode prog_6_method_8_code 78 = .ok (.getfield 22, 3) := by decide +kernel
theorem dM_layer_81 : decode prog_6_method_8_code 81 = .ok (.bipush 8, 2) := by decide +kernel
theorem dM_layer_83 : decode prog_6_method_8_code 83 = .ok (.iload_n 1, 1) := by decide +kernel
theorem dM_layer_84 : decode prog_6_method_8_code 84 = .ok (.imul, 1) := by decide +kernel
theorem dM_layer_85 : decode prog_6_method_8_code 85 = .ok (.aload_n 0, 1) := by decide +kernel
theorem dM_layer_86 : decode prog_6_method_8_code 86 = .ok (.getfield 16, 3) := by decide +kernel
theorem dM_layer_89 : decode prog_6_method_8_code 89 = .ok (.iload_n 1, 1) := by decide +kernel
theorem dM_layer_90 : decode prog_6_method_8_code 90 = .ok (.iaload, 1) := by decide +kernel
theorem dM_layer_91 : decode prog_6_method_8_code 91 = .ok (.iadd, 1) := by decide +kernel
theorem dM_layer_92 : decode prog_6_method_8_code 92 = .ok (.iload_n 3, 1) := by decide +kernel
theorem dM_layer_93 : decode prog_6_method_8_code 93 = .ok (.iastore, 1) := by decide +kernel
theorem dM_layer_94 : decode prog_6_method_8_code 94 = .ok (.aload_n 0, 1) := by decide +kernel
theorem dM_layer_95 : decode prog_6_method_8_code 95 = .ok (.getfield 16, 3) := by decide +kernel
theorem dM_layer_98 : decode prog_6_method_8_code 98 = .ok (.iload_n 1, 1) := by decide +kernel
theorem dM_layer_99 : decode prog_6_method_8_code 99 = .ok (.dup2, 1) := by decide +kernel
theorem dM_layer_100 : decode prog_6_method_8_code 100 = .ok (.iaload, 1) := by decide +kernel
theorem dM_layer_101 : decode prog_6_method_8_code 101 = .ok (.iconst 1, 1) := by decide +kernel
theorem dM_layer_102 : decode prog_6_method_8_code 102 = .ok (.iadd, 1) := by decide +kernel
theorem dM_layer_103 : decode prog_6_method_8_code 103 = .ok (.iastore, 1) := by decide +kernel
theorem dM_layer_104 : decode prog_6_method_8_code 104 = .ok (.aload_n 0, 1) := by decide +kernel
theorem dM_layer_105 : decode prog_6_method_8_code 105 = .ok (.getfield 16, 3) := by decide +kernel
theorem dM_layer_108 : decode prog_6_method_8_code 108 = .ok (.iload_n 1, 1) := by decide +kernel
theorem dM_layer_109 : decode prog_6_method_8_code 109 = .ok (.iaload, 1) := by decide +kernel
theorem dM_layer_110 : decode prog_6_method_8_code 110 = .ok (.ireturn, 1) := by decide +kernel
theorem dM_isStuff_0 : decode prog_6_method_5_code 0 = .ok (.iload_n 0, 1) := by decide +kernel
theorem dM_isStuff_1 : decode prog_6_method_5_code 1 = .ok (.i2l, 1) := by decide +kernel
theorem dM_isStuff_2 : decode prog_6_method_5_code 2 = .ok (.lconst 0, 1) := by decide +kernel
theorem dM_isStuff_3 : decode prog_6_method_5_code 3 = .ok (.ldc2_w 67, 3) := by decide +kernel
theorem dM_isStuff_6 : decode prog_6_method_5_code 6 = .ok (.invokestatic 63, 3) := by decide +kernel
theorem dM_isStuff_9 : decode prog_6_method_5_code 9 = .ok (.ireturn, 1) := by decide +kernel
theorem dM_waste_0 : decode prog_6_method_9_code 0 = .ok (.aload_n 0, 1) := by decide +kernel
theorem dM_waste_1 : decode prog_6_method_9_code 1 = .ok (.iload_n 1, 1) := by decide +kernel
theorem dM_waste_2 : decode prog_6_method_9_code 2 = .ok (.invokestatic 75, 3) := by decide +kernel
theorem dM_waste_5 : decode prog_6_method_9_code 5 = .ok (.ifCond .eq 19, 3) := by decide +kernel
theorem dM_waste_8 : decode prog_6_method_9_code 8 = .ok (.iload_n 2, 1) := by decide +kernel
theorem dM_waste_9 : decode prog_6_method_9_code 9 = .ok (.i2l, 1) := by decide +kernel
theorem dM_waste_10 : decode prog_6_method_9_code 10 = .ok (.lconst 0, 1) := by decide +kernel
theorem dM_waste_11 : decode prog_6_method_9_code 11 = .ok (.ldc2_w 80, 3) := by decide +kernel
theorem dM_waste_14 : decode prog_6_method_9_code 14 = .ok (.invokestatic 63, 3) := by decide +kernel
theorem dM_waste_17 : decode prog_6_method_9_code 17 = .ok (.ifCond .eq 7, 3) := by decide +kernel
theorem dM_waste_20 : decode prog_6_method_9_code 20 = .ok (.iconst 0, 1) := by decide +kernel
theorem dM_waste_21 : decode prog_6_method_9_code 21 = .ok (.goto 4, 3) := by decide +kernel
theorem dM_waste_24 : decode prog_6_method_9_code 24 = .ok (.iconst 1, 1) := by decide +kernel
theorem dM_waste_25 : decode prog_6_method_9_code 25 = .ok (.putfield 57, 3) := by decide +kernel
theorem dM_waste_28 : decode prog_6_method_9_code 28 = .ok (.aload_n 0, 1) := by decide +kernel
theorem dM_waste_29 : decode prog_6_method_9_code 29 = .ok (.getfield 57, 3) := by decide +kernel
theorem dM_waste_32 : decode prog_6_method_9_code 32 = .ok (.ifCond .le 5, 3) := by decide +kernel
theorem dM_waste_35 : decode prog_6_method_9_code 35 = .ok (.iconst 0, 1) := by decide +kernel
theorem dM_waste_36 : decode prog_6_method_9_code 36 = .ok (.ireturn, 1) := by decide +kernel
theorem dM_waste_37 : decode prog_6_method_9_code 37 = .ok (.aload_n 0, 1) := by decide +kernel
theorem dM_waste_38 : decode prog_6_method_9_code 38 = .ok (.getfield 25, 3) := by decide +kernel
theorem dM_waste_41 : decode prog_6_method_9_code 41 = .ok (.iload_n 1, 1) := by decide +kernel
theorem dM_waste_42 : decode prog_6_method_9_code 42 = .ok (.iaload, 1) := by decide +kernel
theorem dM_waste_43 : decode prog_6_method_9_code 43 = .ok (.istore_n 3, 1) := by decide +kernel
theorem dM_waste_44 : decode prog_6_method_9_code 44 = .ok (.aload_n 0, 1) := by decide +kernel
theorem dM_waste_45 : decode prog_6_method_9_code 45 = .ok (.getfield 25, 3) := by decide +kernel
theorem dM_waste_48 : decode prog_6_method_9_code 48 = .ok (.iload_n 1, 1) := by decide +kernel
theorem dM_waste_49 : decode prog_6_method_9_code 49 = .ok (.iload_n 2, 1) := by decide +kernel
theorem dM_waste_50 : decode prog_6_method_9_code 50 = .ok (.iastore, 1) := by decide +kernel
theorem dM_waste_51 : decode prog_6_method_9_code 51 = .ok (.iload_n 3, 1) := by decide +kernel
theorem dM_waste_52 : decode prog_6_method_9_code 52 = .ok (.ireturn, 1) := by decide +kernel
theorem dM_told_0 : decode prog_6_method_10_code 0 = .ok (.aload_n 0, 1) := by decide +kernel
theorem dM_told_1 : decode prog_6_method_10_code 1 = .ok (.aload_n 0, 1) := by decide +kernel
theorem dM_told_2 : decode prog_6_method_10_code 2 = .ok (.iload_n 1, 1) := by decide +kernel
theorem dM_told_3 : decode prog_6_method_10_code 3 = .ok (.invokevirtual 71, 3) := by decide +kernel
theorem dM_told_6 : decode prog_6_method_10_code 6 = .ok (.ifCond .eq 19, 3) := by decide +kernel
theorem dM_told_9 : decode prog_6_method_10_code 9 = .ok (.iload_n 2, 1) := by decide +kernel
theorem dM_told_10 : decode prog_6_method_10_code 10 = .ok (.i2l, 1) := by decide +kernel
theorem dM_told_11 : decode prog_6_method_10_code 11 = .ok (.lconst 0, 1) := by decide +kernel
theorem dM_told_12 : decode prog_6_method_10_code 12 = .ok (.ldc2_w 82, 3) := by decide +kernel
theorem dM_told_15 : decode prog_6_method_10_code 15 = .ok (.invokestatic 63, 3) := by decide +kernel
theorem dM_told_18 : decode prog_6_method_10_code 18 = .ok (.ifCond .eq 7, 3) := by decide +kernel
theorem dM_told_21 : decode prog_6_method_10_code 21 = .ok (.iconst 0, 1) := by decide +kernel
theorem dM_told_22 : decode prog_6_method_10_code 22 = .ok (.goto 4, 3) := by decide +kernel
theorem dM_told_25 : decode prog_6_method_10_code 25 = .ok (.iconst 1, 1) := by decide +kernel
theorem dM_told_26 : decode prog_6_method_10_code 26 = .ok (.putfield 57, 3) := by decide +kernel
theorem dM_told_29 : decode prog_6_method_10_code 29 = .ok (.aload_n 0, 1) := by decide +kernel
theorem dM_told_30 : decode prog_6_method_10_code 30 = .ok (.getfield 57, 3) := by decide +kernel
theorem dM_told_33 : decode prog_6_method_10_code 33 = .ok (.ifCond .le 5, 3) := by decide +kernel
theorem dM_told_36 : decode prog_6_method_10_code 36 = .ok (.iconst 0, 1) := by decide +kernel
theorem dM_told_37 : decode prog_6_method_10_code 37 = .ok (.ireturn, 1) := by decide +kernel
theorem dM_told_38 : decode prog_6_method_10_code 38 = .ok (.iconst 0, 1) := by decide +kernel
theorem dM_told_39 : decode prog_6_method_10_code 39 = .ok (.istore_n 3, 1) := by decide +kernel
theorem dM_told_40 : decode prog_6_method_10_code 40 = .ok (.bipush 8, 2) := by decide +kernel
theorem dM_told_42 : decode prog_6_method_10_code 42 = .ok (.iload_n 1, 1) := by decide +kernel
theorem dM_told_43 : decode prog_6_method_10_code 43 = .ok (.imul, 1) := by decide +kernel
theorem dM_told_44 : decode prog_6_method_10_code 44 = .ok (.istore 4, 2) := by decide +kernel
theorem dM_told_46 : decode prog_6_method_10_code 46 = .ok (.iload 4, 2) := by decide +kernel
theorem dM_told_48 : decode prog_6_method_10_code 48 = .ok (.bipush 8, 2) := by decide +kernel
theorem dM_told_50 : decode prog_6_method_10_code 50 = .ok (.iload_n 1, 1) := by decide +kernel
theorem dM_told_51 : decode prog_6_method_10_code 51 = .ok (.imul, 1) := by decide +kernel
theorem dM_told_52 : decode prog_6_method_10_code 52 = .ok (.aload_n 0, 1) := by decide +kernel
theorem dM_told_53 : decode prog_6_method_10_code 53 = .ok (.getfield 16, 3) := by decide +kernel
theorem dM_told_56 : decode prog_6_method_10_code 56 = .ok (.iload_n 1, 1) := by decide +kernel
theorem dM_told_57 : decode prog_6_method_10_code 57 = .ok (.iaload, 1) := by decide +kernel
theorem dM_told_58 : decode prog_6_method_10_code 58 = .ok (.iadd, 1) := by decide +kernel
theorem dM_told_59 : decode prog_6_method_10_code 59 = .ok (.if_icmp .ge 19, 3) := by decide +kernel
theorem dM_told_62 : decode prog_6_method_10_code 62 = .ok (.iload_n 3, 1) := by decide +kernel
theorem dM_told_63 : decode prog_6_method_10_code 63 = .ok (.aload_n 0, 1) := by decide +kernel
theorem dM_told_64 : decode prog_6_method_10_code 64 = .ok (.getfield 22, 3) := by decide +kernel
theorem dM_told_67 : decode prog_6_method_10_code 67 = .ok (.iload 4, 2) := by decide +kernel
theorem dM_told_69 : decode prog_6_method_10_code 69 = .ok (.iaload, 1) := by decide +kernel
theorem dM_told_70 : decode prog_6_method_10_code 70 = .ok (.iadd, 1) := by decide +kernel
theorem dM_told_71 : decode prog_6_method_10_code 71 = .ok (.istore_n 3, 1) := by decide +kernel
theorem dM_told_72 : decode prog_6_method_10_code 72 = .ok (.iinc 4 1, 3) := by decide +kernel
theorem dM_told_75 : decode prog_6_method_10_code 75 = .ok (.goto (-29), 3) := by decide +kernel
theorem dM_told_78 : decode prog_6_method_10_code 78 = .ok (.iload_n 2, 1) := by decide +kernel
theorem dM_told_79 : decode prog_6_method_10_code 79 = .ok (.ifCond .ne 12, 3) := by decide +kernel
theorem dM_told_82 : decode prog_6_method_10_code 82 = .ok (.aload_n 0, 1) := by decide +kernel
theorem dM_told_83 : decode prog_6_method_10_code 83 = .ok (.getfield 7, 3) := by decide +kernel
theorem dM_told_86 : decode prog_6_method_10_code 86 = .ok (.iload_n 1, 1) := by decide +kernel
theorem dM_told_87 : decode prog_6_method_10_code 87 = .ok (.iaload, 1) := by decide +kernel
theorem dM_told_88 : decode prog_6_method_10_code 88 = .ok (.goto 18, 3) := by decide +kernel
theorem dM_told_91 : decode prog_6_method_10_code 91 = .ok (.iload_n 2, 1) := by decide +kernel
theorem dM_told_92 : decode prog_6_method_10_code 92 = .ok (.iconst 1, 1) := by decide +kernel
theorem dM_told_93 : decode prog_6_method_10_code 93 = .ok (.if_icmp .ne 7, 3) := by decide +kernel
theorem dM_told_96 : decode prog_6_method_10_code 96 = .ok (.iload_n 3, 1) := by decide +kernel
theorem dM_told_97 : decode prog_6_method_10_code 97 = .ok (.goto 9, 3) := by decide +kernel
theorem dM_told_100 : decode prog_6_method_10_code 100 = .ok (.aload_n 0, 1) := by decide +kernel
theorem dM_told_101 : decode prog_6_method_10_code 101 = .ok (.getfield 13, 3) := by decide +kernel
theorem dM_told_104 : decode prog_6_method_10_code 104 = .ok (.iload_n 1, 1) := by decide +kernel
theorem dM_told_105 : decode prog_6_method_10_code 105 = .ok (.iaload, 1) := by decide +kernel
theorem dM_told_106 : decode prog_6_method_10_code 106 = .ok (.ireturn, 1) := by decide +kernel
theorem dM_need_0 : decode prog_6_method_12_code 0 = .ok (.aload_n 0, 1) := by decide +kernel
theorem dM_need_1 : decode prog_6_method_12_code 1 = .ok (.iload_n 1, 1) := by decide +kernel
theorem dM_need_2 : decode prog_6_method_12_code 2 = .ok (.invokestatic 75, 3) := by decide +kernel
theorem dM_need_5 : decode prog_6_method_12_code 5 = .ok (.ifCond .eq 7, 3) := by decide +kernel
theorem dM_need_8 : decode prog_6_method_12_code 8 = .ok (.iconst 0, 1) := by decide +kernel
theorem dM_need_9 : decode prog_6_method_12_code 9 = .ok (.goto 4, 3) := by decide +kernel
theorem dM_need_12 : decode prog_6_method_12_code 12 = .ok (.iconst 1, 1) := by decide +kernel
theorem dM_need_13 : decode prog_6_method_12_code 13 = .ok (.putfield 57, 3) := by decide +kernel
theorem dM_need_16 : decode prog_6_method_12_code 16 = .ok (.aload_n 0, 1) := by decide +kernel
theorem dM_need_17 : decode prog_6_method_12_code 17 = .ok (.getfield 57, 3) := by decide +kernel
theorem dM_need_20 : decode prog_6_method_12_code 20 = .ok (.ifCond .le 7, 3) := by decide +kernel
theorem dM_need_23 : decode prog_6_method_12_code 23 = .ok (.lconst 0, 1) := by decide +kernel
theorem dM_need_24 : decode prog_6_method_12_code 24 = .ok (.goto 8, 3) := by decide +kernel
theorem dM_need_27 : decode prog_6_method_12_code 27 = .ok (.aload_n 0, 1) := by decide +kernel
theorem dM_need_28 : decode prog_6_method_12_code 28 = .ok (.iload_n 1, 1) := by decide +kernel
theorem dM_need_29 : decode prog_6_method_12_code 29 = .ok (.invokevirtual 86, 3) := by decide +kernel
theorem dM_need_32 : decode prog_6_method_12_code 32 = .ok (.lreturn, 1) := by decide +kernel
theorem dM_needOf_0 : decode prog_6_method_11_code 0 = .ok (.lconst 0, 1) := by decide +kernel
theorem dM_needOf_1 : decode prog_6_method_11_code 1 = .ok (.lstore_n 2, 1) := by decide +kernel
theorem dM_needOf_2 : decode prog_6_method_11_code 2 = .ok (.iconst 0, 1) := by decide +kernel
theorem dM_needOf_3 : decode prog_6_method_11_code 3 = .ok (.istore 4, 2) := by decide +kernel
theorem dM_needOf_5 : decode prog_6_method_11_code 5 = .ok (.iload 4, 2) := by decide +kernel
theorem dM_needOf_7 : decode prog_6_method_11_code 7 = .ok (.aload_n 0, 1) := by decide +kernel
theorem dM_needOf_8 : decode prog_6_method_11_code 8 = .ok (.getfield 60, 3) := by decide +kernel
theorem dM_needOf_11 : decode prog_6_method_11_code 11 = .ok (.if_icmp .ge 75, 3) := by decide +kernel
theorem dM_needOf_14 : decode prog_6_method_11_code 14 = .ok (.bipush 8, 2) := by decide +kernel
theorem dM_needOf_16 : decode prog_6_method_11_code 16 = .ok (.iload 4, 2) := by decide +kernel
theorem dM_needOf_18 : decode prog_6_method_11_code 18 = .ok (.imul, 1) := by decide +kernel
theorem dM_needOf_19 : decode prog_6_method_11_code 19 = .ok (.istore 5, 2) := by decide +kernel
theorem dM_needOf_21 : decode prog_6_method_11_code 21 = .ok (.iload 5, 2) := by decide +kernel
theorem dM_needOf_23 : decode prog_6_method_11_code 23 = .ok (.bipush 8, 2) := by decide +kernel
theorem dM_needOf_25 : decode prog_6_method_11_code 25 = .ok (.iload 4, 2) := by decide +kernel
theorem dM_needOf_27 : decode prog_6_method_11_code 27 = .ok (.imul, 1) := by decide +kernel
theorem dM_needOf_28 : decode prog_6_method_11_code 28 = .ok (.aload_n 0, 1) := by decide +kernel
theorem dM_needOf_29 : decode prog_6_method_11_code 29 = .ok (.getfield 16, 3) := by decide +kernel
theorem dM_needOf_32 : decode prog_6_method_11_code 32 = .ok (.iload 4, 2) := by decide +kernel
theorem dM_needOf_34 : decode prog_6_method_11_code 34 = .ok (.iaload, 1) := by decide +kernel
theorem dM_needOf_35 : decode prog_6_method_11_code 35 = .ok (.iadd, 1) := by decide +kernel
theorem dM_needOf_36 : decode prog_6_method_11_code 36 = .ok (.if_icmp .ge 44, 3) := by decide +kernel
theorem dM_needOf_39 : decode prog_6_method_11_code 39 = .ok (.lload_n 2, 1) := by decide +kernel
theorem dM_needOf_40 : decode prog_6_method_11_code 40 = .ok (.aload_n 0, 1) := by decide +kernel
theorem dM_needOf_41 : decode prog_6_method_11_code 41 = .ok (.getfield 19, 3) := by decide +kernel
theorem dM_needOf_44 : decode prog_6_method_11_code 44 = .ok (.iload 5, 2) := by decide +kernel
theorem dM_needOf_46 : decode prog_6_method_11_code 46 = .ok (.iaload, 1) := by decide +kernel
theorem dM_needOf_47 : decode prog_6_method_11_code 47 = .ok (.iload_n 1, 1) := by decide +kernel
theorem dM_needOf_48 : decode prog_6_method_11_code 48 = .ok (.if_icmp .ne 23, 3) := by decide +kernel
theorem dM_needOf_51 : decode prog_6_method_11_code 51 = .ok (.aload_n 0, 1) := by decide +kernel
theorem dM_needOf_52 : decode prog_6_method_11_code 52 = .ok (.getfield 22, 3) := by decide +kernel
theorem dM_needOf_55 : decode prog_6_method_11_code 55 = .ok (.iload 5, 2) := by decide +kernel
theorem dM_needOf_57 : decode prog_6_method_11_code 57 = .ok (.iaload, 1) := by decide +kernel
theorem dM_needOf_58 : decode prog_6_method_11_code 58 = .ok (.i2l, 1) := by decide +kernel
theorem dM_needOf_59 : decode prog_6_method_11_code 59 = .ok (.aload_n 0, 1) := by decide +kernel
theorem dM_needOf_60 : decode prog_6_method_11_code 60 = .ok (.getfield 7, 3) := by decide +kernel
theorem dM_needOf_63 : decode prog_6_method_11_code 63 = .ok (.iload 4, 2) := by decide +kernel
theorem dM_needOf_65 : decode prog_6_method_11_code 65 = .ok (.iaload, 1) := by decide +kernel
theorem dM_needOf_66 : decode prog_6_method_11_code 66 = .ok (.i2l, 1) := by decide +kernel
theorem dM_needOf_67 : decode prog_6_method_11_code 67 = .ok (.lmul, 1) := by decide +kernel
theorem dM_needOf_68 : decode prog_6_method_11_code 68 = .ok (.goto 4, 3) := by decide +kernel
theorem dM_needOf_71 : decode prog_6_method_11_code 71 = .ok (.lconst 0, 1) := by decide +kernel
theorem dM_needOf_72 : decode prog_6_method_11_code 72 = .ok (.ladd, 1) := by decide +kernel
theorem dM_needOf_73 : decode prog_6_method_11_code 73 = .ok (.lstore_n 2, 1) := by decide +kernel
theorem dM_needOf_74 : decode prog_6_method_11_code 74 = .ok (.iinc 5 1, 3) := by decide +kernel
theorem dM_needOf_77 : decode prog_6_method_11_code 77 = .ok (.goto (-56), 3) := by decide +kernel
theorem dM_needOf_80 : decode prog_6_method_11_code 80 = .ok (.iinc 4 1, 3) := by decide +kernel
theorem dM_needOf_83 : decode prog_6_method_11_code 83 = .ok (.goto (-78), 3) := by decide +kernel
theorem dM_needOf_86 : decode prog_6_method_11_code 86 = .ok (.lload_n 2, 1) := by decide +kernel
theorem dM_needOf_87 : decode prog_6_method_11_code 87 = .ok (.bipush 100, 2) := by decide +kernel
theorem dM_needOf_89 : decode prog_6_method_11_code 89 = .ok (.aload_n 0, 1) := by decide +kernel
theorem dM_needOf_90 : decode prog_6_method_11_code 90 = .ok (.getfield 25, 3) := by decide +kernel
theorem dM_needOf_93 : decode prog_6_method_11_code 93 = .ok (.iload_n 1, 1) := by decide +kernel
theorem dM_needOf_94 : decode prog_6_method_11_code 94 = .ok (.iaload, 1) := by decide +kernel
theorem dM_needOf_95 : decode prog_6_method_11_code 95 = .ok (.iadd, 1) := by decide +kernel
theorem dM_needOf_96 : decode prog_6_method_11_code 96 = .ok (.i2l, 1) := by decide +kernel
theorem dM_needOf_97 : decode prog_6_method_11_code 97 = .ok (.lmul, 1) := by decide +kernel
theorem dM_needOf_98 : decode prog_6_method_11_code 98 = .ok (.ldc2_w 84, 3) := by decide +kernel
theorem dM_needOf_101 : decode prog_6_method_11_code 101 = .ok (.ladd, 1) := by decide +kernel
theorem dM_needOf_102 : decode prog_6_method_11_code 102 = .ok (.ldc2_w 80, 3) := by decide +kernel
theorem dM_needOf_105 : decode prog_6_method_11_code 105 = .ok (.ldiv, 1) := by decide +kernel
