-- DECODE ROWS
theorem dM_needOf_106 : decode prog_6_method_11_code 106 = .ok (.lreturn, 1) := by decide +kernel
theorem dM_pack_0 : decode prog_6_method_13_code 0 = .ok (.iload_n 1, 1) := by decide +kernel
theorem dM_pack_1 : decode prog_6_method_13_code 1 = .ok (.invokestatic 75, 3) := by decide +kernel
theorem dM_pack_4 : decode prog_6_method_13_code 4 = .ok (.ifCond .eq 31, 3) := by decide +kernel
theorem dM_pack_7 : decode prog_6_method_13_code 7 = .ok (.iload_n 2, 1) := by decide +kernel
theorem dM_pack_8 : decode prog_6_method_13_code 8 = .ok (.i2l, 1) := by decide +kernel
theorem dM_pack_9 : decode prog_6_method_13_code 9 = .ok (.lconst 1, 1) := by decide +kernel
theorem dM_pack_10 : decode prog_6_method_13_code 10 = .ok (.ldc2_w 90, 3) := by decide +kernel
theorem dM_pack_13 : decode prog_6_method_13_code 13 = .ok (.invokestatic 63, 3) := by decide +kernel
theorem dM_pack_16 : decode prog_6_method_13_code 16 = .ok (.ifCond .eq 19, 3) := by decide +kernel
theorem dM_pack_19 : decode prog_6_method_13_code 19 = .ok (.iload_n 3, 1) := by decide +kernel
theorem dM_pack_20 : decode prog_6_method_13_code 20 = .ok (.i2l, 1) := by decide +kernel
theorem dM_pack_21 : decode prog_6_method_13_code 21 = .ok (.lconst 1, 1) := by decide +kernel
theorem dM_pack_22 : decode prog_6_method_13_code 22 = .ok (.ldc2_w 92, 3) := by decide +kernel
theorem dM_pack_25 : decode prog_6_method_13_code 25 = .ok (.invokestatic 63, 3) := by decide +kernel
theorem dM_pack_28 : decode prog_6_method_13_code 28 = .ok (.ifCond .eq 7, 3) := by decide +kernel
theorem dM_pack_31 : decode prog_6_method_13_code 31 = .ok (.iconst 1, 1) := by decide +kernel
theorem dM_pack_32 : decode prog_6_method_13_code 32 = .ok (.goto 4, 3) := by decide +kernel
theorem dM_pack_35 : decode prog_6_method_13_code 35 = .ok (.iconst 0, 1) := by decide +kernel
theorem dM_pack_36 : decode prog_6_method_13_code 36 = .ok (.istore 4, 2) := by decide +kernel
theorem dM_pack_38 : decode prog_6_method_13_code 38 = .ok (.aload_n 0, 1) := by decide +kernel
theorem dM_pack_39 : decode prog_6_method_13_code 39 = .ok (.iload 4, 2) := by decide +kernel
theorem dM_pack_41 : decode prog_6_method_13_code 41 = .ok (.ifCond .ne 7, 3) := by decide +kernel
theorem dM_pack_44 : decode prog_6_method_13_code 44 = .ok (.iconst 1, 1) := by decide +kernel
theorem dM_pack_45 : decode prog_6_method_13_code 45 = .ok (.goto 18, 3) := by decide +kernel
theorem dM_pack_48 : decode prog_6_method_13_code 48 = .ok (.aload_n 0, 1) := by decide +kernel
theorem dM_pack_49 : decode prog_6_method_13_code 49 = .ok (.getfield 28, 3) := by decide +kernel
theorem dM_pack_52 : decode prog_6_method_13_code 52 = .ok (.iload_n 1, 1) := by decide +kernel
theorem dM_pack_53 : decode prog_6_method_13_code 53 = .ok (.iaload, 1) := by decide +kernel
theorem dM_pack_54 : decode prog_6_method_13_code 54 = .ok (.iconst 4, 1) := by decide +kernel
theorem dM_pack_55 : decode prog_6_method_13_code 55 = .ok (.if_icmp .ne 7, 3) := by decide +kernel
theorem dM_pack_58 : decode prog_6_method_13_code 58 = .ok (.iconst 2, 1) := by decide +kernel
theorem dM_pack_59 : decode prog_6_method_13_code 59 = .ok (.goto 4, 3) := by decide +kernel
theorem dM_pack_62 : decode prog_6_method_13_code 62 = .ok (.iconst 0, 1) := by decide +kernel
theorem dM_pack_63 : decode prog_6_method_13_code 63 = .ok (.putfield 57, 3) := by decide +kernel
theorem dM_pack_66 : decode prog_6_method_13_code 66 = .ok (.aload_n 0, 1) := by decide +kernel
theorem dM_pack_67 : decode prog_6_method_13_code 67 = .ok (.getfield 57, 3) := by decide +kernel
theorem dM_pack_70 : decode prog_6_method_13_code 70 = .ok (.ifCond .le 5, 3) := by decide +kernel
theorem dM_pack_73 : decode prog_6_method_13_code 73 = .ok (.iconst 0, 1) := by decide +kernel
theorem dM_pack_74 : decode prog_6_method_13_code 74 = .ok (.ireturn, 1) := by decide +kernel
theorem dM_pack_75 : decode prog_6_method_13_code 75 = .ok (.aload_n 0, 1) := by decide +kernel
theorem dM_pack_76 : decode prog_6_method_13_code 76 = .ok (.getfield 31, 3) := by decide +kernel
theorem dM_pack_79 : decode prog_6_method_13_code 79 = .ok (.iconst 4, 1) := by decide +kernel
theorem dM_pack_80 : decode prog_6_method_13_code 80 = .ok (.iload_n 1, 1) := by decide +kernel
theorem dM_pack_81 : decode prog_6_method_13_code 81 = .ok (.imul, 1) := by decide +kernel
theorem dM_pack_82 : decode prog_6_method_13_code 82 = .ok (.aload_n 0, 1) := by decide +kernel
theorem dM_pack_83 : decode prog_6_method_13_code 83 = .ok (.getfield 28, 3) := by decide +kernel
theorem dM_pack_86 : decode prog_6_method_13_code 86 = .ok (.iload_n 1, 1) := by decide +kernel
theorem dM_pack_87 : decode prog_6_method_13_code 87 = .ok (.iaload, 1) := by decide +kernel
theorem dM_pack_88 : decode prog_6_method_13_code 88 = .ok (.iadd, 1) := by decide +kernel
theorem dM_pack_89 : decode prog_6_method_13_code 89 = .ok (.iload_n 2, 1) := by decide +kernel
theorem dM_pack_90 : decode prog_6_method_13_code 90 = .ok (.i2l, 1) := by decide +kernel
theorem dM_pack_91 : decode prog_6_method_13_code 91 = .ok (.lastore, 1) := by decide +kernel
theorem dM_pack_92 : decode prog_6_method_13_code 92 = .ok (.aload_n 0, 1) := by decide +kernel
theorem dM_pack_93 : decode prog_6_method_13_code 93 = .ok (.getfield 35, 3) := by decide +kernel
theorem dM_pack_96 : decode prog_6_method_13_code 96 = .ok (.iconst 4, 1) := by decide +kernel
theorem dM_pack_97 : decode prog_6_method_13_code 97 = .ok (.iload_n 1, 1) := by decide +kernel
theorem dM_pack_98 : decode prog_6_method_13_code 98 = .ok (.imul, 1) := by decide +kernel
theorem dM_pack_99 : decode prog_6_method_13_code 99 = .ok (.aload_n 0, 1) := by decide +kernel
theorem dM_pack_100 : decode prog_6_method_13_code 100 = .ok (.getfield 28, 3) := by decide +kernel
theorem dM_pack_103 : decode prog_6_method_13_code 103 = .ok (.iload_n 1, 1) := by decide +kernel
theorem dM_pack_104 : decode prog_6_method_13_code 104 = .ok (.iaload, 1) := by decide +kernel
theorem dM_pack_105 : decode prog_6_method_13_code 105 = .ok (.iadd, 1) := by decide +kernel
theorem dM_pack_106 : decode prog_6_method_13_code 106 = .ok (.iload_n 3, 1) := by decide +kernel
theorem dM_pack_107 : decode prog_6_method_13_code 107 = .ok (.i2l, 1) := by decide +kernel
theorem dM_pack_108 : decode prog_6_method_13_code 108 = .ok (.lastore, 1) := by decide +kernel
theorem dM_pack_109 : decode prog_6_method_13_code 109 = .ok (.aload_n 0, 1) := by decide +kernel
theorem dM_pack_110 : decode prog_6_method_13_code 110 = .ok (.getfield 28, 3) := by decide +kernel
theorem dM_pack_113 : decode prog_6_method_13_code 113 = .ok (.iload_n 1, 1) := by decide +kernel
theorem dM_pack_114 : decode prog_6_method_13_code 114 = .ok (.dup2, 1) := by decide +kernel
theorem dM_pack_115 : decode prog_6_method_13_code 115 = .ok (.iaload, 1) := by decide +kernel
theorem dM_pack_116 : decode prog_6_method_13_code 116 = .ok (.iconst 1, 1) := by decide +kernel
theorem dM_pack_117 : decode prog_6_method_13_code 117 = .ok (.iadd, 1) := by decide +kernel
theorem dM_pack_118 : decode prog_6_method_13_code 118 = .ok (.iastore, 1) := by decide +kernel
theorem dM_pack_119 : decode prog_6_method_13_code 119 = .ok (.aload_n 0, 1) := by decide +kernel
theorem dM_pack_120 : decode prog_6_method_13_code 120 = .ok (.getfield 28, 3) := by decide +kernel
theorem dM_pack_123 : decode prog_6_method_13_code 123 = .ok (.iload_n 1, 1) := by decide +kernel
theorem dM_pack_124 : decode prog_6_method_13_code 124 = .ok (.iaload, 1) := by decide +kernel
theorem dM_pack_125 : decode prog_6_method_13_code 125 = .ok (.iconst 1, 1) := by decide +kernel
theorem dM_pack_126 : decode prog_6_method_13_code 126 = .ok (.isub, 1) := by decide +kernel
theorem dM_pack_127 : decode prog_6_method_13_code 127 = .ok (.ireturn, 1) := by decide +kernel
theorem dM_bought_0 : decode prog_6_method_18_code 0 = .ok (.aload_n 0, 1) := by decide +kernel
theorem dM_bought_1 : decode prog_6_method_18_code 1 = .ok (.iload_n 1, 1) := by decide +kernel
theorem dM_bought_2 : decode prog_6_method_18_code 2 = .ok (.invokestatic 75, 3) := by decide +kernel
theorem dM_bought_5 : decode prog_6_method_18_code 5 = .ok (.ifCond .eq 25, 3) := by decide +kernel
theorem dM_bought_8 : decode prog_6_method_18_code 8 = .ok (.iload_n 2, 1) := by decide +kernel
theorem dM_bought_9 : decode prog_6_method_18_code 9 = .ok (.i2l, 1) := by decide +kernel
theorem dM_bought_10 : decode prog_6_method_18_code 10 = .ok (.lconst 0, 1) := by decide +kernel
theorem dM_bought_11 : decode prog_6_method_18_code 11 = .ok (.aload_n 0, 1) := by decide +kernel
theorem dM_bought_12 : decode prog_6_method_18_code 12 = .ok (.getfield 28, 3) := by decide +kernel
theorem dM_bought_15 : decode prog_6_method_18_code 15 = .ok (.iload_n 1, 1) := by decide +kernel
theorem dM_bought_16 : decode prog_6_method_18_code 16 = .ok (.iaload, 1) := by decide +kernel
theorem dM_bought_17 : decode prog_6_method_18_code 17 = .ok (.iconst 1, 1) := by decide +kernel
theorem dM_bought_18 : decode prog_6_method_18_code 18 = .ok (.isub, 1) := by decide +kernel
theorem dM_bought_19 : decode prog_6_method_18_code 19 = .ok (.i2l, 1) := by decide +kernel
theorem dM_bought_20 : decode prog_6_method_18_code 20 = .ok (.invokestatic 63, 3) := by decide +kernel
theorem dM_bought_23 : decode prog_6_method_18_code 23 = .ok (.ifCond .eq 7, 3) := by decide +kernel
theorem dM_bought_26 : decode prog_6_method_18_code 26 = .ok (.iconst 0, 1) := by decide +kernel
theorem dM_bought_27 : decode prog_6_method_18_code 27 = .ok (.goto 4, 3) := by decide +kernel
theorem dM_bought_30 : decode prog_6_method_18_code 30 = .ok (.iconst 1, 1) := by decide +kernel
theorem dM_bought_31 : decode prog_6_method_18_code 31 = .ok (.putfield 57, 3) := by decide +kernel
theorem dM_bought_34 : decode prog_6_method_18_code 34 = .ok (.aload_n 0, 1) := by decide +kernel
theorem dM_bought_35 : decode prog_6_method_18_code 35 = .ok (.getfield 57, 3) := by decide +kernel
theorem dM_bought_38 : decode prog_6_method_18_code 38 = .ok (.ifCond .le 5, 3) := by decide +kernel
theorem dM_bought_41 : decode prog_6_method_18_code 41 = .ok (.iconst 0, 1) := by decide +kernel
theorem dM_bought_42 : decode prog_6_method_18_code 42 = .ok (.ireturn, 1) := by decide +kernel
theorem dM_bought_43 : decode prog_6_method_18_code 43 = .ok (.aload_n 0, 1) := by decide +kernel
theorem dM_bought_44 : decode prog_6_method_18_code 44 = .ok (.iload_n 1, 1) := by decide +kernel
theorem dM_bought_45 : decode prog_6_method_18_code 45 = .ok (.invokevirtual 114, 3) := by decide +kernel
theorem dM_bought_48 : decode prog_6_method_18_code 48 = .ok (.aload_n 0, 1) := by decide +kernel
theorem dM_bought_49 : decode prog_6_method_18_code 49 = .ok (.getfield 94, 3) := by decide +kernel
theorem dM_bought_52 : decode prog_6_method_18_code 52 = .ok (.lconst 0, 1) := by decide +kernel
theorem dM_bought_53 : decode prog_6_method_18_code 53 = .ok (.lcmp, 1) := by decide +kernel
theorem dM_bought_54 : decode prog_6_method_18_code 54 = .ok (.ifCond .ge 7, 3) := by decide +kernel
theorem dM_bought_57 : decode prog_6_method_18_code 57 = .ok (.iconst (-1), 1) := by decide +kernel
theorem dM_bought_58 : decode prog_6_method_18_code 58 = .ok (.goto 9, 3) := by decide +kernel
theorem dM_bought_61 : decode prog_6_method_18_code 61 = .ok (.aload_n 0, 1) := by decide +kernel
theorem dM_bought_62 : decode prog_6_method_18_code 62 = .ok (.getfield 41, 3) := by decide +kernel
theorem dM_bought_65 : decode prog_6_method_18_code 65 = .ok (.iload_n 2, 1) := by decide +kernel
theorem dM_bought_66 : decode prog_6_method_18_code 66 = .ok (.iaload, 1) := by decide +kernel
theorem dM_bought_67 : decode prog_6_method_18_code 67 = .ok (.ireturn, 1) := by decide +kernel
theorem dM_buy_0 : decode prog_6_method_17_code 0 = .ok (.aload_n 0, 1) := by decide +kernel
theorem dM_buy_1 : decode prog_6_method_17_code 1 = .ok (.ldc2_w 108, 3) := by decide +kernel
theorem dM_buy_4 : decode prog_6_method_17_code 4 = .ok (.putfield 94, 3) := by decide +kernel
theorem dM_buy_7 : decode prog_6_method_17_code 7 = .ok (.iconst 0, 1) := by decide +kernel
theorem dM_buy_8 : decode prog_6_method_17_code 8 = .ok (.istore_n 2, 1) := by decide +kernel
theorem dM_buy_9 : decode prog_6_method_17_code 9 = .ok (.iload_n 2, 1) := by decide +kernel
theorem dM_buy_10 : decode prog_6_method_17_code 10 = .ok (.iconst 4, 1) := by decide +kernel
theorem dM_buy_11 : decode prog_6_method_17_code 11 = .ok (.if_icmp .ge 23, 3) := by decide +kernel
theorem dM_buy_14 : decode prog_6_method_17_code 14 = .ok (.aload_n 0, 1) := by decide +kernel
theorem dM_buy_15 : decode prog_6_method_17_code 15 = .ok (.getfield 38, 3) := by decide +kernel
theorem dM_buy_18 : decode prog_6_method_17_code 18 = .ok (.iload_n 2, 1) := by decide +kernel
theorem dM_buy_19 : decode prog_6_method_17_code 19 = .ok (.iconst 0, 1) := by decide +kernel
theorem dM_buy_20 : decode prog_6_method_17_code 20 = .ok (.iastore, 1) := by decide +kernel
theorem dM_buy_21 : decode prog_6_method_17_code 21 = .ok (.aload_n 0, 1) := by decide +kernel
theorem dM_buy_22 : decode prog_6_method_17_code 22 = .ok (.getfield 41, 3) := by decide +kernel
theorem dM_buy_25 : decode prog_6_method_17_code 25 = .ok (.iload_n 2, 1) := by decide +kernel
theorem dM_buy_26 : decode prog_6_method_17_code 26 = .ok (.iconst 0, 1) := by decide +kernel
theorem dM_buy_27 : decode prog_6_method_17_code 27 = .ok (.iastore, 1) := by decide +kernel
theorem dM_buy_28 : decode prog_6_method_17_code 28 = .ok (.iinc 2 1, 3) := by decide +kernel
theorem dM_buy_31 : decode prog_6_method_17_code 31 = .ok (.goto (-22), 3) := by decide +kernel
theorem dM_buy_34 : decode prog_6_method_17_code 34 = .ok (.aload_n 0, 1) := by decide +kernel
theorem dM_buy_35 : decode prog_6_method_17_code 35 = .ok (.iload_n 1, 1) := by decide +kernel
theorem dM_buy_36 : decode prog_6_method_17_code 36 = .ok (.invokevirtual 86, 3) := by decide +kernel
theorem dM_buy_39 : decode prog_6_method_17_code 39 = .ok (.lstore_n 2, 1) := by decide +kernel
theorem dM_buy_40 : decode prog_6_method_17_code 40 = .ok (.aload_n 0, 1) := by decide +kernel
theorem dM_buy_41 : decode prog_6_method_17_code 41 = .ok (.getfield 28, 3) := by decide +kernel
theorem dM_buy_44 : decode prog_6_method_17_code 44 = .ok (.iload_n 1, 1) := by decide +kernel
theorem dM_buy_45 : decode prog_6_method_17_code 45 = .ok (.iaload, 1) := by decide +kernel
theorem dM_buy_46 : decode prog_6_method_17_code 46 = .ok (.istore 4, 2) := by decide +kernel
theorem dM_buy_48 : decode prog_6_method_17_code 48 = .ok (.iload 4, 2) := by decide +kernel
theorem dM_buy_50 : decode prog_6_method_17_code 50 = .ok (.ifCond .eq 9, 3) := by decide +kernel
theorem dM_buy_53 : decode prog_6_method_17_code 53 = .ok (.lload_n 2, 1) := by decide +kernel
theorem dM_buy_54 : decode prog_6_method_17_code 54 = .ok (.lconst 0, 1) := by decide +kernel
theorem dM_buy_55 : decode prog_6_method_17_code 55 = .ok (.lcmp, 1) := by decide +kernel
theorem dM_buy_56 : decode prog_6_method_17_code 56 = .ok (.ifCond .ne 21, 3) := by decide +kernel
theorem dM_buy_59 : decode prog_6_method_17_code 59 = .ok (.aload_n 0, 1) := by decide +kernel
theorem dM_buy_60 : decode prog_6_method_17_code 60 = .ok (.lload_n 2, 1) := by decide +kernel
theorem dM_buy_61 : decode prog_6_method_17_code 61 = .ok (.lconst 0, 1) := by decide +kernel
theorem dM_buy_62 : decode prog_6_method_17_code 62 = .ok (.lcmp, 1) := by decide +kernel
theorem dM_buy_63 : decode prog_6_method_17_code 63 = .ok (.ifCond .ne 7, 3) := by decide +kernel
theorem dM_buy_66 : decode prog_6_method_17_code 66 = .ok (.lconst 0, 1) := by decide +kernel
theorem dM_buy_67 : decode prog_6_method_17_code 67 = .ok (.goto 6, 3) := by decide +kernel
theorem dM_buy_70 : decode prog_6_method_17_code 70 = .ok (.ldc2_w 108, 3) := by decide +kernel
theorem dM_buy_73 : decode prog_6_method_17_code 73 = .ok (.putfield 94, 3) := by decide +kernel
theorem dM_buy_76 : decode prog_6_method_17_code 76 = .ok (.return_, 1) := by decide +kernel
theorem dM_buy_77 : decode prog_6_method_17_code 77 = .ok (.iload 4, 2) := by decide +kernel
theorem dM_buy_79 : decode prog_6_method_17_code 79 = .ok (.iconst 1, 1) := by decide +kernel
theorem dM_buy_80 : decode prog_6_method_17_code 80 = .ok (.if_icmp .le 8, 3) := by decide +kernel
theorem dM_buy_83 : decode prog_6_method_17_code 83 = .ok (.bipush 60, 2) := by decide +kernel
theorem dM_buy_85 : decode prog_6_method_17_code 85 = .ok (.goto 4, 3) := by decide +kernel
theorem dM_buy_88 : decode prog_6_method_17_code 88 = .ok (.iconst 0, 1) := by decide +kernel
theorem dM_buy_89 : decode prog_6_method_17_code 89 = .ok (.istore 5, 2) := by decide +kernel
theorem dM_buy_91 : decode prog_6_method_17_code 91 = .ok (.iconst 0, 1) := by decide +kernel
theorem dM_buy_92 : decode prog_6_method_17_code 92 = .ok (.istore 6, 2) := by decide +kernel
theorem dM_buy_94 : decode prog_6_method_17_code 94 = .ok (.iload 6, 2) := by decide +kernel
theorem dM_buy_96 : decode prog_6_method_17_code 96 = .ok (.iload 5, 2) := by decide +kernel
theorem dM_buy_98 : decode prog_6_method_17_code 98 = .ok (.if_icmp .gt 115, 3) := by decide +kernel
theorem dM_buy_101 : decode prog_6_method_17_code 101 = .ok (.iload 4, 2) := by decide +kernel
theorem dM_buy_103 : decode prog_6_method_17_code 103 = .ok (.iconst 2, 1) := by decide +kernel
theorem dM_buy_104 : decode prog_6_method_17_code 104 = .ok (.if_icmp .le 11, 3) := by decide +kernel
theorem dM_buy_107 : decode prog_6_method_17_code 107 = .ok (.bipush 60, 2) := by decide +kernel
theorem dM_buy_109 : decode prog_6_method_17_code 109 = .ok (.iload 6, 2) := by decide +kernel
theorem dM_buy_111 : decode prog_6_method_17_code 111 = .ok (.isub, 1) := by decide +kernel
theorem dM_buy_112 : decode prog_6_method_17_code 112 = .ok (.goto 4, 3) := by decide +kernel
theorem dM_buy_115 : decode prog_6_method_17_code 115 = .ok (.iconst 0, 1) := by decide +kernel
theorem dM_buy_116 : decode prog_6_method_17_code 116 = .ok (.istore 7, 2) := by decide +kernel
theorem dM_buy_118 : decode prog_6_method_17_code 118 = .ok (.iconst 0, 1) := by decide +kernel
theorem dM_buy_119 : decode prog_6_method_17_code 119 = .ok (.istore 8, 2) := by decide +kernel
theorem dM_buy_121 : decode prog_6_method_17_code 121 = .ok (.iload 8, 2) := by decide +kernel
theorem dM_buy_123 : decode prog_6_method_17_code 123 = .ok (.iload 7, 2) := by decide +kernel
theorem dM_buy_125 : decode prog_6_method_17_code 125 = .ok (.if_icmp .gt 82, 3) := by decide +kernel
theorem dM_buy_128 : decode prog_6_method_17_code 128 = .ok (.iload 4, 2) := by decide +kernel
theorem dM_buy_130 : decode prog_6_method_17_code 130 = .ok (.iconst 3, 1) := by decide +kernel
theorem dM_buy_131 : decode prog_6_method_17_code 131 = .ok (.if_icmp .le 14, 3) := by decide +kernel
theorem dM_buy_134 : decode prog_6_method_17_code 134 = .ok (.bipush 60, 2) := by decide +kernel
theorem dM_buy_136 : decode prog_6_method_17_code 136 = .ok (.iload 6, 2) := by decide +kernel
theorem dM_buy_138 : decode prog_6_method_17_code 138 = .ok (.isub, 1) := by decide +kernel
theorem dM_buy_139 : decode prog_6_method_17_code 139 = .ok (.iload 8, 2) := by decide +kernel
theorem dM_buy_141 : decode prog_6_method_17_code 141 = .ok (.isub, 1) := by decide +kernel
theorem dM_buy_142 : decode prog_6_method_17_code 142 = .ok (.goto 4, 3) := by decide +kernel
theorem dM_buy_145 : decode prog_6_method_17_code 145 = .ok (.iconst 0, 1) := by decide +kernel
theorem dM_buy_146 : decode prog_6_method_17_code 146 = .ok (.istore 9, 2) := by decide +kernel
theorem dM_buy_148 : decode prog_6_method_17_code 148 = .ok (.iconst 0, 1) := by decide +kernel
theorem dM_buy_149 : decode prog_6_method_17_code 149 = .ok (.istore 10, 2) := by decide +kernel
theorem dM_buy_151 : decode prog_6_method_17_code 151 = .ok (.iload 10, 2) := by decide +kernel
theorem dM_buy_153 : decode prog_6_method_17_code 153 = .ok (.iload 9, 2) := by decide +kernel
theorem dM_buy_155 : decode prog_6_method_17_code 155 = .ok (.if_icmp .gt 46, 3) := by decide +kernel
theorem dM_buy_158 : decode prog_6_method_17_code 158 = .ok (.aload_n 0, 1) := by decide +kernel
theorem dM_buy_159 : decode prog_6_method_17_code 159 = .ok (.getfield 38, 3) := by decide +kernel
theorem dM_buy_162 : decode prog_6_method_17_code 162 = .ok (.iconst 0, 1) := by decide +kernel
theorem dM_buy_163 : decode prog_6_method_17_code 163 = .ok (.iload 6, 2) := by decide +kernel
theorem dM_buy_165 : decode prog_6_method_17_code 165 = .ok (.iastore, 1) := by decide +kernel
theorem dM_buy_166 : decode prog_6_method_17_code 166 = .ok (.aload_n 0, 1) := by decide +kernel
theorem dM_buy_167 : decode prog_6_method_17_code 167 = .ok (.getfield 38, 3) := by decide +kernel
theorem dM_buy_170 : decode prog_6_method_17_code 170 = .ok (.iconst 1, 1) := by decide +kernel
theorem dM_buy_171 : decode prog_6_method_17_code 171 = .ok (.iload 8, 2) := by decide +kernel
theorem dM_buy_173 : decode prog_6_method_17_code 173 = .ok (.iastore, 1) := by decide +kernel
theorem dM_buy_174 : decode prog_6_method_17_code 174 = .ok (.aload_n 0, 1) := by decide +kernel
theorem dM_buy_175 : decode prog_6_method_17_code 175 = .ok (.getfield 38, 3) := by decide +kernel
theorem dM_buy_178 : decode prog_6_method_17_code 178 = .ok (.iconst 2, 1) := by decide +kernel
theorem dM_buy_179 : decode prog_6_method_17_code 179 = .ok (.iload 10, 2) := by decide +kernel
theorem dM_buy_181 : decode prog_6_method_17_code 181 = .ok (.iastore, 1) := by decide +kernel
theorem dM_buy_182 : decode prog_6_method_17_code 182 = .ok (.aload_n 0, 1) := by decide +kernel
theorem dM_buy_183 : decode prog_6_method_17_code 183 = .ok (.getfield 38, 3) := by decide +kernel
theorem dM_buy_186 : decode prog_6_method_17_code 186 = .ok (.iconst 3, 1) := by decide +kernel
theorem dM_buy_187 : decode prog_6_method_17_code 187 = .ok (.iconst 0, 1) := by decide +kernel
theorem dM_buy_188 : decode prog_6_method_17_code 188 = .ok (.iastore, 1) := by decide +kernel
theorem dM_buy_189 : decode prog_6_method_17_code 189 = .ok (.aload_n 0, 1) := by decide +kernel
theorem dM_buy_190 : decode prog_6_method_17_code 190 = .ok (.iload_n 1, 1) := by decide +kernel
theorem dM_buy_191 : decode prog_6_method_17_code 191 = .ok (.lload_n 2, 1) := by decide +kernel
theorem dM_buy_192 : decode prog_6_method_17_code 192 = .ok (.invokevirtual 110, 3) := by decide +kernel
theorem dM_buy_195 : decode prog_6_method_17_code 195 = .ok (.iinc 10 1, 3) := by decide +kernel
theorem dM_buy_198 : decode prog_6_method_17_code 198 = .ok (.goto (-47), 3) := by decide +kernel
theorem dM_buy_201 : decode prog_6_method_17_code 201 = .ok (.iinc 8 1, 3) := by decide +kernel
theorem dM_buy_204 : decode prog_6_method_17_code 204 = .ok (.goto (-83), 3) := by decide +kernel
theorem dM_buy_207 : decode prog_6_method_17_code 207 = .ok (.iinc 6 1, 3) := by decide +kernel
theorem dM_buy_210 : decode prog_6_method_17_code 210 = .ok (.goto (-116), 3) := by decide +kernel
theorem dM_buy_213 : decode prog_6_method_17_code 213 = .ok (.return_, 1) := by decide +kernel
theorem dM_tryLast_0 : decode prog_6_method_16_code 0 = .ok (.aload_n 0, 1) := by decide +kernel
theorem dM_tryLast_1 : decode prog_6_method_16_code 1 = .ok (.getfield 28, 3) := by decide +kernel
theorem dM_tryLast_4 : decode prog_6_method_16_code 4 = .ok (.iload_n 1, 1) := by decide +kernel
theorem dM_tryLast_5 : decode prog_6_method_16_code 5 = .ok (.iaload, 1) := by decide +kernel
theorem dM_tryLast_6 : decode prog_6_method_16_code 6 = .ok (.iconst 1, 1) := by decide +kernel
theorem dM_tryLast_7 : decode prog_6_method_16_code 7 = .ok (.isub, 1) := by decide +kernel
theorem dM_tryLast_8 : decode prog_6_method_16_code 8 = .ok (.istore 4, 2) := by decide +kernel
theorem dM_tryLast_10 : decode prog_6_method_16_code 10 = .ok (.aload_n 0, 1) := by decide +kernel
theorem dM_tryLast_11 : decode prog_6_method_16_code 11 = .ok (.getfield 38, 3) := by decide +kernel
theorem dM_tryLast_14 : decode prog_6_method_16_code 14 = .ok (.iload 4, 2) := by decide +kernel
theorem dM_tryLast_16 : decode prog_6_method_16_code 16 = .ok (.iconst 0, 1) := by decide +kernel
theorem dM_tryLast_17 : decode prog_6_method_16_code 17 = .ok (.iastore, 1) := by decide +kernel
theorem dM_tryLast_18 : decode prog_6_method_16_code 18 = .ok (.lconst 0, 1) := by decide +kernel
theorem dM_tryLast_19 : decode prog_6_method_16_code 19 = .ok (.lstore 5, 2) := by decide +kernel
theorem dM_tryLast_21 : decode prog_6_method_16_code 21 = .ok (.lconst 0, 1) := by decide +kernel
theorem dM_tryLast_22 : decode prog_6_method_16_code 22 = .ok (.lstore 7, 2) := by decide +kernel
theorem dM_tryLast_24 : decode prog_6_method_16_code 24 = .ok (.iconst 0, 1) := by decide +kernel
theorem dM_tryLast_25 : decode prog_6_method_16_code 25 = .ok (.istore 9, 2) := by decide +kernel
theorem dM_tryLast_27 : decode prog_6_method_16_code 27 = .ok (.iload 9, 2) := by decide +kernel
theorem dM_tryLast_29 : decode prog_6_method_16_code 29 = .ok (.iload 4, 2) := by decide +kernel
theorem dM_tryLast_31 : decode prog_6_method_16_code 31 = .ok (.if_icmp .ge 59, 3) := by decide +kernel
theorem dM_tryLast_34 : decode prog_6_method_16_code 34 = .ok (.lload 5, 2) := by decide +kernel
theorem dM_tryLast_36 : decode prog_6_method_16_code 36 = .ok (.aload_n 0, 1) := by decide +kernel
theorem dM_tryLast_37 : decode prog_6_method_16_code 37 = .ok (.getfield 38, 3) := by decide +kernel
theorem dM_tryLast_40 : decode prog_6_method_16_code 40 = .ok (.iload 9, 2) := by decide +kernel
theorem dM_tryLast_42 : decode prog_6_method_16_code 42 = .ok (.iaload, 1) := by decide +kernel
theorem dM_tryLast_43 : decode prog_6_method_16_code 43 = .ok (.i2l, 1) := by decide +kernel
theorem dM_tryLast_44 : decode prog_6_method_16_code 44 = .ok (.aload_n 0, 1) := by decide +kernel
theorem dM_tryLast_45 : decode prog_6_method_16_code 45 = .ok (.getfield 31, 3) := by decide +kernel
theorem dM_tryLast_48 : decode prog_6_method_16_code 48 = .ok (.iconst 4, 1) := by decide +kernel
theorem dM_tryLast_49 : decode prog_6_method_16_code 49 = .ok (.iload_n 1, 1) := by decide +kernel
theorem dM_tryLast_50 : decode prog_6_method_16_code 50 = .ok (.imul, 1) := by decide +kernel
theorem dM_tryLast_51 : decode prog_6_method_16_code 51 = .ok (.iload 9, 2) := by decide +kernel
theorem dM_tryLast_53 : decode prog_6_method_16_code 53 = .ok (.iadd, 1) := by decide +kernel
theorem dM_tryLast_54 : decode prog_6_method_16_code 54 = .ok (.laload, 1) := by decide +kernel
theorem dM_tryLast_55 : decode prog_6_method_16_code 55 = .ok (.lmul, 1) := by decide +kernel
theorem dM_tryLast_56 : decode prog_6_method_16_code 56 = .ok (.ladd, 1) := by decide +kernel
theorem dM_tryLast_57 : decode prog_6_method_16_code 57 = .ok (.lstore 5, 2) := by decide +kernel
theorem dM_tryLast_59 : decode prog_6_method_16_code 59 = .ok (.lload 7, 2) := by decide +kernel
theorem dM_tryLast_61 : decode prog_6_method_16_code 61 = .ok (.aload_n 0, 1) := by decide +kernel
theorem dM_tryLast_62 : decode prog_6_method_16_code 62 = .ok (.getfield 38, 3) := by decide +kernel
theorem dM_tryLast_65 : decode prog_6_method_16_code 65 = .ok (.iload 9, 2) := by decide +kernel
theorem dM_tryLast_67 : decode prog_6_method_16_code 67 = .ok (.iaload, 1) := by decide +kernel
theorem dM_tryLast_68 : decode prog_6_method_16_code 68 = .ok (.i2l, 1) := by decide +kernel
theorem dM_tryLast_69 : decode prog_6_method_16_code 69 = .ok (.aload_n 0, 1) := by decide +kernel
theorem dM_tryLast_70 : decode prog_6_method_16_code 70 = .ok (.getfield 35, 3) := by decide +kernel
theorem dM_tryLast_73 : decode prog_6_method_16_code 73 = .ok (.iconst 4, 1) := by decide +kernel
theorem dM_tryLast_74 : decode prog_6_method_16_code 74 = .ok (.iload_n 1, 1) := by decide +kernel
theorem dM_tryLast_75 : decode prog_6_method_16_code 75 = .ok (.imul, 1) := by decide +kernel
theorem dM_tryLast_76 : decode prog_6_method_16_code 76 = .ok (.iload 9, 2) := by decide +kernel
theorem dM_tryLast_78 : decode prog_6_method_16_code 78 = .ok (.iadd, 1) := by decide +kernel
theorem dM_tryLast_79 : decode prog_6_method_16_code 79 = .ok (.laload, 1) := by decide +kernel
theorem dM_tryLast_80 : decode prog_6_method_16_code 80 = .ok (.lmul, 1) := by decide +kernel
theorem dM_tryLast_81 : decode prog_6_method_16_code 81 = .ok (.ladd, 1) := by decide +kernel
theorem dM_tryLast_82 : decode prog_6_method_16_code 82 = .ok (.lstore 7, 2) := by decide +kernel
theorem dM_tryLast_84 : decode prog_6_method_16_code 84 = .ok (.iinc 9 1, 3) := by decide +kernel
theorem dM_tryLast_87 : decode prog_6_method_16_code 87 = .ok (.goto (-60), 3) := by decide +kernel
theorem dM_tryLast_90 : decode prog_6_method_16_code 90 = .ok (.aload_n 0, 1) := by decide +kernel
theorem dM_tryLast_91 : decode prog_6_method_16_code 91 = .ok (.getfield 31, 3) := by decide +kernel
theorem dM_tryLast_94 : decode prog_6_method_16_code 94 = .ok (.iconst 4, 1) := by decide +kernel
theorem dM_tryLast_95 : decode prog_6_method_16_code 95 = .ok (.iload_n 1, 1) := by decide +kernel
theorem dM_tryLast_96 : decode prog_6_method_16_code 96 = .ok (.imul, 1) := by decide +kernel
theorem dM_tryLast_97 : decode prog_6_method_16_code 97 = .ok (.iload 4, 2) := by decide +kernel
theorem dM_tryLast_99 : decode prog_6_method_16_code 99 = .ok (.iadd, 1) := by decide +kernel
theorem dM_tryLast_100 : decode prog_6_method_16_code 100 = .ok (.laload, 1) := by decide +kernel
theorem dM_tryLast_101 : decode prog_6_method_16_code 101 = .ok (.lstore 9, 2) := by decide +kernel
theorem dM_tryLast_103 : decode prog_6_method_16_code 103 = .ok (.lload 5, 2) := by decide +kernel
theorem dM_tryLast_105 : decode prog_6_method_16_code 105 = .ok (.lload_n 2, 1) := by decide +kernel
theorem dM_tryLast_106 : decode prog_6_method_16_code 106 = .ok (.lcmp, 1) := by decide +kernel
theorem dM_tryLast_107 : decode prog_6_method_16_code 107 = .ok (.ifCond .lt 7, 3) := by decide +kernel
theorem dM_tryLast_110 : decode prog_6_method_16_code 110 = .ok (.lconst 0, 1) := by decide +kernel
theorem dM_tryLast_111 : decode prog_6_method_16_code 111 = .ok (.goto 15, 3) := by decide +kernel
theorem dM_tryLast_114 : decode prog_6_method_16_code 114 = .ok (.lload_n 2, 1) := by decide +kernel
theorem dM_tryLast_115 : decode prog_6_method_16_code 115 = .ok (.lload 5, 2) := by decide +kernel
theorem dM_tryLast_117 : decode prog_6_method_16_code 117 = .ok (.lsub, 1) := by decide +kernel
theorem dM_tryLast_118 : decode prog_6_method_16_code 118 = .ok (.lload 9, 2) := by decide +kernel
theorem dM_tryLast_120 : decode prog_6_method_16_code 120 = .ok (.ladd, 1) := by decide +kernel
theorem dM_tryLast_121 : decode prog_6_method_16_code 121 = .ok (.lconst 1, 1) := by decide +kernel
theorem dM_tryLast_122 : decode prog_6_method_16_code 122 = .ok (.lsub, 1) := by decide +kernel
theorem dM_tryLast_123 : decode prog_6_method_16_code 123 = .ok (.lload 9, 2) := by decide +kernel
theorem dM_tryLast_125 : decode prog_6_method_16_code 125 = .ok (.ldiv, 1) := by decide +kernel
theorem dM_tryLast_126 : decode prog_6_method_16_code 126 = .ok (.lstore 11, 2) := by decide +kernel
theorem dM_tryLast_128 : decode prog_6_method_16_code 128 = .ok (.lload 11, 2) := by decide +kernel
theorem dM_tryLast_130 : decode prog_6_method_16_code 130 = .ok (.aload_n 0, 1) := by decide +kernel
theorem dM_tryLast_131 : decode prog_6_method_16_code 131 = .ok (.getfield 38, 3) := by decide +kernel
theorem dM_tryLast_134 : decode prog_6_method_16_code 134 = .ok (.invokestatic 98, 3) := by decide +kernel
theorem dM_tryLast_137 : decode prog_6_method_16_code 137 = .ok (.i2l, 1) := by decide +kernel
theorem dM_tryLast_138 : decode prog_6_method_16_code 138 = .ok (.ladd, 1) := by decide +kernel
theorem dM_tryLast_139 : decode prog_6_method_16_code 139 = .ok (.ldc2_w 102, 3) := by decide +kernel
theorem dM_tryLast_142 : decode prog_6_method_16_code 142 = .ok (.lcmp, 1) := by decide +kernel
theorem dM_tryLast_143 : decode prog_6_method_16_code 143 = .ok (.ifCond .le 4, 3) := by decide +kernel
theorem dM_tryLast_146 : decode prog_6_method_16_code 146 = .ok (.return_, 1) := by decide +kernel
theorem dM_tryLast_147 : decode prog_6_method_16_code 147 = .ok (.aload_n 0, 1) := by decide +kernel
theorem dM_tryLast_148 : decode prog_6_method_16_code 148 = .ok (.getfield 38, 3) := by decide +kernel
theorem dM_tryLast_151 : decode prog_6_method_16_code 151 = .ok (.iload 4, 2) := by decide +kernel
theorem dM_tryLast_153 : decode prog_6_method_16_code 153 = .ok (.lload 11, 2) := by decide +kernel
theorem dM_tryLast_155 : decode prog_6_method_16_code 155 = .ok (.l2i, 1) := by decide +kernel
theorem dM_tryLast_156 : decode prog_6_method_16_code 156 = .ok (.iastore, 1) := by decide +kernel
theorem dM_tryLast_157 : decode prog_6_method_16_code 157 = .ok (.lload 7, 2) := by decide +kernel
theorem dM_tryLast_159 : decode prog_6_method_16_code 159 = .ok (.lload 11, 2) := by decide +kernel
theorem dM_tryLast_161 : decode prog_6_method_16_code 161 = .ok (.aload_n 0, 1) := by decide +kernel
theorem dM_tryLast_162 : decode prog_6_method_16_code 162 = .ok (.getfield 35, 3) := by decide +kernel
theorem dM_tryLast_165 : decode prog_6_method_16_code 165 = .ok (.iconst 4, 1) := by decide +kernel
theorem dM_tryLast_166 : decode prog_6_method_16_code 166 = .ok (.iload_n 1, 1) := by decide +kernel
theorem dM_tryLast_167 : decode prog_6_method_16_code 167 = .ok (.imul, 1) := by decide +kernel
theorem dM_tryLast_168 : decode prog_6_method_16_code 168 = .ok (.iload 4, 2) := by decide +kernel
theorem dM_tryLast_170 : decode prog_6_method_16_code 170 = .ok (.iadd, 1) := by decide +kernel
theorem dM_tryLast_171 : decode prog_6_method_16_code 171 = .ok (.laload, 1) := by decide +kernel
theorem dM_tryLast_172 : decode prog_6_method_16_code 172 = .ok (.lmul, 1) := by decide +kernel
theorem dM_tryLast_173 : decode prog_6_method_16_code 173 = .ok (.ladd, 1) := by decide +kernel
theorem dM_tryLast_174 : decode prog_6_method_16_code 174 = .ok (.lstore 7, 2) := by decide +kernel
theorem dM_tryLast_176 : decode prog_6_method_16_code 176 = .ok (.aload_n 0, 1) := by decide +kernel
theorem dM_tryLast_177 : decode prog_6_method_16_code 177 = .ok (.lload 7, 2) := by decide +kernel
theorem dM_tryLast_179 : decode prog_6_method_16_code 179 = .ok (.invokevirtual 104, 3) := by decide +kernel
theorem dM_tryLast_182 : decode prog_6_method_16_code 182 = .ok (.ifCond .eq 38, 3) := by decide +kernel
theorem dM_tryLast_185 : decode prog_6_method_16_code 185 = .ok (.aload_n 0, 1) := by decide +kernel
theorem dM_tryLast_186 : decode prog_6_method_16_code 186 = .ok (.lload 7, 2) := by decide +kernel
theorem dM_tryLast_188 : decode prog_6_method_16_code 188 = .ok (.putfield 94, 3) := by decide +kernel
theorem dM_tryLast_191 : decode prog_6_method_16_code 191 = .ok (.iconst 0, 1) := by decide +kernel
theorem dM_tryLast_192 : decode prog_6_method_16_code 192 = .ok (.istore 13, 2) := by decide +kernel
theorem dM_tryLast_194 : decode prog_6_method_16_code 194 = .ok (.iload 13, 2) := by decide +kernel
theorem dM_tryLast_196 : decode prog_6_method_16_code 196 = .ok (.iconst 4, 1) := by decide +kernel
theorem dM_tryLast_197 : decode prog_6_method_16_code 197 = .ok (.if_icmp .ge 23, 3) := by decide +kernel
theorem dM_tryLast_200 : decode prog_6_method_16_code 200 = .ok (.aload_n 0, 1) := by decide +kernel
theorem dM_tryLast_201 : decode prog_6_method_16_code 201 = .ok (.getfield 41, 3) := by decide +kernel
theorem dM_tryLast_204 : decode prog_6_method_16_code 204 = .ok (.iload 13, 2) := by decide +kernel
theorem dM_tryLast_206 : decode prog_6_method_16_code 206 = .ok (.aload_n 0, 1) := by decide +kernel
theorem dM_tryLast_207 : decode prog_6_method_16_code 207 = .ok (.getfield 38, 3) := by decide +kernel
theorem dM_tryLast_210 : decode prog_6_method_16_code 210 = .ok (.iload 13, 2) := by decide +kernel
theorem dM_tryLast_212 : decode prog_6_method_16_code 212 = .ok (.iaload, 1) := by decide +kernel
theorem dM_tryLast_213 : decode prog_6_method_16_code 213 = .ok (.iastore, 1) := by decide +kernel
theorem dM_tryLast_214 : decode prog_6_method_16_code 214 = .ok (.iinc 13 1, 3) := by decide +kernel
theorem dM_tryLast_217 : decode prog_6_method_16_code 217 = .ok (.goto (-23), 3) := by decide +kernel
theorem dM_tryLast_220 : decode prog_6_method_16_code 220 = .ok (.return_, 1) := by decide +kernel
theorem dM_together_0 : decode prog_6_method_14_code 0 = .ok (.aload_n 0, 1) := by decide +kernel
theorem dM_together_1 : decode prog_6_method_14_code 1 = .ok (.iconst 0, 1) := by decide +kernel
theorem dM_together_2 : decode prog_6_method_14_code 2 = .ok (.iaload, 1) := by decide +kernel
theorem dM_together_3 : decode prog_6_method_14_code 3 = .ok (.aload_n 0, 1) := by decide +kernel
theorem dM_together_4 : decode prog_6_method_14_code 4 = .ok (.iconst 1, 1) := by decide +kernel
theorem dM_together_5 : decode prog_6_method_14_code 5 = .ok (.iaload, 1) := by decide +kernel
theorem dM_together_6 : decode prog_6_method_14_code 6 = .ok (.iadd, 1) := by decide +kernel
theorem dM_together_7 : decode prog_6_method_14_code 7 = .ok (.aload_n 0, 1) := by decide +kernel
theorem dM_together_8 : decode prog_6_method_14_code 8 = .ok (.iconst 2, 1) := by decide +kernel
theorem dM_together_9 : decode prog_6_method_14_code 9 = .ok (.iaload, 1) := by decide +kernel
theorem dM_together_10 : decode prog_6_method_14_code 10 = .ok (.iadd, 1) := by decide +kernel
theorem dM_together_11 : decode prog_6_method_14_code 11 = .ok (.aload_n 0, 1) := by decide +kernel
theorem dM_together_12 : decode prog_6_method_14_code 12 = .ok (.iconst 3, 1) := by decide +kernel
theorem dM_together_13 : decode prog_6_method_14_code 13 = .ok (.iaload, 1) := by decide +kernel
theorem dM_together_14 : decode prog_6_method_14_code 14 = .ok (.iadd, 1) := by decide +kernel
theorem dM_together_15 : decode prog_6_method_14_code 15 = .ok (.ireturn, 1) := by decide +kernel
theorem dM_isBetter_0 : decode prog_6_method_15_code 0 = .ok (.aload_n 0, 1) := by decide +kernel
theorem dM_isBetter_1 : decode prog_6_method_15_code 1 = .ok (.getfield 94, 3) := by decide +kernel
theorem dM_isBetter_4 : decode prog_6_method_15_code 4 = .ok (.lconst 0, 1) := by decide +kernel
theorem dM_isBetter_5 : decode prog_6_method_15_code 5 = .ok (.lcmp, 1) := by decide +kernel
theorem dM_isBetter_6 : decode prog_6_method_15_code 6 = .ok (.ifCond .lt 12, 3) := by decide +kernel
theorem dM_isBetter_9 : decode prog_6_method_15_code 9 = .ok (.lload_n 1, 1) := by decide +kernel
theorem dM_isBetter_10 : decode prog_6_method_15_code 10 = .ok (.aload_n 0, 1) := by decide +kernel
theorem dM_isBetter_11 : decode prog_6_method_15_code 11 = .ok (.getfield 94, 3) := by decide +kernel
theorem dM_isBetter_14 : decode prog_6_method_15_code 14 = .ok (.lcmp, 1) := by decide +kernel
theorem dM_isBetter_15 : decode prog_6_method_15_code 15 = .ok (.ifCond .eq 27, 3) := by decide +kernel
theorem dM_isBetter_18 : decode prog_6_method_15_code 18 = .ok (.aload_n 0, 1) := by decide +kernel
theorem dM_isBetter_19 : decode prog_6_method_15_code 19 = .ok (.getfield 94, 3) := by decide +kernel
theorem dM_isBetter_22 : decode prog_6_method_15_code 22 = .ok (.lconst 0, 1) := by decide +kernel
theorem dM_isBetter_23 : decode prog_6_method_15_code 23 = .ok (.lcmp, 1) := by decide +kernel
theorem dM_isBetter_24 : decode prog_6_method_15_code 24 = .ok (.ifCond .lt 12, 3) := by decide +kernel
theorem dM_isBetter_27 : decode prog_6_method_15_code 27 = .ok (.lload_n 1, 1) := by decide +kernel
theorem dM_isBetter_28 : decode prog_6_method_15_code 28 = .ok (.aload_n 0, 1) := by decide +kernel
theorem dM_isBetter_29 : decode prog_6_method_15_code 29 = .ok (.getfield 94, 3) := by decide +kernel
theorem dM_isBetter_32 : decode prog_6_method_15_code 32 = .ok (.lcmp, 1) := by decide +kernel
theorem dM_isBetter_33 : decode prog_6_method_15_code 33 = .ok (.ifCond .ge 7, 3) := by decide +kernel
theorem dM_isBetter_36 : decode prog_6_method_15_code 36 = .ok (.iconst 1, 1) := by decide +kernel
theorem dM_isBetter_37 : decode prog_6_method_15_code 37 = .ok (.goto 4, 3) := by decide +kernel
theorem dM_isBetter_40 : decode prog_6_method_15_code 40 = .ok (.iconst 0, 1) := by decide +kernel
theorem dM_isBetter_41 : decode prog_6_method_15_code 41 = .ok (.ireturn, 1) := by decide +kernel
theorem dM_isBetter_42 : decode prog_6_method_15_code 42 = .ok (.aload_n 0, 1) := by decide +kernel
theorem dM_isBetter_43 : decode prog_6_method_15_code 43 = .ok (.getfield 38, 3) := by decide +kernel
theorem dM_isBetter_46 : decode prog_6_method_15_code 46 = .ok (.invokestatic 98, 3) := by decide +kernel
theorem dM_isBetter_49 : decode prog_6_method_15_code 49 = .ok (.aload_n 0, 1) := by decide +kernel
theorem dM_isBetter_50 : decode prog_6_method_15_code 50 = .ok (.getfield 41, 3) := by decide +kernel
theorem dM_isBetter_53 : decode prog_6_method_15_code 53 = .ok (.invokestatic 98, 3) := by decide +kernel
theorem dM_isBetter_56 : decode prog_6_method_15_code 56 = .ok (.if_icmp .eq 26, 3) := by decide +kernel
theorem dM_isBetter_59 : decode prog_6_method_15_code 59 = .ok (.aload_n 0, 1) := by decide +kernel
theorem dM_isBetter_60 : decode prog_6_method_15_code 60 = .ok (.getfield 38, 3) := by decide +kernel
theorem dM_isBetter_63 : decode prog_6_method_15_code 63 = .ok (.invokestatic 98, 3) := by decide +kernel
theorem dM_isBetter_66 : decode prog_6_method_15_code 66 = .ok (.aload_n 0, 1) := by decide +kernel
theorem dM_isBetter_67 : decode prog_6_method_15_code 67 = .ok (.getfield 41, 3) := by decide +kernel
theorem dM_isBetter_70 : decode prog_6_method_15_code 70 = .ok (.invokestatic 98, 3) := by decide +kernel
theorem dM_isBetter_73 : decode prog_6_method_15_code 73 = .ok (.if_icmp .ge 7, 3) := by decide +kernel
theorem dM_isBetter_76 : decode prog_6_method_15_code 76 = .ok (.iconst 1, 1) := by decide +kernel
theorem dM_isBetter_77 : decode prog_6_method_15_code 77 = .ok (.goto 4, 3) := by decide +kernel
theorem dM_isBetter_80 : decode prog_6_method_15_code 80 = .ok (.iconst 0, 1) := by decide +kernel
theorem dM_isBetter_81 : decode prog_6_method_15_code 81 = .ok (.ireturn, 1) := by decide +kernel
theorem dM_isBetter_82 : decode prog_6_method_15_code 82 = .ok (.iconst 0, 1) := by decide +kernel
theorem dM_isBetter_83 : decode prog_6_method_15_code 83 = .ok (.istore_n 3, 1) := by decide +kernel
theorem dM_isBetter_84 : decode prog_6_method_15_code 84 = .ok (.iload_n 3, 1) := by decide +kernel
theorem dM_isBetter_85 : decode prog_6_method_15_code 85 = .ok (.iconst 3, 1) := by decide +kernel
theorem dM_isBetter_86 : decode prog_6_method_15_code 86 = .ok (.if_icmp .ge 24, 3) := by decide +kernel
theorem dM_isBetter_89 : decode prog_6_method_15_code 89 = .ok (.aload_n 0, 1) := by decide +kernel
theorem dM_isBetter_90 : decode prog_6_method_15_code 90 = .ok (.getfield 38, 3) := by decide +kernel
theorem dM_isBetter_93 : decode prog_6_method_15_code 93 = .ok (.iload_n 3, 1) := by decide +kernel
theorem dM_isBetter_94 : decode prog_6_method_15_code 94 = .ok (.iaload, 1) := by decide +kernel
theorem dM_isBetter_95 : decode prog_6_method_15_code 95 = .ok (.aload_n 0, 1) := by decide +kernel
theorem dM_isBetter_96 : decode prog_6_method_15_code 96 = .ok (.getfield 41, 3) := by decide +kernel
theorem dM_isBetter_99 : decode prog_6_method_15_code 99 = .ok (.iload_n 3, 1) := by decide +kernel
theorem dM_isBetter_100 : decode prog_6_method_15_code 100 = .ok (.iaload, 1) := by decide +kernel
theorem dM_isBetter_101 : decode prog_6_method_15_code 101 = .ok (.if_icmp .ne 9, 3) := by decide +kernel
theorem dM_isBetter_104 : decode prog_6_method_15_code 104 = .ok (.iinc 3 1, 3) := by decide +kernel
theorem dM_isBetter_107 : decode prog_6_method_15_code 107 = .ok (.goto (-23), 3) := by decide +kernel
theorem dM_isBetter_110 : decode prog_6_method_15_code 110 = .ok (.aload_n 0, 1) := by decide +kernel
theorem dM_isBetter_111 : decode prog_6_method_15_code 111 = .ok (.getfield 38, 3) := by decide +kernel
theorem dM_isBetter_114 : decode prog_6_method_15_code 114 = .ok (.iload_n 3, 1) := by decide +kernel
