-- DECODE ROWS
theorem dM_isBetter_115 : decode prog_6_method_15_code 115 = .ok (.iaload, 1) := by decide +kernel
theorem dM_isBetter_116 : decode prog_6_method_15_code 116 = .ok (.aload_n 0, 1) := by decide +kernel
theorem dM_isBetter_117 : decode prog_6_method_15_code 117 = .ok (.getfield 41, 3) := by decide +kernel
theorem dM_isBetter_120 : decode prog_6_method_15_code 120 = .ok (.iload_n 3, 1) := by decide +kernel
theorem dM_isBetter_121 : decode prog_6_method_15_code 121 = .ok (.iaload, 1) := by decide +kernel
theorem dM_isBetter_122 : decode prog_6_method_15_code 122 = .ok (.if_icmp .le 7, 3) := by decide +kernel
theorem dM_isBetter_125 : decode prog_6_method_15_code 125 = .ok (.iconst 1, 1) := by decide +kernel
theorem dM_isBetter_126 : decode prog_6_method_15_code 126 = .ok (.goto 4, 3) := by decide +kernel
theorem dM_isBetter_129 : decode prog_6_method_15_code 129 = .ok (.iconst 0, 1) := by decide +kernel
theorem dM_isBetter_130 : decode prog_6_method_15_code 130 = .ok (.ireturn, 1) := by decide +kernel
theorem dM_cents1_0 : decode prog_6_method_19_code 0 = .ok (.aload_n 0, 1) := by decide +kernel
theorem dM_cents1_1 : decode prog_6_method_19_code 1 = .ok (.iload_n 1, 1) := by decide +kernel
theorem dM_cents1_2 : decode prog_6_method_19_code 2 = .ok (.invokestatic 75, 3) := by decide +kernel
theorem dM_cents1_5 : decode prog_6_method_19_code 5 = .ok (.ifCond .eq 7, 3) := by decide +kernel
theorem dM_cents1_8 : decode prog_6_method_19_code 8 = .ok (.iconst 0, 1) := by decide +kernel
theorem dM_cents1_9 : decode prog_6_method_19_code 9 = .ok (.goto 4, 3) := by decide +kernel
theorem dM_cents1_12 : decode prog_6_method_19_code 12 = .ok (.iconst 1, 1) := by decide +kernel
theorem dM_cents1_13 : decode prog_6_method_19_code 13 = .ok (.putfield 57, 3) := by decide +kernel
theorem dM_cents1_16 : decode prog_6_method_19_code 16 = .ok (.aload_n 0, 1) := by decide +kernel
theorem dM_cents1_17 : decode prog_6_method_19_code 17 = .ok (.getfield 57, 3) := by decide +kernel
theorem dM_cents1_20 : decode prog_6_method_19_code 20 = .ok (.ifCond .le 5, 3) := by decide +kernel
theorem dM_cents1_23 : decode prog_6_method_19_code 23 = .ok (.lconst 0, 1) := by decide +kernel
theorem dM_cents1_24 : decode prog_6_method_19_code 24 = .ok (.lreturn, 1) := by decide +kernel
theorem dM_cents1_25 : decode prog_6_method_19_code 25 = .ok (.aload_n 0, 1) := by decide +kernel
theorem dM_cents1_26 : decode prog_6_method_19_code 26 = .ok (.iload_n 1, 1) := by decide +kernel
theorem dM_cents1_27 : decode prog_6_method_19_code 27 = .ok (.invokevirtual 114, 3) := by decide +kernel
theorem dM_cents1_30 : decode prog_6_method_19_code 30 = .ok (.aload_n 0, 1) := by decide +kernel
theorem dM_cents1_31 : decode prog_6_method_19_code 31 = .ok (.getfield 94, 3) := by decide +kernel
theorem dM_cents1_34 : decode prog_6_method_19_code 34 = .ok (.lreturn, 1) := by decide +kernel
theorem dM_cents0_0 : decode prog_6_method_20_code 0 = .ok (.aload_n 0, 1) := by decide +kernel
theorem dM_cents0_1 : decode prog_6_method_20_code 1 = .ok (.iconst 0, 1) := by decide +kernel
theorem dM_cents0_2 : decode prog_6_method_20_code 2 = .ok (.putfield 57, 3) := by decide +kernel
theorem dM_cents0_5 : decode prog_6_method_20_code 5 = .ok (.lconst 0, 1) := by decide +kernel
theorem dM_cents0_6 : decode prog_6_method_20_code 6 = .ok (.lstore_n 1, 1) := by decide +kernel
theorem dM_cents0_7 : decode prog_6_method_20_code 7 = .ok (.iconst 0, 1) := by decide +kernel
theorem dM_cents0_8 : decode prog_6_method_20_code 8 = .ok (.istore_n 3, 1) := by decide +kernel
theorem dM_cents0_9 : decode prog_6_method_20_code 9 = .ok (.iload_n 3, 1) := by decide +kernel
theorem dM_cents0_10 : decode prog_6_method_20_code 10 = .ok (.bipush 10, 2) := by decide +kernel
theorem dM_cents0_12 : decode prog_6_method_20_code 12 = .ok (.if_icmp .ge 34, 3) := by decide +kernel
theorem dM_cents0_15 : decode prog_6_method_20_code 15 = .ok (.aload_n 0, 1) := by decide +kernel
theorem dM_cents0_16 : decode prog_6_method_20_code 16 = .ok (.iload_n 3, 1) := by decide +kernel
theorem dM_cents0_17 : decode prog_6_method_20_code 17 = .ok (.invokevirtual 114, 3) := by decide +kernel
theorem dM_cents0_20 : decode prog_6_method_20_code 20 = .ok (.aload_n 0, 1) := by decide +kernel
theorem dM_cents0_21 : decode prog_6_method_20_code 21 = .ok (.getfield 94, 3) := by decide +kernel
theorem dM_cents0_24 : decode prog_6_method_20_code 24 = .ok (.lconst 0, 1) := by decide +kernel
theorem dM_cents0_25 : decode prog_6_method_20_code 25 = .ok (.lcmp, 1) := by decide +kernel
theorem dM_cents0_26 : decode prog_6_method_20_code 26 = .ok (.ifCond .ge 7, 3) := by decide +kernel
theorem dM_cents0_29 : decode prog_6_method_20_code 29 = .ok (.ldc2_w 108, 3) := by decide +kernel
theorem dM_cents0_32 : decode prog_6_method_20_code 32 = .ok (.lreturn, 1) := by decide +kernel
theorem dM_cents0_33 : decode prog_6_method_20_code 33 = .ok (.lload_n 1, 1) := by decide +kernel
theorem dM_cents0_34 : decode prog_6_method_20_code 34 = .ok (.aload_n 0, 1) := by decide +kernel
theorem dM_cents0_35 : decode prog_6_method_20_code 35 = .ok (.getfield 94, 3) := by decide +kernel
theorem dM_cents0_38 : decode prog_6_method_20_code 38 = .ok (.ladd, 1) := by decide +kernel
theorem dM_cents0_39 : decode prog_6_method_20_code 39 = .ok (.lstore_n 1, 1) := by decide +kernel
theorem dM_cents0_40 : decode prog_6_method_20_code 40 = .ok (.iinc 3 1, 3) := by decide +kernel
theorem dM_cents0_43 : decode prog_6_method_20_code 43 = .ok (.goto (-34), 3) := by decide +kernel
theorem dM_cents0_46 : decode prog_6_method_20_code 46 = .ok (.lload_n 1, 1) := by decide +kernel
theorem dM_cents0_47 : decode prog_6_method_20_code 47 = .ok (.lreturn, 1) := by decide +kernel
theorem dM_bars_0 : decode prog_6_method_21_code 0 = .ok (.iconst 0, 1) := by decide +kernel
theorem dM_bars_1 : decode prog_6_method_21_code 1 = .ok (.istore_n 3, 1) := by decide +kernel
theorem dM_bars_2 : decode prog_6_method_21_code 2 = .ok (.iconst 0, 1) := by decide +kernel
theorem dM_bars_3 : decode prog_6_method_21_code 3 = .ok (.istore 4, 2) := by decide +kernel
theorem dM_bars_5 : decode prog_6_method_21_code 5 = .ok (.iload 4, 2) := by decide +kernel
theorem dM_bars_7 : decode prog_6_method_21_code 7 = .ok (.aload_n 0, 1) := by decide +kernel
theorem dM_bars_8 : decode prog_6_method_21_code 8 = .ok (.getfield 118, 3) := by decide +kernel
theorem dM_bars_11 : decode prog_6_method_21_code 11 = .ok (.if_icmp .ge 32, 3) := by decide +kernel
theorem dM_bars_14 : decode prog_6_method_21_code 14 = .ok (.aload_n 0, 1) := by decide +kernel
theorem dM_bars_15 : decode prog_6_method_21_code 15 = .ok (.getfield 48, 3) := by decide +kernel
theorem dM_bars_18 : decode prog_6_method_21_code 18 = .ok (.iload 4, 2) := by decide +kernel
theorem dM_bars_20 : decode prog_6_method_21_code 20 = .ok (.iaload, 1) := by decide +kernel
theorem dM_bars_21 : decode prog_6_method_21_code 21 = .ok (.iload_n 3, 1) := by decide +kernel
theorem dM_bars_22 : decode prog_6_method_21_code 22 = .ok (.if_icmp .le 13, 3) := by decide +kernel
theorem dM_bars_25 : decode prog_6_method_21_code 25 = .ok (.aload_n 0, 1) := by decide +kernel
theorem dM_bars_26 : decode prog_6_method_21_code 26 = .ok (.getfield 48, 3) := by decide +kernel
theorem dM_bars_29 : decode prog_6_method_21_code 29 = .ok (.iload 4, 2) := by decide +kernel
theorem dM_bars_31 : decode prog_6_method_21_code 31 = .ok (.iaload, 1) := by decide +kernel
theorem dM_bars_32 : decode prog_6_method_21_code 32 = .ok (.goto 4, 3) := by decide +kernel
theorem dM_bars_35 : decode prog_6_method_21_code 35 = .ok (.iload_n 3, 1) := by decide +kernel
theorem dM_bars_36 : decode prog_6_method_21_code 36 = .ok (.istore_n 3, 1) := by decide +kernel
theorem dM_bars_37 : decode prog_6_method_21_code 37 = .ok (.iinc 4 1, 3) := by decide +kernel
theorem dM_bars_40 : decode prog_6_method_21_code 40 = .ok (.goto (-35), 3) := by decide +kernel
theorem dM_bars_43 : decode prog_6_method_21_code 43 = .ok (.aload_n 0, 1) := by decide +kernel
theorem dM_bars_44 : decode prog_6_method_21_code 44 = .ok (.iload_n 1, 1) := by decide +kernel
theorem dM_bars_45 : decode prog_6_method_21_code 45 = .ok (.i2l, 1) := by decide +kernel
theorem dM_bars_46 : decode prog_6_method_21_code 46 = .ok (.lconst 1, 1) := by decide +kernel
theorem dM_bars_47 : decode prog_6_method_21_code 47 = .ok (.ldc2_w 121, 3) := by decide +kernel
theorem dM_bars_50 : decode prog_6_method_21_code 50 = .ok (.invokestatic 63, 3) := by decide +kernel
theorem dM_bars_53 : decode prog_6_method_21_code 53 = .ok (.ifCond .eq 15, 3) := by decide +kernel
theorem dM_bars_56 : decode prog_6_method_21_code 56 = .ok (.iload_n 2, 1) := by decide +kernel
theorem dM_bars_57 : decode prog_6_method_21_code 57 = .ok (.i2l, 1) := by decide +kernel
theorem dM_bars_58 : decode prog_6_method_21_code 58 = .ok (.lconst 0, 1) := by decide +kernel
theorem dM_bars_59 : decode prog_6_method_21_code 59 = .ok (.ldc2_w 80, 3) := by decide +kernel
theorem dM_bars_62 : decode prog_6_method_21_code 62 = .ok (.invokestatic 63, 3) := by decide +kernel
theorem dM_bars_65 : decode prog_6_method_21_code 65 = .ok (.ifCond .ne 7, 3) := by decide +kernel
theorem dM_bars_68 : decode prog_6_method_21_code 68 = .ok (.iconst 1, 1) := by decide +kernel
theorem dM_bars_69 : decode prog_6_method_21_code 69 = .ok (.goto 13, 3) := by decide +kernel
theorem dM_bars_72 : decode prog_6_method_21_code 72 = .ok (.iload_n 3, 1) := by decide +kernel
theorem dM_bars_73 : decode prog_6_method_21_code 73 = .ok (.iload_n 1, 1) := by decide +kernel
theorem dM_bars_74 : decode prog_6_method_21_code 74 = .ok (.if_icmp .le 7, 3) := by decide +kernel
theorem dM_bars_77 : decode prog_6_method_21_code 77 = .ok (.iconst 2, 1) := by decide +kernel
theorem dM_bars_78 : decode prog_6_method_21_code 78 = .ok (.goto 4, 3) := by decide +kernel
theorem dM_bars_81 : decode prog_6_method_21_code 81 = .ok (.iconst 0, 1) := by decide +kernel
theorem dM_bars_82 : decode prog_6_method_21_code 82 = .ok (.putfield 57, 3) := by decide +kernel
theorem dM_bars_85 : decode prog_6_method_21_code 85 = .ok (.aload_n 0, 1) := by decide +kernel
theorem dM_bars_86 : decode prog_6_method_21_code 86 = .ok (.getfield 57, 3) := by decide +kernel
theorem dM_bars_89 : decode prog_6_method_21_code 89 = .ok (.ifCond .ne 13, 3) := by decide +kernel
theorem dM_bars_92 : decode prog_6_method_21_code 92 = .ok (.aload_n 0, 1) := by decide +kernel
theorem dM_bars_93 : decode prog_6_method_21_code 93 = .ok (.iload_n 1, 1) := by decide +kernel
theorem dM_bars_94 : decode prog_6_method_21_code 94 = .ok (.putfield 44, 3) := by decide +kernel
theorem dM_bars_97 : decode prog_6_method_21_code 97 = .ok (.aload_n 0, 1) := by decide +kernel
theorem dM_bars_98 : decode prog_6_method_21_code 98 = .ok (.iload_n 2, 1) := by decide +kernel
theorem dM_bars_99 : decode prog_6_method_21_code 99 = .ok (.putfield 123, 3) := by decide +kernel
theorem dM_bars_102 : decode prog_6_method_21_code 102 = .ok (.return_, 1) := by decide +kernel
theorem dM_piece_0 : decode prog_6_method_22_code 0 = .ok (.aload_n 0, 1) := by decide +kernel
theorem dM_piece_1 : decode prog_6_method_22_code 1 = .ok (.iload_n 1, 1) := by decide +kernel
theorem dM_piece_2 : decode prog_6_method_22_code 2 = .ok (.i2l, 1) := by decide +kernel
theorem dM_piece_3 : decode prog_6_method_22_code 3 = .ok (.lconst 1, 1) := by decide +kernel
theorem dM_piece_4 : decode prog_6_method_22_code 4 = .ok (.aload_n 0, 1) := by decide +kernel
theorem dM_piece_5 : decode prog_6_method_22_code 5 = .ok (.getfield 44, 3) := by decide +kernel
theorem dM_piece_8 : decode prog_6_method_22_code 8 = .ok (.i2l, 1) := by decide +kernel
theorem dM_piece_9 : decode prog_6_method_22_code 9 = .ok (.invokestatic 63, 3) := by decide +kernel
theorem dM_piece_12 : decode prog_6_method_22_code 12 = .ok (.ifCond .ne 7, 3) := by decide +kernel
theorem dM_piece_15 : decode prog_6_method_22_code 15 = .ok (.iconst 1, 1) := by decide +kernel
theorem dM_piece_16 : decode prog_6_method_22_code 16 = .ok (.goto 17, 3) := by decide +kernel
theorem dM_piece_19 : decode prog_6_method_22_code 19 = .ok (.aload_n 0, 1) := by decide +kernel
theorem dM_piece_20 : decode prog_6_method_22_code 20 = .ok (.getfield 118, 3) := by decide +kernel
theorem dM_piece_23 : decode prog_6_method_22_code 23 = .ok (.bipush 10, 2) := by decide +kernel
theorem dM_piece_25 : decode prog_6_method_22_code 25 = .ok (.if_icmp .ne 7, 3) := by decide +kernel
theorem dM_piece_28 : decode prog_6_method_22_code 28 = .ok (.iconst 2, 1) := by decide +kernel
theorem dM_piece_29 : decode prog_6_method_22_code 29 = .ok (.goto 4, 3) := by decide +kernel
theorem dM_piece_32 : decode prog_6_method_22_code 32 = .ok (.iconst 0, 1) := by decide +kernel
theorem dM_piece_33 : decode prog_6_method_22_code 33 = .ok (.putfield 57, 3) := by decide +kernel
theorem dM_piece_36 : decode prog_6_method_22_code 36 = .ok (.aload_n 0, 1) := by decide +kernel
theorem dM_piece_37 : decode prog_6_method_22_code 37 = .ok (.getfield 57, 3) := by decide +kernel
theorem dM_piece_40 : decode prog_6_method_22_code 40 = .ok (.ifCond .le 5, 3) := by decide +kernel
theorem dM_piece_43 : decode prog_6_method_22_code 43 = .ok (.iconst 0, 1) := by decide +kernel
theorem dM_piece_44 : decode prog_6_method_22_code 44 = .ok (.ireturn, 1) := by decide +kernel
theorem dM_piece_45 : decode prog_6_method_22_code 45 = .ok (.aload_n 0, 1) := by decide +kernel
theorem dM_piece_46 : decode prog_6_method_22_code 46 = .ok (.getfield 48, 3) := by decide +kernel
theorem dM_piece_49 : decode prog_6_method_22_code 49 = .ok (.aload_n 0, 1) := by decide +kernel
theorem dM_piece_50 : decode prog_6_method_22_code 50 = .ok (.getfield 118, 3) := by decide +kernel
theorem dM_piece_53 : decode prog_6_method_22_code 53 = .ok (.iload_n 1, 1) := by decide +kernel
theorem dM_piece_54 : decode prog_6_method_22_code 54 = .ok (.iastore, 1) := by decide +kernel
theorem dM_piece_55 : decode prog_6_method_22_code 55 = .ok (.aload_n 0, 1) := by decide +kernel
theorem dM_piece_56 : decode prog_6_method_22_code 56 = .ok (.dup, 1) := by decide +kernel
theorem dM_piece_57 : decode prog_6_method_22_code 57 = .ok (.getfield 118, 3) := by decide +kernel
theorem dM_piece_60 : decode prog_6_method_22_code 60 = .ok (.iconst 1, 1) := by decide +kernel
theorem dM_piece_61 : decode prog_6_method_22_code 61 = .ok (.iadd, 1) := by decide +kernel
theorem dM_piece_62 : decode prog_6_method_22_code 62 = .ok (.putfield 118, 3) := by decide +kernel
theorem dM_piece_65 : decode prog_6_method_22_code 65 = .ok (.aload_n 0, 1) := by decide +kernel
theorem dM_piece_66 : decode prog_6_method_22_code 66 = .ok (.getfield 118, 3) := by decide +kernel
theorem dM_piece_69 : decode prog_6_method_22_code 69 = .ok (.iconst 1, 1) := by decide +kernel
theorem dM_piece_70 : decode prog_6_method_22_code 70 = .ok (.isub, 1) := by decide +kernel
theorem dM_piece_71 : decode prog_6_method_22_code 71 = .ok (.ireturn, 1) := by decide +kernel
theorem dM_change_0 : decode prog_6_method_23_code 0 = .ok (.aload_n 0, 1) := by decide +kernel
theorem dM_change_1 : decode prog_6_method_23_code 1 = .ok (.iload_n 1, 1) := by decide +kernel
theorem dM_change_2 : decode prog_6_method_23_code 2 = .ok (.i2l, 1) := by decide +kernel
theorem dM_change_3 : decode prog_6_method_23_code 3 = .ok (.lconst 0, 1) := by decide +kernel
theorem dM_change_4 : decode prog_6_method_23_code 4 = .ok (.aload_n 0, 1) := by decide +kernel
theorem dM_change_5 : decode prog_6_method_23_code 5 = .ok (.getfield 118, 3) := by decide +kernel
theorem dM_change_8 : decode prog_6_method_23_code 8 = .ok (.iconst 1, 1) := by decide +kernel
theorem dM_change_9 : decode prog_6_method_23_code 9 = .ok (.isub, 1) := by decide +kernel
theorem dM_change_10 : decode prog_6_method_23_code 10 = .ok (.i2l, 1) := by decide +kernel
theorem dM_change_11 : decode prog_6_method_23_code 11 = .ok (.invokestatic 63, 3) := by decide +kernel
theorem dM_change_14 : decode prog_6_method_23_code 14 = .ok (.ifCond .eq 21, 3) := by decide +kernel
theorem dM_change_17 : decode prog_6_method_23_code 17 = .ok (.iload_n 2, 1) := by decide +kernel
theorem dM_change_18 : decode prog_6_method_23_code 18 = .ok (.i2l, 1) := by decide +kernel
theorem dM_change_19 : decode prog_6_method_23_code 19 = .ok (.lconst 1, 1) := by decide +kernel
theorem dM_change_20 : decode prog_6_method_23_code 20 = .ok (.aload_n 0, 1) := by decide +kernel
theorem dM_change_21 : decode prog_6_method_23_code 21 = .ok (.getfield 44, 3) := by decide +kernel
theorem dM_change_24 : decode prog_6_method_23_code 24 = .ok (.i2l, 1) := by decide +kernel
theorem dM_change_25 : decode prog_6_method_23_code 25 = .ok (.invokestatic 63, 3) := by decide +kernel
theorem dM_change_28 : decode prog_6_method_23_code 28 = .ok (.ifCond .eq 7, 3) := by decide +kernel
theorem dM_change_31 : decode prog_6_method_23_code 31 = .ok (.iconst 0, 1) := by decide +kernel
theorem dM_change_32 : decode prog_6_method_23_code 32 = .ok (.goto 4, 3) := by decide +kernel
theorem dM_change_35 : decode prog_6_method_23_code 35 = .ok (.iconst 1, 1) := by decide +kernel
theorem dM_change_36 : decode prog_6_method_23_code 36 = .ok (.putfield 57, 3) := by decide +kernel
theorem dM_change_39 : decode prog_6_method_23_code 39 = .ok (.aload_n 0, 1) := by decide +kernel
theorem dM_change_40 : decode prog_6_method_23_code 40 = .ok (.getfield 57, 3) := by decide +kernel
theorem dM_change_43 : decode prog_6_method_23_code 43 = .ok (.ifCond .le 5, 3) := by decide +kernel
theorem dM_change_46 : decode prog_6_method_23_code 46 = .ok (.iconst 0, 1) := by decide +kernel
theorem dM_change_47 : decode prog_6_method_23_code 47 = .ok (.ireturn, 1) := by decide +kernel
theorem dM_change_48 : decode prog_6_method_23_code 48 = .ok (.aload_n 0, 1) := by decide +kernel
theorem dM_change_49 : decode prog_6_method_23_code 49 = .ok (.getfield 48, 3) := by decide +kernel
theorem dM_change_52 : decode prog_6_method_23_code 52 = .ok (.iload_n 1, 1) := by decide +kernel
theorem dM_change_53 : decode prog_6_method_23_code 53 = .ok (.iaload, 1) := by decide +kernel
theorem dM_change_54 : decode prog_6_method_23_code 54 = .ok (.istore_n 3, 1) := by decide +kernel
theorem dM_change_55 : decode prog_6_method_23_code 55 = .ok (.aload_n 0, 1) := by decide +kernel
theorem dM_change_56 : decode prog_6_method_23_code 56 = .ok (.getfield 48, 3) := by decide +kernel
theorem dM_change_59 : decode prog_6_method_23_code 59 = .ok (.iload_n 1, 1) := by decide +kernel
theorem dM_change_60 : decode prog_6_method_23_code 60 = .ok (.iload_n 2, 1) := by decide +kernel
theorem dM_change_61 : decode prog_6_method_23_code 61 = .ok (.iastore, 1) := by decide +kernel
theorem dM_change_62 : decode prog_6_method_23_code 62 = .ok (.iload_n 3, 1) := by decide +kernel
theorem dM_change_63 : decode prog_6_method_23_code 63 = .ok (.ireturn, 1) := by decide +kernel
theorem dM_plan_0 : decode prog_6_method_27_code 0 = .ok (.aload_n 0, 1) := by decide +kernel
theorem dM_plan_1 : decode prog_6_method_27_code 1 = .ok (.iconst 0, 1) := by decide +kernel
theorem dM_plan_2 : decode prog_6_method_27_code 2 = .ok (.putfield 57, 3) := by decide +kernel
theorem dM_plan_5 : decode prog_6_method_27_code 5 = .ok (.aload_n 0, 1) := by decide +kernel
theorem dM_plan_6 : decode prog_6_method_27_code 6 = .ok (.invokevirtual 136, 3) := by decide +kernel
theorem dM_plan_9 : decode prog_6_method_27_code 9 = .ok (.aload_n 0, 1) := by decide +kernel
theorem dM_plan_10 : decode prog_6_method_27_code 10 = .ok (.getfield 130, 3) := by decide +kernel
theorem dM_plan_13 : decode prog_6_method_27_code 13 = .ok (.ireturn, 1) := by decide +kernel
theorem dM_findPlan_0 : decode prog_6_method_26_code 0 = .ok (.lconst 0, 1) := by decide +kernel
theorem dM_findPlan_1 : decode prog_6_method_26_code 1 = .ok (.lstore_n 1, 1) := by decide +kernel
theorem dM_findPlan_2 : decode prog_6_method_26_code 2 = .ok (.iconst 0, 1) := by decide +kernel
theorem dM_findPlan_3 : decode prog_6_method_26_code 3 = .ok (.istore_n 3, 1) := by decide +kernel
theorem dM_findPlan_4 : decode prog_6_method_26_code 4 = .ok (.iload_n 3, 1) := by decide +kernel
theorem dM_findPlan_5 : decode prog_6_method_26_code 5 = .ok (.aload_n 0, 1) := by decide +kernel
theorem dM_findPlan_6 : decode prog_6_method_26_code 6 = .ok (.getfield 118, 3) := by decide +kernel
theorem dM_findPlan_9 : decode prog_6_method_26_code 9 = .ok (.if_icmp .ge 24, 3) := by decide +kernel
theorem dM_findPlan_12 : decode prog_6_method_26_code 12 = .ok (.lload_n 1, 1) := by decide +kernel
theorem dM_findPlan_13 : decode prog_6_method_26_code 13 = .ok (.aload_n 0, 1) := by decide +kernel
theorem dM_findPlan_14 : decode prog_6_method_26_code 14 = .ok (.getfield 48, 3) := by decide +kernel
theorem dM_findPlan_17 : decode prog_6_method_26_code 17 = .ok (.iload_n 3, 1) := by decide +kernel
theorem dM_findPlan_18 : decode prog_6_method_26_code 18 = .ok (.iaload, 1) := by decide +kernel
theorem dM_findPlan_19 : decode prog_6_method_26_code 19 = .ok (.aload_n 0, 1) := by decide +kernel
theorem dM_findPlan_20 : decode prog_6_method_26_code 20 = .ok (.getfield 123, 3) := by decide +kernel
theorem dM_findPlan_23 : decode prog_6_method_26_code 23 = .ok (.iadd, 1) := by decide +kernel
theorem dM_findPlan_24 : decode prog_6_method_26_code 24 = .ok (.i2l, 1) := by decide +kernel
theorem dM_findPlan_25 : decode prog_6_method_26_code 25 = .ok (.ladd, 1) := by decide +kernel
theorem dM_findPlan_26 : decode prog_6_method_26_code 26 = .ok (.lstore_n 1, 1) := by decide +kernel
theorem dM_findPlan_27 : decode prog_6_method_26_code 27 = .ok (.iinc 3 1, 3) := by decide +kernel
theorem dM_findPlan_30 : decode prog_6_method_26_code 30 = .ok (.goto (-26), 3) := by decide +kernel
theorem dM_findPlan_33 : decode prog_6_method_26_code 33 = .ok (.aload_n 0, 1) := by decide +kernel
theorem dM_findPlan_34 : decode prog_6_method_26_code 34 = .ok (.lload_n 1, 1) := by decide +kernel
theorem dM_findPlan_35 : decode prog_6_method_26_code 35 = .ok (.aload_n 0, 1) := by decide +kernel
theorem dM_findPlan_36 : decode prog_6_method_26_code 36 = .ok (.getfield 44, 3) := by decide +kernel
theorem dM_findPlan_39 : decode prog_6_method_26_code 39 = .ok (.i2l, 1) := by decide +kernel
theorem dM_findPlan_40 : decode prog_6_method_26_code 40 = .ok (.ladd, 1) := by decide +kernel
theorem dM_findPlan_41 : decode prog_6_method_26_code 41 = .ok (.aload_n 0, 1) := by decide +kernel
theorem dM_findPlan_42 : decode prog_6_method_26_code 42 = .ok (.getfield 123, 3) := by decide +kernel
theorem dM_findPlan_45 : decode prog_6_method_26_code 45 = .ok (.i2l, 1) := by decide +kernel
theorem dM_findPlan_46 : decode prog_6_method_26_code 46 = .ok (.ladd, 1) := by decide +kernel
theorem dM_findPlan_47 : decode prog_6_method_26_code 47 = .ok (.lconst 1, 1) := by decide +kernel
theorem dM_findPlan_48 : decode prog_6_method_26_code 48 = .ok (.lsub, 1) := by decide +kernel
theorem dM_findPlan_49 : decode prog_6_method_26_code 49 = .ok (.aload_n 0, 1) := by decide +kernel
theorem dM_findPlan_50 : decode prog_6_method_26_code 50 = .ok (.getfield 44, 3) := by decide +kernel
theorem dM_findPlan_53 : decode prog_6_method_26_code 53 = .ok (.aload_n 0, 1) := by decide +kernel
theorem dM_findPlan_54 : decode prog_6_method_26_code 54 = .ok (.getfield 123, 3) := by decide +kernel
theorem dM_findPlan_57 : decode prog_6_method_26_code 57 = .ok (.iadd, 1) := by decide +kernel
theorem dM_findPlan_58 : decode prog_6_method_26_code 58 = .ok (.i2l, 1) := by decide +kernel
theorem dM_findPlan_59 : decode prog_6_method_26_code 59 = .ok (.ldiv, 1) := by decide +kernel
theorem dM_findPlan_60 : decode prog_6_method_26_code 60 = .ok (.l2i, 1) := by decide +kernel
theorem dM_findPlan_61 : decode prog_6_method_26_code 61 = .ok (.putfield 130, 3) := by decide +kernel
theorem dM_findPlan_64 : decode prog_6_method_26_code 64 = .ok (.aload_n 0, 1) := by decide +kernel
theorem dM_findPlan_65 : decode prog_6_method_26_code 65 = .ok (.aload_n 0, 1) := by decide +kernel
theorem dM_findPlan_66 : decode prog_6_method_26_code 66 = .ok (.getfield 130, 3) := by decide +kernel
theorem dM_findPlan_69 : decode prog_6_method_26_code 69 = .ok (.invokevirtual 133, 3) := by decide +kernel
theorem dM_findPlan_72 : decode prog_6_method_26_code 72 = .ok (.ifCond .ne 16, 3) := by decide +kernel
theorem dM_findPlan_75 : decode prog_6_method_26_code 75 = .ok (.aload_n 0, 1) := by decide +kernel
theorem dM_findPlan_76 : decode prog_6_method_26_code 76 = .ok (.dup, 1) := by decide +kernel
theorem dM_findPlan_77 : decode prog_6_method_26_code 77 = .ok (.getfield 130, 3) := by decide +kernel
theorem dM_findPlan_80 : decode prog_6_method_26_code 80 = .ok (.iconst 1, 1) := by decide +kernel
theorem dM_findPlan_81 : decode prog_6_method_26_code 81 = .ok (.iadd, 1) := by decide +kernel
theorem dM_findPlan_82 : decode prog_6_method_26_code 82 = .ok (.putfield 130, 3) := by decide +kernel
theorem dM_findPlan_85 : decode prog_6_method_26_code 85 = .ok (.goto (-21), 3) := by decide +kernel
theorem dM_findPlan_88 : decode prog_6_method_26_code 88 = .ok (.return_, 1) := by decide +kernel
theorem dM_goInto_0 : decode prog_6_method_25_code 0 = .ok (.iconst 0, 1) := by decide +kernel
theorem dM_goInto_1 : decode prog_6_method_25_code 1 = .ok (.istore_n 2, 1) := by decide +kernel
theorem dM_goInto_2 : decode prog_6_method_25_code 2 = .ok (.iload_n 2, 1) := by decide +kernel
theorem dM_goInto_3 : decode prog_6_method_25_code 3 = .ok (.bipush 10, 2) := by decide +kernel
theorem dM_goInto_5 : decode prog_6_method_25_code 5 = .ok (.if_icmp .ge 16, 3) := by decide +kernel
theorem dM_goInto_8 : decode prog_6_method_25_code 8 = .ok (.aload_n 0, 1) := by decide +kernel
theorem dM_goInto_9 : decode prog_6_method_25_code 9 = .ok (.getfield 54, 3) := by decide +kernel
theorem dM_goInto_12 : decode prog_6_method_25_code 12 = .ok (.iload_n 2, 1) := by decide +kernel
theorem dM_goInto_13 : decode prog_6_method_25_code 13 = .ok (.iconst 0, 1) := by decide +kernel
theorem dM_goInto_14 : decode prog_6_method_25_code 14 = .ok (.iastore, 1) := by decide +kernel
theorem dM_goInto_15 : decode prog_6_method_25_code 15 = .ok (.iinc 2 1, 3) := by decide +kernel
theorem dM_goInto_18 : decode prog_6_method_25_code 18 = .ok (.goto (-16), 3) := by decide +kernel
theorem dM_goInto_21 : decode prog_6_method_25_code 21 = .ok (.iconst 0, 1) := by decide +kernel
theorem dM_goInto_22 : decode prog_6_method_25_code 22 = .ok (.istore_n 2, 1) := by decide +kernel
theorem dM_goInto_23 : decode prog_6_method_25_code 23 = .ok (.iconst 0, 1) := by decide +kernel
theorem dM_goInto_24 : decode prog_6_method_25_code 24 = .ok (.istore_n 3, 1) := by decide +kernel
theorem dM_goInto_25 : decode prog_6_method_25_code 25 = .ok (.iload_n 2, 1) := by decide +kernel
theorem dM_goInto_26 : decode prog_6_method_25_code 26 = .ok (.ifCond .lt 169, 3) := by decide +kernel
theorem dM_goInto_29 : decode prog_6_method_25_code 29 = .ok (.iload_n 2, 1) := by decide +kernel
theorem dM_goInto_30 : decode prog_6_method_25_code 30 = .ok (.aload_n 0, 1) := by decide +kernel
theorem dM_goInto_31 : decode prog_6_method_25_code 31 = .ok (.getfield 118, 3) := by decide +kernel
theorem dM_goInto_34 : decode prog_6_method_25_code 34 = .ok (.if_icmp .ge 161, 3) := by decide +kernel
theorem dM_goInto_37 : decode prog_6_method_25_code 37 = .ok (.aload_n 0, 1) := by decide +kernel
theorem dM_goInto_38 : decode prog_6_method_25_code 38 = .ok (.iload_n 2, 1) := by decide +kernel
theorem dM_goInto_39 : decode prog_6_method_25_code 39 = .ok (.invokevirtual 126, 3) := by decide +kernel
theorem dM_goInto_42 : decode prog_6_method_25_code 42 = .ok (.istore 4, 2) := by decide +kernel
theorem dM_goInto_44 : decode prog_6_method_25_code 44 = .ok (.iload 4, 2) := by decide +kernel
theorem dM_goInto_46 : decode prog_6_method_25_code 46 = .ok (.iload_n 1, 1) := by decide +kernel
theorem dM_goInto_47 : decode prog_6_method_25_code 47 = .ok (.if_icmp .ge 8, 3) := by decide +kernel
theorem dM_goInto_50 : decode prog_6_method_25_code 50 = .ok (.iload 4, 2) := by decide +kernel
theorem dM_goInto_52 : decode prog_6_method_25_code 52 = .ok (.goto 6, 3) := by decide +kernel
theorem dM_goInto_55 : decode prog_6_method_25_code 55 = .ok (.iload_n 1, 1) := by decide +kernel
theorem dM_goInto_56 : decode prog_6_method_25_code 56 = .ok (.iconst 1, 1) := by decide +kernel
theorem dM_goInto_57 : decode prog_6_method_25_code 57 = .ok (.isub, 1) := by decide +kernel
theorem dM_goInto_58 : decode prog_6_method_25_code 58 = .ok (.istore 5, 2) := by decide +kernel
theorem dM_goInto_60 : decode prog_6_method_25_code 60 = .ok (.iload_n 3, 1) := by decide +kernel
theorem dM_goInto_61 : decode prog_6_method_25_code 61 = .ok (.istore 6, 2) := by decide +kernel
theorem dM_goInto_63 : decode prog_6_method_25_code 63 = .ok (.iload 6, 2) := by decide +kernel
theorem dM_goInto_65 : decode prog_6_method_25_code 65 = .ok (.iload 5, 2) := by decide +kernel
theorem dM_goInto_67 : decode prog_6_method_25_code 67 = .ok (.if_icmp .gt 40, 3) := by decide +kernel
theorem dM_goInto_70 : decode prog_6_method_25_code 70 = .ok (.aload_n 0, 1) := by decide +kernel
theorem dM_goInto_71 : decode prog_6_method_25_code 71 = .ok (.getfield 54, 3) := by decide +kernel
theorem dM_goInto_74 : decode prog_6_method_25_code 74 = .ok (.iload 6, 2) := by decide +kernel
theorem dM_goInto_76 : decode prog_6_method_25_code 76 = .ok (.iaload, 1) := by decide +kernel
theorem dM_goInto_77 : decode prog_6_method_25_code 77 = .ok (.aload_n 0, 1) := by decide +kernel
theorem dM_goInto_78 : decode prog_6_method_25_code 78 = .ok (.getfield 48, 3) := by decide +kernel
theorem dM_goInto_81 : decode prog_6_method_25_code 81 = .ok (.iload_n 2, 1) := by decide +kernel
theorem dM_goInto_82 : decode prog_6_method_25_code 82 = .ok (.iaload, 1) := by decide +kernel
theorem dM_goInto_83 : decode prog_6_method_25_code 83 = .ok (.iadd, 1) := by decide +kernel
theorem dM_goInto_84 : decode prog_6_method_25_code 84 = .ok (.aload_n 0, 1) := by decide +kernel
theorem dM_goInto_85 : decode prog_6_method_25_code 85 = .ok (.getfield 123, 3) := by decide +kernel
theorem dM_goInto_88 : decode prog_6_method_25_code 88 = .ok (.iadd, 1) := by decide +kernel
theorem dM_goInto_89 : decode prog_6_method_25_code 89 = .ok (.aload_n 0, 1) := by decide +kernel
theorem dM_goInto_90 : decode prog_6_method_25_code 90 = .ok (.getfield 44, 3) := by decide +kernel
theorem dM_goInto_93 : decode prog_6_method_25_code 93 = .ok (.aload_n 0, 1) := by decide +kernel
theorem dM_goInto_94 : decode prog_6_method_25_code 94 = .ok (.getfield 123, 3) := by decide +kernel
theorem dM_goInto_97 : decode prog_6_method_25_code 97 = .ok (.iadd, 1) := by decide +kernel
theorem dM_goInto_98 : decode prog_6_method_25_code 98 = .ok (.if_icmp .le 9, 3) := by decide +kernel
theorem dM_goInto_101 : decode prog_6_method_25_code 101 = .ok (.iinc 6 1, 3) := by decide +kernel
theorem dM_goInto_104 : decode prog_6_method_25_code 104 = .ok (.goto (-41), 3) := by decide +kernel
theorem dM_goInto_107 : decode prog_6_method_25_code 107 = .ok (.iload 6, 2) := by decide +kernel
theorem dM_goInto_109 : decode prog_6_method_25_code 109 = .ok (.iload 5, 2) := by decide +kernel
theorem dM_goInto_111 : decode prog_6_method_25_code 111 = .ok (.if_icmp .gt 40, 3) := by decide +kernel
theorem dM_goInto_114 : decode prog_6_method_25_code 114 = .ok (.aload_n 0, 1) := by decide +kernel
theorem dM_goInto_115 : decode prog_6_method_25_code 115 = .ok (.getfield 51, 3) := by decide +kernel
theorem dM_goInto_118 : decode prog_6_method_25_code 118 = .ok (.iload_n 2, 1) := by decide +kernel
theorem dM_goInto_119 : decode prog_6_method_25_code 119 = .ok (.iload 6, 2) := by decide +kernel
theorem dM_goInto_121 : decode prog_6_method_25_code 121 = .ok (.iastore, 1) := by decide +kernel
theorem dM_goInto_122 : decode prog_6_method_25_code 122 = .ok (.aload_n 0, 1) := by decide +kernel
theorem dM_goInto_123 : decode prog_6_method_25_code 123 = .ok (.getfield 54, 3) := by decide +kernel
theorem dM_goInto_126 : decode prog_6_method_25_code 126 = .ok (.iload 6, 2) := by decide +kernel
theorem dM_goInto_128 : decode prog_6_method_25_code 128 = .ok (.dup2, 1) := by decide +kernel
theorem dM_goInto_129 : decode prog_6_method_25_code 129 = .ok (.iaload, 1) := by decide +kernel
theorem dM_goInto_130 : decode prog_6_method_25_code 130 = .ok (.aload_n 0, 1) := by decide +kernel
theorem dM_goInto_131 : decode prog_6_method_25_code 131 = .ok (.getfield 48, 3) := by decide +kernel
theorem dM_goInto_134 : decode prog_6_method_25_code 134 = .ok (.iload_n 2, 1) := by decide +kernel
theorem dM_goInto_135 : decode prog_6_method_25_code 135 = .ok (.iaload, 1) := by decide +kernel
theorem dM_goInto_136 : decode prog_6_method_25_code 136 = .ok (.aload_n 0, 1) := by decide +kernel
theorem dM_goInto_137 : decode prog_6_method_25_code 137 = .ok (.getfield 123, 3) := by decide +kernel
theorem dM_goInto_140 : decode prog_6_method_25_code 140 = .ok (.iadd, 1) := by decide +kernel
theorem dM_goInto_141 : decode prog_6_method_25_code 141 = .ok (.iadd, 1) := by decide +kernel
theorem dM_goInto_142 : decode prog_6_method_25_code 142 = .ok (.iastore, 1) := by decide +kernel
theorem dM_goInto_143 : decode prog_6_method_25_code 143 = .ok (.iinc 2 1, 3) := by decide +kernel
theorem dM_goInto_146 : decode prog_6_method_25_code 146 = .ok (.iconst 0, 1) := by decide +kernel
theorem dM_goInto_147 : decode prog_6_method_25_code 147 = .ok (.istore_n 3, 1) := by decide +kernel
theorem dM_goInto_148 : decode prog_6_method_25_code 148 = .ok (.goto 44, 3) := by decide +kernel
theorem dM_goInto_151 : decode prog_6_method_25_code 151 = .ok (.iinc 2 (-1), 3) := by decide +kernel
theorem dM_goInto_154 : decode prog_6_method_25_code 154 = .ok (.iload_n 2, 1) := by decide +kernel
theorem dM_goInto_155 : decode prog_6_method_25_code 155 = .ok (.ifCond .lt 37, 3) := by decide +kernel
theorem dM_goInto_158 : decode prog_6_method_25_code 158 = .ok (.aload_n 0, 1) := by decide +kernel
theorem dM_goInto_159 : decode prog_6_method_25_code 159 = .ok (.getfield 54, 3) := by decide +kernel
theorem dM_goInto_162 : decode prog_6_method_25_code 162 = .ok (.aload_n 0, 1) := by decide +kernel
theorem dM_goInto_163 : decode prog_6_method_25_code 163 = .ok (.getfield 51, 3) := by decide +kernel
theorem dM_goInto_166 : decode prog_6_method_25_code 166 = .ok (.iload_n 2, 1) := by decide +kernel
theorem dM_goInto_167 : decode prog_6_method_25_code 167 = .ok (.iaload, 1) := by decide +kernel
theorem dM_goInto_168 : decode prog_6_method_25_code 168 = .ok (.dup2, 1) := by decide +kernel
theorem dM_goInto_169 : decode prog_6_method_25_code 169 = .ok (.iaload, 1) := by decide +kernel
theorem dM_goInto_170 : decode prog_6_method_25_code 170 = .ok (.aload_n 0, 1) := by decide +kernel
theorem dM_goInto_171 : decode prog_6_method_25_code 171 = .ok (.getfield 48, 3) := by decide +kernel
theorem dM_goInto_174 : decode prog_6_method_25_code 174 = .ok (.iload_n 2, 1) := by decide +kernel
theorem dM_goInto_175 : decode prog_6_method_25_code 175 = .ok (.iaload, 1) := by decide +kernel
theorem dM_goInto_176 : decode prog_6_method_25_code 176 = .ok (.aload_n 0, 1) := by decide +kernel
theorem dM_goInto_177 : decode prog_6_method_25_code 177 = .ok (.getfield 123, 3) := by decide +kernel
theorem dM_goInto_180 : decode prog_6_method_25_code 180 = .ok (.iadd, 1) := by decide +kernel
theorem dM_goInto_181 : decode prog_6_method_25_code 181 = .ok (.isub, 1) := by decide +kernel
theorem dM_goInto_182 : decode prog_6_method_25_code 182 = .ok (.iastore, 1) := by decide +kernel
theorem dM_goInto_183 : decode prog_6_method_25_code 183 = .ok (.aload_n 0, 1) := by decide +kernel
theorem dM_goInto_184 : decode prog_6_method_25_code 184 = .ok (.getfield 51, 3) := by decide +kernel
theorem dM_goInto_187 : decode prog_6_method_25_code 187 = .ok (.iload_n 2, 1) := by decide +kernel
theorem dM_goInto_188 : decode prog_6_method_25_code 188 = .ok (.iaload, 1) := by decide +kernel
theorem dM_goInto_189 : decode prog_6_method_25_code 189 = .ok (.iconst 1, 1) := by decide +kernel
theorem dM_goInto_190 : decode prog_6_method_25_code 190 = .ok (.iadd, 1) := by decide +kernel
theorem dM_goInto_191 : decode prog_6_method_25_code 191 = .ok (.istore_n 3, 1) := by decide +kernel
theorem dM_goInto_192 : decode prog_6_method_25_code 192 = .ok (.goto (-167), 3) := by decide +kernel
theorem dM_goInto_195 : decode prog_6_method_25_code 195 = .ok (.iload_n 2, 1) := by decide +kernel
theorem dM_goInto_196 : decode prog_6_method_25_code 196 = .ok (.aload_n 0, 1) := by decide +kernel
theorem dM_goInto_197 : decode prog_6_method_25_code 197 = .ok (.getfield 118, 3) := by decide +kernel
theorem dM_goInto_200 : decode prog_6_method_25_code 200 = .ok (.if_icmp .ne 7, 3) := by decide +kernel
theorem dM_goInto_203 : decode prog_6_method_25_code 203 = .ok (.iconst 1, 1) := by decide +kernel
theorem dM_goInto_204 : decode prog_6_method_25_code 204 = .ok (.goto 4, 3) := by decide +kernel
theorem dM_goInto_207 : decode prog_6_method_25_code 207 = .ok (.iconst 0, 1) := by decide +kernel
theorem dM_goInto_208 : decode prog_6_method_25_code 208 = .ok (.ireturn, 1) := by decide +kernel
theorem dM_usedBefore_0 : decode prog_6_method_24_code 0 = .ok (.iconst 0, 1) := by decide +kernel
theorem dM_usedBefore_1 : decode prog_6_method_24_code 1 = .ok (.istore_n 2, 1) := by decide +kernel
theorem dM_usedBefore_2 : decode prog_6_method_24_code 2 = .ok (.iconst 0, 1) := by decide +kernel
theorem dM_usedBefore_3 : decode prog_6_method_24_code 3 = .ok (.istore_n 3, 1) := by decide +kernel
theorem dM_usedBefore_4 : decode prog_6_method_24_code 4 = .ok (.iload_n 3, 1) := by decide +kernel
theorem dM_usedBefore_5 : decode prog_6_method_24_code 5 = .ok (.iload_n 1, 1) := by decide +kernel
theorem dM_usedBefore_6 : decode prog_6_method_24_code 6 = .ok (.if_icmp .ge 34, 3) := by decide +kernel
theorem dM_usedBefore_9 : decode prog_6_method_24_code 9 = .ok (.aload_n 0, 1) := by decide +kernel
theorem dM_usedBefore_10 : decode prog_6_method_24_code 10 = .ok (.getfield 51, 3) := by decide +kernel
theorem dM_usedBefore_13 : decode prog_6_method_24_code 13 = .ok (.iload_n 3, 1) := by decide +kernel
theorem dM_usedBefore_14 : decode prog_6_method_24_code 14 = .ok (.iaload, 1) := by decide +kernel
theorem dM_usedBefore_15 : decode prog_6_method_24_code 15 = .ok (.iconst 1, 1) := by decide +kernel
theorem dM_usedBefore_16 : decode prog_6_method_24_code 16 = .ok (.iadd, 1) := by decide +kernel
theorem dM_usedBefore_17 : decode prog_6_method_24_code 17 = .ok (.iload_n 2, 1) := by decide +kernel
theorem dM_usedBefore_18 : decode prog_6_method_24_code 18 = .ok (.if_icmp .le 14, 3) := by decide +kernel
theorem dM_usedBefore_21 : decode prog_6_method_24_code 21 = .ok (.aload_n 0, 1) := by decide +kernel
theorem dM_usedBefore_22 : decode prog_6_method_24_code 22 = .ok (.getfield 51, 3) := by decide +kernel
theorem dM_usedBefore_25 : decode prog_6_method_24_code 25 = .ok (.iload_n 3, 1) := by decide +kernel
theorem dM_usedBefore_26 : decode prog_6_method_24_code 26 = .ok (.iaload, 1) := by decide +kernel
theorem dM_usedBefore_27 : decode prog_6_method_24_code 27 = .ok (.iconst 1, 1) := by decide +kernel
theorem dM_usedBefore_28 : decode prog_6_method_24_code 28 = .ok (.iadd, 1) := by decide +kernel
theorem dM_usedBefore_29 : decode prog_6_method_24_code 29 = .ok (.goto 4, 3) := by decide +kernel
theorem dM_usedBefore_32 : decode prog_6_method_24_code 32 = .ok (.iload_n 2, 1) := by decide +kernel
theorem dM_usedBefore_33 : decode prog_6_method_24_code 33 = .ok (.istore_n 2, 1) := by decide +kernel
theorem dM_usedBefore_34 : decode prog_6_method_24_code 34 = .ok (.iinc 3 1, 3) := by decide +kernel
theorem dM_usedBefore_37 : decode prog_6_method_24_code 37 = .ok (.goto (-33), 3) := by decide +kernel
theorem dM_usedBefore_40 : decode prog_6_method_24_code 40 = .ok (.iload_n 2, 1) := by decide +kernel
theorem dM_usedBefore_41 : decode prog_6_method_24_code 41 = .ok (.ireturn, 1) := by decide +kernel
theorem dM_bar_0 : decode prog_6_method_28_code 0 = .ok (.aload_n 0, 1) := by decide +kernel
theorem dM_bar_1 : decode prog_6_method_28_code 1 = .ok (.iload_n 1, 1) := by decide +kernel
theorem dM_bar_2 : decode prog_6_method_28_code 2 = .ok (.i2l, 1) := by decide +kernel
theorem dM_bar_3 : decode prog_6_method_28_code 3 = .ok (.lconst 0, 1) := by decide +kernel
theorem dM_bar_4 : decode prog_6_method_28_code 4 = .ok (.aload_n 0, 1) := by decide +kernel
theorem dM_bar_5 : decode prog_6_method_28_code 5 = .ok (.getfield 118, 3) := by decide +kernel
theorem dM_bar_8 : decode prog_6_method_28_code 8 = .ok (.iconst 1, 1) := by decide +kernel
theorem dM_bar_9 : decode prog_6_method_28_code 9 = .ok (.isub, 1) := by decide +kernel
theorem dM_bar_10 : decode prog_6_method_28_code 10 = .ok (.i2l, 1) := by decide +kernel
theorem dM_bar_11 : decode prog_6_method_28_code 11 = .ok (.invokestatic 63, 3) := by decide +kernel
theorem dM_bar_14 : decode prog_6_method_28_code 14 = .ok (.ifCond .eq 7, 3) := by decide +kernel
theorem dM_bar_17 : decode prog_6_method_28_code 17 = .ok (.iconst 0, 1) := by decide +kernel
theorem dM_bar_18 : decode prog_6_method_28_code 18 = .ok (.goto 4, 3) := by decide +kernel
theorem dM_bar_21 : decode prog_6_method_28_code 21 = .ok (.iconst 1, 1) := by decide +kernel
theorem dM_bar_22 : decode prog_6_method_28_code 22 = .ok (.putfield 57, 3) := by decide +kernel
theorem dM_bar_25 : decode prog_6_method_28_code 25 = .ok (.aload_n 0, 1) := by decide +kernel
theorem dM_bar_26 : decode prog_6_method_28_code 26 = .ok (.getfield 57, 3) := by decide +kernel
theorem dM_bar_29 : decode prog_6_method_28_code 29 = .ok (.ifCond .le 5, 3) := by decide +kernel
theorem dM_bar_32 : decode prog_6_method_28_code 32 = .ok (.iconst 0, 1) := by decide +kernel
theorem dM_bar_33 : decode prog_6_method_28_code 33 = .ok (.ireturn, 1) := by decide +kernel
theorem dM_bar_34 : decode prog_6_method_28_code 34 = .ok (.aload_n 0, 1) := by decide +kernel
theorem dM_bar_35 : decode prog_6_method_28_code 35 = .ok (.invokevirtual 136, 3) := by decide +kernel
theorem dM_bar_38 : decode prog_6_method_28_code 38 = .ok (.aload_n 0, 1) := by decide +kernel
theorem dM_bar_39 : decode prog_6_method_28_code 39 = .ok (.getfield 51, 3) := by decide +kernel
theorem dM_bar_42 : decode prog_6_method_28_code 42 = .ok (.iload_n 1, 1) := by decide +kernel
theorem dM_bar_43 : decode prog_6_method_28_code 43 = .ok (.iaload, 1) := by decide +kernel
theorem dM_bar_44 : decode prog_6_method_28_code 44 = .ok (.ireturn, 1) := by decide +kernel
theorem dM_rest_0 : decode prog_6_method_29_code 0 = .ok (.aload_n 0, 1) := by decide +kernel
theorem dM_rest_1 : decode prog_6_method_29_code 1 = .ok (.invokevirtual 136, 3) := by decide +kernel
theorem dM_rest_4 : decode prog_6_method_29_code 4 = .ok (.aload_n 0, 1) := by decide +kernel
theorem dM_rest_5 : decode prog_6_method_29_code 5 = .ok (.iload_n 1, 1) := by decide +kernel
theorem dM_rest_6 : decode prog_6_method_29_code 6 = .ok (.i2l, 1) := by decide +kernel
theorem dM_rest_7 : decode prog_6_method_29_code 7 = .ok (.lconst 0, 1) := by decide +kernel
theorem dM_rest_8 : decode prog_6_method_29_code 8 = .ok (.aload_n 0, 1) := by decide +kernel
theorem dM_rest_9 : decode prog_6_method_29_code 9 = .ok (.getfield 130, 3) := by decide +kernel
theorem dM_rest_12 : decode prog_6_method_29_code 12 = .ok (.iconst 1, 1) := by decide +kernel
theorem dM_rest_13 : decode prog_6_method_29_code 13 = .ok (.isub, 1) := by decide +kernel
theorem dM_rest_14 : decode prog_6_method_29_code 14 = .ok (.i2l, 1) := by decide +kernel
theorem dM_rest_15 : decode prog_6_method_29_code 15 = .ok (.invokestatic 63, 3) := by decide +kernel
theorem dM_rest_18 : decode prog_6_method_29_code 18 = .ok (.ifCond .eq 7, 3) := by decide +kernel
theorem dM_rest_21 : decode prog_6_method_29_code 21 = .ok (.iconst 0, 1) := by decide +kernel
theorem dM_rest_22 : decode prog_6_method_29_code 22 = .ok (.goto 4, 3) := by decide +kernel
theorem dM_rest_25 : decode prog_6_method_29_code 25 = .ok (.iconst 1, 1) := by decide +kernel
