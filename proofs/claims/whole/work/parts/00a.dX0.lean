-- DECODE ROWS
theorem dX_init_0 : decode prog_1_method_1_code 0 = .ok (.aload_n 0, 1) := by decide +kernel
theorem dX_init_1 : decode prog_1_method_1_code 1 = .ok (.invokespecial 3, 3) := by decide +kernel
theorem dX_init_4 : decode prog_1_method_1_code 4 = .ok (.aload_n 0, 1) := by decide +kernel
theorem dX_init_5 : decode prog_1_method_1_code 5 = .ok (.bipush 12, 2) := by decide +kernel
theorem dX_init_7 : decode prog_1_method_1_code 7 = .ok (.anewarray 9, 3) := by decide +kernel
theorem dX_init_10 : decode prog_1_method_1_code 10 = .ok (.putfield 11, 3) := by decide +kernel
theorem dX_init_13 : decode prog_1_method_1_code 13 = .ok (.iconst 0, 1) := by decide +kernel
theorem dX_init_14 : decode prog_1_method_1_code 14 = .ok (.istore_n 1, 1) := by decide +kernel
theorem dX_init_15 : decode prog_1_method_1_code 15 = .ok (.iload_n 1, 1) := by decide +kernel
theorem dX_init_16 : decode prog_1_method_1_code 16 = .ok (.aload_n 0, 1) := by decide +kernel
theorem dX_init_17 : decode prog_1_method_1_code 17 = .ok (.getfield 11, 3) := by decide +kernel
theorem dX_init_20 : decode prog_1_method_1_code 20 = .ok (.arraylength, 1) := by decide +kernel
theorem dX_init_21 : decode prog_1_method_1_code 21 = .ok (.if_icmp .ge 22, 3) := by decide +kernel
theorem dX_init_24 : decode prog_1_method_1_code 24 = .ok (.aload_n 0, 1) := by decide +kernel
theorem dX_init_25 : decode prog_1_method_1_code 25 = .ok (.getfield 11, 3) := by decide +kernel
theorem dX_init_28 : decode prog_1_method_1_code 28 = .ok (.iload_n 1, 1) := by decide +kernel
theorem dX_init_29 : decode prog_1_method_1_code 29 = .ok (.new 9, 3) := by decide +kernel
theorem dX_init_32 : decode prog_1_method_1_code 32 = .ok (.dup, 1) := by decide +kernel
theorem dX_init_33 : decode prog_1_method_1_code 33 = .ok (.invokespecial 15, 3) := by decide +kernel
theorem dX_init_36 : decode prog_1_method_1_code 36 = .ok (.aastore, 1) := by decide +kernel
theorem dX_init_37 : decode prog_1_method_1_code 37 = .ok (.iinc 1 1, 3) := by decide +kernel
theorem dX_init_40 : decode prog_1_method_1_code 40 = .ok (.goto (-25), 3) := by decide +kernel
theorem dX_init_43 : decode prog_1_method_1_code 43 = .ok (.aload_n 0, 1) := by decide +kernel
theorem dX_init_44 : decode prog_1_method_1_code 44 = .ok (.bipush 10, 2) := by decide +kernel
theorem dX_init_46 : decode prog_1_method_1_code 46 = .ok (.newarray .int, 2) := by decide +kernel
theorem dX_init_48 : decode prog_1_method_1_code 48 = .ok (.putfield 16, 3) := by decide +kernel
theorem dX_init_51 : decode prog_1_method_1_code 51 = .ok (.aload_n 0, 1) := by decide +kernel
theorem dX_init_52 : decode prog_1_method_1_code 52 = .ok (.bipush 10, 2) := by decide +kernel
theorem dX_init_54 : decode prog_1_method_1_code 54 = .ok (.anewarray 20, 3) := by decide +kernel
theorem dX_init_57 : decode prog_1_method_1_code 57 = .ok (.putfield 22, 3) := by decide +kernel
theorem dX_init_60 : decode prog_1_method_1_code 60 = .ok (.iconst 0, 1) := by decide +kernel
theorem dX_init_61 : decode prog_1_method_1_code 61 = .ok (.istore_n 1, 1) := by decide +kernel
theorem dX_init_62 : decode prog_1_method_1_code 62 = .ok (.iload_n 1, 1) := by decide +kernel
theorem dX_init_63 : decode prog_1_method_1_code 63 = .ok (.aload_n 0, 1) := by decide +kernel
theorem dX_init_64 : decode prog_1_method_1_code 64 = .ok (.getfield 22, 3) := by decide +kernel
theorem dX_init_67 : decode prog_1_method_1_code 67 = .ok (.arraylength, 1) := by decide +kernel
theorem dX_init_68 : decode prog_1_method_1_code 68 = .ok (.if_icmp .ge 22, 3) := by decide +kernel
theorem dX_init_71 : decode prog_1_method_1_code 71 = .ok (.aload_n 0, 1) := by decide +kernel
theorem dX_init_72 : decode prog_1_method_1_code 72 = .ok (.getfield 22, 3) := by decide +kernel
theorem dX_init_75 : decode prog_1_method_1_code 75 = .ok (.iload_n 1, 1) := by decide +kernel
theorem dX_init_76 : decode prog_1_method_1_code 76 = .ok (.new 20, 3) := by decide +kernel
theorem dX_init_79 : decode prog_1_method_1_code 79 = .ok (.dup, 1) := by decide +kernel
theorem dX_init_80 : decode prog_1_method_1_code 80 = .ok (.invokespecial 26, 3) := by decide +kernel
theorem dX_init_83 : decode prog_1_method_1_code 83 = .ok (.aastore, 1) := by decide +kernel
theorem dX_init_84 : decode prog_1_method_1_code 84 = .ok (.iinc 1 1, 3) := by decide +kernel
theorem dX_init_87 : decode prog_1_method_1_code 87 = .ok (.goto (-25), 3) := by decide +kernel
theorem dX_init_90 : decode prog_1_method_1_code 90 = .ok (.aload_n 0, 1) := by decide +kernel
theorem dX_init_91 : decode prog_1_method_1_code 91 = .ok (.new 27, 3) := by decide +kernel
theorem dX_init_94 : decode prog_1_method_1_code 94 = .ok (.dup, 1) := by decide +kernel
theorem dX_init_95 : decode prog_1_method_1_code 95 = .ok (.invokespecial 29, 3) := by decide +kernel
theorem dX_init_98 : decode prog_1_method_1_code 98 = .ok (.putfield 30, 3) := by decide +kernel
theorem dX_init_101 : decode prog_1_method_1_code 101 = .ok (.return_, 1) := by decide +kernel
theorem dX_cents0_0 : decode prog_1_method_11_code 0 = .ok (.lconst 0, 1) := by decide +kernel
theorem dX_cents0_1 : decode prog_1_method_11_code 1 = .ok (.lstore_n 1, 1) := by decide +kernel
theorem dX_cents0_2 : decode prog_1_method_11_code 2 = .ok (.iconst 0, 1) := by decide +kernel
theorem dX_cents0_3 : decode prog_1_method_11_code 3 = .ok (.istore_n 3, 1) := by decide +kernel
theorem dX_cents0_4 : decode prog_1_method_11_code 4 = .ok (.iload_n 3, 1) := by decide +kernel
theorem dX_cents0_5 : decode prog_1_method_11_code 5 = .ok (.bipush 10, 2) := by decide +kernel
theorem dX_cents0_7 : decode prog_1_method_11_code 7 = .ok (.if_icmp .ge 34, 3) := by decide +kernel
theorem dX_cents0_10 : decode prog_1_method_11_code 10 = .ok (.aload_n 0, 1) := by decide +kernel
theorem dX_cents0_11 : decode prog_1_method_11_code 11 = .ok (.iload_n 3, 1) := by decide +kernel
theorem dX_cents0_12 : decode prog_1_method_11_code 12 = .ok (.invokevirtual 97, 3) := by decide +kernel
theorem dX_cents0_15 : decode prog_1_method_11_code 15 = .ok (.lstore 4, 2) := by decide +kernel
theorem dX_cents0_17 : decode prog_1_method_11_code 17 = .ok (.lload 4, 2) := by decide +kernel
theorem dX_cents0_19 : decode prog_1_method_11_code 19 = .ok (.ldc2_w 100, 3) := by decide +kernel
theorem dX_cents0_22 : decode prog_1_method_11_code 22 = .ok (.lcmp, 1) := by decide +kernel
theorem dX_cents0_23 : decode prog_1_method_11_code 23 = .ok (.ifCond .ne 7, 3) := by decide +kernel
theorem dX_cents0_26 : decode prog_1_method_11_code 26 = .ok (.ldc2_w 100, 3) := by decide +kernel
theorem dX_cents0_29 : decode prog_1_method_11_code 29 = .ok (.lreturn, 1) := by decide +kernel
theorem dX_cents0_30 : decode prog_1_method_11_code 30 = .ok (.lload_n 1, 1) := by decide +kernel
theorem dX_cents0_31 : decode prog_1_method_11_code 31 = .ok (.lload 4, 2) := by decide +kernel
theorem dX_cents0_33 : decode prog_1_method_11_code 33 = .ok (.ladd, 1) := by decide +kernel
theorem dX_cents0_34 : decode prog_1_method_11_code 34 = .ok (.lstore_n 1, 1) := by decide +kernel
theorem dX_cents0_35 : decode prog_1_method_11_code 35 = .ok (.iinc 3 1, 3) := by decide +kernel
theorem dX_cents0_38 : decode prog_1_method_11_code 38 = .ok (.goto (-34), 3) := by decide +kernel
theorem dX_cents0_41 : decode prog_1_method_11_code 41 = .ok (.lload_n 1, 1) := by decide +kernel
theorem dX_cents0_42 : decode prog_1_method_11_code 42 = .ok (.lreturn, 1) := by decide +kernel
theorem dX_cents1_0 : decode prog_1_method_10_code 0 = .ok (.iload_n 1, 1) := by decide +kernel
theorem dX_cents1_1 : decode prog_1_method_10_code 1 = .ok (.bipush 10, 2) := by decide +kernel
theorem dX_cents1_3 : decode prog_1_method_10_code 3 = .ok (.invokestatic 49, 3) := by decide +kernel
theorem dX_cents1_6 : decode prog_1_method_10_code 6 = .ok (.aload_n 0, 1) := by decide +kernel
theorem dX_cents1_7 : decode prog_1_method_10_code 7 = .ok (.getfield 22, 3) := by decide +kernel
theorem dX_cents1_10 : decode prog_1_method_10_code 10 = .ok (.iload_n 1, 1) := by decide +kernel
theorem dX_cents1_11 : decode prog_1_method_10_code 11 = .ok (.aaload, 1) := by decide +kernel
theorem dX_cents1_12 : decode prog_1_method_10_code 12 = .ok (.aload_n 0, 1) := by decide +kernel
theorem dX_cents1_13 : decode prog_1_method_10_code 13 = .ok (.iload_n 1, 1) := by decide +kernel
theorem dX_cents1_14 : decode prog_1_method_10_code 14 = .ok (.invokevirtual 85, 3) := by decide +kernel
theorem dX_cents1_17 : decode prog_1_method_10_code 17 = .ok (.invokevirtual 93, 3) := by decide +kernel
theorem dX_cents1_20 : decode prog_1_method_10_code 20 = .ok (.i2l, 1) := by decide +kernel
theorem dX_cents1_21 : decode prog_1_method_10_code 21 = .ok (.lreturn, 1) := by decide +kernel
theorem dX_checkNumber_0 : decode prog_1_method_19_code 0 = .ok (.iload_n 0, 1) := by decide +kernel
theorem dX_checkNumber_1 : decode prog_1_method_19_code 1 = .ok (.ifCond .lt 8, 3) := by decide +kernel
theorem dX_checkNumber_4 : decode prog_1_method_19_code 4 = .ok (.iload_n 0, 1) := by decide +kernel
theorem dX_checkNumber_5 : decode prog_1_method_19_code 5 = .ok (.iload_n 1, 1) := by decide +kernel
theorem dX_checkNumber_6 : decode prog_1_method_19_code 6 = .ok (.if_icmp .lt 13, 3) := by decide +kernel
theorem dX_checkNumber_9 : decode prog_1_method_19_code 9 = .ok (.new 135, 3) := by decide +kernel
theorem dX_checkNumber_12 : decode prog_1_method_19_code 12 = .ok (.dup, 1) := by decide +kernel
theorem dX_checkNumber_13 : decode prog_1_method_19_code 13 = .ok (.ldc 140, 2) := by decide +kernel
theorem dX_checkNumber_15 : decode prog_1_method_19_code 15 = .ok (.invokespecial 139, 3) := by decide +kernel
theorem dX_checkNumber_18 : decode prog_1_method_19_code 18 = .ok (.athrow, 1) := by decide +kernel
theorem dX_checkNumber_19 : decode prog_1_method_19_code 19 = .ok (.return_, 1) := by decide +kernel
theorem dX_need_0 : decode prog_1_method_7_code 0 = .ok (.iload_n 1, 1) := by decide +kernel
theorem dX_need_1 : decode prog_1_method_7_code 1 = .ok (.bipush 10, 2) := by decide +kernel
theorem dX_need_3 : decode prog_1_method_7_code 3 = .ok (.invokestatic 49, 3) := by decide +kernel
theorem dX_need_6 : decode prog_1_method_7_code 6 = .ok (.lconst 0, 1) := by decide +kernel
theorem dX_need_7 : decode prog_1_method_7_code 7 = .ok (.lstore_n 2, 1) := by decide +kernel
theorem dX_need_8 : decode prog_1_method_7_code 8 = .ok (.iconst 0, 1) := by decide +kernel
theorem dX_need_9 : decode prog_1_method_7_code 9 = .ok (.istore 4, 2) := by decide +kernel
theorem dX_need_11 : decode prog_1_method_7_code 11 = .ok (.iload 4, 2) := by decide +kernel
theorem dX_need_13 : decode prog_1_method_7_code 13 = .ok (.aload_n 0, 1) := by decide +kernel
theorem dX_need_14 : decode prog_1_method_7_code 14 = .ok (.getfield 38, 3) := by decide +kernel
theorem dX_need_17 : decode prog_1_method_7_code 17 = .ok (.if_icmp .ge 37, 3) := by decide +kernel
theorem dX_need_20 : decode prog_1_method_7_code 20 = .ok (.lload_n 2, 1) := by decide +kernel
theorem dX_need_21 : decode prog_1_method_7_code 21 = .ok (.aload_n 0, 1) := by decide +kernel
theorem dX_need_22 : decode prog_1_method_7_code 22 = .ok (.getfield 11, 3) := by decide +kernel
theorem dX_need_25 : decode prog_1_method_7_code 25 = .ok (.iload 4, 2) := by decide +kernel
theorem dX_need_27 : decode prog_1_method_7_code 27 = .ok (.aaload, 1) := by decide +kernel
theorem dX_need_28 : decode prog_1_method_7_code 28 = .ok (.getfield 46, 3) := by decide +kernel
theorem dX_need_31 : decode prog_1_method_7_code 31 = .ok (.i2l, 1) := by decide +kernel
theorem dX_need_32 : decode prog_1_method_7_code 32 = .ok (.aload_n 0, 1) := by decide +kernel
theorem dX_need_33 : decode prog_1_method_7_code 33 = .ok (.getfield 11, 3) := by decide +kernel
theorem dX_need_36 : decode prog_1_method_7_code 36 = .ok (.iload 4, 2) := by decide +kernel
theorem dX_need_38 : decode prog_1_method_7_code 38 = .ok (.aaload, 1) := by decide +kernel
theorem dX_need_39 : decode prog_1_method_7_code 39 = .ok (.getfield 65, 3) := by decide +kernel
theorem dX_need_42 : decode prog_1_method_7_code 42 = .ok (.iload_n 1, 1) := by decide +kernel
theorem dX_need_43 : decode prog_1_method_7_code 43 = .ok (.iaload, 1) := by decide +kernel
theorem dX_need_44 : decode prog_1_method_7_code 44 = .ok (.i2l, 1) := by decide +kernel
theorem dX_need_45 : decode prog_1_method_7_code 45 = .ok (.lmul, 1) := by decide +kernel
theorem dX_need_46 : decode prog_1_method_7_code 46 = .ok (.ladd, 1) := by decide +kernel
theorem dX_need_47 : decode prog_1_method_7_code 47 = .ok (.lstore_n 2, 1) := by decide +kernel
theorem dX_need_48 : decode prog_1_method_7_code 48 = .ok (.iinc 4 1, 3) := by decide +kernel
theorem dX_need_51 : decode prog_1_method_7_code 51 = .ok (.goto (-40), 3) := by decide +kernel
theorem dX_need_54 : decode prog_1_method_7_code 54 = .ok (.lload_n 2, 1) := by decide +kernel
theorem dX_need_55 : decode prog_1_method_7_code 55 = .ok (.bipush 100, 2) := by decide +kernel
theorem dX_need_57 : decode prog_1_method_7_code 57 = .ok (.aload_n 0, 1) := by decide +kernel
theorem dX_need_58 : decode prog_1_method_7_code 58 = .ok (.getfield 16, 3) := by decide +kernel
theorem dX_need_61 : decode prog_1_method_7_code 61 = .ok (.iload_n 1, 1) := by decide +kernel
theorem dX_need_62 : decode prog_1_method_7_code 62 = .ok (.iaload, 1) := by decide +kernel
theorem dX_need_63 : decode prog_1_method_7_code 63 = .ok (.iadd, 1) := by decide +kernel
theorem dX_need_64 : decode prog_1_method_7_code 64 = .ok (.i2l, 1) := by decide +kernel
theorem dX_need_65 : decode prog_1_method_7_code 65 = .ok (.lmul, 1) := by decide +kernel
theorem dX_need_66 : decode prog_1_method_7_code 66 = .ok (.bipush 100, 2) := by decide +kernel
theorem dX_need_68 : decode prog_1_method_7_code 68 = .ok (.invokestatic 72, 3) := by decide +kernel
theorem dX_need_71 : decode prog_1_method_7_code 71 = .ok (.lreturn, 1) := by decide +kernel
theorem dX_ratioRoundedUp_0 : decode prog_1_method_21_code 0 = .ok (.iload_n 2, 1) := by decide +kernel
theorem dX_ratioRoundedUp_1 : decode prog_1_method_21_code 1 = .ok (.ifCond .gt 7, 3) := by decide +kernel
theorem dX_ratioRoundedUp_4 : decode prog_1_method_21_code 4 = .ok (.lconst 0, 1) := by decide +kernel
theorem dX_ratioRoundedUp_5 : decode prog_1_method_21_code 5 = .ok (.goto 12, 3) := by decide +kernel
theorem dX_ratioRoundedUp_8 : decode prog_1_method_21_code 8 = .ok (.lload_n 0, 1) := by decide +kernel
theorem dX_ratioRoundedUp_9 : decode prog_1_method_21_code 9 = .ok (.iload_n 2, 1) := by decide +kernel
theorem dX_ratioRoundedUp_10 : decode prog_1_method_21_code 10 = .ok (.i2l, 1) := by decide +kernel
theorem dX_ratioRoundedUp_11 : decode prog_1_method_21_code 11 = .ok (.ladd, 1) := by decide +kernel
theorem dX_ratioRoundedUp_12 : decode prog_1_method_21_code 12 = .ok (.lconst 1, 1) := by decide +kernel
theorem dX_ratioRoundedUp_13 : decode prog_1_method_21_code 13 = .ok (.lsub, 1) := by decide +kernel
theorem dX_ratioRoundedUp_14 : decode prog_1_method_21_code 14 = .ok (.iload_n 2, 1) := by decide +kernel
theorem dX_ratioRoundedUp_15 : decode prog_1_method_21_code 15 = .ok (.i2l, 1) := by decide +kernel
theorem dX_ratioRoundedUp_16 : decode prog_1_method_21_code 16 = .ok (.ldiv, 1) := by decide +kernel
theorem dX_ratioRoundedUp_17 : decode prog_1_method_21_code 17 = .ok (.lreturn, 1) := by decide +kernel
theorem dX_plan_0 : decode prog_1_method_15_code 0 = .ok (.aload_n 0, 1) := by decide +kernel
theorem dX_plan_1 : decode prog_1_method_15_code 1 = .ok (.getfield 30, 3) := by decide +kernel
theorem dX_plan_4 : decode prog_1_method_15_code 4 = .ok (.invokevirtual 123, 3) := by decide +kernel
theorem dX_plan_7 : decode prog_1_method_15_code 7 = .ok (.aload_n 0, 1) := by decide +kernel
theorem dX_plan_8 : decode prog_1_method_15_code 8 = .ok (.getfield 30, 3) := by decide +kernel
theorem dX_plan_11 : decode prog_1_method_15_code 11 = .ok (.getfield 126, 3) := by decide +kernel
theorem dX_plan_14 : decode prog_1_method_15_code 14 = .ok (.ireturn, 1) := by decide +kernel
theorem dX_wall_0 : decode prog_1_method_2_code 0 = .ok (.iload_n 1, 1) := by decide +kernel
theorem dX_wall_1 : decode prog_1_method_2_code 1 = .ok (.iconst 1, 1) := by decide +kernel
theorem dX_wall_2 : decode prog_1_method_2_code 2 = .ok (.sipush 1000, 3) := by decide +kernel
theorem dX_wall_5 : decode prog_1_method_2_code 5 = .ok (.invokestatic 34, 3) := by decide +kernel
theorem dX_wall_8 : decode prog_1_method_2_code 8 = .ok (.iload_n 2, 1) := by decide +kernel
theorem dX_wall_9 : decode prog_1_method_2_code 9 = .ok (.iconst 1, 1) := by decide +kernel
theorem dX_wall_10 : decode prog_1_method_2_code 10 = .ok (.sipush 1000, 3) := by decide +kernel
theorem dX_wall_13 : decode prog_1_method_2_code 13 = .ok (.invokestatic 34, 3) := by decide +kernel
theorem dX_wall_16 : decode prog_1_method_2_code 16 = .ok (.aload_n 0, 1) := by decide +kernel
theorem dX_wall_17 : decode prog_1_method_2_code 17 = .ok (.getfield 38, 3) := by decide +kernel
theorem dX_wall_20 : decode prog_1_method_2_code 20 = .ok (.bipush 12, 2) := by decide +kernel
theorem dX_wall_22 : decode prog_1_method_2_code 22 = .ok (.invokestatic 42, 3) := by decide +kernel
theorem dX_wall_25 : decode prog_1_method_2_code 25 = .ok (.aload_n 0, 1) := by decide +kernel
theorem dX_wall_26 : decode prog_1_method_2_code 26 = .ok (.getfield 11, 3) := by decide +kernel
theorem dX_wall_29 : decode prog_1_method_2_code 29 = .ok (.aload_n 0, 1) := by decide +kernel
theorem dX_wall_30 : decode prog_1_method_2_code 30 = .ok (.getfield 38, 3) := by decide +kernel
theorem dX_wall_33 : decode prog_1_method_2_code 33 = .ok (.aaload, 1) := by decide +kernel
theorem dX_wall_34 : decode prog_1_method_2_code 34 = .ok (.iload_n 1, 1) := by decide +kernel
theorem dX_wall_35 : decode prog_1_method_2_code 35 = .ok (.iload_n 2, 1) := by decide +kernel
theorem dX_wall_36 : decode prog_1_method_2_code 36 = .ok (.imul, 1) := by decide +kernel
theorem dX_wall_37 : decode prog_1_method_2_code 37 = .ok (.putfield 46, 3) := by decide +kernel
theorem dX_wall_40 : decode prog_1_method_2_code 40 = .ok (.aload_n 0, 1) := by decide +kernel
theorem dX_wall_41 : decode prog_1_method_2_code 41 = .ok (.dup, 1) := by decide +kernel
theorem dX_wall_42 : decode prog_1_method_2_code 42 = .ok (.getfield 38, 3) := by decide +kernel
theorem dX_wall_45 : decode prog_1_method_2_code 45 = .ok (.iconst 1, 1) := by decide +kernel
theorem dX_wall_46 : decode prog_1_method_2_code 46 = .ok (.iadd, 1) := by decide +kernel
theorem dX_wall_47 : decode prog_1_method_2_code 47 = .ok (.putfield 38, 3) := by decide +kernel
theorem dX_wall_50 : decode prog_1_method_2_code 50 = .ok (.aload_n 0, 1) := by decide +kernel
theorem dX_wall_51 : decode prog_1_method_2_code 51 = .ok (.getfield 38, 3) := by decide +kernel
theorem dX_wall_54 : decode prog_1_method_2_code 54 = .ok (.iconst 1, 1) := by decide +kernel
theorem dX_wall_55 : decode prog_1_method_2_code 55 = .ok (.isub, 1) := by decide +kernel
theorem dX_wall_56 : decode prog_1_method_2_code 56 = .ok (.ireturn, 1) := by decide +kernel
theorem dX_checkBounds_0 : decode prog_1_method_18_code 0 = .ok (.iload_n 0, 1) := by decide +kernel
theorem dX_checkBounds_1 : decode prog_1_method_18_code 1 = .ok (.iload_n 1, 1) := by decide +kernel
theorem dX_checkBounds_2 : decode prog_1_method_18_code 2 = .ok (.if_icmp .lt 8, 3) := by decide +kernel
theorem dX_checkBounds_5 : decode prog_1_method_18_code 5 = .ok (.iload_n 0, 1) := by decide +kernel
theorem dX_checkBounds_6 : decode prog_1_method_18_code 6 = .ok (.iload_n 2, 1) := by decide +kernel
theorem dX_checkBounds_7 : decode prog_1_method_18_code 7 = .ok (.if_icmp .le 13, 3) := by decide +kernel
theorem dX_checkBounds_10 : decode prog_1_method_18_code 10 = .ok (.new 135, 3) := by decide +kernel
theorem dX_checkBounds_13 : decode prog_1_method_18_code 13 = .ok (.dup, 1) := by decide +kernel
theorem dX_checkBounds_14 : decode prog_1_method_18_code 14 = .ok (.ldc 137, 2) := by decide +kernel
theorem dX_checkBounds_16 : decode prog_1_method_18_code 16 = .ok (.invokespecial 139, 3) := by decide +kernel
theorem dX_checkBounds_19 : decode prog_1_method_18_code 19 = .ok (.athrow, 1) := by decide +kernel
theorem dX_checkBounds_20 : decode prog_1_method_18_code 20 = .ok (.return_, 1) := by decide +kernel
theorem dX_checkSpace_0 : decode prog_1_method_20_code 0 = .ok (.iload_n 0, 1) := by decide +kernel
theorem dX_checkSpace_1 : decode prog_1_method_20_code 1 = .ok (.iload_n 1, 1) := by decide +kernel
theorem dX_checkSpace_2 : decode prog_1_method_20_code 2 = .ok (.if_icmp .lt 13, 3) := by decide +kernel
theorem dX_checkSpace_5 : decode prog_1_method_20_code 5 = .ok (.new 55, 3) := by decide +kernel
theorem dX_checkSpace_8 : decode prog_1_method_20_code 8 = .ok (.dup, 1) := by decide +kernel
theorem dX_checkSpace_9 : decode prog_1_method_20_code 9 = .ok (.ldc 142, 2) := by decide +kernel
theorem dX_checkSpace_11 : decode prog_1_method_20_code 11 = .ok (.invokespecial 59, 3) := by decide +kernel
theorem dX_checkSpace_14 : decode prog_1_method_20_code 14 = .ok (.athrow, 1) := by decide +kernel
theorem dX_checkSpace_15 : decode prog_1_method_20_code 15 = .ok (.return_, 1) := by decide +kernel
theorem dX_opening_0 : decode prog_1_method_3_code 0 = .ok (.iload_n 1, 1) := by decide +kernel
theorem dX_opening_1 : decode prog_1_method_3_code 1 = .ok (.aload_n 0, 1) := by decide +kernel
theorem dX_opening_2 : decode prog_1_method_3_code 2 = .ok (.getfield 38, 3) := by decide +kernel
theorem dX_opening_5 : decode prog_1_method_3_code 5 = .ok (.invokestatic 49, 3) := by decide +kernel
theorem dX_opening_8 : decode prog_1_method_3_code 8 = .ok (.iload_n 2, 1) := by decide +kernel
theorem dX_opening_9 : decode prog_1_method_3_code 9 = .ok (.iconst 1, 1) := by decide +kernel
theorem dX_opening_10 : decode prog_1_method_3_code 10 = .ok (.sipush 1000, 3) := by decide +kernel
theorem dX_opening_13 : decode prog_1_method_3_code 13 = .ok (.invokestatic 34, 3) := by decide +kernel
theorem dX_opening_16 : decode prog_1_method_3_code 16 = .ok (.iload_n 3, 1) := by decide +kernel
theorem dX_opening_17 : decode prog_1_method_3_code 17 = .ok (.iconst 1, 1) := by decide +kernel
theorem dX_opening_18 : decode prog_1_method_3_code 18 = .ok (.sipush 1000, 3) := by decide +kernel
theorem dX_opening_21 : decode prog_1_method_3_code 21 = .ok (.invokestatic 34, 3) := by decide +kernel
theorem dX_opening_24 : decode prog_1_method_3_code 24 = .ok (.aload_n 0, 1) := by decide +kernel
theorem dX_opening_25 : decode prog_1_method_3_code 25 = .ok (.getfield 11, 3) := by decide +kernel
theorem dX_opening_28 : decode prog_1_method_3_code 28 = .ok (.iload_n 1, 1) := by decide +kernel
theorem dX_opening_29 : decode prog_1_method_3_code 29 = .ok (.aaload, 1) := by decide +kernel
theorem dX_opening_30 : decode prog_1_method_3_code 30 = .ok (.astore 4, 2) := by decide +kernel
theorem dX_opening_32 : decode prog_1_method_3_code 32 = .ok (.aload 4, 2) := by decide +kernel
theorem dX_opening_34 : decode prog_1_method_3_code 34 = .ok (.getfield 52, 3) := by decide +kernel
theorem dX_opening_37 : decode prog_1_method_3_code 37 = .ok (.bipush 6, 2) := by decide +kernel
theorem dX_opening_39 : decode prog_1_method_3_code 39 = .ok (.invokestatic 42, 3) := by decide +kernel
theorem dX_opening_42 : decode prog_1_method_3_code 42 = .ok (.iload_n 2, 1) := by decide +kernel
theorem dX_opening_43 : decode prog_1_method_3_code 43 = .ok (.iload_n 3, 1) := by decide +kernel
theorem dX_opening_44 : decode prog_1_method_3_code 44 = .ok (.imul, 1) := by decide +kernel
theorem dX_opening_45 : decode prog_1_method_3_code 45 = .ok (.aload 4, 2) := by decide +kernel
theorem dX_opening_47 : decode prog_1_method_3_code 47 = .ok (.getfield 46, 3) := by decide +kernel
theorem dX_opening_50 : decode prog_1_method_3_code 50 = .ok (.if_icmp .le 13, 3) := by decide +kernel
theorem dX_opening_53 : decode prog_1_method_3_code 53 = .ok (.new 55, 3) := by decide +kernel
theorem dX_opening_56 : decode prog_1_method_3_code 56 = .ok (.dup, 1) := by decide +kernel
theorem dX_opening_57 : decode prog_1_method_3_code 57 = .ok (.ldc 57, 2) := by decide +kernel
theorem dX_opening_59 : decode prog_1_method_3_code 59 = .ok (.invokespecial 59, 3) := by decide +kernel
theorem dX_opening_62 : decode prog_1_method_3_code 62 = .ok (.athrow, 1) := by decide +kernel
theorem dX_opening_63 : decode prog_1_method_3_code 63 = .ok (.aload 4, 2) := by decide +kernel
theorem dX_opening_65 : decode prog_1_method_3_code 65 = .ok (.dup, 1) := by decide +kernel
theorem dX_opening_66 : decode prog_1_method_3_code 66 = .ok (.getfield 46, 3) := by decide +kernel
theorem dX_opening_69 : decode prog_1_method_3_code 69 = .ok (.iload_n 2, 1) := by decide +kernel
theorem dX_opening_70 : decode prog_1_method_3_code 70 = .ok (.iload_n 3, 1) := by decide +kernel
theorem dX_opening_71 : decode prog_1_method_3_code 71 = .ok (.imul, 1) := by decide +kernel
theorem dX_opening_72 : decode prog_1_method_3_code 72 = .ok (.isub, 1) := by decide +kernel
theorem dX_opening_73 : decode prog_1_method_3_code 73 = .ok (.putfield 46, 3) := by decide +kernel
theorem dX_opening_76 : decode prog_1_method_3_code 76 = .ok (.aload 4, 2) := by decide +kernel
theorem dX_opening_78 : decode prog_1_method_3_code 78 = .ok (.dup, 1) := by decide +kernel
theorem dX_opening_79 : decode prog_1_method_3_code 79 = .ok (.getfield 52, 3) := by decide +kernel
theorem dX_opening_82 : decode prog_1_method_3_code 82 = .ok (.iconst 1, 1) := by decide +kernel
theorem dX_opening_83 : decode prog_1_method_3_code 83 = .ok (.iadd, 1) := by decide +kernel
theorem dX_opening_84 : decode prog_1_method_3_code 84 = .ok (.putfield 52, 3) := by decide +kernel
theorem dX_opening_87 : decode prog_1_method_3_code 87 = .ok (.aload 4, 2) := by decide +kernel
theorem dX_opening_89 : decode prog_1_method_3_code 89 = .ok (.getfield 46, 3) := by decide +kernel
theorem dX_opening_92 : decode prog_1_method_3_code 92 = .ok (.ireturn, 1) := by decide +kernel
theorem dX_layer_0 : decode prog_1_method_4_code 0 = .ok (.iload_n 1, 1) := by decide +kernel
theorem dX_layer_1 : decode prog_1_method_4_code 1 = .ok (.aload_n 0, 1) := by decide +kernel
theorem dX_layer_2 : decode prog_1_method_4_code 2 = .ok (.getfield 38, 3) := by decide +kernel
theorem dX_layer_5 : decode prog_1_method_4_code 5 = .ok (.invokestatic 49, 3) := by decide +kernel
theorem dX_layer_8 : decode prog_1_method_4_code 8 = .ok (.iload_n 2, 1) := by decide +kernel
theorem dX_layer_9 : decode prog_1_method_4_code 9 = .ok (.bipush 10, 2) := by decide +kernel
theorem dX_layer_11 : decode prog_1_method_4_code 11 = .ok (.invokestatic 49, 3) := by decide +kernel
theorem dX_layer_14 : decode prog_1_method_4_code 14 = .ok (.iload_n 3, 1) := by decide +kernel
theorem dX_layer_15 : decode prog_1_method_4_code 15 = .ok (.iconst 1, 1) := by decide +kernel
theorem dX_layer_16 : decode prog_1_method_4_code 16 = .ok (.sipush 500, 3) := by decide +kernel
theorem dX_layer_19 : decode prog_1_method_4_code 19 = .ok (.invokestatic 34, 3) := by decide +kernel
theorem dX_layer_22 : decode prog_1_method_4_code 22 = .ok (.aload_n 0, 1) := by decide +kernel
theorem dX_layer_23 : decode prog_1_method_4_code 23 = .ok (.getfield 11, 3) := by decide +kernel
theorem dX_layer_26 : decode prog_1_method_4_code 26 = .ok (.iload_n 1, 1) := by decide +kernel
theorem dX_layer_27 : decode prog_1_method_4_code 27 = .ok (.aaload, 1) := by decide +kernel
theorem dX_layer_28 : decode prog_1_method_4_code 28 = .ok (.astore 4, 2) := by decide +kernel
theorem dX_layer_30 : decode prog_1_method_4_code 30 = .ok (.aload 4, 2) := by decide +kernel
theorem dX_layer_32 : decode prog_1_method_4_code 32 = .ok (.getfield 62, 3) := by decide +kernel
theorem dX_layer_35 : decode prog_1_method_4_code 35 = .ok (.bipush 8, 2) := by decide +kernel
theorem dX_layer_37 : decode prog_1_method_4_code 37 = .ok (.invokestatic 42, 3) := by decide +kernel
theorem dX_layer_40 : decode prog_1_method_4_code 40 = .ok (.aload 4, 2) := by decide +kernel
theorem dX_layer_42 : decode prog_1_method_4_code 42 = .ok (.getfield 65, 3) := by decide +kernel
theorem dX_layer_45 : decode prog_1_method_4_code 45 = .ok (.iload_n 2, 1) := by decide +kernel
theorem dX_layer_46 : decode prog_1_method_4_code 46 = .ok (.dup2, 1) := by decide +kernel
theorem dX_layer_47 : decode prog_1_method_4_code 47 = .ok (.iaload, 1) := by decide +kernel
theorem dX_layer_48 : decode prog_1_method_4_code 48 = .ok (.iload_n 3, 1) := by decide +kernel
theorem dX_layer_49 : decode prog_1_method_4_code 49 = .ok (.iadd, 1) := by decide +kernel
theorem dX_layer_50 : decode prog_1_method_4_code 50 = .ok (.iastore, 1) := by decide +kernel
theorem dX_layer_51 : decode prog_1_method_4_code 51 = .ok (.aload 4, 2) := by decide +kernel
theorem dX_layer_53 : decode prog_1_method_4_code 53 = .ok (.dup, 1) := by decide +kernel
theorem dX_layer_54 : decode prog_1_method_4_code 54 = .ok (.getfield 62, 3) := by decide +kernel
theorem dX_layer_57 : decode prog_1_method_4_code 57 = .ok (.iconst 1, 1) := by decide +kernel
theorem dX_layer_58 : decode prog_1_method_4_code 58 = .ok (.iadd, 1) := by decide +kernel
theorem dX_layer_59 : decode prog_1_method_4_code 59 = .ok (.putfield 62, 3) := by decide +kernel
theorem dX_layer_62 : decode prog_1_method_4_code 62 = .ok (.aload 4, 2) := by decide +kernel
theorem dX_layer_64 : decode prog_1_method_4_code 64 = .ok (.getfield 62, 3) := by decide +kernel
theorem dX_layer_67 : decode prog_1_method_4_code 67 = .ok (.ireturn, 1) := by decide +kernel
theorem dX_waste_0 : decode prog_1_method_5_code 0 = .ok (.iload_n 1, 1) := by decide +kernel
theorem dX_waste_1 : decode prog_1_method_5_code 1 = .ok (.bipush 10, 2) := by decide +kernel
theorem dX_waste_3 : decode prog_1_method_5_code 3 = .ok (.invokestatic 49, 3) := by decide +kernel
theorem dX_waste_6 : decode prog_1_method_5_code 6 = .ok (.iload_n 2, 1) := by decide +kernel
theorem dX_waste_7 : decode prog_1_method_5_code 7 = .ok (.iconst 0, 1) := by decide +kernel
theorem dX_waste_8 : decode prog_1_method_5_code 8 = .ok (.bipush 100, 2) := by decide +kernel
theorem dX_waste_10 : decode prog_1_method_5_code 10 = .ok (.invokestatic 34, 3) := by decide +kernel
theorem dX_waste_13 : decode prog_1_method_5_code 13 = .ok (.aload_n 0, 1) := by decide +kernel
theorem dX_waste_14 : decode prog_1_method_5_code 14 = .ok (.getfield 16, 3) := by decide +kernel
theorem dX_waste_17 : decode prog_1_method_5_code 17 = .ok (.iload_n 1, 1) := by decide +kernel
theorem dX_waste_18 : decode prog_1_method_5_code 18 = .ok (.iaload, 1) := by decide +kernel
theorem dX_waste_19 : decode prog_1_method_5_code 19 = .ok (.istore_n 3, 1) := by decide +kernel
theorem dX_waste_20 : decode prog_1_method_5_code 20 = .ok (.aload_n 0, 1) := by decide +kernel
theorem dX_waste_21 : decode prog_1_method_5_code 21 = .ok (.getfield 16, 3) := by decide +kernel
theorem dX_waste_24 : decode prog_1_method_5_code 24 = .ok (.iload_n 1, 1) := by decide +kernel
theorem dX_waste_25 : decode prog_1_method_5_code 25 = .ok (.iload_n 2, 1) := by decide +kernel
theorem dX_waste_26 : decode prog_1_method_5_code 26 = .ok (.iastore, 1) := by decide +kernel
theorem dX_waste_27 : decode prog_1_method_5_code 27 = .ok (.iload_n 3, 1) := by decide +kernel
theorem dX_waste_28 : decode prog_1_method_5_code 28 = .ok (.ireturn, 1) := by decide +kernel
theorem dX_told_0 : decode prog_1_method_6_code 0 = .ok (.iload_n 1, 1) := by decide +kernel
theorem dX_told_1 : decode prog_1_method_6_code 1 = .ok (.aload_n 0, 1) := by decide +kernel
theorem dX_told_2 : decode prog_1_method_6_code 2 = .ok (.getfield 38, 3) := by decide +kernel
theorem dX_told_5 : decode prog_1_method_6_code 5 = .ok (.invokestatic 49, 3) := by decide +kernel
theorem dX_told_8 : decode prog_1_method_6_code 8 = .ok (.iload_n 2, 1) := by decide +kernel
theorem dX_told_9 : decode prog_1_method_6_code 9 = .ok (.iconst 0, 1) := by decide +kernel
theorem dX_told_10 : decode prog_1_method_6_code 10 = .ok (.iconst 2, 1) := by decide +kernel
theorem dX_told_11 : decode prog_1_method_6_code 11 = .ok (.invokestatic 34, 3) := by decide +kernel
theorem dX_told_14 : decode prog_1_method_6_code 14 = .ok (.aload_n 0, 1) := by decide +kernel
theorem dX_told_15 : decode prog_1_method_6_code 15 = .ok (.getfield 11, 3) := by decide +kernel
theorem dX_told_18 : decode prog_1_method_6_code 18 = .ok (.iload_n 1, 1) := by decide +kernel
theorem dX_told_19 : decode prog_1_method_6_code 19 = .ok (.aaload, 1) := by decide +kernel
theorem dX_told_20 : decode prog_1_method_6_code 20 = .ok (.astore_n 3, 1) := by decide +kernel
theorem dX_told_21 : decode prog_1_method_6_code 21 = .ok (.iload_n 2, 1) := by decide +kernel
theorem dX_told_22 : decode prog_1_method_6_code 22 = .ok (.ifCond .ne 8, 3) := by decide +kernel
theorem dX_told_25 : decode prog_1_method_6_code 25 = .ok (.aload_n 3, 1) := by decide +kernel
theorem dX_told_26 : decode prog_1_method_6_code 26 = .ok (.getfield 46, 3) := by decide +kernel
theorem dX_told_29 : decode prog_1_method_6_code 29 = .ok (.ireturn, 1) := by decide +kernel
theorem dX_told_30 : decode prog_1_method_6_code 30 = .ok (.iload_n 2, 1) := by decide +kernel
theorem dX_told_31 : decode prog_1_method_6_code 31 = .ok (.iconst 1, 1) := by decide +kernel
theorem dX_told_32 : decode prog_1_method_6_code 32 = .ok (.if_icmp .ne 10, 3) := by decide +kernel
theorem dX_told_35 : decode prog_1_method_6_code 35 = .ok (.aload_n 3, 1) := by decide +kernel
theorem dX_told_36 : decode prog_1_method_6_code 36 = .ok (.invokevirtual 68, 3) := by decide +kernel
theorem dX_told_39 : decode prog_1_method_6_code 39 = .ok (.goto 7, 3) := by decide +kernel
theorem dX_told_42 : decode prog_1_method_6_code 42 = .ok (.aload_n 3, 1) := by decide +kernel
theorem dX_told_43 : decode prog_1_method_6_code 43 = .ok (.getfield 52, 3) := by decide +kernel
theorem dX_told_46 : decode prog_1_method_6_code 46 = .ok (.ireturn, 1) := by decide +kernel
theorem dX_pack_0 : decode prog_1_method_8_code 0 = .ok (.iload_n 1, 1) := by decide +kernel
theorem dX_pack_1 : decode prog_1_method_8_code 1 = .ok (.bipush 10, 2) := by decide +kernel
theorem dX_pack_3 : decode prog_1_method_8_code 3 = .ok (.invokestatic 49, 3) := by decide +kernel
theorem dX_pack_6 : decode prog_1_method_8_code 6 = .ok (.iload_n 2, 1) := by decide +kernel
theorem dX_pack_7 : decode prog_1_method_8_code 7 = .ok (.iconst 1, 1) := by decide +kernel
theorem dX_pack_8 : decode prog_1_method_8_code 8 = .ok (.ldc 76, 2) := by decide +kernel
theorem dX_pack_10 : decode prog_1_method_8_code 10 = .ok (.invokestatic 34, 3) := by decide +kernel
theorem dX_pack_13 : decode prog_1_method_8_code 13 = .ok (.iload_n 3, 1) := by decide +kernel
theorem dX_pack_14 : decode prog_1_method_8_code 14 = .ok (.iconst 1, 1) := by decide +kernel
theorem dX_pack_15 : decode prog_1_method_8_code 15 = .ok (.ldc 77, 2) := by decide +kernel
theorem dX_pack_17 : decode prog_1_method_8_code 17 = .ok (.invokestatic 34, 3) := by decide +kernel
theorem dX_pack_20 : decode prog_1_method_8_code 20 = .ok (.aload_n 0, 1) := by decide +kernel
theorem dX_pack_21 : decode prog_1_method_8_code 21 = .ok (.getfield 22, 3) := by decide +kernel
theorem dX_pack_24 : decode prog_1_method_8_code 24 = .ok (.iload_n 1, 1) := by decide +kernel
theorem dX_pack_25 : decode prog_1_method_8_code 25 = .ok (.aaload, 1) := by decide +kernel
theorem dX_pack_26 : decode prog_1_method_8_code 26 = .ok (.getfield 78, 3) := by decide +kernel
theorem dX_pack_29 : decode prog_1_method_8_code 29 = .ok (.iconst 4, 1) := by decide +kernel
theorem dX_pack_30 : decode prog_1_method_8_code 30 = .ok (.invokestatic 42, 3) := by decide +kernel
theorem dX_pack_33 : decode prog_1_method_8_code 33 = .ok (.aload_n 0, 1) := by decide +kernel
theorem dX_pack_34 : decode prog_1_method_8_code 34 = .ok (.getfield 22, 3) := by decide +kernel
theorem dX_pack_37 : decode prog_1_method_8_code 37 = .ok (.iload_n 1, 1) := by decide +kernel
theorem dX_pack_38 : decode prog_1_method_8_code 38 = .ok (.aaload, 1) := by decide +kernel
theorem dX_pack_39 : decode prog_1_method_8_code 39 = .ok (.iload_n 2, 1) := by decide +kernel
theorem dX_pack_40 : decode prog_1_method_8_code 40 = .ok (.iload_n 3, 1) := by decide +kernel
theorem dX_pack_41 : decode prog_1_method_8_code 41 = .ok (.invokevirtual 81, 3) := by decide +kernel
theorem dX_pack_44 : decode prog_1_method_8_code 44 = .ok (.ireturn, 1) := by decide +kernel
theorem dX_bought_0 : decode prog_1_method_9_code 0 = .ok (.iload_n 1, 1) := by decide +kernel
theorem dX_bought_1 : decode prog_1_method_9_code 1 = .ok (.bipush 10, 2) := by decide +kernel
theorem dX_bought_3 : decode prog_1_method_9_code 3 = .ok (.invokestatic 49, 3) := by decide +kernel
theorem dX_bought_6 : decode prog_1_method_9_code 6 = .ok (.iload_n 2, 1) := by decide +kernel
theorem dX_bought_7 : decode prog_1_method_9_code 7 = .ok (.aload_n 0, 1) := by decide +kernel
theorem dX_bought_8 : decode prog_1_method_9_code 8 = .ok (.getfield 22, 3) := by decide +kernel
theorem dX_bought_11 : decode prog_1_method_9_code 11 = .ok (.iload_n 1, 1) := by decide +kernel
theorem dX_bought_12 : decode prog_1_method_9_code 12 = .ok (.aaload, 1) := by decide +kernel
theorem dX_bought_13 : decode prog_1_method_9_code 13 = .ok (.getfield 78, 3) := by decide +kernel
theorem dX_bought_16 : decode prog_1_method_9_code 16 = .ok (.invokestatic 49, 3) := by decide +kernel
theorem dX_bought_19 : decode prog_1_method_9_code 19 = .ok (.aload_n 0, 1) := by decide +kernel
theorem dX_bought_20 : decode prog_1_method_9_code 20 = .ok (.getfield 22, 3) := by decide +kernel
theorem dX_bought_23 : decode prog_1_method_9_code 23 = .ok (.iload_n 1, 1) := by decide +kernel
theorem dX_bought_24 : decode prog_1_method_9_code 24 = .ok (.aaload, 1) := by decide +kernel
theorem dX_bought_25 : decode prog_1_method_9_code 25 = .ok (.aload_n 0, 1) := by decide +kernel
theorem dX_bought_26 : decode prog_1_method_9_code 26 = .ok (.iload_n 1, 1) := by decide +kernel
theorem dX_bought_27 : decode prog_1_method_9_code 27 = .ok (.invokevirtual 85, 3) := by decide +kernel
theorem dX_bought_30 : decode prog_1_method_9_code 30 = .ok (.iload_n 2, 1) := by decide +kernel
theorem dX_bought_31 : decode prog_1_method_9_code 31 = .ok (.invokevirtual 89, 3) := by decide +kernel
theorem dX_bought_34 : decode prog_1_method_9_code 34 = .ok (.ireturn, 1) := by decide +kernel
theorem dX_bars_0 : decode prog_1_method_12_code 0 = .ok (.iload_n 1, 1) := by decide +kernel
theorem dX_bars_1 : decode prog_1_method_12_code 1 = .ok (.iconst 1, 1) := by decide +kernel
theorem dX_bars_2 : decode prog_1_method_12_code 2 = .ok (.sipush 10000, 3) := by decide +kernel
theorem dX_bars_5 : decode prog_1_method_12_code 5 = .ok (.invokestatic 34, 3) := by decide +kernel
theorem dX_bars_8 : decode prog_1_method_12_code 8 = .ok (.iload_n 2, 1) := by decide +kernel
theorem dX_bars_9 : decode prog_1_method_12_code 9 = .ok (.iconst 0, 1) := by decide +kernel
theorem dX_bars_10 : decode prog_1_method_12_code 10 = .ok (.bipush 100, 2) := by decide +kernel
theorem dX_bars_12 : decode prog_1_method_12_code 12 = .ok (.invokestatic 34, 3) := by decide +kernel
theorem dX_bars_15 : decode prog_1_method_12_code 15 = .ok (.aload_n 0, 1) := by decide +kernel
theorem dX_bars_16 : decode prog_1_method_12_code 16 = .ok (.getfield 30, 3) := by decide +kernel
theorem dX_bars_19 : decode prog_1_method_12_code 19 = .ok (.invokevirtual 102, 3) := by decide +kernel
theorem dX_bars_22 : decode prog_1_method_12_code 22 = .ok (.iload_n 1, 1) := by decide +kernel
theorem dX_bars_23 : decode prog_1_method_12_code 23 = .ok (.if_icmp .le 13, 3) := by decide +kernel
theorem dX_bars_26 : decode prog_1_method_12_code 26 = .ok (.new 55, 3) := by decide +kernel
theorem dX_bars_29 : decode prog_1_method_12_code 29 = .ok (.dup, 1) := by decide +kernel
theorem dX_bars_30 : decode prog_1_method_12_code 30 = .ok (.ldc 105, 2) := by decide +kernel
theorem dX_bars_32 : decode prog_1_method_12_code 32 = .ok (.invokespecial 59, 3) := by decide +kernel
theorem dX_bars_35 : decode prog_1_method_12_code 35 = .ok (.athrow, 1) := by decide +kernel
theorem dX_bars_36 : decode prog_1_method_12_code 36 = .ok (.aload_n 0, 1) := by decide +kernel
theorem dX_bars_37 : decode prog_1_method_12_code 37 = .ok (.getfield 30, 3) := by decide +kernel
theorem dX_bars_40 : decode prog_1_method_12_code 40 = .ok (.iload_n 1, 1) := by decide +kernel
theorem dX_bars_41 : decode prog_1_method_12_code 41 = .ok (.iload_n 2, 1) := by decide +kernel
theorem dX_bars_42 : decode prog_1_method_12_code 42 = .ok (.invokevirtual 107, 3) := by decide +kernel
theorem dX_bars_45 : decode prog_1_method_12_code 45 = .ok (.return_, 1) := by decide +kernel
theorem dX_piece_0 : decode prog_1_method_13_code 0 = .ok (.iload_n 1, 1) := by decide +kernel
theorem dX_piece_1 : decode prog_1_method_13_code 1 = .ok (.iconst 1, 1) := by decide +kernel
theorem dX_piece_2 : decode prog_1_method_13_code 2 = .ok (.aload_n 0, 1) := by decide +kernel
theorem dX_piece_3 : decode prog_1_method_13_code 3 = .ok (.getfield 30, 3) := by decide +kernel
theorem dX_piece_6 : decode prog_1_method_13_code 6 = .ok (.getfield 110, 3) := by decide +kernel
theorem dX_piece_9 : decode prog_1_method_13_code 9 = .ok (.invokestatic 34, 3) := by decide +kernel
theorem dX_piece_12 : decode prog_1_method_13_code 12 = .ok (.aload_n 0, 1) := by decide +kernel
theorem dX_piece_13 : decode prog_1_method_13_code 13 = .ok (.getfield 30, 3) := by decide +kernel
theorem dX_piece_16 : decode prog_1_method_13_code 16 = .ok (.getfield 113, 3) := by decide +kernel
theorem dX_piece_19 : decode prog_1_method_13_code 19 = .ok (.bipush 10, 2) := by decide +kernel
theorem dX_piece_21 : decode prog_1_method_13_code 21 = .ok (.invokestatic 42, 3) := by decide +kernel
theorem dX_piece_24 : decode prog_1_method_13_code 24 = .ok (.aload_n 0, 1) := by decide +kernel
theorem dX_piece_25 : decode prog_1_method_13_code 25 = .ok (.getfield 30, 3) := by decide +kernel
theorem dX_piece_28 : decode prog_1_method_13_code 28 = .ok (.iload_n 1, 1) := by decide +kernel
theorem dX_piece_29 : decode prog_1_method_13_code 29 = .ok (.invokevirtual 116, 3) := by decide +kernel
theorem dX_piece_32 : decode prog_1_method_13_code 32 = .ok (.ireturn, 1) := by decide +kernel
theorem dX_change_0 : decode prog_1_method_14_code 0 = .ok (.iload_n 1, 1) := by decide +kernel
theorem dX_change_1 : decode prog_1_method_14_code 1 = .ok (.aload_n 0, 1) := by decide +kernel
theorem dX_change_2 : decode prog_1_method_14_code 2 = .ok (.getfield 30, 3) := by decide +kernel
theorem dX_change_5 : decode prog_1_method_14_code 5 = .ok (.getfield 113, 3) := by decide +kernel
theorem dX_change_8 : decode prog_1_method_14_code 8 = .ok (.invokestatic 49, 3) := by decide +kernel
theorem dX_change_11 : decode prog_1_method_14_code 11 = .ok (.iload_n 2, 1) := by decide +kernel
theorem dX_change_12 : decode prog_1_method_14_code 12 = .ok (.iconst 1, 1) := by decide +kernel
theorem dX_change_13 : decode prog_1_method_14_code 13 = .ok (.aload_n 0, 1) := by decide +kernel
theorem dX_change_14 : decode prog_1_method_14_code 14 = .ok (.getfield 30, 3) := by decide +kernel
theorem dX_change_17 : decode prog_1_method_14_code 17 = .ok (.getfield 110, 3) := by decide +kernel
theorem dX_change_20 : decode prog_1_method_14_code 20 = .ok (.invokestatic 34, 3) := by decide +kernel
theorem dX_change_23 : decode prog_1_method_14_code 23 = .ok (.aload_n 0, 1) := by decide +kernel
theorem dX_change_24 : decode prog_1_method_14_code 24 = .ok (.getfield 30, 3) := by decide +kernel
theorem dX_change_27 : decode prog_1_method_14_code 27 = .ok (.iload_n 1, 1) := by decide +kernel
