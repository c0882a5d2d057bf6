-- DECODE ROWS
theorem dL_wall_0 : decode method_3_code 0 = .ok (.aload_n 3, 1) := by decide +kernel
theorem dL_wall_1 : decode method_3_code 1 = .ok (.iconst 0, 1) := by decide +kernel
theorem dL_wall_2 : decode method_3_code 2 = .ok (.aload_n 0, 1) := by decide +kernel
theorem dL_wall_3 : decode method_3_code 3 = .ok (.iload_n 1, 1) := by decide +kernel
theorem dL_wall_4 : decode method_3_code 4 = .ok (.iload_n 2, 1) := by decide +kernel
theorem dL_wall_5 : decode method_3_code 5 = .ok (.invokevirtual 7, 3) := by decide +kernel
theorem dL_wall_8 : decode method_3_code 8 = .ok (.i2l, 1) := by decide +kernel
theorem dL_wall_9 : decode method_3_code 9 = .ok (.lastore, 1) := by decide +kernel
theorem dL_wall_10 : decode method_3_code 10 = .ok (.goto 11, 3) := by decide +kernel
theorem dL_wall_13 : decode method_3_code 13 = .ok (.astore 4, 2) := by decide +kernel
theorem dL_wall_15 : decode method_3_code 15 = .ok (.iconst 1, 1) := by decide +kernel
theorem dL_wall_16 : decode method_3_code 16 = .ok (.ireturn, 1) := by decide +kernel
theorem dL_wall_17 : decode method_3_code 17 = .ok (.astore 4, 2) := by decide +kernel
theorem dL_wall_19 : decode method_3_code 19 = .ok (.iconst 2, 1) := by decide +kernel
theorem dL_wall_20 : decode method_3_code 20 = .ok (.ireturn, 1) := by decide +kernel
theorem dL_wall_21 : decode method_3_code 21 = .ok (.iconst 0, 1) := by decide +kernel
theorem dL_wall_22 : decode method_3_code 22 = .ok (.ireturn, 1) := by decide +kernel
theorem dL_opening_0 : decode method_4_code 0 = .ok (.aload 4, 2) := by decide +kernel
theorem dL_opening_2 : decode method_4_code 2 = .ok (.iconst 0, 1) := by decide +kernel
theorem dL_opening_3 : decode method_4_code 3 = .ok (.aload_n 0, 1) := by decide +kernel
theorem dL_opening_4 : decode method_4_code 4 = .ok (.iload_n 1, 1) := by decide +kernel
theorem dL_opening_5 : decode method_4_code 5 = .ok (.iload_n 2, 1) := by decide +kernel
theorem dL_opening_6 : decode method_4_code 6 = .ok (.iload_n 3, 1) := by decide +kernel
theorem dL_opening_7 : decode method_4_code 7 = .ok (.invokevirtual 17, 3) := by decide +kernel
theorem dL_opening_10 : decode method_4_code 10 = .ok (.i2l, 1) := by decide +kernel
theorem dL_opening_11 : decode method_4_code 11 = .ok (.lastore, 1) := by decide +kernel
theorem dL_opening_12 : decode method_4_code 12 = .ok (.goto 11, 3) := by decide +kernel
theorem dL_opening_15 : decode method_4_code 15 = .ok (.astore 5, 2) := by decide +kernel
theorem dL_opening_17 : decode method_4_code 17 = .ok (.iconst 1, 1) := by decide +kernel
theorem dL_opening_18 : decode method_4_code 18 = .ok (.ireturn, 1) := by decide +kernel
theorem dL_opening_19 : decode method_4_code 19 = .ok (.astore 5, 2) := by decide +kernel
theorem dL_opening_21 : decode method_4_code 21 = .ok (.iconst 2, 1) := by decide +kernel
theorem dL_opening_22 : decode method_4_code 22 = .ok (.ireturn, 1) := by decide +kernel
theorem dL_opening_23 : decode method_4_code 23 = .ok (.iconst 0, 1) := by decide +kernel
theorem dL_opening_24 : decode method_4_code 24 = .ok (.ireturn, 1) := by decide +kernel
theorem dL_layer_0 : decode method_5_code 0 = .ok (.aload 4, 2) := by decide +kernel
theorem dL_layer_2 : decode method_5_code 2 = .ok (.iconst 0, 1) := by decide +kernel
theorem dL_layer_3 : decode method_5_code 3 = .ok (.aload_n 0, 1) := by decide +kernel
theorem dL_layer_4 : decode method_5_code 4 = .ok (.iload_n 1, 1) := by decide +kernel
theorem dL_layer_5 : decode method_5_code 5 = .ok (.iload_n 2, 1) := by decide +kernel
theorem dL_layer_6 : decode method_5_code 6 = .ok (.iload_n 3, 1) := by decide +kernel
theorem dL_layer_7 : decode method_5_code 7 = .ok (.invokevirtual 21, 3) := by decide +kernel
theorem dL_layer_10 : decode method_5_code 10 = .ok (.i2l, 1) := by decide +kernel
theorem dL_layer_11 : decode method_5_code 11 = .ok (.lastore, 1) := by decide +kernel
theorem dL_layer_12 : decode method_5_code 12 = .ok (.goto 11, 3) := by decide +kernel
theorem dL_layer_15 : decode method_5_code 15 = .ok (.astore 5, 2) := by decide +kernel
theorem dL_layer_17 : decode method_5_code 17 = .ok (.iconst 1, 1) := by decide +kernel
theorem dL_layer_18 : decode method_5_code 18 = .ok (.ireturn, 1) := by decide +kernel
theorem dL_layer_19 : decode method_5_code 19 = .ok (.astore 5, 2) := by decide +kernel
theorem dL_layer_21 : decode method_5_code 21 = .ok (.iconst 2, 1) := by decide +kernel
theorem dL_layer_22 : decode method_5_code 22 = .ok (.ireturn, 1) := by decide +kernel
theorem dL_layer_23 : decode method_5_code 23 = .ok (.iconst 0, 1) := by decide +kernel
theorem dL_layer_24 : decode method_5_code 24 = .ok (.ireturn, 1) := by decide +kernel
theorem dL_waste_0 : decode method_6_code 0 = .ok (.aload_n 3, 1) := by decide +kernel
theorem dL_waste_1 : decode method_6_code 1 = .ok (.iconst 0, 1) := by decide +kernel
theorem dL_waste_2 : decode method_6_code 2 = .ok (.aload_n 0, 1) := by decide +kernel
theorem dL_waste_3 : decode method_6_code 3 = .ok (.iload_n 1, 1) := by decide +kernel
theorem dL_waste_4 : decode method_6_code 4 = .ok (.iload_n 2, 1) := by decide +kernel
theorem dL_waste_5 : decode method_6_code 5 = .ok (.invokevirtual 24, 3) := by decide +kernel
theorem dL_waste_8 : decode method_6_code 8 = .ok (.i2l, 1) := by decide +kernel
theorem dL_waste_9 : decode method_6_code 9 = .ok (.lastore, 1) := by decide +kernel
theorem dL_waste_10 : decode method_6_code 10 = .ok (.goto 7, 3) := by decide +kernel
theorem dL_waste_13 : decode method_6_code 13 = .ok (.astore 4, 2) := by decide +kernel
theorem dL_waste_15 : decode method_6_code 15 = .ok (.iconst 1, 1) := by decide +kernel
theorem dL_waste_16 : decode method_6_code 16 = .ok (.ireturn, 1) := by decide +kernel
theorem dL_waste_17 : decode method_6_code 17 = .ok (.iconst 0, 1) := by decide +kernel
theorem dL_waste_18 : decode method_6_code 18 = .ok (.ireturn, 1) := by decide +kernel
theorem dL_told_0 : decode method_7_code 0 = .ok (.aload_n 3, 1) := by decide +kernel
theorem dL_told_1 : decode method_7_code 1 = .ok (.iconst 0, 1) := by decide +kernel
theorem dL_told_2 : decode method_7_code 2 = .ok (.aload_n 0, 1) := by decide +kernel
theorem dL_told_3 : decode method_7_code 3 = .ok (.iload_n 1, 1) := by decide +kernel
theorem dL_told_4 : decode method_7_code 4 = .ok (.iload_n 2, 1) := by decide +kernel
theorem dL_told_5 : decode method_7_code 5 = .ok (.invokevirtual 27, 3) := by decide +kernel
theorem dL_told_8 : decode method_7_code 8 = .ok (.i2l, 1) := by decide +kernel
theorem dL_told_9 : decode method_7_code 9 = .ok (.lastore, 1) := by decide +kernel
theorem dL_told_10 : decode method_7_code 10 = .ok (.goto 7, 3) := by decide +kernel
theorem dL_told_13 : decode method_7_code 13 = .ok (.astore 4, 2) := by decide +kernel
theorem dL_told_15 : decode method_7_code 15 = .ok (.iconst 1, 1) := by decide +kernel
theorem dL_told_16 : decode method_7_code 16 = .ok (.ireturn, 1) := by decide +kernel
theorem dL_told_17 : decode method_7_code 17 = .ok (.iconst 0, 1) := by decide +kernel
theorem dL_told_18 : decode method_7_code 18 = .ok (.ireturn, 1) := by decide +kernel
theorem dL_need_0 : decode method_8_code 0 = .ok (.aload_n 2, 1) := by decide +kernel
theorem dL_need_1 : decode method_8_code 1 = .ok (.iconst 0, 1) := by decide +kernel
theorem dL_need_2 : decode method_8_code 2 = .ok (.aload_n 0, 1) := by decide +kernel
theorem dL_need_3 : decode method_8_code 3 = .ok (.iload_n 1, 1) := by decide +kernel
theorem dL_need_4 : decode method_8_code 4 = .ok (.invokevirtual 30, 3) := by decide +kernel
theorem dL_need_7 : decode method_8_code 7 = .ok (.lastore, 1) := by decide +kernel
theorem dL_need_8 : decode method_8_code 8 = .ok (.goto 6, 3) := by decide +kernel
theorem dL_need_11 : decode method_8_code 11 = .ok (.astore_n 3, 1) := by decide +kernel
theorem dL_need_12 : decode method_8_code 12 = .ok (.iconst 1, 1) := by decide +kernel
theorem dL_need_13 : decode method_8_code 13 = .ok (.ireturn, 1) := by decide +kernel
theorem dL_need_14 : decode method_8_code 14 = .ok (.iconst 0, 1) := by decide +kernel
theorem dL_need_15 : decode method_8_code 15 = .ok (.ireturn, 1) := by decide +kernel
theorem dL_pack_0 : decode method_9_code 0 = .ok (.aload 4, 2) := by decide +kernel
theorem dL_pack_2 : decode method_9_code 2 = .ok (.iconst 0, 1) := by decide +kernel
theorem dL_pack_3 : decode method_9_code 3 = .ok (.aload_n 0, 1) := by decide +kernel
theorem dL_pack_4 : decode method_9_code 4 = .ok (.iload_n 1, 1) := by decide +kernel
theorem dL_pack_5 : decode method_9_code 5 = .ok (.iload_n 2, 1) := by decide +kernel
theorem dL_pack_6 : decode method_9_code 6 = .ok (.iload_n 3, 1) := by decide +kernel
theorem dL_pack_7 : decode method_9_code 7 = .ok (.invokevirtual 34, 3) := by decide +kernel
theorem dL_pack_10 : decode method_9_code 10 = .ok (.i2l, 1) := by decide +kernel
theorem dL_pack_11 : decode method_9_code 11 = .ok (.lastore, 1) := by decide +kernel
theorem dL_pack_12 : decode method_9_code 12 = .ok (.goto 11, 3) := by decide +kernel
theorem dL_pack_15 : decode method_9_code 15 = .ok (.astore 5, 2) := by decide +kernel
theorem dL_pack_17 : decode method_9_code 17 = .ok (.iconst 1, 1) := by decide +kernel
theorem dL_pack_18 : decode method_9_code 18 = .ok (.ireturn, 1) := by decide +kernel
theorem dL_pack_19 : decode method_9_code 19 = .ok (.astore 5, 2) := by decide +kernel
theorem dL_pack_21 : decode method_9_code 21 = .ok (.iconst 2, 1) := by decide +kernel
theorem dL_pack_22 : decode method_9_code 22 = .ok (.ireturn, 1) := by decide +kernel
theorem dL_pack_23 : decode method_9_code 23 = .ok (.iconst 0, 1) := by decide +kernel
theorem dL_pack_24 : decode method_9_code 24 = .ok (.ireturn, 1) := by decide +kernel
theorem dL_bought_0 : decode method_10_code 0 = .ok (.aload_n 3, 1) := by decide +kernel
theorem dL_bought_1 : decode method_10_code 1 = .ok (.iconst 0, 1) := by decide +kernel
theorem dL_bought_2 : decode method_10_code 2 = .ok (.aload_n 0, 1) := by decide +kernel
theorem dL_bought_3 : decode method_10_code 3 = .ok (.iload_n 1, 1) := by decide +kernel
theorem dL_bought_4 : decode method_10_code 4 = .ok (.iload_n 2, 1) := by decide +kernel
theorem dL_bought_5 : decode method_10_code 5 = .ok (.invokevirtual 37, 3) := by decide +kernel
theorem dL_bought_8 : decode method_10_code 8 = .ok (.i2l, 1) := by decide +kernel
theorem dL_bought_9 : decode method_10_code 9 = .ok (.lastore, 1) := by decide +kernel
theorem dL_bought_10 : decode method_10_code 10 = .ok (.goto 7, 3) := by decide +kernel
theorem dL_bought_13 : decode method_10_code 13 = .ok (.astore 4, 2) := by decide +kernel
theorem dL_bought_15 : decode method_10_code 15 = .ok (.iconst 1, 1) := by decide +kernel
theorem dL_bought_16 : decode method_10_code 16 = .ok (.ireturn, 1) := by decide +kernel
theorem dL_bought_17 : decode method_10_code 17 = .ok (.iconst 0, 1) := by decide +kernel
theorem dL_bought_18 : decode method_10_code 18 = .ok (.ireturn, 1) := by decide +kernel
theorem dL_cents_0 : decode method_11_code 0 = .ok (.aload_n 2, 1) := by decide +kernel
theorem dL_cents_1 : decode method_11_code 1 = .ok (.iconst 0, 1) := by decide +kernel
theorem dL_cents_2 : decode method_11_code 2 = .ok (.aload_n 0, 1) := by decide +kernel
theorem dL_cents_3 : decode method_11_code 3 = .ok (.iload_n 1, 1) := by decide +kernel
theorem dL_cents_4 : decode method_11_code 4 = .ok (.invokevirtual 40, 3) := by decide +kernel
theorem dL_cents_7 : decode method_11_code 7 = .ok (.lastore, 1) := by decide +kernel
theorem dL_cents_8 : decode method_11_code 8 = .ok (.goto 6, 3) := by decide +kernel
theorem dL_cents_11 : decode method_11_code 11 = .ok (.astore_n 3, 1) := by decide +kernel
theorem dL_cents_12 : decode method_11_code 12 = .ok (.iconst 1, 1) := by decide +kernel
theorem dL_cents_13 : decode method_11_code 13 = .ok (.ireturn, 1) := by decide +kernel
theorem dL_cents_14 : decode method_11_code 14 = .ok (.iconst 0, 1) := by decide +kernel
theorem dL_cents_15 : decode method_11_code 15 = .ok (.ireturn, 1) := by decide +kernel
theorem dL_bars_0 : decode method_12_code 0 = .ok (.aload_n 0, 1) := by decide +kernel
theorem dL_bars_1 : decode method_12_code 1 = .ok (.iload_n 1, 1) := by decide +kernel
theorem dL_bars_2 : decode method_12_code 2 = .ok (.iload_n 2, 1) := by decide +kernel
theorem dL_bars_3 : decode method_12_code 3 = .ok (.invokevirtual 43, 3) := by decide +kernel
theorem dL_bars_6 : decode method_12_code 6 = .ok (.goto 9, 3) := by decide +kernel
theorem dL_bars_9 : decode method_12_code 9 = .ok (.astore_n 3, 1) := by decide +kernel
theorem dL_bars_10 : decode method_12_code 10 = .ok (.iconst 1, 1) := by decide +kernel
theorem dL_bars_11 : decode method_12_code 11 = .ok (.ireturn, 1) := by decide +kernel
theorem dL_bars_12 : decode method_12_code 12 = .ok (.astore_n 3, 1) := by decide +kernel
theorem dL_bars_13 : decode method_12_code 13 = .ok (.iconst 2, 1) := by decide +kernel
theorem dL_bars_14 : decode method_12_code 14 = .ok (.ireturn, 1) := by decide +kernel
theorem dL_bars_15 : decode method_12_code 15 = .ok (.iconst 0, 1) := by decide +kernel
theorem dL_bars_16 : decode method_12_code 16 = .ok (.ireturn, 1) := by decide +kernel
theorem dL_piece_0 : decode method_13_code 0 = .ok (.aload_n 2, 1) := by decide +kernel
theorem dL_piece_1 : decode method_13_code 1 = .ok (.iconst 0, 1) := by decide +kernel
theorem dL_piece_2 : decode method_13_code 2 = .ok (.aload_n 0, 1) := by decide +kernel
theorem dL_piece_3 : decode method_13_code 3 = .ok (.iload_n 1, 1) := by decide +kernel
theorem dL_piece_4 : decode method_13_code 4 = .ok (.invokevirtual 47, 3) := by decide +kernel
theorem dL_piece_7 : decode method_13_code 7 = .ok (.i2l, 1) := by decide +kernel
theorem dL_piece_8 : decode method_13_code 8 = .ok (.lastore, 1) := by decide +kernel
theorem dL_piece_9 : decode method_13_code 9 = .ok (.goto 9, 3) := by decide +kernel
theorem dL_piece_12 : decode method_13_code 12 = .ok (.astore_n 3, 1) := by decide +kernel
theorem dL_piece_13 : decode method_13_code 13 = .ok (.iconst 1, 1) := by decide +kernel
theorem dL_piece_14 : decode method_13_code 14 = .ok (.ireturn, 1) := by decide +kernel
theorem dL_piece_15 : decode method_13_code 15 = .ok (.astore_n 3, 1) := by decide +kernel
theorem dL_piece_16 : decode method_13_code 16 = .ok (.iconst 2, 1) := by decide +kernel
theorem dL_piece_17 : decode method_13_code 17 = .ok (.ireturn, 1) := by decide +kernel
theorem dL_piece_18 : decode method_13_code 18 = .ok (.iconst 0, 1) := by decide +kernel
theorem dL_piece_19 : decode method_13_code 19 = .ok (.ireturn, 1) := by decide +kernel
theorem dL_change_0 : decode method_14_code 0 = .ok (.aload_n 3, 1) := by decide +kernel
theorem dL_change_1 : decode method_14_code 1 = .ok (.iconst 0, 1) := by decide +kernel
theorem dL_change_2 : decode method_14_code 2 = .ok (.aload_n 0, 1) := by decide +kernel
theorem dL_change_3 : decode method_14_code 3 = .ok (.iload_n 1, 1) := by decide +kernel
theorem dL_change_4 : decode method_14_code 4 = .ok (.iload_n 2, 1) := by decide +kernel
theorem dL_change_5 : decode method_14_code 5 = .ok (.invokevirtual 51, 3) := by decide +kernel
theorem dL_change_8 : decode method_14_code 8 = .ok (.i2l, 1) := by decide +kernel
theorem dL_change_9 : decode method_14_code 9 = .ok (.lastore, 1) := by decide +kernel
theorem dL_change_10 : decode method_14_code 10 = .ok (.goto 7, 3) := by decide +kernel
theorem dL_change_13 : decode method_14_code 13 = .ok (.astore 4, 2) := by decide +kernel
theorem dL_change_15 : decode method_14_code 15 = .ok (.iconst 1, 1) := by decide +kernel
theorem dL_change_16 : decode method_14_code 16 = .ok (.ireturn, 1) := by decide +kernel
theorem dL_change_17 : decode method_14_code 17 = .ok (.iconst 0, 1) := by decide +kernel
theorem dL_change_18 : decode method_14_code 18 = .ok (.ireturn, 1) := by decide +kernel
theorem dL_bar_0 : decode method_15_code 0 = .ok (.aload_n 2, 1) := by decide +kernel
theorem dL_bar_1 : decode method_15_code 1 = .ok (.iconst 0, 1) := by decide +kernel
theorem dL_bar_2 : decode method_15_code 2 = .ok (.aload_n 0, 1) := by decide +kernel
theorem dL_bar_3 : decode method_15_code 3 = .ok (.iload_n 1, 1) := by decide +kernel
theorem dL_bar_4 : decode method_15_code 4 = .ok (.invokevirtual 54, 3) := by decide +kernel
theorem dL_bar_7 : decode method_15_code 7 = .ok (.i2l, 1) := by decide +kernel
theorem dL_bar_8 : decode method_15_code 8 = .ok (.lastore, 1) := by decide +kernel
theorem dL_bar_9 : decode method_15_code 9 = .ok (.goto 6, 3) := by decide +kernel
theorem dL_bar_12 : decode method_15_code 12 = .ok (.astore_n 3, 1) := by decide +kernel
theorem dL_bar_13 : decode method_15_code 13 = .ok (.iconst 1, 1) := by decide +kernel
theorem dL_bar_14 : decode method_15_code 14 = .ok (.ireturn, 1) := by decide +kernel
theorem dL_bar_15 : decode method_15_code 15 = .ok (.iconst 0, 1) := by decide +kernel
theorem dL_bar_16 : decode method_15_code 16 = .ok (.ireturn, 1) := by decide +kernel
theorem dL_rest_0 : decode method_16_code 0 = .ok (.aload_n 2, 1) := by decide +kernel
theorem dL_rest_1 : decode method_16_code 1 = .ok (.iconst 0, 1) := by decide +kernel
theorem dL_rest_2 : decode method_16_code 2 = .ok (.aload_n 0, 1) := by decide +kernel
theorem dL_rest_3 : decode method_16_code 3 = .ok (.iload_n 1, 1) := by decide +kernel
theorem dL_rest_4 : decode method_16_code 4 = .ok (.invokevirtual 57, 3) := by decide +kernel
theorem dL_rest_7 : decode method_16_code 7 = .ok (.i2l, 1) := by decide +kernel
theorem dL_rest_8 : decode method_16_code 8 = .ok (.lastore, 1) := by decide +kernel
theorem dL_rest_9 : decode method_16_code 9 = .ok (.goto 6, 3) := by decide +kernel
theorem dL_rest_12 : decode method_16_code 12 = .ok (.astore_n 3, 1) := by decide +kernel
theorem dL_rest_13 : decode method_16_code 13 = .ok (.iconst 1, 1) := by decide +kernel
theorem dL_rest_14 : decode method_16_code 14 = .ok (.ireturn, 1) := by decide +kernel
theorem dL_rest_15 : decode method_16_code 15 = .ok (.iconst 0, 1) := by decide +kernel
theorem dL_rest_16 : decode method_16_code 16 = .ok (.ireturn, 1) := by decide +kernel
theorem dL_law_0 : decode code 0 = .ok (.new 8, 3) := by decide +kernel
theorem dL_law_3 : decode code 3 = .ok (.dup, 1) := by decide +kernel
theorem dL_law_4 : decode code 4 = .ok (.invokespecial 60, 3) := by decide +kernel
theorem dL_law_7 : decode code 7 = .ok (.astore_n 1, 1) := by decide +kernel
theorem dL_law_8 : decode code 8 = .ok (.new 61, 3) := by decide +kernel
theorem dL_law_11 : decode code 11 = .ok (.dup, 1) := by decide +kernel
theorem dL_law_12 : decode code 12 = .ok (.invokespecial 63, 3) := by decide +kernel
theorem dL_law_15 : decode code 15 = .ok (.astore_n 2, 1) := by decide +kernel
theorem dL_law_16 : decode code 16 = .ok (.iconst 1, 1) := by decide +kernel
theorem dL_law_17 : decode code 17 = .ok (.newarray .long, 2) := by decide +kernel
theorem dL_law_19 : decode code 19 = .ok (.astore_n 3, 1) := by decide +kernel
theorem dL_law_20 : decode code 20 = .ok (.iconst 0, 1) := by decide +kernel
theorem dL_law_21 : decode code 21 = .ok (.istore 4, 2) := by decide +kernel
theorem dL_law_23 : decode code 23 = .ok (.iload 4, 2) := by decide +kernel
theorem dL_law_25 : decode code 25 = .ok (.aload_n 0, 1) := by decide +kernel
theorem dL_law_26 : decode code 26 = .ok (.arraylength, 1) := by decide +kernel
theorem dL_law_27 : decode code 27 = .ok (.iconst 4, 1) := by decide +kernel
theorem dL_law_28 : decode code 28 = .ok (.isub, 1) := by decide +kernel
theorem dL_law_29 : decode code 29 = .ok (.if_icmp .gt 1026, 3) := by decide +kernel
theorem dL_law_32 : decode code 32 = .ok (.aload_n 0, 1) := by decide +kernel
theorem dL_law_33 : decode code 33 = .ok (.iload 4, 2) := by decide +kernel
theorem dL_law_35 : decode code 35 = .ok (.iaload, 1) := by decide +kernel
theorem dL_law_36 : decode code 36 = .ok (.bipush 15, 2) := by decide +kernel
theorem dL_law_38 : decode code 38 = .ok (.iand, 1) := by decide +kernel
theorem dL_law_39 : decode code 39 = .ok (.tableswitch 1010 0 15 #[77, 145, 225, 305, 373, 441, 496, 576, 644, 699, 713, 761, 817, 885, 898, 954], 77) := by decide +kernel
theorem dL_law_116 : decode code 116 = .ok (.aload_n 1, 1) := by decide +kernel
theorem dL_law_117 : decode code 117 = .ok (.aload_n 0, 1) := by decide +kernel
theorem dL_law_118 : decode code 118 = .ok (.iload 4, 2) := by decide +kernel
theorem dL_law_120 : decode code 120 = .ok (.iconst 1, 1) := by decide +kernel
theorem dL_law_121 : decode code 121 = .ok (.iadd, 1) := by decide +kernel
theorem dL_law_122 : decode code 122 = .ok (.iaload, 1) := by decide +kernel
theorem dL_law_123 : decode code 123 = .ok (.aload_n 0, 1) := by decide +kernel
theorem dL_law_124 : decode code 124 = .ok (.iload 4, 2) := by decide +kernel
theorem dL_law_126 : decode code 126 = .ok (.iconst 2, 1) := by decide +kernel
theorem dL_law_127 : decode code 127 = .ok (.iadd, 1) := by decide +kernel
theorem dL_law_128 : decode code 128 = .ok (.iaload, 1) := by decide +kernel
theorem dL_law_129 : decode code 129 = .ok (.aload_n 3, 1) := by decide +kernel
theorem dL_law_130 : decode code 130 = .ok (.invokestatic 64, 3) := by decide +kernel
theorem dL_law_133 : decode code 133 = .ok (.istore 5, 2) := by decide +kernel
theorem dL_law_135 : decode code 135 = .ok (.aload_n 2, 1) := by decide +kernel
theorem dL_law_136 : decode code 136 = .ok (.aload_n 0, 1) := by decide +kernel
theorem dL_law_137 : decode code 137 = .ok (.iload 4, 2) := by decide +kernel
theorem dL_law_139 : decode code 139 = .ok (.iconst 1, 1) := by decide +kernel
theorem dL_law_140 : decode code 140 = .ok (.iadd, 1) := by decide +kernel
theorem dL_law_141 : decode code 141 = .ok (.iaload, 1) := by decide +kernel
theorem dL_law_142 : decode code 142 = .ok (.aload_n 0, 1) := by decide +kernel
theorem dL_law_143 : decode code 143 = .ok (.iload 4, 2) := by decide +kernel
theorem dL_law_145 : decode code 145 = .ok (.iconst 2, 1) := by decide +kernel
theorem dL_law_146 : decode code 146 = .ok (.iadd, 1) := by decide +kernel
theorem dL_law_147 : decode code 147 = .ok (.iaload, 1) := by decide +kernel
theorem dL_law_148 : decode code 148 = .ok (.invokevirtual 69, 3) := by decide +kernel
theorem dL_law_151 : decode code 151 = .ok (.istore 6, 2) := by decide +kernel
theorem dL_law_153 : decode code 153 = .ok (.aload_n 2, 1) := by decide +kernel
theorem dL_law_154 : decode code 154 = .ok (.invokevirtual 70, 3) := by decide +kernel
theorem dL_law_157 : decode code 157 = .ok (.iload 5, 2) := by decide +kernel
theorem dL_law_159 : decode code 159 = .ok (.if_icmp .eq 5, 3) := by decide +kernel
theorem dL_law_162 : decode code 162 = .ok (.iconst 0, 1) := by decide +kernel
theorem dL_law_163 : decode code 163 = .ok (.ireturn, 1) := by decide +kernel
theorem dL_law_164 : decode code 164 = .ok (.iload 5, 2) := by decide +kernel
theorem dL_law_166 : decode code 166 = .ok (.ifCond .ne 15, 3) := by decide +kernel
theorem dL_law_169 : decode code 169 = .ok (.aload_n 3, 1) := by decide +kernel
theorem dL_law_170 : decode code 170 = .ok (.iconst 0, 1) := by decide +kernel
theorem dL_law_171 : decode code 171 = .ok (.laload, 1) := by decide +kernel
theorem dL_law_172 : decode code 172 = .ok (.iload 6, 2) := by decide +kernel
theorem dL_law_174 : decode code 174 = .ok (.i2l, 1) := by decide +kernel
theorem dL_law_175 : decode code 175 = .ok (.lcmp, 1) := by decide +kernel
theorem dL_law_176 : decode code 176 = .ok (.ifCond .eq 5, 3) := by decide +kernel
theorem dL_law_179 : decode code 179 = .ok (.iconst 0, 1) := by decide +kernel
theorem dL_law_180 : decode code 180 = .ok (.ireturn, 1) := by decide +kernel
theorem dL_law_181 : decode code 181 = .ok (.goto 868, 3) := by decide +kernel
theorem dL_law_184 : decode code 184 = .ok (.aload_n 1, 1) := by decide +kernel
theorem dL_law_185 : decode code 185 = .ok (.aload_n 0, 1) := by decide +kernel
theorem dL_law_186 : decode code 186 = .ok (.iload 4, 2) := by decide +kernel
theorem dL_law_188 : decode code 188 = .ok (.iconst 1, 1) := by decide +kernel
theorem dL_law_189 : decode code 189 = .ok (.iadd, 1) := by decide +kernel
theorem dL_law_190 : decode code 190 = .ok (.iaload, 1) := by decide +kernel
theorem dL_law_191 : decode code 191 = .ok (.aload_n 0, 1) := by decide +kernel
theorem dL_law_192 : decode code 192 = .ok (.iload 4, 2) := by decide +kernel
theorem dL_law_194 : decode code 194 = .ok (.iconst 2, 1) := by decide +kernel
theorem dL_law_195 : decode code 195 = .ok (.iadd, 1) := by decide +kernel
theorem dL_law_196 : decode code 196 = .ok (.iaload, 1) := by decide +kernel
theorem dL_law_197 : decode code 197 = .ok (.aload_n 0, 1) := by decide +kernel
theorem dL_law_198 : decode code 198 = .ok (.iload 4, 2) := by decide +kernel
theorem dL_law_200 : decode code 200 = .ok (.iconst 3, 1) := by decide +kernel
theorem dL_law_201 : decode code 201 = .ok (.iadd, 1) := by decide +kernel
theorem dL_law_202 : decode code 202 = .ok (.iaload, 1) := by decide +kernel
theorem dL_law_203 : decode code 203 = .ok (.aload_n 3, 1) := by decide +kernel
theorem dL_law_204 : decode code 204 = .ok (.invokestatic 74, 3) := by decide +kernel
theorem dL_law_207 : decode code 207 = .ok (.istore 5, 2) := by decide +kernel
theorem dL_law_209 : decode code 209 = .ok (.aload_n 2, 1) := by decide +kernel
theorem dL_law_210 : decode code 210 = .ok (.aload_n 0, 1) := by decide +kernel
theorem dL_law_211 : decode code 211 = .ok (.iload 4, 2) := by decide +kernel
theorem dL_law_213 : decode code 213 = .ok (.iconst 1, 1) := by decide +kernel
theorem dL_law_214 : decode code 214 = .ok (.iadd, 1) := by decide +kernel
theorem dL_law_215 : decode code 215 = .ok (.iaload, 1) := by decide +kernel
theorem dL_law_216 : decode code 216 = .ok (.aload_n 0, 1) := by decide +kernel
theorem dL_law_217 : decode code 217 = .ok (.iload 4, 2) := by decide +kernel
theorem dL_law_219 : decode code 219 = .ok (.iconst 2, 1) := by decide +kernel
theorem dL_law_220 : decode code 220 = .ok (.iadd, 1) := by decide +kernel
theorem dL_law_221 : decode code 221 = .ok (.iaload, 1) := by decide +kernel
theorem dL_law_222 : decode code 222 = .ok (.aload_n 0, 1) := by decide +kernel
theorem dL_law_223 : decode code 223 = .ok (.iload 4, 2) := by decide +kernel
theorem dL_law_225 : decode code 225 = .ok (.iconst 3, 1) := by decide +kernel
theorem dL_law_226 : decode code 226 = .ok (.iadd, 1) := by decide +kernel
theorem dL_law_227 : decode code 227 = .ok (.iaload, 1) := by decide +kernel
theorem dL_law_228 : decode code 228 = .ok (.invokevirtual 77, 3) := by decide +kernel
theorem dL_law_231 : decode code 231 = .ok (.istore 6, 2) := by decide +kernel
theorem dL_law_233 : decode code 233 = .ok (.aload_n 2, 1) := by decide +kernel
theorem dL_law_234 : decode code 234 = .ok (.invokevirtual 70, 3) := by decide +kernel
theorem dL_law_237 : decode code 237 = .ok (.iload 5, 2) := by decide +kernel
theorem dL_law_239 : decode code 239 = .ok (.if_icmp .eq 5, 3) := by decide +kernel
theorem dL_law_242 : decode code 242 = .ok (.iconst 0, 1) := by decide +kernel
theorem dL_law_243 : decode code 243 = .ok (.ireturn, 1) := by decide +kernel
theorem dL_law_244 : decode code 244 = .ok (.iload 5, 2) := by decide +kernel
theorem dL_law_246 : decode code 246 = .ok (.ifCond .ne 15, 3) := by decide +kernel
theorem dL_law_249 : decode code 249 = .ok (.aload_n 3, 1) := by decide +kernel
theorem dL_law_250 : decode code 250 = .ok (.iconst 0, 1) := by decide +kernel
theorem dL_law_251 : decode code 251 = .ok (.laload, 1) := by decide +kernel
theorem dL_law_252 : decode code 252 = .ok (.iload 6, 2) := by decide +kernel
theorem dL_law_254 : decode code 254 = .ok (.i2l, 1) := by decide +kernel
theorem dL_law_255 : decode code 255 = .ok (.lcmp, 1) := by decide +kernel
theorem dL_law_256 : decode code 256 = .ok (.ifCond .eq 5, 3) := by decide +kernel
theorem dL_law_259 : decode code 259 = .ok (.iconst 0, 1) := by decide +kernel
theorem dL_law_260 : decode code 260 = .ok (.ireturn, 1) := by decide +kernel
theorem dL_law_261 : decode code 261 = .ok (.goto 788, 3) := by decide +kernel
theorem dL_law_264 : decode code 264 = .ok (.aload_n 1, 1) := by decide +kernel
theorem dL_law_265 : decode code 265 = .ok (.aload_n 0, 1) := by decide +kernel
theorem dL_law_266 : decode code 266 = .ok (.iload 4, 2) := by decide +kernel
theorem dL_law_268 : decode code 268 = .ok (.iconst 1, 1) := by decide +kernel
theorem dL_law_269 : decode code 269 = .ok (.iadd, 1) := by decide +kernel
theorem dL_law_270 : decode code 270 = .ok (.iaload, 1) := by decide +kernel
theorem dL_law_271 : decode code 271 = .ok (.aload_n 0, 1) := by decide +kernel
theorem dL_law_272 : decode code 272 = .ok (.iload 4, 2) := by decide +kernel
theorem dL_law_274 : decode code 274 = .ok (.iconst 2, 1) := by decide +kernel
theorem dL_law_275 : decode code 275 = .ok (.iadd, 1) := by decide +kernel
theorem dL_law_276 : decode code 276 = .ok (.iaload, 1) := by decide +kernel
theorem dL_law_277 : decode code 277 = .ok (.aload_n 0, 1) := by decide +kernel
theorem dL_law_278 : decode code 278 = .ok (.iload 4, 2) := by decide +kernel
theorem dL_law_280 : decode code 280 = .ok (.iconst 3, 1) := by decide +kernel
theorem dL_law_281 : decode code 281 = .ok (.iadd, 1) := by decide +kernel
theorem dL_law_282 : decode code 282 = .ok (.iaload, 1) := by decide +kernel
theorem dL_law_283 : decode code 283 = .ok (.aload_n 3, 1) := by decide +kernel
theorem dL_law_284 : decode code 284 = .ok (.invokestatic 78, 3) := by decide +kernel
theorem dL_law_287 : decode code 287 = .ok (.istore 5, 2) := by decide +kernel
theorem dL_law_289 : decode code 289 = .ok (.aload_n 2, 1) := by decide +kernel
theorem dL_law_290 : decode code 290 = .ok (.aload_n 0, 1) := by decide +kernel
theorem dL_law_291 : decode code 291 = .ok (.iload 4, 2) := by decide +kernel
theorem dL_law_293 : decode code 293 = .ok (.iconst 1, 1) := by decide +kernel
theorem dL_law_294 : decode code 294 = .ok (.iadd, 1) := by decide +kernel
theorem dL_law_295 : decode code 295 = .ok (.iaload, 1) := by decide +kernel
theorem dL_law_296 : decode code 296 = .ok (.aload_n 0, 1) := by decide +kernel
theorem dL_law_297 : decode code 297 = .ok (.iload 4, 2) := by decide +kernel
theorem dL_law_299 : decode code 299 = .ok (.iconst 2, 1) := by decide +kernel
theorem dL_law_300 : decode code 300 = .ok (.iadd, 1) := by decide +kernel
theorem dL_law_301 : decode code 301 = .ok (.iaload, 1) := by decide +kernel
theorem dL_law_302 : decode code 302 = .ok (.aload_n 0, 1) := by decide +kernel
theorem dL_law_303 : decode code 303 = .ok (.iload 4, 2) := by decide +kernel
theorem dL_law_305 : decode code 305 = .ok (.iconst 3, 1) := by decide +kernel
theorem dL_law_306 : decode code 306 = .ok (.iadd, 1) := by decide +kernel
theorem dL_law_307 : decode code 307 = .ok (.iaload, 1) := by decide +kernel
theorem dL_law_308 : decode code 308 = .ok (.invokevirtual 80, 3) := by decide +kernel
theorem dL_law_311 : decode code 311 = .ok (.istore 6, 2) := by decide +kernel
theorem dL_law_313 : decode code 313 = .ok (.aload_n 2, 1) := by decide +kernel
theorem dL_law_314 : decode code 314 = .ok (.invokevirtual 70, 3) := by decide +kernel
theorem dL_law_317 : decode code 317 = .ok (.iload 5, 2) := by decide +kernel
theorem dL_law_319 : decode code 319 = .ok (.if_icmp .eq 5, 3) := by decide +kernel
theorem dL_law_322 : decode code 322 = .ok (.iconst 0, 1) := by decide +kernel
theorem dL_law_323 : decode code 323 = .ok (.ireturn, 1) := by decide +kernel
theorem dL_law_324 : decode code 324 = .ok (.iload 5, 2) := by decide +kernel
theorem dL_law_326 : decode code 326 = .ok (.ifCond .ne 15, 3) := by decide +kernel
theorem dL_law_329 : decode code 329 = .ok (.aload_n 3, 1) := by decide +kernel
theorem dL_law_330 : decode code 330 = .ok (.iconst 0, 1) := by decide +kernel
theorem dL_law_331 : decode code 331 = .ok (.laload, 1) := by decide +kernel
theorem dL_law_332 : decode code 332 = .ok (.iload 6, 2) := by decide +kernel
theorem dL_law_334 : decode code 334 = .ok (.i2l, 1) := by decide +kernel
theorem dL_law_335 : decode code 335 = .ok (.lcmp, 1) := by decide +kernel
theorem dL_law_336 : decode code 336 = .ok (.ifCond .eq 5, 3) := by decide +kernel
theorem dL_law_339 : decode code 339 = .ok (.iconst 0, 1) := by decide +kernel
theorem dL_law_340 : decode code 340 = .ok (.ireturn, 1) := by decide +kernel
theorem dL_law_341 : decode code 341 = .ok (.goto 708, 3) := by decide +kernel
theorem dL_law_344 : decode code 344 = .ok (.aload_n 1, 1) := by decide +kernel
theorem dL_law_345 : decode code 345 = .ok (.aload_n 0, 1) := by decide +kernel
theorem dL_law_346 : decode code 346 = .ok (.iload 4, 2) := by decide +kernel
theorem dL_law_348 : decode code 348 = .ok (.iconst 1, 1) := by decide +kernel
theorem dL_law_349 : decode code 349 = .ok (.iadd, 1) := by decide +kernel
theorem dL_law_350 : decode code 350 = .ok (.iaload, 1) := by decide +kernel
theorem dL_law_351 : decode code 351 = .ok (.aload_n 0, 1) := by decide +kernel
theorem dL_law_352 : decode code 352 = .ok (.iload 4, 2) := by decide +kernel
theorem dL_law_354 : decode code 354 = .ok (.iconst 2, 1) := by decide +kernel
theorem dL_law_355 : decode code 355 = .ok (.iadd, 1) := by decide +kernel
theorem dL_law_356 : decode code 356 = .ok (.iaload, 1) := by decide +kernel
theorem dL_law_357 : decode code 357 = .ok (.aload_n 3, 1) := by decide +kernel
theorem dL_law_358 : decode code 358 = .ok (.invokestatic 81, 3) := by decide +kernel
theorem dL_law_361 : decode code 361 = .ok (.istore 5, 2) := by decide +kernel
theorem dL_law_363 : decode code 363 = .ok (.aload_n 2, 1) := by decide +kernel
theorem dL_law_364 : decode code 364 = .ok (.aload_n 0, 1) := by decide +kernel
theorem dL_law_365 : decode code 365 = .ok (.iload 4, 2) := by decide +kernel
theorem dL_law_367 : decode code 367 = .ok (.iconst 1, 1) := by decide +kernel
theorem dL_law_368 : decode code 368 = .ok (.iadd, 1) := by decide +kernel
theorem dL_law_369 : decode code 369 = .ok (.iaload, 1) := by decide +kernel
theorem dL_law_370 : decode code 370 = .ok (.aload_n 0, 1) := by decide +kernel
theorem dL_law_371 : decode code 371 = .ok (.iload 4, 2) := by decide +kernel
theorem dL_law_373 : decode code 373 = .ok (.iconst 2, 1) := by decide +kernel
theorem dL_law_374 : decode code 374 = .ok (.iadd, 1) := by decide +kernel
theorem dL_law_375 : decode code 375 = .ok (.iaload, 1) := by decide +kernel
theorem dL_law_376 : decode code 376 = .ok (.invokevirtual 83, 3) := by decide +kernel
theorem dL_law_379 : decode code 379 = .ok (.istore 6, 2) := by decide +kernel
theorem dL_law_381 : decode code 381 = .ok (.aload_n 2, 1) := by decide +kernel
theorem dL_law_382 : decode code 382 = .ok (.invokevirtual 70, 3) := by decide +kernel
theorem dL_law_385 : decode code 385 = .ok (.iload 5, 2) := by decide +kernel
theorem dL_law_387 : decode code 387 = .ok (.if_icmp .eq 5, 3) := by decide +kernel
theorem dL_law_390 : decode code 390 = .ok (.iconst 0, 1) := by decide +kernel
theorem dL_law_391 : decode code 391 = .ok (.ireturn, 1) := by decide +kernel
theorem dL_law_392 : decode code 392 = .ok (.iload 5, 2) := by decide +kernel
theorem dL_law_394 : decode code 394 = .ok (.ifCond .ne 15, 3) := by decide +kernel
theorem dL_law_397 : decode code 397 = .ok (.aload_n 3, 1) := by decide +kernel
theorem dL_law_398 : decode code 398 = .ok (.iconst 0, 1) := by decide +kernel
theorem dL_law_399 : decode code 399 = .ok (.laload, 1) := by decide +kernel
theorem dL_law_400 : decode code 400 = .ok (.iload 6, 2) := by decide +kernel
theorem dL_law_402 : decode code 402 = .ok (.i2l, 1) := by decide +kernel
theorem dL_law_403 : decode code 403 = .ok (.lcmp, 1) := by decide +kernel
theorem dL_law_404 : decode code 404 = .ok (.ifCond .eq 5, 3) := by decide +kernel
theorem dL_law_407 : decode code 407 = .ok (.iconst 0, 1) := by decide +kernel
theorem dL_law_408 : decode code 408 = .ok (.ireturn, 1) := by decide +kernel
theorem dL_law_409 : decode code 409 = .ok (.goto 640, 3) := by decide +kernel
theorem dL_law_412 : decode code 412 = .ok (.aload_n 1, 1) := by decide +kernel
theorem dL_law_413 : decode code 413 = .ok (.aload_n 0, 1) := by decide +kernel
theorem dL_law_414 : decode code 414 = .ok (.iload 4, 2) := by decide +kernel
theorem dL_law_416 : decode code 416 = .ok (.iconst 1, 1) := by decide +kernel
theorem dL_law_417 : decode code 417 = .ok (.iadd, 1) := by decide +kernel
theorem dL_law_418 : decode code 418 = .ok (.iaload, 1) := by decide +kernel
theorem dL_law_419 : decode code 419 = .ok (.aload_n 0, 1) := by decide +kernel
theorem dL_law_420 : decode code 420 = .ok (.iload 4, 2) := by decide +kernel
theorem dL_law_422 : decode code 422 = .ok (.iconst 2, 1) := by decide +kernel
theorem dL_law_423 : decode code 423 = .ok (.iadd, 1) := by decide +kernel
theorem dL_law_424 : decode code 424 = .ok (.iaload, 1) := by decide +kernel
theorem dL_law_425 : decode code 425 = .ok (.aload_n 3, 1) := by decide +kernel
theorem dL_law_426 : decode code 426 = .ok (.invokestatic 84, 3) := by decide +kernel
theorem dL_law_429 : decode code 429 = .ok (.istore 5, 2) := by decide +kernel
theorem dL_law_431 : decode code 431 = .ok (.aload_n 2, 1) := by decide +kernel
theorem dL_law_432 : decode code 432 = .ok (.aload_n 0, 1) := by decide +kernel
theorem dL_law_433 : decode code 433 = .ok (.iload 4, 2) := by decide +kernel
theorem dL_law_435 : decode code 435 = .ok (.iconst 1, 1) := by decide +kernel
theorem dL_law_436 : decode code 436 = .ok (.iadd, 1) := by decide +kernel
