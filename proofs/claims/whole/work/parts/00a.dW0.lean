-- DECODE ROWS
theorem dW_init_0 : decode prog_4_method_1_code 0 = .ok (.aload_n 0, 1) := by decide +kernel
theorem dW_init_1 : decode prog_4_method_1_code 1 = .ok (.invokespecial 3, 3) := by decide +kernel
theorem dW_init_4 : decode prog_4_method_1_code 4 = .ok (.aload_n 0, 1) := by decide +kernel
theorem dW_init_5 : decode prog_4_method_1_code 5 = .ok (.bipush 10, 2) := by decide +kernel
theorem dW_init_7 : decode prog_4_method_1_code 7 = .ok (.newarray .int, 2) := by decide +kernel
theorem dW_init_9 : decode prog_4_method_1_code 9 = .ok (.putfield 9, 3) := by decide +kernel
theorem dW_init_12 : decode prog_4_method_1_code 12 = .ok (.return_, 1) := by decide +kernel
theorem dW_wholeThickness_0 : decode prog_4_method_2_code 0 = .ok (.iconst 0, 1) := by decide +kernel
theorem dW_wholeThickness_1 : decode prog_4_method_2_code 1 = .ok (.istore_n 1, 1) := by decide +kernel
theorem dW_wholeThickness_2 : decode prog_4_method_2_code 2 = .ok (.iconst 0, 1) := by decide +kernel
theorem dW_wholeThickness_3 : decode prog_4_method_2_code 3 = .ok (.istore_n 2, 1) := by decide +kernel
theorem dW_wholeThickness_4 : decode prog_4_method_2_code 4 = .ok (.iload_n 2, 1) := by decide +kernel
theorem dW_wholeThickness_5 : decode prog_4_method_2_code 5 = .ok (.aload_n 0, 1) := by decide +kernel
theorem dW_wholeThickness_6 : decode prog_4_method_2_code 6 = .ok (.getfield 9, 3) := by decide +kernel
theorem dW_wholeThickness_9 : decode prog_4_method_2_code 9 = .ok (.arraylength, 1) := by decide +kernel
theorem dW_wholeThickness_10 : decode prog_4_method_2_code 10 = .ok (.if_icmp .ge 18, 3) := by decide +kernel
theorem dW_wholeThickness_13 : decode prog_4_method_2_code 13 = .ok (.iload_n 1, 1) := by decide +kernel
theorem dW_wholeThickness_14 : decode prog_4_method_2_code 14 = .ok (.aload_n 0, 1) := by decide +kernel
theorem dW_wholeThickness_15 : decode prog_4_method_2_code 15 = .ok (.getfield 9, 3) := by decide +kernel
theorem dW_wholeThickness_18 : decode prog_4_method_2_code 18 = .ok (.iload_n 2, 1) := by decide +kernel
theorem dW_wholeThickness_19 : decode prog_4_method_2_code 19 = .ok (.iaload, 1) := by decide +kernel
theorem dW_wholeThickness_20 : decode prog_4_method_2_code 20 = .ok (.iadd, 1) := by decide +kernel
theorem dW_wholeThickness_21 : decode prog_4_method_2_code 21 = .ok (.istore_n 1, 1) := by decide +kernel
theorem dW_wholeThickness_22 : decode prog_4_method_2_code 22 = .ok (.iinc 2 1, 3) := by decide +kernel
theorem dW_wholeThickness_25 : decode prog_4_method_2_code 25 = .ok (.goto (-21), 3) := by decide +kernel
theorem dW_wholeThickness_28 : decode prog_4_method_2_code 28 = .ok (.iload_n 1, 1) := by decide +kernel
theorem dW_wholeThickness_29 : decode prog_4_method_2_code 29 = .ok (.ireturn, 1) := by decide +kernel
