-- DECODE ROWS
theorem dX_change_28 : decode prog_1_method_14_code 28 = .ok (.iload_n 2, 1) := by decide +kernel
theorem dX_change_29 : decode prog_1_method_14_code 29 = .ok (.invokevirtual 120, 3) := by decide +kernel
theorem dX_change_32 : decode prog_1_method_14_code 32 = .ok (.ireturn, 1) := by decide +kernel
theorem dX_bar_0 : decode prog_1_method_16_code 0 = .ok (.iload_n 1, 1) := by decide +kernel
theorem dX_bar_1 : decode prog_1_method_16_code 1 = .ok (.aload_n 0, 1) := by decide +kernel
theorem dX_bar_2 : decode prog_1_method_16_code 2 = .ok (.getfield 30, 3) := by decide +kernel
theorem dX_bar_5 : decode prog_1_method_16_code 5 = .ok (.getfield 113, 3) := by decide +kernel
theorem dX_bar_8 : decode prog_1_method_16_code 8 = .ok (.invokestatic 49, 3) := by decide +kernel
theorem dX_bar_11 : decode prog_1_method_16_code 11 = .ok (.aload_n 0, 1) := by decide +kernel
theorem dX_bar_12 : decode prog_1_method_16_code 12 = .ok (.getfield 30, 3) := by decide +kernel
theorem dX_bar_15 : decode prog_1_method_16_code 15 = .ok (.invokevirtual 123, 3) := by decide +kernel
theorem dX_bar_18 : decode prog_1_method_16_code 18 = .ok (.aload_n 0, 1) := by decide +kernel
theorem dX_bar_19 : decode prog_1_method_16_code 19 = .ok (.getfield 30, 3) := by decide +kernel
theorem dX_bar_22 : decode prog_1_method_16_code 22 = .ok (.getfield 129, 3) := by decide +kernel
theorem dX_bar_25 : decode prog_1_method_16_code 25 = .ok (.iload_n 1, 1) := by decide +kernel
theorem dX_bar_26 : decode prog_1_method_16_code 26 = .ok (.iaload, 1) := by decide +kernel
theorem dX_bar_27 : decode prog_1_method_16_code 27 = .ok (.ireturn, 1) := by decide +kernel
theorem dX_rest_0 : decode prog_1_method_17_code 0 = .ok (.aload_n 0, 1) := by decide +kernel
theorem dX_rest_1 : decode prog_1_method_17_code 1 = .ok (.getfield 30, 3) := by decide +kernel
theorem dX_rest_4 : decode prog_1_method_17_code 4 = .ok (.invokevirtual 123, 3) := by decide +kernel
theorem dX_rest_7 : decode prog_1_method_17_code 7 = .ok (.iload_n 1, 1) := by decide +kernel
theorem dX_rest_8 : decode prog_1_method_17_code 8 = .ok (.aload_n 0, 1) := by decide +kernel
theorem dX_rest_9 : decode prog_1_method_17_code 9 = .ok (.getfield 30, 3) := by decide +kernel
theorem dX_rest_12 : decode prog_1_method_17_code 12 = .ok (.getfield 126, 3) := by decide +kernel
theorem dX_rest_15 : decode prog_1_method_17_code 15 = .ok (.invokestatic 49, 3) := by decide +kernel
theorem dX_rest_18 : decode prog_1_method_17_code 18 = .ok (.aload_n 0, 1) := by decide +kernel
theorem dX_rest_19 : decode prog_1_method_17_code 19 = .ok (.getfield 30, 3) := by decide +kernel
theorem dX_rest_22 : decode prog_1_method_17_code 22 = .ok (.getfield 132, 3) := by decide +kernel
theorem dX_rest_25 : decode prog_1_method_17_code 25 = .ok (.iload_n 1, 1) := by decide +kernel
theorem dX_rest_26 : decode prog_1_method_17_code 26 = .ok (.iaload, 1) := by decide +kernel
theorem dX_rest_27 : decode prog_1_method_17_code 27 = .ok (.ireturn, 1) := by decide +kernel
