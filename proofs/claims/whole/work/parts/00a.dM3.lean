-- DECODE ROWS
theorem dM_rest_26 : decode prog_6_method_29_code 26 = .ok (.putfield 57, 3) := by decide +kernel
theorem dM_rest_29 : decode prog_6_method_29_code 29 = .ok (.aload_n 0, 1) := by decide +kernel
theorem dM_rest_30 : decode prog_6_method_29_code 30 = .ok (.getfield 57, 3) := by decide +kernel
theorem dM_rest_33 : decode prog_6_method_29_code 33 = .ok (.ifCond .le 7, 3) := by decide +kernel
theorem dM_rest_36 : decode prog_6_method_29_code 36 = .ok (.iconst 0, 1) := by decide +kernel
theorem dM_rest_37 : decode prog_6_method_29_code 37 = .ok (.goto 19, 3) := by decide +kernel
theorem dM_rest_40 : decode prog_6_method_29_code 40 = .ok (.aload_n 0, 1) := by decide +kernel
theorem dM_rest_41 : decode prog_6_method_29_code 41 = .ok (.getfield 44, 3) := by decide +kernel
theorem dM_rest_44 : decode prog_6_method_29_code 44 = .ok (.aload_n 0, 1) := by decide +kernel
theorem dM_rest_45 : decode prog_6_method_29_code 45 = .ok (.getfield 123, 3) := by decide +kernel
theorem dM_rest_48 : decode prog_6_method_29_code 48 = .ok (.iadd, 1) := by decide +kernel
theorem dM_rest_49 : decode prog_6_method_29_code 49 = .ok (.aload_n 0, 1) := by decide +kernel
theorem dM_rest_50 : decode prog_6_method_29_code 50 = .ok (.getfield 54, 3) := by decide +kernel
theorem dM_rest_53 : decode prog_6_method_29_code 53 = .ok (.iload_n 1, 1) := by decide +kernel
theorem dM_rest_54 : decode prog_6_method_29_code 54 = .ok (.iaload, 1) := by decide +kernel
theorem dM_rest_55 : decode prog_6_method_29_code 55 = .ok (.isub, 1) := by decide +kernel
theorem dM_rest_56 : decode prog_6_method_29_code 56 = .ok (.ireturn, 1) := by decide +kernel
