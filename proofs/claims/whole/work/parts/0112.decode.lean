theorem d_Math_floorDiv_0 : decode prog_12_method_47_code 0 = .ok (.iload_n 0, 1) := by decide +kernel
theorem d_Math_floorDiv_1 : decode prog_12_method_47_code 1 = .ok (.iload_n 1, 1) := by decide +kernel
theorem d_Math_floorDiv_2 : decode prog_12_method_47_code 2 = .ok (.idiv, 1) := by decide +kernel
theorem d_Math_floorDiv_3 : decode prog_12_method_47_code 3 = .ok (.istore_n 2, 1) := by decide +kernel
theorem d_Math_floorDiv_4 : decode prog_12_method_47_code 4 = .ok (.iload_n 0, 1) := by decide +kernel
theorem d_Math_floorDiv_5 : decode prog_12_method_47_code 5 = .ok (.iload_n 1, 1) := by decide +kernel
theorem d_Math_floorDiv_6 : decode prog_12_method_47_code 6 = .ok (.ixor, 1) := by decide +kernel
theorem d_Math_floorDiv_7 : decode prog_12_method_47_code 7 = .ok (.ifCond .ge 14, 3) := by decide +kernel
theorem d_Math_floorDiv_10 : decode prog_12_method_47_code 10 = .ok (.iload_n 2, 1) := by decide +kernel
theorem d_Math_floorDiv_11 : decode prog_12_method_47_code 11 = .ok (.iload_n 1, 1) := by decide +kernel
theorem d_Math_floorDiv_12 : decode prog_12_method_47_code 12 = .ok (.imul, 1) := by decide +kernel
theorem d_Math_floorDiv_13 : decode prog_12_method_47_code 13 = .ok (.iload_n 0, 1) := by decide +kernel
theorem d_Math_floorDiv_14 : decode prog_12_method_47_code 14 = .ok (.if_icmp .eq 7, 3) := by decide +kernel
theorem d_Math_floorDiv_17 : decode prog_12_method_47_code 17 = .ok (.iload_n 2, 1) := by decide +kernel
theorem d_Math_floorDiv_18 : decode prog_12_method_47_code 18 = .ok (.iconst 1, 1) := by decide +kernel
theorem d_Math_floorDiv_19 : decode prog_12_method_47_code 19 = .ok (.isub, 1) := by decide +kernel
theorem d_Math_floorDiv_20 : decode prog_12_method_47_code 20 = .ok (.ireturn, 1) := by decide +kernel
theorem d_Math_floorDiv_21 : decode prog_12_method_47_code 21 = .ok (.iload_n 2, 1) := by decide +kernel
theorem d_Math_floorDiv_22 : decode prog_12_method_47_code 22 = .ok (.ireturn, 1) := by decide +kernel
