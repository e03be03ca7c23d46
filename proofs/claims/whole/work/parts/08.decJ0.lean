theorem d_J_floorMod_0 : decode prog_10_method_50_code 0 = .ok (.iload_n 0, 1) := by decide +kernel
theorem d_J_floorMod_1 : decode prog_10_method_50_code 1 = .ok (.iload_n 1, 1) := by decide +kernel
theorem d_J_floorMod_2 : decode prog_10_method_50_code 2 = .ok (.irem, 1) := by decide +kernel
theorem d_J_floorMod_3 : decode prog_10_method_50_code 3 = .ok (.istore_n 2, 1) := by decide +kernel
theorem d_J_floorMod_4 : decode prog_10_method_50_code 4 = .ok (.iload_n 0, 1) := by decide +kernel
theorem d_J_floorMod_5 : decode prog_10_method_50_code 5 = .ok (.iload_n 1, 1) := by decide +kernel
theorem d_J_floorMod_6 : decode prog_10_method_50_code 6 = .ok (.ixor, 1) := by decide +kernel
theorem d_J_floorMod_7 : decode prog_10_method_50_code 7 = .ok (.ifCond .ge 11, 3) := by decide +kernel
theorem d_J_floorMod_10 : decode prog_10_method_50_code 10 = .ok (.iload_n 2, 1) := by decide +kernel
theorem d_J_floorMod_11 : decode prog_10_method_50_code 11 = .ok (.ifCond .eq 7, 3) := by decide +kernel
theorem d_J_floorMod_14 : decode prog_10_method_50_code 14 = .ok (.iload_n 2, 1) := by decide +kernel
theorem d_J_floorMod_15 : decode prog_10_method_50_code 15 = .ok (.iload_n 1, 1) := by decide +kernel
theorem d_J_floorMod_16 : decode prog_10_method_50_code 16 = .ok (.iadd, 1) := by decide +kernel
theorem d_J_floorMod_17 : decode prog_10_method_50_code 17 = .ok (.ireturn, 1) := by decide +kernel
theorem d_J_floorMod_18 : decode prog_10_method_50_code 18 = .ok (.iload_n 2, 1) := by decide +kernel
theorem d_J_floorMod_19 : decode prog_10_method_50_code 19 = .ok (.ireturn, 1) := by decide +kernel
theorem d_J_floorDiv_0 : decode prog_10_method_47_code 0 = .ok (.iload_n 0, 1) := by decide +kernel
theorem d_J_floorDiv_1 : decode prog_10_method_47_code 1 = .ok (.iload_n 1, 1) := by decide +kernel
theorem d_J_floorDiv_2 : decode prog_10_method_47_code 2 = .ok (.idiv, 1) := by decide +kernel
theorem d_J_floorDiv_3 : decode prog_10_method_47_code 3 = .ok (.istore_n 2, 1) := by decide +kernel
theorem d_J_floorDiv_4 : decode prog_10_method_47_code 4 = .ok (.iload_n 0, 1) := by decide +kernel
theorem d_J_floorDiv_5 : decode prog_10_method_47_code 5 = .ok (.iload_n 1, 1) := by decide +kernel
theorem d_J_floorDiv_6 : decode prog_10_method_47_code 6 = .ok (.ixor, 1) := by decide +kernel
theorem d_J_floorDiv_7 : decode prog_10_method_47_code 7 = .ok (.ifCond .ge 14, 3) := by decide +kernel
theorem d_J_floorDiv_10 : decode prog_10_method_47_code 10 = .ok (.iload_n 2, 1) := by decide +kernel
theorem d_J_floorDiv_11 : decode prog_10_method_47_code 11 = .ok (.iload_n 1, 1) := by decide +kernel
theorem d_J_floorDiv_12 : decode prog_10_method_47_code 12 = .ok (.imul, 1) := by decide +kernel
theorem d_J_floorDiv_13 : decode prog_10_method_47_code 13 = .ok (.iload_n 0, 1) := by decide +kernel
theorem d_J_floorDiv_14 : decode prog_10_method_47_code 14 = .ok (.if_icmp .eq 7, 3) := by decide +kernel
theorem d_J_floorDiv_17 : decode prog_10_method_47_code 17 = .ok (.iload_n 2, 1) := by decide +kernel
theorem d_J_floorDiv_18 : decode prog_10_method_47_code 18 = .ok (.iconst 1, 1) := by decide +kernel
theorem d_J_floorDiv_19 : decode prog_10_method_47_code 19 = .ok (.isub, 1) := by decide +kernel
theorem d_J_floorDiv_20 : decode prog_10_method_47_code 20 = .ok (.ireturn, 1) := by decide +kernel
theorem d_J_floorDiv_21 : decode prog_10_method_47_code 21 = .ok (.iload_n 2, 1) := by decide +kernel
theorem d_J_floorDiv_22 : decode prog_10_method_47_code 22 = .ok (.ireturn, 1) := by decide +kernel
theorem d_J_min_0 : decode prog_10_method_69_code 0 = .ok (.iload_n 0, 1) := by decide +kernel
theorem d_J_min_1 : decode prog_10_method_69_code 1 = .ok (.iload_n 1, 1) := by decide +kernel
theorem d_J_min_2 : decode prog_10_method_69_code 2 = .ok (.if_icmp .gt 7, 3) := by decide +kernel
theorem d_J_min_5 : decode prog_10_method_69_code 5 = .ok (.iload_n 0, 1) := by decide +kernel
theorem d_J_min_6 : decode prog_10_method_69_code 6 = .ok (.goto 4, 3) := by decide +kernel
theorem d_J_min_9 : decode prog_10_method_69_code 9 = .ok (.iload_n 1, 1) := by decide +kernel
theorem d_J_min_10 : decode prog_10_method_69_code 10 = .ok (.ireturn, 1) := by decide +kernel
