theorem d_A_fill_II_0 : decode c_A_fill_II 0 = .ok (.iconst 0, 1) := by decide +kernel
theorem d_A_fill_II_1 : decode c_A_fill_II 1 = .ok (.istore_n 2, 1) := by decide +kernel
theorem d_A_fill_II_2 : decode c_A_fill_II 2 = .ok (.aload_n 0, 1) := by decide +kernel
theorem d_A_fill_II_3 : decode c_A_fill_II 3 = .ok (.arraylength, 1) := by decide +kernel
theorem d_A_fill_II_4 : decode c_A_fill_II 4 = .ok (.istore_n 3, 1) := by decide +kernel
theorem d_A_fill_II_5 : decode c_A_fill_II 5 = .ok (.iload_n 2, 1) := by decide +kernel
theorem d_A_fill_II_6 : decode c_A_fill_II 6 = .ok (.iload_n 3, 1) := by decide +kernel
theorem d_A_fill_II_7 : decode c_A_fill_II 7 = .ok (.if_icmp .ge 13, 3) := by decide +kernel
theorem d_A_fill_II_10 : decode c_A_fill_II 10 = .ok (.aload_n 0, 1) := by decide +kernel
theorem d_A_fill_II_11 : decode c_A_fill_II 11 = .ok (.iload_n 2, 1) := by decide +kernel
theorem d_A_fill_II_12 : decode c_A_fill_II 12 = .ok (.iload_n 1, 1) := by decide +kernel
theorem d_A_fill_II_13 : decode c_A_fill_II 13 = .ok (.iastore, 1) := by decide +kernel
theorem d_A_fill_II_14 : decode c_A_fill_II 14 = .ok (.iinc 2 1, 3) := by decide +kernel
theorem d_A_fill_II_17 : decode c_A_fill_II 17 = .ok (.goto (-12), 3) := by decide +kernel
theorem d_A_fill_II_20 : decode c_A_fill_II 20 = .ok (.return_, 1) := by decide +kernel
theorem d_A_fill_JJ_0 : decode c_A_fill_JJ 0 = .ok (.iconst 0, 1) := by decide +kernel
theorem d_A_fill_JJ_1 : decode c_A_fill_JJ 1 = .ok (.istore_n 3, 1) := by decide +kernel
theorem d_A_fill_JJ_2 : decode c_A_fill_JJ 2 = .ok (.aload_n 0, 1) := by decide +kernel
theorem d_A_fill_JJ_3 : decode c_A_fill_JJ 3 = .ok (.arraylength, 1) := by decide +kernel
theorem d_A_fill_JJ_4 : decode c_A_fill_JJ 4 = .ok (.istore 4, 2) := by decide +kernel
theorem d_A_fill_JJ_6 : decode c_A_fill_JJ 6 = .ok (.iload_n 3, 1) := by decide +kernel
theorem d_A_fill_JJ_7 : decode c_A_fill_JJ 7 = .ok (.iload 4, 2) := by decide +kernel
theorem d_A_fill_JJ_9 : decode c_A_fill_JJ 9 = .ok (.if_icmp .ge 13, 3) := by decide +kernel
theorem d_A_fill_JJ_12 : decode c_A_fill_JJ 12 = .ok (.aload_n 0, 1) := by decide +kernel
theorem d_A_fill_JJ_13 : decode c_A_fill_JJ 13 = .ok (.iload_n 3, 1) := by decide +kernel
theorem d_A_fill_JJ_14 : decode c_A_fill_JJ 14 = .ok (.lload_n 1, 1) := by decide +kernel
theorem d_A_fill_JJ_15 : decode c_A_fill_JJ 15 = .ok (.lastore, 1) := by decide +kernel
theorem d_A_fill_JJ_16 : decode c_A_fill_JJ 16 = .ok (.iinc 3 1, 3) := by decide +kernel
theorem d_A_fill_JJ_19 : decode c_A_fill_JJ 19 = .ok (.goto (-13), 3) := by decide +kernel
theorem d_A_fill_JJ_22 : decode c_A_fill_JJ 22 = .ok (.return_, 1) := by decide +kernel
