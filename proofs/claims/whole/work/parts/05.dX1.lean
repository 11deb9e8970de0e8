theorem d_X_max_II_0 : decode c_X_max_II 0 = .ok (.iload_n 0, 1) := by decide +kernel
theorem d_X_max_II_1 : decode c_X_max_II 1 = .ok (.iload_n 1, 1) := by decide +kernel
theorem d_X_max_II_2 : decode c_X_max_II 2 = .ok (.if_icmp .lt 7, 3) := by decide +kernel
theorem d_X_max_II_5 : decode c_X_max_II 5 = .ok (.iload_n 0, 1) := by decide +kernel
theorem d_X_max_II_6 : decode c_X_max_II 6 = .ok (.goto 4, 3) := by decide +kernel
theorem d_X_max_II_9 : decode c_X_max_II 9 = .ok (.iload_n 1, 1) := by decide +kernel
theorem d_X_max_II_10 : decode c_X_max_II 10 = .ok (.ireturn, 1) := by decide +kernel
theorem d_X_max_JJ_0 : decode c_X_max_JJ 0 = .ok (.lload_n 0, 1) := by decide +kernel
theorem d_X_max_JJ_1 : decode c_X_max_JJ 1 = .ok (.lload_n 2, 1) := by decide +kernel
theorem d_X_max_JJ_2 : decode c_X_max_JJ 2 = .ok (.lcmp, 1) := by decide +kernel
theorem d_X_max_JJ_3 : decode c_X_max_JJ 3 = .ok (.ifCond .lt 7, 3) := by decide +kernel
theorem d_X_max_JJ_6 : decode c_X_max_JJ 6 = .ok (.lload_n 0, 1) := by decide +kernel
theorem d_X_max_JJ_7 : decode c_X_max_JJ 7 = .ok (.goto 4, 3) := by decide +kernel
theorem d_X_max_JJ_10 : decode c_X_max_JJ 10 = .ok (.lload_n 2, 1) := by decide +kernel
theorem d_X_max_JJ_11 : decode c_X_max_JJ 11 = .ok (.lreturn, 1) := by decide +kernel
theorem d_X_min_0 : decode c_X_min 0 = .ok (.lload_n 0, 1) := by decide +kernel
theorem d_X_min_1 : decode c_X_min 1 = .ok (.lload_n 2, 1) := by decide +kernel
theorem d_X_min_2 : decode c_X_min 2 = .ok (.lcmp, 1) := by decide +kernel
theorem d_X_min_3 : decode c_X_min 3 = .ok (.ifCond .gt 7, 3) := by decide +kernel
theorem d_X_min_6 : decode c_X_min 6 = .ok (.lload_n 0, 1) := by decide +kernel
theorem d_X_min_7 : decode c_X_min 7 = .ok (.goto 4, 3) := by decide +kernel
theorem d_X_min_10 : decode c_X_min 10 = .ok (.lload_n 2, 1) := by decide +kernel
theorem d_X_min_11 : decode c_X_min 11 = .ok (.lreturn, 1) := by decide +kernel
