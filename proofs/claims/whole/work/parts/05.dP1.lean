theorem d_P_against_0 : decode c_P_against 0 = .ok (.aload_n 0, 1) := by decide +kernel
theorem d_P_against_1 : decode c_P_against 1 = .ok (.getfield 21, 3) := by decide +kernel
theorem d_P_against_4 : decode c_P_against 4 = .ok (.iload_n 1, 1) := by decide +kernel
theorem d_P_against_5 : decode c_P_against 5 = .ok (.laload, 1) := by decide +kernel
theorem d_P_against_6 : decode c_P_against 6 = .ok (.aload_n 0, 1) := by decide +kernel
theorem d_P_against_7 : decode c_P_against 7 = .ok (.getfield 25, 3) := by decide +kernel
theorem d_P_against_10 : decode c_P_against 10 = .ok (.iload_n 1, 1) := by decide +kernel
theorem d_P_against_11 : decode c_P_against 11 = .ok (.laload, 1) := by decide +kernel
theorem d_P_against_12 : decode c_P_against 12 = .ok (.lload_n 2, 1) := by decide +kernel
theorem d_P_against_13 : decode c_P_against 13 = .ok (.lload 4, 2) := by decide +kernel
theorem d_P_against_15 : decode c_P_against 15 = .ok (.invokestatic 51, 3) := by decide +kernel
theorem d_P_against_18 : decode c_P_against 18 = .ok (.ireturn, 1) := by decide +kernel
theorem d_P_has_0 : decode c_P_has 0 = .ok (.aload_n 0, 1) := by decide +kernel
theorem d_P_has_1 : decode c_P_has 1 = .ok (.getfield 25, 3) := by decide +kernel
theorem d_P_has_4 : decode c_P_has 4 = .ok (.iload_n 1, 1) := by decide +kernel
theorem d_P_has_5 : decode c_P_has 5 = .ok (.laload, 1) := by decide +kernel
theorem d_P_has_6 : decode c_P_has 6 = .ok (.lconst 0, 1) := by decide +kernel
theorem d_P_has_7 : decode c_P_has 7 = .ok (.lcmp, 1) := by decide +kernel
theorem d_P_has_8 : decode c_P_has 8 = .ok (.ifCond .eq 7, 3) := by decide +kernel
theorem d_P_has_11 : decode c_P_has 11 = .ok (.iconst 1, 1) := by decide +kernel
theorem d_P_has_12 : decode c_P_has 12 = .ok (.goto 4, 3) := by decide +kernel
theorem d_P_has_15 : decode c_P_has 15 = .ok (.iconst 0, 1) := by decide +kernel
theorem d_P_has_16 : decode c_P_has 16 = .ok (.ireturn, 1) := by decide +kernel
theorem d_P_init_0 : decode c_P_init 0 = .ok (.aload_n 0, 1) := by decide +kernel
theorem d_P_init_1 : decode c_P_init 1 = .ok (.invokespecial 3, 3) := by decide +kernel
theorem d_P_init_4 : decode c_P_init 4 = .ok (.aload_n 0, 1) := by decide +kernel
theorem d_P_init_5 : decode c_P_init 5 = .ok (.iload_n 1, 1) := by decide +kernel
theorem d_P_init_6 : decode c_P_init 6 = .ok (.putfield 9, 3) := by decide +kernel
theorem d_P_init_9 : decode c_P_init 9 = .ok (.aload_n 0, 1) := by decide +kernel
theorem d_P_init_10 : decode c_P_init 10 = .ok (.iload_n 2, 1) := by decide +kernel
theorem d_P_init_11 : decode c_P_init 11 = .ok (.putfield 15, 3) := by decide +kernel
theorem d_P_init_14 : decode c_P_init 14 = .ok (.aload_n 0, 1) := by decide +kernel
theorem d_P_init_15 : decode c_P_init 15 = .ok (.iconst 0, 1) := by decide +kernel
theorem d_P_init_16 : decode c_P_init 16 = .ok (.putfield 18, 3) := by decide +kernel
theorem d_P_init_19 : decode c_P_init 19 = .ok (.aload_n 0, 1) := by decide +kernel
theorem d_P_init_20 : decode c_P_init 20 = .ok (.bipush 12, 2) := by decide +kernel
theorem d_P_init_22 : decode c_P_init 22 = .ok (.newarray .long, 2) := by decide +kernel
theorem d_P_init_24 : decode c_P_init 24 = .ok (.putfield 21, 3) := by decide +kernel
theorem d_P_init_27 : decode c_P_init 27 = .ok (.aload_n 0, 1) := by decide +kernel
theorem d_P_init_28 : decode c_P_init 28 = .ok (.bipush 12, 2) := by decide +kernel
theorem d_P_init_30 : decode c_P_init 30 = .ok (.newarray .long, 2) := by decide +kernel
theorem d_P_init_32 : decode c_P_init 32 = .ok (.putfield 25, 3) := by decide +kernel
theorem d_P_init_35 : decode c_P_init 35 = .ok (.aload_n 0, 1) := by decide +kernel
theorem d_P_init_36 : decode c_P_init 36 = .ok (.new 28, 3) := by decide +kernel
theorem d_P_init_39 : decode c_P_init 39 = .ok (.dup, 1) := by decide +kernel
theorem d_P_init_40 : decode c_P_init 40 = .ok (.invokespecial 30, 3) := by decide +kernel
theorem d_P_init_43 : decode c_P_init 43 = .ok (.putfield 31, 3) := by decide +kernel
theorem d_P_init_46 : decode c_P_init 46 = .ok (.aload_n 0, 1) := by decide +kernel
theorem d_P_init_47 : decode c_P_init 47 = .ok (.new 28, 3) := by decide +kernel
theorem d_P_init_50 : decode c_P_init 50 = .ok (.dup, 1) := by decide +kernel
theorem d_P_init_51 : decode c_P_init 51 = .ok (.invokespecial 30, 3) := by decide +kernel
theorem d_P_init_54 : decode c_P_init 54 = .ok (.putfield 35, 3) := by decide +kernel
theorem d_P_init_57 : decode c_P_init 57 = .ok (.aload_n 0, 1) := by decide +kernel
theorem d_P_init_58 : decode c_P_init 58 = .ok (.new 38, 3) := by decide +kernel
theorem d_P_init_61 : decode c_P_init 61 = .ok (.dup, 1) := by decide +kernel
theorem d_P_init_62 : decode c_P_init 62 = .ok (.invokespecial 40, 3) := by decide +kernel
theorem d_P_init_65 : decode c_P_init 65 = .ok (.putfield 41, 3) := by decide +kernel
theorem d_P_init_68 : decode c_P_init 68 = .ok (.return_, 1) := by decide +kernel
theorem d_P_setFraction_0 : decode c_P_setFraction 0 = .ok (.lload_n 2, 1) := by decide +kernel
theorem d_P_setFraction_1 : decode c_P_setFraction 1 = .ok (.lload 4, 2) := by decide +kernel
theorem d_P_setFraction_3 : decode c_P_setFraction 3 = .ok (.invokestatic 45, 3) := by decide +kernel
theorem d_P_setFraction_6 : decode c_P_setFraction 6 = .ok (.lstore 6, 2) := by decide +kernel
theorem d_P_setFraction_8 : decode c_P_setFraction 8 = .ok (.lload_n 2, 1) := by decide +kernel
theorem d_P_setFraction_9 : decode c_P_setFraction 9 = .ok (.lload 6, 2) := by decide +kernel
theorem d_P_setFraction_11 : decode c_P_setFraction 11 = .ok (.ldiv, 1) := by decide +kernel
theorem d_P_setFraction_12 : decode c_P_setFraction 12 = .ok (.lstore 8, 2) := by decide +kernel
theorem d_P_setFraction_14 : decode c_P_setFraction 14 = .ok (.lload 4, 2) := by decide +kernel
theorem d_P_setFraction_16 : decode c_P_setFraction 16 = .ok (.lload 6, 2) := by decide +kernel
theorem d_P_setFraction_18 : decode c_P_setFraction 18 = .ok (.ldiv, 1) := by decide +kernel
theorem d_P_setFraction_19 : decode c_P_setFraction 19 = .ok (.lstore 10, 2) := by decide +kernel
theorem d_P_setFraction_21 : decode c_P_setFraction 21 = .ok (.aload_n 0, 1) := by decide +kernel
theorem d_P_setFraction_22 : decode c_P_setFraction 22 = .ok (.getfield 21, 3) := by decide +kernel
theorem d_P_setFraction_25 : decode c_P_setFraction 25 = .ok (.iload_n 1, 1) := by decide +kernel
theorem d_P_setFraction_26 : decode c_P_setFraction 26 = .ok (.laload, 1) := by decide +kernel
theorem d_P_setFraction_27 : decode c_P_setFraction 27 = .ok (.lload 8, 2) := by decide +kernel
theorem d_P_setFraction_29 : decode c_P_setFraction 29 = .ok (.lcmp, 1) := by decide +kernel
theorem d_P_setFraction_30 : decode c_P_setFraction 30 = .ok (.ifCond .ne 15, 3) := by decide +kernel
theorem d_P_setFraction_33 : decode c_P_setFraction 33 = .ok (.aload_n 0, 1) := by decide +kernel
theorem d_P_setFraction_34 : decode c_P_setFraction 34 = .ok (.getfield 25, 3) := by decide +kernel
theorem d_P_setFraction_37 : decode c_P_setFraction 37 = .ok (.iload_n 1, 1) := by decide +kernel
theorem d_P_setFraction_38 : decode c_P_setFraction 38 = .ok (.laload, 1) := by decide +kernel
theorem d_P_setFraction_39 : decode c_P_setFraction 39 = .ok (.lload 10, 2) := by decide +kernel
theorem d_P_setFraction_41 : decode c_P_setFraction 41 = .ok (.lcmp, 1) := by decide +kernel
theorem d_P_setFraction_42 : decode c_P_setFraction 42 = .ok (.ifCond .eq 7, 3) := by decide +kernel
theorem d_P_setFraction_45 : decode c_P_setFraction 45 = .ok (.iconst 1, 1) := by decide +kernel
theorem d_P_setFraction_46 : decode c_P_setFraction 46 = .ok (.goto 4, 3) := by decide +kernel
theorem d_P_setFraction_49 : decode c_P_setFraction 49 = .ok (.iconst 0, 1) := by decide +kernel
theorem d_P_setFraction_50 : decode c_P_setFraction 50 = .ok (.istore 12, 2) := by decide +kernel
theorem d_P_setFraction_52 : decode c_P_setFraction 52 = .ok (.aload_n 0, 1) := by decide +kernel
theorem d_P_setFraction_53 : decode c_P_setFraction 53 = .ok (.getfield 21, 3) := by decide +kernel
theorem d_P_setFraction_56 : decode c_P_setFraction 56 = .ok (.iload_n 1, 1) := by decide +kernel
theorem d_P_setFraction_57 : decode c_P_setFraction 57 = .ok (.lload 8, 2) := by decide +kernel
theorem d_P_setFraction_59 : decode c_P_setFraction 59 = .ok (.lastore, 1) := by decide +kernel
theorem d_P_setFraction_60 : decode c_P_setFraction 60 = .ok (.aload_n 0, 1) := by decide +kernel
theorem d_P_setFraction_61 : decode c_P_setFraction 61 = .ok (.getfield 25, 3) := by decide +kernel
theorem d_P_setFraction_64 : decode c_P_setFraction 64 = .ok (.iload_n 1, 1) := by decide +kernel
theorem d_P_setFraction_65 : decode c_P_setFraction 65 = .ok (.lload 10, 2) := by decide +kernel
theorem d_P_setFraction_67 : decode c_P_setFraction 67 = .ok (.lastore, 1) := by decide +kernel
theorem d_P_setFraction_68 : decode c_P_setFraction 68 = .ok (.iload 12, 2) := by decide +kernel
theorem d_P_setFraction_70 : decode c_P_setFraction 70 = .ok (.ireturn, 1) := by decide +kernel
theorem d_P_stateOn_0 : decode c_P_stateOn 0 = .ok (.aload_n 0, 1) := by decide +kernel
theorem d_P_stateOn_1 : decode c_P_stateOn 1 = .ok (.getfield 35, 3) := by decide +kernel
theorem d_P_stateOn_4 : decode c_P_stateOn 4 = .ok (.lload_n 1, 1) := by decide +kernel
theorem d_P_stateOn_5 : decode c_P_stateOn 5 = .ok (.invokevirtual 55, 3) := by decide +kernel
theorem d_P_stateOn_8 : decode c_P_stateOn 8 = .ok (.istore_n 3, 1) := by decide +kernel
theorem d_P_stateOn_9 : decode c_P_stateOn 9 = .ok (.iload_n 3, 1) := by decide +kernel
theorem d_P_stateOn_10 : decode c_P_stateOn 10 = .ok (.iconst (-1), 1) := by decide +kernel
theorem d_P_stateOn_11 : decode c_P_stateOn 11 = .ok (.if_icmp .ne 7, 3) := by decide +kernel
theorem d_P_stateOn_14 : decode c_P_stateOn 14 = .ok (.iconst 0, 1) := by decide +kernel
theorem d_P_stateOn_15 : decode c_P_stateOn 15 = .ok (.goto 12, 3) := by decide +kernel
theorem d_P_stateOn_18 : decode c_P_stateOn 18 = .ok (.aload_n 0, 1) := by decide +kernel
theorem d_P_stateOn_19 : decode c_P_stateOn 19 = .ok (.getfield 35, 3) := by decide +kernel
theorem d_P_stateOn_22 : decode c_P_stateOn 22 = .ok (.getfield 59, 3) := by decide +kernel
theorem d_P_stateOn_25 : decode c_P_stateOn 25 = .ok (.iload_n 3, 1) := by decide +kernel
theorem d_P_stateOn_26 : decode c_P_stateOn 26 = .ok (.iaload, 1) := by decide +kernel
theorem d_P_stateOn_27 : decode c_P_stateOn 27 = .ok (.ireturn, 1) := by decide +kernel
