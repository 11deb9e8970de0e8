theorem d_K_add_0 : decode c_K_add 0 = .ok (.aload_n 0, 1) := by decide +kernel
theorem d_K_add_1 : decode c_K_add 1 = .ok (.getfield 15, 3) := by decide +kernel
theorem d_K_add_4 : decode c_K_add 4 = .ok (.bipush 6, 2) := by decide +kernel
theorem d_K_add_6 : decode c_K_add 6 = .ok (.if_icmp .lt 5, 3) := by decide +kernel
theorem d_K_add_9 : decode c_K_add 9 = .ok (.iconst 0, 1) := by decide +kernel
theorem d_K_add_10 : decode c_K_add 10 = .ok (.ireturn, 1) := by decide +kernel
theorem d_K_add_11 : decode c_K_add 11 = .ok (.iconst 0, 1) := by decide +kernel
theorem d_K_add_12 : decode c_K_add 12 = .ok (.istore_n 2, 1) := by decide +kernel
theorem d_K_add_13 : decode c_K_add 13 = .ok (.iload_n 2, 1) := by decide +kernel
theorem d_K_add_14 : decode c_K_add 14 = .ok (.aload_n 0, 1) := by decide +kernel
theorem d_K_add_15 : decode c_K_add 15 = .ok (.getfield 15, 3) := by decide +kernel
theorem d_K_add_18 : decode c_K_add 18 = .ok (.if_icmp .ge 21, 3) := by decide +kernel
theorem d_K_add_21 : decode c_K_add 21 = .ok (.aload_n 0, 1) := by decide +kernel
theorem d_K_add_22 : decode c_K_add 22 = .ok (.getfield 11, 3) := by decide +kernel
theorem d_K_add_25 : decode c_K_add 25 = .ok (.iload_n 2, 1) := by decide +kernel
theorem d_K_add_26 : decode c_K_add 26 = .ok (.iaload, 1) := by decide +kernel
theorem d_K_add_27 : decode c_K_add 27 = .ok (.iload_n 1, 1) := by decide +kernel
theorem d_K_add_28 : decode c_K_add 28 = .ok (.if_icmp .ne 5, 3) := by decide +kernel
theorem d_K_add_31 : decode c_K_add 31 = .ok (.iconst 0, 1) := by decide +kernel
theorem d_K_add_32 : decode c_K_add 32 = .ok (.ireturn, 1) := by decide +kernel
theorem d_K_add_33 : decode c_K_add 33 = .ok (.iinc 2 1, 3) := by decide +kernel
theorem d_K_add_36 : decode c_K_add 36 = .ok (.goto (-23), 3) := by decide +kernel
theorem d_K_add_39 : decode c_K_add 39 = .ok (.aload_n 0, 1) := by decide +kernel
theorem d_K_add_40 : decode c_K_add 40 = .ok (.getfield 11, 3) := by decide +kernel
theorem d_K_add_43 : decode c_K_add 43 = .ok (.aload_n 0, 1) := by decide +kernel
theorem d_K_add_44 : decode c_K_add 44 = .ok (.getfield 15, 3) := by decide +kernel
theorem d_K_add_47 : decode c_K_add 47 = .ok (.iload_n 1, 1) := by decide +kernel
theorem d_K_add_48 : decode c_K_add 48 = .ok (.iastore, 1) := by decide +kernel
theorem d_K_add_49 : decode c_K_add 49 = .ok (.aload_n 0, 1) := by decide +kernel
theorem d_K_add_50 : decode c_K_add 50 = .ok (.dup, 1) := by decide +kernel
theorem d_K_add_51 : decode c_K_add 51 = .ok (.getfield 15, 3) := by decide +kernel
theorem d_K_add_54 : decode c_K_add 54 = .ok (.iconst 1, 1) := by decide +kernel
theorem d_K_add_55 : decode c_K_add 55 = .ok (.iadd, 1) := by decide +kernel
theorem d_K_add_56 : decode c_K_add 56 = .ok (.putfield 15, 3) := by decide +kernel
theorem d_K_add_59 : decode c_K_add 59 = .ok (.aload_n 0, 1) := by decide +kernel
theorem d_K_add_60 : decode c_K_add 60 = .ok (.iload_n 1, 1) := by decide +kernel
theorem d_K_add_61 : decode c_K_add 61 = .ok (.invokevirtual 23, 3) := by decide +kernel
theorem d_K_add_64 : decode c_K_add 64 = .ok (.iconst 1, 1) := by decide +kernel
theorem d_K_add_65 : decode c_K_add 65 = .ok (.ireturn, 1) := by decide +kernel
theorem d_K_addSums_0 : decode c_K_addSums 0 = .ok (.aload_n 0, 1) := by decide +kernel
theorem d_K_addSums_1 : decode c_K_addSums 1 = .ok (.getfield 19, 3) := by decide +kernel
theorem d_K_addSums_4 : decode c_K_addSums 4 = .ok (.ifnonnull 19, 3) := by decide +kernel
theorem d_K_addSums_7 : decode c_K_addSums 7 = .ok (.aload_n 0, 1) := by decide +kernel
theorem d_K_addSums_8 : decode c_K_addSums 8 = .ok (.sipush 313, 3) := by decide +kernel
theorem d_K_addSums_11 : decode c_K_addSums 11 = .ok (.newarray .long, 2) := by decide +kernel
theorem d_K_addSums_13 : decode c_K_addSums 13 = .ok (.putfield 19, 3) := by decide +kernel
theorem d_K_addSums_16 : decode c_K_addSums 16 = .ok (.aload_n 0, 1) := by decide +kernel
theorem d_K_addSums_17 : decode c_K_addSums 17 = .ok (.getfield 19, 3) := by decide +kernel
theorem d_K_addSums_20 : decode c_K_addSums 20 = .ok (.iconst 0, 1) := by decide +kernel
theorem d_K_addSums_21 : decode c_K_addSums 21 = .ok (.lconst 1, 1) := by decide +kernel
theorem d_K_addSums_22 : decode c_K_addSums 22 = .ok (.lastore, 1) := by decide +kernel
theorem d_K_addSums_23 : decode c_K_addSums 23 = .ok (.iload_n 1, 1) := by decide +kernel
theorem d_K_addSums_24 : decode c_K_addSums 24 = .ok (.iconst 1, 1) := by decide +kernel
theorem d_K_addSums_25 : decode c_K_addSums 25 = .ok (.invokestatic 27, 3) := by decide +kernel
theorem d_K_addSums_28 : decode c_K_addSums 28 = .ok (.istore_n 2, 1) := by decide +kernel
theorem d_K_addSums_29 : decode c_K_addSums 29 = .ok (.iload_n 2, 1) := by decide +kernel
theorem d_K_addSums_30 : decode c_K_addSums 30 = .ok (.sipush 20000, 3) := by decide +kernel
theorem d_K_addSums_33 : decode c_K_addSums 33 = .ok (.if_icmp .gt 18, 3) := by decide +kernel
theorem d_K_addSums_36 : decode c_K_addSums 36 = .ok (.aload_n 0, 1) := by decide +kernel
theorem d_K_addSums_37 : decode c_K_addSums 37 = .ok (.getfield 19, 3) := by decide +kernel
theorem d_K_addSums_40 : decode c_K_addSums 40 = .ok (.iload_n 2, 1) := by decide +kernel
theorem d_K_addSums_41 : decode c_K_addSums 41 = .ok (.invokestatic 33, 3) := by decide +kernel
theorem d_K_addSums_44 : decode c_K_addSums 44 = .ok (.iload_n 2, 1) := by decide +kernel
theorem d_K_addSums_45 : decode c_K_addSums 45 = .ok (.iconst 2, 1) := by decide +kernel
theorem d_K_addSums_46 : decode c_K_addSums 46 = .ok (.imul, 1) := by decide +kernel
theorem d_K_addSums_47 : decode c_K_addSums 47 = .ok (.istore_n 2, 1) := by decide +kernel
theorem d_K_addSums_48 : decode c_K_addSums 48 = .ok (.goto (-19), 3) := by decide +kernel
theorem d_K_addSums_51 : decode c_K_addSums 51 = .ok (.return_, 1) := by decide +kernel
theorem d_K_firstSum_0 : decode c_K_firstSum 0 = .ok (.lconst 0, 1) := by decide +kernel
theorem d_K_firstSum_1 : decode c_K_firstSum 1 = .ok (.lload_n 1, 1) := by decide +kernel
theorem d_K_firstSum_2 : decode c_K_firstSum 2 = .ok (.ldc2_w 37, 3) := by decide +kernel
theorem d_K_firstSum_5 : decode c_K_firstSum 5 = .ok (.invokestatic 39, 3) := by decide +kernel
theorem d_K_firstSum_8 : decode c_K_firstSum 8 = .ok (.invokestatic 43, 3) := by decide +kernel
theorem d_K_firstSum_11 : decode c_K_firstSum 11 = .ok (.l2i, 1) := by decide +kernel
theorem d_K_firstSum_12 : decode c_K_firstSum 12 = .ok (.istore 5, 2) := by decide +kernel
theorem d_K_firstSum_14 : decode c_K_firstSum 14 = .ok (.ldc2_w 45, 3) := by decide +kernel
theorem d_K_firstSum_17 : decode c_K_firstSum 17 = .ok (.lload_n 3, 1) := by decide +kernel
theorem d_K_firstSum_18 : decode c_K_firstSum 18 = .ok (.ldc2_w 47, 3) := by decide +kernel
theorem d_K_firstSum_21 : decode c_K_firstSum 21 = .ok (.invokestatic 39, 3) := by decide +kernel
theorem d_K_firstSum_24 : decode c_K_firstSum 24 = .ok (.invokestatic 43, 3) := by decide +kernel
theorem d_K_firstSum_27 : decode c_K_firstSum 27 = .ok (.l2i, 1) := by decide +kernel
theorem d_K_firstSum_28 : decode c_K_firstSum 28 = .ok (.istore 6, 2) := by decide +kernel
theorem d_K_firstSum_30 : decode c_K_firstSum 30 = .ok (.iload 5, 2) := by decide +kernel
theorem d_K_firstSum_32 : decode c_K_firstSum 32 = .ok (.iload 6, 2) := by decide +kernel
theorem d_K_firstSum_34 : decode c_K_firstSum 34 = .ok (.if_icmp .gt 73, 3) := by decide +kernel
theorem d_K_firstSum_37 : decode c_K_firstSum 37 = .ok (.aload_n 0, 1) := by decide +kernel
theorem d_K_firstSum_38 : decode c_K_firstSum 38 = .ok (.getfield 19, 3) := by decide +kernel
theorem d_K_firstSum_41 : decode c_K_firstSum 41 = .ok (.ifnonnull 7, 3) := by decide +kernel
theorem d_K_firstSum_44 : decode c_K_firstSum 44 = .ok (.lconst 1, 1) := by decide +kernel
theorem d_K_firstSum_45 : decode c_K_firstSum 45 = .ok (.goto 19, 3) := by decide +kernel
theorem d_K_firstSum_48 : decode c_K_firstSum 48 = .ok (.aload_n 0, 1) := by decide +kernel
theorem d_K_firstSum_49 : decode c_K_firstSum 49 = .ok (.getfield 19, 3) := by decide +kernel
theorem d_K_firstSum_52 : decode c_K_firstSum 52 = .ok (.iload 5, 2) := by decide +kernel
theorem d_K_firstSum_54 : decode c_K_firstSum 54 = .ok (.bipush 64, 2) := by decide +kernel
theorem d_K_firstSum_56 : decode c_K_firstSum 56 = .ok (.idiv, 1) := by decide +kernel
theorem d_K_firstSum_57 : decode c_K_firstSum 57 = .ok (.laload, 1) := by decide +kernel
theorem d_K_firstSum_58 : decode c_K_firstSum 58 = .ok (.iload 5, 2) := by decide +kernel
theorem d_K_firstSum_60 : decode c_K_firstSum 60 = .ok (.bipush 64, 2) := by decide +kernel
theorem d_K_firstSum_62 : decode c_K_firstSum 62 = .ok (.irem, 1) := by decide +kernel
theorem d_K_firstSum_63 : decode c_K_firstSum 63 = .ok (.lushr, 1) := by decide +kernel
theorem d_K_firstSum_64 : decode c_K_firstSum 64 = .ok (.lstore 7, 2) := by decide +kernel
theorem d_K_firstSum_66 : decode c_K_firstSum 66 = .ok (.lload 7, 2) := by decide +kernel
theorem d_K_firstSum_68 : decode c_K_firstSum 68 = .ok (.lconst 1, 1) := by decide +kernel
theorem d_K_firstSum_69 : decode c_K_firstSum 69 = .ok (.land, 1) := by decide +kernel
theorem d_K_firstSum_70 : decode c_K_firstSum 70 = .ok (.lconst 0, 1) := by decide +kernel
theorem d_K_firstSum_71 : decode c_K_firstSum 71 = .ok (.lcmp, 1) := by decide +kernel
theorem d_K_firstSum_72 : decode c_K_firstSum 72 = .ok (.ifCond .eq 6, 3) := by decide +kernel
theorem d_K_firstSum_75 : decode c_K_firstSum 75 = .ok (.iload 5, 2) := by decide +kernel
theorem d_K_firstSum_77 : decode c_K_firstSum 77 = .ok (.ireturn, 1) := by decide +kernel
theorem d_K_firstSum_78 : decode c_K_firstSum 78 = .ok (.lload 7, 2) := by decide +kernel
theorem d_K_firstSum_80 : decode c_K_firstSum 80 = .ok (.lconst 0, 1) := by decide +kernel
theorem d_K_firstSum_81 : decode c_K_firstSum 81 = .ok (.lcmp, 1) := by decide +kernel
theorem d_K_firstSum_82 : decode c_K_firstSum 82 = .ok (.ifCond .ne 16, 3) := by decide +kernel
theorem d_K_firstSum_85 : decode c_K_firstSum 85 = .ok (.iload 5, 2) := by decide +kernel
theorem d_K_firstSum_87 : decode c_K_firstSum 87 = .ok (.bipush 64, 2) := by decide +kernel
theorem d_K_firstSum_89 : decode c_K_firstSum 89 = .ok (.idiv, 1) := by decide +kernel
theorem d_K_firstSum_90 : decode c_K_firstSum 90 = .ok (.iconst 1, 1) := by decide +kernel
theorem d_K_firstSum_91 : decode c_K_firstSum 91 = .ok (.iadd, 1) := by decide +kernel
theorem d_K_firstSum_92 : decode c_K_firstSum 92 = .ok (.bipush 64, 2) := by decide +kernel
theorem d_K_firstSum_94 : decode c_K_firstSum 94 = .ok (.imul, 1) := by decide +kernel
theorem d_K_firstSum_95 : decode c_K_firstSum 95 = .ok (.goto 7, 3) := by decide +kernel
theorem d_K_firstSum_98 : decode c_K_firstSum 98 = .ok (.iload 5, 2) := by decide +kernel
theorem d_K_firstSum_100 : decode c_K_firstSum 100 = .ok (.iconst 1, 1) := by decide +kernel
theorem d_K_firstSum_101 : decode c_K_firstSum 101 = .ok (.iadd, 1) := by decide +kernel
theorem d_K_firstSum_102 : decode c_K_firstSum 102 = .ok (.istore 5, 2) := by decide +kernel
theorem d_K_firstSum_104 : decode c_K_firstSum 104 = .ok (.goto (-74), 3) := by decide +kernel
theorem d_K_firstSum_107 : decode c_K_firstSum 107 = .ok (.iconst (-1), 1) := by decide +kernel
theorem d_K_firstSum_108 : decode c_K_firstSum 108 = .ok (.ireturn, 1) := by decide +kernel
theorem d_K_init_0 : decode c_K_init 0 = .ok (.aload_n 0, 1) := by decide +kernel
theorem d_K_init_1 : decode c_K_init 1 = .ok (.invokespecial 3, 3) := by decide +kernel
theorem d_K_init_4 : decode c_K_init 4 = .ok (.aload_n 0, 1) := by decide +kernel
theorem d_K_init_5 : decode c_K_init 5 = .ok (.bipush 6, 2) := by decide +kernel
theorem d_K_init_7 : decode c_K_init 7 = .ok (.newarray .int, 2) := by decide +kernel
theorem d_K_init_9 : decode c_K_init 9 = .ok (.putfield 11, 3) := by decide +kernel
theorem d_K_init_12 : decode c_K_init 12 = .ok (.aload_n 0, 1) := by decide +kernel
theorem d_K_init_13 : decode c_K_init 13 = .ok (.iconst 0, 1) := by decide +kernel
theorem d_K_init_14 : decode c_K_init 14 = .ok (.putfield 15, 3) := by decide +kernel
theorem d_K_init_17 : decode c_K_init 17 = .ok (.aload_n 0, 1) := by decide +kernel
theorem d_K_init_18 : decode c_K_init 18 = .ok (.aconst_null, 1) := by decide +kernel
theorem d_K_init_19 : decode c_K_init 19 = .ok (.putfield 19, 3) := by decide +kernel
theorem d_K_init_22 : decode c_K_init 22 = .ok (.return_, 1) := by decide +kernel
theorem d_K_joinShifted_0 : decode c_K_joinShifted 0 = .ok (.iload_n 1, 1) := by decide +kernel
theorem d_K_joinShifted_1 : decode c_K_joinShifted 1 = .ok (.bipush 64, 2) := by decide +kernel
theorem d_K_joinShifted_3 : decode c_K_joinShifted 3 = .ok (.idiv, 1) := by decide +kernel
theorem d_K_joinShifted_4 : decode c_K_joinShifted 4 = .ok (.istore_n 2, 1) := by decide +kernel
theorem d_K_joinShifted_5 : decode c_K_joinShifted 5 = .ok (.iload_n 1, 1) := by decide +kernel
theorem d_K_joinShifted_6 : decode c_K_joinShifted 6 = .ok (.bipush 64, 2) := by decide +kernel
theorem d_K_joinShifted_8 : decode c_K_joinShifted 8 = .ok (.irem, 1) := by decide +kernel
theorem d_K_joinShifted_9 : decode c_K_joinShifted 9 = .ok (.istore_n 3, 1) := by decide +kernel
theorem d_K_joinShifted_10 : decode c_K_joinShifted 10 = .ok (.aload_n 0, 1) := by decide +kernel
theorem d_K_joinShifted_11 : decode c_K_joinShifted 11 = .ok (.arraylength, 1) := by decide +kernel
theorem d_K_joinShifted_12 : decode c_K_joinShifted 12 = .ok (.iconst 1, 1) := by decide +kernel
theorem d_K_joinShifted_13 : decode c_K_joinShifted 13 = .ok (.isub, 1) := by decide +kernel
theorem d_K_joinShifted_14 : decode c_K_joinShifted 14 = .ok (.istore 4, 2) := by decide +kernel
theorem d_K_joinShifted_16 : decode c_K_joinShifted 16 = .ok (.iload 4, 2) := by decide +kernel
theorem d_K_joinShifted_18 : decode c_K_joinShifted 18 = .ok (.iload_n 2, 1) := by decide +kernel
theorem d_K_joinShifted_19 : decode c_K_joinShifted 19 = .ok (.if_icmp .lt 56, 3) := by decide +kernel
theorem d_K_joinShifted_22 : decode c_K_joinShifted 22 = .ok (.aload_n 0, 1) := by decide +kernel
theorem d_K_joinShifted_23 : decode c_K_joinShifted 23 = .ok (.iload 4, 2) := by decide +kernel
theorem d_K_joinShifted_25 : decode c_K_joinShifted 25 = .ok (.iload_n 2, 1) := by decide +kernel
theorem d_K_joinShifted_26 : decode c_K_joinShifted 26 = .ok (.isub, 1) := by decide +kernel
theorem d_K_joinShifted_27 : decode c_K_joinShifted 27 = .ok (.laload, 1) := by decide +kernel
theorem d_K_joinShifted_28 : decode c_K_joinShifted 28 = .ok (.iload_n 3, 1) := by decide +kernel
theorem d_K_joinShifted_29 : decode c_K_joinShifted 29 = .ok (.lshl, 1) := by decide +kernel
theorem d_K_joinShifted_30 : decode c_K_joinShifted 30 = .ok (.lstore 5, 2) := by decide +kernel
theorem d_K_joinShifted_32 : decode c_K_joinShifted 32 = .ok (.iload_n 3, 1) := by decide +kernel
theorem d_K_joinShifted_33 : decode c_K_joinShifted 33 = .ok (.ifCond .eq 27, 3) := by decide +kernel
theorem d_K_joinShifted_36 : decode c_K_joinShifted 36 = .ok (.iload 4, 2) := by decide +kernel
theorem d_K_joinShifted_38 : decode c_K_joinShifted 38 = .ok (.iload_n 2, 1) := by decide +kernel
theorem d_K_joinShifted_39 : decode c_K_joinShifted 39 = .ok (.if_icmp .le 21, 3) := by decide +kernel
theorem d_K_joinShifted_42 : decode c_K_joinShifted 42 = .ok (.lload 5, 2) := by decide +kernel
theorem d_K_joinShifted_44 : decode c_K_joinShifted 44 = .ok (.aload_n 0, 1) := by decide +kernel
theorem d_K_joinShifted_45 : decode c_K_joinShifted 45 = .ok (.iload 4, 2) := by decide +kernel
theorem d_K_joinShifted_47 : decode c_K_joinShifted 47 = .ok (.iload_n 2, 1) := by decide +kernel
theorem d_K_joinShifted_48 : decode c_K_joinShifted 48 = .ok (.isub, 1) := by decide +kernel
theorem d_K_joinShifted_49 : decode c_K_joinShifted 49 = .ok (.iconst 1, 1) := by decide +kernel
theorem d_K_joinShifted_50 : decode c_K_joinShifted 50 = .ok (.isub, 1) := by decide +kernel
theorem d_K_joinShifted_51 : decode c_K_joinShifted 51 = .ok (.laload, 1) := by decide +kernel
theorem d_K_joinShifted_52 : decode c_K_joinShifted 52 = .ok (.bipush 64, 2) := by decide +kernel
theorem d_K_joinShifted_54 : decode c_K_joinShifted 54 = .ok (.iload_n 3, 1) := by decide +kernel
theorem d_K_joinShifted_55 : decode c_K_joinShifted 55 = .ok (.isub, 1) := by decide +kernel
theorem d_K_joinShifted_56 : decode c_K_joinShifted 56 = .ok (.lushr, 1) := by decide +kernel
theorem d_K_joinShifted_57 : decode c_K_joinShifted 57 = .ok (.lor, 1) := by decide +kernel
theorem d_K_joinShifted_58 : decode c_K_joinShifted 58 = .ok (.lstore 5, 2) := by decide +kernel
theorem d_K_joinShifted_60 : decode c_K_joinShifted 60 = .ok (.aload_n 0, 1) := by decide +kernel
theorem d_K_joinShifted_61 : decode c_K_joinShifted 61 = .ok (.iload 4, 2) := by decide +kernel
theorem d_K_joinShifted_63 : decode c_K_joinShifted 63 = .ok (.dup2, 1) := by decide +kernel
theorem d_K_joinShifted_64 : decode c_K_joinShifted 64 = .ok (.laload, 1) := by decide +kernel
theorem d_K_joinShifted_65 : decode c_K_joinShifted 65 = .ok (.lload 5, 2) := by decide +kernel
theorem d_K_joinShifted_67 : decode c_K_joinShifted 67 = .ok (.lor, 1) := by decide +kernel
theorem d_K_joinShifted_68 : decode c_K_joinShifted 68 = .ok (.lastore, 1) := by decide +kernel
theorem d_K_joinShifted_69 : decode c_K_joinShifted 69 = .ok (.iinc 4 (-1), 3) := by decide +kernel
theorem d_K_joinShifted_72 : decode c_K_joinShifted 72 = .ok (.goto (-56), 3) := by decide +kernel
theorem d_K_joinShifted_75 : decode c_K_joinShifted 75 = .ok (.return_, 1) := by decide +kernel
