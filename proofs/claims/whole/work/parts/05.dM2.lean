theorem d_M_cost_28 : decode c_M_cost 28 = .ok (.aload_n 0, 1) := by decide +kernel
theorem d_M_cost_29 : decode c_M_cost 29 = .ok (.getfield 68, 3) := by decide +kernel
theorem d_M_cost_32 : decode c_M_cost 32 = .ok (.ifCond .eq 5, 3) := by decide +kernel
theorem d_M_cost_35 : decode c_M_cost 35 = .ok (.lconst 0, 1) := by decide +kernel
theorem d_M_cost_36 : decode c_M_cost 36 = .ok (.lreturn, 1) := by decide +kernel
theorem d_M_cost_37 : decode c_M_cost 37 = .ok (.aload_n 0, 1) := by decide +kernel
theorem d_M_cost_38 : decode c_M_cost 38 = .ok (.iload_n 1, 1) := by decide +kernel
theorem d_M_cost_39 : decode c_M_cost 39 = .ok (.iload_n 2, 1) := by decide +kernel
theorem d_M_cost_40 : decode c_M_cost 40 = .ok (.invokevirtual 151, 3) := by decide +kernel
theorem d_M_cost_43 : decode c_M_cost 43 = .ok (.istore_n 3, 1) := by decide +kernel
theorem d_M_cost_44 : decode c_M_cost 44 = .ok (.iload_n 3, 1) := by decide +kernel
theorem d_M_cost_45 : decode c_M_cost 45 = .ok (.iconst (-1), 1) := by decide +kernel
theorem d_M_cost_46 : decode c_M_cost 46 = .ok (.if_icmp .ne 9, 3) := by decide +kernel
theorem d_M_cost_49 : decode c_M_cost 49 = .ok (.ldc2_w 82, 3) := by decide +kernel
theorem d_M_cost_52 : decode c_M_cost 52 = .ok (.goto 7, 3) := by decide +kernel
theorem d_M_cost_55 : decode c_M_cost 55 = .ok (.aload_n 0, 1) := by decide +kernel
theorem d_M_cost_56 : decode c_M_cost 56 = .ok (.getfield 140, 3) := by decide +kernel
theorem d_M_cost_59 : decode c_M_cost 59 = .ok (.lreturn, 1) := by decide +kernel
theorem d_M_derate_0 : decode c_M_derate 0 = .ok (.lload_n 3, 1) := by decide +kernel
theorem d_M_derate_1 : decode c_M_derate 1 = .ok (.invokestatic 84, 3) := by decide +kernel
theorem d_M_derate_4 : decode c_M_derate 4 = .ok (.ifCond .eq 28, 3) := by decide +kernel
theorem d_M_derate_7 : decode c_M_derate 7 = .ok (.lload 5, 2) := by decide +kernel
theorem d_M_derate_9 : decode c_M_derate 9 = .ok (.invokestatic 88, 3) := by decide +kernel
theorem d_M_derate_12 : decode c_M_derate 12 = .ok (.ifCond .eq 20, 3) := by decide +kernel
theorem d_M_derate_15 : decode c_M_derate 15 = .ok (.iload 7, 2) := by decide +kernel
theorem d_M_derate_17 : decode c_M_derate 17 = .ok (.iconst 1, 1) := by decide +kernel
theorem d_M_derate_18 : decode c_M_derate 18 = .ok (.if_icmp .lt 14, 3) := by decide +kernel
theorem d_M_derate_21 : decode c_M_derate 21 = .ok (.iload 7, 2) := by decide +kernel
theorem d_M_derate_23 : decode c_M_derate 23 = .ok (.bipush 100, 2) := by decide +kernel
theorem d_M_derate_25 : decode c_M_derate 25 = .ok (.if_icmp .gt 7, 3) := by decide +kernel
theorem d_M_derate_28 : decode c_M_derate 28 = .ok (.iconst 1, 1) := by decide +kernel
theorem d_M_derate_29 : decode c_M_derate 29 = .ok (.goto 4, 3) := by decide +kernel
theorem d_M_derate_32 : decode c_M_derate 32 = .ok (.iconst 0, 1) := by decide +kernel
theorem d_M_derate_33 : decode c_M_derate 33 = .ok (.istore 8, 2) := by decide +kernel
theorem d_M_derate_35 : decode c_M_derate 35 = .ok (.aload_n 0, 1) := by decide +kernel
theorem d_M_derate_36 : decode c_M_derate 36 = .ok (.aload_n 0, 1) := by decide +kernel
theorem d_M_derate_37 : decode c_M_derate 37 = .ok (.iload_n 1, 1) := by decide +kernel
theorem d_M_derate_38 : decode c_M_derate 38 = .ok (.invokevirtual 91, 3) := by decide +kernel
theorem d_M_derate_41 : decode c_M_derate 41 = .ok (.ifCond .eq 10, 3) := by decide +kernel
theorem d_M_derate_44 : decode c_M_derate 44 = .ok (.iload_n 2, 1) := by decide +kernel
theorem d_M_derate_45 : decode c_M_derate 45 = .ok (.invokestatic 95, 3) := by decide +kernel
theorem d_M_derate_48 : decode c_M_derate 48 = .ok (.ifCond .ne 7, 3) := by decide +kernel
theorem d_M_derate_51 : decode c_M_derate 51 = .ok (.iconst 1, 1) := by decide +kernel
theorem d_M_derate_52 : decode c_M_derate 52 = .ok (.goto 13, 3) := by decide +kernel
theorem d_M_derate_55 : decode c_M_derate 55 = .ok (.iload 8, 2) := by decide +kernel
theorem d_M_derate_57 : decode c_M_derate 57 = .ok (.ifCond .eq 7, 3) := by decide +kernel
theorem d_M_derate_60 : decode c_M_derate 60 = .ok (.iconst 0, 1) := by decide +kernel
theorem d_M_derate_61 : decode c_M_derate 61 = .ok (.goto 4, 3) := by decide +kernel
theorem d_M_derate_64 : decode c_M_derate 64 = .ok (.iconst 2, 1) := by decide +kernel
theorem d_M_derate_65 : decode c_M_derate 65 = .ok (.putfield 68, 3) := by decide +kernel
theorem d_M_derate_68 : decode c_M_derate 68 = .ok (.aload_n 0, 1) := by decide +kernel
theorem d_M_derate_69 : decode c_M_derate 69 = .ok (.getfield 68, 3) := by decide +kernel
theorem d_M_derate_72 : decode c_M_derate 72 = .ok (.ifCond .eq 5, 3) := by decide +kernel
theorem d_M_derate_75 : decode c_M_derate 75 = .ok (.iconst 0, 1) := by decide +kernel
theorem d_M_derate_76 : decode c_M_derate 76 = .ok (.ireturn, 1) := by decide +kernel
theorem d_M_derate_77 : decode c_M_derate 77 = .ok (.aload_n 0, 1) := by decide +kernel
theorem d_M_derate_78 : decode c_M_derate 78 = .ok (.iload_n 1, 1) := by decide +kernel
theorem d_M_derate_79 : decode c_M_derate 79 = .ok (.iload_n 2, 1) := by decide +kernel
theorem d_M_derate_80 : decode c_M_derate 80 = .ok (.invokevirtual 104, 3) := by decide +kernel
theorem d_M_derate_83 : decode c_M_derate 83 = .ok (.ifCond .ne 5, 3) := by decide +kernel
theorem d_M_derate_86 : decode c_M_derate 86 = .ok (.iconst (-1), 1) := by decide +kernel
theorem d_M_derate_87 : decode c_M_derate 87 = .ok (.ireturn, 1) := by decide +kernel
theorem d_M_derate_88 : decode c_M_derate 88 = .ok (.bipush 12, 2) := by decide +kernel
theorem d_M_derate_90 : decode c_M_derate 90 = .ok (.iload_n 1, 1) := by decide +kernel
theorem d_M_derate_91 : decode c_M_derate 91 = .ok (.imul, 1) := by decide +kernel
theorem d_M_derate_92 : decode c_M_derate 92 = .ok (.iload_n 2, 1) := by decide +kernel
theorem d_M_derate_93 : decode c_M_derate 93 = .ok (.iadd, 1) := by decide +kernel
theorem d_M_derate_94 : decode c_M_derate 94 = .ok (.istore 9, 2) := by decide +kernel
theorem d_M_derate_96 : decode c_M_derate 96 = .ok (.ldc2_w 169, 3) := by decide +kernel
theorem d_M_derate_99 : decode c_M_derate 99 = .ok (.lload_n 3, 1) := by decide +kernel
theorem d_M_derate_100 : decode c_M_derate 100 = .ok (.lmul, 1) := by decide +kernel
theorem d_M_derate_101 : decode c_M_derate 101 = .ok (.lload 5, 2) := by decide +kernel
theorem d_M_derate_103 : decode c_M_derate 103 = .ok (.iload 7, 2) := by decide +kernel
theorem d_M_derate_105 : decode c_M_derate 105 = .ok (.i2l, 1) := by decide +kernel
theorem d_M_derate_106 : decode c_M_derate 106 = .ok (.lmul, 1) := by decide +kernel
theorem d_M_derate_107 : decode c_M_derate 107 = .ok (.aload_n 0, 1) := by decide +kernel
theorem d_M_derate_108 : decode c_M_derate 108 = .ok (.getfield 16, 3) := by decide +kernel
theorem d_M_derate_111 : decode c_M_derate 111 = .ok (.iload 9, 2) := by decide +kernel
theorem d_M_derate_113 : decode c_M_derate 113 = .ok (.laload, 1) := by decide +kernel
theorem d_M_derate_114 : decode c_M_derate 114 = .ok (.aload_n 0, 1) := by decide +kernel
theorem d_M_derate_115 : decode c_M_derate 115 = .ok (.getfield 20, 3) := by decide +kernel
theorem d_M_derate_118 : decode c_M_derate 118 = .ok (.iload 9, 2) := by decide +kernel
theorem d_M_derate_120 : decode c_M_derate 120 = .ok (.laload, 1) := by decide +kernel
theorem d_M_derate_121 : decode c_M_derate 121 = .ok (.invokestatic 108, 3) := by decide +kernel
theorem d_M_derate_124 : decode c_M_derate 124 = .ok (.ifCond .gt 7, 3) := by decide +kernel
theorem d_M_derate_127 : decode c_M_derate 127 = .ok (.iconst 1, 1) := by decide +kernel
theorem d_M_derate_128 : decode c_M_derate 128 = .ok (.goto 4, 3) := by decide +kernel
theorem d_M_derate_131 : decode c_M_derate 131 = .ok (.iconst 0, 1) := by decide +kernel
theorem d_M_derate_132 : decode c_M_derate 132 = .ok (.ireturn, 1) := by decide +kernel
theorem d_M_find_0 : decode c_M_find 0 = .ok (.aload_n 0, 1) := by decide +kernel
theorem d_M_find_1 : decode c_M_find 1 = .ok (.getfield 119, 3) := by decide +kernel
theorem d_M_find_4 : decode c_M_find 4 = .ok (.istore_n 3, 1) := by decide +kernel
theorem d_M_find_5 : decode c_M_find 5 = .ok (.iload_n 3, 1) := by decide +kernel
theorem d_M_find_6 : decode c_M_find 6 = .ok (.ifCond .le 7, 3) := by decide +kernel
theorem d_M_find_9 : decode c_M_find 9 = .ok (.iconst 1, 1) := by decide +kernel
theorem d_M_find_10 : decode c_M_find 10 = .ok (.goto 4, 3) := by decide +kernel
theorem d_M_find_13 : decode c_M_find 13 = .ok (.iconst 0, 1) := by decide +kernel
theorem d_M_find_14 : decode c_M_find 14 = .ok (.istore 4, 2) := by decide +kernel
theorem d_M_find_16 : decode c_M_find 16 = .ok (.iload 4, 2) := by decide +kernel
theorem d_M_find_18 : decode c_M_find 18 = .ok (.ifCond .eq 93, 3) := by decide +kernel
theorem d_M_find_21 : decode c_M_find 21 = .ok (.aload_n 0, 1) := by decide +kernel
theorem d_M_find_22 : decode c_M_find 22 = .ok (.getfield 26, 3) := by decide +kernel
theorem d_M_find_25 : decode c_M_find 25 = .ok (.iload_n 3, 1) := by decide +kernel
theorem d_M_find_26 : decode c_M_find 26 = .ok (.iconst 1, 1) := by decide +kernel
theorem d_M_find_27 : decode c_M_find 27 = .ok (.isub, 1) := by decide +kernel
theorem d_M_find_28 : decode c_M_find 28 = .ok (.iaload, 1) := by decide +kernel
theorem d_M_find_29 : decode c_M_find 29 = .ok (.istore 5, 2) := by decide +kernel
theorem d_M_find_31 : decode c_M_find 31 = .ok (.iload_n 2, 1) := by decide +kernel
theorem d_M_find_32 : decode c_M_find 32 = .ok (.ifCond .ge 7, 3) := by decide +kernel
theorem d_M_find_35 : decode c_M_find 35 = .ok (.iconst 0, 1) := by decide +kernel
theorem d_M_find_36 : decode c_M_find 36 = .ok (.goto 11, 3) := by decide +kernel
theorem d_M_find_39 : decode c_M_find 39 = .ok (.aload_n 0, 1) := by decide +kernel
theorem d_M_find_40 : decode c_M_find 40 = .ok (.iload_n 1, 1) := by decide +kernel
theorem d_M_find_41 : decode c_M_find 41 = .ok (.iload 5, 2) := by decide +kernel
theorem d_M_find_43 : decode c_M_find 43 = .ok (.iload_n 2, 1) := by decide +kernel
theorem d_M_find_44 : decode c_M_find 44 = .ok (.invokevirtual 115, 3) := by decide +kernel
theorem d_M_find_47 : decode c_M_find 47 = .ok (.istore 6, 2) := by decide +kernel
theorem d_M_find_49 : decode c_M_find 49 = .ok (.iload 6, 2) := by decide +kernel
theorem d_M_find_51 : decode c_M_find 51 = .ok (.ifCond .eq 16, 3) := by decide +kernel
theorem d_M_find_54 : decode c_M_find 54 = .ok (.iload 6, 2) := by decide +kernel
theorem d_M_find_56 : decode c_M_find 56 = .ok (.ifCond .ge 7, 3) := by decide +kernel
theorem d_M_find_59 : decode c_M_find 59 = .ok (.iconst 1, 1) := by decide +kernel
theorem d_M_find_60 : decode c_M_find 60 = .ok (.goto 14, 3) := by decide +kernel
theorem d_M_find_63 : decode c_M_find 63 = .ok (.iconst 0, 1) := by decide +kernel
theorem d_M_find_64 : decode c_M_find 64 = .ok (.goto 10, 3) := by decide +kernel
theorem d_M_find_67 : decode c_M_find 67 = .ok (.aload_n 0, 1) := by decide +kernel
theorem d_M_find_68 : decode c_M_find 68 = .ok (.iload_n 1, 1) := by decide +kernel
theorem d_M_find_69 : decode c_M_find 69 = .ok (.iload 5, 2) := by decide +kernel
theorem d_M_find_71 : decode c_M_find 71 = .ok (.invokevirtual 122, 3) := by decide +kernel
theorem d_M_find_74 : decode c_M_find 74 = .ok (.istore 7, 2) := by decide +kernel
theorem d_M_find_76 : decode c_M_find 76 = .ok (.iload 7, 2) := by decide +kernel
theorem d_M_find_78 : decode c_M_find 78 = .ok (.ifCond .eq 14, 3) := by decide +kernel
theorem d_M_find_81 : decode c_M_find 81 = .ok (.aload_n 0, 1) := by decide +kernel
theorem d_M_find_82 : decode c_M_find 82 = .ok (.getfield 26, 3) := by decide +kernel
theorem d_M_find_85 : decode c_M_find 85 = .ok (.iload_n 3, 1) := by decide +kernel
theorem d_M_find_86 : decode c_M_find 86 = .ok (.iload 5, 2) := by decide +kernel
theorem d_M_find_88 : decode c_M_find 88 = .ok (.iastore, 1) := by decide +kernel
theorem d_M_find_89 : decode c_M_find 89 = .ok (.iinc 3 (-1), 3) := by decide +kernel
theorem d_M_find_92 : decode c_M_find 92 = .ok (.iload 7, 2) := by decide +kernel
theorem d_M_find_94 : decode c_M_find 94 = .ok (.ifCond .eq 11, 3) := by decide +kernel
theorem d_M_find_97 : decode c_M_find 97 = .ok (.iload_n 3, 1) := by decide +kernel
theorem d_M_find_98 : decode c_M_find 98 = .ok (.ifCond .le 7, 3) := by decide +kernel
theorem d_M_find_101 : decode c_M_find 101 = .ok (.iconst 1, 1) := by decide +kernel
theorem d_M_find_102 : decode c_M_find 102 = .ok (.goto 4, 3) := by decide +kernel
theorem d_M_find_105 : decode c_M_find 105 = .ok (.iconst 0, 1) := by decide +kernel
theorem d_M_find_106 : decode c_M_find 106 = .ok (.istore 4, 2) := by decide +kernel
theorem d_M_find_108 : decode c_M_find 108 = .ok (.goto (-92), 3) := by decide +kernel
theorem d_M_find_111 : decode c_M_find 111 = .ok (.aload_n 0, 1) := by decide +kernel
theorem d_M_find_112 : decode c_M_find 112 = .ok (.getfield 26, 3) := by decide +kernel
theorem d_M_find_115 : decode c_M_find 115 = .ok (.iload_n 3, 1) := by decide +kernel
theorem d_M_find_116 : decode c_M_find 116 = .ok (.iload_n 1, 1) := by decide +kernel
theorem d_M_find_117 : decode c_M_find 117 = .ok (.iastore, 1) := by decide +kernel
theorem d_M_find_118 : decode c_M_find 118 = .ok (.aload_n 0, 1) := by decide +kernel
theorem d_M_find_119 : decode c_M_find 119 = .ok (.dup, 1) := by decide +kernel
theorem d_M_find_120 : decode c_M_find 120 = .ok (.getfield 119, 3) := by decide +kernel
theorem d_M_find_123 : decode c_M_find 123 = .ok (.iconst 1, 1) := by decide +kernel
theorem d_M_find_124 : decode c_M_find 124 = .ok (.iadd, 1) := by decide +kernel
theorem d_M_find_125 : decode c_M_find 125 = .ok (.putfield 119, 3) := by decide +kernel
theorem d_M_find_128 : decode c_M_find 128 = .ok (.return_, 1) := by decide +kernel
theorem d_M_findSums_0 : decode c_M_findSums 0 = .ok (.aload_n 0, 1) := by decide +kernel
theorem d_M_findSums_1 : decode c_M_findSums 1 = .ok (.getfield 62, 3) := by decide +kernel
theorem d_M_findSums_4 : decode c_M_findSums 4 = .ok (.iconst 0, 1) := by decide +kernel
theorem d_M_findSums_5 : decode c_M_findSums 5 = .ok (.iconst 1, 1) := by decide +kernel
theorem d_M_findSums_6 : decode c_M_findSums 6 = .ok (.bastore, 1) := by decide +kernel
theorem d_M_findSums_7 : decode c_M_findSums 7 = .ok (.iconst 1, 1) := by decide +kernel
theorem d_M_findSums_8 : decode c_M_findSums 8 = .ok (.istore_n 2, 1) := by decide +kernel
theorem d_M_findSums_9 : decode c_M_findSums 9 = .ok (.iload_n 2, 1) := by decide +kernel
theorem d_M_findSums_10 : decode c_M_findSums 10 = .ok (.aload_n 0, 1) := by decide +kernel
theorem d_M_findSums_11 : decode c_M_findSums 11 = .ok (.getfield 50, 3) := by decide +kernel
theorem d_M_findSums_14 : decode c_M_findSums 14 = .ok (.iload_n 1, 1) := by decide +kernel
theorem d_M_findSums_15 : decode c_M_findSums 15 = .ok (.iaload, 1) := by decide +kernel
theorem d_M_findSums_16 : decode c_M_findSums 16 = .ok (.if_icmp .gt 97, 3) := by decide +kernel
theorem d_M_findSums_19 : decode c_M_findSums 19 = .ok (.aload_n 0, 1) := by decide +kernel
theorem d_M_findSums_20 : decode c_M_findSums 20 = .ok (.getfield 44, 3) := by decide +kernel
theorem d_M_findSums_23 : decode c_M_findSums 23 = .ok (.iload_n 1, 1) := by decide +kernel
theorem d_M_findSums_24 : decode c_M_findSums 24 = .ok (.iaload, 1) := by decide +kernel
theorem d_M_findSums_25 : decode c_M_findSums 25 = .ok (.ifCond .ne 7, 3) := by decide +kernel
theorem d_M_findSums_28 : decode c_M_findSums 28 = .ok (.iconst 1, 1) := by decide +kernel
theorem d_M_findSums_29 : decode c_M_findSums 29 = .ok (.goto 4, 3) := by decide +kernel
theorem d_M_findSums_32 : decode c_M_findSums 32 = .ok (.iconst 0, 1) := by decide +kernel
theorem d_M_findSums_33 : decode c_M_findSums 33 = .ok (.istore_n 3, 1) := by decide +kernel
theorem d_M_findSums_34 : decode c_M_findSums 34 = .ok (.bipush 6, 2) := by decide +kernel
theorem d_M_findSums_36 : decode c_M_findSums 36 = .ok (.iload_n 1, 1) := by decide +kernel
theorem d_M_findSums_37 : decode c_M_findSums 37 = .ok (.imul, 1) := by decide +kernel
theorem d_M_findSums_38 : decode c_M_findSums 38 = .ok (.istore 4, 2) := by decide +kernel
theorem d_M_findSums_40 : decode c_M_findSums 40 = .ok (.iload 4, 2) := by decide +kernel
theorem d_M_findSums_42 : decode c_M_findSums 42 = .ok (.bipush 6, 2) := by decide +kernel
theorem d_M_findSums_44 : decode c_M_findSums 44 = .ok (.iload_n 1, 1) := by decide +kernel
theorem d_M_findSums_45 : decode c_M_findSums 45 = .ok (.imul, 1) := by decide +kernel
theorem d_M_findSums_46 : decode c_M_findSums 46 = .ok (.aload_n 0, 1) := by decide +kernel
theorem d_M_findSums_47 : decode c_M_findSums 47 = .ok (.getfield 44, 3) := by decide +kernel
theorem d_M_findSums_50 : decode c_M_findSums 50 = .ok (.iload_n 1, 1) := by decide +kernel
theorem d_M_findSums_51 : decode c_M_findSums 51 = .ok (.iaload, 1) := by decide +kernel
theorem d_M_findSums_52 : decode c_M_findSums 52 = .ok (.iadd, 1) := by decide +kernel
theorem d_M_findSums_53 : decode c_M_findSums 53 = .ok (.if_icmp .ge 47, 3) := by decide +kernel
theorem d_M_findSums_56 : decode c_M_findSums 56 = .ok (.iload_n 3, 1) := by decide +kernel
theorem d_M_findSums_57 : decode c_M_findSums 57 = .ok (.ifCond .ne 43, 3) := by decide +kernel
theorem d_M_findSums_60 : decode c_M_findSums 60 = .ok (.aload_n 0, 1) := by decide +kernel
theorem d_M_findSums_61 : decode c_M_findSums 61 = .ok (.getfield 47, 3) := by decide +kernel
theorem d_M_findSums_64 : decode c_M_findSums 64 = .ok (.iload 4, 2) := by decide +kernel
theorem d_M_findSums_66 : decode c_M_findSums 66 = .ok (.iaload, 1) := by decide +kernel
theorem d_M_findSums_67 : decode c_M_findSums 67 = .ok (.iload_n 2, 1) := by decide +kernel
theorem d_M_findSums_68 : decode c_M_findSums 68 = .ok (.if_icmp .gt 24, 3) := by decide +kernel
theorem d_M_findSums_71 : decode c_M_findSums 71 = .ok (.aload_n 0, 1) := by decide +kernel
theorem d_M_findSums_72 : decode c_M_findSums 72 = .ok (.getfield 62, 3) := by decide +kernel
theorem d_M_findSums_75 : decode c_M_findSums 75 = .ok (.iload_n 2, 1) := by decide +kernel
theorem d_M_findSums_76 : decode c_M_findSums 76 = .ok (.aload_n 0, 1) := by decide +kernel
theorem d_M_findSums_77 : decode c_M_findSums 77 = .ok (.getfield 47, 3) := by decide +kernel
theorem d_M_findSums_80 : decode c_M_findSums 80 = .ok (.iload 4, 2) := by decide +kernel
theorem d_M_findSums_82 : decode c_M_findSums 82 = .ok (.iaload, 1) := by decide +kernel
theorem d_M_findSums_83 : decode c_M_findSums 83 = .ok (.isub, 1) := by decide +kernel
theorem d_M_findSums_84 : decode c_M_findSums 84 = .ok (.baload, 1) := by decide +kernel
theorem d_M_findSums_85 : decode c_M_findSums 85 = .ok (.ifCond .eq 7, 3) := by decide +kernel
theorem d_M_findSums_88 : decode c_M_findSums 88 = .ok (.iconst 1, 1) := by decide +kernel
theorem d_M_findSums_89 : decode c_M_findSums 89 = .ok (.goto 4, 3) := by decide +kernel
theorem d_M_findSums_92 : decode c_M_findSums 92 = .ok (.iconst 0, 1) := by decide +kernel
theorem d_M_findSums_93 : decode c_M_findSums 93 = .ok (.istore_n 3, 1) := by decide +kernel
theorem d_M_findSums_94 : decode c_M_findSums 94 = .ok (.iinc 4 1, 3) := by decide +kernel
theorem d_M_findSums_97 : decode c_M_findSums 97 = .ok (.goto (-57), 3) := by decide +kernel
theorem d_M_findSums_100 : decode c_M_findSums 100 = .ok (.aload_n 0, 1) := by decide +kernel
theorem d_M_findSums_101 : decode c_M_findSums 101 = .ok (.getfield 62, 3) := by decide +kernel
theorem d_M_findSums_104 : decode c_M_findSums 104 = .ok (.iload_n 2, 1) := by decide +kernel
theorem d_M_findSums_105 : decode c_M_findSums 105 = .ok (.iload_n 3, 1) := by decide +kernel
theorem d_M_findSums_106 : decode c_M_findSums 106 = .ok (.bastore, 1) := by decide +kernel
theorem d_M_findSums_107 : decode c_M_findSums 107 = .ok (.iinc 2 1, 3) := by decide +kernel
theorem d_M_findSums_110 : decode c_M_findSums 110 = .ok (.goto (-101), 3) := by decide +kernel
theorem d_M_findSums_113 : decode c_M_findSums 113 = .ok (.return_, 1) := by decide +kernel
theorem d_M_found_0 : decode c_M_found 0 = .ok (.aload_n 0, 1) := by decide +kernel
theorem d_M_found_1 : decode c_M_found 1 = .ok (.iconst 0, 1) := by decide +kernel
theorem d_M_found_2 : decode c_M_found 2 = .ok (.putfield 68, 3) := by decide +kernel
theorem d_M_found_5 : decode c_M_found 5 = .ok (.iload_n 1, 1) := by decide +kernel
theorem d_M_found_6 : decode c_M_found 6 = .ok (.ifCond .lt 20, 3) := by decide +kernel
theorem d_M_found_9 : decode c_M_found 9 = .ok (.iload_n 1, 1) := by decide +kernel
theorem d_M_found_10 : decode c_M_found 10 = .ok (.aload_n 0, 1) := by decide +kernel
theorem d_M_found_11 : decode c_M_found 11 = .ok (.getfield 119, 3) := by decide +kernel
theorem d_M_found_14 : decode c_M_found 14 = .ok (.if_icmp .ge 12, 3) := by decide +kernel
theorem d_M_found_17 : decode c_M_found 17 = .ok (.aload_n 0, 1) := by decide +kernel
theorem d_M_found_18 : decode c_M_found 18 = .ok (.getfield 26, 3) := by decide +kernel
theorem d_M_found_21 : decode c_M_found 21 = .ok (.iload_n 1, 1) := by decide +kernel
theorem d_M_found_22 : decode c_M_found 22 = .ok (.iaload, 1) := by decide +kernel
theorem d_M_found_23 : decode c_M_found 23 = .ok (.goto 4, 3) := by decide +kernel
theorem d_M_found_26 : decode c_M_found 26 = .ok (.iconst (-1), 1) := by decide +kernel
theorem d_M_found_27 : decode c_M_found 27 = .ok (.ireturn, 1) := by decide +kernel
theorem d_M_hasValue_0 : decode c_M_hasValue 0 = .ok (.aload_n 0, 1) := by decide +kernel
theorem d_M_hasValue_1 : decode c_M_hasValue 1 = .ok (.getfield 16, 3) := by decide +kernel
theorem d_M_hasValue_4 : decode c_M_hasValue 4 = .ok (.bipush 12, 2) := by decide +kernel
theorem d_M_hasValue_6 : decode c_M_hasValue 6 = .ok (.iload_n 1, 1) := by decide +kernel
theorem d_M_hasValue_7 : decode c_M_hasValue 7 = .ok (.imul, 1) := by decide +kernel
theorem d_M_hasValue_8 : decode c_M_hasValue 8 = .ok (.iload_n 2, 1) := by decide +kernel
theorem d_M_hasValue_9 : decode c_M_hasValue 9 = .ok (.iadd, 1) := by decide +kernel
theorem d_M_hasValue_10 : decode c_M_hasValue 10 = .ok (.laload, 1) := by decide +kernel
theorem d_M_hasValue_11 : decode c_M_hasValue 11 = .ok (.lconst 0, 1) := by decide +kernel
theorem d_M_hasValue_12 : decode c_M_hasValue 12 = .ok (.lcmp, 1) := by decide +kernel
theorem d_M_hasValue_13 : decode c_M_hasValue 13 = .ok (.ifCond .lt 7, 3) := by decide +kernel
theorem d_M_hasValue_16 : decode c_M_hasValue 16 = .ok (.iconst 1, 1) := by decide +kernel
theorem d_M_hasValue_17 : decode c_M_hasValue 17 = .ok (.goto 4, 3) := by decide +kernel
theorem d_M_hasValue_20 : decode c_M_hasValue 20 = .ok (.iconst 0, 1) := by decide +kernel
theorem d_M_hasValue_21 : decode c_M_hasValue 21 = .ok (.ireturn, 1) := by decide +kernel
theorem d_M_init_0 : decode c_M_init 0 = .ok (.aload_n 0, 1) := by decide +kernel
theorem d_M_init_1 : decode c_M_init 1 = .ok (.invokespecial 1, 3) := by decide +kernel
theorem d_M_init_4 : decode c_M_init 4 = .ok (.aload_n 0, 1) := by decide +kernel
theorem d_M_init_5 : decode c_M_init 5 = .ok (.bipush 40, 2) := by decide +kernel
theorem d_M_init_7 : decode c_M_init 7 = .ok (.newarray .int, 2) := by decide +kernel
theorem d_M_init_9 : decode c_M_init 9 = .ok (.putfield 7, 3) := by decide +kernel
theorem d_M_init_12 : decode c_M_init 12 = .ok (.aload_n 0, 1) := by decide +kernel
theorem d_M_init_13 : decode c_M_init 13 = .ok (.bipush 16, 2) := by decide +kernel
theorem d_M_init_15 : decode c_M_init 15 = .ok (.newarray .int, 2) := by decide +kernel
theorem d_M_init_17 : decode c_M_init 17 = .ok (.putfield 13, 3) := by decide +kernel
theorem d_M_init_20 : decode c_M_init 20 = .ok (.aload_n 0, 1) := by decide +kernel
theorem d_M_init_21 : decode c_M_init 21 = .ok (.sipush 480, 3) := by decide +kernel
theorem d_M_init_24 : decode c_M_init 24 = .ok (.newarray .long, 2) := by decide +kernel
theorem d_M_init_26 : decode c_M_init 26 = .ok (.putfield 16, 3) := by decide +kernel
theorem d_M_init_29 : decode c_M_init 29 = .ok (.aload_n 0, 1) := by decide +kernel
theorem d_M_init_30 : decode c_M_init 30 = .ok (.sipush 480, 3) := by decide +kernel
theorem d_M_init_33 : decode c_M_init 33 = .ok (.newarray .long, 2) := by decide +kernel
theorem d_M_init_35 : decode c_M_init 35 = .ok (.putfield 20, 3) := by decide +kernel
theorem d_M_init_38 : decode c_M_init 38 = .ok (.aload_n 0, 1) := by decide +kernel
theorem d_M_init_39 : decode c_M_init 39 = .ok (.bipush 120, 2) := by decide +kernel
theorem d_M_init_41 : decode c_M_init 41 = .ok (.newarray .int, 2) := by decide +kernel
theorem d_M_init_43 : decode c_M_init 43 = .ok (.putfield 23, 3) := by decide +kernel
theorem d_M_init_46 : decode c_M_init 46 = .ok (.aload_n 0, 1) := by decide +kernel
theorem d_M_init_47 : decode c_M_init 47 = .ok (.bipush 40, 2) := by decide +kernel
theorem d_M_init_49 : decode c_M_init 49 = .ok (.newarray .int, 2) := by decide +kernel
theorem d_M_init_51 : decode c_M_init 51 = .ok (.putfield 26, 3) := by decide +kernel
theorem d_M_init_54 : decode c_M_init 54 = .ok (.aload_n 0, 1) := by decide +kernel
theorem d_M_init_55 : decode c_M_init 55 = .ok (.bipush 40, 2) := by decide +kernel
theorem d_M_init_57 : decode c_M_init 57 = .ok (.newarray .int, 2) := by decide +kernel
theorem d_M_init_59 : decode c_M_init 59 = .ok (.putfield 29, 3) := by decide +kernel
theorem d_M_init_62 : decode c_M_init 62 = .ok (.aload_n 0, 1) := by decide +kernel
theorem d_M_init_63 : decode c_M_init 63 = .ok (.sipush 320, 3) := by decide +kernel
theorem d_M_init_66 : decode c_M_init 66 = .ok (.newarray .int, 2) := by decide +kernel
theorem d_M_init_68 : decode c_M_init 68 = .ok (.putfield 32, 3) := by decide +kernel
theorem d_M_init_71 : decode c_M_init 71 = .ok (.aload_n 0, 1) := by decide +kernel
theorem d_M_init_72 : decode c_M_init 72 = .ok (.sipush 320, 3) := by decide +kernel
theorem d_M_init_75 : decode c_M_init 75 = .ok (.newarray .long, 2) := by decide +kernel
theorem d_M_init_77 : decode c_M_init 77 = .ok (.putfield 35, 3) := by decide +kernel
theorem d_M_init_80 : decode c_M_init 80 = .ok (.aload_n 0, 1) := by decide +kernel
theorem d_M_init_81 : decode c_M_init 81 = .ok (.sipush 320, 3) := by decide +kernel
theorem d_M_init_84 : decode c_M_init 84 = .ok (.newarray .int, 2) := by decide +kernel
theorem d_M_init_86 : decode c_M_init 86 = .ok (.putfield 38, 3) := by decide +kernel
theorem d_M_init_89 : decode c_M_init 89 = .ok (.aload_n 0, 1) := by decide +kernel
theorem d_M_init_90 : decode c_M_init 90 = .ok (.iconst 4, 1) := by decide +kernel
theorem d_M_init_91 : decode c_M_init 91 = .ok (.newarray .long, 2) := by decide +kernel
theorem d_M_init_93 : decode c_M_init 93 = .ok (.putfield 41, 3) := by decide +kernel
theorem d_M_init_96 : decode c_M_init 96 = .ok (.aload_n 0, 1) := by decide +kernel
theorem d_M_init_97 : decode c_M_init 97 = .ok (.bipush 40, 2) := by decide +kernel
theorem d_M_init_99 : decode c_M_init 99 = .ok (.newarray .int, 2) := by decide +kernel
theorem d_M_init_101 : decode c_M_init 101 = .ok (.putfield 44, 3) := by decide +kernel
theorem d_M_init_104 : decode c_M_init 104 = .ok (.aload_n 0, 1) := by decide +kernel
theorem d_M_init_105 : decode c_M_init 105 = .ok (.sipush 240, 3) := by decide +kernel
theorem d_M_init_108 : decode c_M_init 108 = .ok (.newarray .int, 2) := by decide +kernel
theorem d_M_init_110 : decode c_M_init 110 = .ok (.putfield 47, 3) := by decide +kernel
theorem d_M_init_113 : decode c_M_init 113 = .ok (.aload_n 0, 1) := by decide +kernel
theorem d_M_init_114 : decode c_M_init 114 = .ok (.bipush 40, 2) := by decide +kernel
theorem d_M_init_116 : decode c_M_init 116 = .ok (.newarray .int, 2) := by decide +kernel
theorem d_M_init_118 : decode c_M_init 118 = .ok (.putfield 50, 3) := by decide +kernel
theorem d_M_init_121 : decode c_M_init 121 = .ok (.aload_n 0, 1) := by decide +kernel
theorem d_M_init_122 : decode c_M_init 122 = .ok (.bipush 40, 2) := by decide +kernel
theorem d_M_init_124 : decode c_M_init 124 = .ok (.newarray .int, 2) := by decide +kernel
theorem d_M_init_126 : decode c_M_init 126 = .ok (.putfield 53, 3) := by decide +kernel
theorem d_M_init_129 : decode c_M_init 129 = .ok (.aload_n 0, 1) := by decide +kernel
theorem d_M_init_130 : decode c_M_init 130 = .ok (.sipush 320, 3) := by decide +kernel
theorem d_M_init_133 : decode c_M_init 133 = .ok (.newarray .long, 2) := by decide +kernel
theorem d_M_init_135 : decode c_M_init 135 = .ok (.putfield 56, 3) := by decide +kernel
theorem d_M_init_138 : decode c_M_init 138 = .ok (.aload_n 0, 1) := by decide +kernel
theorem d_M_init_139 : decode c_M_init 139 = .ok (.sipush 320, 3) := by decide +kernel
theorem d_M_init_142 : decode c_M_init 142 = .ok (.newarray .int, 2) := by decide +kernel
theorem d_M_init_144 : decode c_M_init 144 = .ok (.putfield 59, 3) := by decide +kernel
theorem d_M_init_147 : decode c_M_init 147 = .ok (.aload_n 0, 1) := by decide +kernel
theorem d_M_init_148 : decode c_M_init 148 = .ok (.sipush 20001, 3) := by decide +kernel
theorem d_M_init_151 : decode c_M_init 151 = .ok (.newarray .boolean, 2) := by decide +kernel
theorem d_M_init_153 : decode c_M_init 153 = .ok (.putfield 62, 3) := by decide +kernel
theorem d_M_init_156 : decode c_M_init 156 = .ok (.iconst 0, 1) := by decide +kernel
theorem d_M_init_157 : decode c_M_init 157 = .ok (.istore_n 1, 1) := by decide +kernel
theorem d_M_init_158 : decode c_M_init 158 = .ok (.iload_n 1, 1) := by decide +kernel
theorem d_M_init_159 : decode c_M_init 159 = .ok (.bipush 16, 2) := by decide +kernel
theorem d_M_init_161 : decode c_M_init 161 = .ok (.if_icmp .ge 17, 3) := by decide +kernel
theorem d_M_init_164 : decode c_M_init 164 = .ok (.aload_n 0, 1) := by decide +kernel
theorem d_M_init_165 : decode c_M_init 165 = .ok (.getfield 13, 3) := by decide +kernel
theorem d_M_init_168 : decode c_M_init 168 = .ok (.iload_n 1, 1) := by decide +kernel
theorem d_M_init_169 : decode c_M_init 169 = .ok (.bipush 50, 2) := by decide +kernel
theorem d_M_init_171 : decode c_M_init 171 = .ok (.iastore, 1) := by decide +kernel
theorem d_M_init_172 : decode c_M_init 172 = .ok (.iinc 1 1, 3) := by decide +kernel
theorem d_M_init_175 : decode c_M_init 175 = .ok (.goto (-17), 3) := by decide +kernel
theorem d_M_init_178 : decode c_M_init 178 = .ok (.iconst 0, 1) := by decide +kernel
theorem d_M_init_179 : decode c_M_init 179 = .ok (.istore_n 1, 1) := by decide +kernel
theorem d_M_init_180 : decode c_M_init 180 = .ok (.iload_n 1, 1) := by decide +kernel
theorem d_M_init_181 : decode c_M_init 181 = .ok (.iconst 4, 1) := by decide +kernel
theorem d_M_init_182 : decode c_M_init 182 = .ok (.if_icmp .ge 18, 3) := by decide +kernel
theorem d_M_init_185 : decode c_M_init 185 = .ok (.aload_n 0, 1) := by decide +kernel
theorem d_M_init_186 : decode c_M_init 186 = .ok (.getfield 41, 3) := by decide +kernel
theorem d_M_init_189 : decode c_M_init 189 = .ok (.iload_n 1, 1) := by decide +kernel
theorem d_M_init_190 : decode c_M_init 190 = .ok (.ldc2_w 66, 3) := by decide +kernel
theorem d_M_init_193 : decode c_M_init 193 = .ok (.lastore, 1) := by decide +kernel
theorem d_M_init_194 : decode c_M_init 194 = .ok (.iinc 1 1, 3) := by decide +kernel
theorem d_M_init_197 : decode c_M_init 197 = .ok (.goto (-17), 3) := by decide +kernel
theorem d_M_init_200 : decode c_M_init 200 = .ok (.return_, 1) := by decide +kernel
theorem d_M_isAbove_0 : decode c_M_isAbove 0 = .ok (.lload_n 0, 1) := by decide +kernel
theorem d_M_isAbove_1 : decode c_M_isAbove 1 = .ok (.lconst 0, 1) := by decide +kernel
theorem d_M_isAbove_2 : decode c_M_isAbove 2 = .ok (.lcmp, 1) := by decide +kernel
theorem d_M_isAbove_3 : decode c_M_isAbove 3 = .ok (.ifCond .lt 15, 3) := by decide +kernel
theorem d_M_isAbove_6 : decode c_M_isAbove 6 = .ok (.lload_n 0, 1) := by decide +kernel
theorem d_M_isAbove_7 : decode c_M_isAbove 7 = .ok (.ldc2_w 78, 3) := by decide +kernel
theorem d_M_isAbove_10 : decode c_M_isAbove 10 = .ok (.lcmp, 1) := by decide +kernel
theorem d_M_isAbove_11 : decode c_M_isAbove 11 = .ok (.ifCond .gt 7, 3) := by decide +kernel
theorem d_M_isAbove_14 : decode c_M_isAbove 14 = .ok (.iconst 1, 1) := by decide +kernel
theorem d_M_isAbove_15 : decode c_M_isAbove 15 = .ok (.goto 4, 3) := by decide +kernel
theorem d_M_isAbove_18 : decode c_M_isAbove 18 = .ok (.iconst 0, 1) := by decide +kernel
theorem d_M_isAbove_19 : decode c_M_isAbove 19 = .ok (.ireturn, 1) := by decide +kernel
theorem d_M_isAhead_0 : decode c_M_isAhead 0 = .ok (.aload_n 0, 1) := by decide +kernel
theorem d_M_isAhead_1 : decode c_M_isAhead 1 = .ok (.getfield 13, 3) := by decide +kernel
theorem d_M_isAhead_4 : decode c_M_isAhead 4 = .ok (.aload_n 0, 1) := by decide +kernel
theorem d_M_isAhead_5 : decode c_M_isAhead 5 = .ok (.getfield 7, 3) := by decide +kernel
theorem d_M_isAhead_8 : decode c_M_isAhead 8 = .ok (.iload_n 1, 1) := by decide +kernel
theorem d_M_isAhead_9 : decode c_M_isAhead 9 = .ok (.iaload, 1) := by decide +kernel
theorem d_M_isAhead_10 : decode c_M_isAhead 10 = .ok (.iaload, 1) := by decide +kernel
theorem d_M_isAhead_11 : decode c_M_isAhead 11 = .ok (.istore_n 3, 1) := by decide +kernel
theorem d_M_isAhead_12 : decode c_M_isAhead 12 = .ok (.aload_n 0, 1) := by decide +kernel
theorem d_M_isAhead_13 : decode c_M_isAhead 13 = .ok (.getfield 13, 3) := by decide +kernel
theorem d_M_isAhead_16 : decode c_M_isAhead 16 = .ok (.aload_n 0, 1) := by decide +kernel
theorem d_M_isAhead_17 : decode c_M_isAhead 17 = .ok (.getfield 7, 3) := by decide +kernel
theorem d_M_isAhead_20 : decode c_M_isAhead 20 = .ok (.iload_n 2, 1) := by decide +kernel
theorem d_M_isAhead_21 : decode c_M_isAhead 21 = .ok (.iaload, 1) := by decide +kernel
theorem d_M_isAhead_22 : decode c_M_isAhead 22 = .ok (.iaload, 1) := by decide +kernel
theorem d_M_isAhead_23 : decode c_M_isAhead 23 = .ok (.istore 4, 2) := by decide +kernel
theorem d_M_isAhead_25 : decode c_M_isAhead 25 = .ok (.iload_n 3, 1) := by decide +kernel
theorem d_M_isAhead_26 : decode c_M_isAhead 26 = .ok (.iload 4, 2) := by decide +kernel
theorem d_M_isAhead_28 : decode c_M_isAhead 28 = .ok (.if_icmp .eq 17, 3) := by decide +kernel
theorem d_M_isAhead_31 : decode c_M_isAhead 31 = .ok (.iload_n 3, 1) := by decide +kernel
theorem d_M_isAhead_32 : decode c_M_isAhead 32 = .ok (.iload 4, 2) := by decide +kernel
theorem d_M_isAhead_34 : decode c_M_isAhead 34 = .ok (.if_icmp .ge 7, 3) := by decide +kernel
theorem d_M_isAhead_37 : decode c_M_isAhead 37 = .ok (.iconst 1, 1) := by decide +kernel
theorem d_M_isAhead_38 : decode c_M_isAhead 38 = .ok (.goto 17, 3) := by decide +kernel
theorem d_M_isAhead_41 : decode c_M_isAhead 41 = .ok (.iconst 0, 1) := by decide +kernel
theorem d_M_isAhead_42 : decode c_M_isAhead 42 = .ok (.goto 13, 3) := by decide +kernel
theorem d_M_isAhead_45 : decode c_M_isAhead 45 = .ok (.iload_n 1, 1) := by decide +kernel
theorem d_M_isAhead_46 : decode c_M_isAhead 46 = .ok (.iload_n 2, 1) := by decide +kernel
theorem d_M_isAhead_47 : decode c_M_isAhead 47 = .ok (.if_icmp .ge 7, 3) := by decide +kernel
theorem d_M_isAhead_50 : decode c_M_isAhead 50 = .ok (.iconst 1, 1) := by decide +kernel
theorem d_M_isAhead_51 : decode c_M_isAhead 51 = .ok (.goto 4, 3) := by decide +kernel
theorem d_M_isAhead_54 : decode c_M_isAhead 54 = .ok (.iconst 0, 1) := by decide +kernel
theorem d_M_isAhead_55 : decode c_M_isAhead 55 = .ok (.ireturn, 1) := by decide +kernel
theorem d_M_isAlternate_0 : decode c_M_isAlternate 0 = .ok (.iload_n 1, 1) := by decide +kernel
theorem d_M_isAlternate_1 : decode c_M_isAlternate 1 = .ok (.iload_n 2, 1) := by decide +kernel
theorem d_M_isAlternate_2 : decode c_M_isAlternate 2 = .ok (.if_icmp .ne 5, 3) := by decide +kernel
theorem d_M_isAlternate_5 : decode c_M_isAlternate 5 = .ok (.iconst 0, 1) := by decide +kernel
theorem d_M_isAlternate_6 : decode c_M_isAlternate 6 = .ok (.ireturn, 1) := by decide +kernel
theorem d_M_isAlternate_7 : decode c_M_isAlternate 7 = .ok (.iconst 0, 1) := by decide +kernel
theorem d_M_isAlternate_8 : decode c_M_isAlternate 8 = .ok (.istore 4, 2) := by decide +kernel
theorem d_M_isAlternate_10 : decode c_M_isAlternate 10 = .ok (.iload 4, 2) := by decide +kernel
theorem d_M_isAlternate_12 : decode c_M_isAlternate 12 = .ok (.bipush 12, 2) := by decide +kernel
theorem d_M_isAlternate_14 : decode c_M_isAlternate 14 = .ok (.if_icmp .ge 100, 3) := by decide +kernel
theorem d_M_isAlternate_17 : decode c_M_isAlternate 17 = .ok (.aload_n 0, 1) := by decide +kernel
theorem d_M_isAlternate_18 : decode c_M_isAlternate 18 = .ok (.getfield 23, 3) := by decide +kernel
theorem d_M_isAlternate_21 : decode c_M_isAlternate 21 = .ok (.bipush 12, 2) := by decide +kernel
theorem d_M_isAlternate_23 : decode c_M_isAlternate 23 = .ok (.iload_n 3, 1) := by decide +kernel
theorem d_M_isAlternate_24 : decode c_M_isAlternate 24 = .ok (.imul, 1) := by decide +kernel
theorem d_M_isAlternate_25 : decode c_M_isAlternate 25 = .ok (.iload 4, 2) := by decide +kernel
theorem d_M_isAlternate_27 : decode c_M_isAlternate 27 = .ok (.iadd, 1) := by decide +kernel
theorem d_M_isAlternate_28 : decode c_M_isAlternate 28 = .ok (.iaload, 1) := by decide +kernel
theorem d_M_isAlternate_29 : decode c_M_isAlternate 29 = .ok (.iconst 1, 1) := by decide +kernel
theorem d_M_isAlternate_30 : decode c_M_isAlternate 30 = .ok (.isub, 1) := by decide +kernel
theorem d_M_isAlternate_31 : decode c_M_isAlternate 31 = .ok (.istore 5, 2) := by decide +kernel
theorem d_M_isAlternate_33 : decode c_M_isAlternate 33 = .ok (.iload 5, 2) := by decide +kernel
theorem d_M_isAlternate_35 : decode c_M_isAlternate 35 = .ok (.iconst (-1), 1) := by decide +kernel
theorem d_M_isAlternate_36 : decode c_M_isAlternate 36 = .ok (.if_icmp .ne 6, 3) := by decide +kernel
theorem d_M_isAlternate_39 : decode c_M_isAlternate 39 = .ok (.goto 69, 3) := by decide +kernel
theorem d_M_isAlternate_42 : decode c_M_isAlternate 42 = .ok (.aload_n 0, 1) := by decide +kernel
theorem d_M_isAlternate_43 : decode c_M_isAlternate 43 = .ok (.iload_n 1, 1) := by decide +kernel
theorem d_M_isAlternate_44 : decode c_M_isAlternate 44 = .ok (.iload 4, 2) := by decide +kernel
theorem d_M_isAlternate_46 : decode c_M_isAlternate 46 = .ok (.invokevirtual 104, 3) := by decide +kernel
theorem d_M_isAlternate_49 : decode c_M_isAlternate 49 = .ok (.ifCond .eq 13, 3) := by decide +kernel
theorem d_M_isAlternate_52 : decode c_M_isAlternate 52 = .ok (.aload_n 0, 1) := by decide +kernel
theorem d_M_isAlternate_53 : decode c_M_isAlternate 53 = .ok (.iload_n 2, 1) := by decide +kernel
theorem d_M_isAlternate_54 : decode c_M_isAlternate 54 = .ok (.iload 4, 2) := by decide +kernel
theorem d_M_isAlternate_56 : decode c_M_isAlternate 56 = .ok (.invokevirtual 104, 3) := by decide +kernel
theorem d_M_isAlternate_59 : decode c_M_isAlternate 59 = .ok (.ifCond .ne 5, 3) := by decide +kernel
theorem d_M_isAlternate_62 : decode c_M_isAlternate 62 = .ok (.iconst 0, 1) := by decide +kernel
theorem d_M_isAlternate_63 : decode c_M_isAlternate 63 = .ok (.ireturn, 1) := by decide +kernel
theorem d_M_isAlternate_64 : decode c_M_isAlternate 64 = .ok (.aload_n 0, 1) := by decide +kernel
theorem d_M_isAlternate_65 : decode c_M_isAlternate 65 = .ok (.iload_n 1, 1) := by decide +kernel
theorem d_M_isAlternate_66 : decode c_M_isAlternate 66 = .ok (.iload_n 2, 1) := by decide +kernel
theorem d_M_isAlternate_67 : decode c_M_isAlternate 67 = .ok (.iload 4, 2) := by decide +kernel
theorem d_M_isAlternate_69 : decode c_M_isAlternate 69 = .ok (.invokevirtual 115, 3) := by decide +kernel
theorem d_M_isAlternate_72 : decode c_M_isAlternate 72 = .ok (.istore 6, 2) := by decide +kernel
theorem d_M_isAlternate_74 : decode c_M_isAlternate 74 = .ok (.iload 5, 2) := by decide +kernel
theorem d_M_isAlternate_76 : decode c_M_isAlternate 76 = .ok (.ifCond .ne 11, 3) := by decide +kernel
theorem d_M_isAlternate_79 : decode c_M_isAlternate 79 = .ok (.iload 6, 2) := by decide +kernel
theorem d_M_isAlternate_81 : decode c_M_isAlternate 81 = .ok (.ifCond .eq 27, 3) := by decide +kernel
theorem d_M_isAlternate_84 : decode c_M_isAlternate 84 = .ok (.goto 22, 3) := by decide +kernel
theorem d_M_isAlternate_87 : decode c_M_isAlternate 87 = .ok (.iload 5, 2) := by decide +kernel
theorem d_M_isAlternate_89 : decode c_M_isAlternate 89 = .ok (.iconst 1, 1) := by decide +kernel
theorem d_M_isAlternate_90 : decode c_M_isAlternate 90 = .ok (.if_icmp .ne 11, 3) := by decide +kernel
theorem d_M_isAlternate_93 : decode c_M_isAlternate 93 = .ok (.iload 6, 2) := by decide +kernel
theorem d_M_isAlternate_95 : decode c_M_isAlternate 95 = .ok (.ifCond .ge 13, 3) := by decide +kernel
theorem d_M_isAlternate_98 : decode c_M_isAlternate 98 = .ok (.goto 8, 3) := by decide +kernel
theorem d_M_isAlternate_101 : decode c_M_isAlternate 101 = .ok (.iload 6, 2) := by decide +kernel
