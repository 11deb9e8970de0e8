theorem d_F_commonDivisor_0 : decode c_F_commonDivisor 0 = .ok (.lload_n 0, 1) := by decide +kernel
theorem d_F_commonDivisor_1 : decode c_F_commonDivisor 1 = .ok (.lstore 4, 2) := by decide +kernel
theorem d_F_commonDivisor_3 : decode c_F_commonDivisor 3 = .ok (.lload_n 2, 1) := by decide +kernel
theorem d_F_commonDivisor_4 : decode c_F_commonDivisor 4 = .ok (.lstore 6, 2) := by decide +kernel
theorem d_F_commonDivisor_6 : decode c_F_commonDivisor 6 = .ok (.iconst 0, 1) := by decide +kernel
theorem d_F_commonDivisor_7 : decode c_F_commonDivisor 7 = .ok (.istore 8, 2) := by decide +kernel
theorem d_F_commonDivisor_9 : decode c_F_commonDivisor 9 = .ok (.iload 8, 2) := by decide +kernel
theorem d_F_commonDivisor_11 : decode c_F_commonDivisor 11 = .ok (.bipush 100, 2) := by decide +kernel
theorem d_F_commonDivisor_13 : decode c_F_commonDivisor 13 = .ok (.if_icmp .ge 31, 3) := by decide +kernel
theorem d_F_commonDivisor_16 : decode c_F_commonDivisor 16 = .ok (.lload 6, 2) := by decide +kernel
theorem d_F_commonDivisor_18 : decode c_F_commonDivisor 18 = .ok (.lconst 0, 1) := by decide +kernel
theorem d_F_commonDivisor_19 : decode c_F_commonDivisor 19 = .ok (.lcmp, 1) := by decide +kernel
theorem d_F_commonDivisor_20 : decode c_F_commonDivisor 20 = .ok (.ifCond .eq 24, 3) := by decide +kernel
theorem d_F_commonDivisor_23 : decode c_F_commonDivisor 23 = .ok (.lload 4, 2) := by decide +kernel
theorem d_F_commonDivisor_25 : decode c_F_commonDivisor 25 = .ok (.lload 6, 2) := by decide +kernel
theorem d_F_commonDivisor_27 : decode c_F_commonDivisor 27 = .ok (.lrem, 1) := by decide +kernel
theorem d_F_commonDivisor_28 : decode c_F_commonDivisor 28 = .ok (.lstore 9, 2) := by decide +kernel
theorem d_F_commonDivisor_30 : decode c_F_commonDivisor 30 = .ok (.lload 6, 2) := by decide +kernel
theorem d_F_commonDivisor_32 : decode c_F_commonDivisor 32 = .ok (.lstore 4, 2) := by decide +kernel
theorem d_F_commonDivisor_34 : decode c_F_commonDivisor 34 = .ok (.lload 9, 2) := by decide +kernel
theorem d_F_commonDivisor_36 : decode c_F_commonDivisor 36 = .ok (.lstore 6, 2) := by decide +kernel
theorem d_F_commonDivisor_38 : decode c_F_commonDivisor 38 = .ok (.iinc 8 1, 3) := by decide +kernel
theorem d_F_commonDivisor_41 : decode c_F_commonDivisor 41 = .ok (.goto (-32), 3) := by decide +kernel
theorem d_F_commonDivisor_44 : decode c_F_commonDivisor 44 = .ok (.lload 4, 2) := by decide +kernel
theorem d_F_commonDivisor_46 : decode c_F_commonDivisor 46 = .ok (.lconst 1, 1) := by decide +kernel
theorem d_F_commonDivisor_47 : decode c_F_commonDivisor 47 = .ok (.invokestatic 11, 3) := by decide +kernel
theorem d_F_commonDivisor_50 : decode c_F_commonDivisor 50 = .ok (.lreturn, 1) := by decide +kernel
theorem d_F_compare_0 : decode c_F_compare 0 = .ok (.iconst 1, 1) := by decide +kernel
theorem d_F_compare_1 : decode c_F_compare 1 = .ok (.istore 8, 2) := by decide +kernel
theorem d_F_compare_3 : decode c_F_compare 3 = .ok (.iconst 0, 1) := by decide +kernel
theorem d_F_compare_4 : decode c_F_compare 4 = .ok (.istore 9, 2) := by decide +kernel
theorem d_F_compare_6 : decode c_F_compare 6 = .ok (.iload 9, 2) := by decide +kernel
theorem d_F_compare_8 : decode c_F_compare 8 = .ok (.bipush 100, 2) := by decide +kernel
theorem d_F_compare_10 : decode c_F_compare 10 = .ok (.if_icmp .ge 89, 3) := by decide +kernel
theorem d_F_compare_13 : decode c_F_compare 13 = .ok (.lload_n 2, 1) := by decide +kernel
theorem d_F_compare_14 : decode c_F_compare 14 = .ok (.lconst 0, 1) := by decide +kernel
theorem d_F_compare_15 : decode c_F_compare 15 = .ok (.lcmp, 1) := by decide +kernel
theorem d_F_compare_16 : decode c_F_compare 16 = .ok (.ifCond .eq 83, 3) := by decide +kernel
theorem d_F_compare_19 : decode c_F_compare 19 = .ok (.lload 6, 2) := by decide +kernel
theorem d_F_compare_21 : decode c_F_compare 21 = .ok (.lconst 0, 1) := by decide +kernel
theorem d_F_compare_22 : decode c_F_compare 22 = .ok (.lcmp, 1) := by decide +kernel
theorem d_F_compare_23 : decode c_F_compare 23 = .ok (.ifCond .eq 76, 3) := by decide +kernel
theorem d_F_compare_26 : decode c_F_compare 26 = .ok (.lload_n 0, 1) := by decide +kernel
theorem d_F_compare_27 : decode c_F_compare 27 = .ok (.lload_n 2, 1) := by decide +kernel
theorem d_F_compare_28 : decode c_F_compare 28 = .ok (.ldiv, 1) := by decide +kernel
theorem d_F_compare_29 : decode c_F_compare 29 = .ok (.lstore 10, 2) := by decide +kernel
theorem d_F_compare_31 : decode c_F_compare 31 = .ok (.lload 4, 2) := by decide +kernel
theorem d_F_compare_33 : decode c_F_compare 33 = .ok (.lload 6, 2) := by decide +kernel
theorem d_F_compare_35 : decode c_F_compare 35 = .ok (.ldiv, 1) := by decide +kernel
theorem d_F_compare_36 : decode c_F_compare 36 = .ok (.lstore 12, 2) := by decide +kernel
theorem d_F_compare_38 : decode c_F_compare 38 = .ok (.lload 10, 2) := by decide +kernel
theorem d_F_compare_40 : decode c_F_compare 40 = .ok (.lload 12, 2) := by decide +kernel
theorem d_F_compare_42 : decode c_F_compare 42 = .ok (.lcmp, 1) := by decide +kernel
theorem d_F_compare_43 : decode c_F_compare 43 = .ok (.ifCond .eq 20, 3) := by decide +kernel
theorem d_F_compare_46 : decode c_F_compare 46 = .ok (.lload 10, 2) := by decide +kernel
theorem d_F_compare_48 : decode c_F_compare 48 = .ok (.lload 12, 2) := by decide +kernel
theorem d_F_compare_50 : decode c_F_compare 50 = .ok (.lcmp, 1) := by decide +kernel
theorem d_F_compare_51 : decode c_F_compare 51 = .ok (.ifCond .ge 9, 3) := by decide +kernel
theorem d_F_compare_54 : decode c_F_compare 54 = .ok (.iload 8, 2) := by decide +kernel
theorem d_F_compare_56 : decode c_F_compare 56 = .ok (.ineg, 1) := by decide +kernel
theorem d_F_compare_57 : decode c_F_compare 57 = .ok (.goto 5, 3) := by decide +kernel
theorem d_F_compare_60 : decode c_F_compare 60 = .ok (.iload 8, 2) := by decide +kernel
theorem d_F_compare_62 : decode c_F_compare 62 = .ok (.ireturn, 1) := by decide +kernel
theorem d_F_compare_63 : decode c_F_compare 63 = .ok (.lload_n 0, 1) := by decide +kernel
theorem d_F_compare_64 : decode c_F_compare 64 = .ok (.lload_n 2, 1) := by decide +kernel
theorem d_F_compare_65 : decode c_F_compare 65 = .ok (.lrem, 1) := by decide +kernel
theorem d_F_compare_66 : decode c_F_compare 66 = .ok (.lstore 14, 2) := by decide +kernel
theorem d_F_compare_68 : decode c_F_compare 68 = .ok (.lload 4, 2) := by decide +kernel
theorem d_F_compare_70 : decode c_F_compare 70 = .ok (.lload 6, 2) := by decide +kernel
theorem d_F_compare_72 : decode c_F_compare 72 = .ok (.lrem, 1) := by decide +kernel
theorem d_F_compare_73 : decode c_F_compare 73 = .ok (.lstore 16, 2) := by decide +kernel
theorem d_F_compare_75 : decode c_F_compare 75 = .ok (.lload_n 2, 1) := by decide +kernel
theorem d_F_compare_76 : decode c_F_compare 76 = .ok (.lstore_n 0, 1) := by decide +kernel
theorem d_F_compare_77 : decode c_F_compare 77 = .ok (.lload 14, 2) := by decide +kernel
theorem d_F_compare_79 : decode c_F_compare 79 = .ok (.lstore_n 2, 1) := by decide +kernel
theorem d_F_compare_80 : decode c_F_compare 80 = .ok (.lload 6, 2) := by decide +kernel
theorem d_F_compare_82 : decode c_F_compare 82 = .ok (.lstore 4, 2) := by decide +kernel
theorem d_F_compare_84 : decode c_F_compare 84 = .ok (.lload 16, 2) := by decide +kernel
theorem d_F_compare_86 : decode c_F_compare 86 = .ok (.lstore 6, 2) := by decide +kernel
theorem d_F_compare_88 : decode c_F_compare 88 = .ok (.iload 8, 2) := by decide +kernel
theorem d_F_compare_90 : decode c_F_compare 90 = .ok (.ineg, 1) := by decide +kernel
theorem d_F_compare_91 : decode c_F_compare 91 = .ok (.istore 8, 2) := by decide +kernel
theorem d_F_compare_93 : decode c_F_compare 93 = .ok (.iinc 9 1, 3) := by decide +kernel
theorem d_F_compare_96 : decode c_F_compare 96 = .ok (.goto (-90), 3) := by decide +kernel
theorem d_F_compare_99 : decode c_F_compare 99 = .ok (.lload_n 2, 1) := by decide +kernel
theorem d_F_compare_100 : decode c_F_compare 100 = .ok (.lconst 0, 1) := by decide +kernel
theorem d_F_compare_101 : decode c_F_compare 101 = .ok (.lcmp, 1) := by decide +kernel
theorem d_F_compare_102 : decode c_F_compare 102 = .ok (.ifCond .ne 12, 3) := by decide +kernel
theorem d_F_compare_105 : decode c_F_compare 105 = .ok (.lload 6, 2) := by decide +kernel
theorem d_F_compare_107 : decode c_F_compare 107 = .ok (.lconst 0, 1) := by decide +kernel
theorem d_F_compare_108 : decode c_F_compare 108 = .ok (.lcmp, 1) := by decide +kernel
theorem d_F_compare_109 : decode c_F_compare 109 = .ok (.ifCond .ne 5, 3) := by decide +kernel
theorem d_F_compare_112 : decode c_F_compare 112 = .ok (.iconst 0, 1) := by decide +kernel
theorem d_F_compare_113 : decode c_F_compare 113 = .ok (.ireturn, 1) := by decide +kernel
theorem d_F_compare_114 : decode c_F_compare 114 = .ok (.lload_n 2, 1) := by decide +kernel
theorem d_F_compare_115 : decode c_F_compare 115 = .ok (.lconst 0, 1) := by decide +kernel
theorem d_F_compare_116 : decode c_F_compare 116 = .ok (.lcmp, 1) := by decide +kernel
theorem d_F_compare_117 : decode c_F_compare 117 = .ok (.ifCond .ne 8, 3) := by decide +kernel
theorem d_F_compare_120 : decode c_F_compare 120 = .ok (.iload 8, 2) := by decide +kernel
theorem d_F_compare_122 : decode c_F_compare 122 = .ok (.goto 6, 3) := by decide +kernel
theorem d_F_compare_125 : decode c_F_compare 125 = .ok (.iload 8, 2) := by decide +kernel
theorem d_F_compare_127 : decode c_F_compare 127 = .ok (.ineg, 1) := by decide +kernel
theorem d_F_compare_128 : decode c_F_compare 128 = .ok (.ireturn, 1) := by decide +kernel
theorem d_F_tenTo_0 : decode c_F_tenTo 0 = .ok (.lconst 1, 1) := by decide +kernel
theorem d_F_tenTo_1 : decode c_F_tenTo 1 = .ok (.lstore_n 1, 1) := by decide +kernel
theorem d_F_tenTo_2 : decode c_F_tenTo 2 = .ok (.iconst 0, 1) := by decide +kernel
theorem d_F_tenTo_3 : decode c_F_tenTo 3 = .ok (.istore_n 3, 1) := by decide +kernel
theorem d_F_tenTo_4 : decode c_F_tenTo 4 = .ok (.iload_n 3, 1) := by decide +kernel
theorem d_F_tenTo_5 : decode c_F_tenTo 5 = .ok (.iload_n 0, 1) := by decide +kernel
theorem d_F_tenTo_6 : decode c_F_tenTo 6 = .ok (.if_icmp .ge 15, 3) := by decide +kernel
theorem d_F_tenTo_9 : decode c_F_tenTo 9 = .ok (.lload_n 1, 1) := by decide +kernel
theorem d_F_tenTo_10 : decode c_F_tenTo 10 = .ok (.ldc2_w 7, 3) := by decide +kernel
theorem d_F_tenTo_13 : decode c_F_tenTo 13 = .ok (.lmul, 1) := by decide +kernel
theorem d_F_tenTo_14 : decode c_F_tenTo 14 = .ok (.lstore_n 1, 1) := by decide +kernel
theorem d_F_tenTo_15 : decode c_F_tenTo 15 = .ok (.iinc 3 1, 3) := by decide +kernel
theorem d_F_tenTo_18 : decode c_F_tenTo 18 = .ok (.goto (-14), 3) := by decide +kernel
theorem d_F_tenTo_21 : decode c_F_tenTo 21 = .ok (.lload_n 1, 1) := by decide +kernel
theorem d_F_tenTo_22 : decode c_F_tenTo 22 = .ok (.lreturn, 1) := by decide +kernel
