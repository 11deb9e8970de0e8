theorem d_S_endOf_0 : decode c_S_endOf 0 = .ok (.iload_n 1, 1) := by decide +kernel
theorem d_S_endOf_1 : decode c_S_endOf 1 = .ok (.iconst 1, 1) := by decide +kernel
theorem d_S_endOf_2 : decode c_S_endOf 2 = .ok (.iadd, 1) := by decide +kernel
theorem d_S_endOf_3 : decode c_S_endOf 3 = .ok (.aload_n 0, 1) := by decide +kernel
theorem d_S_endOf_4 : decode c_S_endOf 4 = .ok (.getfield 22, 3) := by decide +kernel
theorem d_S_endOf_7 : decode c_S_endOf 7 = .ok (.if_icmp .ge 16, 3) := by decide +kernel
theorem d_S_endOf_10 : decode c_S_endOf 10 = .ok (.aload_n 0, 1) := by decide +kernel
theorem d_S_endOf_11 : decode c_S_endOf 11 = .ok (.getfield 11, 3) := by decide +kernel
theorem d_S_endOf_14 : decode c_S_endOf 14 = .ok (.iload_n 1, 1) := by decide +kernel
theorem d_S_endOf_15 : decode c_S_endOf 15 = .ok (.iconst 1, 1) := by decide +kernel
theorem d_S_endOf_16 : decode c_S_endOf 16 = .ok (.iadd, 1) := by decide +kernel
theorem d_S_endOf_17 : decode c_S_endOf 17 = .ok (.laload, 1) := by decide +kernel
theorem d_S_endOf_18 : decode c_S_endOf 18 = .ok (.lconst 1, 1) := by decide +kernel
theorem d_S_endOf_19 : decode c_S_endOf 19 = .ok (.lsub, 1) := by decide +kernel
theorem d_S_endOf_20 : decode c_S_endOf 20 = .ok (.goto 6, 3) := by decide +kernel
theorem d_S_endOf_23 : decode c_S_endOf 23 = .ok (.ldc2_w 36, 3) := by decide +kernel
theorem d_S_endOf_26 : decode c_S_endOf 26 = .ok (.lreturn, 1) := by decide +kernel
theorem d_S_init_0 : decode c_S_init 0 = .ok (.aload_n 0, 1) := by decide +kernel
theorem d_S_init_1 : decode c_S_init 1 = .ok (.invokespecial 3, 3) := by decide +kernel
theorem d_S_init_4 : decode c_S_init 4 = .ok (.aload_n 0, 1) := by decide +kernel
theorem d_S_init_5 : decode c_S_init 5 = .ok (.bipush 8, 2) := by decide +kernel
theorem d_S_init_7 : decode c_S_init 7 = .ok (.newarray .long, 2) := by decide +kernel
theorem d_S_init_9 : decode c_S_init 9 = .ok (.putfield 11, 3) := by decide +kernel
theorem d_S_init_12 : decode c_S_init 12 = .ok (.aload_n 0, 1) := by decide +kernel
theorem d_S_init_13 : decode c_S_init 13 = .ok (.bipush 8, 2) := by decide +kernel
theorem d_S_init_15 : decode c_S_init 15 = .ok (.newarray .long, 2) := by decide +kernel
theorem d_S_init_17 : decode c_S_init 17 = .ok (.putfield 15, 3) := by decide +kernel
theorem d_S_init_20 : decode c_S_init 20 = .ok (.aload_n 0, 1) := by decide +kernel
theorem d_S_init_21 : decode c_S_init 21 = .ok (.bipush 8, 2) := by decide +kernel
theorem d_S_init_23 : decode c_S_init 23 = .ok (.newarray .int, 2) := by decide +kernel
theorem d_S_init_25 : decode c_S_init 25 = .ok (.putfield 18, 3) := by decide +kernel
theorem d_S_init_28 : decode c_S_init 28 = .ok (.aload_n 0, 1) := by decide +kernel
theorem d_S_init_29 : decode c_S_init 29 = .ok (.iconst 0, 1) := by decide +kernel
theorem d_S_init_30 : decode c_S_init 30 = .ok (.putfield 22, 3) := by decide +kernel
theorem d_S_init_33 : decode c_S_init 33 = .ok (.return_, 1) := by decide +kernel
theorem d_S_put_0 : decode c_S_put 0 = .ok (.aload_n 0, 1) := by decide +kernel
theorem d_S_put_1 : decode c_S_put 1 = .ok (.getfield 11, 3) := by decide +kernel
theorem d_S_put_4 : decode c_S_put 4 = .ok (.iload_n 1, 1) := by decide +kernel
theorem d_S_put_5 : decode c_S_put 5 = .ok (.lload_n 2, 1) := by decide +kernel
theorem d_S_put_6 : decode c_S_put 6 = .ok (.lastore, 1) := by decide +kernel
theorem d_S_put_7 : decode c_S_put 7 = .ok (.aload_n 0, 1) := by decide +kernel
theorem d_S_put_8 : decode c_S_put 8 = .ok (.getfield 15, 3) := by decide +kernel
theorem d_S_put_11 : decode c_S_put 11 = .ok (.iload_n 1, 1) := by decide +kernel
theorem d_S_put_12 : decode c_S_put 12 = .ok (.lload 4, 2) := by decide +kernel
theorem d_S_put_14 : decode c_S_put 14 = .ok (.lastore, 1) := by decide +kernel
theorem d_S_put_15 : decode c_S_put 15 = .ok (.aload_n 0, 1) := by decide +kernel
theorem d_S_put_16 : decode c_S_put 16 = .ok (.getfield 18, 3) := by decide +kernel
theorem d_S_put_19 : decode c_S_put 19 = .ok (.iload_n 1, 1) := by decide +kernel
theorem d_S_put_20 : decode c_S_put 20 = .ok (.iload 6, 2) := by decide +kernel
theorem d_S_put_22 : decode c_S_put 22 = .ok (.iastore, 1) := by decide +kernel
theorem d_S_put_23 : decode c_S_put 23 = .ok (.return_, 1) := by decide +kernel
theorem d_S_stepOf_0 : decode c_S_stepOf 0 = .ok (.iconst (-1), 1) := by decide +kernel
theorem d_S_stepOf_1 : decode c_S_stepOf 1 = .ok (.istore_n 3, 1) := by decide +kernel
theorem d_S_stepOf_2 : decode c_S_stepOf 2 = .ok (.iload_n 3, 1) := by decide +kernel
theorem d_S_stepOf_3 : decode c_S_stepOf 3 = .ok (.iconst 1, 1) := by decide +kernel
theorem d_S_stepOf_4 : decode c_S_stepOf 4 = .ok (.iadd, 1) := by decide +kernel
theorem d_S_stepOf_5 : decode c_S_stepOf 5 = .ok (.aload_n 0, 1) := by decide +kernel
theorem d_S_stepOf_6 : decode c_S_stepOf 6 = .ok (.getfield 22, 3) := by decide +kernel
theorem d_S_stepOf_9 : decode c_S_stepOf 9 = .ok (.if_icmp .ge 22, 3) := by decide +kernel
theorem d_S_stepOf_12 : decode c_S_stepOf 12 = .ok (.aload_n 0, 1) := by decide +kernel
theorem d_S_stepOf_13 : decode c_S_stepOf 13 = .ok (.getfield 11, 3) := by decide +kernel
theorem d_S_stepOf_16 : decode c_S_stepOf 16 = .ok (.iload_n 3, 1) := by decide +kernel
theorem d_S_stepOf_17 : decode c_S_stepOf 17 = .ok (.iconst 1, 1) := by decide +kernel
theorem d_S_stepOf_18 : decode c_S_stepOf 18 = .ok (.iadd, 1) := by decide +kernel
theorem d_S_stepOf_19 : decode c_S_stepOf 19 = .ok (.laload, 1) := by decide +kernel
theorem d_S_stepOf_20 : decode c_S_stepOf 20 = .ok (.lload_n 1, 1) := by decide +kernel
theorem d_S_stepOf_21 : decode c_S_stepOf 21 = .ok (.lcmp, 1) := by decide +kernel
theorem d_S_stepOf_22 : decode c_S_stepOf 22 = .ok (.ifCond .gt 9, 3) := by decide +kernel
theorem d_S_stepOf_25 : decode c_S_stepOf 25 = .ok (.iinc 3 1, 3) := by decide +kernel
theorem d_S_stepOf_28 : decode c_S_stepOf 28 = .ok (.goto (-26), 3) := by decide +kernel
theorem d_S_stepOf_31 : decode c_S_stepOf 31 = .ok (.iload_n 3, 1) := by decide +kernel
theorem d_S_stepOf_32 : decode c_S_stepOf 32 = .ok (.ireturn, 1) := by decide +kernel
theorem d_S_tell_0 : decode c_S_tell 0 = .ok (.aload_n 0, 1) := by decide +kernel
theorem d_S_tell_1 : decode c_S_tell 1 = .ok (.lload_n 1, 1) := by decide +kernel
theorem d_S_tell_2 : decode c_S_tell 2 = .ok (.invokevirtual 26, 3) := by decide +kernel
theorem d_S_tell_5 : decode c_S_tell 5 = .ok (.istore 6, 2) := by decide +kernel
theorem d_S_tell_7 : decode c_S_tell 7 = .ok (.iload 6, 2) := by decide +kernel
theorem d_S_tell_9 : decode c_S_tell 9 = .ok (.iconst (-1), 1) := by decide +kernel
theorem d_S_tell_10 : decode c_S_tell 10 = .ok (.if_icmp .eq 59, 3) := by decide +kernel
theorem d_S_tell_13 : decode c_S_tell 13 = .ok (.aload_n 0, 1) := by decide +kernel
theorem d_S_tell_14 : decode c_S_tell 14 = .ok (.getfield 11, 3) := by decide +kernel
theorem d_S_tell_17 : decode c_S_tell 17 = .ok (.iload 6, 2) := by decide +kernel
theorem d_S_tell_19 : decode c_S_tell 19 = .ok (.laload, 1) := by decide +kernel
theorem d_S_tell_20 : decode c_S_tell 20 = .ok (.lload_n 1, 1) := by decide +kernel
theorem d_S_tell_21 : decode c_S_tell 21 = .ok (.lcmp, 1) := by decide +kernel
theorem d_S_tell_22 : decode c_S_tell 22 = .ok (.ifCond .ne 47, 3) := by decide +kernel
theorem d_S_tell_25 : decode c_S_tell 25 = .ok (.aload_n 0, 1) := by decide +kernel
theorem d_S_tell_26 : decode c_S_tell 26 = .ok (.getfield 15, 3) := by decide +kernel
theorem d_S_tell_29 : decode c_S_tell 29 = .ok (.iload 6, 2) := by decide +kernel
theorem d_S_tell_31 : decode c_S_tell 31 = .ok (.laload, 1) := by decide +kernel
theorem d_S_tell_32 : decode c_S_tell 32 = .ok (.lload_n 3, 1) := by decide +kernel
theorem d_S_tell_33 : decode c_S_tell 33 = .ok (.lcmp, 1) := by decide +kernel
theorem d_S_tell_34 : decode c_S_tell 34 = .ok (.ifCond .ne 15, 3) := by decide +kernel
theorem d_S_tell_37 : decode c_S_tell 37 = .ok (.aload_n 0, 1) := by decide +kernel
theorem d_S_tell_38 : decode c_S_tell 38 = .ok (.getfield 18, 3) := by decide +kernel
theorem d_S_tell_41 : decode c_S_tell 41 = .ok (.iload 6, 2) := by decide +kernel
theorem d_S_tell_43 : decode c_S_tell 43 = .ok (.iaload, 1) := by decide +kernel
theorem d_S_tell_44 : decode c_S_tell 44 = .ok (.iload 5, 2) := by decide +kernel
theorem d_S_tell_46 : decode c_S_tell 46 = .ok (.if_icmp .eq 7, 3) := by decide +kernel
theorem d_S_tell_49 : decode c_S_tell 49 = .ok (.iconst 1, 1) := by decide +kernel
theorem d_S_tell_50 : decode c_S_tell 50 = .ok (.goto 4, 3) := by decide +kernel
theorem d_S_tell_53 : decode c_S_tell 53 = .ok (.iconst 0, 1) := by decide +kernel
theorem d_S_tell_54 : decode c_S_tell 54 = .ok (.istore 7, 2) := by decide +kernel
theorem d_S_tell_56 : decode c_S_tell 56 = .ok (.aload_n 0, 1) := by decide +kernel
theorem d_S_tell_57 : decode c_S_tell 57 = .ok (.iload 6, 2) := by decide +kernel
theorem d_S_tell_59 : decode c_S_tell 59 = .ok (.lload_n 1, 1) := by decide +kernel
theorem d_S_tell_60 : decode c_S_tell 60 = .ok (.lload_n 3, 1) := by decide +kernel
theorem d_S_tell_61 : decode c_S_tell 61 = .ok (.iload 5, 2) := by decide +kernel
theorem d_S_tell_63 : decode c_S_tell 63 = .ok (.invokevirtual 30, 3) := by decide +kernel
theorem d_S_tell_66 : decode c_S_tell 66 = .ok (.iload 7, 2) := by decide +kernel
theorem d_S_tell_68 : decode c_S_tell 68 = .ok (.ireturn, 1) := by decide +kernel
theorem d_S_tell_69 : decode c_S_tell 69 = .ok (.aload_n 0, 1) := by decide +kernel
theorem d_S_tell_70 : decode c_S_tell 70 = .ok (.getfield 22, 3) := by decide +kernel
theorem d_S_tell_73 : decode c_S_tell 73 = .ok (.bipush 8, 2) := by decide +kernel
theorem d_S_tell_75 : decode c_S_tell 75 = .ok (.if_icmp .lt 5, 3) := by decide +kernel
theorem d_S_tell_78 : decode c_S_tell 78 = .ok (.iconst 0, 1) := by decide +kernel
theorem d_S_tell_79 : decode c_S_tell 79 = .ok (.ireturn, 1) := by decide +kernel
theorem d_S_tell_80 : decode c_S_tell 80 = .ok (.aload_n 0, 1) := by decide +kernel
theorem d_S_tell_81 : decode c_S_tell 81 = .ok (.getfield 22, 3) := by decide +kernel
theorem d_S_tell_84 : decode c_S_tell 84 = .ok (.istore 7, 2) := by decide +kernel
theorem d_S_tell_86 : decode c_S_tell 86 = .ok (.iload 7, 2) := by decide +kernel
theorem d_S_tell_88 : decode c_S_tell 88 = .ok (.iload 6, 2) := by decide +kernel
theorem d_S_tell_90 : decode c_S_tell 90 = .ok (.iconst 1, 1) := by decide +kernel
theorem d_S_tell_91 : decode c_S_tell 91 = .ok (.iadd, 1) := by decide +kernel
theorem d_S_tell_92 : decode c_S_tell 92 = .ok (.if_icmp .le 42, 3) := by decide +kernel
theorem d_S_tell_95 : decode c_S_tell 95 = .ok (.aload_n 0, 1) := by decide +kernel
theorem d_S_tell_96 : decode c_S_tell 96 = .ok (.iload 7, 2) := by decide +kernel
theorem d_S_tell_98 : decode c_S_tell 98 = .ok (.aload_n 0, 1) := by decide +kernel
theorem d_S_tell_99 : decode c_S_tell 99 = .ok (.getfield 11, 3) := by decide +kernel
theorem d_S_tell_102 : decode c_S_tell 102 = .ok (.iload 7, 2) := by decide +kernel
theorem d_S_tell_104 : decode c_S_tell 104 = .ok (.iconst 1, 1) := by decide +kernel
theorem d_S_tell_105 : decode c_S_tell 105 = .ok (.isub, 1) := by decide +kernel
theorem d_S_tell_106 : decode c_S_tell 106 = .ok (.laload, 1) := by decide +kernel
theorem d_S_tell_107 : decode c_S_tell 107 = .ok (.aload_n 0, 1) := by decide +kernel
theorem d_S_tell_108 : decode c_S_tell 108 = .ok (.getfield 15, 3) := by decide +kernel
theorem d_S_tell_111 : decode c_S_tell 111 = .ok (.iload 7, 2) := by decide +kernel
theorem d_S_tell_113 : decode c_S_tell 113 = .ok (.iconst 1, 1) := by decide +kernel
theorem d_S_tell_114 : decode c_S_tell 114 = .ok (.isub, 1) := by decide +kernel
theorem d_S_tell_115 : decode c_S_tell 115 = .ok (.laload, 1) := by decide +kernel
theorem d_S_tell_116 : decode c_S_tell 116 = .ok (.aload_n 0, 1) := by decide +kernel
theorem d_S_tell_117 : decode c_S_tell 117 = .ok (.getfield 18, 3) := by decide +kernel
theorem d_S_tell_120 : decode c_S_tell 120 = .ok (.iload 7, 2) := by decide +kernel
theorem d_S_tell_122 : decode c_S_tell 122 = .ok (.iconst 1, 1) := by decide +kernel
theorem d_S_tell_123 : decode c_S_tell 123 = .ok (.isub, 1) := by decide +kernel
theorem d_S_tell_124 : decode c_S_tell 124 = .ok (.iaload, 1) := by decide +kernel
theorem d_S_tell_125 : decode c_S_tell 125 = .ok (.invokevirtual 30, 3) := by decide +kernel
theorem d_S_tell_128 : decode c_S_tell 128 = .ok (.iinc 7 (-1), 3) := by decide +kernel
theorem d_S_tell_131 : decode c_S_tell 131 = .ok (.goto (-45), 3) := by decide +kernel
theorem d_S_tell_134 : decode c_S_tell 134 = .ok (.aload_n 0, 1) := by decide +kernel
theorem d_S_tell_135 : decode c_S_tell 135 = .ok (.iload 6, 2) := by decide +kernel
theorem d_S_tell_137 : decode c_S_tell 137 = .ok (.iconst 1, 1) := by decide +kernel
theorem d_S_tell_138 : decode c_S_tell 138 = .ok (.iadd, 1) := by decide +kernel
theorem d_S_tell_139 : decode c_S_tell 139 = .ok (.lload_n 1, 1) := by decide +kernel
theorem d_S_tell_140 : decode c_S_tell 140 = .ok (.lload_n 3, 1) := by decide +kernel
theorem d_S_tell_141 : decode c_S_tell 141 = .ok (.iload 5, 2) := by decide +kernel
theorem d_S_tell_143 : decode c_S_tell 143 = .ok (.invokevirtual 30, 3) := by decide +kernel
theorem d_S_tell_146 : decode c_S_tell 146 = .ok (.aload_n 0, 1) := by decide +kernel
theorem d_S_tell_147 : decode c_S_tell 147 = .ok (.dup, 1) := by decide +kernel
theorem d_S_tell_148 : decode c_S_tell 148 = .ok (.getfield 22, 3) := by decide +kernel
theorem d_S_tell_151 : decode c_S_tell 151 = .ok (.iconst 1, 1) := by decide +kernel
theorem d_S_tell_152 : decode c_S_tell 152 = .ok (.iadd, 1) := by decide +kernel
theorem d_S_tell_153 : decode c_S_tell 153 = .ok (.putfield 22, 3) := by decide +kernel
theorem d_S_tell_156 : decode c_S_tell 156 = .ok (.iconst 1, 1) := by decide +kernel
theorem d_S_tell_157 : decode c_S_tell 157 = .ok (.ireturn, 1) := by decide +kernel
