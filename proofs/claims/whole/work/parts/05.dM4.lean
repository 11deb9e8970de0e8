theorem d_M_priceOf_24 : decode c_M_priceOf 24 = .ok (.if_icmp .ge 64, 3) := by decide +kernel
theorem d_M_priceOf_27 : decode c_M_priceOf 27 = .ok (.aload_n 0, 1) := by decide +kernel
theorem d_M_priceOf_28 : decode c_M_priceOf 28 = .ok (.getfield 32, 3) := by decide +kernel
theorem d_M_priceOf_31 : decode c_M_priceOf 31 = .ok (.iload 6, 2) := by decide +kernel
theorem d_M_priceOf_33 : decode c_M_priceOf 33 = .ok (.iaload, 1) := by decide +kernel
theorem d_M_priceOf_34 : decode c_M_priceOf 34 = .ok (.iload_n 2, 1) := by decide +kernel
theorem d_M_priceOf_35 : decode c_M_priceOf 35 = .ok (.if_icmp .gt 47, 3) := by decide +kernel
theorem d_M_priceOf_38 : decode c_M_priceOf 38 = .ok (.aload_n 0, 1) := by decide +kernel
theorem d_M_priceOf_39 : decode c_M_priceOf 39 = .ok (.getfield 32, 3) := by decide +kernel
theorem d_M_priceOf_42 : decode c_M_priceOf 42 = .ok (.iload 6, 2) := by decide +kernel
theorem d_M_priceOf_44 : decode c_M_priceOf 44 = .ok (.iaload, 1) := by decide +kernel
theorem d_M_priceOf_45 : decode c_M_priceOf 45 = .ok (.iload_n 3, 1) := by decide +kernel
theorem d_M_priceOf_46 : decode c_M_priceOf 46 = .ok (.if_icmp .ge 6, 3) := by decide +kernel
theorem d_M_priceOf_49 : decode c_M_priceOf 49 = .ok (.goto 33, 3) := by decide +kernel
theorem d_M_priceOf_52 : decode c_M_priceOf 52 = .ok (.aload_n 0, 1) := by decide +kernel
theorem d_M_priceOf_53 : decode c_M_priceOf 53 = .ok (.getfield 32, 3) := by decide +kernel
theorem d_M_priceOf_56 : decode c_M_priceOf 56 = .ok (.iload 6, 2) := by decide +kernel
theorem d_M_priceOf_58 : decode c_M_priceOf 58 = .ok (.iaload, 1) := by decide +kernel
theorem d_M_priceOf_59 : decode c_M_priceOf 59 = .ok (.istore_n 3, 1) := by decide +kernel
theorem d_M_priceOf_60 : decode c_M_priceOf 60 = .ok (.aload_n 0, 1) := by decide +kernel
theorem d_M_priceOf_61 : decode c_M_priceOf 61 = .ok (.getfield 35, 3) := by decide +kernel
theorem d_M_priceOf_64 : decode c_M_priceOf 64 = .ok (.iload 6, 2) := by decide +kernel
theorem d_M_priceOf_66 : decode c_M_priceOf 66 = .ok (.laload, 1) := by decide +kernel
theorem d_M_priceOf_67 : decode c_M_priceOf 67 = .ok (.aload_n 0, 1) := by decide +kernel
theorem d_M_priceOf_68 : decode c_M_priceOf 68 = .ok (.getfield 41, 3) := by decide +kernel
theorem d_M_priceOf_71 : decode c_M_priceOf 71 = .ok (.aload_n 0, 1) := by decide +kernel
theorem d_M_priceOf_72 : decode c_M_priceOf 72 = .ok (.getfield 38, 3) := by decide +kernel
theorem d_M_priceOf_75 : decode c_M_priceOf 75 = .ok (.iload 6, 2) := by decide +kernel
theorem d_M_priceOf_77 : decode c_M_priceOf 77 = .ok (.iaload, 1) := by decide +kernel
theorem d_M_priceOf_78 : decode c_M_priceOf 78 = .ok (.laload, 1) := by decide +kernel
theorem d_M_priceOf_79 : decode c_M_priceOf 79 = .ok (.lmul, 1) := by decide +kernel
theorem d_M_priceOf_80 : decode c_M_priceOf 80 = .ok (.lstore 4, 2) := by decide +kernel
theorem d_M_priceOf_82 : decode c_M_priceOf 82 = .ok (.iinc 6 1, 3) := by decide +kernel
theorem d_M_priceOf_85 : decode c_M_priceOf 85 = .ok (.goto (-74), 3) := by decide +kernel
theorem d_M_priceOf_88 : decode c_M_priceOf 88 = .ok (.lload 4, 2) := by decide +kernel
theorem d_M_priceOf_90 : decode c_M_priceOf 90 = .ok (.lreturn, 1) := by decide +kernel
theorem d_M_rate_0 : decode c_M_rate 0 = .ok (.aload_n 0, 1) := by decide +kernel
theorem d_M_rate_1 : decode c_M_rate 1 = .ok (.iload_n 1, 1) := by decide +kernel
theorem d_M_rate_2 : decode c_M_rate 2 = .ok (.invokestatic 133, 3) := by decide +kernel
theorem d_M_rate_5 : decode c_M_rate 5 = .ok (.ifCond .ne 7, 3) := by decide +kernel
theorem d_M_rate_8 : decode c_M_rate 8 = .ok (.iconst 1, 1) := by decide +kernel
theorem d_M_rate_9 : decode c_M_rate 9 = .ok (.goto 22, 3) := by decide +kernel
theorem d_M_rate_12 : decode c_M_rate 12 = .ok (.lload_n 2, 1) := by decide +kernel
theorem d_M_rate_13 : decode c_M_rate 13 = .ok (.lconst 1, 1) := by decide +kernel
theorem d_M_rate_14 : decode c_M_rate 14 = .ok (.lcmp, 1) := by decide +kernel
theorem d_M_rate_15 : decode c_M_rate 15 = .ok (.ifCond .lt 11, 3) := by decide +kernel
theorem d_M_rate_18 : decode c_M_rate 18 = .ok (.lload_n 2, 1) := by decide +kernel
theorem d_M_rate_19 : decode c_M_rate 19 = .ok (.ldc2_w 80, 3) := by decide +kernel
theorem d_M_rate_22 : decode c_M_rate 22 = .ok (.lcmp, 1) := by decide +kernel
theorem d_M_rate_23 : decode c_M_rate 23 = .ok (.ifCond .le 7, 3) := by decide +kernel
theorem d_M_rate_26 : decode c_M_rate 26 = .ok (.iconst 2, 1) := by decide +kernel
theorem d_M_rate_27 : decode c_M_rate 27 = .ok (.goto 4, 3) := by decide +kernel
theorem d_M_rate_30 : decode c_M_rate 30 = .ok (.iconst 0, 1) := by decide +kernel
theorem d_M_rate_31 : decode c_M_rate 31 = .ok (.putfield 68, 3) := by decide +kernel
theorem d_M_rate_34 : decode c_M_rate 34 = .ok (.aload_n 0, 1) := by decide +kernel
theorem d_M_rate_35 : decode c_M_rate 35 = .ok (.getfield 68, 3) := by decide +kernel
theorem d_M_rate_38 : decode c_M_rate 38 = .ok (.ifCond .ne 14, 3) := by decide +kernel
theorem d_M_rate_41 : decode c_M_rate 41 = .ok (.aload_n 0, 1) := by decide +kernel
theorem d_M_rate_42 : decode c_M_rate 42 = .ok (.getfield 41, 3) := by decide +kernel
theorem d_M_rate_45 : decode c_M_rate 45 = .ok (.iload_n 1, 1) := by decide +kernel
theorem d_M_rate_46 : decode c_M_rate 46 = .ok (.laload, 1) := by decide +kernel
theorem d_M_rate_47 : decode c_M_rate 47 = .ok (.lload_n 2, 1) := by decide +kernel
theorem d_M_rate_48 : decode c_M_rate 48 = .ok (.lcmp, 1) := by decide +kernel
theorem d_M_rate_49 : decode c_M_rate 49 = .ok (.ifCond .ne 5, 3) := by decide +kernel
theorem d_M_rate_52 : decode c_M_rate 52 = .ok (.iconst 0, 1) := by decide +kernel
theorem d_M_rate_53 : decode c_M_rate 53 = .ok (.ireturn, 1) := by decide +kernel
theorem d_M_rate_54 : decode c_M_rate 54 = .ok (.aload_n 0, 1) := by decide +kernel
theorem d_M_rate_55 : decode c_M_rate 55 = .ok (.getfield 41, 3) := by decide +kernel
theorem d_M_rate_58 : decode c_M_rate 58 = .ok (.iload_n 1, 1) := by decide +kernel
theorem d_M_rate_59 : decode c_M_rate 59 = .ok (.lload_n 2, 1) := by decide +kernel
theorem d_M_rate_60 : decode c_M_rate 60 = .ok (.lastore, 1) := by decide +kernel
theorem d_M_rate_61 : decode c_M_rate 61 = .ok (.iconst 1, 1) := by decide +kernel
theorem d_M_rate_62 : decode c_M_rate 62 = .ok (.ireturn, 1) := by decide +kernel
theorem d_M_refusal_0 : decode c_M_refusal 0 = .ok (.aload_n 0, 1) := by decide +kernel
theorem d_M_refusal_1 : decode c_M_refusal 1 = .ok (.iload_n 1, 1) := by decide +kernel
theorem d_M_refusal_2 : decode c_M_refusal 2 = .ok (.invokevirtual 91, 3) := by decide +kernel
theorem d_M_refusal_5 : decode c_M_refusal 5 = .ok (.ifCond .eq 11, 3) := by decide +kernel
theorem d_M_refusal_8 : decode c_M_refusal 8 = .ok (.aload_n 0, 1) := by decide +kernel
theorem d_M_refusal_9 : decode c_M_refusal 9 = .ok (.iload_n 2, 1) := by decide +kernel
theorem d_M_refusal_10 : decode c_M_refusal 10 = .ok (.invokevirtual 112, 3) := by decide +kernel
theorem d_M_refusal_13 : decode c_M_refusal 13 = .ok (.ifCond .ne 5, 3) := by decide +kernel
theorem d_M_refusal_16 : decode c_M_refusal 16 = .ok (.iconst 1, 1) := by decide +kernel
theorem d_M_refusal_17 : decode c_M_refusal 17 = .ok (.ireturn, 1) := by decide +kernel
theorem d_M_refusal_18 : decode c_M_refusal 18 = .ok (.iload_n 3, 1) := by decide +kernel
theorem d_M_refusal_19 : decode c_M_refusal 19 = .ok (.invokestatic 148, 3) := by decide +kernel
theorem d_M_refusal_22 : decode c_M_refusal 22 = .ok (.ifCond .eq 7, 3) := by decide +kernel
theorem d_M_refusal_25 : decode c_M_refusal 25 = .ok (.iconst 0, 1) := by decide +kernel
theorem d_M_refusal_26 : decode c_M_refusal 26 = .ok (.goto 4, 3) := by decide +kernel
theorem d_M_refusal_29 : decode c_M_refusal 29 = .ok (.iconst 2, 1) := by decide +kernel
theorem d_M_refusal_30 : decode c_M_refusal 30 = .ok (.ireturn, 1) := by decide +kernel
theorem d_M_rule_0 : decode c_M_rule 0 = .ok (.aload_n 0, 1) := by decide +kernel
theorem d_M_rule_1 : decode c_M_rule 1 = .ok (.iconst 0, 1) := by decide +kernel
theorem d_M_rule_2 : decode c_M_rule 2 = .ok (.putfield 68, 3) := by decide +kernel
theorem d_M_rule_5 : decode c_M_rule 5 = .ok (.aload_n 0, 1) := by decide +kernel
theorem d_M_rule_6 : decode c_M_rule 6 = .ok (.getfield 75, 3) := by decide +kernel
theorem d_M_rule_9 : decode c_M_rule 9 = .ok (.bipush 10, 2) := by decide +kernel
theorem d_M_rule_11 : decode c_M_rule 11 = .ok (.if_icmp .ne 5, 3) := by decide +kernel
theorem d_M_rule_14 : decode c_M_rule 14 = .ok (.iconst (-1), 1) := by decide +kernel
theorem d_M_rule_15 : decode c_M_rule 15 = .ok (.ireturn, 1) := by decide +kernel
theorem d_M_rule_16 : decode c_M_rule 16 = .ok (.aload_n 0, 1) := by decide +kernel
theorem d_M_rule_17 : decode c_M_rule 17 = .ok (.dup, 1) := by decide +kernel
theorem d_M_rule_18 : decode c_M_rule 18 = .ok (.getfield 75, 3) := by decide +kernel
theorem d_M_rule_21 : decode c_M_rule 21 = .ok (.iconst 1, 1) := by decide +kernel
theorem d_M_rule_22 : decode c_M_rule 22 = .ok (.iadd, 1) := by decide +kernel
theorem d_M_rule_23 : decode c_M_rule 23 = .ok (.putfield 75, 3) := by decide +kernel
theorem d_M_rule_26 : decode c_M_rule 26 = .ok (.aload_n 0, 1) := by decide +kernel
theorem d_M_rule_27 : decode c_M_rule 27 = .ok (.getfield 75, 3) := by decide +kernel
theorem d_M_rule_30 : decode c_M_rule 30 = .ok (.iconst 1, 1) := by decide +kernel
theorem d_M_rule_31 : decode c_M_rule 31 = .ok (.isub, 1) := by decide +kernel
theorem d_M_rule_32 : decode c_M_rule 32 = .ok (.ireturn, 1) := by decide +kernel
theorem d_M_search_0 : decode c_M_search 0 = .ok (.aload_n 0, 1) := by decide +kernel
theorem d_M_search_1 : decode c_M_search 1 = .ok (.iload_n 1, 1) := by decide +kernel
theorem d_M_search_2 : decode c_M_search 2 = .ok (.invokestatic 95, 3) := by decide +kernel
theorem d_M_search_5 : decode c_M_search 5 = .ok (.ifCond .ne 7, 3) := by decide +kernel
theorem d_M_search_8 : decode c_M_search 8 = .ok (.iconst 1, 1) := by decide +kernel
theorem d_M_search_9 : decode c_M_search 9 = .ok (.goto 39, 3) := by decide +kernel
theorem d_M_search_12 : decode c_M_search 12 = .ok (.lload_n 2, 1) := by decide +kernel
theorem d_M_search_13 : decode c_M_search 13 = .ok (.invokestatic 84, 3) := by decide +kernel
theorem d_M_search_16 : decode c_M_search 16 = .ok (.ifCond .eq 31, 3) := by decide +kernel
theorem d_M_search_19 : decode c_M_search 19 = .ok (.lload 6, 2) := by decide +kernel
theorem d_M_search_21 : decode c_M_search 21 = .ok (.invokestatic 84, 3) := by decide +kernel
theorem d_M_search_24 : decode c_M_search 24 = .ok (.ifCond .eq 23, 3) := by decide +kernel
theorem d_M_search_27 : decode c_M_search 27 = .ok (.lload 4, 2) := by decide +kernel
theorem d_M_search_29 : decode c_M_search 29 = .ok (.invokestatic 88, 3) := by decide +kernel
theorem d_M_search_32 : decode c_M_search 32 = .ok (.ifCond .eq 15, 3) := by decide +kernel
theorem d_M_search_35 : decode c_M_search 35 = .ok (.lload 8, 2) := by decide +kernel
theorem d_M_search_37 : decode c_M_search 37 = .ok (.invokestatic 88, 3) := by decide +kernel
theorem d_M_search_40 : decode c_M_search 40 = .ok (.ifCond .eq 7, 3) := by decide +kernel
theorem d_M_search_43 : decode c_M_search 43 = .ok (.iconst 0, 1) := by decide +kernel
theorem d_M_search_44 : decode c_M_search 44 = .ok (.goto 4, 3) := by decide +kernel
theorem d_M_search_47 : decode c_M_search 47 = .ok (.iconst 2, 1) := by decide +kernel
theorem d_M_search_48 : decode c_M_search 48 = .ok (.putfield 68, 3) := by decide +kernel
theorem d_M_search_51 : decode c_M_search 51 = .ok (.aload_n 0, 1) := by decide +kernel
theorem d_M_search_52 : decode c_M_search 52 = .ok (.getfield 68, 3) := by decide +kernel
theorem d_M_search_55 : decode c_M_search 55 = .ok (.ifCond .eq 5, 3) := by decide +kernel
theorem d_M_search_58 : decode c_M_search 58 = .ok (.iconst 0, 1) := by decide +kernel
theorem d_M_search_59 : decode c_M_search 59 = .ok (.ireturn, 1) := by decide +kernel
theorem d_M_search_60 : decode c_M_search 60 = .ok (.aload_n 0, 1) := by decide +kernel
theorem d_M_search_61 : decode c_M_search 61 = .ok (.iconst 0, 1) := by decide +kernel
theorem d_M_search_62 : decode c_M_search 62 = .ok (.putfield 119, 3) := by decide +kernel
theorem d_M_search_65 : decode c_M_search 65 = .ok (.iconst 0, 1) := by decide +kernel
theorem d_M_search_66 : decode c_M_search 66 = .ok (.istore 10, 2) := by decide +kernel
theorem d_M_search_68 : decode c_M_search 68 = .ok (.iload 10, 2) := by decide +kernel
theorem d_M_search_70 : decode c_M_search 70 = .ok (.aload_n 0, 1) := by decide +kernel
theorem d_M_search_71 : decode c_M_search 71 = .ok (.getfield 72, 3) := by decide +kernel
theorem d_M_search_74 : decode c_M_search 74 = .ok (.if_icmp .ge 82, 3) := by decide +kernel
theorem d_M_search_77 : decode c_M_search 77 = .ok (.bipush 12, 2) := by decide +kernel
theorem d_M_search_79 : decode c_M_search 79 = .ok (.iload 10, 2) := by decide +kernel
theorem d_M_search_81 : decode c_M_search 81 = .ok (.imul, 1) := by decide +kernel
theorem d_M_search_82 : decode c_M_search 82 = .ok (.iload_n 1, 1) := by decide +kernel
theorem d_M_search_83 : decode c_M_search 83 = .ok (.iadd, 1) := by decide +kernel
theorem d_M_search_84 : decode c_M_search 84 = .ok (.istore 11, 2) := by decide +kernel
theorem d_M_search_86 : decode c_M_search 86 = .ok (.aload_n 0, 1) := by decide +kernel
theorem d_M_search_87 : decode c_M_search 87 = .ok (.iload 10, 2) := by decide +kernel
theorem d_M_search_89 : decode c_M_search 89 = .ok (.iload_n 1, 1) := by decide +kernel
theorem d_M_search_90 : decode c_M_search 90 = .ok (.invokevirtual 104, 3) := by decide +kernel
theorem d_M_search_93 : decode c_M_search 93 = .ok (.ifCond .eq 57, 3) := by decide +kernel
theorem d_M_search_96 : decode c_M_search 96 = .ok (.aload_n 0, 1) := by decide +kernel
theorem d_M_search_97 : decode c_M_search 97 = .ok (.getfield 16, 3) := by decide +kernel
theorem d_M_search_100 : decode c_M_search 100 = .ok (.iload 11, 2) := by decide +kernel
theorem d_M_search_102 : decode c_M_search 102 = .ok (.laload, 1) := by decide +kernel
theorem d_M_search_103 : decode c_M_search 103 = .ok (.aload_n 0, 1) := by decide +kernel
theorem d_M_search_104 : decode c_M_search 104 = .ok (.getfield 20, 3) := by decide +kernel
theorem d_M_search_107 : decode c_M_search 107 = .ok (.iload 11, 2) := by decide +kernel
theorem d_M_search_109 : decode c_M_search 109 = .ok (.laload, 1) := by decide +kernel
theorem d_M_search_110 : decode c_M_search 110 = .ok (.lload_n 2, 1) := by decide +kernel
theorem d_M_search_111 : decode c_M_search 111 = .ok (.lload 4, 2) := by decide +kernel
theorem d_M_search_113 : decode c_M_search 113 = .ok (.invokestatic 108, 3) := by decide +kernel
theorem d_M_search_116 : decode c_M_search 116 = .ok (.ifCond .lt 34, 3) := by decide +kernel
theorem d_M_search_119 : decode c_M_search 119 = .ok (.aload_n 0, 1) := by decide +kernel
theorem d_M_search_120 : decode c_M_search 120 = .ok (.getfield 16, 3) := by decide +kernel
theorem d_M_search_123 : decode c_M_search 123 = .ok (.iload 11, 2) := by decide +kernel
theorem d_M_search_125 : decode c_M_search 125 = .ok (.laload, 1) := by decide +kernel
theorem d_M_search_126 : decode c_M_search 126 = .ok (.aload_n 0, 1) := by decide +kernel
theorem d_M_search_127 : decode c_M_search 127 = .ok (.getfield 20, 3) := by decide +kernel
theorem d_M_search_130 : decode c_M_search 130 = .ok (.iload 11, 2) := by decide +kernel
theorem d_M_search_132 : decode c_M_search 132 = .ok (.laload, 1) := by decide +kernel
theorem d_M_search_133 : decode c_M_search 133 = .ok (.lload 6, 2) := by decide +kernel
theorem d_M_search_135 : decode c_M_search 135 = .ok (.lload 8, 2) := by decide +kernel
theorem d_M_search_137 : decode c_M_search 137 = .ok (.invokestatic 108, 3) := by decide +kernel
theorem d_M_search_140 : decode c_M_search 140 = .ok (.ifCond .gt 10, 3) := by decide +kernel
theorem d_M_search_143 : decode c_M_search 143 = .ok (.aload_n 0, 1) := by decide +kernel
theorem d_M_search_144 : decode c_M_search 144 = .ok (.iload 10, 2) := by decide +kernel
theorem d_M_search_146 : decode c_M_search 146 = .ok (.iload_n 1, 1) := by decide +kernel
theorem d_M_search_147 : decode c_M_search 147 = .ok (.invokevirtual 129, 3) := by decide +kernel
theorem d_M_search_150 : decode c_M_search 150 = .ok (.iinc 10 1, 3) := by decide +kernel
theorem d_M_search_153 : decode c_M_search 153 = .ok (.goto (-85), 3) := by decide +kernel
theorem d_M_search_156 : decode c_M_search 156 = .ok (.aload_n 0, 1) := by decide +kernel
theorem d_M_search_157 : decode c_M_search 157 = .ok (.getfield 119, 3) := by decide +kernel
theorem d_M_search_160 : decode c_M_search 160 = .ok (.ireturn, 1) := by decide +kernel
theorem d_M_state_0 : decode c_M_state 0 = .ok (.aload_n 0, 1) := by decide +kernel
theorem d_M_state_1 : decode c_M_state 1 = .ok (.aload_n 0, 1) := by decide +kernel
theorem d_M_state_2 : decode c_M_state 2 = .ok (.iload_n 1, 1) := by decide +kernel
theorem d_M_state_3 : decode c_M_state 3 = .ok (.invokevirtual 91, 3) := by decide +kernel
theorem d_M_state_6 : decode c_M_state 6 = .ok (.ifCond .eq 7, 3) := by decide +kernel
theorem d_M_state_9 : decode c_M_state 9 = .ok (.iconst 0, 1) := by decide +kernel
theorem d_M_state_10 : decode c_M_state 10 = .ok (.goto 4, 3) := by decide +kernel
theorem d_M_state_13 : decode c_M_state 13 = .ok (.iconst 1, 1) := by decide +kernel
theorem d_M_state_14 : decode c_M_state 14 = .ok (.putfield 68, 3) := by decide +kernel
theorem d_M_state_17 : decode c_M_state 17 = .ok (.aload_n 0, 1) := by decide +kernel
theorem d_M_state_18 : decode c_M_state 18 = .ok (.getfield 68, 3) := by decide +kernel
theorem d_M_state_21 : decode c_M_state 21 = .ok (.ifCond .ne 12, 3) := by decide +kernel
theorem d_M_state_24 : decode c_M_state 24 = .ok (.aload_n 0, 1) := by decide +kernel
theorem d_M_state_25 : decode c_M_state 25 = .ok (.iload_n 1, 1) := by decide +kernel
theorem d_M_state_26 : decode c_M_state 26 = .ok (.lload_n 2, 1) := by decide +kernel
theorem d_M_state_27 : decode c_M_state 27 = .ok (.invokevirtual 155, 3) := by decide +kernel
theorem d_M_state_30 : decode c_M_state 30 = .ok (.goto 4, 3) := by decide +kernel
theorem d_M_state_33 : decode c_M_state 33 = .ok (.iconst 0, 1) := by decide +kernel
theorem d_M_state_34 : decode c_M_state 34 = .ok (.ireturn, 1) := by decide +kernel
theorem d_M_stateOf_0 : decode c_M_stateOf 0 = .ok (.iconst (-1), 1) := by decide +kernel
theorem d_M_stateOf_1 : decode c_M_stateOf 1 = .ok (.istore 4, 2) := by decide +kernel
theorem d_M_stateOf_3 : decode c_M_stateOf 3 = .ok (.bipush 8, 2) := by decide +kernel
theorem d_M_stateOf_5 : decode c_M_stateOf 5 = .ok (.iload_n 1, 1) := by decide +kernel
theorem d_M_stateOf_6 : decode c_M_stateOf 6 = .ok (.imul, 1) := by decide +kernel
theorem d_M_stateOf_7 : decode c_M_stateOf 7 = .ok (.istore 5, 2) := by decide +kernel
theorem d_M_stateOf_9 : decode c_M_stateOf 9 = .ok (.iload 5, 2) := by decide +kernel
theorem d_M_stateOf_11 : decode c_M_stateOf 11 = .ok (.bipush 8, 2) := by decide +kernel
theorem d_M_stateOf_13 : decode c_M_stateOf 13 = .ok (.iload_n 1, 1) := by decide +kernel
theorem d_M_stateOf_14 : decode c_M_stateOf 14 = .ok (.imul, 1) := by decide +kernel
theorem d_M_stateOf_15 : decode c_M_stateOf 15 = .ok (.aload_n 0, 1) := by decide +kernel
theorem d_M_stateOf_16 : decode c_M_stateOf 16 = .ok (.getfield 53, 3) := by decide +kernel
theorem d_M_stateOf_19 : decode c_M_stateOf 19 = .ok (.iload_n 1, 1) := by decide +kernel
theorem d_M_stateOf_20 : decode c_M_stateOf 20 = .ok (.iaload, 1) := by decide +kernel
theorem d_M_stateOf_21 : decode c_M_stateOf 21 = .ok (.iadd, 1) := by decide +kernel
theorem d_M_stateOf_22 : decode c_M_stateOf 22 = .ok (.if_icmp .ge 49, 3) := by decide +kernel
theorem d_M_stateOf_25 : decode c_M_stateOf 25 = .ok (.aload_n 0, 1) := by decide +kernel
theorem d_M_stateOf_26 : decode c_M_stateOf 26 = .ok (.getfield 56, 3) := by decide +kernel
theorem d_M_stateOf_29 : decode c_M_stateOf 29 = .ok (.iload 5, 2) := by decide +kernel
theorem d_M_stateOf_31 : decode c_M_stateOf 31 = .ok (.laload, 1) := by decide +kernel
theorem d_M_stateOf_32 : decode c_M_stateOf 32 = .ok (.lload_n 2, 1) := by decide +kernel
theorem d_M_stateOf_33 : decode c_M_stateOf 33 = .ok (.lcmp, 1) := by decide +kernel
theorem d_M_stateOf_34 : decode c_M_stateOf 34 = .ok (.ifCond .gt 31, 3) := by decide +kernel
theorem d_M_stateOf_37 : decode c_M_stateOf 37 = .ok (.iload 4, 2) := by decide +kernel
theorem d_M_stateOf_39 : decode c_M_stateOf 39 = .ok (.iconst (-1), 1) := by decide +kernel
theorem d_M_stateOf_40 : decode c_M_stateOf 40 = .ok (.if_icmp .eq 21, 3) := by decide +kernel
theorem d_M_stateOf_43 : decode c_M_stateOf 43 = .ok (.aload_n 0, 1) := by decide +kernel
theorem d_M_stateOf_44 : decode c_M_stateOf 44 = .ok (.getfield 56, 3) := by decide +kernel
theorem d_M_stateOf_47 : decode c_M_stateOf 47 = .ok (.iload 5, 2) := by decide +kernel
theorem d_M_stateOf_49 : decode c_M_stateOf 49 = .ok (.laload, 1) := by decide +kernel
theorem d_M_stateOf_50 : decode c_M_stateOf 50 = .ok (.aload_n 0, 1) := by decide +kernel
theorem d_M_stateOf_51 : decode c_M_stateOf 51 = .ok (.getfield 56, 3) := by decide +kernel
theorem d_M_stateOf_54 : decode c_M_stateOf 54 = .ok (.iload 4, 2) := by decide +kernel
theorem d_M_stateOf_56 : decode c_M_stateOf 56 = .ok (.laload, 1) := by decide +kernel
theorem d_M_stateOf_57 : decode c_M_stateOf 57 = .ok (.lcmp, 1) := by decide +kernel
theorem d_M_stateOf_58 : decode c_M_stateOf 58 = .ok (.ifCond .le 7, 3) := by decide +kernel
theorem d_M_stateOf_61 : decode c_M_stateOf 61 = .ok (.iload 5, 2) := by decide +kernel
theorem d_M_stateOf_63 : decode c_M_stateOf 63 = .ok (.istore 4, 2) := by decide +kernel
theorem d_M_stateOf_65 : decode c_M_stateOf 65 = .ok (.iinc 5 1, 3) := by decide +kernel
theorem d_M_stateOf_68 : decode c_M_stateOf 68 = .ok (.goto (-59), 3) := by decide +kernel
theorem d_M_stateOf_71 : decode c_M_stateOf 71 = .ok (.iload 4, 2) := by decide +kernel
theorem d_M_stateOf_73 : decode c_M_stateOf 73 = .ok (.iconst (-1), 1) := by decide +kernel
theorem d_M_stateOf_74 : decode c_M_stateOf 74 = .ok (.if_icmp .ne 7, 3) := by decide +kernel
theorem d_M_stateOf_77 : decode c_M_stateOf 77 = .ok (.iconst 0, 1) := by decide +kernel
theorem d_M_stateOf_78 : decode c_M_stateOf 78 = .ok (.goto 10, 3) := by decide +kernel
theorem d_M_stateOf_81 : decode c_M_stateOf 81 = .ok (.aload_n 0, 1) := by decide +kernel
theorem d_M_stateOf_82 : decode c_M_stateOf 82 = .ok (.getfield 59, 3) := by decide +kernel
theorem d_M_stateOf_85 : decode c_M_stateOf 85 = .ok (.iload 4, 2) := by decide +kernel
theorem d_M_stateOf_87 : decode c_M_stateOf 87 = .ok (.iaload, 1) := by decide +kernel
theorem d_M_stateOf_88 : decode c_M_stateOf 88 = .ok (.ireturn, 1) := by decide +kernel
theorem d_M_stock_0 : decode c_M_stock 0 = .ok (.aload_n 0, 1) := by decide +kernel
theorem d_M_stock_1 : decode c_M_stock 1 = .ok (.aload_n 0, 1) := by decide +kernel
theorem d_M_stock_2 : decode c_M_stock 2 = .ok (.iload_n 1, 1) := by decide +kernel
theorem d_M_stock_3 : decode c_M_stock 3 = .ok (.invokevirtual 91, 3) := by decide +kernel
theorem d_M_stock_6 : decode c_M_stock 6 = .ok (.ifCond .ne 7, 3) := by decide +kernel
theorem d_M_stock_9 : decode c_M_stock 9 = .ok (.iconst 1, 1) := by decide +kernel
theorem d_M_stock_10 : decode c_M_stock 10 = .ok (.goto 19, 3) := by decide +kernel
theorem d_M_stock_13 : decode c_M_stock 13 = .ok (.iload_n 2, 1) := by decide +kernel
theorem d_M_stock_14 : decode c_M_stock 14 = .ok (.ifCond .lt 10, 3) := by decide +kernel
theorem d_M_stock_17 : decode c_M_stock 17 = .ok (.iload_n 2, 1) := by decide +kernel
theorem d_M_stock_18 : decode c_M_stock 18 = .ok (.sipush 20000, 3) := by decide +kernel
theorem d_M_stock_21 : decode c_M_stock 21 = .ok (.if_icmp .le 7, 3) := by decide +kernel
theorem d_M_stock_24 : decode c_M_stock 24 = .ok (.iconst 2, 1) := by decide +kernel
theorem d_M_stock_25 : decode c_M_stock 25 = .ok (.goto 4, 3) := by decide +kernel
theorem d_M_stock_28 : decode c_M_stock 28 = .ok (.iconst 0, 1) := by decide +kernel
theorem d_M_stock_29 : decode c_M_stock 29 = .ok (.putfield 68, 3) := by decide +kernel
theorem d_M_stock_32 : decode c_M_stock 32 = .ok (.aload_n 0, 1) := by decide +kernel
theorem d_M_stock_33 : decode c_M_stock 33 = .ok (.getfield 68, 3) := by decide +kernel
theorem d_M_stock_36 : decode c_M_stock 36 = .ok (.ifCond .ne 13, 3) := by decide +kernel
theorem d_M_stock_39 : decode c_M_stock 39 = .ok (.aload_n 0, 1) := by decide +kernel
theorem d_M_stock_40 : decode c_M_stock 40 = .ok (.getfield 50, 3) := by decide +kernel
theorem d_M_stock_43 : decode c_M_stock 43 = .ok (.iload_n 1, 1) := by decide +kernel
theorem d_M_stock_44 : decode c_M_stock 44 = .ok (.iaload, 1) := by decide +kernel
theorem d_M_stock_45 : decode c_M_stock 45 = .ok (.iload_n 2, 1) := by decide +kernel
theorem d_M_stock_46 : decode c_M_stock 46 = .ok (.if_icmp .ne 5, 3) := by decide +kernel
theorem d_M_stock_49 : decode c_M_stock 49 = .ok (.iconst 0, 1) := by decide +kernel
theorem d_M_stock_50 : decode c_M_stock 50 = .ok (.ireturn, 1) := by decide +kernel
theorem d_M_stock_51 : decode c_M_stock 51 = .ok (.aload_n 0, 1) := by decide +kernel
theorem d_M_stock_52 : decode c_M_stock 52 = .ok (.getfield 50, 3) := by decide +kernel
theorem d_M_stock_55 : decode c_M_stock 55 = .ok (.iload_n 1, 1) := by decide +kernel
theorem d_M_stock_56 : decode c_M_stock 56 = .ok (.iload_n 2, 1) := by decide +kernel
theorem d_M_stock_57 : decode c_M_stock 57 = .ok (.iastore, 1) := by decide +kernel
theorem d_M_stock_58 : decode c_M_stock 58 = .ok (.iconst 1, 1) := by decide +kernel
theorem d_M_stock_59 : decode c_M_stock 59 = .ok (.ireturn, 1) := by decide +kernel
theorem d_M_thrown_0 : decode c_M_thrown 0 = .ok (.aload_n 0, 1) := by decide +kernel
theorem d_M_thrown_1 : decode c_M_thrown 1 = .ok (.getfield 68, 3) := by decide +kernel
theorem d_M_thrown_4 : decode c_M_thrown 4 = .ok (.ireturn, 1) := by decide +kernel
theorem d_M_told_0 : decode c_M_told 0 = .ok (.aload_n 0, 1) := by decide +kernel
theorem d_M_told_1 : decode c_M_told 1 = .ok (.aload_n 0, 1) := by decide +kernel
theorem d_M_told_2 : decode c_M_told 2 = .ok (.iload_n 1, 1) := by decide +kernel
theorem d_M_told_3 : decode c_M_told 3 = .ok (.invokevirtual 91, 3) := by decide +kernel
theorem d_M_told_6 : decode c_M_told 6 = .ok (.ifCond .eq 23, 3) := by decide +kernel
theorem d_M_told_9 : decode c_M_told 9 = .ok (.iload_n 2, 1) := by decide +kernel
theorem d_M_told_10 : decode c_M_told 10 = .ok (.invokestatic 95, 3) := by decide +kernel
theorem d_M_told_13 : decode c_M_told 13 = .ok (.ifCond .eq 16, 3) := by decide +kernel
theorem d_M_told_16 : decode c_M_told 16 = .ok (.iload_n 3, 1) := by decide +kernel
theorem d_M_told_17 : decode c_M_told 17 = .ok (.ifCond .eq 8, 3) := by decide +kernel
theorem d_M_told_20 : decode c_M_told 20 = .ok (.iload_n 3, 1) := by decide +kernel
theorem d_M_told_21 : decode c_M_told 21 = .ok (.iconst 1, 1) := by decide +kernel
theorem d_M_told_22 : decode c_M_told 22 = .ok (.if_icmp .ne 7, 3) := by decide +kernel
theorem d_M_told_25 : decode c_M_told 25 = .ok (.iconst 0, 1) := by decide +kernel
theorem d_M_told_26 : decode c_M_told 26 = .ok (.goto 4, 3) := by decide +kernel
theorem d_M_told_29 : decode c_M_told 29 = .ok (.iconst 1, 1) := by decide +kernel
theorem d_M_told_30 : decode c_M_told 30 = .ok (.putfield 68, 3) := by decide +kernel
theorem d_M_told_33 : decode c_M_told 33 = .ok (.aload_n 0, 1) := by decide +kernel
theorem d_M_told_34 : decode c_M_told 34 = .ok (.getfield 68, 3) := by decide +kernel
theorem d_M_told_37 : decode c_M_told 37 = .ok (.ifCond .eq 5, 3) := by decide +kernel
theorem d_M_told_40 : decode c_M_told 40 = .ok (.lconst 0, 1) := by decide +kernel
theorem d_M_told_41 : decode c_M_told 41 = .ok (.lreturn, 1) := by decide +kernel
theorem d_M_told_42 : decode c_M_told 42 = .ok (.aload_n 0, 1) := by decide +kernel
theorem d_M_told_43 : decode c_M_told 43 = .ok (.iload_n 1, 1) := by decide +kernel
theorem d_M_told_44 : decode c_M_told 44 = .ok (.iload_n 2, 1) := by decide +kernel
theorem d_M_told_45 : decode c_M_told 45 = .ok (.invokevirtual 104, 3) := by decide +kernel
theorem d_M_told_48 : decode c_M_told 48 = .ok (.ifCond .ne 7, 3) := by decide +kernel
theorem d_M_told_51 : decode c_M_told 51 = .ok (.ldc2_w 82, 3) := by decide +kernel
theorem d_M_told_54 : decode c_M_told 54 = .ok (.lreturn, 1) := by decide +kernel
theorem d_M_told_55 : decode c_M_told 55 = .ok (.iload_n 3, 1) := by decide +kernel
theorem d_M_told_56 : decode c_M_told 56 = .ok (.ifCond .ne 17, 3) := by decide +kernel
theorem d_M_told_59 : decode c_M_told 59 = .ok (.aload_n 0, 1) := by decide +kernel
theorem d_M_told_60 : decode c_M_told 60 = .ok (.getfield 16, 3) := by decide +kernel
theorem d_M_told_63 : decode c_M_told 63 = .ok (.bipush 12, 2) := by decide +kernel
theorem d_M_told_65 : decode c_M_told 65 = .ok (.iload_n 1, 1) := by decide +kernel
theorem d_M_told_66 : decode c_M_told 66 = .ok (.imul, 1) := by decide +kernel
theorem d_M_told_67 : decode c_M_told 67 = .ok (.iload_n 2, 1) := by decide +kernel
theorem d_M_told_68 : decode c_M_told 68 = .ok (.iadd, 1) := by decide +kernel
theorem d_M_told_69 : decode c_M_told 69 = .ok (.laload, 1) := by decide +kernel
theorem d_M_told_70 : decode c_M_told 70 = .ok (.goto 14, 3) := by decide +kernel
theorem d_M_told_73 : decode c_M_told 73 = .ok (.aload_n 0, 1) := by decide +kernel
theorem d_M_told_74 : decode c_M_told 74 = .ok (.getfield 20, 3) := by decide +kernel
theorem d_M_told_77 : decode c_M_told 77 = .ok (.bipush 12, 2) := by decide +kernel
theorem d_M_told_79 : decode c_M_told 79 = .ok (.iload_n 1, 1) := by decide +kernel
theorem d_M_told_80 : decode c_M_told 80 = .ok (.imul, 1) := by decide +kernel
theorem d_M_told_81 : decode c_M_told 81 = .ok (.iload_n 2, 1) := by decide +kernel
theorem d_M_told_82 : decode c_M_told 82 = .ok (.iadd, 1) := by decide +kernel
theorem d_M_told_83 : decode c_M_told 83 = .ok (.laload, 1) := by decide +kernel
theorem d_M_told_84 : decode c_M_told 84 = .ok (.lreturn, 1) := by decide +kernel
theorem d_M_value_0 : decode c_M_value 0 = .ok (.lload_n 3, 1) := by decide +kernel
theorem d_M_value_1 : decode c_M_value 1 = .ok (.invokestatic 84, 3) := by decide +kernel
theorem d_M_value_4 : decode c_M_value 4 = .ok (.ifCond .eq 29, 3) := by decide +kernel
theorem d_M_value_7 : decode c_M_value 7 = .ok (.lload 5, 2) := by decide +kernel
theorem d_M_value_9 : decode c_M_value 9 = .ok (.invokestatic 88, 3) := by decide +kernel
theorem d_M_value_12 : decode c_M_value 12 = .ok (.ifCond .eq 21, 3) := by decide +kernel
theorem d_M_value_15 : decode c_M_value 15 = .ok (.iload 7, 2) := by decide +kernel
theorem d_M_value_17 : decode c_M_value 17 = .ok (.bipush (-9), 2) := by decide +kernel
theorem d_M_value_19 : decode c_M_value 19 = .ok (.if_icmp .lt 14, 3) := by decide +kernel
theorem d_M_value_22 : decode c_M_value 22 = .ok (.iload 7, 2) := by decide +kernel
theorem d_M_value_24 : decode c_M_value 24 = .ok (.bipush 9, 2) := by decide +kernel
theorem d_M_value_26 : decode c_M_value 26 = .ok (.if_icmp .gt 7, 3) := by decide +kernel
theorem d_M_value_29 : decode c_M_value 29 = .ok (.iconst 1, 1) := by decide +kernel
theorem d_M_value_30 : decode c_M_value 30 = .ok (.goto 4, 3) := by decide +kernel
theorem d_M_value_33 : decode c_M_value 33 = .ok (.iconst 0, 1) := by decide +kernel
theorem d_M_value_34 : decode c_M_value 34 = .ok (.istore 8, 2) := by decide +kernel
theorem d_M_value_36 : decode c_M_value 36 = .ok (.aload_n 0, 1) := by decide +kernel
theorem d_M_value_37 : decode c_M_value 37 = .ok (.aload_n 0, 1) := by decide +kernel
theorem d_M_value_38 : decode c_M_value 38 = .ok (.iload_n 1, 1) := by decide +kernel
theorem d_M_value_39 : decode c_M_value 39 = .ok (.invokevirtual 91, 3) := by decide +kernel
theorem d_M_value_42 : decode c_M_value 42 = .ok (.ifCond .eq 10, 3) := by decide +kernel
theorem d_M_value_45 : decode c_M_value 45 = .ok (.iload_n 2, 1) := by decide +kernel
theorem d_M_value_46 : decode c_M_value 46 = .ok (.invokestatic 95, 3) := by decide +kernel
theorem d_M_value_49 : decode c_M_value 49 = .ok (.ifCond .ne 7, 3) := by decide +kernel
theorem d_M_value_52 : decode c_M_value 52 = .ok (.iconst 1, 1) := by decide +kernel
theorem d_M_value_53 : decode c_M_value 53 = .ok (.goto 13, 3) := by decide +kernel
theorem d_M_value_56 : decode c_M_value 56 = .ok (.iload 8, 2) := by decide +kernel
theorem d_M_value_58 : decode c_M_value 58 = .ok (.ifCond .eq 7, 3) := by decide +kernel
theorem d_M_value_61 : decode c_M_value 61 = .ok (.iconst 0, 1) := by decide +kernel
theorem d_M_value_62 : decode c_M_value 62 = .ok (.goto 4, 3) := by decide +kernel
theorem d_M_value_65 : decode c_M_value 65 = .ok (.iconst 2, 1) := by decide +kernel
theorem d_M_value_66 : decode c_M_value 66 = .ok (.putfield 68, 3) := by decide +kernel
theorem d_M_value_69 : decode c_M_value 69 = .ok (.aload_n 0, 1) := by decide +kernel
theorem d_M_value_70 : decode c_M_value 70 = .ok (.getfield 68, 3) := by decide +kernel
theorem d_M_value_73 : decode c_M_value 73 = .ok (.ifCond .eq 5, 3) := by decide +kernel
theorem d_M_value_76 : decode c_M_value 76 = .ok (.iconst 0, 1) := by decide +kernel
theorem d_M_value_77 : decode c_M_value 77 = .ok (.ireturn, 1) := by decide +kernel
theorem d_M_value_78 : decode c_M_value 78 = .ok (.lload_n 3, 1) := by decide +kernel
theorem d_M_value_79 : decode c_M_value 79 = .ok (.lstore 9, 2) := by decide +kernel
theorem d_M_value_81 : decode c_M_value 81 = .ok (.lload 5, 2) := by decide +kernel
theorem d_M_value_83 : decode c_M_value 83 = .ok (.lstore 11, 2) := by decide +kernel
theorem d_M_value_85 : decode c_M_value 85 = .ok (.iconst 0, 1) := by decide +kernel
theorem d_M_value_86 : decode c_M_value 86 = .ok (.istore 13, 2) := by decide +kernel
theorem d_M_value_88 : decode c_M_value 88 = .ok (.iload 13, 2) := by decide +kernel
theorem d_M_value_90 : decode c_M_value 90 = .ok (.iload 7, 2) := by decide +kernel
theorem d_M_value_92 : decode c_M_value 92 = .ok (.if_icmp .ge 17, 3) := by decide +kernel
theorem d_M_value_95 : decode c_M_value 95 = .ok (.ldc2_w 98, 3) := by decide +kernel
theorem d_M_value_98 : decode c_M_value 98 = .ok (.lload 9, 2) := by decide +kernel
theorem d_M_value_100 : decode c_M_value 100 = .ok (.lmul, 1) := by decide +kernel
theorem d_M_value_101 : decode c_M_value 101 = .ok (.lstore 9, 2) := by decide +kernel
theorem d_M_value_103 : decode c_M_value 103 = .ok (.iinc 13 1, 3) := by decide +kernel
theorem d_M_value_106 : decode c_M_value 106 = .ok (.goto (-18), 3) := by decide +kernel
theorem d_M_value_109 : decode c_M_value 109 = .ok (.iconst 0, 1) := by decide +kernel
theorem d_M_value_110 : decode c_M_value 110 = .ok (.istore 13, 2) := by decide +kernel
theorem d_M_value_112 : decode c_M_value 112 = .ok (.iload 13, 2) := by decide +kernel
theorem d_M_value_114 : decode c_M_value 114 = .ok (.iload 7, 2) := by decide +kernel
theorem d_M_value_116 : decode c_M_value 116 = .ok (.if_icmp .le 17, 3) := by decide +kernel
theorem d_M_value_119 : decode c_M_value 119 = .ok (.ldc2_w 98, 3) := by decide +kernel
theorem d_M_value_122 : decode c_M_value 122 = .ok (.lload 11, 2) := by decide +kernel
theorem d_M_value_124 : decode c_M_value 124 = .ok (.lmul, 1) := by decide +kernel
theorem d_M_value_125 : decode c_M_value 125 = .ok (.lstore 11, 2) := by decide +kernel
theorem d_M_value_127 : decode c_M_value 127 = .ok (.iinc 13 (-1), 3) := by decide +kernel
theorem d_M_value_130 : decode c_M_value 130 = .ok (.goto (-18), 3) := by decide +kernel
theorem d_M_value_133 : decode c_M_value 133 = .ok (.lload 9, 2) := by decide +kernel
theorem d_M_value_135 : decode c_M_value 135 = .ok (.lload 11, 2) := by decide +kernel
theorem d_M_value_137 : decode c_M_value 137 = .ok (.invokestatic 100, 3) := by decide +kernel
theorem d_M_value_140 : decode c_M_value 140 = .ok (.lstore 13, 2) := by decide +kernel
theorem d_M_value_142 : decode c_M_value 142 = .ok (.bipush 12, 2) := by decide +kernel
theorem d_M_value_144 : decode c_M_value 144 = .ok (.iload_n 1, 1) := by decide +kernel
theorem d_M_value_145 : decode c_M_value 145 = .ok (.imul, 1) := by decide +kernel
theorem d_M_value_146 : decode c_M_value 146 = .ok (.iload_n 2, 1) := by decide +kernel
theorem d_M_value_147 : decode c_M_value 147 = .ok (.iadd, 1) := by decide +kernel
theorem d_M_value_148 : decode c_M_value 148 = .ok (.istore 15, 2) := by decide +kernel
theorem d_M_value_150 : decode c_M_value 150 = .ok (.aload_n 0, 1) := by decide +kernel
theorem d_M_value_151 : decode c_M_value 151 = .ok (.getfield 16, 3) := by decide +kernel
theorem d_M_value_154 : decode c_M_value 154 = .ok (.iload 15, 2) := by decide +kernel
theorem d_M_value_156 : decode c_M_value 156 = .ok (.laload, 1) := by decide +kernel
theorem d_M_value_157 : decode c_M_value 157 = .ok (.lload 9, 2) := by decide +kernel
theorem d_M_value_159 : decode c_M_value 159 = .ok (.lload 13, 2) := by decide +kernel
theorem d_M_value_161 : decode c_M_value 161 = .ok (.ldiv, 1) := by decide +kernel
theorem d_M_value_162 : decode c_M_value 162 = .ok (.lcmp, 1) := by decide +kernel
theorem d_M_value_163 : decode c_M_value 163 = .ok (.ifCond .ne 19, 3) := by decide +kernel
theorem d_M_value_166 : decode c_M_value 166 = .ok (.aload_n 0, 1) := by decide +kernel
theorem d_M_value_167 : decode c_M_value 167 = .ok (.getfield 20, 3) := by decide +kernel
theorem d_M_value_170 : decode c_M_value 170 = .ok (.iload 15, 2) := by decide +kernel
theorem d_M_value_172 : decode c_M_value 172 = .ok (.laload, 1) := by decide +kernel
theorem d_M_value_173 : decode c_M_value 173 = .ok (.lload 11, 2) := by decide +kernel
theorem d_M_value_175 : decode c_M_value 175 = .ok (.lload 13, 2) := by decide +kernel
theorem d_M_value_177 : decode c_M_value 177 = .ok (.ldiv, 1) := by decide +kernel
theorem d_M_value_178 : decode c_M_value 178 = .ok (.lcmp, 1) := by decide +kernel
theorem d_M_value_179 : decode c_M_value 179 = .ok (.ifCond .eq 7, 3) := by decide +kernel
theorem d_M_value_182 : decode c_M_value 182 = .ok (.iconst 1, 1) := by decide +kernel
theorem d_M_value_183 : decode c_M_value 183 = .ok (.goto 4, 3) := by decide +kernel
theorem d_M_value_186 : decode c_M_value 186 = .ok (.iconst 0, 1) := by decide +kernel
theorem d_M_value_187 : decode c_M_value 187 = .ok (.istore 16, 2) := by decide +kernel
theorem d_M_value_189 : decode c_M_value 189 = .ok (.aload_n 0, 1) := by decide +kernel
theorem d_M_value_190 : decode c_M_value 190 = .ok (.getfield 16, 3) := by decide +kernel
theorem d_M_value_193 : decode c_M_value 193 = .ok (.iload 15, 2) := by decide +kernel
theorem d_M_value_195 : decode c_M_value 195 = .ok (.lload 9, 2) := by decide +kernel
theorem d_M_value_197 : decode c_M_value 197 = .ok (.lload 13, 2) := by decide +kernel
theorem d_M_value_199 : decode c_M_value 199 = .ok (.ldiv, 1) := by decide +kernel
theorem d_M_value_200 : decode c_M_value 200 = .ok (.lastore, 1) := by decide +kernel
theorem d_M_value_201 : decode c_M_value 201 = .ok (.aload_n 0, 1) := by decide +kernel
theorem d_M_value_202 : decode c_M_value 202 = .ok (.getfield 20, 3) := by decide +kernel
theorem d_M_value_205 : decode c_M_value 205 = .ok (.iload 15, 2) := by decide +kernel
theorem d_M_value_207 : decode c_M_value 207 = .ok (.lload 11, 2) := by decide +kernel
theorem d_M_value_209 : decode c_M_value 209 = .ok (.lload 13, 2) := by decide +kernel
theorem d_M_value_211 : decode c_M_value 211 = .ok (.ldiv, 1) := by decide +kernel
theorem d_M_value_212 : decode c_M_value 212 = .ok (.lastore, 1) := by decide +kernel
theorem d_M_value_213 : decode c_M_value 213 = .ok (.iload 16, 2) := by decide +kernel
theorem d_M_value_215 : decode c_M_value 215 = .ok (.ireturn, 1) := by decide +kernel
