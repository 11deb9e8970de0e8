theorem d_M_isAlternate_103 : decode c_M_isAlternate 103 = .ok (.ifCond .le 5, 3) := by decide +kernel
theorem d_M_isAlternate_106 : decode c_M_isAlternate 106 = .ok (.iconst 0, 1) := by decide +kernel
theorem d_M_isAlternate_107 : decode c_M_isAlternate 107 = .ok (.ireturn, 1) := by decide +kernel
theorem d_M_isAlternate_108 : decode c_M_isAlternate 108 = .ok (.iinc 4 1, 3) := by decide +kernel
theorem d_M_isAlternate_111 : decode c_M_isAlternate 111 = .ok (.goto (-101), 3) := by decide +kernel
theorem d_M_isAlternate_114 : decode c_M_isAlternate 114 = .ok (.iconst 1, 1) := by decide +kernel
theorem d_M_isAlternate_115 : decode c_M_isAlternate 115 = .ok (.ireturn, 1) := by decide +kernel
theorem d_M_isBelow_0 : decode c_M_isBelow 0 = .ok (.lload_n 0, 1) := by decide +kernel
theorem d_M_isBelow_1 : decode c_M_isBelow 1 = .ok (.lconst 1, 1) := by decide +kernel
theorem d_M_isBelow_2 : decode c_M_isBelow 2 = .ok (.lcmp, 1) := by decide +kernel
theorem d_M_isBelow_3 : decode c_M_isBelow 3 = .ok (.ifCond .lt 15, 3) := by decide +kernel
theorem d_M_isBelow_6 : decode c_M_isBelow 6 = .ok (.lload_n 0, 1) := by decide +kernel
theorem d_M_isBelow_7 : decode c_M_isBelow 7 = .ok (.ldc2_w 80, 3) := by decide +kernel
theorem d_M_isBelow_10 : decode c_M_isBelow 10 = .ok (.lcmp, 1) := by decide +kernel
theorem d_M_isBelow_11 : decode c_M_isBelow 11 = .ok (.ifCond .gt 7, 3) := by decide +kernel
theorem d_M_isBelow_14 : decode c_M_isBelow 14 = .ok (.iconst 1, 1) := by decide +kernel
theorem d_M_isBelow_15 : decode c_M_isBelow 15 = .ok (.goto 4, 3) := by decide +kernel
theorem d_M_isBelow_18 : decode c_M_isBelow 18 = .ok (.iconst 0, 1) := by decide +kernel
theorem d_M_isBelow_19 : decode c_M_isBelow 19 = .ok (.ireturn, 1) := by decide +kernel
theorem d_M_isCurrency_0 : decode c_M_isCurrency 0 = .ok (.iload_n 0, 1) := by decide +kernel
theorem d_M_isCurrency_1 : decode c_M_isCurrency 1 = .ok (.ifCond .lt 12, 3) := by decide +kernel
theorem d_M_isCurrency_4 : decode c_M_isCurrency 4 = .ok (.iload_n 0, 1) := by decide +kernel
theorem d_M_isCurrency_5 : decode c_M_isCurrency 5 = .ok (.iconst 4, 1) := by decide +kernel
theorem d_M_isCurrency_6 : decode c_M_isCurrency 6 = .ok (.if_icmp .ge 7, 3) := by decide +kernel
theorem d_M_isCurrency_9 : decode c_M_isCurrency 9 = .ok (.iconst 1, 1) := by decide +kernel
theorem d_M_isCurrency_10 : decode c_M_isCurrency 10 = .ok (.goto 4, 3) := by decide +kernel
theorem d_M_isCurrency_13 : decode c_M_isCurrency 13 = .ok (.iconst 0, 1) := by decide +kernel
theorem d_M_isCurrency_14 : decode c_M_isCurrency 14 = .ok (.ireturn, 1) := by decide +kernel
theorem d_M_isName_0 : decode c_M_isName 0 = .ok (.iload_n 0, 1) := by decide +kernel
theorem d_M_isName_1 : decode c_M_isName 1 = .ok (.ifCond .lt 13, 3) := by decide +kernel
theorem d_M_isName_4 : decode c_M_isName 4 = .ok (.iload_n 0, 1) := by decide +kernel
theorem d_M_isName_5 : decode c_M_isName 5 = .ok (.bipush 12, 2) := by decide +kernel
theorem d_M_isName_7 : decode c_M_isName 7 = .ok (.if_icmp .ge 7, 3) := by decide +kernel
theorem d_M_isName_10 : decode c_M_isName 10 = .ok (.iconst 1, 1) := by decide +kernel
theorem d_M_isName_11 : decode c_M_isName 11 = .ok (.goto 4, 3) := by decide +kernel
theorem d_M_isName_14 : decode c_M_isName 14 = .ok (.iconst 0, 1) := by decide +kernel
theorem d_M_isName_15 : decode c_M_isName 15 = .ok (.ireturn, 1) := by decide +kernel
theorem d_M_isPart_0 : decode c_M_isPart 0 = .ok (.iload_n 1, 1) := by decide +kernel
theorem d_M_isPart_1 : decode c_M_isPart 1 = .ok (.ifCond .lt 15, 3) := by decide +kernel
theorem d_M_isPart_4 : decode c_M_isPart 4 = .ok (.iload_n 1, 1) := by decide +kernel
theorem d_M_isPart_5 : decode c_M_isPart 5 = .ok (.aload_n 0, 1) := by decide +kernel
theorem d_M_isPart_6 : decode c_M_isPart 6 = .ok (.getfield 72, 3) := by decide +kernel
theorem d_M_isPart_9 : decode c_M_isPart 9 = .ok (.if_icmp .ge 7, 3) := by decide +kernel
theorem d_M_isPart_12 : decode c_M_isPart 12 = .ok (.iconst 1, 1) := by decide +kernel
theorem d_M_isPart_13 : decode c_M_isPart 13 = .ok (.goto 4, 3) := by decide +kernel
theorem d_M_isPart_16 : decode c_M_isPart 16 = .ok (.iconst 0, 1) := by decide +kernel
theorem d_M_isPart_17 : decode c_M_isPart 17 = .ok (.ireturn, 1) := by decide +kernel
theorem d_M_isQuantity_0 : decode c_M_isQuantity 0 = .ok (.iload_n 0, 1) := by decide +kernel
theorem d_M_isQuantity_1 : decode c_M_isQuantity 1 = .ok (.iconst 1, 1) := by decide +kernel
theorem d_M_isQuantity_2 : decode c_M_isQuantity 2 = .ok (.if_icmp .lt 14, 3) := by decide +kernel
theorem d_M_isQuantity_5 : decode c_M_isQuantity 5 = .ok (.iload_n 0, 1) := by decide +kernel
theorem d_M_isQuantity_6 : decode c_M_isQuantity 6 = .ok (.sipush 10000, 3) := by decide +kernel
theorem d_M_isQuantity_9 : decode c_M_isQuantity 9 = .ok (.if_icmp .gt 7, 3) := by decide +kernel
theorem d_M_isQuantity_12 : decode c_M_isQuantity 12 = .ok (.iconst 1, 1) := by decide +kernel
theorem d_M_isQuantity_13 : decode c_M_isQuantity 13 = .ok (.goto 4, 3) := by decide +kernel
theorem d_M_isQuantity_16 : decode c_M_isQuantity 16 = .ok (.iconst 0, 1) := by decide +kernel
theorem d_M_isQuantity_17 : decode c_M_isQuantity 17 = .ok (.ireturn, 1) := by decide +kernel
theorem d_M_isRule_0 : decode c_M_isRule 0 = .ok (.iload_n 1, 1) := by decide +kernel
theorem d_M_isRule_1 : decode c_M_isRule 1 = .ok (.ifCond .lt 15, 3) := by decide +kernel
theorem d_M_isRule_4 : decode c_M_isRule 4 = .ok (.iload_n 1, 1) := by decide +kernel
theorem d_M_isRule_5 : decode c_M_isRule 5 = .ok (.aload_n 0, 1) := by decide +kernel
theorem d_M_isRule_6 : decode c_M_isRule 6 = .ok (.getfield 75, 3) := by decide +kernel
theorem d_M_isRule_9 : decode c_M_isRule 9 = .ok (.if_icmp .ge 7, 3) := by decide +kernel
theorem d_M_isRule_12 : decode c_M_isRule 12 = .ok (.iconst 1, 1) := by decide +kernel
theorem d_M_isRule_13 : decode c_M_isRule 13 = .ok (.goto 4, 3) := by decide +kernel
theorem d_M_isRule_16 : decode c_M_isRule 16 = .ok (.iconst 0, 1) := by decide +kernel
theorem d_M_isRule_17 : decode c_M_isRule 17 = .ok (.ireturn, 1) := by decide +kernel
theorem d_M_life_0 : decode c_M_life 0 = .ok (.aload_n 0, 1) := by decide +kernel
theorem d_M_life_1 : decode c_M_life 1 = .ok (.aload_n 0, 1) := by decide +kernel
theorem d_M_life_2 : decode c_M_life 2 = .ok (.iload_n 1, 1) := by decide +kernel
theorem d_M_life_3 : decode c_M_life 3 = .ok (.invokevirtual 91, 3) := by decide +kernel
theorem d_M_life_6 : decode c_M_life 6 = .ok (.ifCond .ne 7, 3) := by decide +kernel
theorem d_M_life_9 : decode c_M_life 9 = .ok (.iconst 1, 1) := by decide +kernel
theorem d_M_life_10 : decode c_M_life 10 = .ok (.goto 19, 3) := by decide +kernel
theorem d_M_life_13 : decode c_M_life 13 = .ok (.iload 4, 2) := by decide +kernel
theorem d_M_life_15 : decode c_M_life 15 = .ok (.ifCond .lt 9, 3) := by decide +kernel
theorem d_M_life_18 : decode c_M_life 18 = .ok (.iload 4, 2) := by decide +kernel
theorem d_M_life_20 : decode c_M_life 20 = .ok (.iconst 3, 1) := by decide +kernel
theorem d_M_life_21 : decode c_M_life 21 = .ok (.if_icmp .le 7, 3) := by decide +kernel
theorem d_M_life_24 : decode c_M_life 24 = .ok (.iconst 2, 1) := by decide +kernel
theorem d_M_life_25 : decode c_M_life 25 = .ok (.goto 4, 3) := by decide +kernel
theorem d_M_life_28 : decode c_M_life 28 = .ok (.iconst 0, 1) := by decide +kernel
theorem d_M_life_29 : decode c_M_life 29 = .ok (.putfield 68, 3) := by decide +kernel
theorem d_M_life_32 : decode c_M_life 32 = .ok (.aload_n 0, 1) := by decide +kernel
theorem d_M_life_33 : decode c_M_life 33 = .ok (.getfield 68, 3) := by decide +kernel
theorem d_M_life_36 : decode c_M_life 36 = .ok (.ifCond .eq 5, 3) := by decide +kernel
theorem d_M_life_39 : decode c_M_life 39 = .ok (.iconst 0, 1) := by decide +kernel
theorem d_M_life_40 : decode c_M_life 40 = .ok (.ireturn, 1) := by decide +kernel
theorem d_M_life_41 : decode c_M_life 41 = .ok (.bipush 8, 2) := by decide +kernel
theorem d_M_life_43 : decode c_M_life 43 = .ok (.iload_n 1, 1) := by decide +kernel
theorem d_M_life_44 : decode c_M_life 44 = .ok (.imul, 1) := by decide +kernel
theorem d_M_life_45 : decode c_M_life 45 = .ok (.istore 5, 2) := by decide +kernel
theorem d_M_life_47 : decode c_M_life 47 = .ok (.iload 5, 2) := by decide +kernel
theorem d_M_life_49 : decode c_M_life 49 = .ok (.bipush 8, 2) := by decide +kernel
theorem d_M_life_51 : decode c_M_life 51 = .ok (.iload_n 1, 1) := by decide +kernel
theorem d_M_life_52 : decode c_M_life 52 = .ok (.imul, 1) := by decide +kernel
theorem d_M_life_53 : decode c_M_life 53 = .ok (.aload_n 0, 1) := by decide +kernel
theorem d_M_life_54 : decode c_M_life 54 = .ok (.getfield 53, 3) := by decide +kernel
theorem d_M_life_57 : decode c_M_life 57 = .ok (.iload_n 1, 1) := by decide +kernel
theorem d_M_life_58 : decode c_M_life 58 = .ok (.iaload, 1) := by decide +kernel
theorem d_M_life_59 : decode c_M_life 59 = .ok (.iadd, 1) := by decide +kernel
theorem d_M_life_60 : decode c_M_life 60 = .ok (.if_icmp .ge 21, 3) := by decide +kernel
theorem d_M_life_63 : decode c_M_life 63 = .ok (.aload_n 0, 1) := by decide +kernel
theorem d_M_life_64 : decode c_M_life 64 = .ok (.getfield 56, 3) := by decide +kernel
theorem d_M_life_67 : decode c_M_life 67 = .ok (.iload 5, 2) := by decide +kernel
theorem d_M_life_69 : decode c_M_life 69 = .ok (.laload, 1) := by decide +kernel
theorem d_M_life_70 : decode c_M_life 70 = .ok (.lload_n 2, 1) := by decide +kernel
theorem d_M_life_71 : decode c_M_life 71 = .ok (.lcmp, 1) := by decide +kernel
theorem d_M_life_72 : decode c_M_life 72 = .ok (.ifCond .eq 9, 3) := by decide +kernel
theorem d_M_life_75 : decode c_M_life 75 = .ok (.iinc 5 1, 3) := by decide +kernel
theorem d_M_life_78 : decode c_M_life 78 = .ok (.goto (-31), 3) := by decide +kernel
theorem d_M_life_81 : decode c_M_life 81 = .ok (.iload 5, 2) := by decide +kernel
theorem d_M_life_83 : decode c_M_life 83 = .ok (.bipush 8, 2) := by decide +kernel
theorem d_M_life_85 : decode c_M_life 85 = .ok (.iload_n 1, 1) := by decide +kernel
theorem d_M_life_86 : decode c_M_life 86 = .ok (.imul, 1) := by decide +kernel
theorem d_M_life_87 : decode c_M_life 87 = .ok (.aload_n 0, 1) := by decide +kernel
theorem d_M_life_88 : decode c_M_life 88 = .ok (.getfield 53, 3) := by decide +kernel
theorem d_M_life_91 : decode c_M_life 91 = .ok (.iload_n 1, 1) := by decide +kernel
theorem d_M_life_92 : decode c_M_life 92 = .ok (.iaload, 1) := by decide +kernel
theorem d_M_life_93 : decode c_M_life 93 = .ok (.iadd, 1) := by decide +kernel
theorem d_M_life_94 : decode c_M_life 94 = .ok (.if_icmp .ge 17, 3) := by decide +kernel
theorem d_M_life_97 : decode c_M_life 97 = .ok (.aload_n 0, 1) := by decide +kernel
theorem d_M_life_98 : decode c_M_life 98 = .ok (.getfield 59, 3) := by decide +kernel
theorem d_M_life_101 : decode c_M_life 101 = .ok (.iload 5, 2) := by decide +kernel
theorem d_M_life_103 : decode c_M_life 103 = .ok (.iaload, 1) := by decide +kernel
theorem d_M_life_104 : decode c_M_life 104 = .ok (.iload 4, 2) := by decide +kernel
theorem d_M_life_106 : decode c_M_life 106 = .ok (.if_icmp .ne 28, 3) := by decide +kernel
theorem d_M_life_109 : decode c_M_life 109 = .ok (.iconst 0, 1) := by decide +kernel
theorem d_M_life_110 : decode c_M_life 110 = .ok (.ireturn, 1) := by decide +kernel
theorem d_M_life_111 : decode c_M_life 111 = .ok (.aload_n 0, 1) := by decide +kernel
theorem d_M_life_112 : decode c_M_life 112 = .ok (.getfield 53, 3) := by decide +kernel
theorem d_M_life_115 : decode c_M_life 115 = .ok (.iload_n 1, 1) := by decide +kernel
theorem d_M_life_116 : decode c_M_life 116 = .ok (.iaload, 1) := by decide +kernel
theorem d_M_life_117 : decode c_M_life 117 = .ok (.bipush 8, 2) := by decide +kernel
theorem d_M_life_119 : decode c_M_life 119 = .ok (.if_icmp .ne 5, 3) := by decide +kernel
theorem d_M_life_122 : decode c_M_life 122 = .ok (.iconst 0, 1) := by decide +kernel
theorem d_M_life_123 : decode c_M_life 123 = .ok (.ireturn, 1) := by decide +kernel
theorem d_M_life_124 : decode c_M_life 124 = .ok (.aload_n 0, 1) := by decide +kernel
theorem d_M_life_125 : decode c_M_life 125 = .ok (.getfield 53, 3) := by decide +kernel
theorem d_M_life_128 : decode c_M_life 128 = .ok (.iload_n 1, 1) := by decide +kernel
theorem d_M_life_129 : decode c_M_life 129 = .ok (.dup2, 1) := by decide +kernel
theorem d_M_life_130 : decode c_M_life 130 = .ok (.iaload, 1) := by decide +kernel
theorem d_M_life_131 : decode c_M_life 131 = .ok (.iconst 1, 1) := by decide +kernel
theorem d_M_life_132 : decode c_M_life 132 = .ok (.iadd, 1) := by decide +kernel
theorem d_M_life_133 : decode c_M_life 133 = .ok (.iastore, 1) := by decide +kernel
theorem d_M_life_134 : decode c_M_life 134 = .ok (.aload_n 0, 1) := by decide +kernel
theorem d_M_life_135 : decode c_M_life 135 = .ok (.getfield 56, 3) := by decide +kernel
theorem d_M_life_138 : decode c_M_life 138 = .ok (.iload 5, 2) := by decide +kernel
theorem d_M_life_140 : decode c_M_life 140 = .ok (.lload_n 2, 1) := by decide +kernel
theorem d_M_life_141 : decode c_M_life 141 = .ok (.lastore, 1) := by decide +kernel
theorem d_M_life_142 : decode c_M_life 142 = .ok (.aload_n 0, 1) := by decide +kernel
theorem d_M_life_143 : decode c_M_life 143 = .ok (.getfield 59, 3) := by decide +kernel
theorem d_M_life_146 : decode c_M_life 146 = .ok (.iload 5, 2) := by decide +kernel
theorem d_M_life_148 : decode c_M_life 148 = .ok (.iload 4, 2) := by decide +kernel
theorem d_M_life_150 : decode c_M_life 150 = .ok (.iastore, 1) := by decide +kernel
theorem d_M_life_151 : decode c_M_life 151 = .ok (.iconst 1, 1) := by decide +kernel
theorem d_M_life_152 : decode c_M_life 152 = .ok (.ireturn, 1) := by decide +kernel
theorem d_M_maker_0 : decode c_M_maker 0 = .ok (.aload_n 0, 1) := by decide +kernel
theorem d_M_maker_1 : decode c_M_maker 1 = .ok (.iload_n 1, 1) := by decide +kernel
theorem d_M_maker_2 : decode c_M_maker 2 = .ok (.ifCond .lt 19, 3) := by decide +kernel
theorem d_M_maker_5 : decode c_M_maker 5 = .ok (.iload_n 1, 1) := by decide +kernel
theorem d_M_maker_6 : decode c_M_maker 6 = .ok (.bipush 15, 2) := by decide +kernel
theorem d_M_maker_8 : decode c_M_maker 8 = .ok (.if_icmp .gt 13, 3) := by decide +kernel
theorem d_M_maker_11 : decode c_M_maker 11 = .ok (.iload_n 2, 1) := by decide +kernel
theorem d_M_maker_12 : decode c_M_maker 12 = .ok (.ifCond .lt 9, 3) := by decide +kernel
theorem d_M_maker_15 : decode c_M_maker 15 = .ok (.iload_n 2, 1) := by decide +kernel
theorem d_M_maker_16 : decode c_M_maker 16 = .ok (.bipush 99, 2) := by decide +kernel
theorem d_M_maker_18 : decode c_M_maker 18 = .ok (.if_icmp .le 7, 3) := by decide +kernel
theorem d_M_maker_21 : decode c_M_maker 21 = .ok (.iconst 1, 1) := by decide +kernel
theorem d_M_maker_22 : decode c_M_maker 22 = .ok (.goto 4, 3) := by decide +kernel
theorem d_M_maker_25 : decode c_M_maker 25 = .ok (.iconst 0, 1) := by decide +kernel
theorem d_M_maker_26 : decode c_M_maker 26 = .ok (.putfield 68, 3) := by decide +kernel
theorem d_M_maker_29 : decode c_M_maker 29 = .ok (.aload_n 0, 1) := by decide +kernel
theorem d_M_maker_30 : decode c_M_maker 30 = .ok (.getfield 68, 3) := by decide +kernel
theorem d_M_maker_33 : decode c_M_maker 33 = .ok (.ifCond .ne 13, 3) := by decide +kernel
theorem d_M_maker_36 : decode c_M_maker 36 = .ok (.aload_n 0, 1) := by decide +kernel
theorem d_M_maker_37 : decode c_M_maker 37 = .ok (.getfield 13, 3) := by decide +kernel
theorem d_M_maker_40 : decode c_M_maker 40 = .ok (.iload_n 1, 1) := by decide +kernel
theorem d_M_maker_41 : decode c_M_maker 41 = .ok (.iaload, 1) := by decide +kernel
theorem d_M_maker_42 : decode c_M_maker 42 = .ok (.iload_n 2, 1) := by decide +kernel
theorem d_M_maker_43 : decode c_M_maker 43 = .ok (.if_icmp .ne 5, 3) := by decide +kernel
theorem d_M_maker_46 : decode c_M_maker 46 = .ok (.iconst 0, 1) := by decide +kernel
theorem d_M_maker_47 : decode c_M_maker 47 = .ok (.ireturn, 1) := by decide +kernel
theorem d_M_maker_48 : decode c_M_maker 48 = .ok (.aload_n 0, 1) := by decide +kernel
theorem d_M_maker_49 : decode c_M_maker 49 = .ok (.getfield 13, 3) := by decide +kernel
theorem d_M_maker_52 : decode c_M_maker 52 = .ok (.iload_n 1, 1) := by decide +kernel
theorem d_M_maker_53 : decode c_M_maker 53 = .ok (.iload_n 2, 1) := by decide +kernel
theorem d_M_maker_54 : decode c_M_maker 54 = .ok (.iastore, 1) := by decide +kernel
theorem d_M_maker_55 : decode c_M_maker 55 = .ok (.iconst 1, 1) := by decide +kernel
theorem d_M_maker_56 : decode c_M_maker 56 = .ok (.ireturn, 1) := by decide +kernel
theorem d_M_pack_0 : decode c_M_pack 0 = .ok (.aload_n 0, 1) := by decide +kernel
theorem d_M_pack_1 : decode c_M_pack 1 = .ok (.aload_n 0, 1) := by decide +kernel
theorem d_M_pack_2 : decode c_M_pack 2 = .ok (.iload_n 1, 1) := by decide +kernel
theorem d_M_pack_3 : decode c_M_pack 3 = .ok (.invokevirtual 91, 3) := by decide +kernel
theorem d_M_pack_6 : decode c_M_pack 6 = .ok (.ifCond .ne 7, 3) := by decide +kernel
theorem d_M_pack_9 : decode c_M_pack 9 = .ok (.iconst 1, 1) := by decide +kernel
theorem d_M_pack_10 : decode c_M_pack 10 = .ok (.goto 20, 3) := by decide +kernel
theorem d_M_pack_13 : decode c_M_pack 13 = .ok (.iload_n 2, 1) := by decide +kernel
theorem d_M_pack_14 : decode c_M_pack 14 = .ok (.iconst 1, 1) := by decide +kernel
theorem d_M_pack_15 : decode c_M_pack 15 = .ok (.if_icmp .lt 10, 3) := by decide +kernel
theorem d_M_pack_18 : decode c_M_pack 18 = .ok (.iload_n 2, 1) := by decide +kernel
theorem d_M_pack_19 : decode c_M_pack 19 = .ok (.sipush 1000, 3) := by decide +kernel
theorem d_M_pack_22 : decode c_M_pack 22 = .ok (.if_icmp .le 7, 3) := by decide +kernel
theorem d_M_pack_25 : decode c_M_pack 25 = .ok (.iconst 2, 1) := by decide +kernel
theorem d_M_pack_26 : decode c_M_pack 26 = .ok (.goto 4, 3) := by decide +kernel
theorem d_M_pack_29 : decode c_M_pack 29 = .ok (.iconst 0, 1) := by decide +kernel
theorem d_M_pack_30 : decode c_M_pack 30 = .ok (.putfield 68, 3) := by decide +kernel
theorem d_M_pack_33 : decode c_M_pack 33 = .ok (.aload_n 0, 1) := by decide +kernel
theorem d_M_pack_34 : decode c_M_pack 34 = .ok (.getfield 68, 3) := by decide +kernel
theorem d_M_pack_37 : decode c_M_pack 37 = .ok (.ifCond .eq 5, 3) := by decide +kernel
theorem d_M_pack_40 : decode c_M_pack 40 = .ok (.iconst 0, 1) := by decide +kernel
theorem d_M_pack_41 : decode c_M_pack 41 = .ok (.ireturn, 1) := by decide +kernel
theorem d_M_pack_42 : decode c_M_pack 42 = .ok (.bipush 6, 2) := by decide +kernel
theorem d_M_pack_44 : decode c_M_pack 44 = .ok (.iload_n 1, 1) := by decide +kernel
theorem d_M_pack_45 : decode c_M_pack 45 = .ok (.imul, 1) := by decide +kernel
theorem d_M_pack_46 : decode c_M_pack 46 = .ok (.istore_n 3, 1) := by decide +kernel
theorem d_M_pack_47 : decode c_M_pack 47 = .ok (.iload_n 3, 1) := by decide +kernel
theorem d_M_pack_48 : decode c_M_pack 48 = .ok (.bipush 6, 2) := by decide +kernel
theorem d_M_pack_50 : decode c_M_pack 50 = .ok (.iload_n 1, 1) := by decide +kernel
theorem d_M_pack_51 : decode c_M_pack 51 = .ok (.imul, 1) := by decide +kernel
theorem d_M_pack_52 : decode c_M_pack 52 = .ok (.aload_n 0, 1) := by decide +kernel
theorem d_M_pack_53 : decode c_M_pack 53 = .ok (.getfield 44, 3) := by decide +kernel
theorem d_M_pack_56 : decode c_M_pack 56 = .ok (.iload_n 1, 1) := by decide +kernel
theorem d_M_pack_57 : decode c_M_pack 57 = .ok (.iaload, 1) := by decide +kernel
theorem d_M_pack_58 : decode c_M_pack 58 = .ok (.iadd, 1) := by decide +kernel
theorem d_M_pack_59 : decode c_M_pack 59 = .ok (.if_icmp .ge 21, 3) := by decide +kernel
theorem d_M_pack_62 : decode c_M_pack 62 = .ok (.aload_n 0, 1) := by decide +kernel
theorem d_M_pack_63 : decode c_M_pack 63 = .ok (.getfield 47, 3) := by decide +kernel
theorem d_M_pack_66 : decode c_M_pack 66 = .ok (.iload_n 3, 1) := by decide +kernel
theorem d_M_pack_67 : decode c_M_pack 67 = .ok (.iaload, 1) := by decide +kernel
theorem d_M_pack_68 : decode c_M_pack 68 = .ok (.iload_n 2, 1) := by decide +kernel
theorem d_M_pack_69 : decode c_M_pack 69 = .ok (.if_icmp .ne 5, 3) := by decide +kernel
theorem d_M_pack_72 : decode c_M_pack 72 = .ok (.iconst 0, 1) := by decide +kernel
theorem d_M_pack_73 : decode c_M_pack 73 = .ok (.ireturn, 1) := by decide +kernel
theorem d_M_pack_74 : decode c_M_pack 74 = .ok (.iinc 3 1, 3) := by decide +kernel
theorem d_M_pack_77 : decode c_M_pack 77 = .ok (.goto (-30), 3) := by decide +kernel
theorem d_M_pack_80 : decode c_M_pack 80 = .ok (.aload_n 0, 1) := by decide +kernel
theorem d_M_pack_81 : decode c_M_pack 81 = .ok (.getfield 44, 3) := by decide +kernel
theorem d_M_pack_84 : decode c_M_pack 84 = .ok (.iload_n 1, 1) := by decide +kernel
theorem d_M_pack_85 : decode c_M_pack 85 = .ok (.iaload, 1) := by decide +kernel
theorem d_M_pack_86 : decode c_M_pack 86 = .ok (.bipush 6, 2) := by decide +kernel
theorem d_M_pack_88 : decode c_M_pack 88 = .ok (.if_icmp .ne 5, 3) := by decide +kernel
theorem d_M_pack_91 : decode c_M_pack 91 = .ok (.iconst 0, 1) := by decide +kernel
theorem d_M_pack_92 : decode c_M_pack 92 = .ok (.ireturn, 1) := by decide +kernel
theorem d_M_pack_93 : decode c_M_pack 93 = .ok (.aload_n 0, 1) := by decide +kernel
theorem d_M_pack_94 : decode c_M_pack 94 = .ok (.getfield 47, 3) := by decide +kernel
theorem d_M_pack_97 : decode c_M_pack 97 = .ok (.bipush 6, 2) := by decide +kernel
theorem d_M_pack_99 : decode c_M_pack 99 = .ok (.iload_n 1, 1) := by decide +kernel
theorem d_M_pack_100 : decode c_M_pack 100 = .ok (.imul, 1) := by decide +kernel
theorem d_M_pack_101 : decode c_M_pack 101 = .ok (.aload_n 0, 1) := by decide +kernel
theorem d_M_pack_102 : decode c_M_pack 102 = .ok (.getfield 44, 3) := by decide +kernel
theorem d_M_pack_105 : decode c_M_pack 105 = .ok (.iload_n 1, 1) := by decide +kernel
theorem d_M_pack_106 : decode c_M_pack 106 = .ok (.iaload, 1) := by decide +kernel
theorem d_M_pack_107 : decode c_M_pack 107 = .ok (.iadd, 1) := by decide +kernel
theorem d_M_pack_108 : decode c_M_pack 108 = .ok (.iload_n 2, 1) := by decide +kernel
theorem d_M_pack_109 : decode c_M_pack 109 = .ok (.iastore, 1) := by decide +kernel
theorem d_M_pack_110 : decode c_M_pack 110 = .ok (.aload_n 0, 1) := by decide +kernel
theorem d_M_pack_111 : decode c_M_pack 111 = .ok (.getfield 44, 3) := by decide +kernel
theorem d_M_pack_114 : decode c_M_pack 114 = .ok (.iload_n 1, 1) := by decide +kernel
theorem d_M_pack_115 : decode c_M_pack 115 = .ok (.dup2, 1) := by decide +kernel
theorem d_M_pack_116 : decode c_M_pack 116 = .ok (.iaload, 1) := by decide +kernel
theorem d_M_pack_117 : decode c_M_pack 117 = .ok (.iconst 1, 1) := by decide +kernel
theorem d_M_pack_118 : decode c_M_pack 118 = .ok (.iadd, 1) := by decide +kernel
theorem d_M_pack_119 : decode c_M_pack 119 = .ok (.iastore, 1) := by decide +kernel
theorem d_M_pack_120 : decode c_M_pack 120 = .ok (.iconst 1, 1) := by decide +kernel
theorem d_M_pack_121 : decode c_M_pack 121 = .ok (.ireturn, 1) := by decide +kernel
theorem d_M_part_0 : decode c_M_part 0 = .ok (.aload_n 0, 1) := by decide +kernel
theorem d_M_part_1 : decode c_M_part 1 = .ok (.iload_n 1, 1) := by decide +kernel
theorem d_M_part_2 : decode c_M_part 2 = .ok (.ifCond .lt 9, 3) := by decide +kernel
theorem d_M_part_5 : decode c_M_part 5 = .ok (.iload_n 1, 1) := by decide +kernel
theorem d_M_part_6 : decode c_M_part 6 = .ok (.bipush 15, 2) := by decide +kernel
theorem d_M_part_8 : decode c_M_part 8 = .ok (.if_icmp .le 7, 3) := by decide +kernel
theorem d_M_part_11 : decode c_M_part 11 = .ok (.iconst 1, 1) := by decide +kernel
theorem d_M_part_12 : decode c_M_part 12 = .ok (.goto 4, 3) := by decide +kernel
theorem d_M_part_15 : decode c_M_part 15 = .ok (.iconst 0, 1) := by decide +kernel
theorem d_M_part_16 : decode c_M_part 16 = .ok (.putfield 68, 3) := by decide +kernel
theorem d_M_part_19 : decode c_M_part 19 = .ok (.aload_n 0, 1) := by decide +kernel
theorem d_M_part_20 : decode c_M_part 20 = .ok (.getfield 68, 3) := by decide +kernel
theorem d_M_part_23 : decode c_M_part 23 = .ok (.ifCond .eq 5, 3) := by decide +kernel
theorem d_M_part_26 : decode c_M_part 26 = .ok (.iconst 0, 1) := by decide +kernel
theorem d_M_part_27 : decode c_M_part 27 = .ok (.ireturn, 1) := by decide +kernel
theorem d_M_part_28 : decode c_M_part 28 = .ok (.aload_n 0, 1) := by decide +kernel
theorem d_M_part_29 : decode c_M_part 29 = .ok (.getfield 72, 3) := by decide +kernel
theorem d_M_part_32 : decode c_M_part 32 = .ok (.bipush 40, 2) := by decide +kernel
theorem d_M_part_34 : decode c_M_part 34 = .ok (.if_icmp .ne 5, 3) := by decide +kernel
theorem d_M_part_37 : decode c_M_part 37 = .ok (.iconst (-1), 1) := by decide +kernel
theorem d_M_part_38 : decode c_M_part 38 = .ok (.ireturn, 1) := by decide +kernel
theorem d_M_part_39 : decode c_M_part 39 = .ok (.aload_n 0, 1) := by decide +kernel
theorem d_M_part_40 : decode c_M_part 40 = .ok (.getfield 7, 3) := by decide +kernel
theorem d_M_part_43 : decode c_M_part 43 = .ok (.aload_n 0, 1) := by decide +kernel
theorem d_M_part_44 : decode c_M_part 44 = .ok (.getfield 72, 3) := by decide +kernel
theorem d_M_part_47 : decode c_M_part 47 = .ok (.iload_n 1, 1) := by decide +kernel
theorem d_M_part_48 : decode c_M_part 48 = .ok (.iastore, 1) := by decide +kernel
theorem d_M_part_49 : decode c_M_part 49 = .ok (.iconst 0, 1) := by decide +kernel
theorem d_M_part_50 : decode c_M_part 50 = .ok (.istore_n 2, 1) := by decide +kernel
theorem d_M_part_51 : decode c_M_part 51 = .ok (.iload_n 2, 1) := by decide +kernel
theorem d_M_part_52 : decode c_M_part 52 = .ok (.bipush 12, 2) := by decide +kernel
theorem d_M_part_54 : decode c_M_part 54 = .ok (.if_icmp .ge 26, 3) := by decide +kernel
theorem d_M_part_57 : decode c_M_part 57 = .ok (.aload_n 0, 1) := by decide +kernel
theorem d_M_part_58 : decode c_M_part 58 = .ok (.getfield 16, 3) := by decide +kernel
theorem d_M_part_61 : decode c_M_part 61 = .ok (.bipush 12, 2) := by decide +kernel
theorem d_M_part_63 : decode c_M_part 63 = .ok (.aload_n 0, 1) := by decide +kernel
theorem d_M_part_64 : decode c_M_part 64 = .ok (.getfield 72, 3) := by decide +kernel
theorem d_M_part_67 : decode c_M_part 67 = .ok (.imul, 1) := by decide +kernel
theorem d_M_part_68 : decode c_M_part 68 = .ok (.iload_n 2, 1) := by decide +kernel
theorem d_M_part_69 : decode c_M_part 69 = .ok (.iadd, 1) := by decide +kernel
theorem d_M_part_70 : decode c_M_part 70 = .ok (.ldc2_w 82, 3) := by decide +kernel
theorem d_M_part_73 : decode c_M_part 73 = .ok (.lastore, 1) := by decide +kernel
theorem d_M_part_74 : decode c_M_part 74 = .ok (.iinc 2 1, 3) := by decide +kernel
theorem d_M_part_77 : decode c_M_part 77 = .ok (.goto (-26), 3) := by decide +kernel
theorem d_M_part_80 : decode c_M_part 80 = .ok (.aload_n 0, 1) := by decide +kernel
theorem d_M_part_81 : decode c_M_part 81 = .ok (.dup, 1) := by decide +kernel
theorem d_M_part_82 : decode c_M_part 82 = .ok (.getfield 72, 3) := by decide +kernel
theorem d_M_part_85 : decode c_M_part 85 = .ok (.iconst 1, 1) := by decide +kernel
theorem d_M_part_86 : decode c_M_part 86 = .ok (.iadd, 1) := by decide +kernel
theorem d_M_part_87 : decode c_M_part 87 = .ok (.putfield 72, 3) := by decide +kernel
theorem d_M_part_90 : decode c_M_part 90 = .ok (.aload_n 0, 1) := by decide +kernel
theorem d_M_part_91 : decode c_M_part 91 = .ok (.getfield 72, 3) := by decide +kernel
theorem d_M_part_94 : decode c_M_part 94 = .ok (.iconst 1, 1) := by decide +kernel
theorem d_M_part_95 : decode c_M_part 95 = .ok (.isub, 1) := by decide +kernel
theorem d_M_part_96 : decode c_M_part 96 = .ok (.ireturn, 1) := by decide +kernel
theorem d_M_price_0 : decode c_M_price 0 = .ok (.iload_n 2, 1) := by decide +kernel
theorem d_M_price_1 : decode c_M_price 1 = .ok (.iconst 1, 1) := by decide +kernel
theorem d_M_price_2 : decode c_M_price 2 = .ok (.if_icmp .lt 28, 3) := by decide +kernel
theorem d_M_price_5 : decode c_M_price 5 = .ok (.iload_n 2, 1) := by decide +kernel
theorem d_M_price_6 : decode c_M_price 6 = .ok (.sipush 10000, 3) := by decide +kernel
theorem d_M_price_9 : decode c_M_price 9 = .ok (.if_icmp .gt 21, 3) := by decide +kernel
theorem d_M_price_12 : decode c_M_price 12 = .ok (.lload_n 3, 1) := by decide +kernel
theorem d_M_price_13 : decode c_M_price 13 = .ok (.lconst 1, 1) := by decide +kernel
theorem d_M_price_14 : decode c_M_price 14 = .ok (.lcmp, 1) := by decide +kernel
theorem d_M_price_15 : decode c_M_price 15 = .ok (.ifCond .lt 15, 3) := by decide +kernel
theorem d_M_price_18 : decode c_M_price 18 = .ok (.lload_n 3, 1) := by decide +kernel
theorem d_M_price_19 : decode c_M_price 19 = .ok (.ldc2_w 80, 3) := by decide +kernel
theorem d_M_price_22 : decode c_M_price 22 = .ok (.lcmp, 1) := by decide +kernel
theorem d_M_price_23 : decode c_M_price 23 = .ok (.ifCond .gt 7, 3) := by decide +kernel
theorem d_M_price_26 : decode c_M_price 26 = .ok (.iconst 1, 1) := by decide +kernel
theorem d_M_price_27 : decode c_M_price 27 = .ok (.goto 4, 3) := by decide +kernel
theorem d_M_price_30 : decode c_M_price 30 = .ok (.iconst 0, 1) := by decide +kernel
theorem d_M_price_31 : decode c_M_price 31 = .ok (.istore 6, 2) := by decide +kernel
theorem d_M_price_33 : decode c_M_price 33 = .ok (.aload_n 0, 1) := by decide +kernel
theorem d_M_price_34 : decode c_M_price 34 = .ok (.aload_n 0, 1) := by decide +kernel
theorem d_M_price_35 : decode c_M_price 35 = .ok (.iload_n 1, 1) := by decide +kernel
theorem d_M_price_36 : decode c_M_price 36 = .ok (.invokevirtual 91, 3) := by decide +kernel
theorem d_M_price_39 : decode c_M_price 39 = .ok (.ifCond .eq 11, 3) := by decide +kernel
theorem d_M_price_42 : decode c_M_price 42 = .ok (.iload 5, 2) := by decide +kernel
theorem d_M_price_44 : decode c_M_price 44 = .ok (.invokestatic 133, 3) := by decide +kernel
theorem d_M_price_47 : decode c_M_price 47 = .ok (.ifCond .ne 7, 3) := by decide +kernel
theorem d_M_price_50 : decode c_M_price 50 = .ok (.iconst 1, 1) := by decide +kernel
theorem d_M_price_51 : decode c_M_price 51 = .ok (.goto 13, 3) := by decide +kernel
theorem d_M_price_54 : decode c_M_price 54 = .ok (.iload 6, 2) := by decide +kernel
theorem d_M_price_56 : decode c_M_price 56 = .ok (.ifCond .eq 7, 3) := by decide +kernel
theorem d_M_price_59 : decode c_M_price 59 = .ok (.iconst 0, 1) := by decide +kernel
theorem d_M_price_60 : decode c_M_price 60 = .ok (.goto 4, 3) := by decide +kernel
theorem d_M_price_63 : decode c_M_price 63 = .ok (.iconst 2, 1) := by decide +kernel
theorem d_M_price_64 : decode c_M_price 64 = .ok (.putfield 68, 3) := by decide +kernel
theorem d_M_price_67 : decode c_M_price 67 = .ok (.aload_n 0, 1) := by decide +kernel
theorem d_M_price_68 : decode c_M_price 68 = .ok (.getfield 68, 3) := by decide +kernel
theorem d_M_price_71 : decode c_M_price 71 = .ok (.ifCond .eq 5, 3) := by decide +kernel
theorem d_M_price_74 : decode c_M_price 74 = .ok (.iconst 0, 1) := by decide +kernel
theorem d_M_price_75 : decode c_M_price 75 = .ok (.ireturn, 1) := by decide +kernel
theorem d_M_price_76 : decode c_M_price 76 = .ok (.bipush 8, 2) := by decide +kernel
theorem d_M_price_78 : decode c_M_price 78 = .ok (.iload_n 1, 1) := by decide +kernel
theorem d_M_price_79 : decode c_M_price 79 = .ok (.imul, 1) := by decide +kernel
theorem d_M_price_80 : decode c_M_price 80 = .ok (.istore 7, 2) := by decide +kernel
theorem d_M_price_82 : decode c_M_price 82 = .ok (.iload 7, 2) := by decide +kernel
theorem d_M_price_84 : decode c_M_price 84 = .ok (.bipush 8, 2) := by decide +kernel
theorem d_M_price_86 : decode c_M_price 86 = .ok (.iload_n 1, 1) := by decide +kernel
theorem d_M_price_87 : decode c_M_price 87 = .ok (.imul, 1) := by decide +kernel
theorem d_M_price_88 : decode c_M_price 88 = .ok (.aload_n 0, 1) := by decide +kernel
theorem d_M_price_89 : decode c_M_price 89 = .ok (.getfield 29, 3) := by decide +kernel
theorem d_M_price_92 : decode c_M_price 92 = .ok (.iload_n 1, 1) := by decide +kernel
theorem d_M_price_93 : decode c_M_price 93 = .ok (.iaload, 1) := by decide +kernel
theorem d_M_price_94 : decode c_M_price 94 = .ok (.iadd, 1) := by decide +kernel
theorem d_M_price_95 : decode c_M_price 95 = .ok (.if_icmp .ge 20, 3) := by decide +kernel
theorem d_M_price_98 : decode c_M_price 98 = .ok (.aload_n 0, 1) := by decide +kernel
theorem d_M_price_99 : decode c_M_price 99 = .ok (.getfield 32, 3) := by decide +kernel
theorem d_M_price_102 : decode c_M_price 102 = .ok (.iload 7, 2) := by decide +kernel
theorem d_M_price_104 : decode c_M_price 104 = .ok (.iaload, 1) := by decide +kernel
theorem d_M_price_105 : decode c_M_price 105 = .ok (.iload_n 2, 1) := by decide +kernel
theorem d_M_price_106 : decode c_M_price 106 = .ok (.if_icmp .eq 9, 3) := by decide +kernel
theorem d_M_price_109 : decode c_M_price 109 = .ok (.iinc 7 1, 3) := by decide +kernel
theorem d_M_price_112 : decode c_M_price 112 = .ok (.goto (-30), 3) := by decide +kernel
theorem d_M_price_115 : decode c_M_price 115 = .ok (.iload 7, 2) := by decide +kernel
theorem d_M_price_117 : decode c_M_price 117 = .ok (.bipush 8, 2) := by decide +kernel
theorem d_M_price_119 : decode c_M_price 119 = .ok (.iload_n 1, 1) := by decide +kernel
theorem d_M_price_120 : decode c_M_price 120 = .ok (.imul, 1) := by decide +kernel
theorem d_M_price_121 : decode c_M_price 121 = .ok (.aload_n 0, 1) := by decide +kernel
theorem d_M_price_122 : decode c_M_price 122 = .ok (.getfield 29, 3) := by decide +kernel
theorem d_M_price_125 : decode c_M_price 125 = .ok (.iload_n 1, 1) := by decide +kernel
theorem d_M_price_126 : decode c_M_price 126 = .ok (.iaload, 1) := by decide +kernel
theorem d_M_price_127 : decode c_M_price 127 = .ok (.iadd, 1) := by decide +kernel
theorem d_M_price_128 : decode c_M_price 128 = .ok (.if_icmp .ge 29, 3) := by decide +kernel
theorem d_M_price_131 : decode c_M_price 131 = .ok (.aload_n 0, 1) := by decide +kernel
theorem d_M_price_132 : decode c_M_price 132 = .ok (.getfield 35, 3) := by decide +kernel
theorem d_M_price_135 : decode c_M_price 135 = .ok (.iload 7, 2) := by decide +kernel
theorem d_M_price_137 : decode c_M_price 137 = .ok (.laload, 1) := by decide +kernel
theorem d_M_price_138 : decode c_M_price 138 = .ok (.lload_n 3, 1) := by decide +kernel
theorem d_M_price_139 : decode c_M_price 139 = .ok (.lcmp, 1) := by decide +kernel
theorem d_M_price_140 : decode c_M_price 140 = .ok (.ifCond .ne 40, 3) := by decide +kernel
theorem d_M_price_143 : decode c_M_price 143 = .ok (.aload_n 0, 1) := by decide +kernel
theorem d_M_price_144 : decode c_M_price 144 = .ok (.getfield 38, 3) := by decide +kernel
theorem d_M_price_147 : decode c_M_price 147 = .ok (.iload 7, 2) := by decide +kernel
theorem d_M_price_149 : decode c_M_price 149 = .ok (.iaload, 1) := by decide +kernel
theorem d_M_price_150 : decode c_M_price 150 = .ok (.iload 5, 2) := by decide +kernel
theorem d_M_price_152 : decode c_M_price 152 = .ok (.if_icmp .ne 28, 3) := by decide +kernel
theorem d_M_price_155 : decode c_M_price 155 = .ok (.iconst 0, 1) := by decide +kernel
theorem d_M_price_156 : decode c_M_price 156 = .ok (.ireturn, 1) := by decide +kernel
theorem d_M_price_157 : decode c_M_price 157 = .ok (.aload_n 0, 1) := by decide +kernel
theorem d_M_price_158 : decode c_M_price 158 = .ok (.getfield 29, 3) := by decide +kernel
theorem d_M_price_161 : decode c_M_price 161 = .ok (.iload_n 1, 1) := by decide +kernel
theorem d_M_price_162 : decode c_M_price 162 = .ok (.iaload, 1) := by decide +kernel
theorem d_M_price_163 : decode c_M_price 163 = .ok (.bipush 8, 2) := by decide +kernel
theorem d_M_price_165 : decode c_M_price 165 = .ok (.if_icmp .ne 5, 3) := by decide +kernel
theorem d_M_price_168 : decode c_M_price 168 = .ok (.iconst 0, 1) := by decide +kernel
theorem d_M_price_169 : decode c_M_price 169 = .ok (.ireturn, 1) := by decide +kernel
theorem d_M_price_170 : decode c_M_price 170 = .ok (.aload_n 0, 1) := by decide +kernel
theorem d_M_price_171 : decode c_M_price 171 = .ok (.getfield 29, 3) := by decide +kernel
theorem d_M_price_174 : decode c_M_price 174 = .ok (.iload_n 1, 1) := by decide +kernel
theorem d_M_price_175 : decode c_M_price 175 = .ok (.dup2, 1) := by decide +kernel
theorem d_M_price_176 : decode c_M_price 176 = .ok (.iaload, 1) := by decide +kernel
theorem d_M_price_177 : decode c_M_price 177 = .ok (.iconst 1, 1) := by decide +kernel
theorem d_M_price_178 : decode c_M_price 178 = .ok (.iadd, 1) := by decide +kernel
theorem d_M_price_179 : decode c_M_price 179 = .ok (.iastore, 1) := by decide +kernel
theorem d_M_price_180 : decode c_M_price 180 = .ok (.aload_n 0, 1) := by decide +kernel
theorem d_M_price_181 : decode c_M_price 181 = .ok (.getfield 32, 3) := by decide +kernel
theorem d_M_price_184 : decode c_M_price 184 = .ok (.iload 7, 2) := by decide +kernel
theorem d_M_price_186 : decode c_M_price 186 = .ok (.iload_n 2, 1) := by decide +kernel
theorem d_M_price_187 : decode c_M_price 187 = .ok (.iastore, 1) := by decide +kernel
theorem d_M_price_188 : decode c_M_price 188 = .ok (.aload_n 0, 1) := by decide +kernel
theorem d_M_price_189 : decode c_M_price 189 = .ok (.getfield 35, 3) := by decide +kernel
theorem d_M_price_192 : decode c_M_price 192 = .ok (.iload 7, 2) := by decide +kernel
theorem d_M_price_194 : decode c_M_price 194 = .ok (.lload_n 3, 1) := by decide +kernel
theorem d_M_price_195 : decode c_M_price 195 = .ok (.lastore, 1) := by decide +kernel
theorem d_M_price_196 : decode c_M_price 196 = .ok (.aload_n 0, 1) := by decide +kernel
theorem d_M_price_197 : decode c_M_price 197 = .ok (.getfield 38, 3) := by decide +kernel
theorem d_M_price_200 : decode c_M_price 200 = .ok (.iload 7, 2) := by decide +kernel
theorem d_M_price_202 : decode c_M_price 202 = .ok (.iload 5, 2) := by decide +kernel
theorem d_M_price_204 : decode c_M_price 204 = .ok (.iastore, 1) := by decide +kernel
theorem d_M_price_205 : decode c_M_price 205 = .ok (.iconst 1, 1) := by decide +kernel
theorem d_M_price_206 : decode c_M_price 206 = .ok (.ireturn, 1) := by decide +kernel
theorem d_M_priceOf_0 : decode c_M_priceOf 0 = .ok (.iconst 0, 1) := by decide +kernel
theorem d_M_priceOf_1 : decode c_M_priceOf 1 = .ok (.istore_n 3, 1) := by decide +kernel
theorem d_M_priceOf_2 : decode c_M_priceOf 2 = .ok (.lconst 0, 1) := by decide +kernel
theorem d_M_priceOf_3 : decode c_M_priceOf 3 = .ok (.lstore 4, 2) := by decide +kernel
theorem d_M_priceOf_5 : decode c_M_priceOf 5 = .ok (.bipush 8, 2) := by decide +kernel
theorem d_M_priceOf_7 : decode c_M_priceOf 7 = .ok (.iload_n 1, 1) := by decide +kernel
theorem d_M_priceOf_8 : decode c_M_priceOf 8 = .ok (.imul, 1) := by decide +kernel
theorem d_M_priceOf_9 : decode c_M_priceOf 9 = .ok (.istore 6, 2) := by decide +kernel
theorem d_M_priceOf_11 : decode c_M_priceOf 11 = .ok (.iload 6, 2) := by decide +kernel
theorem d_M_priceOf_13 : decode c_M_priceOf 13 = .ok (.bipush 8, 2) := by decide +kernel
theorem d_M_priceOf_15 : decode c_M_priceOf 15 = .ok (.iload_n 1, 1) := by decide +kernel
theorem d_M_priceOf_16 : decode c_M_priceOf 16 = .ok (.imul, 1) := by decide +kernel
theorem d_M_priceOf_17 : decode c_M_priceOf 17 = .ok (.aload_n 0, 1) := by decide +kernel
theorem d_M_priceOf_18 : decode c_M_priceOf 18 = .ok (.getfield 29, 3) := by decide +kernel
theorem d_M_priceOf_21 : decode c_M_priceOf 21 = .ok (.iload_n 1, 1) := by decide +kernel
theorem d_M_priceOf_22 : decode c_M_priceOf 22 = .ok (.iaload, 1) := by decide +kernel
theorem d_M_priceOf_23 : decode c_M_priceOf 23 = .ok (.iadd, 1) := by decide +kernel
