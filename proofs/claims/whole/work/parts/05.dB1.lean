theorem d_B_addHit_0 : decode c_B_addHit 0 = .ok (.aload_n 0, 1) := by decide +kernel
theorem d_B_addHit_1 : decode c_B_addHit 1 = .ok (.getfield 47, 3) := by decide +kernel
theorem d_B_addHit_4 : decode c_B_addHit 4 = .ok (.bipush 40, 2) := by decide +kernel
theorem d_B_addHit_6 : decode c_B_addHit 6 = .ok (.if_icmp .lt 4, 3) := by decide +kernel
theorem d_B_addHit_9 : decode c_B_addHit 9 = .ok (.return_, 1) := by decide +kernel
theorem d_B_addHit_10 : decode c_B_addHit 10 = .ok (.aload_n 0, 1) := by decide +kernel
theorem d_B_addHit_11 : decode c_B_addHit 11 = .ok (.getfield 47, 3) := by decide +kernel
theorem d_B_addHit_14 : decode c_B_addHit 14 = .ok (.istore_n 3, 1) := by decide +kernel
theorem d_B_addHit_15 : decode c_B_addHit 15 = .ok (.iload_n 3, 1) := by decide +kernel
theorem d_B_addHit_16 : decode c_B_addHit 16 = .ok (.ifCond .le 45, 3) := by decide +kernel
theorem d_B_addHit_19 : decode c_B_addHit 19 = .ok (.aload_n 0, 1) := by decide +kernel
theorem d_B_addHit_20 : decode c_B_addHit 20 = .ok (.aload_n 1, 1) := by decide +kernel
theorem d_B_addHit_21 : decode c_B_addHit 21 = .ok (.aload_n 0, 1) := by decide +kernel
theorem d_B_addHit_22 : decode c_B_addHit 22 = .ok (.getfield 11, 3) := by decide +kernel
theorem d_B_addHit_25 : decode c_B_addHit 25 = .ok (.aload_n 0, 1) := by decide +kernel
theorem d_B_addHit_26 : decode c_B_addHit 26 = .ok (.getfield 44, 3) := by decide +kernel
theorem d_B_addHit_29 : decode c_B_addHit 29 = .ok (.iload_n 3, 1) := by decide +kernel
theorem d_B_addHit_30 : decode c_B_addHit 30 = .ok (.iconst 1, 1) := by decide +kernel
theorem d_B_addHit_31 : decode c_B_addHit 31 = .ok (.isub, 1) := by decide +kernel
theorem d_B_addHit_32 : decode c_B_addHit 32 = .ok (.iaload, 1) := by decide +kernel
theorem d_B_addHit_33 : decode c_B_addHit 33 = .ok (.aaload, 1) := by decide +kernel
theorem d_B_addHit_34 : decode c_B_addHit 34 = .ok (.iload_n 2, 1) := by decide +kernel
theorem d_B_addHit_35 : decode c_B_addHit 35 = .ok (.invokevirtual 186, 3) := by decide +kernel
theorem d_B_addHit_38 : decode c_B_addHit 38 = .ok (.ifCond .eq 23, 3) := by decide +kernel
theorem d_B_addHit_41 : decode c_B_addHit 41 = .ok (.aload_n 0, 1) := by decide +kernel
theorem d_B_addHit_42 : decode c_B_addHit 42 = .ok (.getfield 44, 3) := by decide +kernel
theorem d_B_addHit_45 : decode c_B_addHit 45 = .ok (.iload_n 3, 1) := by decide +kernel
theorem d_B_addHit_46 : decode c_B_addHit 46 = .ok (.aload_n 0, 1) := by decide +kernel
theorem d_B_addHit_47 : decode c_B_addHit 47 = .ok (.getfield 44, 3) := by decide +kernel
theorem d_B_addHit_50 : decode c_B_addHit 50 = .ok (.iload_n 3, 1) := by decide +kernel
theorem d_B_addHit_51 : decode c_B_addHit 51 = .ok (.iconst 1, 1) := by decide +kernel
theorem d_B_addHit_52 : decode c_B_addHit 52 = .ok (.isub, 1) := by decide +kernel
theorem d_B_addHit_53 : decode c_B_addHit 53 = .ok (.iaload, 1) := by decide +kernel
theorem d_B_addHit_54 : decode c_B_addHit 54 = .ok (.iastore, 1) := by decide +kernel
theorem d_B_addHit_55 : decode c_B_addHit 55 = .ok (.iinc 3 (-1), 3) := by decide +kernel
theorem d_B_addHit_58 : decode c_B_addHit 58 = .ok (.goto (-43), 3) := by decide +kernel
theorem d_B_addHit_61 : decode c_B_addHit 61 = .ok (.aload_n 0, 1) := by decide +kernel
theorem d_B_addHit_62 : decode c_B_addHit 62 = .ok (.getfield 44, 3) := by decide +kernel
theorem d_B_addHit_65 : decode c_B_addHit 65 = .ok (.iload_n 3, 1) := by decide +kernel
theorem d_B_addHit_66 : decode c_B_addHit 66 = .ok (.aload_n 1, 1) := by decide +kernel
theorem d_B_addHit_67 : decode c_B_addHit 67 = .ok (.getfield 161, 3) := by decide +kernel
theorem d_B_addHit_70 : decode c_B_addHit 70 = .ok (.iastore, 1) := by decide +kernel
theorem d_B_addHit_71 : decode c_B_addHit 71 = .ok (.aload_n 0, 1) := by decide +kernel
theorem d_B_addHit_72 : decode c_B_addHit 72 = .ok (.dup, 1) := by decide +kernel
theorem d_B_addHit_73 : decode c_B_addHit 73 = .ok (.getfield 47, 3) := by decide +kernel
theorem d_B_addHit_76 : decode c_B_addHit 76 = .ok (.iconst 1, 1) := by decide +kernel
theorem d_B_addHit_77 : decode c_B_addHit 77 = .ok (.iadd, 1) := by decide +kernel
theorem d_B_addHit_78 : decode c_B_addHit 78 = .ok (.putfield 47, 3) := by decide +kernel
theorem d_B_addHit_81 : decode c_B_addHit 81 = .ok (.return_, 1) := by decide +kernel
theorem d_B_alternates_0 : decode c_B_alternates 0 = .ok (.aload_n 0, 1) := by decide +kernel
theorem d_B_alternates_1 : decode c_B_alternates 1 = .ok (.iload_n 1, 1) := by decide +kernel
theorem d_B_alternates_2 : decode c_B_alternates 2 = .ok (.invokevirtual 61, 3) := by decide +kernel
theorem d_B_alternates_5 : decode c_B_alternates 5 = .ok (.astore_n 3, 1) := by decide +kernel
theorem d_B_alternates_6 : decode c_B_alternates 6 = .ok (.iload_n 2, 1) := by decide +kernel
theorem d_B_alternates_7 : decode c_B_alternates 7 = .ok (.aload_n 0, 1) := by decide +kernel
theorem d_B_alternates_8 : decode c_B_alternates 8 = .ok (.getfield 32, 3) := by decide +kernel
theorem d_B_alternates_11 : decode c_B_alternates 11 = .ok (.invokestatic 65, 3) := by decide +kernel
theorem d_B_alternates_14 : decode c_B_alternates 14 = .ok (.aload_n 0, 1) := by decide +kernel
theorem d_B_alternates_15 : decode c_B_alternates 15 = .ok (.iconst 0, 1) := by decide +kernel
theorem d_B_alternates_16 : decode c_B_alternates 16 = .ok (.putfield 47, 3) := by decide +kernel
theorem d_B_alternates_19 : decode c_B_alternates 19 = .ok (.iconst 0, 1) := by decide +kernel
theorem d_B_alternates_20 : decode c_B_alternates 20 = .ok (.istore 4, 2) := by decide +kernel
theorem d_B_alternates_22 : decode c_B_alternates 22 = .ok (.iload 4, 2) := by decide +kernel
theorem d_B_alternates_24 : decode c_B_alternates 24 = .ok (.aload_n 0, 1) := by decide +kernel
theorem d_B_alternates_25 : decode c_B_alternates 25 = .ok (.getfield 15, 3) := by decide +kernel
theorem d_B_alternates_28 : decode c_B_alternates 28 = .ok (.if_icmp .ge 37, 3) := by decide +kernel
theorem d_B_alternates_31 : decode c_B_alternates 31 = .ok (.aload_n 0, 1) := by decide +kernel
theorem d_B_alternates_32 : decode c_B_alternates 32 = .ok (.aload_n 0, 1) := by decide +kernel
theorem d_B_alternates_33 : decode c_B_alternates 33 = .ok (.getfield 11, 3) := by decide +kernel
theorem d_B_alternates_36 : decode c_B_alternates 36 = .ok (.iload 4, 2) := by decide +kernel
theorem d_B_alternates_38 : decode c_B_alternates 38 = .ok (.aaload, 1) := by decide +kernel
theorem d_B_alternates_39 : decode c_B_alternates 39 = .ok (.aload_n 3, 1) := by decide +kernel
theorem d_B_alternates_40 : decode c_B_alternates 40 = .ok (.iload_n 2, 1) := by decide +kernel
theorem d_B_alternates_41 : decode c_B_alternates 41 = .ok (.invokevirtual 100, 3) := by decide +kernel
theorem d_B_alternates_44 : decode c_B_alternates 44 = .ok (.ifCond .eq 15, 3) := by decide +kernel
theorem d_B_alternates_47 : decode c_B_alternates 47 = .ok (.aload_n 0, 1) := by decide +kernel
theorem d_B_alternates_48 : decode c_B_alternates 48 = .ok (.aload_n 0, 1) := by decide +kernel
theorem d_B_alternates_49 : decode c_B_alternates 49 = .ok (.getfield 11, 3) := by decide +kernel
theorem d_B_alternates_52 : decode c_B_alternates 52 = .ok (.iload 4, 2) := by decide +kernel
theorem d_B_alternates_54 : decode c_B_alternates 54 = .ok (.aaload, 1) := by decide +kernel
theorem d_B_alternates_55 : decode c_B_alternates 55 = .ok (.iconst (-1), 1) := by decide +kernel
theorem d_B_alternates_56 : decode c_B_alternates 56 = .ok (.invokevirtual 104, 3) := by decide +kernel
theorem d_B_alternates_59 : decode c_B_alternates 59 = .ok (.iinc 4 1, 3) := by decide +kernel
theorem d_B_alternates_62 : decode c_B_alternates 62 = .ok (.goto (-40), 3) := by decide +kernel
theorem d_B_alternates_65 : decode c_B_alternates 65 = .ok (.aload_n 0, 1) := by decide +kernel
theorem d_B_alternates_66 : decode c_B_alternates 66 = .ok (.getfield 47, 3) := by decide +kernel
theorem d_B_alternates_69 : decode c_B_alternates 69 = .ok (.ireturn, 1) := by decide +kernel
theorem d_B_ask_0 : decode c_B_ask 0 = .ok (.iload_n 1, 1) := by decide +kernel
theorem d_B_ask_1 : decode c_B_ask 1 = .ok (.aload_n 0, 1) := by decide +kernel
theorem d_B_ask_2 : decode c_B_ask 2 = .ok (.getfield 32, 3) := by decide +kernel
theorem d_B_ask_5 : decode c_B_ask 5 = .ok (.invokestatic 65, 3) := by decide +kernel
theorem d_B_ask_8 : decode c_B_ask 8 = .ok (.iload_n 2, 1) := by decide +kernel
theorem d_B_ask_9 : decode c_B_ask 9 = .ok (.bipush 12, 2) := by decide +kernel
theorem d_B_ask_11 : decode c_B_ask 11 = .ok (.invokestatic 65, 3) := by decide +kernel
theorem d_B_ask_14 : decode c_B_ask 14 = .ok (.iload_n 3, 1) := by decide +kernel
theorem d_B_ask_15 : decode c_B_ask 15 = .ok (.i2l, 1) := by decide +kernel
theorem d_B_ask_16 : decode c_B_ask 16 = .ok (.ldc2_w 90, 3) := by decide +kernel
theorem d_B_ask_19 : decode c_B_ask 19 = .ok (.ldc2_w 98, 3) := by decide +kernel
theorem d_B_ask_22 : decode c_B_ask 22 = .ok (.invokestatic 52, 3) := by decide +kernel
theorem d_B_ask_25 : decode c_B_ask 25 = .ok (.iload_n 1, 1) := by decide +kernel
theorem d_B_ask_26 : decode c_B_ask 26 = .ok (.bipush 12, 2) := by decide +kernel
theorem d_B_ask_28 : decode c_B_ask 28 = .ok (.imul, 1) := by decide +kernel
theorem d_B_ask_29 : decode c_B_ask 29 = .ok (.iload_n 2, 1) := by decide +kernel
theorem d_B_ask_30 : decode c_B_ask 30 = .ok (.iadd, 1) := by decide +kernel
theorem d_B_ask_31 : decode c_B_ask 31 = .ok (.istore 4, 2) := by decide +kernel
theorem d_B_ask_33 : decode c_B_ask 33 = .ok (.aload_n 0, 1) := by decide +kernel
theorem d_B_ask_34 : decode c_B_ask 34 = .ok (.getfield 29, 3) := by decide +kernel
theorem d_B_ask_37 : decode c_B_ask 37 = .ok (.iload 4, 2) := by decide +kernel
theorem d_B_ask_39 : decode c_B_ask 39 = .ok (.iaload, 1) := by decide +kernel
theorem d_B_ask_40 : decode c_B_ask 40 = .ok (.iload_n 3, 1) := by decide +kernel
theorem d_B_ask_41 : decode c_B_ask 41 = .ok (.if_icmp .eq 7, 3) := by decide +kernel
theorem d_B_ask_44 : decode c_B_ask 44 = .ok (.iconst 1, 1) := by decide +kernel
theorem d_B_ask_45 : decode c_B_ask 45 = .ok (.goto 4, 3) := by decide +kernel
theorem d_B_ask_48 : decode c_B_ask 48 = .ok (.iconst 0, 1) := by decide +kernel
theorem d_B_ask_49 : decode c_B_ask 49 = .ok (.istore 5, 2) := by decide +kernel
theorem d_B_ask_51 : decode c_B_ask 51 = .ok (.aload_n 0, 1) := by decide +kernel
theorem d_B_ask_52 : decode c_B_ask 52 = .ok (.getfield 29, 3) := by decide +kernel
theorem d_B_ask_55 : decode c_B_ask 55 = .ok (.iload 4, 2) := by decide +kernel
theorem d_B_ask_57 : decode c_B_ask 57 = .ok (.iload_n 3, 1) := by decide +kernel
theorem d_B_ask_58 : decode c_B_ask 58 = .ok (.iastore, 1) := by decide +kernel
theorem d_B_ask_59 : decode c_B_ask 59 = .ok (.iload 5, 2) := by decide +kernel
theorem d_B_ask_61 : decode c_B_ask 61 = .ok (.ireturn, 1) := by decide +kernel
theorem d_B_best_0 : decode c_B_best 0 = .ok (.aload_n 0, 1) := by decide +kernel
theorem d_B_best_1 : decode c_B_best 1 = .ok (.iload_n 1, 1) := by decide +kernel
theorem d_B_best_2 : decode c_B_best 2 = .ok (.invokevirtual 61, 3) := by decide +kernel
theorem d_B_best_5 : decode c_B_best 5 = .ok (.astore_n 3, 1) := by decide +kernel
theorem d_B_best_6 : decode c_B_best 6 = .ok (.iload_n 2, 1) := by decide +kernel
theorem d_B_best_7 : decode c_B_best 7 = .ok (.i2l, 1) := by decide +kernel
theorem d_B_best_8 : decode c_B_best 8 = .ok (.lconst 1, 1) := by decide +kernel
theorem d_B_best_9 : decode c_B_best 9 = .ok (.ldc2_w 112, 3) := by decide +kernel
theorem d_B_best_12 : decode c_B_best 12 = .ok (.invokestatic 52, 3) := by decide +kernel
theorem d_B_best_15 : decode c_B_best 15 = .ok (.aload_n 0, 1) := by decide +kernel
theorem d_B_best_16 : decode c_B_best 16 = .ok (.aload_n 3, 1) := by decide +kernel
theorem d_B_best_17 : decode c_B_best 17 = .ok (.iload_n 2, 1) := by decide +kernel
theorem d_B_best_18 : decode c_B_best 18 = .ok (.invokevirtual 153, 3) := by decide +kernel
theorem d_B_best_21 : decode c_B_best 21 = .ok (.ireturn, 1) := by decide +kernel
theorem d_B_bestTotal_0 : decode c_B_bestTotal 0 = .ok (.aload_n 1, 1) := by decide +kernel
theorem d_B_bestTotal_1 : decode c_B_bestTotal 1 = .ok (.getfield 116, 3) := by decide +kernel
theorem d_B_bestTotal_4 : decode c_B_bestTotal 4 = .ok (.astore_n 3, 1) := by decide +kernel
theorem d_B_bestTotal_5 : decode c_B_bestTotal 5 = .ok (.iconst (-1), 1) := by decide +kernel
theorem d_B_bestTotal_6 : decode c_B_bestTotal 6 = .ok (.istore 4, 2) := by decide +kernel
theorem d_B_bestTotal_8 : decode c_B_bestTotal 8 = .ok (.lconst 0, 1) := by decide +kernel
theorem d_B_bestTotal_9 : decode c_B_bestTotal 9 = .ok (.lstore 5, 2) := by decide +kernel
theorem d_B_bestTotal_11 : decode c_B_bestTotal 11 = .ok (.iconst 0, 1) := by decide +kernel
theorem d_B_bestTotal_12 : decode c_B_bestTotal 12 = .ok (.istore 7, 2) := by decide +kernel
theorem d_B_bestTotal_14 : decode c_B_bestTotal 14 = .ok (.iload 7, 2) := by decide +kernel
theorem d_B_bestTotal_16 : decode c_B_bestTotal 16 = .ok (.aload_n 3, 1) := by decide +kernel
theorem d_B_bestTotal_17 : decode c_B_bestTotal 17 = .ok (.getfield 196, 3) := by decide +kernel
theorem d_B_bestTotal_20 : decode c_B_bestTotal 20 = .ok (.if_icmp .ge 91, 3) := by decide +kernel
theorem d_B_bestTotal_23 : decode c_B_bestTotal 23 = .ok (.iload_n 2, 1) := by decide +kernel
theorem d_B_bestTotal_24 : decode c_B_bestTotal 24 = .ok (.i2l, 1) := by decide +kernel
theorem d_B_bestTotal_25 : decode c_B_bestTotal 25 = .ok (.aload_n 3, 1) := by decide +kernel
theorem d_B_bestTotal_26 : decode c_B_bestTotal 26 = .ok (.getfield 199, 3) := by decide +kernel
theorem d_B_bestTotal_29 : decode c_B_bestTotal 29 = .ok (.iload 7, 2) := by decide +kernel
theorem d_B_bestTotal_31 : decode c_B_bestTotal 31 = .ok (.laload, 1) := by decide +kernel
theorem d_B_bestTotal_32 : decode c_B_bestTotal 32 = .ok (.invokestatic 202, 3) := by decide +kernel
theorem d_B_bestTotal_35 : decode c_B_bestTotal 35 = .ok (.lstore 8, 2) := by decide +kernel
theorem d_B_bestTotal_37 : decode c_B_bestTotal 37 = .ok (.aload_n 1, 1) := by decide +kernel
theorem d_B_bestTotal_38 : decode c_B_bestTotal 38 = .ok (.getfield 137, 3) := by decide +kernel
theorem d_B_bestTotal_41 : decode c_B_bestTotal 41 = .ok (.i2l, 1) := by decide +kernel
theorem d_B_bestTotal_42 : decode c_B_bestTotal 42 = .ok (.aload_n 3, 1) := by decide +kernel
theorem d_B_bestTotal_43 : decode c_B_bestTotal 43 = .ok (.iload 7, 2) := by decide +kernel
theorem d_B_bestTotal_45 : decode c_B_bestTotal 45 = .ok (.invokevirtual 208, 3) := by decide +kernel
theorem d_B_bestTotal_48 : decode c_B_bestTotal 48 = .ok (.invokestatic 211, 3) := by decide +kernel
theorem d_B_bestTotal_51 : decode c_B_bestTotal 51 = .ok (.lstore 10, 2) := by decide +kernel
theorem d_B_bestTotal_53 : decode c_B_bestTotal 53 = .ok (.aload_n 1, 1) := by decide +kernel
theorem d_B_bestTotal_54 : decode c_B_bestTotal 54 = .ok (.getfield 126, 3) := by decide +kernel
theorem d_B_bestTotal_57 : decode c_B_bestTotal 57 = .ok (.lload 8, 2) := by decide +kernel
theorem d_B_bestTotal_59 : decode c_B_bestTotal 59 = .ok (.lload 10, 2) := by decide +kernel
theorem d_B_bestTotal_61 : decode c_B_bestTotal 61 = .ok (.invokevirtual 214, 3) := by decide +kernel
theorem d_B_bestTotal_64 : decode c_B_bestTotal 64 = .ok (.istore 12, 2) := by decide +kernel
theorem d_B_bestTotal_66 : decode c_B_bestTotal 66 = .ok (.iload 12, 2) := by decide +kernel
theorem d_B_bestTotal_68 : decode c_B_bestTotal 68 = .ok (.iconst (-1), 1) := by decide +kernel
theorem d_B_bestTotal_69 : decode c_B_bestTotal 69 = .ok (.if_icmp .eq 36, 3) := by decide +kernel
theorem d_B_bestTotal_72 : decode c_B_bestTotal 72 = .ok (.aload_n 0, 1) := by decide +kernel
theorem d_B_bestTotal_73 : decode c_B_bestTotal 73 = .ok (.aload_n 1, 1) := by decide +kernel
theorem d_B_bestTotal_74 : decode c_B_bestTotal 74 = .ok (.iload 7, 2) := by decide +kernel
theorem d_B_bestTotal_76 : decode c_B_bestTotal 76 = .ok (.iload 12, 2) := by decide +kernel
theorem d_B_bestTotal_78 : decode c_B_bestTotal 78 = .ok (.invokevirtual 218, 3) := by decide +kernel
theorem d_B_bestTotal_81 : decode c_B_bestTotal 81 = .ok (.lstore 13, 2) := by decide +kernel
theorem d_B_bestTotal_83 : decode c_B_bestTotal 83 = .ok (.iload 4, 2) := by decide +kernel
theorem d_B_bestTotal_85 : decode c_B_bestTotal 85 = .ok (.iconst (-1), 1) := by decide +kernel
theorem d_B_bestTotal_86 : decode c_B_bestTotal 86 = .ok (.if_icmp .eq 11, 3) := by decide +kernel
theorem d_B_bestTotal_89 : decode c_B_bestTotal 89 = .ok (.lload 13, 2) := by decide +kernel
theorem d_B_bestTotal_91 : decode c_B_bestTotal 91 = .ok (.lload 5, 2) := by decide +kernel
theorem d_B_bestTotal_93 : decode c_B_bestTotal 93 = .ok (.lcmp, 1) := by decide +kernel
theorem d_B_bestTotal_94 : decode c_B_bestTotal 94 = .ok (.ifCond .ge 11, 3) := by decide +kernel
theorem d_B_bestTotal_97 : decode c_B_bestTotal 97 = .ok (.iload 12, 2) := by decide +kernel
theorem d_B_bestTotal_99 : decode c_B_bestTotal 99 = .ok (.istore 4, 2) := by decide +kernel
theorem d_B_bestTotal_101 : decode c_B_bestTotal 101 = .ok (.lload 13, 2) := by decide +kernel
theorem d_B_bestTotal_103 : decode c_B_bestTotal 103 = .ok (.lstore 5, 2) := by decide +kernel
theorem d_B_bestTotal_105 : decode c_B_bestTotal 105 = .ok (.iinc 7 1, 3) := by decide +kernel
theorem d_B_bestTotal_108 : decode c_B_bestTotal 108 = .ok (.goto (-94), 3) := by decide +kernel
theorem d_B_bestTotal_111 : decode c_B_bestTotal 111 = .ok (.iload 4, 2) := by decide +kernel
theorem d_B_bestTotal_113 : decode c_B_bestTotal 113 = .ok (.ireturn, 1) := by decide +kernel
theorem d_B_buy_0 : decode c_B_buy 0 = .ok (.aload_n 0, 1) := by decide +kernel
theorem d_B_buy_1 : decode c_B_buy 1 = .ok (.iload_n 1, 1) := by decide +kernel
theorem d_B_buy_2 : decode c_B_buy 2 = .ok (.iload_n 2, 1) := by decide +kernel
theorem d_B_buy_3 : decode c_B_buy 3 = .ok (.iload_n 3, 1) := by decide +kernel
theorem d_B_buy_4 : decode c_B_buy 4 = .ok (.lload 4, 2) := by decide +kernel
theorem d_B_buy_6 : decode c_B_buy 6 = .ok (.invokevirtual 157, 3) := by decide +kernel
theorem d_B_buy_9 : decode c_B_buy 9 = .ok (.astore 6, 2) := by decide +kernel
theorem d_B_buy_11 : decode c_B_buy 11 = .ok (.aload 6, 2) := by decide +kernel
theorem d_B_buy_13 : decode c_B_buy 13 = .ok (.ifnonnull 5, 3) := by decide +kernel
theorem d_B_buy_16 : decode c_B_buy 16 = .ok (.iconst (-1), 1) := by decide +kernel
theorem d_B_buy_17 : decode c_B_buy 17 = .ok (.ireturn, 1) := by decide +kernel
theorem d_B_buy_18 : decode c_B_buy 18 = .ok (.aload_n 0, 1) := by decide +kernel
theorem d_B_buy_19 : decode c_B_buy 19 = .ok (.aload 6, 2) := by decide +kernel
theorem d_B_buy_21 : decode c_B_buy 21 = .ok (.iload_n 3, 1) := by decide +kernel
theorem d_B_buy_22 : decode c_B_buy 22 = .ok (.invokevirtual 153, 3) := by decide +kernel
theorem d_B_buy_25 : decode c_B_buy 25 = .ok (.istore 7, 2) := by decide +kernel
theorem d_B_buy_27 : decode c_B_buy 27 = .ok (.aload 6, 2) := by decide +kernel
theorem d_B_buy_29 : decode c_B_buy 29 = .ok (.dup, 1) := by decide +kernel
theorem d_B_buy_30 : decode c_B_buy 30 = .ok (.getfield 137, 3) := by decide +kernel
theorem d_B_buy_33 : decode c_B_buy 33 = .ok (.iload 7, 2) := by decide +kernel
theorem d_B_buy_35 : decode c_B_buy 35 = .ok (.isub, 1) := by decide +kernel
theorem d_B_buy_36 : decode c_B_buy 36 = .ok (.putfield 137, 3) := by decide +kernel
theorem d_B_buy_39 : decode c_B_buy 39 = .ok (.iload 7, 2) := by decide +kernel
theorem d_B_buy_41 : decode c_B_buy 41 = .ok (.ireturn, 1) := by decide +kernel
theorem d_B_cheapest_0 : decode c_B_cheapest 0 = .ok (.aload_n 0, 1) := by decide +kernel
theorem d_B_cheapest_1 : decode c_B_cheapest 1 = .ok (.aload_n 1, 1) := by decide +kernel
theorem d_B_cheapest_2 : decode c_B_cheapest 2 = .ok (.iload_n 3, 1) := by decide +kernel
theorem d_B_cheapest_3 : decode c_B_cheapest 3 = .ok (.lload 4, 2) := by decide +kernel
theorem d_B_cheapest_5 : decode c_B_cheapest 5 = .ok (.invokevirtual 235, 3) := by decide +kernel
theorem d_B_cheapest_8 : decode c_B_cheapest 8 = .ok (.lstore 6, 2) := by decide +kernel
theorem d_B_cheapest_10 : decode c_B_cheapest 10 = .ok (.lload 6, 2) := by decide +kernel
theorem d_B_cheapest_12 : decode c_B_cheapest 12 = .ok (.ldc2_w 90, 3) := by decide +kernel
theorem d_B_cheapest_15 : decode c_B_cheapest 15 = .ok (.lcmp, 1) := by decide +kernel
theorem d_B_cheapest_16 : decode c_B_cheapest 16 = .ok (.ifCond .ne 7, 3) := by decide +kernel
theorem d_B_cheapest_19 : decode c_B_cheapest 19 = .ok (.aconst_null, 1) := by decide +kernel
theorem d_B_cheapest_20 : decode c_B_cheapest 20 = .ok (.goto 4, 3) := by decide +kernel
theorem d_B_cheapest_23 : decode c_B_cheapest 23 = .ok (.aload_n 1, 1) := by decide +kernel
theorem d_B_cheapest_24 : decode c_B_cheapest 24 = .ok (.astore 8, 2) := by decide +kernel
theorem d_B_cheapest_26 : decode c_B_cheapest 26 = .ok (.iconst 0, 1) := by decide +kernel
theorem d_B_cheapest_27 : decode c_B_cheapest 27 = .ok (.istore 9, 2) := by decide +kernel
theorem d_B_cheapest_29 : decode c_B_cheapest 29 = .ok (.iload 9, 2) := by decide +kernel
theorem d_B_cheapest_31 : decode c_B_cheapest 31 = .ok (.aload_n 0, 1) := by decide +kernel
theorem d_B_cheapest_32 : decode c_B_cheapest 32 = .ok (.getfield 15, 3) := by decide +kernel
theorem d_B_cheapest_35 : decode c_B_cheapest 35 = .ok (.if_icmp .ge 95, 3) := by decide +kernel
theorem d_B_cheapest_38 : decode c_B_cheapest 38 = .ok (.aload_n 0, 1) := by decide +kernel
theorem d_B_cheapest_39 : decode c_B_cheapest 39 = .ok (.getfield 11, 3) := by decide +kernel
theorem d_B_cheapest_42 : decode c_B_cheapest 42 = .ok (.iload 9, 2) := by decide +kernel
theorem d_B_cheapest_44 : decode c_B_cheapest 44 = .ok (.aaload, 1) := by decide +kernel
theorem d_B_cheapest_45 : decode c_B_cheapest 45 = .ok (.astore 10, 2) := by decide +kernel
theorem d_B_cheapest_47 : decode c_B_cheapest 47 = .ok (.aload_n 0, 1) := by decide +kernel
theorem d_B_cheapest_48 : decode c_B_cheapest 48 = .ok (.aload 10, 2) := by decide +kernel
theorem d_B_cheapest_50 : decode c_B_cheapest 50 = .ok (.aload_n 1, 1) := by decide +kernel
theorem d_B_cheapest_51 : decode c_B_cheapest 51 = .ok (.iload_n 2, 1) := by decide +kernel
theorem d_B_cheapest_52 : decode c_B_cheapest 52 = .ok (.invokevirtual 100, 3) := by decide +kernel
theorem d_B_cheapest_55 : decode c_B_cheapest 55 = .ok (.ifCond .eq 69, 3) := by decide +kernel
theorem d_B_cheapest_58 : decode c_B_cheapest 58 = .ok (.aload_n 0, 1) := by decide +kernel
theorem d_B_cheapest_59 : decode c_B_cheapest 59 = .ok (.aload 10, 2) := by decide +kernel
theorem d_B_cheapest_61 : decode c_B_cheapest 61 = .ok (.iload_n 3, 1) := by decide +kernel
theorem d_B_cheapest_62 : decode c_B_cheapest 62 = .ok (.lload 4, 2) := by decide +kernel
theorem d_B_cheapest_64 : decode c_B_cheapest 64 = .ok (.invokevirtual 235, 3) := by decide +kernel
theorem d_B_cheapest_67 : decode c_B_cheapest 67 = .ok (.lstore 11, 2) := by decide +kernel
theorem d_B_cheapest_69 : decode c_B_cheapest 69 = .ok (.lload 11, 2) := by decide +kernel
theorem d_B_cheapest_71 : decode c_B_cheapest 71 = .ok (.ldc2_w 90, 3) := by decide +kernel
theorem d_B_cheapest_74 : decode c_B_cheapest 74 = .ok (.lcmp, 1) := by decide +kernel
theorem d_B_cheapest_75 : decode c_B_cheapest 75 = .ok (.ifCond .eq 49, 3) := by decide +kernel
theorem d_B_cheapest_78 : decode c_B_cheapest 78 = .ok (.aload 8, 2) := by decide +kernel
theorem d_B_cheapest_80 : decode c_B_cheapest 80 = .ok (.ifnull 36, 3) := by decide +kernel
theorem d_B_cheapest_83 : decode c_B_cheapest 83 = .ok (.lload 11, 2) := by decide +kernel
theorem d_B_cheapest_85 : decode c_B_cheapest 85 = .ok (.lload 6, 2) := by decide +kernel
theorem d_B_cheapest_87 : decode c_B_cheapest 87 = .ok (.lcmp, 1) := by decide +kernel
theorem d_B_cheapest_88 : decode c_B_cheapest 88 = .ok (.ifCond .lt 28, 3) := by decide +kernel
theorem d_B_cheapest_91 : decode c_B_cheapest 91 = .ok (.lload 11, 2) := by decide +kernel
theorem d_B_cheapest_93 : decode c_B_cheapest 93 = .ok (.lload 6, 2) := by decide +kernel
theorem d_B_cheapest_95 : decode c_B_cheapest 95 = .ok (.lcmp, 1) := by decide +kernel
theorem d_B_cheapest_96 : decode c_B_cheapest 96 = .ok (.ifCond .ne 28, 3) := by decide +kernel
theorem d_B_cheapest_99 : decode c_B_cheapest 99 = .ok (.aload 8, 2) := by decide +kernel
theorem d_B_cheapest_101 : decode c_B_cheapest 101 = .ok (.aload_n 1, 1) := by decide +kernel
theorem d_B_cheapest_102 : decode c_B_cheapest 102 = .ok (.if_acmp .eq 22, 3) := by decide +kernel
theorem d_B_cheapest_105 : decode c_B_cheapest 105 = .ok (.aload_n 0, 1) := by decide +kernel
theorem d_B_cheapest_106 : decode c_B_cheapest 106 = .ok (.aload 10, 2) := by decide +kernel
theorem d_B_cheapest_108 : decode c_B_cheapest 108 = .ok (.aload 8, 2) := by decide +kernel
theorem d_B_cheapest_110 : decode c_B_cheapest 110 = .ok (.invokevirtual 189, 3) := by decide +kernel
theorem d_B_cheapest_113 : decode c_B_cheapest 113 = .ok (.ifCond .eq 11, 3) := by decide +kernel
theorem d_B_cheapest_116 : decode c_B_cheapest 116 = .ok (.aload 10, 2) := by decide +kernel
theorem d_B_cheapest_118 : decode c_B_cheapest 118 = .ok (.astore 8, 2) := by decide +kernel
theorem d_B_cheapest_120 : decode c_B_cheapest 120 = .ok (.lload 11, 2) := by decide +kernel
theorem d_B_cheapest_122 : decode c_B_cheapest 122 = .ok (.lstore 6, 2) := by decide +kernel
theorem d_B_cheapest_124 : decode c_B_cheapest 124 = .ok (.iinc 9 1, 3) := by decide +kernel
theorem d_B_cheapest_127 : decode c_B_cheapest 127 = .ok (.goto (-98), 3) := by decide +kernel
theorem d_B_cheapest_130 : decode c_B_cheapest 130 = .ok (.aload 8, 2) := by decide +kernel
theorem d_B_cheapest_132 : decode c_B_cheapest 132 = .ok (.areturn, 1) := by decide +kernel
theorem d_B_checkFraction_0 : decode c_B_checkFraction 0 = .ok (.lload_n 0, 1) := by decide +kernel
theorem d_B_checkFraction_1 : decode c_B_checkFraction 1 = .ok (.lconst 0, 1) := by decide +kernel
theorem d_B_checkFraction_2 : decode c_B_checkFraction 2 = .ok (.ldc2_w 180, 3) := by decide +kernel
theorem d_B_checkFraction_5 : decode c_B_checkFraction 5 = .ok (.invokestatic 52, 3) := by decide +kernel
theorem d_B_checkFraction_8 : decode c_B_checkFraction 8 = .ok (.lload_n 2, 1) := by decide +kernel
theorem d_B_checkFraction_9 : decode c_B_checkFraction 9 = .ok (.lconst 1, 1) := by decide +kernel
theorem d_B_checkFraction_10 : decode c_B_checkFraction 10 = .ok (.ldc2_w 114, 3) := by decide +kernel
theorem d_B_checkFraction_13 : decode c_B_checkFraction 13 = .ok (.invokestatic 52, 3) := by decide +kernel
theorem d_B_checkFraction_16 : decode c_B_checkFraction 16 = .ok (.return_, 1) := by decide +kernel
theorem d_B_checkIndex_0 : decode c_B_checkIndex 0 = .ok (.iload_n 0, 1) := by decide +kernel
theorem d_B_checkIndex_1 : decode c_B_checkIndex 1 = .ok (.ifCond .lt 8, 3) := by decide +kernel
theorem d_B_checkIndex_4 : decode c_B_checkIndex 4 = .ok (.iload_n 0, 1) := by decide +kernel
theorem d_B_checkIndex_5 : decode c_B_checkIndex 5 = .ok (.iload_n 1, 1) := by decide +kernel
theorem d_B_checkIndex_6 : decode c_B_checkIndex 6 = .ok (.if_icmp .lt 13, 3) := by decide +kernel
theorem d_B_checkIndex_9 : decode c_B_checkIndex 9 = .ok (.new 166, 3) := by decide +kernel
theorem d_B_checkIndex_12 : decode c_B_checkIndex 12 = .ok (.dup, 1) := by decide +kernel
theorem d_B_checkIndex_13 : decode c_B_checkIndex 13 = .ok (.ldc 173, 2) := by decide +kernel
theorem d_B_checkIndex_15 : decode c_B_checkIndex 15 = .ok (.invokespecial 170, 3) := by decide +kernel
theorem d_B_checkIndex_18 : decode c_B_checkIndex 18 = .ok (.athrow, 1) := by decide +kernel
theorem d_B_checkIndex_19 : decode c_B_checkIndex 19 = .ok (.return_, 1) := by decide +kernel
theorem d_B_checkNumber_0 : decode c_B_checkNumber 0 = .ok (.lload_n 0, 1) := by decide +kernel
theorem d_B_checkNumber_1 : decode c_B_checkNumber 1 = .ok (.lload_n 2, 1) := by decide +kernel
theorem d_B_checkNumber_2 : decode c_B_checkNumber 2 = .ok (.lcmp, 1) := by decide +kernel
theorem d_B_checkNumber_3 : decode c_B_checkNumber 3 = .ok (.ifCond .lt 10, 3) := by decide +kernel
theorem d_B_checkNumber_6 : decode c_B_checkNumber 6 = .ok (.lload_n 0, 1) := by decide +kernel
theorem d_B_checkNumber_7 : decode c_B_checkNumber 7 = .ok (.lload 4, 2) := by decide +kernel
theorem d_B_checkNumber_9 : decode c_B_checkNumber 9 = .ok (.lcmp, 1) := by decide +kernel
theorem d_B_checkNumber_10 : decode c_B_checkNumber 10 = .ok (.ifCond .le 13, 3) := by decide +kernel
theorem d_B_checkNumber_13 : decode c_B_checkNumber 13 = .ok (.new 175, 3) := by decide +kernel
theorem d_B_checkNumber_16 : decode c_B_checkNumber 16 = .ok (.dup, 1) := by decide +kernel
theorem d_B_checkNumber_17 : decode c_B_checkNumber 17 = .ok (.ldc 177, 2) := by decide +kernel
theorem d_B_checkNumber_19 : decode c_B_checkNumber 19 = .ok (.invokespecial 179, 3) := by decide +kernel
theorem d_B_checkNumber_22 : decode c_B_checkNumber 22 = .ok (.athrow, 1) := by decide +kernel
theorem d_B_checkNumber_23 : decode c_B_checkNumber 23 = .ok (.return_, 1) := by decide +kernel
theorem d_B_choose_0 : decode c_B_choose 0 = .ok (.aload_n 0, 1) := by decide +kernel
theorem d_B_choose_1 : decode c_B_choose 1 = .ok (.iload_n 1, 1) := by decide +kernel
theorem d_B_choose_2 : decode c_B_choose 2 = .ok (.iload_n 2, 1) := by decide +kernel
theorem d_B_choose_3 : decode c_B_choose 3 = .ok (.iload_n 3, 1) := by decide +kernel
theorem d_B_choose_4 : decode c_B_choose 4 = .ok (.lload 4, 2) := by decide +kernel
theorem d_B_choose_6 : decode c_B_choose 6 = .ok (.invokevirtual 157, 3) := by decide +kernel
theorem d_B_choose_9 : decode c_B_choose 9 = .ok (.astore 6, 2) := by decide +kernel
theorem d_B_choose_11 : decode c_B_choose 11 = .ok (.aload 6, 2) := by decide +kernel
theorem d_B_choose_13 : decode c_B_choose 13 = .ok (.ifnonnull 7, 3) := by decide +kernel
theorem d_B_choose_16 : decode c_B_choose 16 = .ok (.iconst (-1), 1) := by decide +kernel
theorem d_B_choose_17 : decode c_B_choose 17 = .ok (.goto 8, 3) := by decide +kernel
theorem d_B_choose_20 : decode c_B_choose 20 = .ok (.aload 6, 2) := by decide +kernel
theorem d_B_choose_22 : decode c_B_choose 22 = .ok (.getfield 161, 3) := by decide +kernel
theorem d_B_choose_25 : decode c_B_choose 25 = .ok (.ireturn, 1) := by decide +kernel
theorem d_B_chosenFor_0 : decode c_B_chosenFor 0 = .ok (.aload_n 0, 1) := by decide +kernel
theorem d_B_chosenFor_1 : decode c_B_chosenFor 1 = .ok (.iload_n 1, 1) := by decide +kernel
theorem d_B_chosenFor_2 : decode c_B_chosenFor 2 = .ok (.invokevirtual 61, 3) := by decide +kernel
theorem d_B_chosenFor_5 : decode c_B_chosenFor 5 = .ok (.astore 6, 2) := by decide +kernel
theorem d_B_chosenFor_7 : decode c_B_chosenFor 7 = .ok (.iload_n 2, 1) := by decide +kernel
theorem d_B_chosenFor_8 : decode c_B_chosenFor 8 = .ok (.aload_n 0, 1) := by decide +kernel
theorem d_B_chosenFor_9 : decode c_B_chosenFor 9 = .ok (.getfield 32, 3) := by decide +kernel
theorem d_B_chosenFor_12 : decode c_B_chosenFor 12 = .ok (.invokestatic 65, 3) := by decide +kernel
theorem d_B_chosenFor_15 : decode c_B_chosenFor 15 = .ok (.iload_n 3, 1) := by decide +kernel
theorem d_B_chosenFor_16 : decode c_B_chosenFor 16 = .ok (.i2l, 1) := by decide +kernel
theorem d_B_chosenFor_17 : decode c_B_chosenFor 17 = .ok (.lconst 1, 1) := by decide +kernel
theorem d_B_chosenFor_18 : decode c_B_chosenFor 18 = .ok (.ldc2_w 112, 3) := by decide +kernel
theorem d_B_chosenFor_21 : decode c_B_chosenFor 21 = .ok (.invokestatic 52, 3) := by decide +kernel
theorem d_B_chosenFor_24 : decode c_B_chosenFor 24 = .ok (.aload_n 0, 1) := by decide +kernel
theorem d_B_chosenFor_25 : decode c_B_chosenFor 25 = .ok (.aload 6, 2) := by decide +kernel
theorem d_B_chosenFor_27 : decode c_B_chosenFor 27 = .ok (.iload_n 2, 1) := by decide +kernel
theorem d_B_chosenFor_28 : decode c_B_chosenFor 28 = .ok (.iload_n 3, 1) := by decide +kernel
theorem d_B_chosenFor_29 : decode c_B_chosenFor 29 = .ok (.lload 4, 2) := by decide +kernel
theorem d_B_chosenFor_31 : decode c_B_chosenFor 31 = .ok (.invokevirtual 231, 3) := by decide +kernel
theorem d_B_chosenFor_34 : decode c_B_chosenFor 34 = .ok (.areturn, 1) := by decide +kernel
theorem d_B_cost_0 : decode c_B_cost 0 = .ok (.aload_n 0, 1) := by decide +kernel
theorem d_B_cost_1 : decode c_B_cost 1 = .ok (.iload_n 1, 1) := by decide +kernel
theorem d_B_cost_2 : decode c_B_cost 2 = .ok (.invokevirtual 61, 3) := by decide +kernel
theorem d_B_cost_5 : decode c_B_cost 5 = .ok (.astore_n 3, 1) := by decide +kernel
theorem d_B_cost_6 : decode c_B_cost 6 = .ok (.iload_n 2, 1) := by decide +kernel
theorem d_B_cost_7 : decode c_B_cost 7 = .ok (.i2l, 1) := by decide +kernel
theorem d_B_cost_8 : decode c_B_cost 8 = .ok (.lconst 1, 1) := by decide +kernel
theorem d_B_cost_9 : decode c_B_cost 9 = .ok (.ldc2_w 112, 3) := by decide +kernel
theorem d_B_cost_12 : decode c_B_cost 12 = .ok (.invokestatic 52, 3) := by decide +kernel
theorem d_B_cost_15 : decode c_B_cost 15 = .ok (.aload_n 0, 1) := by decide +kernel
theorem d_B_cost_16 : decode c_B_cost 16 = .ok (.aload_n 3, 1) := by decide +kernel
theorem d_B_cost_17 : decode c_B_cost 17 = .ok (.iload_n 2, 1) := by decide +kernel
theorem d_B_cost_18 : decode c_B_cost 18 = .ok (.invokevirtual 149, 3) := by decide +kernel
theorem d_B_cost_21 : decode c_B_cost 21 = .ok (.lreturn, 1) := by decide +kernel
theorem d_B_costAt_0 : decode c_B_costAt 0 = .ok (.iload_n 3, 1) := by decide +kernel
theorem d_B_costAt_1 : decode c_B_costAt 1 = .ok (.i2l, 1) := by decide +kernel
theorem d_B_costAt_2 : decode c_B_costAt 2 = .ok (.aload_n 1, 1) := by decide +kernel
theorem d_B_costAt_3 : decode c_B_costAt 3 = .ok (.getfield 116, 3) := by decide +kernel
theorem d_B_costAt_6 : decode c_B_costAt 6 = .ok (.getfield 225, 3) := by decide +kernel
theorem d_B_costAt_9 : decode c_B_costAt 9 = .ok (.iload_n 2, 1) := by decide +kernel
theorem d_B_costAt_10 : decode c_B_costAt 10 = .ok (.laload, 1) := by decide +kernel
theorem d_B_costAt_11 : decode c_B_costAt 11 = .ok (.lmul, 1) := by decide +kernel
theorem d_B_costAt_12 : decode c_B_costAt 12 = .ok (.aload_n 0, 1) := by decide +kernel
theorem d_B_costAt_13 : decode c_B_costAt 13 = .ok (.getfield 35, 3) := by decide +kernel
theorem d_B_costAt_16 : decode c_B_costAt 16 = .ok (.aload_n 1, 1) := by decide +kernel
theorem d_B_costAt_17 : decode c_B_costAt 17 = .ok (.getfield 116, 3) := by decide +kernel
theorem d_B_costAt_20 : decode c_B_costAt 20 = .ok (.getfield 228, 3) := by decide +kernel
theorem d_B_costAt_23 : decode c_B_costAt 23 = .ok (.iload_n 2, 1) := by decide +kernel
theorem d_B_costAt_24 : decode c_B_costAt 24 = .ok (.iaload, 1) := by decide +kernel
theorem d_B_costAt_25 : decode c_B_costAt 25 = .ok (.laload, 1) := by decide +kernel
theorem d_B_costAt_26 : decode c_B_costAt 26 = .ok (.lmul, 1) := by decide +kernel
theorem d_B_costAt_27 : decode c_B_costAt 27 = .ok (.lreturn, 1) := by decide +kernel
theorem d_B_derate_0 : decode c_B_derate 0 = .ok (.aload_n 0, 1) := by decide +kernel
theorem d_B_derate_1 : decode c_B_derate 1 = .ok (.iload_n 1, 1) := by decide +kernel
theorem d_B_derate_2 : decode c_B_derate 2 = .ok (.invokevirtual 61, 3) := by decide +kernel
theorem d_B_derate_5 : decode c_B_derate 5 = .ok (.astore 8, 2) := by decide +kernel
theorem d_B_derate_7 : decode c_B_derate 7 = .ok (.iload_n 2, 1) := by decide +kernel
theorem d_B_derate_8 : decode c_B_derate 8 = .ok (.bipush 12, 2) := by decide +kernel
theorem d_B_derate_10 : decode c_B_derate 10 = .ok (.invokestatic 65, 3) := by decide +kernel
theorem d_B_derate_13 : decode c_B_derate 13 = .ok (.lload_n 3, 1) := by decide +kernel
theorem d_B_derate_14 : decode c_B_derate 14 = .ok (.lload 5, 2) := by decide +kernel
theorem d_B_derate_16 : decode c_B_derate 16 = .ok (.invokestatic 68, 3) := by decide +kernel
theorem d_B_derate_19 : decode c_B_derate 19 = .ok (.iload 7, 2) := by decide +kernel
theorem d_B_derate_21 : decode c_B_derate 21 = .ok (.i2l, 1) := by decide +kernel
theorem d_B_derate_22 : decode c_B_derate 22 = .ok (.lconst 1, 1) := by decide +kernel
theorem d_B_derate_23 : decode c_B_derate 23 = .ok (.ldc2_w 164, 3) := by decide +kernel
theorem d_B_derate_26 : decode c_B_derate 26 = .ok (.invokestatic 52, 3) := by decide +kernel
theorem d_B_derate_29 : decode c_B_derate 29 = .ok (.aload 8, 2) := by decide +kernel
theorem d_B_derate_31 : decode c_B_derate 31 = .ok (.iload_n 2, 1) := by decide +kernel
theorem d_B_derate_32 : decode c_B_derate 32 = .ok (.invokevirtual 86, 3) := by decide +kernel
theorem d_B_derate_35 : decode c_B_derate 35 = .ok (.ifCond .ne 5, 3) := by decide +kernel
theorem d_B_derate_38 : decode c_B_derate 38 = .ok (.iconst (-1), 1) := by decide +kernel
theorem d_B_derate_39 : decode c_B_derate 39 = .ok (.ireturn, 1) := by decide +kernel
theorem d_B_derate_40 : decode c_B_derate 40 = .ok (.aload 8, 2) := by decide +kernel
theorem d_B_derate_42 : decode c_B_derate 42 = .ok (.iload_n 2, 1) := by decide +kernel
theorem d_B_derate_43 : decode c_B_derate 43 = .ok (.lload_n 3, 1) := by decide +kernel
theorem d_B_derate_44 : decode c_B_derate 44 = .ok (.ldc2_w 164, 3) := by decide +kernel
theorem d_B_derate_47 : decode c_B_derate 47 = .ok (.lmul, 1) := by decide +kernel
theorem d_B_derate_48 : decode c_B_derate 48 = .ok (.lload 5, 2) := by decide +kernel
theorem d_B_derate_50 : decode c_B_derate 50 = .ok (.iload 7, 2) := by decide +kernel
theorem d_B_derate_52 : decode c_B_derate 52 = .ok (.i2l, 1) := by decide +kernel
theorem d_B_derate_53 : decode c_B_derate 53 = .ok (.lmul, 1) := by decide +kernel
theorem d_B_derate_54 : decode c_B_derate 54 = .ok (.invokevirtual 108, 3) := by decide +kernel
theorem d_B_derate_57 : decode c_B_derate 57 = .ok (.ifCond .lt 7, 3) := by decide +kernel
theorem d_B_derate_60 : decode c_B_derate 60 = .ok (.iconst 1, 1) := by decide +kernel
theorem d_B_derate_61 : decode c_B_derate 61 = .ok (.goto 4, 3) := by decide +kernel
theorem d_B_derate_64 : decode c_B_derate 64 = .ok (.iconst 0, 1) := by decide +kernel
theorem d_B_derate_65 : decode c_B_derate 65 = .ok (.ireturn, 1) := by decide +kernel
theorem d_B_found_0 : decode c_B_found 0 = .ok (.iload_n 1, 1) := by decide +kernel
theorem d_B_found_1 : decode c_B_found 1 = .ok (.ifCond .lt 20, 3) := by decide +kernel
theorem d_B_found_4 : decode c_B_found 4 = .ok (.iload_n 1, 1) := by decide +kernel
theorem d_B_found_5 : decode c_B_found 5 = .ok (.aload_n 0, 1) := by decide +kernel
theorem d_B_found_6 : decode c_B_found 6 = .ok (.getfield 47, 3) := by decide +kernel
theorem d_B_found_9 : decode c_B_found 9 = .ok (.if_icmp .ge 12, 3) := by decide +kernel
theorem d_B_found_12 : decode c_B_found 12 = .ok (.aload_n 0, 1) := by decide +kernel
theorem d_B_found_13 : decode c_B_found 13 = .ok (.getfield 44, 3) := by decide +kernel
theorem d_B_found_16 : decode c_B_found 16 = .ok (.iload_n 1, 1) := by decide +kernel
theorem d_B_found_17 : decode c_B_found 17 = .ok (.iaload, 1) := by decide +kernel
theorem d_B_found_18 : decode c_B_found 18 = .ok (.goto 4, 3) := by decide +kernel
theorem d_B_found_21 : decode c_B_found 21 = .ok (.iconst (-1), 1) := by decide +kernel
theorem d_B_found_22 : decode c_B_found 22 = .ok (.ireturn, 1) := by decide +kernel
theorem d_B_goesBefore_0 : decode c_B_goesBefore 0 = .ok (.iload_n 3, 1) := by decide +kernel
theorem d_B_goesBefore_1 : decode c_B_goesBefore 1 = .ok (.iconst (-1), 1) := by decide +kernel
theorem d_B_goesBefore_2 : decode c_B_goesBefore 2 = .ok (.if_icmp .eq 38, 3) := by decide +kernel
theorem d_B_goesBefore_5 : decode c_B_goesBefore 5 = .ok (.aload_n 1, 1) := by decide +kernel
theorem d_B_goesBefore_6 : decode c_B_goesBefore 6 = .ok (.iload_n 3, 1) := by decide +kernel
theorem d_B_goesBefore_7 : decode c_B_goesBefore 7 = .ok (.aload_n 2, 1) := by decide +kernel
theorem d_B_goesBefore_8 : decode c_B_goesBefore 8 = .ok (.getfield 92, 3) := by decide +kernel
theorem d_B_goesBefore_11 : decode c_B_goesBefore 11 = .ok (.iload_n 3, 1) := by decide +kernel
theorem d_B_goesBefore_12 : decode c_B_goesBefore 12 = .ok (.laload, 1) := by decide +kernel
theorem d_B_goesBefore_13 : decode c_B_goesBefore 13 = .ok (.aload_n 2, 1) := by decide +kernel
theorem d_B_goesBefore_14 : decode c_B_goesBefore 14 = .ok (.getfield 95, 3) := by decide +kernel
theorem d_B_goesBefore_17 : decode c_B_goesBefore 17 = .ok (.iload_n 3, 1) := by decide +kernel
theorem d_B_goesBefore_18 : decode c_B_goesBefore 18 = .ok (.laload, 1) := by decide +kernel
theorem d_B_goesBefore_19 : decode c_B_goesBefore 19 = .ok (.invokevirtual 108, 3) := by decide +kernel
theorem d_B_goesBefore_22 : decode c_B_goesBefore 22 = .ok (.istore 4, 2) := by decide +kernel
theorem d_B_goesBefore_24 : decode c_B_goesBefore 24 = .ok (.iload 4, 2) := by decide +kernel
theorem d_B_goesBefore_26 : decode c_B_goesBefore 26 = .ok (.ifCond .eq 14, 3) := by decide +kernel
theorem d_B_goesBefore_29 : decode c_B_goesBefore 29 = .ok (.iload 4, 2) := by decide +kernel
theorem d_B_goesBefore_31 : decode c_B_goesBefore 31 = .ok (.ifCond .ge 7, 3) := by decide +kernel
theorem d_B_goesBefore_34 : decode c_B_goesBefore 34 = .ok (.iconst 1, 1) := by decide +kernel
theorem d_B_goesBefore_35 : decode c_B_goesBefore 35 = .ok (.goto 4, 3) := by decide +kernel
theorem d_B_goesBefore_38 : decode c_B_goesBefore 38 = .ok (.iconst 0, 1) := by decide +kernel
theorem d_B_goesBefore_39 : decode c_B_goesBefore 39 = .ok (.ireturn, 1) := by decide +kernel
theorem d_B_goesBefore_40 : decode c_B_goesBefore 40 = .ok (.aload_n 0, 1) := by decide +kernel
theorem d_B_goesBefore_41 : decode c_B_goesBefore 41 = .ok (.aload_n 1, 1) := by decide +kernel
theorem d_B_goesBefore_42 : decode c_B_goesBefore 42 = .ok (.aload_n 2, 1) := by decide +kernel
theorem d_B_goesBefore_43 : decode c_B_goesBefore 43 = .ok (.invokevirtual 189, 3) := by decide +kernel
theorem d_B_goesBefore_46 : decode c_B_goesBefore 46 = .ok (.ireturn, 1) := by decide +kernel
theorem d_B_init_0 : decode c_B_init 0 = .ok (.aload_n 0, 1) := by decide +kernel
theorem d_B_init_1 : decode c_B_init 1 = .ok (.invokespecial 1, 3) := by decide +kernel
theorem d_B_init_4 : decode c_B_init 4 = .ok (.aload_n 0, 1) := by decide +kernel
theorem d_B_init_5 : decode c_B_init 5 = .ok (.bipush 40, 2) := by decide +kernel
theorem d_B_init_7 : decode c_B_init 7 = .ok (.anewarray 9, 3) := by decide +kernel
theorem d_B_init_10 : decode c_B_init 10 = .ok (.putfield 11, 3) := by decide +kernel
theorem d_B_init_13 : decode c_B_init 13 = .ok (.aload_n 0, 1) := by decide +kernel
theorem d_B_init_14 : decode c_B_init 14 = .ok (.iconst 0, 1) := by decide +kernel
theorem d_B_init_15 : decode c_B_init 15 = .ok (.putfield 15, 3) := by decide +kernel
theorem d_B_init_18 : decode c_B_init 18 = .ok (.aload_n 0, 1) := by decide +kernel
theorem d_B_init_19 : decode c_B_init 19 = .ok (.bipush 16, 2) := by decide +kernel
theorem d_B_init_21 : decode c_B_init 21 = .ok (.newarray .int, 2) := by decide +kernel
theorem d_B_init_23 : decode c_B_init 23 = .ok (.putfield 19, 3) := by decide +kernel
theorem d_B_init_26 : decode c_B_init 26 = .ok (.aload_n 0, 1) := by decide +kernel
theorem d_B_init_27 : decode c_B_init 27 = .ok (.getfield 19, 3) := by decide +kernel
theorem d_B_init_30 : decode c_B_init 30 = .ok (.bipush 50, 2) := by decide +kernel
theorem d_B_init_32 : decode c_B_init 32 = .ok (.invokestatic 23, 3) := by decide +kernel
theorem d_B_init_35 : decode c_B_init 35 = .ok (.aload_n 0, 1) := by decide +kernel
theorem d_B_init_36 : decode c_B_init 36 = .ok (.bipush 120, 2) := by decide +kernel
theorem d_B_init_38 : decode c_B_init 38 = .ok (.newarray .int, 2) := by decide +kernel
theorem d_B_init_40 : decode c_B_init 40 = .ok (.putfield 29, 3) := by decide +kernel
theorem d_B_init_43 : decode c_B_init 43 = .ok (.aload_n 0, 1) := by decide +kernel
theorem d_B_init_44 : decode c_B_init 44 = .ok (.getfield 29, 3) := by decide +kernel
theorem d_B_init_47 : decode c_B_init 47 = .ok (.iconst (-1), 1) := by decide +kernel
theorem d_B_init_48 : decode c_B_init 48 = .ok (.invokestatic 23, 3) := by decide +kernel
theorem d_B_init_51 : decode c_B_init 51 = .ok (.aload_n 0, 1) := by decide +kernel
theorem d_B_init_52 : decode c_B_init 52 = .ok (.iconst 0, 1) := by decide +kernel
theorem d_B_init_53 : decode c_B_init 53 = .ok (.putfield 32, 3) := by decide +kernel
