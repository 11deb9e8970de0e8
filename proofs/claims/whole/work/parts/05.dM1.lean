theorem d_M_alternates_0 : decode c_M_alternates 0 = .ok (.aload_n 0, 1) := by decide +kernel
theorem d_M_alternates_1 : decode c_M_alternates 1 = .ok (.aload_n 0, 1) := by decide +kernel
theorem d_M_alternates_2 : decode c_M_alternates 2 = .ok (.iload_n 1, 1) := by decide +kernel
theorem d_M_alternates_3 : decode c_M_alternates 3 = .ok (.invokevirtual 91, 3) := by decide +kernel
theorem d_M_alternates_6 : decode c_M_alternates 6 = .ok (.ifCond .eq 15, 3) := by decide +kernel
theorem d_M_alternates_9 : decode c_M_alternates 9 = .ok (.aload_n 0, 1) := by decide +kernel
theorem d_M_alternates_10 : decode c_M_alternates 10 = .ok (.iload_n 2, 1) := by decide +kernel
theorem d_M_alternates_11 : decode c_M_alternates 11 = .ok (.invokevirtual 112, 3) := by decide +kernel
theorem d_M_alternates_14 : decode c_M_alternates 14 = .ok (.ifCond .eq 7, 3) := by decide +kernel
theorem d_M_alternates_17 : decode c_M_alternates 17 = .ok (.iconst 0, 1) := by decide +kernel
theorem d_M_alternates_18 : decode c_M_alternates 18 = .ok (.goto 4, 3) := by decide +kernel
theorem d_M_alternates_21 : decode c_M_alternates 21 = .ok (.iconst 1, 1) := by decide +kernel
theorem d_M_alternates_22 : decode c_M_alternates 22 = .ok (.putfield 68, 3) := by decide +kernel
theorem d_M_alternates_25 : decode c_M_alternates 25 = .ok (.aload_n 0, 1) := by decide +kernel
theorem d_M_alternates_26 : decode c_M_alternates 26 = .ok (.getfield 68, 3) := by decide +kernel
theorem d_M_alternates_29 : decode c_M_alternates 29 = .ok (.ifCond .eq 5, 3) := by decide +kernel
theorem d_M_alternates_32 : decode c_M_alternates 32 = .ok (.iconst 0, 1) := by decide +kernel
theorem d_M_alternates_33 : decode c_M_alternates 33 = .ok (.ireturn, 1) := by decide +kernel
theorem d_M_alternates_34 : decode c_M_alternates 34 = .ok (.aload_n 0, 1) := by decide +kernel
theorem d_M_alternates_35 : decode c_M_alternates 35 = .ok (.iconst 0, 1) := by decide +kernel
theorem d_M_alternates_36 : decode c_M_alternates 36 = .ok (.putfield 119, 3) := by decide +kernel
theorem d_M_alternates_39 : decode c_M_alternates 39 = .ok (.iconst 0, 1) := by decide +kernel
theorem d_M_alternates_40 : decode c_M_alternates 40 = .ok (.istore_n 3, 1) := by decide +kernel
theorem d_M_alternates_41 : decode c_M_alternates 41 = .ok (.iload_n 3, 1) := by decide +kernel
theorem d_M_alternates_42 : decode c_M_alternates 42 = .ok (.aload_n 0, 1) := by decide +kernel
theorem d_M_alternates_43 : decode c_M_alternates 43 = .ok (.getfield 72, 3) := by decide +kernel
theorem d_M_alternates_46 : decode c_M_alternates 46 = .ok (.if_icmp .ge 25, 3) := by decide +kernel
theorem d_M_alternates_49 : decode c_M_alternates 49 = .ok (.aload_n 0, 1) := by decide +kernel
theorem d_M_alternates_50 : decode c_M_alternates 50 = .ok (.iload_n 3, 1) := by decide +kernel
theorem d_M_alternates_51 : decode c_M_alternates 51 = .ok (.iload_n 1, 1) := by decide +kernel
theorem d_M_alternates_52 : decode c_M_alternates 52 = .ok (.iload_n 2, 1) := by decide +kernel
theorem d_M_alternates_53 : decode c_M_alternates 53 = .ok (.invokevirtual 125, 3) := by decide +kernel
theorem d_M_alternates_56 : decode c_M_alternates 56 = .ok (.ifCond .eq 9, 3) := by decide +kernel
theorem d_M_alternates_59 : decode c_M_alternates 59 = .ok (.aload_n 0, 1) := by decide +kernel
theorem d_M_alternates_60 : decode c_M_alternates 60 = .ok (.iload_n 3, 1) := by decide +kernel
theorem d_M_alternates_61 : decode c_M_alternates 61 = .ok (.iconst (-1), 1) := by decide +kernel
theorem d_M_alternates_62 : decode c_M_alternates 62 = .ok (.invokevirtual 129, 3) := by decide +kernel
theorem d_M_alternates_65 : decode c_M_alternates 65 = .ok (.iinc 3 1, 3) := by decide +kernel
theorem d_M_alternates_68 : decode c_M_alternates 68 = .ok (.goto (-27), 3) := by decide +kernel
theorem d_M_alternates_71 : decode c_M_alternates 71 = .ok (.aload_n 0, 1) := by decide +kernel
theorem d_M_alternates_72 : decode c_M_alternates 72 = .ok (.getfield 119, 3) := by decide +kernel
theorem d_M_alternates_75 : decode c_M_alternates 75 = .ok (.ireturn, 1) := by decide +kernel
theorem d_M_ask_0 : decode c_M_ask 0 = .ok (.aload_n 0, 1) := by decide +kernel
theorem d_M_ask_1 : decode c_M_ask 1 = .ok (.aload_n 0, 1) := by decide +kernel
theorem d_M_ask_2 : decode c_M_ask 2 = .ok (.iload_n 1, 1) := by decide +kernel
theorem d_M_ask_3 : decode c_M_ask 3 = .ok (.invokevirtual 112, 3) := by decide +kernel
theorem d_M_ask_6 : decode c_M_ask 6 = .ok (.ifCond .eq 10, 3) := by decide +kernel
theorem d_M_ask_9 : decode c_M_ask 9 = .ok (.iload_n 2, 1) := by decide +kernel
theorem d_M_ask_10 : decode c_M_ask 10 = .ok (.invokestatic 95, 3) := by decide +kernel
theorem d_M_ask_13 : decode c_M_ask 13 = .ok (.ifCond .ne 7, 3) := by decide +kernel
theorem d_M_ask_16 : decode c_M_ask 16 = .ok (.iconst 1, 1) := by decide +kernel
theorem d_M_ask_17 : decode c_M_ask 17 = .ok (.goto 18, 3) := by decide +kernel
theorem d_M_ask_20 : decode c_M_ask 20 = .ok (.iload_n 3, 1) := by decide +kernel
theorem d_M_ask_21 : decode c_M_ask 21 = .ok (.iconst (-1), 1) := by decide +kernel
theorem d_M_ask_22 : decode c_M_ask 22 = .ok (.if_icmp .lt 8, 3) := by decide +kernel
theorem d_M_ask_25 : decode c_M_ask 25 = .ok (.iload_n 3, 1) := by decide +kernel
theorem d_M_ask_26 : decode c_M_ask 26 = .ok (.iconst 2, 1) := by decide +kernel
theorem d_M_ask_27 : decode c_M_ask 27 = .ok (.if_icmp .le 7, 3) := by decide +kernel
theorem d_M_ask_30 : decode c_M_ask 30 = .ok (.iconst 2, 1) := by decide +kernel
theorem d_M_ask_31 : decode c_M_ask 31 = .ok (.goto 4, 3) := by decide +kernel
theorem d_M_ask_34 : decode c_M_ask 34 = .ok (.iconst 0, 1) := by decide +kernel
theorem d_M_ask_35 : decode c_M_ask 35 = .ok (.putfield 68, 3) := by decide +kernel
theorem d_M_ask_38 : decode c_M_ask 38 = .ok (.aload_n 0, 1) := by decide +kernel
theorem d_M_ask_39 : decode c_M_ask 39 = .ok (.getfield 68, 3) := by decide +kernel
theorem d_M_ask_42 : decode c_M_ask 42 = .ok (.ifCond .ne 20, 3) := by decide +kernel
theorem d_M_ask_45 : decode c_M_ask 45 = .ok (.aload_n 0, 1) := by decide +kernel
theorem d_M_ask_46 : decode c_M_ask 46 = .ok (.getfield 23, 3) := by decide +kernel
theorem d_M_ask_49 : decode c_M_ask 49 = .ok (.bipush 12, 2) := by decide +kernel
theorem d_M_ask_51 : decode c_M_ask 51 = .ok (.iload_n 1, 1) := by decide +kernel
theorem d_M_ask_52 : decode c_M_ask 52 = .ok (.imul, 1) := by decide +kernel
theorem d_M_ask_53 : decode c_M_ask 53 = .ok (.iload_n 2, 1) := by decide +kernel
theorem d_M_ask_54 : decode c_M_ask 54 = .ok (.iadd, 1) := by decide +kernel
theorem d_M_ask_55 : decode c_M_ask 55 = .ok (.iaload, 1) := by decide +kernel
theorem d_M_ask_56 : decode c_M_ask 56 = .ok (.iload_n 3, 1) := by decide +kernel
theorem d_M_ask_57 : decode c_M_ask 57 = .ok (.iconst 1, 1) := by decide +kernel
theorem d_M_ask_58 : decode c_M_ask 58 = .ok (.iadd, 1) := by decide +kernel
theorem d_M_ask_59 : decode c_M_ask 59 = .ok (.if_icmp .ne 5, 3) := by decide +kernel
theorem d_M_ask_62 : decode c_M_ask 62 = .ok (.iconst 0, 1) := by decide +kernel
theorem d_M_ask_63 : decode c_M_ask 63 = .ok (.ireturn, 1) := by decide +kernel
theorem d_M_ask_64 : decode c_M_ask 64 = .ok (.aload_n 0, 1) := by decide +kernel
theorem d_M_ask_65 : decode c_M_ask 65 = .ok (.getfield 23, 3) := by decide +kernel
theorem d_M_ask_68 : decode c_M_ask 68 = .ok (.bipush 12, 2) := by decide +kernel
theorem d_M_ask_70 : decode c_M_ask 70 = .ok (.iload_n 1, 1) := by decide +kernel
theorem d_M_ask_71 : decode c_M_ask 71 = .ok (.imul, 1) := by decide +kernel
theorem d_M_ask_72 : decode c_M_ask 72 = .ok (.iload_n 2, 1) := by decide +kernel
theorem d_M_ask_73 : decode c_M_ask 73 = .ok (.iadd, 1) := by decide +kernel
theorem d_M_ask_74 : decode c_M_ask 74 = .ok (.iload_n 3, 1) := by decide +kernel
theorem d_M_ask_75 : decode c_M_ask 75 = .ok (.iconst 1, 1) := by decide +kernel
theorem d_M_ask_76 : decode c_M_ask 76 = .ok (.iadd, 1) := by decide +kernel
theorem d_M_ask_77 : decode c_M_ask 77 = .ok (.iastore, 1) := by decide +kernel
theorem d_M_ask_78 : decode c_M_ask 78 = .ok (.iconst 1, 1) := by decide +kernel
theorem d_M_ask_79 : decode c_M_ask 79 = .ok (.ireturn, 1) := by decide +kernel
theorem d_M_best_0 : decode c_M_best 0 = .ok (.aload_n 0, 1) := by decide +kernel
theorem d_M_best_1 : decode c_M_best 1 = .ok (.aload_n 0, 1) := by decide +kernel
theorem d_M_best_2 : decode c_M_best 2 = .ok (.iload_n 1, 1) := by decide +kernel
theorem d_M_best_3 : decode c_M_best 3 = .ok (.invokevirtual 91, 3) := by decide +kernel
theorem d_M_best_6 : decode c_M_best 6 = .ok (.ifCond .ne 7, 3) := by decide +kernel
theorem d_M_best_9 : decode c_M_best 9 = .ok (.iconst 1, 1) := by decide +kernel
theorem d_M_best_10 : decode c_M_best 10 = .ok (.goto 15, 3) := by decide +kernel
theorem d_M_best_13 : decode c_M_best 13 = .ok (.iload_n 2, 1) := by decide +kernel
theorem d_M_best_14 : decode c_M_best 14 = .ok (.invokestatic 148, 3) := by decide +kernel
theorem d_M_best_17 : decode c_M_best 17 = .ok (.ifCond .eq 7, 3) := by decide +kernel
theorem d_M_best_20 : decode c_M_best 20 = .ok (.iconst 0, 1) := by decide +kernel
theorem d_M_best_21 : decode c_M_best 21 = .ok (.goto 4, 3) := by decide +kernel
theorem d_M_best_24 : decode c_M_best 24 = .ok (.iconst 2, 1) := by decide +kernel
theorem d_M_best_25 : decode c_M_best 25 = .ok (.putfield 68, 3) := by decide +kernel
theorem d_M_best_28 : decode c_M_best 28 = .ok (.aload_n 0, 1) := by decide +kernel
theorem d_M_best_29 : decode c_M_best 29 = .ok (.getfield 68, 3) := by decide +kernel
theorem d_M_best_32 : decode c_M_best 32 = .ok (.ifCond .eq 7, 3) := by decide +kernel
theorem d_M_best_35 : decode c_M_best 35 = .ok (.iconst 0, 1) := by decide +kernel
theorem d_M_best_36 : decode c_M_best 36 = .ok (.goto 9, 3) := by decide +kernel
theorem d_M_best_39 : decode c_M_best 39 = .ok (.aload_n 0, 1) := by decide +kernel
theorem d_M_best_40 : decode c_M_best 40 = .ok (.iload_n 1, 1) := by decide +kernel
theorem d_M_best_41 : decode c_M_best 41 = .ok (.iload_n 2, 1) := by decide +kernel
theorem d_M_best_42 : decode c_M_best 42 = .ok (.invokevirtual 151, 3) := by decide +kernel
theorem d_M_best_45 : decode c_M_best 45 = .ok (.ireturn, 1) := by decide +kernel
theorem d_M_bestOf_0 : decode c_M_bestOf 0 = .ok (.aload_n 0, 1) := by decide +kernel
theorem d_M_bestOf_1 : decode c_M_bestOf 1 = .ok (.iload_n 1, 1) := by decide +kernel
theorem d_M_bestOf_2 : decode c_M_bestOf 2 = .ok (.invokevirtual 136, 3) := by decide +kernel
theorem d_M_bestOf_5 : decode c_M_bestOf 5 = .ok (.iconst (-1), 1) := by decide +kernel
theorem d_M_bestOf_6 : decode c_M_bestOf 6 = .ok (.istore_n 3, 1) := by decide +kernel
theorem d_M_bestOf_7 : decode c_M_bestOf 7 = .ok (.aload_n 0, 1) := by decide +kernel
theorem d_M_bestOf_8 : decode c_M_bestOf 8 = .ok (.ldc2_w 82, 3) := by decide +kernel
theorem d_M_bestOf_11 : decode c_M_bestOf 11 = .ok (.putfield 140, 3) := by decide +kernel
theorem d_M_bestOf_14 : decode c_M_bestOf 14 = .ok (.iload_n 2, 1) := by decide +kernel
theorem d_M_bestOf_15 : decode c_M_bestOf 15 = .ok (.istore 4, 2) := by decide +kernel
theorem d_M_bestOf_17 : decode c_M_bestOf 17 = .ok (.iload 4, 2) := by decide +kernel
theorem d_M_bestOf_19 : decode c_M_bestOf 19 = .ok (.aload_n 0, 1) := by decide +kernel
theorem d_M_bestOf_20 : decode c_M_bestOf 20 = .ok (.getfield 50, 3) := by decide +kernel
theorem d_M_bestOf_23 : decode c_M_bestOf 23 = .ok (.iload_n 1, 1) := by decide +kernel
theorem d_M_bestOf_24 : decode c_M_bestOf 24 = .ok (.iaload, 1) := by decide +kernel
theorem d_M_bestOf_25 : decode c_M_bestOf 25 = .ok (.if_icmp .gt 74, 3) := by decide +kernel
theorem d_M_bestOf_28 : decode c_M_bestOf 28 = .ok (.aload_n 0, 1) := by decide +kernel
theorem d_M_bestOf_29 : decode c_M_bestOf 29 = .ok (.getfield 62, 3) := by decide +kernel
theorem d_M_bestOf_32 : decode c_M_bestOf 32 = .ok (.iload 4, 2) := by decide +kernel
theorem d_M_bestOf_34 : decode c_M_bestOf 34 = .ok (.baload, 1) := by decide +kernel
theorem d_M_bestOf_35 : decode c_M_bestOf 35 = .ok (.ifCond .eq 13, 3) := by decide +kernel
theorem d_M_bestOf_38 : decode c_M_bestOf 38 = .ok (.aload_n 0, 1) := by decide +kernel
theorem d_M_bestOf_39 : decode c_M_bestOf 39 = .ok (.iload_n 1, 1) := by decide +kernel
theorem d_M_bestOf_40 : decode c_M_bestOf 40 = .ok (.iload 4, 2) := by decide +kernel
theorem d_M_bestOf_42 : decode c_M_bestOf 42 = .ok (.invokevirtual 144, 3) := by decide +kernel
theorem d_M_bestOf_45 : decode c_M_bestOf 45 = .ok (.goto 4, 3) := by decide +kernel
theorem d_M_bestOf_48 : decode c_M_bestOf 48 = .ok (.lconst 0, 1) := by decide +kernel
theorem d_M_bestOf_49 : decode c_M_bestOf 49 = .ok (.lstore 5, 2) := by decide +kernel
theorem d_M_bestOf_51 : decode c_M_bestOf 51 = .ok (.lload 5, 2) := by decide +kernel
theorem d_M_bestOf_53 : decode c_M_bestOf 53 = .ok (.lconst 0, 1) := by decide +kernel
theorem d_M_bestOf_54 : decode c_M_bestOf 54 = .ok (.lcmp, 1) := by decide +kernel
theorem d_M_bestOf_55 : decode c_M_bestOf 55 = .ok (.ifCond .ne 6, 3) := by decide +kernel
theorem d_M_bestOf_58 : decode c_M_bestOf 58 = .ok (.goto 35, 3) := by decide +kernel
theorem d_M_bestOf_61 : decode c_M_bestOf 61 = .ok (.lload 5, 2) := by decide +kernel
theorem d_M_bestOf_63 : decode c_M_bestOf 63 = .ok (.iload 4, 2) := by decide +kernel
theorem d_M_bestOf_65 : decode c_M_bestOf 65 = .ok (.i2l, 1) := by decide +kernel
theorem d_M_bestOf_66 : decode c_M_bestOf 66 = .ok (.lmul, 1) := by decide +kernel
theorem d_M_bestOf_67 : decode c_M_bestOf 67 = .ok (.lstore 7, 2) := by decide +kernel
theorem d_M_bestOf_69 : decode c_M_bestOf 69 = .ok (.iload_n 3, 1) := by decide +kernel
theorem d_M_bestOf_70 : decode c_M_bestOf 70 = .ok (.iconst (-1), 1) := by decide +kernel
theorem d_M_bestOf_71 : decode c_M_bestOf 71 = .ok (.if_icmp .eq 13, 3) := by decide +kernel
theorem d_M_bestOf_74 : decode c_M_bestOf 74 = .ok (.lload 7, 2) := by decide +kernel
theorem d_M_bestOf_76 : decode c_M_bestOf 76 = .ok (.aload_n 0, 1) := by decide +kernel
theorem d_M_bestOf_77 : decode c_M_bestOf 77 = .ok (.getfield 140, 3) := by decide +kernel
theorem d_M_bestOf_80 : decode c_M_bestOf 80 = .ok (.lcmp, 1) := by decide +kernel
theorem d_M_bestOf_81 : decode c_M_bestOf 81 = .ok (.ifCond .ge 12, 3) := by decide +kernel
theorem d_M_bestOf_84 : decode c_M_bestOf 84 = .ok (.iload 4, 2) := by decide +kernel
theorem d_M_bestOf_86 : decode c_M_bestOf 86 = .ok (.istore_n 3, 1) := by decide +kernel
theorem d_M_bestOf_87 : decode c_M_bestOf 87 = .ok (.aload_n 0, 1) := by decide +kernel
theorem d_M_bestOf_88 : decode c_M_bestOf 88 = .ok (.lload 7, 2) := by decide +kernel
theorem d_M_bestOf_90 : decode c_M_bestOf 90 = .ok (.putfield 140, 3) := by decide +kernel
theorem d_M_bestOf_93 : decode c_M_bestOf 93 = .ok (.iinc 4 1, 3) := by decide +kernel
theorem d_M_bestOf_96 : decode c_M_bestOf 96 = .ok (.goto (-79), 3) := by decide +kernel
theorem d_M_bestOf_99 : decode c_M_bestOf 99 = .ok (.iload_n 3, 1) := by decide +kernel
theorem d_M_bestOf_100 : decode c_M_bestOf 100 = .ok (.ireturn, 1) := by decide +kernel
theorem d_M_buy_0 : decode c_M_buy 0 = .ok (.aload_n 0, 1) := by decide +kernel
theorem d_M_buy_1 : decode c_M_buy 1 = .ok (.aload_n 0, 1) := by decide +kernel
theorem d_M_buy_2 : decode c_M_buy 2 = .ok (.iload_n 1, 1) := by decide +kernel
theorem d_M_buy_3 : decode c_M_buy 3 = .ok (.iload_n 2, 1) := by decide +kernel
theorem d_M_buy_4 : decode c_M_buy 4 = .ok (.iload_n 3, 1) := by decide +kernel
theorem d_M_buy_5 : decode c_M_buy 5 = .ok (.invokevirtual 162, 3) := by decide +kernel
theorem d_M_buy_8 : decode c_M_buy 8 = .ok (.putfield 68, 3) := by decide +kernel
theorem d_M_buy_11 : decode c_M_buy 11 = .ok (.aload_n 0, 1) := by decide +kernel
theorem d_M_buy_12 : decode c_M_buy 12 = .ok (.getfield 68, 3) := by decide +kernel
theorem d_M_buy_15 : decode c_M_buy 15 = .ok (.ifCond .eq 5, 3) := by decide +kernel
theorem d_M_buy_18 : decode c_M_buy 18 = .ok (.iconst 0, 1) := by decide +kernel
theorem d_M_buy_19 : decode c_M_buy 19 = .ok (.ireturn, 1) := by decide +kernel
theorem d_M_buy_20 : decode c_M_buy 20 = .ok (.aload_n 0, 1) := by decide +kernel
theorem d_M_buy_21 : decode c_M_buy 21 = .ok (.iload_n 1, 1) := by decide +kernel
theorem d_M_buy_22 : decode c_M_buy 22 = .ok (.iload_n 2, 1) := by decide +kernel
theorem d_M_buy_23 : decode c_M_buy 23 = .ok (.iload_n 3, 1) := by decide +kernel
theorem d_M_buy_24 : decode c_M_buy 24 = .ok (.lload 4, 2) := by decide +kernel
theorem d_M_buy_26 : decode c_M_buy 26 = .ok (.invokevirtual 165, 3) := by decide +kernel
theorem d_M_buy_29 : decode c_M_buy 29 = .ok (.istore 6, 2) := by decide +kernel
theorem d_M_buy_31 : decode c_M_buy 31 = .ok (.iload 6, 2) := by decide +kernel
theorem d_M_buy_33 : decode c_M_buy 33 = .ok (.iconst (-1), 1) := by decide +kernel
theorem d_M_buy_34 : decode c_M_buy 34 = .ok (.if_icmp .ne 5, 3) := by decide +kernel
theorem d_M_buy_37 : decode c_M_buy 37 = .ok (.iconst (-1), 1) := by decide +kernel
theorem d_M_buy_38 : decode c_M_buy 38 = .ok (.ireturn, 1) := by decide +kernel
theorem d_M_buy_39 : decode c_M_buy 39 = .ok (.aload_n 0, 1) := by decide +kernel
theorem d_M_buy_40 : decode c_M_buy 40 = .ok (.getfield 50, 3) := by decide +kernel
theorem d_M_buy_43 : decode c_M_buy 43 = .ok (.iload 6, 2) := by decide +kernel
theorem d_M_buy_45 : decode c_M_buy 45 = .ok (.dup2, 1) := by decide +kernel
theorem d_M_buy_46 : decode c_M_buy 46 = .ok (.iaload, 1) := by decide +kernel
theorem d_M_buy_47 : decode c_M_buy 47 = .ok (.aload_n 0, 1) := by decide +kernel
theorem d_M_buy_48 : decode c_M_buy 48 = .ok (.getfield 159, 3) := by decide +kernel
theorem d_M_buy_51 : decode c_M_buy 51 = .ok (.isub, 1) := by decide +kernel
theorem d_M_buy_52 : decode c_M_buy 52 = .ok (.iastore, 1) := by decide +kernel
theorem d_M_buy_53 : decode c_M_buy 53 = .ok (.aload_n 0, 1) := by decide +kernel
theorem d_M_buy_54 : decode c_M_buy 54 = .ok (.getfield 159, 3) := by decide +kernel
theorem d_M_buy_57 : decode c_M_buy 57 = .ok (.ireturn, 1) := by decide +kernel
theorem d_M_choose_0 : decode c_M_choose 0 = .ok (.aload_n 0, 1) := by decide +kernel
theorem d_M_choose_1 : decode c_M_choose 1 = .ok (.aload_n 0, 1) := by decide +kernel
theorem d_M_choose_2 : decode c_M_choose 2 = .ok (.iload_n 1, 1) := by decide +kernel
theorem d_M_choose_3 : decode c_M_choose 3 = .ok (.iload_n 2, 1) := by decide +kernel
theorem d_M_choose_4 : decode c_M_choose 4 = .ok (.iload_n 3, 1) := by decide +kernel
theorem d_M_choose_5 : decode c_M_choose 5 = .ok (.invokevirtual 162, 3) := by decide +kernel
theorem d_M_choose_8 : decode c_M_choose 8 = .ok (.putfield 68, 3) := by decide +kernel
theorem d_M_choose_11 : decode c_M_choose 11 = .ok (.aload_n 0, 1) := by decide +kernel
theorem d_M_choose_12 : decode c_M_choose 12 = .ok (.getfield 68, 3) := by decide +kernel
theorem d_M_choose_15 : decode c_M_choose 15 = .ok (.ifCond .ne 15, 3) := by decide +kernel
theorem d_M_choose_18 : decode c_M_choose 18 = .ok (.aload_n 0, 1) := by decide +kernel
theorem d_M_choose_19 : decode c_M_choose 19 = .ok (.iload_n 1, 1) := by decide +kernel
theorem d_M_choose_20 : decode c_M_choose 20 = .ok (.iload_n 2, 1) := by decide +kernel
theorem d_M_choose_21 : decode c_M_choose 21 = .ok (.iload_n 3, 1) := by decide +kernel
theorem d_M_choose_22 : decode c_M_choose 22 = .ok (.lload 4, 2) := by decide +kernel
theorem d_M_choose_24 : decode c_M_choose 24 = .ok (.invokevirtual 165, 3) := by decide +kernel
theorem d_M_choose_27 : decode c_M_choose 27 = .ok (.goto 4, 3) := by decide +kernel
theorem d_M_choose_30 : decode c_M_choose 30 = .ok (.iconst 0, 1) := by decide +kernel
theorem d_M_choose_31 : decode c_M_choose 31 = .ok (.ireturn, 1) := by decide +kernel
theorem d_M_chosen_0 : decode c_M_chosen 0 = .ok (.iconst (-1), 1) := by decide +kernel
theorem d_M_chosen_1 : decode c_M_chosen 1 = .ok (.istore 6, 2) := by decide +kernel
theorem d_M_chosen_3 : decode c_M_chosen 3 = .ok (.lconst 0, 1) := by decide +kernel
theorem d_M_chosen_4 : decode c_M_chosen 4 = .ok (.lstore 7, 2) := by decide +kernel
theorem d_M_chosen_6 : decode c_M_chosen 6 = .ok (.aload_n 0, 1) := by decide +kernel
theorem d_M_chosen_7 : decode c_M_chosen 7 = .ok (.iconst (-1), 1) := by decide +kernel
theorem d_M_chosen_8 : decode c_M_chosen 8 = .ok (.putfield 159, 3) := by decide +kernel
theorem d_M_chosen_11 : decode c_M_chosen 11 = .ok (.iconst 0, 1) := by decide +kernel
theorem d_M_chosen_12 : decode c_M_chosen 12 = .ok (.istore 9, 2) := by decide +kernel
theorem d_M_chosen_14 : decode c_M_chosen 14 = .ok (.iload 9, 2) := by decide +kernel
theorem d_M_chosen_16 : decode c_M_chosen 16 = .ok (.aload_n 0, 1) := by decide +kernel
theorem d_M_chosen_17 : decode c_M_chosen 17 = .ok (.getfield 72, 3) := by decide +kernel
theorem d_M_chosen_20 : decode c_M_chosen 20 = .ok (.if_icmp .ge 158, 3) := by decide +kernel
theorem d_M_chosen_23 : decode c_M_chosen 23 = .ok (.aload_n 0, 1) := by decide +kernel
theorem d_M_chosen_24 : decode c_M_chosen 24 = .ok (.iload 9, 2) := by decide +kernel
theorem d_M_chosen_26 : decode c_M_chosen 26 = .ok (.lload 4, 2) := by decide +kernel
theorem d_M_chosen_28 : decode c_M_chosen 28 = .ok (.invokevirtual 155, 3) := by decide +kernel
theorem d_M_chosen_31 : decode c_M_chosen 31 = .ok (.istore 10, 2) := by decide +kernel
theorem d_M_chosen_33 : decode c_M_chosen 33 = .ok (.iload 10, 2) := by decide +kernel
theorem d_M_chosen_35 : decode c_M_chosen 35 = .ok (.iconst 1, 1) := by decide +kernel
theorem d_M_chosen_36 : decode c_M_chosen 36 = .ok (.if_icmp .eq 9, 3) := by decide +kernel
theorem d_M_chosen_39 : decode c_M_chosen 39 = .ok (.iload 10, 2) := by decide +kernel
theorem d_M_chosen_41 : decode c_M_chosen 41 = .ok (.iconst 2, 1) := by decide +kernel
theorem d_M_chosen_42 : decode c_M_chosen 42 = .ok (.if_icmp .ne 130, 3) := by decide +kernel
theorem d_M_chosen_45 : decode c_M_chosen 45 = .ok (.iload 9, 2) := by decide +kernel
theorem d_M_chosen_47 : decode c_M_chosen 47 = .ok (.iload_n 1, 1) := by decide +kernel
theorem d_M_chosen_48 : decode c_M_chosen 48 = .ok (.if_icmp .eq 17, 3) := by decide +kernel
theorem d_M_chosen_51 : decode c_M_chosen 51 = .ok (.aload_n 0, 1) := by decide +kernel
theorem d_M_chosen_52 : decode c_M_chosen 52 = .ok (.iload 9, 2) := by decide +kernel
theorem d_M_chosen_54 : decode c_M_chosen 54 = .ok (.iload_n 1, 1) := by decide +kernel
theorem d_M_chosen_55 : decode c_M_chosen 55 = .ok (.iload_n 2, 1) := by decide +kernel
theorem d_M_chosen_56 : decode c_M_chosen 56 = .ok (.invokevirtual 125, 3) := by decide +kernel
theorem d_M_chosen_59 : decode c_M_chosen 59 = .ok (.ifCond .ne 6, 3) := by decide +kernel
theorem d_M_chosen_62 : decode c_M_chosen 62 = .ok (.goto 110, 3) := by decide +kernel
theorem d_M_chosen_65 : decode c_M_chosen 65 = .ok (.aload_n 0, 1) := by decide +kernel
theorem d_M_chosen_66 : decode c_M_chosen 66 = .ok (.iload 9, 2) := by decide +kernel
theorem d_M_chosen_68 : decode c_M_chosen 68 = .ok (.iload_n 3, 1) := by decide +kernel
theorem d_M_chosen_69 : decode c_M_chosen 69 = .ok (.invokevirtual 151, 3) := by decide +kernel
theorem d_M_chosen_72 : decode c_M_chosen 72 = .ok (.istore 11, 2) := by decide +kernel
theorem d_M_chosen_74 : decode c_M_chosen 74 = .ok (.iload 11, 2) := by decide +kernel
theorem d_M_chosen_76 : decode c_M_chosen 76 = .ok (.iconst (-1), 1) := by decide +kernel
theorem d_M_chosen_77 : decode c_M_chosen 77 = .ok (.if_icmp .ne 6, 3) := by decide +kernel
theorem d_M_chosen_80 : decode c_M_chosen 80 = .ok (.goto 92, 3) := by decide +kernel
theorem d_M_chosen_83 : decode c_M_chosen 83 = .ok (.iload 6, 2) := by decide +kernel
theorem d_M_chosen_85 : decode c_M_chosen 85 = .ok (.iconst (-1), 1) := by decide +kernel
theorem d_M_chosen_86 : decode c_M_chosen 86 = .ok (.if_icmp .eq 13, 3) := by decide +kernel
theorem d_M_chosen_89 : decode c_M_chosen 89 = .ok (.aload_n 0, 1) := by decide +kernel
theorem d_M_chosen_90 : decode c_M_chosen 90 = .ok (.getfield 140, 3) := by decide +kernel
theorem d_M_chosen_93 : decode c_M_chosen 93 = .ok (.lload 7, 2) := by decide +kernel
theorem d_M_chosen_95 : decode c_M_chosen 95 = .ok (.lcmp, 1) := by decide +kernel
theorem d_M_chosen_96 : decode c_M_chosen 96 = .ok (.ifCond .ge 7, 3) := by decide +kernel
theorem d_M_chosen_99 : decode c_M_chosen 99 = .ok (.iconst 1, 1) := by decide +kernel
theorem d_M_chosen_100 : decode c_M_chosen 100 = .ok (.goto 4, 3) := by decide +kernel
theorem d_M_chosen_103 : decode c_M_chosen 103 = .ok (.iconst 0, 1) := by decide +kernel
theorem d_M_chosen_104 : decode c_M_chosen 104 = .ok (.istore 12, 2) := by decide +kernel
theorem d_M_chosen_106 : decode c_M_chosen 106 = .ok (.iload 12, 2) := by decide +kernel
theorem d_M_chosen_108 : decode c_M_chosen 108 = .ok (.ifCond .ne 43, 3) := by decide +kernel
theorem d_M_chosen_111 : decode c_M_chosen 111 = .ok (.aload_n 0, 1) := by decide +kernel
theorem d_M_chosen_112 : decode c_M_chosen 112 = .ok (.getfield 140, 3) := by decide +kernel
theorem d_M_chosen_115 : decode c_M_chosen 115 = .ok (.lload 7, 2) := by decide +kernel
theorem d_M_chosen_117 : decode c_M_chosen 117 = .ok (.lcmp, 1) := by decide +kernel
theorem d_M_chosen_118 : decode c_M_chosen 118 = .ok (.ifCond .ne 33, 3) := by decide +kernel
theorem d_M_chosen_121 : decode c_M_chosen 121 = .ok (.iload 6, 2) := by decide +kernel
theorem d_M_chosen_123 : decode c_M_chosen 123 = .ok (.iload_n 1, 1) := by decide +kernel
theorem d_M_chosen_124 : decode c_M_chosen 124 = .ok (.if_icmp .eq 24, 3) := by decide +kernel
theorem d_M_chosen_127 : decode c_M_chosen 127 = .ok (.iload 9, 2) := by decide +kernel
theorem d_M_chosen_129 : decode c_M_chosen 129 = .ok (.iload_n 1, 1) := by decide +kernel
theorem d_M_chosen_130 : decode c_M_chosen 130 = .ok (.if_icmp .eq 14, 3) := by decide +kernel
theorem d_M_chosen_133 : decode c_M_chosen 133 = .ok (.aload_n 0, 1) := by decide +kernel
theorem d_M_chosen_134 : decode c_M_chosen 134 = .ok (.iload 9, 2) := by decide +kernel
theorem d_M_chosen_136 : decode c_M_chosen 136 = .ok (.iload 6, 2) := by decide +kernel
theorem d_M_chosen_138 : decode c_M_chosen 138 = .ok (.invokevirtual 122, 3) := by decide +kernel
theorem d_M_chosen_141 : decode c_M_chosen 141 = .ok (.ifCond .eq 7, 3) := by decide +kernel
theorem d_M_chosen_144 : decode c_M_chosen 144 = .ok (.iconst 1, 1) := by decide +kernel
theorem d_M_chosen_145 : decode c_M_chosen 145 = .ok (.goto 4, 3) := by decide +kernel
theorem d_M_chosen_148 : decode c_M_chosen 148 = .ok (.iconst 0, 1) := by decide +kernel
theorem d_M_chosen_149 : decode c_M_chosen 149 = .ok (.istore 12, 2) := by decide +kernel
theorem d_M_chosen_151 : decode c_M_chosen 151 = .ok (.iload 12, 2) := by decide +kernel
theorem d_M_chosen_153 : decode c_M_chosen 153 = .ok (.ifCond .eq 19, 3) := by decide +kernel
theorem d_M_chosen_156 : decode c_M_chosen 156 = .ok (.iload 9, 2) := by decide +kernel
theorem d_M_chosen_158 : decode c_M_chosen 158 = .ok (.istore 6, 2) := by decide +kernel
theorem d_M_chosen_160 : decode c_M_chosen 160 = .ok (.aload_n 0, 1) := by decide +kernel
theorem d_M_chosen_161 : decode c_M_chosen 161 = .ok (.getfield 140, 3) := by decide +kernel
theorem d_M_chosen_164 : decode c_M_chosen 164 = .ok (.lstore 7, 2) := by decide +kernel
theorem d_M_chosen_166 : decode c_M_chosen 166 = .ok (.aload_n 0, 1) := by decide +kernel
theorem d_M_chosen_167 : decode c_M_chosen 167 = .ok (.iload 11, 2) := by decide +kernel
theorem d_M_chosen_169 : decode c_M_chosen 169 = .ok (.putfield 159, 3) := by decide +kernel
theorem d_M_chosen_172 : decode c_M_chosen 172 = .ok (.iinc 9 1, 3) := by decide +kernel
theorem d_M_chosen_175 : decode c_M_chosen 175 = .ok (.goto (-161), 3) := by decide +kernel
theorem d_M_chosen_178 : decode c_M_chosen 178 = .ok (.iload 6, 2) := by decide +kernel
theorem d_M_chosen_180 : decode c_M_chosen 180 = .ok (.ireturn, 1) := by decide +kernel
theorem d_M_common_0 : decode c_M_common 0 = .ok (.lload_n 0, 1) := by decide +kernel
theorem d_M_common_1 : decode c_M_common 1 = .ok (.lstore 4, 2) := by decide +kernel
theorem d_M_common_3 : decode c_M_common 3 = .ok (.lload_n 2, 1) := by decide +kernel
theorem d_M_common_4 : decode c_M_common 4 = .ok (.lstore 6, 2) := by decide +kernel
theorem d_M_common_6 : decode c_M_common 6 = .ok (.lload 6, 2) := by decide +kernel
theorem d_M_common_8 : decode c_M_common 8 = .ok (.lconst 0, 1) := by decide +kernel
theorem d_M_common_9 : decode c_M_common 9 = .ok (.lcmp, 1) := by decide +kernel
theorem d_M_common_10 : decode c_M_common 10 = .ok (.ifCond .eq 21, 3) := by decide +kernel
theorem d_M_common_13 : decode c_M_common 13 = .ok (.lload 4, 2) := by decide +kernel
theorem d_M_common_15 : decode c_M_common 15 = .ok (.lload 6, 2) := by decide +kernel
theorem d_M_common_17 : decode c_M_common 17 = .ok (.lrem, 1) := by decide +kernel
theorem d_M_common_18 : decode c_M_common 18 = .ok (.lstore 8, 2) := by decide +kernel
theorem d_M_common_20 : decode c_M_common 20 = .ok (.lload 6, 2) := by decide +kernel
theorem d_M_common_22 : decode c_M_common 22 = .ok (.lstore 4, 2) := by decide +kernel
theorem d_M_common_24 : decode c_M_common 24 = .ok (.lload 8, 2) := by decide +kernel
theorem d_M_common_26 : decode c_M_common 26 = .ok (.lstore 6, 2) := by decide +kernel
theorem d_M_common_28 : decode c_M_common 28 = .ok (.goto (-22), 3) := by decide +kernel
theorem d_M_common_31 : decode c_M_common 31 = .ok (.lload 4, 2) := by decide +kernel
theorem d_M_common_33 : decode c_M_common 33 = .ok (.lreturn, 1) := by decide +kernel
theorem d_M_compare_0 : decode c_M_compare 0 = .ok (.lload_n 0, 1) := by decide +kernel
theorem d_M_compare_1 : decode c_M_compare 1 = .ok (.lstore 8, 2) := by decide +kernel
theorem d_M_compare_3 : decode c_M_compare 3 = .ok (.lload_n 2, 1) := by decide +kernel
theorem d_M_compare_4 : decode c_M_compare 4 = .ok (.lstore 10, 2) := by decide +kernel
theorem d_M_compare_6 : decode c_M_compare 6 = .ok (.lload 4, 2) := by decide +kernel
theorem d_M_compare_8 : decode c_M_compare 8 = .ok (.lstore 12, 2) := by decide +kernel
theorem d_M_compare_10 : decode c_M_compare 10 = .ok (.lload 6, 2) := by decide +kernel
theorem d_M_compare_12 : decode c_M_compare 12 = .ok (.lstore 14, 2) := by decide +kernel
theorem d_M_compare_14 : decode c_M_compare 14 = .ok (.iconst 1, 1) := by decide +kernel
theorem d_M_compare_15 : decode c_M_compare 15 = .ok (.istore 16, 2) := by decide +kernel
theorem d_M_compare_17 : decode c_M_compare 17 = .ok (.lload 8, 2) := by decide +kernel
theorem d_M_compare_19 : decode c_M_compare 19 = .ok (.lload 10, 2) := by decide +kernel
theorem d_M_compare_21 : decode c_M_compare 21 = .ok (.ldiv, 1) := by decide +kernel
theorem d_M_compare_22 : decode c_M_compare 22 = .ok (.lstore 17, 2) := by decide +kernel
theorem d_M_compare_24 : decode c_M_compare 24 = .ok (.lload 12, 2) := by decide +kernel
theorem d_M_compare_26 : decode c_M_compare 26 = .ok (.lload 14, 2) := by decide +kernel
theorem d_M_compare_28 : decode c_M_compare 28 = .ok (.ldiv, 1) := by decide +kernel
theorem d_M_compare_29 : decode c_M_compare 29 = .ok (.lstore 19, 2) := by decide +kernel
theorem d_M_compare_31 : decode c_M_compare 31 = .ok (.lload 17, 2) := by decide +kernel
theorem d_M_compare_33 : decode c_M_compare 33 = .ok (.lload 19, 2) := by decide +kernel
theorem d_M_compare_35 : decode c_M_compare 35 = .ok (.lcmp, 1) := by decide +kernel
theorem d_M_compare_36 : decode c_M_compare 36 = .ok (.ifCond .eq 21, 3) := by decide +kernel
theorem d_M_compare_39 : decode c_M_compare 39 = .ok (.lload 17, 2) := by decide +kernel
theorem d_M_compare_41 : decode c_M_compare 41 = .ok (.lload 19, 2) := by decide +kernel
theorem d_M_compare_43 : decode c_M_compare 43 = .ok (.lcmp, 1) := by decide +kernel
theorem d_M_compare_44 : decode c_M_compare 44 = .ok (.ifCond .ge 10, 3) := by decide +kernel
theorem d_M_compare_47 : decode c_M_compare 47 = .ok (.iconst 0, 1) := by decide +kernel
theorem d_M_compare_48 : decode c_M_compare 48 = .ok (.iload 16, 2) := by decide +kernel
theorem d_M_compare_50 : decode c_M_compare 50 = .ok (.isub, 1) := by decide +kernel
theorem d_M_compare_51 : decode c_M_compare 51 = .ok (.goto 5, 3) := by decide +kernel
theorem d_M_compare_54 : decode c_M_compare 54 = .ok (.iload 16, 2) := by decide +kernel
theorem d_M_compare_56 : decode c_M_compare 56 = .ok (.ireturn, 1) := by decide +kernel
theorem d_M_compare_57 : decode c_M_compare 57 = .ok (.lload 8, 2) := by decide +kernel
theorem d_M_compare_59 : decode c_M_compare 59 = .ok (.lload 10, 2) := by decide +kernel
theorem d_M_compare_61 : decode c_M_compare 61 = .ok (.lrem, 1) := by decide +kernel
theorem d_M_compare_62 : decode c_M_compare 62 = .ok (.lstore 21, 2) := by decide +kernel
theorem d_M_compare_64 : decode c_M_compare 64 = .ok (.lload 12, 2) := by decide +kernel
theorem d_M_compare_66 : decode c_M_compare 66 = .ok (.lload 14, 2) := by decide +kernel
theorem d_M_compare_68 : decode c_M_compare 68 = .ok (.lrem, 1) := by decide +kernel
theorem d_M_compare_69 : decode c_M_compare 69 = .ok (.lstore 23, 2) := by decide +kernel
theorem d_M_compare_71 : decode c_M_compare 71 = .ok (.lload 21, 2) := by decide +kernel
theorem d_M_compare_73 : decode c_M_compare 73 = .ok (.lconst 0, 1) := by decide +kernel
theorem d_M_compare_74 : decode c_M_compare 74 = .ok (.lcmp, 1) := by decide +kernel
theorem d_M_compare_75 : decode c_M_compare 75 = .ok (.ifCond .eq 10, 3) := by decide +kernel
theorem d_M_compare_78 : decode c_M_compare 78 = .ok (.lload 23, 2) := by decide +kernel
theorem d_M_compare_80 : decode c_M_compare 80 = .ok (.lconst 0, 1) := by decide +kernel
theorem d_M_compare_81 : decode c_M_compare 81 = .ok (.lcmp, 1) := by decide +kernel
theorem d_M_compare_82 : decode c_M_compare 82 = .ok (.ifCond .ne 32, 3) := by decide +kernel
theorem d_M_compare_85 : decode c_M_compare 85 = .ok (.lload 21, 2) := by decide +kernel
theorem d_M_compare_87 : decode c_M_compare 87 = .ok (.lload 23, 2) := by decide +kernel
theorem d_M_compare_89 : decode c_M_compare 89 = .ok (.lcmp, 1) := by decide +kernel
theorem d_M_compare_90 : decode c_M_compare 90 = .ok (.ifCond .ne 7, 3) := by decide +kernel
theorem d_M_compare_93 : decode c_M_compare 93 = .ok (.iconst 0, 1) := by decide +kernel
theorem d_M_compare_94 : decode c_M_compare 94 = .ok (.goto 19, 3) := by decide +kernel
theorem d_M_compare_97 : decode c_M_compare 97 = .ok (.lload 21, 2) := by decide +kernel
theorem d_M_compare_99 : decode c_M_compare 99 = .ok (.lconst 0, 1) := by decide +kernel
theorem d_M_compare_100 : decode c_M_compare 100 = .ok (.lcmp, 1) := by decide +kernel
theorem d_M_compare_101 : decode c_M_compare 101 = .ok (.ifCond .ne 10, 3) := by decide +kernel
theorem d_M_compare_104 : decode c_M_compare 104 = .ok (.iconst 0, 1) := by decide +kernel
theorem d_M_compare_105 : decode c_M_compare 105 = .ok (.iload 16, 2) := by decide +kernel
theorem d_M_compare_107 : decode c_M_compare 107 = .ok (.isub, 1) := by decide +kernel
theorem d_M_compare_108 : decode c_M_compare 108 = .ok (.goto 5, 3) := by decide +kernel
theorem d_M_compare_111 : decode c_M_compare 111 = .ok (.iload 16, 2) := by decide +kernel
theorem d_M_compare_113 : decode c_M_compare 113 = .ok (.ireturn, 1) := by decide +kernel
theorem d_M_compare_114 : decode c_M_compare 114 = .ok (.lload 10, 2) := by decide +kernel
theorem d_M_compare_116 : decode c_M_compare 116 = .ok (.lstore 8, 2) := by decide +kernel
theorem d_M_compare_118 : decode c_M_compare 118 = .ok (.lload 21, 2) := by decide +kernel
theorem d_M_compare_120 : decode c_M_compare 120 = .ok (.lstore 10, 2) := by decide +kernel
theorem d_M_compare_122 : decode c_M_compare 122 = .ok (.lload 14, 2) := by decide +kernel
theorem d_M_compare_124 : decode c_M_compare 124 = .ok (.lstore 12, 2) := by decide +kernel
theorem d_M_compare_126 : decode c_M_compare 126 = .ok (.lload 23, 2) := by decide +kernel
theorem d_M_compare_128 : decode c_M_compare 128 = .ok (.lstore 14, 2) := by decide +kernel
theorem d_M_compare_130 : decode c_M_compare 130 = .ok (.iconst 0, 1) := by decide +kernel
theorem d_M_compare_131 : decode c_M_compare 131 = .ok (.iload 16, 2) := by decide +kernel
theorem d_M_compare_133 : decode c_M_compare 133 = .ok (.isub, 1) := by decide +kernel
theorem d_M_compare_134 : decode c_M_compare 134 = .ok (.istore 16, 2) := by decide +kernel
theorem d_M_compare_136 : decode c_M_compare 136 = .ok (.goto (-119), 3) := by decide +kernel
theorem d_M_compareParts_0 : decode c_M_compareParts 0 = .ok (.bipush 12, 2) := by decide +kernel
theorem d_M_compareParts_2 : decode c_M_compareParts 2 = .ok (.iload_n 1, 1) := by decide +kernel
theorem d_M_compareParts_3 : decode c_M_compareParts 3 = .ok (.imul, 1) := by decide +kernel
theorem d_M_compareParts_4 : decode c_M_compareParts 4 = .ok (.iload_n 3, 1) := by decide +kernel
theorem d_M_compareParts_5 : decode c_M_compareParts 5 = .ok (.iadd, 1) := by decide +kernel
theorem d_M_compareParts_6 : decode c_M_compareParts 6 = .ok (.istore 4, 2) := by decide +kernel
theorem d_M_compareParts_8 : decode c_M_compareParts 8 = .ok (.bipush 12, 2) := by decide +kernel
theorem d_M_compareParts_10 : decode c_M_compareParts 10 = .ok (.iload_n 2, 1) := by decide +kernel
theorem d_M_compareParts_11 : decode c_M_compareParts 11 = .ok (.imul, 1) := by decide +kernel
theorem d_M_compareParts_12 : decode c_M_compareParts 12 = .ok (.iload_n 3, 1) := by decide +kernel
theorem d_M_compareParts_13 : decode c_M_compareParts 13 = .ok (.iadd, 1) := by decide +kernel
theorem d_M_compareParts_14 : decode c_M_compareParts 14 = .ok (.istore 5, 2) := by decide +kernel
theorem d_M_compareParts_16 : decode c_M_compareParts 16 = .ok (.aload_n 0, 1) := by decide +kernel
theorem d_M_compareParts_17 : decode c_M_compareParts 17 = .ok (.getfield 16, 3) := by decide +kernel
theorem d_M_compareParts_20 : decode c_M_compareParts 20 = .ok (.iload 4, 2) := by decide +kernel
theorem d_M_compareParts_22 : decode c_M_compareParts 22 = .ok (.laload, 1) := by decide +kernel
theorem d_M_compareParts_23 : decode c_M_compareParts 23 = .ok (.aload_n 0, 1) := by decide +kernel
theorem d_M_compareParts_24 : decode c_M_compareParts 24 = .ok (.getfield 20, 3) := by decide +kernel
theorem d_M_compareParts_27 : decode c_M_compareParts 27 = .ok (.iload 4, 2) := by decide +kernel
theorem d_M_compareParts_29 : decode c_M_compareParts 29 = .ok (.laload, 1) := by decide +kernel
theorem d_M_compareParts_30 : decode c_M_compareParts 30 = .ok (.aload_n 0, 1) := by decide +kernel
theorem d_M_compareParts_31 : decode c_M_compareParts 31 = .ok (.getfield 16, 3) := by decide +kernel
theorem d_M_compareParts_34 : decode c_M_compareParts 34 = .ok (.iload 5, 2) := by decide +kernel
theorem d_M_compareParts_36 : decode c_M_compareParts 36 = .ok (.laload, 1) := by decide +kernel
theorem d_M_compareParts_37 : decode c_M_compareParts 37 = .ok (.aload_n 0, 1) := by decide +kernel
theorem d_M_compareParts_38 : decode c_M_compareParts 38 = .ok (.getfield 20, 3) := by decide +kernel
theorem d_M_compareParts_41 : decode c_M_compareParts 41 = .ok (.iload 5, 2) := by decide +kernel
theorem d_M_compareParts_43 : decode c_M_compareParts 43 = .ok (.laload, 1) := by decide +kernel
theorem d_M_compareParts_44 : decode c_M_compareParts 44 = .ok (.invokestatic 108, 3) := by decide +kernel
theorem d_M_compareParts_47 : decode c_M_compareParts 47 = .ok (.ireturn, 1) := by decide +kernel
theorem d_M_cost_0 : decode c_M_cost 0 = .ok (.aload_n 0, 1) := by decide +kernel
theorem d_M_cost_1 : decode c_M_cost 1 = .ok (.aload_n 0, 1) := by decide +kernel
theorem d_M_cost_2 : decode c_M_cost 2 = .ok (.iload_n 1, 1) := by decide +kernel
theorem d_M_cost_3 : decode c_M_cost 3 = .ok (.invokevirtual 91, 3) := by decide +kernel
theorem d_M_cost_6 : decode c_M_cost 6 = .ok (.ifCond .ne 7, 3) := by decide +kernel
theorem d_M_cost_9 : decode c_M_cost 9 = .ok (.iconst 1, 1) := by decide +kernel
theorem d_M_cost_10 : decode c_M_cost 10 = .ok (.goto 15, 3) := by decide +kernel
theorem d_M_cost_13 : decode c_M_cost 13 = .ok (.iload_n 2, 1) := by decide +kernel
theorem d_M_cost_14 : decode c_M_cost 14 = .ok (.invokestatic 148, 3) := by decide +kernel
theorem d_M_cost_17 : decode c_M_cost 17 = .ok (.ifCond .eq 7, 3) := by decide +kernel
theorem d_M_cost_20 : decode c_M_cost 20 = .ok (.iconst 0, 1) := by decide +kernel
theorem d_M_cost_21 : decode c_M_cost 21 = .ok (.goto 4, 3) := by decide +kernel
theorem d_M_cost_24 : decode c_M_cost 24 = .ok (.iconst 2, 1) := by decide +kernel
theorem d_M_cost_25 : decode c_M_cost 25 = .ok (.putfield 68, 3) := by decide +kernel
