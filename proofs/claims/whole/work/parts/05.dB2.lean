theorem d_B_init_56 : decode c_B_init 56 = .ok (.aload_n 0, 1) := by decide +kernel
theorem d_B_init_57 : decode c_B_init 57 = .ok (.iconst 4, 1) := by decide +kernel
theorem d_B_init_58 : decode c_B_init 58 = .ok (.newarray .long, 2) := by decide +kernel
theorem d_B_init_60 : decode c_B_init 60 = .ok (.putfield 35, 3) := by decide +kernel
theorem d_B_init_63 : decode c_B_init 63 = .ok (.aload_n 0, 1) := by decide +kernel
theorem d_B_init_64 : decode c_B_init 64 = .ok (.getfield 35, 3) := by decide +kernel
theorem d_B_init_67 : decode c_B_init 67 = .ok (.ldc2_w 39, 3) := by decide +kernel
theorem d_B_init_70 : decode c_B_init 70 = .ok (.invokestatic 41, 3) := by decide +kernel
theorem d_B_init_73 : decode c_B_init 73 = .ok (.aload_n 0, 1) := by decide +kernel
theorem d_B_init_74 : decode c_B_init 74 = .ok (.bipush 40, 2) := by decide +kernel
theorem d_B_init_76 : decode c_B_init 76 = .ok (.newarray .int, 2) := by decide +kernel
theorem d_B_init_78 : decode c_B_init 78 = .ok (.putfield 44, 3) := by decide +kernel
theorem d_B_init_81 : decode c_B_init 81 = .ok (.aload_n 0, 1) := by decide +kernel
theorem d_B_init_82 : decode c_B_init 82 = .ok (.iconst 0, 1) := by decide +kernel
theorem d_B_init_83 : decode c_B_init 83 = .ok (.putfield 47, 3) := by decide +kernel
theorem d_B_init_86 : decode c_B_init 86 = .ok (.return_, 1) := by decide +kernel
theorem d_B_isAlternate_0 : decode c_B_isAlternate 0 = .ok (.aload_n 1, 1) := by decide +kernel
theorem d_B_isAlternate_1 : decode c_B_isAlternate 1 = .ok (.aload_n 2, 1) := by decide +kernel
theorem d_B_isAlternate_2 : decode c_B_isAlternate 2 = .ok (.if_acmp .ne 5, 3) := by decide +kernel
theorem d_B_isAlternate_5 : decode c_B_isAlternate 5 = .ok (.iconst 0, 1) := by decide +kernel
theorem d_B_isAlternate_6 : decode c_B_isAlternate 6 = .ok (.ireturn, 1) := by decide +kernel
theorem d_B_isAlternate_7 : decode c_B_isAlternate 7 = .ok (.iconst 0, 1) := by decide +kernel
theorem d_B_isAlternate_8 : decode c_B_isAlternate 8 = .ok (.istore 4, 2) := by decide +kernel
theorem d_B_isAlternate_10 : decode c_B_isAlternate 10 = .ok (.iload 4, 2) := by decide +kernel
theorem d_B_isAlternate_12 : decode c_B_isAlternate 12 = .ok (.bipush 12, 2) := by decide +kernel
theorem d_B_isAlternate_14 : decode c_B_isAlternate 14 = .ok (.if_icmp .ge 43, 3) := by decide +kernel
theorem d_B_isAlternate_17 : decode c_B_isAlternate 17 = .ok (.aload_n 0, 1) := by decide +kernel
theorem d_B_isAlternate_18 : decode c_B_isAlternate 18 = .ok (.getfield 29, 3) := by decide +kernel
theorem d_B_isAlternate_21 : decode c_B_isAlternate 21 = .ok (.iload_n 3, 1) := by decide +kernel
theorem d_B_isAlternate_22 : decode c_B_isAlternate 22 = .ok (.bipush 12, 2) := by decide +kernel
theorem d_B_isAlternate_24 : decode c_B_isAlternate 24 = .ok (.imul, 1) := by decide +kernel
theorem d_B_isAlternate_25 : decode c_B_isAlternate 25 = .ok (.iload 4, 2) := by decide +kernel
theorem d_B_isAlternate_27 : decode c_B_isAlternate 27 = .ok (.iadd, 1) := by decide +kernel
theorem d_B_isAlternate_28 : decode c_B_isAlternate 28 = .ok (.iaload, 1) := by decide +kernel
theorem d_B_isAlternate_29 : decode c_B_isAlternate 29 = .ok (.istore 5, 2) := by decide +kernel
theorem d_B_isAlternate_31 : decode c_B_isAlternate 31 = .ok (.iload 5, 2) := by decide +kernel
theorem d_B_isAlternate_33 : decode c_B_isAlternate 33 = .ok (.iconst (-1), 1) := by decide +kernel
theorem d_B_isAlternate_34 : decode c_B_isAlternate 34 = .ok (.if_icmp .eq 17, 3) := by decide +kernel
theorem d_B_isAlternate_37 : decode c_B_isAlternate 37 = .ok (.aload_n 1, 1) := by decide +kernel
theorem d_B_isAlternate_38 : decode c_B_isAlternate 38 = .ok (.aload_n 2, 1) := by decide +kernel
theorem d_B_isAlternate_39 : decode c_B_isAlternate 39 = .ok (.iload 4, 2) := by decide +kernel
theorem d_B_isAlternate_41 : decode c_B_isAlternate 41 = .ok (.iload 5, 2) := by decide +kernel
theorem d_B_isAlternate_43 : decode c_B_isAlternate 43 = .ok (.invokestatic 182, 3) := by decide +kernel
theorem d_B_isAlternate_46 : decode c_B_isAlternate 46 = .ok (.ifCond .ne 5, 3) := by decide +kernel
theorem d_B_isAlternate_49 : decode c_B_isAlternate 49 = .ok (.iconst 0, 1) := by decide +kernel
theorem d_B_isAlternate_50 : decode c_B_isAlternate 50 = .ok (.ireturn, 1) := by decide +kernel
theorem d_B_isAlternate_51 : decode c_B_isAlternate 51 = .ok (.iinc 4 1, 3) := by decide +kernel
theorem d_B_isAlternate_54 : decode c_B_isAlternate 54 = .ok (.goto (-44), 3) := by decide +kernel
theorem d_B_isAlternate_57 : decode c_B_isAlternate 57 = .ok (.iconst 1, 1) := by decide +kernel
theorem d_B_isAlternate_58 : decode c_B_isAlternate 58 = .ok (.ireturn, 1) := by decide +kernel
theorem d_B_leastCost_0 : decode c_B_leastCost 0 = .ok (.aload_n 0, 1) := by decide +kernel
theorem d_B_leastCost_1 : decode c_B_leastCost 1 = .ok (.aload_n 1, 1) := by decide +kernel
theorem d_B_leastCost_2 : decode c_B_leastCost 2 = .ok (.iload_n 2, 1) := by decide +kernel
theorem d_B_leastCost_3 : decode c_B_leastCost 3 = .ok (.invokevirtual 153, 3) := by decide +kernel
theorem d_B_leastCost_6 : decode c_B_leastCost 6 = .ok (.istore_n 3, 1) := by decide +kernel
theorem d_B_leastCost_7 : decode c_B_leastCost 7 = .ok (.aload_n 1, 1) := by decide +kernel
theorem d_B_leastCost_8 : decode c_B_leastCost 8 = .ok (.getfield 116, 3) := by decide +kernel
theorem d_B_leastCost_11 : decode c_B_leastCost 11 = .ok (.iload_n 3, 1) := by decide +kernel
theorem d_B_leastCost_12 : decode c_B_leastCost 12 = .ok (.i2l, 1) := by decide +kernel
theorem d_B_leastCost_13 : decode c_B_leastCost 13 = .ok (.invokevirtual 222, 3) := by decide +kernel
theorem d_B_leastCost_16 : decode c_B_leastCost 16 = .ok (.istore 4, 2) := by decide +kernel
theorem d_B_leastCost_18 : decode c_B_leastCost 18 = .ok (.iload_n 3, 1) := by decide +kernel
theorem d_B_leastCost_19 : decode c_B_leastCost 19 = .ok (.iconst (-1), 1) := by decide +kernel
theorem d_B_leastCost_20 : decode c_B_leastCost 20 = .ok (.if_icmp .eq 9, 3) := by decide +kernel
theorem d_B_leastCost_23 : decode c_B_leastCost 23 = .ok (.iload 4, 2) := by decide +kernel
theorem d_B_leastCost_25 : decode c_B_leastCost 25 = .ok (.iconst (-1), 1) := by decide +kernel
theorem d_B_leastCost_26 : decode c_B_leastCost 26 = .ok (.if_icmp .ne 9, 3) := by decide +kernel
theorem d_B_leastCost_29 : decode c_B_leastCost 29 = .ok (.ldc2_w 90, 3) := by decide +kernel
theorem d_B_leastCost_32 : decode c_B_leastCost 32 = .ok (.goto 11, 3) := by decide +kernel
theorem d_B_leastCost_35 : decode c_B_leastCost 35 = .ok (.aload_n 0, 1) := by decide +kernel
theorem d_B_leastCost_36 : decode c_B_leastCost 36 = .ok (.aload_n 1, 1) := by decide +kernel
theorem d_B_leastCost_37 : decode c_B_leastCost 37 = .ok (.iload 4, 2) := by decide +kernel
theorem d_B_leastCost_39 : decode c_B_leastCost 39 = .ok (.iload_n 3, 1) := by decide +kernel
theorem d_B_leastCost_40 : decode c_B_leastCost 40 = .ok (.invokevirtual 218, 3) := by decide +kernel
theorem d_B_leastCost_43 : decode c_B_leastCost 43 = .ok (.lreturn, 1) := by decide +kernel
theorem d_B_life_0 : decode c_B_life 0 = .ok (.aload_n 0, 1) := by decide +kernel
theorem d_B_life_1 : decode c_B_life 1 = .ok (.iload_n 1, 1) := by decide +kernel
theorem d_B_life_2 : decode c_B_life 2 = .ok (.invokevirtual 61, 3) := by decide +kernel
theorem d_B_life_5 : decode c_B_life 5 = .ok (.astore 5, 2) := by decide +kernel
theorem d_B_life_7 : decode c_B_life 7 = .ok (.iload 4, 2) := by decide +kernel
theorem d_B_life_9 : decode c_B_life 9 = .ok (.i2l, 1) := by decide +kernel
theorem d_B_life_10 : decode c_B_life 10 = .ok (.lconst 0, 1) := by decide +kernel
theorem d_B_life_11 : decode c_B_life 11 = .ok (.ldc2_w 140, 3) := by decide +kernel
theorem d_B_life_14 : decode c_B_life 14 = .ok (.invokestatic 52, 3) := by decide +kernel
theorem d_B_life_17 : decode c_B_life 17 = .ok (.aload 5, 2) := by decide +kernel
theorem d_B_life_19 : decode c_B_life 19 = .ok (.getfield 142, 3) := by decide +kernel
theorem d_B_life_22 : decode c_B_life 22 = .ok (.lload_n 2, 1) := by decide +kernel
theorem d_B_life_23 : decode c_B_life 23 = .ok (.lconst 0, 1) := by decide +kernel
theorem d_B_life_24 : decode c_B_life 24 = .ok (.iload 4, 2) := by decide +kernel
theorem d_B_life_26 : decode c_B_life 26 = .ok (.invokevirtual 120, 3) := by decide +kernel
theorem d_B_life_29 : decode c_B_life 29 = .ok (.ireturn, 1) := by decide +kernel
theorem d_B_maker_0 : decode c_B_maker 0 = .ok (.iload_n 1, 1) := by decide +kernel
theorem d_B_maker_1 : decode c_B_maker 1 = .ok (.i2l, 1) := by decide +kernel
theorem d_B_maker_2 : decode c_B_maker 2 = .ok (.lconst 0, 1) := by decide +kernel
theorem d_B_maker_3 : decode c_B_maker 3 = .ok (.ldc2_w 50, 3) := by decide +kernel
theorem d_B_maker_6 : decode c_B_maker 6 = .ok (.invokestatic 52, 3) := by decide +kernel
theorem d_B_maker_9 : decode c_B_maker 9 = .ok (.iload_n 2, 1) := by decide +kernel
theorem d_B_maker_10 : decode c_B_maker 10 = .ok (.i2l, 1) := by decide +kernel
theorem d_B_maker_11 : decode c_B_maker 11 = .ok (.lconst 0, 1) := by decide +kernel
theorem d_B_maker_12 : decode c_B_maker 12 = .ok (.ldc2_w 59, 3) := by decide +kernel
theorem d_B_maker_15 : decode c_B_maker 15 = .ok (.invokestatic 52, 3) := by decide +kernel
theorem d_B_maker_18 : decode c_B_maker 18 = .ok (.aload_n 0, 1) := by decide +kernel
theorem d_B_maker_19 : decode c_B_maker 19 = .ok (.getfield 19, 3) := by decide +kernel
theorem d_B_maker_22 : decode c_B_maker 22 = .ok (.iload_n 1, 1) := by decide +kernel
theorem d_B_maker_23 : decode c_B_maker 23 = .ok (.iaload, 1) := by decide +kernel
theorem d_B_maker_24 : decode c_B_maker 24 = .ok (.iload_n 2, 1) := by decide +kernel
theorem d_B_maker_25 : decode c_B_maker 25 = .ok (.if_icmp .eq 7, 3) := by decide +kernel
theorem d_B_maker_28 : decode c_B_maker 28 = .ok (.iconst 1, 1) := by decide +kernel
theorem d_B_maker_29 : decode c_B_maker 29 = .ok (.goto 4, 3) := by decide +kernel
theorem d_B_maker_32 : decode c_B_maker 32 = .ok (.iconst 0, 1) := by decide +kernel
theorem d_B_maker_33 : decode c_B_maker 33 = .ok (.istore_n 3, 1) := by decide +kernel
theorem d_B_maker_34 : decode c_B_maker 34 = .ok (.aload_n 0, 1) := by decide +kernel
theorem d_B_maker_35 : decode c_B_maker 35 = .ok (.getfield 19, 3) := by decide +kernel
theorem d_B_maker_38 : decode c_B_maker 38 = .ok (.iload_n 1, 1) := by decide +kernel
theorem d_B_maker_39 : decode c_B_maker 39 = .ok (.iload_n 2, 1) := by decide +kernel
theorem d_B_maker_40 : decode c_B_maker 40 = .ok (.iastore, 1) := by decide +kernel
theorem d_B_maker_41 : decode c_B_maker 41 = .ok (.iload_n 3, 1) := by decide +kernel
theorem d_B_maker_42 : decode c_B_maker 42 = .ok (.ireturn, 1) := by decide +kernel
theorem d_B_meets_0 : decode c_B_meets 0 = .ok (.aload_n 0, 1) := by decide +kernel
theorem d_B_meets_1 : decode c_B_meets 1 = .ok (.iload_n 2, 1) := by decide +kernel
theorem d_B_meets_2 : decode c_B_meets 2 = .ok (.invokevirtual 86, 3) := by decide +kernel
theorem d_B_meets_5 : decode c_B_meets 5 = .ok (.ifCond .eq 11, 3) := by decide +kernel
theorem d_B_meets_8 : decode c_B_meets 8 = .ok (.aload_n 1, 1) := by decide +kernel
theorem d_B_meets_9 : decode c_B_meets 9 = .ok (.iload_n 2, 1) := by decide +kernel
theorem d_B_meets_10 : decode c_B_meets 10 = .ok (.invokevirtual 86, 3) := by decide +kernel
theorem d_B_meets_13 : decode c_B_meets 13 = .ok (.ifCond .ne 5, 3) := by decide +kernel
theorem d_B_meets_16 : decode c_B_meets 16 = .ok (.iconst 0, 1) := by decide +kernel
theorem d_B_meets_17 : decode c_B_meets 17 = .ok (.ireturn, 1) := by decide +kernel
theorem d_B_meets_18 : decode c_B_meets 18 = .ok (.aload_n 0, 1) := by decide +kernel
theorem d_B_meets_19 : decode c_B_meets 19 = .ok (.iload_n 2, 1) := by decide +kernel
theorem d_B_meets_20 : decode c_B_meets 20 = .ok (.aload_n 1, 1) := by decide +kernel
theorem d_B_meets_21 : decode c_B_meets 21 = .ok (.getfield 92, 3) := by decide +kernel
theorem d_B_meets_24 : decode c_B_meets 24 = .ok (.iload_n 2, 1) := by decide +kernel
theorem d_B_meets_25 : decode c_B_meets 25 = .ok (.laload, 1) := by decide +kernel
theorem d_B_meets_26 : decode c_B_meets 26 = .ok (.aload_n 1, 1) := by decide +kernel
theorem d_B_meets_27 : decode c_B_meets 27 = .ok (.getfield 95, 3) := by decide +kernel
theorem d_B_meets_30 : decode c_B_meets 30 = .ok (.iload_n 2, 1) := by decide +kernel
theorem d_B_meets_31 : decode c_B_meets 31 = .ok (.laload, 1) := by decide +kernel
theorem d_B_meets_32 : decode c_B_meets 32 = .ok (.invokevirtual 108, 3) := by decide +kernel
theorem d_B_meets_35 : decode c_B_meets 35 = .ok (.istore 4, 2) := by decide +kernel
theorem d_B_meets_37 : decode c_B_meets 37 = .ok (.iload_n 3, 1) := by decide +kernel
theorem d_B_meets_38 : decode c_B_meets 38 = .ok (.ifCond .ne 14, 3) := by decide +kernel
theorem d_B_meets_41 : decode c_B_meets 41 = .ok (.iload 4, 2) := by decide +kernel
theorem d_B_meets_43 : decode c_B_meets 43 = .ok (.ifCond .ne 7, 3) := by decide +kernel
theorem d_B_meets_46 : decode c_B_meets 46 = .ok (.iconst 1, 1) := by decide +kernel
theorem d_B_meets_47 : decode c_B_meets 47 = .ok (.goto 4, 3) := by decide +kernel
theorem d_B_meets_50 : decode c_B_meets 50 = .ok (.iconst 0, 1) := by decide +kernel
theorem d_B_meets_51 : decode c_B_meets 51 = .ok (.ireturn, 1) := by decide +kernel
theorem d_B_meets_52 : decode c_B_meets 52 = .ok (.iload_n 3, 1) := by decide +kernel
theorem d_B_meets_53 : decode c_B_meets 53 = .ok (.iconst 1, 1) := by decide +kernel
theorem d_B_meets_54 : decode c_B_meets 54 = .ok (.if_icmp .ne 16, 3) := by decide +kernel
theorem d_B_meets_57 : decode c_B_meets 57 = .ok (.iload 4, 2) := by decide +kernel
theorem d_B_meets_59 : decode c_B_meets 59 = .ok (.ifCond .lt 7, 3) := by decide +kernel
theorem d_B_meets_62 : decode c_B_meets 62 = .ok (.iconst 1, 1) := by decide +kernel
theorem d_B_meets_63 : decode c_B_meets 63 = .ok (.goto 17, 3) := by decide +kernel
theorem d_B_meets_66 : decode c_B_meets 66 = .ok (.iconst 0, 1) := by decide +kernel
theorem d_B_meets_67 : decode c_B_meets 67 = .ok (.goto 13, 3) := by decide +kernel
theorem d_B_meets_70 : decode c_B_meets 70 = .ok (.iload 4, 2) := by decide +kernel
theorem d_B_meets_72 : decode c_B_meets 72 = .ok (.ifCond .gt 7, 3) := by decide +kernel
theorem d_B_meets_75 : decode c_B_meets 75 = .ok (.iconst 1, 1) := by decide +kernel
theorem d_B_meets_76 : decode c_B_meets 76 = .ok (.goto 4, 3) := by decide +kernel
theorem d_B_meets_79 : decode c_B_meets 79 = .ok (.iconst 0, 1) := by decide +kernel
theorem d_B_meets_80 : decode c_B_meets 80 = .ok (.ireturn, 1) := by decide +kernel
theorem d_B_offer_0 : decode c_B_offer 0 = .ok (.aload_n 1, 1) := by decide +kernel
theorem d_B_offer_1 : decode c_B_offer 1 = .ok (.lload_n 3, 1) := by decide +kernel
theorem d_B_offer_2 : decode c_B_offer 2 = .ok (.invokevirtual 145, 3) := by decide +kernel
theorem d_B_offer_5 : decode c_B_offer 5 = .ok (.istore 5, 2) := by decide +kernel
theorem d_B_offer_7 : decode c_B_offer 7 = .ok (.iload 5, 2) := by decide +kernel
theorem d_B_offer_9 : decode c_B_offer 9 = .ok (.iconst 1, 1) := by decide +kernel
theorem d_B_offer_10 : decode c_B_offer 10 = .ok (.if_icmp .eq 9, 3) := by decide +kernel
theorem d_B_offer_13 : decode c_B_offer 13 = .ok (.iload 5, 2) := by decide +kernel
theorem d_B_offer_15 : decode c_B_offer 15 = .ok (.iconst 2, 1) := by decide +kernel
theorem d_B_offer_16 : decode c_B_offer 16 = .ok (.if_icmp .ne 12, 3) := by decide +kernel
theorem d_B_offer_19 : decode c_B_offer 19 = .ok (.aload_n 0, 1) := by decide +kernel
theorem d_B_offer_20 : decode c_B_offer 20 = .ok (.aload_n 1, 1) := by decide +kernel
theorem d_B_offer_21 : decode c_B_offer 21 = .ok (.iload_n 2, 1) := by decide +kernel
theorem d_B_offer_22 : decode c_B_offer 22 = .ok (.invokevirtual 149, 3) := by decide +kernel
theorem d_B_offer_25 : decode c_B_offer 25 = .ok (.goto 6, 3) := by decide +kernel
theorem d_B_offer_28 : decode c_B_offer 28 = .ok (.ldc2_w 90, 3) := by decide +kernel
theorem d_B_offer_31 : decode c_B_offer 31 = .ok (.lreturn, 1) := by decide +kernel
theorem d_B_pack_0 : decode c_B_pack 0 = .ok (.aload_n 0, 1) := by decide +kernel
theorem d_B_pack_1 : decode c_B_pack 1 = .ok (.iload_n 1, 1) := by decide +kernel
theorem d_B_pack_2 : decode c_B_pack 2 = .ok (.invokevirtual 61, 3) := by decide +kernel
theorem d_B_pack_5 : decode c_B_pack 5 = .ok (.astore_n 3, 1) := by decide +kernel
theorem d_B_pack_6 : decode c_B_pack 6 = .ok (.iload_n 2, 1) := by decide +kernel
theorem d_B_pack_7 : decode c_B_pack 7 = .ok (.i2l, 1) := by decide +kernel
theorem d_B_pack_8 : decode c_B_pack 8 = .ok (.lconst 1, 1) := by decide +kernel
theorem d_B_pack_9 : decode c_B_pack 9 = .ok (.ldc2_w 39, 3) := by decide +kernel
theorem d_B_pack_12 : decode c_B_pack 12 = .ok (.invokestatic 52, 3) := by decide +kernel
theorem d_B_pack_15 : decode c_B_pack 15 = .ok (.aload_n 3, 1) := by decide +kernel
theorem d_B_pack_16 : decode c_B_pack 16 = .ok (.getfield 126, 3) := by decide +kernel
theorem d_B_pack_19 : decode c_B_pack 19 = .ok (.iload_n 2, 1) := by decide +kernel
theorem d_B_pack_20 : decode c_B_pack 20 = .ok (.invokevirtual 130, 3) := by decide +kernel
theorem d_B_pack_23 : decode c_B_pack 23 = .ok (.ireturn, 1) := by decide +kernel
theorem d_B_part_0 : decode c_B_part 0 = .ok (.iload_n 1, 1) := by decide +kernel
theorem d_B_part_1 : decode c_B_part 1 = .ok (.i2l, 1) := by decide +kernel
theorem d_B_part_2 : decode c_B_part 2 = .ok (.lconst 0, 1) := by decide +kernel
theorem d_B_part_3 : decode c_B_part 3 = .ok (.ldc2_w 50, 3) := by decide +kernel
theorem d_B_part_6 : decode c_B_part 6 = .ok (.invokestatic 52, 3) := by decide +kernel
theorem d_B_part_9 : decode c_B_part 9 = .ok (.aload_n 0, 1) := by decide +kernel
theorem d_B_part_10 : decode c_B_part 10 = .ok (.getfield 15, 3) := by decide +kernel
theorem d_B_part_13 : decode c_B_part 13 = .ok (.bipush 40, 2) := by decide +kernel
theorem d_B_part_15 : decode c_B_part 15 = .ok (.if_icmp .lt 5, 3) := by decide +kernel
theorem d_B_part_18 : decode c_B_part 18 = .ok (.iconst (-1), 1) := by decide +kernel
theorem d_B_part_19 : decode c_B_part 19 = .ok (.ireturn, 1) := by decide +kernel
theorem d_B_part_20 : decode c_B_part 20 = .ok (.aload_n 0, 1) := by decide +kernel
theorem d_B_part_21 : decode c_B_part 21 = .ok (.getfield 11, 3) := by decide +kernel
theorem d_B_part_24 : decode c_B_part 24 = .ok (.aload_n 0, 1) := by decide +kernel
theorem d_B_part_25 : decode c_B_part 25 = .ok (.getfield 15, 3) := by decide +kernel
theorem d_B_part_28 : decode c_B_part 28 = .ok (.new 9, 3) := by decide +kernel
theorem d_B_part_31 : decode c_B_part 31 = .ok (.dup, 1) := by decide +kernel
theorem d_B_part_32 : decode c_B_part 32 = .ok (.aload_n 0, 1) := by decide +kernel
theorem d_B_part_33 : decode c_B_part 33 = .ok (.getfield 15, 3) := by decide +kernel
theorem d_B_part_36 : decode c_B_part 36 = .ok (.iload_n 1, 1) := by decide +kernel
theorem d_B_part_37 : decode c_B_part 37 = .ok (.invokespecial 56, 3) := by decide +kernel
theorem d_B_part_40 : decode c_B_part 40 = .ok (.aastore, 1) := by decide +kernel
theorem d_B_part_41 : decode c_B_part 41 = .ok (.aload_n 0, 1) := by decide +kernel
theorem d_B_part_42 : decode c_B_part 42 = .ok (.dup, 1) := by decide +kernel
theorem d_B_part_43 : decode c_B_part 43 = .ok (.getfield 15, 3) := by decide +kernel
theorem d_B_part_46 : decode c_B_part 46 = .ok (.iconst 1, 1) := by decide +kernel
theorem d_B_part_47 : decode c_B_part 47 = .ok (.iadd, 1) := by decide +kernel
theorem d_B_part_48 : decode c_B_part 48 = .ok (.putfield 15, 3) := by decide +kernel
theorem d_B_part_51 : decode c_B_part 51 = .ok (.aload_n 0, 1) := by decide +kernel
theorem d_B_part_52 : decode c_B_part 52 = .ok (.getfield 15, 3) := by decide +kernel
theorem d_B_part_55 : decode c_B_part 55 = .ok (.iconst 1, 1) := by decide +kernel
theorem d_B_part_56 : decode c_B_part 56 = .ok (.isub, 1) := by decide +kernel
theorem d_B_part_57 : decode c_B_part 57 = .ok (.ireturn, 1) := by decide +kernel
theorem d_B_partOf_0 : decode c_B_partOf 0 = .ok (.iload_n 1, 1) := by decide +kernel
theorem d_B_partOf_1 : decode c_B_partOf 1 = .ok (.ifCond .lt 20, 3) := by decide +kernel
theorem d_B_partOf_4 : decode c_B_partOf 4 = .ok (.iload_n 1, 1) := by decide +kernel
theorem d_B_partOf_5 : decode c_B_partOf 5 = .ok (.aload_n 0, 1) := by decide +kernel
theorem d_B_partOf_6 : decode c_B_partOf 6 = .ok (.getfield 15, 3) := by decide +kernel
theorem d_B_partOf_9 : decode c_B_partOf 9 = .ok (.if_icmp .ge 12, 3) := by decide +kernel
theorem d_B_partOf_12 : decode c_B_partOf 12 = .ok (.aload_n 0, 1) := by decide +kernel
theorem d_B_partOf_13 : decode c_B_partOf 13 = .ok (.getfield 11, 3) := by decide +kernel
theorem d_B_partOf_16 : decode c_B_partOf 16 = .ok (.iload_n 1, 1) := by decide +kernel
theorem d_B_partOf_17 : decode c_B_partOf 17 = .ok (.aaload, 1) := by decide +kernel
theorem d_B_partOf_18 : decode c_B_partOf 18 = .ok (.goto 4, 3) := by decide +kernel
theorem d_B_partOf_21 : decode c_B_partOf 21 = .ok (.aconst_null, 1) := by decide +kernel
theorem d_B_partOf_22 : decode c_B_partOf 22 = .ok (.astore_n 2, 1) := by decide +kernel
theorem d_B_partOf_23 : decode c_B_partOf 23 = .ok (.aload_n 2, 1) := by decide +kernel
theorem d_B_partOf_24 : decode c_B_partOf 24 = .ok (.ifnonnull 13, 3) := by decide +kernel
theorem d_B_partOf_27 : decode c_B_partOf 27 = .ok (.new 166, 3) := by decide +kernel
theorem d_B_partOf_30 : decode c_B_partOf 30 = .ok (.dup, 1) := by decide +kernel
theorem d_B_partOf_31 : decode c_B_partOf 31 = .ok (.ldc 168, 2) := by decide +kernel
theorem d_B_partOf_33 : decode c_B_partOf 33 = .ok (.invokespecial 170, 3) := by decide +kernel
theorem d_B_partOf_36 : decode c_B_partOf 36 = .ok (.athrow, 1) := by decide +kernel
theorem d_B_partOf_37 : decode c_B_partOf 37 = .ok (.aload_n 2, 1) := by decide +kernel
theorem d_B_partOf_38 : decode c_B_partOf 38 = .ok (.areturn, 1) := by decide +kernel
theorem d_B_price_0 : decode c_B_price 0 = .ok (.aload_n 0, 1) := by decide +kernel
theorem d_B_price_1 : decode c_B_price 1 = .ok (.iload_n 1, 1) := by decide +kernel
theorem d_B_price_2 : decode c_B_price 2 = .ok (.invokevirtual 61, 3) := by decide +kernel
theorem d_B_price_5 : decode c_B_price 5 = .ok (.astore 6, 2) := by decide +kernel
theorem d_B_price_7 : decode c_B_price 7 = .ok (.iload 5, 2) := by decide +kernel
theorem d_B_price_9 : decode c_B_price 9 = .ok (.iconst 4, 1) := by decide +kernel
theorem d_B_price_10 : decode c_B_price 10 = .ok (.invokestatic 65, 3) := by decide +kernel
theorem d_B_price_13 : decode c_B_price 13 = .ok (.iload_n 2, 1) := by decide +kernel
theorem d_B_price_14 : decode c_B_price 14 = .ok (.i2l, 1) := by decide +kernel
theorem d_B_price_15 : decode c_B_price 15 = .ok (.lconst 1, 1) := by decide +kernel
theorem d_B_price_16 : decode c_B_price 16 = .ok (.ldc2_w 112, 3) := by decide +kernel
theorem d_B_price_19 : decode c_B_price 19 = .ok (.invokestatic 52, 3) := by decide +kernel
theorem d_B_price_22 : decode c_B_price 22 = .ok (.lload_n 3, 1) := by decide +kernel
theorem d_B_price_23 : decode c_B_price 23 = .ok (.lconst 1, 1) := by decide +kernel
theorem d_B_price_24 : decode c_B_price 24 = .ok (.ldc2_w 114, 3) := by decide +kernel
theorem d_B_price_27 : decode c_B_price 27 = .ok (.invokestatic 52, 3) := by decide +kernel
theorem d_B_price_30 : decode c_B_price 30 = .ok (.aload 6, 2) := by decide +kernel
theorem d_B_price_32 : decode c_B_price 32 = .ok (.getfield 116, 3) := by decide +kernel
theorem d_B_price_35 : decode c_B_price 35 = .ok (.iload_n 2, 1) := by decide +kernel
theorem d_B_price_36 : decode c_B_price 36 = .ok (.i2l, 1) := by decide +kernel
theorem d_B_price_37 : decode c_B_price 37 = .ok (.lload_n 3, 1) := by decide +kernel
theorem d_B_price_38 : decode c_B_price 38 = .ok (.iload 5, 2) := by decide +kernel
theorem d_B_price_40 : decode c_B_price 40 = .ok (.invokevirtual 120, 3) := by decide +kernel
theorem d_B_price_43 : decode c_B_price 43 = .ok (.ireturn, 1) := by decide +kernel
theorem d_B_rate_0 : decode c_B_rate 0 = .ok (.iload_n 1, 1) := by decide +kernel
theorem d_B_rate_1 : decode c_B_rate 1 = .ok (.iconst 4, 1) := by decide +kernel
theorem d_B_rate_2 : decode c_B_rate 2 = .ok (.invokestatic 65, 3) := by decide +kernel
theorem d_B_rate_5 : decode c_B_rate 5 = .ok (.lload_n 2, 1) := by decide +kernel
theorem d_B_rate_6 : decode c_B_rate 6 = .ok (.lconst 1, 1) := by decide +kernel
theorem d_B_rate_7 : decode c_B_rate 7 = .ok (.ldc2_w 114, 3) := by decide +kernel
theorem d_B_rate_10 : decode c_B_rate 10 = .ok (.invokestatic 52, 3) := by decide +kernel
theorem d_B_rate_13 : decode c_B_rate 13 = .ok (.aload_n 0, 1) := by decide +kernel
theorem d_B_rate_14 : decode c_B_rate 14 = .ok (.getfield 35, 3) := by decide +kernel
theorem d_B_rate_17 : decode c_B_rate 17 = .ok (.iload_n 1, 1) := by decide +kernel
theorem d_B_rate_18 : decode c_B_rate 18 = .ok (.laload, 1) := by decide +kernel
theorem d_B_rate_19 : decode c_B_rate 19 = .ok (.lload_n 2, 1) := by decide +kernel
theorem d_B_rate_20 : decode c_B_rate 20 = .ok (.lcmp, 1) := by decide +kernel
theorem d_B_rate_21 : decode c_B_rate 21 = .ok (.ifCond .eq 7, 3) := by decide +kernel
theorem d_B_rate_24 : decode c_B_rate 24 = .ok (.iconst 1, 1) := by decide +kernel
theorem d_B_rate_25 : decode c_B_rate 25 = .ok (.goto 4, 3) := by decide +kernel
theorem d_B_rate_28 : decode c_B_rate 28 = .ok (.iconst 0, 1) := by decide +kernel
theorem d_B_rate_29 : decode c_B_rate 29 = .ok (.istore 4, 2) := by decide +kernel
theorem d_B_rate_31 : decode c_B_rate 31 = .ok (.aload_n 0, 1) := by decide +kernel
theorem d_B_rate_32 : decode c_B_rate 32 = .ok (.getfield 35, 3) := by decide +kernel
theorem d_B_rate_35 : decode c_B_rate 35 = .ok (.iload_n 1, 1) := by decide +kernel
theorem d_B_rate_36 : decode c_B_rate 36 = .ok (.lload_n 2, 1) := by decide +kernel
theorem d_B_rate_37 : decode c_B_rate 37 = .ok (.lastore, 1) := by decide +kernel
theorem d_B_rate_38 : decode c_B_rate 38 = .ok (.iload 4, 2) := by decide +kernel
theorem d_B_rate_40 : decode c_B_rate 40 = .ok (.ireturn, 1) := by decide +kernel
theorem d_B_rule_0 : decode c_B_rule 0 = .ok (.aload_n 0, 1) := by decide +kernel
theorem d_B_rule_1 : decode c_B_rule 1 = .ok (.getfield 32, 3) := by decide +kernel
theorem d_B_rule_4 : decode c_B_rule 4 = .ok (.bipush 10, 2) := by decide +kernel
theorem d_B_rule_6 : decode c_B_rule 6 = .ok (.if_icmp .lt 5, 3) := by decide +kernel
theorem d_B_rule_9 : decode c_B_rule 9 = .ok (.iconst (-1), 1) := by decide +kernel
theorem d_B_rule_10 : decode c_B_rule 10 = .ok (.ireturn, 1) := by decide +kernel
theorem d_B_rule_11 : decode c_B_rule 11 = .ok (.aload_n 0, 1) := by decide +kernel
theorem d_B_rule_12 : decode c_B_rule 12 = .ok (.dup, 1) := by decide +kernel
theorem d_B_rule_13 : decode c_B_rule 13 = .ok (.getfield 32, 3) := by decide +kernel
theorem d_B_rule_16 : decode c_B_rule 16 = .ok (.iconst 1, 1) := by decide +kernel
theorem d_B_rule_17 : decode c_B_rule 17 = .ok (.iadd, 1) := by decide +kernel
theorem d_B_rule_18 : decode c_B_rule 18 = .ok (.putfield 32, 3) := by decide +kernel
theorem d_B_rule_21 : decode c_B_rule 21 = .ok (.aload_n 0, 1) := by decide +kernel
theorem d_B_rule_22 : decode c_B_rule 22 = .ok (.getfield 32, 3) := by decide +kernel
theorem d_B_rule_25 : decode c_B_rule 25 = .ok (.iconst 1, 1) := by decide +kernel
theorem d_B_rule_26 : decode c_B_rule 26 = .ok (.isub, 1) := by decide +kernel
theorem d_B_rule_27 : decode c_B_rule 27 = .ok (.ireturn, 1) := by decide +kernel
theorem d_B_search_0 : decode c_B_search 0 = .ok (.iload_n 1, 1) := by decide +kernel
theorem d_B_search_1 : decode c_B_search 1 = .ok (.bipush 12, 2) := by decide +kernel
theorem d_B_search_3 : decode c_B_search 3 = .ok (.invokestatic 65, 3) := by decide +kernel
theorem d_B_search_6 : decode c_B_search 6 = .ok (.lload_n 2, 1) := by decide +kernel
theorem d_B_search_7 : decode c_B_search 7 = .ok (.lload 4, 2) := by decide +kernel
theorem d_B_search_9 : decode c_B_search 9 = .ok (.invokestatic 68, 3) := by decide +kernel
theorem d_B_search_12 : decode c_B_search 12 = .ok (.lload 6, 2) := by decide +kernel
theorem d_B_search_14 : decode c_B_search 14 = .ok (.lload 8, 2) := by decide +kernel
theorem d_B_search_16 : decode c_B_search 16 = .ok (.invokestatic 68, 3) := by decide +kernel
theorem d_B_search_19 : decode c_B_search 19 = .ok (.aload_n 0, 1) := by decide +kernel
theorem d_B_search_20 : decode c_B_search 20 = .ok (.iconst 0, 1) := by decide +kernel
theorem d_B_search_21 : decode c_B_search 21 = .ok (.putfield 47, 3) := by decide +kernel
theorem d_B_search_24 : decode c_B_search 24 = .ok (.iconst 0, 1) := by decide +kernel
theorem d_B_search_25 : decode c_B_search 25 = .ok (.istore 10, 2) := by decide +kernel
theorem d_B_search_27 : decode c_B_search 27 = .ok (.iload 10, 2) := by decide +kernel
theorem d_B_search_29 : decode c_B_search 29 = .ok (.aload_n 0, 1) := by decide +kernel
theorem d_B_search_30 : decode c_B_search 30 = .ok (.getfield 15, 3) := by decide +kernel
theorem d_B_search_33 : decode c_B_search 33 = .ok (.if_icmp .ge 59, 3) := by decide +kernel
theorem d_B_search_36 : decode c_B_search 36 = .ok (.aload_n 0, 1) := by decide +kernel
theorem d_B_search_37 : decode c_B_search 37 = .ok (.getfield 11, 3) := by decide +kernel
theorem d_B_search_40 : decode c_B_search 40 = .ok (.iload 10, 2) := by decide +kernel
theorem d_B_search_42 : decode c_B_search 42 = .ok (.aaload, 1) := by decide +kernel
theorem d_B_search_43 : decode c_B_search 43 = .ok (.astore 11, 2) := by decide +kernel
theorem d_B_search_45 : decode c_B_search 45 = .ok (.aload 11, 2) := by decide +kernel
theorem d_B_search_47 : decode c_B_search 47 = .ok (.iload_n 1, 1) := by decide +kernel
theorem d_B_search_48 : decode c_B_search 48 = .ok (.invokevirtual 86, 3) := by decide +kernel
theorem d_B_search_51 : decode c_B_search 51 = .ok (.ifCond .eq 35, 3) := by decide +kernel
theorem d_B_search_54 : decode c_B_search 54 = .ok (.aload 11, 2) := by decide +kernel
theorem d_B_search_56 : decode c_B_search 56 = .ok (.iload_n 1, 1) := by decide +kernel
theorem d_B_search_57 : decode c_B_search 57 = .ok (.lload_n 2, 1) := by decide +kernel
theorem d_B_search_58 : decode c_B_search 58 = .ok (.lload 4, 2) := by decide +kernel
theorem d_B_search_60 : decode c_B_search 60 = .ok (.invokevirtual 108, 3) := by decide +kernel
theorem d_B_search_63 : decode c_B_search 63 = .ok (.ifCond .lt 23, 3) := by decide +kernel
theorem d_B_search_66 : decode c_B_search 66 = .ok (.aload 11, 2) := by decide +kernel
theorem d_B_search_68 : decode c_B_search 68 = .ok (.iload_n 1, 1) := by decide +kernel
theorem d_B_search_69 : decode c_B_search 69 = .ok (.lload 6, 2) := by decide +kernel
theorem d_B_search_71 : decode c_B_search 71 = .ok (.lload 8, 2) := by decide +kernel
theorem d_B_search_73 : decode c_B_search 73 = .ok (.invokevirtual 108, 3) := by decide +kernel
theorem d_B_search_76 : decode c_B_search 76 = .ok (.ifCond .gt 10, 3) := by decide +kernel
theorem d_B_search_79 : decode c_B_search 79 = .ok (.aload_n 0, 1) := by decide +kernel
theorem d_B_search_80 : decode c_B_search 80 = .ok (.aload 11, 2) := by decide +kernel
theorem d_B_search_82 : decode c_B_search 82 = .ok (.iload_n 1, 1) := by decide +kernel
theorem d_B_search_83 : decode c_B_search 83 = .ok (.invokevirtual 104, 3) := by decide +kernel
theorem d_B_search_86 : decode c_B_search 86 = .ok (.iinc 10 1, 3) := by decide +kernel
theorem d_B_search_89 : decode c_B_search 89 = .ok (.goto (-62), 3) := by decide +kernel
theorem d_B_search_92 : decode c_B_search 92 = .ok (.aload_n 0, 1) := by decide +kernel
theorem d_B_search_93 : decode c_B_search 93 = .ok (.getfield 47, 3) := by decide +kernel
theorem d_B_search_96 : decode c_B_search 96 = .ok (.ireturn, 1) := by decide +kernel
theorem d_B_standsBefore_0 : decode c_B_standsBefore 0 = .ok (.aload_n 0, 1) := by decide +kernel
theorem d_B_standsBefore_1 : decode c_B_standsBefore 1 = .ok (.getfield 19, 3) := by decide +kernel
theorem d_B_standsBefore_4 : decode c_B_standsBefore 4 = .ok (.aload_n 1, 1) := by decide +kernel
theorem d_B_standsBefore_5 : decode c_B_standsBefore 5 = .ok (.getfield 193, 3) := by decide +kernel
theorem d_B_standsBefore_8 : decode c_B_standsBefore 8 = .ok (.iaload, 1) := by decide +kernel
theorem d_B_standsBefore_9 : decode c_B_standsBefore 9 = .ok (.istore_n 3, 1) := by decide +kernel
theorem d_B_standsBefore_10 : decode c_B_standsBefore 10 = .ok (.aload_n 0, 1) := by decide +kernel
theorem d_B_standsBefore_11 : decode c_B_standsBefore 11 = .ok (.getfield 19, 3) := by decide +kernel
theorem d_B_standsBefore_14 : decode c_B_standsBefore 14 = .ok (.aload_n 2, 1) := by decide +kernel
theorem d_B_standsBefore_15 : decode c_B_standsBefore 15 = .ok (.getfield 193, 3) := by decide +kernel
theorem d_B_standsBefore_18 : decode c_B_standsBefore 18 = .ok (.iaload, 1) := by decide +kernel
theorem d_B_standsBefore_19 : decode c_B_standsBefore 19 = .ok (.istore 4, 2) := by decide +kernel
theorem d_B_standsBefore_21 : decode c_B_standsBefore 21 = .ok (.iload_n 3, 1) := by decide +kernel
theorem d_B_standsBefore_22 : decode c_B_standsBefore 22 = .ok (.iload 4, 2) := by decide +kernel
theorem d_B_standsBefore_24 : decode c_B_standsBefore 24 = .ok (.if_icmp .eq 17, 3) := by decide +kernel
theorem d_B_standsBefore_27 : decode c_B_standsBefore 27 = .ok (.iload_n 3, 1) := by decide +kernel
theorem d_B_standsBefore_28 : decode c_B_standsBefore 28 = .ok (.iload 4, 2) := by decide +kernel
theorem d_B_standsBefore_30 : decode c_B_standsBefore 30 = .ok (.if_icmp .ge 7, 3) := by decide +kernel
theorem d_B_standsBefore_33 : decode c_B_standsBefore 33 = .ok (.iconst 1, 1) := by decide +kernel
theorem d_B_standsBefore_34 : decode c_B_standsBefore 34 = .ok (.goto 23, 3) := by decide +kernel
theorem d_B_standsBefore_37 : decode c_B_standsBefore 37 = .ok (.iconst 0, 1) := by decide +kernel
theorem d_B_standsBefore_38 : decode c_B_standsBefore 38 = .ok (.goto 19, 3) := by decide +kernel
theorem d_B_standsBefore_41 : decode c_B_standsBefore 41 = .ok (.aload_n 1, 1) := by decide +kernel
theorem d_B_standsBefore_42 : decode c_B_standsBefore 42 = .ok (.getfield 161, 3) := by decide +kernel
theorem d_B_standsBefore_45 : decode c_B_standsBefore 45 = .ok (.aload_n 2, 1) := by decide +kernel
theorem d_B_standsBefore_46 : decode c_B_standsBefore 46 = .ok (.getfield 161, 3) := by decide +kernel
theorem d_B_standsBefore_49 : decode c_B_standsBefore 49 = .ok (.if_icmp .ge 7, 3) := by decide +kernel
theorem d_B_standsBefore_52 : decode c_B_standsBefore 52 = .ok (.iconst 1, 1) := by decide +kernel
theorem d_B_standsBefore_53 : decode c_B_standsBefore 53 = .ok (.goto 4, 3) := by decide +kernel
theorem d_B_standsBefore_56 : decode c_B_standsBefore 56 = .ok (.iconst 0, 1) := by decide +kernel
theorem d_B_standsBefore_57 : decode c_B_standsBefore 57 = .ok (.ireturn, 1) := by decide +kernel
theorem d_B_state_0 : decode c_B_state 0 = .ok (.aload_n 0, 1) := by decide +kernel
theorem d_B_state_1 : decode c_B_state 1 = .ok (.iload_n 1, 1) := by decide +kernel
theorem d_B_state_2 : decode c_B_state 2 = .ok (.invokevirtual 61, 3) := by decide +kernel
theorem d_B_state_5 : decode c_B_state 5 = .ok (.lload_n 2, 1) := by decide +kernel
theorem d_B_state_6 : decode c_B_state 6 = .ok (.invokevirtual 145, 3) := by decide +kernel
theorem d_B_state_9 : decode c_B_state 9 = .ok (.ireturn, 1) := by decide +kernel
theorem d_B_stock_0 : decode c_B_stock 0 = .ok (.aload_n 0, 1) := by decide +kernel
theorem d_B_stock_1 : decode c_B_stock 1 = .ok (.iload_n 1, 1) := by decide +kernel
theorem d_B_stock_2 : decode c_B_stock 2 = .ok (.invokevirtual 61, 3) := by decide +kernel
theorem d_B_stock_5 : decode c_B_stock 5 = .ok (.astore_n 3, 1) := by decide +kernel
theorem d_B_stock_6 : decode c_B_stock 6 = .ok (.iload_n 2, 1) := by decide +kernel
theorem d_B_stock_7 : decode c_B_stock 7 = .ok (.i2l, 1) := by decide +kernel
theorem d_B_stock_8 : decode c_B_stock 8 = .ok (.lconst 0, 1) := by decide +kernel
theorem d_B_stock_9 : decode c_B_stock 9 = .ok (.ldc2_w 135, 3) := by decide +kernel
theorem d_B_stock_12 : decode c_B_stock 12 = .ok (.invokestatic 52, 3) := by decide +kernel
theorem d_B_stock_15 : decode c_B_stock 15 = .ok (.aload_n 3, 1) := by decide +kernel
theorem d_B_stock_16 : decode c_B_stock 16 = .ok (.getfield 137, 3) := by decide +kernel
theorem d_B_stock_19 : decode c_B_stock 19 = .ok (.iload_n 2, 1) := by decide +kernel
theorem d_B_stock_20 : decode c_B_stock 20 = .ok (.if_icmp .eq 7, 3) := by decide +kernel
theorem d_B_stock_23 : decode c_B_stock 23 = .ok (.iconst 1, 1) := by decide +kernel
theorem d_B_stock_24 : decode c_B_stock 24 = .ok (.goto 4, 3) := by decide +kernel
theorem d_B_stock_27 : decode c_B_stock 27 = .ok (.iconst 0, 1) := by decide +kernel
theorem d_B_stock_28 : decode c_B_stock 28 = .ok (.istore 4, 2) := by decide +kernel
theorem d_B_stock_30 : decode c_B_stock 30 = .ok (.aload_n 3, 1) := by decide +kernel
theorem d_B_stock_31 : decode c_B_stock 31 = .ok (.iload_n 2, 1) := by decide +kernel
theorem d_B_stock_32 : decode c_B_stock 32 = .ok (.putfield 137, 3) := by decide +kernel
theorem d_B_stock_35 : decode c_B_stock 35 = .ok (.iload 4, 2) := by decide +kernel
theorem d_B_stock_37 : decode c_B_stock 37 = .ok (.ireturn, 1) := by decide +kernel
theorem d_B_told_0 : decode c_B_told 0 = .ok (.aload_n 0, 1) := by decide +kernel
theorem d_B_told_1 : decode c_B_told 1 = .ok (.iload_n 1, 1) := by decide +kernel
theorem d_B_told_2 : decode c_B_told 2 = .ok (.invokevirtual 61, 3) := by decide +kernel
theorem d_B_told_5 : decode c_B_told 5 = .ok (.astore 4, 2) := by decide +kernel
theorem d_B_told_7 : decode c_B_told 7 = .ok (.iload_n 2, 1) := by decide +kernel
theorem d_B_told_8 : decode c_B_told 8 = .ok (.bipush 12, 2) := by decide +kernel
theorem d_B_told_10 : decode c_B_told 10 = .ok (.invokestatic 65, 3) := by decide +kernel
theorem d_B_told_13 : decode c_B_told 13 = .ok (.iload_n 3, 1) := by decide +kernel
theorem d_B_told_14 : decode c_B_told 14 = .ok (.iconst 2, 1) := by decide +kernel
theorem d_B_told_15 : decode c_B_told 15 = .ok (.invokestatic 65, 3) := by decide +kernel
theorem d_B_told_18 : decode c_B_told 18 = .ok (.aload 4, 2) := by decide +kernel
theorem d_B_told_20 : decode c_B_told 20 = .ok (.iload_n 2, 1) := by decide +kernel
theorem d_B_told_21 : decode c_B_told 21 = .ok (.invokevirtual 86, 3) := by decide +kernel
theorem d_B_told_24 : decode c_B_told 24 = .ok (.ifCond .ne 7, 3) := by decide +kernel
theorem d_B_told_27 : decode c_B_told 27 = .ok (.ldc2_w 90, 3) := by decide +kernel
theorem d_B_told_30 : decode c_B_told 30 = .ok (.lreturn, 1) := by decide +kernel
theorem d_B_told_31 : decode c_B_told 31 = .ok (.iload_n 3, 1) := by decide +kernel
theorem d_B_told_32 : decode c_B_told 32 = .ok (.ifCond .ne 13, 3) := by decide +kernel
theorem d_B_told_35 : decode c_B_told 35 = .ok (.aload 4, 2) := by decide +kernel
theorem d_B_told_37 : decode c_B_told 37 = .ok (.getfield 92, 3) := by decide +kernel
theorem d_B_told_40 : decode c_B_told 40 = .ok (.iload_n 2, 1) := by decide +kernel
theorem d_B_told_41 : decode c_B_told 41 = .ok (.laload, 1) := by decide +kernel
theorem d_B_told_42 : decode c_B_told 42 = .ok (.goto 10, 3) := by decide +kernel
theorem d_B_told_45 : decode c_B_told 45 = .ok (.aload 4, 2) := by decide +kernel
theorem d_B_told_47 : decode c_B_told 47 = .ok (.getfield 95, 3) := by decide +kernel
theorem d_B_told_50 : decode c_B_told 50 = .ok (.iload_n 2, 1) := by decide +kernel
theorem d_B_told_51 : decode c_B_told 51 = .ok (.laload, 1) := by decide +kernel
theorem d_B_told_52 : decode c_B_told 52 = .ok (.lreturn, 1) := by decide +kernel
theorem d_B_value_0 : decode c_B_value 0 = .ok (.aload_n 0, 1) := by decide +kernel
theorem d_B_value_1 : decode c_B_value 1 = .ok (.iload_n 1, 1) := by decide +kernel
theorem d_B_value_2 : decode c_B_value 2 = .ok (.invokevirtual 61, 3) := by decide +kernel
theorem d_B_value_5 : decode c_B_value 5 = .ok (.astore 8, 2) := by decide +kernel
theorem d_B_value_7 : decode c_B_value 7 = .ok (.iload_n 2, 1) := by decide +kernel
theorem d_B_value_8 : decode c_B_value 8 = .ok (.bipush 12, 2) := by decide +kernel
theorem d_B_value_10 : decode c_B_value 10 = .ok (.invokestatic 65, 3) := by decide +kernel
theorem d_B_value_13 : decode c_B_value 13 = .ok (.lload_n 3, 1) := by decide +kernel
theorem d_B_value_14 : decode c_B_value 14 = .ok (.lload 5, 2) := by decide +kernel
theorem d_B_value_16 : decode c_B_value 16 = .ok (.invokestatic 68, 3) := by decide +kernel
theorem d_B_value_19 : decode c_B_value 19 = .ok (.iload 7, 2) := by decide +kernel
theorem d_B_value_21 : decode c_B_value 21 = .ok (.i2l, 1) := by decide +kernel
theorem d_B_value_22 : decode c_B_value 22 = .ok (.ldc2_w 72, 3) := by decide +kernel
theorem d_B_value_25 : decode c_B_value 25 = .ok (.ldc2_w 74, 3) := by decide +kernel
theorem d_B_value_28 : decode c_B_value 28 = .ok (.invokestatic 52, 3) := by decide +kernel
theorem d_B_value_31 : decode c_B_value 31 = .ok (.iload 7, 2) := by decide +kernel
theorem d_B_value_33 : decode c_B_value 33 = .ok (.ifCond .le 13, 3) := by decide +kernel
theorem d_B_value_36 : decode c_B_value 36 = .ok (.lload_n 3, 1) := by decide +kernel
theorem d_B_value_37 : decode c_B_value 37 = .ok (.iload 7, 2) := by decide +kernel
theorem d_B_value_39 : decode c_B_value 39 = .ok (.invokestatic 76, 3) := by decide +kernel
theorem d_B_value_42 : decode c_B_value 42 = .ok (.lmul, 1) := by decide +kernel
theorem d_B_value_43 : decode c_B_value 43 = .ok (.goto 4, 3) := by decide +kernel
theorem d_B_value_46 : decode c_B_value 46 = .ok (.lload_n 3, 1) := by decide +kernel
theorem d_B_value_47 : decode c_B_value 47 = .ok (.lstore 9, 2) := by decide +kernel
theorem d_B_value_49 : decode c_B_value 49 = .ok (.iload 7, 2) := by decide +kernel
theorem d_B_value_51 : decode c_B_value 51 = .ok (.ifCond .ge 15, 3) := by decide +kernel
theorem d_B_value_54 : decode c_B_value 54 = .ok (.lload 5, 2) := by decide +kernel
theorem d_B_value_56 : decode c_B_value 56 = .ok (.iload 7, 2) := by decide +kernel
theorem d_B_value_58 : decode c_B_value 58 = .ok (.ineg, 1) := by decide +kernel
theorem d_B_value_59 : decode c_B_value 59 = .ok (.invokestatic 76, 3) := by decide +kernel
theorem d_B_value_62 : decode c_B_value 62 = .ok (.lmul, 1) := by decide +kernel
theorem d_B_value_63 : decode c_B_value 63 = .ok (.goto 5, 3) := by decide +kernel
theorem d_B_value_66 : decode c_B_value 66 = .ok (.lload 5, 2) := by decide +kernel
theorem d_B_value_68 : decode c_B_value 68 = .ok (.lstore 11, 2) := by decide +kernel
theorem d_B_value_70 : decode c_B_value 70 = .ok (.aload 8, 2) := by decide +kernel
theorem d_B_value_72 : decode c_B_value 72 = .ok (.iload_n 2, 1) := by decide +kernel
theorem d_B_value_73 : decode c_B_value 73 = .ok (.lload 9, 2) := by decide +kernel
theorem d_B_value_75 : decode c_B_value 75 = .ok (.lload 11, 2) := by decide +kernel
theorem d_B_value_77 : decode c_B_value 77 = .ok (.invokevirtual 82, 3) := by decide +kernel
theorem d_B_value_80 : decode c_B_value 80 = .ok (.ireturn, 1) := by decide +kernel
