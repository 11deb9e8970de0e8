theorem d_L_alternates_0 : decode c_L_alternates 0 = .ok (.aload_n 3, 1) := by decide +kernel
theorem d_L_alternates_1 : decode c_L_alternates 1 = .ok (.iconst 0, 1) := by decide +kernel
theorem d_L_alternates_2 : decode c_L_alternates 2 = .ok (.aload_n 0, 1) := by decide +kernel
theorem d_L_alternates_3 : decode c_L_alternates 3 = .ok (.iload_n 1, 1) := by decide +kernel
theorem d_L_alternates_4 : decode c_L_alternates 4 = .ok (.iload_n 2, 1) := by decide +kernel
theorem d_L_alternates_5 : decode c_L_alternates 5 = .ok (.invokevirtual 33, 3) := by decide +kernel
theorem d_L_alternates_8 : decode c_L_alternates 8 = .ok (.i2l, 1) := by decide +kernel
theorem d_L_alternates_9 : decode c_L_alternates 9 = .ok (.lastore, 1) := by decide +kernel
theorem d_L_alternates_10 : decode c_L_alternates 10 = .ok (.goto 7, 3) := by decide +kernel
theorem d_L_alternates_13 : decode c_L_alternates 13 = .ok (.astore 4, 2) := by decide +kernel
theorem d_L_alternates_15 : decode c_L_alternates 15 = .ok (.iconst 1, 1) := by decide +kernel
theorem d_L_alternates_16 : decode c_L_alternates 16 = .ok (.ireturn, 1) := by decide +kernel
theorem d_L_alternates_17 : decode c_L_alternates 17 = .ok (.iconst 0, 1) := by decide +kernel
theorem d_L_alternates_18 : decode c_L_alternates 18 = .ok (.ireturn, 1) := by decide +kernel
theorem d_L_ask_0 : decode c_L_ask 0 = .ok (.aload 4, 2) := by decide +kernel
theorem d_L_ask_2 : decode c_L_ask 2 = .ok (.iconst 0, 1) := by decide +kernel
theorem d_L_ask_3 : decode c_L_ask 3 = .ok (.aload_n 0, 1) := by decide +kernel
theorem d_L_ask_4 : decode c_L_ask 4 = .ok (.iload_n 1, 1) := by decide +kernel
theorem d_L_ask_5 : decode c_L_ask 5 = .ok (.iload_n 2, 1) := by decide +kernel
theorem d_L_ask_6 : decode c_L_ask 6 = .ok (.iload_n 3, 1) := by decide +kernel
theorem d_L_ask_7 : decode c_L_ask 7 = .ok (.invokevirtual 29, 3) := by decide +kernel
theorem d_L_ask_10 : decode c_L_ask 10 = .ok (.ifCond .eq 7, 3) := by decide +kernel
theorem d_L_ask_13 : decode c_L_ask 13 = .ok (.lconst 1, 1) := by decide +kernel
theorem d_L_ask_14 : decode c_L_ask 14 = .ok (.goto 4, 3) := by decide +kernel
theorem d_L_ask_17 : decode c_L_ask 17 = .ok (.lconst 0, 1) := by decide +kernel
theorem d_L_ask_18 : decode c_L_ask 18 = .ok (.lastore, 1) := by decide +kernel
theorem d_L_ask_19 : decode c_L_ask 19 = .ok (.goto 11, 3) := by decide +kernel
theorem d_L_ask_22 : decode c_L_ask 22 = .ok (.astore 5, 2) := by decide +kernel
theorem d_L_ask_24 : decode c_L_ask 24 = .ok (.iconst 1, 1) := by decide +kernel
theorem d_L_ask_25 : decode c_L_ask 25 = .ok (.ireturn, 1) := by decide +kernel
theorem d_L_ask_26 : decode c_L_ask 26 = .ok (.astore 5, 2) := by decide +kernel
theorem d_L_ask_28 : decode c_L_ask 28 = .ok (.iconst 2, 1) := by decide +kernel
theorem d_L_ask_29 : decode c_L_ask 29 = .ok (.ireturn, 1) := by decide +kernel
theorem d_L_ask_30 : decode c_L_ask 30 = .ok (.iconst 0, 1) := by decide +kernel
theorem d_L_ask_31 : decode c_L_ask 31 = .ok (.ireturn, 1) := by decide +kernel
theorem d_L_best_0 : decode c_L_best 0 = .ok (.aload_n 3, 1) := by decide +kernel
theorem d_L_best_1 : decode c_L_best 1 = .ok (.iconst 0, 1) := by decide +kernel
theorem d_L_best_2 : decode c_L_best 2 = .ok (.aload_n 0, 1) := by decide +kernel
theorem d_L_best_3 : decode c_L_best 3 = .ok (.iload_n 1, 1) := by decide +kernel
theorem d_L_best_4 : decode c_L_best 4 = .ok (.iload_n 2, 1) := by decide +kernel
theorem d_L_best_5 : decode c_L_best 5 = .ok (.invokevirtual 67, 3) := by decide +kernel
theorem d_L_best_8 : decode c_L_best 8 = .ok (.i2l, 1) := by decide +kernel
theorem d_L_best_9 : decode c_L_best 9 = .ok (.lastore, 1) := by decide +kernel
theorem d_L_best_10 : decode c_L_best 10 = .ok (.goto 11, 3) := by decide +kernel
theorem d_L_best_13 : decode c_L_best 13 = .ok (.astore 4, 2) := by decide +kernel
theorem d_L_best_15 : decode c_L_best 15 = .ok (.iconst 1, 1) := by decide +kernel
theorem d_L_best_16 : decode c_L_best 16 = .ok (.ireturn, 1) := by decide +kernel
theorem d_L_best_17 : decode c_L_best 17 = .ok (.astore 4, 2) := by decide +kernel
theorem d_L_best_19 : decode c_L_best 19 = .ok (.iconst 2, 1) := by decide +kernel
theorem d_L_best_20 : decode c_L_best 20 = .ok (.ireturn, 1) := by decide +kernel
theorem d_L_best_21 : decode c_L_best 21 = .ok (.iconst 0, 1) := by decide +kernel
theorem d_L_best_22 : decode c_L_best 22 = .ok (.ireturn, 1) := by decide +kernel
theorem d_L_buy_0 : decode c_L_buy 0 = .ok (.aload 6, 2) := by decide +kernel
theorem d_L_buy_2 : decode c_L_buy 2 = .ok (.iconst 0, 1) := by decide +kernel
theorem d_L_buy_3 : decode c_L_buy 3 = .ok (.aload_n 0, 1) := by decide +kernel
theorem d_L_buy_4 : decode c_L_buy 4 = .ok (.iload_n 1, 1) := by decide +kernel
theorem d_L_buy_5 : decode c_L_buy 5 = .ok (.iload_n 2, 1) := by decide +kernel
theorem d_L_buy_6 : decode c_L_buy 6 = .ok (.iload_n 3, 1) := by decide +kernel
theorem d_L_buy_7 : decode c_L_buy 7 = .ok (.lload 4, 2) := by decide +kernel
theorem d_L_buy_9 : decode c_L_buy 9 = .ok (.invokevirtual 74, 3) := by decide +kernel
theorem d_L_buy_12 : decode c_L_buy 12 = .ok (.i2l, 1) := by decide +kernel
theorem d_L_buy_13 : decode c_L_buy 13 = .ok (.lastore, 1) := by decide +kernel
theorem d_L_buy_14 : decode c_L_buy 14 = .ok (.goto 11, 3) := by decide +kernel
theorem d_L_buy_17 : decode c_L_buy 17 = .ok (.astore 7, 2) := by decide +kernel
theorem d_L_buy_19 : decode c_L_buy 19 = .ok (.iconst 1, 1) := by decide +kernel
theorem d_L_buy_20 : decode c_L_buy 20 = .ok (.ireturn, 1) := by decide +kernel
theorem d_L_buy_21 : decode c_L_buy 21 = .ok (.astore 7, 2) := by decide +kernel
theorem d_L_buy_23 : decode c_L_buy 23 = .ok (.iconst 2, 1) := by decide +kernel
theorem d_L_buy_24 : decode c_L_buy 24 = .ok (.ireturn, 1) := by decide +kernel
theorem d_L_buy_25 : decode c_L_buy 25 = .ok (.iconst 0, 1) := by decide +kernel
theorem d_L_buy_26 : decode c_L_buy 26 = .ok (.ireturn, 1) := by decide +kernel
theorem d_L_choose_0 : decode c_L_choose 0 = .ok (.aload 6, 2) := by decide +kernel
theorem d_L_choose_2 : decode c_L_choose 2 = .ok (.iconst 0, 1) := by decide +kernel
theorem d_L_choose_3 : decode c_L_choose 3 = .ok (.aload_n 0, 1) := by decide +kernel
theorem d_L_choose_4 : decode c_L_choose 4 = .ok (.iload_n 1, 1) := by decide +kernel
theorem d_L_choose_5 : decode c_L_choose 5 = .ok (.iload_n 2, 1) := by decide +kernel
theorem d_L_choose_6 : decode c_L_choose 6 = .ok (.iload_n 3, 1) := by decide +kernel
theorem d_L_choose_7 : decode c_L_choose 7 = .ok (.lload 4, 2) := by decide +kernel
theorem d_L_choose_9 : decode c_L_choose 9 = .ok (.invokevirtual 70, 3) := by decide +kernel
theorem d_L_choose_12 : decode c_L_choose 12 = .ok (.i2l, 1) := by decide +kernel
theorem d_L_choose_13 : decode c_L_choose 13 = .ok (.lastore, 1) := by decide +kernel
theorem d_L_choose_14 : decode c_L_choose 14 = .ok (.goto 11, 3) := by decide +kernel
theorem d_L_choose_17 : decode c_L_choose 17 = .ok (.astore 7, 2) := by decide +kernel
theorem d_L_choose_19 : decode c_L_choose 19 = .ok (.iconst 1, 1) := by decide +kernel
theorem d_L_choose_20 : decode c_L_choose 20 = .ok (.ireturn, 1) := by decide +kernel
theorem d_L_choose_21 : decode c_L_choose 21 = .ok (.astore 7, 2) := by decide +kernel
theorem d_L_choose_23 : decode c_L_choose 23 = .ok (.iconst 2, 1) := by decide +kernel
theorem d_L_choose_24 : decode c_L_choose 24 = .ok (.ireturn, 1) := by decide +kernel
theorem d_L_choose_25 : decode c_L_choose 25 = .ok (.iconst 0, 1) := by decide +kernel
theorem d_L_choose_26 : decode c_L_choose 26 = .ok (.ireturn, 1) := by decide +kernel
theorem d_L_cost_0 : decode c_L_cost 0 = .ok (.aload_n 3, 1) := by decide +kernel
theorem d_L_cost_1 : decode c_L_cost 1 = .ok (.iconst 0, 1) := by decide +kernel
theorem d_L_cost_2 : decode c_L_cost 2 = .ok (.aload_n 0, 1) := by decide +kernel
theorem d_L_cost_3 : decode c_L_cost 3 = .ok (.iload_n 1, 1) := by decide +kernel
theorem d_L_cost_4 : decode c_L_cost 4 = .ok (.iload_n 2, 1) := by decide +kernel
theorem d_L_cost_5 : decode c_L_cost 5 = .ok (.invokevirtual 63, 3) := by decide +kernel
theorem d_L_cost_8 : decode c_L_cost 8 = .ok (.lastore, 1) := by decide +kernel
theorem d_L_cost_9 : decode c_L_cost 9 = .ok (.goto 11, 3) := by decide +kernel
theorem d_L_cost_12 : decode c_L_cost 12 = .ok (.astore 4, 2) := by decide +kernel
theorem d_L_cost_14 : decode c_L_cost 14 = .ok (.iconst 1, 1) := by decide +kernel
theorem d_L_cost_15 : decode c_L_cost 15 = .ok (.ireturn, 1) := by decide +kernel
theorem d_L_cost_16 : decode c_L_cost 16 = .ok (.astore 4, 2) := by decide +kernel
theorem d_L_cost_18 : decode c_L_cost 18 = .ok (.iconst 2, 1) := by decide +kernel
theorem d_L_cost_19 : decode c_L_cost 19 = .ok (.ireturn, 1) := by decide +kernel
theorem d_L_cost_20 : decode c_L_cost 20 = .ok (.iconst 0, 1) := by decide +kernel
theorem d_L_cost_21 : decode c_L_cost 21 = .ok (.ireturn, 1) := by decide +kernel
theorem d_L_derate_0 : decode c_L_derate 0 = .ok (.aload 8, 2) := by decide +kernel
theorem d_L_derate_2 : decode c_L_derate 2 = .ok (.iconst 0, 1) := by decide +kernel
theorem d_L_derate_3 : decode c_L_derate 3 = .ok (.aload_n 0, 1) := by decide +kernel
theorem d_L_derate_4 : decode c_L_derate 4 = .ok (.iload_n 1, 1) := by decide +kernel
theorem d_L_derate_5 : decode c_L_derate 5 = .ok (.iload_n 2, 1) := by decide +kernel
theorem d_L_derate_6 : decode c_L_derate 6 = .ok (.lload_n 3, 1) := by decide +kernel
theorem d_L_derate_7 : decode c_L_derate 7 = .ok (.lload 5, 2) := by decide +kernel
theorem d_L_derate_9 : decode c_L_derate 9 = .ok (.iload 7, 2) := by decide +kernel
theorem d_L_derate_11 : decode c_L_derate 11 = .ok (.invokevirtual 77, 3) := by decide +kernel
theorem d_L_derate_14 : decode c_L_derate 14 = .ok (.i2l, 1) := by decide +kernel
theorem d_L_derate_15 : decode c_L_derate 15 = .ok (.lastore, 1) := by decide +kernel
theorem d_L_derate_16 : decode c_L_derate 16 = .ok (.goto 11, 3) := by decide +kernel
theorem d_L_derate_19 : decode c_L_derate 19 = .ok (.astore 9, 2) := by decide +kernel
theorem d_L_derate_21 : decode c_L_derate 21 = .ok (.iconst 1, 1) := by decide +kernel
theorem d_L_derate_22 : decode c_L_derate 22 = .ok (.ireturn, 1) := by decide +kernel
theorem d_L_derate_23 : decode c_L_derate 23 = .ok (.astore 9, 2) := by decide +kernel
theorem d_L_derate_25 : decode c_L_derate 25 = .ok (.iconst 2, 1) := by decide +kernel
theorem d_L_derate_26 : decode c_L_derate 26 = .ok (.ireturn, 1) := by decide +kernel
theorem d_L_derate_27 : decode c_L_derate 27 = .ok (.iconst 0, 1) := by decide +kernel
theorem d_L_derate_28 : decode c_L_derate 28 = .ok (.ireturn, 1) := by decide +kernel
theorem d_L_life_0 : decode c_L_life 0 = .ok (.aload 5, 2) := by decide +kernel
theorem d_L_life_2 : decode c_L_life 2 = .ok (.iconst 0, 1) := by decide +kernel
theorem d_L_life_3 : decode c_L_life 3 = .ok (.aload_n 0, 1) := by decide +kernel
theorem d_L_life_4 : decode c_L_life 4 = .ok (.iload_n 1, 1) := by decide +kernel
theorem d_L_life_5 : decode c_L_life 5 = .ok (.lload_n 2, 1) := by decide +kernel
theorem d_L_life_6 : decode c_L_life 6 = .ok (.iload 4, 2) := by decide +kernel
theorem d_L_life_8 : decode c_L_life 8 = .ok (.invokevirtual 55, 3) := by decide +kernel
theorem d_L_life_11 : decode c_L_life 11 = .ok (.ifCond .eq 7, 3) := by decide +kernel
theorem d_L_life_14 : decode c_L_life 14 = .ok (.lconst 1, 1) := by decide +kernel
theorem d_L_life_15 : decode c_L_life 15 = .ok (.goto 4, 3) := by decide +kernel
theorem d_L_life_18 : decode c_L_life 18 = .ok (.lconst 0, 1) := by decide +kernel
theorem d_L_life_19 : decode c_L_life 19 = .ok (.lastore, 1) := by decide +kernel
theorem d_L_life_20 : decode c_L_life 20 = .ok (.goto 11, 3) := by decide +kernel
theorem d_L_life_23 : decode c_L_life 23 = .ok (.astore 6, 2) := by decide +kernel
theorem d_L_life_25 : decode c_L_life 25 = .ok (.iconst 1, 1) := by decide +kernel
theorem d_L_life_26 : decode c_L_life 26 = .ok (.ireturn, 1) := by decide +kernel
theorem d_L_life_27 : decode c_L_life 27 = .ok (.astore 6, 2) := by decide +kernel
theorem d_L_life_29 : decode c_L_life 29 = .ok (.iconst 2, 1) := by decide +kernel
theorem d_L_life_30 : decode c_L_life 30 = .ok (.ireturn, 1) := by decide +kernel
theorem d_L_life_31 : decode c_L_life 31 = .ok (.iconst 0, 1) := by decide +kernel
theorem d_L_life_32 : decode c_L_life 32 = .ok (.ireturn, 1) := by decide +kernel
theorem d_L_maker_0 : decode c_L_maker 0 = .ok (.aload_n 3, 1) := by decide +kernel
theorem d_L_maker_1 : decode c_L_maker 1 = .ok (.iconst 0, 1) := by decide +kernel
theorem d_L_maker_2 : decode c_L_maker 2 = .ok (.aload_n 0, 1) := by decide +kernel
theorem d_L_maker_3 : decode c_L_maker 3 = .ok (.iload_n 1, 1) := by decide +kernel
theorem d_L_maker_4 : decode c_L_maker 4 = .ok (.iload_n 2, 1) := by decide +kernel
theorem d_L_maker_5 : decode c_L_maker 5 = .ok (.invokevirtual 15, 3) := by decide +kernel
theorem d_L_maker_8 : decode c_L_maker 8 = .ok (.ifCond .eq 7, 3) := by decide +kernel
theorem d_L_maker_11 : decode c_L_maker 11 = .ok (.lconst 1, 1) := by decide +kernel
theorem d_L_maker_12 : decode c_L_maker 12 = .ok (.goto 4, 3) := by decide +kernel
theorem d_L_maker_15 : decode c_L_maker 15 = .ok (.lconst 0, 1) := by decide +kernel
theorem d_L_maker_16 : decode c_L_maker 16 = .ok (.lastore, 1) := by decide +kernel
theorem d_L_maker_17 : decode c_L_maker 17 = .ok (.goto 7, 3) := by decide +kernel
theorem d_L_maker_20 : decode c_L_maker 20 = .ok (.astore 4, 2) := by decide +kernel
theorem d_L_maker_22 : decode c_L_maker 22 = .ok (.iconst 1, 1) := by decide +kernel
theorem d_L_maker_23 : decode c_L_maker 23 = .ok (.ireturn, 1) := by decide +kernel
theorem d_L_maker_24 : decode c_L_maker 24 = .ok (.iconst 0, 1) := by decide +kernel
theorem d_L_maker_25 : decode c_L_maker 25 = .ok (.ireturn, 1) := by decide +kernel
theorem d_L_pack_0 : decode c_L_pack 0 = .ok (.aload_n 3, 1) := by decide +kernel
theorem d_L_pack_1 : decode c_L_pack 1 = .ok (.iconst 0, 1) := by decide +kernel
theorem d_L_pack_2 : decode c_L_pack 2 = .ok (.aload_n 0, 1) := by decide +kernel
theorem d_L_pack_3 : decode c_L_pack 3 = .ok (.iload_n 1, 1) := by decide +kernel
theorem d_L_pack_4 : decode c_L_pack 4 = .ok (.iload_n 2, 1) := by decide +kernel
theorem d_L_pack_5 : decode c_L_pack 5 = .ok (.invokevirtual 49, 3) := by decide +kernel
theorem d_L_pack_8 : decode c_L_pack 8 = .ok (.ifCond .eq 7, 3) := by decide +kernel
theorem d_L_pack_11 : decode c_L_pack 11 = .ok (.lconst 1, 1) := by decide +kernel
theorem d_L_pack_12 : decode c_L_pack 12 = .ok (.goto 4, 3) := by decide +kernel
theorem d_L_pack_15 : decode c_L_pack 15 = .ok (.lconst 0, 1) := by decide +kernel
theorem d_L_pack_16 : decode c_L_pack 16 = .ok (.lastore, 1) := by decide +kernel
theorem d_L_pack_17 : decode c_L_pack 17 = .ok (.goto 11, 3) := by decide +kernel
theorem d_L_pack_20 : decode c_L_pack 20 = .ok (.astore 4, 2) := by decide +kernel
theorem d_L_pack_22 : decode c_L_pack 22 = .ok (.iconst 1, 1) := by decide +kernel
theorem d_L_pack_23 : decode c_L_pack 23 = .ok (.ireturn, 1) := by decide +kernel
theorem d_L_pack_24 : decode c_L_pack 24 = .ok (.astore 4, 2) := by decide +kernel
theorem d_L_pack_26 : decode c_L_pack 26 = .ok (.iconst 2, 1) := by decide +kernel
theorem d_L_pack_27 : decode c_L_pack 27 = .ok (.ireturn, 1) := by decide +kernel
theorem d_L_pack_28 : decode c_L_pack 28 = .ok (.iconst 0, 1) := by decide +kernel
theorem d_L_pack_29 : decode c_L_pack 29 = .ok (.ireturn, 1) := by decide +kernel
theorem d_L_part_0 : decode c_L_part 0 = .ok (.aload_n 2, 1) := by decide +kernel
theorem d_L_part_1 : decode c_L_part 1 = .ok (.iconst 0, 1) := by decide +kernel
theorem d_L_part_2 : decode c_L_part 2 = .ok (.aload_n 0, 1) := by decide +kernel
theorem d_L_part_3 : decode c_L_part 3 = .ok (.iload_n 1, 1) := by decide +kernel
theorem d_L_part_4 : decode c_L_part 4 = .ok (.invokevirtual 7, 3) := by decide +kernel
theorem d_L_part_7 : decode c_L_part 7 = .ok (.i2l, 1) := by decide +kernel
theorem d_L_part_8 : decode c_L_part 8 = .ok (.lastore, 1) := by decide +kernel
theorem d_L_part_9 : decode c_L_part 9 = .ok (.goto 6, 3) := by decide +kernel
theorem d_L_part_12 : decode c_L_part 12 = .ok (.astore_n 3, 1) := by decide +kernel
theorem d_L_part_13 : decode c_L_part 13 = .ok (.iconst 1, 1) := by decide +kernel
theorem d_L_part_14 : decode c_L_part 14 = .ok (.ireturn, 1) := by decide +kernel
theorem d_L_part_15 : decode c_L_part 15 = .ok (.iconst 0, 1) := by decide +kernel
theorem d_L_part_16 : decode c_L_part 16 = .ok (.ireturn, 1) := by decide +kernel
theorem d_L_price_0 : decode c_L_price 0 = .ok (.aload 6, 2) := by decide +kernel
theorem d_L_price_2 : decode c_L_price 2 = .ok (.iconst 0, 1) := by decide +kernel
theorem d_L_price_3 : decode c_L_price 3 = .ok (.aload_n 0, 1) := by decide +kernel
theorem d_L_price_4 : decode c_L_price 4 = .ok (.iload_n 1, 1) := by decide +kernel
theorem d_L_price_5 : decode c_L_price 5 = .ok (.iload_n 2, 1) := by decide +kernel
theorem d_L_price_6 : decode c_L_price 6 = .ok (.lload_n 3, 1) := by decide +kernel
theorem d_L_price_7 : decode c_L_price 7 = .ok (.iload 5, 2) := by decide +kernel
theorem d_L_price_9 : decode c_L_price 9 = .ok (.invokevirtual 41, 3) := by decide +kernel
theorem d_L_price_12 : decode c_L_price 12 = .ok (.ifCond .eq 7, 3) := by decide +kernel
theorem d_L_price_15 : decode c_L_price 15 = .ok (.lconst 1, 1) := by decide +kernel
theorem d_L_price_16 : decode c_L_price 16 = .ok (.goto 4, 3) := by decide +kernel
theorem d_L_price_19 : decode c_L_price 19 = .ok (.lconst 0, 1) := by decide +kernel
theorem d_L_price_20 : decode c_L_price 20 = .ok (.lastore, 1) := by decide +kernel
theorem d_L_price_21 : decode c_L_price 21 = .ok (.goto 11, 3) := by decide +kernel
theorem d_L_price_24 : decode c_L_price 24 = .ok (.astore 7, 2) := by decide +kernel
theorem d_L_price_26 : decode c_L_price 26 = .ok (.iconst 1, 1) := by decide +kernel
theorem d_L_price_27 : decode c_L_price 27 = .ok (.ireturn, 1) := by decide +kernel
theorem d_L_price_28 : decode c_L_price 28 = .ok (.astore 7, 2) := by decide +kernel
theorem d_L_price_30 : decode c_L_price 30 = .ok (.iconst 2, 1) := by decide +kernel
theorem d_L_price_31 : decode c_L_price 31 = .ok (.ireturn, 1) := by decide +kernel
theorem d_L_price_32 : decode c_L_price 32 = .ok (.iconst 0, 1) := by decide +kernel
theorem d_L_price_33 : decode c_L_price 33 = .ok (.ireturn, 1) := by decide +kernel
theorem d_L_rate_0 : decode c_L_rate 0 = .ok (.aload 4, 2) := by decide +kernel
theorem d_L_rate_2 : decode c_L_rate 2 = .ok (.iconst 0, 1) := by decide +kernel
theorem d_L_rate_3 : decode c_L_rate 3 = .ok (.aload_n 0, 1) := by decide +kernel
theorem d_L_rate_4 : decode c_L_rate 4 = .ok (.iload_n 1, 1) := by decide +kernel
theorem d_L_rate_5 : decode c_L_rate 5 = .ok (.lload_n 2, 1) := by decide +kernel
theorem d_L_rate_6 : decode c_L_rate 6 = .ok (.invokevirtual 45, 3) := by decide +kernel
theorem d_L_rate_9 : decode c_L_rate 9 = .ok (.ifCond .eq 7, 3) := by decide +kernel
theorem d_L_rate_12 : decode c_L_rate 12 = .ok (.lconst 1, 1) := by decide +kernel
theorem d_L_rate_13 : decode c_L_rate 13 = .ok (.goto 4, 3) := by decide +kernel
theorem d_L_rate_16 : decode c_L_rate 16 = .ok (.lconst 0, 1) := by decide +kernel
theorem d_L_rate_17 : decode c_L_rate 17 = .ok (.lastore, 1) := by decide +kernel
theorem d_L_rate_18 : decode c_L_rate 18 = .ok (.goto 11, 3) := by decide +kernel
theorem d_L_rate_21 : decode c_L_rate 21 = .ok (.astore 5, 2) := by decide +kernel
theorem d_L_rate_23 : decode c_L_rate 23 = .ok (.iconst 1, 1) := by decide +kernel
theorem d_L_rate_24 : decode c_L_rate 24 = .ok (.ireturn, 1) := by decide +kernel
theorem d_L_rate_25 : decode c_L_rate 25 = .ok (.astore 5, 2) := by decide +kernel
theorem d_L_rate_27 : decode c_L_rate 27 = .ok (.iconst 2, 1) := by decide +kernel
theorem d_L_rate_28 : decode c_L_rate 28 = .ok (.ireturn, 1) := by decide +kernel
theorem d_L_rate_29 : decode c_L_rate 29 = .ok (.iconst 0, 1) := by decide +kernel
theorem d_L_rate_30 : decode c_L_rate 30 = .ok (.ireturn, 1) := by decide +kernel
theorem d_L_search_0 : decode c_L_search 0 = .ok (.aload 10, 2) := by decide +kernel
theorem d_L_search_2 : decode c_L_search 2 = .ok (.iconst 0, 1) := by decide +kernel
theorem d_L_search_3 : decode c_L_search 3 = .ok (.aload_n 0, 1) := by decide +kernel
theorem d_L_search_4 : decode c_L_search 4 = .ok (.iload_n 1, 1) := by decide +kernel
theorem d_L_search_5 : decode c_L_search 5 = .ok (.lload_n 2, 1) := by decide +kernel
theorem d_L_search_6 : decode c_L_search 6 = .ok (.lload 4, 2) := by decide +kernel
theorem d_L_search_8 : decode c_L_search 8 = .ok (.lload 6, 2) := by decide +kernel
theorem d_L_search_10 : decode c_L_search 10 = .ok (.lload 8, 2) := by decide +kernel
theorem d_L_search_12 : decode c_L_search 12 = .ok (.invokevirtual 37, 3) := by decide +kernel
theorem d_L_search_15 : decode c_L_search 15 = .ok (.i2l, 1) := by decide +kernel
theorem d_L_search_16 : decode c_L_search 16 = .ok (.lastore, 1) := by decide +kernel
theorem d_L_search_17 : decode c_L_search 17 = .ok (.goto 11, 3) := by decide +kernel
theorem d_L_search_20 : decode c_L_search 20 = .ok (.astore 11, 2) := by decide +kernel
theorem d_L_search_22 : decode c_L_search 22 = .ok (.iconst 1, 1) := by decide +kernel
theorem d_L_search_23 : decode c_L_search 23 = .ok (.ireturn, 1) := by decide +kernel
theorem d_L_search_24 : decode c_L_search 24 = .ok (.astore 11, 2) := by decide +kernel
theorem d_L_search_26 : decode c_L_search 26 = .ok (.iconst 2, 1) := by decide +kernel
theorem d_L_search_27 : decode c_L_search 27 = .ok (.ireturn, 1) := by decide +kernel
theorem d_L_search_28 : decode c_L_search 28 = .ok (.iconst 0, 1) := by decide +kernel
theorem d_L_search_29 : decode c_L_search 29 = .ok (.ireturn, 1) := by decide +kernel
theorem d_L_state_0 : decode c_L_state 0 = .ok (.aload 4, 2) := by decide +kernel
theorem d_L_state_2 : decode c_L_state 2 = .ok (.iconst 0, 1) := by decide +kernel
theorem d_L_state_3 : decode c_L_state 3 = .ok (.aload_n 0, 1) := by decide +kernel
theorem d_L_state_4 : decode c_L_state 4 = .ok (.iload_n 1, 1) := by decide +kernel
theorem d_L_state_5 : decode c_L_state 5 = .ok (.lload_n 2, 1) := by decide +kernel
theorem d_L_state_6 : decode c_L_state 6 = .ok (.invokevirtual 59, 3) := by decide +kernel
theorem d_L_state_9 : decode c_L_state 9 = .ok (.i2l, 1) := by decide +kernel
theorem d_L_state_10 : decode c_L_state 10 = .ok (.lastore, 1) := by decide +kernel
theorem d_L_state_11 : decode c_L_state 11 = .ok (.goto 7, 3) := by decide +kernel
theorem d_L_state_14 : decode c_L_state 14 = .ok (.astore 5, 2) := by decide +kernel
theorem d_L_state_16 : decode c_L_state 16 = .ok (.iconst 1, 1) := by decide +kernel
theorem d_L_state_17 : decode c_L_state 17 = .ok (.ireturn, 1) := by decide +kernel
theorem d_L_state_18 : decode c_L_state 18 = .ok (.iconst 0, 1) := by decide +kernel
theorem d_L_state_19 : decode c_L_state 19 = .ok (.ireturn, 1) := by decide +kernel
theorem d_L_stock_0 : decode c_L_stock 0 = .ok (.aload_n 3, 1) := by decide +kernel
theorem d_L_stock_1 : decode c_L_stock 1 = .ok (.iconst 0, 1) := by decide +kernel
theorem d_L_stock_2 : decode c_L_stock 2 = .ok (.aload_n 0, 1) := by decide +kernel
theorem d_L_stock_3 : decode c_L_stock 3 = .ok (.iload_n 1, 1) := by decide +kernel
theorem d_L_stock_4 : decode c_L_stock 4 = .ok (.iload_n 2, 1) := by decide +kernel
theorem d_L_stock_5 : decode c_L_stock 5 = .ok (.invokevirtual 52, 3) := by decide +kernel
theorem d_L_stock_8 : decode c_L_stock 8 = .ok (.ifCond .eq 7, 3) := by decide +kernel
theorem d_L_stock_11 : decode c_L_stock 11 = .ok (.lconst 1, 1) := by decide +kernel
theorem d_L_stock_12 : decode c_L_stock 12 = .ok (.goto 4, 3) := by decide +kernel
theorem d_L_stock_15 : decode c_L_stock 15 = .ok (.lconst 0, 1) := by decide +kernel
theorem d_L_stock_16 : decode c_L_stock 16 = .ok (.lastore, 1) := by decide +kernel
theorem d_L_stock_17 : decode c_L_stock 17 = .ok (.goto 11, 3) := by decide +kernel
theorem d_L_stock_20 : decode c_L_stock 20 = .ok (.astore 4, 2) := by decide +kernel
theorem d_L_stock_22 : decode c_L_stock 22 = .ok (.iconst 1, 1) := by decide +kernel
theorem d_L_stock_23 : decode c_L_stock 23 = .ok (.ireturn, 1) := by decide +kernel
theorem d_L_stock_24 : decode c_L_stock 24 = .ok (.astore 4, 2) := by decide +kernel
theorem d_L_stock_26 : decode c_L_stock 26 = .ok (.iconst 2, 1) := by decide +kernel
theorem d_L_stock_27 : decode c_L_stock 27 = .ok (.ireturn, 1) := by decide +kernel
theorem d_L_stock_28 : decode c_L_stock 28 = .ok (.iconst 0, 1) := by decide +kernel
theorem d_L_stock_29 : decode c_L_stock 29 = .ok (.ireturn, 1) := by decide +kernel
theorem d_L_told_0 : decode c_L_told 0 = .ok (.aload 4, 2) := by decide +kernel
theorem d_L_told_2 : decode c_L_told 2 = .ok (.iconst 0, 1) := by decide +kernel
theorem d_L_told_3 : decode c_L_told 3 = .ok (.aload_n 0, 1) := by decide +kernel
theorem d_L_told_4 : decode c_L_told 4 = .ok (.iload_n 1, 1) := by decide +kernel
theorem d_L_told_5 : decode c_L_told 5 = .ok (.iload_n 2, 1) := by decide +kernel
theorem d_L_told_6 : decode c_L_told 6 = .ok (.iload_n 3, 1) := by decide +kernel
theorem d_L_told_7 : decode c_L_told 7 = .ok (.invokevirtual 25, 3) := by decide +kernel
theorem d_L_told_10 : decode c_L_told 10 = .ok (.lastore, 1) := by decide +kernel
theorem d_L_told_11 : decode c_L_told 11 = .ok (.goto 7, 3) := by decide +kernel
theorem d_L_told_14 : decode c_L_told 14 = .ok (.astore 5, 2) := by decide +kernel
theorem d_L_told_16 : decode c_L_told 16 = .ok (.iconst 1, 1) := by decide +kernel
theorem d_L_told_17 : decode c_L_told 17 = .ok (.ireturn, 1) := by decide +kernel
theorem d_L_told_18 : decode c_L_told 18 = .ok (.iconst 0, 1) := by decide +kernel
theorem d_L_told_19 : decode c_L_told 19 = .ok (.ireturn, 1) := by decide +kernel
theorem d_L_value_0 : decode c_L_value 0 = .ok (.aload 8, 2) := by decide +kernel
theorem d_L_value_2 : decode c_L_value 2 = .ok (.iconst 0, 1) := by decide +kernel
theorem d_L_value_3 : decode c_L_value 3 = .ok (.aload_n 0, 1) := by decide +kernel
theorem d_L_value_4 : decode c_L_value 4 = .ok (.iload_n 1, 1) := by decide +kernel
theorem d_L_value_5 : decode c_L_value 5 = .ok (.iload_n 2, 1) := by decide +kernel
theorem d_L_value_6 : decode c_L_value 6 = .ok (.lload_n 3, 1) := by decide +kernel
theorem d_L_value_7 : decode c_L_value 7 = .ok (.lload 5, 2) := by decide +kernel
theorem d_L_value_9 : decode c_L_value 9 = .ok (.iload 7, 2) := by decide +kernel
theorem d_L_value_11 : decode c_L_value 11 = .ok (.invokevirtual 19, 3) := by decide +kernel
theorem d_L_value_14 : decode c_L_value 14 = .ok (.ifCond .eq 7, 3) := by decide +kernel
theorem d_L_value_17 : decode c_L_value 17 = .ok (.lconst 1, 1) := by decide +kernel
theorem d_L_value_18 : decode c_L_value 18 = .ok (.goto 4, 3) := by decide +kernel
theorem d_L_value_21 : decode c_L_value 21 = .ok (.lconst 0, 1) := by decide +kernel
theorem d_L_value_22 : decode c_L_value 22 = .ok (.lastore, 1) := by decide +kernel
theorem d_L_value_23 : decode c_L_value 23 = .ok (.goto 11, 3) := by decide +kernel
theorem d_L_value_26 : decode c_L_value 26 = .ok (.astore 9, 2) := by decide +kernel
theorem d_L_value_28 : decode c_L_value 28 = .ok (.iconst 1, 1) := by decide +kernel
theorem d_L_value_29 : decode c_L_value 29 = .ok (.ireturn, 1) := by decide +kernel
theorem d_L_value_30 : decode c_L_value 30 = .ok (.astore 9, 2) := by decide +kernel
theorem d_L_value_32 : decode c_L_value 32 = .ok (.iconst 2, 1) := by decide +kernel
theorem d_L_value_33 : decode c_L_value 33 = .ok (.ireturn, 1) := by decide +kernel
theorem d_L_value_34 : decode c_L_value 34 = .ok (.iconst 0, 1) := by decide +kernel
theorem d_L_value_35 : decode c_L_value 35 = .ok (.ireturn, 1) := by decide +kernel
