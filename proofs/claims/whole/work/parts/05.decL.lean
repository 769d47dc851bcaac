/-! decode rows: the calls of the law -/
theorem d_L_place_0 : decode b_L_place 0 = .ok (.aload_n 2, 1) := by decide +kernel
theorem d_L_place_1 : decode b_L_place 1 = .ok (.iconst 0, 1) := by decide +kernel
theorem d_L_place_2 : decode b_L_place 2 = .ok (.aload_n 0, 1) := by decide +kernel
theorem d_L_place_3 : decode b_L_place 3 = .ok (.iload_n 1, 1) := by decide +kernel
theorem d_L_place_4 : decode b_L_place 4 = .ok (.invokevirtual 7, 3) := by decide +kernel
theorem d_L_place_7 : decode b_L_place 7 = .ok (.i2l, 1) := by decide +kernel
theorem d_L_place_8 : decode b_L_place 8 = .ok (.lastore, 1) := by decide +kernel
theorem d_L_place_9 : decode b_L_place 9 = .ok (.goto 9, 3) := by decide +kernel
theorem d_L_place_12 : decode b_L_place 12 = .ok (.astore_n 3, 1) := by decide +kernel
theorem d_L_place_13 : decode b_L_place 13 = .ok (.iconst 1, 1) := by decide +kernel
theorem d_L_place_14 : decode b_L_place 14 = .ok (.ireturn, 1) := by decide +kernel
theorem d_L_place_15 : decode b_L_place 15 = .ok (.astore_n 3, 1) := by decide +kernel
theorem d_L_place_16 : decode b_L_place 16 = .ok (.iconst 2, 1) := by decide +kernel
theorem d_L_place_17 : decode b_L_place 17 = .ok (.ireturn, 1) := by decide +kernel
theorem d_L_place_18 : decode b_L_place 18 = .ok (.iconst 0, 1) := by decide +kernel
theorem d_L_place_19 : decode b_L_place 19 = .ok (.ireturn, 1) := by decide +kernel
theorem d_L_stock_0 : decode b_L_stock 0 = .ok (.aload_n 0, 1) := by decide +kernel
theorem d_L_stock_1 : decode b_L_stock 1 = .ok (.iload_n 1, 1) := by decide +kernel
theorem d_L_stock_2 : decode b_L_stock 2 = .ok (.iload_n 2, 1) := by decide +kernel
theorem d_L_stock_3 : decode b_L_stock 3 = .ok (.iload_n 3, 1) := by decide +kernel
theorem d_L_stock_4 : decode b_L_stock 4 = .ok (.invokevirtual 17, 3) := by decide +kernel
theorem d_L_stock_7 : decode b_L_stock 7 = .ok (.goto 11, 3) := by decide +kernel
theorem d_L_stock_10 : decode b_L_stock 10 = .ok (.astore 4, 2) := by decide +kernel
theorem d_L_stock_12 : decode b_L_stock 12 = .ok (.iconst 1, 1) := by decide +kernel
theorem d_L_stock_13 : decode b_L_stock 13 = .ok (.ireturn, 1) := by decide +kernel
theorem d_L_stock_14 : decode b_L_stock 14 = .ok (.astore 4, 2) := by decide +kernel
theorem d_L_stock_16 : decode b_L_stock 16 = .ok (.iconst 2, 1) := by decide +kernel
theorem d_L_stock_17 : decode b_L_stock 17 = .ok (.ireturn, 1) := by decide +kernel
theorem d_L_stock_18 : decode b_L_stock 18 = .ok (.iconst 0, 1) := by decide +kernel
theorem d_L_stock_19 : decode b_L_stock 19 = .ok (.ireturn, 1) := by decide +kernel
theorem d_L_cycle_0 : decode b_L_cycle 0 = .ok (.aload_n 0, 1) := by decide +kernel
theorem d_L_cycle_1 : decode b_L_cycle 1 = .ok (.iload_n 1, 1) := by decide +kernel
theorem d_L_cycle_2 : decode b_L_cycle 2 = .ok (.iload_n 2, 1) := by decide +kernel
theorem d_L_cycle_3 : decode b_L_cycle 3 = .ok (.iload_n 3, 1) := by decide +kernel
theorem d_L_cycle_4 : decode b_L_cycle 4 = .ok (.invokevirtual 23, 3) := by decide +kernel
theorem d_L_cycle_7 : decode b_L_cycle 7 = .ok (.goto 7, 3) := by decide +kernel
theorem d_L_cycle_10 : decode b_L_cycle 10 = .ok (.astore 4, 2) := by decide +kernel
theorem d_L_cycle_12 : decode b_L_cycle 12 = .ok (.iconst 1, 1) := by decide +kernel
theorem d_L_cycle_13 : decode b_L_cycle 13 = .ok (.ireturn, 1) := by decide +kernel
theorem d_L_cycle_14 : decode b_L_cycle 14 = .ok (.iconst 0, 1) := by decide +kernel
theorem d_L_cycle_15 : decode b_L_cycle 15 = .ok (.ireturn, 1) := by decide +kernel
theorem d_L_right_0 : decode b_L_right 0 = .ok (.aload_n 0, 1) := by decide +kernel
theorem d_L_right_1 : decode b_L_right 1 = .ok (.iload_n 1, 1) := by decide +kernel
theorem d_L_right_2 : decode b_L_right 2 = .ok (.iload_n 2, 1) := by decide +kernel
theorem d_L_right_3 : decode b_L_right 3 = .ok (.invokevirtual 26, 3) := by decide +kernel
theorem d_L_right_6 : decode b_L_right 6 = .ok (.goto 6, 3) := by decide +kernel
theorem d_L_right_9 : decode b_L_right 9 = .ok (.astore_n 3, 1) := by decide +kernel
theorem d_L_right_10 : decode b_L_right 10 = .ok (.iconst 1, 1) := by decide +kernel
theorem d_L_right_11 : decode b_L_right 11 = .ok (.ireturn, 1) := by decide +kernel
theorem d_L_right_12 : decode b_L_right 12 = .ok (.iconst 0, 1) := by decide +kernel
theorem d_L_right_13 : decode b_L_right 13 = .ok (.ireturn, 1) := by decide +kernel
theorem d_L_setting_0 : decode b_L_setting 0 = .ok (.aload_n 0, 1) := by decide +kernel
theorem d_L_setting_1 : decode b_L_setting 1 = .ok (.iload_n 1, 1) := by decide +kernel
theorem d_L_setting_2 : decode b_L_setting 2 = .ok (.invokevirtual 30, 3) := by decide +kernel
theorem d_L_setting_5 : decode b_L_setting 5 = .ok (.goto 6, 3) := by decide +kernel
theorem d_L_setting_8 : decode b_L_setting 8 = .ok (.astore_n 2, 1) := by decide +kernel
theorem d_L_setting_9 : decode b_L_setting 9 = .ok (.iconst 1, 1) := by decide +kernel
theorem d_L_setting_10 : decode b_L_setting 10 = .ok (.ireturn, 1) := by decide +kernel
theorem d_L_setting_11 : decode b_L_setting 11 = .ok (.iconst 0, 1) := by decide +kernel
theorem d_L_setting_12 : decode b_L_setting 12 = .ok (.ireturn, 1) := by decide +kernel
theorem d_L_day_0 : decode b_L_day 0 = .ok (.aload_n 0, 1) := by decide +kernel
theorem d_L_day_1 : decode b_L_day 1 = .ok (.iload_n 1, 1) := by decide +kernel
theorem d_L_day_2 : decode b_L_day 2 = .ok (.invokevirtual 34, 3) := by decide +kernel
theorem d_L_day_5 : decode b_L_day 5 = .ok (.goto 9, 3) := by decide +kernel
theorem d_L_day_8 : decode b_L_day 8 = .ok (.astore_n 2, 1) := by decide +kernel
theorem d_L_day_9 : decode b_L_day 9 = .ok (.iconst 1, 1) := by decide +kernel
theorem d_L_day_10 : decode b_L_day 10 = .ok (.ireturn, 1) := by decide +kernel
theorem d_L_day_11 : decode b_L_day 11 = .ok (.astore_n 2, 1) := by decide +kernel
theorem d_L_day_12 : decode b_L_day 12 = .ok (.iconst 2, 1) := by decide +kernel
theorem d_L_day_13 : decode b_L_day 13 = .ok (.ireturn, 1) := by decide +kernel
theorem d_L_day_14 : decode b_L_day 14 = .ok (.iconst 0, 1) := by decide +kernel
theorem d_L_day_15 : decode b_L_day 15 = .ok (.ireturn, 1) := by decide +kernel
theorem d_L_move_0 : decode b_L_move 0 = .ok (.aload 5, 2) := by decide +kernel
theorem d_L_move_2 : decode b_L_move 2 = .ok (.iconst 0, 1) := by decide +kernel
theorem d_L_move_3 : decode b_L_move 3 = .ok (.aload_n 0, 1) := by decide +kernel
theorem d_L_move_4 : decode b_L_move 4 = .ok (.iload_n 1, 1) := by decide +kernel
theorem d_L_move_5 : decode b_L_move 5 = .ok (.iload_n 2, 1) := by decide +kernel
theorem d_L_move_6 : decode b_L_move 6 = .ok (.iload_n 3, 1) := by decide +kernel
theorem d_L_move_7 : decode b_L_move 7 = .ok (.iload 4, 2) := by decide +kernel
theorem d_L_move_9 : decode b_L_move 9 = .ok (.invokevirtual 39, 3) := by decide +kernel
theorem d_L_move_12 : decode b_L_move 12 = .ok (.i2l, 1) := by decide +kernel
theorem d_L_move_13 : decode b_L_move 13 = .ok (.lastore, 1) := by decide +kernel
theorem d_L_move_14 : decode b_L_move 14 = .ok (.goto 19, 3) := by decide +kernel
theorem d_L_move_17 : decode b_L_move 17 = .ok (.astore 6, 2) := by decide +kernel
theorem d_L_move_19 : decode b_L_move 19 = .ok (.iconst 1, 1) := by decide +kernel
theorem d_L_move_20 : decode b_L_move 20 = .ok (.ireturn, 1) := by decide +kernel
theorem d_L_move_21 : decode b_L_move 21 = .ok (.astore 6, 2) := by decide +kernel
theorem d_L_move_23 : decode b_L_move 23 = .ok (.iconst 2, 1) := by decide +kernel
theorem d_L_move_24 : decode b_L_move 24 = .ok (.ireturn, 1) := by decide +kernel
theorem d_L_move_25 : decode b_L_move 25 = .ok (.astore 6, 2) := by decide +kernel
theorem d_L_move_27 : decode b_L_move 27 = .ok (.iconst 3, 1) := by decide +kernel
theorem d_L_move_28 : decode b_L_move 28 = .ok (.ireturn, 1) := by decide +kernel
theorem d_L_move_29 : decode b_L_move 29 = .ok (.astore 6, 2) := by decide +kernel
theorem d_L_move_31 : decode b_L_move 31 = .ok (.iconst 4, 1) := by decide +kernel
theorem d_L_move_32 : decode b_L_move 32 = .ok (.ireturn, 1) := by decide +kernel
theorem d_L_move_33 : decode b_L_move 33 = .ok (.iconst 0, 1) := by decide +kernel
theorem d_L_move_34 : decode b_L_move 34 = .ok (.ireturn, 1) := by decide +kernel
theorem d_L_end_0 : decode b_L_end 0 = .ok (.aload_n 0, 1) := by decide +kernel
theorem d_L_end_1 : decode b_L_end 1 = .ok (.iload_n 1, 1) := by decide +kernel
theorem d_L_end_2 : decode b_L_end 2 = .ok (.invokevirtual 43, 3) := by decide +kernel
theorem d_L_end_5 : decode b_L_end 5 = .ok (.goto 9, 3) := by decide +kernel
theorem d_L_end_8 : decode b_L_end 8 = .ok (.astore_n 2, 1) := by decide +kernel
theorem d_L_end_9 : decode b_L_end 9 = .ok (.iconst 1, 1) := by decide +kernel
theorem d_L_end_10 : decode b_L_end 10 = .ok (.ireturn, 1) := by decide +kernel
theorem d_L_end_11 : decode b_L_end 11 = .ok (.astore_n 2, 1) := by decide +kernel
theorem d_L_end_12 : decode b_L_end 12 = .ok (.iconst 2, 1) := by decide +kernel
theorem d_L_end_13 : decode b_L_end 13 = .ok (.ireturn, 1) := by decide +kernel
theorem d_L_end_14 : decode b_L_end 14 = .ok (.iconst 0, 1) := by decide +kernel
theorem d_L_end_15 : decode b_L_end 15 = .ok (.ireturn, 1) := by decide +kernel
theorem d_L_moves_0 : decode b_L_moves 0 = .ok (.aload_n 2, 1) := by decide +kernel
theorem d_L_moves_1 : decode b_L_moves 1 = .ok (.iconst 0, 1) := by decide +kernel
theorem d_L_moves_2 : decode b_L_moves 2 = .ok (.aload_n 0, 1) := by decide +kernel
theorem d_L_moves_3 : decode b_L_moves 3 = .ok (.iload_n 1, 1) := by decide +kernel
theorem d_L_moves_4 : decode b_L_moves 4 = .ok (.invokevirtual 46, 3) := by decide +kernel
theorem d_L_moves_7 : decode b_L_moves 7 = .ok (.i2l, 1) := by decide +kernel
theorem d_L_moves_8 : decode b_L_moves 8 = .ok (.lastore, 1) := by decide +kernel
theorem d_L_moves_9 : decode b_L_moves 9 = .ok (.goto 6, 3) := by decide +kernel
theorem d_L_moves_12 : decode b_L_moves 12 = .ok (.astore_n 3, 1) := by decide +kernel
theorem d_L_moves_13 : decode b_L_moves 13 = .ok (.iconst 1, 1) := by decide +kernel
theorem d_L_moves_14 : decode b_L_moves 14 = .ok (.ireturn, 1) := by decide +kernel
theorem d_L_moves_15 : decode b_L_moves 15 = .ok (.iconst 0, 1) := by decide +kernel
theorem d_L_moves_16 : decode b_L_moves 16 = .ok (.ireturn, 1) := by decide +kernel
theorem d_L_round_0 : decode b_L_round 0 = .ok (.aload 5, 2) := by decide +kernel
theorem d_L_round_2 : decode b_L_round 2 = .ok (.iconst 0, 1) := by decide +kernel
theorem d_L_round_3 : decode b_L_round 3 = .ok (.aload_n 0, 1) := by decide +kernel
theorem d_L_round_4 : decode b_L_round 4 = .ok (.iload_n 1, 1) := by decide +kernel
theorem d_L_round_5 : decode b_L_round 5 = .ok (.iload_n 2, 1) := by decide +kernel
theorem d_L_round_6 : decode b_L_round 6 = .ok (.lload_n 3, 1) := by decide +kernel
theorem d_L_round_7 : decode b_L_round 7 = .ok (.invokevirtual 49, 3) := by decide +kernel
theorem d_L_round_10 : decode b_L_round 10 = .ok (.i2l, 1) := by decide +kernel
theorem d_L_round_11 : decode b_L_round 11 = .ok (.lastore, 1) := by decide +kernel
theorem d_L_round_12 : decode b_L_round 12 = .ok (.goto 15, 3) := by decide +kernel
theorem d_L_round_15 : decode b_L_round 15 = .ok (.astore 6, 2) := by decide +kernel
theorem d_L_round_17 : decode b_L_round 17 = .ok (.iconst 1, 1) := by decide +kernel
theorem d_L_round_18 : decode b_L_round 18 = .ok (.ireturn, 1) := by decide +kernel
theorem d_L_round_19 : decode b_L_round 19 = .ok (.astore 6, 2) := by decide +kernel
theorem d_L_round_21 : decode b_L_round 21 = .ok (.iconst 2, 1) := by decide +kernel
theorem d_L_round_22 : decode b_L_round 22 = .ok (.ireturn, 1) := by decide +kernel
theorem d_L_round_23 : decode b_L_round 23 = .ok (.astore 6, 2) := by decide +kernel
theorem d_L_round_25 : decode b_L_round 25 = .ok (.iconst 3, 1) := by decide +kernel
theorem d_L_round_26 : decode b_L_round 26 = .ok (.ireturn, 1) := by decide +kernel
theorem d_L_round_27 : decode b_L_round 27 = .ok (.iconst 0, 1) := by decide +kernel
theorem d_L_round_28 : decode b_L_round 28 = .ok (.ireturn, 1) := by decide +kernel
theorem d_L_freeze_0 : decode b_L_freeze 0 = .ok (.aload_n 2, 1) := by decide +kernel
theorem d_L_freeze_1 : decode b_L_freeze 1 = .ok (.iconst 0, 1) := by decide +kernel
theorem d_L_freeze_2 : decode b_L_freeze 2 = .ok (.aload_n 0, 1) := by decide +kernel
theorem d_L_freeze_3 : decode b_L_freeze 3 = .ok (.iload_n 1, 1) := by decide +kernel
theorem d_L_freeze_4 : decode b_L_freeze 4 = .ok (.invokevirtual 53, 3) := by decide +kernel
theorem d_L_freeze_7 : decode b_L_freeze 7 = .ok (.i2l, 1) := by decide +kernel
theorem d_L_freeze_8 : decode b_L_freeze 8 = .ok (.lastore, 1) := by decide +kernel
theorem d_L_freeze_9 : decode b_L_freeze 9 = .ok (.goto 9, 3) := by decide +kernel
theorem d_L_freeze_12 : decode b_L_freeze 12 = .ok (.astore_n 3, 1) := by decide +kernel
theorem d_L_freeze_13 : decode b_L_freeze 13 = .ok (.iconst 1, 1) := by decide +kernel
theorem d_L_freeze_14 : decode b_L_freeze 14 = .ok (.ireturn, 1) := by decide +kernel
theorem d_L_freeze_15 : decode b_L_freeze 15 = .ok (.astore_n 3, 1) := by decide +kernel
theorem d_L_freeze_16 : decode b_L_freeze 16 = .ok (.iconst 2, 1) := by decide +kernel
theorem d_L_freeze_17 : decode b_L_freeze 17 = .ok (.ireturn, 1) := by decide +kernel
theorem d_L_freeze_18 : decode b_L_freeze 18 = .ok (.iconst 0, 1) := by decide +kernel
theorem d_L_freeze_19 : decode b_L_freeze 19 = .ok (.ireturn, 1) := by decide +kernel
theorem d_L_found_0 : decode b_L_found 0 = .ok (.aload 6, 2) := by decide +kernel
theorem d_L_found_2 : decode b_L_found 2 = .ok (.iconst 0, 1) := by decide +kernel
theorem d_L_found_3 : decode b_L_found 3 = .ok (.aload_n 0, 1) := by decide +kernel
theorem d_L_found_4 : decode b_L_found 4 = .ok (.iload_n 1, 1) := by decide +kernel
theorem d_L_found_5 : decode b_L_found 5 = .ok (.iload_n 2, 1) := by decide +kernel
theorem d_L_found_6 : decode b_L_found 6 = .ok (.iload_n 3, 1) := by decide +kernel
theorem d_L_found_7 : decode b_L_found 7 = .ok (.iload 4, 2) := by decide +kernel
theorem d_L_found_9 : decode b_L_found 9 = .ok (.iload 5, 2) := by decide +kernel
theorem d_L_found_11 : decode b_L_found 11 = .ok (.invokevirtual 56, 3) := by decide +kernel
theorem d_L_found_14 : decode b_L_found 14 = .ok (.i2l, 1) := by decide +kernel
theorem d_L_found_15 : decode b_L_found 15 = .ok (.lastore, 1) := by decide +kernel
theorem d_L_found_16 : decode b_L_found 16 = .ok (.goto 11, 3) := by decide +kernel
theorem d_L_found_19 : decode b_L_found 19 = .ok (.astore 7, 2) := by decide +kernel
theorem d_L_found_21 : decode b_L_found 21 = .ok (.iconst 1, 1) := by decide +kernel
theorem d_L_found_22 : decode b_L_found 22 = .ok (.ireturn, 1) := by decide +kernel
theorem d_L_found_23 : decode b_L_found 23 = .ok (.astore 7, 2) := by decide +kernel
theorem d_L_found_25 : decode b_L_found 25 = .ok (.iconst 2, 1) := by decide +kernel
theorem d_L_found_26 : decode b_L_found 26 = .ok (.ireturn, 1) := by decide +kernel
theorem d_L_found_27 : decode b_L_found 27 = .ok (.iconst 0, 1) := by decide +kernel
theorem d_L_found_28 : decode b_L_found 28 = .ok (.ireturn, 1) := by decide +kernel
theorem d_L_second_0 : decode b_L_second 0 = .ok (.aload 4, 2) := by decide +kernel
theorem d_L_second_2 : decode b_L_second 2 = .ok (.iconst 0, 1) := by decide +kernel
theorem d_L_second_3 : decode b_L_second 3 = .ok (.aload_n 0, 1) := by decide +kernel
theorem d_L_second_4 : decode b_L_second 4 = .ok (.iload_n 1, 1) := by decide +kernel
theorem d_L_second_5 : decode b_L_second 5 = .ok (.iload_n 2, 1) := by decide +kernel
theorem d_L_second_6 : decode b_L_second 6 = .ok (.iload_n 3, 1) := by decide +kernel
theorem d_L_second_7 : decode b_L_second 7 = .ok (.invokevirtual 60, 3) := by decide +kernel
theorem d_L_second_10 : decode b_L_second 10 = .ok (.ifCond .eq 7, 3) := by decide +kernel
theorem d_L_second_13 : decode b_L_second 13 = .ok (.lconst 1, 1) := by decide +kernel
theorem d_L_second_14 : decode b_L_second 14 = .ok (.goto 4, 3) := by decide +kernel
theorem d_L_second_17 : decode b_L_second 17 = .ok (.lconst 0, 1) := by decide +kernel
theorem d_L_second_18 : decode b_L_second 18 = .ok (.lastore, 1) := by decide +kernel
theorem d_L_second_19 : decode b_L_second 19 = .ok (.goto 15, 3) := by decide +kernel
theorem d_L_second_22 : decode b_L_second 22 = .ok (.astore 5, 2) := by decide +kernel
theorem d_L_second_24 : decode b_L_second 24 = .ok (.iconst 1, 1) := by decide +kernel
theorem d_L_second_25 : decode b_L_second 25 = .ok (.ireturn, 1) := by decide +kernel
theorem d_L_second_26 : decode b_L_second 26 = .ok (.astore 5, 2) := by decide +kernel
theorem d_L_second_28 : decode b_L_second 28 = .ok (.iconst 2, 1) := by decide +kernel
theorem d_L_second_29 : decode b_L_second 29 = .ok (.ireturn, 1) := by decide +kernel
theorem d_L_second_30 : decode b_L_second 30 = .ok (.astore 5, 2) := by decide +kernel
theorem d_L_second_32 : decode b_L_second 32 = .ok (.iconst 3, 1) := by decide +kernel
theorem d_L_second_33 : decode b_L_second 33 = .ok (.ireturn, 1) := by decide +kernel
theorem d_L_second_34 : decode b_L_second 34 = .ok (.iconst 0, 1) := by decide +kernel
theorem d_L_second_35 : decode b_L_second 35 = .ok (.ireturn, 1) := by decide +kernel
theorem d_L_close_0 : decode b_L_close 0 = .ok (.aload_n 2, 1) := by decide +kernel
theorem d_L_close_1 : decode b_L_close 1 = .ok (.iconst 0, 1) := by decide +kernel
theorem d_L_close_2 : decode b_L_close 2 = .ok (.aload_n 0, 1) := by decide +kernel
theorem d_L_close_3 : decode b_L_close 3 = .ok (.iload_n 1, 1) := by decide +kernel
theorem d_L_close_4 : decode b_L_close 4 = .ok (.invokevirtual 64, 3) := by decide +kernel
theorem d_L_close_7 : decode b_L_close 7 = .ok (.i2l, 1) := by decide +kernel
theorem d_L_close_8 : decode b_L_close 8 = .ok (.lastore, 1) := by decide +kernel
theorem d_L_close_9 : decode b_L_close 9 = .ok (.goto 9, 3) := by decide +kernel
theorem d_L_close_12 : decode b_L_close 12 = .ok (.astore_n 3, 1) := by decide +kernel
theorem d_L_close_13 : decode b_L_close 13 = .ok (.iconst 1, 1) := by decide +kernel
theorem d_L_close_14 : decode b_L_close 14 = .ok (.ireturn, 1) := by decide +kernel
theorem d_L_close_15 : decode b_L_close 15 = .ok (.astore_n 3, 1) := by decide +kernel
theorem d_L_close_16 : decode b_L_close 16 = .ok (.iconst 2, 1) := by decide +kernel
theorem d_L_close_17 : decode b_L_close 17 = .ok (.ireturn, 1) := by decide +kernel
theorem d_L_close_18 : decode b_L_close 18 = .ok (.iconst 0, 1) := by decide +kernel
theorem d_L_close_19 : decode b_L_close 19 = .ok (.ireturn, 1) := by decide +kernel
theorem d_L_differ_0 : decode b_L_differ 0 = .ok (.aload 4, 2) := by decide +kernel
theorem d_L_differ_2 : decode b_L_differ 2 = .ok (.iconst 0, 1) := by decide +kernel
theorem d_L_differ_3 : decode b_L_differ 3 = .ok (.aload_n 0, 1) := by decide +kernel
theorem d_L_differ_4 : decode b_L_differ 4 = .ok (.iload_n 1, 1) := by decide +kernel
theorem d_L_differ_5 : decode b_L_differ 5 = .ok (.iload_n 2, 1) := by decide +kernel
theorem d_L_differ_6 : decode b_L_differ 6 = .ok (.iload_n 3, 1) := by decide +kernel
theorem d_L_differ_7 : decode b_L_differ 7 = .ok (.invokevirtual 67, 3) := by decide +kernel
theorem d_L_differ_10 : decode b_L_differ 10 = .ok (.i2l, 1) := by decide +kernel
theorem d_L_differ_11 : decode b_L_differ 11 = .ok (.lastore, 1) := by decide +kernel
theorem d_L_differ_12 : decode b_L_differ 12 = .ok (.goto 11, 3) := by decide +kernel
theorem d_L_differ_15 : decode b_L_differ 15 = .ok (.astore 5, 2) := by decide +kernel
theorem d_L_differ_17 : decode b_L_differ 17 = .ok (.iconst 1, 1) := by decide +kernel
theorem d_L_differ_18 : decode b_L_differ 18 = .ok (.ireturn, 1) := by decide +kernel
theorem d_L_differ_19 : decode b_L_differ 19 = .ok (.astore 5, 2) := by decide +kernel
theorem d_L_differ_21 : decode b_L_differ 21 = .ok (.iconst 2, 1) := by decide +kernel
theorem d_L_differ_22 : decode b_L_differ 22 = .ok (.ireturn, 1) := by decide +kernel
theorem d_L_differ_23 : decode b_L_differ 23 = .ok (.iconst 0, 1) := by decide +kernel
theorem d_L_differ_24 : decode b_L_differ 24 = .ok (.ireturn, 1) := by decide +kernel
theorem d_L_correct_0 : decode b_L_correct 0 = .ok (.aload 4, 2) := by decide +kernel
theorem d_L_correct_2 : decode b_L_correct 2 = .ok (.iconst 0, 1) := by decide +kernel
theorem d_L_correct_3 : decode b_L_correct 3 = .ok (.aload_n 0, 1) := by decide +kernel
theorem d_L_correct_4 : decode b_L_correct 4 = .ok (.iload_n 1, 1) := by decide +kernel
theorem d_L_correct_5 : decode b_L_correct 5 = .ok (.iload_n 2, 1) := by decide +kernel
theorem d_L_correct_6 : decode b_L_correct 6 = .ok (.iload_n 3, 1) := by decide +kernel
theorem d_L_correct_7 : decode b_L_correct 7 = .ok (.invokevirtual 71, 3) := by decide +kernel
theorem d_L_correct_10 : decode b_L_correct 10 = .ok (.ifCond .eq 7, 3) := by decide +kernel
theorem d_L_correct_13 : decode b_L_correct 13 = .ok (.lconst 1, 1) := by decide +kernel
theorem d_L_correct_14 : decode b_L_correct 14 = .ok (.goto 4, 3) := by decide +kernel
theorem d_L_correct_17 : decode b_L_correct 17 = .ok (.lconst 0, 1) := by decide +kernel
theorem d_L_correct_18 : decode b_L_correct 18 = .ok (.lastore, 1) := by decide +kernel
theorem d_L_correct_19 : decode b_L_correct 19 = .ok (.goto 15, 3) := by decide +kernel
theorem d_L_correct_22 : decode b_L_correct 22 = .ok (.astore 5, 2) := by decide +kernel
theorem d_L_correct_24 : decode b_L_correct 24 = .ok (.iconst 1, 1) := by decide +kernel
theorem d_L_correct_25 : decode b_L_correct 25 = .ok (.ireturn, 1) := by decide +kernel
theorem d_L_correct_26 : decode b_L_correct 26 = .ok (.astore 5, 2) := by decide +kernel
theorem d_L_correct_28 : decode b_L_correct 28 = .ok (.iconst 2, 1) := by decide +kernel
theorem d_L_correct_29 : decode b_L_correct 29 = .ok (.ireturn, 1) := by decide +kernel
theorem d_L_correct_30 : decode b_L_correct 30 = .ok (.astore 5, 2) := by decide +kernel
theorem d_L_correct_32 : decode b_L_correct 32 = .ok (.iconst 3, 1) := by decide +kernel
theorem d_L_correct_33 : decode b_L_correct 33 = .ok (.ireturn, 1) := by decide +kernel
theorem d_L_correct_34 : decode b_L_correct 34 = .ok (.iconst 0, 1) := by decide +kernel
theorem d_L_correct_35 : decode b_L_correct 35 = .ok (.ireturn, 1) := by decide +kernel
theorem d_L_share_0 : decode b_L_share 0 = .ok (.aload_n 2, 1) := by decide +kernel
theorem d_L_share_1 : decode b_L_share 1 = .ok (.iconst 0, 1) := by decide +kernel
theorem d_L_share_2 : decode b_L_share 2 = .ok (.aload_n 0, 1) := by decide +kernel
theorem d_L_share_3 : decode b_L_share 3 = .ok (.iload_n 1, 1) := by decide +kernel
theorem d_L_share_4 : decode b_L_share 4 = .ok (.invokevirtual 74, 3) := by decide +kernel
theorem d_L_share_7 : decode b_L_share 7 = .ok (.i2l, 1) := by decide +kernel
theorem d_L_share_8 : decode b_L_share 8 = .ok (.lastore, 1) := by decide +kernel
theorem d_L_share_9 : decode b_L_share 9 = .ok (.goto 9, 3) := by decide +kernel
theorem d_L_share_12 : decode b_L_share 12 = .ok (.astore_n 3, 1) := by decide +kernel
theorem d_L_share_13 : decode b_L_share 13 = .ok (.iconst 1, 1) := by decide +kernel
theorem d_L_share_14 : decode b_L_share 14 = .ok (.ireturn, 1) := by decide +kernel
theorem d_L_share_15 : decode b_L_share 15 = .ok (.astore_n 3, 1) := by decide +kernel
theorem d_L_share_16 : decode b_L_share 16 = .ok (.iconst 2, 1) := by decide +kernel
theorem d_L_share_17 : decode b_L_share 17 = .ok (.ireturn, 1) := by decide +kernel
theorem d_L_share_18 : decode b_L_share 18 = .ok (.iconst 0, 1) := by decide +kernel
theorem d_L_share_19 : decode b_L_share 19 = .ok (.ireturn, 1) := by decide +kernel
theorem d_L_last_0 : decode b_L_last 0 = .ok (.aload_n 2, 1) := by decide +kernel
theorem d_L_last_1 : decode b_L_last 1 = .ok (.iconst 0, 1) := by decide +kernel
theorem d_L_last_2 : decode b_L_last 2 = .ok (.aload_n 0, 1) := by decide +kernel
theorem d_L_last_3 : decode b_L_last 3 = .ok (.iload_n 1, 1) := by decide +kernel
theorem d_L_last_4 : decode b_L_last 4 = .ok (.invokevirtual 79, 3) := by decide +kernel
theorem d_L_last_7 : decode b_L_last 7 = .ok (.i2l, 1) := by decide +kernel
theorem d_L_last_8 : decode b_L_last 8 = .ok (.lastore, 1) := by decide +kernel
theorem d_L_last_9 : decode b_L_last 9 = .ok (.goto 6, 3) := by decide +kernel
theorem d_L_last_12 : decode b_L_last 12 = .ok (.astore_n 3, 1) := by decide +kernel
theorem d_L_last_13 : decode b_L_last 13 = .ok (.iconst 1, 1) := by decide +kernel
theorem d_L_last_14 : decode b_L_last 14 = .ok (.ireturn, 1) := by decide +kernel
theorem d_L_last_15 : decode b_L_last 15 = .ok (.iconst 0, 1) := by decide +kernel
theorem d_L_last_16 : decode b_L_last 16 = .ok (.ireturn, 1) := by decide +kernel
theorem d_L_due_0 : decode b_L_due 0 = .ok (.aload_n 2, 1) := by decide +kernel
theorem d_L_due_1 : decode b_L_due 1 = .ok (.iconst 0, 1) := by decide +kernel
theorem d_L_due_2 : decode b_L_due 2 = .ok (.aload_n 0, 1) := by decide +kernel
theorem d_L_due_3 : decode b_L_due 3 = .ok (.iload_n 1, 1) := by decide +kernel
theorem d_L_due_4 : decode b_L_due 4 = .ok (.invokevirtual 82, 3) := by decide +kernel
theorem d_L_due_7 : decode b_L_due 7 = .ok (.i2l, 1) := by decide +kernel
theorem d_L_due_8 : decode b_L_due 8 = .ok (.lastore, 1) := by decide +kernel
theorem d_L_due_9 : decode b_L_due 9 = .ok (.goto 6, 3) := by decide +kernel
theorem d_L_due_12 : decode b_L_due 12 = .ok (.astore_n 3, 1) := by decide +kernel
theorem d_L_due_13 : decode b_L_due 13 = .ok (.iconst 1, 1) := by decide +kernel
theorem d_L_due_14 : decode b_L_due 14 = .ok (.ireturn, 1) := by decide +kernel
theorem d_L_due_15 : decode b_L_due 15 = .ok (.iconst 0, 1) := by decide +kernel
theorem d_L_due_16 : decode b_L_due 16 = .ok (.ireturn, 1) := by decide +kernel
theorem d_L_booked_0 : decode b_L_booked 0 = .ok (.aload_n 3, 1) := by decide +kernel
theorem d_L_booked_1 : decode b_L_booked 1 = .ok (.iconst 0, 1) := by decide +kernel
theorem d_L_booked_2 : decode b_L_booked 2 = .ok (.aload_n 0, 1) := by decide +kernel
theorem d_L_booked_3 : decode b_L_booked 3 = .ok (.iload_n 1, 1) := by decide +kernel
theorem d_L_booked_4 : decode b_L_booked 4 = .ok (.iload_n 2, 1) := by decide +kernel
theorem d_L_booked_5 : decode b_L_booked 5 = .ok (.invokevirtual 85, 3) := by decide +kernel
theorem d_L_booked_8 : decode b_L_booked 8 = .ok (.i2l, 1) := by decide +kernel
theorem d_L_booked_9 : decode b_L_booked 9 = .ok (.lastore, 1) := by decide +kernel
theorem d_L_booked_10 : decode b_L_booked 10 = .ok (.goto 11, 3) := by decide +kernel
theorem d_L_booked_13 : decode b_L_booked 13 = .ok (.astore 4, 2) := by decide +kernel
theorem d_L_booked_15 : decode b_L_booked 15 = .ok (.iconst 1, 1) := by decide +kernel
theorem d_L_booked_16 : decode b_L_booked 16 = .ok (.ireturn, 1) := by decide +kernel
theorem d_L_booked_17 : decode b_L_booked 17 = .ok (.astore 4, 2) := by decide +kernel
theorem d_L_booked_19 : decode b_L_booked 19 = .ok (.iconst 2, 1) := by decide +kernel
theorem d_L_booked_20 : decode b_L_booked 20 = .ok (.ireturn, 1) := by decide +kernel
theorem d_L_booked_21 : decode b_L_booked 21 = .ok (.iconst 0, 1) := by decide +kernel
theorem d_L_booked_22 : decode b_L_booked 22 = .ok (.ireturn, 1) := by decide +kernel
theorem d_L_told_0 : decode b_L_told 0 = .ok (.aload_n 3, 1) := by decide +kernel
theorem d_L_told_1 : decode b_L_told 1 = .ok (.iconst 0, 1) := by decide +kernel
theorem d_L_told_2 : decode b_L_told 2 = .ok (.aload_n 0, 1) := by decide +kernel
theorem d_L_told_3 : decode b_L_told 3 = .ok (.iload_n 1, 1) := by decide +kernel
theorem d_L_told_4 : decode b_L_told 4 = .ok (.iload_n 2, 1) := by decide +kernel
theorem d_L_told_5 : decode b_L_told 5 = .ok (.invokevirtual 89, 3) := by decide +kernel
theorem d_L_told_8 : decode b_L_told 8 = .ok (.i2l, 1) := by decide +kernel
theorem d_L_told_9 : decode b_L_told 9 = .ok (.lastore, 1) := by decide +kernel
theorem d_L_told_10 : decode b_L_told 10 = .ok (.goto 11, 3) := by decide +kernel
theorem d_L_told_13 : decode b_L_told 13 = .ok (.astore 4, 2) := by decide +kernel
theorem d_L_told_15 : decode b_L_told 15 = .ok (.iconst 1, 1) := by decide +kernel
theorem d_L_told_16 : decode b_L_told 16 = .ok (.ireturn, 1) := by decide +kernel
theorem d_L_told_17 : decode b_L_told 17 = .ok (.astore 4, 2) := by decide +kernel
theorem d_L_told_19 : decode b_L_told 19 = .ok (.iconst 2, 1) := by decide +kernel
theorem d_L_told_20 : decode b_L_told 20 = .ok (.ireturn, 1) := by decide +kernel
theorem d_L_told_21 : decode b_L_told 21 = .ok (.iconst 0, 1) := by decide +kernel
theorem d_L_told_22 : decode b_L_told 22 = .ok (.ireturn, 1) := by decide +kernel
