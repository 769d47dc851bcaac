/-! decode rows: the class -/
theorem d_C_init_0 : decode b_C_init 0 = .ok (.aload_n 0, 1) := by decide +kernel
theorem d_C_init_1 : decode b_C_init 1 = .ok (.invokespecial 1, 3) := by decide +kernel
theorem d_C_init_4 : decode b_C_init 4 = .ok (.aload_n 0, 1) := by decide +kernel
theorem d_C_init_5 : decode b_C_init 5 = .ok (.bipush 20, 2) := by decide +kernel
theorem d_C_init_7 : decode b_C_init 7 = .ok (.anewarray 9, 3) := by decide +kernel
theorem d_C_init_10 : decode b_C_init 10 = .ok (.putfield 11, 3) := by decide +kernel
theorem d_C_init_13 : decode b_C_init 13 = .ok (.aload_n 0, 1) := by decide +kernel
theorem d_C_init_14 : decode b_C_init 14 = .ok (.bipush 60, 2) := by decide +kernel
theorem d_C_init_16 : decode b_C_init 16 = .ok (.anewarray 15, 3) := by decide +kernel
theorem d_C_init_19 : decode b_C_init 19 = .ok (.putfield 17, 3) := by decide +kernel
theorem d_C_init_22 : decode b_C_init 22 = .ok (.aload_n 0, 1) := by decide +kernel
theorem d_C_init_23 : decode b_C_init 23 = .ok (.bipush 20, 2) := by decide +kernel
theorem d_C_init_25 : decode b_C_init 25 = .ok (.anewarray 21, 3) := by decide +kernel
theorem d_C_init_28 : decode b_C_init 28 = .ok (.putfield 23, 3) := by decide +kernel
theorem d_C_init_31 : decode b_C_init 31 = .ok (.aload_n 0, 1) := by decide +kernel
theorem d_C_init_32 : decode b_C_init 32 = .ok (.iconst 3, 1) := by decide +kernel
theorem d_C_init_33 : decode b_C_init 33 = .ok (.newarray .int, 2) := by decide +kernel
theorem d_C_init_35 : decode b_C_init 35 = .ok (.putfield 27, 3) := by decide +kernel
theorem d_C_init_38 : decode b_C_init 38 = .ok (.aload_n 0, 1) := by decide +kernel
theorem d_C_init_39 : decode b_C_init 39 = .ok (.iconst 3, 1) := by decide +kernel
theorem d_C_init_40 : decode b_C_init 40 = .ok (.newarray .int, 2) := by decide +kernel
theorem d_C_init_42 : decode b_C_init 42 = .ok (.putfield 31, 3) := by decide +kernel
theorem d_C_init_45 : decode b_C_init 45 = .ok (.aload_n 0, 1) := by decide +kernel
theorem d_C_init_46 : decode b_C_init 46 = .ok (.bipush 6, 2) := by decide +kernel
theorem d_C_init_48 : decode b_C_init 48 = .ok (.newarray .int, 2) := by decide +kernel
theorem d_C_init_50 : decode b_C_init 50 = .ok (.putfield 34, 3) := by decide +kernel
theorem d_C_init_53 : decode b_C_init 53 = .ok (.aload_n 0, 1) := by decide +kernel
theorem d_C_init_54 : decode b_C_init 54 = .ok (.bipush 20, 2) := by decide +kernel
theorem d_C_init_56 : decode b_C_init 56 = .ok (.newarray .int, 2) := by decide +kernel
theorem d_C_init_58 : decode b_C_init 58 = .ok (.putfield 37, 3) := by decide +kernel
theorem d_C_init_61 : decode b_C_init 61 = .ok (.aload_n 0, 1) := by decide +kernel
theorem d_C_init_62 : decode b_C_init 62 = .ok (.iconst 1, 1) := by decide +kernel
theorem d_C_init_63 : decode b_C_init 63 = .ok (.putfield 40, 3) := by decide +kernel
theorem d_C_init_66 : decode b_C_init 66 = .ok (.aload_n 0, 1) := by decide +kernel
theorem d_C_init_67 : decode b_C_init 67 = .ok (.getfield 27, 3) := by decide +kernel
theorem d_C_init_70 : decode b_C_init 70 = .ok (.bipush 30, 2) := by decide +kernel
theorem d_C_init_72 : decode b_C_init 72 = .ok (.invokestatic 44, 3) := by decide +kernel
theorem d_C_init_75 : decode b_C_init 75 = .ok (.return_, 1) := by decide +kernel
theorem d_C_place_0 : decode b_C_place 0 = .ok (.iload_n 1, 1) := by decide +kernel
theorem d_C_place_1 : decode b_C_place 1 = .ok (.invokestatic 50, 3) := by decide +kernel
theorem d_C_place_4 : decode b_C_place 4 = .ok (.ifCond .ne 13, 3) := by decide +kernel
theorem d_C_place_7 : decode b_C_place 7 = .ok (.new 54, 3) := by decide +kernel
theorem d_C_place_10 : decode b_C_place 10 = .ok (.dup, 1) := by decide +kernel
theorem d_C_place_11 : decode b_C_place 11 = .ok (.ldc 56, 2) := by decide +kernel
theorem d_C_place_13 : decode b_C_place 13 = .ok (.invokespecial 58, 3) := by decide +kernel
theorem d_C_place_16 : decode b_C_place 16 = .ok (.athrow, 1) := by decide +kernel
theorem d_C_place_17 : decode b_C_place 17 = .ok (.aload_n 0, 1) := by decide +kernel
theorem d_C_place_18 : decode b_C_place 18 = .ok (.getfield 61, 3) := by decide +kernel
theorem d_C_place_21 : decode b_C_place 21 = .ok (.bipush 20, 2) := by decide +kernel
theorem d_C_place_23 : decode b_C_place 23 = .ok (.if_icmp .lt 13, 3) := by decide +kernel
theorem d_C_place_26 : decode b_C_place 26 = .ok (.new 65, 3) := by decide +kernel
theorem d_C_place_29 : decode b_C_place 29 = .ok (.dup, 1) := by decide +kernel
theorem d_C_place_30 : decode b_C_place 30 = .ok (.ldc 67, 2) := by decide +kernel
theorem d_C_place_32 : decode b_C_place 32 = .ok (.invokespecial 69, 3) := by decide +kernel
theorem d_C_place_35 : decode b_C_place 35 = .ok (.athrow, 1) := by decide +kernel
theorem d_C_place_36 : decode b_C_place 36 = .ok (.aload_n 0, 1) := by decide +kernel
theorem d_C_place_37 : decode b_C_place 37 = .ok (.getfield 61, 3) := by decide +kernel
theorem d_C_place_40 : decode b_C_place 40 = .ok (.istore_n 2, 1) := by decide +kernel
theorem d_C_place_41 : decode b_C_place 41 = .ok (.aload_n 0, 1) := by decide +kernel
theorem d_C_place_42 : decode b_C_place 42 = .ok (.getfield 11, 3) := by decide +kernel
theorem d_C_place_45 : decode b_C_place 45 = .ok (.iload_n 2, 1) := by decide +kernel
theorem d_C_place_46 : decode b_C_place 46 = .ok (.new 9, 3) := by decide +kernel
theorem d_C_place_49 : decode b_C_place 49 = .ok (.dup, 1) := by decide +kernel
theorem d_C_place_50 : decode b_C_place 50 = .ok (.iload_n 1, 1) := by decide +kernel
theorem d_C_place_51 : decode b_C_place 51 = .ok (.invokespecial 70, 3) := by decide +kernel
theorem d_C_place_54 : decode b_C_place 54 = .ok (.aastore, 1) := by decide +kernel
theorem d_C_place_55 : decode b_C_place 55 = .ok (.aload_n 0, 1) := by decide +kernel
theorem d_C_place_56 : decode b_C_place 56 = .ok (.dup, 1) := by decide +kernel
theorem d_C_place_57 : decode b_C_place 57 = .ok (.getfield 61, 3) := by decide +kernel
theorem d_C_place_60 : decode b_C_place 60 = .ok (.iconst 1, 1) := by decide +kernel
theorem d_C_place_61 : decode b_C_place 61 = .ok (.iadd, 1) := by decide +kernel
theorem d_C_place_62 : decode b_C_place 62 = .ok (.putfield 61, 3) := by decide +kernel
theorem d_C_place_65 : decode b_C_place 65 = .ok (.iload_n 2, 1) := by decide +kernel
theorem d_C_place_66 : decode b_C_place 66 = .ok (.ireturn, 1) := by decide +kernel
theorem d_C_stock_0 : decode b_C_stock 0 = .ok (.aload_n 0, 1) := by decide +kernel
theorem d_C_stock_1 : decode b_C_stock 1 = .ok (.iload_n 1, 1) := by decide +kernel
theorem d_C_stock_2 : decode b_C_stock 2 = .ok (.invokevirtual 73, 3) := by decide +kernel
theorem d_C_stock_5 : decode b_C_stock 5 = .ok (.astore 4, 2) := by decide +kernel
theorem d_C_stock_7 : decode b_C_stock 7 = .ok (.iload_n 2, 1) := by decide +kernel
theorem d_C_stock_8 : decode b_C_stock 8 = .ok (.invokestatic 77, 3) := by decide +kernel
theorem d_C_stock_11 : decode b_C_stock 11 = .ok (.ifCond .eq 10, 3) := by decide +kernel
theorem d_C_stock_14 : decode b_C_stock 14 = .ok (.iload_n 3, 1) := by decide +kernel
theorem d_C_stock_15 : decode b_C_stock 15 = .ok (.invokestatic 80, 3) := by decide +kernel
theorem d_C_stock_18 : decode b_C_stock 18 = .ok (.ifCond .ne 13, 3) := by decide +kernel
theorem d_C_stock_21 : decode b_C_stock 21 = .ok (.new 54, 3) := by decide +kernel
theorem d_C_stock_24 : decode b_C_stock 24 = .ok (.dup, 1) := by decide +kernel
theorem d_C_stock_25 : decode b_C_stock 25 = .ok (.ldc 83, 2) := by decide +kernel
theorem d_C_stock_27 : decode b_C_stock 27 = .ok (.invokespecial 58, 3) := by decide +kernel
theorem d_C_stock_30 : decode b_C_stock 30 = .ok (.athrow, 1) := by decide +kernel
theorem d_C_stock_31 : decode b_C_stock 31 = .ok (.aload 4, 2) := by decide +kernel
theorem d_C_stock_33 : decode b_C_stock 33 = .ok (.getfield 85, 3) := by decide +kernel
theorem d_C_stock_36 : decode b_C_stock 36 = .ok (.iload_n 2, 1) := by decide +kernel
theorem d_C_stock_37 : decode b_C_stock 37 = .ok (.iload_n 3, 1) := by decide +kernel
theorem d_C_stock_38 : decode b_C_stock 38 = .ok (.iastore, 1) := by decide +kernel
theorem d_C_stock_39 : decode b_C_stock 39 = .ok (.return_, 1) := by decide +kernel
theorem d_C_cycle_0 : decode b_C_cycle 0 = .ok (.iload_n 1, 1) := by decide +kernel
theorem d_C_cycle_1 : decode b_C_cycle 1 = .ok (.invokestatic 50, 3) := by decide +kernel
theorem d_C_cycle_4 : decode b_C_cycle 4 = .ok (.ifCond .eq 25, 3) := by decide +kernel
theorem d_C_cycle_7 : decode b_C_cycle 7 = .ok (.iload_n 2, 1) := by decide +kernel
theorem d_C_cycle_8 : decode b_C_cycle 8 = .ok (.iconst 1, 1) := by decide +kernel
theorem d_C_cycle_9 : decode b_C_cycle 9 = .ok (.sipush 1000, 3) := by decide +kernel
theorem d_C_cycle_12 : decode b_C_cycle 12 = .ok (.invokestatic 88, 3) := by decide +kernel
theorem d_C_cycle_15 : decode b_C_cycle 15 = .ok (.ifCond .eq 14, 3) := by decide +kernel
theorem d_C_cycle_18 : decode b_C_cycle 18 = .ok (.iload_n 3, 1) := by decide +kernel
theorem d_C_cycle_19 : decode b_C_cycle 19 = .ok (.iconst 0, 1) := by decide +kernel
theorem d_C_cycle_20 : decode b_C_cycle 20 = .ok (.sipush 1000, 3) := by decide +kernel
theorem d_C_cycle_23 : decode b_C_cycle 23 = .ok (.invokestatic 88, 3) := by decide +kernel
theorem d_C_cycle_26 : decode b_C_cycle 26 = .ok (.ifCond .ne 13, 3) := by decide +kernel
theorem d_C_cycle_29 : decode b_C_cycle 29 = .ok (.new 54, 3) := by decide +kernel
theorem d_C_cycle_32 : decode b_C_cycle 32 = .ok (.dup, 1) := by decide +kernel
theorem d_C_cycle_33 : decode b_C_cycle 33 = .ok (.ldc 92, 2) := by decide +kernel
theorem d_C_cycle_35 : decode b_C_cycle 35 = .ok (.invokespecial 58, 3) := by decide +kernel
theorem d_C_cycle_38 : decode b_C_cycle 38 = .ok (.athrow, 1) := by decide +kernel
theorem d_C_cycle_39 : decode b_C_cycle 39 = .ok (.aload_n 0, 1) := by decide +kernel
theorem d_C_cycle_40 : decode b_C_cycle 40 = .ok (.getfield 27, 3) := by decide +kernel
theorem d_C_cycle_43 : decode b_C_cycle 43 = .ok (.iload_n 1, 1) := by decide +kernel
theorem d_C_cycle_44 : decode b_C_cycle 44 = .ok (.iload_n 2, 1) := by decide +kernel
theorem d_C_cycle_45 : decode b_C_cycle 45 = .ok (.iastore, 1) := by decide +kernel
theorem d_C_cycle_46 : decode b_C_cycle 46 = .ok (.aload_n 0, 1) := by decide +kernel
theorem d_C_cycle_47 : decode b_C_cycle 47 = .ok (.getfield 31, 3) := by decide +kernel
theorem d_C_cycle_50 : decode b_C_cycle 50 = .ok (.iload_n 1, 1) := by decide +kernel
theorem d_C_cycle_51 : decode b_C_cycle 51 = .ok (.iload_n 3, 1) := by decide +kernel
theorem d_C_cycle_52 : decode b_C_cycle 52 = .ok (.iastore, 1) := by decide +kernel
theorem d_C_cycle_53 : decode b_C_cycle 53 = .ok (.return_, 1) := by decide +kernel
theorem d_C_right_0 : decode b_C_right 0 = .ok (.iload_n 1, 1) := by decide +kernel
theorem d_C_right_1 : decode b_C_right 1 = .ok (.invokestatic 94, 3) := by decide +kernel
theorem d_C_right_4 : decode b_C_right 4 = .ok (.ifCond .eq 10, 3) := by decide +kernel
theorem d_C_right_7 : decode b_C_right 7 = .ok (.iload_n 2, 1) := by decide +kernel
theorem d_C_right_8 : decode b_C_right 8 = .ok (.invokestatic 80, 3) := by decide +kernel
theorem d_C_right_11 : decode b_C_right 11 = .ok (.ifCond .ne 13, 3) := by decide +kernel
theorem d_C_right_14 : decode b_C_right 14 = .ok (.new 54, 3) := by decide +kernel
theorem d_C_right_17 : decode b_C_right 17 = .ok (.dup, 1) := by decide +kernel
theorem d_C_right_18 : decode b_C_right 18 = .ok (.ldc 97, 2) := by decide +kernel
theorem d_C_right_20 : decode b_C_right 20 = .ok (.invokespecial 58, 3) := by decide +kernel
theorem d_C_right_23 : decode b_C_right 23 = .ok (.athrow, 1) := by decide +kernel
theorem d_C_right_24 : decode b_C_right 24 = .ok (.aload_n 0, 1) := by decide +kernel
theorem d_C_right_25 : decode b_C_right 25 = .ok (.getfield 34, 3) := by decide +kernel
theorem d_C_right_28 : decode b_C_right 28 = .ok (.iload_n 1, 1) := by decide +kernel
theorem d_C_right_29 : decode b_C_right 29 = .ok (.iload_n 2, 1) := by decide +kernel
theorem d_C_right_30 : decode b_C_right 30 = .ok (.iastore, 1) := by decide +kernel
theorem d_C_right_31 : decode b_C_right 31 = .ok (.return_, 1) := by decide +kernel
theorem d_C_setting_0 : decode b_C_setting 0 = .ok (.iload_n 1, 1) := by decide +kernel
theorem d_C_setting_1 : decode b_C_setting 1 = .ok (.iconst 0, 1) := by decide +kernel
theorem d_C_setting_2 : decode b_C_setting 2 = .ok (.iconst 1, 1) := by decide +kernel
theorem d_C_setting_3 : decode b_C_setting 3 = .ok (.invokestatic 88, 3) := by decide +kernel
theorem d_C_setting_6 : decode b_C_setting 6 = .ok (.ifCond .ne 13, 3) := by decide +kernel
theorem d_C_setting_9 : decode b_C_setting 9 = .ok (.new 54, 3) := by decide +kernel
theorem d_C_setting_12 : decode b_C_setting 12 = .ok (.dup, 1) := by decide +kernel
theorem d_C_setting_13 : decode b_C_setting 13 = .ok (.ldc 99, 2) := by decide +kernel
theorem d_C_setting_15 : decode b_C_setting 15 = .ok (.invokespecial 58, 3) := by decide +kernel
theorem d_C_setting_18 : decode b_C_setting 18 = .ok (.athrow, 1) := by decide +kernel
theorem d_C_setting_19 : decode b_C_setting 19 = .ok (.aload_n 0, 1) := by decide +kernel
theorem d_C_setting_20 : decode b_C_setting 20 = .ok (.iload_n 1, 1) := by decide +kernel
theorem d_C_setting_21 : decode b_C_setting 21 = .ok (.ifCond .ne 7, 3) := by decide +kernel
theorem d_C_setting_24 : decode b_C_setting 24 = .ok (.iconst 1, 1) := by decide +kernel
theorem d_C_setting_25 : decode b_C_setting 25 = .ok (.goto 4, 3) := by decide +kernel
theorem d_C_setting_28 : decode b_C_setting 28 = .ok (.iconst 0, 1) := by decide +kernel
theorem d_C_setting_29 : decode b_C_setting 29 = .ok (.putfield 40, 3) := by decide +kernel
theorem d_C_setting_32 : decode b_C_setting 32 = .ok (.return_, 1) := by decide +kernel
theorem d_C_day_0 : decode b_C_day 0 = .ok (.iload_n 1, 1) := by decide +kernel
theorem d_C_day_1 : decode b_C_day 1 = .ok (.invokestatic 101, 3) := by decide +kernel
theorem d_C_day_4 : decode b_C_day 4 = .ok (.ifCond .ne 13, 3) := by decide +kernel
theorem d_C_day_7 : decode b_C_day 7 = .ok (.new 54, 3) := by decide +kernel
theorem d_C_day_10 : decode b_C_day 10 = .ok (.dup, 1) := by decide +kernel
theorem d_C_day_11 : decode b_C_day 11 = .ok (.ldc 104, 2) := by decide +kernel
theorem d_C_day_13 : decode b_C_day 13 = .ok (.invokespecial 58, 3) := by decide +kernel
theorem d_C_day_16 : decode b_C_day 16 = .ok (.athrow, 1) := by decide +kernel
theorem d_C_day_17 : decode b_C_day 17 = .ok (.iload_n 1, 1) := by decide +kernel
theorem d_C_day_18 : decode b_C_day 18 = .ok (.aload_n 0, 1) := by decide +kernel
theorem d_C_day_19 : decode b_C_day 19 = .ok (.getfield 106, 3) := by decide +kernel
theorem d_C_day_22 : decode b_C_day 22 = .ok (.if_icmp .ge 13, 3) := by decide +kernel
theorem d_C_day_25 : decode b_C_day 25 = .ok (.new 109, 3) := by decide +kernel
theorem d_C_day_28 : decode b_C_day 28 = .ok (.dup, 1) := by decide +kernel
theorem d_C_day_29 : decode b_C_day 29 = .ok (.ldc 111, 2) := by decide +kernel
theorem d_C_day_31 : decode b_C_day 31 = .ok (.invokespecial 113, 3) := by decide +kernel
theorem d_C_day_34 : decode b_C_day 34 = .ok (.athrow, 1) := by decide +kernel
theorem d_C_day_35 : decode b_C_day 35 = .ok (.aload_n 0, 1) := by decide +kernel
theorem d_C_day_36 : decode b_C_day 36 = .ok (.iload_n 1, 1) := by decide +kernel
theorem d_C_day_37 : decode b_C_day 37 = .ok (.putfield 106, 3) := by decide +kernel
theorem d_C_day_40 : decode b_C_day 40 = .ok (.return_, 1) := by decide +kernel
theorem d_C_move_0 : decode b_C_move 0 = .ok (.aload_n 0, 1) := by decide +kernel
theorem d_C_move_1 : decode b_C_move 1 = .ok (.iload_n 1, 1) := by decide +kernel
theorem d_C_move_2 : decode b_C_move 2 = .ok (.invokevirtual 73, 3) := by decide +kernel
theorem d_C_move_5 : decode b_C_move 5 = .ok (.astore 5, 2) := by decide +kernel
theorem d_C_move_7 : decode b_C_move 7 = .ok (.aload_n 0, 1) := by decide +kernel
theorem d_C_move_8 : decode b_C_move 8 = .ok (.iload_n 2, 1) := by decide +kernel
theorem d_C_move_9 : decode b_C_move 9 = .ok (.invokevirtual 73, 3) := by decide +kernel
theorem d_C_move_12 : decode b_C_move 12 = .ok (.pop, 1) := by decide +kernel
theorem d_C_move_13 : decode b_C_move 13 = .ok (.iload_n 1, 1) := by decide +kernel
theorem d_C_move_14 : decode b_C_move 14 = .ok (.iload_n 2, 1) := by decide +kernel
theorem d_C_move_15 : decode b_C_move 15 = .ok (.if_icmp .eq 21, 3) := by decide +kernel
theorem d_C_move_18 : decode b_C_move 18 = .ok (.iload_n 3, 1) := by decide +kernel
theorem d_C_move_19 : decode b_C_move 19 = .ok (.invokestatic 77, 3) := by decide +kernel
theorem d_C_move_22 : decode b_C_move 22 = .ok (.ifCond .eq 14, 3) := by decide +kernel
theorem d_C_move_25 : decode b_C_move 25 = .ok (.iload 4, 2) := by decide +kernel
theorem d_C_move_27 : decode b_C_move 27 = .ok (.iconst 1, 1) := by decide +kernel
theorem d_C_move_28 : decode b_C_move 28 = .ok (.ldc 114, 2) := by decide +kernel
theorem d_C_move_30 : decode b_C_move 30 = .ok (.invokestatic 88, 3) := by decide +kernel
theorem d_C_move_33 : decode b_C_move 33 = .ok (.ifCond .ne 13, 3) := by decide +kernel
theorem d_C_move_36 : decode b_C_move 36 = .ok (.new 54, 3) := by decide +kernel
theorem d_C_move_39 : decode b_C_move 39 = .ok (.dup, 1) := by decide +kernel
theorem d_C_move_40 : decode b_C_move 40 = .ok (.ldc 115, 2) := by decide +kernel
theorem d_C_move_42 : decode b_C_move 42 = .ok (.invokespecial 58, 3) := by decide +kernel
theorem d_C_move_45 : decode b_C_move 45 = .ok (.athrow, 1) := by decide +kernel
theorem d_C_move_46 : decode b_C_move 46 = .ok (.aload 5, 2) := by decide +kernel
theorem d_C_move_48 : decode b_C_move 48 = .ok (.getfield 85, 3) := by decide +kernel
theorem d_C_move_51 : decode b_C_move 51 = .ok (.iload_n 3, 1) := by decide +kernel
theorem d_C_move_52 : decode b_C_move 52 = .ok (.iaload, 1) := by decide +kernel
theorem d_C_move_53 : decode b_C_move 53 = .ok (.iload 4, 2) := by decide +kernel
theorem d_C_move_55 : decode b_C_move 55 = .ok (.if_icmp .ge 13, 3) := by decide +kernel
theorem d_C_move_58 : decode b_C_move 58 = .ok (.new 109, 3) := by decide +kernel
theorem d_C_move_61 : decode b_C_move 61 = .ok (.dup, 1) := by decide +kernel
theorem d_C_move_62 : decode b_C_move 62 = .ok (.ldc 117, 2) := by decide +kernel
theorem d_C_move_64 : decode b_C_move 64 = .ok (.invokespecial 113, 3) := by decide +kernel
theorem d_C_move_67 : decode b_C_move 67 = .ok (.athrow, 1) := by decide +kernel
theorem d_C_move_68 : decode b_C_move 68 = .ok (.aload_n 0, 1) := by decide +kernel
theorem d_C_move_69 : decode b_C_move 69 = .ok (.getfield 119, 3) := by decide +kernel
theorem d_C_move_72 : decode b_C_move 72 = .ok (.bipush 60, 2) := by decide +kernel
theorem d_C_move_74 : decode b_C_move 74 = .ok (.if_icmp .lt 13, 3) := by decide +kernel
theorem d_C_move_77 : decode b_C_move 77 = .ok (.new 65, 3) := by decide +kernel
theorem d_C_move_80 : decode b_C_move 80 = .ok (.dup, 1) := by decide +kernel
theorem d_C_move_81 : decode b_C_move 81 = .ok (.ldc 122, 2) := by decide +kernel
theorem d_C_move_83 : decode b_C_move 83 = .ok (.invokespecial 69, 3) := by decide +kernel
theorem d_C_move_86 : decode b_C_move 86 = .ok (.athrow, 1) := by decide +kernel
theorem d_C_move_87 : decode b_C_move 87 = .ok (.aload 5, 2) := by decide +kernel
theorem d_C_move_89 : decode b_C_move 89 = .ok (.getfield 85, 3) := by decide +kernel
theorem d_C_move_92 : decode b_C_move 92 = .ok (.iload_n 3, 1) := by decide +kernel
theorem d_C_move_93 : decode b_C_move 93 = .ok (.dup2, 1) := by decide +kernel
theorem d_C_move_94 : decode b_C_move 94 = .ok (.iaload, 1) := by decide +kernel
theorem d_C_move_95 : decode b_C_move 95 = .ok (.iload 4, 2) := by decide +kernel
theorem d_C_move_97 : decode b_C_move 97 = .ok (.isub, 1) := by decide +kernel
theorem d_C_move_98 : decode b_C_move 98 = .ok (.iastore, 1) := by decide +kernel
theorem d_C_move_99 : decode b_C_move 99 = .ok (.aload_n 0, 1) := by decide +kernel
theorem d_C_move_100 : decode b_C_move 100 = .ok (.getfield 17, 3) := by decide +kernel
theorem d_C_move_103 : decode b_C_move 103 = .ok (.aload_n 0, 1) := by decide +kernel
theorem d_C_move_104 : decode b_C_move 104 = .ok (.getfield 119, 3) := by decide +kernel
theorem d_C_move_107 : decode b_C_move 107 = .ok (.new 15, 3) := by decide +kernel
theorem d_C_move_110 : decode b_C_move 110 = .ok (.dup, 1) := by decide +kernel
theorem d_C_move_111 : decode b_C_move 111 = .ok (.iload_n 1, 1) := by decide +kernel
theorem d_C_move_112 : decode b_C_move 112 = .ok (.iload_n 2, 1) := by decide +kernel
theorem d_C_move_113 : decode b_C_move 113 = .ok (.iload_n 3, 1) := by decide +kernel
theorem d_C_move_114 : decode b_C_move 114 = .ok (.iload 4, 2) := by decide +kernel
theorem d_C_move_116 : decode b_C_move 116 = .ok (.invokespecial 124, 3) := by decide +kernel
theorem d_C_move_119 : decode b_C_move 119 = .ok (.aastore, 1) := by decide +kernel
theorem d_C_move_120 : decode b_C_move 120 = .ok (.aload_n 0, 1) := by decide +kernel
theorem d_C_move_121 : decode b_C_move 121 = .ok (.dup, 1) := by decide +kernel
theorem d_C_move_122 : decode b_C_move 122 = .ok (.getfield 119, 3) := by decide +kernel
theorem d_C_move_125 : decode b_C_move 125 = .ok (.iconst 1, 1) := by decide +kernel
theorem d_C_move_126 : decode b_C_move 126 = .ok (.iadd, 1) := by decide +kernel
theorem d_C_move_127 : decode b_C_move 127 = .ok (.putfield 119, 3) := by decide +kernel
theorem d_C_move_130 : decode b_C_move 130 = .ok (.aload_n 0, 1) := by decide +kernel
theorem d_C_move_131 : decode b_C_move 131 = .ok (.getfield 119, 3) := by decide +kernel
theorem d_C_move_134 : decode b_C_move 134 = .ok (.ireturn, 1) := by decide +kernel
theorem d_C_end_0 : decode b_C_end 0 = .ok (.aload_n 0, 1) := by decide +kernel
theorem d_C_end_1 : decode b_C_end 1 = .ok (.iload_n 1, 1) := by decide +kernel
theorem d_C_end_2 : decode b_C_end 2 = .ok (.invokevirtual 127, 3) := by decide +kernel
theorem d_C_end_5 : decode b_C_end 5 = .ok (.astore_n 2, 1) := by decide +kernel
theorem d_C_end_6 : decode b_C_end 6 = .ok (.aload_n 0, 1) := by decide +kernel
theorem d_C_end_7 : decode b_C_end 7 = .ok (.aload_n 2, 1) := by decide +kernel
theorem d_C_end_8 : decode b_C_end 8 = .ok (.getfield 131, 3) := by decide +kernel
theorem d_C_end_11 : decode b_C_end 11 = .ok (.invokevirtual 73, 3) := by decide +kernel
theorem d_C_end_14 : decode b_C_end 14 = .ok (.astore_n 3, 1) := by decide +kernel
theorem d_C_end_15 : decode b_C_end 15 = .ok (.aload_n 3, 1) := by decide +kernel
theorem d_C_end_16 : decode b_C_end 16 = .ok (.getfield 85, 3) := by decide +kernel
theorem d_C_end_19 : decode b_C_end 19 = .ok (.aload_n 2, 1) := by decide +kernel
theorem d_C_end_20 : decode b_C_end 20 = .ok (.getfield 134, 3) := by decide +kernel
theorem d_C_end_23 : decode b_C_end 23 = .ok (.iaload, 1) := by decide +kernel
theorem d_C_end_24 : decode b_C_end 24 = .ok (.aload_n 2, 1) := by decide +kernel
theorem d_C_end_25 : decode b_C_end 25 = .ok (.getfield 137, 3) := by decide +kernel
theorem d_C_end_28 : decode b_C_end 28 = .ok (.iadd, 1) := by decide +kernel
theorem d_C_end_29 : decode b_C_end 29 = .ok (.istore 4, 2) := by decide +kernel
theorem d_C_end_31 : decode b_C_end 31 = .ok (.aload_n 2, 1) := by decide +kernel
theorem d_C_end_32 : decode b_C_end 32 = .ok (.getfield 139, 3) := by decide +kernel
theorem d_C_end_35 : decode b_C_end 35 = .ok (.ifCond .eq 11, 3) := by decide +kernel
theorem d_C_end_38 : decode b_C_end 38 = .ok (.iload 4, 2) := by decide +kernel
theorem d_C_end_40 : decode b_C_end 40 = .ok (.invokestatic 80, 3) := by decide +kernel
theorem d_C_end_43 : decode b_C_end 43 = .ok (.ifCond .ne 13, 3) := by decide +kernel
theorem d_C_end_46 : decode b_C_end 46 = .ok (.new 109, 3) := by decide +kernel
theorem d_C_end_49 : decode b_C_end 49 = .ok (.dup, 1) := by decide +kernel
theorem d_C_end_50 : decode b_C_end 50 = .ok (.ldc 142, 2) := by decide +kernel
theorem d_C_end_52 : decode b_C_end 52 = .ok (.invokespecial 113, 3) := by decide +kernel
theorem d_C_end_55 : decode b_C_end 55 = .ok (.athrow, 1) := by decide +kernel
theorem d_C_end_56 : decode b_C_end 56 = .ok (.aload_n 3, 1) := by decide +kernel
theorem d_C_end_57 : decode b_C_end 57 = .ok (.getfield 85, 3) := by decide +kernel
theorem d_C_end_60 : decode b_C_end 60 = .ok (.aload_n 2, 1) := by decide +kernel
theorem d_C_end_61 : decode b_C_end 61 = .ok (.getfield 134, 3) := by decide +kernel
theorem d_C_end_64 : decode b_C_end 64 = .ok (.iload 4, 2) := by decide +kernel
theorem d_C_end_66 : decode b_C_end 66 = .ok (.iastore, 1) := by decide +kernel
theorem d_C_end_67 : decode b_C_end 67 = .ok (.aload_n 2, 1) := by decide +kernel
theorem d_C_end_68 : decode b_C_end 68 = .ok (.iconst 0, 1) := by decide +kernel
theorem d_C_end_69 : decode b_C_end 69 = .ok (.putfield 139, 3) := by decide +kernel
theorem d_C_end_72 : decode b_C_end 72 = .ok (.return_, 1) := by decide +kernel
theorem d_C_moves_0 : decode b_C_moves 0 = .ok (.aload_n 0, 1) := by decide +kernel
theorem d_C_moves_1 : decode b_C_moves 1 = .ok (.iload_n 1, 1) := by decide +kernel
theorem d_C_moves_2 : decode b_C_moves 2 = .ok (.invokevirtual 73, 3) := by decide +kernel
theorem d_C_moves_5 : decode b_C_moves 5 = .ok (.pop, 1) := by decide +kernel
theorem d_C_moves_6 : decode b_C_moves 6 = .ok (.aload_n 0, 1) := by decide +kernel
theorem d_C_moves_7 : decode b_C_moves 7 = .ok (.iload_n 1, 1) := by decide +kernel
theorem d_C_moves_8 : decode b_C_moves 8 = .ok (.invokevirtual 144, 3) := by decide +kernel
theorem d_C_moves_11 : decode b_C_moves 11 = .ok (.ireturn, 1) := by decide +kernel
theorem d_C_round_0 : decode b_C_round 0 = .ok (.iload_n 1, 1) := by decide +kernel
theorem d_C_round_1 : decode b_C_round 1 = .ok (.iconst (-1), 1) := by decide +kernel
theorem d_C_round_2 : decode b_C_round 2 = .ok (.if_icmp .eq 10, 3) := by decide +kernel
theorem d_C_round_5 : decode b_C_round 5 = .ok (.iload_n 1, 1) := by decide +kernel
theorem d_C_round_6 : decode b_C_round 6 = .ok (.invokestatic 50, 3) := by decide +kernel
theorem d_C_round_9 : decode b_C_round 9 = .ok (.ifCond .eq 7, 3) := by decide +kernel
theorem d_C_round_12 : decode b_C_round 12 = .ok (.iconst 1, 1) := by decide +kernel
theorem d_C_round_13 : decode b_C_round 13 = .ok (.goto 4, 3) := by decide +kernel
theorem d_C_round_16 : decode b_C_round 16 = .ok (.iconst 0, 1) := by decide +kernel
theorem d_C_round_17 : decode b_C_round 17 = .ok (.istore 5, 2) := by decide +kernel
theorem d_C_round_19 : decode b_C_round 19 = .ok (.iload 5, 2) := by decide +kernel
theorem d_C_round_21 : decode b_C_round 21 = .ok (.ifCond .eq 13, 3) := by decide +kernel
theorem d_C_round_24 : decode b_C_round 24 = .ok (.iload_n 2, 1) := by decide +kernel
theorem d_C_round_25 : decode b_C_round 25 = .ok (.iconst 1, 1) := by decide +kernel
theorem d_C_round_26 : decode b_C_round 26 = .ok (.bipush 20, 2) := by decide +kernel
theorem d_C_round_28 : decode b_C_round 28 = .ok (.invokestatic 88, 3) := by decide +kernel
theorem d_C_round_31 : decode b_C_round 31 = .ok (.ifCond .ne 13, 3) := by decide +kernel
theorem d_C_round_34 : decode b_C_round 34 = .ok (.new 54, 3) := by decide +kernel
theorem d_C_round_37 : decode b_C_round 37 = .ok (.dup, 1) := by decide +kernel
theorem d_C_round_38 : decode b_C_round 38 = .ok (.ldc 148, 2) := by decide +kernel
theorem d_C_round_40 : decode b_C_round 40 = .ok (.invokespecial 58, 3) := by decide +kernel
theorem d_C_round_43 : decode b_C_round 43 = .ok (.athrow, 1) := by decide +kernel
theorem d_C_round_44 : decode b_C_round 44 = .ok (.aload_n 0, 1) := by decide +kernel
theorem d_C_round_45 : decode b_C_round 45 = .ok (.iload_n 1, 1) := by decide +kernel
theorem d_C_round_46 : decode b_C_round 46 = .ok (.invokevirtual 150, 3) := by decide +kernel
theorem d_C_round_49 : decode b_C_round 49 = .ok (.istore 6, 2) := by decide +kernel
theorem d_C_round_51 : decode b_C_round 51 = .ok (.iload 6, 2) := by decide +kernel
theorem d_C_round_53 : decode b_C_round 53 = .ok (.ifCond .ne 13, 3) := by decide +kernel
theorem d_C_round_56 : decode b_C_round 56 = .ok (.new 109, 3) := by decide +kernel
theorem d_C_round_59 : decode b_C_round 59 = .ok (.dup, 1) := by decide +kernel
theorem d_C_round_60 : decode b_C_round 60 = .ok (.ldc 153, 2) := by decide +kernel
theorem d_C_round_62 : decode b_C_round 62 = .ok (.invokespecial 113, 3) := by decide +kernel
theorem d_C_round_65 : decode b_C_round 65 = .ok (.athrow, 1) := by decide +kernel
theorem d_C_round_66 : decode b_C_round 66 = .ok (.aload_n 0, 1) := by decide +kernel
theorem d_C_round_67 : decode b_C_round 67 = .ok (.getfield 155, 3) := by decide +kernel
theorem d_C_round_70 : decode b_C_round 70 = .ok (.bipush 20, 2) := by decide +kernel
theorem d_C_round_72 : decode b_C_round 72 = .ok (.if_icmp .lt 13, 3) := by decide +kernel
theorem d_C_round_75 : decode b_C_round 75 = .ok (.new 65, 3) := by decide +kernel
theorem d_C_round_78 : decode b_C_round 78 = .ok (.dup, 1) := by decide +kernel
theorem d_C_round_79 : decode b_C_round 79 = .ok (.ldc 158, 2) := by decide +kernel
theorem d_C_round_81 : decode b_C_round 81 = .ok (.invokespecial 69, 3) := by decide +kernel
theorem d_C_round_84 : decode b_C_round 84 = .ok (.athrow, 1) := by decide +kernel
theorem d_C_round_85 : decode b_C_round 85 = .ok (.aload_n 0, 1) := by decide +kernel
theorem d_C_round_86 : decode b_C_round 86 = .ok (.iload 6, 2) := by decide +kernel
theorem d_C_round_88 : decode b_C_round 88 = .ok (.iload_n 2, 1) := by decide +kernel
theorem d_C_round_89 : decode b_C_round 89 = .ok (.iload 6, 2) := by decide +kernel
theorem d_C_round_91 : decode b_C_round 91 = .ok (.invokestatic 160, 3) := by decide +kernel
theorem d_C_round_94 : decode b_C_round 94 = .ok (.lload_n 3, 1) := by decide +kernel
theorem d_C_round_95 : decode b_C_round 95 = .ok (.invokevirtual 166, 3) := by decide +kernel
theorem d_C_round_98 : decode b_C_round 98 = .ok (.astore 7, 2) := by decide +kernel
theorem d_C_round_100 : decode b_C_round 100 = .ok (.aload_n 0, 1) := by decide +kernel
theorem d_C_round_101 : decode b_C_round 101 = .ok (.getfield 23, 3) := by decide +kernel
theorem d_C_round_104 : decode b_C_round 104 = .ok (.aload_n 0, 1) := by decide +kernel
theorem d_C_round_105 : decode b_C_round 105 = .ok (.getfield 155, 3) := by decide +kernel
theorem d_C_round_108 : decode b_C_round 108 = .ok (.new 21, 3) := by decide +kernel
theorem d_C_round_111 : decode b_C_round 111 = .ok (.dup, 1) := by decide +kernel
theorem d_C_round_112 : decode b_C_round 112 = .ok (.aload 7, 2) := by decide +kernel
theorem d_C_round_114 : decode b_C_round 114 = .ok (.invokespecial 170, 3) := by decide +kernel
theorem d_C_round_117 : decode b_C_round 117 = .ok (.aastore, 1) := by decide +kernel
theorem d_C_round_118 : decode b_C_round 118 = .ok (.aload_n 0, 1) := by decide +kernel
theorem d_C_round_119 : decode b_C_round 119 = .ok (.dup, 1) := by decide +kernel
theorem d_C_round_120 : decode b_C_round 120 = .ok (.getfield 155, 3) := by decide +kernel
theorem d_C_round_123 : decode b_C_round 123 = .ok (.iconst 1, 1) := by decide +kernel
theorem d_C_round_124 : decode b_C_round 124 = .ok (.iadd, 1) := by decide +kernel
theorem d_C_round_125 : decode b_C_round 125 = .ok (.putfield 155, 3) := by decide +kernel
theorem d_C_round_128 : decode b_C_round 128 = .ok (.aload_n 0, 1) := by decide +kernel
theorem d_C_round_129 : decode b_C_round 129 = .ok (.getfield 155, 3) := by decide +kernel
theorem d_C_round_132 : decode b_C_round 132 = .ok (.ireturn, 1) := by decide +kernel
theorem d_C_freeze_0 : decode b_C_freeze 0 = .ok (.aload_n 0, 1) := by decide +kernel
theorem d_C_freeze_1 : decode b_C_freeze 1 = .ok (.iload_n 1, 1) := by decide +kernel
theorem d_C_freeze_2 : decode b_C_freeze 2 = .ok (.invokevirtual 173, 3) := by decide +kernel
theorem d_C_freeze_5 : decode b_C_freeze 5 = .ok (.astore_n 2, 1) := by decide +kernel
theorem d_C_freeze_6 : decode b_C_freeze 6 = .ok (.aload_n 2, 1) := by decide +kernel
theorem d_C_freeze_7 : decode b_C_freeze 7 = .ok (.getfield 177, 3) := by decide +kernel
theorem d_C_freeze_10 : decode b_C_freeze 10 = .ok (.ifCond .eq 13, 3) := by decide +kernel
theorem d_C_freeze_13 : decode b_C_freeze 13 = .ok (.new 109, 3) := by decide +kernel
theorem d_C_freeze_16 : decode b_C_freeze 16 = .ok (.dup, 1) := by decide +kernel
theorem d_C_freeze_17 : decode b_C_freeze 17 = .ok (.ldc 180, 2) := by decide +kernel
theorem d_C_freeze_19 : decode b_C_freeze 19 = .ok (.invokespecial 113, 3) := by decide +kernel
theorem d_C_freeze_22 : decode b_C_freeze 22 = .ok (.athrow, 1) := by decide +kernel
theorem d_C_freeze_23 : decode b_C_freeze 23 = .ok (.aload_n 0, 1) := by decide +kernel
theorem d_C_freeze_24 : decode b_C_freeze 24 = .ok (.getfield 40, 3) := by decide +kernel
theorem d_C_freeze_27 : decode b_C_freeze 27 = .ok (.ifCond .eq 13, 3) := by decide +kernel
theorem d_C_freeze_30 : decode b_C_freeze 30 = .ok (.aload_n 0, 1) := by decide +kernel
theorem d_C_freeze_31 : decode b_C_freeze 31 = .ok (.aload_n 2, 1) := by decide +kernel
theorem d_C_freeze_32 : decode b_C_freeze 32 = .ok (.invokevirtual 182, 3) := by decide +kernel
theorem d_C_freeze_35 : decode b_C_freeze 35 = .ok (.ifCond .eq 5, 3) := by decide +kernel
theorem d_C_freeze_38 : decode b_C_freeze 38 = .ok (.iconst 0, 1) := by decide +kernel
theorem d_C_freeze_39 : decode b_C_freeze 39 = .ok (.ireturn, 1) := by decide +kernel
theorem d_C_freeze_40 : decode b_C_freeze 40 = .ok (.aload_n 0, 1) := by decide +kernel
theorem d_C_freeze_41 : decode b_C_freeze 41 = .ok (.aload_n 2, 1) := by decide +kernel
theorem d_C_freeze_42 : decode b_C_freeze 42 = .ok (.invokevirtual 186, 3) := by decide +kernel
theorem d_C_freeze_45 : decode b_C_freeze 45 = .ok (.aload_n 2, 1) := by decide +kernel
theorem d_C_freeze_46 : decode b_C_freeze 46 = .ok (.iconst 1, 1) := by decide +kernel
theorem d_C_freeze_47 : decode b_C_freeze 47 = .ok (.putfield 177, 3) := by decide +kernel
theorem d_C_freeze_50 : decode b_C_freeze 50 = .ok (.aload_n 2, 1) := by decide +kernel
theorem d_C_freeze_51 : decode b_C_freeze 51 = .ok (.getfield 190, 3) := by decide +kernel
theorem d_C_freeze_54 : decode b_C_freeze 54 = .ok (.arraylength, 1) := by decide +kernel
theorem d_C_freeze_55 : decode b_C_freeze 55 = .ok (.ireturn, 1) := by decide +kernel
theorem d_C_found_0 : decode b_C_found 0 = .ok (.aload_n 0, 1) := by decide +kernel
theorem d_C_found_1 : decode b_C_found 1 = .ok (.iload_n 1, 1) := by decide +kernel
theorem d_C_found_2 : decode b_C_found 2 = .ok (.invokevirtual 173, 3) := by decide +kernel
theorem d_C_found_5 : decode b_C_found 5 = .ok (.astore 6, 2) := by decide +kernel
theorem d_C_found_7 : decode b_C_found 7 = .ok (.aload_n 0, 1) := by decide +kernel
theorem d_C_found_8 : decode b_C_found 8 = .ok (.iload_n 2, 1) := by decide +kernel
theorem d_C_found_9 : decode b_C_found 9 = .ok (.invokevirtual 73, 3) := by decide +kernel
theorem d_C_found_12 : decode b_C_found 12 = .ok (.pop, 1) := by decide +kernel
theorem d_C_found_13 : decode b_C_found 13 = .ok (.iload_n 3, 1) := by decide +kernel
theorem d_C_found_14 : decode b_C_found 14 = .ok (.invokestatic 77, 3) := by decide +kernel
theorem d_C_found_17 : decode b_C_found 17 = .ok (.ifCond .eq 19, 3) := by decide +kernel
theorem d_C_found_20 : decode b_C_found 20 = .ok (.iload 4, 2) := by decide +kernel
theorem d_C_found_22 : decode b_C_found 22 = .ok (.invokestatic 80, 3) := by decide +kernel
theorem d_C_found_25 : decode b_C_found 25 = .ok (.ifCond .eq 11, 3) := by decide +kernel
theorem d_C_found_28 : decode b_C_found 28 = .ok (.iload 5, 2) := by decide +kernel
theorem d_C_found_30 : decode b_C_found 30 = .ok (.invokestatic 94, 3) := by decide +kernel
theorem d_C_found_33 : decode b_C_found 33 = .ok (.ifCond .ne 13, 3) := by decide +kernel
theorem d_C_found_36 : decode b_C_found 36 = .ok (.new 54, 3) := by decide +kernel
theorem d_C_found_39 : decode b_C_found 39 = .ok (.dup, 1) := by decide +kernel
theorem d_C_found_40 : decode b_C_found 40 = .ok (.ldc 193, 2) := by decide +kernel
theorem d_C_found_42 : decode b_C_found 42 = .ok (.invokespecial 58, 3) := by decide +kernel
theorem d_C_found_45 : decode b_C_found 45 = .ok (.athrow, 1) := by decide +kernel
theorem d_C_found_46 : decode b_C_found 46 = .ok (.aload 6, 2) := by decide +kernel
theorem d_C_found_48 : decode b_C_found 48 = .ok (.getfield 177, 3) := by decide +kernel
theorem d_C_found_51 : decode b_C_found 51 = .ok (.iconst 1, 1) := by decide +kernel
theorem d_C_found_52 : decode b_C_found 52 = .ok (.if_icmp .eq 5, 3) := by decide +kernel
theorem d_C_found_55 : decode b_C_found 55 = .ok (.iconst (-1), 1) := by decide +kernel
theorem d_C_found_56 : decode b_C_found 56 = .ok (.ireturn, 1) := by decide +kernel
theorem d_C_found_57 : decode b_C_found 57 = .ok (.aload 6, 2) := by decide +kernel
theorem d_C_found_59 : decode b_C_found 59 = .ok (.iload_n 2, 1) := by decide +kernel
theorem d_C_found_60 : decode b_C_found 60 = .ok (.invokevirtual 195, 3) := by decide +kernel
theorem d_C_found_63 : decode b_C_found 63 = .ok (.istore 7, 2) := by decide +kernel
theorem d_C_found_65 : decode b_C_found 65 = .ok (.iload 7, 2) := by decide +kernel
theorem d_C_found_67 : decode b_C_found 67 = .ok (.iconst (-1), 1) := by decide +kernel
theorem d_C_found_68 : decode b_C_found 68 = .ok (.if_icmp .ne 6, 3) := by decide +kernel
theorem d_C_found_71 : decode b_C_found 71 = .ok (.bipush (-2), 2) := by decide +kernel
theorem d_C_found_73 : decode b_C_found 73 = .ok (.ireturn, 1) := by decide +kernel
theorem d_C_found_74 : decode b_C_found 74 = .ok (.aload 6, 2) := by decide +kernel
theorem d_C_found_76 : decode b_C_found 76 = .ok (.iload 7, 2) := by decide +kernel
theorem d_C_found_78 : decode b_C_found 78 = .ok (.bipush 6, 2) := by decide +kernel
theorem d_C_found_80 : decode b_C_found 80 = .ok (.imul, 1) := by decide +kernel
theorem d_C_found_81 : decode b_C_found 81 = .ok (.iload_n 3, 1) := by decide +kernel
theorem d_C_found_82 : decode b_C_found 82 = .ok (.iadd, 1) := by decide +kernel
theorem d_C_found_83 : decode b_C_found 83 = .ok (.iload 4, 2) := by decide +kernel
theorem d_C_found_85 : decode b_C_found 85 = .ok (.iload 5, 2) := by decide +kernel
theorem d_C_found_87 : decode b_C_found 87 = .ok (.invokevirtual 198, 3) := by decide +kernel
theorem d_C_found_90 : decode b_C_found 90 = .ok (.ireturn, 1) := by decide +kernel
theorem d_C_second_0 : decode b_C_second 0 = .ok (.aload_n 0, 1) := by decide +kernel
theorem d_C_second_1 : decode b_C_second 1 = .ok (.iload_n 1, 1) := by decide +kernel
theorem d_C_second_2 : decode b_C_second 2 = .ok (.invokevirtual 173, 3) := by decide +kernel
theorem d_C_second_5 : decode b_C_second 5 = .ok (.astore 4, 2) := by decide +kernel
theorem d_C_second_7 : decode b_C_second 7 = .ok (.aload_n 0, 1) := by decide +kernel
theorem d_C_second_8 : decode b_C_second 8 = .ok (.iload_n 2, 1) := by decide +kernel
theorem d_C_second_9 : decode b_C_second 9 = .ok (.invokevirtual 73, 3) := by decide +kernel
theorem d_C_second_12 : decode b_C_second 12 = .ok (.astore 5, 2) := by decide +kernel
theorem d_C_second_14 : decode b_C_second 14 = .ok (.aload 4, 2) := by decide +kernel
theorem d_C_second_16 : decode b_C_second 16 = .ok (.iload_n 2, 1) := by decide +kernel
theorem d_C_second_17 : decode b_C_second 17 = .ok (.invokevirtual 195, 3) := by decide +kernel
theorem d_C_second_20 : decode b_C_second 20 = .ok (.istore 6, 2) := by decide +kernel
theorem d_C_second_22 : decode b_C_second 22 = .ok (.iload 6, 2) := by decide +kernel
theorem d_C_second_24 : decode b_C_second 24 = .ok (.iconst (-1), 1) := by decide +kernel
theorem d_C_second_25 : decode b_C_second 25 = .ok (.if_icmp .ne 13, 3) := by decide +kernel
theorem d_C_second_28 : decode b_C_second 28 = .ok (.new 202, 3) := by decide +kernel
theorem d_C_second_31 : decode b_C_second 31 = .ok (.dup, 1) := by decide +kernel
theorem d_C_second_32 : decode b_C_second 32 = .ok (.ldc 204, 2) := by decide +kernel
theorem d_C_second_34 : decode b_C_second 34 = .ok (.invokespecial 206, 3) := by decide +kernel
theorem d_C_second_37 : decode b_C_second 37 = .ok (.athrow, 1) := by decide +kernel
theorem d_C_second_38 : decode b_C_second 38 = .ok (.iload_n 3, 1) := by decide +kernel
theorem d_C_second_39 : decode b_C_second 39 = .ok (.invokestatic 77, 3) := by decide +kernel
theorem d_C_second_42 : decode b_C_second 42 = .ok (.ifCond .ne 13, 3) := by decide +kernel
theorem d_C_second_45 : decode b_C_second 45 = .ok (.new 54, 3) := by decide +kernel
theorem d_C_second_48 : decode b_C_second 48 = .ok (.dup, 1) := by decide +kernel
theorem d_C_second_49 : decode b_C_second 49 = .ok (.ldc 207, 2) := by decide +kernel
theorem d_C_second_51 : decode b_C_second 51 = .ok (.invokespecial 58, 3) := by decide +kernel
theorem d_C_second_54 : decode b_C_second 54 = .ok (.athrow, 1) := by decide +kernel
theorem d_C_second_55 : decode b_C_second 55 = .ok (.aload 4, 2) := by decide +kernel
theorem d_C_second_57 : decode b_C_second 57 = .ok (.getfield 177, 3) := by decide +kernel
theorem d_C_second_60 : decode b_C_second 60 = .ok (.iconst 1, 1) := by decide +kernel
theorem d_C_second_61 : decode b_C_second 61 = .ok (.if_icmp .eq 13, 3) := by decide +kernel
theorem d_C_second_64 : decode b_C_second 64 = .ok (.new 109, 3) := by decide +kernel
theorem d_C_second_67 : decode b_C_second 67 = .ok (.dup, 1) := by decide +kernel
theorem d_C_second_68 : decode b_C_second 68 = .ok (.ldc 209, 2) := by decide +kernel
theorem d_C_second_70 : decode b_C_second 70 = .ok (.invokespecial 113, 3) := by decide +kernel
theorem d_C_second_73 : decode b_C_second 73 = .ok (.athrow, 1) := by decide +kernel
theorem d_C_second_74 : decode b_C_second 74 = .ok (.iload 6, 2) := by decide +kernel
theorem d_C_second_76 : decode b_C_second 76 = .ok (.bipush 6, 2) := by decide +kernel
theorem d_C_second_78 : decode b_C_second 78 = .ok (.imul, 1) := by decide +kernel
theorem d_C_second_79 : decode b_C_second 79 = .ok (.iload_n 3, 1) := by decide +kernel
theorem d_C_second_80 : decode b_C_second 80 = .ok (.iadd, 1) := by decide +kernel
theorem d_C_second_81 : decode b_C_second 81 = .ok (.istore 7, 2) := by decide +kernel
theorem d_C_second_83 : decode b_C_second 83 = .ok (.aload 4, 2) := by decide +kernel
theorem d_C_second_85 : decode b_C_second 85 = .ok (.iload 7, 2) := by decide +kernel
theorem d_C_second_87 : decode b_C_second 87 = .ok (.invokevirtual 211, 3) := by decide +kernel
theorem d_C_second_90 : decode b_C_second 90 = .ok (.ifCond .eq 23, 3) := by decide +kernel
theorem d_C_second_93 : decode b_C_second 93 = .ok (.aload_n 0, 1) := by decide +kernel
theorem d_C_second_94 : decode b_C_second 94 = .ok (.aload 4, 2) := by decide +kernel
theorem d_C_second_96 : decode b_C_second 96 = .ok (.iload 7, 2) := by decide +kernel
theorem d_C_second_98 : decode b_C_second 98 = .ok (.invokevirtual 214, 3) := by decide +kernel
theorem d_C_second_101 : decode b_C_second 101 = .ok (.aload 5, 2) := by decide +kernel
theorem d_C_second_103 : decode b_C_second 103 = .ok (.invokevirtual 217, 3) := by decide +kernel
theorem d_C_second_106 : decode b_C_second 106 = .ok (.ifCond .ne 7, 3) := by decide +kernel
theorem d_C_second_109 : decode b_C_second 109 = .ok (.iconst 1, 1) := by decide +kernel
theorem d_C_second_110 : decode b_C_second 110 = .ok (.goto 4, 3) := by decide +kernel
theorem d_C_second_113 : decode b_C_second 113 = .ok (.iconst 0, 1) := by decide +kernel
theorem d_C_second_114 : decode b_C_second 114 = .ok (.ireturn, 1) := by decide +kernel
theorem d_C_close_0 : decode b_C_close 0 = .ok (.aload_n 0, 1) := by decide +kernel
theorem d_C_close_1 : decode b_C_close 1 = .ok (.iload_n 1, 1) := by decide +kernel
theorem d_C_close_2 : decode b_C_close 2 = .ok (.invokevirtual 173, 3) := by decide +kernel
theorem d_C_close_5 : decode b_C_close 5 = .ok (.astore_n 2, 1) := by decide +kernel
theorem d_C_close_6 : decode b_C_close 6 = .ok (.aload_n 2, 1) := by decide +kernel
theorem d_C_close_7 : decode b_C_close 7 = .ok (.getfield 177, 3) := by decide +kernel
theorem d_C_close_10 : decode b_C_close 10 = .ok (.iconst 1, 1) := by decide +kernel
theorem d_C_close_11 : decode b_C_close 11 = .ok (.if_icmp .eq 13, 3) := by decide +kernel
theorem d_C_close_14 : decode b_C_close 14 = .ok (.new 109, 3) := by decide +kernel
theorem d_C_close_17 : decode b_C_close 17 = .ok (.dup, 1) := by decide +kernel
theorem d_C_close_18 : decode b_C_close 18 = .ok (.ldc 209, 2) := by decide +kernel
theorem d_C_close_20 : decode b_C_close 20 = .ok (.invokespecial 113, 3) := by decide +kernel
theorem d_C_close_23 : decode b_C_close 23 = .ok (.athrow, 1) := by decide +kernel
theorem d_C_close_24 : decode b_C_close 24 = .ok (.iconst 0, 1) := by decide +kernel
theorem d_C_close_25 : decode b_C_close 25 = .ok (.istore_n 3, 1) := by decide +kernel
theorem d_C_close_26 : decode b_C_close 26 = .ok (.iload_n 3, 1) := by decide +kernel
theorem d_C_close_27 : decode b_C_close 27 = .ok (.aload_n 2, 1) := by decide +kernel
theorem d_C_close_28 : decode b_C_close 28 = .ok (.getfield 190, 3) := by decide +kernel
theorem d_C_close_31 : decode b_C_close 31 = .ok (.arraylength, 1) := by decide +kernel
theorem d_C_close_32 : decode b_C_close 32 = .ok (.if_icmp .ge 43, 3) := by decide +kernel
theorem d_C_close_35 : decode b_C_close 35 = .ok (.aload_n 0, 1) := by decide +kernel
theorem d_C_close_36 : decode b_C_close 36 = .ok (.aload_n 2, 1) := by decide +kernel
theorem d_C_close_37 : decode b_C_close 37 = .ok (.getfield 190, 3) := by decide +kernel
theorem d_C_close_40 : decode b_C_close 40 = .ok (.iload_n 3, 1) := by decide +kernel
theorem d_C_close_41 : decode b_C_close 41 = .ok (.iaload, 1) := by decide +kernel
theorem d_C_close_42 : decode b_C_close 42 = .ok (.invokevirtual 73, 3) := by decide +kernel
theorem d_C_close_45 : decode b_C_close 45 = .ok (.astore 4, 2) := by decide +kernel
theorem d_C_close_47 : decode b_C_close 47 = .ok (.aload 4, 2) := by decide +kernel
theorem d_C_close_49 : decode b_C_close 49 = .ok (.iconst 0, 1) := by decide +kernel
theorem d_C_close_50 : decode b_C_close 50 = .ok (.putfield 221, 3) := by decide +kernel
theorem d_C_close_53 : decode b_C_close 53 = .ok (.aload_n 2, 1) := by decide +kernel
theorem d_C_close_54 : decode b_C_close 54 = .ok (.iload_n 3, 1) := by decide +kernel
theorem d_C_close_55 : decode b_C_close 55 = .ok (.invokevirtual 224, 3) := by decide +kernel
theorem d_C_close_58 : decode b_C_close 58 = .ok (.ifCond .eq 11, 3) := by decide +kernel
theorem d_C_close_61 : decode b_C_close 61 = .ok (.aload_n 0, 1) := by decide +kernel
theorem d_C_close_62 : decode b_C_close 62 = .ok (.aload_n 2, 1) := by decide +kernel
theorem d_C_close_63 : decode b_C_close 63 = .ok (.iload_n 3, 1) := by decide +kernel
theorem d_C_close_64 : decode b_C_close 64 = .ok (.aload 4, 2) := by decide +kernel
theorem d_C_close_66 : decode b_C_close 66 = .ok (.invokevirtual 227, 3) := by decide +kernel
theorem d_C_close_69 : decode b_C_close 69 = .ok (.iinc 3 1, 3) := by decide +kernel
theorem d_C_close_72 : decode b_C_close 72 = .ok (.goto (-46), 3) := by decide +kernel
theorem d_C_close_75 : decode b_C_close 75 = .ok (.aload_n 2, 1) := by decide +kernel
theorem d_C_close_76 : decode b_C_close 76 = .ok (.iconst 2, 1) := by decide +kernel
theorem d_C_close_77 : decode b_C_close 77 = .ok (.putfield 177, 3) := by decide +kernel
theorem d_C_close_80 : decode b_C_close 80 = .ok (.aload_n 2, 1) := by decide +kernel
theorem d_C_close_81 : decode b_C_close 81 = .ok (.getfield 231, 3) := by decide +kernel
theorem d_C_close_84 : decode b_C_close 84 = .ok (.ireturn, 1) := by decide +kernel
theorem d_C_differ_0 : decode b_C_differ 0 = .ok (.aload_n 0, 1) := by decide +kernel
theorem d_C_differ_1 : decode b_C_differ 1 = .ok (.iload_n 1, 1) := by decide +kernel
theorem d_C_differ_2 : decode b_C_differ 2 = .ok (.invokevirtual 173, 3) := by decide +kernel
theorem d_C_differ_5 : decode b_C_differ 5 = .ok (.astore 4, 2) := by decide +kernel
theorem d_C_differ_7 : decode b_C_differ 7 = .ok (.aload 4, 2) := by decide +kernel
theorem d_C_differ_9 : decode b_C_differ 9 = .ok (.iload_n 2, 1) := by decide +kernel
theorem d_C_differ_10 : decode b_C_differ 10 = .ok (.invokestatic 234, 3) := by decide +kernel
theorem d_C_differ_13 : decode b_C_differ 13 = .ok (.istore 5, 2) := by decide +kernel
theorem d_C_differ_15 : decode b_C_differ 15 = .ok (.iload_n 3, 1) := by decide +kernel
theorem d_C_differ_16 : decode b_C_differ 16 = .ok (.tableswitch 100 0 5 #[40, 52, 58, 66, 74, 91], 40) := by decide +kernel
theorem d_C_differ_56 : decode b_C_differ 56 = .ok (.aload 4, 2) := by decide +kernel
theorem d_C_differ_58 : decode b_C_differ 58 = .ok (.getfield 190, 3) := by decide +kernel
theorem d_C_differ_61 : decode b_C_differ 61 = .ok (.iload 5, 2) := by decide +kernel
theorem d_C_differ_63 : decode b_C_differ 63 = .ok (.bipush 6, 2) := by decide +kernel
theorem d_C_differ_65 : decode b_C_differ 65 = .ok (.idiv, 1) := by decide +kernel
theorem d_C_differ_66 : decode b_C_differ 66 = .ok (.iaload, 1) := by decide +kernel
theorem d_C_differ_67 : decode b_C_differ 67 = .ok (.ireturn, 1) := by decide +kernel
theorem d_C_differ_68 : decode b_C_differ 68 = .ok (.iload 5, 2) := by decide +kernel
theorem d_C_differ_70 : decode b_C_differ 70 = .ok (.bipush 6, 2) := by decide +kernel
theorem d_C_differ_72 : decode b_C_differ 72 = .ok (.irem, 1) := by decide +kernel
theorem d_C_differ_73 : decode b_C_differ 73 = .ok (.ireturn, 1) := by decide +kernel
theorem d_C_differ_74 : decode b_C_differ 74 = .ok (.aload 4, 2) := by decide +kernel
theorem d_C_differ_76 : decode b_C_differ 76 = .ok (.iload 5, 2) := by decide +kernel
theorem d_C_differ_78 : decode b_C_differ 78 = .ok (.invokevirtual 214, 3) := by decide +kernel
theorem d_C_differ_81 : decode b_C_differ 81 = .ok (.ireturn, 1) := by decide +kernel
theorem d_C_differ_82 : decode b_C_differ 82 = .ok (.aload 4, 2) := by decide +kernel
theorem d_C_differ_84 : decode b_C_differ 84 = .ok (.iload 5, 2) := by decide +kernel
theorem d_C_differ_86 : decode b_C_differ 86 = .ok (.invokevirtual 238, 3) := by decide +kernel
theorem d_C_differ_89 : decode b_C_differ 89 = .ok (.ireturn, 1) := by decide +kernel
theorem d_C_differ_90 : decode b_C_differ 90 = .ok (.aload 4, 2) := by decide +kernel
theorem d_C_differ_92 : decode b_C_differ 92 = .ok (.getfield 241, 3) := by decide +kernel
theorem d_C_differ_95 : decode b_C_differ 95 = .ok (.iload 5, 2) := by decide +kernel
theorem d_C_differ_97 : decode b_C_differ 97 = .ok (.baload, 1) := by decide +kernel
theorem d_C_differ_98 : decode b_C_differ 98 = .ok (.ifCond .eq 7, 3) := by decide +kernel
theorem d_C_differ_101 : decode b_C_differ 101 = .ok (.iconst 1, 1) := by decide +kernel
theorem d_C_differ_102 : decode b_C_differ 102 = .ok (.goto 4, 3) := by decide +kernel
theorem d_C_differ_105 : decode b_C_differ 105 = .ok (.iconst 0, 1) := by decide +kernel
theorem d_C_differ_106 : decode b_C_differ 106 = .ok (.ireturn, 1) := by decide +kernel
theorem d_C_differ_107 : decode b_C_differ 107 = .ok (.aload 4, 2) := by decide +kernel
theorem d_C_differ_109 : decode b_C_differ 109 = .ok (.getfield 245, 3) := by decide +kernel
theorem d_C_differ_112 : decode b_C_differ 112 = .ok (.iload 5, 2) := by decide +kernel
theorem d_C_differ_114 : decode b_C_differ 114 = .ok (.iaload, 1) := by decide +kernel
theorem d_C_differ_115 : decode b_C_differ 115 = .ok (.ireturn, 1) := by decide +kernel
theorem d_C_differ_116 : decode b_C_differ 116 = .ok (.new 54, 3) := by decide +kernel
theorem d_C_differ_119 : decode b_C_differ 119 = .ok (.dup, 1) := by decide +kernel
theorem d_C_differ_120 : decode b_C_differ 120 = .ok (.ldc 248, 2) := by decide +kernel
theorem d_C_differ_122 : decode b_C_differ 122 = .ok (.invokespecial 58, 3) := by decide +kernel
theorem d_C_differ_125 : decode b_C_differ 125 = .ok (.athrow, 1) := by decide +kernel
theorem d_C_correct_0 : decode b_C_correct 0 = .ok (.aload_n 0, 1) := by decide +kernel
theorem d_C_correct_1 : decode b_C_correct 1 = .ok (.iload_n 1, 1) := by decide +kernel
theorem d_C_correct_2 : decode b_C_correct 2 = .ok (.invokevirtual 173, 3) := by decide +kernel
theorem d_C_correct_5 : decode b_C_correct 5 = .ok (.astore 4, 2) := by decide +kernel
theorem d_C_correct_7 : decode b_C_correct 7 = .ok (.aload 4, 2) := by decide +kernel
theorem d_C_correct_9 : decode b_C_correct 9 = .ok (.iload_n 2, 1) := by decide +kernel
theorem d_C_correct_10 : decode b_C_correct 10 = .ok (.invokestatic 234, 3) := by decide +kernel
theorem d_C_correct_13 : decode b_C_correct 13 = .ok (.istore 5, 2) := by decide +kernel
theorem d_C_correct_15 : decode b_C_correct 15 = .ok (.iload_n 3, 1) := by decide +kernel
theorem d_C_correct_16 : decode b_C_correct 16 = .ok (.invokestatic 94, 3) := by decide +kernel
theorem d_C_correct_19 : decode b_C_correct 19 = .ok (.ifCond .ne 13, 3) := by decide +kernel
theorem d_C_correct_22 : decode b_C_correct 22 = .ok (.new 54, 3) := by decide +kernel
theorem d_C_correct_25 : decode b_C_correct 25 = .ok (.dup, 1) := by decide +kernel
theorem d_C_correct_26 : decode b_C_correct 26 = .ok (.ldc 250, 2) := by decide +kernel
theorem d_C_correct_28 : decode b_C_correct 28 = .ok (.invokespecial 58, 3) := by decide +kernel
theorem d_C_correct_31 : decode b_C_correct 31 = .ok (.athrow, 1) := by decide +kernel
theorem d_C_correct_32 : decode b_C_correct 32 = .ok (.aload 4, 2) := by decide +kernel
theorem d_C_correct_34 : decode b_C_correct 34 = .ok (.getfield 241, 3) := by decide +kernel
theorem d_C_correct_37 : decode b_C_correct 37 = .ok (.iload 5, 2) := by decide +kernel
theorem d_C_correct_39 : decode b_C_correct 39 = .ok (.baload, 1) := by decide +kernel
theorem d_C_correct_40 : decode b_C_correct 40 = .ok (.ifCond .eq 13, 3) := by decide +kernel
theorem d_C_correct_43 : decode b_C_correct 43 = .ok (.new 109, 3) := by decide +kernel
theorem d_C_correct_46 : decode b_C_correct 46 = .ok (.dup, 1) := by decide +kernel
theorem d_C_correct_47 : decode b_C_correct 47 = .ok (.ldc 252, 2) := by decide +kernel
theorem d_C_correct_49 : decode b_C_correct 49 = .ok (.invokespecial 113, 3) := by decide +kernel
theorem d_C_correct_52 : decode b_C_correct 52 = .ok (.athrow, 1) := by decide +kernel
theorem d_C_correct_53 : decode b_C_correct 53 = .ok (.aload_n 0, 1) := by decide +kernel
theorem d_C_correct_54 : decode b_C_correct 54 = .ok (.aload 4, 2) := by decide +kernel
theorem d_C_correct_56 : decode b_C_correct 56 = .ok (.iload 5, 2) := by decide +kernel
theorem d_C_correct_58 : decode b_C_correct 58 = .ok (.iload_n 3, 1) := by decide +kernel
theorem d_C_correct_59 : decode b_C_correct 59 = .ok (.invokevirtual 254, 3) := by decide +kernel
theorem d_C_correct_62 : decode b_C_correct 62 = .ok (.ifCond .ne 14, 3) := by decide +kernel
theorem d_C_correct_65 : decode b_C_correct 65 = .ok (.aload 4, 2) := by decide +kernel
theorem d_C_correct_67 : decode b_C_correct 67 = .ok (.getfield 245, 3) := by decide +kernel
theorem d_C_correct_70 : decode b_C_correct 70 = .ok (.iload 5, 2) := by decide +kernel
theorem d_C_correct_72 : decode b_C_correct 72 = .ok (.iload_n 3, 1) := by decide +kernel
theorem d_C_correct_73 : decode b_C_correct 73 = .ok (.iastore, 1) := by decide +kernel
theorem d_C_correct_74 : decode b_C_correct 74 = .ok (.iconst 0, 1) := by decide +kernel
theorem d_C_correct_75 : decode b_C_correct 75 = .ok (.ireturn, 1) := by decide +kernel
theorem d_C_correct_76 : decode b_C_correct 76 = .ok (.aload_n 0, 1) := by decide +kernel
theorem d_C_correct_77 : decode b_C_correct 77 = .ok (.aload 4, 2) := by decide +kernel
theorem d_C_correct_79 : decode b_C_correct 79 = .ok (.getfield 190, 3) := by decide +kernel
theorem d_C_correct_82 : decode b_C_correct 82 = .ok (.iload 5, 2) := by decide +kernel
theorem d_C_correct_84 : decode b_C_correct 84 = .ok (.bipush 6, 2) := by decide +kernel
theorem d_C_correct_86 : decode b_C_correct 86 = .ok (.idiv, 1) := by decide +kernel
theorem d_C_correct_87 : decode b_C_correct 87 = .ok (.iaload, 1) := by decide +kernel
theorem d_C_correct_88 : decode b_C_correct 88 = .ok (.invokevirtual 73, 3) := by decide +kernel
theorem d_C_correct_91 : decode b_C_correct 91 = .ok (.astore 6, 2) := by decide +kernel
theorem d_C_correct_93 : decode b_C_correct 93 = .ok (.aload 6, 2) := by decide +kernel
theorem d_C_correct_95 : decode b_C_correct 95 = .ok (.getfield 85, 3) := by decide +kernel
theorem d_C_correct_98 : decode b_C_correct 98 = .ok (.iload 5, 2) := by decide +kernel
theorem d_C_correct_100 : decode b_C_correct 100 = .ok (.bipush 6, 2) := by decide +kernel
theorem d_C_correct_102 : decode b_C_correct 102 = .ok (.irem, 1) := by decide +kernel
theorem d_C_correct_103 : decode b_C_correct 103 = .ok (.iaload, 1) := by decide +kernel
theorem d_C_correct_104 : decode b_C_correct 104 = .ok (.aload 4, 2) := by decide +kernel
theorem d_C_correct_106 : decode b_C_correct 106 = .ok (.iload 5, 2) := by decide +kernel
theorem d_C_correct_108 : decode b_C_correct 108 = .ok (.invokevirtual 214, 3) := by decide +kernel
theorem d_C_correct_111 : decode b_C_correct 111 = .ok (.iadd, 1) := by decide +kernel
theorem d_C_correct_112 : decode b_C_correct 112 = .ok (.istore 7, 2) := by decide +kernel
theorem d_C_correct_114 : decode b_C_correct 114 = .ok (.iload 7, 2) := by decide +kernel
theorem d_C_correct_116 : decode b_C_correct 116 = .ok (.invokestatic 80, 3) := by decide +kernel
theorem d_C_correct_119 : decode b_C_correct 119 = .ok (.ifCond .ne 14, 3) := by decide +kernel
theorem d_C_correct_122 : decode b_C_correct 122 = .ok (.new 109, 3) := by decide +kernel
theorem d_C_correct_125 : decode b_C_correct 125 = .ok (.dup, 1) := by decide +kernel
theorem d_C_correct_126 : decode b_C_correct 126 = .ok (.ldc_w 258, 3) := by decide +kernel
theorem d_C_correct_129 : decode b_C_correct 129 = .ok (.invokespecial 113, 3) := by decide +kernel
theorem d_C_correct_132 : decode b_C_correct 132 = .ok (.athrow, 1) := by decide +kernel
theorem d_C_correct_133 : decode b_C_correct 133 = .ok (.aload 6, 2) := by decide +kernel
theorem d_C_correct_135 : decode b_C_correct 135 = .ok (.getfield 85, 3) := by decide +kernel
theorem d_C_correct_138 : decode b_C_correct 138 = .ok (.iload 5, 2) := by decide +kernel
theorem d_C_correct_140 : decode b_C_correct 140 = .ok (.bipush 6, 2) := by decide +kernel
theorem d_C_correct_142 : decode b_C_correct 142 = .ok (.irem, 1) := by decide +kernel
theorem d_C_correct_143 : decode b_C_correct 143 = .ok (.iload 7, 2) := by decide +kernel
theorem d_C_correct_145 : decode b_C_correct 145 = .ok (.iastore, 1) := by decide +kernel
theorem d_C_correct_146 : decode b_C_correct 146 = .ok (.aload 4, 2) := by decide +kernel
theorem d_C_correct_148 : decode b_C_correct 148 = .ok (.getfield 241, 3) := by decide +kernel
theorem d_C_correct_151 : decode b_C_correct 151 = .ok (.iload 5, 2) := by decide +kernel
theorem d_C_correct_153 : decode b_C_correct 153 = .ok (.iconst 1, 1) := by decide +kernel
theorem d_C_correct_154 : decode b_C_correct 154 = .ok (.bastore, 1) := by decide +kernel
theorem d_C_correct_155 : decode b_C_correct 155 = .ok (.iconst 1, 1) := by decide +kernel
theorem d_C_correct_156 : decode b_C_correct 156 = .ok (.ireturn, 1) := by decide +kernel
theorem d_C_share_0 : decode b_C_share 0 = .ok (.iload_n 1, 1) := by decide +kernel
theorem d_C_share_1 : decode b_C_share 1 = .ok (.iconst 0, 1) := by decide +kernel
theorem d_C_share_2 : decode b_C_share 2 = .ok (.iconst 1, 1) := by decide +kernel
theorem d_C_share_3 : decode b_C_share 3 = .ok (.invokestatic 88, 3) := by decide +kernel
theorem d_C_share_6 : decode b_C_share 6 = .ok (.ifCond .ne 14, 3) := by decide +kernel
theorem d_C_share_9 : decode b_C_share 9 = .ok (.new 54, 3) := by decide +kernel
theorem d_C_share_12 : decode b_C_share 12 = .ok (.dup, 1) := by decide +kernel
theorem d_C_share_13 : decode b_C_share 13 = .ok (.ldc_w 260, 3) := by decide +kernel
theorem d_C_share_16 : decode b_C_share 16 = .ok (.invokespecial 58, 3) := by decide +kernel
theorem d_C_share_19 : decode b_C_share 19 = .ok (.athrow, 1) := by decide +kernel
theorem d_C_share_20 : decode b_C_share 20 = .ok (.aload_n 0, 1) := by decide +kernel
theorem d_C_share_21 : decode b_C_share 21 = .ok (.getfield 262, 3) := by decide +kernel
theorem d_C_share_24 : decode b_C_share 24 = .ok (.aload_n 0, 1) := by decide +kernel
theorem d_C_share_25 : decode b_C_share 25 = .ok (.getfield 265, 3) := by decide +kernel
theorem d_C_share_28 : decode b_C_share 28 = .ok (.invokestatic 268, 3) := by decide +kernel
theorem d_C_share_31 : decode b_C_share 31 = .ok (.istore_n 2, 1) := by decide +kernel
theorem d_C_share_32 : decode b_C_share 32 = .ok (.iload_n 2, 1) := by decide +kernel
theorem d_C_share_33 : decode b_C_share 33 = .ok (.ifCond .ne 14, 3) := by decide +kernel
theorem d_C_share_36 : decode b_C_share 36 = .ok (.new 271, 3) := by decide +kernel
theorem d_C_share_39 : decode b_C_share 39 = .ok (.dup, 1) := by decide +kernel
theorem d_C_share_40 : decode b_C_share 40 = .ok (.ldc_w 273, 3) := by decide +kernel
theorem d_C_share_43 : decode b_C_share 43 = .ok (.invokespecial 275, 3) := by decide +kernel
theorem d_C_share_46 : decode b_C_share 46 = .ok (.athrow, 1) := by decide +kernel
theorem d_C_share_47 : decode b_C_share 47 = .ok (.iload_n 1, 1) := by decide +kernel
theorem d_C_share_48 : decode b_C_share 48 = .ok (.ifCond .ne 10, 3) := by decide +kernel
theorem d_C_share_51 : decode b_C_share 51 = .ok (.aload_n 0, 1) := by decide +kernel
theorem d_C_share_52 : decode b_C_share 52 = .ok (.getfield 265, 3) := by decide +kernel
theorem d_C_share_55 : decode b_C_share 55 = .ok (.goto 7, 3) := by decide +kernel
theorem d_C_share_58 : decode b_C_share 58 = .ok (.aload_n 0, 1) := by decide +kernel
theorem d_C_share_59 : decode b_C_share 59 = .ok (.getfield 262, 3) := by decide +kernel
theorem d_C_share_62 : decode b_C_share 62 = .ok (.iload_n 2, 1) := by decide +kernel
theorem d_C_share_63 : decode b_C_share 63 = .ok (.idiv, 1) := by decide +kernel
theorem d_C_share_64 : decode b_C_share 64 = .ok (.ireturn, 1) := by decide +kernel
theorem d_C_last_0 : decode b_C_last 0 = .ok (.aload_n 0, 1) := by decide +kernel
theorem d_C_last_1 : decode b_C_last 1 = .ok (.iload_n 1, 1) := by decide +kernel
theorem d_C_last_2 : decode b_C_last 2 = .ok (.invokevirtual 73, 3) := by decide +kernel
theorem d_C_last_5 : decode b_C_last 5 = .ok (.getfield 276, 3) := by decide +kernel
theorem d_C_last_8 : decode b_C_last 8 = .ok (.ireturn, 1) := by decide +kernel
theorem d_C_due_0 : decode b_C_due 0 = .ok (.iload_n 1, 1) := by decide +kernel
theorem d_C_due_1 : decode b_C_due 1 = .ok (.invokestatic 101, 3) := by decide +kernel
theorem d_C_due_4 : decode b_C_due 4 = .ok (.ifCond .ne 13, 3) := by decide +kernel
theorem d_C_due_7 : decode b_C_due 7 = .ok (.new 54, 3) := by decide +kernel
theorem d_C_due_10 : decode b_C_due 10 = .ok (.dup, 1) := by decide +kernel
theorem d_C_due_11 : decode b_C_due 11 = .ok (.ldc 104, 2) := by decide +kernel
theorem d_C_due_13 : decode b_C_due 13 = .ok (.invokespecial 58, 3) := by decide +kernel
theorem d_C_due_16 : decode b_C_due 16 = .ok (.athrow, 1) := by decide +kernel
theorem d_C_due_17 : decode b_C_due 17 = .ok (.iconst 0, 1) := by decide +kernel
theorem d_C_due_18 : decode b_C_due 18 = .ok (.istore_n 2, 1) := by decide +kernel
theorem d_C_due_19 : decode b_C_due 19 = .ok (.iconst 0, 1) := by decide +kernel
theorem d_C_due_20 : decode b_C_due 20 = .ok (.istore_n 3, 1) := by decide +kernel
theorem d_C_due_21 : decode b_C_due 21 = .ok (.iload_n 3, 1) := by decide +kernel
theorem d_C_due_22 : decode b_C_due 22 = .ok (.aload_n 0, 1) := by decide +kernel
theorem d_C_due_23 : decode b_C_due 23 = .ok (.getfield 61, 3) := by decide +kernel
theorem d_C_due_26 : decode b_C_due 26 = .ok (.if_icmp .ge 48, 3) := by decide +kernel
theorem d_C_due_29 : decode b_C_due 29 = .ok (.aload_n 0, 1) := by decide +kernel
theorem d_C_due_30 : decode b_C_due 30 = .ok (.iload_n 3, 1) := by decide +kernel
theorem d_C_due_31 : decode b_C_due 31 = .ok (.invokevirtual 73, 3) := by decide +kernel
theorem d_C_due_34 : decode b_C_due 34 = .ok (.astore 4, 2) := by decide +kernel
theorem d_C_due_36 : decode b_C_due 36 = .ok (.aload 4, 2) := by decide +kernel
theorem d_C_due_38 : decode b_C_due 38 = .ok (.getfield 276, 3) := by decide +kernel
theorem d_C_due_41 : decode b_C_due 41 = .ok (.iconst (-1), 1) := by decide +kernel
theorem d_C_due_42 : decode b_C_due 42 = .ok (.if_icmp .eq 23, 3) := by decide +kernel
theorem d_C_due_45 : decode b_C_due 45 = .ok (.iload_n 1, 1) := by decide +kernel
theorem d_C_due_46 : decode b_C_due 46 = .ok (.aload 4, 2) := by decide +kernel
theorem d_C_due_48 : decode b_C_due 48 = .ok (.getfield 276, 3) := by decide +kernel
theorem d_C_due_51 : decode b_C_due 51 = .ok (.isub, 1) := by decide +kernel
theorem d_C_due_52 : decode b_C_due 52 = .ok (.aload_n 0, 1) := by decide +kernel
theorem d_C_due_53 : decode b_C_due 53 = .ok (.getfield 27, 3) := by decide +kernel
theorem d_C_due_56 : decode b_C_due 56 = .ok (.aload 4, 2) := by decide +kernel
theorem d_C_due_58 : decode b_C_due 58 = .ok (.getfield 279, 3) := by decide +kernel
theorem d_C_due_61 : decode b_C_due 61 = .ok (.iaload, 1) := by decide +kernel
theorem d_C_due_62 : decode b_C_due 62 = .ok (.if_icmp .lt 6, 3) := by decide +kernel
theorem d_C_due_65 : decode b_C_due 65 = .ok (.iinc 2 1, 3) := by decide +kernel
theorem d_C_due_68 : decode b_C_due 68 = .ok (.iinc 3 1, 3) := by decide +kernel
theorem d_C_due_71 : decode b_C_due 71 = .ok (.goto (-50), 3) := by decide +kernel
theorem d_C_due_74 : decode b_C_due 74 = .ok (.iload_n 2, 1) := by decide +kernel
theorem d_C_due_75 : decode b_C_due 75 = .ok (.ireturn, 1) := by decide +kernel
theorem d_C_booked_0 : decode b_C_booked 0 = .ok (.aload_n 0, 1) := by decide +kernel
theorem d_C_booked_1 : decode b_C_booked 1 = .ok (.iload_n 1, 1) := by decide +kernel
theorem d_C_booked_2 : decode b_C_booked 2 = .ok (.invokevirtual 73, 3) := by decide +kernel
theorem d_C_booked_5 : decode b_C_booked 5 = .ok (.astore_n 3, 1) := by decide +kernel
theorem d_C_booked_6 : decode b_C_booked 6 = .ok (.iload_n 2, 1) := by decide +kernel
theorem d_C_booked_7 : decode b_C_booked 7 = .ok (.invokestatic 77, 3) := by decide +kernel
theorem d_C_booked_10 : decode b_C_booked 10 = .ok (.ifCond .ne 13, 3) := by decide +kernel
theorem d_C_booked_13 : decode b_C_booked 13 = .ok (.new 54, 3) := by decide +kernel
theorem d_C_booked_16 : decode b_C_booked 16 = .ok (.dup, 1) := by decide +kernel
theorem d_C_booked_17 : decode b_C_booked 17 = .ok (.ldc 207, 2) := by decide +kernel
theorem d_C_booked_19 : decode b_C_booked 19 = .ok (.invokespecial 58, 3) := by decide +kernel
theorem d_C_booked_22 : decode b_C_booked 22 = .ok (.athrow, 1) := by decide +kernel
theorem d_C_booked_23 : decode b_C_booked 23 = .ok (.aload_n 3, 1) := by decide +kernel
theorem d_C_booked_24 : decode b_C_booked 24 = .ok (.getfield 85, 3) := by decide +kernel
theorem d_C_booked_27 : decode b_C_booked 27 = .ok (.iload_n 2, 1) := by decide +kernel
theorem d_C_booked_28 : decode b_C_booked 28 = .ok (.iaload, 1) := by decide +kernel
theorem d_C_booked_29 : decode b_C_booked 29 = .ok (.ireturn, 1) := by decide +kernel
theorem d_C_told_0 : decode b_C_told 0 = .ok (.aload_n 0, 1) := by decide +kernel
theorem d_C_told_1 : decode b_C_told 1 = .ok (.iload_n 1, 1) := by decide +kernel
theorem d_C_told_2 : decode b_C_told 2 = .ok (.invokevirtual 173, 3) := by decide +kernel
theorem d_C_told_5 : decode b_C_told 5 = .ok (.astore_n 3, 1) := by decide +kernel
theorem d_C_told_6 : decode b_C_told 6 = .ok (.iload_n 2, 1) := by decide +kernel
theorem d_C_told_7 : decode b_C_told 7 = .ok (.bipush 10, 2) := by decide +kernel
theorem d_C_told_9 : decode b_C_told 9 = .ok (.if_icmp .lt 31, 3) := by decide +kernel
theorem d_C_told_12 : decode b_C_told 12 = .ok (.iload_n 2, 1) := by decide +kernel
theorem d_C_told_13 : decode b_C_told 13 = .ok (.bipush 10, 2) := by decide +kernel
theorem d_C_told_15 : decode b_C_told 15 = .ok (.isub, 1) := by decide +kernel
theorem d_C_told_16 : decode b_C_told 16 = .ok (.istore 4, 2) := by decide +kernel
theorem d_C_told_18 : decode b_C_told 18 = .ok (.iload 4, 2) := by decide +kernel
theorem d_C_told_20 : decode b_C_told 20 = .ok (.aload_n 3, 1) := by decide +kernel
theorem d_C_told_21 : decode b_C_told 21 = .ok (.getfield 190, 3) := by decide +kernel
theorem d_C_told_24 : decode b_C_told 24 = .ok (.arraylength, 1) := by decide +kernel
theorem d_C_told_25 : decode b_C_told 25 = .ok (.if_icmp .ge 13, 3) := by decide +kernel
theorem d_C_told_28 : decode b_C_told 28 = .ok (.aload_n 3, 1) := by decide +kernel
theorem d_C_told_29 : decode b_C_told 29 = .ok (.getfield 190, 3) := by decide +kernel
theorem d_C_told_32 : decode b_C_told 32 = .ok (.iload 4, 2) := by decide +kernel
theorem d_C_told_34 : decode b_C_told 34 = .ok (.iaload, 1) := by decide +kernel
theorem d_C_told_35 : decode b_C_told 35 = .ok (.goto 4, 3) := by decide +kernel
theorem d_C_told_38 : decode b_C_told 38 = .ok (.iconst (-1), 1) := by decide +kernel
theorem d_C_told_39 : decode b_C_told 39 = .ok (.ireturn, 1) := by decide +kernel
theorem d_C_told_40 : decode b_C_told 40 = .ok (.iload_n 2, 1) := by decide +kernel
theorem d_C_told_41 : decode b_C_told 41 = .ok (.tableswitch 43 0 2 #[27, 32, 38], 27) := by decide +kernel
theorem d_C_told_68 : decode b_C_told 68 = .ok (.aload_n 3, 1) := by decide +kernel
theorem d_C_told_69 : decode b_C_told 69 = .ok (.getfield 177, 3) := by decide +kernel
theorem d_C_told_72 : decode b_C_told 72 = .ok (.ireturn, 1) := by decide +kernel
theorem d_C_told_73 : decode b_C_told 73 = .ok (.aload_n 3, 1) := by decide +kernel
theorem d_C_told_74 : decode b_C_told 74 = .ok (.getfield 190, 3) := by decide +kernel
theorem d_C_told_77 : decode b_C_told 77 = .ok (.arraylength, 1) := by decide +kernel
theorem d_C_told_78 : decode b_C_told 78 = .ok (.ireturn, 1) := by decide +kernel
theorem d_C_told_79 : decode b_C_told 79 = .ok (.aload_n 3, 1) := by decide +kernel
theorem d_C_told_80 : decode b_C_told 80 = .ok (.getfield 282, 3) := by decide +kernel
theorem d_C_told_83 : decode b_C_told 83 = .ok (.ireturn, 1) := by decide +kernel
theorem d_C_told_84 : decode b_C_told 84 = .ok (.new 54, 3) := by decide +kernel
theorem d_C_told_87 : decode b_C_told 87 = .ok (.dup, 1) := by decide +kernel
theorem d_C_told_88 : decode b_C_told 88 = .ok (.ldc 248, 2) := by decide +kernel
theorem d_C_told_90 : decode b_C_told 90 = .ok (.invokespecial 58, 3) := by decide +kernel
theorem d_C_told_93 : decode b_C_told 93 = .ok (.athrow, 1) := by decide +kernel
theorem d_C_count_0 : decode b_C_count 0 = .ok (.iload_n 1, 1) := by decide +kernel
theorem d_C_count_1 : decode b_C_count 1 = .ok (.tableswitch 60 0 4 #[35, 40, 45, 50, 55], 35) := by decide +kernel
theorem d_C_count_36 : decode b_C_count 36 = .ok (.aload_n 0, 1) := by decide +kernel
theorem d_C_count_37 : decode b_C_count 37 = .ok (.getfield 61, 3) := by decide +kernel
theorem d_C_count_40 : decode b_C_count 40 = .ok (.ireturn, 1) := by decide +kernel
theorem d_C_count_41 : decode b_C_count 41 = .ok (.aload_n 0, 1) := by decide +kernel
theorem d_C_count_42 : decode b_C_count 42 = .ok (.getfield 119, 3) := by decide +kernel
theorem d_C_count_45 : decode b_C_count 45 = .ok (.ireturn, 1) := by decide +kernel
theorem d_C_count_46 : decode b_C_count 46 = .ok (.aload_n 0, 1) := by decide +kernel
theorem d_C_count_47 : decode b_C_count 47 = .ok (.getfield 155, 3) := by decide +kernel
theorem d_C_count_50 : decode b_C_count 50 = .ok (.ireturn, 1) := by decide +kernel
theorem d_C_count_51 : decode b_C_count 51 = .ok (.aload_n 0, 1) := by decide +kernel
theorem d_C_count_52 : decode b_C_count 52 = .ok (.getfield 106, 3) := by decide +kernel
theorem d_C_count_55 : decode b_C_count 55 = .ok (.ireturn, 1) := by decide +kernel
theorem d_C_count_56 : decode b_C_count 56 = .ok (.aload_n 0, 1) := by decide +kernel
theorem d_C_count_57 : decode b_C_count 57 = .ok (.invokevirtual 285, 3) := by decide +kernel
theorem d_C_count_60 : decode b_C_count 60 = .ok (.ireturn, 1) := by decide +kernel
theorem d_C_count_61 : decode b_C_count 61 = .ok (.iconst (-1), 1) := by decide +kernel
theorem d_C_count_62 : decode b_C_count 62 = .ok (.ireturn, 1) := by decide +kernel
theorem d_C_isWithin_0 : decode b_C_isWithin 0 = .ok (.iload_n 0, 1) := by decide +kernel
theorem d_C_isWithin_1 : decode b_C_isWithin 1 = .ok (.iload_n 1, 1) := by decide +kernel
theorem d_C_isWithin_2 : decode b_C_isWithin 2 = .ok (.if_icmp .lt 12, 3) := by decide +kernel
theorem d_C_isWithin_5 : decode b_C_isWithin 5 = .ok (.iload_n 0, 1) := by decide +kernel
theorem d_C_isWithin_6 : decode b_C_isWithin 6 = .ok (.iload_n 2, 1) := by decide +kernel
theorem d_C_isWithin_7 : decode b_C_isWithin 7 = .ok (.if_icmp .gt 7, 3) := by decide +kernel
theorem d_C_isWithin_10 : decode b_C_isWithin 10 = .ok (.iconst 1, 1) := by decide +kernel
theorem d_C_isWithin_11 : decode b_C_isWithin 11 = .ok (.goto 4, 3) := by decide +kernel
theorem d_C_isWithin_14 : decode b_C_isWithin 14 = .ok (.iconst 0, 1) := by decide +kernel
theorem d_C_isWithin_15 : decode b_C_isWithin 15 = .ok (.ireturn, 1) := by decide +kernel
theorem d_C_isKind_0 : decode b_C_isKind 0 = .ok (.iload_n 0, 1) := by decide +kernel
theorem d_C_isKind_1 : decode b_C_isKind 1 = .ok (.iconst 0, 1) := by decide +kernel
theorem d_C_isKind_2 : decode b_C_isKind 2 = .ok (.iconst 2, 1) := by decide +kernel
theorem d_C_isKind_3 : decode b_C_isKind 3 = .ok (.invokestatic 88, 3) := by decide +kernel
theorem d_C_isKind_6 : decode b_C_isKind 6 = .ok (.ireturn, 1) := by decide +kernel
theorem d_C_isGood_0 : decode b_C_isGood 0 = .ok (.iload_n 0, 1) := by decide +kernel
theorem d_C_isGood_1 : decode b_C_isGood 1 = .ok (.iconst 0, 1) := by decide +kernel
theorem d_C_isGood_2 : decode b_C_isGood 2 = .ok (.iconst 5, 1) := by decide +kernel
theorem d_C_isGood_3 : decode b_C_isGood 3 = .ok (.invokestatic 88, 3) := by decide +kernel
theorem d_C_isGood_6 : decode b_C_isGood 6 = .ok (.ireturn, 1) := by decide +kernel
theorem d_C_isPerson_0 : decode b_C_isPerson 0 = .ok (.iload_n 0, 1) := by decide +kernel
theorem d_C_isPerson_1 : decode b_C_isPerson 1 = .ok (.iconst 0, 1) := by decide +kernel
theorem d_C_isPerson_2 : decode b_C_isPerson 2 = .ok (.iconst 5, 1) := by decide +kernel
theorem d_C_isPerson_3 : decode b_C_isPerson 3 = .ok (.invokestatic 88, 3) := by decide +kernel
theorem d_C_isPerson_6 : decode b_C_isPerson 6 = .ok (.ireturn, 1) := by decide +kernel
theorem d_C_isPieces_0 : decode b_C_isPieces 0 = .ok (.iload_n 0, 1) := by decide +kernel
theorem d_C_isPieces_1 : decode b_C_isPieces 1 = .ok (.iconst 0, 1) := by decide +kernel
theorem d_C_isPieces_2 : decode b_C_isPieces 2 = .ok (.ldc 114, 2) := by decide +kernel
theorem d_C_isPieces_4 : decode b_C_isPieces 4 = .ok (.invokestatic 88, 3) := by decide +kernel
theorem d_C_isPieces_7 : decode b_C_isPieces 7 = .ok (.ireturn, 1) := by decide +kernel
theorem d_C_isDay_0 : decode b_C_isDay 0 = .ok (.iload_n 0, 1) := by decide +kernel
theorem d_C_isDay_1 : decode b_C_isDay 1 = .ok (.iconst 0, 1) := by decide +kernel
theorem d_C_isDay_2 : decode b_C_isDay 2 = .ok (.sipush 10000, 3) := by decide +kernel
theorem d_C_isDay_5 : decode b_C_isDay 5 = .ok (.invokestatic 88, 3) := by decide +kernel
theorem d_C_isDay_8 : decode b_C_isDay 8 = .ok (.ireturn, 1) := by decide +kernel
theorem d_C_placeNumbered_0 : decode b_C_placeNumbered 0 = .ok (.iload_n 1, 1) := by decide +kernel
theorem d_C_placeNumbered_1 : decode b_C_placeNumbered 1 = .ok (.iconst 0, 1) := by decide +kernel
theorem d_C_placeNumbered_2 : decode b_C_placeNumbered 2 = .ok (.aload_n 0, 1) := by decide +kernel
theorem d_C_placeNumbered_3 : decode b_C_placeNumbered 3 = .ok (.getfield 61, 3) := by decide +kernel
theorem d_C_placeNumbered_6 : decode b_C_placeNumbered 6 = .ok (.iconst 1, 1) := by decide +kernel
theorem d_C_placeNumbered_7 : decode b_C_placeNumbered 7 = .ok (.isub, 1) := by decide +kernel
theorem d_C_placeNumbered_8 : decode b_C_placeNumbered 8 = .ok (.invokestatic 88, 3) := by decide +kernel
theorem d_C_placeNumbered_11 : decode b_C_placeNumbered 11 = .ok (.ifCond .eq 12, 3) := by decide +kernel
theorem d_C_placeNumbered_14 : decode b_C_placeNumbered 14 = .ok (.aload_n 0, 1) := by decide +kernel
theorem d_C_placeNumbered_15 : decode b_C_placeNumbered 15 = .ok (.getfield 11, 3) := by decide +kernel
theorem d_C_placeNumbered_18 : decode b_C_placeNumbered 18 = .ok (.iload_n 1, 1) := by decide +kernel
theorem d_C_placeNumbered_19 : decode b_C_placeNumbered 19 = .ok (.aaload, 1) := by decide +kernel
theorem d_C_placeNumbered_20 : decode b_C_placeNumbered 20 = .ok (.goto 4, 3) := by decide +kernel
theorem d_C_placeNumbered_23 : decode b_C_placeNumbered 23 = .ok (.aconst_null, 1) := by decide +kernel
theorem d_C_placeNumbered_24 : decode b_C_placeNumbered 24 = .ok (.astore_n 2, 1) := by decide +kernel
theorem d_C_placeNumbered_25 : decode b_C_placeNumbered 25 = .ok (.aload_n 2, 1) := by decide +kernel
theorem d_C_placeNumbered_26 : decode b_C_placeNumbered 26 = .ok (.ifnonnull 14, 3) := by decide +kernel
theorem d_C_placeNumbered_29 : decode b_C_placeNumbered 29 = .ok (.new 202, 3) := by decide +kernel
theorem d_C_placeNumbered_32 : decode b_C_placeNumbered 32 = .ok (.dup, 1) := by decide +kernel
theorem d_C_placeNumbered_33 : decode b_C_placeNumbered 33 = .ok (.ldc_w 289, 3) := by decide +kernel
theorem d_C_placeNumbered_36 : decode b_C_placeNumbered 36 = .ok (.invokespecial 206, 3) := by decide +kernel
theorem d_C_placeNumbered_39 : decode b_C_placeNumbered 39 = .ok (.athrow, 1) := by decide +kernel
theorem d_C_placeNumbered_40 : decode b_C_placeNumbered 40 = .ok (.aload_n 2, 1) := by decide +kernel
theorem d_C_placeNumbered_41 : decode b_C_placeNumbered 41 = .ok (.areturn, 1) := by decide +kernel
theorem d_C_transferNumbered_0 : decode b_C_transferNumbered 0 = .ok (.iload_n 1, 1) := by decide +kernel
theorem d_C_transferNumbered_1 : decode b_C_transferNumbered 1 = .ok (.iconst 1, 1) := by decide +kernel
theorem d_C_transferNumbered_2 : decode b_C_transferNumbered 2 = .ok (.aload_n 0, 1) := by decide +kernel
theorem d_C_transferNumbered_3 : decode b_C_transferNumbered 3 = .ok (.getfield 119, 3) := by decide +kernel
theorem d_C_transferNumbered_6 : decode b_C_transferNumbered 6 = .ok (.invokestatic 88, 3) := by decide +kernel
theorem d_C_transferNumbered_9 : decode b_C_transferNumbered 9 = .ok (.ifCond .eq 14, 3) := by decide +kernel
theorem d_C_transferNumbered_12 : decode b_C_transferNumbered 12 = .ok (.aload_n 0, 1) := by decide +kernel
theorem d_C_transferNumbered_13 : decode b_C_transferNumbered 13 = .ok (.getfield 17, 3) := by decide +kernel
theorem d_C_transferNumbered_16 : decode b_C_transferNumbered 16 = .ok (.iload_n 1, 1) := by decide +kernel
theorem d_C_transferNumbered_17 : decode b_C_transferNumbered 17 = .ok (.iconst 1, 1) := by decide +kernel
theorem d_C_transferNumbered_18 : decode b_C_transferNumbered 18 = .ok (.isub, 1) := by decide +kernel
theorem d_C_transferNumbered_19 : decode b_C_transferNumbered 19 = .ok (.aaload, 1) := by decide +kernel
theorem d_C_transferNumbered_20 : decode b_C_transferNumbered 20 = .ok (.goto 4, 3) := by decide +kernel
theorem d_C_transferNumbered_23 : decode b_C_transferNumbered 23 = .ok (.aconst_null, 1) := by decide +kernel
theorem d_C_transferNumbered_24 : decode b_C_transferNumbered 24 = .ok (.astore_n 2, 1) := by decide +kernel
theorem d_C_transferNumbered_25 : decode b_C_transferNumbered 25 = .ok (.aload_n 2, 1) := by decide +kernel
theorem d_C_transferNumbered_26 : decode b_C_transferNumbered 26 = .ok (.ifnonnull 14, 3) := by decide +kernel
theorem d_C_transferNumbered_29 : decode b_C_transferNumbered 29 = .ok (.new 202, 3) := by decide +kernel
theorem d_C_transferNumbered_32 : decode b_C_transferNumbered 32 = .ok (.dup, 1) := by decide +kernel
theorem d_C_transferNumbered_33 : decode b_C_transferNumbered 33 = .ok (.ldc_w 291, 3) := by decide +kernel
theorem d_C_transferNumbered_36 : decode b_C_transferNumbered 36 = .ok (.invokespecial 206, 3) := by decide +kernel
theorem d_C_transferNumbered_39 : decode b_C_transferNumbered 39 = .ok (.athrow, 1) := by decide +kernel
theorem d_C_transferNumbered_40 : decode b_C_transferNumbered 40 = .ok (.aload_n 2, 1) := by decide +kernel
theorem d_C_transferNumbered_41 : decode b_C_transferNumbered 41 = .ok (.areturn, 1) := by decide +kernel
theorem d_C_sheetNumbered_0 : decode b_C_sheetNumbered 0 = .ok (.iload_n 1, 1) := by decide +kernel
theorem d_C_sheetNumbered_1 : decode b_C_sheetNumbered 1 = .ok (.iconst 1, 1) := by decide +kernel
theorem d_C_sheetNumbered_2 : decode b_C_sheetNumbered 2 = .ok (.aload_n 0, 1) := by decide +kernel
theorem d_C_sheetNumbered_3 : decode b_C_sheetNumbered 3 = .ok (.getfield 155, 3) := by decide +kernel
theorem d_C_sheetNumbered_6 : decode b_C_sheetNumbered 6 = .ok (.invokestatic 88, 3) := by decide +kernel
theorem d_C_sheetNumbered_9 : decode b_C_sheetNumbered 9 = .ok (.ifCond .eq 14, 3) := by decide +kernel
theorem d_C_sheetNumbered_12 : decode b_C_sheetNumbered 12 = .ok (.aload_n 0, 1) := by decide +kernel
theorem d_C_sheetNumbered_13 : decode b_C_sheetNumbered 13 = .ok (.getfield 23, 3) := by decide +kernel
theorem d_C_sheetNumbered_16 : decode b_C_sheetNumbered 16 = .ok (.iload_n 1, 1) := by decide +kernel
theorem d_C_sheetNumbered_17 : decode b_C_sheetNumbered 17 = .ok (.iconst 1, 1) := by decide +kernel
theorem d_C_sheetNumbered_18 : decode b_C_sheetNumbered 18 = .ok (.isub, 1) := by decide +kernel
theorem d_C_sheetNumbered_19 : decode b_C_sheetNumbered 19 = .ok (.aaload, 1) := by decide +kernel
theorem d_C_sheetNumbered_20 : decode b_C_sheetNumbered 20 = .ok (.goto 4, 3) := by decide +kernel
theorem d_C_sheetNumbered_23 : decode b_C_sheetNumbered 23 = .ok (.aconst_null, 1) := by decide +kernel
theorem d_C_sheetNumbered_24 : decode b_C_sheetNumbered 24 = .ok (.astore_n 2, 1) := by decide +kernel
theorem d_C_sheetNumbered_25 : decode b_C_sheetNumbered 25 = .ok (.aload_n 2, 1) := by decide +kernel
theorem d_C_sheetNumbered_26 : decode b_C_sheetNumbered 26 = .ok (.ifnonnull 14, 3) := by decide +kernel
theorem d_C_sheetNumbered_29 : decode b_C_sheetNumbered 29 = .ok (.new 202, 3) := by decide +kernel
theorem d_C_sheetNumbered_32 : decode b_C_sheetNumbered 32 = .ok (.dup, 1) := by decide +kernel
theorem d_C_sheetNumbered_33 : decode b_C_sheetNumbered 33 = .ok (.ldc_w 293, 3) := by decide +kernel
theorem d_C_sheetNumbered_36 : decode b_C_sheetNumbered 36 = .ok (.invokespecial 206, 3) := by decide +kernel
theorem d_C_sheetNumbered_39 : decode b_C_sheetNumbered 39 = .ok (.athrow, 1) := by decide +kernel
theorem d_C_sheetNumbered_40 : decode b_C_sheetNumbered 40 = .ok (.aload_n 2, 1) := by decide +kernel
theorem d_C_sheetNumbered_41 : decode b_C_sheetNumbered 41 = .ok (.areturn, 1) := by decide +kernel
theorem d_C_lineOfDifference_0 : decode b_C_lineOfDifference 0 = .ok (.aload_n 0, 1) := by decide +kernel
theorem d_C_lineOfDifference_1 : decode b_C_lineOfDifference 1 = .ok (.iload_n 1, 1) := by decide +kernel
theorem d_C_lineOfDifference_2 : decode b_C_lineOfDifference 2 = .ok (.invokevirtual 295, 3) := by decide +kernel
theorem d_C_lineOfDifference_5 : decode b_C_lineOfDifference 5 = .ok (.istore_n 2, 1) := by decide +kernel
theorem d_C_lineOfDifference_6 : decode b_C_lineOfDifference 6 = .ok (.iload_n 2, 1) := by decide +kernel
theorem d_C_lineOfDifference_7 : decode b_C_lineOfDifference 7 = .ok (.iconst (-1), 1) := by decide +kernel
theorem d_C_lineOfDifference_8 : decode b_C_lineOfDifference 8 = .ok (.if_icmp .ne 14, 3) := by decide +kernel
theorem d_C_lineOfDifference_11 : decode b_C_lineOfDifference 11 = .ok (.new 202, 3) := by decide +kernel
theorem d_C_lineOfDifference_14 : decode b_C_lineOfDifference 14 = .ok (.dup, 1) := by decide +kernel
theorem d_C_lineOfDifference_15 : decode b_C_lineOfDifference 15 = .ok (.ldc_w 298, 3) := by decide +kernel
theorem d_C_lineOfDifference_18 : decode b_C_lineOfDifference 18 = .ok (.invokespecial 206, 3) := by decide +kernel
theorem d_C_lineOfDifference_21 : decode b_C_lineOfDifference 21 = .ok (.athrow, 1) := by decide +kernel
theorem d_C_lineOfDifference_22 : decode b_C_lineOfDifference 22 = .ok (.iload_n 2, 1) := by decide +kernel
theorem d_C_lineOfDifference_23 : decode b_C_lineOfDifference 23 = .ok (.ireturn, 1) := by decide +kernel
theorem d_C_openMoves_0 : decode b_C_openMoves 0 = .ok (.iconst 0, 1) := by decide +kernel
theorem d_C_openMoves_1 : decode b_C_openMoves 1 = .ok (.istore_n 1, 1) := by decide +kernel
theorem d_C_openMoves_2 : decode b_C_openMoves 2 = .ok (.iconst 1, 1) := by decide +kernel
theorem d_C_openMoves_3 : decode b_C_openMoves 3 = .ok (.istore_n 2, 1) := by decide +kernel
theorem d_C_openMoves_4 : decode b_C_openMoves 4 = .ok (.iload_n 2, 1) := by decide +kernel
theorem d_C_openMoves_5 : decode b_C_openMoves 5 = .ok (.aload_n 0, 1) := by decide +kernel
theorem d_C_openMoves_6 : decode b_C_openMoves 6 = .ok (.getfield 119, 3) := by decide +kernel
theorem d_C_openMoves_9 : decode b_C_openMoves 9 = .ok (.if_icmp .gt 23, 3) := by decide +kernel
theorem d_C_openMoves_12 : decode b_C_openMoves 12 = .ok (.aload_n 0, 1) := by decide +kernel
theorem d_C_openMoves_13 : decode b_C_openMoves 13 = .ok (.iload_n 2, 1) := by decide +kernel
theorem d_C_openMoves_14 : decode b_C_openMoves 14 = .ok (.invokevirtual 127, 3) := by decide +kernel
theorem d_C_openMoves_17 : decode b_C_openMoves 17 = .ok (.getfield 139, 3) := by decide +kernel
theorem d_C_openMoves_20 : decode b_C_openMoves 20 = .ok (.ifCond .eq 6, 3) := by decide +kernel
theorem d_C_openMoves_23 : decode b_C_openMoves 23 = .ok (.iinc 1 1, 3) := by decide +kernel
theorem d_C_openMoves_26 : decode b_C_openMoves 26 = .ok (.iinc 2 1, 3) := by decide +kernel
theorem d_C_openMoves_29 : decode b_C_openMoves 29 = .ok (.goto (-25), 3) := by decide +kernel
theorem d_C_openMoves_32 : decode b_C_openMoves 32 = .ok (.iload_n 1, 1) := by decide +kernel
theorem d_C_openMoves_33 : decode b_C_openMoves 33 = .ok (.ireturn, 1) := by decide +kernel
theorem d_C_openMovesAt_0 : decode b_C_openMovesAt 0 = .ok (.iconst 0, 1) := by decide +kernel
theorem d_C_openMovesAt_1 : decode b_C_openMovesAt 1 = .ok (.istore_n 2, 1) := by decide +kernel
theorem d_C_openMovesAt_2 : decode b_C_openMovesAt 2 = .ok (.iconst 1, 1) := by decide +kernel
theorem d_C_openMovesAt_3 : decode b_C_openMovesAt 3 = .ok (.istore_n 3, 1) := by decide +kernel
theorem d_C_openMovesAt_4 : decode b_C_openMovesAt 4 = .ok (.iload_n 3, 1) := by decide +kernel
theorem d_C_openMovesAt_5 : decode b_C_openMovesAt 5 = .ok (.aload_n 0, 1) := by decide +kernel
theorem d_C_openMovesAt_6 : decode b_C_openMovesAt 6 = .ok (.getfield 119, 3) := by decide +kernel
theorem d_C_openMovesAt_9 : decode b_C_openMovesAt 9 = .ok (.if_icmp .gt 45, 3) := by decide +kernel
theorem d_C_openMovesAt_12 : decode b_C_openMovesAt 12 = .ok (.aload_n 0, 1) := by decide +kernel
theorem d_C_openMovesAt_13 : decode b_C_openMovesAt 13 = .ok (.iload_n 3, 1) := by decide +kernel
theorem d_C_openMovesAt_14 : decode b_C_openMovesAt 14 = .ok (.invokevirtual 127, 3) := by decide +kernel
theorem d_C_openMovesAt_17 : decode b_C_openMovesAt 17 = .ok (.astore 4, 2) := by decide +kernel
theorem d_C_openMovesAt_19 : decode b_C_openMovesAt 19 = .ok (.aload 4, 2) := by decide +kernel
theorem d_C_openMovesAt_21 : decode b_C_openMovesAt 21 = .ok (.getfield 139, 3) := by decide +kernel
theorem d_C_openMovesAt_24 : decode b_C_openMovesAt 24 = .ok (.ifCond .eq 24, 3) := by decide +kernel
theorem d_C_openMovesAt_27 : decode b_C_openMovesAt 27 = .ok (.aload 4, 2) := by decide +kernel
theorem d_C_openMovesAt_29 : decode b_C_openMovesAt 29 = .ok (.getfield 300, 3) := by decide +kernel
theorem d_C_openMovesAt_32 : decode b_C_openMovesAt 32 = .ok (.iload_n 1, 1) := by decide +kernel
theorem d_C_openMovesAt_33 : decode b_C_openMovesAt 33 = .ok (.if_icmp .eq 12, 3) := by decide +kernel
theorem d_C_openMovesAt_36 : decode b_C_openMovesAt 36 = .ok (.aload 4, 2) := by decide +kernel
theorem d_C_openMovesAt_38 : decode b_C_openMovesAt 38 = .ok (.getfield 131, 3) := by decide +kernel
theorem d_C_openMovesAt_41 : decode b_C_openMovesAt 41 = .ok (.iload_n 1, 1) := by decide +kernel
theorem d_C_openMovesAt_42 : decode b_C_openMovesAt 42 = .ok (.if_icmp .ne 6, 3) := by decide +kernel
theorem d_C_openMovesAt_45 : decode b_C_openMovesAt 45 = .ok (.iinc 2 1, 3) := by decide +kernel
theorem d_C_openMovesAt_48 : decode b_C_openMovesAt 48 = .ok (.iinc 3 1, 3) := by decide +kernel
theorem d_C_openMovesAt_51 : decode b_C_openMovesAt 51 = .ok (.goto (-47), 3) := by decide +kernel
theorem d_C_openMovesAt_54 : decode b_C_openMovesAt 54 = .ok (.iload_n 2, 1) := by decide +kernel
theorem d_C_openMovesAt_55 : decode b_C_openMovesAt 55 = .ok (.ireturn, 1) := by decide +kernel
theorem d_C_hasOpenMoves_0 : decode b_C_hasOpenMoves 0 = .ok (.iconst 0, 1) := by decide +kernel
theorem d_C_hasOpenMoves_1 : decode b_C_hasOpenMoves 1 = .ok (.istore_n 2, 1) := by decide +kernel
theorem d_C_hasOpenMoves_2 : decode b_C_hasOpenMoves 2 = .ok (.iload_n 2, 1) := by decide +kernel
theorem d_C_hasOpenMoves_3 : decode b_C_hasOpenMoves 3 = .ok (.aload_n 1, 1) := by decide +kernel
theorem d_C_hasOpenMoves_4 : decode b_C_hasOpenMoves 4 = .ok (.getfield 190, 3) := by decide +kernel
theorem d_C_hasOpenMoves_7 : decode b_C_hasOpenMoves 7 = .ok (.arraylength, 1) := by decide +kernel
theorem d_C_hasOpenMoves_8 : decode b_C_hasOpenMoves 8 = .ok (.if_icmp .ge 24, 3) := by decide +kernel
theorem d_C_hasOpenMoves_11 : decode b_C_hasOpenMoves 11 = .ok (.aload_n 0, 1) := by decide +kernel
theorem d_C_hasOpenMoves_12 : decode b_C_hasOpenMoves 12 = .ok (.aload_n 1, 1) := by decide +kernel
theorem d_C_hasOpenMoves_13 : decode b_C_hasOpenMoves 13 = .ok (.getfield 190, 3) := by decide +kernel
theorem d_C_hasOpenMoves_16 : decode b_C_hasOpenMoves 16 = .ok (.iload_n 2, 1) := by decide +kernel
theorem d_C_hasOpenMoves_17 : decode b_C_hasOpenMoves 17 = .ok (.iaload, 1) := by decide +kernel
theorem d_C_hasOpenMoves_18 : decode b_C_hasOpenMoves 18 = .ok (.invokevirtual 144, 3) := by decide +kernel
theorem d_C_hasOpenMoves_21 : decode b_C_hasOpenMoves 21 = .ok (.ifCond .le 5, 3) := by decide +kernel
theorem d_C_hasOpenMoves_24 : decode b_C_hasOpenMoves 24 = .ok (.iconst 1, 1) := by decide +kernel
theorem d_C_hasOpenMoves_25 : decode b_C_hasOpenMoves 25 = .ok (.ireturn, 1) := by decide +kernel
theorem d_C_hasOpenMoves_26 : decode b_C_hasOpenMoves 26 = .ok (.iinc 2 1, 3) := by decide +kernel
theorem d_C_hasOpenMoves_29 : decode b_C_hasOpenMoves 29 = .ok (.goto (-27), 3) := by decide +kernel
theorem d_C_hasOpenMoves_32 : decode b_C_hasOpenMoves 32 = .ok (.iconst 0, 1) := by decide +kernel
theorem d_C_hasOpenMoves_33 : decode b_C_hasOpenMoves 33 = .ok (.ireturn, 1) := by decide +kernel
theorem d_C_gatherCandidates_0 : decode b_C_gatherCandidates 0 = .ok (.iconst 0, 1) := by decide +kernel
theorem d_C_gatherCandidates_1 : decode b_C_gatherCandidates 1 = .ok (.istore_n 2, 1) := by decide +kernel
theorem d_C_gatherCandidates_2 : decode b_C_gatherCandidates 2 = .ok (.iconst 0, 1) := by decide +kernel
theorem d_C_gatherCandidates_3 : decode b_C_gatherCandidates 3 = .ok (.istore_n 3, 1) := by decide +kernel
theorem d_C_gatherCandidates_4 : decode b_C_gatherCandidates 4 = .ok (.iload_n 3, 1) := by decide +kernel
theorem d_C_gatherCandidates_5 : decode b_C_gatherCandidates 5 = .ok (.aload_n 0, 1) := by decide +kernel
theorem d_C_gatherCandidates_6 : decode b_C_gatherCandidates 6 = .ok (.getfield 61, 3) := by decide +kernel
theorem d_C_gatherCandidates_9 : decode b_C_gatherCandidates 9 = .ok (.if_icmp .ge 48, 3) := by decide +kernel
theorem d_C_gatherCandidates_12 : decode b_C_gatherCandidates 12 = .ok (.aload_n 0, 1) := by decide +kernel
theorem d_C_gatherCandidates_13 : decode b_C_gatherCandidates 13 = .ok (.iload_n 3, 1) := by decide +kernel
theorem d_C_gatherCandidates_14 : decode b_C_gatherCandidates 14 = .ok (.invokevirtual 73, 3) := by decide +kernel
theorem d_C_gatherCandidates_17 : decode b_C_gatherCandidates 17 = .ok (.astore 4, 2) := by decide +kernel
theorem d_C_gatherCandidates_19 : decode b_C_gatherCandidates 19 = .ok (.aload 4, 2) := by decide +kernel
theorem d_C_gatherCandidates_21 : decode b_C_gatherCandidates 21 = .ok (.getfield 221, 3) := by decide +kernel
theorem d_C_gatherCandidates_24 : decode b_C_gatherCandidates 24 = .ok (.ifCond .ne 27, 3) := by decide +kernel
theorem d_C_gatherCandidates_27 : decode b_C_gatherCandidates 27 = .ok (.iload_n 1, 1) := by decide +kernel
theorem d_C_gatherCandidates_28 : decode b_C_gatherCandidates 28 = .ok (.iconst (-1), 1) := by decide +kernel
theorem d_C_gatherCandidates_29 : decode b_C_gatherCandidates 29 = .ok (.if_icmp .eq 12, 3) := by decide +kernel
theorem d_C_gatherCandidates_32 : decode b_C_gatherCandidates 32 = .ok (.aload 4, 2) := by decide +kernel
theorem d_C_gatherCandidates_34 : decode b_C_gatherCandidates 34 = .ok (.getfield 279, 3) := by decide +kernel
theorem d_C_gatherCandidates_37 : decode b_C_gatherCandidates 37 = .ok (.iload_n 1, 1) := by decide +kernel
theorem d_C_gatherCandidates_38 : decode b_C_gatherCandidates 38 = .ok (.if_icmp .ne 13, 3) := by decide +kernel
theorem d_C_gatherCandidates_41 : decode b_C_gatherCandidates 41 = .ok (.aload_n 0, 1) := by decide +kernel
theorem d_C_gatherCandidates_42 : decode b_C_gatherCandidates 42 = .ok (.getfield 37, 3) := by decide +kernel
theorem d_C_gatherCandidates_45 : decode b_C_gatherCandidates 45 = .ok (.iload_n 2, 1) := by decide +kernel
theorem d_C_gatherCandidates_46 : decode b_C_gatherCandidates 46 = .ok (.iload_n 3, 1) := by decide +kernel
theorem d_C_gatherCandidates_47 : decode b_C_gatherCandidates 47 = .ok (.iastore, 1) := by decide +kernel
theorem d_C_gatherCandidates_48 : decode b_C_gatherCandidates 48 = .ok (.iinc 2 1, 3) := by decide +kernel
theorem d_C_gatherCandidates_51 : decode b_C_gatherCandidates 51 = .ok (.iinc 3 1, 3) := by decide +kernel
theorem d_C_gatherCandidates_54 : decode b_C_gatherCandidates 54 = .ok (.goto (-50), 3) := by decide +kernel
theorem d_C_gatherCandidates_57 : decode b_C_gatherCandidates 57 = .ok (.iload_n 2, 1) := by decide +kernel
theorem d_C_gatherCandidates_58 : decode b_C_gatherCandidates 58 = .ok (.ireturn, 1) := by decide +kernel
theorem d_C_chooseCandidates_0 : decode b_C_chooseCandidates 0 = .ok (.iload_n 2, 1) := by decide +kernel
theorem d_C_chooseCandidates_1 : decode b_C_chooseCandidates 1 = .ok (.newarray .int, 2) := by decide +kernel
theorem d_C_chooseCandidates_3 : decode b_C_chooseCandidates 3 = .ok (.astore 5, 2) := by decide +kernel
theorem d_C_chooseCandidates_5 : decode b_C_chooseCandidates 5 = .ok (.iload_n 1, 1) := by decide +kernel
theorem d_C_chooseCandidates_6 : decode b_C_chooseCandidates 6 = .ok (.istore 6, 2) := by decide +kernel
theorem d_C_chooseCandidates_8 : decode b_C_chooseCandidates 8 = .ok (.lload_n 3, 1) := by decide +kernel
theorem d_C_chooseCandidates_9 : decode b_C_chooseCandidates 9 = .ok (.lstore 7, 2) := by decide +kernel
theorem d_C_chooseCandidates_11 : decode b_C_chooseCandidates 11 = .ok (.iconst 0, 1) := by decide +kernel
theorem d_C_chooseCandidates_12 : decode b_C_chooseCandidates 12 = .ok (.istore 9, 2) := by decide +kernel
theorem d_C_chooseCandidates_14 : decode b_C_chooseCandidates 14 = .ok (.iload 9, 2) := by decide +kernel
theorem d_C_chooseCandidates_16 : decode b_C_chooseCandidates 16 = .ok (.iload_n 2, 1) := by decide +kernel
theorem d_C_chooseCandidates_17 : decode b_C_chooseCandidates 17 = .ok (.if_icmp .ge 105, 3) := by decide +kernel
theorem d_C_chooseCandidates_20 : decode b_C_chooseCandidates 20 = .ok (.iload 6, 2) := by decide +kernel
theorem d_C_chooseCandidates_22 : decode b_C_chooseCandidates 22 = .ok (.ifCond .le 100, 3) := by decide +kernel
theorem d_C_chooseCandidates_25 : decode b_C_chooseCandidates 25 = .ok (.lload_n 3, 1) := by decide +kernel
theorem d_C_chooseCandidates_26 : decode b_C_chooseCandidates 26 = .ok (.lconst 0, 1) := by decide +kernel
theorem d_C_chooseCandidates_27 : decode b_C_chooseCandidates 27 = .ok (.lcmp, 1) := by decide +kernel
theorem d_C_chooseCandidates_28 : decode b_C_chooseCandidates 28 = .ok (.ifCond .ne 14, 3) := by decide +kernel
theorem d_C_chooseCandidates_31 : decode b_C_chooseCandidates 31 = .ok (.aload_n 0, 1) := by decide +kernel
theorem d_C_chooseCandidates_32 : decode b_C_chooseCandidates 32 = .ok (.iload 6, 2) := by decide +kernel
theorem d_C_chooseCandidates_34 : decode b_C_chooseCandidates 34 = .ok (.invokevirtual 303, 3) := by decide +kernel
theorem d_C_chooseCandidates_37 : decode b_C_chooseCandidates 37 = .ok (.istore 10, 2) := by decide +kernel
theorem d_C_chooseCandidates_39 : decode b_C_chooseCandidates 39 = .ok (.goto 27, 3) := by decide +kernel
theorem d_C_chooseCandidates_42 : decode b_C_chooseCandidates 42 = .ok (.lload 7, 2) := by decide +kernel
theorem d_C_chooseCandidates_44 : decode b_C_chooseCandidates 44 = .ok (.ldc2_w 306, 3) := by decide +kernel
theorem d_C_chooseCandidates_47 : decode b_C_chooseCandidates 47 = .ok (.lmul, 1) := by decide +kernel
theorem d_C_chooseCandidates_48 : decode b_C_chooseCandidates 48 = .ok (.ldc2_w 308, 3) := by decide +kernel
theorem d_C_chooseCandidates_51 : decode b_C_chooseCandidates 51 = .ok (.ladd, 1) := by decide +kernel
theorem d_C_chooseCandidates_52 : decode b_C_chooseCandidates 52 = .ok (.lstore 7, 2) := by decide +kernel
theorem d_C_chooseCandidates_54 : decode b_C_chooseCandidates 54 = .ok (.lload 7, 2) := by decide +kernel
theorem d_C_chooseCandidates_56 : decode b_C_chooseCandidates 56 = .ok (.bipush 33, 2) := by decide +kernel
theorem d_C_chooseCandidates_58 : decode b_C_chooseCandidates 58 = .ok (.lushr, 1) := by decide +kernel
theorem d_C_chooseCandidates_59 : decode b_C_chooseCandidates 59 = .ok (.iload 6, 2) := by decide +kernel
theorem d_C_chooseCandidates_61 : decode b_C_chooseCandidates 61 = .ok (.i2l, 1) := by decide +kernel
theorem d_C_chooseCandidates_62 : decode b_C_chooseCandidates 62 = .ok (.lrem, 1) := by decide +kernel
theorem d_C_chooseCandidates_63 : decode b_C_chooseCandidates 63 = .ok (.l2i, 1) := by decide +kernel
theorem d_C_chooseCandidates_64 : decode b_C_chooseCandidates 64 = .ok (.istore 10, 2) := by decide +kernel
theorem d_C_chooseCandidates_66 : decode b_C_chooseCandidates 66 = .ok (.aload 5, 2) := by decide +kernel
theorem d_C_chooseCandidates_68 : decode b_C_chooseCandidates 68 = .ok (.iload 9, 2) := by decide +kernel
theorem d_C_chooseCandidates_70 : decode b_C_chooseCandidates 70 = .ok (.aload_n 0, 1) := by decide +kernel
theorem d_C_chooseCandidates_71 : decode b_C_chooseCandidates 71 = .ok (.getfield 37, 3) := by decide +kernel
theorem d_C_chooseCandidates_74 : decode b_C_chooseCandidates 74 = .ok (.iload 10, 2) := by decide +kernel
theorem d_C_chooseCandidates_76 : decode b_C_chooseCandidates 76 = .ok (.iaload, 1) := by decide +kernel
theorem d_C_chooseCandidates_77 : decode b_C_chooseCandidates 77 = .ok (.iastore, 1) := by decide +kernel
theorem d_C_chooseCandidates_78 : decode b_C_chooseCandidates 78 = .ok (.aload_n 0, 1) := by decide +kernel
theorem d_C_chooseCandidates_79 : decode b_C_chooseCandidates 79 = .ok (.aload 5, 2) := by decide +kernel
theorem d_C_chooseCandidates_81 : decode b_C_chooseCandidates 81 = .ok (.iload 9, 2) := by decide +kernel
theorem d_C_chooseCandidates_83 : decode b_C_chooseCandidates 83 = .ok (.iaload, 1) := by decide +kernel
theorem d_C_chooseCandidates_84 : decode b_C_chooseCandidates 84 = .ok (.invokevirtual 73, 3) := by decide +kernel
theorem d_C_chooseCandidates_87 : decode b_C_chooseCandidates 87 = .ok (.iconst 1, 1) := by decide +kernel
theorem d_C_chooseCandidates_88 : decode b_C_chooseCandidates 88 = .ok (.putfield 221, 3) := by decide +kernel
theorem d_C_chooseCandidates_91 : decode b_C_chooseCandidates 91 = .ok (.iinc 6 (-1), 3) := by decide +kernel
theorem d_C_chooseCandidates_94 : decode b_C_chooseCandidates 94 = .ok (.aload_n 0, 1) := by decide +kernel
theorem d_C_chooseCandidates_95 : decode b_C_chooseCandidates 95 = .ok (.getfield 37, 3) := by decide +kernel
theorem d_C_chooseCandidates_98 : decode b_C_chooseCandidates 98 = .ok (.iload 10, 2) := by decide +kernel
theorem d_C_chooseCandidates_100 : decode b_C_chooseCandidates 100 = .ok (.iconst 1, 1) := by decide +kernel
theorem d_C_chooseCandidates_101 : decode b_C_chooseCandidates 101 = .ok (.iadd, 1) := by decide +kernel
theorem d_C_chooseCandidates_102 : decode b_C_chooseCandidates 102 = .ok (.aload_n 0, 1) := by decide +kernel
theorem d_C_chooseCandidates_103 : decode b_C_chooseCandidates 103 = .ok (.getfield 37, 3) := by decide +kernel
theorem d_C_chooseCandidates_106 : decode b_C_chooseCandidates 106 = .ok (.iload 10, 2) := by decide +kernel
theorem d_C_chooseCandidates_108 : decode b_C_chooseCandidates 108 = .ok (.iload 6, 2) := by decide +kernel
theorem d_C_chooseCandidates_110 : decode b_C_chooseCandidates 110 = .ok (.iload 10, 2) := by decide +kernel
theorem d_C_chooseCandidates_112 : decode b_C_chooseCandidates 112 = .ok (.isub, 1) := by decide +kernel
theorem d_C_chooseCandidates_113 : decode b_C_chooseCandidates 113 = .ok (.invokestatic 310, 3) := by decide +kernel
theorem d_C_chooseCandidates_116 : decode b_C_chooseCandidates 116 = .ok (.iinc 9 1, 3) := by decide +kernel
theorem d_C_chooseCandidates_119 : decode b_C_chooseCandidates 119 = .ok (.goto (-105), 3) := by decide +kernel
theorem d_C_chooseCandidates_122 : decode b_C_chooseCandidates 122 = .ok (.aload 5, 2) := by decide +kernel
theorem d_C_chooseCandidates_124 : decode b_C_chooseCandidates 124 = .ok (.areturn, 1) := by decide +kernel
theorem d_C_longestUncounted_0 : decode b_C_longestUncounted 0 = .ok (.iconst 0, 1) := by decide +kernel
theorem d_C_longestUncounted_1 : decode b_C_longestUncounted 1 = .ok (.istore_n 2, 1) := by decide +kernel
theorem d_C_longestUncounted_2 : decode b_C_longestUncounted 2 = .ok (.iconst 1, 1) := by decide +kernel
theorem d_C_longestUncounted_3 : decode b_C_longestUncounted 3 = .ok (.istore_n 3, 1) := by decide +kernel
theorem d_C_longestUncounted_4 : decode b_C_longestUncounted 4 = .ok (.iload_n 3, 1) := by decide +kernel
theorem d_C_longestUncounted_5 : decode b_C_longestUncounted 5 = .ok (.iload_n 1, 1) := by decide +kernel
theorem d_C_longestUncounted_6 : decode b_C_longestUncounted 6 = .ok (.if_icmp .ge 40, 3) := by decide +kernel
theorem d_C_longestUncounted_9 : decode b_C_longestUncounted 9 = .ok (.aload_n 0, 1) := by decide +kernel
theorem d_C_longestUncounted_10 : decode b_C_longestUncounted 10 = .ok (.aload_n 0, 1) := by decide +kernel
theorem d_C_longestUncounted_11 : decode b_C_longestUncounted 11 = .ok (.getfield 37, 3) := by decide +kernel
theorem d_C_longestUncounted_14 : decode b_C_longestUncounted 14 = .ok (.iload_n 3, 1) := by decide +kernel
theorem d_C_longestUncounted_15 : decode b_C_longestUncounted 15 = .ok (.iaload, 1) := by decide +kernel
theorem d_C_longestUncounted_16 : decode b_C_longestUncounted 16 = .ok (.invokevirtual 73, 3) := by decide +kernel
theorem d_C_longestUncounted_19 : decode b_C_longestUncounted 19 = .ok (.getfield 276, 3) := by decide +kernel
theorem d_C_longestUncounted_22 : decode b_C_longestUncounted 22 = .ok (.aload_n 0, 1) := by decide +kernel
theorem d_C_longestUncounted_23 : decode b_C_longestUncounted 23 = .ok (.aload_n 0, 1) := by decide +kernel
theorem d_C_longestUncounted_24 : decode b_C_longestUncounted 24 = .ok (.getfield 37, 3) := by decide +kernel
theorem d_C_longestUncounted_27 : decode b_C_longestUncounted 27 = .ok (.iload_n 2, 1) := by decide +kernel
theorem d_C_longestUncounted_28 : decode b_C_longestUncounted 28 = .ok (.iaload, 1) := by decide +kernel
theorem d_C_longestUncounted_29 : decode b_C_longestUncounted 29 = .ok (.invokevirtual 73, 3) := by decide +kernel
theorem d_C_longestUncounted_32 : decode b_C_longestUncounted 32 = .ok (.getfield 276, 3) := by decide +kernel
theorem d_C_longestUncounted_35 : decode b_C_longestUncounted 35 = .ok (.if_icmp .ge 5, 3) := by decide +kernel
theorem d_C_longestUncounted_38 : decode b_C_longestUncounted 38 = .ok (.iload_n 3, 1) := by decide +kernel
theorem d_C_longestUncounted_39 : decode b_C_longestUncounted 39 = .ok (.istore_n 2, 1) := by decide +kernel
theorem d_C_longestUncounted_40 : decode b_C_longestUncounted 40 = .ok (.iinc 3 1, 3) := by decide +kernel
theorem d_C_longestUncounted_43 : decode b_C_longestUncounted 43 = .ok (.goto (-39), 3) := by decide +kernel
theorem d_C_longestUncounted_46 : decode b_C_longestUncounted 46 = .ok (.iload_n 2, 1) := by decide +kernel
theorem d_C_longestUncounted_47 : decode b_C_longestUncounted 47 = .ok (.ireturn, 1) := by decide +kernel
theorem d_C_noteBooked_0 : decode b_C_noteBooked 0 = .ok (.iconst 0, 1) := by decide +kernel
theorem d_C_noteBooked_1 : decode b_C_noteBooked 1 = .ok (.istore_n 2, 1) := by decide +kernel
theorem d_C_noteBooked_2 : decode b_C_noteBooked 2 = .ok (.iload_n 2, 1) := by decide +kernel
theorem d_C_noteBooked_3 : decode b_C_noteBooked 3 = .ok (.aload_n 1, 1) := by decide +kernel
theorem d_C_noteBooked_4 : decode b_C_noteBooked 4 = .ok (.getfield 190, 3) := by decide +kernel
theorem d_C_noteBooked_7 : decode b_C_noteBooked 7 = .ok (.arraylength, 1) := by decide +kernel
theorem d_C_noteBooked_8 : decode b_C_noteBooked 8 = .ok (.if_icmp .ge 38, 3) := by decide +kernel
theorem d_C_noteBooked_11 : decode b_C_noteBooked 11 = .ok (.aload_n 0, 1) := by decide +kernel
theorem d_C_noteBooked_12 : decode b_C_noteBooked 12 = .ok (.aload_n 1, 1) := by decide +kernel
theorem d_C_noteBooked_13 : decode b_C_noteBooked 13 = .ok (.getfield 190, 3) := by decide +kernel
theorem d_C_noteBooked_16 : decode b_C_noteBooked 16 = .ok (.iload_n 2, 1) := by decide +kernel
theorem d_C_noteBooked_17 : decode b_C_noteBooked 17 = .ok (.iaload, 1) := by decide +kernel
theorem d_C_noteBooked_18 : decode b_C_noteBooked 18 = .ok (.invokevirtual 73, 3) := by decide +kernel
theorem d_C_noteBooked_21 : decode b_C_noteBooked 21 = .ok (.astore_n 3, 1) := by decide +kernel
theorem d_C_noteBooked_22 : decode b_C_noteBooked 22 = .ok (.aload_n 3, 1) := by decide +kernel
theorem d_C_noteBooked_23 : decode b_C_noteBooked 23 = .ok (.getfield 85, 3) := by decide +kernel
theorem d_C_noteBooked_26 : decode b_C_noteBooked 26 = .ok (.iconst 0, 1) := by decide +kernel
theorem d_C_noteBooked_27 : decode b_C_noteBooked 27 = .ok (.aload_n 1, 1) := by decide +kernel
theorem d_C_noteBooked_28 : decode b_C_noteBooked 28 = .ok (.getfield 316, 3) := by decide +kernel
theorem d_C_noteBooked_31 : decode b_C_noteBooked 31 = .ok (.iload_n 2, 1) := by decide +kernel
theorem d_C_noteBooked_32 : decode b_C_noteBooked 32 = .ok (.bipush 6, 2) := by decide +kernel
theorem d_C_noteBooked_34 : decode b_C_noteBooked 34 = .ok (.imul, 1) := by decide +kernel
theorem d_C_noteBooked_35 : decode b_C_noteBooked 35 = .ok (.bipush 6, 2) := by decide +kernel
theorem d_C_noteBooked_37 : decode b_C_noteBooked 37 = .ok (.invokestatic 310, 3) := by decide +kernel
theorem d_C_noteBooked_40 : decode b_C_noteBooked 40 = .ok (.iinc 2 1, 3) := by decide +kernel
theorem d_C_noteBooked_43 : decode b_C_noteBooked 43 = .ok (.goto (-41), 3) := by decide +kernel
theorem d_C_noteBooked_46 : decode b_C_noteBooked 46 = .ok (.iconst 1, 1) := by decide +kernel
theorem d_C_noteBooked_47 : decode b_C_noteBooked 47 = .ok (.istore_n 2, 1) := by decide +kernel
theorem d_C_noteBooked_48 : decode b_C_noteBooked 48 = .ok (.iload_n 2, 1) := by decide +kernel
theorem d_C_noteBooked_49 : decode b_C_noteBooked 49 = .ok (.aload_n 0, 1) := by decide +kernel
theorem d_C_noteBooked_50 : decode b_C_noteBooked 50 = .ok (.getfield 119, 3) := by decide +kernel
theorem d_C_noteBooked_53 : decode b_C_noteBooked 53 = .ok (.if_icmp .gt 60, 3) := by decide +kernel
theorem d_C_noteBooked_56 : decode b_C_noteBooked 56 = .ok (.aload_n 0, 1) := by decide +kernel
theorem d_C_noteBooked_57 : decode b_C_noteBooked 57 = .ok (.iload_n 2, 1) := by decide +kernel
theorem d_C_noteBooked_58 : decode b_C_noteBooked 58 = .ok (.invokevirtual 127, 3) := by decide +kernel
theorem d_C_noteBooked_61 : decode b_C_noteBooked 61 = .ok (.astore_n 3, 1) := by decide +kernel
theorem d_C_noteBooked_62 : decode b_C_noteBooked 62 = .ok (.aload_n 1, 1) := by decide +kernel
theorem d_C_noteBooked_63 : decode b_C_noteBooked 63 = .ok (.aload_n 3, 1) := by decide +kernel
theorem d_C_noteBooked_64 : decode b_C_noteBooked 64 = .ok (.getfield 131, 3) := by decide +kernel
theorem d_C_noteBooked_67 : decode b_C_noteBooked 67 = .ok (.invokevirtual 195, 3) := by decide +kernel
theorem d_C_noteBooked_70 : decode b_C_noteBooked 70 = .ok (.istore 4, 2) := by decide +kernel
theorem d_C_noteBooked_72 : decode b_C_noteBooked 72 = .ok (.aload_n 3, 1) := by decide +kernel
theorem d_C_noteBooked_73 : decode b_C_noteBooked 73 = .ok (.getfield 139, 3) := by decide +kernel
theorem d_C_noteBooked_76 : decode b_C_noteBooked 76 = .ok (.ifCond .eq 31, 3) := by decide +kernel
theorem d_C_noteBooked_79 : decode b_C_noteBooked 79 = .ok (.iload 4, 2) := by decide +kernel
theorem d_C_noteBooked_81 : decode b_C_noteBooked 81 = .ok (.iconst (-1), 1) := by decide +kernel
theorem d_C_noteBooked_82 : decode b_C_noteBooked 82 = .ok (.if_icmp .eq 25, 3) := by decide +kernel
theorem d_C_noteBooked_85 : decode b_C_noteBooked 85 = .ok (.aload_n 1, 1) := by decide +kernel
theorem d_C_noteBooked_86 : decode b_C_noteBooked 86 = .ok (.getfield 316, 3) := by decide +kernel
theorem d_C_noteBooked_89 : decode b_C_noteBooked 89 = .ok (.iload 4, 2) := by decide +kernel
theorem d_C_noteBooked_91 : decode b_C_noteBooked 91 = .ok (.bipush 6, 2) := by decide +kernel
theorem d_C_noteBooked_93 : decode b_C_noteBooked 93 = .ok (.imul, 1) := by decide +kernel
theorem d_C_noteBooked_94 : decode b_C_noteBooked 94 = .ok (.aload_n 3, 1) := by decide +kernel
theorem d_C_noteBooked_95 : decode b_C_noteBooked 95 = .ok (.getfield 134, 3) := by decide +kernel
theorem d_C_noteBooked_98 : decode b_C_noteBooked 98 = .ok (.iadd, 1) := by decide +kernel
theorem d_C_noteBooked_99 : decode b_C_noteBooked 99 = .ok (.dup2, 1) := by decide +kernel
theorem d_C_noteBooked_100 : decode b_C_noteBooked 100 = .ok (.iaload, 1) := by decide +kernel
theorem d_C_noteBooked_101 : decode b_C_noteBooked 101 = .ok (.aload_n 3, 1) := by decide +kernel
theorem d_C_noteBooked_102 : decode b_C_noteBooked 102 = .ok (.getfield 137, 3) := by decide +kernel
theorem d_C_noteBooked_105 : decode b_C_noteBooked 105 = .ok (.iadd, 1) := by decide +kernel
theorem d_C_noteBooked_106 : decode b_C_noteBooked 106 = .ok (.iastore, 1) := by decide +kernel
theorem d_C_noteBooked_107 : decode b_C_noteBooked 107 = .ok (.iinc 2 1, 3) := by decide +kernel
theorem d_C_noteBooked_110 : decode b_C_noteBooked 110 = .ok (.goto (-62), 3) := by decide +kernel
theorem d_C_noteBooked_113 : decode b_C_noteBooked 113 = .ok (.return_, 1) := by decide +kernel
theorem d_C_countPlace_0 : decode b_C_countPlace 0 = .ok (.iconst 1, 1) := by decide +kernel
theorem d_C_countPlace_1 : decode b_C_countPlace 1 = .ok (.istore 4, 2) := by decide +kernel
theorem d_C_countPlace_3 : decode b_C_countPlace 3 = .ok (.iconst 0, 1) := by decide +kernel
theorem d_C_countPlace_4 : decode b_C_countPlace 4 = .ok (.istore 5, 2) := by decide +kernel
theorem d_C_countPlace_6 : decode b_C_countPlace 6 = .ok (.iload 5, 2) := by decide +kernel
theorem d_C_countPlace_8 : decode b_C_countPlace 8 = .ok (.bipush 6, 2) := by decide +kernel
theorem d_C_countPlace_10 : decode b_C_countPlace 10 = .ok (.if_icmp .ge 59, 3) := by decide +kernel
theorem d_C_countPlace_13 : decode b_C_countPlace 13 = .ok (.iload_n 2, 1) := by decide +kernel
theorem d_C_countPlace_14 : decode b_C_countPlace 14 = .ok (.bipush 6, 2) := by decide +kernel
theorem d_C_countPlace_16 : decode b_C_countPlace 16 = .ok (.imul, 1) := by decide +kernel
theorem d_C_countPlace_17 : decode b_C_countPlace 17 = .ok (.iload 5, 2) := by decide +kernel
theorem d_C_countPlace_19 : decode b_C_countPlace 19 = .ok (.iadd, 1) := by decide +kernel
theorem d_C_countPlace_20 : decode b_C_countPlace 20 = .ok (.istore 6, 2) := by decide +kernel
theorem d_C_countPlace_22 : decode b_C_countPlace 22 = .ok (.aload_n 1, 1) := by decide +kernel
theorem d_C_countPlace_23 : decode b_C_countPlace 23 = .ok (.iload 6, 2) := by decide +kernel
theorem d_C_countPlace_25 : decode b_C_countPlace 25 = .ok (.invokevirtual 214, 3) := by decide +kernel
theorem d_C_countPlace_28 : decode b_C_countPlace 28 = .ok (.istore 7, 2) := by decide +kernel
theorem d_C_countPlace_30 : decode b_C_countPlace 30 = .ok (.iload 7, 2) := by decide +kernel
theorem d_C_countPlace_32 : decode b_C_countPlace 32 = .ok (.ifCond .eq 9, 3) := by decide +kernel
theorem d_C_countPlace_35 : decode b_C_countPlace 35 = .ok (.aload_n 1, 1) := by decide +kernel
theorem d_C_countPlace_36 : decode b_C_countPlace 36 = .ok (.iload 6, 2) := by decide +kernel
theorem d_C_countPlace_38 : decode b_C_countPlace 38 = .ok (.invokevirtual 319, 3) := by decide +kernel
theorem d_C_countPlace_41 : decode b_C_countPlace 41 = .ok (.iload 4, 2) := by decide +kernel
theorem d_C_countPlace_43 : decode b_C_countPlace 43 = .ok (.ifCond .eq 17, 3) := by decide +kernel
theorem d_C_countPlace_46 : decode b_C_countPlace 46 = .ok (.aload_n 0, 1) := by decide +kernel
theorem d_C_countPlace_47 : decode b_C_countPlace 47 = .ok (.iload 7, 2) := by decide +kernel
theorem d_C_countPlace_49 : decode b_C_countPlace 49 = .ok (.aload_n 3, 1) := by decide +kernel
theorem d_C_countPlace_50 : decode b_C_countPlace 50 = .ok (.invokevirtual 217, 3) := by decide +kernel
theorem d_C_countPlace_53 : decode b_C_countPlace 53 = .ok (.ifCond .eq 7, 3) := by decide +kernel
theorem d_C_countPlace_56 : decode b_C_countPlace 56 = .ok (.iconst 1, 1) := by decide +kernel
theorem d_C_countPlace_57 : decode b_C_countPlace 57 = .ok (.goto 4, 3) := by decide +kernel
theorem d_C_countPlace_60 : decode b_C_countPlace 60 = .ok (.iconst 0, 1) := by decide +kernel
theorem d_C_countPlace_61 : decode b_C_countPlace 61 = .ok (.istore 4, 2) := by decide +kernel
theorem d_C_countPlace_63 : decode b_C_countPlace 63 = .ok (.iinc 5 1, 3) := by decide +kernel
theorem d_C_countPlace_66 : decode b_C_countPlace 66 = .ok (.goto (-60), 3) := by decide +kernel
theorem d_C_countPlace_69 : decode b_C_countPlace 69 = .ok (.aload_n 3, 1) := by decide +kernel
theorem d_C_countPlace_70 : decode b_C_countPlace 70 = .ok (.aload_n 0, 1) := by decide +kernel
theorem d_C_countPlace_71 : decode b_C_countPlace 71 = .ok (.getfield 106, 3) := by decide +kernel
theorem d_C_countPlace_74 : decode b_C_countPlace 74 = .ok (.putfield 276, 3) := by decide +kernel
theorem d_C_countPlace_77 : decode b_C_countPlace 77 = .ok (.aload_n 0, 1) := by decide +kernel
theorem d_C_countPlace_78 : decode b_C_countPlace 78 = .ok (.dup, 1) := by decide +kernel
theorem d_C_countPlace_79 : decode b_C_countPlace 79 = .ok (.getfield 262, 3) := by decide +kernel
theorem d_C_countPlace_82 : decode b_C_countPlace 82 = .ok (.iconst 1, 1) := by decide +kernel
theorem d_C_countPlace_83 : decode b_C_countPlace 83 = .ok (.iadd, 1) := by decide +kernel
theorem d_C_countPlace_84 : decode b_C_countPlace 84 = .ok (.putfield 262, 3) := by decide +kernel
theorem d_C_countPlace_87 : decode b_C_countPlace 87 = .ok (.iload 4, 2) := by decide +kernel
theorem d_C_countPlace_89 : decode b_C_countPlace 89 = .ok (.ifCond .eq 13, 3) := by decide +kernel
theorem d_C_countPlace_92 : decode b_C_countPlace 92 = .ok (.aload_n 0, 1) := by decide +kernel
theorem d_C_countPlace_93 : decode b_C_countPlace 93 = .ok (.dup, 1) := by decide +kernel
theorem d_C_countPlace_94 : decode b_C_countPlace 94 = .ok (.getfield 265, 3) := by decide +kernel
theorem d_C_countPlace_97 : decode b_C_countPlace 97 = .ok (.iconst 1, 1) := by decide +kernel
theorem d_C_countPlace_98 : decode b_C_countPlace 98 = .ok (.iadd, 1) := by decide +kernel
theorem d_C_countPlace_99 : decode b_C_countPlace 99 = .ok (.putfield 265, 3) := by decide +kernel
theorem d_C_countPlace_102 : decode b_C_countPlace 102 = .ok (.return_, 1) := by decide +kernel
theorem d_C_isTolerated_0 : decode b_C_isTolerated 0 = .ok (.iload_n 1, 1) := by decide +kernel
theorem d_C_isTolerated_1 : decode b_C_isTolerated 1 = .ok (.invokestatic 322, 3) := by decide +kernel
theorem d_C_isTolerated_4 : decode b_C_isTolerated 4 = .ok (.aload_n 0, 1) := by decide +kernel
theorem d_C_isTolerated_5 : decode b_C_isTolerated 5 = .ok (.getfield 31, 3) := by decide +kernel
theorem d_C_isTolerated_8 : decode b_C_isTolerated 8 = .ok (.aload_n 2, 1) := by decide +kernel
theorem d_C_isTolerated_9 : decode b_C_isTolerated 9 = .ok (.getfield 279, 3) := by decide +kernel
theorem d_C_isTolerated_12 : decode b_C_isTolerated 12 = .ok (.iaload, 1) := by decide +kernel
theorem d_C_isTolerated_13 : decode b_C_isTolerated 13 = .ok (.if_icmp .gt 7, 3) := by decide +kernel
theorem d_C_isTolerated_16 : decode b_C_isTolerated 16 = .ok (.iconst 1, 1) := by decide +kernel
theorem d_C_isTolerated_17 : decode b_C_isTolerated 17 = .ok (.goto 4, 3) := by decide +kernel
theorem d_C_isTolerated_20 : decode b_C_isTolerated 20 = .ok (.iconst 0, 1) := by decide +kernel
theorem d_C_isTolerated_21 : decode b_C_isTolerated 21 = .ok (.ireturn, 1) := by decide +kernel
theorem d_C_mayCorrect_0 : decode b_C_mayCorrect 0 = .ok (.aload_n 1, 1) := by decide +kernel
theorem d_C_mayCorrect_1 : decode b_C_mayCorrect 1 = .ok (.getfield 245, 3) := by decide +kernel
theorem d_C_mayCorrect_4 : decode b_C_mayCorrect 4 = .ok (.iload_n 2, 1) := by decide +kernel
theorem d_C_mayCorrect_5 : decode b_C_mayCorrect 5 = .ok (.iaload, 1) := by decide +kernel
theorem d_C_mayCorrect_6 : decode b_C_mayCorrect 6 = .ok (.istore 4, 2) := by decide +kernel
theorem d_C_mayCorrect_8 : decode b_C_mayCorrect 8 = .ok (.aload_n 0, 1) := by decide +kernel
theorem d_C_mayCorrect_9 : decode b_C_mayCorrect 9 = .ok (.getfield 34, 3) := by decide +kernel
theorem d_C_mayCorrect_12 : decode b_C_mayCorrect 12 = .ok (.iload_n 3, 1) := by decide +kernel
theorem d_C_mayCorrect_13 : decode b_C_mayCorrect 13 = .ok (.iaload, 1) := by decide +kernel
theorem d_C_mayCorrect_14 : decode b_C_mayCorrect 14 = .ok (.aload_n 1, 1) := by decide +kernel
theorem d_C_mayCorrect_15 : decode b_C_mayCorrect 15 = .ok (.iload_n 2, 1) := by decide +kernel
theorem d_C_mayCorrect_16 : decode b_C_mayCorrect 16 = .ok (.invokevirtual 214, 3) := by decide +kernel
theorem d_C_mayCorrect_19 : decode b_C_mayCorrect 19 = .ok (.invokestatic 322, 3) := by decide +kernel
theorem d_C_mayCorrect_22 : decode b_C_mayCorrect 22 = .ok (.if_icmp .lt 7, 3) := by decide +kernel
theorem d_C_mayCorrect_25 : decode b_C_mayCorrect 25 = .ok (.iconst 1, 1) := by decide +kernel
theorem d_C_mayCorrect_26 : decode b_C_mayCorrect 26 = .ok (.goto 4, 3) := by decide +kernel
theorem d_C_mayCorrect_29 : decode b_C_mayCorrect 29 = .ok (.iconst 0, 1) := by decide +kernel
theorem d_C_mayCorrect_30 : decode b_C_mayCorrect 30 = .ok (.istore 5, 2) := by decide +kernel
theorem d_C_mayCorrect_32 : decode b_C_mayCorrect 32 = .ok (.iload 4, 2) := by decide +kernel
theorem d_C_mayCorrect_34 : decode b_C_mayCorrect 34 = .ok (.iconst (-1), 1) := by decide +kernel
theorem d_C_mayCorrect_35 : decode b_C_mayCorrect 35 = .ok (.if_icmp .eq 13, 3) := by decide +kernel
theorem d_C_mayCorrect_38 : decode b_C_mayCorrect 38 = .ok (.iload 4, 2) := by decide +kernel
theorem d_C_mayCorrect_40 : decode b_C_mayCorrect 40 = .ok (.iload_n 3, 1) := by decide +kernel
theorem d_C_mayCorrect_41 : decode b_C_mayCorrect 41 = .ok (.if_icmp .eq 7, 3) := by decide +kernel
theorem d_C_mayCorrect_44 : decode b_C_mayCorrect 44 = .ok (.iconst 1, 1) := by decide +kernel
theorem d_C_mayCorrect_45 : decode b_C_mayCorrect 45 = .ok (.goto 4, 3) := by decide +kernel
theorem d_C_mayCorrect_48 : decode b_C_mayCorrect 48 = .ok (.iconst 0, 1) := by decide +kernel
theorem d_C_mayCorrect_49 : decode b_C_mayCorrect 49 = .ok (.istore 6, 2) := by decide +kernel
theorem d_C_mayCorrect_51 : decode b_C_mayCorrect 51 = .ok (.iload 5, 2) := by decide +kernel
theorem d_C_mayCorrect_53 : decode b_C_mayCorrect 53 = .ok (.ifCond .ne 8, 3) := by decide +kernel
theorem d_C_mayCorrect_56 : decode b_C_mayCorrect 56 = .ok (.iload 6, 2) := by decide +kernel
theorem d_C_mayCorrect_58 : decode b_C_mayCorrect 58 = .ok (.ifCond .eq 7, 3) := by decide +kernel
theorem d_C_mayCorrect_61 : decode b_C_mayCorrect 61 = .ok (.iconst 1, 1) := by decide +kernel
theorem d_C_mayCorrect_62 : decode b_C_mayCorrect 62 = .ok (.goto 4, 3) := by decide +kernel
theorem d_C_mayCorrect_65 : decode b_C_mayCorrect 65 = .ok (.iconst 0, 1) := by decide +kernel
theorem d_C_mayCorrect_66 : decode b_C_mayCorrect 66 = .ok (.ireturn, 1) := by decide +kernel
theorem d_C_commonDivisor_0 : decode b_C_commonDivisor 0 = .ok (.iload_n 0, 1) := by decide +kernel
theorem d_C_commonDivisor_1 : decode b_C_commonDivisor 1 = .ok (.istore_n 2, 1) := by decide +kernel
theorem d_C_commonDivisor_2 : decode b_C_commonDivisor 2 = .ok (.iload_n 1, 1) := by decide +kernel
theorem d_C_commonDivisor_3 : decode b_C_commonDivisor 3 = .ok (.istore_n 3, 1) := by decide +kernel
theorem d_C_commonDivisor_4 : decode b_C_commonDivisor 4 = .ok (.iconst 0, 1) := by decide +kernel
theorem d_C_commonDivisor_5 : decode b_C_commonDivisor 5 = .ok (.istore 4, 2) := by decide +kernel
theorem d_C_commonDivisor_7 : decode b_C_commonDivisor 7 = .ok (.iload 4, 2) := by decide +kernel
theorem d_C_commonDivisor_9 : decode b_C_commonDivisor 9 = .ok (.bipush 64, 2) := by decide +kernel
theorem d_C_commonDivisor_11 : decode b_C_commonDivisor 11 = .ok (.if_icmp .ge 23, 3) := by decide +kernel
theorem d_C_commonDivisor_14 : decode b_C_commonDivisor 14 = .ok (.iload_n 3, 1) := by decide +kernel
theorem d_C_commonDivisor_15 : decode b_C_commonDivisor 15 = .ok (.ifCond .eq 19, 3) := by decide +kernel
theorem d_C_commonDivisor_18 : decode b_C_commonDivisor 18 = .ok (.iload_n 2, 1) := by decide +kernel
theorem d_C_commonDivisor_19 : decode b_C_commonDivisor 19 = .ok (.iload_n 3, 1) := by decide +kernel
theorem d_C_commonDivisor_20 : decode b_C_commonDivisor 20 = .ok (.irem, 1) := by decide +kernel
theorem d_C_commonDivisor_21 : decode b_C_commonDivisor 21 = .ok (.istore 5, 2) := by decide +kernel
theorem d_C_commonDivisor_23 : decode b_C_commonDivisor 23 = .ok (.iload_n 3, 1) := by decide +kernel
theorem d_C_commonDivisor_24 : decode b_C_commonDivisor 24 = .ok (.istore_n 2, 1) := by decide +kernel
theorem d_C_commonDivisor_25 : decode b_C_commonDivisor 25 = .ok (.iload 5, 2) := by decide +kernel
theorem d_C_commonDivisor_27 : decode b_C_commonDivisor 27 = .ok (.istore_n 3, 1) := by decide +kernel
theorem d_C_commonDivisor_28 : decode b_C_commonDivisor 28 = .ok (.iinc 4 1, 3) := by decide +kernel
theorem d_C_commonDivisor_31 : decode b_C_commonDivisor 31 = .ok (.goto (-24), 3) := by decide +kernel
theorem d_C_commonDivisor_34 : decode b_C_commonDivisor 34 = .ok (.iload_n 2, 1) := by decide +kernel
theorem d_C_commonDivisor_35 : decode b_C_commonDivisor 35 = .ok (.ireturn, 1) := by decide +kernel
theorem d_P_init_0 : decode b_P_init 0 = .ok (.aload_n 0, 1) := by decide +kernel
theorem d_P_init_1 : decode b_P_init 1 = .ok (.invokespecial 3, 3) := by decide +kernel
theorem d_P_init_4 : decode b_P_init 4 = .ok (.aload_n 0, 1) := by decide +kernel
theorem d_P_init_5 : decode b_P_init 5 = .ok (.bipush 6, 2) := by decide +kernel
theorem d_P_init_7 : decode b_P_init 7 = .ok (.newarray .int, 2) := by decide +kernel
theorem d_P_init_9 : decode b_P_init 9 = .ok (.putfield 9, 3) := by decide +kernel
theorem d_P_init_12 : decode b_P_init 12 = .ok (.aload_n 0, 1) := by decide +kernel
theorem d_P_init_13 : decode b_P_init 13 = .ok (.iconst (-1), 1) := by decide +kernel
theorem d_P_init_14 : decode b_P_init 14 = .ok (.putfield 15, 3) := by decide +kernel
theorem d_P_init_17 : decode b_P_init 17 = .ok (.aload_n 0, 1) := by decide +kernel
theorem d_P_init_18 : decode b_P_init 18 = .ok (.iload_n 1, 1) := by decide +kernel
theorem d_P_init_19 : decode b_P_init 19 = .ok (.putfield 19, 3) := by decide +kernel
theorem d_P_init_22 : decode b_P_init 22 = .ok (.return_, 1) := by decide +kernel
theorem d_S_init_0 : decode b_S_init 0 = .ok (.aload_n 0, 1) := by decide +kernel
theorem d_S_init_1 : decode b_S_init 1 = .ok (.invokespecial 3, 3) := by decide +kernel
theorem d_S_init_4 : decode b_S_init 4 = .ok (.aload_n 0, 1) := by decide +kernel
theorem d_S_init_5 : decode b_S_init 5 = .ok (.iconst 0, 1) := by decide +kernel
theorem d_S_init_6 : decode b_S_init 6 = .ok (.putfield 9, 3) := by decide +kernel
theorem d_S_init_9 : decode b_S_init 9 = .ok (.aload_n 1, 1) := by decide +kernel
theorem d_S_init_10 : decode b_S_init 10 = .ok (.arraylength, 1) := by decide +kernel
theorem d_S_init_11 : decode b_S_init 11 = .ok (.bipush 6, 2) := by decide +kernel
theorem d_S_init_13 : decode b_S_init 13 = .ok (.imul, 1) := by decide +kernel
theorem d_S_init_14 : decode b_S_init 14 = .ok (.istore_n 2, 1) := by decide +kernel
theorem d_S_init_15 : decode b_S_init 15 = .ok (.aload_n 0, 1) := by decide +kernel
theorem d_S_init_16 : decode b_S_init 16 = .ok (.aload_n 1, 1) := by decide +kernel
theorem d_S_init_17 : decode b_S_init 17 = .ok (.putfield 15, 3) := by decide +kernel
theorem d_S_init_20 : decode b_S_init 20 = .ok (.aload_n 0, 1) := by decide +kernel
theorem d_S_init_21 : decode b_S_init 21 = .ok (.iload_n 2, 1) := by decide +kernel
theorem d_S_init_22 : decode b_S_init 22 = .ok (.newarray .int, 2) := by decide +kernel
theorem d_S_init_24 : decode b_S_init 24 = .ok (.putfield 19, 3) := by decide +kernel
theorem d_S_init_27 : decode b_S_init 27 = .ok (.aload_n 0, 1) := by decide +kernel
theorem d_S_init_28 : decode b_S_init 28 = .ok (.iload_n 2, 1) := by decide +kernel
theorem d_S_init_29 : decode b_S_init 29 = .ok (.newarray .int, 2) := by decide +kernel
theorem d_S_init_31 : decode b_S_init 31 = .ok (.putfield 22, 3) := by decide +kernel
theorem d_S_init_34 : decode b_S_init 34 = .ok (.aload_n 0, 1) := by decide +kernel
theorem d_S_init_35 : decode b_S_init 35 = .ok (.iload_n 2, 1) := by decide +kernel
theorem d_S_init_36 : decode b_S_init 36 = .ok (.newarray .int, 2) := by decide +kernel
theorem d_S_init_38 : decode b_S_init 38 = .ok (.putfield 25, 3) := by decide +kernel
theorem d_S_init_41 : decode b_S_init 41 = .ok (.aload_n 0, 1) := by decide +kernel
theorem d_S_init_42 : decode b_S_init 42 = .ok (.iload_n 2, 1) := by decide +kernel
theorem d_S_init_43 : decode b_S_init 43 = .ok (.newarray .int, 2) := by decide +kernel
theorem d_S_init_45 : decode b_S_init 45 = .ok (.putfield 28, 3) := by decide +kernel
theorem d_S_init_48 : decode b_S_init 48 = .ok (.aload_n 0, 1) := by decide +kernel
theorem d_S_init_49 : decode b_S_init 49 = .ok (.iload_n 2, 1) := by decide +kernel
theorem d_S_init_50 : decode b_S_init 50 = .ok (.newarray .int, 2) := by decide +kernel
theorem d_S_init_52 : decode b_S_init 52 = .ok (.putfield 31, 3) := by decide +kernel
theorem d_S_init_55 : decode b_S_init 55 = .ok (.aload_n 0, 1) := by decide +kernel
theorem d_S_init_56 : decode b_S_init 56 = .ok (.iload_n 2, 1) := by decide +kernel
theorem d_S_init_57 : decode b_S_init 57 = .ok (.newarray .boolean, 2) := by decide +kernel
theorem d_S_init_59 : decode b_S_init 59 = .ok (.putfield 34, 3) := by decide +kernel
theorem d_S_init_62 : decode b_S_init 62 = .ok (.aload_n 0, 1) := by decide +kernel
theorem d_S_init_63 : decode b_S_init 63 = .ok (.iload_n 2, 1) := by decide +kernel
theorem d_S_init_64 : decode b_S_init 64 = .ok (.newarray .int, 2) := by decide +kernel
theorem d_S_init_66 : decode b_S_init 66 = .ok (.putfield 38, 3) := by decide +kernel
theorem d_S_init_69 : decode b_S_init 69 = .ok (.aload_n 0, 1) := by decide +kernel
theorem d_S_init_70 : decode b_S_init 70 = .ok (.getfield 25, 3) := by decide +kernel
theorem d_S_init_73 : decode b_S_init 73 = .ok (.iconst (-1), 1) := by decide +kernel
theorem d_S_init_74 : decode b_S_init 74 = .ok (.invokestatic 41, 3) := by decide +kernel
theorem d_S_init_77 : decode b_S_init 77 = .ok (.aload_n 0, 1) := by decide +kernel
theorem d_S_init_78 : decode b_S_init 78 = .ok (.getfield 28, 3) := by decide +kernel
theorem d_S_init_81 : decode b_S_init 81 = .ok (.iconst (-1), 1) := by decide +kernel
theorem d_S_init_82 : decode b_S_init 82 = .ok (.invokestatic 41, 3) := by decide +kernel
theorem d_S_init_85 : decode b_S_init 85 = .ok (.aload_n 0, 1) := by decide +kernel
theorem d_S_init_86 : decode b_S_init 86 = .ok (.getfield 31, 3) := by decide +kernel
theorem d_S_init_89 : decode b_S_init 89 = .ok (.iconst (-1), 1) := by decide +kernel
theorem d_S_init_90 : decode b_S_init 90 = .ok (.invokestatic 41, 3) := by decide +kernel
theorem d_S_init_93 : decode b_S_init 93 = .ok (.return_, 1) := by decide +kernel
theorem d_S_positionOf_0 : decode b_S_positionOf 0 = .ok (.iconst 0, 1) := by decide +kernel
theorem d_S_positionOf_1 : decode b_S_positionOf 1 = .ok (.istore_n 2, 1) := by decide +kernel
theorem d_S_positionOf_2 : decode b_S_positionOf 2 = .ok (.iload_n 2, 1) := by decide +kernel
theorem d_S_positionOf_3 : decode b_S_positionOf 3 = .ok (.aload_n 0, 1) := by decide +kernel
theorem d_S_positionOf_4 : decode b_S_positionOf 4 = .ok (.getfield 15, 3) := by decide +kernel
theorem d_S_positionOf_7 : decode b_S_positionOf 7 = .ok (.arraylength, 1) := by decide +kernel
theorem d_S_positionOf_8 : decode b_S_positionOf 8 = .ok (.if_icmp .ge 21, 3) := by decide +kernel
theorem d_S_positionOf_11 : decode b_S_positionOf 11 = .ok (.aload_n 0, 1) := by decide +kernel
theorem d_S_positionOf_12 : decode b_S_positionOf 12 = .ok (.getfield 15, 3) := by decide +kernel
theorem d_S_positionOf_15 : decode b_S_positionOf 15 = .ok (.iload_n 2, 1) := by decide +kernel
theorem d_S_positionOf_16 : decode b_S_positionOf 16 = .ok (.iaload, 1) := by decide +kernel
theorem d_S_positionOf_17 : decode b_S_positionOf 17 = .ok (.iload_n 1, 1) := by decide +kernel
theorem d_S_positionOf_18 : decode b_S_positionOf 18 = .ok (.if_icmp .ne 5, 3) := by decide +kernel
theorem d_S_positionOf_21 : decode b_S_positionOf 21 = .ok (.iload_n 2, 1) := by decide +kernel
theorem d_S_positionOf_22 : decode b_S_positionOf 22 = .ok (.ireturn, 1) := by decide +kernel
theorem d_S_positionOf_23 : decode b_S_positionOf 23 = .ok (.iinc 2 1, 3) := by decide +kernel
theorem d_S_positionOf_26 : decode b_S_positionOf 26 = .ok (.goto (-24), 3) := by decide +kernel
theorem d_S_positionOf_29 : decode b_S_positionOf 29 = .ok (.iconst (-1), 1) := by decide +kernel
theorem d_S_positionOf_30 : decode b_S_positionOf 30 = .ok (.ireturn, 1) := by decide +kernel
theorem d_S_tell_0 : decode b_S_tell 0 = .ok (.aload_n 0, 1) := by decide +kernel
theorem d_S_tell_1 : decode b_S_tell 1 = .ok (.getfield 25, 3) := by decide +kernel
theorem d_S_tell_4 : decode b_S_tell 4 = .ok (.iload_n 1, 1) := by decide +kernel
theorem d_S_tell_5 : decode b_S_tell 5 = .ok (.iaload, 1) := by decide +kernel
theorem d_S_tell_6 : decode b_S_tell 6 = .ok (.iload_n 3, 1) := by decide +kernel
theorem d_S_tell_7 : decode b_S_tell 7 = .ok (.if_icmp .eq 13, 3) := by decide +kernel
theorem d_S_tell_10 : decode b_S_tell 10 = .ok (.aload_n 0, 1) := by decide +kernel
theorem d_S_tell_11 : decode b_S_tell 11 = .ok (.getfield 28, 3) := by decide +kernel
theorem d_S_tell_14 : decode b_S_tell 14 = .ok (.iload_n 1, 1) := by decide +kernel
theorem d_S_tell_15 : decode b_S_tell 15 = .ok (.iaload, 1) := by decide +kernel
theorem d_S_tell_16 : decode b_S_tell 16 = .ok (.iload_n 3, 1) := by decide +kernel
theorem d_S_tell_17 : decode b_S_tell 17 = .ok (.if_icmp .ne 6, 3) := by decide +kernel
theorem d_S_tell_20 : decode b_S_tell 20 = .ok (.bipush (-3), 2) := by decide +kernel
theorem d_S_tell_22 : decode b_S_tell 22 = .ok (.ireturn, 1) := by decide +kernel
theorem d_S_tell_23 : decode b_S_tell 23 = .ok (.aload_n 0, 1) := by decide +kernel
theorem d_S_tell_24 : decode b_S_tell 24 = .ok (.getfield 28, 3) := by decide +kernel
theorem d_S_tell_27 : decode b_S_tell 27 = .ok (.iload_n 1, 1) := by decide +kernel
theorem d_S_tell_28 : decode b_S_tell 28 = .ok (.iaload, 1) := by decide +kernel
theorem d_S_tell_29 : decode b_S_tell 29 = .ok (.iconst (-1), 1) := by decide +kernel
theorem d_S_tell_30 : decode b_S_tell 30 = .ok (.if_icmp .eq 6, 3) := by decide +kernel
theorem d_S_tell_33 : decode b_S_tell 33 = .ok (.bipush (-4), 2) := by decide +kernel
theorem d_S_tell_35 : decode b_S_tell 35 = .ok (.ireturn, 1) := by decide +kernel
theorem d_S_tell_36 : decode b_S_tell 36 = .ok (.aload_n 0, 1) := by decide +kernel
theorem d_S_tell_37 : decode b_S_tell 37 = .ok (.getfield 25, 3) := by decide +kernel
theorem d_S_tell_40 : decode b_S_tell 40 = .ok (.iload_n 1, 1) := by decide +kernel
theorem d_S_tell_41 : decode b_S_tell 41 = .ok (.iaload, 1) := by decide +kernel
theorem d_S_tell_42 : decode b_S_tell 42 = .ok (.iconst (-1), 1) := by decide +kernel
theorem d_S_tell_43 : decode b_S_tell 43 = .ok (.if_icmp .ne 13, 3) := by decide +kernel
theorem d_S_tell_46 : decode b_S_tell 46 = .ok (.aload_n 0, 1) := by decide +kernel
theorem d_S_tell_47 : decode b_S_tell 47 = .ok (.getfield 25, 3) := by decide +kernel
theorem d_S_tell_50 : decode b_S_tell 50 = .ok (.iload_n 1, 1) := by decide +kernel
theorem d_S_tell_51 : decode b_S_tell 51 = .ok (.iload_n 3, 1) := by decide +kernel
theorem d_S_tell_52 : decode b_S_tell 52 = .ok (.iastore, 1) := by decide +kernel
theorem d_S_tell_53 : decode b_S_tell 53 = .ok (.goto 10, 3) := by decide +kernel
theorem d_S_tell_56 : decode b_S_tell 56 = .ok (.aload_n 0, 1) := by decide +kernel
theorem d_S_tell_57 : decode b_S_tell 57 = .ok (.getfield 28, 3) := by decide +kernel
theorem d_S_tell_60 : decode b_S_tell 60 = .ok (.iload_n 1, 1) := by decide +kernel
theorem d_S_tell_61 : decode b_S_tell 61 = .ok (.iload_n 3, 1) := by decide +kernel
theorem d_S_tell_62 : decode b_S_tell 62 = .ok (.iastore, 1) := by decide +kernel
theorem d_S_tell_63 : decode b_S_tell 63 = .ok (.aload_n 0, 1) := by decide +kernel
theorem d_S_tell_64 : decode b_S_tell 64 = .ok (.getfield 22, 3) := by decide +kernel
theorem d_S_tell_67 : decode b_S_tell 67 = .ok (.iload_n 1, 1) := by decide +kernel
theorem d_S_tell_68 : decode b_S_tell 68 = .ok (.iload_n 2, 1) := by decide +kernel
theorem d_S_tell_69 : decode b_S_tell 69 = .ok (.iastore, 1) := by decide +kernel
theorem d_S_tell_70 : decode b_S_tell 70 = .ok (.aload_n 0, 1) := by decide +kernel
theorem d_S_tell_71 : decode b_S_tell 71 = .ok (.dup, 1) := by decide +kernel
theorem d_S_tell_72 : decode b_S_tell 72 = .ok (.getfield 47, 3) := by decide +kernel
theorem d_S_tell_75 : decode b_S_tell 75 = .ok (.iconst 1, 1) := by decide +kernel
theorem d_S_tell_76 : decode b_S_tell 76 = .ok (.iadd, 1) := by decide +kernel
theorem d_S_tell_77 : decode b_S_tell 77 = .ok (.putfield 47, 3) := by decide +kernel
theorem d_S_tell_80 : decode b_S_tell 80 = .ok (.iconst 1, 1) := by decide +kernel
theorem d_S_tell_81 : decode b_S_tell 81 = .ok (.ireturn, 1) := by decide +kernel
theorem d_S_isToldOnce_0 : decode b_S_isToldOnce 0 = .ok (.aload_n 0, 1) := by decide +kernel
theorem d_S_isToldOnce_1 : decode b_S_isToldOnce 1 = .ok (.getfield 25, 3) := by decide +kernel
theorem d_S_isToldOnce_4 : decode b_S_isToldOnce 4 = .ok (.iload_n 1, 1) := by decide +kernel
theorem d_S_isToldOnce_5 : decode b_S_isToldOnce 5 = .ok (.iaload, 1) := by decide +kernel
theorem d_S_isToldOnce_6 : decode b_S_isToldOnce 6 = .ok (.iconst (-1), 1) := by decide +kernel
theorem d_S_isToldOnce_7 : decode b_S_isToldOnce 7 = .ok (.if_icmp .eq 17, 3) := by decide +kernel
theorem d_S_isToldOnce_10 : decode b_S_isToldOnce 10 = .ok (.aload_n 0, 1) := by decide +kernel
theorem d_S_isToldOnce_11 : decode b_S_isToldOnce 11 = .ok (.getfield 28, 3) := by decide +kernel
theorem d_S_isToldOnce_14 : decode b_S_isToldOnce 14 = .ok (.iload_n 1, 1) := by decide +kernel
theorem d_S_isToldOnce_15 : decode b_S_isToldOnce 15 = .ok (.iaload, 1) := by decide +kernel
theorem d_S_isToldOnce_16 : decode b_S_isToldOnce 16 = .ok (.iconst (-1), 1) := by decide +kernel
theorem d_S_isToldOnce_17 : decode b_S_isToldOnce 17 = .ok (.if_icmp .ne 7, 3) := by decide +kernel
theorem d_S_isToldOnce_20 : decode b_S_isToldOnce 20 = .ok (.iconst 1, 1) := by decide +kernel
theorem d_S_isToldOnce_21 : decode b_S_isToldOnce 21 = .ok (.goto 4, 3) := by decide +kernel
theorem d_S_isToldOnce_24 : decode b_S_isToldOnce 24 = .ok (.iconst 0, 1) := by decide +kernel
theorem d_S_isToldOnce_25 : decode b_S_isToldOnce 25 = .ok (.ireturn, 1) := by decide +kernel
theorem d_S_isPlaceTold_0 : decode b_S_isPlaceTold 0 = .ok (.iconst 0, 1) := by decide +kernel
theorem d_S_isPlaceTold_1 : decode b_S_isPlaceTold 1 = .ok (.istore_n 2, 1) := by decide +kernel
theorem d_S_isPlaceTold_2 : decode b_S_isPlaceTold 2 = .ok (.iload_n 2, 1) := by decide +kernel
theorem d_S_isPlaceTold_3 : decode b_S_isPlaceTold 3 = .ok (.bipush 6, 2) := by decide +kernel
theorem d_S_isPlaceTold_5 : decode b_S_isPlaceTold 5 = .ok (.if_icmp .ge 26, 3) := by decide +kernel
theorem d_S_isPlaceTold_8 : decode b_S_isPlaceTold 8 = .ok (.aload_n 0, 1) := by decide +kernel
theorem d_S_isPlaceTold_9 : decode b_S_isPlaceTold 9 = .ok (.getfield 25, 3) := by decide +kernel
theorem d_S_isPlaceTold_12 : decode b_S_isPlaceTold 12 = .ok (.iload_n 1, 1) := by decide +kernel
theorem d_S_isPlaceTold_13 : decode b_S_isPlaceTold 13 = .ok (.bipush 6, 2) := by decide +kernel
theorem d_S_isPlaceTold_15 : decode b_S_isPlaceTold 15 = .ok (.imul, 1) := by decide +kernel
theorem d_S_isPlaceTold_16 : decode b_S_isPlaceTold 16 = .ok (.iload_n 2, 1) := by decide +kernel
theorem d_S_isPlaceTold_17 : decode b_S_isPlaceTold 17 = .ok (.iadd, 1) := by decide +kernel
theorem d_S_isPlaceTold_18 : decode b_S_isPlaceTold 18 = .ok (.iaload, 1) := by decide +kernel
theorem d_S_isPlaceTold_19 : decode b_S_isPlaceTold 19 = .ok (.iconst (-1), 1) := by decide +kernel
theorem d_S_isPlaceTold_20 : decode b_S_isPlaceTold 20 = .ok (.if_icmp .eq 5, 3) := by decide +kernel
theorem d_S_isPlaceTold_23 : decode b_S_isPlaceTold 23 = .ok (.iconst 1, 1) := by decide +kernel
theorem d_S_isPlaceTold_24 : decode b_S_isPlaceTold 24 = .ok (.ireturn, 1) := by decide +kernel
theorem d_S_isPlaceTold_25 : decode b_S_isPlaceTold 25 = .ok (.iinc 2 1, 3) := by decide +kernel
theorem d_S_isPlaceTold_28 : decode b_S_isPlaceTold 28 = .ok (.goto (-26), 3) := by decide +kernel
theorem d_S_isPlaceTold_31 : decode b_S_isPlaceTold 31 = .ok (.iconst 0, 1) := by decide +kernel
theorem d_S_isPlaceTold_32 : decode b_S_isPlaceTold 32 = .ok (.ireturn, 1) := by decide +kernel
theorem d_S_finderOf_0 : decode b_S_finderOf 0 = .ok (.aload_n 0, 1) := by decide +kernel
theorem d_S_finderOf_1 : decode b_S_finderOf 1 = .ok (.getfield 28, 3) := by decide +kernel
theorem d_S_finderOf_4 : decode b_S_finderOf 4 = .ok (.iload_n 1, 1) := by decide +kernel
theorem d_S_finderOf_5 : decode b_S_finderOf 5 = .ok (.iaload, 1) := by decide +kernel
theorem d_S_finderOf_6 : decode b_S_finderOf 6 = .ok (.iconst (-1), 1) := by decide +kernel
theorem d_S_finderOf_7 : decode b_S_finderOf 7 = .ok (.if_icmp .eq 12, 3) := by decide +kernel
theorem d_S_finderOf_10 : decode b_S_finderOf 10 = .ok (.aload_n 0, 1) := by decide +kernel
theorem d_S_finderOf_11 : decode b_S_finderOf 11 = .ok (.getfield 28, 3) := by decide +kernel
theorem d_S_finderOf_14 : decode b_S_finderOf 14 = .ok (.iload_n 1, 1) := by decide +kernel
theorem d_S_finderOf_15 : decode b_S_finderOf 15 = .ok (.iaload, 1) := by decide +kernel
theorem d_S_finderOf_16 : decode b_S_finderOf 16 = .ok (.goto 9, 3) := by decide +kernel
theorem d_S_finderOf_19 : decode b_S_finderOf 19 = .ok (.aload_n 0, 1) := by decide +kernel
theorem d_S_finderOf_20 : decode b_S_finderOf 20 = .ok (.getfield 25, 3) := by decide +kernel
theorem d_S_finderOf_23 : decode b_S_finderOf 23 = .ok (.iload_n 1, 1) := by decide +kernel
theorem d_S_finderOf_24 : decode b_S_finderOf 24 = .ok (.iaload, 1) := by decide +kernel
theorem d_S_finderOf_25 : decode b_S_finderOf 25 = .ok (.ireturn, 1) := by decide +kernel
theorem d_S_differenceOf_0 : decode b_S_differenceOf 0 = .ok (.aload_n 0, 1) := by decide +kernel
theorem d_S_differenceOf_1 : decode b_S_differenceOf 1 = .ok (.getfield 22, 3) := by decide +kernel
theorem d_S_differenceOf_4 : decode b_S_differenceOf 4 = .ok (.iload_n 1, 1) := by decide +kernel
theorem d_S_differenceOf_5 : decode b_S_differenceOf 5 = .ok (.iaload, 1) := by decide +kernel
theorem d_S_differenceOf_6 : decode b_S_differenceOf 6 = .ok (.aload_n 0, 1) := by decide +kernel
theorem d_S_differenceOf_7 : decode b_S_differenceOf 7 = .ok (.getfield 19, 3) := by decide +kernel
theorem d_S_differenceOf_10 : decode b_S_differenceOf 10 = .ok (.iload_n 1, 1) := by decide +kernel
theorem d_S_differenceOf_11 : decode b_S_differenceOf 11 = .ok (.iaload, 1) := by decide +kernel
theorem d_S_differenceOf_12 : decode b_S_differenceOf 12 = .ok (.isub, 1) := by decide +kernel
theorem d_S_differenceOf_13 : decode b_S_differenceOf 13 = .ok (.ireturn, 1) := by decide +kernel
theorem d_S_addDifference_0 : decode b_S_addDifference 0 = .ok (.aload_n 0, 1) := by decide +kernel
theorem d_S_addDifference_1 : decode b_S_addDifference 1 = .ok (.getfield 50, 3) := by decide +kernel
theorem d_S_addDifference_4 : decode b_S_addDifference 4 = .ok (.aload_n 0, 1) := by decide +kernel
theorem d_S_addDifference_5 : decode b_S_addDifference 5 = .ok (.getfield 38, 3) := by decide +kernel
theorem d_S_addDifference_8 : decode b_S_addDifference 8 = .ok (.arraylength, 1) := by decide +kernel
theorem d_S_addDifference_9 : decode b_S_addDifference 9 = .ok (.if_icmp .ge 23, 3) := by decide +kernel
theorem d_S_addDifference_12 : decode b_S_addDifference 12 = .ok (.aload_n 0, 1) := by decide +kernel
theorem d_S_addDifference_13 : decode b_S_addDifference 13 = .ok (.getfield 38, 3) := by decide +kernel
theorem d_S_addDifference_16 : decode b_S_addDifference 16 = .ok (.aload_n 0, 1) := by decide +kernel
theorem d_S_addDifference_17 : decode b_S_addDifference 17 = .ok (.getfield 50, 3) := by decide +kernel
theorem d_S_addDifference_20 : decode b_S_addDifference 20 = .ok (.iload_n 1, 1) := by decide +kernel
theorem d_S_addDifference_21 : decode b_S_addDifference 21 = .ok (.iastore, 1) := by decide +kernel
theorem d_S_addDifference_22 : decode b_S_addDifference 22 = .ok (.aload_n 0, 1) := by decide +kernel
theorem d_S_addDifference_23 : decode b_S_addDifference 23 = .ok (.dup, 1) := by decide +kernel
theorem d_S_addDifference_24 : decode b_S_addDifference 24 = .ok (.getfield 50, 3) := by decide +kernel
theorem d_S_addDifference_27 : decode b_S_addDifference 27 = .ok (.iconst 1, 1) := by decide +kernel
theorem d_S_addDifference_28 : decode b_S_addDifference 28 = .ok (.iadd, 1) := by decide +kernel
theorem d_S_addDifference_29 : decode b_S_addDifference 29 = .ok (.putfield 50, 3) := by decide +kernel
theorem d_S_addDifference_32 : decode b_S_addDifference 32 = .ok (.return_, 1) := by decide +kernel
theorem d_S_differingLine_0 : decode b_S_differingLine 0 = .ok (.iload_n 1, 1) := by decide +kernel
theorem d_S_differingLine_1 : decode b_S_differingLine 1 = .ok (.ifCond .lt 20, 3) := by decide +kernel
theorem d_S_differingLine_4 : decode b_S_differingLine 4 = .ok (.iload_n 1, 1) := by decide +kernel
theorem d_S_differingLine_5 : decode b_S_differingLine 5 = .ok (.aload_n 0, 1) := by decide +kernel
theorem d_S_differingLine_6 : decode b_S_differingLine 6 = .ok (.getfield 50, 3) := by decide +kernel
theorem d_S_differingLine_9 : decode b_S_differingLine 9 = .ok (.if_icmp .ge 12, 3) := by decide +kernel
theorem d_S_differingLine_12 : decode b_S_differingLine 12 = .ok (.aload_n 0, 1) := by decide +kernel
theorem d_S_differingLine_13 : decode b_S_differingLine 13 = .ok (.getfield 38, 3) := by decide +kernel
theorem d_S_differingLine_16 : decode b_S_differingLine 16 = .ok (.iload_n 1, 1) := by decide +kernel
theorem d_S_differingLine_17 : decode b_S_differingLine 17 = .ok (.iaload, 1) := by decide +kernel
theorem d_S_differingLine_18 : decode b_S_differingLine 18 = .ok (.goto 4, 3) := by decide +kernel
theorem d_S_differingLine_21 : decode b_S_differingLine 21 = .ok (.iconst (-1), 1) := by decide +kernel
theorem d_S_differingLine_22 : decode b_S_differingLine 22 = .ok (.ireturn, 1) := by decide +kernel
theorem d_T_init_0 : decode b_T_init 0 = .ok (.aload_n 0, 1) := by decide +kernel
theorem d_T_init_1 : decode b_T_init 1 = .ok (.invokespecial 1, 3) := by decide +kernel
theorem d_T_init_4 : decode b_T_init 4 = .ok (.aload_n 0, 1) := by decide +kernel
theorem d_T_init_5 : decode b_T_init 5 = .ok (.iconst 1, 1) := by decide +kernel
theorem d_T_init_6 : decode b_T_init 6 = .ok (.putfield 7, 3) := by decide +kernel
theorem d_T_init_9 : decode b_T_init 9 = .ok (.aload_n 0, 1) := by decide +kernel
theorem d_T_init_10 : decode b_T_init 10 = .ok (.iload_n 1, 1) := by decide +kernel
theorem d_T_init_11 : decode b_T_init 11 = .ok (.putfield 13, 3) := by decide +kernel
theorem d_T_init_14 : decode b_T_init 14 = .ok (.aload_n 0, 1) := by decide +kernel
theorem d_T_init_15 : decode b_T_init 15 = .ok (.iload_n 2, 1) := by decide +kernel
theorem d_T_init_16 : decode b_T_init 16 = .ok (.putfield 17, 3) := by decide +kernel
theorem d_T_init_19 : decode b_T_init 19 = .ok (.aload_n 0, 1) := by decide +kernel
theorem d_T_init_20 : decode b_T_init 20 = .ok (.iload_n 3, 1) := by decide +kernel
theorem d_T_init_21 : decode b_T_init 21 = .ok (.putfield 20, 3) := by decide +kernel
theorem d_T_init_24 : decode b_T_init 24 = .ok (.aload_n 0, 1) := by decide +kernel
theorem d_T_init_25 : decode b_T_init 25 = .ok (.iload 4, 2) := by decide +kernel
theorem d_T_init_27 : decode b_T_init 27 = .ok (.putfield 23, 3) := by decide +kernel
theorem d_T_init_30 : decode b_T_init 30 = .ok (.return_, 1) := by decide +kernel
