/-! decode rows: the reference -/
theorem d_M_init_0 : decode b_M_init 0 = .ok (.aload_n 0, 1) := by decide +kernel
theorem d_M_init_1 : decode b_M_init 1 = .ok (.invokespecial 1, 3) := by decide +kernel
theorem d_M_init_4 : decode b_M_init 4 = .ok (.aload_n 0, 1) := by decide +kernel
theorem d_M_init_5 : decode b_M_init 5 = .ok (.bipush 20, 2) := by decide +kernel
theorem d_M_init_7 : decode b_M_init 7 = .ok (.newarray .int, 2) := by decide +kernel
theorem d_M_init_9 : decode b_M_init 9 = .ok (.putfield 7, 3) := by decide +kernel
theorem d_M_init_12 : decode b_M_init 12 = .ok (.aload_n 0, 1) := by decide +kernel
theorem d_M_init_13 : decode b_M_init 13 = .ok (.bipush 20, 2) := by decide +kernel
theorem d_M_init_15 : decode b_M_init 15 = .ok (.newarray .int, 2) := by decide +kernel
theorem d_M_init_17 : decode b_M_init 17 = .ok (.putfield 13, 3) := by decide +kernel
theorem d_M_init_20 : decode b_M_init 20 = .ok (.aload_n 0, 1) := by decide +kernel
theorem d_M_init_21 : decode b_M_init 21 = .ok (.bipush 120, 2) := by decide +kernel
theorem d_M_init_23 : decode b_M_init 23 = .ok (.newarray .int, 2) := by decide +kernel
theorem d_M_init_25 : decode b_M_init 25 = .ok (.putfield 16, 3) := by decide +kernel
theorem d_M_init_28 : decode b_M_init 28 = .ok (.aload_n 0, 1) := by decide +kernel
theorem d_M_init_29 : decode b_M_init 29 = .ok (.iconst 3, 1) := by decide +kernel
theorem d_M_init_30 : decode b_M_init 30 = .ok (.newarray .int, 2) := by decide +kernel
theorem d_M_init_32 : decode b_M_init 32 = .ok (.dup, 1) := by decide +kernel
theorem d_M_init_33 : decode b_M_init 33 = .ok (.iconst 0, 1) := by decide +kernel
theorem d_M_init_34 : decode b_M_init 34 = .ok (.bipush 30, 2) := by decide +kernel
theorem d_M_init_36 : decode b_M_init 36 = .ok (.iastore, 1) := by decide +kernel
theorem d_M_init_37 : decode b_M_init 37 = .ok (.dup, 1) := by decide +kernel
theorem d_M_init_38 : decode b_M_init 38 = .ok (.iconst 1, 1) := by decide +kernel
theorem d_M_init_39 : decode b_M_init 39 = .ok (.bipush 30, 2) := by decide +kernel
theorem d_M_init_41 : decode b_M_init 41 = .ok (.iastore, 1) := by decide +kernel
theorem d_M_init_42 : decode b_M_init 42 = .ok (.dup, 1) := by decide +kernel
theorem d_M_init_43 : decode b_M_init 43 = .ok (.iconst 2, 1) := by decide +kernel
theorem d_M_init_44 : decode b_M_init 44 = .ok (.bipush 30, 2) := by decide +kernel
theorem d_M_init_46 : decode b_M_init 46 = .ok (.iastore, 1) := by decide +kernel
theorem d_M_init_47 : decode b_M_init 47 = .ok (.putfield 19, 3) := by decide +kernel
theorem d_M_init_50 : decode b_M_init 50 = .ok (.aload_n 0, 1) := by decide +kernel
theorem d_M_init_51 : decode b_M_init 51 = .ok (.iconst 3, 1) := by decide +kernel
theorem d_M_init_52 : decode b_M_init 52 = .ok (.newarray .int, 2) := by decide +kernel
theorem d_M_init_54 : decode b_M_init 54 = .ok (.putfield 22, 3) := by decide +kernel
theorem d_M_init_57 : decode b_M_init 57 = .ok (.aload_n 0, 1) := by decide +kernel
theorem d_M_init_58 : decode b_M_init 58 = .ok (.bipush 6, 2) := by decide +kernel
theorem d_M_init_60 : decode b_M_init 60 = .ok (.newarray .int, 2) := by decide +kernel
theorem d_M_init_62 : decode b_M_init 62 = .ok (.putfield 25, 3) := by decide +kernel
theorem d_M_init_65 : decode b_M_init 65 = .ok (.aload_n 0, 1) := by decide +kernel
theorem d_M_init_66 : decode b_M_init 66 = .ok (.bipush 61, 2) := by decide +kernel
theorem d_M_init_68 : decode b_M_init 68 = .ok (.newarray .int, 2) := by decide +kernel
theorem d_M_init_70 : decode b_M_init 70 = .ok (.putfield 28, 3) := by decide +kernel
theorem d_M_init_73 : decode b_M_init 73 = .ok (.aload_n 0, 1) := by decide +kernel
theorem d_M_init_74 : decode b_M_init 74 = .ok (.bipush 61, 2) := by decide +kernel
theorem d_M_init_76 : decode b_M_init 76 = .ok (.newarray .int, 2) := by decide +kernel
theorem d_M_init_78 : decode b_M_init 78 = .ok (.putfield 31, 3) := by decide +kernel
theorem d_M_init_81 : decode b_M_init 81 = .ok (.aload_n 0, 1) := by decide +kernel
theorem d_M_init_82 : decode b_M_init 82 = .ok (.bipush 61, 2) := by decide +kernel
theorem d_M_init_84 : decode b_M_init 84 = .ok (.newarray .int, 2) := by decide +kernel
theorem d_M_init_86 : decode b_M_init 86 = .ok (.putfield 34, 3) := by decide +kernel
theorem d_M_init_89 : decode b_M_init 89 = .ok (.aload_n 0, 1) := by decide +kernel
theorem d_M_init_90 : decode b_M_init 90 = .ok (.bipush 61, 2) := by decide +kernel
theorem d_M_init_92 : decode b_M_init 92 = .ok (.newarray .int, 2) := by decide +kernel
theorem d_M_init_94 : decode b_M_init 94 = .ok (.putfield 37, 3) := by decide +kernel
theorem d_M_init_97 : decode b_M_init 97 = .ok (.aload_n 0, 1) := by decide +kernel
theorem d_M_init_98 : decode b_M_init 98 = .ok (.bipush 61, 2) := by decide +kernel
theorem d_M_init_100 : decode b_M_init 100 = .ok (.newarray .boolean, 2) := by decide +kernel
theorem d_M_init_102 : decode b_M_init 102 = .ok (.putfield 40, 3) := by decide +kernel
theorem d_M_init_105 : decode b_M_init 105 = .ok (.aload_n 0, 1) := by decide +kernel
theorem d_M_init_106 : decode b_M_init 106 = .ok (.bipush 21, 2) := by decide +kernel
theorem d_M_init_108 : decode b_M_init 108 = .ok (.newarray .int, 2) := by decide +kernel
theorem d_M_init_110 : decode b_M_init 110 = .ok (.putfield 44, 3) := by decide +kernel
theorem d_M_init_113 : decode b_M_init 113 = .ok (.aload_n 0, 1) := by decide +kernel
theorem d_M_init_114 : decode b_M_init 114 = .ok (.bipush 21, 2) := by decide +kernel
theorem d_M_init_116 : decode b_M_init 116 = .ok (.newarray .int, 2) := by decide +kernel
theorem d_M_init_118 : decode b_M_init 118 = .ok (.putfield 47, 3) := by decide +kernel
theorem d_M_init_121 : decode b_M_init 121 = .ok (.aload_n 0, 1) := by decide +kernel
theorem d_M_init_122 : decode b_M_init 122 = .ok (.bipush 21, 2) := by decide +kernel
theorem d_M_init_124 : decode b_M_init 124 = .ok (.newarray .int, 2) := by decide +kernel
theorem d_M_init_126 : decode b_M_init 126 = .ok (.putfield 50, 3) := by decide +kernel
theorem d_M_init_129 : decode b_M_init 129 = .ok (.aload_n 0, 1) := by decide +kernel
theorem d_M_init_130 : decode b_M_init 130 = .ok (.sipush 420, 3) := by decide +kernel
theorem d_M_init_133 : decode b_M_init 133 = .ok (.newarray .int, 2) := by decide +kernel
theorem d_M_init_135 : decode b_M_init 135 = .ok (.putfield 53, 3) := by decide +kernel
theorem d_M_init_138 : decode b_M_init 138 = .ok (.aload_n 0, 1) := by decide +kernel
theorem d_M_init_139 : decode b_M_init 139 = .ok (.sipush 2520, 3) := by decide +kernel
theorem d_M_init_142 : decode b_M_init 142 = .ok (.newarray .int, 2) := by decide +kernel
theorem d_M_init_144 : decode b_M_init 144 = .ok (.putfield 56, 3) := by decide +kernel
theorem d_M_init_147 : decode b_M_init 147 = .ok (.aload_n 0, 1) := by decide +kernel
theorem d_M_init_148 : decode b_M_init 148 = .ok (.sipush 2520, 3) := by decide +kernel
theorem d_M_init_151 : decode b_M_init 151 = .ok (.newarray .int, 2) := by decide +kernel
theorem d_M_init_153 : decode b_M_init 153 = .ok (.putfield 59, 3) := by decide +kernel
theorem d_M_init_156 : decode b_M_init 156 = .ok (.aload_n 0, 1) := by decide +kernel
theorem d_M_init_157 : decode b_M_init 157 = .ok (.sipush 2520, 3) := by decide +kernel
theorem d_M_init_160 : decode b_M_init 160 = .ok (.newarray .int, 2) := by decide +kernel
theorem d_M_init_162 : decode b_M_init 162 = .ok (.putfield 62, 3) := by decide +kernel
theorem d_M_init_165 : decode b_M_init 165 = .ok (.aload_n 0, 1) := by decide +kernel
theorem d_M_init_166 : decode b_M_init 166 = .ok (.sipush 2520, 3) := by decide +kernel
theorem d_M_init_169 : decode b_M_init 169 = .ok (.newarray .int, 2) := by decide +kernel
theorem d_M_init_171 : decode b_M_init 171 = .ok (.putfield 65, 3) := by decide +kernel
theorem d_M_init_174 : decode b_M_init 174 = .ok (.aload_n 0, 1) := by decide +kernel
theorem d_M_init_175 : decode b_M_init 175 = .ok (.sipush 2520, 3) := by decide +kernel
theorem d_M_init_178 : decode b_M_init 178 = .ok (.newarray .int, 2) := by decide +kernel
theorem d_M_init_180 : decode b_M_init 180 = .ok (.putfield 68, 3) := by decide +kernel
theorem d_M_init_183 : decode b_M_init 183 = .ok (.aload_n 0, 1) := by decide +kernel
theorem d_M_init_184 : decode b_M_init 184 = .ok (.bipush 20, 2) := by decide +kernel
theorem d_M_init_186 : decode b_M_init 186 = .ok (.newarray .boolean, 2) := by decide +kernel
theorem d_M_init_188 : decode b_M_init 188 = .ok (.putfield 71, 3) := by decide +kernel
theorem d_M_init_191 : decode b_M_init 191 = .ok (.return_, 1) := by decide +kernel
theorem d_M_thrown_0 : decode b_M_thrown 0 = .ok (.aload_n 0, 1) := by decide +kernel
theorem d_M_thrown_1 : decode b_M_thrown 1 = .ok (.getfield 74, 3) := by decide +kernel
theorem d_M_thrown_4 : decode b_M_thrown 4 = .ok (.ireturn, 1) := by decide +kernel
theorem d_M_in_0 : decode b_M_in 0 = .ok (.iload_n 0, 1) := by decide +kernel
theorem d_M_in_1 : decode b_M_in 1 = .ok (.iload_n 1, 1) := by decide +kernel
theorem d_M_in_2 : decode b_M_in 2 = .ok (.if_icmp .lt 12, 3) := by decide +kernel
theorem d_M_in_5 : decode b_M_in 5 = .ok (.iload_n 0, 1) := by decide +kernel
theorem d_M_in_6 : decode b_M_in 6 = .ok (.iload_n 2, 1) := by decide +kernel
theorem d_M_in_7 : decode b_M_in 7 = .ok (.if_icmp .gt 7, 3) := by decide +kernel
theorem d_M_in_10 : decode b_M_in 10 = .ok (.iconst 1, 1) := by decide +kernel
theorem d_M_in_11 : decode b_M_in 11 = .ok (.goto 4, 3) := by decide +kernel
theorem d_M_in_14 : decode b_M_in 14 = .ok (.iconst 0, 1) := by decide +kernel
theorem d_M_in_15 : decode b_M_in 15 = .ok (.ireturn, 1) := by decide +kernel
theorem d_M_isPlace_0 : decode b_M_isPlace 0 = .ok (.iload_n 1, 1) := by decide +kernel
theorem d_M_isPlace_1 : decode b_M_isPlace 1 = .ok (.iconst 0, 1) := by decide +kernel
theorem d_M_isPlace_2 : decode b_M_isPlace 2 = .ok (.aload_n 0, 1) := by decide +kernel
theorem d_M_isPlace_3 : decode b_M_isPlace 3 = .ok (.getfield 78, 3) := by decide +kernel
theorem d_M_isPlace_6 : decode b_M_isPlace 6 = .ok (.iconst 1, 1) := by decide +kernel
theorem d_M_isPlace_7 : decode b_M_isPlace 7 = .ok (.isub, 1) := by decide +kernel
theorem d_M_isPlace_8 : decode b_M_isPlace 8 = .ok (.invokestatic 81, 3) := by decide +kernel
theorem d_M_isPlace_11 : decode b_M_isPlace 11 = .ok (.ireturn, 1) := by decide +kernel
theorem d_M_isGood_0 : decode b_M_isGood 0 = .ok (.iload_n 0, 1) := by decide +kernel
theorem d_M_isGood_1 : decode b_M_isGood 1 = .ok (.iconst 0, 1) := by decide +kernel
theorem d_M_isGood_2 : decode b_M_isGood 2 = .ok (.iconst 5, 1) := by decide +kernel
theorem d_M_isGood_3 : decode b_M_isGood 3 = .ok (.invokestatic 81, 3) := by decide +kernel
theorem d_M_isGood_6 : decode b_M_isGood 6 = .ok (.ireturn, 1) := by decide +kernel
theorem d_M_isPerson_0 : decode b_M_isPerson 0 = .ok (.iload_n 0, 1) := by decide +kernel
theorem d_M_isPerson_1 : decode b_M_isPerson 1 = .ok (.iconst 0, 1) := by decide +kernel
theorem d_M_isPerson_2 : decode b_M_isPerson 2 = .ok (.iconst 5, 1) := by decide +kernel
theorem d_M_isPerson_3 : decode b_M_isPerson 3 = .ok (.invokestatic 81, 3) := by decide +kernel
theorem d_M_isPerson_6 : decode b_M_isPerson 6 = .ok (.ireturn, 1) := by decide +kernel
theorem d_M_isCount_0 : decode b_M_isCount 0 = .ok (.iload_n 1, 1) := by decide +kernel
theorem d_M_isCount_1 : decode b_M_isCount 1 = .ok (.iconst 1, 1) := by decide +kernel
theorem d_M_isCount_2 : decode b_M_isCount 2 = .ok (.aload_n 0, 1) := by decide +kernel
theorem d_M_isCount_3 : decode b_M_isCount 3 = .ok (.getfield 85, 3) := by decide +kernel
theorem d_M_isCount_6 : decode b_M_isCount 6 = .ok (.invokestatic 81, 3) := by decide +kernel
theorem d_M_isCount_9 : decode b_M_isCount 9 = .ok (.ireturn, 1) := by decide +kernel
theorem d_M_place_0 : decode b_M_place 0 = .ok (.aload_n 0, 1) := by decide +kernel
theorem d_M_place_1 : decode b_M_place 1 = .ok (.iload_n 1, 1) := by decide +kernel
theorem d_M_place_2 : decode b_M_place 2 = .ok (.iconst 0, 1) := by decide +kernel
theorem d_M_place_3 : decode b_M_place 3 = .ok (.iconst 2, 1) := by decide +kernel
theorem d_M_place_4 : decode b_M_place 4 = .ok (.invokestatic 81, 3) := by decide +kernel
theorem d_M_place_7 : decode b_M_place 7 = .ok (.ifCond .ne 7, 3) := by decide +kernel
theorem d_M_place_10 : decode b_M_place 10 = .ok (.iconst 1, 1) := by decide +kernel
theorem d_M_place_11 : decode b_M_place 11 = .ok (.goto 17, 3) := by decide +kernel
theorem d_M_place_14 : decode b_M_place 14 = .ok (.aload_n 0, 1) := by decide +kernel
theorem d_M_place_15 : decode b_M_place 15 = .ok (.getfield 78, 3) := by decide +kernel
theorem d_M_place_18 : decode b_M_place 18 = .ok (.bipush 20, 2) := by decide +kernel
theorem d_M_place_20 : decode b_M_place 20 = .ok (.if_icmp .ne 7, 3) := by decide +kernel
theorem d_M_place_23 : decode b_M_place 23 = .ok (.iconst 2, 1) := by decide +kernel
theorem d_M_place_24 : decode b_M_place 24 = .ok (.goto 4, 3) := by decide +kernel
theorem d_M_place_27 : decode b_M_place 27 = .ok (.iconst 0, 1) := by decide +kernel
theorem d_M_place_28 : decode b_M_place 28 = .ok (.putfield 74, 3) := by decide +kernel
theorem d_M_place_31 : decode b_M_place 31 = .ok (.aload_n 0, 1) := by decide +kernel
theorem d_M_place_32 : decode b_M_place 32 = .ok (.getfield 74, 3) := by decide +kernel
theorem d_M_place_35 : decode b_M_place 35 = .ok (.ifCond .le 5, 3) := by decide +kernel
theorem d_M_place_38 : decode b_M_place 38 = .ok (.iconst 0, 1) := by decide +kernel
theorem d_M_place_39 : decode b_M_place 39 = .ok (.ireturn, 1) := by decide +kernel
theorem d_M_place_40 : decode b_M_place 40 = .ok (.aload_n 0, 1) := by decide +kernel
theorem d_M_place_41 : decode b_M_place 41 = .ok (.getfield 7, 3) := by decide +kernel
theorem d_M_place_44 : decode b_M_place 44 = .ok (.aload_n 0, 1) := by decide +kernel
theorem d_M_place_45 : decode b_M_place 45 = .ok (.getfield 78, 3) := by decide +kernel
theorem d_M_place_48 : decode b_M_place 48 = .ok (.iload_n 1, 1) := by decide +kernel
theorem d_M_place_49 : decode b_M_place 49 = .ok (.iastore, 1) := by decide +kernel
theorem d_M_place_50 : decode b_M_place 50 = .ok (.aload_n 0, 1) := by decide +kernel
theorem d_M_place_51 : decode b_M_place 51 = .ok (.getfield 13, 3) := by decide +kernel
theorem d_M_place_54 : decode b_M_place 54 = .ok (.aload_n 0, 1) := by decide +kernel
theorem d_M_place_55 : decode b_M_place 55 = .ok (.getfield 78, 3) := by decide +kernel
theorem d_M_place_58 : decode b_M_place 58 = .ok (.iconst (-1), 1) := by decide +kernel
theorem d_M_place_59 : decode b_M_place 59 = .ok (.iastore, 1) := by decide +kernel
theorem d_M_place_60 : decode b_M_place 60 = .ok (.aload_n 0, 1) := by decide +kernel
theorem d_M_place_61 : decode b_M_place 61 = .ok (.dup, 1) := by decide +kernel
theorem d_M_place_62 : decode b_M_place 62 = .ok (.getfield 78, 3) := by decide +kernel
theorem d_M_place_65 : decode b_M_place 65 = .ok (.iconst 1, 1) := by decide +kernel
theorem d_M_place_66 : decode b_M_place 66 = .ok (.iadd, 1) := by decide +kernel
theorem d_M_place_67 : decode b_M_place 67 = .ok (.putfield 78, 3) := by decide +kernel
theorem d_M_place_70 : decode b_M_place 70 = .ok (.aload_n 0, 1) := by decide +kernel
theorem d_M_place_71 : decode b_M_place 71 = .ok (.getfield 78, 3) := by decide +kernel
theorem d_M_place_74 : decode b_M_place 74 = .ok (.iconst 1, 1) := by decide +kernel
theorem d_M_place_75 : decode b_M_place 75 = .ok (.isub, 1) := by decide +kernel
theorem d_M_place_76 : decode b_M_place 76 = .ok (.ireturn, 1) := by decide +kernel
theorem d_M_stock_0 : decode b_M_stock 0 = .ok (.aload_n 0, 1) := by decide +kernel
theorem d_M_stock_1 : decode b_M_stock 1 = .ok (.aload_n 0, 1) := by decide +kernel
theorem d_M_stock_2 : decode b_M_stock 2 = .ok (.iload_n 1, 1) := by decide +kernel
theorem d_M_stock_3 : decode b_M_stock 3 = .ok (.invokevirtual 88, 3) := by decide +kernel
theorem d_M_stock_6 : decode b_M_stock 6 = .ok (.ifCond .ne 7, 3) := by decide +kernel
theorem d_M_stock_9 : decode b_M_stock 9 = .ok (.iconst 1, 1) := by decide +kernel
theorem d_M_stock_10 : decode b_M_stock 10 = .ok (.goto 25, 3) := by decide +kernel
theorem d_M_stock_13 : decode b_M_stock 13 = .ok (.iload_n 2, 1) := by decide +kernel
theorem d_M_stock_14 : decode b_M_stock 14 = .ok (.invokestatic 92, 3) := by decide +kernel
theorem d_M_stock_17 : decode b_M_stock 17 = .ok (.ifCond .eq 13, 3) := by decide +kernel
theorem d_M_stock_20 : decode b_M_stock 20 = .ok (.iload_n 3, 1) := by decide +kernel
theorem d_M_stock_21 : decode b_M_stock 21 = .ok (.iconst 0, 1) := by decide +kernel
theorem d_M_stock_22 : decode b_M_stock 22 = .ok (.ldc 95, 2) := by decide +kernel
theorem d_M_stock_24 : decode b_M_stock 24 = .ok (.invokestatic 81, 3) := by decide +kernel
theorem d_M_stock_27 : decode b_M_stock 27 = .ok (.ifCond .ne 7, 3) := by decide +kernel
theorem d_M_stock_30 : decode b_M_stock 30 = .ok (.iconst 2, 1) := by decide +kernel
theorem d_M_stock_31 : decode b_M_stock 31 = .ok (.goto 4, 3) := by decide +kernel
theorem d_M_stock_34 : decode b_M_stock 34 = .ok (.iconst 0, 1) := by decide +kernel
theorem d_M_stock_35 : decode b_M_stock 35 = .ok (.putfield 74, 3) := by decide +kernel
theorem d_M_stock_38 : decode b_M_stock 38 = .ok (.aload_n 0, 1) := by decide +kernel
theorem d_M_stock_39 : decode b_M_stock 39 = .ok (.getfield 74, 3) := by decide +kernel
theorem d_M_stock_42 : decode b_M_stock 42 = .ok (.ifCond .ne 15, 3) := by decide +kernel
theorem d_M_stock_45 : decode b_M_stock 45 = .ok (.aload_n 0, 1) := by decide +kernel
theorem d_M_stock_46 : decode b_M_stock 46 = .ok (.getfield 16, 3) := by decide +kernel
theorem d_M_stock_49 : decode b_M_stock 49 = .ok (.bipush 6, 2) := by decide +kernel
theorem d_M_stock_51 : decode b_M_stock 51 = .ok (.iload_n 1, 1) := by decide +kernel
theorem d_M_stock_52 : decode b_M_stock 52 = .ok (.imul, 1) := by decide +kernel
theorem d_M_stock_53 : decode b_M_stock 53 = .ok (.iload_n 2, 1) := by decide +kernel
theorem d_M_stock_54 : decode b_M_stock 54 = .ok (.iadd, 1) := by decide +kernel
theorem d_M_stock_55 : decode b_M_stock 55 = .ok (.iload_n 3, 1) := by decide +kernel
theorem d_M_stock_56 : decode b_M_stock 56 = .ok (.iastore, 1) := by decide +kernel
theorem d_M_stock_57 : decode b_M_stock 57 = .ok (.return_, 1) := by decide +kernel
theorem d_M_cycle_0 : decode b_M_cycle 0 = .ok (.aload_n 0, 1) := by decide +kernel
theorem d_M_cycle_1 : decode b_M_cycle 1 = .ok (.iload_n 1, 1) := by decide +kernel
theorem d_M_cycle_2 : decode b_M_cycle 2 = .ok (.iconst 0, 1) := by decide +kernel
theorem d_M_cycle_3 : decode b_M_cycle 3 = .ok (.iconst 2, 1) := by decide +kernel
theorem d_M_cycle_4 : decode b_M_cycle 4 = .ok (.invokestatic 81, 3) := by decide +kernel
theorem d_M_cycle_7 : decode b_M_cycle 7 = .ok (.ifCond .eq 25, 3) := by decide +kernel
theorem d_M_cycle_10 : decode b_M_cycle 10 = .ok (.iload_n 2, 1) := by decide +kernel
theorem d_M_cycle_11 : decode b_M_cycle 11 = .ok (.iconst 1, 1) := by decide +kernel
theorem d_M_cycle_12 : decode b_M_cycle 12 = .ok (.sipush 1000, 3) := by decide +kernel
theorem d_M_cycle_15 : decode b_M_cycle 15 = .ok (.invokestatic 81, 3) := by decide +kernel
theorem d_M_cycle_18 : decode b_M_cycle 18 = .ok (.ifCond .eq 14, 3) := by decide +kernel
theorem d_M_cycle_21 : decode b_M_cycle 21 = .ok (.iload_n 3, 1) := by decide +kernel
theorem d_M_cycle_22 : decode b_M_cycle 22 = .ok (.iconst 0, 1) := by decide +kernel
theorem d_M_cycle_23 : decode b_M_cycle 23 = .ok (.sipush 1000, 3) := by decide +kernel
theorem d_M_cycle_26 : decode b_M_cycle 26 = .ok (.invokestatic 81, 3) := by decide +kernel
theorem d_M_cycle_29 : decode b_M_cycle 29 = .ok (.ifCond .ne 7, 3) := by decide +kernel
theorem d_M_cycle_32 : decode b_M_cycle 32 = .ok (.iconst 1, 1) := by decide +kernel
theorem d_M_cycle_33 : decode b_M_cycle 33 = .ok (.goto 4, 3) := by decide +kernel
theorem d_M_cycle_36 : decode b_M_cycle 36 = .ok (.iconst 0, 1) := by decide +kernel
theorem d_M_cycle_37 : decode b_M_cycle 37 = .ok (.putfield 74, 3) := by decide +kernel
theorem d_M_cycle_40 : decode b_M_cycle 40 = .ok (.aload_n 0, 1) := by decide +kernel
theorem d_M_cycle_41 : decode b_M_cycle 41 = .ok (.getfield 74, 3) := by decide +kernel
theorem d_M_cycle_44 : decode b_M_cycle 44 = .ok (.ifCond .le 4, 3) := by decide +kernel
theorem d_M_cycle_47 : decode b_M_cycle 47 = .ok (.return_, 1) := by decide +kernel
theorem d_M_cycle_48 : decode b_M_cycle 48 = .ok (.aload_n 0, 1) := by decide +kernel
theorem d_M_cycle_49 : decode b_M_cycle 49 = .ok (.getfield 19, 3) := by decide +kernel
theorem d_M_cycle_52 : decode b_M_cycle 52 = .ok (.iload_n 1, 1) := by decide +kernel
theorem d_M_cycle_53 : decode b_M_cycle 53 = .ok (.iload_n 2, 1) := by decide +kernel
theorem d_M_cycle_54 : decode b_M_cycle 54 = .ok (.iastore, 1) := by decide +kernel
theorem d_M_cycle_55 : decode b_M_cycle 55 = .ok (.aload_n 0, 1) := by decide +kernel
theorem d_M_cycle_56 : decode b_M_cycle 56 = .ok (.getfield 22, 3) := by decide +kernel
theorem d_M_cycle_59 : decode b_M_cycle 59 = .ok (.iload_n 1, 1) := by decide +kernel
theorem d_M_cycle_60 : decode b_M_cycle 60 = .ok (.iload_n 3, 1) := by decide +kernel
theorem d_M_cycle_61 : decode b_M_cycle 61 = .ok (.iastore, 1) := by decide +kernel
theorem d_M_cycle_62 : decode b_M_cycle 62 = .ok (.return_, 1) := by decide +kernel
theorem d_M_right_0 : decode b_M_right 0 = .ok (.aload_n 0, 1) := by decide +kernel
theorem d_M_right_1 : decode b_M_right 1 = .ok (.iload_n 1, 1) := by decide +kernel
theorem d_M_right_2 : decode b_M_right 2 = .ok (.invokestatic 96, 3) := by decide +kernel
theorem d_M_right_5 : decode b_M_right 5 = .ok (.ifCond .eq 13, 3) := by decide +kernel
theorem d_M_right_8 : decode b_M_right 8 = .ok (.iload_n 2, 1) := by decide +kernel
theorem d_M_right_9 : decode b_M_right 9 = .ok (.iconst 0, 1) := by decide +kernel
theorem d_M_right_10 : decode b_M_right 10 = .ok (.ldc 95, 2) := by decide +kernel
theorem d_M_right_12 : decode b_M_right 12 = .ok (.invokestatic 81, 3) := by decide +kernel
theorem d_M_right_15 : decode b_M_right 15 = .ok (.ifCond .ne 7, 3) := by decide +kernel
theorem d_M_right_18 : decode b_M_right 18 = .ok (.iconst 1, 1) := by decide +kernel
theorem d_M_right_19 : decode b_M_right 19 = .ok (.goto 4, 3) := by decide +kernel
theorem d_M_right_22 : decode b_M_right 22 = .ok (.iconst 0, 1) := by decide +kernel
theorem d_M_right_23 : decode b_M_right 23 = .ok (.putfield 74, 3) := by decide +kernel
theorem d_M_right_26 : decode b_M_right 26 = .ok (.aload_n 0, 1) := by decide +kernel
theorem d_M_right_27 : decode b_M_right 27 = .ok (.getfield 74, 3) := by decide +kernel
theorem d_M_right_30 : decode b_M_right 30 = .ok (.ifCond .ne 10, 3) := by decide +kernel
theorem d_M_right_33 : decode b_M_right 33 = .ok (.aload_n 0, 1) := by decide +kernel
theorem d_M_right_34 : decode b_M_right 34 = .ok (.getfield 25, 3) := by decide +kernel
theorem d_M_right_37 : decode b_M_right 37 = .ok (.iload_n 1, 1) := by decide +kernel
theorem d_M_right_38 : decode b_M_right 38 = .ok (.iload_n 2, 1) := by decide +kernel
theorem d_M_right_39 : decode b_M_right 39 = .ok (.iastore, 1) := by decide +kernel
theorem d_M_right_40 : decode b_M_right 40 = .ok (.return_, 1) := by decide +kernel
theorem d_M_setting_0 : decode b_M_setting 0 = .ok (.aload_n 0, 1) := by decide +kernel
theorem d_M_setting_1 : decode b_M_setting 1 = .ok (.iload_n 1, 1) := by decide +kernel
theorem d_M_setting_2 : decode b_M_setting 2 = .ok (.iconst 0, 1) := by decide +kernel
theorem d_M_setting_3 : decode b_M_setting 3 = .ok (.iconst 1, 1) := by decide +kernel
theorem d_M_setting_4 : decode b_M_setting 4 = .ok (.invokestatic 81, 3) := by decide +kernel
theorem d_M_setting_7 : decode b_M_setting 7 = .ok (.ifCond .eq 7, 3) := by decide +kernel
theorem d_M_setting_10 : decode b_M_setting 10 = .ok (.iconst 0, 1) := by decide +kernel
theorem d_M_setting_11 : decode b_M_setting 11 = .ok (.goto 4, 3) := by decide +kernel
theorem d_M_setting_14 : decode b_M_setting 14 = .ok (.iconst 1, 1) := by decide +kernel
theorem d_M_setting_15 : decode b_M_setting 15 = .ok (.putfield 74, 3) := by decide +kernel
theorem d_M_setting_18 : decode b_M_setting 18 = .ok (.aload_n 0, 1) := by decide +kernel
theorem d_M_setting_19 : decode b_M_setting 19 = .ok (.getfield 74, 3) := by decide +kernel
theorem d_M_setting_22 : decode b_M_setting 22 = .ok (.ifCond .ne 8, 3) := by decide +kernel
theorem d_M_setting_25 : decode b_M_setting 25 = .ok (.aload_n 0, 1) := by decide +kernel
theorem d_M_setting_26 : decode b_M_setting 26 = .ok (.iload_n 1, 1) := by decide +kernel
theorem d_M_setting_27 : decode b_M_setting 27 = .ok (.putfield 99, 3) := by decide +kernel
theorem d_M_setting_30 : decode b_M_setting 30 = .ok (.return_, 1) := by decide +kernel
theorem d_M_day_0 : decode b_M_day 0 = .ok (.aload_n 0, 1) := by decide +kernel
theorem d_M_day_1 : decode b_M_day 1 = .ok (.iload_n 1, 1) := by decide +kernel
theorem d_M_day_2 : decode b_M_day 2 = .ok (.iconst 0, 1) := by decide +kernel
theorem d_M_day_3 : decode b_M_day 3 = .ok (.sipush 10000, 3) := by decide +kernel
theorem d_M_day_6 : decode b_M_day 6 = .ok (.invokestatic 81, 3) := by decide +kernel
theorem d_M_day_9 : decode b_M_day 9 = .ok (.ifCond .ne 7, 3) := by decide +kernel
theorem d_M_day_12 : decode b_M_day 12 = .ok (.iconst 1, 1) := by decide +kernel
theorem d_M_day_13 : decode b_M_day 13 = .ok (.goto 16, 3) := by decide +kernel
theorem d_M_day_16 : decode b_M_day 16 = .ok (.iload_n 1, 1) := by decide +kernel
theorem d_M_day_17 : decode b_M_day 17 = .ok (.aload_n 0, 1) := by decide +kernel
theorem d_M_day_18 : decode b_M_day 18 = .ok (.getfield 102, 3) := by decide +kernel
theorem d_M_day_21 : decode b_M_day 21 = .ok (.if_icmp .ge 7, 3) := by decide +kernel
theorem d_M_day_24 : decode b_M_day 24 = .ok (.iconst 2, 1) := by decide +kernel
theorem d_M_day_25 : decode b_M_day 25 = .ok (.goto 4, 3) := by decide +kernel
theorem d_M_day_28 : decode b_M_day 28 = .ok (.iconst 0, 1) := by decide +kernel
theorem d_M_day_29 : decode b_M_day 29 = .ok (.putfield 74, 3) := by decide +kernel
theorem d_M_day_32 : decode b_M_day 32 = .ok (.aload_n 0, 1) := by decide +kernel
theorem d_M_day_33 : decode b_M_day 33 = .ok (.getfield 74, 3) := by decide +kernel
theorem d_M_day_36 : decode b_M_day 36 = .ok (.ifCond .ne 8, 3) := by decide +kernel
theorem d_M_day_39 : decode b_M_day 39 = .ok (.aload_n 0, 1) := by decide +kernel
theorem d_M_day_40 : decode b_M_day 40 = .ok (.iload_n 1, 1) := by decide +kernel
theorem d_M_day_41 : decode b_M_day 41 = .ok (.putfield 102, 3) := by decide +kernel
theorem d_M_day_44 : decode b_M_day 44 = .ok (.return_, 1) := by decide +kernel
theorem d_M_move_0 : decode b_M_move 0 = .ok (.aload_n 0, 1) := by decide +kernel
theorem d_M_move_1 : decode b_M_move 1 = .ok (.aload_n 0, 1) := by decide +kernel
theorem d_M_move_2 : decode b_M_move 2 = .ok (.iload_n 1, 1) := by decide +kernel
theorem d_M_move_3 : decode b_M_move 3 = .ok (.invokevirtual 88, 3) := by decide +kernel
theorem d_M_move_6 : decode b_M_move 6 = .ok (.ifCond .eq 11, 3) := by decide +kernel
theorem d_M_move_9 : decode b_M_move 9 = .ok (.aload_n 0, 1) := by decide +kernel
theorem d_M_move_10 : decode b_M_move 10 = .ok (.iload_n 2, 1) := by decide +kernel
theorem d_M_move_11 : decode b_M_move 11 = .ok (.invokevirtual 88, 3) := by decide +kernel
theorem d_M_move_14 : decode b_M_move 14 = .ok (.ifCond .ne 7, 3) := by decide +kernel
theorem d_M_move_17 : decode b_M_move 17 = .ok (.iconst 1, 1) := by decide +kernel
theorem d_M_move_18 : decode b_M_move 18 = .ok (.goto 31, 3) := by decide +kernel
theorem d_M_move_21 : decode b_M_move 21 = .ok (.iload_n 3, 1) := by decide +kernel
theorem d_M_move_22 : decode b_M_move 22 = .ok (.invokestatic 92, 3) := by decide +kernel
theorem d_M_move_25 : decode b_M_move 25 = .ok (.ifCond .eq 19, 3) := by decide +kernel
theorem d_M_move_28 : decode b_M_move 28 = .ok (.iload 4, 2) := by decide +kernel
theorem d_M_move_30 : decode b_M_move 30 = .ok (.iconst 1, 1) := by decide +kernel
theorem d_M_move_31 : decode b_M_move 31 = .ok (.ldc 95, 2) := by decide +kernel
theorem d_M_move_33 : decode b_M_move 33 = .ok (.invokestatic 81, 3) := by decide +kernel
theorem d_M_move_36 : decode b_M_move 36 = .ok (.ifCond .eq 8, 3) := by decide +kernel
theorem d_M_move_39 : decode b_M_move 39 = .ok (.iload_n 1, 1) := by decide +kernel
theorem d_M_move_40 : decode b_M_move 40 = .ok (.iload_n 2, 1) := by decide +kernel
theorem d_M_move_41 : decode b_M_move 41 = .ok (.if_icmp .ne 7, 3) := by decide +kernel
theorem d_M_move_44 : decode b_M_move 44 = .ok (.iconst 2, 1) := by decide +kernel
theorem d_M_move_45 : decode b_M_move 45 = .ok (.goto 4, 3) := by decide +kernel
theorem d_M_move_48 : decode b_M_move 48 = .ok (.iconst 0, 1) := by decide +kernel
theorem d_M_move_49 : decode b_M_move 49 = .ok (.putfield 74, 3) := by decide +kernel
theorem d_M_move_52 : decode b_M_move 52 = .ok (.aload_n 0, 1) := by decide +kernel
theorem d_M_move_53 : decode b_M_move 53 = .ok (.getfield 74, 3) := by decide +kernel
theorem d_M_move_56 : decode b_M_move 56 = .ok (.ifCond .ne 41, 3) := by decide +kernel
theorem d_M_move_59 : decode b_M_move 59 = .ok (.aload_n 0, 1) := by decide +kernel
theorem d_M_move_60 : decode b_M_move 60 = .ok (.aload_n 0, 1) := by decide +kernel
theorem d_M_move_61 : decode b_M_move 61 = .ok (.getfield 16, 3) := by decide +kernel
theorem d_M_move_64 : decode b_M_move 64 = .ok (.bipush 6, 2) := by decide +kernel
theorem d_M_move_66 : decode b_M_move 66 = .ok (.iload_n 1, 1) := by decide +kernel
theorem d_M_move_67 : decode b_M_move 67 = .ok (.imul, 1) := by decide +kernel
theorem d_M_move_68 : decode b_M_move 68 = .ok (.iload_n 3, 1) := by decide +kernel
theorem d_M_move_69 : decode b_M_move 69 = .ok (.iadd, 1) := by decide +kernel
theorem d_M_move_70 : decode b_M_move 70 = .ok (.iaload, 1) := by decide +kernel
theorem d_M_move_71 : decode b_M_move 71 = .ok (.iload 4, 2) := by decide +kernel
theorem d_M_move_73 : decode b_M_move 73 = .ok (.if_icmp .ge 7, 3) := by decide +kernel
theorem d_M_move_76 : decode b_M_move 76 = .ok (.iconst 3, 1) := by decide +kernel
theorem d_M_move_77 : decode b_M_move 77 = .ok (.goto 17, 3) := by decide +kernel
theorem d_M_move_80 : decode b_M_move 80 = .ok (.aload_n 0, 1) := by decide +kernel
theorem d_M_move_81 : decode b_M_move 81 = .ok (.getfield 105, 3) := by decide +kernel
theorem d_M_move_84 : decode b_M_move 84 = .ok (.bipush 60, 2) := by decide +kernel
theorem d_M_move_86 : decode b_M_move 86 = .ok (.if_icmp .ne 7, 3) := by decide +kernel
theorem d_M_move_89 : decode b_M_move 89 = .ok (.iconst 4, 1) := by decide +kernel
theorem d_M_move_90 : decode b_M_move 90 = .ok (.goto 4, 3) := by decide +kernel
theorem d_M_move_93 : decode b_M_move 93 = .ok (.iconst 0, 1) := by decide +kernel
theorem d_M_move_94 : decode b_M_move 94 = .ok (.putfield 74, 3) := by decide +kernel
theorem d_M_move_97 : decode b_M_move 97 = .ok (.aload_n 0, 1) := by decide +kernel
theorem d_M_move_98 : decode b_M_move 98 = .ok (.getfield 74, 3) := by decide +kernel
theorem d_M_move_101 : decode b_M_move 101 = .ok (.ifCond .le 5, 3) := by decide +kernel
theorem d_M_move_104 : decode b_M_move 104 = .ok (.iconst 0, 1) := by decide +kernel
theorem d_M_move_105 : decode b_M_move 105 = .ok (.ireturn, 1) := by decide +kernel
theorem d_M_move_106 : decode b_M_move 106 = .ok (.aload_n 0, 1) := by decide +kernel
theorem d_M_move_107 : decode b_M_move 107 = .ok (.getfield 16, 3) := by decide +kernel
theorem d_M_move_110 : decode b_M_move 110 = .ok (.bipush 6, 2) := by decide +kernel
theorem d_M_move_112 : decode b_M_move 112 = .ok (.iload_n 1, 1) := by decide +kernel
theorem d_M_move_113 : decode b_M_move 113 = .ok (.imul, 1) := by decide +kernel
theorem d_M_move_114 : decode b_M_move 114 = .ok (.iload_n 3, 1) := by decide +kernel
theorem d_M_move_115 : decode b_M_move 115 = .ok (.iadd, 1) := by decide +kernel
theorem d_M_move_116 : decode b_M_move 116 = .ok (.dup2, 1) := by decide +kernel
theorem d_M_move_117 : decode b_M_move 117 = .ok (.iaload, 1) := by decide +kernel
theorem d_M_move_118 : decode b_M_move 118 = .ok (.iload 4, 2) := by decide +kernel
theorem d_M_move_120 : decode b_M_move 120 = .ok (.isub, 1) := by decide +kernel
theorem d_M_move_121 : decode b_M_move 121 = .ok (.iastore, 1) := by decide +kernel
theorem d_M_move_122 : decode b_M_move 122 = .ok (.aload_n 0, 1) := by decide +kernel
theorem d_M_move_123 : decode b_M_move 123 = .ok (.dup, 1) := by decide +kernel
theorem d_M_move_124 : decode b_M_move 124 = .ok (.getfield 105, 3) := by decide +kernel
theorem d_M_move_127 : decode b_M_move 127 = .ok (.iconst 1, 1) := by decide +kernel
theorem d_M_move_128 : decode b_M_move 128 = .ok (.iadd, 1) := by decide +kernel
theorem d_M_move_129 : decode b_M_move 129 = .ok (.putfield 105, 3) := by decide +kernel
theorem d_M_move_132 : decode b_M_move 132 = .ok (.aload_n 0, 1) := by decide +kernel
theorem d_M_move_133 : decode b_M_move 133 = .ok (.getfield 28, 3) := by decide +kernel
theorem d_M_move_136 : decode b_M_move 136 = .ok (.aload_n 0, 1) := by decide +kernel
theorem d_M_move_137 : decode b_M_move 137 = .ok (.getfield 105, 3) := by decide +kernel
theorem d_M_move_140 : decode b_M_move 140 = .ok (.iload_n 1, 1) := by decide +kernel
theorem d_M_move_141 : decode b_M_move 141 = .ok (.iastore, 1) := by decide +kernel
theorem d_M_move_142 : decode b_M_move 142 = .ok (.aload_n 0, 1) := by decide +kernel
theorem d_M_move_143 : decode b_M_move 143 = .ok (.getfield 31, 3) := by decide +kernel
theorem d_M_move_146 : decode b_M_move 146 = .ok (.aload_n 0, 1) := by decide +kernel
theorem d_M_move_147 : decode b_M_move 147 = .ok (.getfield 105, 3) := by decide +kernel
theorem d_M_move_150 : decode b_M_move 150 = .ok (.iload_n 2, 1) := by decide +kernel
theorem d_M_move_151 : decode b_M_move 151 = .ok (.iastore, 1) := by decide +kernel
theorem d_M_move_152 : decode b_M_move 152 = .ok (.aload_n 0, 1) := by decide +kernel
theorem d_M_move_153 : decode b_M_move 153 = .ok (.getfield 34, 3) := by decide +kernel
theorem d_M_move_156 : decode b_M_move 156 = .ok (.aload_n 0, 1) := by decide +kernel
theorem d_M_move_157 : decode b_M_move 157 = .ok (.getfield 105, 3) := by decide +kernel
theorem d_M_move_160 : decode b_M_move 160 = .ok (.iload_n 3, 1) := by decide +kernel
theorem d_M_move_161 : decode b_M_move 161 = .ok (.iastore, 1) := by decide +kernel
theorem d_M_move_162 : decode b_M_move 162 = .ok (.aload_n 0, 1) := by decide +kernel
theorem d_M_move_163 : decode b_M_move 163 = .ok (.getfield 37, 3) := by decide +kernel
theorem d_M_move_166 : decode b_M_move 166 = .ok (.aload_n 0, 1) := by decide +kernel
theorem d_M_move_167 : decode b_M_move 167 = .ok (.getfield 105, 3) := by decide +kernel
theorem d_M_move_170 : decode b_M_move 170 = .ok (.iload 4, 2) := by decide +kernel
theorem d_M_move_172 : decode b_M_move 172 = .ok (.iastore, 1) := by decide +kernel
theorem d_M_move_173 : decode b_M_move 173 = .ok (.aload_n 0, 1) := by decide +kernel
theorem d_M_move_174 : decode b_M_move 174 = .ok (.getfield 105, 3) := by decide +kernel
theorem d_M_move_177 : decode b_M_move 177 = .ok (.ireturn, 1) := by decide +kernel
theorem d_M_end_0 : decode b_M_end 0 = .ok (.aload_n 0, 1) := by decide +kernel
theorem d_M_end_1 : decode b_M_end 1 = .ok (.iload_n 1, 1) := by decide +kernel
theorem d_M_end_2 : decode b_M_end 2 = .ok (.iconst 1, 1) := by decide +kernel
theorem d_M_end_3 : decode b_M_end 3 = .ok (.aload_n 0, 1) := by decide +kernel
theorem d_M_end_4 : decode b_M_end 4 = .ok (.getfield 105, 3) := by decide +kernel
theorem d_M_end_7 : decode b_M_end 7 = .ok (.invokestatic 81, 3) := by decide +kernel
theorem d_M_end_10 : decode b_M_end 10 = .ok (.ifCond .ne 7, 3) := by decide +kernel
theorem d_M_end_13 : decode b_M_end 13 = .ok (.iconst 1, 1) := by decide +kernel
theorem d_M_end_14 : decode b_M_end 14 = .ok (.goto 4, 3) := by decide +kernel
theorem d_M_end_17 : decode b_M_end 17 = .ok (.iconst 0, 1) := by decide +kernel
theorem d_M_end_18 : decode b_M_end 18 = .ok (.putfield 74, 3) := by decide +kernel
theorem d_M_end_21 : decode b_M_end 21 = .ok (.aload_n 0, 1) := by decide +kernel
theorem d_M_end_22 : decode b_M_end 22 = .ok (.getfield 74, 3) := by decide +kernel
theorem d_M_end_25 : decode b_M_end 25 = .ok (.ifCond .le 4, 3) := by decide +kernel
theorem d_M_end_28 : decode b_M_end 28 = .ok (.return_, 1) := by decide +kernel
theorem d_M_end_29 : decode b_M_end 29 = .ok (.bipush 6, 2) := by decide +kernel
theorem d_M_end_31 : decode b_M_end 31 = .ok (.aload_n 0, 1) := by decide +kernel
theorem d_M_end_32 : decode b_M_end 32 = .ok (.getfield 31, 3) := by decide +kernel
theorem d_M_end_35 : decode b_M_end 35 = .ok (.iload_n 1, 1) := by decide +kernel
theorem d_M_end_36 : decode b_M_end 36 = .ok (.iaload, 1) := by decide +kernel
theorem d_M_end_37 : decode b_M_end 37 = .ok (.imul, 1) := by decide +kernel
theorem d_M_end_38 : decode b_M_end 38 = .ok (.aload_n 0, 1) := by decide +kernel
theorem d_M_end_39 : decode b_M_end 39 = .ok (.getfield 34, 3) := by decide +kernel
theorem d_M_end_42 : decode b_M_end 42 = .ok (.iload_n 1, 1) := by decide +kernel
theorem d_M_end_43 : decode b_M_end 43 = .ok (.iaload, 1) := by decide +kernel
theorem d_M_end_44 : decode b_M_end 44 = .ok (.iadd, 1) := by decide +kernel
theorem d_M_end_45 : decode b_M_end 45 = .ok (.istore_n 2, 1) := by decide +kernel
theorem d_M_end_46 : decode b_M_end 46 = .ok (.aload_n 0, 1) := by decide +kernel
theorem d_M_end_47 : decode b_M_end 47 = .ok (.aload_n 0, 1) := by decide +kernel
theorem d_M_end_48 : decode b_M_end 48 = .ok (.getfield 40, 3) := by decide +kernel
theorem d_M_end_51 : decode b_M_end 51 = .ok (.iload_n 1, 1) := by decide +kernel
theorem d_M_end_52 : decode b_M_end 52 = .ok (.baload, 1) := by decide +kernel
theorem d_M_end_53 : decode b_M_end 53 = .ok (.ifCond .ne 21, 3) := by decide +kernel
theorem d_M_end_56 : decode b_M_end 56 = .ok (.aload_n 0, 1) := by decide +kernel
theorem d_M_end_57 : decode b_M_end 57 = .ok (.getfield 16, 3) := by decide +kernel
theorem d_M_end_60 : decode b_M_end 60 = .ok (.iload_n 2, 1) := by decide +kernel
theorem d_M_end_61 : decode b_M_end 61 = .ok (.iaload, 1) := by decide +kernel
theorem d_M_end_62 : decode b_M_end 62 = .ok (.aload_n 0, 1) := by decide +kernel
theorem d_M_end_63 : decode b_M_end 63 = .ok (.getfield 37, 3) := by decide +kernel
theorem d_M_end_66 : decode b_M_end 66 = .ok (.iload_n 1, 1) := by decide +kernel
theorem d_M_end_67 : decode b_M_end 67 = .ok (.iaload, 1) := by decide +kernel
theorem d_M_end_68 : decode b_M_end 68 = .ok (.iadd, 1) := by decide +kernel
theorem d_M_end_69 : decode b_M_end 69 = .ok (.ldc 95, 2) := by decide +kernel
theorem d_M_end_71 : decode b_M_end 71 = .ok (.if_icmp .le 7, 3) := by decide +kernel
theorem d_M_end_74 : decode b_M_end 74 = .ok (.iconst 2, 1) := by decide +kernel
theorem d_M_end_75 : decode b_M_end 75 = .ok (.goto 4, 3) := by decide +kernel
theorem d_M_end_78 : decode b_M_end 78 = .ok (.iconst 0, 1) := by decide +kernel
theorem d_M_end_79 : decode b_M_end 79 = .ok (.putfield 74, 3) := by decide +kernel
theorem d_M_end_82 : decode b_M_end 82 = .ok (.aload_n 0, 1) := by decide +kernel
theorem d_M_end_83 : decode b_M_end 83 = .ok (.getfield 74, 3) := by decide +kernel
theorem d_M_end_86 : decode b_M_end 86 = .ok (.ifCond .le 4, 3) := by decide +kernel
theorem d_M_end_89 : decode b_M_end 89 = .ok (.return_, 1) := by decide +kernel
theorem d_M_end_90 : decode b_M_end 90 = .ok (.aload_n 0, 1) := by decide +kernel
theorem d_M_end_91 : decode b_M_end 91 = .ok (.getfield 40, 3) := by decide +kernel
theorem d_M_end_94 : decode b_M_end 94 = .ok (.iload_n 1, 1) := by decide +kernel
theorem d_M_end_95 : decode b_M_end 95 = .ok (.iconst 1, 1) := by decide +kernel
theorem d_M_end_96 : decode b_M_end 96 = .ok (.bastore, 1) := by decide +kernel
theorem d_M_end_97 : decode b_M_end 97 = .ok (.aload_n 0, 1) := by decide +kernel
theorem d_M_end_98 : decode b_M_end 98 = .ok (.getfield 16, 3) := by decide +kernel
theorem d_M_end_101 : decode b_M_end 101 = .ok (.iload_n 2, 1) := by decide +kernel
theorem d_M_end_102 : decode b_M_end 102 = .ok (.dup2, 1) := by decide +kernel
theorem d_M_end_103 : decode b_M_end 103 = .ok (.iaload, 1) := by decide +kernel
theorem d_M_end_104 : decode b_M_end 104 = .ok (.aload_n 0, 1) := by decide +kernel
theorem d_M_end_105 : decode b_M_end 105 = .ok (.getfield 37, 3) := by decide +kernel
theorem d_M_end_108 : decode b_M_end 108 = .ok (.iload_n 1, 1) := by decide +kernel
theorem d_M_end_109 : decode b_M_end 109 = .ok (.iaload, 1) := by decide +kernel
theorem d_M_end_110 : decode b_M_end 110 = .ok (.iadd, 1) := by decide +kernel
theorem d_M_end_111 : decode b_M_end 111 = .ok (.iastore, 1) := by decide +kernel
theorem d_M_end_112 : decode b_M_end 112 = .ok (.return_, 1) := by decide +kernel
theorem d_M_openAt_0 : decode b_M_openAt 0 = .ok (.iconst 0, 1) := by decide +kernel
theorem d_M_openAt_1 : decode b_M_openAt 1 = .ok (.istore_n 2, 1) := by decide +kernel
theorem d_M_openAt_2 : decode b_M_openAt 2 = .ok (.iconst 1, 1) := by decide +kernel
theorem d_M_openAt_3 : decode b_M_openAt 3 = .ok (.istore_n 3, 1) := by decide +kernel
theorem d_M_openAt_4 : decode b_M_openAt 4 = .ok (.iload_n 3, 1) := by decide +kernel
theorem d_M_openAt_5 : decode b_M_openAt 5 = .ok (.aload_n 0, 1) := by decide +kernel
theorem d_M_openAt_6 : decode b_M_openAt 6 = .ok (.getfield 105, 3) := by decide +kernel
theorem d_M_openAt_9 : decode b_M_openAt 9 = .ok (.if_icmp .gt 46, 3) := by decide +kernel
theorem d_M_openAt_12 : decode b_M_openAt 12 = .ok (.iload_n 2, 1) := by decide +kernel
theorem d_M_openAt_13 : decode b_M_openAt 13 = .ok (.aload_n 0, 1) := by decide +kernel
theorem d_M_openAt_14 : decode b_M_openAt 14 = .ok (.getfield 40, 3) := by decide +kernel
theorem d_M_openAt_17 : decode b_M_openAt 17 = .ok (.iload_n 3, 1) := by decide +kernel
theorem d_M_openAt_18 : decode b_M_openAt 18 = .ok (.baload, 1) := by decide +kernel
theorem d_M_openAt_19 : decode b_M_openAt 19 = .ok (.ifCond .ne 27, 3) := by decide +kernel
theorem d_M_openAt_22 : decode b_M_openAt 22 = .ok (.aload_n 0, 1) := by decide +kernel
theorem d_M_openAt_23 : decode b_M_openAt 23 = .ok (.getfield 28, 3) := by decide +kernel
theorem d_M_openAt_26 : decode b_M_openAt 26 = .ok (.iload_n 3, 1) := by decide +kernel
theorem d_M_openAt_27 : decode b_M_openAt 27 = .ok (.iaload, 1) := by decide +kernel
theorem d_M_openAt_28 : decode b_M_openAt 28 = .ok (.iload_n 1, 1) := by decide +kernel
theorem d_M_openAt_29 : decode b_M_openAt 29 = .ok (.if_icmp .eq 13, 3) := by decide +kernel
theorem d_M_openAt_32 : decode b_M_openAt 32 = .ok (.aload_n 0, 1) := by decide +kernel
theorem d_M_openAt_33 : decode b_M_openAt 33 = .ok (.getfield 31, 3) := by decide +kernel
theorem d_M_openAt_36 : decode b_M_openAt 36 = .ok (.iload_n 3, 1) := by decide +kernel
theorem d_M_openAt_37 : decode b_M_openAt 37 = .ok (.iaload, 1) := by decide +kernel
theorem d_M_openAt_38 : decode b_M_openAt 38 = .ok (.iload_n 1, 1) := by decide +kernel
theorem d_M_openAt_39 : decode b_M_openAt 39 = .ok (.if_icmp .ne 7, 3) := by decide +kernel
theorem d_M_openAt_42 : decode b_M_openAt 42 = .ok (.iconst 1, 1) := by decide +kernel
theorem d_M_openAt_43 : decode b_M_openAt 43 = .ok (.goto 4, 3) := by decide +kernel
theorem d_M_openAt_46 : decode b_M_openAt 46 = .ok (.iconst 0, 1) := by decide +kernel
theorem d_M_openAt_47 : decode b_M_openAt 47 = .ok (.iadd, 1) := by decide +kernel
theorem d_M_openAt_48 : decode b_M_openAt 48 = .ok (.istore_n 2, 1) := by decide +kernel
theorem d_M_openAt_49 : decode b_M_openAt 49 = .ok (.iinc 3 1, 3) := by decide +kernel
theorem d_M_openAt_52 : decode b_M_openAt 52 = .ok (.goto (-48), 3) := by decide +kernel
theorem d_M_openAt_55 : decode b_M_openAt 55 = .ok (.iload_n 2, 1) := by decide +kernel
theorem d_M_openAt_56 : decode b_M_openAt 56 = .ok (.ireturn, 1) := by decide +kernel
theorem d_M_moves_0 : decode b_M_moves 0 = .ok (.aload_n 0, 1) := by decide +kernel
theorem d_M_moves_1 : decode b_M_moves 1 = .ok (.aload_n 0, 1) := by decide +kernel
theorem d_M_moves_2 : decode b_M_moves 2 = .ok (.iload_n 1, 1) := by decide +kernel
theorem d_M_moves_3 : decode b_M_moves 3 = .ok (.invokevirtual 88, 3) := by decide +kernel
theorem d_M_moves_6 : decode b_M_moves 6 = .ok (.ifCond .eq 7, 3) := by decide +kernel
theorem d_M_moves_9 : decode b_M_moves 9 = .ok (.iconst 0, 1) := by decide +kernel
theorem d_M_moves_10 : decode b_M_moves 10 = .ok (.goto 4, 3) := by decide +kernel
theorem d_M_moves_13 : decode b_M_moves 13 = .ok (.iconst 1, 1) := by decide +kernel
theorem d_M_moves_14 : decode b_M_moves 14 = .ok (.putfield 74, 3) := by decide +kernel
theorem d_M_moves_17 : decode b_M_moves 17 = .ok (.aload_n 0, 1) := by decide +kernel
theorem d_M_moves_18 : decode b_M_moves 18 = .ok (.getfield 74, 3) := by decide +kernel
theorem d_M_moves_21 : decode b_M_moves 21 = .ok (.ifCond .le 7, 3) := by decide +kernel
theorem d_M_moves_24 : decode b_M_moves 24 = .ok (.iconst 0, 1) := by decide +kernel
theorem d_M_moves_25 : decode b_M_moves 25 = .ok (.goto 8, 3) := by decide +kernel
theorem d_M_moves_28 : decode b_M_moves 28 = .ok (.aload_n 0, 1) := by decide +kernel
theorem d_M_moves_29 : decode b_M_moves 29 = .ok (.iload_n 1, 1) := by decide +kernel
theorem d_M_moves_30 : decode b_M_moves 30 = .ok (.invokevirtual 108, 3) := by decide +kernel
theorem d_M_moves_33 : decode b_M_moves 33 = .ok (.ireturn, 1) := by decide +kernel
theorem d_M_isBusy_0 : decode b_M_isBusy 0 = .ok (.iconst 1, 1) := by decide +kernel
theorem d_M_isBusy_1 : decode b_M_isBusy 1 = .ok (.istore_n 2, 1) := by decide +kernel
theorem d_M_isBusy_2 : decode b_M_isBusy 2 = .ok (.iload_n 2, 1) := by decide +kernel
theorem d_M_isBusy_3 : decode b_M_isBusy 3 = .ok (.aload_n 0, 1) := by decide +kernel
theorem d_M_isBusy_4 : decode b_M_isBusy 4 = .ok (.getfield 85, 3) := by decide +kernel
theorem d_M_isBusy_7 : decode b_M_isBusy 7 = .ok (.if_icmp .gt 54, 3) := by decide +kernel
theorem d_M_isBusy_10 : decode b_M_isBusy 10 = .ok (.iconst 0, 1) := by decide +kernel
theorem d_M_isBusy_11 : decode b_M_isBusy 11 = .ok (.istore_n 3, 1) := by decide +kernel
theorem d_M_isBusy_12 : decode b_M_isBusy 12 = .ok (.iload_n 3, 1) := by decide +kernel
theorem d_M_isBusy_13 : decode b_M_isBusy 13 = .ok (.aload_n 0, 1) := by decide +kernel
theorem d_M_isBusy_14 : decode b_M_isBusy 14 = .ok (.getfield 47, 3) := by decide +kernel
theorem d_M_isBusy_17 : decode b_M_isBusy 17 = .ok (.iload_n 2, 1) := by decide +kernel
theorem d_M_isBusy_18 : decode b_M_isBusy 18 = .ok (.iaload, 1) := by decide +kernel
theorem d_M_isBusy_19 : decode b_M_isBusy 19 = .ok (.if_icmp .ge 36, 3) := by decide +kernel
theorem d_M_isBusy_22 : decode b_M_isBusy 22 = .ok (.aload_n 0, 1) := by decide +kernel
theorem d_M_isBusy_23 : decode b_M_isBusy 23 = .ok (.getfield 44, 3) := by decide +kernel
theorem d_M_isBusy_26 : decode b_M_isBusy 26 = .ok (.iload_n 2, 1) := by decide +kernel
theorem d_M_isBusy_27 : decode b_M_isBusy 27 = .ok (.iaload, 1) := by decide +kernel
theorem d_M_isBusy_28 : decode b_M_isBusy 28 = .ok (.iconst 2, 1) := by decide +kernel
theorem d_M_isBusy_29 : decode b_M_isBusy 29 = .ok (.if_icmp .eq 26, 3) := by decide +kernel
theorem d_M_isBusy_32 : decode b_M_isBusy 32 = .ok (.aload_n 0, 1) := by decide +kernel
theorem d_M_isBusy_33 : decode b_M_isBusy 33 = .ok (.getfield 53, 3) := by decide +kernel
theorem d_M_isBusy_36 : decode b_M_isBusy 36 = .ok (.bipush 20, 2) := by decide +kernel
theorem d_M_isBusy_38 : decode b_M_isBusy 38 = .ok (.iload_n 2, 1) := by decide +kernel
theorem d_M_isBusy_39 : decode b_M_isBusy 39 = .ok (.imul, 1) := by decide +kernel
theorem d_M_isBusy_40 : decode b_M_isBusy 40 = .ok (.iload_n 3, 1) := by decide +kernel
theorem d_M_isBusy_41 : decode b_M_isBusy 41 = .ok (.iadd, 1) := by decide +kernel
theorem d_M_isBusy_42 : decode b_M_isBusy 42 = .ok (.iaload, 1) := by decide +kernel
theorem d_M_isBusy_43 : decode b_M_isBusy 43 = .ok (.iload_n 1, 1) := by decide +kernel
theorem d_M_isBusy_44 : decode b_M_isBusy 44 = .ok (.if_icmp .ne 5, 3) := by decide +kernel
theorem d_M_isBusy_47 : decode b_M_isBusy 47 = .ok (.iconst 1, 1) := by decide +kernel
theorem d_M_isBusy_48 : decode b_M_isBusy 48 = .ok (.ireturn, 1) := by decide +kernel
theorem d_M_isBusy_49 : decode b_M_isBusy 49 = .ok (.iinc 3 1, 3) := by decide +kernel
theorem d_M_isBusy_52 : decode b_M_isBusy 52 = .ok (.goto (-40), 3) := by decide +kernel
theorem d_M_isBusy_55 : decode b_M_isBusy 55 = .ok (.iinc 2 1, 3) := by decide +kernel
theorem d_M_isBusy_58 : decode b_M_isBusy 58 = .ok (.goto (-56), 3) := by decide +kernel
theorem d_M_isBusy_61 : decode b_M_isBusy 61 = .ok (.iconst 0, 1) := by decide +kernel
theorem d_M_isBusy_62 : decode b_M_isBusy 62 = .ok (.ireturn, 1) := by decide +kernel
theorem d_M_byRank_0 : decode b_M_byRank 0 = .ok (.iconst (-1), 1) := by decide +kernel
theorem d_M_byRank_1 : decode b_M_byRank 1 = .ok (.istore_n 1, 1) := by decide +kernel
theorem d_M_byRank_2 : decode b_M_byRank 2 = .ok (.iconst 0, 1) := by decide +kernel
theorem d_M_byRank_3 : decode b_M_byRank 3 = .ok (.istore_n 2, 1) := by decide +kernel
theorem d_M_byRank_4 : decode b_M_byRank 4 = .ok (.iload_n 2, 1) := by decide +kernel
theorem d_M_byRank_5 : decode b_M_byRank 5 = .ok (.aload_n 0, 1) := by decide +kernel
theorem d_M_byRank_6 : decode b_M_byRank 6 = .ok (.getfield 78, 3) := by decide +kernel
theorem d_M_byRank_9 : decode b_M_byRank 9 = .ok (.if_icmp .ge 40, 3) := by decide +kernel
theorem d_M_byRank_12 : decode b_M_byRank 12 = .ok (.aload_n 0, 1) := by decide +kernel
theorem d_M_byRank_13 : decode b_M_byRank 13 = .ok (.getfield 71, 3) := by decide +kernel
theorem d_M_byRank_16 : decode b_M_byRank 16 = .ok (.iload_n 2, 1) := by decide +kernel
theorem d_M_byRank_17 : decode b_M_byRank 17 = .ok (.baload, 1) := by decide +kernel
theorem d_M_byRank_18 : decode b_M_byRank 18 = .ok (.ifCond .eq 25, 3) := by decide +kernel
theorem d_M_byRank_21 : decode b_M_byRank 21 = .ok (.iload_n 1, 1) := by decide +kernel
theorem d_M_byRank_22 : decode b_M_byRank 22 = .ok (.iconst (-1), 1) := by decide +kernel
theorem d_M_byRank_23 : decode b_M_byRank 23 = .ok (.if_icmp .eq 18, 3) := by decide +kernel
theorem d_M_byRank_26 : decode b_M_byRank 26 = .ok (.aload_n 0, 1) := by decide +kernel
theorem d_M_byRank_27 : decode b_M_byRank 27 = .ok (.getfield 13, 3) := by decide +kernel
theorem d_M_byRank_30 : decode b_M_byRank 30 = .ok (.iload_n 2, 1) := by decide +kernel
theorem d_M_byRank_31 : decode b_M_byRank 31 = .ok (.iaload, 1) := by decide +kernel
theorem d_M_byRank_32 : decode b_M_byRank 32 = .ok (.aload_n 0, 1) := by decide +kernel
theorem d_M_byRank_33 : decode b_M_byRank 33 = .ok (.getfield 13, 3) := by decide +kernel
theorem d_M_byRank_36 : decode b_M_byRank 36 = .ok (.iload_n 1, 1) := by decide +kernel
theorem d_M_byRank_37 : decode b_M_byRank 37 = .ok (.iaload, 1) := by decide +kernel
theorem d_M_byRank_38 : decode b_M_byRank 38 = .ok (.if_icmp .ge 5, 3) := by decide +kernel
theorem d_M_byRank_41 : decode b_M_byRank 41 = .ok (.iload_n 2, 1) := by decide +kernel
theorem d_M_byRank_42 : decode b_M_byRank 42 = .ok (.istore_n 1, 1) := by decide +kernel
theorem d_M_byRank_43 : decode b_M_byRank 43 = .ok (.iinc 2 1, 3) := by decide +kernel
theorem d_M_byRank_46 : decode b_M_byRank 46 = .ok (.goto (-42), 3) := by decide +kernel
theorem d_M_byRank_49 : decode b_M_byRank 49 = .ok (.iload_n 1, 1) := by decide +kernel
theorem d_M_byRank_50 : decode b_M_byRank 50 = .ok (.ireturn, 1) := by decide +kernel
theorem d_M_byNumber_0 : decode b_M_byNumber 0 = .ok (.iload_n 1, 1) := by decide +kernel
theorem d_M_byNumber_1 : decode b_M_byNumber 1 = .ok (.istore_n 2, 1) := by decide +kernel
theorem d_M_byNumber_2 : decode b_M_byNumber 2 = .ok (.iconst 0, 1) := by decide +kernel
theorem d_M_byNumber_3 : decode b_M_byNumber 3 = .ok (.istore_n 3, 1) := by decide +kernel
theorem d_M_byNumber_4 : decode b_M_byNumber 4 = .ok (.iload_n 3, 1) := by decide +kernel
theorem d_M_byNumber_5 : decode b_M_byNumber 5 = .ok (.aload_n 0, 1) := by decide +kernel
theorem d_M_byNumber_6 : decode b_M_byNumber 6 = .ok (.getfield 78, 3) := by decide +kernel
theorem d_M_byNumber_9 : decode b_M_byNumber 9 = .ok (.if_icmp .ge 30, 3) := by decide +kernel
theorem d_M_byNumber_12 : decode b_M_byNumber 12 = .ok (.aload_n 0, 1) := by decide +kernel
theorem d_M_byNumber_13 : decode b_M_byNumber 13 = .ok (.getfield 71, 3) := by decide +kernel
theorem d_M_byNumber_16 : decode b_M_byNumber 16 = .ok (.iload_n 3, 1) := by decide +kernel
theorem d_M_byNumber_17 : decode b_M_byNumber 17 = .ok (.baload, 1) := by decide +kernel
theorem d_M_byNumber_18 : decode b_M_byNumber 18 = .ok (.ifCond .ne 6, 3) := by decide +kernel
theorem d_M_byNumber_21 : decode b_M_byNumber 21 = .ok (.goto 12, 3) := by decide +kernel
theorem d_M_byNumber_24 : decode b_M_byNumber 24 = .ok (.iload_n 2, 1) := by decide +kernel
theorem d_M_byNumber_25 : decode b_M_byNumber 25 = .ok (.ifCond .ne 5, 3) := by decide +kernel
theorem d_M_byNumber_28 : decode b_M_byNumber 28 = .ok (.iload_n 3, 1) := by decide +kernel
theorem d_M_byNumber_29 : decode b_M_byNumber 29 = .ok (.ireturn, 1) := by decide +kernel
theorem d_M_byNumber_30 : decode b_M_byNumber 30 = .ok (.iinc 2 (-1), 3) := by decide +kernel
theorem d_M_byNumber_33 : decode b_M_byNumber 33 = .ok (.iinc 3 1, 3) := by decide +kernel
theorem d_M_byNumber_36 : decode b_M_byNumber 36 = .ok (.goto (-32), 3) := by decide +kernel
theorem d_M_byNumber_39 : decode b_M_byNumber 39 = .ok (.iconst (-1), 1) := by decide +kernel
theorem d_M_byNumber_40 : decode b_M_byNumber 40 = .ok (.ireturn, 1) := by decide +kernel
theorem d_M_round_0 : decode b_M_round 0 = .ok (.aload_n 0, 1) := by decide +kernel
theorem d_M_round_1 : decode b_M_round 1 = .ok (.iload_n 1, 1) := by decide +kernel
theorem d_M_round_2 : decode b_M_round 2 = .ok (.iconst (-1), 1) := by decide +kernel
theorem d_M_round_3 : decode b_M_round 3 = .ok (.iconst 2, 1) := by decide +kernel
theorem d_M_round_4 : decode b_M_round 4 = .ok (.invokestatic 81, 3) := by decide +kernel
theorem d_M_round_7 : decode b_M_round 7 = .ok (.ifCond .eq 13, 3) := by decide +kernel
theorem d_M_round_10 : decode b_M_round 10 = .ok (.iload_n 2, 1) := by decide +kernel
theorem d_M_round_11 : decode b_M_round 11 = .ok (.iconst 1, 1) := by decide +kernel
theorem d_M_round_12 : decode b_M_round 12 = .ok (.bipush 20, 2) := by decide +kernel
theorem d_M_round_14 : decode b_M_round 14 = .ok (.invokestatic 81, 3) := by decide +kernel
theorem d_M_round_17 : decode b_M_round 17 = .ok (.ifCond .ne 7, 3) := by decide +kernel
theorem d_M_round_20 : decode b_M_round 20 = .ok (.iconst 1, 1) := by decide +kernel
theorem d_M_round_21 : decode b_M_round 21 = .ok (.goto 4, 3) := by decide +kernel
theorem d_M_round_24 : decode b_M_round 24 = .ok (.iconst 0, 1) := by decide +kernel
theorem d_M_round_25 : decode b_M_round 25 = .ok (.putfield 74, 3) := by decide +kernel
theorem d_M_round_28 : decode b_M_round 28 = .ok (.aload_n 0, 1) := by decide +kernel
theorem d_M_round_29 : decode b_M_round 29 = .ok (.getfield 74, 3) := by decide +kernel
theorem d_M_round_32 : decode b_M_round 32 = .ok (.ifCond .le 5, 3) := by decide +kernel
theorem d_M_round_35 : decode b_M_round 35 = .ok (.iconst 0, 1) := by decide +kernel
theorem d_M_round_36 : decode b_M_round 36 = .ok (.ireturn, 1) := by decide +kernel
theorem d_M_round_37 : decode b_M_round 37 = .ok (.iconst 0, 1) := by decide +kernel
theorem d_M_round_38 : decode b_M_round 38 = .ok (.istore 5, 2) := by decide +kernel
theorem d_M_round_40 : decode b_M_round 40 = .ok (.iconst 0, 1) := by decide +kernel
theorem d_M_round_41 : decode b_M_round 41 = .ok (.istore 6, 2) := by decide +kernel
theorem d_M_round_43 : decode b_M_round 43 = .ok (.iload 6, 2) := by decide +kernel
theorem d_M_round_45 : decode b_M_round 45 = .ok (.aload_n 0, 1) := by decide +kernel
theorem d_M_round_46 : decode b_M_round 46 = .ok (.getfield 78, 3) := by decide +kernel
theorem d_M_round_49 : decode b_M_round 49 = .ok (.if_icmp .ge 66, 3) := by decide +kernel
theorem d_M_round_52 : decode b_M_round 52 = .ok (.aload_n 0, 1) := by decide +kernel
theorem d_M_round_53 : decode b_M_round 53 = .ok (.getfield 71, 3) := by decide +kernel
theorem d_M_round_56 : decode b_M_round 56 = .ok (.iload 6, 2) := by decide +kernel
theorem d_M_round_58 : decode b_M_round 58 = .ok (.iload_n 1, 1) := by decide +kernel
theorem d_M_round_59 : decode b_M_round 59 = .ok (.iconst (-1), 1) := by decide +kernel
theorem d_M_round_60 : decode b_M_round 60 = .ok (.if_icmp .eq 14, 3) := by decide +kernel
theorem d_M_round_63 : decode b_M_round 63 = .ok (.aload_n 0, 1) := by decide +kernel
theorem d_M_round_64 : decode b_M_round 64 = .ok (.getfield 7, 3) := by decide +kernel
theorem d_M_round_67 : decode b_M_round 67 = .ok (.iload 6, 2) := by decide +kernel
theorem d_M_round_69 : decode b_M_round 69 = .ok (.iaload, 1) := by decide +kernel
theorem d_M_round_70 : decode b_M_round 70 = .ok (.iload_n 1, 1) := by decide +kernel
theorem d_M_round_71 : decode b_M_round 71 = .ok (.if_icmp .ne 16, 3) := by decide +kernel
theorem d_M_round_74 : decode b_M_round 74 = .ok (.aload_n 0, 1) := by decide +kernel
theorem d_M_round_75 : decode b_M_round 75 = .ok (.iload 6, 2) := by decide +kernel
theorem d_M_round_77 : decode b_M_round 77 = .ok (.invokevirtual 112, 3) := by decide +kernel
theorem d_M_round_80 : decode b_M_round 80 = .ok (.ifCond .ne 7, 3) := by decide +kernel
theorem d_M_round_83 : decode b_M_round 83 = .ok (.iconst 1, 1) := by decide +kernel
theorem d_M_round_84 : decode b_M_round 84 = .ok (.goto 4, 3) := by decide +kernel
theorem d_M_round_87 : decode b_M_round 87 = .ok (.iconst 0, 1) := by decide +kernel
theorem d_M_round_88 : decode b_M_round 88 = .ok (.bastore, 1) := by decide +kernel
theorem d_M_round_89 : decode b_M_round 89 = .ok (.iload 5, 2) := by decide +kernel
theorem d_M_round_91 : decode b_M_round 91 = .ok (.aload_n 0, 1) := by decide +kernel
theorem d_M_round_92 : decode b_M_round 92 = .ok (.getfield 71, 3) := by decide +kernel
theorem d_M_round_95 : decode b_M_round 95 = .ok (.iload 6, 2) := by decide +kernel
theorem d_M_round_97 : decode b_M_round 97 = .ok (.baload, 1) := by decide +kernel
theorem d_M_round_98 : decode b_M_round 98 = .ok (.ifCond .eq 7, 3) := by decide +kernel
theorem d_M_round_101 : decode b_M_round 101 = .ok (.iconst 1, 1) := by decide +kernel
theorem d_M_round_102 : decode b_M_round 102 = .ok (.goto 4, 3) := by decide +kernel
theorem d_M_round_105 : decode b_M_round 105 = .ok (.iconst 0, 1) := by decide +kernel
theorem d_M_round_106 : decode b_M_round 106 = .ok (.iadd, 1) := by decide +kernel
theorem d_M_round_107 : decode b_M_round 107 = .ok (.istore 5, 2) := by decide +kernel
theorem d_M_round_109 : decode b_M_round 109 = .ok (.iinc 6 1, 3) := by decide +kernel
theorem d_M_round_112 : decode b_M_round 112 = .ok (.goto (-69), 3) := by decide +kernel
theorem d_M_round_115 : decode b_M_round 115 = .ok (.aload_n 0, 1) := by decide +kernel
theorem d_M_round_116 : decode b_M_round 116 = .ok (.iload 5, 2) := by decide +kernel
theorem d_M_round_118 : decode b_M_round 118 = .ok (.ifCond .ne 7, 3) := by decide +kernel
theorem d_M_round_121 : decode b_M_round 121 = .ok (.iconst 2, 1) := by decide +kernel
theorem d_M_round_122 : decode b_M_round 122 = .ok (.goto 17, 3) := by decide +kernel
theorem d_M_round_125 : decode b_M_round 125 = .ok (.aload_n 0, 1) := by decide +kernel
theorem d_M_round_126 : decode b_M_round 126 = .ok (.getfield 85, 3) := by decide +kernel
theorem d_M_round_129 : decode b_M_round 129 = .ok (.bipush 20, 2) := by decide +kernel
theorem d_M_round_131 : decode b_M_round 131 = .ok (.if_icmp .ne 7, 3) := by decide +kernel
theorem d_M_round_134 : decode b_M_round 134 = .ok (.iconst 3, 1) := by decide +kernel
theorem d_M_round_135 : decode b_M_round 135 = .ok (.goto 4, 3) := by decide +kernel
theorem d_M_round_138 : decode b_M_round 138 = .ok (.iconst 0, 1) := by decide +kernel
theorem d_M_round_139 : decode b_M_round 139 = .ok (.putfield 74, 3) := by decide +kernel
theorem d_M_round_142 : decode b_M_round 142 = .ok (.aload_n 0, 1) := by decide +kernel
theorem d_M_round_143 : decode b_M_round 143 = .ok (.getfield 74, 3) := by decide +kernel
theorem d_M_round_146 : decode b_M_round 146 = .ok (.ifCond .le 5, 3) := by decide +kernel
theorem d_M_round_149 : decode b_M_round 149 = .ok (.iconst 0, 1) := by decide +kernel
theorem d_M_round_150 : decode b_M_round 150 = .ok (.ireturn, 1) := by decide +kernel
theorem d_M_round_151 : decode b_M_round 151 = .ok (.aload_n 0, 1) := by decide +kernel
theorem d_M_round_152 : decode b_M_round 152 = .ok (.dup, 1) := by decide +kernel
theorem d_M_round_153 : decode b_M_round 153 = .ok (.getfield 85, 3) := by decide +kernel
theorem d_M_round_156 : decode b_M_round 156 = .ok (.iconst 1, 1) := by decide +kernel
theorem d_M_round_157 : decode b_M_round 157 = .ok (.iadd, 1) := by decide +kernel
theorem d_M_round_158 : decode b_M_round 158 = .ok (.putfield 85, 3) := by decide +kernel
theorem d_M_round_161 : decode b_M_round 161 = .ok (.aload_n 0, 1) := by decide +kernel
theorem d_M_round_162 : decode b_M_round 162 = .ok (.getfield 44, 3) := by decide +kernel
theorem d_M_round_165 : decode b_M_round 165 = .ok (.aload_n 0, 1) := by decide +kernel
theorem d_M_round_166 : decode b_M_round 166 = .ok (.getfield 85, 3) := by decide +kernel
theorem d_M_round_169 : decode b_M_round 169 = .ok (.iconst 0, 1) := by decide +kernel
theorem d_M_round_170 : decode b_M_round 170 = .ok (.iastore, 1) := by decide +kernel
theorem d_M_round_171 : decode b_M_round 171 = .ok (.lload_n 3, 1) := by decide +kernel
theorem d_M_round_172 : decode b_M_round 172 = .ok (.lstore 6, 2) := by decide +kernel
theorem d_M_round_174 : decode b_M_round 174 = .ok (.iconst 0, 1) := by decide +kernel
theorem d_M_round_175 : decode b_M_round 175 = .ok (.istore 8, 2) := by decide +kernel
theorem d_M_round_177 : decode b_M_round 177 = .ok (.iload 8, 2) := by decide +kernel
theorem d_M_round_179 : decode b_M_round 179 = .ok (.iload_n 2, 1) := by decide +kernel
theorem d_M_round_180 : decode b_M_round 180 = .ok (.if_icmp .ge 96, 3) := by decide +kernel
theorem d_M_round_183 : decode b_M_round 183 = .ok (.iload 5, 2) := by decide +kernel
theorem d_M_round_185 : decode b_M_round 185 = .ok (.ifCond .le 91, 3) := by decide +kernel
theorem d_M_round_188 : decode b_M_round 188 = .ok (.lload 6, 2) := by decide +kernel
theorem d_M_round_190 : decode b_M_round 190 = .ok (.ldc2_w 115, 3) := by decide +kernel
theorem d_M_round_193 : decode b_M_round 193 = .ok (.lmul, 1) := by decide +kernel
theorem d_M_round_194 : decode b_M_round 194 = .ok (.ldc2_w 117, 3) := by decide +kernel
theorem d_M_round_197 : decode b_M_round 197 = .ok (.ladd, 1) := by decide +kernel
theorem d_M_round_198 : decode b_M_round 198 = .ok (.lstore 6, 2) := by decide +kernel
theorem d_M_round_200 : decode b_M_round 200 = .ok (.lload_n 3, 1) := by decide +kernel
theorem d_M_round_201 : decode b_M_round 201 = .ok (.lconst 0, 1) := by decide +kernel
theorem d_M_round_202 : decode b_M_round 202 = .ok (.lcmp, 1) := by decide +kernel
theorem d_M_round_203 : decode b_M_round 203 = .ok (.ifCond .ne 10, 3) := by decide +kernel
theorem d_M_round_206 : decode b_M_round 206 = .ok (.aload_n 0, 1) := by decide +kernel
theorem d_M_round_207 : decode b_M_round 207 = .ok (.invokevirtual 119, 3) := by decide +kernel
theorem d_M_round_210 : decode b_M_round 210 = .ok (.goto 17, 3) := by decide +kernel
theorem d_M_round_213 : decode b_M_round 213 = .ok (.aload_n 0, 1) := by decide +kernel
theorem d_M_round_214 : decode b_M_round 214 = .ok (.lload 6, 2) := by decide +kernel
theorem d_M_round_216 : decode b_M_round 216 = .ok (.bipush 33, 2) := by decide +kernel
theorem d_M_round_218 : decode b_M_round 218 = .ok (.lushr, 1) := by decide +kernel
theorem d_M_round_219 : decode b_M_round 219 = .ok (.iload 5, 2) := by decide +kernel
theorem d_M_round_221 : decode b_M_round 221 = .ok (.i2l, 1) := by decide +kernel
theorem d_M_round_222 : decode b_M_round 222 = .ok (.lrem, 1) := by decide +kernel
theorem d_M_round_223 : decode b_M_round 223 = .ok (.l2i, 1) := by decide +kernel
theorem d_M_round_224 : decode b_M_round 224 = .ok (.invokevirtual 123, 3) := by decide +kernel
theorem d_M_round_227 : decode b_M_round 227 = .ok (.istore 9, 2) := by decide +kernel
theorem d_M_round_229 : decode b_M_round 229 = .ok (.aload_n 0, 1) := by decide +kernel
theorem d_M_round_230 : decode b_M_round 230 = .ok (.getfield 71, 3) := by decide +kernel
theorem d_M_round_233 : decode b_M_round 233 = .ok (.iload 9, 2) := by decide +kernel
theorem d_M_round_235 : decode b_M_round 235 = .ok (.iconst 0, 1) := by decide +kernel
theorem d_M_round_236 : decode b_M_round 236 = .ok (.bastore, 1) := by decide +kernel
theorem d_M_round_237 : decode b_M_round 237 = .ok (.aload_n 0, 1) := by decide +kernel
theorem d_M_round_238 : decode b_M_round 238 = .ok (.getfield 53, 3) := by decide +kernel
theorem d_M_round_241 : decode b_M_round 241 = .ok (.bipush 20, 2) := by decide +kernel
theorem d_M_round_243 : decode b_M_round 243 = .ok (.aload_n 0, 1) := by decide +kernel
theorem d_M_round_244 : decode b_M_round 244 = .ok (.getfield 85, 3) := by decide +kernel
theorem d_M_round_247 : decode b_M_round 247 = .ok (.imul, 1) := by decide +kernel
theorem d_M_round_248 : decode b_M_round 248 = .ok (.iload 8, 2) := by decide +kernel
theorem d_M_round_250 : decode b_M_round 250 = .ok (.iadd, 1) := by decide +kernel
theorem d_M_round_251 : decode b_M_round 251 = .ok (.iload 9, 2) := by decide +kernel
theorem d_M_round_253 : decode b_M_round 253 = .ok (.iastore, 1) := by decide +kernel
theorem d_M_round_254 : decode b_M_round 254 = .ok (.aload_n 0, 1) := by decide +kernel
theorem d_M_round_255 : decode b_M_round 255 = .ok (.getfield 47, 3) := by decide +kernel
theorem d_M_round_258 : decode b_M_round 258 = .ok (.aload_n 0, 1) := by decide +kernel
theorem d_M_round_259 : decode b_M_round 259 = .ok (.getfield 85, 3) := by decide +kernel
theorem d_M_round_262 : decode b_M_round 262 = .ok (.dup2, 1) := by decide +kernel
theorem d_M_round_263 : decode b_M_round 263 = .ok (.iaload, 1) := by decide +kernel
theorem d_M_round_264 : decode b_M_round 264 = .ok (.iconst 1, 1) := by decide +kernel
theorem d_M_round_265 : decode b_M_round 265 = .ok (.iadd, 1) := by decide +kernel
theorem d_M_round_266 : decode b_M_round 266 = .ok (.iastore, 1) := by decide +kernel
theorem d_M_round_267 : decode b_M_round 267 = .ok (.iinc 5 (-1), 3) := by decide +kernel
theorem d_M_round_270 : decode b_M_round 270 = .ok (.iinc 8 1, 3) := by decide +kernel
theorem d_M_round_273 : decode b_M_round 273 = .ok (.goto (-96), 3) := by decide +kernel
theorem d_M_round_276 : decode b_M_round 276 = .ok (.aload_n 0, 1) := by decide +kernel
theorem d_M_round_277 : decode b_M_round 277 = .ok (.getfield 85, 3) := by decide +kernel
theorem d_M_round_280 : decode b_M_round 280 = .ok (.ireturn, 1) := by decide +kernel
theorem d_M_coming_0 : decode b_M_coming 0 = .ok (.iconst 0, 1) := by decide +kernel
theorem d_M_coming_1 : decode b_M_coming 1 = .ok (.istore_n 3, 1) := by decide +kernel
theorem d_M_coming_2 : decode b_M_coming 2 = .ok (.iconst 1, 1) := by decide +kernel
theorem d_M_coming_3 : decode b_M_coming 3 = .ok (.istore 4, 2) := by decide +kernel
theorem d_M_coming_5 : decode b_M_coming 5 = .ok (.iload 4, 2) := by decide +kernel
theorem d_M_coming_7 : decode b_M_coming 7 = .ok (.aload_n 0, 1) := by decide +kernel
theorem d_M_coming_8 : decode b_M_coming 8 = .ok (.getfield 105, 3) := by decide +kernel
theorem d_M_coming_11 : decode b_M_coming 11 = .ok (.if_icmp .gt 55, 3) := by decide +kernel
theorem d_M_coming_14 : decode b_M_coming 14 = .ok (.iload_n 3, 1) := by decide +kernel
theorem d_M_coming_15 : decode b_M_coming 15 = .ok (.aload_n 0, 1) := by decide +kernel
theorem d_M_coming_16 : decode b_M_coming 16 = .ok (.getfield 40, 3) := by decide +kernel
theorem d_M_coming_19 : decode b_M_coming 19 = .ok (.iload 4, 2) := by decide +kernel
theorem d_M_coming_21 : decode b_M_coming 21 = .ok (.baload, 1) := by decide +kernel
theorem d_M_coming_22 : decode b_M_coming 22 = .ok (.ifCond .ne 35, 3) := by decide +kernel
theorem d_M_coming_25 : decode b_M_coming 25 = .ok (.aload_n 0, 1) := by decide +kernel
theorem d_M_coming_26 : decode b_M_coming 26 = .ok (.getfield 31, 3) := by decide +kernel
theorem d_M_coming_29 : decode b_M_coming 29 = .ok (.iload 4, 2) := by decide +kernel
theorem d_M_coming_31 : decode b_M_coming 31 = .ok (.iaload, 1) := by decide +kernel
theorem d_M_coming_32 : decode b_M_coming 32 = .ok (.iload_n 1, 1) := by decide +kernel
theorem d_M_coming_33 : decode b_M_coming 33 = .ok (.if_icmp .ne 24, 3) := by decide +kernel
theorem d_M_coming_36 : decode b_M_coming 36 = .ok (.aload_n 0, 1) := by decide +kernel
theorem d_M_coming_37 : decode b_M_coming 37 = .ok (.getfield 34, 3) := by decide +kernel
theorem d_M_coming_40 : decode b_M_coming 40 = .ok (.iload 4, 2) := by decide +kernel
theorem d_M_coming_42 : decode b_M_coming 42 = .ok (.iaload, 1) := by decide +kernel
theorem d_M_coming_43 : decode b_M_coming 43 = .ok (.iload_n 2, 1) := by decide +kernel
theorem d_M_coming_44 : decode b_M_coming 44 = .ok (.if_icmp .ne 13, 3) := by decide +kernel
theorem d_M_coming_47 : decode b_M_coming 47 = .ok (.aload_n 0, 1) := by decide +kernel
theorem d_M_coming_48 : decode b_M_coming 48 = .ok (.getfield 37, 3) := by decide +kernel
theorem d_M_coming_51 : decode b_M_coming 51 = .ok (.iload 4, 2) := by decide +kernel
theorem d_M_coming_53 : decode b_M_coming 53 = .ok (.iaload, 1) := by decide +kernel
theorem d_M_coming_54 : decode b_M_coming 54 = .ok (.goto 4, 3) := by decide +kernel
theorem d_M_coming_57 : decode b_M_coming 57 = .ok (.iconst 0, 1) := by decide +kernel
theorem d_M_coming_58 : decode b_M_coming 58 = .ok (.iadd, 1) := by decide +kernel
theorem d_M_coming_59 : decode b_M_coming 59 = .ok (.istore_n 3, 1) := by decide +kernel
theorem d_M_coming_60 : decode b_M_coming 60 = .ok (.iinc 4 1, 3) := by decide +kernel
theorem d_M_coming_63 : decode b_M_coming 63 = .ok (.goto (-58), 3) := by decide +kernel
theorem d_M_coming_66 : decode b_M_coming 66 = .ok (.iload_n 3, 1) := by decide +kernel
theorem d_M_coming_67 : decode b_M_coming 67 = .ok (.ireturn, 1) := by decide +kernel
theorem d_M_freeze_0 : decode b_M_freeze 0 = .ok (.aload_n 0, 1) := by decide +kernel
theorem d_M_freeze_1 : decode b_M_freeze 1 = .ok (.aload_n 0, 1) := by decide +kernel
theorem d_M_freeze_2 : decode b_M_freeze 2 = .ok (.iload_n 1, 1) := by decide +kernel
theorem d_M_freeze_3 : decode b_M_freeze 3 = .ok (.invokevirtual 126, 3) := by decide +kernel
theorem d_M_freeze_6 : decode b_M_freeze 6 = .ok (.ifCond .ne 7, 3) := by decide +kernel
theorem d_M_freeze_9 : decode b_M_freeze 9 = .ok (.iconst 1, 1) := by decide +kernel
theorem d_M_freeze_10 : decode b_M_freeze 10 = .ok (.goto 4, 3) := by decide +kernel
theorem d_M_freeze_13 : decode b_M_freeze 13 = .ok (.iconst 0, 1) := by decide +kernel
theorem d_M_freeze_14 : decode b_M_freeze 14 = .ok (.putfield 74, 3) := by decide +kernel
theorem d_M_freeze_17 : decode b_M_freeze 17 = .ok (.aload_n 0, 1) := by decide +kernel
theorem d_M_freeze_18 : decode b_M_freeze 18 = .ok (.getfield 74, 3) := by decide +kernel
theorem d_M_freeze_21 : decode b_M_freeze 21 = .ok (.ifCond .ne 21, 3) := by decide +kernel
theorem d_M_freeze_24 : decode b_M_freeze 24 = .ok (.aload_n 0, 1) := by decide +kernel
theorem d_M_freeze_25 : decode b_M_freeze 25 = .ok (.aload_n 0, 1) := by decide +kernel
theorem d_M_freeze_26 : decode b_M_freeze 26 = .ok (.getfield 44, 3) := by decide +kernel
theorem d_M_freeze_29 : decode b_M_freeze 29 = .ok (.iload_n 1, 1) := by decide +kernel
theorem d_M_freeze_30 : decode b_M_freeze 30 = .ok (.iaload, 1) := by decide +kernel
theorem d_M_freeze_31 : decode b_M_freeze 31 = .ok (.ifCond .eq 7, 3) := by decide +kernel
theorem d_M_freeze_34 : decode b_M_freeze 34 = .ok (.iconst 2, 1) := by decide +kernel
theorem d_M_freeze_35 : decode b_M_freeze 35 = .ok (.goto 4, 3) := by decide +kernel
theorem d_M_freeze_38 : decode b_M_freeze 38 = .ok (.iconst 0, 1) := by decide +kernel
theorem d_M_freeze_39 : decode b_M_freeze 39 = .ok (.putfield 74, 3) := by decide +kernel
theorem d_M_freeze_42 : decode b_M_freeze 42 = .ok (.aload_n 0, 1) := by decide +kernel
theorem d_M_freeze_43 : decode b_M_freeze 43 = .ok (.getfield 74, 3) := by decide +kernel
theorem d_M_freeze_46 : decode b_M_freeze 46 = .ok (.ifCond .le 5, 3) := by decide +kernel
theorem d_M_freeze_49 : decode b_M_freeze 49 = .ok (.iconst 0, 1) := by decide +kernel
theorem d_M_freeze_50 : decode b_M_freeze 50 = .ok (.ireturn, 1) := by decide +kernel
theorem d_M_freeze_51 : decode b_M_freeze 51 = .ok (.iconst 0, 1) := by decide +kernel
theorem d_M_freeze_52 : decode b_M_freeze 52 = .ok (.istore_n 2, 1) := by decide +kernel
theorem d_M_freeze_53 : decode b_M_freeze 53 = .ok (.iload_n 2, 1) := by decide +kernel
theorem d_M_freeze_54 : decode b_M_freeze 54 = .ok (.aload_n 0, 1) := by decide +kernel
theorem d_M_freeze_55 : decode b_M_freeze 55 = .ok (.getfield 47, 3) := by decide +kernel
theorem d_M_freeze_58 : decode b_M_freeze 58 = .ok (.iload_n 1, 1) := by decide +kernel
theorem d_M_freeze_59 : decode b_M_freeze 59 = .ok (.iaload, 1) := by decide +kernel
theorem d_M_freeze_60 : decode b_M_freeze 60 = .ok (.if_icmp .ge 36, 3) := by decide +kernel
theorem d_M_freeze_63 : decode b_M_freeze 63 = .ok (.aload_n 0, 1) := by decide +kernel
theorem d_M_freeze_64 : decode b_M_freeze 64 = .ok (.getfield 99, 3) := by decide +kernel
theorem d_M_freeze_67 : decode b_M_freeze 67 = .ok (.ifCond .ne 29, 3) := by decide +kernel
theorem d_M_freeze_70 : decode b_M_freeze 70 = .ok (.aload_n 0, 1) := by decide +kernel
theorem d_M_freeze_71 : decode b_M_freeze 71 = .ok (.aload_n 0, 1) := by decide +kernel
theorem d_M_freeze_72 : decode b_M_freeze 72 = .ok (.getfield 53, 3) := by decide +kernel
theorem d_M_freeze_75 : decode b_M_freeze 75 = .ok (.bipush 20, 2) := by decide +kernel
theorem d_M_freeze_77 : decode b_M_freeze 77 = .ok (.iload_n 1, 1) := by decide +kernel
theorem d_M_freeze_78 : decode b_M_freeze 78 = .ok (.imul, 1) := by decide +kernel
theorem d_M_freeze_79 : decode b_M_freeze 79 = .ok (.iload_n 2, 1) := by decide +kernel
theorem d_M_freeze_80 : decode b_M_freeze 80 = .ok (.iadd, 1) := by decide +kernel
theorem d_M_freeze_81 : decode b_M_freeze 81 = .ok (.iaload, 1) := by decide +kernel
theorem d_M_freeze_82 : decode b_M_freeze 82 = .ok (.invokevirtual 108, 3) := by decide +kernel
theorem d_M_freeze_85 : decode b_M_freeze 85 = .ok (.ifCond .le 5, 3) := by decide +kernel
theorem d_M_freeze_88 : decode b_M_freeze 88 = .ok (.iconst 0, 1) := by decide +kernel
theorem d_M_freeze_89 : decode b_M_freeze 89 = .ok (.ireturn, 1) := by decide +kernel
theorem d_M_freeze_90 : decode b_M_freeze 90 = .ok (.iinc 2 1, 3) := by decide +kernel
theorem d_M_freeze_93 : decode b_M_freeze 93 = .ok (.goto (-40), 3) := by decide +kernel
theorem d_M_freeze_96 : decode b_M_freeze 96 = .ok (.aload_n 0, 1) := by decide +kernel
theorem d_M_freeze_97 : decode b_M_freeze 97 = .ok (.getfield 44, 3) := by decide +kernel
theorem d_M_freeze_100 : decode b_M_freeze 100 = .ok (.iload_n 1, 1) := by decide +kernel
theorem d_M_freeze_101 : decode b_M_freeze 101 = .ok (.iconst 1, 1) := by decide +kernel
theorem d_M_freeze_102 : decode b_M_freeze 102 = .ok (.iastore, 1) := by decide +kernel
theorem d_M_freeze_103 : decode b_M_freeze 103 = .ok (.iconst 0, 1) := by decide +kernel
theorem d_M_freeze_104 : decode b_M_freeze 104 = .ok (.istore_n 2, 1) := by decide +kernel
theorem d_M_freeze_105 : decode b_M_freeze 105 = .ok (.iload_n 2, 1) := by decide +kernel
theorem d_M_freeze_106 : decode b_M_freeze 106 = .ok (.aload_n 0, 1) := by decide +kernel
theorem d_M_freeze_107 : decode b_M_freeze 107 = .ok (.getfield 47, 3) := by decide +kernel
theorem d_M_freeze_110 : decode b_M_freeze 110 = .ok (.iload_n 1, 1) := by decide +kernel
theorem d_M_freeze_111 : decode b_M_freeze 111 = .ok (.iaload, 1) := by decide +kernel
theorem d_M_freeze_112 : decode b_M_freeze 112 = .ok (.if_icmp .ge 88, 3) := by decide +kernel
theorem d_M_freeze_115 : decode b_M_freeze 115 = .ok (.iconst 0, 1) := by decide +kernel
theorem d_M_freeze_116 : decode b_M_freeze 116 = .ok (.istore_n 3, 1) := by decide +kernel
theorem d_M_freeze_117 : decode b_M_freeze 117 = .ok (.iload_n 3, 1) := by decide +kernel
theorem d_M_freeze_118 : decode b_M_freeze 118 = .ok (.bipush 6, 2) := by decide +kernel
theorem d_M_freeze_120 : decode b_M_freeze 120 = .ok (.if_icmp .ge 74, 3) := by decide +kernel
theorem d_M_freeze_123 : decode b_M_freeze 123 = .ok (.bipush 120, 2) := by decide +kernel
theorem d_M_freeze_125 : decode b_M_freeze 125 = .ok (.iload_n 1, 1) := by decide +kernel
theorem d_M_freeze_126 : decode b_M_freeze 126 = .ok (.imul, 1) := by decide +kernel
theorem d_M_freeze_127 : decode b_M_freeze 127 = .ok (.bipush 6, 2) := by decide +kernel
theorem d_M_freeze_129 : decode b_M_freeze 129 = .ok (.iload_n 2, 1) := by decide +kernel
theorem d_M_freeze_130 : decode b_M_freeze 130 = .ok (.imul, 1) := by decide +kernel
theorem d_M_freeze_131 : decode b_M_freeze 131 = .ok (.iadd, 1) := by decide +kernel
theorem d_M_freeze_132 : decode b_M_freeze 132 = .ok (.iload_n 3, 1) := by decide +kernel
theorem d_M_freeze_133 : decode b_M_freeze 133 = .ok (.iadd, 1) := by decide +kernel
theorem d_M_freeze_134 : decode b_M_freeze 134 = .ok (.istore 4, 2) := by decide +kernel
theorem d_M_freeze_136 : decode b_M_freeze 136 = .ok (.aload_n 0, 1) := by decide +kernel
theorem d_M_freeze_137 : decode b_M_freeze 137 = .ok (.getfield 53, 3) := by decide +kernel
theorem d_M_freeze_140 : decode b_M_freeze 140 = .ok (.bipush 20, 2) := by decide +kernel
theorem d_M_freeze_142 : decode b_M_freeze 142 = .ok (.iload_n 1, 1) := by decide +kernel
theorem d_M_freeze_143 : decode b_M_freeze 143 = .ok (.imul, 1) := by decide +kernel
theorem d_M_freeze_144 : decode b_M_freeze 144 = .ok (.iload_n 2, 1) := by decide +kernel
theorem d_M_freeze_145 : decode b_M_freeze 145 = .ok (.iadd, 1) := by decide +kernel
theorem d_M_freeze_146 : decode b_M_freeze 146 = .ok (.iaload, 1) := by decide +kernel
theorem d_M_freeze_147 : decode b_M_freeze 147 = .ok (.istore 5, 2) := by decide +kernel
theorem d_M_freeze_149 : decode b_M_freeze 149 = .ok (.aload_n 0, 1) := by decide +kernel
theorem d_M_freeze_150 : decode b_M_freeze 150 = .ok (.getfield 56, 3) := by decide +kernel
theorem d_M_freeze_153 : decode b_M_freeze 153 = .ok (.iload 4, 2) := by decide +kernel
theorem d_M_freeze_155 : decode b_M_freeze 155 = .ok (.aload_n 0, 1) := by decide +kernel
theorem d_M_freeze_156 : decode b_M_freeze 156 = .ok (.getfield 16, 3) := by decide +kernel
theorem d_M_freeze_159 : decode b_M_freeze 159 = .ok (.bipush 6, 2) := by decide +kernel
theorem d_M_freeze_161 : decode b_M_freeze 161 = .ok (.iload 5, 2) := by decide +kernel
theorem d_M_freeze_163 : decode b_M_freeze 163 = .ok (.imul, 1) := by decide +kernel
theorem d_M_freeze_164 : decode b_M_freeze 164 = .ok (.iload_n 3, 1) := by decide +kernel
theorem d_M_freeze_165 : decode b_M_freeze 165 = .ok (.iadd, 1) := by decide +kernel
theorem d_M_freeze_166 : decode b_M_freeze 166 = .ok (.iaload, 1) := by decide +kernel
theorem d_M_freeze_167 : decode b_M_freeze 167 = .ok (.aload_n 0, 1) := by decide +kernel
theorem d_M_freeze_168 : decode b_M_freeze 168 = .ok (.getfield 99, 3) := by decide +kernel
theorem d_M_freeze_171 : decode b_M_freeze 171 = .ok (.iconst 1, 1) := by decide +kernel
theorem d_M_freeze_172 : decode b_M_freeze 172 = .ok (.if_icmp .ne 13, 3) := by decide +kernel
theorem d_M_freeze_175 : decode b_M_freeze 175 = .ok (.aload_n 0, 1) := by decide +kernel
theorem d_M_freeze_176 : decode b_M_freeze 176 = .ok (.iload 5, 2) := by decide +kernel
theorem d_M_freeze_178 : decode b_M_freeze 178 = .ok (.iload_n 3, 1) := by decide +kernel
theorem d_M_freeze_179 : decode b_M_freeze 179 = .ok (.invokevirtual 129, 3) := by decide +kernel
theorem d_M_freeze_182 : decode b_M_freeze 182 = .ok (.goto 4, 3) := by decide +kernel
theorem d_M_freeze_185 : decode b_M_freeze 185 = .ok (.iconst 0, 1) := by decide +kernel
theorem d_M_freeze_186 : decode b_M_freeze 186 = .ok (.iadd, 1) := by decide +kernel
theorem d_M_freeze_187 : decode b_M_freeze 187 = .ok (.iastore, 1) := by decide +kernel
theorem d_M_freeze_188 : decode b_M_freeze 188 = .ok (.iinc 3 1, 3) := by decide +kernel
theorem d_M_freeze_191 : decode b_M_freeze 191 = .ok (.goto (-74), 3) := by decide +kernel
theorem d_M_freeze_194 : decode b_M_freeze 194 = .ok (.iinc 2 1, 3) := by decide +kernel
theorem d_M_freeze_197 : decode b_M_freeze 197 = .ok (.goto (-92), 3) := by decide +kernel
theorem d_M_freeze_200 : decode b_M_freeze 200 = .ok (.aload_n 0, 1) := by decide +kernel
theorem d_M_freeze_201 : decode b_M_freeze 201 = .ok (.getfield 47, 3) := by decide +kernel
theorem d_M_freeze_204 : decode b_M_freeze 204 = .ok (.iload_n 1, 1) := by decide +kernel
theorem d_M_freeze_205 : decode b_M_freeze 205 = .ok (.iaload, 1) := by decide +kernel
theorem d_M_freeze_206 : decode b_M_freeze 206 = .ok (.ireturn, 1) := by decide +kernel
theorem d_M_slot_0 : decode b_M_slot 0 = .ok (.iconst 0, 1) := by decide +kernel
theorem d_M_slot_1 : decode b_M_slot 1 = .ok (.istore_n 3, 1) := by decide +kernel
theorem d_M_slot_2 : decode b_M_slot 2 = .ok (.iload_n 3, 1) := by decide +kernel
theorem d_M_slot_3 : decode b_M_slot 3 = .ok (.aload_n 0, 1) := by decide +kernel
theorem d_M_slot_4 : decode b_M_slot 4 = .ok (.getfield 47, 3) := by decide +kernel
theorem d_M_slot_7 : decode b_M_slot 7 = .ok (.iload_n 1, 1) := by decide +kernel
theorem d_M_slot_8 : decode b_M_slot 8 = .ok (.iaload, 1) := by decide +kernel
theorem d_M_slot_9 : decode b_M_slot 9 = .ok (.if_icmp .ge 26, 3) := by decide +kernel
theorem d_M_slot_12 : decode b_M_slot 12 = .ok (.aload_n 0, 1) := by decide +kernel
theorem d_M_slot_13 : decode b_M_slot 13 = .ok (.getfield 53, 3) := by decide +kernel
theorem d_M_slot_16 : decode b_M_slot 16 = .ok (.bipush 20, 2) := by decide +kernel
theorem d_M_slot_18 : decode b_M_slot 18 = .ok (.iload_n 1, 1) := by decide +kernel
theorem d_M_slot_19 : decode b_M_slot 19 = .ok (.imul, 1) := by decide +kernel
theorem d_M_slot_20 : decode b_M_slot 20 = .ok (.iload_n 3, 1) := by decide +kernel
theorem d_M_slot_21 : decode b_M_slot 21 = .ok (.iadd, 1) := by decide +kernel
theorem d_M_slot_22 : decode b_M_slot 22 = .ok (.iaload, 1) := by decide +kernel
theorem d_M_slot_23 : decode b_M_slot 23 = .ok (.iload_n 2, 1) := by decide +kernel
theorem d_M_slot_24 : decode b_M_slot 24 = .ok (.if_icmp .ne 5, 3) := by decide +kernel
theorem d_M_slot_27 : decode b_M_slot 27 = .ok (.iload_n 3, 1) := by decide +kernel
theorem d_M_slot_28 : decode b_M_slot 28 = .ok (.ireturn, 1) := by decide +kernel
theorem d_M_slot_29 : decode b_M_slot 29 = .ok (.iinc 3 1, 3) := by decide +kernel
theorem d_M_slot_32 : decode b_M_slot 32 = .ok (.goto (-30), 3) := by decide +kernel
theorem d_M_slot_35 : decode b_M_slot 35 = .ok (.iconst (-1), 1) := by decide +kernel
theorem d_M_slot_36 : decode b_M_slot 36 = .ok (.ireturn, 1) := by decide +kernel
theorem d_M_found_0 : decode b_M_found 0 = .ok (.aload_n 0, 1) := by decide +kernel
theorem d_M_found_1 : decode b_M_found 1 = .ok (.aload_n 0, 1) := by decide +kernel
theorem d_M_found_2 : decode b_M_found 2 = .ok (.iload_n 1, 1) := by decide +kernel
theorem d_M_found_3 : decode b_M_found 3 = .ok (.invokevirtual 126, 3) := by decide +kernel
theorem d_M_found_6 : decode b_M_found 6 = .ok (.ifCond .eq 11, 3) := by decide +kernel
theorem d_M_found_9 : decode b_M_found 9 = .ok (.aload_n 0, 1) := by decide +kernel
theorem d_M_found_10 : decode b_M_found 10 = .ok (.iload_n 2, 1) := by decide +kernel
theorem d_M_found_11 : decode b_M_found 11 = .ok (.invokevirtual 88, 3) := by decide +kernel
theorem d_M_found_14 : decode b_M_found 14 = .ok (.ifCond .ne 7, 3) := by decide +kernel
theorem d_M_found_17 : decode b_M_found 17 = .ok (.iconst 1, 1) := by decide +kernel
theorem d_M_found_18 : decode b_M_found 18 = .ok (.goto 34, 3) := by decide +kernel
theorem d_M_found_21 : decode b_M_found 21 = .ok (.iload_n 3, 1) := by decide +kernel
theorem d_M_found_22 : decode b_M_found 22 = .ok (.invokestatic 92, 3) := by decide +kernel
theorem d_M_found_25 : decode b_M_found 25 = .ok (.ifCond .eq 22, 3) := by decide +kernel
theorem d_M_found_28 : decode b_M_found 28 = .ok (.iload 4, 2) := by decide +kernel
theorem d_M_found_30 : decode b_M_found 30 = .ok (.iconst 0, 1) := by decide +kernel
theorem d_M_found_31 : decode b_M_found 31 = .ok (.ldc 95, 2) := by decide +kernel
theorem d_M_found_33 : decode b_M_found 33 = .ok (.invokestatic 81, 3) := by decide +kernel
theorem d_M_found_36 : decode b_M_found 36 = .ok (.ifCond .eq 11, 3) := by decide +kernel
theorem d_M_found_39 : decode b_M_found 39 = .ok (.iload 5, 2) := by decide +kernel
theorem d_M_found_41 : decode b_M_found 41 = .ok (.invokestatic 96, 3) := by decide +kernel
theorem d_M_found_44 : decode b_M_found 44 = .ok (.ifCond .ne 7, 3) := by decide +kernel
theorem d_M_found_47 : decode b_M_found 47 = .ok (.iconst 2, 1) := by decide +kernel
theorem d_M_found_48 : decode b_M_found 48 = .ok (.goto 4, 3) := by decide +kernel
theorem d_M_found_51 : decode b_M_found 51 = .ok (.iconst 0, 1) := by decide +kernel
theorem d_M_found_52 : decode b_M_found 52 = .ok (.putfield 74, 3) := by decide +kernel
theorem d_M_found_55 : decode b_M_found 55 = .ok (.aload_n 0, 1) := by decide +kernel
theorem d_M_found_56 : decode b_M_found 56 = .ok (.getfield 74, 3) := by decide +kernel
theorem d_M_found_59 : decode b_M_found 59 = .ok (.ifCond .le 5, 3) := by decide +kernel
theorem d_M_found_62 : decode b_M_found 62 = .ok (.iconst 0, 1) := by decide +kernel
theorem d_M_found_63 : decode b_M_found 63 = .ok (.ireturn, 1) := by decide +kernel
theorem d_M_found_64 : decode b_M_found 64 = .ok (.aload_n 0, 1) := by decide +kernel
theorem d_M_found_65 : decode b_M_found 65 = .ok (.getfield 44, 3) := by decide +kernel
theorem d_M_found_68 : decode b_M_found 68 = .ok (.iload_n 1, 1) := by decide +kernel
theorem d_M_found_69 : decode b_M_found 69 = .ok (.iaload, 1) := by decide +kernel
theorem d_M_found_70 : decode b_M_found 70 = .ok (.iconst 1, 1) := by decide +kernel
theorem d_M_found_71 : decode b_M_found 71 = .ok (.if_icmp .eq 5, 3) := by decide +kernel
theorem d_M_found_74 : decode b_M_found 74 = .ok (.iconst (-1), 1) := by decide +kernel
theorem d_M_found_75 : decode b_M_found 75 = .ok (.ireturn, 1) := by decide +kernel
theorem d_M_found_76 : decode b_M_found 76 = .ok (.aload_n 0, 1) := by decide +kernel
theorem d_M_found_77 : decode b_M_found 77 = .ok (.iload_n 1, 1) := by decide +kernel
theorem d_M_found_78 : decode b_M_found 78 = .ok (.iload_n 2, 1) := by decide +kernel
theorem d_M_found_79 : decode b_M_found 79 = .ok (.invokevirtual 133, 3) := by decide +kernel
theorem d_M_found_82 : decode b_M_found 82 = .ok (.istore 6, 2) := by decide +kernel
theorem d_M_found_84 : decode b_M_found 84 = .ok (.iload 6, 2) := by decide +kernel
theorem d_M_found_86 : decode b_M_found 86 = .ok (.iconst (-1), 1) := by decide +kernel
theorem d_M_found_87 : decode b_M_found 87 = .ok (.if_icmp .ne 6, 3) := by decide +kernel
theorem d_M_found_90 : decode b_M_found 90 = .ok (.bipush (-2), 2) := by decide +kernel
theorem d_M_found_92 : decode b_M_found 92 = .ok (.ireturn, 1) := by decide +kernel
theorem d_M_found_93 : decode b_M_found 93 = .ok (.bipush 120, 2) := by decide +kernel
theorem d_M_found_95 : decode b_M_found 95 = .ok (.iload_n 1, 1) := by decide +kernel
theorem d_M_found_96 : decode b_M_found 96 = .ok (.imul, 1) := by decide +kernel
theorem d_M_found_97 : decode b_M_found 97 = .ok (.bipush 6, 2) := by decide +kernel
theorem d_M_found_99 : decode b_M_found 99 = .ok (.iload 6, 2) := by decide +kernel
theorem d_M_found_101 : decode b_M_found 101 = .ok (.imul, 1) := by decide +kernel
theorem d_M_found_102 : decode b_M_found 102 = .ok (.iadd, 1) := by decide +kernel
theorem d_M_found_103 : decode b_M_found 103 = .ok (.iload_n 3, 1) := by decide +kernel
theorem d_M_found_104 : decode b_M_found 104 = .ok (.iadd, 1) := by decide +kernel
theorem d_M_found_105 : decode b_M_found 105 = .ok (.istore 7, 2) := by decide +kernel
theorem d_M_found_107 : decode b_M_found 107 = .ok (.aload_n 0, 1) := by decide +kernel
theorem d_M_found_108 : decode b_M_found 108 = .ok (.iload 7, 2) := by decide +kernel
theorem d_M_found_110 : decode b_M_found 110 = .ok (.invokevirtual 136, 3) := by decide +kernel
theorem d_M_found_113 : decode b_M_found 113 = .ok (.iload 5, 2) := by decide +kernel
theorem d_M_found_115 : decode b_M_found 115 = .ok (.if_icmp .eq 14, 3) := by decide +kernel
theorem d_M_found_118 : decode b_M_found 118 = .ok (.aload_n 0, 1) := by decide +kernel
theorem d_M_found_119 : decode b_M_found 119 = .ok (.iload 7, 2) := by decide +kernel
theorem d_M_found_121 : decode b_M_found 121 = .ok (.invokevirtual 139, 3) := by decide +kernel
theorem d_M_found_124 : decode b_M_found 124 = .ok (.iload 5, 2) := by decide +kernel
theorem d_M_found_126 : decode b_M_found 126 = .ok (.if_icmp .ne 6, 3) := by decide +kernel
theorem d_M_found_129 : decode b_M_found 129 = .ok (.bipush (-3), 2) := by decide +kernel
theorem d_M_found_131 : decode b_M_found 131 = .ok (.ireturn, 1) := by decide +kernel
theorem d_M_found_132 : decode b_M_found 132 = .ok (.aload_n 0, 1) := by decide +kernel
theorem d_M_found_133 : decode b_M_found 133 = .ok (.iload 7, 2) := by decide +kernel
theorem d_M_found_135 : decode b_M_found 135 = .ok (.invokevirtual 139, 3) := by decide +kernel
theorem d_M_found_138 : decode b_M_found 138 = .ok (.iconst (-1), 1) := by decide +kernel
theorem d_M_found_139 : decode b_M_found 139 = .ok (.if_icmp .eq 6, 3) := by decide +kernel
theorem d_M_found_142 : decode b_M_found 142 = .ok (.bipush (-4), 2) := by decide +kernel
theorem d_M_found_144 : decode b_M_found 144 = .ok (.ireturn, 1) := by decide +kernel
theorem d_M_found_145 : decode b_M_found 145 = .ok (.aload_n 0, 1) := by decide +kernel
theorem d_M_found_146 : decode b_M_found 146 = .ok (.getfield 50, 3) := by decide +kernel
theorem d_M_found_149 : decode b_M_found 149 = .ok (.iload_n 1, 1) := by decide +kernel
theorem d_M_found_150 : decode b_M_found 150 = .ok (.dup2, 1) := by decide +kernel
theorem d_M_found_151 : decode b_M_found 151 = .ok (.iaload, 1) := by decide +kernel
theorem d_M_found_152 : decode b_M_found 152 = .ok (.iconst 1, 1) := by decide +kernel
theorem d_M_found_153 : decode b_M_found 153 = .ok (.iadd, 1) := by decide +kernel
theorem d_M_found_154 : decode b_M_found 154 = .ok (.iastore, 1) := by decide +kernel
theorem d_M_found_155 : decode b_M_found 155 = .ok (.aload_n 0, 1) := by decide +kernel
theorem d_M_found_156 : decode b_M_found 156 = .ok (.iload 7, 2) := by decide +kernel
theorem d_M_found_158 : decode b_M_found 158 = .ok (.invokevirtual 136, 3) := by decide +kernel
theorem d_M_found_161 : decode b_M_found 161 = .ok (.iconst (-1), 1) := by decide +kernel
theorem d_M_found_162 : decode b_M_found 162 = .ok (.if_icmp .ne 26, 3) := by decide +kernel
theorem d_M_found_165 : decode b_M_found 165 = .ok (.aload_n 0, 1) := by decide +kernel
theorem d_M_found_166 : decode b_M_found 166 = .ok (.getfield 59, 3) := by decide +kernel
theorem d_M_found_169 : decode b_M_found 169 = .ok (.iload 7, 2) := by decide +kernel
theorem d_M_found_171 : decode b_M_found 171 = .ok (.iload 4, 2) := by decide +kernel
theorem d_M_found_173 : decode b_M_found 173 = .ok (.iastore, 1) := by decide +kernel
theorem d_M_found_174 : decode b_M_found 174 = .ok (.aload_n 0, 1) := by decide +kernel
theorem d_M_found_175 : decode b_M_found 175 = .ok (.getfield 65, 3) := by decide +kernel
theorem d_M_found_178 : decode b_M_found 178 = .ok (.iload 7, 2) := by decide +kernel
theorem d_M_found_180 : decode b_M_found 180 = .ok (.iload 5, 2) := by decide +kernel
theorem d_M_found_182 : decode b_M_found 182 = .ok (.iconst 1, 1) := by decide +kernel
theorem d_M_found_183 : decode b_M_found 183 = .ok (.iadd, 1) := by decide +kernel
theorem d_M_found_184 : decode b_M_found 184 = .ok (.iastore, 1) := by decide +kernel
theorem d_M_found_185 : decode b_M_found 185 = .ok (.goto 29, 3) := by decide +kernel
theorem d_M_found_188 : decode b_M_found 188 = .ok (.aload_n 0, 1) := by decide +kernel
theorem d_M_found_189 : decode b_M_found 189 = .ok (.getfield 62, 3) := by decide +kernel
theorem d_M_found_192 : decode b_M_found 192 = .ok (.iload 7, 2) := by decide +kernel
theorem d_M_found_194 : decode b_M_found 194 = .ok (.iload 4, 2) := by decide +kernel
theorem d_M_found_196 : decode b_M_found 196 = .ok (.iastore, 1) := by decide +kernel
theorem d_M_found_197 : decode b_M_found 197 = .ok (.aload_n 0, 1) := by decide +kernel
theorem d_M_found_198 : decode b_M_found 198 = .ok (.getfield 65, 3) := by decide +kernel
theorem d_M_found_201 : decode b_M_found 201 = .ok (.iload 7, 2) := by decide +kernel
theorem d_M_found_203 : decode b_M_found 203 = .ok (.dup2, 1) := by decide +kernel
theorem d_M_found_204 : decode b_M_found 204 = .ok (.iaload, 1) := by decide +kernel
theorem d_M_found_205 : decode b_M_found 205 = .ok (.bipush 10, 2) := by decide +kernel
theorem d_M_found_207 : decode b_M_found 207 = .ok (.iload 5, 2) := by decide +kernel
theorem d_M_found_209 : decode b_M_found 209 = .ok (.iconst 1, 1) := by decide +kernel
theorem d_M_found_210 : decode b_M_found 210 = .ok (.iadd, 1) := by decide +kernel
theorem d_M_found_211 : decode b_M_found 211 = .ok (.imul, 1) := by decide +kernel
theorem d_M_found_212 : decode b_M_found 212 = .ok (.iadd, 1) := by decide +kernel
theorem d_M_found_213 : decode b_M_found 213 = .ok (.iastore, 1) := by decide +kernel
theorem d_M_found_214 : decode b_M_found 214 = .ok (.iconst 1, 1) := by decide +kernel
theorem d_M_found_215 : decode b_M_found 215 = .ok (.ireturn, 1) := by decide +kernel
theorem d_M_firstBy_0 : decode b_M_firstBy 0 = .ok (.aload_n 0, 1) := by decide +kernel
theorem d_M_firstBy_1 : decode b_M_firstBy 1 = .ok (.getfield 65, 3) := by decide +kernel
theorem d_M_firstBy_4 : decode b_M_firstBy 4 = .ok (.iload_n 1, 1) := by decide +kernel
theorem d_M_firstBy_5 : decode b_M_firstBy 5 = .ok (.iaload, 1) := by decide +kernel
theorem d_M_firstBy_6 : decode b_M_firstBy 6 = .ok (.bipush 10, 2) := by decide +kernel
theorem d_M_firstBy_8 : decode b_M_firstBy 8 = .ok (.irem, 1) := by decide +kernel
theorem d_M_firstBy_9 : decode b_M_firstBy 9 = .ok (.iconst 1, 1) := by decide +kernel
theorem d_M_firstBy_10 : decode b_M_firstBy 10 = .ok (.isub, 1) := by decide +kernel
theorem d_M_firstBy_11 : decode b_M_firstBy 11 = .ok (.ireturn, 1) := by decide +kernel
theorem d_M_secondBy_0 : decode b_M_secondBy 0 = .ok (.aload_n 0, 1) := by decide +kernel
theorem d_M_secondBy_1 : decode b_M_secondBy 1 = .ok (.getfield 65, 3) := by decide +kernel
theorem d_M_secondBy_4 : decode b_M_secondBy 4 = .ok (.iload_n 1, 1) := by decide +kernel
theorem d_M_secondBy_5 : decode b_M_secondBy 5 = .ok (.iaload, 1) := by decide +kernel
theorem d_M_secondBy_6 : decode b_M_secondBy 6 = .ok (.bipush 10, 2) := by decide +kernel
theorem d_M_secondBy_8 : decode b_M_secondBy 8 = .ok (.idiv, 1) := by decide +kernel
theorem d_M_secondBy_9 : decode b_M_secondBy 9 = .ok (.iconst 1, 1) := by decide +kernel
theorem d_M_secondBy_10 : decode b_M_secondBy 10 = .ok (.isub, 1) := by decide +kernel
theorem d_M_secondBy_11 : decode b_M_secondBy 11 = .ok (.ireturn, 1) := by decide +kernel
theorem d_M_far_0 : decode b_M_far 0 = .ok (.iload_n 0, 1) := by decide +kernel
theorem d_M_far_1 : decode b_M_far 1 = .ok (.iload_n 1, 1) := by decide +kernel
theorem d_M_far_2 : decode b_M_far 2 = .ok (.if_icmp .le 9, 3) := by decide +kernel
theorem d_M_far_5 : decode b_M_far 5 = .ok (.iload_n 0, 1) := by decide +kernel
theorem d_M_far_6 : decode b_M_far 6 = .ok (.iload_n 1, 1) := by decide +kernel
theorem d_M_far_7 : decode b_M_far 7 = .ok (.isub, 1) := by decide +kernel
theorem d_M_far_8 : decode b_M_far 8 = .ok (.goto 6, 3) := by decide +kernel
theorem d_M_far_11 : decode b_M_far 11 = .ok (.iload_n 1, 1) := by decide +kernel
theorem d_M_far_12 : decode b_M_far 12 = .ok (.iload_n 0, 1) := by decide +kernel
theorem d_M_far_13 : decode b_M_far 13 = .ok (.isub, 1) := by decide +kernel
theorem d_M_far_14 : decode b_M_far 14 = .ok (.ireturn, 1) := by decide +kernel
theorem d_M_second_0 : decode b_M_second 0 = .ok (.aload_n 0, 1) := by decide +kernel
theorem d_M_second_1 : decode b_M_second 1 = .ok (.aload_n 0, 1) := by decide +kernel
theorem d_M_second_2 : decode b_M_second 2 = .ok (.iload_n 1, 1) := by decide +kernel
theorem d_M_second_3 : decode b_M_second 3 = .ok (.invokevirtual 126, 3) := by decide +kernel
theorem d_M_second_6 : decode b_M_second 6 = .ok (.ifCond .eq 11, 3) := by decide +kernel
theorem d_M_second_9 : decode b_M_second 9 = .ok (.aload_n 0, 1) := by decide +kernel
theorem d_M_second_10 : decode b_M_second 10 = .ok (.iload_n 2, 1) := by decide +kernel
theorem d_M_second_11 : decode b_M_second 11 = .ok (.invokevirtual 88, 3) := by decide +kernel
theorem d_M_second_14 : decode b_M_second 14 = .ok (.ifCond .ne 7, 3) := by decide +kernel
theorem d_M_second_17 : decode b_M_second 17 = .ok (.iconst 1, 1) := by decide +kernel
theorem d_M_second_18 : decode b_M_second 18 = .ok (.goto 4, 3) := by decide +kernel
theorem d_M_second_21 : decode b_M_second 21 = .ok (.iconst 0, 1) := by decide +kernel
theorem d_M_second_22 : decode b_M_second 22 = .ok (.putfield 74, 3) := by decide +kernel
theorem d_M_second_25 : decode b_M_second 25 = .ok (.aload_n 0, 1) := by decide +kernel
theorem d_M_second_26 : decode b_M_second 26 = .ok (.getfield 74, 3) := by decide +kernel
theorem d_M_second_29 : decode b_M_second 29 = .ok (.ifCond .le 7, 3) := by decide +kernel
theorem d_M_second_32 : decode b_M_second 32 = .ok (.iconst (-1), 1) := by decide +kernel
theorem d_M_second_33 : decode b_M_second 33 = .ok (.goto 9, 3) := by decide +kernel
theorem d_M_second_36 : decode b_M_second 36 = .ok (.aload_n 0, 1) := by decide +kernel
theorem d_M_second_37 : decode b_M_second 37 = .ok (.iload_n 1, 1) := by decide +kernel
theorem d_M_second_38 : decode b_M_second 38 = .ok (.iload_n 2, 1) := by decide +kernel
theorem d_M_second_39 : decode b_M_second 39 = .ok (.invokevirtual 133, 3) := by decide +kernel
theorem d_M_second_42 : decode b_M_second 42 = .ok (.istore 4, 2) := by decide +kernel
theorem d_M_second_44 : decode b_M_second 44 = .ok (.aload_n 0, 1) := by decide +kernel
theorem d_M_second_45 : decode b_M_second 45 = .ok (.iload 4, 2) := by decide +kernel
theorem d_M_second_47 : decode b_M_second 47 = .ok (.iconst (-1), 1) := by decide +kernel
theorem d_M_second_48 : decode b_M_second 48 = .ok (.if_icmp .ne 7, 3) := by decide +kernel
theorem d_M_second_51 : decode b_M_second 51 = .ok (.iconst 1, 1) := by decide +kernel
theorem d_M_second_52 : decode b_M_second 52 = .ok (.goto 29, 3) := by decide +kernel
theorem d_M_second_55 : decode b_M_second 55 = .ok (.iload_n 3, 1) := by decide +kernel
theorem d_M_second_56 : decode b_M_second 56 = .ok (.invokestatic 92, 3) := by decide +kernel
theorem d_M_second_59 : decode b_M_second 59 = .ok (.ifCond .ne 7, 3) := by decide +kernel
theorem d_M_second_62 : decode b_M_second 62 = .ok (.iconst 2, 1) := by decide +kernel
theorem d_M_second_63 : decode b_M_second 63 = .ok (.goto 18, 3) := by decide +kernel
theorem d_M_second_66 : decode b_M_second 66 = .ok (.aload_n 0, 1) := by decide +kernel
theorem d_M_second_67 : decode b_M_second 67 = .ok (.getfield 44, 3) := by decide +kernel
theorem d_M_second_70 : decode b_M_second 70 = .ok (.iload_n 1, 1) := by decide +kernel
theorem d_M_second_71 : decode b_M_second 71 = .ok (.iaload, 1) := by decide +kernel
theorem d_M_second_72 : decode b_M_second 72 = .ok (.iconst 1, 1) := by decide +kernel
theorem d_M_second_73 : decode b_M_second 73 = .ok (.if_icmp .eq 7, 3) := by decide +kernel
theorem d_M_second_76 : decode b_M_second 76 = .ok (.iconst 3, 1) := by decide +kernel
theorem d_M_second_77 : decode b_M_second 77 = .ok (.goto 4, 3) := by decide +kernel
theorem d_M_second_80 : decode b_M_second 80 = .ok (.iconst 0, 1) := by decide +kernel
theorem d_M_second_81 : decode b_M_second 81 = .ok (.putfield 74, 3) := by decide +kernel
theorem d_M_second_84 : decode b_M_second 84 = .ok (.aload_n 0, 1) := by decide +kernel
theorem d_M_second_85 : decode b_M_second 85 = .ok (.getfield 74, 3) := by decide +kernel
theorem d_M_second_88 : decode b_M_second 88 = .ok (.ifCond .le 5, 3) := by decide +kernel
theorem d_M_second_91 : decode b_M_second 91 = .ok (.iconst 0, 1) := by decide +kernel
theorem d_M_second_92 : decode b_M_second 92 = .ok (.ireturn, 1) := by decide +kernel
theorem d_M_second_93 : decode b_M_second 93 = .ok (.bipush 120, 2) := by decide +kernel
theorem d_M_second_95 : decode b_M_second 95 = .ok (.iload_n 1, 1) := by decide +kernel
theorem d_M_second_96 : decode b_M_second 96 = .ok (.imul, 1) := by decide +kernel
theorem d_M_second_97 : decode b_M_second 97 = .ok (.bipush 6, 2) := by decide +kernel
theorem d_M_second_99 : decode b_M_second 99 = .ok (.iload 4, 2) := by decide +kernel
theorem d_M_second_101 : decode b_M_second 101 = .ok (.imul, 1) := by decide +kernel
theorem d_M_second_102 : decode b_M_second 102 = .ok (.iadd, 1) := by decide +kernel
theorem d_M_second_103 : decode b_M_second 103 = .ok (.iload_n 3, 1) := by decide +kernel
theorem d_M_second_104 : decode b_M_second 104 = .ok (.iadd, 1) := by decide +kernel
theorem d_M_second_105 : decode b_M_second 105 = .ok (.istore 5, 2) := by decide +kernel
theorem d_M_second_107 : decode b_M_second 107 = .ok (.aload_n 0, 1) := by decide +kernel
theorem d_M_second_108 : decode b_M_second 108 = .ok (.iload 5, 2) := by decide +kernel
theorem d_M_second_110 : decode b_M_second 110 = .ok (.invokevirtual 136, 3) := by decide +kernel
theorem d_M_second_113 : decode b_M_second 113 = .ok (.iconst (-1), 1) := by decide +kernel
theorem d_M_second_114 : decode b_M_second 114 = .ok (.if_icmp .eq 48, 3) := by decide +kernel
theorem d_M_second_117 : decode b_M_second 117 = .ok (.aload_n 0, 1) := by decide +kernel
theorem d_M_second_118 : decode b_M_second 118 = .ok (.iload 5, 2) := by decide +kernel
theorem d_M_second_120 : decode b_M_second 120 = .ok (.invokevirtual 139, 3) := by decide +kernel
theorem d_M_second_123 : decode b_M_second 123 = .ok (.iconst (-1), 1) := by decide +kernel
theorem d_M_second_124 : decode b_M_second 124 = .ok (.if_icmp .ne 38, 3) := by decide +kernel
theorem d_M_second_127 : decode b_M_second 127 = .ok (.aload_n 0, 1) := by decide +kernel
theorem d_M_second_128 : decode b_M_second 128 = .ok (.getfield 59, 3) := by decide +kernel
theorem d_M_second_131 : decode b_M_second 131 = .ok (.iload 5, 2) := by decide +kernel
theorem d_M_second_133 : decode b_M_second 133 = .ok (.iaload, 1) := by decide +kernel
theorem d_M_second_134 : decode b_M_second 134 = .ok (.aload_n 0, 1) := by decide +kernel
theorem d_M_second_135 : decode b_M_second 135 = .ok (.getfield 56, 3) := by decide +kernel
theorem d_M_second_138 : decode b_M_second 138 = .ok (.iload 5, 2) := by decide +kernel
theorem d_M_second_140 : decode b_M_second 140 = .ok (.iaload, 1) := by decide +kernel
theorem d_M_second_141 : decode b_M_second 141 = .ok (.invokestatic 142, 3) := by decide +kernel
theorem d_M_second_144 : decode b_M_second 144 = .ok (.aload_n 0, 1) := by decide +kernel
theorem d_M_second_145 : decode b_M_second 145 = .ok (.getfield 22, 3) := by decide +kernel
theorem d_M_second_148 : decode b_M_second 148 = .ok (.aload_n 0, 1) := by decide +kernel
theorem d_M_second_149 : decode b_M_second 149 = .ok (.getfield 7, 3) := by decide +kernel
theorem d_M_second_152 : decode b_M_second 152 = .ok (.iload_n 2, 1) := by decide +kernel
theorem d_M_second_153 : decode b_M_second 153 = .ok (.iaload, 1) := by decide +kernel
theorem d_M_second_154 : decode b_M_second 154 = .ok (.iaload, 1) := by decide +kernel
theorem d_M_second_155 : decode b_M_second 155 = .ok (.if_icmp .le 7, 3) := by decide +kernel
theorem d_M_second_158 : decode b_M_second 158 = .ok (.iconst 1, 1) := by decide +kernel
theorem d_M_second_159 : decode b_M_second 159 = .ok (.goto 4, 3) := by decide +kernel
theorem d_M_second_162 : decode b_M_second 162 = .ok (.iconst 0, 1) := by decide +kernel
theorem d_M_second_163 : decode b_M_second 163 = .ok (.ireturn, 1) := by decide +kernel
theorem d_M_close_0 : decode b_M_close 0 = .ok (.aload_n 0, 1) := by decide +kernel
theorem d_M_close_1 : decode b_M_close 1 = .ok (.aload_n 0, 1) := by decide +kernel
theorem d_M_close_2 : decode b_M_close 2 = .ok (.iload_n 1, 1) := by decide +kernel
theorem d_M_close_3 : decode b_M_close 3 = .ok (.invokevirtual 126, 3) := by decide +kernel
theorem d_M_close_6 : decode b_M_close 6 = .ok (.ifCond .ne 7, 3) := by decide +kernel
theorem d_M_close_9 : decode b_M_close 9 = .ok (.iconst 1, 1) := by decide +kernel
theorem d_M_close_10 : decode b_M_close 10 = .ok (.goto 4, 3) := by decide +kernel
theorem d_M_close_13 : decode b_M_close 13 = .ok (.iconst 0, 1) := by decide +kernel
theorem d_M_close_14 : decode b_M_close 14 = .ok (.putfield 74, 3) := by decide +kernel
theorem d_M_close_17 : decode b_M_close 17 = .ok (.aload_n 0, 1) := by decide +kernel
theorem d_M_close_18 : decode b_M_close 18 = .ok (.getfield 74, 3) := by decide +kernel
theorem d_M_close_21 : decode b_M_close 21 = .ok (.ifCond .ne 22, 3) := by decide +kernel
theorem d_M_close_24 : decode b_M_close 24 = .ok (.aload_n 0, 1) := by decide +kernel
theorem d_M_close_25 : decode b_M_close 25 = .ok (.aload_n 0, 1) := by decide +kernel
theorem d_M_close_26 : decode b_M_close 26 = .ok (.getfield 44, 3) := by decide +kernel
theorem d_M_close_29 : decode b_M_close 29 = .ok (.iload_n 1, 1) := by decide +kernel
theorem d_M_close_30 : decode b_M_close 30 = .ok (.iaload, 1) := by decide +kernel
theorem d_M_close_31 : decode b_M_close 31 = .ok (.iconst 1, 1) := by decide +kernel
theorem d_M_close_32 : decode b_M_close 32 = .ok (.if_icmp .eq 7, 3) := by decide +kernel
theorem d_M_close_35 : decode b_M_close 35 = .ok (.iconst 2, 1) := by decide +kernel
theorem d_M_close_36 : decode b_M_close 36 = .ok (.goto 4, 3) := by decide +kernel
theorem d_M_close_39 : decode b_M_close 39 = .ok (.iconst 0, 1) := by decide +kernel
theorem d_M_close_40 : decode b_M_close 40 = .ok (.putfield 74, 3) := by decide +kernel
theorem d_M_close_43 : decode b_M_close 43 = .ok (.aload_n 0, 1) := by decide +kernel
theorem d_M_close_44 : decode b_M_close 44 = .ok (.getfield 74, 3) := by decide +kernel
theorem d_M_close_47 : decode b_M_close 47 = .ok (.ifCond .le 5, 3) := by decide +kernel
theorem d_M_close_50 : decode b_M_close 50 = .ok (.iconst 0, 1) := by decide +kernel
theorem d_M_close_51 : decode b_M_close 51 = .ok (.ireturn, 1) := by decide +kernel
theorem d_M_close_52 : decode b_M_close 52 = .ok (.aload_n 0, 1) := by decide +kernel
theorem d_M_close_53 : decode b_M_close 53 = .ok (.getfield 44, 3) := by decide +kernel
theorem d_M_close_56 : decode b_M_close 56 = .ok (.iload_n 1, 1) := by decide +kernel
theorem d_M_close_57 : decode b_M_close 57 = .ok (.iconst 2, 1) := by decide +kernel
theorem d_M_close_58 : decode b_M_close 58 = .ok (.iastore, 1) := by decide +kernel
theorem d_M_close_59 : decode b_M_close 59 = .ok (.iconst 0, 1) := by decide +kernel
theorem d_M_close_60 : decode b_M_close 60 = .ok (.istore_n 2, 1) := by decide +kernel
theorem d_M_close_61 : decode b_M_close 61 = .ok (.iload_n 2, 1) := by decide +kernel
theorem d_M_close_62 : decode b_M_close 62 = .ok (.aload_n 0, 1) := by decide +kernel
theorem d_M_close_63 : decode b_M_close 63 = .ok (.getfield 47, 3) := by decide +kernel
theorem d_M_close_66 : decode b_M_close 66 = .ok (.iload_n 1, 1) := by decide +kernel
theorem d_M_close_67 : decode b_M_close 67 = .ok (.iaload, 1) := by decide +kernel
theorem d_M_close_68 : decode b_M_close 68 = .ok (.if_icmp .ge 15, 3) := by decide +kernel
theorem d_M_close_71 : decode b_M_close 71 = .ok (.aload_n 0, 1) := by decide +kernel
theorem d_M_close_72 : decode b_M_close 72 = .ok (.iload_n 1, 1) := by decide +kernel
theorem d_M_close_73 : decode b_M_close 73 = .ok (.iload_n 2, 1) := by decide +kernel
theorem d_M_close_74 : decode b_M_close 74 = .ok (.invokevirtual 145, 3) := by decide +kernel
theorem d_M_close_77 : decode b_M_close 77 = .ok (.iinc 2 1, 3) := by decide +kernel
theorem d_M_close_80 : decode b_M_close 80 = .ok (.goto (-19), 3) := by decide +kernel
theorem d_M_close_83 : decode b_M_close 83 = .ok (.iconst 0, 1) := by decide +kernel
theorem d_M_close_84 : decode b_M_close 84 = .ok (.istore_n 2, 1) := by decide +kernel
theorem d_M_close_85 : decode b_M_close 85 = .ok (.aload_n 0, 1) := by decide +kernel
theorem d_M_close_86 : decode b_M_close 86 = .ok (.iload_n 1, 1) := by decide +kernel
theorem d_M_close_87 : decode b_M_close 87 = .ok (.iload_n 2, 1) := by decide +kernel
theorem d_M_close_88 : decode b_M_close 88 = .ok (.invokevirtual 149, 3) := by decide +kernel
theorem d_M_close_91 : decode b_M_close 91 = .ok (.iconst (-1), 1) := by decide +kernel
theorem d_M_close_92 : decode b_M_close 92 = .ok (.if_icmp .eq 9, 3) := by decide +kernel
theorem d_M_close_95 : decode b_M_close 95 = .ok (.iinc 2 1, 3) := by decide +kernel
theorem d_M_close_98 : decode b_M_close 98 = .ok (.goto (-13), 3) := by decide +kernel
theorem d_M_close_101 : decode b_M_close 101 = .ok (.iload_n 2, 1) := by decide +kernel
theorem d_M_close_102 : decode b_M_close 102 = .ok (.ireturn, 1) := by decide +kernel
theorem d_M_counts_0 : decode b_M_counts 0 = .ok (.aload_n 0, 1) := by decide +kernel
theorem d_M_counts_1 : decode b_M_counts 1 = .ok (.iload_n 1, 1) := by decide +kernel
theorem d_M_counts_2 : decode b_M_counts 2 = .ok (.invokevirtual 139, 3) := by decide +kernel
theorem d_M_counts_5 : decode b_M_counts 5 = .ok (.iconst (-1), 1) := by decide +kernel
theorem d_M_counts_6 : decode b_M_counts 6 = .ok (.if_icmp .eq 12, 3) := by decide +kernel
theorem d_M_counts_9 : decode b_M_counts 9 = .ok (.aload_n 0, 1) := by decide +kernel
theorem d_M_counts_10 : decode b_M_counts 10 = .ok (.getfield 62, 3) := by decide +kernel
theorem d_M_counts_13 : decode b_M_counts 13 = .ok (.iload_n 1, 1) := by decide +kernel
theorem d_M_counts_14 : decode b_M_counts 14 = .ok (.iaload, 1) := by decide +kernel
theorem d_M_counts_15 : decode b_M_counts 15 = .ok (.goto 22, 3) := by decide +kernel
theorem d_M_counts_18 : decode b_M_counts 18 = .ok (.aload_n 0, 1) := by decide +kernel
theorem d_M_counts_19 : decode b_M_counts 19 = .ok (.iload_n 1, 1) := by decide +kernel
theorem d_M_counts_20 : decode b_M_counts 20 = .ok (.invokevirtual 136, 3) := by decide +kernel
theorem d_M_counts_23 : decode b_M_counts 23 = .ok (.iconst (-1), 1) := by decide +kernel
theorem d_M_counts_24 : decode b_M_counts 24 = .ok (.if_icmp .eq 12, 3) := by decide +kernel
theorem d_M_counts_27 : decode b_M_counts 27 = .ok (.aload_n 0, 1) := by decide +kernel
theorem d_M_counts_28 : decode b_M_counts 28 = .ok (.getfield 59, 3) := by decide +kernel
theorem d_M_counts_31 : decode b_M_counts 31 = .ok (.iload_n 1, 1) := by decide +kernel
theorem d_M_counts_32 : decode b_M_counts 32 = .ok (.iaload, 1) := by decide +kernel
theorem d_M_counts_33 : decode b_M_counts 33 = .ok (.goto 4, 3) := by decide +kernel
theorem d_M_counts_36 : decode b_M_counts 36 = .ok (.iconst 0, 1) := by decide +kernel
theorem d_M_counts_37 : decode b_M_counts 37 = .ok (.ireturn, 1) := by decide +kernel
theorem d_M_isTold_0 : decode b_M_isTold 0 = .ok (.iconst 0, 1) := by decide +kernel
theorem d_M_isTold_1 : decode b_M_isTold 1 = .ok (.istore_n 3, 1) := by decide +kernel
theorem d_M_isTold_2 : decode b_M_isTold 2 = .ok (.iconst 0, 1) := by decide +kernel
theorem d_M_isTold_3 : decode b_M_isTold 3 = .ok (.istore 4, 2) := by decide +kernel
theorem d_M_isTold_5 : decode b_M_isTold 5 = .ok (.iload 4, 2) := by decide +kernel
theorem d_M_isTold_7 : decode b_M_isTold 7 = .ok (.bipush 6, 2) := by decide +kernel
theorem d_M_isTold_9 : decode b_M_isTold 9 = .ok (.if_icmp .ge 39, 3) := by decide +kernel
theorem d_M_isTold_12 : decode b_M_isTold 12 = .ok (.iload_n 3, 1) := by decide +kernel
theorem d_M_isTold_13 : decode b_M_isTold 13 = .ok (.ifCond .ne 23, 3) := by decide +kernel
theorem d_M_isTold_16 : decode b_M_isTold 16 = .ok (.aload_n 0, 1) := by decide +kernel
theorem d_M_isTold_17 : decode b_M_isTold 17 = .ok (.getfield 65, 3) := by decide +kernel
theorem d_M_isTold_20 : decode b_M_isTold 20 = .ok (.bipush 120, 2) := by decide +kernel
theorem d_M_isTold_22 : decode b_M_isTold 22 = .ok (.iload_n 1, 1) := by decide +kernel
theorem d_M_isTold_23 : decode b_M_isTold 23 = .ok (.imul, 1) := by decide +kernel
theorem d_M_isTold_24 : decode b_M_isTold 24 = .ok (.bipush 6, 2) := by decide +kernel
theorem d_M_isTold_26 : decode b_M_isTold 26 = .ok (.iload_n 2, 1) := by decide +kernel
theorem d_M_isTold_27 : decode b_M_isTold 27 = .ok (.imul, 1) := by decide +kernel
theorem d_M_isTold_28 : decode b_M_isTold 28 = .ok (.iadd, 1) := by decide +kernel
theorem d_M_isTold_29 : decode b_M_isTold 29 = .ok (.iload 4, 2) := by decide +kernel
theorem d_M_isTold_31 : decode b_M_isTold 31 = .ok (.iadd, 1) := by decide +kernel
theorem d_M_isTold_32 : decode b_M_isTold 32 = .ok (.iaload, 1) := by decide +kernel
theorem d_M_isTold_33 : decode b_M_isTold 33 = .ok (.ifCond .le 7, 3) := by decide +kernel
theorem d_M_isTold_36 : decode b_M_isTold 36 = .ok (.iconst 1, 1) := by decide +kernel
theorem d_M_isTold_37 : decode b_M_isTold 37 = .ok (.goto 4, 3) := by decide +kernel
theorem d_M_isTold_40 : decode b_M_isTold 40 = .ok (.iconst 0, 1) := by decide +kernel
theorem d_M_isTold_41 : decode b_M_isTold 41 = .ok (.istore_n 3, 1) := by decide +kernel
theorem d_M_isTold_42 : decode b_M_isTold 42 = .ok (.iinc 4 1, 3) := by decide +kernel
theorem d_M_isTold_45 : decode b_M_isTold 45 = .ok (.goto (-40), 3) := by decide +kernel
theorem d_M_isTold_48 : decode b_M_isTold 48 = .ok (.iload_n 3, 1) := by decide +kernel
theorem d_M_isTold_49 : decode b_M_isTold 49 = .ok (.ireturn, 1) := by decide +kernel
theorem d_M_closePlace_0 : decode b_M_closePlace 0 = .ok (.aload_n 0, 1) := by decide +kernel
theorem d_M_closePlace_1 : decode b_M_closePlace 1 = .ok (.iload_n 1, 1) := by decide +kernel
theorem d_M_closePlace_2 : decode b_M_closePlace 2 = .ok (.iload_n 2, 1) := by decide +kernel
theorem d_M_closePlace_3 : decode b_M_closePlace 3 = .ok (.invokevirtual 152, 3) := by decide +kernel
theorem d_M_closePlace_6 : decode b_M_closePlace 6 = .ok (.ifCond .ne 4, 3) := by decide +kernel
theorem d_M_closePlace_9 : decode b_M_closePlace 9 = .ok (.return_, 1) := by decide +kernel
theorem d_M_closePlace_10 : decode b_M_closePlace 10 = .ok (.aload_n 0, 1) := by decide +kernel
theorem d_M_closePlace_11 : decode b_M_closePlace 11 = .ok (.getfield 53, 3) := by decide +kernel
theorem d_M_closePlace_14 : decode b_M_closePlace 14 = .ok (.bipush 20, 2) := by decide +kernel
theorem d_M_closePlace_16 : decode b_M_closePlace 16 = .ok (.iload_n 1, 1) := by decide +kernel
theorem d_M_closePlace_17 : decode b_M_closePlace 17 = .ok (.imul, 1) := by decide +kernel
theorem d_M_closePlace_18 : decode b_M_closePlace 18 = .ok (.iload_n 2, 1) := by decide +kernel
theorem d_M_closePlace_19 : decode b_M_closePlace 19 = .ok (.iadd, 1) := by decide +kernel
theorem d_M_closePlace_20 : decode b_M_closePlace 20 = .ok (.iaload, 1) := by decide +kernel
theorem d_M_closePlace_21 : decode b_M_closePlace 21 = .ok (.istore_n 3, 1) := by decide +kernel
theorem d_M_closePlace_22 : decode b_M_closePlace 22 = .ok (.iconst 1, 1) := by decide +kernel
theorem d_M_closePlace_23 : decode b_M_closePlace 23 = .ok (.istore 4, 2) := by decide +kernel
theorem d_M_closePlace_25 : decode b_M_closePlace 25 = .ok (.iconst 0, 1) := by decide +kernel
theorem d_M_closePlace_26 : decode b_M_closePlace 26 = .ok (.istore 5, 2) := by decide +kernel
theorem d_M_closePlace_28 : decode b_M_closePlace 28 = .ok (.iload 5, 2) := by decide +kernel
theorem d_M_closePlace_30 : decode b_M_closePlace 30 = .ok (.bipush 6, 2) := by decide +kernel
theorem d_M_closePlace_32 : decode b_M_closePlace 32 = .ok (.if_icmp .ge 65, 3) := by decide +kernel
theorem d_M_closePlace_35 : decode b_M_closePlace 35 = .ok (.bipush 120, 2) := by decide +kernel
theorem d_M_closePlace_37 : decode b_M_closePlace 37 = .ok (.iload_n 1, 1) := by decide +kernel
theorem d_M_closePlace_38 : decode b_M_closePlace 38 = .ok (.imul, 1) := by decide +kernel
theorem d_M_closePlace_39 : decode b_M_closePlace 39 = .ok (.bipush 6, 2) := by decide +kernel
theorem d_M_closePlace_41 : decode b_M_closePlace 41 = .ok (.iload_n 2, 1) := by decide +kernel
theorem d_M_closePlace_42 : decode b_M_closePlace 42 = .ok (.imul, 1) := by decide +kernel
theorem d_M_closePlace_43 : decode b_M_closePlace 43 = .ok (.iadd, 1) := by decide +kernel
theorem d_M_closePlace_44 : decode b_M_closePlace 44 = .ok (.iload 5, 2) := by decide +kernel
theorem d_M_closePlace_46 : decode b_M_closePlace 46 = .ok (.iadd, 1) := by decide +kernel
theorem d_M_closePlace_47 : decode b_M_closePlace 47 = .ok (.istore 6, 2) := by decide +kernel
theorem d_M_closePlace_49 : decode b_M_closePlace 49 = .ok (.iload 4, 2) := by decide +kernel
theorem d_M_closePlace_51 : decode b_M_closePlace 51 = .ok (.ifCond .eq 37, 3) := by decide +kernel
theorem d_M_closePlace_54 : decode b_M_closePlace 54 = .ok (.aload_n 0, 1) := by decide +kernel
theorem d_M_closePlace_55 : decode b_M_closePlace 55 = .ok (.iload 6, 2) := by decide +kernel
theorem d_M_closePlace_57 : decode b_M_closePlace 57 = .ok (.invokevirtual 156, 3) := by decide +kernel
theorem d_M_closePlace_60 : decode b_M_closePlace 60 = .ok (.aload_n 0, 1) := by decide +kernel
theorem d_M_closePlace_61 : decode b_M_closePlace 61 = .ok (.getfield 56, 3) := by decide +kernel
theorem d_M_closePlace_64 : decode b_M_closePlace 64 = .ok (.iload 6, 2) := by decide +kernel
theorem d_M_closePlace_66 : decode b_M_closePlace 66 = .ok (.iaload, 1) := by decide +kernel
theorem d_M_closePlace_67 : decode b_M_closePlace 67 = .ok (.invokestatic 142, 3) := by decide +kernel
theorem d_M_closePlace_70 : decode b_M_closePlace 70 = .ok (.aload_n 0, 1) := by decide +kernel
theorem d_M_closePlace_71 : decode b_M_closePlace 71 = .ok (.getfield 22, 3) := by decide +kernel
theorem d_M_closePlace_74 : decode b_M_closePlace 74 = .ok (.aload_n 0, 1) := by decide +kernel
theorem d_M_closePlace_75 : decode b_M_closePlace 75 = .ok (.getfield 7, 3) := by decide +kernel
theorem d_M_closePlace_78 : decode b_M_closePlace 78 = .ok (.iload_n 3, 1) := by decide +kernel
theorem d_M_closePlace_79 : decode b_M_closePlace 79 = .ok (.iaload, 1) := by decide +kernel
theorem d_M_closePlace_80 : decode b_M_closePlace 80 = .ok (.iaload, 1) := by decide +kernel
theorem d_M_closePlace_81 : decode b_M_closePlace 81 = .ok (.if_icmp .gt 7, 3) := by decide +kernel
theorem d_M_closePlace_84 : decode b_M_closePlace 84 = .ok (.iconst 1, 1) := by decide +kernel
theorem d_M_closePlace_85 : decode b_M_closePlace 85 = .ok (.goto 4, 3) := by decide +kernel
theorem d_M_closePlace_88 : decode b_M_closePlace 88 = .ok (.iconst 0, 1) := by decide +kernel
theorem d_M_closePlace_89 : decode b_M_closePlace 89 = .ok (.istore 4, 2) := by decide +kernel
theorem d_M_closePlace_91 : decode b_M_closePlace 91 = .ok (.iinc 5 1, 3) := by decide +kernel
theorem d_M_closePlace_94 : decode b_M_closePlace 94 = .ok (.goto (-66), 3) := by decide +kernel
theorem d_M_closePlace_97 : decode b_M_closePlace 97 = .ok (.aload_n 0, 1) := by decide +kernel
theorem d_M_closePlace_98 : decode b_M_closePlace 98 = .ok (.getfield 13, 3) := by decide +kernel
theorem d_M_closePlace_101 : decode b_M_closePlace 101 = .ok (.iload_n 3, 1) := by decide +kernel
theorem d_M_closePlace_102 : decode b_M_closePlace 102 = .ok (.aload_n 0, 1) := by decide +kernel
theorem d_M_closePlace_103 : decode b_M_closePlace 103 = .ok (.getfield 102, 3) := by decide +kernel
theorem d_M_closePlace_106 : decode b_M_closePlace 106 = .ok (.iastore, 1) := by decide +kernel
theorem d_M_closePlace_107 : decode b_M_closePlace 107 = .ok (.aload_n 0, 1) := by decide +kernel
theorem d_M_closePlace_108 : decode b_M_closePlace 108 = .ok (.dup, 1) := by decide +kernel
theorem d_M_closePlace_109 : decode b_M_closePlace 109 = .ok (.getfield 158, 3) := by decide +kernel
theorem d_M_closePlace_112 : decode b_M_closePlace 112 = .ok (.iconst 1, 1) := by decide +kernel
theorem d_M_closePlace_113 : decode b_M_closePlace 113 = .ok (.iadd, 1) := by decide +kernel
theorem d_M_closePlace_114 : decode b_M_closePlace 114 = .ok (.putfield 158, 3) := by decide +kernel
theorem d_M_closePlace_117 : decode b_M_closePlace 117 = .ok (.aload_n 0, 1) := by decide +kernel
theorem d_M_closePlace_118 : decode b_M_closePlace 118 = .ok (.dup, 1) := by decide +kernel
theorem d_M_closePlace_119 : decode b_M_closePlace 119 = .ok (.getfield 161, 3) := by decide +kernel
theorem d_M_closePlace_122 : decode b_M_closePlace 122 = .ok (.iload 4, 2) := by decide +kernel
theorem d_M_closePlace_124 : decode b_M_closePlace 124 = .ok (.ifCond .eq 7, 3) := by decide +kernel
theorem d_M_closePlace_127 : decode b_M_closePlace 127 = .ok (.iconst 1, 1) := by decide +kernel
theorem d_M_closePlace_128 : decode b_M_closePlace 128 = .ok (.goto 4, 3) := by decide +kernel
theorem d_M_closePlace_131 : decode b_M_closePlace 131 = .ok (.iconst 0, 1) := by decide +kernel
theorem d_M_closePlace_132 : decode b_M_closePlace 132 = .ok (.iadd, 1) := by decide +kernel
theorem d_M_closePlace_133 : decode b_M_closePlace 133 = .ok (.putfield 161, 3) := by decide +kernel
theorem d_M_closePlace_136 : decode b_M_closePlace 136 = .ok (.return_, 1) := by decide +kernel
theorem d_M_difference_0 : decode b_M_difference 0 = .ok (.iload_n 2, 1) := by decide +kernel
theorem d_M_difference_1 : decode b_M_difference 1 = .ok (.istore_n 3, 1) := by decide +kernel
theorem d_M_difference_2 : decode b_M_difference 2 = .ok (.iconst 0, 1) := by decide +kernel
theorem d_M_difference_3 : decode b_M_difference 3 = .ok (.istore 4, 2) := by decide +kernel
theorem d_M_difference_5 : decode b_M_difference 5 = .ok (.iload 4, 2) := by decide +kernel
theorem d_M_difference_7 : decode b_M_difference 7 = .ok (.aload_n 0, 1) := by decide +kernel
theorem d_M_difference_8 : decode b_M_difference 8 = .ok (.getfield 47, 3) := by decide +kernel
theorem d_M_difference_11 : decode b_M_difference 11 = .ok (.iload_n 1, 1) := by decide +kernel
theorem d_M_difference_12 : decode b_M_difference 12 = .ok (.iaload, 1) := by decide +kernel
theorem d_M_difference_13 : decode b_M_difference 13 = .ok (.if_icmp .ge 93, 3) := by decide +kernel
theorem d_M_difference_16 : decode b_M_difference 16 = .ok (.iload_n 2, 1) := by decide +kernel
theorem d_M_difference_17 : decode b_M_difference 17 = .ok (.ifCond .lt 89, 3) := by decide +kernel
theorem d_M_difference_20 : decode b_M_difference 20 = .ok (.aload_n 0, 1) := by decide +kernel
theorem d_M_difference_21 : decode b_M_difference 21 = .ok (.getfield 44, 3) := by decide +kernel
theorem d_M_difference_24 : decode b_M_difference 24 = .ok (.iload_n 1, 1) := by decide +kernel
theorem d_M_difference_25 : decode b_M_difference 25 = .ok (.iaload, 1) := by decide +kernel
theorem d_M_difference_26 : decode b_M_difference 26 = .ok (.iconst 2, 1) := by decide +kernel
theorem d_M_difference_27 : decode b_M_difference 27 = .ok (.if_icmp .ne 79, 3) := by decide +kernel
theorem d_M_difference_30 : decode b_M_difference 30 = .ok (.iconst 0, 1) := by decide +kernel
theorem d_M_difference_31 : decode b_M_difference 31 = .ok (.istore 5, 2) := by decide +kernel
theorem d_M_difference_33 : decode b_M_difference 33 = .ok (.iload 5, 2) := by decide +kernel
theorem d_M_difference_35 : decode b_M_difference 35 = .ok (.bipush 6, 2) := by decide +kernel
theorem d_M_difference_37 : decode b_M_difference 37 = .ok (.if_icmp .ge 63, 3) := by decide +kernel
theorem d_M_difference_40 : decode b_M_difference 40 = .ok (.aload_n 0, 1) := by decide +kernel
theorem d_M_difference_41 : decode b_M_difference 41 = .ok (.iload_n 1, 1) := by decide +kernel
theorem d_M_difference_42 : decode b_M_difference 42 = .ok (.iload 4, 2) := by decide +kernel
theorem d_M_difference_44 : decode b_M_difference 44 = .ok (.invokevirtual 152, 3) := by decide +kernel
theorem d_M_difference_47 : decode b_M_difference 47 = .ok (.ifCond .eq 53, 3) := by decide +kernel
theorem d_M_difference_50 : decode b_M_difference 50 = .ok (.bipush 120, 2) := by decide +kernel
theorem d_M_difference_52 : decode b_M_difference 52 = .ok (.iload_n 1, 1) := by decide +kernel
theorem d_M_difference_53 : decode b_M_difference 53 = .ok (.imul, 1) := by decide +kernel
theorem d_M_difference_54 : decode b_M_difference 54 = .ok (.bipush 6, 2) := by decide +kernel
theorem d_M_difference_56 : decode b_M_difference 56 = .ok (.iload 4, 2) := by decide +kernel
theorem d_M_difference_58 : decode b_M_difference 58 = .ok (.imul, 1) := by decide +kernel
theorem d_M_difference_59 : decode b_M_difference 59 = .ok (.iadd, 1) := by decide +kernel
theorem d_M_difference_60 : decode b_M_difference 60 = .ok (.iload 5, 2) := by decide +kernel
theorem d_M_difference_62 : decode b_M_difference 62 = .ok (.iadd, 1) := by decide +kernel
theorem d_M_difference_63 : decode b_M_difference 63 = .ok (.istore 6, 2) := by decide +kernel
theorem d_M_difference_65 : decode b_M_difference 65 = .ok (.aload_n 0, 1) := by decide +kernel
theorem d_M_difference_66 : decode b_M_difference 66 = .ok (.iload 6, 2) := by decide +kernel
theorem d_M_difference_68 : decode b_M_difference 68 = .ok (.invokevirtual 156, 3) := by decide +kernel
theorem d_M_difference_71 : decode b_M_difference 71 = .ok (.aload_n 0, 1) := by decide +kernel
theorem d_M_difference_72 : decode b_M_difference 72 = .ok (.getfield 56, 3) := by decide +kernel
theorem d_M_difference_75 : decode b_M_difference 75 = .ok (.iload 6, 2) := by decide +kernel
theorem d_M_difference_77 : decode b_M_difference 77 = .ok (.iaload, 1) := by decide +kernel
theorem d_M_difference_78 : decode b_M_difference 78 = .ok (.if_icmp .ne 6, 3) := by decide +kernel
theorem d_M_difference_81 : decode b_M_difference 81 = .ok (.goto 13, 3) := by decide +kernel
theorem d_M_difference_84 : decode b_M_difference 84 = .ok (.iload_n 3, 1) := by decide +kernel
theorem d_M_difference_85 : decode b_M_difference 85 = .ok (.ifCond .ne 6, 3) := by decide +kernel
theorem d_M_difference_88 : decode b_M_difference 88 = .ok (.iload 6, 2) := by decide +kernel
theorem d_M_difference_90 : decode b_M_difference 90 = .ok (.ireturn, 1) := by decide +kernel
theorem d_M_difference_91 : decode b_M_difference 91 = .ok (.iinc 3 (-1), 3) := by decide +kernel
theorem d_M_difference_94 : decode b_M_difference 94 = .ok (.iinc 5 1, 3) := by decide +kernel
theorem d_M_difference_97 : decode b_M_difference 97 = .ok (.goto (-64), 3) := by decide +kernel
theorem d_M_difference_100 : decode b_M_difference 100 = .ok (.iinc 4 1, 3) := by decide +kernel
theorem d_M_difference_103 : decode b_M_difference 103 = .ok (.goto (-98), 3) := by decide +kernel
theorem d_M_difference_106 : decode b_M_difference 106 = .ok (.iconst (-1), 1) := by decide +kernel
theorem d_M_difference_107 : decode b_M_difference 107 = .ok (.ireturn, 1) := by decide +kernel
theorem d_M_bookedAt_0 : decode b_M_bookedAt 0 = .ok (.bipush 6, 2) := by decide +kernel
theorem d_M_bookedAt_2 : decode b_M_bookedAt 2 = .ok (.aload_n 0, 1) := by decide +kernel
theorem d_M_bookedAt_3 : decode b_M_bookedAt 3 = .ok (.getfield 53, 3) := by decide +kernel
theorem d_M_bookedAt_6 : decode b_M_bookedAt 6 = .ok (.bipush 20, 2) := by decide +kernel
theorem d_M_bookedAt_8 : decode b_M_bookedAt 8 = .ok (.iload_n 1, 1) := by decide +kernel
theorem d_M_bookedAt_9 : decode b_M_bookedAt 9 = .ok (.bipush 120, 2) := by decide +kernel
theorem d_M_bookedAt_11 : decode b_M_bookedAt 11 = .ok (.idiv, 1) := by decide +kernel
theorem d_M_bookedAt_12 : decode b_M_bookedAt 12 = .ok (.imul, 1) := by decide +kernel
theorem d_M_bookedAt_13 : decode b_M_bookedAt 13 = .ok (.iload_n 1, 1) := by decide +kernel
theorem d_M_bookedAt_14 : decode b_M_bookedAt 14 = .ok (.bipush 120, 2) := by decide +kernel
theorem d_M_bookedAt_16 : decode b_M_bookedAt 16 = .ok (.irem, 1) := by decide +kernel
theorem d_M_bookedAt_17 : decode b_M_bookedAt 17 = .ok (.bipush 6, 2) := by decide +kernel
theorem d_M_bookedAt_19 : decode b_M_bookedAt 19 = .ok (.idiv, 1) := by decide +kernel
theorem d_M_bookedAt_20 : decode b_M_bookedAt 20 = .ok (.iadd, 1) := by decide +kernel
theorem d_M_bookedAt_21 : decode b_M_bookedAt 21 = .ok (.iaload, 1) := by decide +kernel
theorem d_M_bookedAt_22 : decode b_M_bookedAt 22 = .ok (.imul, 1) := by decide +kernel
theorem d_M_bookedAt_23 : decode b_M_bookedAt 23 = .ok (.iload_n 1, 1) := by decide +kernel
theorem d_M_bookedAt_24 : decode b_M_bookedAt 24 = .ok (.bipush 6, 2) := by decide +kernel
theorem d_M_bookedAt_26 : decode b_M_bookedAt 26 = .ok (.irem, 1) := by decide +kernel
theorem d_M_bookedAt_27 : decode b_M_bookedAt 27 = .ok (.iadd, 1) := by decide +kernel
theorem d_M_bookedAt_28 : decode b_M_bookedAt 28 = .ok (.ireturn, 1) := by decide +kernel
theorem d_M_differ_0 : decode b_M_differ 0 = .ok (.aload_n 0, 1) := by decide +kernel
theorem d_M_differ_1 : decode b_M_differ 1 = .ok (.iload_n 1, 1) := by decide +kernel
theorem d_M_differ_2 : decode b_M_differ 2 = .ok (.invokevirtual 126, 3) := by decide +kernel
theorem d_M_differ_5 : decode b_M_differ 5 = .ok (.ifCond .eq 12, 3) := by decide +kernel
theorem d_M_differ_8 : decode b_M_differ 8 = .ok (.aload_n 0, 1) := by decide +kernel
theorem d_M_differ_9 : decode b_M_differ 9 = .ok (.iload_n 1, 1) := by decide +kernel
theorem d_M_differ_10 : decode b_M_differ 10 = .ok (.iload_n 2, 1) := by decide +kernel
theorem d_M_differ_11 : decode b_M_differ 11 = .ok (.invokevirtual 149, 3) := by decide +kernel
theorem d_M_differ_14 : decode b_M_differ 14 = .ok (.goto 4, 3) := by decide +kernel
theorem d_M_differ_17 : decode b_M_differ 17 = .ok (.iconst (-1), 1) := by decide +kernel
theorem d_M_differ_18 : decode b_M_differ 18 = .ok (.istore 4, 2) := by decide +kernel
theorem d_M_differ_20 : decode b_M_differ 20 = .ok (.aload_n 0, 1) := by decide +kernel
theorem d_M_differ_21 : decode b_M_differ 21 = .ok (.iload 4, 2) := by decide +kernel
theorem d_M_differ_23 : decode b_M_differ 23 = .ok (.iconst (-1), 1) := by decide +kernel
theorem d_M_differ_24 : decode b_M_differ 24 = .ok (.if_icmp .ne 7, 3) := by decide +kernel
theorem d_M_differ_27 : decode b_M_differ 27 = .ok (.iconst 1, 1) := by decide +kernel
theorem d_M_differ_28 : decode b_M_differ 28 = .ok (.goto 17, 3) := by decide +kernel
theorem d_M_differ_31 : decode b_M_differ 31 = .ok (.iload_n 3, 1) := by decide +kernel
theorem d_M_differ_32 : decode b_M_differ 32 = .ok (.iconst 0, 1) := by decide +kernel
theorem d_M_differ_33 : decode b_M_differ 33 = .ok (.iconst 5, 1) := by decide +kernel
theorem d_M_differ_34 : decode b_M_differ 34 = .ok (.invokestatic 81, 3) := by decide +kernel
theorem d_M_differ_37 : decode b_M_differ 37 = .ok (.ifCond .ne 7, 3) := by decide +kernel
theorem d_M_differ_40 : decode b_M_differ 40 = .ok (.iconst 2, 1) := by decide +kernel
theorem d_M_differ_41 : decode b_M_differ 41 = .ok (.goto 4, 3) := by decide +kernel
theorem d_M_differ_44 : decode b_M_differ 44 = .ok (.iconst 0, 1) := by decide +kernel
theorem d_M_differ_45 : decode b_M_differ 45 = .ok (.putfield 74, 3) := by decide +kernel
theorem d_M_differ_48 : decode b_M_differ 48 = .ok (.aload_n 0, 1) := by decide +kernel
theorem d_M_differ_49 : decode b_M_differ 49 = .ok (.getfield 74, 3) := by decide +kernel
theorem d_M_differ_52 : decode b_M_differ 52 = .ok (.ifCond .le 5, 3) := by decide +kernel
theorem d_M_differ_55 : decode b_M_differ 55 = .ok (.iconst 0, 1) := by decide +kernel
theorem d_M_differ_56 : decode b_M_differ 56 = .ok (.ireturn, 1) := by decide +kernel
theorem d_M_differ_57 : decode b_M_differ 57 = .ok (.iload_n 3, 1) := by decide +kernel
theorem d_M_differ_58 : decode b_M_differ 58 = .ok (.ifCond .ne 13, 3) := by decide +kernel
theorem d_M_differ_61 : decode b_M_differ 61 = .ok (.aload_n 0, 1) := by decide +kernel
theorem d_M_differ_62 : decode b_M_differ 62 = .ok (.iload 4, 2) := by decide +kernel
theorem d_M_differ_64 : decode b_M_differ 64 = .ok (.invokevirtual 164, 3) := by decide +kernel
theorem d_M_differ_67 : decode b_M_differ 67 = .ok (.bipush 6, 2) := by decide +kernel
theorem d_M_differ_69 : decode b_M_differ 69 = .ok (.idiv, 1) := by decide +kernel
theorem d_M_differ_70 : decode b_M_differ 70 = .ok (.ireturn, 1) := by decide +kernel
theorem d_M_differ_71 : decode b_M_differ 71 = .ok (.iload_n 3, 1) := by decide +kernel
theorem d_M_differ_72 : decode b_M_differ 72 = .ok (.iconst 1, 1) := by decide +kernel
theorem d_M_differ_73 : decode b_M_differ 73 = .ok (.if_icmp .ne 9, 3) := by decide +kernel
theorem d_M_differ_76 : decode b_M_differ 76 = .ok (.iload 4, 2) := by decide +kernel
theorem d_M_differ_78 : decode b_M_differ 78 = .ok (.bipush 6, 2) := by decide +kernel
theorem d_M_differ_80 : decode b_M_differ 80 = .ok (.irem, 1) := by decide +kernel
theorem d_M_differ_81 : decode b_M_differ 81 = .ok (.ireturn, 1) := by decide +kernel
theorem d_M_differ_82 : decode b_M_differ 82 = .ok (.iload_n 3, 1) := by decide +kernel
theorem d_M_differ_83 : decode b_M_differ 83 = .ok (.iconst 2, 1) := by decide +kernel
theorem d_M_differ_84 : decode b_M_differ 84 = .ok (.if_icmp .ne 18, 3) := by decide +kernel
theorem d_M_differ_87 : decode b_M_differ 87 = .ok (.aload_n 0, 1) := by decide +kernel
theorem d_M_differ_88 : decode b_M_differ 88 = .ok (.iload 4, 2) := by decide +kernel
theorem d_M_differ_90 : decode b_M_differ 90 = .ok (.invokevirtual 156, 3) := by decide +kernel
theorem d_M_differ_93 : decode b_M_differ 93 = .ok (.aload_n 0, 1) := by decide +kernel
theorem d_M_differ_94 : decode b_M_differ 94 = .ok (.getfield 56, 3) := by decide +kernel
theorem d_M_differ_97 : decode b_M_differ 97 = .ok (.iload 4, 2) := by decide +kernel
theorem d_M_differ_99 : decode b_M_differ 99 = .ok (.iaload, 1) := by decide +kernel
theorem d_M_differ_100 : decode b_M_differ 100 = .ok (.isub, 1) := by decide +kernel
theorem d_M_differ_101 : decode b_M_differ 101 = .ok (.ireturn, 1) := by decide +kernel
theorem d_M_differ_102 : decode b_M_differ 102 = .ok (.iload_n 3, 1) := by decide +kernel
theorem d_M_differ_103 : decode b_M_differ 103 = .ok (.iconst 3, 1) := by decide +kernel
theorem d_M_differ_104 : decode b_M_differ 104 = .ok (.if_icmp .ne 29, 3) := by decide +kernel
theorem d_M_differ_107 : decode b_M_differ 107 = .ok (.aload_n 0, 1) := by decide +kernel
theorem d_M_differ_108 : decode b_M_differ 108 = .ok (.iload 4, 2) := by decide +kernel
theorem d_M_differ_110 : decode b_M_differ 110 = .ok (.invokevirtual 139, 3) := by decide +kernel
theorem d_M_differ_113 : decode b_M_differ 113 = .ok (.iconst (-1), 1) := by decide +kernel
theorem d_M_differ_114 : decode b_M_differ 114 = .ok (.if_icmp .eq 12, 3) := by decide +kernel
theorem d_M_differ_117 : decode b_M_differ 117 = .ok (.aload_n 0, 1) := by decide +kernel
theorem d_M_differ_118 : decode b_M_differ 118 = .ok (.iload 4, 2) := by decide +kernel
theorem d_M_differ_120 : decode b_M_differ 120 = .ok (.invokevirtual 139, 3) := by decide +kernel
theorem d_M_differ_123 : decode b_M_differ 123 = .ok (.goto 9, 3) := by decide +kernel
theorem d_M_differ_126 : decode b_M_differ 126 = .ok (.aload_n 0, 1) := by decide +kernel
theorem d_M_differ_127 : decode b_M_differ 127 = .ok (.iload 4, 2) := by decide +kernel
theorem d_M_differ_129 : decode b_M_differ 129 = .ok (.invokevirtual 136, 3) := by decide +kernel
theorem d_M_differ_132 : decode b_M_differ 132 = .ok (.ireturn, 1) := by decide +kernel
theorem d_M_differ_133 : decode b_M_differ 133 = .ok (.iload_n 3, 1) := by decide +kernel
theorem d_M_differ_134 : decode b_M_differ 134 = .ok (.iconst 4, 1) := by decide +kernel
theorem d_M_differ_135 : decode b_M_differ 135 = .ok (.if_icmp .ne 16, 3) := by decide +kernel
theorem d_M_differ_138 : decode b_M_differ 138 = .ok (.aload_n 0, 1) := by decide +kernel
theorem d_M_differ_139 : decode b_M_differ 139 = .ok (.getfield 68, 3) := by decide +kernel
theorem d_M_differ_142 : decode b_M_differ 142 = .ok (.iload 4, 2) := by decide +kernel
theorem d_M_differ_144 : decode b_M_differ 144 = .ok (.iaload, 1) := by decide +kernel
theorem d_M_differ_145 : decode b_M_differ 145 = .ok (.bipush 10, 2) := by decide +kernel
theorem d_M_differ_147 : decode b_M_differ 147 = .ok (.idiv, 1) := by decide +kernel
theorem d_M_differ_148 : decode b_M_differ 148 = .ok (.goto 15, 3) := by decide +kernel
theorem d_M_differ_151 : decode b_M_differ 151 = .ok (.aload_n 0, 1) := by decide +kernel
theorem d_M_differ_152 : decode b_M_differ 152 = .ok (.getfield 68, 3) := by decide +kernel
theorem d_M_differ_155 : decode b_M_differ 155 = .ok (.iload 4, 2) := by decide +kernel
theorem d_M_differ_157 : decode b_M_differ 157 = .ok (.iaload, 1) := by decide +kernel
theorem d_M_differ_158 : decode b_M_differ 158 = .ok (.bipush 10, 2) := by decide +kernel
theorem d_M_differ_160 : decode b_M_differ 160 = .ok (.irem, 1) := by decide +kernel
theorem d_M_differ_161 : decode b_M_differ 161 = .ok (.iconst 1, 1) := by decide +kernel
theorem d_M_differ_162 : decode b_M_differ 162 = .ok (.isub, 1) := by decide +kernel
theorem d_M_differ_163 : decode b_M_differ 163 = .ok (.ireturn, 1) := by decide +kernel
theorem d_M_correct_0 : decode b_M_correct 0 = .ok (.aload_n 0, 1) := by decide +kernel
theorem d_M_correct_1 : decode b_M_correct 1 = .ok (.iload_n 1, 1) := by decide +kernel
theorem d_M_correct_2 : decode b_M_correct 2 = .ok (.invokevirtual 126, 3) := by decide +kernel
theorem d_M_correct_5 : decode b_M_correct 5 = .ok (.ifCond .eq 12, 3) := by decide +kernel
theorem d_M_correct_8 : decode b_M_correct 8 = .ok (.aload_n 0, 1) := by decide +kernel
theorem d_M_correct_9 : decode b_M_correct 9 = .ok (.iload_n 1, 1) := by decide +kernel
theorem d_M_correct_10 : decode b_M_correct 10 = .ok (.iload_n 2, 1) := by decide +kernel
theorem d_M_correct_11 : decode b_M_correct 11 = .ok (.invokevirtual 149, 3) := by decide +kernel
theorem d_M_correct_14 : decode b_M_correct 14 = .ok (.goto 4, 3) := by decide +kernel
theorem d_M_correct_17 : decode b_M_correct 17 = .ok (.iconst (-1), 1) := by decide +kernel
theorem d_M_correct_18 : decode b_M_correct 18 = .ok (.istore 4, 2) := by decide +kernel
theorem d_M_correct_20 : decode b_M_correct 20 = .ok (.aload_n 0, 1) := by decide +kernel
theorem d_M_correct_21 : decode b_M_correct 21 = .ok (.iload 4, 2) := by decide +kernel
theorem d_M_correct_23 : decode b_M_correct 23 = .ok (.iconst (-1), 1) := by decide +kernel
theorem d_M_correct_24 : decode b_M_correct 24 = .ok (.if_icmp .ne 7, 3) := by decide +kernel
theorem d_M_correct_27 : decode b_M_correct 27 = .ok (.iconst 1, 1) := by decide +kernel
theorem d_M_correct_28 : decode b_M_correct 28 = .ok (.goto 31, 3) := by decide +kernel
theorem d_M_correct_31 : decode b_M_correct 31 = .ok (.iload_n 3, 1) := by decide +kernel
theorem d_M_correct_32 : decode b_M_correct 32 = .ok (.invokestatic 96, 3) := by decide +kernel
theorem d_M_correct_35 : decode b_M_correct 35 = .ok (.ifCond .ne 7, 3) := by decide +kernel
theorem d_M_correct_38 : decode b_M_correct 38 = .ok (.iconst 2, 1) := by decide +kernel
theorem d_M_correct_39 : decode b_M_correct 39 = .ok (.goto 20, 3) := by decide +kernel
theorem d_M_correct_42 : decode b_M_correct 42 = .ok (.aload_n 0, 1) := by decide +kernel
theorem d_M_correct_43 : decode b_M_correct 43 = .ok (.getfield 68, 3) := by decide +kernel
theorem d_M_correct_46 : decode b_M_correct 46 = .ok (.iload 4, 2) := by decide +kernel
theorem d_M_correct_48 : decode b_M_correct 48 = .ok (.iaload, 1) := by decide +kernel
theorem d_M_correct_49 : decode b_M_correct 49 = .ok (.bipush 10, 2) := by decide +kernel
theorem d_M_correct_51 : decode b_M_correct 51 = .ok (.if_icmp .lt 7, 3) := by decide +kernel
theorem d_M_correct_54 : decode b_M_correct 54 = .ok (.iconst 3, 1) := by decide +kernel
theorem d_M_correct_55 : decode b_M_correct 55 = .ok (.goto 4, 3) := by decide +kernel
theorem d_M_correct_58 : decode b_M_correct 58 = .ok (.iconst 0, 1) := by decide +kernel
theorem d_M_correct_59 : decode b_M_correct 59 = .ok (.putfield 74, 3) := by decide +kernel
theorem d_M_correct_62 : decode b_M_correct 62 = .ok (.aload_n 0, 1) := by decide +kernel
theorem d_M_correct_63 : decode b_M_correct 63 = .ok (.getfield 74, 3) := by decide +kernel
theorem d_M_correct_66 : decode b_M_correct 66 = .ok (.ifCond .le 5, 3) := by decide +kernel
theorem d_M_correct_69 : decode b_M_correct 69 = .ok (.iconst 0, 1) := by decide +kernel
theorem d_M_correct_70 : decode b_M_correct 70 = .ok (.ireturn, 1) := by decide +kernel
theorem d_M_correct_71 : decode b_M_correct 71 = .ok (.aload_n 0, 1) := by decide +kernel
theorem d_M_correct_72 : decode b_M_correct 72 = .ok (.getfield 68, 3) := by decide +kernel
theorem d_M_correct_75 : decode b_M_correct 75 = .ok (.iload 4, 2) := by decide +kernel
theorem d_M_correct_77 : decode b_M_correct 77 = .ok (.iaload, 1) := by decide +kernel
theorem d_M_correct_78 : decode b_M_correct 78 = .ok (.bipush 10, 2) := by decide +kernel
theorem d_M_correct_80 : decode b_M_correct 80 = .ok (.irem, 1) := by decide +kernel
theorem d_M_correct_81 : decode b_M_correct 81 = .ok (.iconst 1, 1) := by decide +kernel
theorem d_M_correct_82 : decode b_M_correct 82 = .ok (.isub, 1) := by decide +kernel
theorem d_M_correct_83 : decode b_M_correct 83 = .ok (.istore 5, 2) := by decide +kernel
theorem d_M_correct_85 : decode b_M_correct 85 = .ok (.aload_n 0, 1) := by decide +kernel
theorem d_M_correct_86 : decode b_M_correct 86 = .ok (.getfield 25, 3) := by decide +kernel
theorem d_M_correct_89 : decode b_M_correct 89 = .ok (.iload_n 3, 1) := by decide +kernel
theorem d_M_correct_90 : decode b_M_correct 90 = .ok (.iaload, 1) := by decide +kernel
theorem d_M_correct_91 : decode b_M_correct 91 = .ok (.aload_n 0, 1) := by decide +kernel
theorem d_M_correct_92 : decode b_M_correct 92 = .ok (.iload 4, 2) := by decide +kernel
theorem d_M_correct_94 : decode b_M_correct 94 = .ok (.invokevirtual 156, 3) := by decide +kernel
theorem d_M_correct_97 : decode b_M_correct 97 = .ok (.aload_n 0, 1) := by decide +kernel
theorem d_M_correct_98 : decode b_M_correct 98 = .ok (.getfield 56, 3) := by decide +kernel
theorem d_M_correct_101 : decode b_M_correct 101 = .ok (.iload 4, 2) := by decide +kernel
theorem d_M_correct_103 : decode b_M_correct 103 = .ok (.iaload, 1) := by decide +kernel
theorem d_M_correct_104 : decode b_M_correct 104 = .ok (.invokestatic 142, 3) := by decide +kernel
theorem d_M_correct_107 : decode b_M_correct 107 = .ok (.if_icmp .ge 15, 3) := by decide +kernel
theorem d_M_correct_110 : decode b_M_correct 110 = .ok (.iload 5, 2) := by decide +kernel
theorem d_M_correct_112 : decode b_M_correct 112 = .ok (.iconst (-1), 1) := by decide +kernel
theorem d_M_correct_113 : decode b_M_correct 113 = .ok (.if_icmp .eq 13, 3) := by decide +kernel
theorem d_M_correct_116 : decode b_M_correct 116 = .ok (.iload 5, 2) := by decide +kernel
theorem d_M_correct_118 : decode b_M_correct 118 = .ok (.iload_n 3, 1) := by decide +kernel
theorem d_M_correct_119 : decode b_M_correct 119 = .ok (.if_icmp .eq 7, 3) := by decide +kernel
theorem d_M_correct_122 : decode b_M_correct 122 = .ok (.iconst 1, 1) := by decide +kernel
theorem d_M_correct_123 : decode b_M_correct 123 = .ok (.goto 4, 3) := by decide +kernel
theorem d_M_correct_126 : decode b_M_correct 126 = .ok (.iconst 0, 1) := by decide +kernel
theorem d_M_correct_127 : decode b_M_correct 127 = .ok (.istore 6, 2) := by decide +kernel
theorem d_M_correct_129 : decode b_M_correct 129 = .ok (.iload 6, 2) := by decide +kernel
theorem d_M_correct_131 : decode b_M_correct 131 = .ok (.ifCond .ne 15, 3) := by decide +kernel
theorem d_M_correct_134 : decode b_M_correct 134 = .ok (.aload_n 0, 1) := by decide +kernel
theorem d_M_correct_135 : decode b_M_correct 135 = .ok (.getfield 68, 3) := by decide +kernel
theorem d_M_correct_138 : decode b_M_correct 138 = .ok (.iload 4, 2) := by decide +kernel
theorem d_M_correct_140 : decode b_M_correct 140 = .ok (.iload_n 3, 1) := by decide +kernel
theorem d_M_correct_141 : decode b_M_correct 141 = .ok (.iconst 1, 1) := by decide +kernel
theorem d_M_correct_142 : decode b_M_correct 142 = .ok (.iadd, 1) := by decide +kernel
theorem d_M_correct_143 : decode b_M_correct 143 = .ok (.iastore, 1) := by decide +kernel
theorem d_M_correct_144 : decode b_M_correct 144 = .ok (.iconst 0, 1) := by decide +kernel
theorem d_M_correct_145 : decode b_M_correct 145 = .ok (.ireturn, 1) := by decide +kernel
theorem d_M_correct_146 : decode b_M_correct 146 = .ok (.aload_n 0, 1) := by decide +kernel
theorem d_M_correct_147 : decode b_M_correct 147 = .ok (.getfield 16, 3) := by decide +kernel
theorem d_M_correct_150 : decode b_M_correct 150 = .ok (.aload_n 0, 1) := by decide +kernel
theorem d_M_correct_151 : decode b_M_correct 151 = .ok (.iload 4, 2) := by decide +kernel
theorem d_M_correct_153 : decode b_M_correct 153 = .ok (.invokevirtual 164, 3) := by decide +kernel
theorem d_M_correct_156 : decode b_M_correct 156 = .ok (.iaload, 1) := by decide +kernel
theorem d_M_correct_157 : decode b_M_correct 157 = .ok (.aload_n 0, 1) := by decide +kernel
theorem d_M_correct_158 : decode b_M_correct 158 = .ok (.iload 4, 2) := by decide +kernel
theorem d_M_correct_160 : decode b_M_correct 160 = .ok (.invokevirtual 156, 3) := by decide +kernel
theorem d_M_correct_163 : decode b_M_correct 163 = .ok (.iadd, 1) := by decide +kernel
theorem d_M_correct_164 : decode b_M_correct 164 = .ok (.aload_n 0, 1) := by decide +kernel
theorem d_M_correct_165 : decode b_M_correct 165 = .ok (.getfield 56, 3) := by decide +kernel
theorem d_M_correct_168 : decode b_M_correct 168 = .ok (.iload 4, 2) := by decide +kernel
theorem d_M_correct_170 : decode b_M_correct 170 = .ok (.iaload, 1) := by decide +kernel
theorem d_M_correct_171 : decode b_M_correct 171 = .ok (.isub, 1) := by decide +kernel
theorem d_M_correct_172 : decode b_M_correct 172 = .ok (.istore 7, 2) := by decide +kernel
theorem d_M_correct_174 : decode b_M_correct 174 = .ok (.aload_n 0, 1) := by decide +kernel
theorem d_M_correct_175 : decode b_M_correct 175 = .ok (.iload 7, 2) := by decide +kernel
theorem d_M_correct_177 : decode b_M_correct 177 = .ok (.iconst 0, 1) := by decide +kernel
theorem d_M_correct_178 : decode b_M_correct 178 = .ok (.ldc 95, 2) := by decide +kernel
theorem d_M_correct_180 : decode b_M_correct 180 = .ok (.invokestatic 81, 3) := by decide +kernel
theorem d_M_correct_183 : decode b_M_correct 183 = .ok (.ifCond .eq 7, 3) := by decide +kernel
theorem d_M_correct_186 : decode b_M_correct 186 = .ok (.iconst 0, 1) := by decide +kernel
theorem d_M_correct_187 : decode b_M_correct 187 = .ok (.goto 4, 3) := by decide +kernel
theorem d_M_correct_190 : decode b_M_correct 190 = .ok (.iconst 3, 1) := by decide +kernel
theorem d_M_correct_191 : decode b_M_correct 191 = .ok (.putfield 74, 3) := by decide +kernel
theorem d_M_correct_194 : decode b_M_correct 194 = .ok (.aload_n 0, 1) := by decide +kernel
theorem d_M_correct_195 : decode b_M_correct 195 = .ok (.getfield 74, 3) := by decide +kernel
theorem d_M_correct_198 : decode b_M_correct 198 = .ok (.ifCond .le 5, 3) := by decide +kernel
theorem d_M_correct_201 : decode b_M_correct 201 = .ok (.iconst 0, 1) := by decide +kernel
theorem d_M_correct_202 : decode b_M_correct 202 = .ok (.ireturn, 1) := by decide +kernel
theorem d_M_correct_203 : decode b_M_correct 203 = .ok (.aload_n 0, 1) := by decide +kernel
theorem d_M_correct_204 : decode b_M_correct 204 = .ok (.getfield 16, 3) := by decide +kernel
theorem d_M_correct_207 : decode b_M_correct 207 = .ok (.aload_n 0, 1) := by decide +kernel
theorem d_M_correct_208 : decode b_M_correct 208 = .ok (.iload 4, 2) := by decide +kernel
theorem d_M_correct_210 : decode b_M_correct 210 = .ok (.invokevirtual 164, 3) := by decide +kernel
theorem d_M_correct_213 : decode b_M_correct 213 = .ok (.iload 7, 2) := by decide +kernel
theorem d_M_correct_215 : decode b_M_correct 215 = .ok (.iastore, 1) := by decide +kernel
theorem d_M_correct_216 : decode b_M_correct 216 = .ok (.aload_n 0, 1) := by decide +kernel
theorem d_M_correct_217 : decode b_M_correct 217 = .ok (.getfield 68, 3) := by decide +kernel
theorem d_M_correct_220 : decode b_M_correct 220 = .ok (.iload 4, 2) := by decide +kernel
theorem d_M_correct_222 : decode b_M_correct 222 = .ok (.dup2, 1) := by decide +kernel
theorem d_M_correct_223 : decode b_M_correct 223 = .ok (.iaload, 1) := by decide +kernel
theorem d_M_correct_224 : decode b_M_correct 224 = .ok (.bipush 10, 2) := by decide +kernel
theorem d_M_correct_226 : decode b_M_correct 226 = .ok (.iadd, 1) := by decide +kernel
theorem d_M_correct_227 : decode b_M_correct 227 = .ok (.iastore, 1) := by decide +kernel
theorem d_M_correct_228 : decode b_M_correct 228 = .ok (.iconst 1, 1) := by decide +kernel
theorem d_M_correct_229 : decode b_M_correct 229 = .ok (.ireturn, 1) := by decide +kernel
theorem d_M_divisor_0 : decode b_M_divisor 0 = .ok (.iload_n 0, 1) := by decide +kernel
theorem d_M_divisor_1 : decode b_M_divisor 1 = .ok (.istore_n 2, 1) := by decide +kernel
theorem d_M_divisor_2 : decode b_M_divisor 2 = .ok (.iload_n 1, 1) := by decide +kernel
theorem d_M_divisor_3 : decode b_M_divisor 3 = .ok (.istore_n 3, 1) := by decide +kernel
theorem d_M_divisor_4 : decode b_M_divisor 4 = .ok (.iload_n 3, 1) := by decide +kernel
theorem d_M_divisor_5 : decode b_M_divisor 5 = .ok (.ifCond .le 16, 3) := by decide +kernel
theorem d_M_divisor_8 : decode b_M_divisor 8 = .ok (.iload_n 2, 1) := by decide +kernel
theorem d_M_divisor_9 : decode b_M_divisor 9 = .ok (.iload_n 3, 1) := by decide +kernel
theorem d_M_divisor_10 : decode b_M_divisor 10 = .ok (.irem, 1) := by decide +kernel
theorem d_M_divisor_11 : decode b_M_divisor 11 = .ok (.istore 4, 2) := by decide +kernel
theorem d_M_divisor_13 : decode b_M_divisor 13 = .ok (.iload_n 3, 1) := by decide +kernel
theorem d_M_divisor_14 : decode b_M_divisor 14 = .ok (.istore_n 2, 1) := by decide +kernel
theorem d_M_divisor_15 : decode b_M_divisor 15 = .ok (.iload 4, 2) := by decide +kernel
theorem d_M_divisor_17 : decode b_M_divisor 17 = .ok (.istore_n 3, 1) := by decide +kernel
theorem d_M_divisor_18 : decode b_M_divisor 18 = .ok (.goto (-14), 3) := by decide +kernel
theorem d_M_divisor_21 : decode b_M_divisor 21 = .ok (.iload_n 2, 1) := by decide +kernel
theorem d_M_divisor_22 : decode b_M_divisor 22 = .ok (.ireturn, 1) := by decide +kernel
theorem d_M_share_0 : decode b_M_share 0 = .ok (.aload_n 0, 1) := by decide +kernel
theorem d_M_share_1 : decode b_M_share 1 = .ok (.iload_n 1, 1) := by decide +kernel
theorem d_M_share_2 : decode b_M_share 2 = .ok (.iconst 0, 1) := by decide +kernel
theorem d_M_share_3 : decode b_M_share 3 = .ok (.iconst 1, 1) := by decide +kernel
theorem d_M_share_4 : decode b_M_share 4 = .ok (.invokestatic 81, 3) := by decide +kernel
theorem d_M_share_7 : decode b_M_share 7 = .ok (.ifCond .ne 7, 3) := by decide +kernel
theorem d_M_share_10 : decode b_M_share 10 = .ok (.iconst 1, 1) := by decide +kernel
theorem d_M_share_11 : decode b_M_share 11 = .ok (.goto 15, 3) := by decide +kernel
theorem d_M_share_14 : decode b_M_share 14 = .ok (.aload_n 0, 1) := by decide +kernel
theorem d_M_share_15 : decode b_M_share 15 = .ok (.getfield 158, 3) := by decide +kernel
theorem d_M_share_18 : decode b_M_share 18 = .ok (.ifCond .ne 7, 3) := by decide +kernel
theorem d_M_share_21 : decode b_M_share 21 = .ok (.iconst 2, 1) := by decide +kernel
theorem d_M_share_22 : decode b_M_share 22 = .ok (.goto 4, 3) := by decide +kernel
theorem d_M_share_25 : decode b_M_share 25 = .ok (.iconst 0, 1) := by decide +kernel
theorem d_M_share_26 : decode b_M_share 26 = .ok (.putfield 74, 3) := by decide +kernel
theorem d_M_share_29 : decode b_M_share 29 = .ok (.aload_n 0, 1) := by decide +kernel
theorem d_M_share_30 : decode b_M_share 30 = .ok (.getfield 74, 3) := by decide +kernel
theorem d_M_share_33 : decode b_M_share 33 = .ok (.ifCond .le 5, 3) := by decide +kernel
theorem d_M_share_36 : decode b_M_share 36 = .ok (.iconst 0, 1) := by decide +kernel
theorem d_M_share_37 : decode b_M_share 37 = .ok (.ireturn, 1) := by decide +kernel
theorem d_M_share_38 : decode b_M_share 38 = .ok (.aload_n 0, 1) := by decide +kernel
theorem d_M_share_39 : decode b_M_share 39 = .ok (.getfield 161, 3) := by decide +kernel
theorem d_M_share_42 : decode b_M_share 42 = .ok (.aload_n 0, 1) := by decide +kernel
theorem d_M_share_43 : decode b_M_share 43 = .ok (.getfield 158, 3) := by decide +kernel
theorem d_M_share_46 : decode b_M_share 46 = .ok (.invokestatic 167, 3) := by decide +kernel
theorem d_M_share_49 : decode b_M_share 49 = .ok (.istore_n 2, 1) := by decide +kernel
theorem d_M_share_50 : decode b_M_share 50 = .ok (.iload_n 1, 1) := by decide +kernel
theorem d_M_share_51 : decode b_M_share 51 = .ok (.ifCond .ne 12, 3) := by decide +kernel
theorem d_M_share_54 : decode b_M_share 54 = .ok (.aload_n 0, 1) := by decide +kernel
theorem d_M_share_55 : decode b_M_share 55 = .ok (.getfield 161, 3) := by decide +kernel
theorem d_M_share_58 : decode b_M_share 58 = .ok (.iload_n 2, 1) := by decide +kernel
theorem d_M_share_59 : decode b_M_share 59 = .ok (.idiv, 1) := by decide +kernel
theorem d_M_share_60 : decode b_M_share 60 = .ok (.goto 9, 3) := by decide +kernel
theorem d_M_share_63 : decode b_M_share 63 = .ok (.aload_n 0, 1) := by decide +kernel
theorem d_M_share_64 : decode b_M_share 64 = .ok (.getfield 158, 3) := by decide +kernel
theorem d_M_share_67 : decode b_M_share 67 = .ok (.iload_n 2, 1) := by decide +kernel
theorem d_M_share_68 : decode b_M_share 68 = .ok (.idiv, 1) := by decide +kernel
theorem d_M_share_69 : decode b_M_share 69 = .ok (.ireturn, 1) := by decide +kernel
theorem d_M_last_0 : decode b_M_last 0 = .ok (.aload_n 0, 1) := by decide +kernel
theorem d_M_last_1 : decode b_M_last 1 = .ok (.aload_n 0, 1) := by decide +kernel
theorem d_M_last_2 : decode b_M_last 2 = .ok (.iload_n 1, 1) := by decide +kernel
theorem d_M_last_3 : decode b_M_last 3 = .ok (.invokevirtual 88, 3) := by decide +kernel
theorem d_M_last_6 : decode b_M_last 6 = .ok (.ifCond .eq 7, 3) := by decide +kernel
theorem d_M_last_9 : decode b_M_last 9 = .ok (.iconst 0, 1) := by decide +kernel
theorem d_M_last_10 : decode b_M_last 10 = .ok (.goto 4, 3) := by decide +kernel
theorem d_M_last_13 : decode b_M_last 13 = .ok (.iconst 1, 1) := by decide +kernel
theorem d_M_last_14 : decode b_M_last 14 = .ok (.putfield 74, 3) := by decide +kernel
theorem d_M_last_17 : decode b_M_last 17 = .ok (.aload_n 0, 1) := by decide +kernel
theorem d_M_last_18 : decode b_M_last 18 = .ok (.getfield 74, 3) := by decide +kernel
theorem d_M_last_21 : decode b_M_last 21 = .ok (.ifCond .le 7, 3) := by decide +kernel
theorem d_M_last_24 : decode b_M_last 24 = .ok (.iconst 0, 1) := by decide +kernel
theorem d_M_last_25 : decode b_M_last 25 = .ok (.goto 9, 3) := by decide +kernel
theorem d_M_last_28 : decode b_M_last 28 = .ok (.aload_n 0, 1) := by decide +kernel
theorem d_M_last_29 : decode b_M_last 29 = .ok (.getfield 13, 3) := by decide +kernel
theorem d_M_last_32 : decode b_M_last 32 = .ok (.iload_n 1, 1) := by decide +kernel
theorem d_M_last_33 : decode b_M_last 33 = .ok (.iaload, 1) := by decide +kernel
theorem d_M_last_34 : decode b_M_last 34 = .ok (.ireturn, 1) := by decide +kernel
theorem d_M_due_0 : decode b_M_due 0 = .ok (.aload_n 0, 1) := by decide +kernel
theorem d_M_due_1 : decode b_M_due 1 = .ok (.iload_n 1, 1) := by decide +kernel
theorem d_M_due_2 : decode b_M_due 2 = .ok (.iconst 0, 1) := by decide +kernel
theorem d_M_due_3 : decode b_M_due 3 = .ok (.sipush 10000, 3) := by decide +kernel
theorem d_M_due_6 : decode b_M_due 6 = .ok (.invokestatic 81, 3) := by decide +kernel
theorem d_M_due_9 : decode b_M_due 9 = .ok (.ifCond .eq 7, 3) := by decide +kernel
theorem d_M_due_12 : decode b_M_due 12 = .ok (.iconst 0, 1) := by decide +kernel
theorem d_M_due_13 : decode b_M_due 13 = .ok (.goto 4, 3) := by decide +kernel
theorem d_M_due_16 : decode b_M_due 16 = .ok (.iconst 1, 1) := by decide +kernel
theorem d_M_due_17 : decode b_M_due 17 = .ok (.putfield 74, 3) := by decide +kernel
theorem d_M_due_20 : decode b_M_due 20 = .ok (.iconst 0, 1) := by decide +kernel
theorem d_M_due_21 : decode b_M_due 21 = .ok (.istore_n 2, 1) := by decide +kernel
theorem d_M_due_22 : decode b_M_due 22 = .ok (.iconst 0, 1) := by decide +kernel
theorem d_M_due_23 : decode b_M_due 23 = .ok (.istore_n 3, 1) := by decide +kernel
theorem d_M_due_24 : decode b_M_due 24 = .ok (.iload_n 3, 1) := by decide +kernel
theorem d_M_due_25 : decode b_M_due 25 = .ok (.aload_n 0, 1) := by decide +kernel
theorem d_M_due_26 : decode b_M_due 26 = .ok (.getfield 78, 3) := by decide +kernel
theorem d_M_due_29 : decode b_M_due 29 = .ok (.if_icmp .ge 56, 3) := by decide +kernel
theorem d_M_due_32 : decode b_M_due 32 = .ok (.aload_n 0, 1) := by decide +kernel
theorem d_M_due_33 : decode b_M_due 33 = .ok (.getfield 74, 3) := by decide +kernel
theorem d_M_due_36 : decode b_M_due 36 = .ok (.ifCond .ne 49, 3) := by decide +kernel
theorem d_M_due_39 : decode b_M_due 39 = .ok (.iload_n 2, 1) := by decide +kernel
theorem d_M_due_40 : decode b_M_due 40 = .ok (.aload_n 0, 1) := by decide +kernel
theorem d_M_due_41 : decode b_M_due 41 = .ok (.getfield 13, 3) := by decide +kernel
theorem d_M_due_44 : decode b_M_due 44 = .ok (.iload_n 3, 1) := by decide +kernel
theorem d_M_due_45 : decode b_M_due 45 = .ok (.iaload, 1) := by decide +kernel
theorem d_M_due_46 : decode b_M_due 46 = .ok (.iconst (-1), 1) := by decide +kernel
theorem d_M_due_47 : decode b_M_due 47 = .ok (.if_icmp .eq 25, 3) := by decide +kernel
theorem d_M_due_50 : decode b_M_due 50 = .ok (.iload_n 1, 1) := by decide +kernel
theorem d_M_due_51 : decode b_M_due 51 = .ok (.aload_n 0, 1) := by decide +kernel
theorem d_M_due_52 : decode b_M_due 52 = .ok (.getfield 13, 3) := by decide +kernel
theorem d_M_due_55 : decode b_M_due 55 = .ok (.iload_n 3, 1) := by decide +kernel
theorem d_M_due_56 : decode b_M_due 56 = .ok (.iaload, 1) := by decide +kernel
theorem d_M_due_57 : decode b_M_due 57 = .ok (.isub, 1) := by decide +kernel
theorem d_M_due_58 : decode b_M_due 58 = .ok (.aload_n 0, 1) := by decide +kernel
theorem d_M_due_59 : decode b_M_due 59 = .ok (.getfield 19, 3) := by decide +kernel
theorem d_M_due_62 : decode b_M_due 62 = .ok (.aload_n 0, 1) := by decide +kernel
theorem d_M_due_63 : decode b_M_due 63 = .ok (.getfield 7, 3) := by decide +kernel
theorem d_M_due_66 : decode b_M_due 66 = .ok (.iload_n 3, 1) := by decide +kernel
theorem d_M_due_67 : decode b_M_due 67 = .ok (.iaload, 1) := by decide +kernel
theorem d_M_due_68 : decode b_M_due 68 = .ok (.iaload, 1) := by decide +kernel
theorem d_M_due_69 : decode b_M_due 69 = .ok (.if_icmp .lt 7, 3) := by decide +kernel
theorem d_M_due_72 : decode b_M_due 72 = .ok (.iconst 1, 1) := by decide +kernel
theorem d_M_due_73 : decode b_M_due 73 = .ok (.goto 4, 3) := by decide +kernel
theorem d_M_due_76 : decode b_M_due 76 = .ok (.iconst 0, 1) := by decide +kernel
theorem d_M_due_77 : decode b_M_due 77 = .ok (.iadd, 1) := by decide +kernel
theorem d_M_due_78 : decode b_M_due 78 = .ok (.istore_n 2, 1) := by decide +kernel
theorem d_M_due_79 : decode b_M_due 79 = .ok (.iinc 3 1, 3) := by decide +kernel
theorem d_M_due_82 : decode b_M_due 82 = .ok (.goto (-58), 3) := by decide +kernel
theorem d_M_due_85 : decode b_M_due 85 = .ok (.iload_n 2, 1) := by decide +kernel
theorem d_M_due_86 : decode b_M_due 86 = .ok (.ireturn, 1) := by decide +kernel
theorem d_M_booked_0 : decode b_M_booked 0 = .ok (.aload_n 0, 1) := by decide +kernel
theorem d_M_booked_1 : decode b_M_booked 1 = .ok (.aload_n 0, 1) := by decide +kernel
theorem d_M_booked_2 : decode b_M_booked 2 = .ok (.iload_n 1, 1) := by decide +kernel
theorem d_M_booked_3 : decode b_M_booked 3 = .ok (.invokevirtual 88, 3) := by decide +kernel
theorem d_M_booked_6 : decode b_M_booked 6 = .ok (.ifCond .ne 7, 3) := by decide +kernel
theorem d_M_booked_9 : decode b_M_booked 9 = .ok (.iconst 1, 1) := by decide +kernel
theorem d_M_booked_10 : decode b_M_booked 10 = .ok (.goto 15, 3) := by decide +kernel
theorem d_M_booked_13 : decode b_M_booked 13 = .ok (.iload_n 2, 1) := by decide +kernel
theorem d_M_booked_14 : decode b_M_booked 14 = .ok (.invokestatic 92, 3) := by decide +kernel
theorem d_M_booked_17 : decode b_M_booked 17 = .ok (.ifCond .ne 7, 3) := by decide +kernel
theorem d_M_booked_20 : decode b_M_booked 20 = .ok (.iconst 2, 1) := by decide +kernel
theorem d_M_booked_21 : decode b_M_booked 21 = .ok (.goto 4, 3) := by decide +kernel
theorem d_M_booked_24 : decode b_M_booked 24 = .ok (.iconst 0, 1) := by decide +kernel
theorem d_M_booked_25 : decode b_M_booked 25 = .ok (.putfield 74, 3) := by decide +kernel
theorem d_M_booked_28 : decode b_M_booked 28 = .ok (.aload_n 0, 1) := by decide +kernel
theorem d_M_booked_29 : decode b_M_booked 29 = .ok (.getfield 74, 3) := by decide +kernel
theorem d_M_booked_32 : decode b_M_booked 32 = .ok (.ifCond .le 7, 3) := by decide +kernel
theorem d_M_booked_35 : decode b_M_booked 35 = .ok (.iconst 0, 1) := by decide +kernel
theorem d_M_booked_36 : decode b_M_booked 36 = .ok (.goto 14, 3) := by decide +kernel
theorem d_M_booked_39 : decode b_M_booked 39 = .ok (.aload_n 0, 1) := by decide +kernel
theorem d_M_booked_40 : decode b_M_booked 40 = .ok (.getfield 16, 3) := by decide +kernel
theorem d_M_booked_43 : decode b_M_booked 43 = .ok (.bipush 6, 2) := by decide +kernel
theorem d_M_booked_45 : decode b_M_booked 45 = .ok (.iload_n 1, 1) := by decide +kernel
theorem d_M_booked_46 : decode b_M_booked 46 = .ok (.imul, 1) := by decide +kernel
theorem d_M_booked_47 : decode b_M_booked 47 = .ok (.iload_n 2, 1) := by decide +kernel
theorem d_M_booked_48 : decode b_M_booked 48 = .ok (.iadd, 1) := by decide +kernel
theorem d_M_booked_49 : decode b_M_booked 49 = .ok (.iaload, 1) := by decide +kernel
theorem d_M_booked_50 : decode b_M_booked 50 = .ok (.ireturn, 1) := by decide +kernel
theorem d_M_told_0 : decode b_M_told 0 = .ok (.aload_n 0, 1) := by decide +kernel
theorem d_M_told_1 : decode b_M_told 1 = .ok (.aload_n 0, 1) := by decide +kernel
theorem d_M_told_2 : decode b_M_told 2 = .ok (.iload_n 1, 1) := by decide +kernel
theorem d_M_told_3 : decode b_M_told 3 = .ok (.invokevirtual 126, 3) := by decide +kernel
theorem d_M_told_6 : decode b_M_told 6 = .ok (.ifCond .ne 7, 3) := by decide +kernel
theorem d_M_told_9 : decode b_M_told 9 = .ok (.iconst 1, 1) := by decide +kernel
theorem d_M_told_10 : decode b_M_told 10 = .ok (.goto 22, 3) := by decide +kernel
theorem d_M_told_13 : decode b_M_told 13 = .ok (.iload_n 2, 1) := by decide +kernel
theorem d_M_told_14 : decode b_M_told 14 = .ok (.ifCond .lt 13, 3) := by decide +kernel
theorem d_M_told_17 : decode b_M_told 17 = .ok (.iload_n 2, 1) := by decide +kernel
theorem d_M_told_18 : decode b_M_told 18 = .ok (.iconst 3, 1) := by decide +kernel
theorem d_M_told_19 : decode b_M_told 19 = .ok (.bipush 9, 2) := by decide +kernel
theorem d_M_told_21 : decode b_M_told 21 = .ok (.invokestatic 81, 3) := by decide +kernel
theorem d_M_told_24 : decode b_M_told 24 = .ok (.ifCond .eq 7, 3) := by decide +kernel
theorem d_M_told_27 : decode b_M_told 27 = .ok (.iconst 2, 1) := by decide +kernel
theorem d_M_told_28 : decode b_M_told 28 = .ok (.goto 4, 3) := by decide +kernel
theorem d_M_told_31 : decode b_M_told 31 = .ok (.iconst 0, 1) := by decide +kernel
theorem d_M_told_32 : decode b_M_told 32 = .ok (.putfield 74, 3) := by decide +kernel
theorem d_M_told_35 : decode b_M_told 35 = .ok (.aload_n 0, 1) := by decide +kernel
theorem d_M_told_36 : decode b_M_told 36 = .ok (.getfield 74, 3) := by decide +kernel
theorem d_M_told_39 : decode b_M_told 39 = .ok (.ifCond .le 5, 3) := by decide +kernel
theorem d_M_told_42 : decode b_M_told 42 = .ok (.iconst 0, 1) := by decide +kernel
theorem d_M_told_43 : decode b_M_told 43 = .ok (.ireturn, 1) := by decide +kernel
theorem d_M_told_44 : decode b_M_told 44 = .ok (.iload_n 2, 1) := by decide +kernel
theorem d_M_told_45 : decode b_M_told 45 = .ok (.ifCond .ne 10, 3) := by decide +kernel
theorem d_M_told_48 : decode b_M_told 48 = .ok (.aload_n 0, 1) := by decide +kernel
theorem d_M_told_49 : decode b_M_told 49 = .ok (.getfield 44, 3) := by decide +kernel
theorem d_M_told_52 : decode b_M_told 52 = .ok (.iload_n 1, 1) := by decide +kernel
theorem d_M_told_53 : decode b_M_told 53 = .ok (.iaload, 1) := by decide +kernel
theorem d_M_told_54 : decode b_M_told 54 = .ok (.ireturn, 1) := by decide +kernel
theorem d_M_told_55 : decode b_M_told 55 = .ok (.iload_n 2, 1) := by decide +kernel
theorem d_M_told_56 : decode b_M_told 56 = .ok (.iconst 1, 1) := by decide +kernel
theorem d_M_told_57 : decode b_M_told 57 = .ok (.if_icmp .ne 10, 3) := by decide +kernel
theorem d_M_told_60 : decode b_M_told 60 = .ok (.aload_n 0, 1) := by decide +kernel
theorem d_M_told_61 : decode b_M_told 61 = .ok (.getfield 47, 3) := by decide +kernel
theorem d_M_told_64 : decode b_M_told 64 = .ok (.iload_n 1, 1) := by decide +kernel
theorem d_M_told_65 : decode b_M_told 65 = .ok (.iaload, 1) := by decide +kernel
theorem d_M_told_66 : decode b_M_told 66 = .ok (.ireturn, 1) := by decide +kernel
theorem d_M_told_67 : decode b_M_told 67 = .ok (.iload_n 2, 1) := by decide +kernel
theorem d_M_told_68 : decode b_M_told 68 = .ok (.iconst 2, 1) := by decide +kernel
theorem d_M_told_69 : decode b_M_told 69 = .ok (.if_icmp .ne 10, 3) := by decide +kernel
theorem d_M_told_72 : decode b_M_told 72 = .ok (.aload_n 0, 1) := by decide +kernel
theorem d_M_told_73 : decode b_M_told 73 = .ok (.getfield 50, 3) := by decide +kernel
theorem d_M_told_76 : decode b_M_told 76 = .ok (.iload_n 1, 1) := by decide +kernel
theorem d_M_told_77 : decode b_M_told 77 = .ok (.iaload, 1) := by decide +kernel
theorem d_M_told_78 : decode b_M_told 78 = .ok (.ireturn, 1) := by decide +kernel
theorem d_M_told_79 : decode b_M_told 79 = .ok (.iload_n 2, 1) := by decide +kernel
theorem d_M_told_80 : decode b_M_told 80 = .ok (.bipush 10, 2) := by decide +kernel
theorem d_M_told_82 : decode b_M_told 82 = .ok (.isub, 1) := by decide +kernel
theorem d_M_told_83 : decode b_M_told 83 = .ok (.aload_n 0, 1) := by decide +kernel
theorem d_M_told_84 : decode b_M_told 84 = .ok (.getfield 47, 3) := by decide +kernel
theorem d_M_told_87 : decode b_M_told 87 = .ok (.iload_n 1, 1) := by decide +kernel
theorem d_M_told_88 : decode b_M_told 88 = .ok (.iaload, 1) := by decide +kernel
theorem d_M_told_89 : decode b_M_told 89 = .ok (.if_icmp .ge 20, 3) := by decide +kernel
theorem d_M_told_92 : decode b_M_told 92 = .ok (.aload_n 0, 1) := by decide +kernel
theorem d_M_told_93 : decode b_M_told 93 = .ok (.getfield 53, 3) := by decide +kernel
theorem d_M_told_96 : decode b_M_told 96 = .ok (.bipush 20, 2) := by decide +kernel
theorem d_M_told_98 : decode b_M_told 98 = .ok (.iload_n 1, 1) := by decide +kernel
theorem d_M_told_99 : decode b_M_told 99 = .ok (.imul, 1) := by decide +kernel
theorem d_M_told_100 : decode b_M_told 100 = .ok (.iload_n 2, 1) := by decide +kernel
theorem d_M_told_101 : decode b_M_told 101 = .ok (.iadd, 1) := by decide +kernel
theorem d_M_told_102 : decode b_M_told 102 = .ok (.bipush 10, 2) := by decide +kernel
theorem d_M_told_104 : decode b_M_told 104 = .ok (.isub, 1) := by decide +kernel
theorem d_M_told_105 : decode b_M_told 105 = .ok (.iaload, 1) := by decide +kernel
theorem d_M_told_106 : decode b_M_told 106 = .ok (.goto 4, 3) := by decide +kernel
theorem d_M_told_109 : decode b_M_told 109 = .ok (.iconst (-1), 1) := by decide +kernel
theorem d_M_told_110 : decode b_M_told 110 = .ok (.ireturn, 1) := by decide +kernel
theorem d_M_count_0 : decode b_M_count 0 = .ok (.aload_n 0, 1) := by decide +kernel
theorem d_M_count_1 : decode b_M_count 1 = .ok (.iconst 0, 1) := by decide +kernel
theorem d_M_count_2 : decode b_M_count 2 = .ok (.putfield 74, 3) := by decide +kernel
theorem d_M_count_5 : decode b_M_count 5 = .ok (.iload_n 1, 1) := by decide +kernel
theorem d_M_count_6 : decode b_M_count 6 = .ok (.ifCond .ne 8, 3) := by decide +kernel
theorem d_M_count_9 : decode b_M_count 9 = .ok (.aload_n 0, 1) := by decide +kernel
theorem d_M_count_10 : decode b_M_count 10 = .ok (.getfield 78, 3) := by decide +kernel
theorem d_M_count_13 : decode b_M_count 13 = .ok (.ireturn, 1) := by decide +kernel
theorem d_M_count_14 : decode b_M_count 14 = .ok (.iload_n 1, 1) := by decide +kernel
theorem d_M_count_15 : decode b_M_count 15 = .ok (.iconst 1, 1) := by decide +kernel
theorem d_M_count_16 : decode b_M_count 16 = .ok (.if_icmp .ne 8, 3) := by decide +kernel
theorem d_M_count_19 : decode b_M_count 19 = .ok (.aload_n 0, 1) := by decide +kernel
theorem d_M_count_20 : decode b_M_count 20 = .ok (.getfield 105, 3) := by decide +kernel
theorem d_M_count_23 : decode b_M_count 23 = .ok (.ireturn, 1) := by decide +kernel
theorem d_M_count_24 : decode b_M_count 24 = .ok (.iload_n 1, 1) := by decide +kernel
theorem d_M_count_25 : decode b_M_count 25 = .ok (.iconst 2, 1) := by decide +kernel
theorem d_M_count_26 : decode b_M_count 26 = .ok (.if_icmp .ne 8, 3) := by decide +kernel
theorem d_M_count_29 : decode b_M_count 29 = .ok (.aload_n 0, 1) := by decide +kernel
theorem d_M_count_30 : decode b_M_count 30 = .ok (.getfield 85, 3) := by decide +kernel
theorem d_M_count_33 : decode b_M_count 33 = .ok (.ireturn, 1) := by decide +kernel
theorem d_M_count_34 : decode b_M_count 34 = .ok (.iload_n 1, 1) := by decide +kernel
theorem d_M_count_35 : decode b_M_count 35 = .ok (.iconst 3, 1) := by decide +kernel
theorem d_M_count_36 : decode b_M_count 36 = .ok (.if_icmp .ne 8, 3) := by decide +kernel
theorem d_M_count_39 : decode b_M_count 39 = .ok (.aload_n 0, 1) := by decide +kernel
theorem d_M_count_40 : decode b_M_count 40 = .ok (.getfield 102, 3) := by decide +kernel
theorem d_M_count_43 : decode b_M_count 43 = .ok (.ireturn, 1) := by decide +kernel
theorem d_M_count_44 : decode b_M_count 44 = .ok (.iconst 0, 1) := by decide +kernel
theorem d_M_count_45 : decode b_M_count 45 = .ok (.istore_n 2, 1) := by decide +kernel
theorem d_M_count_46 : decode b_M_count 46 = .ok (.iconst 1, 1) := by decide +kernel
theorem d_M_count_47 : decode b_M_count 47 = .ok (.istore_n 3, 1) := by decide +kernel
theorem d_M_count_48 : decode b_M_count 48 = .ok (.iload_n 3, 1) := by decide +kernel
theorem d_M_count_49 : decode b_M_count 49 = .ok (.aload_n 0, 1) := by decide +kernel
theorem d_M_count_50 : decode b_M_count 50 = .ok (.getfield 105, 3) := by decide +kernel
theorem d_M_count_53 : decode b_M_count 53 = .ok (.if_icmp .gt 26, 3) := by decide +kernel
theorem d_M_count_56 : decode b_M_count 56 = .ok (.iload_n 2, 1) := by decide +kernel
theorem d_M_count_57 : decode b_M_count 57 = .ok (.aload_n 0, 1) := by decide +kernel
theorem d_M_count_58 : decode b_M_count 58 = .ok (.getfield 40, 3) := by decide +kernel
theorem d_M_count_61 : decode b_M_count 61 = .ok (.iload_n 3, 1) := by decide +kernel
theorem d_M_count_62 : decode b_M_count 62 = .ok (.baload, 1) := by decide +kernel
theorem d_M_count_63 : decode b_M_count 63 = .ok (.ifCond .eq 7, 3) := by decide +kernel
theorem d_M_count_66 : decode b_M_count 66 = .ok (.iconst 0, 1) := by decide +kernel
theorem d_M_count_67 : decode b_M_count 67 = .ok (.goto 4, 3) := by decide +kernel
theorem d_M_count_70 : decode b_M_count 70 = .ok (.iconst 1, 1) := by decide +kernel
theorem d_M_count_71 : decode b_M_count 71 = .ok (.iadd, 1) := by decide +kernel
theorem d_M_count_72 : decode b_M_count 72 = .ok (.istore_n 2, 1) := by decide +kernel
theorem d_M_count_73 : decode b_M_count 73 = .ok (.iinc 3 1, 3) := by decide +kernel
theorem d_M_count_76 : decode b_M_count 76 = .ok (.goto (-28), 3) := by decide +kernel
theorem d_M_count_79 : decode b_M_count 79 = .ok (.iload_n 1, 1) := by decide +kernel
theorem d_M_count_80 : decode b_M_count 80 = .ok (.iconst 4, 1) := by decide +kernel
theorem d_M_count_81 : decode b_M_count 81 = .ok (.if_icmp .ne 7, 3) := by decide +kernel
theorem d_M_count_84 : decode b_M_count 84 = .ok (.iload_n 2, 1) := by decide +kernel
theorem d_M_count_85 : decode b_M_count 85 = .ok (.goto 4, 3) := by decide +kernel
theorem d_M_count_88 : decode b_M_count 88 = .ok (.iconst (-1), 1) := by decide +kernel
theorem d_M_count_89 : decode b_M_count 89 = .ok (.ireturn, 1) := by decide +kernel
