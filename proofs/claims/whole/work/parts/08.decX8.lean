theorem dX8_init_0 : decode cX8_init 0 = .ok (.aload_n 0, 1) := by decide +kernel
theorem dX8_init_1 : decode cX8_init 1 = .ok (.invokespecial 3, 3) := by decide +kernel
theorem dX8_init_4 : decode cX8_init 4 = .ok (.aload_n 0, 1) := by decide +kernel
theorem dX8_init_5 : decode cX8_init 5 = .ok (.new 9, 3) := by decide +kernel
theorem dX8_init_8 : decode cX8_init 8 = .ok (.dup, 1) := by decide +kernel
theorem dX8_init_9 : decode cX8_init 9 = .ok (.invokespecial 11, 3) := by decide +kernel
theorem dX8_init_12 : decode cX8_init 12 = .ok (.putfield 12, 3) := by decide +kernel
theorem dX8_init_15 : decode cX8_init 15 = .ok (.aload_n 0, 1) := by decide +kernel
theorem dX8_init_16 : decode cX8_init 16 = .ok (.new 9, 3) := by decide +kernel
theorem dX8_init_19 : decode cX8_init 19 = .ok (.dup, 1) := by decide +kernel
theorem dX8_init_20 : decode cX8_init 20 = .ok (.invokespecial 11, 3) := by decide +kernel
theorem dX8_init_23 : decode cX8_init 23 = .ok (.putfield 16, 3) := by decide +kernel
theorem dX8_init_26 : decode cX8_init 26 = .ok (.aload_n 0, 1) := by decide +kernel
theorem dX8_init_27 : decode cX8_init 27 = .ok (.new 19, 3) := by decide +kernel
theorem dX8_init_30 : decode cX8_init 30 = .ok (.dup, 1) := by decide +kernel
theorem dX8_init_31 : decode cX8_init 31 = .ok (.invokespecial 21, 3) := by decide +kernel
theorem dX8_init_34 : decode cX8_init 34 = .ok (.putfield 22, 3) := by decide +kernel
theorem dX8_init_37 : decode cX8_init 37 = .ok (.aload_n 0, 1) := by decide +kernel
theorem dX8_init_38 : decode cX8_init 38 = .ok (.new 19, 3) := by decide +kernel
theorem dX8_init_41 : decode cX8_init 41 = .ok (.dup, 1) := by decide +kernel
theorem dX8_init_42 : decode cX8_init 42 = .ok (.invokespecial 21, 3) := by decide +kernel
theorem dX8_init_45 : decode cX8_init 45 = .ok (.putfield 26, 3) := by decide +kernel
theorem dX8_init_48 : decode cX8_init 48 = .ok (.aload_n 0, 1) := by decide +kernel
theorem dX8_init_49 : decode cX8_init 49 = .ok (.iconst 4, 1) := by decide +kernel
theorem dX8_init_50 : decode cX8_init 50 = .ok (.anewarray 29, 3) := by decide +kernel
theorem dX8_init_53 : decode cX8_init 53 = .ok (.putfield 31, 3) := by decide +kernel
theorem dX8_init_56 : decode cX8_init 56 = .ok (.aload_n 0, 1) := by decide +kernel
theorem dX8_init_57 : decode cX8_init 57 = .ok (.new 35, 3) := by decide +kernel
theorem dX8_init_60 : decode cX8_init 60 = .ok (.dup, 1) := by decide +kernel
theorem dX8_init_61 : decode cX8_init 61 = .ok (.invokespecial 37, 3) := by decide +kernel
theorem dX8_init_64 : decode cX8_init 64 = .ok (.putfield 38, 3) := by decide +kernel
theorem dX8_init_67 : decode cX8_init 67 = .ok (.aload_n 0, 1) := by decide +kernel
theorem dX8_init_68 : decode cX8_init 68 = .ok (.new 42, 3) := by decide +kernel
theorem dX8_init_71 : decode cX8_init 71 = .ok (.dup, 1) := by decide +kernel
theorem dX8_init_72 : decode cX8_init 72 = .ok (.aload_n 0, 1) := by decide +kernel
theorem dX8_init_73 : decode cX8_init 73 = .ok (.getfield 12, 3) := by decide +kernel
theorem dX8_init_76 : decode cX8_init 76 = .ok (.aload_n 0, 1) := by decide +kernel
theorem dX8_init_77 : decode cX8_init 77 = .ok (.getfield 31, 3) := by decide +kernel
theorem dX8_init_80 : decode cX8_init 80 = .ok (.invokespecial 44, 3) := by decide +kernel
theorem dX8_init_83 : decode cX8_init 83 = .ok (.putfield 47, 3) := by decide +kernel
theorem dX8_init_86 : decode cX8_init 86 = .ok (.aload_n 0, 1) := by decide +kernel
theorem dX8_init_87 : decode cX8_init 87 = .ok (.new 51, 3) := by decide +kernel
theorem dX8_init_90 : decode cX8_init 90 = .ok (.dup, 1) := by decide +kernel
theorem dX8_init_91 : decode cX8_init 91 = .ok (.aload_n 0, 1) := by decide +kernel
theorem dX8_init_92 : decode cX8_init 92 = .ok (.getfield 12, 3) := by decide +kernel
theorem dX8_init_95 : decode cX8_init 95 = .ok (.aload_n 0, 1) := by decide +kernel
theorem dX8_init_96 : decode cX8_init 96 = .ok (.getfield 47, 3) := by decide +kernel
theorem dX8_init_99 : decode cX8_init 99 = .ok (.invokespecial 53, 3) := by decide +kernel
theorem dX8_init_102 : decode cX8_init 102 = .ok (.putfield 56, 3) := by decide +kernel
theorem dX8_init_105 : decode cX8_init 105 = .ok (.aload_n 0, 1) := by decide +kernel
theorem dX8_init_106 : decode cX8_init 106 = .ok (.new 60, 3) := by decide +kernel
theorem dX8_init_109 : decode cX8_init 109 = .ok (.dup, 1) := by decide +kernel
theorem dX8_init_110 : decode cX8_init 110 = .ok (.aload_n 0, 1) := by decide +kernel
theorem dX8_init_111 : decode cX8_init 111 = .ok (.getfield 12, 3) := by decide +kernel
theorem dX8_init_114 : decode cX8_init 114 = .ok (.aload_n 0, 1) := by decide +kernel
theorem dX8_init_115 : decode cX8_init 115 = .ok (.getfield 47, 3) := by decide +kernel
theorem dX8_init_118 : decode cX8_init 118 = .ok (.invokespecial 62, 3) := by decide +kernel
theorem dX8_init_121 : decode cX8_init 121 = .ok (.putfield 63, 3) := by decide +kernel
theorem dX8_init_124 : decode cX8_init 124 = .ok (.aload_n 0, 1) := by decide +kernel
theorem dX8_init_125 : decode cX8_init 125 = .ok (.new 67, 3) := by decide +kernel
theorem dX8_init_128 : decode cX8_init 128 = .ok (.dup, 1) := by decide +kernel
theorem dX8_init_129 : decode cX8_init 129 = .ok (.aload_n 0, 1) := by decide +kernel
theorem dX8_init_130 : decode cX8_init 130 = .ok (.getfield 12, 3) := by decide +kernel
theorem dX8_init_133 : decode cX8_init 133 = .ok (.aload_n 0, 1) := by decide +kernel
theorem dX8_init_134 : decode cX8_init 134 = .ok (.getfield 47, 3) := by decide +kernel
theorem dX8_init_137 : decode cX8_init 137 = .ok (.invokespecial 69, 3) := by decide +kernel
theorem dX8_init_140 : decode cX8_init 140 = .ok (.putfield 70, 3) := by decide +kernel
theorem dX8_init_143 : decode cX8_init 143 = .ok (.iconst 0, 1) := by decide +kernel
theorem dX8_init_144 : decode cX8_init 144 = .ok (.istore_n 1, 1) := by decide +kernel
theorem dX8_init_145 : decode cX8_init 145 = .ok (.iload_n 1, 1) := by decide +kernel
theorem dX8_init_146 : decode cX8_init 146 = .ok (.aload_n 0, 1) := by decide +kernel
theorem dX8_init_147 : decode cX8_init 147 = .ok (.getfield 31, 3) := by decide +kernel
theorem dX8_init_150 : decode cX8_init 150 = .ok (.arraylength, 1) := by decide +kernel
theorem dX8_init_151 : decode cX8_init 151 = .ok (.if_icmp .ge 22, 3) := by decide +kernel
theorem dX8_init_154 : decode cX8_init 154 = .ok (.aload_n 0, 1) := by decide +kernel
theorem dX8_init_155 : decode cX8_init 155 = .ok (.getfield 31, 3) := by decide +kernel
theorem dX8_init_158 : decode cX8_init 158 = .ok (.iload_n 1, 1) := by decide +kernel
theorem dX8_init_159 : decode cX8_init 159 = .ok (.new 29, 3) := by decide +kernel
theorem dX8_init_162 : decode cX8_init 162 = .ok (.dup, 1) := by decide +kernel
theorem dX8_init_163 : decode cX8_init 163 = .ok (.invokespecial 74, 3) := by decide +kernel
theorem dX8_init_166 : decode cX8_init 166 = .ok (.aastore, 1) := by decide +kernel
theorem dX8_init_167 : decode cX8_init 167 = .ok (.iinc 1 1, 3) := by decide +kernel
theorem dX8_init_170 : decode cX8_init 170 = .ok (.goto (-25), 3) := by decide +kernel
theorem dX8_init_173 : decode cX8_init 173 = .ok (.return_, 1) := by decide +kernel
theorem dX8_house_0 : decode cX8_house 0 = .ok (.iload_n 1, 1) := by decide +kernel
theorem dX8_house_1 : decode cX8_house 1 = .ok (.ifCond .lt 20, 3) := by decide +kernel
theorem dX8_house_4 : decode cX8_house 4 = .ok (.iload_n 1, 1) := by decide +kernel
theorem dX8_house_5 : decode cX8_house 5 = .ok (.bipush 9, 2) := by decide +kernel
theorem dX8_house_7 : decode cX8_house 7 = .ok (.if_icmp .gt 14, 3) := by decide +kernel
theorem dX8_house_10 : decode cX8_house 10 = .ok (.iload_n 2, 1) := by decide +kernel
theorem dX8_house_11 : decode cX8_house 11 = .ok (.ifCond .lt 10, 3) := by decide +kernel
theorem dX8_house_14 : decode cX8_house 14 = .ok (.iload_n 2, 1) := by decide +kernel
theorem dX8_house_15 : decode cX8_house 15 = .ok (.sipush 999, 3) := by decide +kernel
theorem dX8_house_18 : decode cX8_house 18 = .ok (.if_icmp .le 5, 3) := by decide +kernel
theorem dX8_house_21 : decode cX8_house 21 = .ok (.iconst (-1), 1) := by decide +kernel
theorem dX8_house_22 : decode cX8_house 22 = .ok (.ireturn, 1) := by decide +kernel
theorem dX8_house_23 : decode cX8_house 23 = .ok (.aload_n 0, 1) := by decide +kernel
theorem dX8_house_24 : decode cX8_house 24 = .ok (.getfield 12, 3) := by decide +kernel
theorem dX8_house_27 : decode cX8_house 27 = .ok (.iload_n 1, 1) := by decide +kernel
theorem dX8_house_28 : decode cX8_house 28 = .ok (.iload_n 2, 1) := by decide +kernel
theorem dX8_house_29 : decode cX8_house 29 = .ok (.invokevirtual 75, 3) := by decide +kernel
theorem dX8_house_32 : decode cX8_house 32 = .ok (.ireturn, 1) := by decide +kernel
theorem dX8_candle_0 : decode cX8_candle 0 = .ok (.iload_n 1, 1) := by decide +kernel
theorem dX8_candle_1 : decode cX8_candle 1 = .ok (.iconst 1, 1) := by decide +kernel
theorem dX8_candle_2 : decode cX8_candle 2 = .ok (.if_icmp .lt 20, 3) := by decide +kernel
theorem dX8_candle_5 : decode cX8_candle 5 = .ok (.iload_n 1, 1) := by decide +kernel
theorem dX8_candle_6 : decode cX8_candle 6 = .ok (.bipush 9, 2) := by decide +kernel
theorem dX8_candle_8 : decode cX8_candle 8 = .ok (.if_icmp .gt 14, 3) := by decide +kernel
theorem dX8_candle_11 : decode cX8_candle 11 = .ok (.iload_n 2, 1) := by decide +kernel
theorem dX8_candle_12 : decode cX8_candle 12 = .ok (.iconst 1, 1) := by decide +kernel
theorem dX8_candle_13 : decode cX8_candle 13 = .ok (.if_icmp .lt 9, 3) := by decide +kernel
theorem dX8_candle_16 : decode cX8_candle 16 = .ok (.iload_n 2, 1) := by decide +kernel
theorem dX8_candle_17 : decode cX8_candle 17 = .ok (.bipush 12, 2) := by decide +kernel
theorem dX8_candle_19 : decode cX8_candle 19 = .ok (.if_icmp .le 5, 3) := by decide +kernel
theorem dX8_candle_22 : decode cX8_candle 22 = .ok (.iconst (-1), 1) := by decide +kernel
theorem dX8_candle_23 : decode cX8_candle 23 = .ok (.ireturn, 1) := by decide +kernel
theorem dX8_candle_24 : decode cX8_candle 24 = .ok (.aload_n 0, 1) := by decide +kernel
theorem dX8_candle_25 : decode cX8_candle 25 = .ok (.getfield 12, 3) := by decide +kernel
theorem dX8_candle_28 : decode cX8_candle 28 = .ok (.iload_n 1, 1) := by decide +kernel
theorem dX8_candle_29 : decode cX8_candle 29 = .ok (.iload_n 2, 1) := by decide +kernel
theorem dX8_candle_30 : decode cX8_candle 30 = .ok (.invokevirtual 79, 3) := by decide +kernel
theorem dX8_candle_33 : decode cX8_candle 33 = .ok (.ireturn, 1) := by decide +kernel
theorem dX8_seed_0 : decode cX8_seed 0 = .ok (.iload_n 1, 1) := by decide +kernel
theorem dX8_seed_1 : decode cX8_seed 1 = .ok (.ifCond .lt 10, 3) := by decide +kernel
theorem dX8_seed_4 : decode cX8_seed 4 = .ok (.iload_n 1, 1) := by decide +kernel
theorem dX8_seed_5 : decode cX8_seed 5 = .ok (.sipush 9999, 3) := by decide +kernel
theorem dX8_seed_8 : decode cX8_seed 8 = .ok (.if_icmp .le 5, 3) := by decide +kernel
theorem dX8_seed_11 : decode cX8_seed 11 = .ok (.iconst 0, 1) := by decide +kernel
theorem dX8_seed_12 : decode cX8_seed 12 = .ok (.ireturn, 1) := by decide +kernel
theorem dX8_seed_13 : decode cX8_seed 13 = .ok (.aload_n 0, 1) := by decide +kernel
theorem dX8_seed_14 : decode cX8_seed 14 = .ok (.getfield 12, 3) := by decide +kernel
theorem dX8_seed_17 : decode cX8_seed 17 = .ok (.iload_n 1, 1) := by decide +kernel
theorem dX8_seed_18 : decode cX8_seed 18 = .ok (.iconst 4, 1) := by decide +kernel
theorem dX8_seed_19 : decode cX8_seed 19 = .ok (.imul, 1) := by decide +kernel
theorem dX8_seed_20 : decode cX8_seed 20 = .ok (.iconst 5, 1) := by decide +kernel
theorem dX8_seed_21 : decode cX8_seed 21 = .ok (.iadd, 1) := by decide +kernel
theorem dX8_seed_22 : decode cX8_seed 22 = .ok (.putfield 82, 3) := by decide +kernel
theorem dX8_seed_25 : decode cX8_seed 25 = .ok (.iconst 1, 1) := by decide +kernel
theorem dX8_seed_26 : decode cX8_seed 26 = .ok (.ireturn, 1) := by decide +kernel
theorem dX8_buy_0 : decode cX8_buy 0 = .ok (.aload_n 0, 1) := by decide +kernel
theorem dX8_buy_1 : decode cX8_buy 1 = .ok (.getfield 12, 3) := by decide +kernel
theorem dX8_buy_4 : decode cX8_buy 4 = .ok (.iload_n 1, 1) := by decide +kernel
theorem dX8_buy_5 : decode cX8_buy 5 = .ok (.invokevirtual 86, 3) := by decide +kernel
theorem dX8_buy_8 : decode cX8_buy 8 = .ok (.ifCond .eq 15, 3) := by decide +kernel
theorem dX8_buy_11 : decode cX8_buy 11 = .ok (.aload_n 0, 1) := by decide +kernel
theorem dX8_buy_12 : decode cX8_buy 12 = .ok (.getfield 12, 3) := by decide +kernel
theorem dX8_buy_15 : decode cX8_buy 15 = .ok (.iload_n 2, 1) := by decide +kernel
theorem dX8_buy_16 : decode cX8_buy 16 = .ok (.iload_n 3, 1) := by decide +kernel
theorem dX8_buy_17 : decode cX8_buy 17 = .ok (.invokevirtual 90, 3) := by decide +kernel
theorem dX8_buy_20 : decode cX8_buy 20 = .ok (.ifCond .ne 5, 3) := by decide +kernel
theorem dX8_buy_23 : decode cX8_buy 23 = .ok (.iconst (-1), 1) := by decide +kernel
theorem dX8_buy_24 : decode cX8_buy 24 = .ok (.ireturn, 1) := by decide +kernel
theorem dX8_buy_25 : decode cX8_buy 25 = .ok (.iload_n 3, 1) := by decide +kernel
theorem dX8_buy_26 : decode cX8_buy 26 = .ok (.aload_n 0, 1) := by decide +kernel
theorem dX8_buy_27 : decode cX8_buy 27 = .ok (.getfield 12, 3) := by decide +kernel
theorem dX8_buy_30 : decode cX8_buy 30 = .ok (.getfield 94, 3) := by decide +kernel
theorem dX8_buy_33 : decode cX8_buy 33 = .ok (.iload_n 2, 1) := by decide +kernel
theorem dX8_buy_34 : decode cX8_buy 34 = .ok (.iaload, 1) := by decide +kernel
theorem dX8_buy_35 : decode cX8_buy 35 = .ok (.if_icmp .lt 16, 3) := by decide +kernel
theorem dX8_buy_38 : decode cX8_buy 38 = .ok (.aload_n 0, 1) := by decide +kernel
theorem dX8_buy_39 : decode cX8_buy 39 = .ok (.getfield 12, 3) := by decide +kernel
theorem dX8_buy_42 : decode cX8_buy 42 = .ok (.iload_n 2, 1) := by decide +kernel
theorem dX8_buy_43 : decode cX8_buy 43 = .ok (.iload_n 3, 1) := by decide +kernel
theorem dX8_buy_44 : decode cX8_buy 44 = .ok (.invokevirtual 98, 3) := by decide +kernel
theorem dX8_buy_47 : decode cX8_buy 47 = .ok (.iconst (-1), 1) := by decide +kernel
theorem dX8_buy_48 : decode cX8_buy 48 = .ok (.if_icmp .eq 5, 3) := by decide +kernel
theorem dX8_buy_51 : decode cX8_buy 51 = .ok (.iconst (-1), 1) := by decide +kernel
theorem dX8_buy_52 : decode cX8_buy 52 = .ok (.ireturn, 1) := by decide +kernel
theorem dX8_buy_53 : decode cX8_buy 53 = .ok (.aload_n 0, 1) := by decide +kernel
theorem dX8_buy_54 : decode cX8_buy 54 = .ok (.getfield 47, 3) := by decide +kernel
theorem dX8_buy_57 : decode cX8_buy 57 = .ok (.iconst 0, 1) := by decide +kernel
theorem dX8_buy_58 : decode cX8_buy 58 = .ok (.iload_n 1, 1) := by decide +kernel
theorem dX8_buy_59 : decode cX8_buy 59 = .ok (.iload_n 2, 1) := by decide +kernel
theorem dX8_buy_60 : decode cX8_buy 60 = .ok (.iload_n 3, 1) := by decide +kernel
theorem dX8_buy_61 : decode cX8_buy 61 = .ok (.invokevirtual 101, 3) := by decide +kernel
theorem dX8_buy_64 : decode cX8_buy 64 = .ok (.istore 4, 2) := by decide +kernel
theorem dX8_buy_66 : decode cX8_buy 66 = .ok (.aload_n 0, 1) := by decide +kernel
theorem dX8_buy_67 : decode cX8_buy 67 = .ok (.getfield 12, 3) := by decide +kernel
theorem dX8_buy_70 : decode cX8_buy 70 = .ok (.getfield 105, 3) := by decide +kernel
theorem dX8_buy_73 : decode cX8_buy 73 = .ok (.iload_n 1, 1) := by decide +kernel
theorem dX8_buy_74 : decode cX8_buy 74 = .ok (.iaload, 1) := by decide +kernel
theorem dX8_buy_75 : decode cX8_buy 75 = .ok (.iload 4, 2) := by decide +kernel
theorem dX8_buy_77 : decode cX8_buy 77 = .ok (.if_icmp .ge 5, 3) := by decide +kernel
theorem dX8_buy_80 : decode cX8_buy 80 = .ok (.iconst (-1), 1) := by decide +kernel
theorem dX8_buy_81 : decode cX8_buy 81 = .ok (.ireturn, 1) := by decide +kernel
theorem dX8_buy_82 : decode cX8_buy 82 = .ok (.aload_n 0, 1) := by decide +kernel
theorem dX8_buy_83 : decode cX8_buy 83 = .ok (.getfield 22, 3) := by decide +kernel
theorem dX8_buy_86 : decode cX8_buy 86 = .ok (.aload_n 0, 1) := by decide +kernel
theorem dX8_buy_87 : decode cX8_buy 87 = .ok (.getfield 12, 3) := by decide +kernel
theorem dX8_buy_90 : decode cX8_buy 90 = .ok (.iload_n 2, 1) := by decide +kernel
theorem dX8_buy_91 : decode cX8_buy 91 = .ok (.iload_n 3, 1) := by decide +kernel
theorem dX8_buy_92 : decode cX8_buy 92 = .ok (.invokevirtual 108, 3) := by decide +kernel
theorem dX8_buy_95 : decode cX8_buy 95 = .ok (.aload_n 0, 1) := by decide +kernel
theorem dX8_buy_96 : decode cX8_buy 96 = .ok (.getfield 12, 3) := by decide +kernel
theorem dX8_buy_99 : decode cX8_buy 99 = .ok (.getfield 105, 3) := by decide +kernel
theorem dX8_buy_102 : decode cX8_buy 102 = .ok (.iload_n 1, 1) := by decide +kernel
theorem dX8_buy_103 : decode cX8_buy 103 = .ok (.dup2, 1) := by decide +kernel
theorem dX8_buy_104 : decode cX8_buy 104 = .ok (.iaload, 1) := by decide +kernel
theorem dX8_buy_105 : decode cX8_buy 105 = .ok (.iload 4, 2) := by decide +kernel
theorem dX8_buy_107 : decode cX8_buy 107 = .ok (.isub, 1) := by decide +kernel
theorem dX8_buy_108 : decode cX8_buy 108 = .ok (.iastore, 1) := by decide +kernel
theorem dX8_buy_109 : decode cX8_buy 109 = .ok (.aload_n 0, 1) := by decide +kernel
theorem dX8_buy_110 : decode cX8_buy 110 = .ok (.getfield 12, 3) := by decide +kernel
theorem dX8_buy_113 : decode cX8_buy 113 = .ok (.iload_n 2, 1) := by decide +kernel
theorem dX8_buy_114 : decode cX8_buy 114 = .ok (.iload_n 3, 1) := by decide +kernel
theorem dX8_buy_115 : decode cX8_buy 115 = .ok (.iload_n 1, 1) := by decide +kernel
theorem dX8_buy_116 : decode cX8_buy 116 = .ok (.invokevirtual 112, 3) := by decide +kernel
theorem dX8_buy_119 : decode cX8_buy 119 = .ok (.aload_n 0, 1) := by decide +kernel
theorem dX8_buy_120 : decode cX8_buy 120 = .ok (.getfield 12, 3) := by decide +kernel
theorem dX8_buy_123 : decode cX8_buy 123 = .ok (.getfield 105, 3) := by decide +kernel
theorem dX8_buy_126 : decode cX8_buy 126 = .ok (.iload_n 1, 1) := by decide +kernel
theorem dX8_buy_127 : decode cX8_buy 127 = .ok (.iaload, 1) := by decide +kernel
theorem dX8_buy_128 : decode cX8_buy 128 = .ok (.ireturn, 1) := by decide +kernel
theorem dX8_light_0 : decode cX8_light 0 = .ok (.aload_n 0, 1) := by decide +kernel
theorem dX8_light_1 : decode cX8_light 1 = .ok (.getfield 12, 3) := by decide +kernel
theorem dX8_light_4 : decode cX8_light 4 = .ok (.iload_n 1, 1) := by decide +kernel
theorem dX8_light_5 : decode cX8_light 5 = .ok (.invokevirtual 116, 3) := by decide +kernel
theorem dX8_light_8 : decode cX8_light 8 = .ok (.ifCond .ne 5, 3) := by decide +kernel
theorem dX8_light_11 : decode cX8_light 11 = .ok (.iconst (-1), 1) := by decide +kernel
theorem dX8_light_12 : decode cX8_light 12 = .ok (.ireturn, 1) := by decide +kernel
theorem dX8_light_13 : decode cX8_light 13 = .ok (.aload_n 0, 1) := by decide +kernel
theorem dX8_light_14 : decode cX8_light 14 = .ok (.getfield 12, 3) := by decide +kernel
theorem dX8_light_17 : decode cX8_light 17 = .ok (.getfield 119, 3) := by decide +kernel
theorem dX8_light_20 : decode cX8_light 20 = .ok (.iload_n 1, 1) := by decide +kernel
theorem dX8_light_21 : decode cX8_light 21 = .ok (.iaload, 1) := by decide +kernel
theorem dX8_light_22 : decode cX8_light 22 = .ok (.ifCond .ne 9, 3) := by decide +kernel
theorem dX8_light_25 : decode cX8_light 25 = .ok (.aload_n 0, 1) := by decide +kernel
theorem dX8_light_26 : decode cX8_light 26 = .ok (.iload_n 1, 1) := by decide +kernel
theorem dX8_light_27 : decode cX8_light 27 = .ok (.invokevirtual 122, 3) := by decide +kernel
theorem dX8_light_30 : decode cX8_light 30 = .ok (.ireturn, 1) := by decide +kernel
theorem dX8_light_31 : decode cX8_light 31 = .ok (.aload_n 0, 1) := by decide +kernel
theorem dX8_light_32 : decode cX8_light 32 = .ok (.getfield 12, 3) := by decide +kernel
theorem dX8_light_35 : decode cX8_light 35 = .ok (.getfield 119, 3) := by decide +kernel
theorem dX8_light_38 : decode cX8_light 38 = .ok (.iload_n 1, 1) := by decide +kernel
theorem dX8_light_39 : decode cX8_light 39 = .ok (.iaload, 1) := by decide +kernel
theorem dX8_light_40 : decode cX8_light 40 = .ok (.iconst 2, 1) := by decide +kernel
theorem dX8_light_41 : decode cX8_light 41 = .ok (.if_icmp .ne 11, 3) := by decide +kernel
theorem dX8_light_44 : decode cX8_light 44 = .ok (.aload_n 0, 1) := by decide +kernel
theorem dX8_light_45 : decode cX8_light 45 = .ok (.iload_n 1, 1) := by decide +kernel
theorem dX8_light_46 : decode cX8_light 46 = .ok (.invokevirtual 126, 3) := by decide +kernel
theorem dX8_light_49 : decode cX8_light 49 = .ok (.goto 4, 3) := by decide +kernel
theorem dX8_light_52 : decode cX8_light 52 = .ok (.iconst (-1), 1) := by decide +kernel
theorem dX8_light_53 : decode cX8_light 53 = .ok (.ireturn, 1) := by decide +kernel
theorem dX8_lightFirst_0 : decode cX8_lightFirst 0 = .ok (.aload_n 0, 1) := by decide +kernel
theorem dX8_lightFirst_1 : decode cX8_lightFirst 1 = .ok (.getfield 12, 3) := by decide +kernel
theorem dX8_lightFirst_4 : decode cX8_lightFirst 4 = .ok (.iload_n 1, 1) := by decide +kernel
theorem dX8_lightFirst_5 : decode cX8_lightFirst 5 = .ok (.iconst 0, 1) := by decide +kernel
theorem dX8_lightFirst_6 : decode cX8_lightFirst 6 = .ok (.invokevirtual 98, 3) := by decide +kernel
theorem dX8_lightFirst_9 : decode cX8_lightFirst 9 = .ok (.istore_n 2, 1) := by decide +kernel
theorem dX8_lightFirst_10 : decode cX8_lightFirst 10 = .ok (.iload_n 2, 1) := by decide +kernel
theorem dX8_lightFirst_11 : decode cX8_lightFirst 11 = .ok (.iconst (-1), 1) := by decide +kernel
theorem dX8_lightFirst_12 : decode cX8_lightFirst 12 = .ok (.if_icmp .ne 5, 3) := by decide +kernel
theorem dX8_lightFirst_15 : decode cX8_lightFirst 15 = .ok (.iconst (-1), 1) := by decide +kernel
theorem dX8_lightFirst_16 : decode cX8_lightFirst 16 = .ok (.ireturn, 1) := by decide +kernel
theorem dX8_lightFirst_17 : decode cX8_lightFirst 17 = .ok (.aload_n 0, 1) := by decide +kernel
theorem dX8_lightFirst_18 : decode cX8_lightFirst 18 = .ok (.getfield 22, 3) := by decide +kernel
theorem dX8_lightFirst_21 : decode cX8_lightFirst 21 = .ok (.aload_n 0, 1) := by decide +kernel
theorem dX8_lightFirst_22 : decode cX8_lightFirst 22 = .ok (.getfield 12, 3) := by decide +kernel
theorem dX8_lightFirst_25 : decode cX8_lightFirst 25 = .ok (.iload_n 1, 1) := by decide +kernel
theorem dX8_lightFirst_26 : decode cX8_lightFirst 26 = .ok (.iconst (-1), 1) := by decide +kernel
theorem dX8_lightFirst_27 : decode cX8_lightFirst 27 = .ok (.invokevirtual 108, 3) := by decide +kernel
theorem dX8_lightFirst_30 : decode cX8_lightFirst 30 = .ok (.aload_n 0, 1) := by decide +kernel
theorem dX8_lightFirst_31 : decode cX8_lightFirst 31 = .ok (.getfield 12, 3) := by decide +kernel
theorem dX8_lightFirst_34 : decode cX8_lightFirst 34 = .ok (.getfield 119, 3) := by decide +kernel
theorem dX8_lightFirst_37 : decode cX8_lightFirst 37 = .ok (.iload_n 1, 1) := by decide +kernel
theorem dX8_lightFirst_38 : decode cX8_lightFirst 38 = .ok (.iconst 1, 1) := by decide +kernel
theorem dX8_lightFirst_39 : decode cX8_lightFirst 39 = .ok (.iastore, 1) := by decide +kernel
theorem dX8_lightFirst_40 : decode cX8_lightFirst 40 = .ok (.aload_n 0, 1) := by decide +kernel
theorem dX8_lightFirst_41 : decode cX8_lightFirst 41 = .ok (.getfield 12, 3) := by decide +kernel
theorem dX8_lightFirst_44 : decode cX8_lightFirst 44 = .ok (.getfield 129, 3) := by decide +kernel
theorem dX8_lightFirst_47 : decode cX8_lightFirst 47 = .ok (.iload_n 1, 1) := by decide +kernel
theorem dX8_lightFirst_48 : decode cX8_lightFirst 48 = .ok (.iload_n 2, 1) := by decide +kernel
theorem dX8_lightFirst_49 : decode cX8_lightFirst 49 = .ok (.iastore, 1) := by decide +kernel
theorem dX8_lightFirst_50 : decode cX8_lightFirst 50 = .ok (.iload_n 2, 1) := by decide +kernel
theorem dX8_lightFirst_51 : decode cX8_lightFirst 51 = .ok (.ireturn, 1) := by decide +kernel
theorem dX8_lightAgain_0 : decode cX8_lightAgain 0 = .ok (.aload_n 0, 1) := by decide +kernel
theorem dX8_lightAgain_1 : decode cX8_lightAgain 1 = .ok (.getfield 12, 3) := by decide +kernel
theorem dX8_lightAgain_4 : decode cX8_lightAgain 4 = .ok (.getfield 129, 3) := by decide +kernel
theorem dX8_lightAgain_7 : decode cX8_lightAgain 7 = .ok (.iload_n 1, 1) := by decide +kernel
theorem dX8_lightAgain_8 : decode cX8_lightAgain 8 = .ok (.iaload, 1) := by decide +kernel
theorem dX8_lightAgain_9 : decode cX8_lightAgain 9 = .ok (.istore_n 2, 1) := by decide +kernel
theorem dX8_lightAgain_10 : decode cX8_lightAgain 10 = .ok (.aload_n 0, 1) := by decide +kernel
theorem dX8_lightAgain_11 : decode cX8_lightAgain 11 = .ok (.getfield 12, 3) := by decide +kernel
theorem dX8_lightAgain_14 : decode cX8_lightAgain 14 = .ok (.iload_n 2, 1) := by decide +kernel
theorem dX8_lightAgain_15 : decode cX8_lightAgain 15 = .ok (.invokevirtual 86, 3) := by decide +kernel
theorem dX8_lightAgain_18 : decode cX8_lightAgain 18 = .ok (.ifCond .eq 16, 3) := by decide +kernel
theorem dX8_lightAgain_21 : decode cX8_lightAgain 21 = .ok (.aload_n 0, 1) := by decide +kernel
theorem dX8_lightAgain_22 : decode cX8_lightAgain 22 = .ok (.getfield 12, 3) := by decide +kernel
theorem dX8_lightAgain_25 : decode cX8_lightAgain 25 = .ok (.getfield 105, 3) := by decide +kernel
theorem dX8_lightAgain_28 : decode cX8_lightAgain 28 = .ok (.iload_n 2, 1) := by decide +kernel
theorem dX8_lightAgain_29 : decode cX8_lightAgain 29 = .ok (.iaload, 1) := by decide +kernel
theorem dX8_lightAgain_30 : decode cX8_lightAgain 30 = .ok (.iconst 1, 1) := by decide +kernel
theorem dX8_lightAgain_31 : decode cX8_lightAgain 31 = .ok (.if_icmp .ge 5, 3) := by decide +kernel
theorem dX8_lightAgain_34 : decode cX8_lightAgain 34 = .ok (.iconst (-1), 1) := by decide +kernel
theorem dX8_lightAgain_35 : decode cX8_lightAgain 35 = .ok (.ireturn, 1) := by decide +kernel
theorem dX8_lightAgain_36 : decode cX8_lightAgain 36 = .ok (.aload_n 0, 1) := by decide +kernel
theorem dX8_lightAgain_37 : decode cX8_lightAgain 37 = .ok (.getfield 22, 3) := by decide +kernel
theorem dX8_lightAgain_40 : decode cX8_lightAgain 40 = .ok (.aload_n 0, 1) := by decide +kernel
theorem dX8_lightAgain_41 : decode cX8_lightAgain 41 = .ok (.getfield 12, 3) := by decide +kernel
theorem dX8_lightAgain_44 : decode cX8_lightAgain 44 = .ok (.iload_n 1, 1) := by decide +kernel
theorem dX8_lightAgain_45 : decode cX8_lightAgain 45 = .ok (.iconst (-1), 1) := by decide +kernel
theorem dX8_lightAgain_46 : decode cX8_lightAgain 46 = .ok (.invokevirtual 108, 3) := by decide +kernel
theorem dX8_lightAgain_49 : decode cX8_lightAgain 49 = .ok (.aload_n 0, 1) := by decide +kernel
theorem dX8_lightAgain_50 : decode cX8_lightAgain 50 = .ok (.getfield 12, 3) := by decide +kernel
theorem dX8_lightAgain_53 : decode cX8_lightAgain 53 = .ok (.getfield 105, 3) := by decide +kernel
theorem dX8_lightAgain_56 : decode cX8_lightAgain 56 = .ok (.iload_n 2, 1) := by decide +kernel
theorem dX8_lightAgain_57 : decode cX8_lightAgain 57 = .ok (.dup2, 1) := by decide +kernel
theorem dX8_lightAgain_58 : decode cX8_lightAgain 58 = .ok (.iaload, 1) := by decide +kernel
theorem dX8_lightAgain_59 : decode cX8_lightAgain 59 = .ok (.iconst 1, 1) := by decide +kernel
theorem dX8_lightAgain_60 : decode cX8_lightAgain 60 = .ok (.isub, 1) := by decide +kernel
theorem dX8_lightAgain_61 : decode cX8_lightAgain 61 = .ok (.iastore, 1) := by decide +kernel
theorem dX8_lightAgain_62 : decode cX8_lightAgain 62 = .ok (.aload_n 0, 1) := by decide +kernel
theorem dX8_lightAgain_63 : decode cX8_lightAgain 63 = .ok (.getfield 12, 3) := by decide +kernel
theorem dX8_lightAgain_66 : decode cX8_lightAgain 66 = .ok (.getfield 119, 3) := by decide +kernel
theorem dX8_lightAgain_69 : decode cX8_lightAgain 69 = .ok (.iload_n 1, 1) := by decide +kernel
theorem dX8_lightAgain_70 : decode cX8_lightAgain 70 = .ok (.iconst 1, 1) := by decide +kernel
theorem dX8_lightAgain_71 : decode cX8_lightAgain 71 = .ok (.iastore, 1) := by decide +kernel
theorem dX8_lightAgain_72 : decode cX8_lightAgain 72 = .ok (.iload_n 2, 1) := by decide +kernel
theorem dX8_lightAgain_73 : decode cX8_lightAgain 73 = .ok (.ireturn, 1) := by decide +kernel
theorem dX8_burn_0 : decode cX8_burn 0 = .ok (.aload_n 0, 1) := by decide +kernel
theorem dX8_burn_1 : decode cX8_burn 1 = .ok (.getfield 12, 3) := by decide +kernel
theorem dX8_burn_4 : decode cX8_burn 4 = .ok (.iload_n 1, 1) := by decide +kernel
theorem dX8_burn_5 : decode cX8_burn 5 = .ok (.invokevirtual 116, 3) := by decide +kernel
theorem dX8_burn_8 : decode cX8_burn 8 = .ok (.ifCond .eq 16, 3) := by decide +kernel
theorem dX8_burn_11 : decode cX8_burn 11 = .ok (.aload_n 0, 1) := by decide +kernel
theorem dX8_burn_12 : decode cX8_burn 12 = .ok (.getfield 12, 3) := by decide +kernel
theorem dX8_burn_15 : decode cX8_burn 15 = .ok (.getfield 119, 3) := by decide +kernel
theorem dX8_burn_18 : decode cX8_burn 18 = .ok (.iload_n 1, 1) := by decide +kernel
theorem dX8_burn_19 : decode cX8_burn 19 = .ok (.iaload, 1) := by decide +kernel
theorem dX8_burn_20 : decode cX8_burn 20 = .ok (.iconst 1, 1) := by decide +kernel
theorem dX8_burn_21 : decode cX8_burn 21 = .ok (.if_icmp .eq 5, 3) := by decide +kernel
theorem dX8_burn_24 : decode cX8_burn 24 = .ok (.iconst (-1), 1) := by decide +kernel
theorem dX8_burn_25 : decode cX8_burn 25 = .ok (.ireturn, 1) := by decide +kernel
theorem dX8_burn_26 : decode cX8_burn 26 = .ok (.aload_n 0, 1) := by decide +kernel
theorem dX8_burn_27 : decode cX8_burn 27 = .ok (.getfield 12, 3) := by decide +kernel
theorem dX8_burn_30 : decode cX8_burn 30 = .ok (.getfield 129, 3) := by decide +kernel
theorem dX8_burn_33 : decode cX8_burn 33 = .ok (.iload_n 1, 1) := by decide +kernel
theorem dX8_burn_34 : decode cX8_burn 34 = .ok (.iaload, 1) := by decide +kernel
theorem dX8_burn_35 : decode cX8_burn 35 = .ok (.istore_n 2, 1) := by decide +kernel
theorem dX8_burn_36 : decode cX8_burn 36 = .ok (.aload_n 0, 1) := by decide +kernel
theorem dX8_burn_37 : decode cX8_burn 37 = .ok (.getfield 12, 3) := by decide +kernel
theorem dX8_burn_40 : decode cX8_burn 40 = .ok (.getfield 94, 3) := by decide +kernel
theorem dX8_burn_43 : decode cX8_burn 43 = .ok (.iload_n 1, 1) := by decide +kernel
theorem dX8_burn_44 : decode cX8_burn 44 = .ok (.iaload, 1) := by decide +kernel
theorem dX8_burn_45 : decode cX8_burn 45 = .ok (.istore_n 3, 1) := by decide +kernel
theorem dX8_burn_46 : decode cX8_burn 46 = .ok (.aload_n 0, 1) := by decide +kernel
theorem dX8_burn_47 : decode cX8_burn 47 = .ok (.getfield 12, 3) := by decide +kernel
theorem dX8_burn_50 : decode cX8_burn 50 = .ok (.iload_n 2, 1) := by decide +kernel
theorem dX8_burn_51 : decode cX8_burn 51 = .ok (.invokevirtual 86, 3) := by decide +kernel
theorem dX8_burn_54 : decode cX8_burn 54 = .ok (.ifCond .eq 15, 3) := by decide +kernel
theorem dX8_burn_57 : decode cX8_burn 57 = .ok (.aload_n 0, 1) := by decide +kernel
theorem dX8_burn_58 : decode cX8_burn 58 = .ok (.getfield 12, 3) := by decide +kernel
theorem dX8_burn_61 : decode cX8_burn 61 = .ok (.iload_n 1, 1) := by decide +kernel
theorem dX8_burn_62 : decode cX8_burn 62 = .ok (.iload_n 3, 1) := by decide +kernel
theorem dX8_burn_63 : decode cX8_burn 63 = .ok (.invokevirtual 90, 3) := by decide +kernel
theorem dX8_burn_66 : decode cX8_burn 66 = .ok (.ifCond .ne 5, 3) := by decide +kernel
theorem dX8_burn_69 : decode cX8_burn 69 = .ok (.iconst (-1), 1) := by decide +kernel
theorem dX8_burn_70 : decode cX8_burn 70 = .ok (.ireturn, 1) := by decide +kernel
theorem dX8_burn_71 : decode cX8_burn 71 = .ok (.aload_n 0, 1) := by decide +kernel
theorem dX8_burn_72 : decode cX8_burn 72 = .ok (.getfield 22, 3) := by decide +kernel
theorem dX8_burn_75 : decode cX8_burn 75 = .ok (.aload_n 0, 1) := by decide +kernel
theorem dX8_burn_76 : decode cX8_burn 76 = .ok (.getfield 12, 3) := by decide +kernel
theorem dX8_burn_79 : decode cX8_burn 79 = .ok (.iload_n 1, 1) := by decide +kernel
theorem dX8_burn_80 : decode cX8_burn 80 = .ok (.iconst (-1), 1) := by decide +kernel
theorem dX8_burn_81 : decode cX8_burn 81 = .ok (.invokevirtual 108, 3) := by decide +kernel
theorem dX8_burn_84 : decode cX8_burn 84 = .ok (.aload_n 0, 1) := by decide +kernel
theorem dX8_burn_85 : decode cX8_burn 85 = .ok (.iload_n 1, 1) := by decide +kernel
theorem dX8_burn_86 : decode cX8_burn 86 = .ok (.iload_n 3, 1) := by decide +kernel
theorem dX8_burn_87 : decode cX8_burn 87 = .ok (.iload_n 2, 1) := by decide +kernel
theorem dX8_burn_88 : decode cX8_burn 88 = .ok (.invokevirtual 132, 3) := by decide +kernel
theorem dX8_burn_91 : decode cX8_burn 91 = .ok (.aload_n 0, 1) := by decide +kernel
theorem dX8_burn_92 : decode cX8_burn 92 = .ok (.getfield 12, 3) := by decide +kernel
theorem dX8_burn_95 : decode cX8_burn 95 = .ok (.getfield 94, 3) := by decide +kernel
theorem dX8_burn_98 : decode cX8_burn 98 = .ok (.iload_n 1, 1) := by decide +kernel
theorem dX8_burn_99 : decode cX8_burn 99 = .ok (.iload_n 3, 1) := by decide +kernel
theorem dX8_burn_100 : decode cX8_burn 100 = .ok (.iconst 1, 1) := by decide +kernel
theorem dX8_burn_101 : decode cX8_burn 101 = .ok (.iadd, 1) := by decide +kernel
theorem dX8_burn_102 : decode cX8_burn 102 = .ok (.iastore, 1) := by decide +kernel
theorem dX8_burn_103 : decode cX8_burn 103 = .ok (.aload_n 0, 1) := by decide +kernel
theorem dX8_burn_104 : decode cX8_burn 104 = .ok (.iload_n 1, 1) := by decide +kernel
theorem dX8_burn_105 : decode cX8_burn 105 = .ok (.iload_n 3, 1) := by decide +kernel
theorem dX8_burn_106 : decode cX8_burn 106 = .ok (.iconst 1, 1) := by decide +kernel
theorem dX8_burn_107 : decode cX8_burn 107 = .ok (.iadd, 1) := by decide +kernel
theorem dX8_burn_108 : decode cX8_burn 108 = .ok (.iload_n 2, 1) := by decide +kernel
theorem dX8_burn_109 : decode cX8_burn 109 = .ok (.invokevirtual 135, 3) := by decide +kernel
theorem dX8_burn_112 : decode cX8_burn 112 = .ok (.aload_n 0, 1) := by decide +kernel
theorem dX8_burn_113 : decode cX8_burn 113 = .ok (.getfield 12, 3) := by decide +kernel
theorem dX8_burn_116 : decode cX8_burn 116 = .ok (.getfield 119, 3) := by decide +kernel
theorem dX8_burn_119 : decode cX8_burn 119 = .ok (.iload_n 1, 1) := by decide +kernel
theorem dX8_burn_120 : decode cX8_burn 120 = .ok (.iaload, 1) := by decide +kernel
theorem dX8_burn_121 : decode cX8_burn 121 = .ok (.ireturn, 1) := by decide +kernel
theorem dX8_burnInch_0 : decode cX8_burnInch 0 = .ok (.aload_n 0, 1) := by decide +kernel
theorem dX8_burnInch_1 : decode cX8_burnInch 1 = .ok (.getfield 47, 3) := by decide +kernel
theorem dX8_burnInch_4 : decode cX8_burnInch 4 = .ok (.iconst 0, 1) := by decide +kernel
theorem dX8_burnInch_5 : decode cX8_burnInch 5 = .ok (.iload_n 3, 1) := by decide +kernel
theorem dX8_burnInch_6 : decode cX8_burnInch 6 = .ok (.iload_n 1, 1) := by decide +kernel
theorem dX8_burnInch_7 : decode cX8_burnInch 7 = .ok (.iload_n 2, 1) := by decide +kernel
theorem dX8_burnInch_8 : decode cX8_burnInch 8 = .ok (.invokevirtual 101, 3) := by decide +kernel
theorem dX8_burnInch_11 : decode cX8_burnInch 11 = .ok (.istore 4, 2) := by decide +kernel
theorem dX8_burnInch_13 : decode cX8_burnInch 13 = .ok (.aload_n 0, 1) := by decide +kernel
theorem dX8_burnInch_14 : decode cX8_burnInch 14 = .ok (.getfield 47, 3) := by decide +kernel
theorem dX8_burnInch_17 : decode cX8_burnInch 17 = .ok (.iconst 1, 1) := by decide +kernel
theorem dX8_burnInch_18 : decode cX8_burnInch 18 = .ok (.iload_n 3, 1) := by decide +kernel
theorem dX8_burnInch_19 : decode cX8_burnInch 19 = .ok (.iload_n 1, 1) := by decide +kernel
theorem dX8_burnInch_20 : decode cX8_burnInch 20 = .ok (.iload_n 2, 1) := by decide +kernel
theorem dX8_burnInch_21 : decode cX8_burnInch 21 = .ok (.invokevirtual 101, 3) := by decide +kernel
theorem dX8_burnInch_24 : decode cX8_burnInch 24 = .ok (.istore 5, 2) := by decide +kernel
theorem dX8_burnInch_26 : decode cX8_burnInch 26 = .ok (.aload_n 0, 1) := by decide +kernel
theorem dX8_burnInch_27 : decode cX8_burnInch 27 = .ok (.getfield 47, 3) := by decide +kernel
theorem dX8_burnInch_30 : decode cX8_burnInch 30 = .ok (.iconst 2, 1) := by decide +kernel
theorem dX8_burnInch_31 : decode cX8_burnInch 31 = .ok (.iload_n 3, 1) := by decide +kernel
theorem dX8_burnInch_32 : decode cX8_burnInch 32 = .ok (.iload_n 1, 1) := by decide +kernel
theorem dX8_burnInch_33 : decode cX8_burnInch 33 = .ok (.iload_n 2, 1) := by decide +kernel
theorem dX8_burnInch_34 : decode cX8_burnInch 34 = .ok (.invokevirtual 101, 3) := by decide +kernel
theorem dX8_burnInch_37 : decode cX8_burnInch 37 = .ok (.istore 6, 2) := by decide +kernel
theorem dX8_burnInch_39 : decode cX8_burnInch 39 = .ok (.aload_n 0, 1) := by decide +kernel
theorem dX8_burnInch_40 : decode cX8_burnInch 40 = .ok (.getfield 12, 3) := by decide +kernel
theorem dX8_burnInch_43 : decode cX8_burnInch 43 = .ok (.getfield 138, 3) := by decide +kernel
theorem dX8_burnInch_46 : decode cX8_burnInch 46 = .ok (.iload_n 3, 1) := by decide +kernel
theorem dX8_burnInch_47 : decode cX8_burnInch 47 = .ok (.dup2, 1) := by decide +kernel
theorem dX8_burnInch_48 : decode cX8_burnInch 48 = .ok (.iaload, 1) := by decide +kernel
theorem dX8_burnInch_49 : decode cX8_burnInch 49 = .ok (.iload 5, 2) := by decide +kernel
theorem dX8_burnInch_51 : decode cX8_burnInch 51 = .ok (.iadd, 1) := by decide +kernel
theorem dX8_burnInch_52 : decode cX8_burnInch 52 = .ok (.iastore, 1) := by decide +kernel
theorem dX8_burnInch_53 : decode cX8_burnInch 53 = .ok (.aload_n 0, 1) := by decide +kernel
theorem dX8_burnInch_54 : decode cX8_burnInch 54 = .ok (.getfield 12, 3) := by decide +kernel
theorem dX8_burnInch_57 : decode cX8_burnInch 57 = .ok (.getfield 105, 3) := by decide +kernel
theorem dX8_burnInch_60 : decode cX8_burnInch 60 = .ok (.iload_n 3, 1) := by decide +kernel
theorem dX8_burnInch_61 : decode cX8_burnInch 61 = .ok (.sipush 999, 3) := by decide +kernel
theorem dX8_burnInch_64 : decode cX8_burnInch 64 = .ok (.aload_n 0, 1) := by decide +kernel
theorem dX8_burnInch_65 : decode cX8_burnInch 65 = .ok (.getfield 12, 3) := by decide +kernel
theorem dX8_burnInch_68 : decode cX8_burnInch 68 = .ok (.getfield 105, 3) := by decide +kernel
theorem dX8_burnInch_71 : decode cX8_burnInch 71 = .ok (.iload_n 3, 1) := by decide +kernel
theorem dX8_burnInch_72 : decode cX8_burnInch 72 = .ok (.iaload, 1) := by decide +kernel
theorem dX8_burnInch_73 : decode cX8_burnInch 73 = .ok (.iload 6, 2) := by decide +kernel
theorem dX8_burnInch_75 : decode cX8_burnInch 75 = .ok (.iadd, 1) := by decide +kernel
theorem dX8_burnInch_76 : decode cX8_burnInch 76 = .ok (.invokestatic 141, 3) := by decide +kernel
theorem dX8_burnInch_79 : decode cX8_burnInch 79 = .ok (.iastore, 1) := by decide +kernel
theorem dX8_burnInch_80 : decode cX8_burnInch 80 = .ok (.aload_n 0, 1) := by decide +kernel
theorem dX8_burnInch_81 : decode cX8_burnInch 81 = .ok (.getfield 12, 3) := by decide +kernel
theorem dX8_burnInch_84 : decode cX8_burnInch 84 = .ok (.iload_n 1, 1) := by decide +kernel
theorem dX8_burnInch_85 : decode cX8_burnInch 85 = .ok (.iload_n 2, 1) := by decide +kernel
theorem dX8_burnInch_86 : decode cX8_burnInch 86 = .ok (.invokevirtual 98, 3) := by decide +kernel
theorem dX8_burnInch_89 : decode cX8_burnInch 89 = .ok (.iconst (-1), 1) := by decide +kernel
theorem dX8_burnInch_90 : decode cX8_burnInch 90 = .ok (.if_icmp .ne 30, 3) := by decide +kernel
theorem dX8_burnInch_93 : decode cX8_burnInch 93 = .ok (.aload_n 0, 1) := by decide +kernel
theorem dX8_burnInch_94 : decode cX8_burnInch 94 = .ok (.getfield 12, 3) := by decide +kernel
theorem dX8_burnInch_97 : decode cX8_burnInch 97 = .ok (.getfield 146, 3) := by decide +kernel
theorem dX8_burnInch_100 : decode cX8_burnInch 100 = .ok (.iload_n 3, 1) := by decide +kernel
theorem dX8_burnInch_101 : decode cX8_burnInch 101 = .ok (.sipush 999, 3) := by decide +kernel
theorem dX8_burnInch_104 : decode cX8_burnInch 104 = .ok (.aload_n 0, 1) := by decide +kernel
theorem dX8_burnInch_105 : decode cX8_burnInch 105 = .ok (.getfield 12, 3) := by decide +kernel
theorem dX8_burnInch_108 : decode cX8_burnInch 108 = .ok (.getfield 146, 3) := by decide +kernel
theorem dX8_burnInch_111 : decode cX8_burnInch 111 = .ok (.iload_n 3, 1) := by decide +kernel
theorem dX8_burnInch_112 : decode cX8_burnInch 112 = .ok (.iaload, 1) := by decide +kernel
theorem dX8_burnInch_113 : decode cX8_burnInch 113 = .ok (.iload 4, 2) := by decide +kernel
theorem dX8_burnInch_115 : decode cX8_burnInch 115 = .ok (.iadd, 1) := by decide +kernel
theorem dX8_burnInch_116 : decode cX8_burnInch 116 = .ok (.invokestatic 141, 3) := by decide +kernel
theorem dX8_burnInch_119 : decode cX8_burnInch 119 = .ok (.iastore, 1) := by decide +kernel
theorem dX8_burnInch_120 : decode cX8_burnInch 120 = .ok (.aload_n 0, 1) := by decide +kernel
theorem dX8_burnInch_121 : decode cX8_burnInch 121 = .ok (.getfield 12, 3) := by decide +kernel
theorem dX8_burnInch_124 : decode cX8_burnInch 124 = .ok (.iload_n 1, 1) := by decide +kernel
theorem dX8_burnInch_125 : decode cX8_burnInch 125 = .ok (.iload_n 2, 1) := by decide +kernel
theorem dX8_burnInch_126 : decode cX8_burnInch 126 = .ok (.iload_n 3, 1) := by decide +kernel
theorem dX8_burnInch_127 : decode cX8_burnInch 127 = .ok (.iload 5, 2) := by decide +kernel
theorem dX8_burnInch_129 : decode cX8_burnInch 129 = .ok (.iload 6, 2) := by decide +kernel
theorem dX8_burnInch_131 : decode cX8_burnInch 131 = .ok (.invokevirtual 149, 3) := by decide +kernel
theorem dX8_burnInch_134 : decode cX8_burnInch 134 = .ok (.return_, 1) := by decide +kernel
theorem dX8_passOn_0 : decode cX8_passOn 0 = .ok (.iload_n 2, 1) := by decide +kernel
theorem dX8_passOn_1 : decode cX8_passOn 1 = .ok (.aload_n 0, 1) := by decide +kernel
theorem dX8_passOn_2 : decode cX8_passOn 2 = .ok (.getfield 12, 3) := by decide +kernel
theorem dX8_passOn_5 : decode cX8_passOn 5 = .ok (.getfield 153, 3) := by decide +kernel
theorem dX8_passOn_8 : decode cX8_passOn 8 = .ok (.iload_n 1, 1) := by decide +kernel
theorem dX8_passOn_9 : decode cX8_passOn 9 = .ok (.iaload, 1) := by decide +kernel
theorem dX8_passOn_10 : decode cX8_passOn 10 = .ok (.if_icmp .lt 14, 3) := by decide +kernel
theorem dX8_passOn_13 : decode cX8_passOn 13 = .ok (.aload_n 0, 1) := by decide +kernel
theorem dX8_passOn_14 : decode cX8_passOn 14 = .ok (.getfield 12, 3) := by decide +kernel
theorem dX8_passOn_17 : decode cX8_passOn 17 = .ok (.getfield 119, 3) := by decide +kernel
theorem dX8_passOn_20 : decode cX8_passOn 20 = .ok (.iload_n 1, 1) := by decide +kernel
theorem dX8_passOn_21 : decode cX8_passOn 21 = .ok (.iconst 3, 1) := by decide +kernel
theorem dX8_passOn_22 : decode cX8_passOn 22 = .ok (.iastore, 1) := by decide +kernel
theorem dX8_passOn_23 : decode cX8_passOn 23 = .ok (.return_, 1) := by decide +kernel
theorem dX8_passOn_24 : decode cX8_passOn 24 = .ok (.aload_n 0, 1) := by decide +kernel
theorem dX8_passOn_25 : decode cX8_passOn 25 = .ok (.getfield 12, 3) := by decide +kernel
theorem dX8_passOn_28 : decode cX8_passOn 28 = .ok (.iload_n 1, 1) := by decide +kernel
theorem dX8_passOn_29 : decode cX8_passOn 29 = .ok (.iload_n 2, 1) := by decide +kernel
theorem dX8_passOn_30 : decode cX8_passOn 30 = .ok (.invokevirtual 98, 3) := by decide +kernel
theorem dX8_passOn_33 : decode cX8_passOn 33 = .ok (.istore 4, 2) := by decide +kernel
theorem dX8_passOn_35 : decode cX8_passOn 35 = .ok (.iload 4, 2) := by decide +kernel
theorem dX8_passOn_37 : decode cX8_passOn 37 = .ok (.iconst (-1), 1) := by decide +kernel
theorem dX8_passOn_38 : decode cX8_passOn 38 = .ok (.if_icmp .eq 9, 3) := by decide +kernel
theorem dX8_passOn_41 : decode cX8_passOn 41 = .ok (.iload 4, 2) := by decide +kernel
theorem dX8_passOn_43 : decode cX8_passOn 43 = .ok (.iload_n 3, 1) := by decide +kernel
theorem dX8_passOn_44 : decode cX8_passOn 44 = .ok (.if_icmp .ne 4, 3) := by decide +kernel
theorem dX8_passOn_47 : decode cX8_passOn 47 = .ok (.return_, 1) := by decide +kernel
theorem dX8_passOn_48 : decode cX8_passOn 48 = .ok (.aload_n 0, 1) := by decide +kernel
theorem dX8_passOn_49 : decode cX8_passOn 49 = .ok (.getfield 12, 3) := by decide +kernel
theorem dX8_passOn_52 : decode cX8_passOn 52 = .ok (.getfield 129, 3) := by decide +kernel
theorem dX8_passOn_55 : decode cX8_passOn 55 = .ok (.iload_n 1, 1) := by decide +kernel
theorem dX8_passOn_56 : decode cX8_passOn 56 = .ok (.iload 4, 2) := by decide +kernel
theorem dX8_passOn_58 : decode cX8_passOn 58 = .ok (.iastore, 1) := by decide +kernel
theorem dX8_passOn_59 : decode cX8_passOn 59 = .ok (.aload_n 0, 1) := by decide +kernel
theorem dX8_passOn_60 : decode cX8_passOn 60 = .ok (.getfield 12, 3) := by decide +kernel
theorem dX8_passOn_63 : decode cX8_passOn 63 = .ok (.bipush 10, 2) := by decide +kernel
theorem dX8_passOn_65 : decode cX8_passOn 65 = .ok (.invokevirtual 156, 3) := by decide +kernel
theorem dX8_passOn_68 : decode cX8_passOn 68 = .ok (.aload_n 0, 1) := by decide +kernel
theorem dX8_passOn_69 : decode cX8_passOn 69 = .ok (.getfield 47, 3) := by decide +kernel
theorem dX8_passOn_72 : decode cX8_passOn 72 = .ok (.iconst 3, 1) := by decide +kernel
theorem dX8_passOn_73 : decode cX8_passOn 73 = .ok (.iload 4, 2) := by decide +kernel
theorem dX8_passOn_75 : decode cX8_passOn 75 = .ok (.iload_n 1, 1) := by decide +kernel
theorem dX8_passOn_76 : decode cX8_passOn 76 = .ok (.iload_n 2, 1) := by decide +kernel
theorem dX8_passOn_77 : decode cX8_passOn 77 = .ok (.invokevirtual 101, 3) := by decide +kernel
theorem dX8_passOn_80 : decode cX8_passOn 80 = .ok (.if_icmp .ge 13, 3) := by decide +kernel
theorem dX8_passOn_83 : decode cX8_passOn 83 = .ok (.aload_n 0, 1) := by decide +kernel
theorem dX8_passOn_84 : decode cX8_passOn 84 = .ok (.getfield 12, 3) := by decide +kernel
theorem dX8_passOn_87 : decode cX8_passOn 87 = .ok (.getfield 119, 3) := by decide +kernel
theorem dX8_passOn_90 : decode cX8_passOn 90 = .ok (.iload_n 1, 1) := by decide +kernel
theorem dX8_passOn_91 : decode cX8_passOn 91 = .ok (.iconst 2, 1) := by decide +kernel
theorem dX8_passOn_92 : decode cX8_passOn 92 = .ok (.iastore, 1) := by decide +kernel
theorem dX8_passOn_93 : decode cX8_passOn 93 = .ok (.return_, 1) := by decide +kernel
theorem dX8_repay_0 : decode cX8_repay 0 = .ok (.aload_n 0, 1) := by decide +kernel
theorem dX8_repay_1 : decode cX8_repay 1 = .ok (.getfield 12, 3) := by decide +kernel
theorem dX8_repay_4 : decode cX8_repay 4 = .ok (.iload_n 1, 1) := by decide +kernel
theorem dX8_repay_5 : decode cX8_repay 5 = .ok (.invokevirtual 86, 3) := by decide +kernel
theorem dX8_repay_8 : decode cX8_repay 8 = .ok (.ifCond .eq 34, 3) := by decide +kernel
theorem dX8_repay_11 : decode cX8_repay 11 = .ok (.iload_n 2, 1) := by decide +kernel
theorem dX8_repay_12 : decode cX8_repay 12 = .ok (.iconst 1, 1) := by decide +kernel
theorem dX8_repay_13 : decode cX8_repay 13 = .ok (.if_icmp .lt 29, 3) := by decide +kernel
theorem dX8_repay_16 : decode cX8_repay 16 = .ok (.iload_n 2, 1) := by decide +kernel
theorem dX8_repay_17 : decode cX8_repay 17 = .ok (.aload_n 0, 1) := by decide +kernel
theorem dX8_repay_18 : decode cX8_repay 18 = .ok (.getfield 12, 3) := by decide +kernel
theorem dX8_repay_21 : decode cX8_repay 21 = .ok (.getfield 146, 3) := by decide +kernel
theorem dX8_repay_24 : decode cX8_repay 24 = .ok (.iload_n 1, 1) := by decide +kernel
theorem dX8_repay_25 : decode cX8_repay 25 = .ok (.iaload, 1) := by decide +kernel
theorem dX8_repay_26 : decode cX8_repay 26 = .ok (.if_icmp .gt 16, 3) := by decide +kernel
theorem dX8_repay_29 : decode cX8_repay 29 = .ok (.iload_n 2, 1) := by decide +kernel
theorem dX8_repay_30 : decode cX8_repay 30 = .ok (.aload_n 0, 1) := by decide +kernel
theorem dX8_repay_31 : decode cX8_repay 31 = .ok (.getfield 12, 3) := by decide +kernel
theorem dX8_repay_34 : decode cX8_repay 34 = .ok (.getfield 105, 3) := by decide +kernel
theorem dX8_repay_37 : decode cX8_repay 37 = .ok (.iload_n 1, 1) := by decide +kernel
theorem dX8_repay_38 : decode cX8_repay 38 = .ok (.iaload, 1) := by decide +kernel
theorem dX8_repay_39 : decode cX8_repay 39 = .ok (.if_icmp .le 5, 3) := by decide +kernel
theorem dX8_repay_42 : decode cX8_repay 42 = .ok (.iconst (-1), 1) := by decide +kernel
theorem dX8_repay_43 : decode cX8_repay 43 = .ok (.ireturn, 1) := by decide +kernel
theorem dX8_repay_44 : decode cX8_repay 44 = .ok (.aload_n 0, 1) := by decide +kernel
theorem dX8_repay_45 : decode cX8_repay 45 = .ok (.getfield 22, 3) := by decide +kernel
theorem dX8_repay_48 : decode cX8_repay 48 = .ok (.aload_n 0, 1) := by decide +kernel
theorem dX8_repay_49 : decode cX8_repay 49 = .ok (.getfield 12, 3) := by decide +kernel
theorem dX8_repay_52 : decode cX8_repay 52 = .ok (.iconst (-1), 1) := by decide +kernel
theorem dX8_repay_53 : decode cX8_repay 53 = .ok (.iconst (-1), 1) := by decide +kernel
theorem dX8_repay_54 : decode cX8_repay 54 = .ok (.invokevirtual 108, 3) := by decide +kernel
theorem dX8_repay_57 : decode cX8_repay 57 = .ok (.aload_n 0, 1) := by decide +kernel
theorem dX8_repay_58 : decode cX8_repay 58 = .ok (.getfield 12, 3) := by decide +kernel
theorem dX8_repay_61 : decode cX8_repay 61 = .ok (.getfield 146, 3) := by decide +kernel
theorem dX8_repay_64 : decode cX8_repay 64 = .ok (.iload_n 1, 1) := by decide +kernel
theorem dX8_repay_65 : decode cX8_repay 65 = .ok (.dup2, 1) := by decide +kernel
theorem dX8_repay_66 : decode cX8_repay 66 = .ok (.iaload, 1) := by decide +kernel
theorem dX8_repay_67 : decode cX8_repay 67 = .ok (.iload_n 2, 1) := by decide +kernel
theorem dX8_repay_68 : decode cX8_repay 68 = .ok (.isub, 1) := by decide +kernel
theorem dX8_repay_69 : decode cX8_repay 69 = .ok (.iastore, 1) := by decide +kernel
theorem dX8_repay_70 : decode cX8_repay 70 = .ok (.aload_n 0, 1) := by decide +kernel
theorem dX8_repay_71 : decode cX8_repay 71 = .ok (.getfield 12, 3) := by decide +kernel
theorem dX8_repay_74 : decode cX8_repay 74 = .ok (.getfield 105, 3) := by decide +kernel
theorem dX8_repay_77 : decode cX8_repay 77 = .ok (.iload_n 1, 1) := by decide +kernel
theorem dX8_repay_78 : decode cX8_repay 78 = .ok (.dup2, 1) := by decide +kernel
theorem dX8_repay_79 : decode cX8_repay 79 = .ok (.iaload, 1) := by decide +kernel
theorem dX8_repay_80 : decode cX8_repay 80 = .ok (.iload_n 2, 1) := by decide +kernel
theorem dX8_repay_81 : decode cX8_repay 81 = .ok (.isub, 1) := by decide +kernel
theorem dX8_repay_82 : decode cX8_repay 82 = .ok (.iastore, 1) := by decide +kernel
theorem dX8_repay_83 : decode cX8_repay 83 = .ok (.aload_n 0, 1) := by decide +kernel
theorem dX8_repay_84 : decode cX8_repay 84 = .ok (.getfield 12, 3) := by decide +kernel
theorem dX8_repay_87 : decode cX8_repay 87 = .ok (.getfield 146, 3) := by decide +kernel
theorem dX8_repay_90 : decode cX8_repay 90 = .ok (.iload_n 1, 1) := by decide +kernel
theorem dX8_repay_91 : decode cX8_repay 91 = .ok (.iaload, 1) := by decide +kernel
theorem dX8_repay_92 : decode cX8_repay 92 = .ok (.ireturn, 1) := by decide +kernel
theorem dX8_moths_0 : decode cX8_moths 0 = .ok (.iload_n 1, 1) := by decide +kernel
theorem dX8_moths_1 : decode cX8_moths 1 = .ok (.iconst 1, 1) := by decide +kernel
theorem dX8_moths_2 : decode cX8_moths 2 = .ok (.if_icmp .lt 20, 3) := by decide +kernel
theorem dX8_moths_5 : decode cX8_moths 5 = .ok (.iload_n 1, 1) := by decide +kernel
theorem dX8_moths_6 : decode cX8_moths 6 = .ok (.bipush 30, 2) := by decide +kernel
theorem dX8_moths_8 : decode cX8_moths 8 = .ok (.if_icmp .gt 14, 3) := by decide +kernel
theorem dX8_moths_11 : decode cX8_moths 11 = .ok (.aload_n 0, 1) := by decide +kernel
theorem dX8_moths_12 : decode cX8_moths 12 = .ok (.getfield 12, 3) := by decide +kernel
theorem dX8_moths_15 : decode cX8_moths 15 = .ok (.getfield 159, 3) := by decide +kernel
theorem dX8_moths_18 : decode cX8_moths 18 = .ok (.iconst 1, 1) := by decide +kernel
theorem dX8_moths_19 : decode cX8_moths 19 = .ok (.if_icmp .ge 5, 3) := by decide +kernel
theorem dX8_moths_22 : decode cX8_moths 22 = .ok (.iconst (-1), 1) := by decide +kernel
theorem dX8_moths_23 : decode cX8_moths 23 = .ok (.ireturn, 1) := by decide +kernel
theorem dX8_moths_24 : decode cX8_moths 24 = .ok (.aload_n 0, 1) := by decide +kernel
theorem dX8_moths_25 : decode cX8_moths 25 = .ok (.getfield 22, 3) := by decide +kernel
theorem dX8_moths_28 : decode cX8_moths 28 = .ok (.aload_n 0, 1) := by decide +kernel
theorem dX8_moths_29 : decode cX8_moths 29 = .ok (.getfield 12, 3) := by decide +kernel
theorem dX8_moths_32 : decode cX8_moths 32 = .ok (.iconst (-1), 1) := by decide +kernel
theorem dX8_moths_33 : decode cX8_moths 33 = .ok (.iconst (-1), 1) := by decide +kernel
theorem dX8_moths_34 : decode cX8_moths 34 = .ok (.invokevirtual 108, 3) := by decide +kernel
theorem dX8_moths_37 : decode cX8_moths 37 = .ok (.iconst 0, 1) := by decide +kernel
theorem dX8_moths_38 : decode cX8_moths 38 = .ok (.istore_n 2, 1) := by decide +kernel
theorem dX8_moths_39 : decode cX8_moths 39 = .ok (.iconst 0, 1) := by decide +kernel
theorem dX8_moths_40 : decode cX8_moths 40 = .ok (.istore_n 3, 1) := by decide +kernel
theorem dX8_moths_41 : decode cX8_moths 41 = .ok (.iload_n 3, 1) := by decide +kernel
theorem dX8_moths_42 : decode cX8_moths 42 = .ok (.iload_n 1, 1) := by decide +kernel
theorem dX8_moths_43 : decode cX8_moths 43 = .ok (.if_icmp .ge 94, 3) := by decide +kernel
theorem dX8_moths_46 : decode cX8_moths 46 = .ok (.aload_n 0, 1) := by decide +kernel
theorem dX8_moths_47 : decode cX8_moths 47 = .ok (.getfield 12, 3) := by decide +kernel
theorem dX8_moths_50 : decode cX8_moths 50 = .ok (.aload_n 0, 1) := by decide +kernel
theorem dX8_moths_51 : decode cX8_moths 51 = .ok (.getfield 12, 3) := by decide +kernel
theorem dX8_moths_54 : decode cX8_moths 54 = .ok (.getfield 159, 3) := by decide +kernel
theorem dX8_moths_57 : decode cX8_moths 57 = .ok (.invokevirtual 156, 3) := by decide +kernel
theorem dX8_moths_60 : decode cX8_moths 60 = .ok (.istore 4, 2) := by decide +kernel
theorem dX8_moths_62 : decode cX8_moths 62 = .ok (.aload_n 0, 1) := by decide +kernel
theorem dX8_moths_63 : decode cX8_moths 63 = .ok (.getfield 12, 3) := by decide +kernel
theorem dX8_moths_66 : decode cX8_moths 66 = .ok (.iload 4, 2) := by decide +kernel
theorem dX8_moths_68 : decode cX8_moths 68 = .ok (.invokevirtual 86, 3) := by decide +kernel
theorem dX8_moths_71 : decode cX8_moths 71 = .ok (.ifCond .eq 60, 3) := by decide +kernel
theorem dX8_moths_74 : decode cX8_moths 74 = .ok (.aload_n 0, 1) := by decide +kernel
theorem dX8_moths_75 : decode cX8_moths 75 = .ok (.getfield 12, 3) := by decide +kernel
theorem dX8_moths_78 : decode cX8_moths 78 = .ok (.getfield 146, 3) := by decide +kernel
theorem dX8_moths_81 : decode cX8_moths 81 = .ok (.iload 4, 2) := by decide +kernel
theorem dX8_moths_83 : decode cX8_moths 83 = .ok (.iaload, 1) := by decide +kernel
theorem dX8_moths_84 : decode cX8_moths 84 = .ok (.ifCond .le 47, 3) := by decide +kernel
theorem dX8_moths_87 : decode cX8_moths 87 = .ok (.aload_n 0, 1) := by decide +kernel
theorem dX8_moths_88 : decode cX8_moths 88 = .ok (.getfield 12, 3) := by decide +kernel
theorem dX8_moths_91 : decode cX8_moths 91 = .ok (.getfield 105, 3) := by decide +kernel
theorem dX8_moths_94 : decode cX8_moths 94 = .ok (.iload 4, 2) := by decide +kernel
theorem dX8_moths_96 : decode cX8_moths 96 = .ok (.iaload, 1) := by decide +kernel
theorem dX8_moths_97 : decode cX8_moths 97 = .ok (.ifCond .le 34, 3) := by decide +kernel
theorem dX8_moths_100 : decode cX8_moths 100 = .ok (.aload_n 0, 1) := by decide +kernel
theorem dX8_moths_101 : decode cX8_moths 101 = .ok (.getfield 12, 3) := by decide +kernel
theorem dX8_moths_104 : decode cX8_moths 104 = .ok (.getfield 146, 3) := by decide +kernel
theorem dX8_moths_107 : decode cX8_moths 107 = .ok (.iload 4, 2) := by decide +kernel
theorem dX8_moths_109 : decode cX8_moths 109 = .ok (.dup2, 1) := by decide +kernel
theorem dX8_moths_110 : decode cX8_moths 110 = .ok (.iaload, 1) := by decide +kernel
theorem dX8_moths_111 : decode cX8_moths 111 = .ok (.iconst 1, 1) := by decide +kernel
theorem dX8_moths_112 : decode cX8_moths 112 = .ok (.isub, 1) := by decide +kernel
theorem dX8_moths_113 : decode cX8_moths 113 = .ok (.iastore, 1) := by decide +kernel
theorem dX8_moths_114 : decode cX8_moths 114 = .ok (.aload_n 0, 1) := by decide +kernel
theorem dX8_moths_115 : decode cX8_moths 115 = .ok (.getfield 12, 3) := by decide +kernel
theorem dX8_moths_118 : decode cX8_moths 118 = .ok (.getfield 105, 3) := by decide +kernel
theorem dX8_moths_121 : decode cX8_moths 121 = .ok (.iload 4, 2) := by decide +kernel
theorem dX8_moths_123 : decode cX8_moths 123 = .ok (.dup2, 1) := by decide +kernel
theorem dX8_moths_124 : decode cX8_moths 124 = .ok (.iaload, 1) := by decide +kernel
theorem dX8_moths_125 : decode cX8_moths 125 = .ok (.iconst 1, 1) := by decide +kernel
theorem dX8_moths_126 : decode cX8_moths 126 = .ok (.isub, 1) := by decide +kernel
theorem dX8_moths_127 : decode cX8_moths 127 = .ok (.iastore, 1) := by decide +kernel
theorem dX8_moths_128 : decode cX8_moths 128 = .ok (.iinc 2 1, 3) := by decide +kernel
theorem dX8_moths_131 : decode cX8_moths 131 = .ok (.iinc 3 1, 3) := by decide +kernel
theorem dX8_moths_134 : decode cX8_moths 134 = .ok (.goto (-93), 3) := by decide +kernel
theorem dX8_moths_137 : decode cX8_moths 137 = .ok (.iload_n 2, 1) := by decide +kernel
theorem dX8_moths_138 : decode cX8_moths 138 = .ok (.ireturn, 1) := by decide +kernel
theorem dX8_feed_0 : decode cX8_feed 0 = .ok (.aload_n 0, 1) := by decide +kernel
theorem dX8_feed_1 : decode cX8_feed 1 = .ok (.getfield 38, 3) := by decide +kernel
theorem dX8_feed_4 : decode cX8_feed 4 = .ok (.invokevirtual 162, 3) := by decide +kernel
theorem dX8_feed_7 : decode cX8_feed 7 = .ok (.ifCond .ne 5, 3) := by decide +kernel
theorem dX8_feed_10 : decode cX8_feed 10 = .ok (.iconst (-1), 1) := by decide +kernel
theorem dX8_feed_11 : decode cX8_feed 11 = .ok (.ireturn, 1) := by decide +kernel
theorem dX8_feed_12 : decode cX8_feed 12 = .ok (.aload_n 0, 1) := by decide +kernel
theorem dX8_feed_13 : decode cX8_feed 13 = .ok (.getfield 38, 3) := by decide +kernel
theorem dX8_feed_16 : decode cX8_feed 16 = .ok (.iload_n 1, 1) := by decide +kernel
theorem dX8_feed_17 : decode cX8_feed 17 = .ok (.invokevirtual 166, 3) := by decide +kernel
theorem dX8_feed_20 : decode cX8_feed 20 = .ok (.aload_n 0, 1) := by decide +kernel
theorem dX8_feed_21 : decode cX8_feed 21 = .ok (.getfield 38, 3) := by decide +kernel
theorem dX8_feed_24 : decode cX8_feed 24 = .ok (.iload_n 2, 1) := by decide +kernel
theorem dX8_feed_25 : decode cX8_feed 25 = .ok (.invokevirtual 166, 3) := by decide +kernel
theorem dX8_feed_28 : decode cX8_feed 28 = .ok (.aload_n 0, 1) := by decide +kernel
theorem dX8_feed_29 : decode cX8_feed 29 = .ok (.getfield 38, 3) := by decide +kernel
theorem dX8_feed_32 : decode cX8_feed 32 = .ok (.iload_n 3, 1) := by decide +kernel
theorem dX8_feed_33 : decode cX8_feed 33 = .ok (.invokevirtual 166, 3) := by decide +kernel
theorem dX8_feed_36 : decode cX8_feed 36 = .ok (.aload_n 0, 1) := by decide +kernel
theorem dX8_feed_37 : decode cX8_feed 37 = .ok (.getfield 38, 3) := by decide +kernel
theorem dX8_feed_40 : decode cX8_feed 40 = .ok (.iload 4, 2) := by decide +kernel
theorem dX8_feed_42 : decode cX8_feed 42 = .ok (.invokevirtual 166, 3) := by decide +kernel
theorem dX8_feed_45 : decode cX8_feed 45 = .ok (.aload_n 0, 1) := by decide +kernel
theorem dX8_feed_46 : decode cX8_feed 46 = .ok (.getfield 38, 3) := by decide +kernel
theorem dX8_feed_49 : decode cX8_feed 49 = .ok (.iload 5, 2) := by decide +kernel
theorem dX8_feed_51 : decode cX8_feed 51 = .ok (.invokevirtual 166, 3) := by decide +kernel
theorem dX8_feed_54 : decode cX8_feed 54 = .ok (.aload_n 0, 1) := by decide +kernel
theorem dX8_feed_55 : decode cX8_feed 55 = .ok (.getfield 38, 3) := by decide +kernel
theorem dX8_feed_58 : decode cX8_feed 58 = .ok (.getfield 170, 3) := by decide +kernel
theorem dX8_feed_61 : decode cX8_feed 61 = .ok (.ireturn, 1) := by decide +kernel
theorem dX8_end_0 : decode cX8_end 0 = .ok (.iload_n 1, 1) := by decide +kernel
theorem dX8_end_1 : decode cX8_end 1 = .ok (.ifCond .lt 14, 3) := by decide +kernel
theorem dX8_end_4 : decode cX8_end 4 = .ok (.iload_n 1, 1) := by decide +kernel
theorem dX8_end_5 : decode cX8_end 5 = .ok (.aload_n 0, 1) := by decide +kernel
theorem dX8_end_6 : decode cX8_end 6 = .ok (.getfield 38, 3) := by decide +kernel
theorem dX8_end_9 : decode cX8_end 9 = .ok (.getfield 170, 3) := by decide +kernel
theorem dX8_end_12 : decode cX8_end 12 = .ok (.if_icmp .le 5, 3) := by decide +kernel
theorem dX8_end_15 : decode cX8_end 15 = .ok (.iconst (-1), 1) := by decide +kernel
theorem dX8_end_16 : decode cX8_end 16 = .ok (.ireturn, 1) := by decide +kernel
theorem dX8_end_17 : decode cX8_end 17 = .ok (.aload_n 0, 1) := by decide +kernel
theorem dX8_end_18 : decode cX8_end 18 = .ok (.getfield 38, 3) := by decide +kernel
theorem dX8_end_21 : decode cX8_end 21 = .ok (.iload_n 1, 1) := by decide +kernel
theorem dX8_end_22 : decode cX8_end 22 = .ok (.putfield 170, 3) := by decide +kernel
theorem dX8_end_25 : decode cX8_end 25 = .ok (.iload_n 1, 1) := by decide +kernel
theorem dX8_end_26 : decode cX8_end 26 = .ok (.ireturn, 1) := by decide +kernel
theorem dX8_text_0 : decode cX8_text 0 = .ok (.aload_n 0, 1) := by decide +kernel
theorem dX8_text_1 : decode cX8_text 1 = .ok (.getfield 12, 3) := by decide +kernel
theorem dX8_text_4 : decode cX8_text 4 = .ok (.getfield 172, 3) := by decide +kernel
theorem dX8_text_7 : decode cX8_text 7 = .ok (.istore_n 1, 1) := by decide +kernel
theorem dX8_text_8 : decode cX8_text 8 = .ok (.iload_n 1, 1) := by decide +kernel
theorem dX8_text_9 : decode cX8_text 9 = .ok (.ifCond .lt 12, 3) := by decide +kernel
theorem dX8_text_12 : decode cX8_text 12 = .ok (.iload_n 1, 1) := by decide +kernel
theorem dX8_text_13 : decode cX8_text 13 = .ok (.aload_n 0, 1) := by decide +kernel
theorem dX8_text_14 : decode cX8_text 14 = .ok (.getfield 31, 3) := by decide +kernel
theorem dX8_text_17 : decode cX8_text 17 = .ok (.arraylength, 1) := by decide +kernel
theorem dX8_text_18 : decode cX8_text 18 = .ok (.if_icmp .lt 5, 3) := by decide +kernel
theorem dX8_text_21 : decode cX8_text 21 = .ok (.iconst (-1), 1) := by decide +kernel
theorem dX8_text_22 : decode cX8_text 22 = .ok (.ireturn, 1) := by decide +kernel
theorem dX8_text_23 : decode cX8_text 23 = .ok (.aload_n 0, 1) := by decide +kernel
theorem dX8_text_24 : decode cX8_text 24 = .ok (.getfield 31, 3) := by decide +kernel
theorem dX8_text_27 : decode cX8_text 27 = .ok (.iload_n 1, 1) := by decide +kernel
theorem dX8_text_28 : decode cX8_text 28 = .ok (.aaload, 1) := by decide +kernel
theorem dX8_text_29 : decode cX8_text 29 = .ok (.astore_n 2, 1) := by decide +kernel
theorem dX8_text_30 : decode cX8_text 30 = .ok (.aload_n 2, 1) := by decide +kernel
theorem dX8_text_31 : decode cX8_text 31 = .ok (.ifnull 14, 3) := by decide +kernel
theorem dX8_text_34 : decode cX8_text 34 = .ok (.aload_n 0, 1) := by decide +kernel
theorem dX8_text_35 : decode cX8_text 35 = .ok (.getfield 38, 3) := by decide +kernel
theorem dX8_text_38 : decode cX8_text 38 = .ok (.aload_n 2, 1) := by decide +kernel
theorem dX8_text_39 : decode cX8_text 39 = .ok (.invokevirtual 175, 3) := by decide +kernel
theorem dX8_text_42 : decode cX8_text 42 = .ok (.ifCond .ne 5, 3) := by decide +kernel
theorem dX8_text_45 : decode cX8_text 45 = .ok (.iconst (-1), 1) := by decide +kernel
theorem dX8_text_46 : decode cX8_text 46 = .ok (.ireturn, 1) := by decide +kernel
theorem dX8_text_47 : decode cX8_text 47 = .ok (.aload_n 0, 1) := by decide +kernel
theorem dX8_text_48 : decode cX8_text 48 = .ok (.getfield 12, 3) := by decide +kernel
theorem dX8_text_51 : decode cX8_text 51 = .ok (.iload_n 1, 1) := by decide +kernel
theorem dX8_text_52 : decode cX8_text 52 = .ok (.iconst 1, 1) := by decide +kernel
theorem dX8_text_53 : decode cX8_text 53 = .ok (.iadd, 1) := by decide +kernel
theorem dX8_text_54 : decode cX8_text 54 = .ok (.putfield 172, 3) := by decide +kernel
theorem dX8_text_57 : decode cX8_text 57 = .ok (.iload_n 1, 1) := by decide +kernel
theorem dX8_text_58 : decode cX8_text 58 = .ok (.ireturn, 1) := by decide +kernel
theorem dX8_fault_0 : decode cX8_fault 0 = .ok (.aload_n 0, 1) := by decide +kernel
theorem dX8_fault_1 : decode cX8_fault 1 = .ok (.getfield 38, 3) := by decide +kernel
theorem dX8_fault_4 : decode cX8_fault 4 = .ok (.getfield 179, 3) := by decide +kernel
theorem dX8_fault_7 : decode cX8_fault 7 = .ok (.ifCond .ne 5, 3) := by decide +kernel
theorem dX8_fault_10 : decode cX8_fault 10 = .ok (.iconst (-1), 1) := by decide +kernel
theorem dX8_fault_11 : decode cX8_fault 11 = .ok (.ireturn, 1) := by decide +kernel
theorem dX8_fault_12 : decode cX8_fault 12 = .ok (.iload_n 1, 1) := by decide +kernel
theorem dX8_fault_13 : decode cX8_fault 13 = .ok (.ifCond .ne 11, 3) := by decide +kernel
theorem dX8_fault_16 : decode cX8_fault 16 = .ok (.aload_n 0, 1) := by decide +kernel
theorem dX8_fault_17 : decode cX8_fault 17 = .ok (.getfield 38, 3) := by decide +kernel
theorem dX8_fault_20 : decode cX8_fault 20 = .ok (.getfield 183, 3) := by decide +kernel
theorem dX8_fault_23 : decode cX8_fault 23 = .ok (.ireturn, 1) := by decide +kernel
theorem dX8_fault_24 : decode cX8_fault 24 = .ok (.iload_n 1, 1) := by decide +kernel
theorem dX8_fault_25 : decode cX8_fault 25 = .ok (.iconst 1, 1) := by decide +kernel
theorem dX8_fault_26 : decode cX8_fault 26 = .ok (.if_icmp .ne 13, 3) := by decide +kernel
theorem dX8_fault_29 : decode cX8_fault 29 = .ok (.aload_n 0, 1) := by decide +kernel
theorem dX8_fault_30 : decode cX8_fault 30 = .ok (.getfield 38, 3) := by decide +kernel
theorem dX8_fault_33 : decode cX8_fault 33 = .ok (.getfield 186, 3) := by decide +kernel
theorem dX8_fault_36 : decode cX8_fault 36 = .ok (.goto 4, 3) := by decide +kernel
theorem dX8_fault_39 : decode cX8_fault 39 = .ok (.iconst (-1), 1) := by decide +kernel
theorem dX8_fault_40 : decode cX8_fault 40 = .ok (.ireturn, 1) := by decide +kernel
theorem dX8_by_0 : decode cX8_by 0 = .ok (.iload_n 1, 1) := by decide +kernel
theorem dX8_by_1 : decode cX8_by 1 = .ok (.iconst (-1), 1) := by decide +kernel
theorem dX8_by_2 : decode cX8_by 2 = .ok (.if_icmp .eq 16, 3) := by decide +kernel
theorem dX8_by_5 : decode cX8_by 5 = .ok (.aload_n 0, 1) := by decide +kernel
theorem dX8_by_6 : decode cX8_by 6 = .ok (.getfield 12, 3) := by decide +kernel
theorem dX8_by_9 : decode cX8_by 9 = .ok (.iload_n 1, 1) := by decide +kernel
theorem dX8_by_10 : decode cX8_by 10 = .ok (.invokevirtual 189, 3) := by decide +kernel
theorem dX8_by_13 : decode cX8_by 13 = .ok (.ifCond .ne 5, 3) := by decide +kernel
theorem dX8_by_16 : decode cX8_by 16 = .ok (.iconst 0, 1) := by decide +kernel
theorem dX8_by_17 : decode cX8_by 17 = .ok (.ireturn, 1) := by decide +kernel
theorem dX8_by_18 : decode cX8_by 18 = .ok (.aload_n 0, 1) := by decide +kernel
theorem dX8_by_19 : decode cX8_by 19 = .ok (.getfield 12, 3) := by decide +kernel
theorem dX8_by_22 : decode cX8_by 22 = .ok (.iload_n 1, 1) := by decide +kernel
theorem dX8_by_23 : decode cX8_by 23 = .ok (.putfield 192, 3) := by decide +kernel
theorem dX8_by_26 : decode cX8_by 26 = .ok (.iconst 1, 1) := by decide +kernel
theorem dX8_by_27 : decode cX8_by 27 = .ok (.ireturn, 1) := by decide +kernel
theorem dX8_played_0 : decode cX8_played 0 = .ok (.aload_n 0, 1) := by decide +kernel
theorem dX8_played_1 : decode cX8_played 1 = .ok (.getfield 12, 3) := by decide +kernel
theorem dX8_played_4 : decode cX8_played 4 = .ok (.iload_n 1, 1) := by decide +kernel
theorem dX8_played_5 : decode cX8_played 5 = .ok (.invokevirtual 189, 3) := by decide +kernel
theorem dX8_played_8 : decode cX8_played 8 = .ok (.ifCond .eq 12, 3) := by decide +kernel
theorem dX8_played_11 : decode cX8_played 11 = .ok (.iload_n 1, 1) := by decide +kernel
theorem dX8_played_12 : decode cX8_played 12 = .ok (.aload_n 0, 1) := by decide +kernel
theorem dX8_played_13 : decode cX8_played 13 = .ok (.getfield 31, 3) := by decide +kernel
theorem dX8_played_16 : decode cX8_played 16 = .ok (.arraylength, 1) := by decide +kernel
theorem dX8_played_17 : decode cX8_played 17 = .ok (.if_icmp .lt 6, 3) := by decide +kernel
theorem dX8_played_20 : decode cX8_played 20 = .ok (.bipush (-2), 2) := by decide +kernel
theorem dX8_played_22 : decode cX8_played 22 = .ok (.ireturn, 1) := by decide +kernel
theorem dX8_played_23 : decode cX8_played 23 = .ok (.aload_n 0, 1) := by decide +kernel
theorem dX8_played_24 : decode cX8_played 24 = .ok (.getfield 31, 3) := by decide +kernel
theorem dX8_played_27 : decode cX8_played 27 = .ok (.iload_n 1, 1) := by decide +kernel
theorem dX8_played_28 : decode cX8_played 28 = .ok (.aaload, 1) := by decide +kernel
theorem dX8_played_29 : decode cX8_played 29 = .ok (.astore_n 2, 1) := by decide +kernel
theorem dX8_played_30 : decode cX8_played 30 = .ok (.aload_n 2, 1) := by decide +kernel
theorem dX8_played_31 : decode cX8_played 31 = .ok (.ifnonnull 6, 3) := by decide +kernel
theorem dX8_played_34 : decode cX8_played 34 = .ok (.bipush (-2), 2) := by decide +kernel
theorem dX8_played_36 : decode cX8_played 36 = .ok (.ireturn, 1) := by decide +kernel
theorem dX8_played_37 : decode cX8_played 37 = .ok (.iconst 0, 1) := by decide +kernel
theorem dX8_played_38 : decode cX8_played 38 = .ok (.istore_n 3, 1) := by decide +kernel
theorem dX8_played_39 : decode cX8_played 39 = .ok (.iload_n 3, 1) := by decide +kernel
theorem dX8_played_40 : decode cX8_played 40 = .ok (.aload_n 2, 1) := by decide +kernel
theorem dX8_played_41 : decode cX8_played 41 = .ok (.getfield 195, 3) := by decide +kernel
theorem dX8_played_44 : decode cX8_played 44 = .ok (.if_icmp .ge 153, 3) := by decide +kernel
theorem dX8_played_47 : decode cX8_played 47 = .ok (.aload_n 2, 1) := by decide +kernel
theorem dX8_played_48 : decode cX8_played 48 = .ok (.iload_n 3, 1) := by decide +kernel
theorem dX8_played_49 : decode cX8_played 49 = .ok (.iconst 0, 1) := by decide +kernel
theorem dX8_played_50 : decode cX8_played 50 = .ok (.invokevirtual 198, 3) := by decide +kernel
theorem dX8_played_53 : decode cX8_played 53 = .ok (.istore 4, 2) := by decide +kernel
theorem dX8_played_55 : decode cX8_played 55 = .ok (.iconst 1, 1) := by decide +kernel
theorem dX8_played_56 : decode cX8_played 56 = .ok (.istore 5, 2) := by decide +kernel
theorem dX8_played_58 : decode cX8_played 58 = .ok (.aload_n 2, 1) := by decide +kernel
theorem dX8_played_59 : decode cX8_played 59 = .ok (.iload_n 3, 1) := by decide +kernel
theorem dX8_played_60 : decode cX8_played 60 = .ok (.invokevirtual 201, 3) := by decide +kernel
theorem dX8_played_63 : decode cX8_played 63 = .ok (.tableswitch 121 4 7 #[29, 61, 81, 101], 29) := by decide +kernel
theorem dX8_played_92 : decode cX8_played 92 = .ok (.aload_n 0, 1) := by decide +kernel
theorem dX8_played_93 : decode cX8_played 93 = .ok (.aload_n 2, 1) := by decide +kernel
theorem dX8_played_94 : decode cX8_played 94 = .ok (.iload_n 3, 1) := by decide +kernel
theorem dX8_played_95 : decode cX8_played 95 = .ok (.iconst 2, 1) := by decide +kernel
theorem dX8_played_96 : decode cX8_played 96 = .ok (.invokevirtual 198, 3) := by decide +kernel
theorem dX8_played_99 : decode cX8_played 99 = .ok (.aload_n 2, 1) := by decide +kernel
theorem dX8_played_100 : decode cX8_played 100 = .ok (.iload_n 3, 1) := by decide +kernel
theorem dX8_played_101 : decode cX8_played 101 = .ok (.iconst 1, 1) := by decide +kernel
theorem dX8_played_102 : decode cX8_played 102 = .ok (.invokevirtual 198, 3) := by decide +kernel
theorem dX8_played_105 : decode cX8_played 105 = .ok (.iload 4, 2) := by decide +kernel
theorem dX8_played_107 : decode cX8_played 107 = .ok (.invokevirtual 204, 3) := by decide +kernel
theorem dX8_played_110 : decode cX8_played 110 = .ok (.iconst (-1), 1) := by decide +kernel
theorem dX8_played_111 : decode cX8_played 111 = .ok (.if_icmp .eq 7, 3) := by decide +kernel
theorem dX8_played_114 : decode cX8_played 114 = .ok (.iconst 1, 1) := by decide +kernel
theorem dX8_played_115 : decode cX8_played 115 = .ok (.goto 4, 3) := by decide +kernel
theorem dX8_played_118 : decode cX8_played 118 = .ok (.iconst 0, 1) := by decide +kernel
theorem dX8_played_119 : decode cX8_played 119 = .ok (.istore 5, 2) := by decide +kernel
theorem dX8_played_121 : decode cX8_played 121 = .ok (.goto 63, 3) := by decide +kernel
theorem dX8_played_124 : decode cX8_played 124 = .ok (.aload_n 0, 1) := by decide +kernel
theorem dX8_played_125 : decode cX8_played 125 = .ok (.iload 4, 2) := by decide +kernel
theorem dX8_played_127 : decode cX8_played 127 = .ok (.invokevirtual 208, 3) := by decide +kernel
theorem dX8_played_130 : decode cX8_played 130 = .ok (.iconst (-1), 1) := by decide +kernel
theorem dX8_played_131 : decode cX8_played 131 = .ok (.if_icmp .eq 7, 3) := by decide +kernel
theorem dX8_played_134 : decode cX8_played 134 = .ok (.iconst 1, 1) := by decide +kernel
theorem dX8_played_135 : decode cX8_played 135 = .ok (.goto 4, 3) := by decide +kernel
theorem dX8_played_138 : decode cX8_played 138 = .ok (.iconst 0, 1) := by decide +kernel
theorem dX8_played_139 : decode cX8_played 139 = .ok (.istore 5, 2) := by decide +kernel
theorem dX8_played_141 : decode cX8_played 141 = .ok (.goto 43, 3) := by decide +kernel
theorem dX8_played_144 : decode cX8_played 144 = .ok (.aload_n 0, 1) := by decide +kernel
theorem dX8_played_145 : decode cX8_played 145 = .ok (.iload 4, 2) := by decide +kernel
theorem dX8_played_147 : decode cX8_played 147 = .ok (.invokevirtual 210, 3) := by decide +kernel
theorem dX8_played_150 : decode cX8_played 150 = .ok (.iconst (-1), 1) := by decide +kernel
theorem dX8_played_151 : decode cX8_played 151 = .ok (.if_icmp .eq 7, 3) := by decide +kernel
theorem dX8_played_154 : decode cX8_played 154 = .ok (.iconst 1, 1) := by decide +kernel
theorem dX8_played_155 : decode cX8_played 155 = .ok (.goto 4, 3) := by decide +kernel
theorem dX8_played_158 : decode cX8_played 158 = .ok (.iconst 0, 1) := by decide +kernel
theorem dX8_played_159 : decode cX8_played 159 = .ok (.istore 5, 2) := by decide +kernel
theorem dX8_played_161 : decode cX8_played 161 = .ok (.goto 23, 3) := by decide +kernel
theorem dX8_played_164 : decode cX8_played 164 = .ok (.aload_n 0, 1) := by decide +kernel
theorem dX8_played_165 : decode cX8_played 165 = .ok (.iload 4, 2) := by decide +kernel
theorem dX8_played_167 : decode cX8_played 167 = .ok (.invokevirtual 213, 3) := by decide +kernel
theorem dX8_played_170 : decode cX8_played 170 = .ok (.iconst (-1), 1) := by decide +kernel
theorem dX8_played_171 : decode cX8_played 171 = .ok (.if_icmp .eq 7, 3) := by decide +kernel
theorem dX8_played_174 : decode cX8_played 174 = .ok (.iconst 1, 1) := by decide +kernel
theorem dX8_played_175 : decode cX8_played 175 = .ok (.goto 4, 3) := by decide +kernel
theorem dX8_played_178 : decode cX8_played 178 = .ok (.iconst 0, 1) := by decide +kernel
theorem dX8_played_179 : decode cX8_played 179 = .ok (.istore 5, 2) := by decide +kernel
theorem dX8_played_181 : decode cX8_played 181 = .ok (.goto 3, 3) := by decide +kernel
theorem dX8_played_184 : decode cX8_played 184 = .ok (.iload 5, 2) := by decide +kernel
theorem dX8_played_186 : decode cX8_played 186 = .ok (.ifCond .ne 5, 3) := by decide +kernel
theorem dX8_played_189 : decode cX8_played 189 = .ok (.iload_n 3, 1) := by decide +kernel
theorem dX8_played_190 : decode cX8_played 190 = .ok (.ireturn, 1) := by decide +kernel
theorem dX8_played_191 : decode cX8_played 191 = .ok (.iinc 3 1, 3) := by decide +kernel
theorem dX8_played_194 : decode cX8_played 194 = .ok (.goto (-155), 3) := by decide +kernel
theorem dX8_played_197 : decode cX8_played 197 = .ok (.iconst (-1), 1) := by decide +kernel
theorem dX8_played_198 : decode cX8_played 198 = .ok (.ireturn, 1) := by decide +kernel
theorem dX8_undo_0 : decode cX8_undo 0 = .ok (.aload_n 0, 1) := by decide +kernel
theorem dX8_undo_1 : decode cX8_undo 1 = .ok (.getfield 22, 3) := by decide +kernel
theorem dX8_undo_4 : decode cX8_undo 4 = .ok (.aload_n 0, 1) := by decide +kernel
theorem dX8_undo_5 : decode cX8_undo 5 = .ok (.getfield 12, 3) := by decide +kernel
theorem dX8_undo_8 : decode cX8_undo 8 = .ok (.invokevirtual 216, 3) := by decide +kernel
theorem dX8_undo_11 : decode cX8_undo 11 = .ok (.ifCond .eq 13, 3) := by decide +kernel
theorem dX8_undo_14 : decode cX8_undo 14 = .ok (.aload_n 0, 1) := by decide +kernel
theorem dX8_undo_15 : decode cX8_undo 15 = .ok (.getfield 22, 3) := by decide +kernel
theorem dX8_undo_18 : decode cX8_undo 18 = .ok (.getfield 220, 3) := by decide +kernel
theorem dX8_undo_21 : decode cX8_undo 21 = .ok (.goto 4, 3) := by decide +kernel
theorem dX8_undo_24 : decode cX8_undo 24 = .ok (.iconst (-1), 1) := by decide +kernel
theorem dX8_undo_25 : decode cX8_undo 25 = .ok (.ireturn, 1) := by decide +kernel
theorem dX8_houseOf_0 : decode cX8_houseOf 0 = .ok (.aload_n 0, 1) := by decide +kernel
theorem dX8_houseOf_1 : decode cX8_houseOf 1 = .ok (.getfield 12, 3) := by decide +kernel
theorem dX8_houseOf_4 : decode cX8_houseOf 4 = .ok (.iload_n 1, 1) := by decide +kernel
theorem dX8_houseOf_5 : decode cX8_houseOf 5 = .ok (.invokevirtual 86, 3) := by decide +kernel
theorem dX8_houseOf_8 : decode cX8_houseOf 8 = .ok (.ifCond .ne 6, 3) := by decide +kernel
theorem dX8_houseOf_11 : decode cX8_houseOf 11 = .ok (.bipush (-2), 2) := by decide +kernel
theorem dX8_houseOf_13 : decode cX8_houseOf 13 = .ok (.ireturn, 1) := by decide +kernel
theorem dX8_houseOf_14 : decode cX8_houseOf 14 = .ok (.iload_n 2, 1) := by decide +kernel
theorem dX8_houseOf_15 : decode cX8_houseOf 15 = .ok (.tableswitch 69 0 3 #[29, 39, 49, 59], 29) := by decide +kernel
theorem dX8_houseOf_44 : decode cX8_houseOf 44 = .ok (.aload_n 0, 1) := by decide +kernel
theorem dX8_houseOf_45 : decode cX8_houseOf 45 = .ok (.getfield 12, 3) := by decide +kernel
theorem dX8_houseOf_48 : decode cX8_houseOf 48 = .ok (.getfield 223, 3) := by decide +kernel
theorem dX8_houseOf_51 : decode cX8_houseOf 51 = .ok (.iload_n 1, 1) := by decide +kernel
theorem dX8_houseOf_52 : decode cX8_houseOf 52 = .ok (.iaload, 1) := by decide +kernel
theorem dX8_houseOf_53 : decode cX8_houseOf 53 = .ok (.ireturn, 1) := by decide +kernel
theorem dX8_houseOf_54 : decode cX8_houseOf 54 = .ok (.aload_n 0, 1) := by decide +kernel
theorem dX8_houseOf_55 : decode cX8_houseOf 55 = .ok (.getfield 12, 3) := by decide +kernel
theorem dX8_houseOf_58 : decode cX8_houseOf 58 = .ok (.getfield 105, 3) := by decide +kernel
theorem dX8_houseOf_61 : decode cX8_houseOf 61 = .ok (.iload_n 1, 1) := by decide +kernel
theorem dX8_houseOf_62 : decode cX8_houseOf 62 = .ok (.iaload, 1) := by decide +kernel
theorem dX8_houseOf_63 : decode cX8_houseOf 63 = .ok (.ireturn, 1) := by decide +kernel
theorem dX8_houseOf_64 : decode cX8_houseOf 64 = .ok (.aload_n 0, 1) := by decide +kernel
theorem dX8_houseOf_65 : decode cX8_houseOf 65 = .ok (.getfield 12, 3) := by decide +kernel
theorem dX8_houseOf_68 : decode cX8_houseOf 68 = .ok (.getfield 146, 3) := by decide +kernel
theorem dX8_houseOf_71 : decode cX8_houseOf 71 = .ok (.iload_n 1, 1) := by decide +kernel
theorem dX8_houseOf_72 : decode cX8_houseOf 72 = .ok (.iaload, 1) := by decide +kernel
theorem dX8_houseOf_73 : decode cX8_houseOf 73 = .ok (.ireturn, 1) := by decide +kernel
theorem dX8_houseOf_74 : decode cX8_houseOf 74 = .ok (.aload_n 0, 1) := by decide +kernel
theorem dX8_houseOf_75 : decode cX8_houseOf 75 = .ok (.getfield 12, 3) := by decide +kernel
theorem dX8_houseOf_78 : decode cX8_houseOf 78 = .ok (.getfield 138, 3) := by decide +kernel
theorem dX8_houseOf_81 : decode cX8_houseOf 81 = .ok (.iload_n 1, 1) := by decide +kernel
theorem dX8_houseOf_82 : decode cX8_houseOf 82 = .ok (.iaload, 1) := by decide +kernel
theorem dX8_houseOf_83 : decode cX8_houseOf 83 = .ok (.ireturn, 1) := by decide +kernel
theorem dX8_houseOf_84 : decode cX8_houseOf 84 = .ok (.bipush (-2), 2) := by decide +kernel
theorem dX8_houseOf_86 : decode cX8_houseOf 86 = .ok (.ireturn, 1) := by decide +kernel
theorem dX8_candleOf_0 : decode cX8_candleOf 0 = .ok (.aload_n 0, 1) := by decide +kernel
theorem dX8_candleOf_1 : decode cX8_candleOf 1 = .ok (.getfield 12, 3) := by decide +kernel
theorem dX8_candleOf_4 : decode cX8_candleOf 4 = .ok (.iload_n 1, 1) := by decide +kernel
theorem dX8_candleOf_5 : decode cX8_candleOf 5 = .ok (.invokevirtual 116, 3) := by decide +kernel
theorem dX8_candleOf_8 : decode cX8_candleOf 8 = .ok (.ifCond .ne 6, 3) := by decide +kernel
theorem dX8_candleOf_11 : decode cX8_candleOf 11 = .ok (.bipush (-2), 2) := by decide +kernel
theorem dX8_candleOf_13 : decode cX8_candleOf 13 = .ok (.ireturn, 1) := by decide +kernel
theorem dX8_candleOf_14 : decode cX8_candleOf 14 = .ok (.iload_n 2, 1) := by decide +kernel
theorem dX8_candleOf_15 : decode cX8_candleOf 15 = .ok (.tableswitch 83 0 4 #[33, 43, 53, 63, 73], 33) := by decide +kernel
theorem dX8_candleOf_48 : decode cX8_candleOf 48 = .ok (.aload_n 0, 1) := by decide +kernel
theorem dX8_candleOf_49 : decode cX8_candleOf 49 = .ok (.getfield 12, 3) := by decide +kernel
theorem dX8_candleOf_52 : decode cX8_candleOf 52 = .ok (.getfield 226, 3) := by decide +kernel
theorem dX8_candleOf_55 : decode cX8_candleOf 55 = .ok (.iload_n 1, 1) := by decide +kernel
theorem dX8_candleOf_56 : decode cX8_candleOf 56 = .ok (.iaload, 1) := by decide +kernel
theorem dX8_candleOf_57 : decode cX8_candleOf 57 = .ok (.ireturn, 1) := by decide +kernel
theorem dX8_candleOf_58 : decode cX8_candleOf 58 = .ok (.aload_n 0, 1) := by decide +kernel
theorem dX8_candleOf_59 : decode cX8_candleOf 59 = .ok (.getfield 12, 3) := by decide +kernel
theorem dX8_candleOf_62 : decode cX8_candleOf 62 = .ok (.getfield 153, 3) := by decide +kernel
theorem dX8_candleOf_65 : decode cX8_candleOf 65 = .ok (.iload_n 1, 1) := by decide +kernel
theorem dX8_candleOf_66 : decode cX8_candleOf 66 = .ok (.iaload, 1) := by decide +kernel
theorem dX8_candleOf_67 : decode cX8_candleOf 67 = .ok (.ireturn, 1) := by decide +kernel
theorem dX8_candleOf_68 : decode cX8_candleOf 68 = .ok (.aload_n 0, 1) := by decide +kernel
theorem dX8_candleOf_69 : decode cX8_candleOf 69 = .ok (.getfield 12, 3) := by decide +kernel
theorem dX8_candleOf_72 : decode cX8_candleOf 72 = .ok (.getfield 119, 3) := by decide +kernel
theorem dX8_candleOf_75 : decode cX8_candleOf 75 = .ok (.iload_n 1, 1) := by decide +kernel
theorem dX8_candleOf_76 : decode cX8_candleOf 76 = .ok (.iaload, 1) := by decide +kernel
theorem dX8_candleOf_77 : decode cX8_candleOf 77 = .ok (.ireturn, 1) := by decide +kernel
theorem dX8_candleOf_78 : decode cX8_candleOf 78 = .ok (.aload_n 0, 1) := by decide +kernel
theorem dX8_candleOf_79 : decode cX8_candleOf 79 = .ok (.getfield 12, 3) := by decide +kernel
theorem dX8_candleOf_82 : decode cX8_candleOf 82 = .ok (.getfield 129, 3) := by decide +kernel
theorem dX8_candleOf_85 : decode cX8_candleOf 85 = .ok (.iload_n 1, 1) := by decide +kernel
theorem dX8_candleOf_86 : decode cX8_candleOf 86 = .ok (.iaload, 1) := by decide +kernel
theorem dX8_candleOf_87 : decode cX8_candleOf 87 = .ok (.ireturn, 1) := by decide +kernel
theorem dX8_candleOf_88 : decode cX8_candleOf 88 = .ok (.aload_n 0, 1) := by decide +kernel
theorem dX8_candleOf_89 : decode cX8_candleOf 89 = .ok (.getfield 12, 3) := by decide +kernel
theorem dX8_candleOf_92 : decode cX8_candleOf 92 = .ok (.getfield 94, 3) := by decide +kernel
theorem dX8_candleOf_95 : decode cX8_candleOf 95 = .ok (.iload_n 1, 1) := by decide +kernel
theorem dX8_candleOf_96 : decode cX8_candleOf 96 = .ok (.iaload, 1) := by decide +kernel
theorem dX8_candleOf_97 : decode cX8_candleOf 97 = .ok (.ireturn, 1) := by decide +kernel
theorem dX8_candleOf_98 : decode cX8_candleOf 98 = .ok (.iload_n 2, 1) := by decide +kernel
theorem dX8_candleOf_99 : decode cX8_candleOf 99 = .ok (.bipush 10, 2) := by decide +kernel
theorem dX8_candleOf_101 : decode cX8_candleOf 101 = .ok (.if_icmp .lt 33, 3) := by decide +kernel
theorem dX8_candleOf_104 : decode cX8_candleOf 104 = .ok (.aload_n 0, 1) := by decide +kernel
theorem dX8_candleOf_105 : decode cX8_candleOf 105 = .ok (.getfield 12, 3) := by decide +kernel
theorem dX8_candleOf_108 : decode cX8_candleOf 108 = .ok (.iload_n 1, 1) := by decide +kernel
theorem dX8_candleOf_109 : decode cX8_candleOf 109 = .ok (.iload_n 2, 1) := by decide +kernel
theorem dX8_candleOf_110 : decode cX8_candleOf 110 = .ok (.bipush 10, 2) := by decide +kernel
theorem dX8_candleOf_112 : decode cX8_candleOf 112 = .ok (.isub, 1) := by decide +kernel
theorem dX8_candleOf_113 : decode cX8_candleOf 113 = .ok (.invokevirtual 90, 3) := by decide +kernel
theorem dX8_candleOf_116 : decode cX8_candleOf 116 = .ok (.ifCond .eq 18, 3) := by decide +kernel
theorem dX8_candleOf_119 : decode cX8_candleOf 119 = .ok (.aload_n 0, 1) := by decide +kernel
theorem dX8_candleOf_120 : decode cX8_candleOf 120 = .ok (.getfield 12, 3) := by decide +kernel
theorem dX8_candleOf_123 : decode cX8_candleOf 123 = .ok (.iload_n 1, 1) := by decide +kernel
theorem dX8_candleOf_124 : decode cX8_candleOf 124 = .ok (.iload_n 2, 1) := by decide +kernel
theorem dX8_candleOf_125 : decode cX8_candleOf 125 = .ok (.bipush 10, 2) := by decide +kernel
theorem dX8_candleOf_127 : decode cX8_candleOf 127 = .ok (.isub, 1) := by decide +kernel
theorem dX8_candleOf_128 : decode cX8_candleOf 128 = .ok (.invokevirtual 98, 3) := by decide +kernel
theorem dX8_candleOf_131 : decode cX8_candleOf 131 = .ok (.goto 5, 3) := by decide +kernel
theorem dX8_candleOf_134 : decode cX8_candleOf 134 = .ok (.bipush (-2), 2) := by decide +kernel
theorem dX8_candleOf_136 : decode cX8_candleOf 136 = .ok (.ireturn, 1) := by decide +kernel
theorem dX8_says_0 : decode cX8_says 0 = .ok (.aload_n 0, 1) := by decide +kernel
theorem dX8_says_1 : decode cX8_says 1 = .ok (.getfield 12, 3) := by decide +kernel
theorem dX8_says_4 : decode cX8_says 4 = .ok (.iload_n 1, 1) := by decide +kernel
theorem dX8_says_5 : decode cX8_says 5 = .ok (.invokevirtual 86, 3) := by decide +kernel
theorem dX8_says_8 : decode cX8_says 8 = .ok (.ifCond .eq 26, 3) := by decide +kernel
theorem dX8_says_11 : decode cX8_says 11 = .ok (.aload_n 0, 1) := by decide +kernel
theorem dX8_says_12 : decode cX8_says 12 = .ok (.getfield 12, 3) := by decide +kernel
theorem dX8_says_15 : decode cX8_says 15 = .ok (.iload_n 2, 1) := by decide +kernel
theorem dX8_says_16 : decode cX8_says 16 = .ok (.iload_n 3, 1) := by decide +kernel
theorem dX8_says_17 : decode cX8_says 17 = .ok (.invokevirtual 90, 3) := by decide +kernel
theorem dX8_says_20 : decode cX8_says 20 = .ok (.ifCond .eq 14, 3) := by decide +kernel
theorem dX8_says_23 : decode cX8_says 23 = .ok (.iload 4, 2) := by decide +kernel
theorem dX8_says_25 : decode cX8_says 25 = .ok (.ifCond .lt 9, 3) := by decide +kernel
theorem dX8_says_28 : decode cX8_says 28 = .ok (.iload 4, 2) := by decide +kernel
theorem dX8_says_30 : decode cX8_says 30 = .ok (.iconst 4, 1) := by decide +kernel
theorem dX8_says_31 : decode cX8_says 31 = .ok (.if_icmp .lt 6, 3) := by decide +kernel
theorem dX8_says_34 : decode cX8_says 34 = .ok (.bipush (-2), 2) := by decide +kernel
theorem dX8_says_36 : decode cX8_says 36 = .ok (.ireturn, 1) := by decide +kernel
theorem dX8_says_37 : decode cX8_says 37 = .ok (.aload_n 0, 1) := by decide +kernel
theorem dX8_says_38 : decode cX8_says 38 = .ok (.getfield 47, 3) := by decide +kernel
theorem dX8_says_41 : decode cX8_says 41 = .ok (.iload 4, 2) := by decide +kernel
theorem dX8_says_43 : decode cX8_says 43 = .ok (.iload_n 1, 1) := by decide +kernel
theorem dX8_says_44 : decode cX8_says 44 = .ok (.iload_n 2, 1) := by decide +kernel
theorem dX8_says_45 : decode cX8_says 45 = .ok (.iload_n 3, 1) := by decide +kernel
theorem dX8_says_46 : decode cX8_says 46 = .ok (.invokevirtual 101, 3) := by decide +kernel
theorem dX8_says_49 : decode cX8_says 49 = .ok (.ireturn, 1) := by decide +kernel
theorem dX8_drip_0 : decode cX8_drip 0 = .ok (.iload_n 1, 1) := by decide +kernel
theorem dX8_drip_1 : decode cX8_drip 1 = .ok (.iconst (-1), 1) := by decide +kernel
theorem dX8_drip_2 : decode cX8_drip 2 = .ok (.if_icmp .ne 11, 3) := by decide +kernel
theorem dX8_drip_5 : decode cX8_drip 5 = .ok (.aload_n 0, 1) := by decide +kernel
theorem dX8_drip_6 : decode cX8_drip 6 = .ok (.getfield 12, 3) := by decide +kernel
theorem dX8_drip_9 : decode cX8_drip 9 = .ok (.getfield 229, 3) := by decide +kernel
theorem dX8_drip_12 : decode cX8_drip 12 = .ok (.ireturn, 1) := by decide +kernel
theorem dX8_drip_13 : decode cX8_drip 13 = .ok (.iload_n 1, 1) := by decide +kernel
theorem dX8_drip_14 : decode cX8_drip 14 = .ok (.ifCond .lt 23, 3) := by decide +kernel
theorem dX8_drip_17 : decode cX8_drip 17 = .ok (.iload_n 1, 1) := by decide +kernel
theorem dX8_drip_18 : decode cX8_drip 18 = .ok (.aload_n 0, 1) := by decide +kernel
theorem dX8_drip_19 : decode cX8_drip 19 = .ok (.getfield 12, 3) := by decide +kernel
theorem dX8_drip_22 : decode cX8_drip 22 = .ok (.getfield 229, 3) := by decide +kernel
theorem dX8_drip_25 : decode cX8_drip 25 = .ok (.if_icmp .ge 12, 3) := by decide +kernel
theorem dX8_drip_28 : decode cX8_drip 28 = .ok (.iload_n 2, 1) := by decide +kernel
theorem dX8_drip_29 : decode cX8_drip 29 = .ok (.ifCond .lt 8, 3) := by decide +kernel
theorem dX8_drip_32 : decode cX8_drip 32 = .ok (.iload_n 2, 1) := by decide +kernel
theorem dX8_drip_33 : decode cX8_drip 33 = .ok (.iconst 5, 1) := by decide +kernel
theorem dX8_drip_34 : decode cX8_drip 34 = .ok (.if_icmp .lt 6, 3) := by decide +kernel
theorem dX8_drip_37 : decode cX8_drip 37 = .ok (.bipush (-2), 2) := by decide +kernel
theorem dX8_drip_39 : decode cX8_drip 39 = .ok (.ireturn, 1) := by decide +kernel
theorem dX8_drip_40 : decode cX8_drip 40 = .ok (.aload_n 0, 1) := by decide +kernel
theorem dX8_drip_41 : decode cX8_drip 41 = .ok (.getfield 12, 3) := by decide +kernel
theorem dX8_drip_44 : decode cX8_drip 44 = .ok (.iload_n 1, 1) := by decide +kernel
theorem dX8_drip_45 : decode cX8_drip 45 = .ok (.iload_n 2, 1) := by decide +kernel
theorem dX8_drip_46 : decode cX8_drip 46 = .ok (.invokevirtual 232, 3) := by decide +kernel
theorem dX8_drip_49 : decode cX8_drip 49 = .ok (.ireturn, 1) := by decide +kernel
theorem dX8_whose_0 : decode cX8_whose 0 = .ok (.iload_n 2, 1) := by decide +kernel
theorem dX8_whose_1 : decode cX8_whose 1 = .ok (.ifCond .lt 21, 3) := by decide +kernel
theorem dX8_whose_4 : decode cX8_whose 4 = .ok (.iload_n 2, 1) := by decide +kernel
theorem dX8_whose_5 : decode cX8_whose 5 = .ok (.sipush 9999, 3) := by decide +kernel
theorem dX8_whose_8 : decode cX8_whose 8 = .ok (.if_icmp .gt 14, 3) := by decide +kernel
theorem dX8_whose_11 : decode cX8_whose 11 = .ok (.aload_n 0, 1) := by decide +kernel
theorem dX8_whose_12 : decode cX8_whose 12 = .ok (.getfield 56, 3) := by decide +kernel
theorem dX8_whose_15 : decode cX8_whose 15 = .ok (.iload_n 1, 1) := by decide +kernel
theorem dX8_whose_16 : decode cX8_whose 16 = .ok (.invokevirtual 235, 3) := by decide +kernel
theorem dX8_whose_19 : decode cX8_whose 19 = .ok (.ifCond .ne 5, 3) := by decide +kernel
theorem dX8_whose_22 : decode cX8_whose 22 = .ok (.iconst (-1), 1) := by decide +kernel
theorem dX8_whose_23 : decode cX8_whose 23 = .ok (.ireturn, 1) := by decide +kernel
theorem dX8_whose_24 : decode cX8_whose 24 = .ok (.aload_n 0, 1) := by decide +kernel
theorem dX8_whose_25 : decode cX8_whose 25 = .ok (.getfield 56, 3) := by decide +kernel
theorem dX8_whose_28 : decode cX8_whose 28 = .ok (.iload_n 2, 1) := by decide +kernel
theorem dX8_whose_29 : decode cX8_whose 29 = .ok (.invokevirtual 238, 3) := by decide +kernel
theorem dX8_whose_32 : decode cX8_whose 32 = .ok (.ireturn, 1) := by decide +kernel
theorem dX8_odds_0 : decode cX8_odds 0 = .ok (.aload_n 0, 1) := by decide +kernel
theorem dX8_odds_1 : decode cX8_odds 1 = .ok (.getfield 56, 3) := by decide +kernel
theorem dX8_odds_4 : decode cX8_odds 4 = .ok (.iload_n 1, 1) := by decide +kernel
theorem dX8_odds_5 : decode cX8_odds 5 = .ok (.invokevirtual 235, 3) := by decide +kernel
theorem dX8_odds_8 : decode cX8_odds 8 = .ok (.ifCond .eq 25, 3) := by decide +kernel
theorem dX8_odds_11 : decode cX8_odds 11 = .ok (.iload_n 2, 1) := by decide +kernel
theorem dX8_odds_12 : decode cX8_odds 12 = .ok (.aload_n 0, 1) := by decide +kernel
theorem dX8_odds_13 : decode cX8_odds 13 = .ok (.getfield 56, 3) := by decide +kernel
theorem dX8_odds_16 : decode cX8_odds 16 = .ok (.getfield 241, 3) := by decide +kernel
theorem dX8_odds_19 : decode cX8_odds 19 = .ok (.if_icmp .lt 14, 3) := by decide +kernel
theorem dX8_odds_22 : decode cX8_odds 22 = .ok (.iload_n 2, 1) := by decide +kernel
theorem dX8_odds_23 : decode cX8_odds 23 = .ok (.aload_n 0, 1) := by decide +kernel
theorem dX8_odds_24 : decode cX8_odds 24 = .ok (.getfield 56, 3) := by decide +kernel
theorem dX8_odds_27 : decode cX8_odds 27 = .ok (.getfield 244, 3) := by decide +kernel
theorem dX8_odds_30 : decode cX8_odds 30 = .ok (.if_icmp .lt 7, 3) := by decide +kernel
theorem dX8_odds_33 : decode cX8_odds 33 = .ok (.ldc2_w 247, 3) := by decide +kernel
theorem dX8_odds_36 : decode cX8_odds 36 = .ok (.lreturn, 1) := by decide +kernel
theorem dX8_odds_37 : decode cX8_odds 37 = .ok (.aload_n 0, 1) := by decide +kernel
theorem dX8_odds_38 : decode cX8_odds 38 = .ok (.getfield 56, 3) := by decide +kernel
theorem dX8_odds_41 : decode cX8_odds 41 = .ok (.iload_n 2, 1) := by decide +kernel
theorem dX8_odds_42 : decode cX8_odds 42 = .ok (.invokevirtual 249, 3) := by decide +kernel
theorem dX8_odds_45 : decode cX8_odds 45 = .ok (.iload_n 3, 1) := by decide +kernel
theorem dX8_odds_46 : decode cX8_odds 46 = .ok (.ifCond .eq 13, 3) := by decide +kernel
theorem dX8_odds_49 : decode cX8_odds 49 = .ok (.aload_n 0, 1) := by decide +kernel
theorem dX8_odds_50 : decode cX8_odds 50 = .ok (.getfield 56, 3) := by decide +kernel
theorem dX8_odds_53 : decode cX8_odds 53 = .ok (.getfield 252, 3) := by decide +kernel
theorem dX8_odds_56 : decode cX8_odds 56 = .ok (.goto 10, 3) := by decide +kernel
theorem dX8_odds_59 : decode cX8_odds 59 = .ok (.aload_n 0, 1) := by decide +kernel
theorem dX8_odds_60 : decode cX8_odds 60 = .ok (.getfield 56, 3) := by decide +kernel
theorem dX8_odds_63 : decode cX8_odds 63 = .ok (.getfield 256, 3) := by decide +kernel
theorem dX8_odds_66 : decode cX8_odds 66 = .ok (.lreturn, 1) := by decide +kernel
theorem dX8_blame_0 : decode cX8_blame 0 = .ok (.aload_n 0, 1) := by decide +kernel
theorem dX8_blame_1 : decode cX8_blame 1 = .ok (.getfield 12, 3) := by decide +kernel
theorem dX8_blame_4 : decode cX8_blame 4 = .ok (.iload_n 2, 1) := by decide +kernel
theorem dX8_blame_5 : decode cX8_blame 5 = .ok (.invokevirtual 86, 3) := by decide +kernel
theorem dX8_blame_8 : decode cX8_blame 8 = .ok (.ifCond .eq 25, 3) := by decide +kernel
theorem dX8_blame_11 : decode cX8_blame 11 = .ok (.aload_n 0, 1) := by decide +kernel
theorem dX8_blame_12 : decode cX8_blame 12 = .ok (.getfield 56, 3) := by decide +kernel
theorem dX8_blame_15 : decode cX8_blame 15 = .ok (.iload_n 1, 1) := by decide +kernel
theorem dX8_blame_16 : decode cX8_blame 16 = .ok (.invokevirtual 235, 3) := by decide +kernel
theorem dX8_blame_19 : decode cX8_blame 19 = .ok (.ifCond .eq 14, 3) := by decide +kernel
theorem dX8_blame_22 : decode cX8_blame 22 = .ok (.aload_n 0, 1) := by decide +kernel
theorem dX8_blame_23 : decode cX8_blame 23 = .ok (.getfield 56, 3) := by decide +kernel
theorem dX8_blame_26 : decode cX8_blame 26 = .ok (.iload_n 2, 1) := by decide +kernel
theorem dX8_blame_27 : decode cX8_blame 27 = .ok (.invokevirtual 259, 3) := by decide +kernel
theorem dX8_blame_30 : decode cX8_blame 30 = .ok (.ifCond .ne 7, 3) := by decide +kernel
theorem dX8_blame_33 : decode cX8_blame 33 = .ok (.ldc2_w 247, 3) := by decide +kernel
theorem dX8_blame_36 : decode cX8_blame 36 = .ok (.lreturn, 1) := by decide +kernel
theorem dX8_blame_37 : decode cX8_blame 37 = .ok (.iload_n 3, 1) := by decide +kernel
theorem dX8_blame_38 : decode cX8_blame 38 = .ok (.ifCond .eq 13, 3) := by decide +kernel
theorem dX8_blame_41 : decode cX8_blame 41 = .ok (.aload_n 0, 1) := by decide +kernel
theorem dX8_blame_42 : decode cX8_blame 42 = .ok (.getfield 56, 3) := by decide +kernel
theorem dX8_blame_45 : decode cX8_blame 45 = .ok (.getfield 252, 3) := by decide +kernel
theorem dX8_blame_48 : decode cX8_blame 48 = .ok (.goto 10, 3) := by decide +kernel
theorem dX8_blame_51 : decode cX8_blame 51 = .ok (.aload_n 0, 1) := by decide +kernel
theorem dX8_blame_52 : decode cX8_blame 52 = .ok (.getfield 56, 3) := by decide +kernel
theorem dX8_blame_55 : decode cX8_blame 55 = .ok (.getfield 256, 3) := by decide +kernel
theorem dX8_blame_58 : decode cX8_blame 58 = .ok (.lreturn, 1) := by decide +kernel
theorem dX8_supper_0 : decode cX8_supper 0 = .ok (.aload_n 0, 1) := by decide +kernel
theorem dX8_supper_1 : decode cX8_supper 1 = .ok (.getfield 12, 3) := by decide +kernel
theorem dX8_supper_4 : decode cX8_supper 4 = .ok (.iload_n 1, 1) := by decide +kernel
theorem dX8_supper_5 : decode cX8_supper 5 = .ok (.invokevirtual 262, 3) := by decide +kernel
theorem dX8_supper_8 : decode cX8_supper 8 = .ok (.ifCond .eq 10, 3) := by decide +kernel
theorem dX8_supper_11 : decode cX8_supper 11 = .ok (.iload_n 1, 1) := by decide +kernel
theorem dX8_supper_12 : decode cX8_supper 12 = .ok (.invokestatic 265, 3) := by decide +kernel
theorem dX8_supper_15 : decode cX8_supper 15 = .ok (.goto 4, 3) := by decide +kernel
theorem dX8_supper_18 : decode cX8_supper 18 = .ok (.iconst 0, 1) := by decide +kernel
theorem dX8_supper_19 : decode cX8_supper 19 = .ok (.istore 4, 2) := by decide +kernel
theorem dX8_supper_21 : decode cX8_supper 21 = .ok (.iload 4, 2) := by decide +kernel
theorem dX8_supper_23 : decode cX8_supper 23 = .ok (.iconst 1, 1) := by decide +kernel
theorem dX8_supper_24 : decode cX8_supper 24 = .ok (.if_icmp .lt 31, 3) := by decide +kernel
theorem dX8_supper_27 : decode cX8_supper 27 = .ok (.iload 4, 2) := by decide +kernel
theorem dX8_supper_29 : decode cX8_supper 29 = .ok (.bipush 6, 2) := by decide +kernel
theorem dX8_supper_31 : decode cX8_supper 31 = .ok (.if_icmp .gt 24, 3) := by decide +kernel
theorem dX8_supper_34 : decode cX8_supper 34 = .ok (.iload_n 2, 1) := by decide +kernel
theorem dX8_supper_35 : decode cX8_supper 35 = .ok (.iconst 1, 1) := by decide +kernel
theorem dX8_supper_36 : decode cX8_supper 36 = .ok (.if_icmp .lt 19, 3) := by decide +kernel
theorem dX8_supper_39 : decode cX8_supper 39 = .ok (.iload_n 2, 1) := by decide +kernel
theorem dX8_supper_40 : decode cX8_supper 40 = .ok (.bipush 9, 2) := by decide +kernel
theorem dX8_supper_42 : decode cX8_supper 42 = .ok (.if_icmp .gt 13, 3) := by decide +kernel
theorem dX8_supper_45 : decode cX8_supper 45 = .ok (.iload_n 3, 1) := by decide +kernel
theorem dX8_supper_46 : decode cX8_supper 46 = .ok (.ifCond .lt 9, 3) := by decide +kernel
theorem dX8_supper_49 : decode cX8_supper 49 = .ok (.iload_n 3, 1) := by decide +kernel
theorem dX8_supper_50 : decode cX8_supper 50 = .ok (.iload 4, 2) := by decide +kernel
theorem dX8_supper_52 : decode cX8_supper 52 = .ok (.if_icmp .lt 5, 3) := by decide +kernel
theorem dX8_supper_55 : decode cX8_supper 55 = .ok (.iconst (-1), 1) := by decide +kernel
theorem dX8_supper_56 : decode cX8_supper 56 = .ok (.ireturn, 1) := by decide +kernel
theorem dX8_supper_57 : decode cX8_supper 57 = .ok (.aload_n 0, 1) := by decide +kernel
theorem dX8_supper_58 : decode cX8_supper 58 = .ok (.getfield 63, 3) := by decide +kernel
theorem dX8_supper_61 : decode cX8_supper 61 = .ok (.iload_n 1, 1) := by decide +kernel
theorem dX8_supper_62 : decode cX8_supper 62 = .ok (.iload_n 2, 1) := by decide +kernel
theorem dX8_supper_63 : decode cX8_supper 63 = .ok (.invokevirtual 270, 3) := by decide +kernel
theorem dX8_supper_66 : decode cX8_supper 66 = .ok (.aload_n 0, 1) := by decide +kernel
theorem dX8_supper_67 : decode cX8_supper 67 = .ok (.getfield 63, 3) := by decide +kernel
theorem dX8_supper_70 : decode cX8_supper 70 = .ok (.iload_n 3, 1) := by decide +kernel
theorem dX8_supper_71 : decode cX8_supper 71 = .ok (.invokevirtual 274, 3) := by decide +kernel
theorem dX8_supper_74 : decode cX8_supper 74 = .ok (.ireturn, 1) := by decide +kernel
theorem dX8_married_0 : decode cX8_married 0 = .ok (.iload_n 1, 1) := by decide +kernel
theorem dX8_married_1 : decode cX8_married 1 = .ok (.iconst (-1), 1) := by decide +kernel
theorem dX8_married_2 : decode cX8_married 2 = .ok (.if_icmp .eq 14, 3) := by decide +kernel
theorem dX8_married_5 : decode cX8_married 5 = .ok (.aload_n 0, 1) := by decide +kernel
theorem dX8_married_6 : decode cX8_married 6 = .ok (.getfield 12, 3) := by decide +kernel
theorem dX8_married_9 : decode cX8_married 9 = .ok (.iload_n 1, 1) := by decide +kernel
theorem dX8_married_10 : decode cX8_married 10 = .ok (.invokevirtual 116, 3) := by decide +kernel
theorem dX8_married_13 : decode cX8_married 13 = .ok (.ifCond .eq 13, 3) := by decide +kernel
theorem dX8_married_16 : decode cX8_married 16 = .ok (.aload_n 0, 1) := by decide +kernel
theorem dX8_married_17 : decode cX8_married 17 = .ok (.getfield 70, 3) := by decide +kernel
theorem dX8_married_20 : decode cX8_married 20 = .ok (.invokevirtual 277, 3) := by decide +kernel
theorem dX8_married_23 : decode cX8_married 23 = .ok (.ifCond .ne 5, 3) := by decide +kernel
theorem dX8_married_26 : decode cX8_married 26 = .ok (.iconst (-1), 1) := by decide +kernel
theorem dX8_married_27 : decode cX8_married 27 = .ok (.ireturn, 1) := by decide +kernel
theorem dX8_married_28 : decode cX8_married 28 = .ok (.iload_n 1, 1) := by decide +kernel
theorem dX8_married_29 : decode cX8_married 29 = .ok (.iconst (-1), 1) := by decide +kernel
theorem dX8_married_30 : decode cX8_married 30 = .ok (.if_icmp .ne 13, 3) := by decide +kernel
theorem dX8_married_33 : decode cX8_married 33 = .ok (.aload_n 0, 1) := by decide +kernel
theorem dX8_married_34 : decode cX8_married 34 = .ok (.getfield 70, 3) := by decide +kernel
theorem dX8_married_37 : decode cX8_married 37 = .ok (.getfield 280, 3) := by decide +kernel
theorem dX8_married_40 : decode cX8_married 40 = .ok (.goto 11, 3) := by decide +kernel
theorem dX8_married_43 : decode cX8_married 43 = .ok (.aload_n 0, 1) := by decide +kernel
theorem dX8_married_44 : decode cX8_married 44 = .ok (.getfield 70, 3) := by decide +kernel
theorem dX8_married_47 : decode cX8_married 47 = .ok (.iload_n 1, 1) := by decide +kernel
theorem dX8_married_48 : decode cX8_married 48 = .ok (.invokevirtual 283, 3) := by decide +kernel
theorem dX8_married_51 : decode cX8_married 51 = .ok (.ireturn, 1) := by decide +kernel
theorem dX8_worth_0 : decode cX8_worth 0 = .ok (.aload_n 0, 1) := by decide +kernel
theorem dX8_worth_1 : decode cX8_worth 1 = .ok (.getfield 12, 3) := by decide +kernel
theorem dX8_worth_4 : decode cX8_worth 4 = .ok (.iload_n 1, 1) := by decide +kernel
theorem dX8_worth_5 : decode cX8_worth 5 = .ok (.invokevirtual 262, 3) := by decide +kernel
theorem dX8_worth_8 : decode cX8_worth 8 = .ok (.ifCond .eq 14, 3) := by decide +kernel
theorem dX8_worth_11 : decode cX8_worth 11 = .ok (.aload_n 0, 1) := by decide +kernel
theorem dX8_worth_12 : decode cX8_worth 12 = .ok (.getfield 12, 3) := by decide +kernel
theorem dX8_worth_15 : decode cX8_worth 15 = .ok (.iload_n 1, 1) := by decide +kernel
theorem dX8_worth_16 : decode cX8_worth 16 = .ok (.invokevirtual 286, 3) := by decide +kernel
theorem dX8_worth_19 : decode cX8_worth 19 = .ok (.goto 4, 3) := by decide +kernel
theorem dX8_worth_22 : decode cX8_worth 22 = .ok (.iconst (-1), 1) := by decide +kernel
theorem dX8_worth_23 : decode cX8_worth 23 = .ok (.ireturn, 1) := by decide +kernel
theorem dX8_club_0 : decode cX8_club 0 = .ok (.iload_n 1, 1) := by decide +kernel
theorem dX8_club_1 : decode cX8_club 1 = .ok (.iconst 1, 1) := by decide +kernel
theorem dX8_club_2 : decode cX8_club 2 = .ok (.if_icmp .lt 14, 3) := by decide +kernel
theorem dX8_club_5 : decode cX8_club 5 = .ok (.iload_n 1, 1) := by decide +kernel
theorem dX8_club_6 : decode cX8_club 6 = .ok (.aload_n 0, 1) := by decide +kernel
theorem dX8_club_7 : decode cX8_club 7 = .ok (.getfield 12, 3) := by decide +kernel
theorem dX8_club_10 : decode cX8_club 10 = .ok (.getfield 159, 3) := by decide +kernel
theorem dX8_club_13 : decode cX8_club 13 = .ok (.if_icmp .le 5, 3) := by decide +kernel
theorem dX8_club_16 : decode cX8_club 16 = .ok (.iconst (-1), 1) := by decide +kernel
theorem dX8_club_17 : decode cX8_club 17 = .ok (.ireturn, 1) := by decide +kernel
theorem dX8_club_18 : decode cX8_club 18 = .ok (.iconst (-1), 1) := by decide +kernel
theorem dX8_club_19 : decode cX8_club 19 = .ok (.istore_n 2, 1) := by decide +kernel
theorem dX8_club_20 : decode cX8_club 20 = .ok (.iconst (-1), 1) := by decide +kernel
theorem dX8_club_21 : decode cX8_club 21 = .ok (.istore_n 3, 1) := by decide +kernel
theorem dX8_club_22 : decode cX8_club 22 = .ok (.iconst 1, 1) := by decide +kernel
theorem dX8_club_23 : decode cX8_club 23 = .ok (.istore 4, 2) := by decide +kernel
theorem dX8_club_25 : decode cX8_club 25 = .ok (.iload 4, 2) := by decide +kernel
theorem dX8_club_27 : decode cX8_club 27 = .ok (.sipush 256, 3) := by decide +kernel
theorem dX8_club_30 : decode cX8_club 30 = .ok (.if_icmp .ge 57, 3) := by decide +kernel
theorem dX8_club_33 : decode cX8_club 33 = .ok (.aload_n 0, 1) := by decide +kernel
theorem dX8_club_34 : decode cX8_club 34 = .ok (.getfield 12, 3) := by decide +kernel
theorem dX8_club_37 : decode cX8_club 37 = .ok (.iload 4, 2) := by decide +kernel
theorem dX8_club_39 : decode cX8_club 39 = .ok (.invokevirtual 262, 3) := by decide +kernel
theorem dX8_club_42 : decode cX8_club 42 = .ok (.ifCond .eq 45, 3) := by decide +kernel
theorem dX8_club_45 : decode cX8_club 45 = .ok (.iload 4, 2) := by decide +kernel
theorem dX8_club_47 : decode cX8_club 47 = .ok (.invokestatic 265, 3) := by decide +kernel
theorem dX8_club_50 : decode cX8_club 50 = .ok (.iload_n 1, 1) := by decide +kernel
theorem dX8_club_51 : decode cX8_club 51 = .ok (.if_icmp .ne 15, 3) := by decide +kernel
theorem dX8_club_54 : decode cX8_club 54 = .ok (.aload_n 0, 1) := by decide +kernel
theorem dX8_club_55 : decode cX8_club 55 = .ok (.getfield 12, 3) := by decide +kernel
theorem dX8_club_58 : decode cX8_club 58 = .ok (.iload 4, 2) := by decide +kernel
theorem dX8_club_60 : decode cX8_club 60 = .ok (.invokevirtual 286, 3) := by decide +kernel
theorem dX8_club_63 : decode cX8_club 63 = .ok (.goto 4, 3) := by decide +kernel
theorem dX8_club_66 : decode cX8_club 66 = .ok (.iconst (-1), 1) := by decide +kernel
theorem dX8_club_67 : decode cX8_club 67 = .ok (.istore 5, 2) := by decide +kernel
theorem dX8_club_69 : decode cX8_club 69 = .ok (.iload 5, 2) := by decide +kernel
theorem dX8_club_71 : decode cX8_club 71 = .ok (.iload_n 3, 1) := by decide +kernel
theorem dX8_club_72 : decode cX8_club 72 = .ok (.if_icmp .le 9, 3) := by decide +kernel
theorem dX8_club_75 : decode cX8_club 75 = .ok (.iload 4, 2) := by decide +kernel
theorem dX8_club_77 : decode cX8_club 77 = .ok (.istore_n 2, 1) := by decide +kernel
theorem dX8_club_78 : decode cX8_club 78 = .ok (.iload 5, 2) := by decide +kernel
theorem dX8_club_80 : decode cX8_club 80 = .ok (.istore_n 3, 1) := by decide +kernel
theorem dX8_club_81 : decode cX8_club 81 = .ok (.iinc 4 1, 3) := by decide +kernel
theorem dX8_club_84 : decode cX8_club 84 = .ok (.goto (-59), 3) := by decide +kernel
theorem dX8_club_87 : decode cX8_club 87 = .ok (.iload_n 2, 1) := by decide +kernel
theorem dX8_club_88 : decode cX8_club 88 = .ok (.ireturn, 1) := by decide +kernel
theorem dX8_settles_0 : decode cX8_settles 0 = .ok (.aload_n 0, 1) := by decide +kernel
theorem dX8_settles_1 : decode cX8_settles 1 = .ok (.getfield 12, 3) := by decide +kernel
theorem dX8_settles_4 : decode cX8_settles 4 = .ok (.iload_n 1, 1) := by decide +kernel
theorem dX8_settles_5 : decode cX8_settles 5 = .ok (.invokevirtual 116, 3) := by decide +kernel
theorem dX8_settles_8 : decode cX8_settles 8 = .ok (.ifCond .eq 22, 3) := by decide +kernel
theorem dX8_settles_11 : decode cX8_settles 11 = .ok (.iload_n 2, 1) := by decide +kernel
theorem dX8_settles_12 : decode cX8_settles 12 = .ok (.ifCond .lt 18, 3) := by decide +kernel
theorem dX8_settles_15 : decode cX8_settles 15 = .ok (.iload_n 2, 1) := by decide +kernel
theorem dX8_settles_16 : decode cX8_settles 16 = .ok (.bipush 99, 2) := by decide +kernel
theorem dX8_settles_18 : decode cX8_settles 18 = .ok (.if_icmp .gt 12, 3) := by decide +kernel
theorem dX8_settles_21 : decode cX8_settles 21 = .ok (.iload_n 3, 1) := by decide +kernel
theorem dX8_settles_22 : decode cX8_settles 22 = .ok (.ifCond .lt 8, 3) := by decide +kernel
theorem dX8_settles_25 : decode cX8_settles 25 = .ok (.iload_n 3, 1) := by decide +kernel
theorem dX8_settles_26 : decode cX8_settles 26 = .ok (.iconst 1, 1) := by decide +kernel
theorem dX8_settles_27 : decode cX8_settles 27 = .ok (.if_icmp .le 5, 3) := by decide +kernel
theorem dX8_settles_30 : decode cX8_settles 30 = .ok (.iconst (-1), 1) := by decide +kernel
theorem dX8_settles_31 : decode cX8_settles 31 = .ok (.ireturn, 1) := by decide +kernel
theorem dX8_settles_32 : decode cX8_settles 32 = .ok (.aload_n 0, 1) := by decide +kernel
theorem dX8_settles_33 : decode cX8_settles 33 = .ok (.getfield 12, 3) := by decide +kernel
theorem dX8_settles_36 : decode cX8_settles 36 = .ok (.iload_n 1, 1) := by decide +kernel
theorem dX8_settles_37 : decode cX8_settles 37 = .ok (.invokevirtual 289, 3) := by decide +kernel
theorem dX8_settles_40 : decode cX8_settles 40 = .ok (.istore 4, 2) := by decide +kernel
theorem dX8_settles_42 : decode cX8_settles 42 = .ok (.iload_n 2, 1) := by decide +kernel
theorem dX8_settles_43 : decode cX8_settles 43 = .ok (.istore 5, 2) := by decide +kernel
theorem dX8_settles_45 : decode cX8_settles 45 = .ok (.iconst 0, 1) := by decide +kernel
theorem dX8_settles_46 : decode cX8_settles 46 = .ok (.istore 6, 2) := by decide +kernel
theorem dX8_settles_48 : decode cX8_settles 48 = .ok (.iconst 0, 1) := by decide +kernel
theorem dX8_settles_49 : decode cX8_settles 49 = .ok (.istore 7, 2) := by decide +kernel
theorem dX8_settles_51 : decode cX8_settles 51 = .ok (.iload 7, 2) := by decide +kernel
theorem dX8_settles_53 : decode cX8_settles 53 = .ok (.bipush 99, 2) := by decide +kernel
theorem dX8_settles_55 : decode cX8_settles 55 = .ok (.if_icmp .gt 62, 3) := by decide +kernel
theorem dX8_settles_58 : decode cX8_settles 58 = .ok (.aload_n 0, 1) := by decide +kernel
theorem dX8_settles_59 : decode cX8_settles 59 = .ok (.iload 5, 2) := by decide +kernel
theorem dX8_settles_61 : decode cX8_settles 61 = .ok (.iload 4, 2) := by decide +kernel
theorem dX8_settles_63 : decode cX8_settles 63 = .ok (.invokevirtual 292, 3) := by decide +kernel
theorem dX8_settles_66 : decode cX8_settles 66 = .ok (.istore 8, 2) := by decide +kernel
theorem dX8_settles_68 : decode cX8_settles 68 = .ok (.iload 8, 2) := by decide +kernel
theorem dX8_settles_70 : decode cX8_settles 70 = .ok (.ifCond .ne 15, 3) := by decide +kernel
theorem dX8_settles_73 : decode cX8_settles 73 = .ok (.iload_n 3, 1) := by decide +kernel
theorem dX8_settles_74 : decode cX8_settles 74 = .ok (.ifCond .ne 8, 3) := by decide +kernel
theorem dX8_settles_77 : decode cX8_settles 77 = .ok (.iload 7, 2) := by decide +kernel
theorem dX8_settles_79 : decode cX8_settles 79 = .ok (.goto 5, 3) := by decide +kernel
theorem dX8_settles_82 : decode cX8_settles 82 = .ok (.iload 5, 2) := by decide +kernel
theorem dX8_settles_84 : decode cX8_settles 84 = .ok (.ireturn, 1) := by decide +kernel
theorem dX8_settles_85 : decode cX8_settles 85 = .ok (.iload 6, 2) := by decide +kernel
theorem dX8_settles_87 : decode cX8_settles 87 = .ok (.ifCond .eq 13, 3) := by decide +kernel
theorem dX8_settles_90 : decode cX8_settles 90 = .ok (.iload 8, 2) := by decide +kernel
theorem dX8_settles_92 : decode cX8_settles 92 = .ok (.iload 6, 2) := by decide +kernel
theorem dX8_settles_94 : decode cX8_settles 94 = .ok (.if_icmp .eq 6, 3) := by decide +kernel
theorem dX8_settles_97 : decode cX8_settles 97 = .ok (.bipush (-2), 2) := by decide +kernel
theorem dX8_settles_99 : decode cX8_settles 99 = .ok (.ireturn, 1) := by decide +kernel
theorem dX8_settles_100 : decode cX8_settles 100 = .ok (.iload 5, 2) := by decide +kernel
theorem dX8_settles_102 : decode cX8_settles 102 = .ok (.iload 8, 2) := by decide +kernel
theorem dX8_settles_104 : decode cX8_settles 104 = .ok (.iadd, 1) := by decide +kernel
theorem dX8_settles_105 : decode cX8_settles 105 = .ok (.istore 5, 2) := by decide +kernel
theorem dX8_settles_107 : decode cX8_settles 107 = .ok (.iload 8, 2) := by decide +kernel
theorem dX8_settles_109 : decode cX8_settles 109 = .ok (.istore 6, 2) := by decide +kernel
theorem dX8_settles_111 : decode cX8_settles 111 = .ok (.iinc 7 1, 3) := by decide +kernel
theorem dX8_settles_114 : decode cX8_settles 114 = .ok (.goto (-63), 3) := by decide +kernel
theorem dX8_settles_117 : decode cX8_settles 117 = .ok (.bipush (-2), 2) := by decide +kernel
theorem dX8_settles_119 : decode cX8_settles 119 = .ok (.ireturn, 1) := by decide +kernel
theorem dX8_turnOf_0 : decode cX8_turnOf 0 = .ok (.aload_n 0, 1) := by decide +kernel
theorem dX8_turnOf_1 : decode cX8_turnOf 1 = .ok (.getfield 12, 3) := by decide +kernel
theorem dX8_turnOf_4 : decode cX8_turnOf 4 = .ok (.iload_n 1, 1) := by decide +kernel
theorem dX8_turnOf_5 : decode cX8_turnOf 5 = .ok (.invokevirtual 295, 3) := by decide +kernel
theorem dX8_turnOf_8 : decode cX8_turnOf 8 = .ok (.istore_n 3, 1) := by decide +kernel
theorem dX8_turnOf_9 : decode cX8_turnOf 9 = .ok (.iload_n 3, 1) := by decide +kernel
theorem dX8_turnOf_10 : decode cX8_turnOf 10 = .ok (.iload_n 2, 1) := by decide +kernel
theorem dX8_turnOf_11 : decode cX8_turnOf 11 = .ok (.if_icmp .le 15, 3) := by decide +kernel
theorem dX8_turnOf_14 : decode cX8_turnOf 14 = .ok (.iload_n 1, 1) := by decide +kernel
theorem dX8_turnOf_15 : decode cX8_turnOf 15 = .ok (.bipush 99, 2) := by decide +kernel
theorem dX8_turnOf_17 : decode cX8_turnOf 17 = .ok (.if_icmp .ge 7, 3) := by decide +kernel
theorem dX8_turnOf_20 : decode cX8_turnOf 20 = .ok (.iconst 1, 1) := by decide +kernel
theorem dX8_turnOf_21 : decode cX8_turnOf 21 = .ok (.goto 4, 3) := by decide +kernel
theorem dX8_turnOf_24 : decode cX8_turnOf 24 = .ok (.iconst 0, 1) := by decide +kernel
theorem dX8_turnOf_25 : decode cX8_turnOf 25 = .ok (.ireturn, 1) := by decide +kernel
theorem dX8_turnOf_26 : decode cX8_turnOf 26 = .ok (.iload_n 3, 1) := by decide +kernel
theorem dX8_turnOf_27 : decode cX8_turnOf 27 = .ok (.iload_n 2, 1) := by decide +kernel
theorem dX8_turnOf_28 : decode cX8_turnOf 28 = .ok (.if_icmp .ge 11, 3) := by decide +kernel
theorem dX8_turnOf_31 : decode cX8_turnOf 31 = .ok (.iload_n 1, 1) := by decide +kernel
theorem dX8_turnOf_32 : decode cX8_turnOf 32 = .ok (.ifCond .le 7, 3) := by decide +kernel
theorem dX8_turnOf_35 : decode cX8_turnOf 35 = .ok (.iconst (-1), 1) := by decide +kernel
theorem dX8_turnOf_36 : decode cX8_turnOf 36 = .ok (.goto 4, 3) := by decide +kernel
theorem dX8_turnOf_39 : decode cX8_turnOf 39 = .ok (.iconst 0, 1) := by decide +kernel
theorem dX8_turnOf_40 : decode cX8_turnOf 40 = .ok (.ireturn, 1) := by decide +kernel
theorem dX8_image_0 : decode cX8_image 0 = .ok (.aload_n 0, 1) := by decide +kernel
theorem dX8_image_1 : decode cX8_image 1 = .ok (.getfield 16, 3) := by decide +kernel
theorem dX8_image_4 : decode cX8_image 4 = .ok (.aload_n 0, 1) := by decide +kernel
theorem dX8_image_5 : decode cX8_image 5 = .ok (.getfield 12, 3) := by decide +kernel
theorem dX8_image_8 : decode cX8_image 8 = .ok (.invokevirtual 298, 3) := by decide +kernel
theorem dX8_image_11 : decode cX8_image 11 = .ok (.aload_n 0, 1) := by decide +kernel
theorem dX8_image_12 : decode cX8_image 12 = .ok (.getfield 26, 3) := by decide +kernel
theorem dX8_image_15 : decode cX8_image 15 = .ok (.aload_n 0, 1) := by decide +kernel
theorem dX8_image_16 : decode cX8_image 16 = .ok (.getfield 22, 3) := by decide +kernel
theorem dX8_image_19 : decode cX8_image 19 = .ok (.invokevirtual 302, 3) := by decide +kernel
theorem dX8_image_22 : decode cX8_image 22 = .ok (.aload_n 0, 1) := by decide +kernel
theorem dX8_image_23 : decode cX8_image 23 = .ok (.getfield 12, 3) := by decide +kernel
theorem dX8_image_26 : decode cX8_image 26 = .ok (.getfield 229, 3) := by decide +kernel
theorem dX8_image_29 : decode cX8_image 29 = .ok (.ireturn, 1) := by decide +kernel
theorem dX8_back_0 : decode cX8_back 0 = .ok (.aload_n 0, 1) := by decide +kernel
theorem dX8_back_1 : decode cX8_back 1 = .ok (.getfield 12, 3) := by decide +kernel
theorem dX8_back_4 : decode cX8_back 4 = .ok (.aload_n 0, 1) := by decide +kernel
theorem dX8_back_5 : decode cX8_back 5 = .ok (.getfield 16, 3) := by decide +kernel
theorem dX8_back_8 : decode cX8_back 8 = .ok (.invokevirtual 298, 3) := by decide +kernel
theorem dX8_back_11 : decode cX8_back 11 = .ok (.aload_n 0, 1) := by decide +kernel
theorem dX8_back_12 : decode cX8_back 12 = .ok (.getfield 22, 3) := by decide +kernel
theorem dX8_back_15 : decode cX8_back 15 = .ok (.aload_n 0, 1) := by decide +kernel
theorem dX8_back_16 : decode cX8_back 16 = .ok (.getfield 26, 3) := by decide +kernel
theorem dX8_back_19 : decode cX8_back 19 = .ok (.invokevirtual 302, 3) := by decide +kernel
theorem dX8_back_22 : decode cX8_back 22 = .ok (.aload_n 0, 1) := by decide +kernel
theorem dX8_back_23 : decode cX8_back 23 = .ok (.getfield 12, 3) := by decide +kernel
theorem dX8_back_26 : decode cX8_back 26 = .ok (.getfield 229, 3) := by decide +kernel
theorem dX8_back_29 : decode cX8_back 29 = .ok (.ireturn, 1) := by decide +kernel
theorem dX8_about_0 : decode cX8_about 0 = .ok (.iload_n 1, 1) := by decide +kernel
theorem dX8_about_1 : decode cX8_about 1 = .ok (.tableswitch 99 0 6 #[43, 51, 59, 67, 75, 83, 91], 43) := by decide +kernel
theorem dX8_about_44 : decode cX8_about 44 = .ok (.aload_n 0, 1) := by decide +kernel
theorem dX8_about_45 : decode cX8_about 45 = .ok (.getfield 12, 3) := by decide +kernel
theorem dX8_about_48 : decode cX8_about 48 = .ok (.getfield 159, 3) := by decide +kernel
theorem dX8_about_51 : decode cX8_about 51 = .ok (.ireturn, 1) := by decide +kernel
theorem dX8_about_52 : decode cX8_about 52 = .ok (.aload_n 0, 1) := by decide +kernel
theorem dX8_about_53 : decode cX8_about 53 = .ok (.getfield 12, 3) := by decide +kernel
theorem dX8_about_56 : decode cX8_about 56 = .ok (.getfield 305, 3) := by decide +kernel
theorem dX8_about_59 : decode cX8_about 59 = .ok (.ireturn, 1) := by decide +kernel
theorem dX8_about_60 : decode cX8_about 60 = .ok (.aload_n 0, 1) := by decide +kernel
theorem dX8_about_61 : decode cX8_about 61 = .ok (.getfield 12, 3) := by decide +kernel
theorem dX8_about_64 : decode cX8_about 64 = .ok (.getfield 82, 3) := by decide +kernel
theorem dX8_about_67 : decode cX8_about 67 = .ok (.ireturn, 1) := by decide +kernel
theorem dX8_about_68 : decode cX8_about 68 = .ok (.aload_n 0, 1) := by decide +kernel
theorem dX8_about_69 : decode cX8_about 69 = .ok (.getfield 12, 3) := by decide +kernel
theorem dX8_about_72 : decode cX8_about 72 = .ok (.getfield 172, 3) := by decide +kernel
theorem dX8_about_75 : decode cX8_about 75 = .ok (.ireturn, 1) := by decide +kernel
theorem dX8_about_76 : decode cX8_about 76 = .ok (.aload_n 0, 1) := by decide +kernel
theorem dX8_about_77 : decode cX8_about 77 = .ok (.getfield 12, 3) := by decide +kernel
theorem dX8_about_80 : decode cX8_about 80 = .ok (.getfield 192, 3) := by decide +kernel
theorem dX8_about_83 : decode cX8_about 83 = .ok (.ireturn, 1) := by decide +kernel
theorem dX8_about_84 : decode cX8_about 84 = .ok (.aload_n 0, 1) := by decide +kernel
theorem dX8_about_85 : decode cX8_about 85 = .ok (.getfield 22, 3) := by decide +kernel
theorem dX8_about_88 : decode cX8_about 88 = .ok (.getfield 220, 3) := by decide +kernel
theorem dX8_about_91 : decode cX8_about 91 = .ok (.ireturn, 1) := by decide +kernel
theorem dX8_about_92 : decode cX8_about 92 = .ok (.aload_n 0, 1) := by decide +kernel
theorem dX8_about_93 : decode cX8_about 93 = .ok (.getfield 38, 3) := by decide +kernel
theorem dX8_about_96 : decode cX8_about 96 = .ok (.getfield 170, 3) := by decide +kernel
theorem dX8_about_99 : decode cX8_about 99 = .ok (.ireturn, 1) := by decide +kernel
theorem dX8_about_100 : decode cX8_about 100 = .ok (.iload_n 1, 1) := by decide +kernel
theorem dX8_about_101 : decode cX8_about 101 = .ok (.bipush 10, 2) := by decide +kernel
theorem dX8_about_103 : decode cX8_about 103 = .ok (.if_icmp .lt 23, 3) := by decide +kernel
theorem dX8_about_106 : decode cX8_about 106 = .ok (.iload_n 1, 1) := by decide +kernel
theorem dX8_about_107 : decode cX8_about 107 = .ok (.bipush 13, 2) := by decide +kernel
theorem dX8_about_109 : decode cX8_about 109 = .ok (.if_icmp .gt 17, 3) := by decide +kernel
theorem dX8_about_112 : decode cX8_about 112 = .ok (.aload_n 0, 1) := by decide +kernel
theorem dX8_about_113 : decode cX8_about 113 = .ok (.getfield 12, 3) := by decide +kernel
theorem dX8_about_116 : decode cX8_about 116 = .ok (.iload_n 1, 1) := by decide +kernel
theorem dX8_about_117 : decode cX8_about 117 = .ok (.bipush 10, 2) := by decide +kernel
theorem dX8_about_119 : decode cX8_about 119 = .ok (.isub, 1) := by decide +kernel
theorem dX8_about_120 : decode cX8_about 120 = .ok (.invokevirtual 308, 3) := by decide +kernel
theorem dX8_about_123 : decode cX8_about 123 = .ok (.goto 5, 3) := by decide +kernel
theorem dX8_about_126 : decode cX8_about 126 = .ok (.bipush (-2), 2) := by decide +kernel
theorem dX8_about_128 : decode cX8_about 128 = .ok (.ireturn, 1) := by decide +kernel
