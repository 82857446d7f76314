theorem dX6_init_0 : decode cX6_init 0 = .ok (.aload_n 0, 1) := by decide +kernel
theorem dX6_init_1 : decode cX6_init 1 = .ok (.invokespecial 3, 3) := by decide +kernel
theorem dX6_init_4 : decode cX6_init 4 = .ok (.aload_n 0, 1) := by decide +kernel
theorem dX6_init_5 : decode cX6_init 5 = .ok (.bipush 12, 2) := by decide +kernel
theorem dX6_init_7 : decode cX6_init 7 = .ok (.newarray .int, 2) := by decide +kernel
theorem dX6_init_9 : decode cX6_init 9 = .ok (.putfield 9, 3) := by decide +kernel
theorem dX6_init_12 : decode cX6_init 12 = .ok (.aload_n 0, 1) := by decide +kernel
theorem dX6_init_13 : decode cX6_init 13 = .ok (.bipush 12, 2) := by decide +kernel
theorem dX6_init_15 : decode cX6_init 15 = .ok (.newarray .int, 2) := by decide +kernel
theorem dX6_init_17 : decode cX6_init 17 = .ok (.putfield 15, 3) := by decide +kernel
theorem dX6_init_20 : decode cX6_init 20 = .ok (.aload_n 0, 1) := by decide +kernel
theorem dX6_init_21 : decode cX6_init 21 = .ok (.iconst (-1), 1) := by decide +kernel
theorem dX6_init_22 : decode cX6_init 22 = .ok (.putfield 18, 3) := by decide +kernel
theorem dX6_init_25 : decode cX6_init 25 = .ok (.aload_n 0, 1) := by decide +kernel
theorem dX6_init_26 : decode cX6_init 26 = .ok (.iconst 0, 1) := by decide +kernel
theorem dX6_init_27 : decode cX6_init 27 = .ok (.putfield 22, 3) := by decide +kernel
theorem dX6_init_30 : decode cX6_init 30 = .ok (.aload_n 0, 1) := by decide +kernel
theorem dX6_init_31 : decode cX6_init 31 = .ok (.iconst 0, 1) := by decide +kernel
theorem dX6_init_32 : decode cX6_init 32 = .ok (.putfield 25, 3) := by decide +kernel
theorem dX6_init_35 : decode cX6_init 35 = .ok (.aload_n 0, 1) := by decide +kernel
theorem dX6_init_36 : decode cX6_init 36 = .ok (.lconst 0, 1) := by decide +kernel
theorem dX6_init_37 : decode cX6_init 37 = .ok (.putfield 28, 3) := by decide +kernel
theorem dX6_init_40 : decode cX6_init 40 = .ok (.aload_n 0, 1) := by decide +kernel
theorem dX6_init_41 : decode cX6_init 41 = .ok (.lconst 1, 1) := by decide +kernel
theorem dX6_init_42 : decode cX6_init 42 = .ok (.putfield 32, 3) := by decide +kernel
theorem dX6_init_45 : decode cX6_init 45 = .ok (.aload_n 0, 1) := by decide +kernel
theorem dX6_init_46 : decode cX6_init 46 = .ok (.aload_n 1, 1) := by decide +kernel
theorem dX6_init_47 : decode cX6_init 47 = .ok (.putfield 35, 3) := by decide +kernel
theorem dX6_init_50 : decode cX6_init 50 = .ok (.aload_n 0, 1) := by decide +kernel
theorem dX6_init_51 : decode cX6_init 51 = .ok (.aload_n 2, 1) := by decide +kernel
theorem dX6_init_52 : decode cX6_init 52 = .ok (.putfield 39, 3) := by decide +kernel
theorem dX6_init_55 : decode cX6_init 55 = .ok (.return_, 1) := by decide +kernel
theorem dX6_plan_0 : decode cX6_plan 0 = .ok (.aload_n 0, 1) := by decide +kernel
theorem dX6_plan_1 : decode cX6_plan 1 = .ok (.iconst 0, 1) := by decide +kernel
theorem dX6_plan_2 : decode cX6_plan 2 = .ok (.putfield 22, 3) := by decide +kernel
theorem dX6_plan_5 : decode cX6_plan 5 = .ok (.aload_n 0, 1) := by decide +kernel
theorem dX6_plan_6 : decode cX6_plan 6 = .ok (.iconst 0, 1) := by decide +kernel
theorem dX6_plan_7 : decode cX6_plan 7 = .ok (.putfield 25, 3) := by decide +kernel
theorem dX6_plan_10 : decode cX6_plan 10 = .ok (.aload_n 0, 1) := by decide +kernel
theorem dX6_plan_11 : decode cX6_plan 11 = .ok (.getfield 35, 3) := by decide +kernel
theorem dX6_plan_14 : decode cX6_plan 14 = .ok (.iload_n 1, 1) := by decide +kernel
theorem dX6_plan_15 : decode cX6_plan 15 = .ok (.invokevirtual 43, 3) := by decide +kernel
theorem dX6_plan_18 : decode cX6_plan 18 = .ok (.ifCond .eq 16, 3) := by decide +kernel
theorem dX6_plan_21 : decode cX6_plan 21 = .ok (.aload_n 0, 1) := by decide +kernel
theorem dX6_plan_22 : decode cX6_plan 22 = .ok (.getfield 35, 3) := by decide +kernel
theorem dX6_plan_25 : decode cX6_plan 25 = .ok (.getfield 49, 3) := by decide +kernel
theorem dX6_plan_28 : decode cX6_plan 28 = .ok (.iload_n 1, 1) := by decide +kernel
theorem dX6_plan_29 : decode cX6_plan 29 = .ok (.iaload, 1) := by decide +kernel
theorem dX6_plan_30 : decode cX6_plan 30 = .ok (.iconst 3, 1) := by decide +kernel
theorem dX6_plan_31 : decode cX6_plan 31 = .ok (.if_icmp .ne 5, 3) := by decide +kernel
theorem dX6_plan_34 : decode cX6_plan 34 = .ok (.iconst 0, 1) := by decide +kernel
theorem dX6_plan_35 : decode cX6_plan 35 = .ok (.ireturn, 1) := by decide +kernel
theorem dX6_plan_36 : decode cX6_plan 36 = .ok (.aload_n 0, 1) := by decide +kernel
theorem dX6_plan_37 : decode cX6_plan 37 = .ok (.iload_n 1, 1) := by decide +kernel
theorem dX6_plan_38 : decode cX6_plan 38 = .ok (.putfield 18, 3) := by decide +kernel
theorem dX6_plan_41 : decode cX6_plan 41 = .ok (.aload_n 0, 1) := by decide +kernel
theorem dX6_plan_42 : decode cX6_plan 42 = .ok (.getfield 35, 3) := by decide +kernel
theorem dX6_plan_45 : decode cX6_plan 45 = .ok (.getfield 49, 3) := by decide +kernel
theorem dX6_plan_48 : decode cX6_plan 48 = .ok (.aload_n 0, 1) := by decide +kernel
theorem dX6_plan_49 : decode cX6_plan 49 = .ok (.getfield 18, 3) := by decide +kernel
theorem dX6_plan_52 : decode cX6_plan 52 = .ok (.iaload, 1) := by decide +kernel
theorem dX6_plan_53 : decode cX6_plan 53 = .ok (.ifCond .ne 18, 3) := by decide +kernel
theorem dX6_plan_56 : decode cX6_plan 56 = .ok (.aload_n 0, 1) := by decide +kernel
theorem dX6_plan_57 : decode cX6_plan 57 = .ok (.getfield 35, 3) := by decide +kernel
theorem dX6_plan_60 : decode cX6_plan 60 = .ok (.aload_n 0, 1) := by decide +kernel
theorem dX6_plan_61 : decode cX6_plan 61 = .ok (.getfield 18, 3) := by decide +kernel
theorem dX6_plan_64 : decode cX6_plan 64 = .ok (.iconst 0, 1) := by decide +kernel
theorem dX6_plan_65 : decode cX6_plan 65 = .ok (.invokevirtual 52, 3) := by decide +kernel
theorem dX6_plan_68 : decode cX6_plan 68 = .ok (.goto 15, 3) := by decide +kernel
theorem dX6_plan_71 : decode cX6_plan 71 = .ok (.aload_n 0, 1) := by decide +kernel
theorem dX6_plan_72 : decode cX6_plan 72 = .ok (.getfield 35, 3) := by decide +kernel
theorem dX6_plan_75 : decode cX6_plan 75 = .ok (.getfield 56, 3) := by decide +kernel
theorem dX6_plan_78 : decode cX6_plan 78 = .ok (.aload_n 0, 1) := by decide +kernel
theorem dX6_plan_79 : decode cX6_plan 79 = .ok (.getfield 18, 3) := by decide +kernel
theorem dX6_plan_82 : decode cX6_plan 82 = .ok (.iaload, 1) := by decide +kernel
theorem dX6_plan_83 : decode cX6_plan 83 = .ok (.istore_n 2, 1) := by decide +kernel
theorem dX6_plan_84 : decode cX6_plan 84 = .ok (.aload_n 0, 1) := by decide +kernel
theorem dX6_plan_85 : decode cX6_plan 85 = .ok (.getfield 35, 3) := by decide +kernel
theorem dX6_plan_88 : decode cX6_plan 88 = .ok (.iload_n 2, 1) := by decide +kernel
theorem dX6_plan_89 : decode cX6_plan 89 = .ok (.invokevirtual 59, 3) := by decide +kernel
theorem dX6_plan_92 : decode cX6_plan 92 = .ok (.ifCond .ne 5, 3) := by decide +kernel
theorem dX6_plan_95 : decode cX6_plan 95 = .ok (.iconst 0, 1) := by decide +kernel
theorem dX6_plan_96 : decode cX6_plan 96 = .ok (.ireturn, 1) := by decide +kernel
theorem dX6_plan_97 : decode cX6_plan 97 = .ok (.aload_n 0, 1) := by decide +kernel
theorem dX6_plan_98 : decode cX6_plan 98 = .ok (.aload_n 0, 1) := by decide +kernel
theorem dX6_plan_99 : decode cX6_plan 99 = .ok (.getfield 35, 3) := by decide +kernel
theorem dX6_plan_102 : decode cX6_plan 102 = .ok (.getfield 62, 3) := by decide +kernel
theorem dX6_plan_105 : decode cX6_plan 105 = .ok (.aload_n 0, 1) := by decide +kernel
theorem dX6_plan_106 : decode cX6_plan 106 = .ok (.getfield 18, 3) := by decide +kernel
theorem dX6_plan_109 : decode cX6_plan 109 = .ok (.iaload, 1) := by decide +kernel
theorem dX6_plan_110 : decode cX6_plan 110 = .ok (.putfield 22, 3) := by decide +kernel
theorem dX6_plan_113 : decode cX6_plan 113 = .ok (.aload_n 0, 1) := by decide +kernel
theorem dX6_plan_114 : decode cX6_plan 114 = .ok (.aload_n 0, 1) := by decide +kernel
theorem dX6_plan_115 : decode cX6_plan 115 = .ok (.getfield 35, 3) := by decide +kernel
theorem dX6_plan_118 : decode cX6_plan 118 = .ok (.getfield 65, 3) := by decide +kernel
theorem dX6_plan_121 : decode cX6_plan 121 = .ok (.aload_n 0, 1) := by decide +kernel
theorem dX6_plan_122 : decode cX6_plan 122 = .ok (.getfield 18, 3) := by decide +kernel
theorem dX6_plan_125 : decode cX6_plan 125 = .ok (.iaload, 1) := by decide +kernel
theorem dX6_plan_126 : decode cX6_plan 126 = .ok (.putfield 25, 3) := by decide +kernel
theorem dX6_plan_129 : decode cX6_plan 129 = .ok (.aload_n 0, 1) := by decide +kernel
theorem dX6_plan_130 : decode cX6_plan 130 = .ok (.getfield 22, 3) := by decide +kernel
theorem dX6_plan_133 : decode cX6_plan 133 = .ok (.istore_n 3, 1) := by decide +kernel
theorem dX6_plan_134 : decode cX6_plan 134 = .ok (.iload_n 3, 1) := by decide +kernel
theorem dX6_plan_135 : decode cX6_plan 135 = .ok (.ifCond .lt 116, 3) := by decide +kernel
theorem dX6_plan_138 : decode cX6_plan 138 = .ok (.iload_n 3, 1) := by decide +kernel
theorem dX6_plan_139 : decode cX6_plan 139 = .ok (.aload_n 0, 1) := by decide +kernel
theorem dX6_plan_140 : decode cX6_plan 140 = .ok (.getfield 25, 3) := by decide +kernel
theorem dX6_plan_143 : decode cX6_plan 143 = .ok (.if_icmp .ge 108, 3) := by decide +kernel
theorem dX6_plan_146 : decode cX6_plan 146 = .ok (.iload_n 3, 1) := by decide +kernel
theorem dX6_plan_147 : decode cX6_plan 147 = .ok (.bipush 12, 2) := by decide +kernel
theorem dX6_plan_149 : decode cX6_plan 149 = .ok (.if_icmp .ge 102, 3) := by decide +kernel
theorem dX6_plan_152 : decode cX6_plan 152 = .ok (.iload_n 3, 1) := by decide +kernel
theorem dX6_plan_153 : decode cX6_plan 153 = .ok (.aload_n 0, 1) := by decide +kernel
theorem dX6_plan_154 : decode cX6_plan 154 = .ok (.getfield 22, 3) := by decide +kernel
theorem dX6_plan_157 : decode cX6_plan 157 = .ok (.if_icmp .ne 7, 3) := by decide +kernel
theorem dX6_plan_160 : decode cX6_plan 160 = .ok (.iconst (-1), 1) := by decide +kernel
theorem dX6_plan_161 : decode cX6_plan 161 = .ok (.goto 15, 3) := by decide +kernel
theorem dX6_plan_164 : decode cX6_plan 164 = .ok (.aload_n 0, 1) := by decide +kernel
theorem dX6_plan_165 : decode cX6_plan 165 = .ok (.getfield 35, 3) := by decide +kernel
theorem dX6_plan_168 : decode cX6_plan 168 = .ok (.aload_n 0, 1) := by decide +kernel
theorem dX6_plan_169 : decode cX6_plan 169 = .ok (.getfield 18, 3) := by decide +kernel
theorem dX6_plan_172 : decode cX6_plan 172 = .ok (.iload_n 3, 1) := by decide +kernel
theorem dX6_plan_173 : decode cX6_plan 173 = .ok (.invokevirtual 52, 3) := by decide +kernel
theorem dX6_plan_176 : decode cX6_plan 176 = .ok (.istore 4, 2) := by decide +kernel
theorem dX6_plan_178 : decode cX6_plan 178 = .ok (.iload 4, 2) := by decide +kernel
theorem dX6_plan_180 : decode cX6_plan 180 = .ok (.iconst (-1), 1) := by decide +kernel
theorem dX6_plan_181 : decode cX6_plan 181 = .ok (.if_icmp .eq 13, 3) := by decide +kernel
theorem dX6_plan_184 : decode cX6_plan 184 = .ok (.iload 4, 2) := by decide +kernel
theorem dX6_plan_186 : decode cX6_plan 186 = .ok (.iload_n 2, 1) := by decide +kernel
theorem dX6_plan_187 : decode cX6_plan 187 = .ok (.if_icmp .eq 7, 3) := by decide +kernel
theorem dX6_plan_190 : decode cX6_plan 190 = .ok (.iconst 1, 1) := by decide +kernel
theorem dX6_plan_191 : decode cX6_plan 191 = .ok (.goto 4, 3) := by decide +kernel
theorem dX6_plan_194 : decode cX6_plan 194 = .ok (.iconst 0, 1) := by decide +kernel
theorem dX6_plan_195 : decode cX6_plan 195 = .ok (.istore 5, 2) := by decide +kernel
theorem dX6_plan_197 : decode cX6_plan 197 = .ok (.iload 5, 2) := by decide +kernel
theorem dX6_plan_199 : decode cX6_plan 199 = .ok (.ifCond .eq 8, 3) := by decide +kernel
theorem dX6_plan_202 : decode cX6_plan 202 = .ok (.iload 4, 2) := by decide +kernel
theorem dX6_plan_204 : decode cX6_plan 204 = .ok (.goto 4, 3) := by decide +kernel
theorem dX6_plan_207 : decode cX6_plan 207 = .ok (.iload_n 2, 1) := by decide +kernel
theorem dX6_plan_208 : decode cX6_plan 208 = .ok (.istore_n 2, 1) := by decide +kernel
theorem dX6_plan_209 : decode cX6_plan 209 = .ok (.aload_n 0, 1) := by decide +kernel
theorem dX6_plan_210 : decode cX6_plan 210 = .ok (.getfield 9, 3) := by decide +kernel
theorem dX6_plan_213 : decode cX6_plan 213 = .ok (.iload_n 3, 1) := by decide +kernel
theorem dX6_plan_214 : decode cX6_plan 214 = .ok (.iload_n 2, 1) := by decide +kernel
theorem dX6_plan_215 : decode cX6_plan 215 = .ok (.iastore, 1) := by decide +kernel
theorem dX6_plan_216 : decode cX6_plan 216 = .ok (.aload_n 0, 1) := by decide +kernel
theorem dX6_plan_217 : decode cX6_plan 217 = .ok (.getfield 15, 3) := by decide +kernel
theorem dX6_plan_220 : decode cX6_plan 220 = .ok (.iload_n 3, 1) := by decide +kernel
theorem dX6_plan_221 : decode cX6_plan 221 = .ok (.iload 5, 2) := by decide +kernel
theorem dX6_plan_223 : decode cX6_plan 223 = .ok (.ifCond .eq 20, 3) := by decide +kernel
theorem dX6_plan_226 : decode cX6_plan 226 = .ok (.aload_n 0, 1) := by decide +kernel
theorem dX6_plan_227 : decode cX6_plan 227 = .ok (.getfield 39, 3) := by decide +kernel
theorem dX6_plan_230 : decode cX6_plan 230 = .ok (.iconst 3, 1) := by decide +kernel
theorem dX6_plan_231 : decode cX6_plan 231 = .ok (.iload_n 2, 1) := by decide +kernel
theorem dX6_plan_232 : decode cX6_plan 232 = .ok (.aload_n 0, 1) := by decide +kernel
theorem dX6_plan_233 : decode cX6_plan 233 = .ok (.getfield 18, 3) := by decide +kernel
theorem dX6_plan_236 : decode cX6_plan 236 = .ok (.iload_n 3, 1) := by decide +kernel
theorem dX6_plan_237 : decode cX6_plan 237 = .ok (.invokevirtual 68, 3) := by decide +kernel
theorem dX6_plan_240 : decode cX6_plan 240 = .ok (.goto 4, 3) := by decide +kernel
theorem dX6_plan_243 : decode cX6_plan 243 = .ok (.iconst (-1), 1) := by decide +kernel
theorem dX6_plan_244 : decode cX6_plan 244 = .ok (.iastore, 1) := by decide +kernel
theorem dX6_plan_245 : decode cX6_plan 245 = .ok (.iinc 3 1, 3) := by decide +kernel
theorem dX6_plan_248 : decode cX6_plan 248 = .ok (.goto (-114), 3) := by decide +kernel
theorem dX6_plan_251 : decode cX6_plan 251 = .ok (.iconst 1, 1) := by decide +kernel
theorem dX6_plan_252 : decode cX6_plan 252 = .ok (.ireturn, 1) := by decide +kernel
theorem dX6_houseAt_0 : decode cX6_houseAt 0 = .ok (.iload_n 1, 1) := by decide +kernel
theorem dX6_houseAt_1 : decode cX6_houseAt 1 = .ok (.istore_n 2, 1) := by decide +kernel
theorem dX6_houseAt_2 : decode cX6_houseAt 2 = .ok (.aload_n 0, 1) := by decide +kernel
theorem dX6_houseAt_3 : decode cX6_houseAt 3 = .ok (.getfield 22, 3) := by decide +kernel
theorem dX6_houseAt_6 : decode cX6_houseAt 6 = .ok (.istore_n 3, 1) := by decide +kernel
theorem dX6_houseAt_7 : decode cX6_houseAt 7 = .ok (.iload_n 3, 1) := by decide +kernel
theorem dX6_houseAt_8 : decode cX6_houseAt 8 = .ok (.ifCond .lt 56, 3) := by decide +kernel
theorem dX6_houseAt_11 : decode cX6_houseAt 11 = .ok (.iload_n 3, 1) := by decide +kernel
theorem dX6_houseAt_12 : decode cX6_houseAt 12 = .ok (.aload_n 0, 1) := by decide +kernel
theorem dX6_houseAt_13 : decode cX6_houseAt 13 = .ok (.getfield 25, 3) := by decide +kernel
theorem dX6_houseAt_16 : decode cX6_houseAt 16 = .ok (.if_icmp .ge 48, 3) := by decide +kernel
theorem dX6_houseAt_19 : decode cX6_houseAt 19 = .ok (.iload_n 3, 1) := by decide +kernel
theorem dX6_houseAt_20 : decode cX6_houseAt 20 = .ok (.bipush 12, 2) := by decide +kernel
theorem dX6_houseAt_22 : decode cX6_houseAt 22 = .ok (.if_icmp .ge 42, 3) := by decide +kernel
theorem dX6_houseAt_25 : decode cX6_houseAt 25 = .ok (.iload_n 2, 1) := by decide +kernel
theorem dX6_houseAt_26 : decode cX6_houseAt 26 = .ok (.aload_n 0, 1) := by decide +kernel
theorem dX6_houseAt_27 : decode cX6_houseAt 27 = .ok (.getfield 39, 3) := by decide +kernel
theorem dX6_houseAt_30 : decode cX6_houseAt 30 = .ok (.iconst 1, 1) := by decide +kernel
theorem dX6_houseAt_31 : decode cX6_houseAt 31 = .ok (.aload_n 0, 1) := by decide +kernel
theorem dX6_houseAt_32 : decode cX6_houseAt 32 = .ok (.getfield 9, 3) := by decide +kernel
theorem dX6_houseAt_35 : decode cX6_houseAt 35 = .ok (.iload_n 3, 1) := by decide +kernel
theorem dX6_houseAt_36 : decode cX6_houseAt 36 = .ok (.iaload, 1) := by decide +kernel
theorem dX6_houseAt_37 : decode cX6_houseAt 37 = .ok (.aload_n 0, 1) := by decide +kernel
theorem dX6_houseAt_38 : decode cX6_houseAt 38 = .ok (.getfield 18, 3) := by decide +kernel
theorem dX6_houseAt_41 : decode cX6_houseAt 41 = .ok (.iload_n 3, 1) := by decide +kernel
theorem dX6_houseAt_42 : decode cX6_houseAt 42 = .ok (.invokevirtual 68, 3) := by decide +kernel
theorem dX6_houseAt_45 : decode cX6_houseAt 45 = .ok (.isub, 1) := by decide +kernel
theorem dX6_houseAt_46 : decode cX6_houseAt 46 = .ok (.istore_n 2, 1) := by decide +kernel
theorem dX6_houseAt_47 : decode cX6_houseAt 47 = .ok (.iload_n 2, 1) := by decide +kernel
theorem dX6_houseAt_48 : decode cX6_houseAt 48 = .ok (.ifCond .ge 10, 3) := by decide +kernel
theorem dX6_houseAt_51 : decode cX6_houseAt 51 = .ok (.aload_n 0, 1) := by decide +kernel
theorem dX6_houseAt_52 : decode cX6_houseAt 52 = .ok (.getfield 9, 3) := by decide +kernel
theorem dX6_houseAt_55 : decode cX6_houseAt 55 = .ok (.iload_n 3, 1) := by decide +kernel
theorem dX6_houseAt_56 : decode cX6_houseAt 56 = .ok (.iaload, 1) := by decide +kernel
theorem dX6_houseAt_57 : decode cX6_houseAt 57 = .ok (.ireturn, 1) := by decide +kernel
theorem dX6_houseAt_58 : decode cX6_houseAt 58 = .ok (.iinc 3 1, 3) := by decide +kernel
theorem dX6_houseAt_61 : decode cX6_houseAt 61 = .ok (.goto (-54), 3) := by decide +kernel
theorem dX6_houseAt_64 : decode cX6_houseAt 64 = .ok (.iconst (-1), 1) := by decide +kernel
theorem dX6_houseAt_65 : decode cX6_houseAt 65 = .ok (.ireturn, 1) := by decide +kernel
theorem dX6_reckonOdds_0 : decode cX6_reckonOdds 0 = .ok (.aload_n 0, 1) := by decide +kernel
theorem dX6_reckonOdds_1 : decode cX6_reckonOdds 1 = .ok (.lconst 1, 1) := by decide +kernel
theorem dX6_reckonOdds_2 : decode cX6_reckonOdds 2 = .ok (.putfield 28, 3) := by decide +kernel
theorem dX6_reckonOdds_5 : decode cX6_reckonOdds 5 = .ok (.aload_n 0, 1) := by decide +kernel
theorem dX6_reckonOdds_6 : decode cX6_reckonOdds 6 = .ok (.lconst 1, 1) := by decide +kernel
theorem dX6_reckonOdds_7 : decode cX6_reckonOdds 7 = .ok (.putfield 32, 3) := by decide +kernel
theorem dX6_reckonOdds_10 : decode cX6_reckonOdds 10 = .ok (.aload_n 0, 1) := by decide +kernel
theorem dX6_reckonOdds_11 : decode cX6_reckonOdds 11 = .ok (.getfield 22, 3) := by decide +kernel
theorem dX6_reckonOdds_14 : decode cX6_reckonOdds 14 = .ok (.istore_n 2, 1) := by decide +kernel
theorem dX6_reckonOdds_15 : decode cX6_reckonOdds 15 = .ok (.iload_n 2, 1) := by decide +kernel
theorem dX6_reckonOdds_16 : decode cX6_reckonOdds 16 = .ok (.ifCond .lt 61, 3) := by decide +kernel
theorem dX6_reckonOdds_19 : decode cX6_reckonOdds 19 = .ok (.iload_n 2, 1) := by decide +kernel
theorem dX6_reckonOdds_20 : decode cX6_reckonOdds 20 = .ok (.iload_n 1, 1) := by decide +kernel
theorem dX6_reckonOdds_21 : decode cX6_reckonOdds 21 = .ok (.if_icmp .gt 56, 3) := by decide +kernel
theorem dX6_reckonOdds_24 : decode cX6_reckonOdds 24 = .ok (.iload_n 2, 1) := by decide +kernel
theorem dX6_reckonOdds_25 : decode cX6_reckonOdds 25 = .ok (.bipush 12, 2) := by decide +kernel
theorem dX6_reckonOdds_27 : decode cX6_reckonOdds 27 = .ok (.if_icmp .ge 50, 3) := by decide +kernel
theorem dX6_reckonOdds_30 : decode cX6_reckonOdds 30 = .ok (.aload_n 0, 1) := by decide +kernel
theorem dX6_reckonOdds_31 : decode cX6_reckonOdds 31 = .ok (.getfield 15, 3) := by decide +kernel
theorem dX6_reckonOdds_34 : decode cX6_reckonOdds 34 = .ok (.iload_n 2, 1) := by decide +kernel
theorem dX6_reckonOdds_35 : decode cX6_reckonOdds 35 = .ok (.iaload, 1) := by decide +kernel
theorem dX6_reckonOdds_36 : decode cX6_reckonOdds 36 = .ok (.iconst (-1), 1) := by decide +kernel
theorem dX6_reckonOdds_37 : decode cX6_reckonOdds 37 = .ok (.if_icmp .eq 34, 3) := by decide +kernel
theorem dX6_reckonOdds_40 : decode cX6_reckonOdds 40 = .ok (.aload_n 0, 1) := by decide +kernel
theorem dX6_reckonOdds_41 : decode cX6_reckonOdds 41 = .ok (.dup, 1) := by decide +kernel
theorem dX6_reckonOdds_42 : decode cX6_reckonOdds 42 = .ok (.getfield 28, 3) := by decide +kernel
theorem dX6_reckonOdds_45 : decode cX6_reckonOdds 45 = .ok (.bipush 10, 2) := by decide +kernel
theorem dX6_reckonOdds_47 : decode cX6_reckonOdds 47 = .ok (.aload_n 0, 1) := by decide +kernel
theorem dX6_reckonOdds_48 : decode cX6_reckonOdds 48 = .ok (.getfield 15, 3) := by decide +kernel
theorem dX6_reckonOdds_51 : decode cX6_reckonOdds 51 = .ok (.iload_n 2, 1) := by decide +kernel
theorem dX6_reckonOdds_52 : decode cX6_reckonOdds 52 = .ok (.iaload, 1) := by decide +kernel
theorem dX6_reckonOdds_53 : decode cX6_reckonOdds 53 = .ok (.isub, 1) := by decide +kernel
theorem dX6_reckonOdds_54 : decode cX6_reckonOdds 54 = .ok (.i2l, 1) := by decide +kernel
theorem dX6_reckonOdds_55 : decode cX6_reckonOdds 55 = .ok (.lmul, 1) := by decide +kernel
theorem dX6_reckonOdds_56 : decode cX6_reckonOdds 56 = .ok (.putfield 28, 3) := by decide +kernel
theorem dX6_reckonOdds_59 : decode cX6_reckonOdds 59 = .ok (.aload_n 0, 1) := by decide +kernel
theorem dX6_reckonOdds_60 : decode cX6_reckonOdds 60 = .ok (.dup, 1) := by decide +kernel
theorem dX6_reckonOdds_61 : decode cX6_reckonOdds 61 = .ok (.getfield 32, 3) := by decide +kernel
theorem dX6_reckonOdds_64 : decode cX6_reckonOdds 64 = .ok (.ldc2_w 74, 3) := by decide +kernel
theorem dX6_reckonOdds_67 : decode cX6_reckonOdds 67 = .ok (.lmul, 1) := by decide +kernel
theorem dX6_reckonOdds_68 : decode cX6_reckonOdds 68 = .ok (.putfield 32, 3) := by decide +kernel
theorem dX6_reckonOdds_71 : decode cX6_reckonOdds 71 = .ok (.iinc 2 1, 3) := by decide +kernel
theorem dX6_reckonOdds_74 : decode cX6_reckonOdds 74 = .ok (.goto (-59), 3) := by decide +kernel
theorem dX6_reckonOdds_77 : decode cX6_reckonOdds 77 = .ok (.aload_n 0, 1) := by decide +kernel
theorem dX6_reckonOdds_78 : decode cX6_reckonOdds 78 = .ok (.invokevirtual 76, 3) := by decide +kernel
theorem dX6_reckonOdds_81 : decode cX6_reckonOdds 81 = .ok (.return_, 1) := by decide +kernel
theorem dX6_reckonBlame_0 : decode cX6_reckonBlame 0 = .ok (.lconst 1, 1) := by decide +kernel
theorem dX6_reckonBlame_1 : decode cX6_reckonBlame 1 = .ok (.lstore_n 2, 1) := by decide +kernel
theorem dX6_reckonBlame_2 : decode cX6_reckonBlame 2 = .ok (.aload_n 0, 1) := by decide +kernel
theorem dX6_reckonBlame_3 : decode cX6_reckonBlame 3 = .ok (.lconst 0, 1) := by decide +kernel
theorem dX6_reckonBlame_4 : decode cX6_reckonBlame 4 = .ok (.putfield 28, 3) := by decide +kernel
theorem dX6_reckonBlame_7 : decode cX6_reckonBlame 7 = .ok (.aload_n 0, 1) := by decide +kernel
theorem dX6_reckonBlame_8 : decode cX6_reckonBlame 8 = .ok (.lconst 0, 1) := by decide +kernel
theorem dX6_reckonBlame_9 : decode cX6_reckonBlame 9 = .ok (.putfield 32, 3) := by decide +kernel
theorem dX6_reckonBlame_12 : decode cX6_reckonBlame 12 = .ok (.aload_n 0, 1) := by decide +kernel
theorem dX6_reckonBlame_13 : decode cX6_reckonBlame 13 = .ok (.getfield 22, 3) := by decide +kernel
theorem dX6_reckonBlame_16 : decode cX6_reckonBlame 16 = .ok (.istore 4, 2) := by decide +kernel
theorem dX6_reckonBlame_18 : decode cX6_reckonBlame 18 = .ok (.iload 4, 2) := by decide +kernel
theorem dX6_reckonBlame_20 : decode cX6_reckonBlame 20 = .ok (.ifCond .lt 107, 3) := by decide +kernel
theorem dX6_reckonBlame_23 : decode cX6_reckonBlame 23 = .ok (.iload 4, 2) := by decide +kernel
theorem dX6_reckonBlame_25 : decode cX6_reckonBlame 25 = .ok (.aload_n 0, 1) := by decide +kernel
theorem dX6_reckonBlame_26 : decode cX6_reckonBlame 26 = .ok (.getfield 25, 3) := by decide +kernel
theorem dX6_reckonBlame_29 : decode cX6_reckonBlame 29 = .ok (.if_icmp .ge 98, 3) := by decide +kernel
theorem dX6_reckonBlame_32 : decode cX6_reckonBlame 32 = .ok (.iload 4, 2) := by decide +kernel
theorem dX6_reckonBlame_34 : decode cX6_reckonBlame 34 = .ok (.bipush 12, 2) := by decide +kernel
theorem dX6_reckonBlame_36 : decode cX6_reckonBlame 36 = .ok (.if_icmp .ge 91, 3) := by decide +kernel
theorem dX6_reckonBlame_39 : decode cX6_reckonBlame 39 = .ok (.aload_n 0, 1) := by decide +kernel
theorem dX6_reckonBlame_40 : decode cX6_reckonBlame 40 = .ok (.getfield 15, 3) := by decide +kernel
theorem dX6_reckonBlame_43 : decode cX6_reckonBlame 43 = .ok (.iload 4, 2) := by decide +kernel
theorem dX6_reckonBlame_45 : decode cX6_reckonBlame 45 = .ok (.iaload, 1) := by decide +kernel
theorem dX6_reckonBlame_46 : decode cX6_reckonBlame 46 = .ok (.iconst (-1), 1) := by decide +kernel
theorem dX6_reckonBlame_47 : decode cX6_reckonBlame 47 = .ok (.if_icmp .eq 74, 3) := by decide +kernel
theorem dX6_reckonBlame_50 : decode cX6_reckonBlame 50 = .ok (.lload_n 2, 1) := by decide +kernel
theorem dX6_reckonBlame_51 : decode cX6_reckonBlame 51 = .ok (.aload_n 0, 1) := by decide +kernel
theorem dX6_reckonBlame_52 : decode cX6_reckonBlame 52 = .ok (.getfield 15, 3) := by decide +kernel
theorem dX6_reckonBlame_55 : decode cX6_reckonBlame 55 = .ok (.iload 4, 2) := by decide +kernel
theorem dX6_reckonBlame_57 : decode cX6_reckonBlame 57 = .ok (.iaload, 1) := by decide +kernel
theorem dX6_reckonBlame_58 : decode cX6_reckonBlame 58 = .ok (.i2l, 1) := by decide +kernel
theorem dX6_reckonBlame_59 : decode cX6_reckonBlame 59 = .ok (.lmul, 1) := by decide +kernel
theorem dX6_reckonBlame_60 : decode cX6_reckonBlame 60 = .ok (.lstore 5, 2) := by decide +kernel
theorem dX6_reckonBlame_62 : decode cX6_reckonBlame 62 = .ok (.aload_n 0, 1) := by decide +kernel
theorem dX6_reckonBlame_63 : decode cX6_reckonBlame 63 = .ok (.aload_n 0, 1) := by decide +kernel
theorem dX6_reckonBlame_64 : decode cX6_reckonBlame 64 = .ok (.getfield 28, 3) := by decide +kernel
theorem dX6_reckonBlame_67 : decode cX6_reckonBlame 67 = .ok (.ldc2_w 74, 3) := by decide +kernel
theorem dX6_reckonBlame_70 : decode cX6_reckonBlame 70 = .ok (.lmul, 1) := by decide +kernel
theorem dX6_reckonBlame_71 : decode cX6_reckonBlame 71 = .ok (.aload_n 0, 1) := by decide +kernel
theorem dX6_reckonBlame_72 : decode cX6_reckonBlame 72 = .ok (.getfield 9, 3) := by decide +kernel
theorem dX6_reckonBlame_75 : decode cX6_reckonBlame 75 = .ok (.iload 4, 2) := by decide +kernel
theorem dX6_reckonBlame_77 : decode cX6_reckonBlame 77 = .ok (.iaload, 1) := by decide +kernel
theorem dX6_reckonBlame_78 : decode cX6_reckonBlame 78 = .ok (.iload_n 1, 1) := by decide +kernel
theorem dX6_reckonBlame_79 : decode cX6_reckonBlame 79 = .ok (.if_icmp .ne 8, 3) := by decide +kernel
theorem dX6_reckonBlame_82 : decode cX6_reckonBlame 82 = .ok (.lload 5, 2) := by decide +kernel
theorem dX6_reckonBlame_84 : decode cX6_reckonBlame 84 = .ok (.goto 4, 3) := by decide +kernel
theorem dX6_reckonBlame_87 : decode cX6_reckonBlame 87 = .ok (.lconst 0, 1) := by decide +kernel
theorem dX6_reckonBlame_88 : decode cX6_reckonBlame 88 = .ok (.ladd, 1) := by decide +kernel
theorem dX6_reckonBlame_89 : decode cX6_reckonBlame 89 = .ok (.putfield 28, 3) := by decide +kernel
theorem dX6_reckonBlame_92 : decode cX6_reckonBlame 92 = .ok (.aload_n 0, 1) := by decide +kernel
theorem dX6_reckonBlame_93 : decode cX6_reckonBlame 93 = .ok (.aload_n 0, 1) := by decide +kernel
theorem dX6_reckonBlame_94 : decode cX6_reckonBlame 94 = .ok (.getfield 32, 3) := by decide +kernel
theorem dX6_reckonBlame_97 : decode cX6_reckonBlame 97 = .ok (.ldc2_w 74, 3) := by decide +kernel
theorem dX6_reckonBlame_100 : decode cX6_reckonBlame 100 = .ok (.lmul, 1) := by decide +kernel
theorem dX6_reckonBlame_101 : decode cX6_reckonBlame 101 = .ok (.lload 5, 2) := by decide +kernel
theorem dX6_reckonBlame_103 : decode cX6_reckonBlame 103 = .ok (.ladd, 1) := by decide +kernel
theorem dX6_reckonBlame_104 : decode cX6_reckonBlame 104 = .ok (.putfield 32, 3) := by decide +kernel
theorem dX6_reckonBlame_107 : decode cX6_reckonBlame 107 = .ok (.lload_n 2, 1) := by decide +kernel
theorem dX6_reckonBlame_108 : decode cX6_reckonBlame 108 = .ok (.bipush 10, 2) := by decide +kernel
theorem dX6_reckonBlame_110 : decode cX6_reckonBlame 110 = .ok (.aload_n 0, 1) := by decide +kernel
theorem dX6_reckonBlame_111 : decode cX6_reckonBlame 111 = .ok (.getfield 15, 3) := by decide +kernel
theorem dX6_reckonBlame_114 : decode cX6_reckonBlame 114 = .ok (.iload 4, 2) := by decide +kernel
theorem dX6_reckonBlame_116 : decode cX6_reckonBlame 116 = .ok (.iaload, 1) := by decide +kernel
theorem dX6_reckonBlame_117 : decode cX6_reckonBlame 117 = .ok (.isub, 1) := by decide +kernel
theorem dX6_reckonBlame_118 : decode cX6_reckonBlame 118 = .ok (.i2l, 1) := by decide +kernel
theorem dX6_reckonBlame_119 : decode cX6_reckonBlame 119 = .ok (.lmul, 1) := by decide +kernel
theorem dX6_reckonBlame_120 : decode cX6_reckonBlame 120 = .ok (.lstore_n 2, 1) := by decide +kernel
theorem dX6_reckonBlame_121 : decode cX6_reckonBlame 121 = .ok (.iinc 4 1, 3) := by decide +kernel
theorem dX6_reckonBlame_124 : decode cX6_reckonBlame 124 = .ok (.goto (-106), 3) := by decide +kernel
theorem dX6_reckonBlame_127 : decode cX6_reckonBlame 127 = .ok (.aload_n 0, 1) := by decide +kernel
theorem dX6_reckonBlame_128 : decode cX6_reckonBlame 128 = .ok (.getfield 32, 3) := by decide +kernel
theorem dX6_reckonBlame_131 : decode cX6_reckonBlame 131 = .ok (.lconst 0, 1) := by decide +kernel
theorem dX6_reckonBlame_132 : decode cX6_reckonBlame 132 = .ok (.lcmp, 1) := by decide +kernel
theorem dX6_reckonBlame_133 : decode cX6_reckonBlame 133 = .ok (.ifCond .ne 5, 3) := by decide +kernel
theorem dX6_reckonBlame_136 : decode cX6_reckonBlame 136 = .ok (.iconst 0, 1) := by decide +kernel
theorem dX6_reckonBlame_137 : decode cX6_reckonBlame 137 = .ok (.ireturn, 1) := by decide +kernel
theorem dX6_reckonBlame_138 : decode cX6_reckonBlame 138 = .ok (.aload_n 0, 1) := by decide +kernel
theorem dX6_reckonBlame_139 : decode cX6_reckonBlame 139 = .ok (.invokevirtual 76, 3) := by decide +kernel
theorem dX6_reckonBlame_142 : decode cX6_reckonBlame 142 = .ok (.iconst 1, 1) := by decide +kernel
theorem dX6_reckonBlame_143 : decode cX6_reckonBlame 143 = .ok (.ireturn, 1) := by decide +kernel
theorem dX6_shorten_0 : decode cX6_shorten 0 = .ok (.aload_n 0, 1) := by decide +kernel
theorem dX6_shorten_1 : decode cX6_shorten 1 = .ok (.getfield 28, 3) := by decide +kernel
theorem dX6_shorten_4 : decode cX6_shorten 4 = .ok (.aload_n 0, 1) := by decide +kernel
theorem dX6_shorten_5 : decode cX6_shorten 5 = .ok (.getfield 32, 3) := by decide +kernel
theorem dX6_shorten_8 : decode cX6_shorten 8 = .ok (.invokestatic 79, 3) := by decide +kernel
theorem dX6_shorten_11 : decode cX6_shorten 11 = .ok (.lstore_n 1, 1) := by decide +kernel
theorem dX6_shorten_12 : decode cX6_shorten 12 = .ok (.lload_n 1, 1) := by decide +kernel
theorem dX6_shorten_13 : decode cX6_shorten 13 = .ok (.lconst 1, 1) := by decide +kernel
theorem dX6_shorten_14 : decode cX6_shorten 14 = .ok (.lcmp, 1) := by decide +kernel
theorem dX6_shorten_15 : decode cX6_shorten 15 = .ok (.ifCond .le 23, 3) := by decide +kernel
theorem dX6_shorten_18 : decode cX6_shorten 18 = .ok (.aload_n 0, 1) := by decide +kernel
theorem dX6_shorten_19 : decode cX6_shorten 19 = .ok (.dup, 1) := by decide +kernel
theorem dX6_shorten_20 : decode cX6_shorten 20 = .ok (.getfield 28, 3) := by decide +kernel
theorem dX6_shorten_23 : decode cX6_shorten 23 = .ok (.lload_n 1, 1) := by decide +kernel
theorem dX6_shorten_24 : decode cX6_shorten 24 = .ok (.ldiv, 1) := by decide +kernel
theorem dX6_shorten_25 : decode cX6_shorten 25 = .ok (.putfield 28, 3) := by decide +kernel
theorem dX6_shorten_28 : decode cX6_shorten 28 = .ok (.aload_n 0, 1) := by decide +kernel
theorem dX6_shorten_29 : decode cX6_shorten 29 = .ok (.dup, 1) := by decide +kernel
theorem dX6_shorten_30 : decode cX6_shorten 30 = .ok (.getfield 32, 3) := by decide +kernel
theorem dX6_shorten_33 : decode cX6_shorten 33 = .ok (.lload_n 1, 1) := by decide +kernel
theorem dX6_shorten_34 : decode cX6_shorten 34 = .ok (.ldiv, 1) := by decide +kernel
theorem dX6_shorten_35 : decode cX6_shorten 35 = .ok (.putfield 32, 3) := by decide +kernel
theorem dX6_shorten_38 : decode cX6_shorten 38 = .ok (.return_, 1) := by decide +kernel
theorem dX6_commonDivisor_0 : decode cX6_commonDivisor 0 = .ok (.lload_n 0, 1) := by decide +kernel
theorem dX6_commonDivisor_1 : decode cX6_commonDivisor 1 = .ok (.lstore 4, 2) := by decide +kernel
theorem dX6_commonDivisor_3 : decode cX6_commonDivisor 3 = .ok (.lload_n 2, 1) := by decide +kernel
theorem dX6_commonDivisor_4 : decode cX6_commonDivisor 4 = .ok (.lstore 6, 2) := by decide +kernel
theorem dX6_commonDivisor_6 : decode cX6_commonDivisor 6 = .ok (.iconst 0, 1) := by decide +kernel
theorem dX6_commonDivisor_7 : decode cX6_commonDivisor 7 = .ok (.istore 8, 2) := by decide +kernel
theorem dX6_commonDivisor_9 : decode cX6_commonDivisor 9 = .ok (.iload 8, 2) := by decide +kernel
theorem dX6_commonDivisor_11 : decode cX6_commonDivisor 11 = .ok (.sipush 200, 3) := by decide +kernel
theorem dX6_commonDivisor_14 : decode cX6_commonDivisor 14 = .ok (.if_icmp .ge 31, 3) := by decide +kernel
theorem dX6_commonDivisor_17 : decode cX6_commonDivisor 17 = .ok (.lload 6, 2) := by decide +kernel
theorem dX6_commonDivisor_19 : decode cX6_commonDivisor 19 = .ok (.lconst 0, 1) := by decide +kernel
theorem dX6_commonDivisor_20 : decode cX6_commonDivisor 20 = .ok (.lcmp, 1) := by decide +kernel
theorem dX6_commonDivisor_21 : decode cX6_commonDivisor 21 = .ok (.ifCond .eq 24, 3) := by decide +kernel
theorem dX6_commonDivisor_24 : decode cX6_commonDivisor 24 = .ok (.lload 4, 2) := by decide +kernel
theorem dX6_commonDivisor_26 : decode cX6_commonDivisor 26 = .ok (.lload 6, 2) := by decide +kernel
theorem dX6_commonDivisor_28 : decode cX6_commonDivisor 28 = .ok (.lrem, 1) := by decide +kernel
theorem dX6_commonDivisor_29 : decode cX6_commonDivisor 29 = .ok (.lstore 9, 2) := by decide +kernel
theorem dX6_commonDivisor_31 : decode cX6_commonDivisor 31 = .ok (.lload 6, 2) := by decide +kernel
theorem dX6_commonDivisor_33 : decode cX6_commonDivisor 33 = .ok (.lstore 4, 2) := by decide +kernel
theorem dX6_commonDivisor_35 : decode cX6_commonDivisor 35 = .ok (.lload 9, 2) := by decide +kernel
theorem dX6_commonDivisor_37 : decode cX6_commonDivisor 37 = .ok (.lstore 6, 2) := by decide +kernel
theorem dX6_commonDivisor_39 : decode cX6_commonDivisor 39 = .ok (.iinc 8 1, 3) := by decide +kernel
theorem dX6_commonDivisor_42 : decode cX6_commonDivisor 42 = .ok (.goto (-33), 3) := by decide +kernel
theorem dX6_commonDivisor_45 : decode cX6_commonDivisor 45 = .ok (.lload 4, 2) := by decide +kernel
theorem dX6_commonDivisor_47 : decode cX6_commonDivisor 47 = .ok (.lreturn, 1) := by decide +kernel
