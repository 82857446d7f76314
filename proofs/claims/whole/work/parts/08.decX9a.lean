theorem dX9_init_0 : decode cX9_init 0 = .ok (.aload_n 0, 1) := by decide +kernel
theorem dX9_init_1 : decode cX9_init 1 = .ok (.invokespecial 1, 3) := by decide +kernel
theorem dX9_init_4 : decode cX9_init 4 = .ok (.aload_n 0, 1) := by decide +kernel
theorem dX9_init_5 : decode cX9_init 5 = .ok (.sipush 14800, 3) := by decide +kernel
theorem dX9_init_8 : decode cX9_init 8 = .ok (.newarray .int, 2) := by decide +kernel
theorem dX9_init_10 : decode cX9_init 10 = .ok (.putfield 7, 3) := by decide +kernel
theorem dX9_init_13 : decode cX9_init 13 = .ok (.aload_n 0, 1) := by decide +kernel
theorem dX9_init_14 : decode cX9_init 14 = .ok (.sipush 14800, 3) := by decide +kernel
theorem dX9_init_17 : decode cX9_init 17 = .ok (.newarray .int, 2) := by decide +kernel
theorem dX9_init_19 : decode cX9_init 19 = .ok (.putfield 13, 3) := by decide +kernel
theorem dX9_init_22 : decode cX9_init 22 = .ok (.aload_n 0, 1) := by decide +kernel
theorem dX9_init_23 : decode cX9_init 23 = .ok (.sipush 300, 3) := by decide +kernel
theorem dX9_init_26 : decode cX9_init 26 = .ok (.newarray .byte, 2) := by decide +kernel
theorem dX9_init_28 : decode cX9_init 28 = .ok (.putfield 16, 3) := by decide +kernel
theorem dX9_init_31 : decode cX9_init 31 = .ok (.aload_n 0, 1) := by decide +kernel
theorem dX9_init_32 : decode cX9_init 32 = .ok (.iconst (-1), 1) := by decide +kernel
theorem dX9_init_33 : decode cX9_init 33 = .ok (.putfield 20, 3) := by decide +kernel
theorem dX9_init_36 : decode cX9_init 36 = .ok (.aload_n 0, 1) := by decide +kernel
theorem dX9_init_37 : decode cX9_init 37 = .ok (.iconst (-1), 1) := by decide +kernel
theorem dX9_init_38 : decode cX9_init 38 = .ok (.putfield 24, 3) := by decide +kernel
theorem dX9_init_41 : decode cX9_init 41 = .ok (.aload_n 0, 1) := by decide +kernel
theorem dX9_init_42 : decode cX9_init 42 = .ok (.iconst 4, 1) := by decide +kernel
theorem dX9_init_43 : decode cX9_init 43 = .ok (.newarray .int, 2) := by decide +kernel
theorem dX9_init_45 : decode cX9_init 45 = .ok (.putfield 27, 3) := by decide +kernel
theorem dX9_init_48 : decode cX9_init 48 = .ok (.aload_n 0, 1) := by decide +kernel
theorem dX9_init_49 : decode cX9_init 49 = .ok (.bipush 96, 2) := by decide +kernel
theorem dX9_init_51 : decode cX9_init 51 = .ok (.newarray .int, 2) := by decide +kernel
theorem dX9_init_53 : decode cX9_init 53 = .ok (.putfield 30, 3) := by decide +kernel
theorem dX9_init_56 : decode cX9_init 56 = .ok (.aload_n 0, 1) := by decide +kernel
theorem dX9_init_57 : decode cX9_init 57 = .ok (.bipush 96, 2) := by decide +kernel
theorem dX9_init_59 : decode cX9_init 59 = .ok (.newarray .int, 2) := by decide +kernel
theorem dX9_init_61 : decode cX9_init 61 = .ok (.putfield 33, 3) := by decide +kernel
theorem dX9_init_64 : decode cX9_init 64 = .ok (.aload_n 0, 1) := by decide +kernel
theorem dX9_init_65 : decode cX9_init 65 = .ok (.bipush 96, 2) := by decide +kernel
theorem dX9_init_67 : decode cX9_init 67 = .ok (.newarray .int, 2) := by decide +kernel
theorem dX9_init_69 : decode cX9_init 69 = .ok (.putfield 36, 3) := by decide +kernel
theorem dX9_init_72 : decode cX9_init 72 = .ok (.aload_n 0, 1) := by decide +kernel
theorem dX9_init_73 : decode cX9_init 73 = .ok (.bipush 96, 2) := by decide +kernel
theorem dX9_init_75 : decode cX9_init 75 = .ok (.newarray .int, 2) := by decide +kernel
theorem dX9_init_77 : decode cX9_init 77 = .ok (.putfield 39, 3) := by decide +kernel
theorem dX9_init_80 : decode cX9_init 80 = .ok (.aload_n 0, 1) := by decide +kernel
theorem dX9_init_81 : decode cX9_init 81 = .ok (.bipush 96, 2) := by decide +kernel
theorem dX9_init_83 : decode cX9_init 83 = .ok (.newarray .int, 2) := by decide +kernel
theorem dX9_init_85 : decode cX9_init 85 = .ok (.putfield 42, 3) := by decide +kernel
theorem dX9_init_88 : decode cX9_init 88 = .ok (.aload_n 0, 1) := by decide +kernel
theorem dX9_init_89 : decode cX9_init 89 = .ok (.sipush 1600, 3) := by decide +kernel
theorem dX9_init_92 : decode cX9_init 92 = .ok (.newarray .int, 2) := by decide +kernel
theorem dX9_init_94 : decode cX9_init 94 = .ok (.putfield 45, 3) := by decide +kernel
theorem dX9_init_97 : decode cX9_init 97 = .ok (.aload_n 0, 1) := by decide +kernel
theorem dX9_init_98 : decode cX9_init 98 = .ok (.sipush 1600, 3) := by decide +kernel
theorem dX9_init_101 : decode cX9_init 101 = .ok (.newarray .int, 2) := by decide +kernel
theorem dX9_init_103 : decode cX9_init 103 = .ok (.putfield 48, 3) := by decide +kernel
theorem dX9_init_106 : decode cX9_init 106 = .ok (.aload_n 0, 1) := by decide +kernel
theorem dX9_init_107 : decode cX9_init 107 = .ok (.bipush 40, 2) := by decide +kernel
theorem dX9_init_109 : decode cX9_init 109 = .ok (.newarray .int, 2) := by decide +kernel
theorem dX9_init_111 : decode cX9_init 111 = .ok (.putfield 51, 3) := by decide +kernel
theorem dX9_init_114 : decode cX9_init 114 = .ok (.aload_n 0, 1) := by decide +kernel
theorem dX9_init_115 : decode cX9_init 115 = .ok (.bipush 80, 2) := by decide +kernel
theorem dX9_init_117 : decode cX9_init 117 = .ok (.newarray .int, 2) := by decide +kernel
theorem dX9_init_119 : decode cX9_init 119 = .ok (.putfield 54, 3) := by decide +kernel
theorem dX9_init_122 : decode cX9_init 122 = .ok (.aload_n 0, 1) := by decide +kernel
theorem dX9_init_123 : decode cX9_init 123 = .ok (.bipush 80, 2) := by decide +kernel
theorem dX9_init_125 : decode cX9_init 125 = .ok (.newarray .int, 2) := by decide +kernel
theorem dX9_init_127 : decode cX9_init 127 = .ok (.putfield 57, 3) := by decide +kernel
theorem dX9_init_130 : decode cX9_init 130 = .ok (.aload_n 0, 1) := by decide +kernel
theorem dX9_init_131 : decode cX9_init 131 = .ok (.bipush 24, 2) := by decide +kernel
theorem dX9_init_133 : decode cX9_init 133 = .ok (.newarray .int, 2) := by decide +kernel
theorem dX9_init_135 : decode cX9_init 135 = .ok (.putfield 60, 3) := by decide +kernel
theorem dX9_init_138 : decode cX9_init 138 = .ok (.aload_n 0, 1) := by decide +kernel
theorem dX9_init_139 : decode cX9_init 139 = .ok (.bipush 24, 2) := by decide +kernel
theorem dX9_init_141 : decode cX9_init 141 = .ok (.newarray .int, 2) := by decide +kernel
theorem dX9_init_143 : decode cX9_init 143 = .ok (.putfield 63, 3) := by decide +kernel
theorem dX9_init_146 : decode cX9_init 146 = .ok (.aload_n 0, 1) := by decide +kernel
theorem dX9_init_147 : decode cX9_init 147 = .ok (.bipush 24, 2) := by decide +kernel
theorem dX9_init_149 : decode cX9_init 149 = .ok (.newarray .int, 2) := by decide +kernel
theorem dX9_init_151 : decode cX9_init 151 = .ok (.putfield 66, 3) := by decide +kernel
theorem dX9_init_154 : decode cX9_init 154 = .ok (.aload_n 0, 1) := by decide +kernel
theorem dX9_init_155 : decode cX9_init 155 = .ok (.bipush 24, 2) := by decide +kernel
theorem dX9_init_157 : decode cX9_init 157 = .ok (.newarray .int, 2) := by decide +kernel
theorem dX9_init_159 : decode cX9_init 159 = .ok (.putfield 69, 3) := by decide +kernel
theorem dX9_init_162 : decode cX9_init 162 = .ok (.aload_n 0, 1) := by decide +kernel
theorem dX9_init_163 : decode cX9_init 163 = .ok (.bipush 24, 2) := by decide +kernel
theorem dX9_init_165 : decode cX9_init 165 = .ok (.newarray .int, 2) := by decide +kernel
theorem dX9_init_167 : decode cX9_init 167 = .ok (.putfield 72, 3) := by decide +kernel
theorem dX9_init_170 : decode cX9_init 170 = .ok (.aload_n 0, 1) := by decide +kernel
theorem dX9_init_171 : decode cX9_init 171 = .ok (.sipush 400, 3) := by decide +kernel
theorem dX9_init_174 : decode cX9_init 174 = .ok (.newarray .int, 2) := by decide +kernel
theorem dX9_init_176 : decode cX9_init 176 = .ok (.putfield 75, 3) := by decide +kernel
theorem dX9_init_179 : decode cX9_init 179 = .ok (.aload_n 0, 1) := by decide +kernel
theorem dX9_init_180 : decode cX9_init 180 = .ok (.sipush 400, 3) := by decide +kernel
theorem dX9_init_183 : decode cX9_init 183 = .ok (.newarray .int, 2) := by decide +kernel
theorem dX9_init_185 : decode cX9_init 185 = .ok (.putfield 78, 3) := by decide +kernel
theorem dX9_init_188 : decode cX9_init 188 = .ok (.aload_n 0, 1) := by decide +kernel
theorem dX9_init_189 : decode cX9_init 189 = .ok (.bipush 8, 2) := by decide +kernel
theorem dX9_init_191 : decode cX9_init 191 = .ok (.newarray .int, 2) := by decide +kernel
theorem dX9_init_193 : decode cX9_init 193 = .ok (.putfield 81, 3) := by decide +kernel
theorem dX9_init_196 : decode cX9_init 196 = .ok (.aload_n 0, 1) := by decide +kernel
theorem dX9_init_197 : decode cX9_init 197 = .ok (.sipush 200, 3) := by decide +kernel
theorem dX9_init_200 : decode cX9_init 200 = .ok (.newarray .long, 2) := by decide +kernel
theorem dX9_init_202 : decode cX9_init 202 = .ok (.putfield 84, 3) := by decide +kernel
theorem dX9_init_205 : decode cX9_init 205 = .ok (.aload_n 0, 1) := by decide +kernel
theorem dX9_init_206 : decode cX9_init 206 = .ok (.bipush 12, 2) := by decide +kernel
theorem dX9_init_208 : decode cX9_init 208 = .ok (.newarray .int, 2) := by decide +kernel
theorem dX9_init_210 : decode cX9_init 210 = .ok (.putfield 88, 3) := by decide +kernel
theorem dX9_init_213 : decode cX9_init 213 = .ok (.aload_n 0, 1) := by decide +kernel
theorem dX9_init_214 : decode cX9_init 214 = .ok (.bipush 12, 2) := by decide +kernel
theorem dX9_init_216 : decode cX9_init 216 = .ok (.newarray .int, 2) := by decide +kernel
theorem dX9_init_218 : decode cX9_init 218 = .ok (.putfield 91, 3) := by decide +kernel
theorem dX9_init_221 : decode cX9_init 221 = .ok (.aload_n 0, 1) := by decide +kernel
theorem dX9_init_222 : decode cX9_init 222 = .ok (.bipush 6, 2) := by decide +kernel
theorem dX9_init_224 : decode cX9_init 224 = .ok (.newarray .int, 2) := by decide +kernel
theorem dX9_init_226 : decode cX9_init 226 = .ok (.putfield 94, 3) := by decide +kernel
theorem dX9_init_229 : decode cX9_init 229 = .ok (.aload_n 0, 1) := by decide +kernel
theorem dX9_init_230 : decode cX9_init 230 = .ok (.bipush 6, 2) := by decide +kernel
theorem dX9_init_232 : decode cX9_init 232 = .ok (.newarray .int, 2) := by decide +kernel
theorem dX9_init_234 : decode cX9_init 234 = .ok (.putfield 97, 3) := by decide +kernel
theorem dX9_init_237 : decode cX9_init 237 = .ok (.aload_n 0, 1) := by decide +kernel
theorem dX9_init_238 : decode cX9_init 238 = .ok (.bipush 6, 2) := by decide +kernel
theorem dX9_init_240 : decode cX9_init 240 = .ok (.newarray .int, 2) := by decide +kernel
theorem dX9_init_242 : decode cX9_init 242 = .ok (.putfield 100, 3) := by decide +kernel
theorem dX9_init_245 : decode cX9_init 245 = .ok (.aload_n 0, 1) := by decide +kernel
theorem dX9_init_246 : decode cX9_init 246 = .ok (.bipush 6, 2) := by decide +kernel
theorem dX9_init_248 : decode cX9_init 248 = .ok (.newarray .int, 2) := by decide +kernel
theorem dX9_init_250 : decode cX9_init 250 = .ok (.putfield 103, 3) := by decide +kernel
theorem dX9_init_253 : decode cX9_init 253 = .ok (.aload_n 0, 1) := by decide +kernel
theorem dX9_init_254 : decode cX9_init 254 = .ok (.bipush 6, 2) := by decide +kernel
theorem dX9_init_256 : decode cX9_init 256 = .ok (.newarray .int, 2) := by decide +kernel
theorem dX9_init_258 : decode cX9_init 258 = .ok (.putfield 106, 3) := by decide +kernel
theorem dX9_init_261 : decode cX9_init 261 = .ok (.aload_n 0, 1) := by decide +kernel
theorem dX9_init_262 : decode cX9_init 262 = .ok (.bipush 6, 2) := by decide +kernel
theorem dX9_init_264 : decode cX9_init 264 = .ok (.newarray .int, 2) := by decide +kernel
theorem dX9_init_266 : decode cX9_init 266 = .ok (.putfield 109, 3) := by decide +kernel
theorem dX9_init_269 : decode cX9_init 269 = .ok (.aload_n 0, 1) := by decide +kernel
theorem dX9_init_270 : decode cX9_init 270 = .ok (.bipush 100, 2) := by decide +kernel
theorem dX9_init_272 : decode cX9_init 272 = .ok (.newarray .boolean, 2) := by decide +kernel
theorem dX9_init_274 : decode cX9_init 274 = .ok (.putfield 112, 3) := by decide +kernel
theorem dX9_init_277 : decode cX9_init 277 = .ok (.aload_n 0, 1) := by decide +kernel
theorem dX9_init_278 : decode cX9_init 278 = .ok (.getfield 7, 3) := by decide +kernel
theorem dX9_init_281 : decode cX9_init 281 = .ok (.iconst 3, 1) := by decide +kernel
theorem dX9_init_282 : decode cX9_init 282 = .ok (.iconst (-1), 1) := by decide +kernel
theorem dX9_init_283 : decode cX9_init 283 = .ok (.iastore, 1) := by decide +kernel
theorem dX9_init_284 : decode cX9_init 284 = .ok (.aload_n 0, 1) := by decide +kernel
theorem dX9_init_285 : decode cX9_init 285 = .ok (.getfield 7, 3) := by decide +kernel
theorem dX9_init_288 : decode cX9_init 288 = .ok (.sipush 515, 3) := by decide +kernel
theorem dX9_init_291 : decode cX9_init 291 = .ok (.iconst 5, 1) := by decide +kernel
theorem dX9_init_292 : decode cX9_init 292 = .ok (.iastore, 1) := by decide +kernel
theorem dX9_init_293 : decode cX9_init 293 = .ok (.aload_n 0, 1) := by decide +kernel
theorem dX9_init_294 : decode cX9_init 294 = .ok (.iconst 1, 1) := by decide +kernel
theorem dX9_init_295 : decode cX9_init 295 = .ok (.invokevirtual 116, 3) := by decide +kernel
theorem dX9_init_298 : decode cX9_init 298 = .ok (.return_, 1) := by decide +kernel
theorem dX9_in_0 : decode cX9_in 0 = .ok (.iload_n 0, 1) := by decide +kernel
theorem dX9_in_1 : decode cX9_in 1 = .ok (.iload_n 1, 1) := by decide +kernel
theorem dX9_in_2 : decode cX9_in 2 = .ok (.if_icmp .lt 12, 3) := by decide +kernel
theorem dX9_in_5 : decode cX9_in 5 = .ok (.iload_n 0, 1) := by decide +kernel
theorem dX9_in_6 : decode cX9_in 6 = .ok (.iload_n 2, 1) := by decide +kernel
theorem dX9_in_7 : decode cX9_in 7 = .ok (.if_icmp .gt 7, 3) := by decide +kernel
theorem dX9_in_10 : decode cX9_in 10 = .ok (.iconst 1, 1) := by decide +kernel
theorem dX9_in_11 : decode cX9_in 11 = .ok (.goto 4, 3) := by decide +kernel
theorem dX9_in_14 : decode cX9_in 14 = .ok (.iconst 0, 1) := by decide +kernel
theorem dX9_in_15 : decode cX9_in 15 = .ok (.ireturn, 1) := by decide +kernel
theorem dX9_copies_0 : decode cX9_copies 0 = .ok (.iconst 0, 1) := by decide +kernel
theorem dX9_copies_1 : decode cX9_copies 1 = .ok (.istore_n 2, 1) := by decide +kernel
theorem dX9_copies_2 : decode cX9_copies 2 = .ok (.iload_n 2, 1) := by decide +kernel
theorem dX9_copies_3 : decode cX9_copies 3 = .ok (.sipush 14800, 3) := by decide +kernel
theorem dX9_copies_6 : decode cX9_copies 6 = .ok (.if_icmp .ge 40, 3) := by decide +kernel
theorem dX9_copies_9 : decode cX9_copies 9 = .ok (.iload_n 1, 1) := by decide +kernel
theorem dX9_copies_10 : decode cX9_copies 10 = .ok (.ifCond .eq 18, 3) := by decide +kernel
theorem dX9_copies_13 : decode cX9_copies 13 = .ok (.aload_n 0, 1) := by decide +kernel
theorem dX9_copies_14 : decode cX9_copies 14 = .ok (.getfield 13, 3) := by decide +kernel
theorem dX9_copies_17 : decode cX9_copies 17 = .ok (.iload_n 2, 1) := by decide +kernel
theorem dX9_copies_18 : decode cX9_copies 18 = .ok (.aload_n 0, 1) := by decide +kernel
theorem dX9_copies_19 : decode cX9_copies 19 = .ok (.getfield 7, 3) := by decide +kernel
theorem dX9_copies_22 : decode cX9_copies 22 = .ok (.iload_n 2, 1) := by decide +kernel
theorem dX9_copies_23 : decode cX9_copies 23 = .ok (.iaload, 1) := by decide +kernel
theorem dX9_copies_24 : decode cX9_copies 24 = .ok (.iastore, 1) := by decide +kernel
theorem dX9_copies_25 : decode cX9_copies 25 = .ok (.goto 15, 3) := by decide +kernel
theorem dX9_copies_28 : decode cX9_copies 28 = .ok (.aload_n 0, 1) := by decide +kernel
theorem dX9_copies_29 : decode cX9_copies 29 = .ok (.getfield 7, 3) := by decide +kernel
theorem dX9_copies_32 : decode cX9_copies 32 = .ok (.iload_n 2, 1) := by decide +kernel
theorem dX9_copies_33 : decode cX9_copies 33 = .ok (.aload_n 0, 1) := by decide +kernel
theorem dX9_copies_34 : decode cX9_copies 34 = .ok (.getfield 13, 3) := by decide +kernel
theorem dX9_copies_37 : decode cX9_copies 37 = .ok (.iload_n 2, 1) := by decide +kernel
theorem dX9_copies_38 : decode cX9_copies 38 = .ok (.iaload, 1) := by decide +kernel
theorem dX9_copies_39 : decode cX9_copies 39 = .ok (.iastore, 1) := by decide +kernel
theorem dX9_copies_40 : decode cX9_copies 40 = .ok (.iinc 2 1, 3) := by decide +kernel
theorem dX9_copies_43 : decode cX9_copies 43 = .ok (.goto (-41), 3) := by decide +kernel
theorem dX9_copies_46 : decode cX9_copies 46 = .ok (.return_, 1) := by decide +kernel
theorem dX9_isHouse_0 : decode cX9_isHouse 0 = .ok (.iload_n 1, 1) := by decide +kernel
theorem dX9_isHouse_1 : decode cX9_isHouse 1 = .ok (.iconst 0, 1) := by decide +kernel
theorem dX9_isHouse_2 : decode cX9_isHouse 2 = .ok (.aload_n 0, 1) := by decide +kernel
theorem dX9_isHouse_3 : decode cX9_isHouse 3 = .ok (.getfield 7, 3) := by decide +kernel
theorem dX9_isHouse_6 : decode cX9_isHouse 6 = .ok (.iconst 0, 1) := by decide +kernel
theorem dX9_isHouse_7 : decode cX9_isHouse 7 = .ok (.iaload, 1) := by decide +kernel
theorem dX9_isHouse_8 : decode cX9_isHouse 8 = .ok (.iconst 1, 1) := by decide +kernel
theorem dX9_isHouse_9 : decode cX9_isHouse 9 = .ok (.isub, 1) := by decide +kernel
theorem dX9_isHouse_10 : decode cX9_isHouse 10 = .ok (.invokestatic 120, 3) := by decide +kernel
theorem dX9_isHouse_13 : decode cX9_isHouse 13 = .ok (.ireturn, 1) := by decide +kernel
theorem dX9_isCandle_0 : decode cX9_isCandle 0 = .ok (.iload_n 1, 1) := by decide +kernel
theorem dX9_isCandle_1 : decode cX9_isCandle 1 = .ok (.iconst 0, 1) := by decide +kernel
theorem dX9_isCandle_2 : decode cX9_isCandle 2 = .ok (.aload_n 0, 1) := by decide +kernel
theorem dX9_isCandle_3 : decode cX9_isCandle 3 = .ok (.getfield 7, 3) := by decide +kernel
theorem dX9_isCandle_6 : decode cX9_isCandle 6 = .ok (.iconst 1, 1) := by decide +kernel
theorem dX9_isCandle_7 : decode cX9_isCandle 7 = .ok (.iaload, 1) := by decide +kernel
theorem dX9_isCandle_8 : decode cX9_isCandle 8 = .ok (.iconst 1, 1) := by decide +kernel
theorem dX9_isCandle_9 : decode cX9_isCandle 9 = .ok (.isub, 1) := by decide +kernel
theorem dX9_isCandle_10 : decode cX9_isCandle 10 = .ok (.invokestatic 120, 3) := by decide +kernel
theorem dX9_isCandle_13 : decode cX9_isCandle 13 = .ok (.ireturn, 1) := by decide +kernel
theorem dX9_thickOf_0 : decode cX9_thickOf 0 = .ok (.aload_n 0, 1) := by decide +kernel
theorem dX9_thickOf_1 : decode cX9_thickOf 1 = .ok (.getfield 7, 3) := by decide +kernel
theorem dX9_thickOf_4 : decode cX9_thickOf 4 = .ok (.bipush 20, 2) := by decide +kernel
theorem dX9_thickOf_6 : decode cX9_thickOf 6 = .ok (.iconst 2, 1) := by decide +kernel
theorem dX9_thickOf_7 : decode cX9_thickOf 7 = .ok (.iload_n 1, 1) := by decide +kernel
theorem dX9_thickOf_8 : decode cX9_thickOf 8 = .ok (.imul, 1) := by decide +kernel
theorem dX9_thickOf_9 : decode cX9_thickOf 9 = .ok (.iadd, 1) := by decide +kernel
theorem dX9_thickOf_10 : decode cX9_thickOf 10 = .ok (.iaload, 1) := by decide +kernel
theorem dX9_thickOf_11 : decode cX9_thickOf 11 = .ok (.ireturn, 1) := by decide +kernel
theorem dX9_inchesOf_0 : decode cX9_inchesOf 0 = .ok (.aload_n 0, 1) := by decide +kernel
theorem dX9_inchesOf_1 : decode cX9_inchesOf 1 = .ok (.getfield 7, 3) := by decide +kernel
theorem dX9_inchesOf_4 : decode cX9_inchesOf 4 = .ok (.bipush 20, 2) := by decide +kernel
theorem dX9_inchesOf_6 : decode cX9_inchesOf 6 = .ok (.iconst 2, 1) := by decide +kernel
theorem dX9_inchesOf_7 : decode cX9_inchesOf 7 = .ok (.iload_n 1, 1) := by decide +kernel
theorem dX9_inchesOf_8 : decode cX9_inchesOf 8 = .ok (.imul, 1) := by decide +kernel
theorem dX9_inchesOf_9 : decode cX9_inchesOf 9 = .ok (.iadd, 1) := by decide +kernel
theorem dX9_inchesOf_10 : decode cX9_inchesOf 10 = .ok (.iconst 1, 1) := by decide +kernel
theorem dX9_inchesOf_11 : decode cX9_inchesOf 11 = .ok (.iadd, 1) := by decide +kernel
theorem dX9_inchesOf_12 : decode cX9_inchesOf 12 = .ok (.iaload, 1) := by decide +kernel
theorem dX9_inchesOf_13 : decode cX9_inchesOf 13 = .ok (.ireturn, 1) := by decide +kernel
theorem dX9_ofCandle_0 : decode cX9_ofCandle 0 = .ok (.aload_n 0, 1) := by decide +kernel
theorem dX9_ofCandle_1 : decode cX9_ofCandle 1 = .ok (.getfield 7, 3) := by decide +kernel
theorem dX9_ofCandle_4 : decode cX9_ofCandle 4 = .ok (.bipush 64, 2) := by decide +kernel
theorem dX9_ofCandle_6 : decode cX9_ofCandle 6 = .ok (.bipush 15, 2) := by decide +kernel
theorem dX9_ofCandle_8 : decode cX9_ofCandle 8 = .ok (.iload_n 1, 1) := by decide +kernel
theorem dX9_ofCandle_9 : decode cX9_ofCandle 9 = .ok (.imul, 1) := by decide +kernel
theorem dX9_ofCandle_10 : decode cX9_ofCandle 10 = .ok (.iadd, 1) := by decide +kernel
theorem dX9_ofCandle_11 : decode cX9_ofCandle 11 = .ok (.iload_n 2, 1) := by decide +kernel
theorem dX9_ofCandle_12 : decode cX9_ofCandle 12 = .ok (.iadd, 1) := by decide +kernel
theorem dX9_ofCandle_13 : decode cX9_ofCandle 13 = .ok (.iaload, 1) := by decide +kernel
theorem dX9_ofCandle_14 : decode cX9_ofCandle 14 = .ok (.ireturn, 1) := by decide +kernel
theorem dX9_puts_0 : decode cX9_puts 0 = .ok (.aload_n 0, 1) := by decide +kernel
theorem dX9_puts_1 : decode cX9_puts 1 = .ok (.getfield 7, 3) := by decide +kernel
theorem dX9_puts_4 : decode cX9_puts 4 = .ok (.bipush 64, 2) := by decide +kernel
theorem dX9_puts_6 : decode cX9_puts 6 = .ok (.bipush 15, 2) := by decide +kernel
theorem dX9_puts_8 : decode cX9_puts 8 = .ok (.iload_n 1, 1) := by decide +kernel
theorem dX9_puts_9 : decode cX9_puts 9 = .ok (.imul, 1) := by decide +kernel
theorem dX9_puts_10 : decode cX9_puts 10 = .ok (.iadd, 1) := by decide +kernel
theorem dX9_puts_11 : decode cX9_puts 11 = .ok (.iload_n 2, 1) := by decide +kernel
theorem dX9_puts_12 : decode cX9_puts 12 = .ok (.iadd, 1) := by decide +kernel
theorem dX9_puts_13 : decode cX9_puts 13 = .ok (.iload_n 3, 1) := by decide +kernel
theorem dX9_puts_14 : decode cX9_puts 14 = .ok (.iastore, 1) := by decide +kernel
theorem dX9_puts_15 : decode cX9_puts 15 = .ok (.return_, 1) := by decide +kernel
theorem dX9_ownerOf_0 : decode cX9_ownerOf 0 = .ok (.aload_n 0, 1) := by decide +kernel
theorem dX9_ownerOf_1 : decode cX9_ownerOf 1 = .ok (.getfield 7, 3) := by decide +kernel
theorem dX9_ownerOf_4 : decode cX9_ownerOf 4 = .ok (.bipush 64, 2) := by decide +kernel
theorem dX9_ownerOf_6 : decode cX9_ownerOf 6 = .ok (.bipush 15, 2) := by decide +kernel
theorem dX9_ownerOf_8 : decode cX9_ownerOf 8 = .ok (.iload_n 1, 1) := by decide +kernel
theorem dX9_ownerOf_9 : decode cX9_ownerOf 9 = .ok (.imul, 1) := by decide +kernel
theorem dX9_ownerOf_10 : decode cX9_ownerOf 10 = .ok (.iadd, 1) := by decide +kernel
theorem dX9_ownerOf_11 : decode cX9_ownerOf 11 = .ok (.iconst 3, 1) := by decide +kernel
theorem dX9_ownerOf_12 : decode cX9_ownerOf 12 = .ok (.iadd, 1) := by decide +kernel
theorem dX9_ownerOf_13 : decode cX9_ownerOf 13 = .ok (.iload_n 2, 1) := by decide +kernel
theorem dX9_ownerOf_14 : decode cX9_ownerOf 14 = .ok (.iadd, 1) := by decide +kernel
theorem dX9_ownerOf_15 : decode cX9_ownerOf 15 = .ok (.iaload, 1) := by decide +kernel
theorem dX9_ownerOf_16 : decode cX9_ownerOf 16 = .ok (.ireturn, 1) := by decide +kernel
theorem dX9_house_0 : decode cX9_house 0 = .ok (.aload_n 0, 1) := by decide +kernel
theorem dX9_house_1 : decode cX9_house 1 = .ok (.getfield 7, 3) := by decide +kernel
theorem dX9_house_4 : decode cX9_house 4 = .ok (.iconst 0, 1) := by decide +kernel
theorem dX9_house_5 : decode cX9_house 5 = .ok (.iaload, 1) := by decide +kernel
theorem dX9_house_6 : decode cX9_house 6 = .ok (.istore_n 3, 1) := by decide +kernel
theorem dX9_house_7 : decode cX9_house 7 = .ok (.iload_n 1, 1) := by decide +kernel
theorem dX9_house_8 : decode cX9_house 8 = .ok (.iconst 0, 1) := by decide +kernel
theorem dX9_house_9 : decode cX9_house 9 = .ok (.bipush 9, 2) := by decide +kernel
theorem dX9_house_11 : decode cX9_house 11 = .ok (.invokestatic 120, 3) := by decide +kernel
theorem dX9_house_14 : decode cX9_house 14 = .ok (.ifCond .eq 20, 3) := by decide +kernel
theorem dX9_house_17 : decode cX9_house 17 = .ok (.iload_n 2, 1) := by decide +kernel
theorem dX9_house_18 : decode cX9_house 18 = .ok (.iconst 0, 1) := by decide +kernel
theorem dX9_house_19 : decode cX9_house 19 = .ok (.sipush 999, 3) := by decide +kernel
theorem dX9_house_22 : decode cX9_house 22 = .ok (.invokestatic 120, 3) := by decide +kernel
theorem dX9_house_25 : decode cX9_house 25 = .ok (.ifCond .eq 9, 3) := by decide +kernel
theorem dX9_house_28 : decode cX9_house 28 = .ok (.iload_n 3, 1) := by decide +kernel
theorem dX9_house_29 : decode cX9_house 29 = .ok (.bipush 8, 2) := by decide +kernel
theorem dX9_house_31 : decode cX9_house 31 = .ok (.if_icmp .ne 5, 3) := by decide +kernel
theorem dX9_house_34 : decode cX9_house 34 = .ok (.iconst (-1), 1) := by decide +kernel
theorem dX9_house_35 : decode cX9_house 35 = .ok (.ireturn, 1) := by decide +kernel
theorem dX9_house_36 : decode cX9_house 36 = .ok (.aload_n 0, 1) := by decide +kernel
theorem dX9_house_37 : decode cX9_house 37 = .ok (.getfield 7, 3) := by decide +kernel
theorem dX9_house_40 : decode cX9_house 40 = .ok (.bipush 10, 2) := by decide +kernel
theorem dX9_house_42 : decode cX9_house 42 = .ok (.iload_n 3, 1) := by decide +kernel
theorem dX9_house_43 : decode cX9_house 43 = .ok (.iadd, 1) := by decide +kernel
theorem dX9_house_44 : decode cX9_house 44 = .ok (.iload_n 1, 1) := by decide +kernel
theorem dX9_house_45 : decode cX9_house 45 = .ok (.iastore, 1) := by decide +kernel
theorem dX9_house_46 : decode cX9_house 46 = .ok (.aload_n 0, 1) := by decide +kernel
theorem dX9_house_47 : decode cX9_house 47 = .ok (.getfield 7, 3) := by decide +kernel
theorem dX9_house_50 : decode cX9_house 50 = .ok (.bipush 40, 2) := by decide +kernel
theorem dX9_house_52 : decode cX9_house 52 = .ok (.iload_n 3, 1) := by decide +kernel
theorem dX9_house_53 : decode cX9_house 53 = .ok (.iadd, 1) := by decide +kernel
theorem dX9_house_54 : decode cX9_house 54 = .ok (.iload_n 2, 1) := by decide +kernel
theorem dX9_house_55 : decode cX9_house 55 = .ok (.iastore, 1) := by decide +kernel
theorem dX9_house_56 : decode cX9_house 56 = .ok (.iconst 0, 1) := by decide +kernel
theorem dX9_house_57 : decode cX9_house 57 = .ok (.istore 4, 2) := by decide +kernel
theorem dX9_house_59 : decode cX9_house 59 = .ok (.iload 4, 2) := by decide +kernel
theorem dX9_house_61 : decode cX9_house 61 = .ok (.aload_n 0, 1) := by decide +kernel
theorem dX9_house_62 : decode cX9_house 62 = .ok (.getfield 7, 3) := by decide +kernel
theorem dX9_house_65 : decode cX9_house 65 = .ok (.iconst 4, 1) := by decide +kernel
theorem dX9_house_66 : decode cX9_house 66 = .ok (.iaload, 1) := by decide +kernel
theorem dX9_house_67 : decode cX9_house 67 = .ok (.if_icmp .ge 33, 3) := by decide +kernel
theorem dX9_house_70 : decode cX9_house 70 = .ok (.aload_n 0, 1) := by decide +kernel
theorem dX9_house_71 : decode cX9_house 71 = .ok (.getfield 7, 3) := by decide +kernel
theorem dX9_house_74 : decode cX9_house 74 = .ok (.sipush 520, 3) := by decide +kernel
theorem dX9_house_77 : decode cX9_house 77 = .ok (.sipush 476, 3) := by decide +kernel
theorem dX9_house_80 : decode cX9_house 80 = .ok (.iload 4, 2) := by decide +kernel
theorem dX9_house_82 : decode cX9_house 82 = .ok (.imul, 1) := by decide +kernel
theorem dX9_house_83 : decode cX9_house 83 = .ok (.iadd, 1) := by decide +kernel
theorem dX9_house_84 : decode cX9_house 84 = .ok (.bipush 40, 2) := by decide +kernel
theorem dX9_house_86 : decode cX9_house 86 = .ok (.iadd, 1) := by decide +kernel
theorem dX9_house_87 : decode cX9_house 87 = .ok (.bipush 40, 2) := by decide +kernel
theorem dX9_house_89 : decode cX9_house 89 = .ok (.isub, 1) := by decide +kernel
theorem dX9_house_90 : decode cX9_house 90 = .ok (.iload_n 3, 1) := by decide +kernel
theorem dX9_house_91 : decode cX9_house 91 = .ok (.iadd, 1) := by decide +kernel
theorem dX9_house_92 : decode cX9_house 92 = .ok (.iload_n 2, 1) := by decide +kernel
theorem dX9_house_93 : decode cX9_house 93 = .ok (.iastore, 1) := by decide +kernel
theorem dX9_house_94 : decode cX9_house 94 = .ok (.iinc 4 1, 3) := by decide +kernel
theorem dX9_house_97 : decode cX9_house 97 = .ok (.goto (-38), 3) := by decide +kernel
theorem dX9_house_100 : decode cX9_house 100 = .ok (.aload_n 0, 1) := by decide +kernel
theorem dX9_house_101 : decode cX9_house 101 = .ok (.getfield 7, 3) := by decide +kernel
theorem dX9_house_104 : decode cX9_house 104 = .ok (.iconst 0, 1) := by decide +kernel
theorem dX9_house_105 : decode cX9_house 105 = .ok (.dup2, 1) := by decide +kernel
theorem dX9_house_106 : decode cX9_house 106 = .ok (.iaload, 1) := by decide +kernel
theorem dX9_house_107 : decode cX9_house 107 = .ok (.iconst 1, 1) := by decide +kernel
theorem dX9_house_108 : decode cX9_house 108 = .ok (.iadd, 1) := by decide +kernel
theorem dX9_house_109 : decode cX9_house 109 = .ok (.iastore, 1) := by decide +kernel
theorem dX9_house_110 : decode cX9_house 110 = .ok (.iload_n 3, 1) := by decide +kernel
theorem dX9_house_111 : decode cX9_house 111 = .ok (.ireturn, 1) := by decide +kernel
theorem dX9_tellsCandle_0 : decode cX9_tellsCandle 0 = .ok (.iload_n 1, 1) := by decide +kernel
theorem dX9_tellsCandle_1 : decode cX9_tellsCandle 1 = .ok (.bipush 64, 2) := by decide +kernel
theorem dX9_tellsCandle_3 : decode cX9_tellsCandle 3 = .ok (.iadd, 1) := by decide +kernel
theorem dX9_tellsCandle_4 : decode cX9_tellsCandle 4 = .ok (.bipush 40, 2) := by decide +kernel
theorem dX9_tellsCandle_6 : decode cX9_tellsCandle 6 = .ok (.isub, 1) := by decide +kernel
theorem dX9_tellsCandle_7 : decode cX9_tellsCandle 7 = .ok (.bipush 15, 2) := by decide +kernel
theorem dX9_tellsCandle_9 : decode cX9_tellsCandle 9 = .ok (.iload_n 2, 1) := by decide +kernel
theorem dX9_tellsCandle_10 : decode cX9_tellsCandle 10 = .ok (.imul, 1) := by decide +kernel
theorem dX9_tellsCandle_11 : decode cX9_tellsCandle 11 = .ok (.iadd, 1) := by decide +kernel
theorem dX9_tellsCandle_12 : decode cX9_tellsCandle 12 = .ok (.istore_n 3, 1) := by decide +kernel
theorem dX9_tellsCandle_13 : decode cX9_tellsCandle 13 = .ok (.aload_n 0, 1) := by decide +kernel
theorem dX9_tellsCandle_14 : decode cX9_tellsCandle 14 = .ok (.getfield 7, 3) := by decide +kernel
theorem dX9_tellsCandle_17 : decode cX9_tellsCandle 17 = .ok (.iload_n 3, 1) := by decide +kernel
theorem dX9_tellsCandle_18 : decode cX9_tellsCandle 18 = .ok (.iconst 0, 1) := by decide +kernel
theorem dX9_tellsCandle_19 : decode cX9_tellsCandle 19 = .ok (.iadd, 1) := by decide +kernel
theorem dX9_tellsCandle_20 : decode cX9_tellsCandle 20 = .ok (.iconst 0, 1) := by decide +kernel
theorem dX9_tellsCandle_21 : decode cX9_tellsCandle 21 = .ok (.iastore, 1) := by decide +kernel
theorem dX9_tellsCandle_22 : decode cX9_tellsCandle 22 = .ok (.aload_n 0, 1) := by decide +kernel
theorem dX9_tellsCandle_23 : decode cX9_tellsCandle 23 = .ok (.getfield 7, 3) := by decide +kernel
theorem dX9_tellsCandle_26 : decode cX9_tellsCandle 26 = .ok (.iload_n 3, 1) := by decide +kernel
theorem dX9_tellsCandle_27 : decode cX9_tellsCandle 27 = .ok (.iconst 1, 1) := by decide +kernel
theorem dX9_tellsCandle_28 : decode cX9_tellsCandle 28 = .ok (.iadd, 1) := by decide +kernel
theorem dX9_tellsCandle_29 : decode cX9_tellsCandle 29 = .ok (.iconst (-1), 1) := by decide +kernel
theorem dX9_tellsCandle_30 : decode cX9_tellsCandle 30 = .ok (.iastore, 1) := by decide +kernel
theorem dX9_tellsCandle_31 : decode cX9_tellsCandle 31 = .ok (.aload_n 0, 1) := by decide +kernel
theorem dX9_tellsCandle_32 : decode cX9_tellsCandle 32 = .ok (.getfield 7, 3) := by decide +kernel
theorem dX9_tellsCandle_35 : decode cX9_tellsCandle 35 = .ok (.iload_n 3, 1) := by decide +kernel
theorem dX9_tellsCandle_36 : decode cX9_tellsCandle 36 = .ok (.iconst 2, 1) := by decide +kernel
theorem dX9_tellsCandle_37 : decode cX9_tellsCandle 37 = .ok (.iadd, 1) := by decide +kernel
theorem dX9_tellsCandle_38 : decode cX9_tellsCandle 38 = .ok (.iconst 0, 1) := by decide +kernel
theorem dX9_tellsCandle_39 : decode cX9_tellsCandle 39 = .ok (.iastore, 1) := by decide +kernel
theorem dX9_tellsCandle_40 : decode cX9_tellsCandle 40 = .ok (.iconst 0, 1) := by decide +kernel
theorem dX9_tellsCandle_41 : decode cX9_tellsCandle 41 = .ok (.istore 4, 2) := by decide +kernel
theorem dX9_tellsCandle_43 : decode cX9_tellsCandle 43 = .ok (.iload 4, 2) := by decide +kernel
theorem dX9_tellsCandle_45 : decode cX9_tellsCandle 45 = .ok (.bipush 12, 2) := by decide +kernel
theorem dX9_tellsCandle_47 : decode cX9_tellsCandle 47 = .ok (.if_icmp .ge 21, 3) := by decide +kernel
theorem dX9_tellsCandle_50 : decode cX9_tellsCandle 50 = .ok (.aload_n 0, 1) := by decide +kernel
theorem dX9_tellsCandle_51 : decode cX9_tellsCandle 51 = .ok (.getfield 7, 3) := by decide +kernel
theorem dX9_tellsCandle_54 : decode cX9_tellsCandle 54 = .ok (.iload_n 3, 1) := by decide +kernel
theorem dX9_tellsCandle_55 : decode cX9_tellsCandle 55 = .ok (.iconst 3, 1) := by decide +kernel
theorem dX9_tellsCandle_56 : decode cX9_tellsCandle 56 = .ok (.iadd, 1) := by decide +kernel
theorem dX9_tellsCandle_57 : decode cX9_tellsCandle 57 = .ok (.iload 4, 2) := by decide +kernel
theorem dX9_tellsCandle_59 : decode cX9_tellsCandle 59 = .ok (.iadd, 1) := by decide +kernel
theorem dX9_tellsCandle_60 : decode cX9_tellsCandle 60 = .ok (.iconst (-1), 1) := by decide +kernel
theorem dX9_tellsCandle_61 : decode cX9_tellsCandle 61 = .ok (.iastore, 1) := by decide +kernel
theorem dX9_tellsCandle_62 : decode cX9_tellsCandle 62 = .ok (.iinc 4 1, 3) := by decide +kernel
theorem dX9_tellsCandle_65 : decode cX9_tellsCandle 65 = .ok (.goto (-22), 3) := by decide +kernel
theorem dX9_tellsCandle_68 : decode cX9_tellsCandle 68 = .ok (.return_, 1) := by decide +kernel
theorem dX9_candle_0 : decode cX9_candle 0 = .ok (.aload_n 0, 1) := by decide +kernel
theorem dX9_candle_1 : decode cX9_candle 1 = .ok (.getfield 7, 3) := by decide +kernel
theorem dX9_candle_4 : decode cX9_candle 4 = .ok (.iconst 1, 1) := by decide +kernel
theorem dX9_candle_5 : decode cX9_candle 5 = .ok (.iaload, 1) := by decide +kernel
theorem dX9_candle_6 : decode cX9_candle 6 = .ok (.istore_n 3, 1) := by decide +kernel
theorem dX9_candle_7 : decode cX9_candle 7 = .ok (.iload_n 1, 1) := by decide +kernel
theorem dX9_candle_8 : decode cX9_candle 8 = .ok (.iconst 1, 1) := by decide +kernel
theorem dX9_candle_9 : decode cX9_candle 9 = .ok (.bipush 9, 2) := by decide +kernel
theorem dX9_candle_11 : decode cX9_candle 11 = .ok (.invokestatic 120, 3) := by decide +kernel
theorem dX9_candle_14 : decode cX9_candle 14 = .ok (.ifCond .eq 19, 3) := by decide +kernel
theorem dX9_candle_17 : decode cX9_candle 17 = .ok (.iload_n 2, 1) := by decide +kernel
theorem dX9_candle_18 : decode cX9_candle 18 = .ok (.iconst 1, 1) := by decide +kernel
theorem dX9_candle_19 : decode cX9_candle 19 = .ok (.bipush 12, 2) := by decide +kernel
theorem dX9_candle_21 : decode cX9_candle 21 = .ok (.invokestatic 120, 3) := by decide +kernel
theorem dX9_candle_24 : decode cX9_candle 24 = .ok (.ifCond .eq 9, 3) := by decide +kernel
theorem dX9_candle_27 : decode cX9_candle 27 = .ok (.iload_n 3, 1) := by decide +kernel
theorem dX9_candle_28 : decode cX9_candle 28 = .ok (.bipush 6, 2) := by decide +kernel
theorem dX9_candle_30 : decode cX9_candle 30 = .ok (.if_icmp .ne 5, 3) := by decide +kernel
theorem dX9_candle_33 : decode cX9_candle 33 = .ok (.iconst (-1), 1) := by decide +kernel
theorem dX9_candle_34 : decode cX9_candle 34 = .ok (.ireturn, 1) := by decide +kernel
theorem dX9_candle_35 : decode cX9_candle 35 = .ok (.aload_n 0, 1) := by decide +kernel
theorem dX9_candle_36 : decode cX9_candle 36 = .ok (.getfield 7, 3) := by decide +kernel
theorem dX9_candle_39 : decode cX9_candle 39 = .ok (.bipush 20, 2) := by decide +kernel
theorem dX9_candle_41 : decode cX9_candle 41 = .ok (.iconst 2, 1) := by decide +kernel
theorem dX9_candle_42 : decode cX9_candle 42 = .ok (.iload_n 3, 1) := by decide +kernel
theorem dX9_candle_43 : decode cX9_candle 43 = .ok (.imul, 1) := by decide +kernel
theorem dX9_candle_44 : decode cX9_candle 44 = .ok (.iadd, 1) := by decide +kernel
theorem dX9_candle_45 : decode cX9_candle 45 = .ok (.iload_n 1, 1) := by decide +kernel
theorem dX9_candle_46 : decode cX9_candle 46 = .ok (.iastore, 1) := by decide +kernel
theorem dX9_candle_47 : decode cX9_candle 47 = .ok (.aload_n 0, 1) := by decide +kernel
theorem dX9_candle_48 : decode cX9_candle 48 = .ok (.getfield 7, 3) := by decide +kernel
theorem dX9_candle_51 : decode cX9_candle 51 = .ok (.bipush 20, 2) := by decide +kernel
theorem dX9_candle_53 : decode cX9_candle 53 = .ok (.iconst 2, 1) := by decide +kernel
theorem dX9_candle_54 : decode cX9_candle 54 = .ok (.iload_n 3, 1) := by decide +kernel
theorem dX9_candle_55 : decode cX9_candle 55 = .ok (.imul, 1) := by decide +kernel
theorem dX9_candle_56 : decode cX9_candle 56 = .ok (.iadd, 1) := by decide +kernel
theorem dX9_candle_57 : decode cX9_candle 57 = .ok (.iconst 1, 1) := by decide +kernel
theorem dX9_candle_58 : decode cX9_candle 58 = .ok (.iadd, 1) := by decide +kernel
theorem dX9_candle_59 : decode cX9_candle 59 = .ok (.iload_n 2, 1) := by decide +kernel
theorem dX9_candle_60 : decode cX9_candle 60 = .ok (.iastore, 1) := by decide +kernel
theorem dX9_candle_61 : decode cX9_candle 61 = .ok (.aload_n 0, 1) := by decide +kernel
theorem dX9_candle_62 : decode cX9_candle 62 = .ok (.bipush 40, 2) := by decide +kernel
theorem dX9_candle_64 : decode cX9_candle 64 = .ok (.iload_n 3, 1) := by decide +kernel
theorem dX9_candle_65 : decode cX9_candle 65 = .ok (.invokevirtual 124, 3) := by decide +kernel
theorem dX9_candle_68 : decode cX9_candle 68 = .ok (.iconst 0, 1) := by decide +kernel
theorem dX9_candle_69 : decode cX9_candle 69 = .ok (.istore 4, 2) := by decide +kernel
theorem dX9_candle_71 : decode cX9_candle 71 = .ok (.iload 4, 2) := by decide +kernel
theorem dX9_candle_73 : decode cX9_candle 73 = .ok (.aload_n 0, 1) := by decide +kernel
theorem dX9_candle_74 : decode cX9_candle 74 = .ok (.getfield 7, 3) := by decide +kernel
theorem dX9_candle_77 : decode cX9_candle 77 = .ok (.iconst 4, 1) := by decide +kernel
theorem dX9_candle_78 : decode cX9_candle 78 = .ok (.iaload, 1) := by decide +kernel
theorem dX9_candle_79 : decode cX9_candle 79 = .ok (.if_icmp .ge 24, 3) := by decide +kernel
theorem dX9_candle_82 : decode cX9_candle 82 = .ok (.aload_n 0, 1) := by decide +kernel
theorem dX9_candle_83 : decode cX9_candle 83 = .ok (.sipush 520, 3) := by decide +kernel
theorem dX9_candle_86 : decode cX9_candle 86 = .ok (.sipush 476, 3) := by decide +kernel
theorem dX9_candle_89 : decode cX9_candle 89 = .ok (.iload 4, 2) := by decide +kernel
theorem dX9_candle_91 : decode cX9_candle 91 = .ok (.imul, 1) := by decide +kernel
theorem dX9_candle_92 : decode cX9_candle 92 = .ok (.iadd, 1) := by decide +kernel
theorem dX9_candle_93 : decode cX9_candle 93 = .ok (.iload_n 3, 1) := by decide +kernel
theorem dX9_candle_94 : decode cX9_candle 94 = .ok (.invokevirtual 124, 3) := by decide +kernel
theorem dX9_candle_97 : decode cX9_candle 97 = .ok (.iinc 4 1, 3) := by decide +kernel
theorem dX9_candle_100 : decode cX9_candle 100 = .ok (.goto (-29), 3) := by decide +kernel
theorem dX9_candle_103 : decode cX9_candle 103 = .ok (.aload_n 0, 1) := by decide +kernel
theorem dX9_candle_104 : decode cX9_candle 104 = .ok (.getfield 7, 3) := by decide +kernel
theorem dX9_candle_107 : decode cX9_candle 107 = .ok (.iconst 1, 1) := by decide +kernel
theorem dX9_candle_108 : decode cX9_candle 108 = .ok (.dup2, 1) := by decide +kernel
theorem dX9_candle_109 : decode cX9_candle 109 = .ok (.iaload, 1) := by decide +kernel
theorem dX9_candle_110 : decode cX9_candle 110 = .ok (.iconst 1, 1) := by decide +kernel
theorem dX9_candle_111 : decode cX9_candle 111 = .ok (.iadd, 1) := by decide +kernel
theorem dX9_candle_112 : decode cX9_candle 112 = .ok (.iastore, 1) := by decide +kernel
theorem dX9_candle_113 : decode cX9_candle 113 = .ok (.iload_n 3, 1) := by decide +kernel
theorem dX9_candle_114 : decode cX9_candle 114 = .ok (.ireturn, 1) := by decide +kernel
theorem dX9_seed_0 : decode cX9_seed 0 = .ok (.iload_n 1, 1) := by decide +kernel
theorem dX9_seed_1 : decode cX9_seed 1 = .ok (.iconst 0, 1) := by decide +kernel
theorem dX9_seed_2 : decode cX9_seed 2 = .ok (.sipush 9999, 3) := by decide +kernel
theorem dX9_seed_5 : decode cX9_seed 5 = .ok (.invokestatic 120, 3) := by decide +kernel
theorem dX9_seed_8 : decode cX9_seed 8 = .ok (.ifCond .ne 5, 3) := by decide +kernel
theorem dX9_seed_11 : decode cX9_seed 11 = .ok (.iconst 0, 1) := by decide +kernel
theorem dX9_seed_12 : decode cX9_seed 12 = .ok (.ireturn, 1) := by decide +kernel
theorem dX9_seed_13 : decode cX9_seed 13 = .ok (.aload_n 0, 1) := by decide +kernel
theorem dX9_seed_14 : decode cX9_seed 14 = .ok (.getfield 7, 3) := by decide +kernel
theorem dX9_seed_17 : decode cX9_seed 17 = .ok (.sipush 515, 3) := by decide +kernel
theorem dX9_seed_20 : decode cX9_seed 20 = .ok (.iload_n 1, 1) := by decide +kernel
theorem dX9_seed_21 : decode cX9_seed 21 = .ok (.iconst 4, 1) := by decide +kernel
theorem dX9_seed_22 : decode cX9_seed 22 = .ok (.imul, 1) := by decide +kernel
theorem dX9_seed_23 : decode cX9_seed 23 = .ok (.iconst 5, 1) := by decide +kernel
theorem dX9_seed_24 : decode cX9_seed 24 = .ok (.iadd, 1) := by decide +kernel
theorem dX9_seed_25 : decode cX9_seed 25 = .ok (.iastore, 1) := by decide +kernel
theorem dX9_seed_26 : decode cX9_seed 26 = .ok (.iconst 1, 1) := by decide +kernel
theorem dX9_seed_27 : decode cX9_seed 27 = .ok (.ireturn, 1) := by decide +kernel
theorem dX9_keepsStep_0 : decode cX9_keepsStep 0 = .ok (.aload_n 0, 1) := by decide +kernel
theorem dX9_keepsStep_1 : decode cX9_keepsStep 1 = .ok (.getfield 7, 3) := by decide +kernel
theorem dX9_keepsStep_4 : decode cX9_keepsStep 4 = .ok (.iconst 4, 1) := by decide +kernel
theorem dX9_keepsStep_5 : decode cX9_keepsStep 5 = .ok (.iaload, 1) := by decide +kernel
theorem dX9_keepsStep_6 : decode cX9_keepsStep 6 = .ok (.bipush 30, 2) := by decide +kernel
theorem dX9_keepsStep_8 : decode cX9_keepsStep 8 = .ok (.if_icmp .ne 44, 3) := by decide +kernel
theorem dX9_keepsStep_11 : decode cX9_keepsStep 11 = .ok (.sipush 520, 3) := by decide +kernel
theorem dX9_keepsStep_14 : decode cX9_keepsStep 14 = .ok (.istore_n 1, 1) := by decide +kernel
theorem dX9_keepsStep_15 : decode cX9_keepsStep 15 = .ok (.iload_n 1, 1) := by decide +kernel
theorem dX9_keepsStep_16 : decode cX9_keepsStep 16 = .ok (.sipush 14324, 3) := by decide +kernel
theorem dX9_keepsStep_19 : decode cX9_keepsStep 19 = .ok (.if_icmp .ge 25, 3) := by decide +kernel
theorem dX9_keepsStep_22 : decode cX9_keepsStep 22 = .ok (.aload_n 0, 1) := by decide +kernel
theorem dX9_keepsStep_23 : decode cX9_keepsStep 23 = .ok (.getfield 7, 3) := by decide +kernel
theorem dX9_keepsStep_26 : decode cX9_keepsStep 26 = .ok (.iload_n 1, 1) := by decide +kernel
theorem dX9_keepsStep_27 : decode cX9_keepsStep 27 = .ok (.aload_n 0, 1) := by decide +kernel
theorem dX9_keepsStep_28 : decode cX9_keepsStep 28 = .ok (.getfield 7, 3) := by decide +kernel
theorem dX9_keepsStep_31 : decode cX9_keepsStep 31 = .ok (.iload_n 1, 1) := by decide +kernel
theorem dX9_keepsStep_32 : decode cX9_keepsStep 32 = .ok (.sipush 476, 3) := by decide +kernel
theorem dX9_keepsStep_35 : decode cX9_keepsStep 35 = .ok (.iadd, 1) := by decide +kernel
theorem dX9_keepsStep_36 : decode cX9_keepsStep 36 = .ok (.iaload, 1) := by decide +kernel
theorem dX9_keepsStep_37 : decode cX9_keepsStep 37 = .ok (.iastore, 1) := by decide +kernel
theorem dX9_keepsStep_38 : decode cX9_keepsStep 38 = .ok (.iinc 1 1, 3) := by decide +kernel
theorem dX9_keepsStep_41 : decode cX9_keepsStep 41 = .ok (.goto (-26), 3) := by decide +kernel
theorem dX9_keepsStep_44 : decode cX9_keepsStep 44 = .ok (.aload_n 0, 1) := by decide +kernel
theorem dX9_keepsStep_45 : decode cX9_keepsStep 45 = .ok (.getfield 7, 3) := by decide +kernel
theorem dX9_keepsStep_48 : decode cX9_keepsStep 48 = .ok (.iconst 4, 1) := by decide +kernel
theorem dX9_keepsStep_49 : decode cX9_keepsStep 49 = .ok (.bipush 29, 2) := by decide +kernel
theorem dX9_keepsStep_51 : decode cX9_keepsStep 51 = .ok (.iastore, 1) := by decide +kernel
theorem dX9_keepsStep_52 : decode cX9_keepsStep 52 = .ok (.iconst 0, 1) := by decide +kernel
theorem dX9_keepsStep_53 : decode cX9_keepsStep 53 = .ok (.istore_n 1, 1) := by decide +kernel
theorem dX9_keepsStep_54 : decode cX9_keepsStep 54 = .ok (.iload_n 1, 1) := by decide +kernel
theorem dX9_keepsStep_55 : decode cX9_keepsStep 55 = .ok (.sipush 476, 3) := by decide +kernel
theorem dX9_keepsStep_58 : decode cX9_keepsStep 58 = .ok (.if_icmp .ge 39, 3) := by decide +kernel
theorem dX9_keepsStep_61 : decode cX9_keepsStep 61 = .ok (.aload_n 0, 1) := by decide +kernel
theorem dX9_keepsStep_62 : decode cX9_keepsStep 62 = .ok (.getfield 7, 3) := by decide +kernel
theorem dX9_keepsStep_65 : decode cX9_keepsStep 65 = .ok (.sipush 520, 3) := by decide +kernel
theorem dX9_keepsStep_68 : decode cX9_keepsStep 68 = .ok (.sipush 476, 3) := by decide +kernel
theorem dX9_keepsStep_71 : decode cX9_keepsStep 71 = .ok (.aload_n 0, 1) := by decide +kernel
theorem dX9_keepsStep_72 : decode cX9_keepsStep 72 = .ok (.getfield 7, 3) := by decide +kernel
theorem dX9_keepsStep_75 : decode cX9_keepsStep 75 = .ok (.iconst 4, 1) := by decide +kernel
theorem dX9_keepsStep_76 : decode cX9_keepsStep 76 = .ok (.iaload, 1) := by decide +kernel
theorem dX9_keepsStep_77 : decode cX9_keepsStep 77 = .ok (.imul, 1) := by decide +kernel
theorem dX9_keepsStep_78 : decode cX9_keepsStep 78 = .ok (.iadd, 1) := by decide +kernel
theorem dX9_keepsStep_79 : decode cX9_keepsStep 79 = .ok (.iload_n 1, 1) := by decide +kernel
theorem dX9_keepsStep_80 : decode cX9_keepsStep 80 = .ok (.iadd, 1) := by decide +kernel
theorem dX9_keepsStep_81 : decode cX9_keepsStep 81 = .ok (.aload_n 0, 1) := by decide +kernel
theorem dX9_keepsStep_82 : decode cX9_keepsStep 82 = .ok (.getfield 7, 3) := by decide +kernel
theorem dX9_keepsStep_85 : decode cX9_keepsStep 85 = .ok (.bipush 40, 2) := by decide +kernel
theorem dX9_keepsStep_87 : decode cX9_keepsStep 87 = .ok (.iload_n 1, 1) := by decide +kernel
theorem dX9_keepsStep_88 : decode cX9_keepsStep 88 = .ok (.iadd, 1) := by decide +kernel
theorem dX9_keepsStep_89 : decode cX9_keepsStep 89 = .ok (.iaload, 1) := by decide +kernel
theorem dX9_keepsStep_90 : decode cX9_keepsStep 90 = .ok (.iastore, 1) := by decide +kernel
theorem dX9_keepsStep_91 : decode cX9_keepsStep 91 = .ok (.iinc 1 1, 3) := by decide +kernel
theorem dX9_keepsStep_94 : decode cX9_keepsStep 94 = .ok (.goto (-40), 3) := by decide +kernel
theorem dX9_keepsStep_97 : decode cX9_keepsStep 97 = .ok (.aload_n 0, 1) := by decide +kernel
theorem dX9_keepsStep_98 : decode cX9_keepsStep 98 = .ok (.getfield 7, 3) := by decide +kernel
theorem dX9_keepsStep_101 : decode cX9_keepsStep 101 = .ok (.iconst 4, 1) := by decide +kernel
theorem dX9_keepsStep_102 : decode cX9_keepsStep 102 = .ok (.dup2, 1) := by decide +kernel
theorem dX9_keepsStep_103 : decode cX9_keepsStep 103 = .ok (.iaload, 1) := by decide +kernel
theorem dX9_keepsStep_104 : decode cX9_keepsStep 104 = .ok (.iconst 1, 1) := by decide +kernel
theorem dX9_keepsStep_105 : decode cX9_keepsStep 105 = .ok (.iadd, 1) := by decide +kernel
theorem dX9_keepsStep_106 : decode cX9_keepsStep 106 = .ok (.iastore, 1) := by decide +kernel
theorem dX9_keepsStep_107 : decode cX9_keepsStep 107 = .ok (.return_, 1) := by decide +kernel
theorem dX9_undo_0 : decode cX9_undo 0 = .ok (.aload_n 0, 1) := by decide +kernel
theorem dX9_undo_1 : decode cX9_undo 1 = .ok (.getfield 7, 3) := by decide +kernel
theorem dX9_undo_4 : decode cX9_undo 4 = .ok (.iconst 4, 1) := by decide +kernel
theorem dX9_undo_5 : decode cX9_undo 5 = .ok (.iaload, 1) := by decide +kernel
theorem dX9_undo_6 : decode cX9_undo 6 = .ok (.ifCond .ne 5, 3) := by decide +kernel
theorem dX9_undo_9 : decode cX9_undo 9 = .ok (.iconst (-1), 1) := by decide +kernel
theorem dX9_undo_10 : decode cX9_undo 10 = .ok (.ireturn, 1) := by decide +kernel
theorem dX9_undo_11 : decode cX9_undo 11 = .ok (.aload_n 0, 1) := by decide +kernel
theorem dX9_undo_12 : decode cX9_undo 12 = .ok (.getfield 7, 3) := by decide +kernel
theorem dX9_undo_15 : decode cX9_undo 15 = .ok (.iconst 4, 1) := by decide +kernel
theorem dX9_undo_16 : decode cX9_undo 16 = .ok (.dup2, 1) := by decide +kernel
theorem dX9_undo_17 : decode cX9_undo 17 = .ok (.iaload, 1) := by decide +kernel
theorem dX9_undo_18 : decode cX9_undo 18 = .ok (.iconst 1, 1) := by decide +kernel
theorem dX9_undo_19 : decode cX9_undo 19 = .ok (.isub, 1) := by decide +kernel
theorem dX9_undo_20 : decode cX9_undo 20 = .ok (.iastore, 1) := by decide +kernel
theorem dX9_undo_21 : decode cX9_undo 21 = .ok (.iconst 0, 1) := by decide +kernel
theorem dX9_undo_22 : decode cX9_undo 22 = .ok (.istore_n 1, 1) := by decide +kernel
theorem dX9_undo_23 : decode cX9_undo 23 = .ok (.iload_n 1, 1) := by decide +kernel
theorem dX9_undo_24 : decode cX9_undo 24 = .ok (.sipush 476, 3) := by decide +kernel
theorem dX9_undo_27 : decode cX9_undo 27 = .ok (.if_icmp .ge 39, 3) := by decide +kernel
theorem dX9_undo_30 : decode cX9_undo 30 = .ok (.aload_n 0, 1) := by decide +kernel
theorem dX9_undo_31 : decode cX9_undo 31 = .ok (.getfield 7, 3) := by decide +kernel
theorem dX9_undo_34 : decode cX9_undo 34 = .ok (.bipush 40, 2) := by decide +kernel
theorem dX9_undo_36 : decode cX9_undo 36 = .ok (.iload_n 1, 1) := by decide +kernel
theorem dX9_undo_37 : decode cX9_undo 37 = .ok (.iadd, 1) := by decide +kernel
theorem dX9_undo_38 : decode cX9_undo 38 = .ok (.aload_n 0, 1) := by decide +kernel
theorem dX9_undo_39 : decode cX9_undo 39 = .ok (.getfield 7, 3) := by decide +kernel
theorem dX9_undo_42 : decode cX9_undo 42 = .ok (.sipush 520, 3) := by decide +kernel
theorem dX9_undo_45 : decode cX9_undo 45 = .ok (.sipush 476, 3) := by decide +kernel
theorem dX9_undo_48 : decode cX9_undo 48 = .ok (.aload_n 0, 1) := by decide +kernel
theorem dX9_undo_49 : decode cX9_undo 49 = .ok (.getfield 7, 3) := by decide +kernel
theorem dX9_undo_52 : decode cX9_undo 52 = .ok (.iconst 4, 1) := by decide +kernel
theorem dX9_undo_53 : decode cX9_undo 53 = .ok (.iaload, 1) := by decide +kernel
theorem dX9_undo_54 : decode cX9_undo 54 = .ok (.imul, 1) := by decide +kernel
theorem dX9_undo_55 : decode cX9_undo 55 = .ok (.iadd, 1) := by decide +kernel
theorem dX9_undo_56 : decode cX9_undo 56 = .ok (.iload_n 1, 1) := by decide +kernel
theorem dX9_undo_57 : decode cX9_undo 57 = .ok (.iadd, 1) := by decide +kernel
theorem dX9_undo_58 : decode cX9_undo 58 = .ok (.iaload, 1) := by decide +kernel
theorem dX9_undo_59 : decode cX9_undo 59 = .ok (.iastore, 1) := by decide +kernel
theorem dX9_undo_60 : decode cX9_undo 60 = .ok (.iinc 1 1, 3) := by decide +kernel
theorem dX9_undo_63 : decode cX9_undo 63 = .ok (.goto (-40), 3) := by decide +kernel
theorem dX9_undo_66 : decode cX9_undo 66 = .ok (.aload_n 0, 1) := by decide +kernel
theorem dX9_undo_67 : decode cX9_undo 67 = .ok (.getfield 7, 3) := by decide +kernel
theorem dX9_undo_70 : decode cX9_undo 70 = .ok (.iconst 4, 1) := by decide +kernel
theorem dX9_undo_71 : decode cX9_undo 71 = .ok (.iaload, 1) := by decide +kernel
theorem dX9_undo_72 : decode cX9_undo 72 = .ok (.ireturn, 1) := by decide +kernel
theorem dX9_draw_0 : decode cX9_draw 0 = .ok (.aload_n 0, 1) := by decide +kernel
theorem dX9_draw_1 : decode cX9_draw 1 = .ok (.getfield 7, 3) := by decide +kernel
theorem dX9_draw_4 : decode cX9_draw 4 = .ok (.sipush 515, 3) := by decide +kernel
theorem dX9_draw_7 : decode cX9_draw 7 = .ok (.iaload, 1) := by decide +kernel
theorem dX9_draw_8 : decode cX9_draw 8 = .ok (.iload_n 1, 1) := by decide +kernel
theorem dX9_draw_9 : decode cX9_draw 9 = .ok (.irem, 1) := by decide +kernel
theorem dX9_draw_10 : decode cX9_draw 10 = .ok (.istore_n 2, 1) := by decide +kernel
theorem dX9_draw_11 : decode cX9_draw 11 = .ok (.aload_n 0, 1) := by decide +kernel
theorem dX9_draw_12 : decode cX9_draw 12 = .ok (.getfield 7, 3) := by decide +kernel
theorem dX9_draw_15 : decode cX9_draw 15 = .ok (.sipush 515, 3) := by decide +kernel
theorem dX9_draw_18 : decode cX9_draw 18 = .ok (.aload_n 0, 1) := by decide +kernel
theorem dX9_draw_19 : decode cX9_draw 19 = .ok (.getfield 7, 3) := by decide +kernel
theorem dX9_draw_22 : decode cX9_draw 22 = .ok (.sipush 515, 3) := by decide +kernel
theorem dX9_draw_25 : decode cX9_draw 25 = .ok (.iaload, 1) := by decide +kernel
theorem dX9_draw_26 : decode cX9_draw 26 = .ok (.sipush 179, 3) := by decide +kernel
theorem dX9_draw_29 : decode cX9_draw 29 = .ok (.imul, 1) := by decide +kernel
theorem dX9_draw_30 : decode cX9_draw 30 = .ok (.bipush 83, 2) := by decide +kernel
theorem dX9_draw_32 : decode cX9_draw 32 = .ok (.iadd, 1) := by decide +kernel
theorem dX9_draw_33 : decode cX9_draw 33 = .ok (.sipush 30011, 3) := by decide +kernel
theorem dX9_draw_36 : decode cX9_draw 36 = .ok (.irem, 1) := by decide +kernel
theorem dX9_draw_37 : decode cX9_draw 37 = .ok (.iastore, 1) := by decide +kernel
theorem dX9_draw_38 : decode cX9_draw 38 = .ok (.iload_n 2, 1) := by decide +kernel
theorem dX9_draw_39 : decode cX9_draw 39 = .ok (.ireturn, 1) := by decide +kernel
theorem dX9_put_0 : decode cX9_put 0 = .ok (.bipush 24, 2) := by decide +kernel
theorem dX9_put_2 : decode cX9_put 2 = .ok (.istore_n 2, 1) := by decide +kernel
theorem dX9_put_3 : decode cX9_put 3 = .ok (.iload_n 2, 1) := by decide +kernel
theorem dX9_put_4 : decode cX9_put 4 = .ok (.ifCond .lt 34, 3) := by decide +kernel
theorem dX9_put_7 : decode cX9_put 7 = .ok (.aload_n 0, 1) := by decide +kernel
theorem dX9_put_8 : decode cX9_put 8 = .ok (.getfield 16, 3) := by decide +kernel
theorem dX9_put_11 : decode cX9_put 11 = .ok (.aload_n 0, 1) := by decide +kernel
theorem dX9_put_12 : decode cX9_put 12 = .ok (.getfield 128, 3) := by decide +kernel
theorem dX9_put_15 : decode cX9_put 15 = .ok (.iload_n 1, 1) := by decide +kernel
theorem dX9_put_16 : decode cX9_put 16 = .ok (.iload_n 2, 1) := by decide +kernel
theorem dX9_put_17 : decode cX9_put 17 = .ok (.ishr, 1) := by decide +kernel
theorem dX9_put_18 : decode cX9_put 18 = .ok (.i2b, 1) := by decide +kernel
theorem dX9_put_19 : decode cX9_put 19 = .ok (.bastore, 1) := by decide +kernel
theorem dX9_put_20 : decode cX9_put 20 = .ok (.aload_n 0, 1) := by decide +kernel
theorem dX9_put_21 : decode cX9_put 21 = .ok (.dup, 1) := by decide +kernel
theorem dX9_put_22 : decode cX9_put 22 = .ok (.getfield 128, 3) := by decide +kernel
theorem dX9_put_25 : decode cX9_put 25 = .ok (.iconst 1, 1) := by decide +kernel
theorem dX9_put_26 : decode cX9_put 26 = .ok (.iadd, 1) := by decide +kernel
theorem dX9_put_27 : decode cX9_put 27 = .ok (.putfield 128, 3) := by decide +kernel
theorem dX9_put_30 : decode cX9_put 30 = .ok (.iload_n 2, 1) := by decide +kernel
theorem dX9_put_31 : decode cX9_put 31 = .ok (.bipush 8, 2) := by decide +kernel
theorem dX9_put_33 : decode cX9_put 33 = .ok (.isub, 1) := by decide +kernel
theorem dX9_put_34 : decode cX9_put 34 = .ok (.istore_n 2, 1) := by decide +kernel
theorem dX9_put_35 : decode cX9_put 35 = .ok (.goto (-32), 3) := by decide +kernel
theorem dX9_put_38 : decode cX9_put 38 = .ok (.return_, 1) := by decide +kernel
theorem dX9_feed_0 : decode cX9_feed 0 = .ok (.aload_n 0, 1) := by decide +kernel
theorem dX9_feed_1 : decode cX9_feed 1 = .ok (.getfield 128, 3) := by decide +kernel
theorem dX9_feed_4 : decode cX9_feed 4 = .ok (.bipush 20, 2) := by decide +kernel
theorem dX9_feed_6 : decode cX9_feed 6 = .ok (.iadd, 1) := by decide +kernel
theorem dX9_feed_7 : decode cX9_feed 7 = .ok (.sipush 300, 3) := by decide +kernel
theorem dX9_feed_10 : decode cX9_feed 10 = .ok (.if_icmp .le 5, 3) := by decide +kernel
theorem dX9_feed_13 : decode cX9_feed 13 = .ok (.iconst (-1), 1) := by decide +kernel
theorem dX9_feed_14 : decode cX9_feed 14 = .ok (.ireturn, 1) := by decide +kernel
theorem dX9_feed_15 : decode cX9_feed 15 = .ok (.aload_n 0, 1) := by decide +kernel
theorem dX9_feed_16 : decode cX9_feed 16 = .ok (.iload_n 1, 1) := by decide +kernel
theorem dX9_feed_17 : decode cX9_feed 17 = .ok (.invokevirtual 131, 3) := by decide +kernel
theorem dX9_feed_20 : decode cX9_feed 20 = .ok (.aload_n 0, 1) := by decide +kernel
theorem dX9_feed_21 : decode cX9_feed 21 = .ok (.iload_n 2, 1) := by decide +kernel
theorem dX9_feed_22 : decode cX9_feed 22 = .ok (.invokevirtual 131, 3) := by decide +kernel
theorem dX9_feed_25 : decode cX9_feed 25 = .ok (.aload_n 0, 1) := by decide +kernel
theorem dX9_feed_26 : decode cX9_feed 26 = .ok (.iload_n 3, 1) := by decide +kernel
theorem dX9_feed_27 : decode cX9_feed 27 = .ok (.invokevirtual 131, 3) := by decide +kernel
theorem dX9_feed_30 : decode cX9_feed 30 = .ok (.aload_n 0, 1) := by decide +kernel
theorem dX9_feed_31 : decode cX9_feed 31 = .ok (.iload 4, 2) := by decide +kernel
theorem dX9_feed_33 : decode cX9_feed 33 = .ok (.invokevirtual 131, 3) := by decide +kernel
theorem dX9_feed_36 : decode cX9_feed 36 = .ok (.aload_n 0, 1) := by decide +kernel
theorem dX9_feed_37 : decode cX9_feed 37 = .ok (.iload 5, 2) := by decide +kernel
theorem dX9_feed_39 : decode cX9_feed 39 = .ok (.invokevirtual 131, 3) := by decide +kernel
theorem dX9_feed_42 : decode cX9_feed 42 = .ok (.aload_n 0, 1) := by decide +kernel
theorem dX9_feed_43 : decode cX9_feed 43 = .ok (.getfield 128, 3) := by decide +kernel
theorem dX9_feed_46 : decode cX9_feed 46 = .ok (.ireturn, 1) := by decide +kernel
theorem dX9_end_0 : decode cX9_end 0 = .ok (.iload_n 1, 1) := by decide +kernel
theorem dX9_end_1 : decode cX9_end 1 = .ok (.iconst 0, 1) := by decide +kernel
theorem dX9_end_2 : decode cX9_end 2 = .ok (.aload_n 0, 1) := by decide +kernel
theorem dX9_end_3 : decode cX9_end 3 = .ok (.getfield 128, 3) := by decide +kernel
theorem dX9_end_6 : decode cX9_end 6 = .ok (.invokestatic 120, 3) := by decide +kernel
theorem dX9_end_9 : decode cX9_end 9 = .ok (.ifCond .ne 5, 3) := by decide +kernel
theorem dX9_end_12 : decode cX9_end 12 = .ok (.iconst (-1), 1) := by decide +kernel
theorem dX9_end_13 : decode cX9_end 13 = .ok (.ireturn, 1) := by decide +kernel
theorem dX9_end_14 : decode cX9_end 14 = .ok (.aload_n 0, 1) := by decide +kernel
theorem dX9_end_15 : decode cX9_end 15 = .ok (.iload_n 1, 1) := by decide +kernel
theorem dX9_end_16 : decode cX9_end 16 = .ok (.putfield 128, 3) := by decide +kernel
theorem dX9_end_19 : decode cX9_end 19 = .ok (.iload_n 1, 1) := by decide +kernel
theorem dX9_end_20 : decode cX9_end 20 = .ok (.ireturn, 1) := by decide +kernel
theorem dX9_isLetter_0 : decode cX9_isLetter 0 = .ok (.iload_n 0, 1) := by decide +kernel
theorem dX9_isLetter_1 : decode cX9_isLetter 1 = .ok (.bipush 97, 2) := by decide +kernel
theorem dX9_isLetter_3 : decode cX9_isLetter 3 = .ok (.bipush 122, 2) := by decide +kernel
theorem dX9_isLetter_5 : decode cX9_isLetter 5 = .ok (.invokestatic 120, 3) := by decide +kernel
theorem dX9_isLetter_8 : decode cX9_isLetter 8 = .ok (.ifCond .ne 14, 3) := by decide +kernel
theorem dX9_isLetter_11 : decode cX9_isLetter 11 = .ok (.iload_n 0, 1) := by decide +kernel
theorem dX9_isLetter_12 : decode cX9_isLetter 12 = .ok (.bipush 65, 2) := by decide +kernel
theorem dX9_isLetter_14 : decode cX9_isLetter 14 = .ok (.bipush 90, 2) := by decide +kernel
theorem dX9_isLetter_16 : decode cX9_isLetter 16 = .ok (.invokestatic 120, 3) := by decide +kernel
theorem dX9_isLetter_19 : decode cX9_isLetter 19 = .ok (.ifCond .eq 7, 3) := by decide +kernel
theorem dX9_isLetter_22 : decode cX9_isLetter 22 = .ok (.iconst 1, 1) := by decide +kernel
theorem dX9_isLetter_23 : decode cX9_isLetter 23 = .ok (.goto 4, 3) := by decide +kernel
theorem dX9_isLetter_26 : decode cX9_isLetter 26 = .ok (.iconst 0, 1) := by decide +kernel
theorem dX9_isLetter_27 : decode cX9_isLetter 27 = .ok (.ireturn, 1) := by decide +kernel
theorem dX9_wordOf_0 : decode cX9_wordOf 0 = .ok (.lload_n 0, 1) := by decide +kernel
theorem dX9_wordOf_1 : decode cX9_wordOf 1 = .ok (.ldc2_w 135, 3) := by decide +kernel
theorem dX9_wordOf_4 : decode cX9_wordOf 4 = .ok (.lcmp, 1) := by decide +kernel
theorem dX9_wordOf_5 : decode cX9_wordOf 5 = .ok (.ifCond .ne 5, 3) := by decide +kernel
theorem dX9_wordOf_8 : decode cX9_wordOf 8 = .ok (.iconst 0, 1) := by decide +kernel
theorem dX9_wordOf_9 : decode cX9_wordOf 9 = .ok (.ireturn, 1) := by decide +kernel
theorem dX9_wordOf_10 : decode cX9_wordOf 10 = .ok (.lload_n 0, 1) := by decide +kernel
theorem dX9_wordOf_11 : decode cX9_wordOf 11 = .ok (.ldc2_w 137, 3) := by decide +kernel
theorem dX9_wordOf_14 : decode cX9_wordOf 14 = .ok (.lcmp, 1) := by decide +kernel
theorem dX9_wordOf_15 : decode cX9_wordOf 15 = .ok (.ifCond .ne 5, 3) := by decide +kernel
theorem dX9_wordOf_18 : decode cX9_wordOf 18 = .ok (.iconst 1, 1) := by decide +kernel
theorem dX9_wordOf_19 : decode cX9_wordOf 19 = .ok (.ireturn, 1) := by decide +kernel
theorem dX9_wordOf_20 : decode cX9_wordOf 20 = .ok (.lload_n 0, 1) := by decide +kernel
theorem dX9_wordOf_21 : decode cX9_wordOf 21 = .ok (.ldc2_w 139, 3) := by decide +kernel
theorem dX9_wordOf_24 : decode cX9_wordOf 24 = .ok (.lcmp, 1) := by decide +kernel
theorem dX9_wordOf_25 : decode cX9_wordOf 25 = .ok (.ifCond .ne 5, 3) := by decide +kernel
theorem dX9_wordOf_28 : decode cX9_wordOf 28 = .ok (.iconst 2, 1) := by decide +kernel
theorem dX9_wordOf_29 : decode cX9_wordOf 29 = .ok (.ireturn, 1) := by decide +kernel
theorem dX9_wordOf_30 : decode cX9_wordOf 30 = .ok (.lload_n 0, 1) := by decide +kernel
theorem dX9_wordOf_31 : decode cX9_wordOf 31 = .ok (.ldc2_w 141, 3) := by decide +kernel
theorem dX9_wordOf_34 : decode cX9_wordOf 34 = .ok (.lcmp, 1) := by decide +kernel
theorem dX9_wordOf_35 : decode cX9_wordOf 35 = .ok (.ifCond .ne 5, 3) := by decide +kernel
theorem dX9_wordOf_38 : decode cX9_wordOf 38 = .ok (.iconst 3, 1) := by decide +kernel
theorem dX9_wordOf_39 : decode cX9_wordOf 39 = .ok (.ireturn, 1) := by decide +kernel
theorem dX9_wordOf_40 : decode cX9_wordOf 40 = .ok (.lload_n 0, 1) := by decide +kernel
theorem dX9_wordOf_41 : decode cX9_wordOf 41 = .ok (.ldc2_w 143, 3) := by decide +kernel
theorem dX9_wordOf_44 : decode cX9_wordOf 44 = .ok (.lcmp, 1) := by decide +kernel
theorem dX9_wordOf_45 : decode cX9_wordOf 45 = .ok (.ifCond .ne 5, 3) := by decide +kernel
theorem dX9_wordOf_48 : decode cX9_wordOf 48 = .ok (.iconst 4, 1) := by decide +kernel
theorem dX9_wordOf_49 : decode cX9_wordOf 49 = .ok (.ireturn, 1) := by decide +kernel
theorem dX9_wordOf_50 : decode cX9_wordOf 50 = .ok (.lload_n 0, 1) := by decide +kernel
theorem dX9_wordOf_51 : decode cX9_wordOf 51 = .ok (.ldc2_w 145, 3) := by decide +kernel
theorem dX9_wordOf_54 : decode cX9_wordOf 54 = .ok (.lcmp, 1) := by decide +kernel
theorem dX9_wordOf_55 : decode cX9_wordOf 55 = .ok (.ifCond .ne 5, 3) := by decide +kernel
theorem dX9_wordOf_58 : decode cX9_wordOf 58 = .ok (.iconst 5, 1) := by decide +kernel
theorem dX9_wordOf_59 : decode cX9_wordOf 59 = .ok (.ireturn, 1) := by decide +kernel
theorem dX9_wordOf_60 : decode cX9_wordOf 60 = .ok (.lload_n 0, 1) := by decide +kernel
theorem dX9_wordOf_61 : decode cX9_wordOf 61 = .ok (.ldc2_w 147, 3) := by decide +kernel
theorem dX9_wordOf_64 : decode cX9_wordOf 64 = .ok (.lcmp, 1) := by decide +kernel
theorem dX9_wordOf_65 : decode cX9_wordOf 65 = .ok (.ifCond .ne 6, 3) := by decide +kernel
theorem dX9_wordOf_68 : decode cX9_wordOf 68 = .ok (.bipush 6, 2) := by decide +kernel
theorem dX9_wordOf_70 : decode cX9_wordOf 70 = .ok (.ireturn, 1) := by decide +kernel
theorem dX9_wordOf_71 : decode cX9_wordOf 71 = .ok (.lload_n 0, 1) := by decide +kernel
theorem dX9_wordOf_72 : decode cX9_wordOf 72 = .ok (.ldc2_w 149, 3) := by decide +kernel
theorem dX9_wordOf_75 : decode cX9_wordOf 75 = .ok (.lcmp, 1) := by decide +kernel
theorem dX9_wordOf_76 : decode cX9_wordOf 76 = .ok (.ifCond .ne 6, 3) := by decide +kernel
theorem dX9_wordOf_79 : decode cX9_wordOf 79 = .ok (.bipush 7, 2) := by decide +kernel
theorem dX9_wordOf_81 : decode cX9_wordOf 81 = .ok (.ireturn, 1) := by decide +kernel
theorem dX9_wordOf_82 : decode cX9_wordOf 82 = .ok (.lload_n 0, 1) := by decide +kernel
theorem dX9_wordOf_83 : decode cX9_wordOf 83 = .ok (.ldc2_w 151, 3) := by decide +kernel
theorem dX9_wordOf_86 : decode cX9_wordOf 86 = .ok (.lcmp, 1) := by decide +kernel
theorem dX9_wordOf_87 : decode cX9_wordOf 87 = .ok (.ifCond .ne 6, 3) := by decide +kernel
theorem dX9_wordOf_90 : decode cX9_wordOf 90 = .ok (.bipush 8, 2) := by decide +kernel
theorem dX9_wordOf_92 : decode cX9_wordOf 92 = .ok (.ireturn, 1) := by decide +kernel
theorem dX9_wordOf_93 : decode cX9_wordOf 93 = .ok (.lload_n 0, 1) := by decide +kernel
theorem dX9_wordOf_94 : decode cX9_wordOf 94 = .ok (.ldc2_w 153, 3) := by decide +kernel
theorem dX9_wordOf_97 : decode cX9_wordOf 97 = .ok (.lcmp, 1) := by decide +kernel
theorem dX9_wordOf_98 : decode cX9_wordOf 98 = .ok (.ifCond .ne 6, 3) := by decide +kernel
theorem dX9_wordOf_101 : decode cX9_wordOf 101 = .ok (.bipush 9, 2) := by decide +kernel
theorem dX9_wordOf_103 : decode cX9_wordOf 103 = .ok (.ireturn, 1) := by decide +kernel
theorem dX9_wordOf_104 : decode cX9_wordOf 104 = .ok (.lload_n 0, 1) := by decide +kernel
theorem dX9_wordOf_105 : decode cX9_wordOf 105 = .ok (.ldc2_w 155, 3) := by decide +kernel
theorem dX9_wordOf_108 : decode cX9_wordOf 108 = .ok (.lcmp, 1) := by decide +kernel
theorem dX9_wordOf_109 : decode cX9_wordOf 109 = .ok (.ifCond .ne 6, 3) := by decide +kernel
theorem dX9_wordOf_112 : decode cX9_wordOf 112 = .ok (.bipush 10, 2) := by decide +kernel
theorem dX9_wordOf_114 : decode cX9_wordOf 114 = .ok (.ireturn, 1) := by decide +kernel
theorem dX9_wordOf_115 : decode cX9_wordOf 115 = .ok (.lload_n 0, 1) := by decide +kernel
theorem dX9_wordOf_116 : decode cX9_wordOf 116 = .ok (.ldc2_w 157, 3) := by decide +kernel
theorem dX9_wordOf_119 : decode cX9_wordOf 119 = .ok (.lcmp, 1) := by decide +kernel
theorem dX9_wordOf_120 : decode cX9_wordOf 120 = .ok (.ifCond .ne 6, 3) := by decide +kernel
theorem dX9_wordOf_123 : decode cX9_wordOf 123 = .ok (.bipush 11, 2) := by decide +kernel
theorem dX9_wordOf_125 : decode cX9_wordOf 125 = .ok (.ireturn, 1) := by decide +kernel
theorem dX9_wordOf_126 : decode cX9_wordOf 126 = .ok (.lload_n 0, 1) := by decide +kernel
theorem dX9_wordOf_127 : decode cX9_wordOf 127 = .ok (.ldc2_w 159, 3) := by decide +kernel
theorem dX9_wordOf_130 : decode cX9_wordOf 130 = .ok (.lcmp, 1) := by decide +kernel
theorem dX9_wordOf_131 : decode cX9_wordOf 131 = .ok (.ifCond .ne 6, 3) := by decide +kernel
theorem dX9_wordOf_134 : decode cX9_wordOf 134 = .ok (.bipush 12, 2) := by decide +kernel
theorem dX9_wordOf_136 : decode cX9_wordOf 136 = .ok (.ireturn, 1) := by decide +kernel
theorem dX9_wordOf_137 : decode cX9_wordOf 137 = .ok (.lload_n 0, 1) := by decide +kernel
theorem dX9_wordOf_138 : decode cX9_wordOf 138 = .ok (.ldc2_w 161, 3) := by decide +kernel
theorem dX9_wordOf_141 : decode cX9_wordOf 141 = .ok (.lcmp, 1) := by decide +kernel
theorem dX9_wordOf_142 : decode cX9_wordOf 142 = .ok (.ifCond .ne 6, 3) := by decide +kernel
theorem dX9_wordOf_145 : decode cX9_wordOf 145 = .ok (.bipush 13, 2) := by decide +kernel
theorem dX9_wordOf_147 : decode cX9_wordOf 147 = .ok (.ireturn, 1) := by decide +kernel
theorem dX9_wordOf_148 : decode cX9_wordOf 148 = .ok (.lload_n 0, 1) := by decide +kernel
theorem dX9_wordOf_149 : decode cX9_wordOf 149 = .ok (.ldc2_w 163, 3) := by decide +kernel
theorem dX9_wordOf_152 : decode cX9_wordOf 152 = .ok (.lcmp, 1) := by decide +kernel
theorem dX9_wordOf_153 : decode cX9_wordOf 153 = .ok (.ifCond .ne 6, 3) := by decide +kernel
theorem dX9_wordOf_156 : decode cX9_wordOf 156 = .ok (.bipush 14, 2) := by decide +kernel
theorem dX9_wordOf_158 : decode cX9_wordOf 158 = .ok (.ireturn, 1) := by decide +kernel
theorem dX9_wordOf_159 : decode cX9_wordOf 159 = .ok (.lload_n 0, 1) := by decide +kernel
theorem dX9_wordOf_160 : decode cX9_wordOf 160 = .ok (.ldc2_w 165, 3) := by decide +kernel
theorem dX9_wordOf_163 : decode cX9_wordOf 163 = .ok (.lcmp, 1) := by decide +kernel
theorem dX9_wordOf_164 : decode cX9_wordOf 164 = .ok (.ifCond .ne 6, 3) := by decide +kernel
theorem dX9_wordOf_167 : decode cX9_wordOf 167 = .ok (.bipush 15, 2) := by decide +kernel
theorem dX9_wordOf_169 : decode cX9_wordOf 169 = .ok (.ireturn, 1) := by decide +kernel
theorem dX9_wordOf_170 : decode cX9_wordOf 170 = .ok (.lload_n 0, 1) := by decide +kernel
theorem dX9_wordOf_171 : decode cX9_wordOf 171 = .ok (.ldc2_w 167, 3) := by decide +kernel
theorem dX9_wordOf_174 : decode cX9_wordOf 174 = .ok (.lcmp, 1) := by decide +kernel
theorem dX9_wordOf_175 : decode cX9_wordOf 175 = .ok (.ifCond .ne 6, 3) := by decide +kernel
theorem dX9_wordOf_178 : decode cX9_wordOf 178 = .ok (.bipush 16, 2) := by decide +kernel
theorem dX9_wordOf_180 : decode cX9_wordOf 180 = .ok (.ireturn, 1) := by decide +kernel
theorem dX9_wordOf_181 : decode cX9_wordOf 181 = .ok (.lload_n 0, 1) := by decide +kernel
theorem dX9_wordOf_182 : decode cX9_wordOf 182 = .ok (.ldc2_w 169, 3) := by decide +kernel
theorem dX9_wordOf_185 : decode cX9_wordOf 185 = .ok (.lcmp, 1) := by decide +kernel
theorem dX9_wordOf_186 : decode cX9_wordOf 186 = .ok (.ifCond .ne 6, 3) := by decide +kernel
theorem dX9_wordOf_189 : decode cX9_wordOf 189 = .ok (.bipush 17, 2) := by decide +kernel
theorem dX9_wordOf_191 : decode cX9_wordOf 191 = .ok (.ireturn, 1) := by decide +kernel
theorem dX9_wordOf_192 : decode cX9_wordOf 192 = .ok (.iconst (-1), 1) := by decide +kernel
theorem dX9_wordOf_193 : decode cX9_wordOf 193 = .ok (.ireturn, 1) := by decide +kernel
theorem dX9_next_0 : decode cX9_next 0 = .ok (.aload_n 0, 1) := by decide +kernel
theorem dX9_next_1 : decode cX9_next 1 = .ok (.getfield 171, 3) := by decide +kernel
theorem dX9_next_4 : decode cX9_next 4 = .ok (.aload_n 0, 1) := by decide +kernel
theorem dX9_next_5 : decode cX9_next 5 = .ok (.getfield 174, 3) := by decide +kernel
theorem dX9_next_8 : decode cX9_next 8 = .ok (.if_icmp .ge 44, 3) := by decide +kernel
theorem dX9_next_11 : decode cX9_next 11 = .ok (.aload_n 0, 1) := by decide +kernel
theorem dX9_next_12 : decode cX9_next 12 = .ok (.getfield 16, 3) := by decide +kernel
theorem dX9_next_15 : decode cX9_next 15 = .ok (.aload_n 0, 1) := by decide +kernel
theorem dX9_next_16 : decode cX9_next 16 = .ok (.getfield 171, 3) := by decide +kernel
theorem dX9_next_19 : decode cX9_next 19 = .ok (.baload, 1) := by decide +kernel
theorem dX9_next_20 : decode cX9_next 20 = .ok (.bipush 32, 2) := by decide +kernel
theorem dX9_next_22 : decode cX9_next 22 = .ok (.if_icmp .eq 17, 3) := by decide +kernel
theorem dX9_next_25 : decode cX9_next 25 = .ok (.aload_n 0, 1) := by decide +kernel
theorem dX9_next_26 : decode cX9_next 26 = .ok (.getfield 16, 3) := by decide +kernel
theorem dX9_next_29 : decode cX9_next 29 = .ok (.aload_n 0, 1) := by decide +kernel
theorem dX9_next_30 : decode cX9_next 30 = .ok (.getfield 171, 3) := by decide +kernel
theorem dX9_next_33 : decode cX9_next 33 = .ok (.baload, 1) := by decide +kernel
theorem dX9_next_34 : decode cX9_next 34 = .ok (.bipush 10, 2) := by decide +kernel
theorem dX9_next_36 : decode cX9_next 36 = .ok (.if_icmp .ne 16, 3) := by decide +kernel
theorem dX9_next_39 : decode cX9_next 39 = .ok (.aload_n 0, 1) := by decide +kernel
theorem dX9_next_40 : decode cX9_next 40 = .ok (.dup, 1) := by decide +kernel
theorem dX9_next_41 : decode cX9_next 41 = .ok (.getfield 171, 3) := by decide +kernel
theorem dX9_next_44 : decode cX9_next 44 = .ok (.iconst 1, 1) := by decide +kernel
theorem dX9_next_45 : decode cX9_next 45 = .ok (.iadd, 1) := by decide +kernel
theorem dX9_next_46 : decode cX9_next 46 = .ok (.putfield 171, 3) := by decide +kernel
theorem dX9_next_49 : decode cX9_next 49 = .ok (.goto (-49), 3) := by decide +kernel
theorem dX9_next_52 : decode cX9_next 52 = .ok (.aload_n 0, 1) := by decide +kernel
theorem dX9_next_53 : decode cX9_next 53 = .ok (.aload_n 0, 1) := by decide +kernel
theorem dX9_next_54 : decode cX9_next 54 = .ok (.getfield 171, 3) := by decide +kernel
theorem dX9_next_57 : decode cX9_next 57 = .ok (.putfield 177, 3) := by decide +kernel
theorem dX9_next_60 : decode cX9_next 60 = .ok (.aload_n 0, 1) := by decide +kernel
theorem dX9_next_61 : decode cX9_next 61 = .ok (.getfield 171, 3) := by decide +kernel
theorem dX9_next_64 : decode cX9_next 64 = .ok (.aload_n 0, 1) := by decide +kernel
theorem dX9_next_65 : decode cX9_next 65 = .ok (.getfield 174, 3) := by decide +kernel
theorem dX9_next_68 : decode cX9_next 68 = .ok (.if_icmp .ne 9, 3) := by decide +kernel
theorem dX9_next_71 : decode cX9_next 71 = .ok (.aload_n 0, 1) := by decide +kernel
theorem dX9_next_72 : decode cX9_next 72 = .ok (.iconst 0, 1) := by decide +kernel
theorem dX9_next_73 : decode cX9_next 73 = .ok (.putfield 180, 3) := by decide +kernel
theorem dX9_next_76 : decode cX9_next 76 = .ok (.return_, 1) := by decide +kernel
theorem dX9_next_77 : decode cX9_next 77 = .ok (.aload_n 0, 1) := by decide +kernel
theorem dX9_next_78 : decode cX9_next 78 = .ok (.getfield 16, 3) := by decide +kernel
theorem dX9_next_81 : decode cX9_next 81 = .ok (.aload_n 0, 1) := by decide +kernel
theorem dX9_next_82 : decode cX9_next 82 = .ok (.getfield 171, 3) := by decide +kernel
theorem dX9_next_85 : decode cX9_next 85 = .ok (.baload, 1) := by decide +kernel
theorem dX9_next_86 : decode cX9_next 86 = .ok (.istore_n 1, 1) := by decide +kernel
theorem dX9_next_87 : decode cX9_next 87 = .ok (.iload_n 1, 1) := by decide +kernel
theorem dX9_next_88 : decode cX9_next 88 = .ok (.invokestatic 183, 3) := by decide +kernel
theorem dX9_next_91 : decode cX9_next 91 = .ok (.ifCond .eq 120, 3) := by decide +kernel
theorem dX9_next_94 : decode cX9_next 94 = .ok (.lconst 0, 1) := by decide +kernel
theorem dX9_next_95 : decode cX9_next 95 = .ok (.lstore_n 2, 1) := by decide +kernel
theorem dX9_next_96 : decode cX9_next 96 = .ok (.iconst 0, 1) := by decide +kernel
theorem dX9_next_97 : decode cX9_next 97 = .ok (.istore 4, 2) := by decide +kernel
theorem dX9_next_99 : decode cX9_next 99 = .ok (.aload_n 0, 1) := by decide +kernel
theorem dX9_next_100 : decode cX9_next 100 = .ok (.getfield 171, 3) := by decide +kernel
theorem dX9_next_103 : decode cX9_next 103 = .ok (.aload_n 0, 1) := by decide +kernel
theorem dX9_next_104 : decode cX9_next 104 = .ok (.getfield 174, 3) := by decide +kernel
theorem dX9_next_107 : decode cX9_next 107 = .ok (.if_icmp .ge 66, 3) := by decide +kernel
theorem dX9_next_110 : decode cX9_next 110 = .ok (.aload_n 0, 1) := by decide +kernel
theorem dX9_next_111 : decode cX9_next 111 = .ok (.getfield 16, 3) := by decide +kernel
theorem dX9_next_114 : decode cX9_next 114 = .ok (.aload_n 0, 1) := by decide +kernel
theorem dX9_next_115 : decode cX9_next 115 = .ok (.getfield 171, 3) := by decide +kernel
theorem dX9_next_118 : decode cX9_next 118 = .ok (.baload, 1) := by decide +kernel
theorem dX9_next_119 : decode cX9_next 119 = .ok (.invokestatic 183, 3) := by decide +kernel
theorem dX9_next_122 : decode cX9_next 122 = .ok (.ifCond .eq 51, 3) := by decide +kernel
theorem dX9_next_125 : decode cX9_next 125 = .ok (.iload 4, 2) := by decide +kernel
theorem dX9_next_127 : decode cX9_next 127 = .ok (.bipush 8, 2) := by decide +kernel
theorem dX9_next_129 : decode cX9_next 129 = .ok (.if_icmp .ge 26, 3) := by decide +kernel
theorem dX9_next_132 : decode cX9_next 132 = .ok (.ldc2_w 187, 3) := by decide +kernel
theorem dX9_next_135 : decode cX9_next 135 = .ok (.lload_n 2, 1) := by decide +kernel
theorem dX9_next_136 : decode cX9_next 136 = .ok (.lmul, 1) := by decide +kernel
theorem dX9_next_137 : decode cX9_next 137 = .ok (.aload_n 0, 1) := by decide +kernel
theorem dX9_next_138 : decode cX9_next 138 = .ok (.getfield 16, 3) := by decide +kernel
theorem dX9_next_141 : decode cX9_next 141 = .ok (.aload_n 0, 1) := by decide +kernel
theorem dX9_next_142 : decode cX9_next 142 = .ok (.getfield 171, 3) := by decide +kernel
theorem dX9_next_145 : decode cX9_next 145 = .ok (.baload, 1) := by decide +kernel
theorem dX9_next_146 : decode cX9_next 146 = .ok (.i2l, 1) := by decide +kernel
theorem dX9_next_147 : decode cX9_next 147 = .ok (.ladd, 1) := by decide +kernel
theorem dX9_next_148 : decode cX9_next 148 = .ok (.ldc2_w 187, 3) := by decide +kernel
theorem dX9_next_151 : decode cX9_next 151 = .ok (.lsub, 1) := by decide +kernel
theorem dX9_next_152 : decode cX9_next 152 = .ok (.goto 4, 3) := by decide +kernel
theorem dX9_next_155 : decode cX9_next 155 = .ok (.lload_n 2, 1) := by decide +kernel
theorem dX9_next_156 : decode cX9_next 156 = .ok (.lstore_n 2, 1) := by decide +kernel
theorem dX9_next_157 : decode cX9_next 157 = .ok (.iinc 4 1, 3) := by decide +kernel
theorem dX9_next_160 : decode cX9_next 160 = .ok (.aload_n 0, 1) := by decide +kernel
theorem dX9_next_161 : decode cX9_next 161 = .ok (.dup, 1) := by decide +kernel
theorem dX9_next_162 : decode cX9_next 162 = .ok (.getfield 171, 3) := by decide +kernel
theorem dX9_next_165 : decode cX9_next 165 = .ok (.iconst 1, 1) := by decide +kernel
theorem dX9_next_166 : decode cX9_next 166 = .ok (.iadd, 1) := by decide +kernel
theorem dX9_next_167 : decode cX9_next 167 = .ok (.putfield 171, 3) := by decide +kernel
theorem dX9_next_170 : decode cX9_next 170 = .ok (.goto (-71), 3) := by decide +kernel
theorem dX9_next_173 : decode cX9_next 173 = .ok (.aload_n 0, 1) := by decide +kernel
theorem dX9_next_174 : decode cX9_next 174 = .ok (.iload 4, 2) := by decide +kernel
theorem dX9_next_176 : decode cX9_next 176 = .ok (.bipush 7, 2) := by decide +kernel
theorem dX9_next_178 : decode cX9_next 178 = .ok (.if_icmp .le 7, 3) := by decide +kernel
theorem dX9_next_181 : decode cX9_next 181 = .ok (.iconst (-1), 1) := by decide +kernel
theorem dX9_next_182 : decode cX9_next 182 = .ok (.goto 7, 3) := by decide +kernel
theorem dX9_next_185 : decode cX9_next 185 = .ok (.lload_n 2, 1) := by decide +kernel
theorem dX9_next_186 : decode cX9_next 186 = .ok (.invokestatic 189, 3) := by decide +kernel
theorem dX9_next_189 : decode cX9_next 189 = .ok (.putfield 193, 3) := by decide +kernel
theorem dX9_next_192 : decode cX9_next 192 = .ok (.aload_n 0, 1) := by decide +kernel
theorem dX9_next_193 : decode cX9_next 193 = .ok (.aload_n 0, 1) := by decide +kernel
theorem dX9_next_194 : decode cX9_next 194 = .ok (.getfield 193, 3) := by decide +kernel
theorem dX9_next_197 : decode cX9_next 197 = .ok (.ifCond .ge 7, 3) := by decide +kernel
theorem dX9_next_200 : decode cX9_next 200 = .ok (.iconst 4, 1) := by decide +kernel
theorem dX9_next_201 : decode cX9_next 201 = .ok (.goto 4, 3) := by decide +kernel
theorem dX9_next_204 : decode cX9_next 204 = .ok (.iconst 1, 1) := by decide +kernel
theorem dX9_next_205 : decode cX9_next 205 = .ok (.putfield 180, 3) := by decide +kernel
theorem dX9_next_208 : decode cX9_next 208 = .ok (.goto 231, 3) := by decide +kernel
theorem dX9_next_211 : decode cX9_next 211 = .ok (.iload_n 1, 1) := by decide +kernel
theorem dX9_next_212 : decode cX9_next 212 = .ok (.bipush 48, 2) := by decide +kernel
theorem dX9_next_214 : decode cX9_next 214 = .ok (.bipush 57, 2) := by decide +kernel
theorem dX9_next_216 : decode cX9_next 216 = .ok (.invokestatic 120, 3) := by decide +kernel
theorem dX9_next_219 : decode cX9_next 219 = .ok (.ifCond .eq 96, 3) := by decide +kernel
theorem dX9_next_222 : decode cX9_next 222 = .ok (.aload_n 0, 1) := by decide +kernel
theorem dX9_next_223 : decode cX9_next 223 = .ok (.iconst 2, 1) := by decide +kernel
theorem dX9_next_224 : decode cX9_next 224 = .ok (.putfield 180, 3) := by decide +kernel
theorem dX9_next_227 : decode cX9_next 227 = .ok (.aload_n 0, 1) := by decide +kernel
theorem dX9_next_228 : decode cX9_next 228 = .ok (.iconst 0, 1) := by decide +kernel
theorem dX9_next_229 : decode cX9_next 229 = .ok (.putfield 193, 3) := by decide +kernel
theorem dX9_next_232 : decode cX9_next 232 = .ok (.aload_n 0, 1) := by decide +kernel
theorem dX9_next_233 : decode cX9_next 233 = .ok (.getfield 171, 3) := by decide +kernel
theorem dX9_next_236 : decode cX9_next 236 = .ok (.aload_n 0, 1) := by decide +kernel
theorem dX9_next_237 : decode cX9_next 237 = .ok (.getfield 174, 3) := by decide +kernel
theorem dX9_next_240 : decode cX9_next 240 = .ok (.if_icmp .ge 199, 3) := by decide +kernel
theorem dX9_next_243 : decode cX9_next 243 = .ok (.aload_n 0, 1) := by decide +kernel
theorem dX9_next_244 : decode cX9_next 244 = .ok (.getfield 16, 3) := by decide +kernel
theorem dX9_next_247 : decode cX9_next 247 = .ok (.aload_n 0, 1) := by decide +kernel
theorem dX9_next_248 : decode cX9_next 248 = .ok (.getfield 171, 3) := by decide +kernel
theorem dX9_next_251 : decode cX9_next 251 = .ok (.baload, 1) := by decide +kernel
theorem dX9_next_252 : decode cX9_next 252 = .ok (.bipush 48, 2) := by decide +kernel
theorem dX9_next_254 : decode cX9_next 254 = .ok (.bipush 57, 2) := by decide +kernel
theorem dX9_next_256 : decode cX9_next 256 = .ok (.invokestatic 120, 3) := by decide +kernel
theorem dX9_next_259 : decode cX9_next 259 = .ok (.ifCond .eq 180, 3) := by decide +kernel
theorem dX9_next_262 : decode cX9_next 262 = .ok (.aload_n 0, 1) := by decide +kernel
theorem dX9_next_263 : decode cX9_next 263 = .ok (.aload_n 0, 1) := by decide +kernel
theorem dX9_next_264 : decode cX9_next 264 = .ok (.getfield 193, 3) := by decide +kernel
theorem dX9_next_267 : decode cX9_next 267 = .ok (.ldc 196, 2) := by decide +kernel
theorem dX9_next_269 : decode cX9_next 269 = .ok (.if_icmp .le 10, 3) := by decide +kernel
theorem dX9_next_272 : decode cX9_next 272 = .ok (.aload_n 0, 1) := by decide +kernel
theorem dX9_next_273 : decode cX9_next 273 = .ok (.getfield 193, 3) := by decide +kernel
theorem dX9_next_276 : decode cX9_next 276 = .ok (.goto 23, 3) := by decide +kernel
theorem dX9_next_279 : decode cX9_next 279 = .ok (.bipush 10, 2) := by decide +kernel
theorem dX9_next_281 : decode cX9_next 281 = .ok (.aload_n 0, 1) := by decide +kernel
theorem dX9_next_282 : decode cX9_next 282 = .ok (.getfield 193, 3) := by decide +kernel
theorem dX9_next_285 : decode cX9_next 285 = .ok (.imul, 1) := by decide +kernel
theorem dX9_next_286 : decode cX9_next 286 = .ok (.aload_n 0, 1) := by decide +kernel
theorem dX9_next_287 : decode cX9_next 287 = .ok (.getfield 16, 3) := by decide +kernel
theorem dX9_next_290 : decode cX9_next 290 = .ok (.aload_n 0, 1) := by decide +kernel
theorem dX9_next_291 : decode cX9_next 291 = .ok (.getfield 171, 3) := by decide +kernel
theorem dX9_next_294 : decode cX9_next 294 = .ok (.baload, 1) := by decide +kernel
theorem dX9_next_295 : decode cX9_next 295 = .ok (.iadd, 1) := by decide +kernel
theorem dX9_next_296 : decode cX9_next 296 = .ok (.bipush 48, 2) := by decide +kernel
theorem dX9_next_298 : decode cX9_next 298 = .ok (.isub, 1) := by decide +kernel
theorem dX9_next_299 : decode cX9_next 299 = .ok (.putfield 193, 3) := by decide +kernel
theorem dX9_next_302 : decode cX9_next 302 = .ok (.aload_n 0, 1) := by decide +kernel
theorem dX9_next_303 : decode cX9_next 303 = .ok (.dup, 1) := by decide +kernel
theorem dX9_next_304 : decode cX9_next 304 = .ok (.getfield 171, 3) := by decide +kernel
theorem dX9_next_307 : decode cX9_next 307 = .ok (.iconst 1, 1) := by decide +kernel
theorem dX9_next_308 : decode cX9_next 308 = .ok (.iadd, 1) := by decide +kernel
theorem dX9_next_309 : decode cX9_next 309 = .ok (.putfield 171, 3) := by decide +kernel
theorem dX9_next_312 : decode cX9_next 312 = .ok (.goto (-80), 3) := by decide +kernel
theorem dX9_next_315 : decode cX9_next 315 = .ok (.aload_n 0, 1) := by decide +kernel
theorem dX9_next_316 : decode cX9_next 316 = .ok (.dup, 1) := by decide +kernel
theorem dX9_next_317 : decode cX9_next 317 = .ok (.getfield 171, 3) := by decide +kernel
theorem dX9_next_320 : decode cX9_next 320 = .ok (.iconst 1, 1) := by decide +kernel
theorem dX9_next_321 : decode cX9_next 321 = .ok (.iadd, 1) := by decide +kernel
theorem dX9_next_322 : decode cX9_next 322 = .ok (.putfield 171, 3) := by decide +kernel
theorem dX9_next_325 : decode cX9_next 325 = .ok (.aload_n 0, 1) := by decide +kernel
theorem dX9_next_326 : decode cX9_next 326 = .ok (.iload_n 1, 1) := by decide +kernel
theorem dX9_next_327 : decode cX9_next 327 = .ok (.putfield 193, 3) := by decide +kernel
theorem dX9_next_330 : decode cX9_next 330 = .ok (.aload_n 0, 1) := by decide +kernel
theorem dX9_next_331 : decode cX9_next 331 = .ok (.iload_n 1, 1) := by decide +kernel
theorem dX9_next_332 : decode cX9_next 332 = .ok (.bipush 59, 2) := by decide +kernel
theorem dX9_next_334 : decode cX9_next 334 = .ok (.bipush 62, 2) := by decide +kernel
theorem dX9_next_336 : decode cX9_next 336 = .ok (.invokestatic 120, 3) := by decide +kernel
theorem dX9_next_339 : decode cX9_next 339 = .ok (.ifCond .ne 26, 3) := by decide +kernel
theorem dX9_next_342 : decode cX9_next 342 = .ok (.iload_n 1, 1) := by decide +kernel
theorem dX9_next_343 : decode cX9_next 343 = .ok (.bipush 40, 2) := by decide +kernel
theorem dX9_next_345 : decode cX9_next 345 = .ok (.bipush 45, 2) := by decide +kernel
theorem dX9_next_347 : decode cX9_next 347 = .ok (.invokestatic 120, 3) := by decide +kernel
theorem dX9_next_350 : decode cX9_next 350 = .ok (.ifCond .ne 15, 3) := by decide +kernel
theorem dX9_next_353 : decode cX9_next 353 = .ok (.iload_n 1, 1) := by decide +kernel
theorem dX9_next_354 : decode cX9_next 354 = .ok (.bipush 47, 2) := by decide +kernel
theorem dX9_next_356 : decode cX9_next 356 = .ok (.if_icmp .eq 9, 3) := by decide +kernel
theorem dX9_next_359 : decode cX9_next 359 = .ok (.iload_n 1, 1) := by decide +kernel
theorem dX9_next_360 : decode cX9_next 360 = .ok (.bipush 35, 2) := by decide +kernel
theorem dX9_next_362 : decode cX9_next 362 = .ok (.if_icmp .ne 7, 3) := by decide +kernel
theorem dX9_next_365 : decode cX9_next 365 = .ok (.iconst 3, 1) := by decide +kernel
theorem dX9_next_366 : decode cX9_next 366 = .ok (.goto 4, 3) := by decide +kernel
theorem dX9_next_369 : decode cX9_next 369 = .ok (.iconst 4, 1) := by decide +kernel
theorem dX9_next_370 : decode cX9_next 370 = .ok (.putfield 180, 3) := by decide +kernel
theorem dX9_next_373 : decode cX9_next 373 = .ok (.iload_n 1, 1) := by decide +kernel
theorem dX9_next_374 : decode cX9_next 374 = .ok (.bipush 60, 2) := by decide +kernel
theorem dX9_next_376 : decode cX9_next 376 = .ok (.if_icmp .eq 9, 3) := by decide +kernel
theorem dX9_next_379 : decode cX9_next 379 = .ok (.iload_n 1, 1) := by decide +kernel
theorem dX9_next_380 : decode cX9_next 380 = .ok (.bipush 62, 2) := by decide +kernel
theorem dX9_next_382 : decode cX9_next 382 = .ok (.if_icmp .ne 57, 3) := by decide +kernel
theorem dX9_next_385 : decode cX9_next 385 = .ok (.aload_n 0, 1) := by decide +kernel
theorem dX9_next_386 : decode cX9_next 386 = .ok (.getfield 171, 3) := by decide +kernel
theorem dX9_next_389 : decode cX9_next 389 = .ok (.aload_n 0, 1) := by decide +kernel
theorem dX9_next_390 : decode cX9_next 390 = .ok (.getfield 174, 3) := by decide +kernel
theorem dX9_next_393 : decode cX9_next 393 = .ok (.if_icmp .ge 46, 3) := by decide +kernel
theorem dX9_next_396 : decode cX9_next 396 = .ok (.aload_n 0, 1) := by decide +kernel
theorem dX9_next_397 : decode cX9_next 397 = .ok (.getfield 16, 3) := by decide +kernel
theorem dX9_next_400 : decode cX9_next 400 = .ok (.aload_n 0, 1) := by decide +kernel
theorem dX9_next_401 : decode cX9_next 401 = .ok (.getfield 171, 3) := by decide +kernel
theorem dX9_next_404 : decode cX9_next 404 = .ok (.baload, 1) := by decide +kernel
theorem dX9_next_405 : decode cX9_next 405 = .ok (.bipush 61, 2) := by decide +kernel
theorem dX9_next_407 : decode cX9_next 407 = .ok (.if_icmp .ne 32, 3) := by decide +kernel
theorem dX9_next_410 : decode cX9_next 410 = .ok (.aload_n 0, 1) := by decide +kernel
theorem dX9_next_411 : decode cX9_next 411 = .ok (.iload_n 1, 1) := by decide +kernel
theorem dX9_next_412 : decode cX9_next 412 = .ok (.bipush 60, 2) := by decide +kernel
theorem dX9_next_414 : decode cX9_next 414 = .ok (.if_icmp .ne 9, 3) := by decide +kernel
theorem dX9_next_417 : decode cX9_next 417 = .ok (.sipush 300, 3) := by decide +kernel
theorem dX9_next_420 : decode cX9_next 420 = .ok (.goto 6, 3) := by decide +kernel
theorem dX9_next_423 : decode cX9_next 423 = .ok (.sipush 301, 3) := by decide +kernel
theorem dX9_next_426 : decode cX9_next 426 = .ok (.putfield 193, 3) := by decide +kernel
theorem dX9_next_429 : decode cX9_next 429 = .ok (.aload_n 0, 1) := by decide +kernel
theorem dX9_next_430 : decode cX9_next 430 = .ok (.dup, 1) := by decide +kernel
theorem dX9_next_431 : decode cX9_next 431 = .ok (.getfield 171, 3) := by decide +kernel
theorem dX9_next_434 : decode cX9_next 434 = .ok (.iconst 1, 1) := by decide +kernel
theorem dX9_next_435 : decode cX9_next 435 = .ok (.iadd, 1) := by decide +kernel
theorem dX9_next_436 : decode cX9_next 436 = .ok (.putfield 171, 3) := by decide +kernel
theorem dX9_next_439 : decode cX9_next 439 = .ok (.return_, 1) := by decide +kernel
theorem dX9_isSign_0 : decode cX9_isSign 0 = .ok (.aload_n 0, 1) := by decide +kernel
theorem dX9_isSign_1 : decode cX9_isSign 1 = .ok (.getfield 180, 3) := by decide +kernel
theorem dX9_isSign_4 : decode cX9_isSign 4 = .ok (.iconst 3, 1) := by decide +kernel
theorem dX9_isSign_5 : decode cX9_isSign 5 = .ok (.if_icmp .ne 15, 3) := by decide +kernel
theorem dX9_isSign_8 : decode cX9_isSign 8 = .ok (.aload_n 0, 1) := by decide +kernel
theorem dX9_isSign_9 : decode cX9_isSign 9 = .ok (.getfield 193, 3) := by decide +kernel
theorem dX9_isSign_12 : decode cX9_isSign 12 = .ok (.iload_n 1, 1) := by decide +kernel
theorem dX9_isSign_13 : decode cX9_isSign 13 = .ok (.if_icmp .ne 7, 3) := by decide +kernel
theorem dX9_isSign_16 : decode cX9_isSign 16 = .ok (.iconst 1, 1) := by decide +kernel
theorem dX9_isSign_17 : decode cX9_isSign 17 = .ok (.goto 4, 3) := by decide +kernel
theorem dX9_isSign_20 : decode cX9_isSign 20 = .ok (.iconst 0, 1) := by decide +kernel
theorem dX9_isSign_21 : decode cX9_isSign 21 = .ok (.ireturn, 1) := by decide +kernel
theorem dX9_isWord_0 : decode cX9_isWord 0 = .ok (.aload_n 0, 1) := by decide +kernel
theorem dX9_isWord_1 : decode cX9_isWord 1 = .ok (.getfield 180, 3) := by decide +kernel
theorem dX9_isWord_4 : decode cX9_isWord 4 = .ok (.iconst 1, 1) := by decide +kernel
theorem dX9_isWord_5 : decode cX9_isWord 5 = .ok (.if_icmp .ne 15, 3) := by decide +kernel
theorem dX9_isWord_8 : decode cX9_isWord 8 = .ok (.aload_n 0, 1) := by decide +kernel
theorem dX9_isWord_9 : decode cX9_isWord 9 = .ok (.getfield 193, 3) := by decide +kernel
theorem dX9_isWord_12 : decode cX9_isWord 12 = .ok (.iload_n 1, 1) := by decide +kernel
theorem dX9_isWord_13 : decode cX9_isWord 13 = .ok (.if_icmp .ne 7, 3) := by decide +kernel
theorem dX9_isWord_16 : decode cX9_isWord 16 = .ok (.iconst 1, 1) := by decide +kernel
theorem dX9_isWord_17 : decode cX9_isWord 17 = .ok (.goto 4, 3) := by decide +kernel
theorem dX9_isWord_20 : decode cX9_isWord 20 = .ok (.iconst 0, 1) := by decide +kernel
theorem dX9_isWord_21 : decode cX9_isWord 21 = .ok (.ireturn, 1) := by decide +kernel
theorem dX9_errs_0 : decode cX9_errs 0 = .ok (.aload_n 0, 1) := by decide +kernel
theorem dX9_errs_1 : decode cX9_errs 1 = .ok (.getfield 197, 3) := by decide +kernel
theorem dX9_errs_4 : decode cX9_errs 4 = .ok (.ifCond .ne 16, 3) := by decide +kernel
theorem dX9_errs_7 : decode cX9_errs 7 = .ok (.aload_n 0, 1) := by decide +kernel
theorem dX9_errs_8 : decode cX9_errs 8 = .ok (.iload_n 1, 1) := by decide +kernel
theorem dX9_errs_9 : decode cX9_errs 9 = .ok (.putfield 197, 3) := by decide +kernel
theorem dX9_errs_12 : decode cX9_errs 12 = .ok (.aload_n 0, 1) := by decide +kernel
theorem dX9_errs_13 : decode cX9_errs 13 = .ok (.aload_n 0, 1) := by decide +kernel
theorem dX9_errs_14 : decode cX9_errs 14 = .ok (.getfield 177, 3) := by decide +kernel
theorem dX9_errs_17 : decode cX9_errs 17 = .ok (.putfield 200, 3) := by decide +kernel
theorem dX9_errs_20 : decode cX9_errs 20 = .ok (.return_, 1) := by decide +kernel
theorem dX9_emits_0 : decode cX9_emits 0 = .ok (.aload_n 0, 1) := by decide +kernel
theorem dX9_emits_1 : decode cX9_emits 1 = .ok (.getfield 75, 3) := by decide +kernel
theorem dX9_emits_4 : decode cX9_emits 4 = .ok (.aload_n 0, 1) := by decide +kernel
theorem dX9_emits_5 : decode cX9_emits 5 = .ok (.getfield 203, 3) := by decide +kernel
theorem dX9_emits_8 : decode cX9_emits 8 = .ok (.iload_n 1, 1) := by decide +kernel
theorem dX9_emits_9 : decode cX9_emits 9 = .ok (.iastore, 1) := by decide +kernel
theorem dX9_emits_10 : decode cX9_emits 10 = .ok (.aload_n 0, 1) := by decide +kernel
theorem dX9_emits_11 : decode cX9_emits 11 = .ok (.getfield 78, 3) := by decide +kernel
theorem dX9_emits_14 : decode cX9_emits 14 = .ok (.aload_n 0, 1) := by decide +kernel
theorem dX9_emits_15 : decode cX9_emits 15 = .ok (.getfield 203, 3) := by decide +kernel
theorem dX9_emits_18 : decode cX9_emits 18 = .ok (.iload_n 2, 1) := by decide +kernel
theorem dX9_emits_19 : decode cX9_emits 19 = .ok (.iastore, 1) := by decide +kernel
theorem dX9_emits_20 : decode cX9_emits 20 = .ok (.aload_n 0, 1) := by decide +kernel
theorem dX9_emits_21 : decode cX9_emits 21 = .ok (.dup, 1) := by decide +kernel
theorem dX9_emits_22 : decode cX9_emits 22 = .ok (.getfield 203, 3) := by decide +kernel
theorem dX9_emits_25 : decode cX9_emits 25 = .ok (.iconst 1, 1) := by decide +kernel
theorem dX9_emits_26 : decode cX9_emits 26 = .ok (.iadd, 1) := by decide +kernel
theorem dX9_emits_27 : decode cX9_emits 27 = .ok (.putfield 203, 3) := by decide +kernel
theorem dX9_emits_30 : decode cX9_emits 30 = .ok (.return_, 1) := by decide +kernel
theorem dX9_opensFrame_0 : decode cX9_opensFrame 0 = .ok (.aload_n 0, 1) := by decide +kernel
theorem dX9_opensFrame_1 : decode cX9_opensFrame 1 = .ok (.getfield 51, 3) := by decide +kernel
theorem dX9_opensFrame_4 : decode cX9_opensFrame 4 = .ok (.aload_n 0, 1) := by decide +kernel
theorem dX9_opensFrame_5 : decode cX9_opensFrame 5 = .ok (.getfield 206, 3) := by decide +kernel
theorem dX9_opensFrame_8 : decode cX9_opensFrame 8 = .ok (.iload_n 1, 1) := by decide +kernel
theorem dX9_opensFrame_9 : decode cX9_opensFrame 9 = .ok (.iastore, 1) := by decide +kernel
theorem dX9_opensFrame_10 : decode cX9_opensFrame 10 = .ok (.aload_n 0, 1) := by decide +kernel
theorem dX9_opensFrame_11 : decode cX9_opensFrame 11 = .ok (.dup, 1) := by decide +kernel
theorem dX9_opensFrame_12 : decode cX9_opensFrame 12 = .ok (.getfield 206, 3) := by decide +kernel
theorem dX9_opensFrame_15 : decode cX9_opensFrame 15 = .ok (.iconst 1, 1) := by decide +kernel
theorem dX9_opensFrame_16 : decode cX9_opensFrame 16 = .ok (.iadd, 1) := by decide +kernel
theorem dX9_opensFrame_17 : decode cX9_opensFrame 17 = .ok (.putfield 206, 3) := by decide +kernel
theorem dX9_opensFrame_20 : decode cX9_opensFrame 20 = .ok (.return_, 1) := by decide +kernel
theorem dX9_top_0 : decode cX9_top 0 = .ok (.aload_n 0, 1) := by decide +kernel
theorem dX9_top_1 : decode cX9_top 1 = .ok (.getfield 51, 3) := by decide +kernel
theorem dX9_top_4 : decode cX9_top 4 = .ok (.aload_n 0, 1) := by decide +kernel
theorem dX9_top_5 : decode cX9_top 5 = .ok (.getfield 206, 3) := by decide +kernel
theorem dX9_top_8 : decode cX9_top 8 = .ok (.iconst 1, 1) := by decide +kernel
theorem dX9_top_9 : decode cX9_top 9 = .ok (.isub, 1) := by decide +kernel
theorem dX9_top_10 : decode cX9_top 10 = .ok (.iaload, 1) := by decide +kernel
theorem dX9_top_11 : decode cX9_top 11 = .ok (.ireturn, 1) := by decide +kernel
theorem dX9_opensSign_0 : decode cX9_opensSign 0 = .ok (.aload_n 0, 1) := by decide +kernel
theorem dX9_opensSign_1 : decode cX9_opensSign 1 = .ok (.getfield 209, 3) := by decide +kernel
theorem dX9_opensSign_4 : decode cX9_opensSign 4 = .ok (.bipush 8, 2) := by decide +kernel
theorem dX9_opensSign_6 : decode cX9_opensSign 6 = .ok (.if_icmp .ne 10, 3) := by decide +kernel
theorem dX9_opensSign_9 : decode cX9_opensSign 9 = .ok (.aload_n 0, 1) := by decide +kernel
theorem dX9_opensSign_10 : decode cX9_opensSign 10 = .ok (.iconst 3, 1) := by decide +kernel
theorem dX9_opensSign_11 : decode cX9_opensSign 11 = .ok (.invokevirtual 212, 3) := by decide +kernel
theorem dX9_opensSign_14 : decode cX9_opensSign 14 = .ok (.iconst 0, 1) := by decide +kernel
theorem dX9_opensSign_15 : decode cX9_opensSign 15 = .ok (.ireturn, 1) := by decide +kernel
theorem dX9_opensSign_16 : decode cX9_opensSign 16 = .ok (.aload_n 0, 1) := by decide +kernel
theorem dX9_opensSign_17 : decode cX9_opensSign 17 = .ok (.dup, 1) := by decide +kernel
theorem dX9_opensSign_18 : decode cX9_opensSign 18 = .ok (.getfield 209, 3) := by decide +kernel
theorem dX9_opensSign_21 : decode cX9_opensSign 21 = .ok (.iconst 1, 1) := by decide +kernel
theorem dX9_opensSign_22 : decode cX9_opensSign 22 = .ok (.iadd, 1) := by decide +kernel
theorem dX9_opensSign_23 : decode cX9_opensSign 23 = .ok (.putfield 209, 3) := by decide +kernel
theorem dX9_opensSign_26 : decode cX9_opensSign 26 = .ok (.aload_n 0, 1) := by decide +kernel
theorem dX9_opensSign_27 : decode cX9_opensSign 27 = .ok (.iload_n 1, 1) := by decide +kernel
theorem dX9_opensSign_28 : decode cX9_opensSign 28 = .ok (.invokevirtual 215, 3) := by decide +kernel
theorem dX9_opensSign_31 : decode cX9_opensSign 31 = .ok (.aload_n 0, 1) := by decide +kernel
theorem dX9_opensSign_32 : decode cX9_opensSign 32 = .ok (.invokevirtual 218, 3) := by decide +kernel
theorem dX9_opensSign_35 : decode cX9_opensSign 35 = .ok (.iconst 1, 1) := by decide +kernel
theorem dX9_opensSign_36 : decode cX9_opensSign 36 = .ok (.ireturn, 1) := by decide +kernel
theorem dX9_rank_0 : decode cX9_rank 0 = .ok (.iload_n 0, 1) := by decide +kernel
theorem dX9_rank_1 : decode cX9_rank 1 = .ok (.bipush 43, 2) := by decide +kernel
theorem dX9_rank_3 : decode cX9_rank 3 = .ok (.if_icmp .eq 9, 3) := by decide +kernel
theorem dX9_rank_6 : decode cX9_rank 6 = .ok (.iload_n 0, 1) := by decide +kernel
theorem dX9_rank_7 : decode cX9_rank 7 = .ok (.bipush 45, 2) := by decide +kernel
theorem dX9_rank_9 : decode cX9_rank 9 = .ok (.if_icmp .ne 7, 3) := by decide +kernel
theorem dX9_rank_12 : decode cX9_rank 12 = .ok (.iconst 3, 1) := by decide +kernel
theorem dX9_rank_13 : decode cX9_rank 13 = .ok (.goto 4, 3) := by decide +kernel
theorem dX9_rank_16 : decode cX9_rank 16 = .ok (.iconst 4, 1) := by decide +kernel
theorem dX9_rank_17 : decode cX9_rank 17 = .ok (.ireturn, 1) := by decide +kernel
theorem dX9_works_0 : decode cX9_works 0 = .ok (.aload_n 0, 1) := by decide +kernel
theorem dX9_works_1 : decode cX9_works 1 = .ok (.getfield 221, 3) := by decide +kernel
theorem dX9_works_4 : decode cX9_works 4 = .ok (.ifCond .le 66, 3) := by decide +kernel
theorem dX9_works_7 : decode cX9_works 7 = .ok (.aload_n 0, 1) := by decide +kernel
theorem dX9_works_8 : decode cX9_works 8 = .ok (.getfield 57, 3) := by decide +kernel
theorem dX9_works_11 : decode cX9_works 11 = .ok (.aload_n 0, 1) := by decide +kernel
theorem dX9_works_12 : decode cX9_works 12 = .ok (.getfield 221, 3) := by decide +kernel
theorem dX9_works_15 : decode cX9_works 15 = .ok (.iconst 1, 1) := by decide +kernel
theorem dX9_works_16 : decode cX9_works 16 = .ok (.isub, 1) := by decide +kernel
theorem dX9_works_17 : decode cX9_works 17 = .ok (.iaload, 1) := by decide +kernel
theorem dX9_works_18 : decode cX9_works 18 = .ok (.aload_n 0, 1) := by decide +kernel
theorem dX9_works_19 : decode cX9_works 19 = .ok (.getfield 206, 3) := by decide +kernel
theorem dX9_works_22 : decode cX9_works 22 = .ok (.if_icmp .ne 48, 3) := by decide +kernel
theorem dX9_works_25 : decode cX9_works 25 = .ok (.aload_n 0, 1) := by decide +kernel
theorem dX9_works_26 : decode cX9_works 26 = .ok (.getfield 54, 3) := by decide +kernel
theorem dX9_works_29 : decode cX9_works 29 = .ok (.aload_n 0, 1) := by decide +kernel
theorem dX9_works_30 : decode cX9_works 30 = .ok (.getfield 221, 3) := by decide +kernel
theorem dX9_works_33 : decode cX9_works 33 = .ok (.iconst 1, 1) := by decide +kernel
theorem dX9_works_34 : decode cX9_works 34 = .ok (.isub, 1) := by decide +kernel
theorem dX9_works_35 : decode cX9_works 35 = .ok (.iaload, 1) := by decide +kernel
theorem dX9_works_36 : decode cX9_works 36 = .ok (.invokestatic 224, 3) := by decide +kernel
theorem dX9_works_39 : decode cX9_works 39 = .ok (.iload_n 1, 1) := by decide +kernel
theorem dX9_works_40 : decode cX9_works 40 = .ok (.if_icmp .lt 30, 3) := by decide +kernel
theorem dX9_works_43 : decode cX9_works 43 = .ok (.aload_n 0, 1) := by decide +kernel
theorem dX9_works_44 : decode cX9_works 44 = .ok (.dup, 1) := by decide +kernel
theorem dX9_works_45 : decode cX9_works 45 = .ok (.getfield 221, 3) := by decide +kernel
theorem dX9_works_48 : decode cX9_works 48 = .ok (.iconst 1, 1) := by decide +kernel
theorem dX9_works_49 : decode cX9_works 49 = .ok (.isub, 1) := by decide +kernel
theorem dX9_works_50 : decode cX9_works 50 = .ok (.putfield 221, 3) := by decide +kernel
theorem dX9_works_53 : decode cX9_works 53 = .ok (.aload_n 0, 1) := by decide +kernel
theorem dX9_works_54 : decode cX9_works 54 = .ok (.aload_n 0, 1) := by decide +kernel
theorem dX9_works_55 : decode cX9_works 55 = .ok (.getfield 54, 3) := by decide +kernel
theorem dX9_works_58 : decode cX9_works 58 = .ok (.aload_n 0, 1) := by decide +kernel
theorem dX9_works_59 : decode cX9_works 59 = .ok (.getfield 221, 3) := by decide +kernel
theorem dX9_works_62 : decode cX9_works 62 = .ok (.iaload, 1) := by decide +kernel
theorem dX9_works_63 : decode cX9_works 63 = .ok (.iconst 0, 1) := by decide +kernel
theorem dX9_works_64 : decode cX9_works 64 = .ok (.invokevirtual 228, 3) := by decide +kernel
theorem dX9_works_67 : decode cX9_works 67 = .ok (.goto (-67), 3) := by decide +kernel
theorem dX9_works_70 : decode cX9_works 70 = .ok (.return_, 1) := by decide +kernel
theorem dX9_waitsFor_0 : decode cX9_waitsFor 0 = .ok (.aload_n 0, 1) := by decide +kernel
theorem dX9_waitsFor_1 : decode cX9_waitsFor 1 = .ok (.iload_n 1, 1) := by decide +kernel
theorem dX9_waitsFor_2 : decode cX9_waitsFor 2 = .ok (.invokestatic 224, 3) := by decide +kernel
theorem dX9_waitsFor_5 : decode cX9_waitsFor 5 = .ok (.invokevirtual 231, 3) := by decide +kernel
theorem dX9_waitsFor_8 : decode cX9_waitsFor 8 = .ok (.aload_n 0, 1) := by decide +kernel
theorem dX9_waitsFor_9 : decode cX9_waitsFor 9 = .ok (.getfield 54, 3) := by decide +kernel
theorem dX9_waitsFor_12 : decode cX9_waitsFor 12 = .ok (.aload_n 0, 1) := by decide +kernel
theorem dX9_waitsFor_13 : decode cX9_waitsFor 13 = .ok (.getfield 221, 3) := by decide +kernel
theorem dX9_waitsFor_16 : decode cX9_waitsFor 16 = .ok (.iload_n 1, 1) := by decide +kernel
theorem dX9_waitsFor_17 : decode cX9_waitsFor 17 = .ok (.iastore, 1) := by decide +kernel
theorem dX9_waitsFor_18 : decode cX9_waitsFor 18 = .ok (.aload_n 0, 1) := by decide +kernel
theorem dX9_waitsFor_19 : decode cX9_waitsFor 19 = .ok (.getfield 57, 3) := by decide +kernel
theorem dX9_waitsFor_22 : decode cX9_waitsFor 22 = .ok (.aload_n 0, 1) := by decide +kernel
theorem dX9_waitsFor_23 : decode cX9_waitsFor 23 = .ok (.getfield 221, 3) := by decide +kernel
theorem dX9_waitsFor_26 : decode cX9_waitsFor 26 = .ok (.aload_n 0, 1) := by decide +kernel
theorem dX9_waitsFor_27 : decode cX9_waitsFor 27 = .ok (.getfield 206, 3) := by decide +kernel
theorem dX9_waitsFor_30 : decode cX9_waitsFor 30 = .ok (.iastore, 1) := by decide +kernel
theorem dX9_waitsFor_31 : decode cX9_waitsFor 31 = .ok (.aload_n 0, 1) := by decide +kernel
theorem dX9_waitsFor_32 : decode cX9_waitsFor 32 = .ok (.dup, 1) := by decide +kernel
theorem dX9_waitsFor_33 : decode cX9_waitsFor 33 = .ok (.getfield 221, 3) := by decide +kernel
theorem dX9_waitsFor_36 : decode cX9_waitsFor 36 = .ok (.iconst 1, 1) := by decide +kernel
theorem dX9_waitsFor_37 : decode cX9_waitsFor 37 = .ok (.iadd, 1) := by decide +kernel
theorem dX9_waitsFor_38 : decode cX9_waitsFor 38 = .ok (.putfield 221, 3) := by decide +kernel
theorem dX9_waitsFor_41 : decode cX9_waitsFor 41 = .ok (.aload_n 0, 1) := by decide +kernel
theorem dX9_waitsFor_42 : decode cX9_waitsFor 42 = .ok (.invokevirtual 218, 3) := by decide +kernel
theorem dX9_waitsFor_45 : decode cX9_waitsFor 45 = .ok (.return_, 1) := by decide +kernel
theorem dX9_begins_0 : decode cX9_begins 0 = .ok (.aload_n 0, 1) := by decide +kernel
theorem dX9_begins_1 : decode cX9_begins 1 = .ok (.getfield 180, 3) := by decide +kernel
theorem dX9_begins_4 : decode cX9_begins 4 = .ok (.iconst 2, 1) := by decide +kernel
theorem dX9_begins_5 : decode cX9_begins 5 = .ok (.if_icmp .ne 41, 3) := by decide +kernel
theorem dX9_begins_8 : decode cX9_begins 8 = .ok (.aload_n 0, 1) := by decide +kernel
theorem dX9_begins_9 : decode cX9_begins 9 = .ok (.getfield 193, 3) := by decide +kernel
theorem dX9_begins_12 : decode cX9_begins 12 = .ok (.sipush 9999, 3) := by decide +kernel
theorem dX9_begins_15 : decode cX9_begins 15 = .ok (.if_icmp .le 9, 3) := by decide +kernel
theorem dX9_begins_18 : decode cX9_begins 18 = .ok (.aload_n 0, 1) := by decide +kernel
theorem dX9_begins_19 : decode cX9_begins 19 = .ok (.iconst 2, 1) := by decide +kernel
theorem dX9_begins_20 : decode cX9_begins 20 = .ok (.invokevirtual 212, 3) := by decide +kernel
theorem dX9_begins_23 : decode cX9_begins 23 = .ok (.return_, 1) := by decide +kernel
theorem dX9_begins_24 : decode cX9_begins 24 = .ok (.aload_n 0, 1) := by decide +kernel
theorem dX9_begins_25 : decode cX9_begins 25 = .ok (.sipush 400, 3) := by decide +kernel
theorem dX9_begins_28 : decode cX9_begins 28 = .ok (.aload_n 0, 1) := by decide +kernel
theorem dX9_begins_29 : decode cX9_begins 29 = .ok (.getfield 193, 3) := by decide +kernel
theorem dX9_begins_32 : decode cX9_begins 32 = .ok (.invokevirtual 228, 3) := by decide +kernel
theorem dX9_begins_35 : decode cX9_begins 35 = .ok (.aload_n 0, 1) := by decide +kernel
theorem dX9_begins_36 : decode cX9_begins 36 = .ok (.invokevirtual 218, 3) := by decide +kernel
theorem dX9_begins_39 : decode cX9_begins 39 = .ok (.aload_n 0, 1) := by decide +kernel
theorem dX9_begins_40 : decode cX9_begins 40 = .ok (.invokevirtual 234, 3) := by decide +kernel
theorem dX9_begins_43 : decode cX9_begins 43 = .ok (.goto 108, 3) := by decide +kernel
theorem dX9_begins_46 : decode cX9_begins 46 = .ok (.aload_n 0, 1) := by decide +kernel
theorem dX9_begins_47 : decode cX9_begins 47 = .ok (.getfield 180, 3) := by decide +kernel
theorem dX9_begins_50 : decode cX9_begins 50 = .ok (.iconst 1, 1) := by decide +kernel
theorem dX9_begins_51 : decode cX9_begins 51 = .ok (.if_icmp .ne 57, 3) := by decide +kernel
theorem dX9_begins_54 : decode cX9_begins 54 = .ok (.aload_n 0, 1) := by decide +kernel
theorem dX9_begins_55 : decode cX9_begins 55 = .ok (.getfield 193, 3) := by decide +kernel
theorem dX9_begins_58 : decode cX9_begins 58 = .ok (.bipush 10, 2) := by decide +kernel
theorem dX9_begins_60 : decode cX9_begins 60 = .ok (.if_icmp .lt 48, 3) := by decide +kernel
theorem dX9_begins_63 : decode cX9_begins 63 = .ok (.aload_n 0, 1) := by decide +kernel
theorem dX9_begins_64 : decode cX9_begins 64 = .ok (.getfield 193, 3) := by decide +kernel
theorem dX9_begins_67 : decode cX9_begins 67 = .ok (.bipush 10, 2) := by decide +kernel
theorem dX9_begins_69 : decode cX9_begins 69 = .ok (.isub, 1) := by decide +kernel
theorem dX9_begins_70 : decode cX9_begins 70 = .ok (.istore_n 1, 1) := by decide +kernel
theorem dX9_begins_71 : decode cX9_begins 71 = .ok (.iload_n 1, 1) := by decide +kernel
theorem dX9_begins_72 : decode cX9_begins 72 = .ok (.iconst 5, 1) := by decide +kernel
theorem dX9_begins_73 : decode cX9_begins 73 = .ok (.if_icmp .le 16, 3) := by decide +kernel
theorem dX9_begins_76 : decode cX9_begins 76 = .ok (.aload_n 0, 1) := by decide +kernel
theorem dX9_begins_77 : decode cX9_begins 77 = .ok (.getfield 237, 3) := by decide +kernel
theorem dX9_begins_80 : decode cX9_begins 80 = .ok (.ifCond .eq 9, 3) := by decide +kernel
theorem dX9_begins_83 : decode cX9_begins 83 = .ok (.aload_n 0, 1) := by decide +kernel
theorem dX9_begins_84 : decode cX9_begins 84 = .ok (.iconst 5, 1) := by decide +kernel
theorem dX9_begins_85 : decode cX9_begins 85 = .ok (.invokevirtual 212, 3) := by decide +kernel
theorem dX9_begins_88 : decode cX9_begins 88 = .ok (.return_, 1) := by decide +kernel
theorem dX9_begins_89 : decode cX9_begins 89 = .ok (.aload_n 0, 1) := by decide +kernel
theorem dX9_begins_90 : decode cX9_begins 90 = .ok (.sipush 401, 3) := by decide +kernel
theorem dX9_begins_93 : decode cX9_begins 93 = .ok (.iload_n 1, 1) := by decide +kernel
theorem dX9_begins_94 : decode cX9_begins 94 = .ok (.invokevirtual 228, 3) := by decide +kernel
theorem dX9_begins_97 : decode cX9_begins 97 = .ok (.aload_n 0, 1) := by decide +kernel
theorem dX9_begins_98 : decode cX9_begins 98 = .ok (.invokevirtual 218, 3) := by decide +kernel
theorem dX9_begins_101 : decode cX9_begins 101 = .ok (.aload_n 0, 1) := by decide +kernel
theorem dX9_begins_102 : decode cX9_begins 102 = .ok (.invokevirtual 234, 3) := by decide +kernel
theorem dX9_begins_105 : decode cX9_begins 105 = .ok (.goto 46, 3) := by decide +kernel
theorem dX9_begins_108 : decode cX9_begins 108 = .ok (.aload_n 0, 1) := by decide +kernel
theorem dX9_begins_109 : decode cX9_begins 109 = .ok (.bipush 40, 2) := by decide +kernel
theorem dX9_begins_111 : decode cX9_begins 111 = .ok (.invokevirtual 240, 3) := by decide +kernel
theorem dX9_begins_114 : decode cX9_begins 114 = .ok (.ifCond .eq 13, 3) := by decide +kernel
theorem dX9_begins_117 : decode cX9_begins 117 = .ok (.aload_n 0, 1) := by decide +kernel
theorem dX9_begins_118 : decode cX9_begins 118 = .ok (.bipush 6, 2) := by decide +kernel
theorem dX9_begins_120 : decode cX9_begins 120 = .ok (.invokevirtual 243, 3) := by decide +kernel
theorem dX9_begins_123 : decode cX9_begins 123 = .ok (.istore_n 1, 1) := by decide +kernel
theorem dX9_begins_124 : decode cX9_begins 124 = .ok (.goto 27, 3) := by decide +kernel
theorem dX9_begins_127 : decode cX9_begins 127 = .ok (.aload_n 0, 1) := by decide +kernel
theorem dX9_begins_128 : decode cX9_begins 128 = .ok (.bipush 45, 2) := by decide +kernel
theorem dX9_begins_130 : decode cX9_begins 130 = .ok (.invokevirtual 240, 3) := by decide +kernel
theorem dX9_begins_133 : decode cX9_begins 133 = .ok (.ifCond .eq 13, 3) := by decide +kernel
theorem dX9_begins_136 : decode cX9_begins 136 = .ok (.aload_n 0, 1) := by decide +kernel
theorem dX9_begins_137 : decode cX9_begins 137 = .ok (.bipush 7, 2) := by decide +kernel
theorem dX9_begins_139 : decode cX9_begins 139 = .ok (.invokevirtual 243, 3) := by decide +kernel
theorem dX9_begins_142 : decode cX9_begins 142 = .ok (.istore_n 1, 1) := by decide +kernel
theorem dX9_begins_143 : decode cX9_begins 143 = .ok (.goto 8, 3) := by decide +kernel
theorem dX9_begins_146 : decode cX9_begins 146 = .ok (.aload_n 0, 1) := by decide +kernel
theorem dX9_begins_147 : decode cX9_begins 147 = .ok (.iconst 1, 1) := by decide +kernel
theorem dX9_begins_148 : decode cX9_begins 148 = .ok (.invokevirtual 212, 3) := by decide +kernel
theorem dX9_begins_151 : decode cX9_begins 151 = .ok (.return_, 1) := by decide +kernel
theorem dX9_oneIsOver_0 : decode cX9_oneIsOver 0 = .ok (.aload_n 0, 1) := by decide +kernel
theorem dX9_oneIsOver_1 : decode cX9_oneIsOver 1 = .ok (.invokevirtual 246, 3) := by decide +kernel
theorem dX9_oneIsOver_4 : decode cX9_oneIsOver 4 = .ok (.bipush 7, 2) := by decide +kernel
theorem dX9_oneIsOver_6 : decode cX9_oneIsOver 6 = .ok (.if_icmp .ne 34, 3) := by decide +kernel
theorem dX9_oneIsOver_9 : decode cX9_oneIsOver 9 = .ok (.aload_n 0, 1) := by decide +kernel
theorem dX9_oneIsOver_10 : decode cX9_oneIsOver 10 = .ok (.dup, 1) := by decide +kernel
theorem dX9_oneIsOver_11 : decode cX9_oneIsOver 11 = .ok (.getfield 206, 3) := by decide +kernel
theorem dX9_oneIsOver_14 : decode cX9_oneIsOver 14 = .ok (.iconst 1, 1) := by decide +kernel
theorem dX9_oneIsOver_15 : decode cX9_oneIsOver 15 = .ok (.isub, 1) := by decide +kernel
theorem dX9_oneIsOver_16 : decode cX9_oneIsOver 16 = .ok (.putfield 206, 3) := by decide +kernel
theorem dX9_oneIsOver_19 : decode cX9_oneIsOver 19 = .ok (.aload_n 0, 1) := by decide +kernel
theorem dX9_oneIsOver_20 : decode cX9_oneIsOver 20 = .ok (.dup, 1) := by decide +kernel
theorem dX9_oneIsOver_21 : decode cX9_oneIsOver 21 = .ok (.getfield 209, 3) := by decide +kernel
theorem dX9_oneIsOver_24 : decode cX9_oneIsOver 24 = .ok (.iconst 1, 1) := by decide +kernel
theorem dX9_oneIsOver_25 : decode cX9_oneIsOver 25 = .ok (.isub, 1) := by decide +kernel
theorem dX9_oneIsOver_26 : decode cX9_oneIsOver 26 = .ok (.putfield 209, 3) := by decide +kernel
theorem dX9_oneIsOver_29 : decode cX9_oneIsOver 29 = .ok (.aload_n 0, 1) := by decide +kernel
theorem dX9_oneIsOver_30 : decode cX9_oneIsOver 30 = .ok (.sipush 402, 3) := by decide +kernel
theorem dX9_oneIsOver_33 : decode cX9_oneIsOver 33 = .ok (.iconst 0, 1) := by decide +kernel
theorem dX9_oneIsOver_34 : decode cX9_oneIsOver 34 = .ok (.invokevirtual 228, 3) := by decide +kernel
theorem dX9_oneIsOver_37 : decode cX9_oneIsOver 37 = .ok (.goto (-37), 3) := by decide +kernel
theorem dX9_oneIsOver_40 : decode cX9_oneIsOver 40 = .ok (.aload_n 0, 1) := by decide +kernel
theorem dX9_oneIsOver_41 : decode cX9_oneIsOver 41 = .ok (.iconst 2, 1) := by decide +kernel
theorem dX9_oneIsOver_42 : decode cX9_oneIsOver 42 = .ok (.putfield 250, 3) := by decide +kernel
theorem dX9_oneIsOver_45 : decode cX9_oneIsOver 45 = .ok (.return_, 1) := by decide +kernel
theorem dX9_goesOn_0 : decode cX9_goesOn 0 = .ok (.aload_n 0, 1) := by decide +kernel
theorem dX9_goesOn_1 : decode cX9_goesOn 1 = .ok (.invokevirtual 246, 3) := by decide +kernel
theorem dX9_goesOn_4 : decode cX9_goesOn 4 = .ok (.istore_n 1, 1) := by decide +kernel
theorem dX9_goesOn_5 : decode cX9_goesOn 5 = .ok (.aload_n 0, 1) := by decide +kernel
theorem dX9_goesOn_6 : decode cX9_goesOn 6 = .ok (.getfield 180, 3) := by decide +kernel
theorem dX9_goesOn_9 : decode cX9_goesOn 9 = .ok (.iconst 3, 1) := by decide +kernel
theorem dX9_goesOn_10 : decode cX9_goesOn 10 = .ok (.if_icmp .ne 55, 3) := by decide +kernel
theorem dX9_goesOn_13 : decode cX9_goesOn 13 = .ok (.aload_n 0, 1) := by decide +kernel
theorem dX9_goesOn_14 : decode cX9_goesOn 14 = .ok (.getfield 193, 3) := by decide +kernel
theorem dX9_goesOn_17 : decode cX9_goesOn 17 = .ok (.bipush 43, 2) := by decide +kernel
theorem dX9_goesOn_19 : decode cX9_goesOn 19 = .ok (.if_icmp .eq 30, 3) := by decide +kernel
theorem dX9_goesOn_22 : decode cX9_goesOn 22 = .ok (.aload_n 0, 1) := by decide +kernel
theorem dX9_goesOn_23 : decode cX9_goesOn 23 = .ok (.getfield 193, 3) := by decide +kernel
theorem dX9_goesOn_26 : decode cX9_goesOn 26 = .ok (.bipush 45, 2) := by decide +kernel
theorem dX9_goesOn_28 : decode cX9_goesOn 28 = .ok (.if_icmp .eq 21, 3) := by decide +kernel
theorem dX9_goesOn_31 : decode cX9_goesOn 31 = .ok (.aload_n 0, 1) := by decide +kernel
theorem dX9_goesOn_32 : decode cX9_goesOn 32 = .ok (.getfield 193, 3) := by decide +kernel
theorem dX9_goesOn_35 : decode cX9_goesOn 35 = .ok (.bipush 42, 2) := by decide +kernel
theorem dX9_goesOn_37 : decode cX9_goesOn 37 = .ok (.if_icmp .eq 12, 3) := by decide +kernel
theorem dX9_goesOn_40 : decode cX9_goesOn 40 = .ok (.aload_n 0, 1) := by decide +kernel
theorem dX9_goesOn_41 : decode cX9_goesOn 41 = .ok (.getfield 193, 3) := by decide +kernel
theorem dX9_goesOn_44 : decode cX9_goesOn 44 = .ok (.bipush 47, 2) := by decide +kernel
theorem dX9_goesOn_46 : decode cX9_goesOn 46 = .ok (.if_icmp .ne 19, 3) := by decide +kernel
theorem dX9_goesOn_49 : decode cX9_goesOn 49 = .ok (.aload_n 0, 1) := by decide +kernel
theorem dX9_goesOn_50 : decode cX9_goesOn 50 = .ok (.aload_n 0, 1) := by decide +kernel
theorem dX9_goesOn_51 : decode cX9_goesOn 51 = .ok (.getfield 193, 3) := by decide +kernel
theorem dX9_goesOn_54 : decode cX9_goesOn 54 = .ok (.invokevirtual 253, 3) := by decide +kernel
theorem dX9_goesOn_57 : decode cX9_goesOn 57 = .ok (.aload_n 0, 1) := by decide +kernel
theorem dX9_goesOn_58 : decode cX9_goesOn 58 = .ok (.iconst 1, 1) := by decide +kernel
theorem dX9_goesOn_59 : decode cX9_goesOn 59 = .ok (.putfield 250, 3) := by decide +kernel
theorem dX9_goesOn_62 : decode cX9_goesOn 62 = .ok (.goto 80, 3) := by decide +kernel
theorem dX9_goesOn_65 : decode cX9_goesOn 65 = .ok (.iload_n 1, 1) := by decide +kernel
theorem dX9_goesOn_66 : decode cX9_goesOn 66 = .ok (.bipush 6, 2) := by decide +kernel
theorem dX9_goesOn_68 : decode cX9_goesOn 68 = .ok (.if_icmp .ne 48, 3) := by decide +kernel
theorem dX9_goesOn_71 : decode cX9_goesOn 71 = .ok (.aload_n 0, 1) := by decide +kernel
theorem dX9_goesOn_72 : decode cX9_goesOn 72 = .ok (.bipush 41, 2) := by decide +kernel
theorem dX9_goesOn_74 : decode cX9_goesOn 74 = .ok (.invokevirtual 240, 3) := by decide +kernel
theorem dX9_goesOn_77 : decode cX9_goesOn 77 = .ok (.ifCond .eq 39, 3) := by decide +kernel
theorem dX9_goesOn_80 : decode cX9_goesOn 80 = .ok (.aload_n 0, 1) := by decide +kernel
theorem dX9_goesOn_81 : decode cX9_goesOn 81 = .ok (.iconst 3, 1) := by decide +kernel
theorem dX9_goesOn_82 : decode cX9_goesOn 82 = .ok (.invokevirtual 231, 3) := by decide +kernel
theorem dX9_goesOn_85 : decode cX9_goesOn 85 = .ok (.aload_n 0, 1) := by decide +kernel
theorem dX9_goesOn_86 : decode cX9_goesOn 86 = .ok (.dup, 1) := by decide +kernel
theorem dX9_goesOn_87 : decode cX9_goesOn 87 = .ok (.getfield 206, 3) := by decide +kernel
theorem dX9_goesOn_90 : decode cX9_goesOn 90 = .ok (.iconst 1, 1) := by decide +kernel
theorem dX9_goesOn_91 : decode cX9_goesOn 91 = .ok (.isub, 1) := by decide +kernel
theorem dX9_goesOn_92 : decode cX9_goesOn 92 = .ok (.putfield 206, 3) := by decide +kernel
theorem dX9_goesOn_95 : decode cX9_goesOn 95 = .ok (.aload_n 0, 1) := by decide +kernel
theorem dX9_goesOn_96 : decode cX9_goesOn 96 = .ok (.dup, 1) := by decide +kernel
theorem dX9_goesOn_97 : decode cX9_goesOn 97 = .ok (.getfield 209, 3) := by decide +kernel
theorem dX9_goesOn_100 : decode cX9_goesOn 100 = .ok (.iconst 1, 1) := by decide +kernel
theorem dX9_goesOn_101 : decode cX9_goesOn 101 = .ok (.isub, 1) := by decide +kernel
theorem dX9_goesOn_102 : decode cX9_goesOn 102 = .ok (.putfield 209, 3) := by decide +kernel
theorem dX9_goesOn_105 : decode cX9_goesOn 105 = .ok (.aload_n 0, 1) := by decide +kernel
theorem dX9_goesOn_106 : decode cX9_goesOn 106 = .ok (.invokevirtual 218, 3) := by decide +kernel
theorem dX9_goesOn_109 : decode cX9_goesOn 109 = .ok (.aload_n 0, 1) := by decide +kernel
theorem dX9_goesOn_110 : decode cX9_goesOn 110 = .ok (.invokevirtual 234, 3) := by decide +kernel
theorem dX9_goesOn_113 : decode cX9_goesOn 113 = .ok (.goto 29, 3) := by decide +kernel
theorem dX9_goesOn_116 : decode cX9_goesOn 116 = .ok (.iload_n 1, 1) := by decide +kernel
theorem dX9_goesOn_117 : decode cX9_goesOn 117 = .ok (.iconst 1, 1) := by decide +kernel
theorem dX9_goesOn_118 : decode cX9_goesOn 118 = .ok (.if_icmp .ne 19, 3) := by decide +kernel
theorem dX9_goesOn_121 : decode cX9_goesOn 121 = .ok (.aload_n 0, 1) := by decide +kernel
theorem dX9_goesOn_122 : decode cX9_goesOn 122 = .ok (.bipush 59, 2) := by decide +kernel
theorem dX9_goesOn_124 : decode cX9_goesOn 124 = .ok (.invokevirtual 240, 3) := by decide +kernel
theorem dX9_goesOn_127 : decode cX9_goesOn 127 = .ok (.ifCond .eq 10, 3) := by decide +kernel
theorem dX9_goesOn_130 : decode cX9_goesOn 130 = .ok (.aload_n 0, 1) := by decide +kernel
theorem dX9_goesOn_131 : decode cX9_goesOn 131 = .ok (.invokevirtual 256, 3) := by decide +kernel
theorem dX9_goesOn_134 : decode cX9_goesOn 134 = .ok (.goto 8, 3) := by decide +kernel
theorem dX9_goesOn_137 : decode cX9_goesOn 137 = .ok (.aload_n 0, 1) := by decide +kernel
theorem dX9_goesOn_138 : decode cX9_goesOn 138 = .ok (.iconst 1, 1) := by decide +kernel
theorem dX9_goesOn_139 : decode cX9_goesOn 139 = .ok (.invokevirtual 212, 3) := by decide +kernel
theorem dX9_goesOn_142 : decode cX9_goesOn 142 = .ok (.return_, 1) := by decide +kernel
theorem dX9_clauseIsOver_0 : decode cX9_clauseIsOver 0 = .ok (.aload_n 0, 1) := by decide +kernel
theorem dX9_clauseIsOver_1 : decode cX9_clauseIsOver 1 = .ok (.iconst 1, 1) := by decide +kernel
theorem dX9_clauseIsOver_2 : decode cX9_clauseIsOver 2 = .ok (.invokevirtual 231, 3) := by decide +kernel
theorem dX9_clauseIsOver_5 : decode cX9_clauseIsOver 5 = .ok (.aload_n 0, 1) := by decide +kernel
theorem dX9_clauseIsOver_6 : decode cX9_clauseIsOver 6 = .ok (.iconst 0, 1) := by decide +kernel
theorem dX9_clauseIsOver_7 : decode cX9_clauseIsOver 7 = .ok (.putfield 206, 3) := by decide +kernel
theorem dX9_clauseIsOver_10 : decode cX9_clauseIsOver 10 = .ok (.aload_n 0, 1) := by decide +kernel
theorem dX9_clauseIsOver_11 : decode cX9_clauseIsOver 11 = .ok (.sipush 408, 3) := by decide +kernel
theorem dX9_clauseIsOver_14 : decode cX9_clauseIsOver 14 = .ok (.iconst 0, 1) := by decide +kernel
theorem dX9_clauseIsOver_15 : decode cX9_clauseIsOver 15 = .ok (.invokevirtual 228, 3) := by decide +kernel
theorem dX9_clauseIsOver_18 : decode cX9_clauseIsOver 18 = .ok (.aload_n 0, 1) := by decide +kernel
theorem dX9_clauseIsOver_19 : decode cX9_clauseIsOver 19 = .ok (.dup, 1) := by decide +kernel
theorem dX9_clauseIsOver_20 : decode cX9_clauseIsOver 20 = .ok (.getfield 259, 3) := by decide +kernel
theorem dX9_clauseIsOver_23 : decode cX9_clauseIsOver 23 = .ok (.iconst 1, 1) := by decide +kernel
theorem dX9_clauseIsOver_24 : decode cX9_clauseIsOver 24 = .ok (.iadd, 1) := by decide +kernel
theorem dX9_clauseIsOver_25 : decode cX9_clauseIsOver 25 = .ok (.putfield 259, 3) := by decide +kernel
theorem dX9_clauseIsOver_28 : decode cX9_clauseIsOver 28 = .ok (.aload_n 0, 1) := by decide +kernel
theorem dX9_clauseIsOver_29 : decode cX9_clauseIsOver 29 = .ok (.invokevirtual 218, 3) := by decide +kernel
theorem dX9_clauseIsOver_32 : decode cX9_clauseIsOver 32 = .ok (.aload_n 0, 1) := by decide +kernel
theorem dX9_clauseIsOver_33 : decode cX9_clauseIsOver 33 = .ok (.iconst 4, 1) := by decide +kernel
theorem dX9_clauseIsOver_34 : decode cX9_clauseIsOver 34 = .ok (.putfield 250, 3) := by decide +kernel
theorem dX9_clauseIsOver_37 : decode cX9_clauseIsOver 37 = .ok (.return_, 1) := by decide +kernel
theorem dX9_number_0 : decode cX9_number 0 = .ok (.aload_n 0, 1) := by decide +kernel
theorem dX9_number_1 : decode cX9_number 1 = .ok (.getfield 197, 3) := by decide +kernel
theorem dX9_number_4 : decode cX9_number 4 = .ok (.ifCond .gt 11, 3) := by decide +kernel
theorem dX9_number_7 : decode cX9_number 7 = .ok (.aload_n 0, 1) := by decide +kernel
theorem dX9_number_8 : decode cX9_number 8 = .ok (.getfield 180, 3) := by decide +kernel
theorem dX9_number_11 : decode cX9_number 11 = .ok (.iconst 2, 1) := by decide +kernel
theorem dX9_number_12 : decode cX9_number 12 = .ok (.if_icmp .eq 10, 3) := by decide +kernel
theorem dX9_number_15 : decode cX9_number 15 = .ok (.aload_n 0, 1) := by decide +kernel
theorem dX9_number_16 : decode cX9_number 16 = .ok (.iconst 1, 1) := by decide +kernel
theorem dX9_number_17 : decode cX9_number 17 = .ok (.invokevirtual 212, 3) := by decide +kernel
theorem dX9_number_20 : decode cX9_number 20 = .ok (.iload_n 1, 1) := by decide +kernel
theorem dX9_number_21 : decode cX9_number 21 = .ok (.ireturn, 1) := by decide +kernel
theorem dX9_number_22 : decode cX9_number 22 = .ok (.aload_n 0, 1) := by decide +kernel
theorem dX9_number_23 : decode cX9_number 23 = .ok (.getfield 193, 3) := by decide +kernel
theorem dX9_number_26 : decode cX9_number 26 = .ok (.iload_n 1, 1) := by decide +kernel
theorem dX9_number_27 : decode cX9_number 27 = .ok (.iload_n 2, 1) := by decide +kernel
theorem dX9_number_28 : decode cX9_number 28 = .ok (.invokestatic 120, 3) := by decide +kernel
theorem dX9_number_31 : decode cX9_number 31 = .ok (.ifCond .ne 10, 3) := by decide +kernel
theorem dX9_number_34 : decode cX9_number 34 = .ok (.aload_n 0, 1) := by decide +kernel
theorem dX9_number_35 : decode cX9_number 35 = .ok (.iconst 2, 1) := by decide +kernel
theorem dX9_number_36 : decode cX9_number 36 = .ok (.invokevirtual 212, 3) := by decide +kernel
theorem dX9_number_39 : decode cX9_number 39 = .ok (.iload_n 1, 1) := by decide +kernel
theorem dX9_number_40 : decode cX9_number 40 = .ok (.ireturn, 1) := by decide +kernel
theorem dX9_number_41 : decode cX9_number 41 = .ok (.aload_n 0, 1) := by decide +kernel
theorem dX9_number_42 : decode cX9_number 42 = .ok (.getfield 193, 3) := by decide +kernel
theorem dX9_number_45 : decode cX9_number 45 = .ok (.istore_n 3, 1) := by decide +kernel
theorem dX9_number_46 : decode cX9_number 46 = .ok (.aload_n 0, 1) := by decide +kernel
theorem dX9_number_47 : decode cX9_number 47 = .ok (.invokevirtual 218, 3) := by decide +kernel
theorem dX9_number_50 : decode cX9_number 50 = .ok (.iload_n 3, 1) := by decide +kernel
theorem dX9_number_51 : decode cX9_number 51 = .ok (.ireturn, 1) := by decide +kernel
theorem dX9_wasTold_0 : decode cX9_wasTold 0 = .ok (.iconst 0, 1) := by decide +kernel
theorem dX9_wasTold_1 : decode cX9_wasTold 1 = .ok (.istore_n 2, 1) := by decide +kernel
theorem dX9_wasTold_2 : decode cX9_wasTold 2 = .ok (.iconst 0, 1) := by decide +kernel
theorem dX9_wasTold_3 : decode cX9_wasTold 3 = .ok (.istore_n 3, 1) := by decide +kernel
theorem dX9_wasTold_4 : decode cX9_wasTold 4 = .ok (.iload_n 3, 1) := by decide +kernel
theorem dX9_wasTold_5 : decode cX9_wasTold 5 = .ok (.aload_n 0, 1) := by decide +kernel
theorem dX9_wasTold_6 : decode cX9_wasTold 6 = .ok (.getfield 259, 3) := by decide +kernel
theorem dX9_wasTold_9 : decode cX9_wasTold 9 = .ok (.if_icmp .ge 29, 3) := by decide +kernel
theorem dX9_wasTold_12 : decode cX9_wasTold 12 = .ok (.iload_n 2, 1) := by decide +kernel
theorem dX9_wasTold_13 : decode cX9_wasTold 13 = .ok (.ifCond .ne 13, 3) := by decide +kernel
theorem dX9_wasTold_16 : decode cX9_wasTold 16 = .ok (.aload_n 0, 1) := by decide +kernel
theorem dX9_wasTold_17 : decode cX9_wasTold 17 = .ok (.getfield 60, 3) := by decide +kernel
theorem dX9_wasTold_20 : decode cX9_wasTold 20 = .ok (.iload_n 3, 1) := by decide +kernel
theorem dX9_wasTold_21 : decode cX9_wasTold 21 = .ok (.iaload, 1) := by decide +kernel
theorem dX9_wasTold_22 : decode cX9_wasTold 22 = .ok (.iload_n 1, 1) := by decide +kernel
theorem dX9_wasTold_23 : decode cX9_wasTold 23 = .ok (.if_icmp .ne 7, 3) := by decide +kernel
theorem dX9_wasTold_26 : decode cX9_wasTold 26 = .ok (.iconst 1, 1) := by decide +kernel
theorem dX9_wasTold_27 : decode cX9_wasTold 27 = .ok (.goto 4, 3) := by decide +kernel
theorem dX9_wasTold_30 : decode cX9_wasTold 30 = .ok (.iconst 0, 1) := by decide +kernel
theorem dX9_wasTold_31 : decode cX9_wasTold 31 = .ok (.istore_n 2, 1) := by decide +kernel
theorem dX9_wasTold_32 : decode cX9_wasTold 32 = .ok (.iinc 3 1, 3) := by decide +kernel
theorem dX9_wasTold_35 : decode cX9_wasTold 35 = .ok (.goto (-31), 3) := by decide +kernel
theorem dX9_wasTold_38 : decode cX9_wasTold 38 = .ok (.iload_n 2, 1) := by decide +kernel
theorem dX9_wasTold_39 : decode cX9_wasTold 39 = .ok (.ireturn, 1) := by decide +kernel
theorem dX9_wants_0 : decode cX9_wants 0 = .ok (.aload_n 0, 1) := by decide +kernel
theorem dX9_wants_1 : decode cX9_wants 1 = .ok (.getfield 197, 3) := by decide +kernel
theorem dX9_wants_4 : decode cX9_wants 4 = .ok (.ifCond .ne 16, 3) := by decide +kernel
theorem dX9_wants_7 : decode cX9_wants 7 = .ok (.aload_n 0, 1) := by decide +kernel
theorem dX9_wants_8 : decode cX9_wants 8 = .ok (.iload_n 1, 1) := by decide +kernel
theorem dX9_wants_9 : decode cX9_wants 9 = .ok (.invokevirtual 262, 3) := by decide +kernel
theorem dX9_wants_12 : decode cX9_wants 12 = .ok (.ifCond .ne 8, 3) := by decide +kernel
theorem dX9_wants_15 : decode cX9_wants 15 = .ok (.aload_n 0, 1) := by decide +kernel
theorem dX9_wants_16 : decode cX9_wants 16 = .ok (.iconst 1, 1) := by decide +kernel
theorem dX9_wants_17 : decode cX9_wants 17 = .ok (.invokevirtual 212, 3) := by decide +kernel
theorem dX9_wants_20 : decode cX9_wants 20 = .ok (.aload_n 0, 1) := by decide +kernel
theorem dX9_wants_21 : decode cX9_wants 21 = .ok (.getfield 197, 3) := by decide +kernel
theorem dX9_wants_24 : decode cX9_wants 24 = .ok (.ifCond .ne 7, 3) := by decide +kernel
theorem dX9_wants_27 : decode cX9_wants 27 = .ok (.aload_n 0, 1) := by decide +kernel
theorem dX9_wants_28 : decode cX9_wants 28 = .ok (.invokevirtual 218, 3) := by decide +kernel
theorem dX9_wants_31 : decode cX9_wants 31 = .ok (.return_, 1) := by decide +kernel
theorem dX9_clause_0 : decode cX9_clause 0 = .ok (.aload_n 0, 1) := by decide +kernel
theorem dX9_clause_1 : decode cX9_clause 1 = .ok (.getfield 180, 3) := by decide +kernel
theorem dX9_clause_4 : decode cX9_clause 4 = .ok (.iconst 1, 1) := by decide +kernel
theorem dX9_clause_5 : decode cX9_clause 5 = .ok (.if_icmp .ne 12, 3) := by decide +kernel
theorem dX9_clause_8 : decode cX9_clause 8 = .ok (.aload_n 0, 1) := by decide +kernel
theorem dX9_clause_9 : decode cX9_clause 9 = .ok (.getfield 193, 3) := by decide +kernel
theorem dX9_clause_12 : decode cX9_clause 12 = .ok (.bipush 7, 2) := by decide +kernel
theorem dX9_clause_14 : decode cX9_clause 14 = .ok (.if_icmp .le 9, 3) := by decide +kernel
theorem dX9_clause_17 : decode cX9_clause 17 = .ok (.aload_n 0, 1) := by decide +kernel
theorem dX9_clause_18 : decode cX9_clause 18 = .ok (.iconst 1, 1) := by decide +kernel
theorem dX9_clause_19 : decode cX9_clause 19 = .ok (.invokevirtual 212, 3) := by decide +kernel
theorem dX9_clause_22 : decode cX9_clause 22 = .ok (.return_, 1) := by decide +kernel
theorem dX9_clause_23 : decode cX9_clause 23 = .ok (.aload_n 0, 1) := by decide +kernel
theorem dX9_clause_24 : decode cX9_clause 24 = .ok (.aload_n 0, 1) := by decide +kernel
theorem dX9_clause_25 : decode cX9_clause 25 = .ok (.getfield 193, 3) := by decide +kernel
theorem dX9_clause_28 : decode cX9_clause 28 = .ok (.putfield 237, 3) := by decide +kernel
theorem dX9_clause_31 : decode cX9_clause 31 = .ok (.aload_n 0, 1) := by decide +kernel
theorem dX9_clause_32 : decode cX9_clause 32 = .ok (.getfield 237, 3) := by decide +kernel
theorem dX9_clause_35 : decode cX9_clause 35 = .ok (.iconst 3, 1) := by decide +kernel
theorem dX9_clause_36 : decode cX9_clause 36 = .ok (.if_icmp .gt 22, 3) := by decide +kernel
theorem dX9_clause_39 : decode cX9_clause 39 = .ok (.aload_n 0, 1) := by decide +kernel
theorem dX9_clause_40 : decode cX9_clause 40 = .ok (.aload_n 0, 1) := by decide +kernel
theorem dX9_clause_41 : decode cX9_clause 41 = .ok (.getfield 237, 3) := by decide +kernel
theorem dX9_clause_44 : decode cX9_clause 44 = .ok (.invokevirtual 265, 3) := by decide +kernel
theorem dX9_clause_47 : decode cX9_clause 47 = .ok (.ifCond .eq 11, 3) := by decide +kernel
theorem dX9_clause_50 : decode cX9_clause 50 = .ok (.aload_n 0, 1) := by decide +kernel
theorem dX9_clause_51 : decode cX9_clause 51 = .ok (.iconst 4, 1) := by decide +kernel
theorem dX9_clause_52 : decode cX9_clause 52 = .ok (.invokevirtual 212, 3) := by decide +kernel
theorem dX9_clause_55 : decode cX9_clause 55 = .ok (.goto 18, 3) := by decide +kernel
theorem dX9_clause_58 : decode cX9_clause 58 = .ok (.aload_n 0, 1) := by decide +kernel
theorem dX9_clause_59 : decode cX9_clause 59 = .ok (.getfield 259, 3) := by decide +kernel
theorem dX9_clause_62 : decode cX9_clause 62 = .ok (.bipush 24, 2) := by decide +kernel
theorem dX9_clause_64 : decode cX9_clause 64 = .ok (.if_icmp .ne 9, 3) := by decide +kernel
theorem dX9_clause_67 : decode cX9_clause 67 = .ok (.aload_n 0, 1) := by decide +kernel
theorem dX9_clause_68 : decode cX9_clause 68 = .ok (.bipush 6, 2) := by decide +kernel
theorem dX9_clause_70 : decode cX9_clause 70 = .ok (.invokevirtual 212, 3) := by decide +kernel
theorem dX9_clause_73 : decode cX9_clause 73 = .ok (.aload_n 0, 1) := by decide +kernel
theorem dX9_clause_74 : decode cX9_clause 74 = .ok (.getfield 197, 3) := by decide +kernel
theorem dX9_clause_77 : decode cX9_clause 77 = .ok (.ifCond .le 4, 3) := by decide +kernel
theorem dX9_clause_80 : decode cX9_clause 80 = .ok (.return_, 1) := by decide +kernel
theorem dX9_clause_81 : decode cX9_clause 81 = .ok (.aload_n 0, 1) := by decide +kernel
theorem dX9_clause_82 : decode cX9_clause 82 = .ok (.getfield 60, 3) := by decide +kernel
theorem dX9_clause_85 : decode cX9_clause 85 = .ok (.aload_n 0, 1) := by decide +kernel
theorem dX9_clause_86 : decode cX9_clause 86 = .ok (.getfield 259, 3) := by decide +kernel
theorem dX9_clause_89 : decode cX9_clause 89 = .ok (.aload_n 0, 1) := by decide +kernel
theorem dX9_clause_90 : decode cX9_clause 90 = .ok (.getfield 237, 3) := by decide +kernel
theorem dX9_clause_93 : decode cX9_clause 93 = .ok (.iastore, 1) := by decide +kernel
theorem dX9_clause_94 : decode cX9_clause 94 = .ok (.aload_n 0, 1) := by decide +kernel
theorem dX9_clause_95 : decode cX9_clause 95 = .ok (.getfield 63, 3) := by decide +kernel
theorem dX9_clause_98 : decode cX9_clause 98 = .ok (.aload_n 0, 1) := by decide +kernel
theorem dX9_clause_99 : decode cX9_clause 99 = .ok (.getfield 259, 3) := by decide +kernel
theorem dX9_clause_102 : decode cX9_clause 102 = .ok (.aload_n 0, 1) := by decide +kernel
theorem dX9_clause_103 : decode cX9_clause 103 = .ok (.getfield 203, 3) := by decide +kernel
theorem dX9_clause_106 : decode cX9_clause 106 = .ok (.iastore, 1) := by decide +kernel
theorem dX9_clause_107 : decode cX9_clause 107 = .ok (.aload_n 0, 1) := by decide +kernel
theorem dX9_clause_108 : decode cX9_clause 108 = .ok (.getfield 66, 3) := by decide +kernel
theorem dX9_clause_111 : decode cX9_clause 111 = .ok (.aload_n 0, 1) := by decide +kernel
theorem dX9_clause_112 : decode cX9_clause 112 = .ok (.getfield 259, 3) := by decide +kernel
theorem dX9_clause_115 : decode cX9_clause 115 = .ok (.iconst (-1), 1) := by decide +kernel
theorem dX9_clause_116 : decode cX9_clause 116 = .ok (.iastore, 1) := by decide +kernel
theorem dX9_clause_117 : decode cX9_clause 117 = .ok (.aload_n 0, 1) := by decide +kernel
theorem dX9_clause_118 : decode cX9_clause 118 = .ok (.getfield 69, 3) := by decide +kernel
theorem dX9_clause_121 : decode cX9_clause 121 = .ok (.aload_n 0, 1) := by decide +kernel
theorem dX9_clause_122 : decode cX9_clause 122 = .ok (.getfield 259, 3) := by decide +kernel
theorem dX9_clause_125 : decode cX9_clause 125 = .ok (.iconst (-1), 1) := by decide +kernel
theorem dX9_clause_126 : decode cX9_clause 126 = .ok (.iastore, 1) := by decide +kernel
theorem dX9_clause_127 : decode cX9_clause 127 = .ok (.aload_n 0, 1) := by decide +kernel
theorem dX9_clause_128 : decode cX9_clause 128 = .ok (.getfield 72, 3) := by decide +kernel
theorem dX9_clause_131 : decode cX9_clause 131 = .ok (.aload_n 0, 1) := by decide +kernel
theorem dX9_clause_132 : decode cX9_clause 132 = .ok (.getfield 259, 3) := by decide +kernel
theorem dX9_clause_135 : decode cX9_clause 135 = .ok (.iconst (-1), 1) := by decide +kernel
theorem dX9_clause_136 : decode cX9_clause 136 = .ok (.iastore, 1) := by decide +kernel
theorem dX9_clause_137 : decode cX9_clause 137 = .ok (.aload_n 0, 1) := by decide +kernel
theorem dX9_clause_138 : decode cX9_clause 138 = .ok (.invokevirtual 218, 3) := by decide +kernel
theorem dX9_clause_141 : decode cX9_clause 141 = .ok (.aload_n 0, 1) := by decide +kernel
theorem dX9_clause_142 : decode cX9_clause 142 = .ok (.getfield 237, 3) := by decide +kernel
theorem dX9_clause_145 : decode cX9_clause 145 = .ok (.iconst 3, 1) := by decide +kernel
theorem dX9_clause_146 : decode cX9_clause 146 = .ok (.if_icmp .gt 14, 3) := by decide +kernel
theorem dX9_clause_149 : decode cX9_clause 149 = .ok (.aload_n 0, 1) := by decide +kernel
theorem dX9_clause_150 : decode cX9_clause 150 = .ok (.iconst 1, 1) := by decide +kernel
theorem dX9_clause_151 : decode cX9_clause 151 = .ok (.invokevirtual 215, 3) := by decide +kernel
theorem dX9_clause_154 : decode cX9_clause 154 = .ok (.aload_n 0, 1) := by decide +kernel
theorem dX9_clause_155 : decode cX9_clause 155 = .ok (.iconst 1, 1) := by decide +kernel
theorem dX9_clause_156 : decode cX9_clause 156 = .ok (.putfield 250, 3) := by decide +kernel
theorem dX9_clause_159 : decode cX9_clause 159 = .ok (.return_, 1) := by decide +kernel
theorem dX9_clause_160 : decode cX9_clause 160 = .ok (.aload_n 0, 1) := by decide +kernel
theorem dX9_clause_161 : decode cX9_clause 161 = .ok (.getfield 66, 3) := by decide +kernel
theorem dX9_clause_164 : decode cX9_clause 164 = .ok (.aload_n 0, 1) := by decide +kernel
theorem dX9_clause_165 : decode cX9_clause 165 = .ok (.getfield 259, 3) := by decide +kernel
theorem dX9_clause_168 : decode cX9_clause 168 = .ok (.aload_n 0, 1) := by decide +kernel
theorem dX9_clause_169 : decode cX9_clause 169 = .ok (.getfield 237, 3) := by decide +kernel
theorem dX9_clause_172 : decode cX9_clause 172 = .ok (.iconst 4, 1) := by decide +kernel
theorem dX9_clause_173 : decode cX9_clause 173 = .ok (.if_icmp .ne 13, 3) := by decide +kernel
theorem dX9_clause_176 : decode cX9_clause 176 = .ok (.aload_n 0, 1) := by decide +kernel
theorem dX9_clause_177 : decode cX9_clause 177 = .ok (.iconst 0, 1) := by decide +kernel
theorem dX9_clause_178 : decode cX9_clause 178 = .ok (.bipush 11, 2) := by decide +kernel
theorem dX9_clause_180 : decode cX9_clause 180 = .ok (.invokevirtual 268, 3) := by decide +kernel
theorem dX9_clause_183 : decode cX9_clause 183 = .ok (.goto 28, 3) := by decide +kernel
theorem dX9_clause_186 : decode cX9_clause 186 = .ok (.aload_n 0, 1) := by decide +kernel
theorem dX9_clause_187 : decode cX9_clause 187 = .ok (.getfield 237, 3) := by decide +kernel
theorem dX9_clause_190 : decode cX9_clause 190 = .ok (.bipush 7, 2) := by decide +kernel
theorem dX9_clause_192 : decode cX9_clause 192 = .ok (.if_icmp .ne 13, 3) := by decide +kernel
theorem dX9_clause_195 : decode cX9_clause 195 = .ok (.aload_n 0, 1) := by decide +kernel
theorem dX9_clause_196 : decode cX9_clause 196 = .ok (.iconst 1, 1) := by decide +kernel
theorem dX9_clause_197 : decode cX9_clause 197 = .ok (.bipush 30, 2) := by decide +kernel
theorem dX9_clause_199 : decode cX9_clause 199 = .ok (.invokevirtual 268, 3) := by decide +kernel
theorem dX9_clause_202 : decode cX9_clause 202 = .ok (.goto 9, 3) := by decide +kernel
theorem dX9_clause_205 : decode cX9_clause 205 = .ok (.aload_n 0, 1) := by decide +kernel
theorem dX9_clause_206 : decode cX9_clause 206 = .ok (.iconst 0, 1) := by decide +kernel
theorem dX9_clause_207 : decode cX9_clause 207 = .ok (.iconst 5, 1) := by decide +kernel
theorem dX9_clause_208 : decode cX9_clause 208 = .ok (.invokevirtual 268, 3) := by decide +kernel
theorem dX9_clause_211 : decode cX9_clause 211 = .ok (.iastore, 1) := by decide +kernel
theorem dX9_clause_212 : decode cX9_clause 212 = .ok (.aload_n 0, 1) := by decide +kernel
theorem dX9_clause_213 : decode cX9_clause 213 = .ok (.getfield 237, 3) := by decide +kernel
theorem dX9_clause_216 : decode cX9_clause 216 = .ok (.iconst 4, 1) := by decide +kernel
theorem dX9_clause_217 : decode cX9_clause 217 = .ok (.if_icmp .ne 46, 3) := by decide +kernel
theorem dX9_clause_220 : decode cX9_clause 220 = .ok (.aload_n 0, 1) := by decide +kernel
theorem dX9_clause_221 : decode cX9_clause 221 = .ok (.bipush 8, 2) := by decide +kernel
theorem dX9_clause_223 : decode cX9_clause 223 = .ok (.invokevirtual 272, 3) := by decide +kernel
theorem dX9_clause_226 : decode cX9_clause 226 = .ok (.aload_n 0, 1) := by decide +kernel
theorem dX9_clause_227 : decode cX9_clause 227 = .ok (.getfield 69, 3) := by decide +kernel
theorem dX9_clause_230 : decode cX9_clause 230 = .ok (.aload_n 0, 1) := by decide +kernel
theorem dX9_clause_231 : decode cX9_clause 231 = .ok (.getfield 259, 3) := by decide +kernel
theorem dX9_clause_234 : decode cX9_clause 234 = .ok (.aload_n 0, 1) := by decide +kernel
theorem dX9_clause_235 : decode cX9_clause 235 = .ok (.iconst 0, 1) := by decide +kernel
theorem dX9_clause_236 : decode cX9_clause 236 = .ok (.iconst 5, 1) := by decide +kernel
theorem dX9_clause_237 : decode cX9_clause 237 = .ok (.invokevirtual 268, 3) := by decide +kernel
theorem dX9_clause_240 : decode cX9_clause 240 = .ok (.iastore, 1) := by decide +kernel
theorem dX9_clause_241 : decode cX9_clause 241 = .ok (.aload_n 0, 1) := by decide +kernel
theorem dX9_clause_242 : decode cX9_clause 242 = .ok (.bipush 9, 2) := by decide +kernel
theorem dX9_clause_244 : decode cX9_clause 244 = .ok (.invokevirtual 272, 3) := by decide +kernel
theorem dX9_clause_247 : decode cX9_clause 247 = .ok (.aload_n 0, 1) := by decide +kernel
theorem dX9_clause_248 : decode cX9_clause 248 = .ok (.getfield 72, 3) := by decide +kernel
theorem dX9_clause_251 : decode cX9_clause 251 = .ok (.aload_n 0, 1) := by decide +kernel
theorem dX9_clause_252 : decode cX9_clause 252 = .ok (.getfield 259, 3) := by decide +kernel
theorem dX9_clause_255 : decode cX9_clause 255 = .ok (.aload_n 0, 1) := by decide +kernel
theorem dX9_clause_256 : decode cX9_clause 256 = .ok (.iconst 0, 1) := by decide +kernel
theorem dX9_clause_257 : decode cX9_clause 257 = .ok (.bipush 7, 2) := by decide +kernel
theorem dX9_clause_259 : decode cX9_clause 259 = .ok (.invokevirtual 268, 3) := by decide +kernel
theorem dX9_clause_262 : decode cX9_clause 262 = .ok (.iastore, 1) := by decide +kernel
theorem dX9_clause_263 : decode cX9_clause 263 = .ok (.aload_n 0, 1) := by decide +kernel
theorem dX9_clause_264 : decode cX9_clause 264 = .ok (.getfield 197, 3) := by decide +kernel
theorem dX9_clause_267 : decode cX9_clause 267 = .ok (.ifCond .ne 17, 3) := by decide +kernel
theorem dX9_clause_270 : decode cX9_clause 270 = .ok (.aload_n 0, 1) := by decide +kernel
theorem dX9_clause_271 : decode cX9_clause 271 = .ok (.bipush 59, 2) := by decide +kernel
theorem dX9_clause_273 : decode cX9_clause 273 = .ok (.invokevirtual 240, 3) := by decide +kernel
theorem dX9_clause_276 : decode cX9_clause 276 = .ok (.ifCond .ne 8, 3) := by decide +kernel
theorem dX9_clause_279 : decode cX9_clause 279 = .ok (.aload_n 0, 1) := by decide +kernel
theorem dX9_clause_280 : decode cX9_clause 280 = .ok (.iconst 1, 1) := by decide +kernel
theorem dX9_clause_281 : decode cX9_clause 281 = .ok (.invokevirtual 212, 3) := by decide +kernel
theorem dX9_clause_284 : decode cX9_clause 284 = .ok (.aload_n 0, 1) := by decide +kernel
theorem dX9_clause_285 : decode cX9_clause 285 = .ok (.getfield 197, 3) := by decide +kernel
theorem dX9_clause_288 : decode cX9_clause 288 = .ok (.ifCond .ne 7, 3) := by decide +kernel
theorem dX9_clause_291 : decode cX9_clause 291 = .ok (.aload_n 0, 1) := by decide +kernel
theorem dX9_clause_292 : decode cX9_clause 292 = .ok (.invokevirtual 256, 3) := by decide +kernel
theorem dX9_clause_295 : decode cX9_clause 295 = .ok (.return_, 1) := by decide +kernel
theorem dX9_text_0 : decode cX9_text 0 = .ok (.aload_n 0, 1) := by decide +kernel
theorem dX9_text_1 : decode cX9_text 1 = .ok (.getfield 7, 3) := by decide +kernel
theorem dX9_text_4 : decode cX9_text 4 = .ok (.iconst 2, 1) := by decide +kernel
theorem dX9_text_5 : decode cX9_text 5 = .ok (.iaload, 1) := by decide +kernel
theorem dX9_text_6 : decode cX9_text 6 = .ok (.iconst 4, 1) := by decide +kernel
theorem dX9_text_7 : decode cX9_text 7 = .ok (.if_icmp .ne 5, 3) := by decide +kernel
theorem dX9_text_10 : decode cX9_text 10 = .ok (.iconst (-1), 1) := by decide +kernel
theorem dX9_text_11 : decode cX9_text 11 = .ok (.ireturn, 1) := by decide +kernel
theorem dX9_text_12 : decode cX9_text 12 = .ok (.aload_n 0, 1) := by decide +kernel
theorem dX9_text_13 : decode cX9_text 13 = .ok (.aload_n 0, 1) := by decide +kernel
theorem dX9_text_14 : decode cX9_text 14 = .ok (.getfield 128, 3) := by decide +kernel
theorem dX9_text_17 : decode cX9_text 17 = .ok (.putfield 174, 3) := by decide +kernel
theorem dX9_text_20 : decode cX9_text 20 = .ok (.aload_n 0, 1) := by decide +kernel
theorem dX9_text_21 : decode cX9_text 21 = .ok (.iconst 0, 1) := by decide +kernel
theorem dX9_text_22 : decode cX9_text 22 = .ok (.putfield 128, 3) := by decide +kernel
theorem dX9_text_25 : decode cX9_text 25 = .ok (.aload_n 0, 1) := by decide +kernel
theorem dX9_text_26 : decode cX9_text 26 = .ok (.iconst 0, 1) := by decide +kernel
theorem dX9_text_27 : decode cX9_text 27 = .ok (.putfield 171, 3) := by decide +kernel
theorem dX9_text_30 : decode cX9_text 30 = .ok (.aload_n 0, 1) := by decide +kernel
theorem dX9_text_31 : decode cX9_text 31 = .ok (.iconst 0, 1) := by decide +kernel
theorem dX9_text_32 : decode cX9_text 32 = .ok (.putfield 197, 3) := by decide +kernel
theorem dX9_text_35 : decode cX9_text 35 = .ok (.aload_n 0, 1) := by decide +kernel
theorem dX9_text_36 : decode cX9_text 36 = .ok (.iconst (-1), 1) := by decide +kernel
theorem dX9_text_37 : decode cX9_text 37 = .ok (.putfield 200, 3) := by decide +kernel
theorem dX9_text_40 : decode cX9_text 40 = .ok (.aload_n 0, 1) := by decide +kernel
theorem dX9_text_41 : decode cX9_text 41 = .ok (.iconst 0, 1) := by decide +kernel
theorem dX9_text_42 : decode cX9_text 42 = .ok (.putfield 209, 3) := by decide +kernel
theorem dX9_text_45 : decode cX9_text 45 = .ok (.aload_n 0, 1) := by decide +kernel
theorem dX9_text_46 : decode cX9_text 46 = .ok (.iconst 0, 1) := by decide +kernel
theorem dX9_text_47 : decode cX9_text 47 = .ok (.putfield 206, 3) := by decide +kernel
theorem dX9_text_50 : decode cX9_text 50 = .ok (.aload_n 0, 1) := by decide +kernel
theorem dX9_text_51 : decode cX9_text 51 = .ok (.iconst 0, 1) := by decide +kernel
theorem dX9_text_52 : decode cX9_text 52 = .ok (.putfield 221, 3) := by decide +kernel
theorem dX9_text_55 : decode cX9_text 55 = .ok (.aload_n 0, 1) := by decide +kernel
theorem dX9_text_56 : decode cX9_text 56 = .ok (.iconst 4, 1) := by decide +kernel
theorem dX9_text_57 : decode cX9_text 57 = .ok (.putfield 250, 3) := by decide +kernel
theorem dX9_text_60 : decode cX9_text 60 = .ok (.aload_n 0, 1) := by decide +kernel
theorem dX9_text_61 : decode cX9_text 61 = .ok (.iconst 0, 1) := by decide +kernel
theorem dX9_text_62 : decode cX9_text 62 = .ok (.putfield 259, 3) := by decide +kernel
theorem dX9_text_65 : decode cX9_text 65 = .ok (.aload_n 0, 1) := by decide +kernel
theorem dX9_text_66 : decode cX9_text 66 = .ok (.iconst 0, 1) := by decide +kernel
theorem dX9_text_67 : decode cX9_text 67 = .ok (.putfield 203, 3) := by decide +kernel
theorem dX9_text_70 : decode cX9_text 70 = .ok (.aload_n 0, 1) := by decide +kernel
theorem dX9_text_71 : decode cX9_text 71 = .ok (.invokevirtual 218, 3) := by decide +kernel
theorem dX9_text_74 : decode cX9_text 74 = .ok (.aload_n 0, 1) := by decide +kernel
theorem dX9_text_75 : decode cX9_text 75 = .ok (.getfield 197, 3) := by decide +kernel
theorem dX9_text_78 : decode cX9_text 78 = .ok (.ifCond .ne 55, 3) := by decide +kernel
theorem dX9_text_81 : decode cX9_text 81 = .ok (.aload_n 0, 1) := by decide +kernel
theorem dX9_text_82 : decode cX9_text 82 = .ok (.getfield 250, 3) := by decide +kernel
theorem dX9_text_85 : decode cX9_text 85 = .ok (.iconst 4, 1) := by decide +kernel
theorem dX9_text_86 : decode cX9_text 86 = .ok (.if_icmp .ne 10, 3) := by decide +kernel
theorem dX9_text_89 : decode cX9_text 89 = .ok (.aload_n 0, 1) := by decide +kernel
theorem dX9_text_90 : decode cX9_text 90 = .ok (.getfield 180, 3) := by decide +kernel
theorem dX9_text_93 : decode cX9_text 93 = .ok (.ifCond .eq 40, 3) := by decide +kernel
theorem dX9_text_96 : decode cX9_text 96 = .ok (.aload_n 0, 1) := by decide +kernel
theorem dX9_text_97 : decode cX9_text 97 = .ok (.getfield 250, 3) := by decide +kernel
theorem dX9_text_100 : decode cX9_text 100 = .ok (.iconst 1, 1) := by decide +kernel
theorem dX9_text_101 : decode cX9_text 101 = .ok (.if_icmp .ne 10, 3) := by decide +kernel
theorem dX9_text_104 : decode cX9_text 104 = .ok (.aload_n 0, 1) := by decide +kernel
theorem dX9_text_105 : decode cX9_text 105 = .ok (.invokevirtual 275, 3) := by decide +kernel
theorem dX9_text_108 : decode cX9_text 108 = .ok (.goto (-34), 3) := by decide +kernel
theorem dX9_text_111 : decode cX9_text 111 = .ok (.aload_n 0, 1) := by decide +kernel
theorem dX9_text_112 : decode cX9_text 112 = .ok (.getfield 250, 3) := by decide +kernel
theorem dX9_text_115 : decode cX9_text 115 = .ok (.iconst 2, 1) := by decide +kernel
theorem dX9_text_116 : decode cX9_text 116 = .ok (.if_icmp .ne 10, 3) := by decide +kernel
theorem dX9_text_119 : decode cX9_text 119 = .ok (.aload_n 0, 1) := by decide +kernel
theorem dX9_text_120 : decode cX9_text 120 = .ok (.invokevirtual 278, 3) := by decide +kernel
theorem dX9_text_123 : decode cX9_text 123 = .ok (.goto (-49), 3) := by decide +kernel
theorem dX9_text_126 : decode cX9_text 126 = .ok (.aload_n 0, 1) := by decide +kernel
theorem dX9_text_127 : decode cX9_text 127 = .ok (.invokevirtual 281, 3) := by decide +kernel
theorem dX9_text_130 : decode cX9_text 130 = .ok (.goto (-56), 3) := by decide +kernel
theorem dX9_text_133 : decode cX9_text 133 = .ok (.aload_n 0, 1) := by decide +kernel
theorem dX9_text_134 : decode cX9_text 134 = .ok (.aload_n 0, 1) := by decide +kernel
theorem dX9_text_135 : decode cX9_text 135 = .ok (.getfield 197, 3) := by decide +kernel
theorem dX9_text_138 : decode cX9_text 138 = .ok (.putfield 20, 3) := by decide +kernel
theorem dX9_text_141 : decode cX9_text 141 = .ok (.aload_n 0, 1) := by decide +kernel
theorem dX9_text_142 : decode cX9_text 142 = .ok (.aload_n 0, 1) := by decide +kernel
theorem dX9_text_143 : decode cX9_text 143 = .ok (.getfield 200, 3) := by decide +kernel
theorem dX9_text_146 : decode cX9_text 146 = .ok (.putfield 24, 3) := by decide +kernel
theorem dX9_text_149 : decode cX9_text 149 = .ok (.aload_n 0, 1) := by decide +kernel
theorem dX9_text_150 : decode cX9_text 150 = .ok (.getfield 197, 3) := by decide +kernel
theorem dX9_text_153 : decode cX9_text 153 = .ok (.ifCond .le 5, 3) := by decide +kernel
theorem dX9_text_156 : decode cX9_text 156 = .ok (.iconst (-1), 1) := by decide +kernel
theorem dX9_text_157 : decode cX9_text 157 = .ok (.ireturn, 1) := by decide +kernel
theorem dX9_text_158 : decode cX9_text 158 = .ok (.aload_n 0, 1) := by decide +kernel
theorem dX9_text_159 : decode cX9_text 159 = .ok (.getfield 7, 3) := by decide +kernel
theorem dX9_text_162 : decode cX9_text 162 = .ok (.iconst 2, 1) := by decide +kernel
theorem dX9_text_163 : decode cX9_text 163 = .ok (.iaload, 1) := by decide +kernel
theorem dX9_text_164 : decode cX9_text 164 = .ok (.istore_n 1, 1) := by decide +kernel
theorem dX9_text_165 : decode cX9_text 165 = .ok (.aload_n 0, 1) := by decide +kernel
theorem dX9_text_166 : decode cX9_text 166 = .ok (.getfield 27, 3) := by decide +kernel
theorem dX9_text_169 : decode cX9_text 169 = .ok (.iload_n 1, 1) := by decide +kernel
theorem dX9_text_170 : decode cX9_text 170 = .ok (.aload_n 0, 1) := by decide +kernel
theorem dX9_text_171 : decode cX9_text 171 = .ok (.getfield 259, 3) := by decide +kernel
theorem dX9_text_174 : decode cX9_text 174 = .ok (.iastore, 1) := by decide +kernel
theorem dX9_text_175 : decode cX9_text 175 = .ok (.iconst 0, 1) := by decide +kernel
theorem dX9_text_176 : decode cX9_text 176 = .ok (.istore_n 2, 1) := by decide +kernel
theorem dX9_text_177 : decode cX9_text 177 = .ok (.iload_n 2, 1) := by decide +kernel
theorem dX9_text_178 : decode cX9_text 178 = .ok (.aload_n 0, 1) := by decide +kernel
theorem dX9_text_179 : decode cX9_text 179 = .ok (.getfield 259, 3) := by decide +kernel
theorem dX9_text_182 : decode cX9_text 182 = .ok (.if_icmp .ge 100, 3) := by decide +kernel
theorem dX9_text_185 : decode cX9_text 185 = .ok (.aload_n 0, 1) := by decide +kernel
theorem dX9_text_186 : decode cX9_text 186 = .ok (.getfield 30, 3) := by decide +kernel
theorem dX9_text_189 : decode cX9_text 189 = .ok (.bipush 24, 2) := by decide +kernel
theorem dX9_text_191 : decode cX9_text 191 = .ok (.iload_n 1, 1) := by decide +kernel
theorem dX9_text_192 : decode cX9_text 192 = .ok (.imul, 1) := by decide +kernel
theorem dX9_text_193 : decode cX9_text 193 = .ok (.iload_n 2, 1) := by decide +kernel
theorem dX9_text_194 : decode cX9_text 194 = .ok (.iadd, 1) := by decide +kernel
theorem dX9_text_195 : decode cX9_text 195 = .ok (.aload_n 0, 1) := by decide +kernel
theorem dX9_text_196 : decode cX9_text 196 = .ok (.getfield 60, 3) := by decide +kernel
theorem dX9_text_199 : decode cX9_text 199 = .ok (.iload_n 2, 1) := by decide +kernel
theorem dX9_text_200 : decode cX9_text 200 = .ok (.iaload, 1) := by decide +kernel
theorem dX9_text_201 : decode cX9_text 201 = .ok (.iastore, 1) := by decide +kernel
theorem dX9_text_202 : decode cX9_text 202 = .ok (.aload_n 0, 1) := by decide +kernel
theorem dX9_text_203 : decode cX9_text 203 = .ok (.getfield 33, 3) := by decide +kernel
theorem dX9_text_206 : decode cX9_text 206 = .ok (.bipush 24, 2) := by decide +kernel
theorem dX9_text_208 : decode cX9_text 208 = .ok (.iload_n 1, 1) := by decide +kernel
theorem dX9_text_209 : decode cX9_text 209 = .ok (.imul, 1) := by decide +kernel
theorem dX9_text_210 : decode cX9_text 210 = .ok (.iload_n 2, 1) := by decide +kernel
theorem dX9_text_211 : decode cX9_text 211 = .ok (.iadd, 1) := by decide +kernel
theorem dX9_text_212 : decode cX9_text 212 = .ok (.sipush 400, 3) := by decide +kernel
theorem dX9_text_215 : decode cX9_text 215 = .ok (.iload_n 1, 1) := by decide +kernel
theorem dX9_text_216 : decode cX9_text 216 = .ok (.imul, 1) := by decide +kernel
theorem dX9_text_217 : decode cX9_text 217 = .ok (.aload_n 0, 1) := by decide +kernel
theorem dX9_text_218 : decode cX9_text 218 = .ok (.getfield 63, 3) := by decide +kernel
theorem dX9_text_221 : decode cX9_text 221 = .ok (.iload_n 2, 1) := by decide +kernel
theorem dX9_text_222 : decode cX9_text 222 = .ok (.iaload, 1) := by decide +kernel
theorem dX9_text_223 : decode cX9_text 223 = .ok (.iadd, 1) := by decide +kernel
theorem dX9_text_224 : decode cX9_text 224 = .ok (.iastore, 1) := by decide +kernel
theorem dX9_text_225 : decode cX9_text 225 = .ok (.aload_n 0, 1) := by decide +kernel
theorem dX9_text_226 : decode cX9_text 226 = .ok (.getfield 36, 3) := by decide +kernel
theorem dX9_text_229 : decode cX9_text 229 = .ok (.bipush 24, 2) := by decide +kernel
theorem dX9_text_231 : decode cX9_text 231 = .ok (.iload_n 1, 1) := by decide +kernel
theorem dX9_text_232 : decode cX9_text 232 = .ok (.imul, 1) := by decide +kernel
theorem dX9_text_233 : decode cX9_text 233 = .ok (.iload_n 2, 1) := by decide +kernel
theorem dX9_text_234 : decode cX9_text 234 = .ok (.iadd, 1) := by decide +kernel
theorem dX9_text_235 : decode cX9_text 235 = .ok (.aload_n 0, 1) := by decide +kernel
theorem dX9_text_236 : decode cX9_text 236 = .ok (.getfield 66, 3) := by decide +kernel
theorem dX9_text_239 : decode cX9_text 239 = .ok (.iload_n 2, 1) := by decide +kernel
theorem dX9_text_240 : decode cX9_text 240 = .ok (.iaload, 1) := by decide +kernel
theorem dX9_text_241 : decode cX9_text 241 = .ok (.iastore, 1) := by decide +kernel
theorem dX9_text_242 : decode cX9_text 242 = .ok (.aload_n 0, 1) := by decide +kernel
theorem dX9_text_243 : decode cX9_text 243 = .ok (.getfield 39, 3) := by decide +kernel
theorem dX9_text_246 : decode cX9_text 246 = .ok (.bipush 24, 2) := by decide +kernel
theorem dX9_text_248 : decode cX9_text 248 = .ok (.iload_n 1, 1) := by decide +kernel
theorem dX9_text_249 : decode cX9_text 249 = .ok (.imul, 1) := by decide +kernel
theorem dX9_text_250 : decode cX9_text 250 = .ok (.iload_n 2, 1) := by decide +kernel
theorem dX9_text_251 : decode cX9_text 251 = .ok (.iadd, 1) := by decide +kernel
theorem dX9_text_252 : decode cX9_text 252 = .ok (.aload_n 0, 1) := by decide +kernel
theorem dX9_text_253 : decode cX9_text 253 = .ok (.getfield 69, 3) := by decide +kernel
theorem dX9_text_256 : decode cX9_text 256 = .ok (.iload_n 2, 1) := by decide +kernel
theorem dX9_text_257 : decode cX9_text 257 = .ok (.iaload, 1) := by decide +kernel
theorem dX9_text_258 : decode cX9_text 258 = .ok (.iastore, 1) := by decide +kernel
theorem dX9_text_259 : decode cX9_text 259 = .ok (.aload_n 0, 1) := by decide +kernel
theorem dX9_text_260 : decode cX9_text 260 = .ok (.getfield 42, 3) := by decide +kernel
theorem dX9_text_263 : decode cX9_text 263 = .ok (.bipush 24, 2) := by decide +kernel
theorem dX9_text_265 : decode cX9_text 265 = .ok (.iload_n 1, 1) := by decide +kernel
theorem dX9_text_266 : decode cX9_text 266 = .ok (.imul, 1) := by decide +kernel
theorem dX9_text_267 : decode cX9_text 267 = .ok (.iload_n 2, 1) := by decide +kernel
theorem dX9_text_268 : decode cX9_text 268 = .ok (.iadd, 1) := by decide +kernel
theorem dX9_text_269 : decode cX9_text 269 = .ok (.aload_n 0, 1) := by decide +kernel
theorem dX9_text_270 : decode cX9_text 270 = .ok (.getfield 72, 3) := by decide +kernel
theorem dX9_text_273 : decode cX9_text 273 = .ok (.iload_n 2, 1) := by decide +kernel
theorem dX9_text_274 : decode cX9_text 274 = .ok (.iaload, 1) := by decide +kernel
theorem dX9_text_275 : decode cX9_text 275 = .ok (.iastore, 1) := by decide +kernel
theorem dX9_text_276 : decode cX9_text 276 = .ok (.iinc 2 1, 3) := by decide +kernel
theorem dX9_text_279 : decode cX9_text 279 = .ok (.goto (-102), 3) := by decide +kernel
theorem dX9_text_282 : decode cX9_text 282 = .ok (.iconst 0, 1) := by decide +kernel
theorem dX9_text_283 : decode cX9_text 283 = .ok (.istore_n 2, 1) := by decide +kernel
theorem dX9_text_284 : decode cX9_text 284 = .ok (.iload_n 2, 1) := by decide +kernel
theorem dX9_text_285 : decode cX9_text 285 = .ok (.aload_n 0, 1) := by decide +kernel
theorem dX9_text_286 : decode cX9_text 286 = .ok (.getfield 203, 3) := by decide +kernel
theorem dX9_text_289 : decode cX9_text 289 = .ok (.if_icmp .ge 45, 3) := by decide +kernel
theorem dX9_text_292 : decode cX9_text 292 = .ok (.aload_n 0, 1) := by decide +kernel
theorem dX9_text_293 : decode cX9_text 293 = .ok (.getfield 45, 3) := by decide +kernel
theorem dX9_text_296 : decode cX9_text 296 = .ok (.sipush 400, 3) := by decide +kernel
theorem dX9_text_299 : decode cX9_text 299 = .ok (.iload_n 1, 1) := by decide +kernel
theorem dX9_text_300 : decode cX9_text 300 = .ok (.imul, 1) := by decide +kernel
theorem dX9_text_301 : decode cX9_text 301 = .ok (.iload_n 2, 1) := by decide +kernel
theorem dX9_text_302 : decode cX9_text 302 = .ok (.iadd, 1) := by decide +kernel
theorem dX9_text_303 : decode cX9_text 303 = .ok (.aload_n 0, 1) := by decide +kernel
theorem dX9_text_304 : decode cX9_text 304 = .ok (.getfield 75, 3) := by decide +kernel
theorem dX9_text_307 : decode cX9_text 307 = .ok (.iload_n 2, 1) := by decide +kernel
theorem dX9_text_308 : decode cX9_text 308 = .ok (.iaload, 1) := by decide +kernel
theorem dX9_text_309 : decode cX9_text 309 = .ok (.iastore, 1) := by decide +kernel
theorem dX9_text_310 : decode cX9_text 310 = .ok (.aload_n 0, 1) := by decide +kernel
theorem dX9_text_311 : decode cX9_text 311 = .ok (.getfield 48, 3) := by decide +kernel
theorem dX9_text_314 : decode cX9_text 314 = .ok (.sipush 400, 3) := by decide +kernel
theorem dX9_text_317 : decode cX9_text 317 = .ok (.iload_n 1, 1) := by decide +kernel
theorem dX9_text_318 : decode cX9_text 318 = .ok (.imul, 1) := by decide +kernel
theorem dX9_text_319 : decode cX9_text 319 = .ok (.iload_n 2, 1) := by decide +kernel
theorem dX9_text_320 : decode cX9_text 320 = .ok (.iadd, 1) := by decide +kernel
theorem dX9_text_321 : decode cX9_text 321 = .ok (.aload_n 0, 1) := by decide +kernel
theorem dX9_text_322 : decode cX9_text 322 = .ok (.getfield 78, 3) := by decide +kernel
theorem dX9_text_325 : decode cX9_text 325 = .ok (.iload_n 2, 1) := by decide +kernel
theorem dX9_text_326 : decode cX9_text 326 = .ok (.iaload, 1) := by decide +kernel
theorem dX9_text_327 : decode cX9_text 327 = .ok (.iastore, 1) := by decide +kernel
theorem dX9_text_328 : decode cX9_text 328 = .ok (.iinc 2 1, 3) := by decide +kernel
theorem dX9_text_331 : decode cX9_text 331 = .ok (.goto (-47), 3) := by decide +kernel
theorem dX9_text_334 : decode cX9_text 334 = .ok (.aload_n 0, 1) := by decide +kernel
theorem dX9_text_335 : decode cX9_text 335 = .ok (.getfield 7, 3) := by decide +kernel
theorem dX9_text_338 : decode cX9_text 338 = .ok (.iconst 2, 1) := by decide +kernel
theorem dX9_text_339 : decode cX9_text 339 = .ok (.dup2, 1) := by decide +kernel
theorem dX9_text_340 : decode cX9_text 340 = .ok (.iaload, 1) := by decide +kernel
theorem dX9_text_341 : decode cX9_text 341 = .ok (.iconst 1, 1) := by decide +kernel
theorem dX9_text_342 : decode cX9_text 342 = .ok (.iadd, 1) := by decide +kernel
theorem dX9_text_343 : decode cX9_text 343 = .ok (.iastore, 1) := by decide +kernel
theorem dX9_text_344 : decode cX9_text 344 = .ok (.iload_n 1, 1) := by decide +kernel
theorem dX9_text_345 : decode cX9_text 345 = .ok (.ireturn, 1) := by decide +kernel
theorem dX9_fault_0 : decode cX9_fault 0 = .ok (.iload_n 1, 1) := by decide +kernel
theorem dX9_fault_1 : decode cX9_fault 1 = .ok (.ifCond .ne 10, 3) := by decide +kernel
theorem dX9_fault_4 : decode cX9_fault 4 = .ok (.aload_n 0, 1) := by decide +kernel
theorem dX9_fault_5 : decode cX9_fault 5 = .ok (.getfield 20, 3) := by decide +kernel
theorem dX9_fault_8 : decode cX9_fault 8 = .ok (.goto 16, 3) := by decide +kernel
theorem dX9_fault_11 : decode cX9_fault 11 = .ok (.iload_n 1, 1) := by decide +kernel
theorem dX9_fault_12 : decode cX9_fault 12 = .ok (.iconst 1, 1) := by decide +kernel
theorem dX9_fault_13 : decode cX9_fault 13 = .ok (.if_icmp .ne 10, 3) := by decide +kernel
theorem dX9_fault_16 : decode cX9_fault 16 = .ok (.aload_n 0, 1) := by decide +kernel
theorem dX9_fault_17 : decode cX9_fault 17 = .ok (.getfield 24, 3) := by decide +kernel
theorem dX9_fault_20 : decode cX9_fault 20 = .ok (.goto 4, 3) := by decide +kernel
theorem dX9_fault_23 : decode cX9_fault 23 = .ok (.iconst (-1), 1) := by decide +kernel
theorem dX9_fault_24 : decode cX9_fault 24 = .ok (.ireturn, 1) := by decide +kernel
theorem dX9_by_0 : decode cX9_by 0 = .ok (.iload_n 1, 1) := by decide +kernel
theorem dX9_by_1 : decode cX9_by 1 = .ok (.iconst (-1), 1) := by decide +kernel
theorem dX9_by_2 : decode cX9_by 2 = .ok (.if_icmp .eq 21, 3) := by decide +kernel
theorem dX9_by_5 : decode cX9_by 5 = .ok (.iload_n 1, 1) := by decide +kernel
theorem dX9_by_6 : decode cX9_by 6 = .ok (.iconst 0, 1) := by decide +kernel
theorem dX9_by_7 : decode cX9_by 7 = .ok (.aload_n 0, 1) := by decide +kernel
theorem dX9_by_8 : decode cX9_by 8 = .ok (.getfield 7, 3) := by decide +kernel
theorem dX9_by_11 : decode cX9_by 11 = .ok (.iconst 2, 1) := by decide +kernel
theorem dX9_by_12 : decode cX9_by 12 = .ok (.iaload, 1) := by decide +kernel
theorem dX9_by_13 : decode cX9_by 13 = .ok (.iconst 1, 1) := by decide +kernel
theorem dX9_by_14 : decode cX9_by 14 = .ok (.isub, 1) := by decide +kernel
theorem dX9_by_15 : decode cX9_by 15 = .ok (.invokestatic 120, 3) := by decide +kernel
theorem dX9_by_18 : decode cX9_by 18 = .ok (.ifCond .ne 5, 3) := by decide +kernel
theorem dX9_by_21 : decode cX9_by 21 = .ok (.iconst 0, 1) := by decide +kernel
theorem dX9_by_22 : decode cX9_by 22 = .ok (.ireturn, 1) := by decide +kernel
theorem dX9_by_23 : decode cX9_by 23 = .ok (.aload_n 0, 1) := by decide +kernel
theorem dX9_by_24 : decode cX9_by 24 = .ok (.getfield 7, 3) := by decide +kernel
theorem dX9_by_27 : decode cX9_by 27 = .ok (.iconst 3, 1) := by decide +kernel
theorem dX9_by_28 : decode cX9_by 28 = .ok (.iload_n 1, 1) := by decide +kernel
theorem dX9_by_29 : decode cX9_by 29 = .ok (.iastore, 1) := by decide +kernel
theorem dX9_by_30 : decode cX9_by 30 = .ok (.iconst 1, 1) := by decide +kernel
theorem dX9_by_31 : decode cX9_by 31 = .ok (.ireturn, 1) := by decide +kernel
theorem dX9_bound_0 : decode cX9_bound 0 = .ok (.lload_n 0, 1) := by decide +kernel
theorem dX9_bound_1 : decode cX9_bound 1 = .ok (.ldc2_w 284, 3) := by decide +kernel
theorem dX9_bound_4 : decode cX9_bound 4 = .ok (.lcmp, 1) := by decide +kernel
theorem dX9_bound_5 : decode cX9_bound 5 = .ok (.ifCond .le 9, 3) := by decide +kernel
theorem dX9_bound_8 : decode cX9_bound 8 = .ok (.ldc2_w 284, 3) := by decide +kernel
theorem dX9_bound_11 : decode cX9_bound 11 = .ok (.goto 18, 3) := by decide +kernel
theorem dX9_bound_14 : decode cX9_bound 14 = .ok (.lload_n 0, 1) := by decide +kernel
theorem dX9_bound_15 : decode cX9_bound 15 = .ok (.ldc2_w 286, 3) := by decide +kernel
theorem dX9_bound_18 : decode cX9_bound 18 = .ok (.lcmp, 1) := by decide +kernel
theorem dX9_bound_19 : decode cX9_bound 19 = .ok (.ifCond .ge 9, 3) := by decide +kernel
theorem dX9_bound_22 : decode cX9_bound 22 = .ok (.ldc2_w 286, 3) := by decide +kernel
theorem dX9_bound_25 : decode cX9_bound 25 = .ok (.goto 4, 3) := by decide +kernel
theorem dX9_bound_28 : decode cX9_bound 28 = .ok (.lload_n 0, 1) := by decide +kernel
theorem dX9_bound_29 : decode cX9_bound 29 = .ok (.lreturn, 1) := by decide +kernel
theorem dX9_worked_0 : decode cX9_worked 0 = .ok (.iload_n 0, 1) := by decide +kernel
theorem dX9_worked_1 : decode cX9_worked 1 = .ok (.tableswitch 52 42 45 #[45, 31, 52, 38], 31) := by decide +kernel
theorem dX9_worked_32 : decode cX9_worked 32 = .ok (.lload_n 1, 1) := by decide +kernel
theorem dX9_worked_33 : decode cX9_worked 33 = .ok (.lload_n 3, 1) := by decide +kernel
theorem dX9_worked_34 : decode cX9_worked 34 = .ok (.ladd, 1) := by decide +kernel
theorem dX9_worked_35 : decode cX9_worked 35 = .ok (.invokestatic 288, 3) := by decide +kernel
theorem dX9_worked_38 : decode cX9_worked 38 = .ok (.lreturn, 1) := by decide +kernel
theorem dX9_worked_39 : decode cX9_worked 39 = .ok (.lload_n 1, 1) := by decide +kernel
theorem dX9_worked_40 : decode cX9_worked 40 = .ok (.lload_n 3, 1) := by decide +kernel
theorem dX9_worked_41 : decode cX9_worked 41 = .ok (.lsub, 1) := by decide +kernel
theorem dX9_worked_42 : decode cX9_worked 42 = .ok (.invokestatic 288, 3) := by decide +kernel
theorem dX9_worked_45 : decode cX9_worked 45 = .ok (.lreturn, 1) := by decide +kernel
theorem dX9_worked_46 : decode cX9_worked 46 = .ok (.lload_n 1, 1) := by decide +kernel
theorem dX9_worked_47 : decode cX9_worked 47 = .ok (.lload_n 3, 1) := by decide +kernel
theorem dX9_worked_48 : decode cX9_worked 48 = .ok (.lmul, 1) := by decide +kernel
theorem dX9_worked_49 : decode cX9_worked 49 = .ok (.invokestatic 288, 3) := by decide +kernel
theorem dX9_worked_52 : decode cX9_worked 52 = .ok (.lreturn, 1) := by decide +kernel
theorem dX9_worked_53 : decode cX9_worked 53 = .ok (.lload_n 3, 1) := by decide +kernel
theorem dX9_worked_54 : decode cX9_worked 54 = .ok (.lconst 0, 1) := by decide +kernel
theorem dX9_worked_55 : decode cX9_worked 55 = .ok (.lcmp, 1) := by decide +kernel
theorem dX9_worked_56 : decode cX9_worked 56 = .ok (.ifCond .ne 7, 3) := by decide +kernel
theorem dX9_worked_59 : decode cX9_worked 59 = .ok (.lconst 0, 1) := by decide +kernel
theorem dX9_worked_60 : decode cX9_worked 60 = .ok (.goto 6, 3) := by decide +kernel
theorem dX9_worked_63 : decode cX9_worked 63 = .ok (.lload_n 1, 1) := by decide +kernel
theorem dX9_worked_64 : decode cX9_worked 64 = .ok (.lload_n 3, 1) := by decide +kernel
theorem dX9_worked_65 : decode cX9_worked 65 = .ok (.ldiv, 1) := by decide +kernel
theorem dX9_worked_66 : decode cX9_worked 66 = .ok (.lreturn, 1) := by decide +kernel
theorem dX9_saysOf_0 : decode cX9_saysOf 0 = .ok (.iconst 0, 1) := by decide +kernel
theorem dX9_saysOf_1 : decode cX9_saysOf 1 = .ok (.istore_n 2, 1) := by decide +kernel
theorem dX9_saysOf_2 : decode cX9_saysOf 2 = .ok (.iload_n 1, 1) := by decide +kernel
theorem dX9_saysOf_3 : decode cX9_saysOf 3 = .ok (.istore_n 3, 1) := by decide +kernel
theorem dX9_saysOf_4 : decode cX9_saysOf 4 = .ok (.aload_n 0, 1) := by decide +kernel
theorem dX9_saysOf_5 : decode cX9_saysOf 5 = .ok (.getfield 45, 3) := by decide +kernel
theorem dX9_saysOf_8 : decode cX9_saysOf 8 = .ok (.iload_n 3, 1) := by decide +kernel
theorem dX9_saysOf_9 : decode cX9_saysOf 9 = .ok (.iaload, 1) := by decide +kernel
theorem dX9_saysOf_10 : decode cX9_saysOf 10 = .ok (.sipush 408, 3) := by decide +kernel
theorem dX9_saysOf_13 : decode cX9_saysOf 13 = .ok (.if_icmp .eq 133, 3) := by decide +kernel
theorem dX9_saysOf_16 : decode cX9_saysOf 16 = .ok (.aload_n 0, 1) := by decide +kernel
theorem dX9_saysOf_17 : decode cX9_saysOf 17 = .ok (.getfield 45, 3) := by decide +kernel
theorem dX9_saysOf_20 : decode cX9_saysOf 20 = .ok (.iload_n 3, 1) := by decide +kernel
theorem dX9_saysOf_21 : decode cX9_saysOf 21 = .ok (.iaload, 1) := by decide +kernel
theorem dX9_saysOf_22 : decode cX9_saysOf 22 = .ok (.istore 4, 2) := by decide +kernel
theorem dX9_saysOf_24 : decode cX9_saysOf 24 = .ok (.iload 4, 2) := by decide +kernel
theorem dX9_saysOf_26 : decode cX9_saysOf 26 = .ok (.sipush 400, 3) := by decide +kernel
theorem dX9_saysOf_29 : decode cX9_saysOf 29 = .ok (.if_icmp .eq 11, 3) := by decide +kernel
theorem dX9_saysOf_32 : decode cX9_saysOf 32 = .ok (.iload 4, 2) := by decide +kernel
theorem dX9_saysOf_34 : decode cX9_saysOf 34 = .ok (.sipush 401, 3) := by decide +kernel
theorem dX9_saysOf_37 : decode cX9_saysOf 37 = .ok (.if_icmp .ne 45, 3) := by decide +kernel
theorem dX9_saysOf_40 : decode cX9_saysOf 40 = .ok (.aload_n 0, 1) := by decide +kernel
theorem dX9_saysOf_41 : decode cX9_saysOf 41 = .ok (.getfield 84, 3) := by decide +kernel
theorem dX9_saysOf_44 : decode cX9_saysOf 44 = .ok (.iload_n 2, 1) := by decide +kernel
theorem dX9_saysOf_45 : decode cX9_saysOf 45 = .ok (.iload 4, 2) := by decide +kernel
theorem dX9_saysOf_47 : decode cX9_saysOf 47 = .ok (.sipush 400, 3) := by decide +kernel
theorem dX9_saysOf_50 : decode cX9_saysOf 50 = .ok (.if_icmp .ne 13, 3) := by decide +kernel
theorem dX9_saysOf_53 : decode cX9_saysOf 53 = .ok (.aload_n 0, 1) := by decide +kernel
theorem dX9_saysOf_54 : decode cX9_saysOf 54 = .ok (.getfield 48, 3) := by decide +kernel
theorem dX9_saysOf_57 : decode cX9_saysOf 57 = .ok (.iload_n 3, 1) := by decide +kernel
theorem dX9_saysOf_58 : decode cX9_saysOf 58 = .ok (.iaload, 1) := by decide +kernel
theorem dX9_saysOf_59 : decode cX9_saysOf 59 = .ok (.i2l, 1) := by decide +kernel
theorem dX9_saysOf_60 : decode cX9_saysOf 60 = .ok (.goto 15, 3) := by decide +kernel
theorem dX9_saysOf_63 : decode cX9_saysOf 63 = .ok (.aload_n 0, 1) := by decide +kernel
theorem dX9_saysOf_64 : decode cX9_saysOf 64 = .ok (.getfield 81, 3) := by decide +kernel
theorem dX9_saysOf_67 : decode cX9_saysOf 67 = .ok (.aload_n 0, 1) := by decide +kernel
theorem dX9_saysOf_68 : decode cX9_saysOf 68 = .ok (.getfield 48, 3) := by decide +kernel
theorem dX9_saysOf_71 : decode cX9_saysOf 71 = .ok (.iload_n 3, 1) := by decide +kernel
theorem dX9_saysOf_72 : decode cX9_saysOf 72 = .ok (.iaload, 1) := by decide +kernel
theorem dX9_saysOf_73 : decode cX9_saysOf 73 = .ok (.iaload, 1) := by decide +kernel
theorem dX9_saysOf_74 : decode cX9_saysOf 74 = .ok (.i2l, 1) := by decide +kernel
theorem dX9_saysOf_75 : decode cX9_saysOf 75 = .ok (.lastore, 1) := by decide +kernel
theorem dX9_saysOf_76 : decode cX9_saysOf 76 = .ok (.iinc 2 1, 3) := by decide +kernel
theorem dX9_saysOf_79 : decode cX9_saysOf 79 = .ok (.goto 61, 3) := by decide +kernel
theorem dX9_saysOf_82 : decode cX9_saysOf 82 = .ok (.iload 4, 2) := by decide +kernel
theorem dX9_saysOf_84 : decode cX9_saysOf 84 = .ok (.sipush 402, 3) := by decide +kernel
theorem dX9_saysOf_87 : decode cX9_saysOf 87 = .ok (.if_icmp .ne 23, 3) := by decide +kernel
theorem dX9_saysOf_90 : decode cX9_saysOf 90 = .ok (.aload_n 0, 1) := by decide +kernel
theorem dX9_saysOf_91 : decode cX9_saysOf 91 = .ok (.getfield 84, 3) := by decide +kernel
theorem dX9_saysOf_94 : decode cX9_saysOf 94 = .ok (.iload_n 2, 1) := by decide +kernel
theorem dX9_saysOf_95 : decode cX9_saysOf 95 = .ok (.iconst 1, 1) := by decide +kernel
theorem dX9_saysOf_96 : decode cX9_saysOf 96 = .ok (.isub, 1) := by decide +kernel
theorem dX9_saysOf_97 : decode cX9_saysOf 97 = .ok (.aload_n 0, 1) := by decide +kernel
theorem dX9_saysOf_98 : decode cX9_saysOf 98 = .ok (.getfield 84, 3) := by decide +kernel
theorem dX9_saysOf_101 : decode cX9_saysOf 101 = .ok (.iload_n 2, 1) := by decide +kernel
theorem dX9_saysOf_102 : decode cX9_saysOf 102 = .ok (.iconst 1, 1) := by decide +kernel
theorem dX9_saysOf_103 : decode cX9_saysOf 103 = .ok (.isub, 1) := by decide +kernel
theorem dX9_saysOf_104 : decode cX9_saysOf 104 = .ok (.laload, 1) := by decide +kernel
theorem dX9_saysOf_105 : decode cX9_saysOf 105 = .ok (.lneg, 1) := by decide +kernel
theorem dX9_saysOf_106 : decode cX9_saysOf 106 = .ok (.lastore, 1) := by decide +kernel
theorem dX9_saysOf_107 : decode cX9_saysOf 107 = .ok (.goto 33, 3) := by decide +kernel
theorem dX9_saysOf_110 : decode cX9_saysOf 110 = .ok (.iinc 2 (-1), 3) := by decide +kernel
theorem dX9_saysOf_113 : decode cX9_saysOf 113 = .ok (.aload_n 0, 1) := by decide +kernel
theorem dX9_saysOf_114 : decode cX9_saysOf 114 = .ok (.getfield 84, 3) := by decide +kernel
theorem dX9_saysOf_117 : decode cX9_saysOf 117 = .ok (.iload_n 2, 1) := by decide +kernel
theorem dX9_saysOf_118 : decode cX9_saysOf 118 = .ok (.iconst 1, 1) := by decide +kernel
theorem dX9_saysOf_119 : decode cX9_saysOf 119 = .ok (.isub, 1) := by decide +kernel
theorem dX9_saysOf_120 : decode cX9_saysOf 120 = .ok (.iload 4, 2) := by decide +kernel
theorem dX9_saysOf_122 : decode cX9_saysOf 122 = .ok (.aload_n 0, 1) := by decide +kernel
theorem dX9_saysOf_123 : decode cX9_saysOf 123 = .ok (.getfield 84, 3) := by decide +kernel
theorem dX9_saysOf_126 : decode cX9_saysOf 126 = .ok (.iload_n 2, 1) := by decide +kernel
theorem dX9_saysOf_127 : decode cX9_saysOf 127 = .ok (.iconst 1, 1) := by decide +kernel
theorem dX9_saysOf_128 : decode cX9_saysOf 128 = .ok (.isub, 1) := by decide +kernel
theorem dX9_saysOf_129 : decode cX9_saysOf 129 = .ok (.laload, 1) := by decide +kernel
theorem dX9_saysOf_130 : decode cX9_saysOf 130 = .ok (.aload_n 0, 1) := by decide +kernel
theorem dX9_saysOf_131 : decode cX9_saysOf 131 = .ok (.getfield 84, 3) := by decide +kernel
theorem dX9_saysOf_134 : decode cX9_saysOf 134 = .ok (.iload_n 2, 1) := by decide +kernel
theorem dX9_saysOf_135 : decode cX9_saysOf 135 = .ok (.laload, 1) := by decide +kernel
theorem dX9_saysOf_136 : decode cX9_saysOf 136 = .ok (.invokestatic 292, 3) := by decide +kernel
theorem dX9_saysOf_139 : decode cX9_saysOf 139 = .ok (.lastore, 1) := by decide +kernel
theorem dX9_saysOf_140 : decode cX9_saysOf 140 = .ok (.iinc 3 1, 3) := by decide +kernel
theorem dX9_saysOf_143 : decode cX9_saysOf 143 = .ok (.goto (-139), 3) := by decide +kernel
theorem dX9_saysOf_146 : decode cX9_saysOf 146 = .ok (.aload_n 0, 1) := by decide +kernel
theorem dX9_saysOf_147 : decode cX9_saysOf 147 = .ok (.getfield 84, 3) := by decide +kernel
theorem dX9_saysOf_150 : decode cX9_saysOf 150 = .ok (.iconst 0, 1) := by decide +kernel
theorem dX9_saysOf_151 : decode cX9_saysOf 151 = .ok (.laload, 1) := by decide +kernel
theorem dX9_saysOf_152 : decode cX9_saysOf 152 = .ok (.lreturn, 1) := by decide +kernel
theorem dX9_ordersOf_0 : decode cX9_ordersOf 0 = .ok (.iconst (-1), 1) := by decide +kernel
theorem dX9_ordersOf_1 : decode cX9_ordersOf 1 = .ok (.istore_n 2, 1) := by decide +kernel
theorem dX9_ordersOf_2 : decode cX9_ordersOf 2 = .ok (.iconst 0, 1) := by decide +kernel
theorem dX9_ordersOf_3 : decode cX9_ordersOf 3 = .ok (.istore_n 3, 1) := by decide +kernel
theorem dX9_ordersOf_4 : decode cX9_ordersOf 4 = .ok (.aload_n 0, 1) := by decide +kernel
theorem dX9_ordersOf_5 : decode cX9_ordersOf 5 = .ok (.getfield 7, 3) := by decide +kernel
theorem dX9_ordersOf_8 : decode cX9_ordersOf 8 = .ok (.iconst 3, 1) := by decide +kernel
theorem dX9_ordersOf_9 : decode cX9_ordersOf 9 = .ok (.iaload, 1) := by decide +kernel
theorem dX9_ordersOf_10 : decode cX9_ordersOf 10 = .ok (.iconst (-1), 1) := by decide +kernel
theorem dX9_ordersOf_11 : decode cX9_ordersOf 11 = .ok (.if_icmp .eq 60, 3) := by decide +kernel
theorem dX9_ordersOf_14 : decode cX9_ordersOf 14 = .ok (.iload_n 3, 1) := by decide +kernel
theorem dX9_ordersOf_15 : decode cX9_ordersOf 15 = .ok (.aload_n 0, 1) := by decide +kernel
theorem dX9_ordersOf_16 : decode cX9_ordersOf 16 = .ok (.getfield 27, 3) := by decide +kernel
theorem dX9_ordersOf_19 : decode cX9_ordersOf 19 = .ok (.aload_n 0, 1) := by decide +kernel
theorem dX9_ordersOf_20 : decode cX9_ordersOf 20 = .ok (.getfield 7, 3) := by decide +kernel
theorem dX9_ordersOf_23 : decode cX9_ordersOf 23 = .ok (.iconst 3, 1) := by decide +kernel
