theorem dX7_init_0 : decode cX7_init 0 = .ok (.aload_n 0, 1) := by decide +kernel
theorem dX7_init_1 : decode cX7_init 1 = .ok (.invokespecial 1, 3) := by decide +kernel
theorem dX7_init_4 : decode cX7_init 4 = .ok (.aload_n 0, 1) := by decide +kernel
theorem dX7_init_5 : decode cX7_init 5 = .ok (.bipush 26, 2) := by decide +kernel
theorem dX7_init_7 : decode cX7_init 7 = .ok (.newarray .int, 2) := by decide +kernel
theorem dX7_init_9 : decode cX7_init 9 = .ok (.putfield 7, 3) := by decide +kernel
theorem dX7_init_12 : decode cX7_init 12 = .ok (.aload_n 0, 1) := by decide +kernel
theorem dX7_init_13 : decode cX7_init 13 = .ok (.sipush 702, 3) := by decide +kernel
theorem dX7_init_16 : decode cX7_init 16 = .ok (.newarray .int, 2) := by decide +kernel
theorem dX7_init_18 : decode cX7_init 18 = .ok (.putfield 13, 3) := by decide +kernel
theorem dX7_init_21 : decode cX7_init 21 = .ok (.aload_n 0, 1) := by decide +kernel
theorem dX7_init_22 : decode cX7_init 22 = .ok (.sipush 4356, 3) := by decide +kernel
theorem dX7_init_25 : decode cX7_init 25 = .ok (.newarray .int, 2) := by decide +kernel
theorem dX7_init_27 : decode cX7_init 27 = .ok (.putfield 16, 3) := by decide +kernel
theorem dX7_init_30 : decode cX7_init 30 = .ok (.aload_n 0, 1) := by decide +kernel
theorem dX7_init_31 : decode cX7_init 31 = .ok (.bipush 66, 2) := by decide +kernel
theorem dX7_init_33 : decode cX7_init 33 = .ok (.newarray .int, 2) := by decide +kernel
theorem dX7_init_35 : decode cX7_init 35 = .ok (.putfield 19, 3) := by decide +kernel
theorem dX7_init_38 : decode cX7_init 38 = .ok (.aload_n 0, 1) := by decide +kernel
theorem dX7_init_39 : decode cX7_init 39 = .ok (.bipush 100, 2) := by decide +kernel
theorem dX7_init_41 : decode cX7_init 41 = .ok (.newarray .int, 2) := by decide +kernel
theorem dX7_init_43 : decode cX7_init 43 = .ok (.putfield 22, 3) := by decide +kernel
theorem dX7_init_46 : decode cX7_init 46 = .ok (.aload_n 0, 1) := by decide +kernel
theorem dX7_init_47 : decode cX7_init 47 = .ok (.bipush 100, 2) := by decide +kernel
theorem dX7_init_49 : decode cX7_init 49 = .ok (.newarray .int, 2) := by decide +kernel
theorem dX7_init_51 : decode cX7_init 51 = .ok (.putfield 25, 3) := by decide +kernel
theorem dX7_init_54 : decode cX7_init 54 = .ok (.aload_n 0, 1) := by decide +kernel
theorem dX7_init_55 : decode cX7_init 55 = .ok (.bipush 100, 2) := by decide +kernel
theorem dX7_init_57 : decode cX7_init 57 = .ok (.newarray .int, 2) := by decide +kernel
theorem dX7_init_59 : decode cX7_init 59 = .ok (.putfield 28, 3) := by decide +kernel
theorem dX7_init_62 : decode cX7_init 62 = .ok (.aload_n 0, 1) := by decide +kernel
theorem dX7_init_63 : decode cX7_init 63 = .ok (.bipush 120, 2) := by decide +kernel
theorem dX7_init_65 : decode cX7_init 65 = .ok (.newarray .int, 2) := by decide +kernel
theorem dX7_init_67 : decode cX7_init 67 = .ok (.putfield 31, 3) := by decide +kernel
theorem dX7_init_70 : decode cX7_init 70 = .ok (.aload_n 0, 1) := by decide +kernel
theorem dX7_init_71 : decode cX7_init 71 = .ok (.bipush 120, 2) := by decide +kernel
theorem dX7_init_73 : decode cX7_init 73 = .ok (.newarray .int, 2) := by decide +kernel
theorem dX7_init_75 : decode cX7_init 75 = .ok (.putfield 34, 3) := by decide +kernel
theorem dX7_init_78 : decode cX7_init 78 = .ok (.aload_n 0, 1) := by decide +kernel
theorem dX7_init_79 : decode cX7_init 79 = .ok (.bipush 120, 2) := by decide +kernel
theorem dX7_init_81 : decode cX7_init 81 = .ok (.newarray .int, 2) := by decide +kernel
theorem dX7_init_83 : decode cX7_init 83 = .ok (.putfield 37, 3) := by decide +kernel
theorem dX7_init_86 : decode cX7_init 86 = .ok (.aload_n 0, 1) := by decide +kernel
theorem dX7_init_87 : decode cX7_init 87 = .ok (.sipush 4800, 3) := by decide +kernel
theorem dX7_init_90 : decode cX7_init 90 = .ok (.newarray .int, 2) := by decide +kernel
theorem dX7_init_92 : decode cX7_init 92 = .ok (.putfield 40, 3) := by decide +kernel
theorem dX7_init_95 : decode cX7_init 95 = .ok (.aload_n 0, 1) := by decide +kernel
theorem dX7_init_96 : decode cX7_init 96 = .ok (.bipush 120, 2) := by decide +kernel
theorem dX7_init_98 : decode cX7_init 98 = .ok (.newarray .int, 2) := by decide +kernel
theorem dX7_init_100 : decode cX7_init 100 = .ok (.putfield 43, 3) := by decide +kernel
theorem dX7_init_103 : decode cX7_init 103 = .ok (.aload_n 0, 1) := by decide +kernel
theorem dX7_init_104 : decode cX7_init 104 = .ok (.sipush 1440, 3) := by decide +kernel
theorem dX7_init_107 : decode cX7_init 107 = .ok (.newarray .int, 2) := by decide +kernel
theorem dX7_init_109 : decode cX7_init 109 = .ok (.putfield 46, 3) := by decide +kernel
theorem dX7_init_112 : decode cX7_init 112 = .ok (.aload_n 0, 1) := by decide +kernel
theorem dX7_init_113 : decode cX7_init 113 = .ok (.sipush 400, 3) := by decide +kernel
theorem dX7_init_116 : decode cX7_init 116 = .ok (.newarray .int, 2) := by decide +kernel
theorem dX7_init_118 : decode cX7_init 118 = .ok (.putfield 49, 3) := by decide +kernel
theorem dX7_init_121 : decode cX7_init 121 = .ok (.aload_n 0, 1) := by decide +kernel
theorem dX7_init_122 : decode cX7_init 122 = .ok (.sipush 400, 3) := by decide +kernel
theorem dX7_init_125 : decode cX7_init 125 = .ok (.newarray .int, 2) := by decide +kernel
theorem dX7_init_127 : decode cX7_init 127 = .ok (.putfield 52, 3) := by decide +kernel
theorem dX7_init_130 : decode cX7_init 130 = .ok (.aload_n 0, 1) := by decide +kernel
theorem dX7_init_131 : decode cX7_init 131 = .ok (.sipush 400, 3) := by decide +kernel
theorem dX7_init_134 : decode cX7_init 134 = .ok (.newarray .int, 2) := by decide +kernel
theorem dX7_init_136 : decode cX7_init 136 = .ok (.putfield 55, 3) := by decide +kernel
theorem dX7_init_139 : decode cX7_init 139 = .ok (.aload_n 0, 1) := by decide +kernel
theorem dX7_init_140 : decode cX7_init 140 = .ok (.sipush 400, 3) := by decide +kernel
theorem dX7_init_143 : decode cX7_init 143 = .ok (.newarray .int, 2) := by decide +kernel
theorem dX7_init_145 : decode cX7_init 145 = .ok (.putfield 58, 3) := by decide +kernel
theorem dX7_init_148 : decode cX7_init 148 = .ok (.aload_n 0, 1) := by decide +kernel
theorem dX7_init_149 : decode cX7_init 149 = .ok (.bipush 40, 2) := by decide +kernel
theorem dX7_init_151 : decode cX7_init 151 = .ok (.newarray .int, 2) := by decide +kernel
theorem dX7_init_153 : decode cX7_init 153 = .ok (.putfield 61, 3) := by decide +kernel
theorem dX7_init_156 : decode cX7_init 156 = .ok (.aload_n 0, 1) := by decide +kernel
theorem dX7_init_157 : decode cX7_init 157 = .ok (.bipush 40, 2) := by decide +kernel
theorem dX7_init_159 : decode cX7_init 159 = .ok (.newarray .int, 2) := by decide +kernel
theorem dX7_init_161 : decode cX7_init 161 = .ok (.putfield 64, 3) := by decide +kernel
theorem dX7_init_164 : decode cX7_init 164 = .ok (.aload_n 0, 1) := by decide +kernel
theorem dX7_init_165 : decode cX7_init 165 = .ok (.sipush 1681, 3) := by decide +kernel
theorem dX7_init_168 : decode cX7_init 168 = .ok (.newarray .int, 2) := by decide +kernel
theorem dX7_init_170 : decode cX7_init 170 = .ok (.putfield 67, 3) := by decide +kernel
theorem dX7_init_173 : decode cX7_init 173 = .ok (.aload_n 0, 1) := by decide +kernel
theorem dX7_init_174 : decode cX7_init 174 = .ok (.sipush 400, 3) := by decide +kernel
theorem dX7_init_177 : decode cX7_init 177 = .ok (.newarray .int, 2) := by decide +kernel
theorem dX7_init_179 : decode cX7_init 179 = .ok (.putfield 70, 3) := by decide +kernel
theorem dX7_init_182 : decode cX7_init 182 = .ok (.aload_n 0, 1) := by decide +kernel
theorem dX7_init_183 : decode cX7_init 183 = .ok (.sipush 400, 3) := by decide +kernel
theorem dX7_init_186 : decode cX7_init 186 = .ok (.newarray .int, 2) := by decide +kernel
theorem dX7_init_188 : decode cX7_init 188 = .ok (.putfield 73, 3) := by decide +kernel
theorem dX7_init_191 : decode cX7_init 191 = .ok (.iconst 0, 1) := by decide +kernel
theorem dX7_init_192 : decode cX7_init 192 = .ok (.istore_n 1, 1) := by decide +kernel
theorem dX7_init_193 : decode cX7_init 193 = .ok (.iload_n 1, 1) := by decide +kernel
theorem dX7_init_194 : decode cX7_init 194 = .ok (.bipush 26, 2) := by decide +kernel
theorem dX7_init_196 : decode cX7_init 196 = .ok (.if_icmp .ge 16, 3) := by decide +kernel
theorem dX7_init_199 : decode cX7_init 199 = .ok (.aload_n 0, 1) := by decide +kernel
theorem dX7_init_200 : decode cX7_init 200 = .ok (.getfield 7, 3) := by decide +kernel
theorem dX7_init_203 : decode cX7_init 203 = .ok (.iload_n 1, 1) := by decide +kernel
theorem dX7_init_204 : decode cX7_init 204 = .ok (.iconst (-1), 1) := by decide +kernel
theorem dX7_init_205 : decode cX7_init 205 = .ok (.iastore, 1) := by decide +kernel
theorem dX7_init_206 : decode cX7_init 206 = .ok (.iinc 1 1, 3) := by decide +kernel
theorem dX7_init_209 : decode cX7_init 209 = .ok (.goto (-16), 3) := by decide +kernel
theorem dX7_init_212 : decode cX7_init 212 = .ok (.iconst 0, 1) := by decide +kernel
theorem dX7_init_213 : decode cX7_init 213 = .ok (.istore_n 1, 1) := by decide +kernel
theorem dX7_init_214 : decode cX7_init 214 = .ok (.iload_n 1, 1) := by decide +kernel
theorem dX7_init_215 : decode cX7_init 215 = .ok (.bipush 66, 2) := by decide +kernel
theorem dX7_init_217 : decode cX7_init 217 = .ok (.if_icmp .ge 53, 3) := by decide +kernel
theorem dX7_init_220 : decode cX7_init 220 = .ok (.aload_n 0, 1) := by decide +kernel
theorem dX7_init_221 : decode cX7_init 221 = .ok (.getfield 19, 3) := by decide +kernel
theorem dX7_init_224 : decode cX7_init 224 = .ok (.iload_n 1, 1) := by decide +kernel
theorem dX7_init_225 : decode cX7_init 225 = .ok (.bipush 10, 2) := by decide +kernel
theorem dX7_init_227 : decode cX7_init 227 = .ok (.iastore, 1) := by decide +kernel
theorem dX7_init_228 : decode cX7_init 228 = .ok (.iconst 0, 1) := by decide +kernel
theorem dX7_init_229 : decode cX7_init 229 = .ok (.istore_n 2, 1) := by decide +kernel
theorem dX7_init_230 : decode cX7_init 230 = .ok (.iload_n 2, 1) := by decide +kernel
theorem dX7_init_231 : decode cX7_init 231 = .ok (.bipush 66, 2) := by decide +kernel
theorem dX7_init_233 : decode cX7_init 233 = .ok (.if_icmp .ge 31, 3) := by decide +kernel
theorem dX7_init_236 : decode cX7_init 236 = .ok (.aload_n 0, 1) := by decide +kernel
theorem dX7_init_237 : decode cX7_init 237 = .ok (.getfield 16, 3) := by decide +kernel
theorem dX7_init_240 : decode cX7_init 240 = .ok (.bipush 66, 2) := by decide +kernel
theorem dX7_init_242 : decode cX7_init 242 = .ok (.iload_n 1, 1) := by decide +kernel
theorem dX7_init_243 : decode cX7_init 243 = .ok (.imul, 1) := by decide +kernel
theorem dX7_init_244 : decode cX7_init 244 = .ok (.iload_n 2, 1) := by decide +kernel
theorem dX7_init_245 : decode cX7_init 245 = .ok (.iadd, 1) := by decide +kernel
theorem dX7_init_246 : decode cX7_init 246 = .ok (.iload_n 1, 1) := by decide +kernel
theorem dX7_init_247 : decode cX7_init 247 = .ok (.iload_n 2, 1) := by decide +kernel
theorem dX7_init_248 : decode cX7_init 248 = .ok (.if_icmp .ne 7, 3) := by decide +kernel
theorem dX7_init_251 : decode cX7_init 251 = .ok (.iconst 0, 1) := by decide +kernel
theorem dX7_init_252 : decode cX7_init 252 = .ok (.goto 5, 3) := by decide +kernel
theorem dX7_init_255 : decode cX7_init 255 = .ok (.bipush 10, 2) := by decide +kernel
theorem dX7_init_257 : decode cX7_init 257 = .ok (.iastore, 1) := by decide +kernel
theorem dX7_init_258 : decode cX7_init 258 = .ok (.iinc 2 1, 3) := by decide +kernel
theorem dX7_init_261 : decode cX7_init 261 = .ok (.goto (-31), 3) := by decide +kernel
theorem dX7_init_264 : decode cX7_init 264 = .ok (.iinc 1 1, 3) := by decide +kernel
theorem dX7_init_267 : decode cX7_init 267 = .ok (.goto (-53), 3) := by decide +kernel
theorem dX7_init_270 : decode cX7_init 270 = .ok (.aload_n 0, 1) := by decide +kernel
theorem dX7_init_271 : decode cX7_init 271 = .ok (.sipush 700, 3) := by decide +kernel
theorem dX7_init_274 : decode cX7_init 274 = .ok (.putfield 76, 3) := by decide +kernel
theorem dX7_init_277 : decode cX7_init 277 = .ok (.aload_n 0, 1) := by decide +kernel
theorem dX7_init_278 : decode cX7_init 278 = .ok (.sipush 500, 3) := by decide +kernel
theorem dX7_init_281 : decode cX7_init 281 = .ok (.putfield 80, 3) := by decide +kernel
theorem dX7_init_284 : decode cX7_init 284 = .ok (.return_, 1) := by decide +kernel
theorem dX7_in_0 : decode cX7_in 0 = .ok (.iload_n 0, 1) := by decide +kernel
theorem dX7_in_1 : decode cX7_in 1 = .ok (.iload_n 1, 1) := by decide +kernel
theorem dX7_in_2 : decode cX7_in 2 = .ok (.if_icmp .lt 12, 3) := by decide +kernel
theorem dX7_in_5 : decode cX7_in 5 = .ok (.iload_n 0, 1) := by decide +kernel
theorem dX7_in_6 : decode cX7_in 6 = .ok (.iload_n 2, 1) := by decide +kernel
theorem dX7_in_7 : decode cX7_in 7 = .ok (.if_icmp .gt 7, 3) := by decide +kernel
theorem dX7_in_10 : decode cX7_in 10 = .ok (.iconst 1, 1) := by decide +kernel
theorem dX7_in_11 : decode cX7_in 11 = .ok (.goto 4, 3) := by decide +kernel
theorem dX7_in_14 : decode cX7_in 14 = .ok (.iconst 0, 1) := by decide +kernel
theorem dX7_in_15 : decode cX7_in 15 = .ok (.ireturn, 1) := by decide +kernel
theorem dX7_isMark_0 : decode cX7_isMark 0 = .ok (.iload_n 1, 1) := by decide +kernel
theorem dX7_isMark_1 : decode cX7_isMark 1 = .ok (.iconst 0, 1) := by decide +kernel
theorem dX7_isMark_2 : decode cX7_isMark 2 = .ok (.aload_n 0, 1) := by decide +kernel
theorem dX7_isMark_3 : decode cX7_isMark 3 = .ok (.getfield 83, 3) := by decide +kernel
theorem dX7_isMark_6 : decode cX7_isMark 6 = .ok (.iconst 1, 1) := by decide +kernel
theorem dX7_isMark_7 : decode cX7_isMark 7 = .ok (.isub, 1) := by decide +kernel
theorem dX7_isMark_8 : decode cX7_isMark 8 = .ok (.invokestatic 86, 3) := by decide +kernel
theorem dX7_isMark_11 : decode cX7_isMark 11 = .ok (.ireturn, 1) := by decide +kernel
theorem dX7_isDay_0 : decode cX7_isDay 0 = .ok (.iload_n 0, 1) := by decide +kernel
theorem dX7_isDay_1 : decode cX7_isDay 1 = .ok (.iconst 0, 1) := by decide +kernel
theorem dX7_isDay_2 : decode cX7_isDay 2 = .ok (.ldc 90, 2) := by decide +kernel
theorem dX7_isDay_4 : decode cX7_isDay 4 = .ok (.invokestatic 86, 3) := by decide +kernel
theorem dX7_isDay_7 : decode cX7_isDay 7 = .ok (.ireturn, 1) := by decide +kernel
theorem dX7_isCountry_0 : decode cX7_isCountry 0 = .ok (.iload_n 0, 1) := by decide +kernel
theorem dX7_isCountry_1 : decode cX7_isCountry 1 = .ok (.iconst 0, 1) := by decide +kernel
theorem dX7_isCountry_2 : decode cX7_isCountry 2 = .ok (.bipush 15, 2) := by decide +kernel
theorem dX7_isCountry_4 : decode cX7_isCountry 4 = .ok (.invokestatic 86, 3) := by decide +kernel
theorem dX7_isCountry_7 : decode cX7_isCountry 7 = .ok (.ireturn, 1) := by decide +kernel
theorem dX7_isGoods_0 : decode cX7_isGoods 0 = .ok (.iload_n 0, 1) := by decide +kernel
theorem dX7_isGoods_1 : decode cX7_isGoods 1 = .ok (.iconst 0, 1) := by decide +kernel
theorem dX7_isGoods_2 : decode cX7_isGoods 2 = .ok (.sipush 359, 3) := by decide +kernel
theorem dX7_isGoods_5 : decode cX7_isGoods 5 = .ok (.invokestatic 86, 3) := by decide +kernel
theorem dX7_isGoods_8 : decode cX7_isGoods 8 = .ok (.ireturn, 1) := by decide +kernel
theorem dX7_isPerson_0 : decode cX7_isPerson 0 = .ok (.iload_n 0, 1) := by decide +kernel
theorem dX7_isPerson_1 : decode cX7_isPerson 1 = .ok (.iconst 0, 1) := by decide +kernel
theorem dX7_isPerson_2 : decode cX7_isPerson 2 = .ok (.bipush 99, 2) := by decide +kernel
theorem dX7_isPerson_4 : decode cX7_isPerson 4 = .ok (.invokestatic 86, 3) := by decide +kernel
theorem dX7_isPerson_7 : decode cX7_isPerson 7 = .ok (.ireturn, 1) := by decide +kernel
theorem dX7_row_0 : decode cX7_row 0 = .ok (.iload_n 1, 1) := by decide +kernel
theorem dX7_row_1 : decode cX7_row 1 = .ok (.iconst 0, 1) := by decide +kernel
theorem dX7_row_2 : decode cX7_row 2 = .ok (.bipush 25, 2) := by decide +kernel
theorem dX7_row_4 : decode cX7_row 4 = .ok (.invokestatic 86, 3) := by decide +kernel
theorem dX7_row_7 : decode cX7_row 7 = .ok (.ifCond .eq 13, 3) := by decide +kernel
theorem dX7_row_10 : decode cX7_row 10 = .ok (.iload_n 2, 1) := by decide +kernel
theorem dX7_row_11 : decode cX7_row 11 = .ok (.iconst (-1), 1) := by decide +kernel
theorem dX7_row_12 : decode cX7_row 12 = .ok (.bipush 27, 2) := by decide +kernel
theorem dX7_row_14 : decode cX7_row 14 = .ok (.invokestatic 86, 3) := by decide +kernel
theorem dX7_row_17 : decode cX7_row 17 = .ok (.ifCond .ne 5, 3) := by decide +kernel
theorem dX7_row_20 : decode cX7_row 20 = .ok (.iconst 0, 1) := by decide +kernel
theorem dX7_row_21 : decode cX7_row 21 = .ok (.ireturn, 1) := by decide +kernel
theorem dX7_row_22 : decode cX7_row 22 = .ok (.aload_n 0, 1) := by decide +kernel
theorem dX7_row_23 : decode cX7_row 23 = .ok (.getfield 7, 3) := by decide +kernel
theorem dX7_row_26 : decode cX7_row 26 = .ok (.iload_n 1, 1) := by decide +kernel
theorem dX7_row_27 : decode cX7_row 27 = .ok (.iload_n 2, 1) := by decide +kernel
theorem dX7_row_28 : decode cX7_row 28 = .ok (.iastore, 1) := by decide +kernel
theorem dX7_row_29 : decode cX7_row 29 = .ok (.iconst 0, 1) := by decide +kernel
theorem dX7_row_30 : decode cX7_row 30 = .ok (.istore_n 3, 1) := by decide +kernel
theorem dX7_row_31 : decode cX7_row 31 = .ok (.iload_n 3, 1) := by decide +kernel
theorem dX7_row_32 : decode cX7_row 32 = .ok (.bipush 27, 2) := by decide +kernel
theorem dX7_row_34 : decode cX7_row 34 = .ok (.if_icmp .ge 21, 3) := by decide +kernel
theorem dX7_row_37 : decode cX7_row 37 = .ok (.aload_n 0, 1) := by decide +kernel
theorem dX7_row_38 : decode cX7_row 38 = .ok (.getfield 13, 3) := by decide +kernel
theorem dX7_row_41 : decode cX7_row 41 = .ok (.bipush 27, 2) := by decide +kernel
theorem dX7_row_43 : decode cX7_row 43 = .ok (.iload_n 1, 1) := by decide +kernel
theorem dX7_row_44 : decode cX7_row 44 = .ok (.imul, 1) := by decide +kernel
theorem dX7_row_45 : decode cX7_row 45 = .ok (.iload_n 3, 1) := by decide +kernel
theorem dX7_row_46 : decode cX7_row 46 = .ok (.iadd, 1) := by decide +kernel
theorem dX7_row_47 : decode cX7_row 47 = .ok (.iconst 0, 1) := by decide +kernel
theorem dX7_row_48 : decode cX7_row 48 = .ok (.iastore, 1) := by decide +kernel
theorem dX7_row_49 : decode cX7_row 49 = .ok (.iinc 3 1, 3) := by decide +kernel
theorem dX7_row_52 : decode cX7_row 52 = .ok (.goto (-21), 3) := by decide +kernel
theorem dX7_row_55 : decode cX7_row 55 = .ok (.iconst 1, 1) := by decide +kernel
theorem dX7_row_56 : decode cX7_row 56 = .ok (.ireturn, 1) := by decide +kernel
theorem dX7_sound_0 : decode cX7_sound 0 = .ok (.iload_n 1, 1) := by decide +kernel
theorem dX7_sound_1 : decode cX7_sound 1 = .ok (.iconst 0, 1) := by decide +kernel
theorem dX7_sound_2 : decode cX7_sound 2 = .ok (.bipush 25, 2) := by decide +kernel
theorem dX7_sound_4 : decode cX7_sound 4 = .ok (.invokestatic 86, 3) := by decide +kernel
theorem dX7_sound_7 : decode cX7_sound 7 = .ok (.ifCond .eq 29, 3) := by decide +kernel
theorem dX7_sound_10 : decode cX7_sound 10 = .ok (.iload_n 2, 1) := by decide +kernel
theorem dX7_sound_11 : decode cX7_sound 11 = .ok (.iconst 0, 1) := by decide +kernel
theorem dX7_sound_12 : decode cX7_sound 12 = .ok (.aload_n 0, 1) := by decide +kernel
theorem dX7_sound_13 : decode cX7_sound 13 = .ok (.getfield 7, 3) := by decide +kernel
theorem dX7_sound_16 : decode cX7_sound 16 = .ok (.iload_n 1, 1) := by decide +kernel
theorem dX7_sound_17 : decode cX7_sound 17 = .ok (.iaload, 1) := by decide +kernel
theorem dX7_sound_18 : decode cX7_sound 18 = .ok (.iconst 1, 1) := by decide +kernel
theorem dX7_sound_19 : decode cX7_sound 19 = .ok (.isub, 1) := by decide +kernel
theorem dX7_sound_20 : decode cX7_sound 20 = .ok (.invokestatic 86, 3) := by decide +kernel
theorem dX7_sound_23 : decode cX7_sound 23 = .ok (.ifCond .eq 13, 3) := by decide +kernel
theorem dX7_sound_26 : decode cX7_sound 26 = .ok (.iload_n 3, 1) := by decide +kernel
theorem dX7_sound_27 : decode cX7_sound 27 = .ok (.iconst 0, 1) := by decide +kernel
theorem dX7_sound_28 : decode cX7_sound 28 = .ok (.bipush 39, 2) := by decide +kernel
theorem dX7_sound_30 : decode cX7_sound 30 = .ok (.invokestatic 86, 3) := by decide +kernel
theorem dX7_sound_33 : decode cX7_sound 33 = .ok (.ifCond .ne 5, 3) := by decide +kernel
theorem dX7_sound_36 : decode cX7_sound 36 = .ok (.iconst 0, 1) := by decide +kernel
theorem dX7_sound_37 : decode cX7_sound 37 = .ok (.ireturn, 1) := by decide +kernel
theorem dX7_sound_38 : decode cX7_sound 38 = .ok (.aload_n 0, 1) := by decide +kernel
theorem dX7_sound_39 : decode cX7_sound 39 = .ok (.getfield 13, 3) := by decide +kernel
theorem dX7_sound_42 : decode cX7_sound 42 = .ok (.bipush 27, 2) := by decide +kernel
theorem dX7_sound_44 : decode cX7_sound 44 = .ok (.iload_n 1, 1) := by decide +kernel
theorem dX7_sound_45 : decode cX7_sound 45 = .ok (.imul, 1) := by decide +kernel
theorem dX7_sound_46 : decode cX7_sound 46 = .ok (.iload_n 2, 1) := by decide +kernel
theorem dX7_sound_47 : decode cX7_sound 47 = .ok (.iadd, 1) := by decide +kernel
theorem dX7_sound_48 : decode cX7_sound 48 = .ok (.iload_n 3, 1) := by decide +kernel
theorem dX7_sound_49 : decode cX7_sound 49 = .ok (.iastore, 1) := by decide +kernel
theorem dX7_sound_50 : decode cX7_sound 50 = .ok (.iconst 1, 1) := by decide +kernel
theorem dX7_sound_51 : decode cX7_sound 51 = .ok (.ireturn, 1) := by decide +kernel
theorem dX7_cost_0 : decode cX7_cost 0 = .ok (.iload_n 1, 1) := by decide +kernel
theorem dX7_cost_1 : decode cX7_cost 1 = .ok (.iconst 0, 1) := by decide +kernel
theorem dX7_cost_2 : decode cX7_cost 2 = .ok (.bipush 65, 2) := by decide +kernel
theorem dX7_cost_4 : decode cX7_cost 4 = .ok (.invokestatic 86, 3) := by decide +kernel
theorem dX7_cost_7 : decode cX7_cost 7 = .ok (.ifCond .eq 28, 3) := by decide +kernel
theorem dX7_cost_10 : decode cX7_cost 10 = .ok (.iload_n 2, 1) := by decide +kernel
theorem dX7_cost_11 : decode cX7_cost 11 = .ok (.iconst (-1), 1) := by decide +kernel
theorem dX7_cost_12 : decode cX7_cost 12 = .ok (.bipush 65, 2) := by decide +kernel
theorem dX7_cost_14 : decode cX7_cost 14 = .ok (.invokestatic 86, 3) := by decide +kernel
theorem dX7_cost_17 : decode cX7_cost 17 = .ok (.ifCond .eq 18, 3) := by decide +kernel
theorem dX7_cost_20 : decode cX7_cost 20 = .ok (.iload_n 1, 1) := by decide +kernel
theorem dX7_cost_21 : decode cX7_cost 21 = .ok (.iload_n 2, 1) := by decide +kernel
theorem dX7_cost_22 : decode cX7_cost 22 = .ok (.if_icmp .eq 13, 3) := by decide +kernel
theorem dX7_cost_25 : decode cX7_cost 25 = .ok (.iload_n 3, 1) := by decide +kernel
theorem dX7_cost_26 : decode cX7_cost 26 = .ok (.iconst 1, 1) := by decide +kernel
theorem dX7_cost_27 : decode cX7_cost 27 = .ok (.bipush 100, 2) := by decide +kernel
theorem dX7_cost_29 : decode cX7_cost 29 = .ok (.invokestatic 86, 3) := by decide +kernel
theorem dX7_cost_32 : decode cX7_cost 32 = .ok (.ifCond .ne 5, 3) := by decide +kernel
theorem dX7_cost_35 : decode cX7_cost 35 = .ok (.iconst 0, 1) := by decide +kernel
theorem dX7_cost_36 : decode cX7_cost 36 = .ok (.ireturn, 1) := by decide +kernel
theorem dX7_cost_37 : decode cX7_cost 37 = .ok (.iload_n 2, 1) := by decide +kernel
theorem dX7_cost_38 : decode cX7_cost 38 = .ok (.iconst (-1), 1) := by decide +kernel
theorem dX7_cost_39 : decode cX7_cost 39 = .ok (.if_icmp .ne 13, 3) := by decide +kernel
theorem dX7_cost_42 : decode cX7_cost 42 = .ok (.aload_n 0, 1) := by decide +kernel
theorem dX7_cost_43 : decode cX7_cost 43 = .ok (.getfield 19, 3) := by decide +kernel
theorem dX7_cost_46 : decode cX7_cost 46 = .ok (.iload_n 1, 1) := by decide +kernel
theorem dX7_cost_47 : decode cX7_cost 47 = .ok (.iload_n 3, 1) := by decide +kernel
theorem dX7_cost_48 : decode cX7_cost 48 = .ok (.iastore, 1) := by decide +kernel
theorem dX7_cost_49 : decode cX7_cost 49 = .ok (.goto 27, 3) := by decide +kernel
theorem dX7_cost_52 : decode cX7_cost 52 = .ok (.aload_n 0, 1) := by decide +kernel
theorem dX7_cost_53 : decode cX7_cost 53 = .ok (.getfield 16, 3) := by decide +kernel
theorem dX7_cost_56 : decode cX7_cost 56 = .ok (.bipush 66, 2) := by decide +kernel
theorem dX7_cost_58 : decode cX7_cost 58 = .ok (.iload_n 1, 1) := by decide +kernel
theorem dX7_cost_59 : decode cX7_cost 59 = .ok (.imul, 1) := by decide +kernel
theorem dX7_cost_60 : decode cX7_cost 60 = .ok (.iload_n 2, 1) := by decide +kernel
theorem dX7_cost_61 : decode cX7_cost 61 = .ok (.iadd, 1) := by decide +kernel
theorem dX7_cost_62 : decode cX7_cost 62 = .ok (.iload_n 3, 1) := by decide +kernel
theorem dX7_cost_63 : decode cX7_cost 63 = .ok (.iastore, 1) := by decide +kernel
theorem dX7_cost_64 : decode cX7_cost 64 = .ok (.aload_n 0, 1) := by decide +kernel
theorem dX7_cost_65 : decode cX7_cost 65 = .ok (.getfield 16, 3) := by decide +kernel
theorem dX7_cost_68 : decode cX7_cost 68 = .ok (.bipush 66, 2) := by decide +kernel
theorem dX7_cost_70 : decode cX7_cost 70 = .ok (.iload_n 2, 1) := by decide +kernel
theorem dX7_cost_71 : decode cX7_cost 71 = .ok (.imul, 1) := by decide +kernel
theorem dX7_cost_72 : decode cX7_cost 72 = .ok (.iload_n 1, 1) := by decide +kernel
theorem dX7_cost_73 : decode cX7_cost 73 = .ok (.iadd, 1) := by decide +kernel
theorem dX7_cost_74 : decode cX7_cost 74 = .ok (.iload_n 3, 1) := by decide +kernel
theorem dX7_cost_75 : decode cX7_cost 75 = .ok (.iastore, 1) := by decide +kernel
theorem dX7_cost_76 : decode cX7_cost 76 = .ok (.iconst 1, 1) := by decide +kernel
theorem dX7_cost_77 : decode cX7_cost 77 = .ok (.ireturn, 1) := by decide +kernel
theorem dX7_pairOf_0 : decode cX7_pairOf 0 = .ok (.iload_n 1, 1) := by decide +kernel
theorem dX7_pairOf_1 : decode cX7_pairOf 1 = .ok (.iload_n 2, 1) := by decide +kernel
theorem dX7_pairOf_2 : decode cX7_pairOf 2 = .ok (.if_icmp .ge 7, 3) := by decide +kernel
theorem dX7_pairOf_5 : decode cX7_pairOf 5 = .ok (.iload_n 1, 1) := by decide +kernel
theorem dX7_pairOf_6 : decode cX7_pairOf 6 = .ok (.goto 4, 3) := by decide +kernel
theorem dX7_pairOf_9 : decode cX7_pairOf 9 = .ok (.iload_n 2, 1) := by decide +kernel
theorem dX7_pairOf_10 : decode cX7_pairOf 10 = .ok (.istore_n 3, 1) := by decide +kernel
theorem dX7_pairOf_11 : decode cX7_pairOf 11 = .ok (.iload_n 1, 1) := by decide +kernel
theorem dX7_pairOf_12 : decode cX7_pairOf 12 = .ok (.iload_n 2, 1) := by decide +kernel
theorem dX7_pairOf_13 : decode cX7_pairOf 13 = .ok (.if_icmp .ge 7, 3) := by decide +kernel
theorem dX7_pairOf_16 : decode cX7_pairOf 16 = .ok (.iload_n 2, 1) := by decide +kernel
theorem dX7_pairOf_17 : decode cX7_pairOf 17 = .ok (.goto 4, 3) := by decide +kernel
theorem dX7_pairOf_20 : decode cX7_pairOf 20 = .ok (.iload_n 1, 1) := by decide +kernel
theorem dX7_pairOf_21 : decode cX7_pairOf 21 = .ok (.istore 4, 2) := by decide +kernel
theorem dX7_pairOf_23 : decode cX7_pairOf 23 = .ok (.iconst (-1), 1) := by decide +kernel
theorem dX7_pairOf_24 : decode cX7_pairOf 24 = .ok (.istore 5, 2) := by decide +kernel
theorem dX7_pairOf_26 : decode cX7_pairOf 26 = .ok (.iconst 0, 1) := by decide +kernel
theorem dX7_pairOf_27 : decode cX7_pairOf 27 = .ok (.istore 6, 2) := by decide +kernel
theorem dX7_pairOf_29 : decode cX7_pairOf 29 = .ok (.iload 6, 2) := by decide +kernel
theorem dX7_pairOf_31 : decode cX7_pairOf 31 = .ok (.aload_n 0, 1) := by decide +kernel
theorem dX7_pairOf_32 : decode cX7_pairOf 32 = .ok (.getfield 91, 3) := by decide +kernel
theorem dX7_pairOf_35 : decode cX7_pairOf 35 = .ok (.if_icmp .ge 41, 3) := by decide +kernel
theorem dX7_pairOf_38 : decode cX7_pairOf 38 = .ok (.aload_n 0, 1) := by decide +kernel
theorem dX7_pairOf_39 : decode cX7_pairOf 39 = .ok (.getfield 22, 3) := by decide +kernel
theorem dX7_pairOf_42 : decode cX7_pairOf 42 = .ok (.iload 6, 2) := by decide +kernel
theorem dX7_pairOf_44 : decode cX7_pairOf 44 = .ok (.iaload, 1) := by decide +kernel
theorem dX7_pairOf_45 : decode cX7_pairOf 45 = .ok (.iload_n 3, 1) := by decide +kernel
theorem dX7_pairOf_46 : decode cX7_pairOf 46 = .ok (.if_icmp .ne 20, 3) := by decide +kernel
theorem dX7_pairOf_49 : decode cX7_pairOf 49 = .ok (.aload_n 0, 1) := by decide +kernel
theorem dX7_pairOf_50 : decode cX7_pairOf 50 = .ok (.getfield 25, 3) := by decide +kernel
theorem dX7_pairOf_53 : decode cX7_pairOf 53 = .ok (.iload 6, 2) := by decide +kernel
theorem dX7_pairOf_55 : decode cX7_pairOf 55 = .ok (.iaload, 1) := by decide +kernel
theorem dX7_pairOf_56 : decode cX7_pairOf 56 = .ok (.iload 4, 2) := by decide +kernel
theorem dX7_pairOf_58 : decode cX7_pairOf 58 = .ok (.if_icmp .ne 8, 3) := by decide +kernel
theorem dX7_pairOf_61 : decode cX7_pairOf 61 = .ok (.iload 6, 2) := by decide +kernel
theorem dX7_pairOf_63 : decode cX7_pairOf 63 = .ok (.goto 5, 3) := by decide +kernel
theorem dX7_pairOf_66 : decode cX7_pairOf 66 = .ok (.iload 5, 2) := by decide +kernel
theorem dX7_pairOf_68 : decode cX7_pairOf 68 = .ok (.istore 5, 2) := by decide +kernel
theorem dX7_pairOf_70 : decode cX7_pairOf 70 = .ok (.iinc 6 1, 3) := by decide +kernel
theorem dX7_pairOf_73 : decode cX7_pairOf 73 = .ok (.goto (-44), 3) := by decide +kernel
theorem dX7_pairOf_76 : decode cX7_pairOf 76 = .ok (.iload 5, 2) := by decide +kernel
theorem dX7_pairOf_78 : decode cX7_pairOf 78 = .ok (.ireturn, 1) := by decide +kernel
theorem dX7_near_0 : decode cX7_near 0 = .ok (.iload_n 1, 1) := by decide +kernel
theorem dX7_near_1 : decode cX7_near 1 = .ok (.invokestatic 94, 3) := by decide +kernel
theorem dX7_near_4 : decode cX7_near 4 = .ok (.ifCond .eq 26, 3) := by decide +kernel
theorem dX7_near_7 : decode cX7_near 7 = .ok (.iload_n 2, 1) := by decide +kernel
theorem dX7_near_8 : decode cX7_near 8 = .ok (.invokestatic 94, 3) := by decide +kernel
theorem dX7_near_11 : decode cX7_near 11 = .ok (.ifCond .eq 19, 3) := by decide +kernel
theorem dX7_near_14 : decode cX7_near 14 = .ok (.iload_n 1, 1) := by decide +kernel
theorem dX7_near_15 : decode cX7_near 15 = .ok (.iload_n 2, 1) := by decide +kernel
theorem dX7_near_16 : decode cX7_near 16 = .ok (.if_icmp .eq 14, 3) := by decide +kernel
theorem dX7_near_19 : decode cX7_near 19 = .ok (.iload_n 3, 1) := by decide +kernel
theorem dX7_near_20 : decode cX7_near 20 = .ok (.iconst 0, 1) := by decide +kernel
theorem dX7_near_21 : decode cX7_near 21 = .ok (.sipush 999, 3) := by decide +kernel
theorem dX7_near_24 : decode cX7_near 24 = .ok (.invokestatic 86, 3) := by decide +kernel
theorem dX7_near_27 : decode cX7_near 27 = .ok (.ifCond .ne 5, 3) := by decide +kernel
theorem dX7_near_30 : decode cX7_near 30 = .ok (.iconst 0, 1) := by decide +kernel
theorem dX7_near_31 : decode cX7_near 31 = .ok (.ireturn, 1) := by decide +kernel
theorem dX7_near_32 : decode cX7_near 32 = .ok (.aload_n 0, 1) := by decide +kernel
theorem dX7_near_33 : decode cX7_near 33 = .ok (.iload_n 1, 1) := by decide +kernel
theorem dX7_near_34 : decode cX7_near 34 = .ok (.iload_n 2, 1) := by decide +kernel
theorem dX7_near_35 : decode cX7_near 35 = .ok (.invokevirtual 98, 3) := by decide +kernel
theorem dX7_near_38 : decode cX7_near 38 = .ok (.istore 4, 2) := by decide +kernel
theorem dX7_near_40 : decode cX7_near 40 = .ok (.iload 4, 2) := by decide +kernel
theorem dX7_near_42 : decode cX7_near 42 = .ok (.ifCond .ge 9, 3) := by decide +kernel
theorem dX7_near_45 : decode cX7_near 45 = .ok (.iload_n 3, 1) := by decide +kernel
theorem dX7_near_46 : decode cX7_near 46 = .ok (.ifCond .ne 5, 3) := by decide +kernel
theorem dX7_near_49 : decode cX7_near 49 = .ok (.iconst 1, 1) := by decide +kernel
theorem dX7_near_50 : decode cX7_near 50 = .ok (.ireturn, 1) := by decide +kernel
theorem dX7_near_51 : decode cX7_near 51 = .ok (.iload 4, 2) := by decide +kernel
theorem dX7_near_53 : decode cX7_near 53 = .ok (.ifCond .ge 14, 3) := by decide +kernel
theorem dX7_near_56 : decode cX7_near 56 = .ok (.aload_n 0, 1) := by decide +kernel
theorem dX7_near_57 : decode cX7_near 57 = .ok (.getfield 91, 3) := by decide +kernel
theorem dX7_near_60 : decode cX7_near 60 = .ok (.bipush 100, 2) := by decide +kernel
theorem dX7_near_62 : decode cX7_near 62 = .ok (.if_icmp .ne 5, 3) := by decide +kernel
theorem dX7_near_65 : decode cX7_near 65 = .ok (.iconst 0, 1) := by decide +kernel
theorem dX7_near_66 : decode cX7_near 66 = .ok (.ireturn, 1) := by decide +kernel
theorem dX7_near_67 : decode cX7_near 67 = .ok (.iload_n 3, 1) := by decide +kernel
theorem dX7_near_68 : decode cX7_near 68 = .ok (.ifCond .ne 63, 3) := by decide +kernel
theorem dX7_near_71 : decode cX7_near 71 = .ok (.aload_n 0, 1) := by decide +kernel
theorem dX7_near_72 : decode cX7_near 72 = .ok (.dup, 1) := by decide +kernel
theorem dX7_near_73 : decode cX7_near 73 = .ok (.getfield 91, 3) := by decide +kernel
theorem dX7_near_76 : decode cX7_near 76 = .ok (.iconst 1, 1) := by decide +kernel
theorem dX7_near_77 : decode cX7_near 77 = .ok (.isub, 1) := by decide +kernel
theorem dX7_near_78 : decode cX7_near 78 = .ok (.putfield 91, 3) := by decide +kernel
theorem dX7_near_81 : decode cX7_near 81 = .ok (.aload_n 0, 1) := by decide +kernel
theorem dX7_near_82 : decode cX7_near 82 = .ok (.getfield 22, 3) := by decide +kernel
theorem dX7_near_85 : decode cX7_near 85 = .ok (.iload 4, 2) := by decide +kernel
theorem dX7_near_87 : decode cX7_near 87 = .ok (.aload_n 0, 1) := by decide +kernel
theorem dX7_near_88 : decode cX7_near 88 = .ok (.getfield 22, 3) := by decide +kernel
theorem dX7_near_91 : decode cX7_near 91 = .ok (.aload_n 0, 1) := by decide +kernel
theorem dX7_near_92 : decode cX7_near 92 = .ok (.getfield 91, 3) := by decide +kernel
theorem dX7_near_95 : decode cX7_near 95 = .ok (.iaload, 1) := by decide +kernel
theorem dX7_near_96 : decode cX7_near 96 = .ok (.iastore, 1) := by decide +kernel
theorem dX7_near_97 : decode cX7_near 97 = .ok (.aload_n 0, 1) := by decide +kernel
theorem dX7_near_98 : decode cX7_near 98 = .ok (.getfield 25, 3) := by decide +kernel
theorem dX7_near_101 : decode cX7_near 101 = .ok (.iload 4, 2) := by decide +kernel
theorem dX7_near_103 : decode cX7_near 103 = .ok (.aload_n 0, 1) := by decide +kernel
theorem dX7_near_104 : decode cX7_near 104 = .ok (.getfield 25, 3) := by decide +kernel
theorem dX7_near_107 : decode cX7_near 107 = .ok (.aload_n 0, 1) := by decide +kernel
theorem dX7_near_108 : decode cX7_near 108 = .ok (.getfield 91, 3) := by decide +kernel
theorem dX7_near_111 : decode cX7_near 111 = .ok (.iaload, 1) := by decide +kernel
theorem dX7_near_112 : decode cX7_near 112 = .ok (.iastore, 1) := by decide +kernel
theorem dX7_near_113 : decode cX7_near 113 = .ok (.aload_n 0, 1) := by decide +kernel
theorem dX7_near_114 : decode cX7_near 114 = .ok (.getfield 28, 3) := by decide +kernel
theorem dX7_near_117 : decode cX7_near 117 = .ok (.iload 4, 2) := by decide +kernel
theorem dX7_near_119 : decode cX7_near 119 = .ok (.aload_n 0, 1) := by decide +kernel
theorem dX7_near_120 : decode cX7_near 120 = .ok (.getfield 28, 3) := by decide +kernel
theorem dX7_near_123 : decode cX7_near 123 = .ok (.aload_n 0, 1) := by decide +kernel
theorem dX7_near_124 : decode cX7_near 124 = .ok (.getfield 91, 3) := by decide +kernel
theorem dX7_near_127 : decode cX7_near 127 = .ok (.iaload, 1) := by decide +kernel
theorem dX7_near_128 : decode cX7_near 128 = .ok (.iastore, 1) := by decide +kernel
theorem dX7_near_129 : decode cX7_near 129 = .ok (.iconst 1, 1) := by decide +kernel
theorem dX7_near_130 : decode cX7_near 130 = .ok (.ireturn, 1) := by decide +kernel
theorem dX7_near_131 : decode cX7_near 131 = .ok (.iload 4, 2) := by decide +kernel
theorem dX7_near_133 : decode cX7_near 133 = .ok (.ifCond .ge 53, 3) := by decide +kernel
theorem dX7_near_136 : decode cX7_near 136 = .ok (.aload_n 0, 1) := by decide +kernel
theorem dX7_near_137 : decode cX7_near 137 = .ok (.getfield 91, 3) := by decide +kernel
theorem dX7_near_140 : decode cX7_near 140 = .ok (.istore 4, 2) := by decide +kernel
theorem dX7_near_142 : decode cX7_near 142 = .ok (.aload_n 0, 1) := by decide +kernel
theorem dX7_near_143 : decode cX7_near 143 = .ok (.dup, 1) := by decide +kernel
theorem dX7_near_144 : decode cX7_near 144 = .ok (.getfield 91, 3) := by decide +kernel
theorem dX7_near_147 : decode cX7_near 147 = .ok (.iconst 1, 1) := by decide +kernel
theorem dX7_near_148 : decode cX7_near 148 = .ok (.iadd, 1) := by decide +kernel
theorem dX7_near_149 : decode cX7_near 149 = .ok (.putfield 91, 3) := by decide +kernel
theorem dX7_near_152 : decode cX7_near 152 = .ok (.aload_n 0, 1) := by decide +kernel
theorem dX7_near_153 : decode cX7_near 153 = .ok (.getfield 22, 3) := by decide +kernel
theorem dX7_near_156 : decode cX7_near 156 = .ok (.iload 4, 2) := by decide +kernel
theorem dX7_near_158 : decode cX7_near 158 = .ok (.iload_n 1, 1) := by decide +kernel
theorem dX7_near_159 : decode cX7_near 159 = .ok (.iload_n 2, 1) := by decide +kernel
theorem dX7_near_160 : decode cX7_near 160 = .ok (.if_icmp .ge 7, 3) := by decide +kernel
theorem dX7_near_163 : decode cX7_near 163 = .ok (.iload_n 1, 1) := by decide +kernel
theorem dX7_near_164 : decode cX7_near 164 = .ok (.goto 4, 3) := by decide +kernel
theorem dX7_near_167 : decode cX7_near 167 = .ok (.iload_n 2, 1) := by decide +kernel
theorem dX7_near_168 : decode cX7_near 168 = .ok (.iastore, 1) := by decide +kernel
theorem dX7_near_169 : decode cX7_near 169 = .ok (.aload_n 0, 1) := by decide +kernel
theorem dX7_near_170 : decode cX7_near 170 = .ok (.getfield 25, 3) := by decide +kernel
theorem dX7_near_173 : decode cX7_near 173 = .ok (.iload 4, 2) := by decide +kernel
theorem dX7_near_175 : decode cX7_near 175 = .ok (.iload_n 1, 1) := by decide +kernel
theorem dX7_near_176 : decode cX7_near 176 = .ok (.iload_n 2, 1) := by decide +kernel
theorem dX7_near_177 : decode cX7_near 177 = .ok (.if_icmp .ge 7, 3) := by decide +kernel
theorem dX7_near_180 : decode cX7_near 180 = .ok (.iload_n 2, 1) := by decide +kernel
theorem dX7_near_181 : decode cX7_near 181 = .ok (.goto 4, 3) := by decide +kernel
theorem dX7_near_184 : decode cX7_near 184 = .ok (.iload_n 1, 1) := by decide +kernel
theorem dX7_near_185 : decode cX7_near 185 = .ok (.iastore, 1) := by decide +kernel
theorem dX7_near_186 : decode cX7_near 186 = .ok (.aload_n 0, 1) := by decide +kernel
theorem dX7_near_187 : decode cX7_near 187 = .ok (.getfield 28, 3) := by decide +kernel
theorem dX7_near_190 : decode cX7_near 190 = .ok (.iload 4, 2) := by decide +kernel
theorem dX7_near_192 : decode cX7_near 192 = .ok (.iload_n 3, 1) := by decide +kernel
theorem dX7_near_193 : decode cX7_near 193 = .ok (.iastore, 1) := by decide +kernel
theorem dX7_near_194 : decode cX7_near 194 = .ok (.iconst 1, 1) := by decide +kernel
theorem dX7_near_195 : decode cX7_near 195 = .ok (.ireturn, 1) := by decide +kernel
theorem dX7_nearOf_0 : decode cX7_nearOf 0 = .ok (.iload_n 1, 1) := by decide +kernel
theorem dX7_nearOf_1 : decode cX7_nearOf 1 = .ok (.iload_n 2, 1) := by decide +kernel
theorem dX7_nearOf_2 : decode cX7_nearOf 2 = .ok (.if_icmp .ne 7, 3) := by decide +kernel
theorem dX7_nearOf_5 : decode cX7_nearOf 5 = .ok (.sipush 1000, 3) := by decide +kernel
theorem dX7_nearOf_8 : decode cX7_nearOf 8 = .ok (.ireturn, 1) := by decide +kernel
theorem dX7_nearOf_9 : decode cX7_nearOf 9 = .ok (.aload_n 0, 1) := by decide +kernel
theorem dX7_nearOf_10 : decode cX7_nearOf 10 = .ok (.iload_n 1, 1) := by decide +kernel
theorem dX7_nearOf_11 : decode cX7_nearOf 11 = .ok (.iload_n 2, 1) := by decide +kernel
theorem dX7_nearOf_12 : decode cX7_nearOf 12 = .ok (.invokevirtual 98, 3) := by decide +kernel
theorem dX7_nearOf_15 : decode cX7_nearOf 15 = .ok (.istore_n 3, 1) := by decide +kernel
theorem dX7_nearOf_16 : decode cX7_nearOf 16 = .ok (.iload_n 3, 1) := by decide +kernel
theorem dX7_nearOf_17 : decode cX7_nearOf 17 = .ok (.ifCond .ge 7, 3) := by decide +kernel
theorem dX7_nearOf_20 : decode cX7_nearOf 20 = .ok (.iconst 0, 1) := by decide +kernel
theorem dX7_nearOf_21 : decode cX7_nearOf 21 = .ok (.goto 9, 3) := by decide +kernel
theorem dX7_nearOf_24 : decode cX7_nearOf 24 = .ok (.aload_n 0, 1) := by decide +kernel
theorem dX7_nearOf_25 : decode cX7_nearOf 25 = .ok (.getfield 28, 3) := by decide +kernel
theorem dX7_nearOf_28 : decode cX7_nearOf 28 = .ok (.iload_n 3, 1) := by decide +kernel
theorem dX7_nearOf_29 : decode cX7_nearOf 29 = .ok (.iaload, 1) := by decide +kernel
theorem dX7_nearOf_30 : decode cX7_nearOf 30 = .ok (.ireturn, 1) := by decide +kernel
theorem dX7_levels_0 : decode cX7_levels 0 = .ok (.iload_n 1, 1) := by decide +kernel
theorem dX7_levels_1 : decode cX7_levels 1 = .ok (.iconst 1, 1) := by decide +kernel
theorem dX7_levels_2 : decode cX7_levels 2 = .ok (.sipush 1000, 3) := by decide +kernel
theorem dX7_levels_5 : decode cX7_levels 5 = .ok (.invokestatic 86, 3) := by decide +kernel
theorem dX7_levels_8 : decode cX7_levels 8 = .ok (.ifCond .eq 14, 3) := by decide +kernel
theorem dX7_levels_11 : decode cX7_levels 11 = .ok (.iload_n 2, 1) := by decide +kernel
theorem dX7_levels_12 : decode cX7_levels 12 = .ok (.iconst 1, 1) := by decide +kernel
theorem dX7_levels_13 : decode cX7_levels 13 = .ok (.sipush 1000, 3) := by decide +kernel
theorem dX7_levels_16 : decode cX7_levels 16 = .ok (.invokestatic 86, 3) := by decide +kernel
theorem dX7_levels_19 : decode cX7_levels 19 = .ok (.ifCond .ne 5, 3) := by decide +kernel
theorem dX7_levels_22 : decode cX7_levels 22 = .ok (.iconst 0, 1) := by decide +kernel
theorem dX7_levels_23 : decode cX7_levels 23 = .ok (.ireturn, 1) := by decide +kernel
theorem dX7_levels_24 : decode cX7_levels 24 = .ok (.aload_n 0, 1) := by decide +kernel
theorem dX7_levels_25 : decode cX7_levels 25 = .ok (.iload_n 1, 1) := by decide +kernel
theorem dX7_levels_26 : decode cX7_levels 26 = .ok (.putfield 76, 3) := by decide +kernel
theorem dX7_levels_29 : decode cX7_levels 29 = .ok (.aload_n 0, 1) := by decide +kernel
theorem dX7_levels_30 : decode cX7_levels 30 = .ok (.iload_n 2, 1) := by decide +kernel
theorem dX7_levels_31 : decode cX7_levels 31 = .ok (.putfield 80, 3) := by decide +kernel
theorem dX7_levels_34 : decode cX7_levels 34 = .ok (.iconst 1, 1) := by decide +kernel
theorem dX7_levels_35 : decode cX7_levels 35 = .ok (.ireturn, 1) := by decide +kernel
theorem dX7_mark_0 : decode cX7_mark 0 = .ok (.iload_n 1, 1) := by decide +kernel
theorem dX7_mark_1 : decode cX7_mark 1 = .ok (.iconst 0, 1) := by decide +kernel
theorem dX7_mark_2 : decode cX7_mark 2 = .ok (.iconst 4, 1) := by decide +kernel
theorem dX7_mark_3 : decode cX7_mark 3 = .ok (.invokestatic 86, 3) := by decide +kernel
theorem dX7_mark_6 : decode cX7_mark 6 = .ok (.ifCond .eq 19, 3) := by decide +kernel
theorem dX7_mark_9 : decode cX7_mark 9 = .ok (.iload_n 2, 1) := by decide +kernel
theorem dX7_mark_10 : decode cX7_mark 10 = .ok (.invokestatic 102, 3) := by decide +kernel
theorem dX7_mark_13 : decode cX7_mark 13 = .ok (.ifCond .eq 12, 3) := by decide +kernel
theorem dX7_mark_16 : decode cX7_mark 16 = .ok (.aload_n 0, 1) := by decide +kernel
theorem dX7_mark_17 : decode cX7_mark 17 = .ok (.getfield 83, 3) := by decide +kernel
theorem dX7_mark_20 : decode cX7_mark 20 = .ok (.bipush 120, 2) := by decide +kernel
theorem dX7_mark_22 : decode cX7_mark 22 = .ok (.if_icmp .ne 5, 3) := by decide +kernel
theorem dX7_mark_25 : decode cX7_mark 25 = .ok (.iconst (-1), 1) := by decide +kernel
theorem dX7_mark_26 : decode cX7_mark 26 = .ok (.ireturn, 1) := by decide +kernel
theorem dX7_mark_27 : decode cX7_mark 27 = .ok (.aload_n 0, 1) := by decide +kernel
theorem dX7_mark_28 : decode cX7_mark 28 = .ok (.getfield 31, 3) := by decide +kernel
theorem dX7_mark_31 : decode cX7_mark 31 = .ok (.aload_n 0, 1) := by decide +kernel
theorem dX7_mark_32 : decode cX7_mark 32 = .ok (.getfield 83, 3) := by decide +kernel
theorem dX7_mark_35 : decode cX7_mark 35 = .ok (.iload_n 1, 1) := by decide +kernel
theorem dX7_mark_36 : decode cX7_mark 36 = .ok (.iastore, 1) := by decide +kernel
theorem dX7_mark_37 : decode cX7_mark 37 = .ok (.aload_n 0, 1) := by decide +kernel
theorem dX7_mark_38 : decode cX7_mark 38 = .ok (.getfield 34, 3) := by decide +kernel
theorem dX7_mark_41 : decode cX7_mark 41 = .ok (.aload_n 0, 1) := by decide +kernel
theorem dX7_mark_42 : decode cX7_mark 42 = .ok (.getfield 83, 3) := by decide +kernel
theorem dX7_mark_45 : decode cX7_mark 45 = .ok (.iload_n 2, 1) := by decide +kernel
theorem dX7_mark_46 : decode cX7_mark 46 = .ok (.iastore, 1) := by decide +kernel
theorem dX7_mark_47 : decode cX7_mark 47 = .ok (.aload_n 0, 1) := by decide +kernel
theorem dX7_mark_48 : decode cX7_mark 48 = .ok (.getfield 37, 3) := by decide +kernel
theorem dX7_mark_51 : decode cX7_mark 51 = .ok (.aload_n 0, 1) := by decide +kernel
theorem dX7_mark_52 : decode cX7_mark 52 = .ok (.getfield 83, 3) := by decide +kernel
theorem dX7_mark_55 : decode cX7_mark 55 = .ok (.iconst 0, 1) := by decide +kernel
theorem dX7_mark_56 : decode cX7_mark 56 = .ok (.iastore, 1) := by decide +kernel
theorem dX7_mark_57 : decode cX7_mark 57 = .ok (.aload_n 0, 1) := by decide +kernel
theorem dX7_mark_58 : decode cX7_mark 58 = .ok (.getfield 43, 3) := by decide +kernel
theorem dX7_mark_61 : decode cX7_mark 61 = .ok (.aload_n 0, 1) := by decide +kernel
theorem dX7_mark_62 : decode cX7_mark 62 = .ok (.getfield 83, 3) := by decide +kernel
theorem dX7_mark_65 : decode cX7_mark 65 = .ok (.iconst 0, 1) := by decide +kernel
theorem dX7_mark_66 : decode cX7_mark 66 = .ok (.iastore, 1) := by decide +kernel
theorem dX7_mark_67 : decode cX7_mark 67 = .ok (.aload_n 0, 1) := by decide +kernel
theorem dX7_mark_68 : decode cX7_mark 68 = .ok (.dup, 1) := by decide +kernel
theorem dX7_mark_69 : decode cX7_mark 69 = .ok (.getfield 83, 3) := by decide +kernel
theorem dX7_mark_72 : decode cX7_mark 72 = .ok (.iconst 1, 1) := by decide +kernel
theorem dX7_mark_73 : decode cX7_mark 73 = .ok (.iadd, 1) := by decide +kernel
theorem dX7_mark_74 : decode cX7_mark 74 = .ok (.putfield 83, 3) := by decide +kernel
theorem dX7_mark_77 : decode cX7_mark 77 = .ok (.aload_n 0, 1) := by decide +kernel
theorem dX7_mark_78 : decode cX7_mark 78 = .ok (.getfield 83, 3) := by decide +kernel
theorem dX7_mark_81 : decode cX7_mark 81 = .ok (.iconst 1, 1) := by decide +kernel
theorem dX7_mark_82 : decode cX7_mark 82 = .ok (.isub, 1) := by decide +kernel
theorem dX7_mark_83 : decode cX7_mark 83 = .ok (.ireturn, 1) := by decide +kernel
theorem dX7_hasPaper_0 : decode cX7_hasPaper 0 = .ok (.iconst 0, 1) := by decide +kernel
theorem dX7_hasPaper_1 : decode cX7_hasPaper 1 = .ok (.istore_n 2, 1) := by decide +kernel
theorem dX7_hasPaper_2 : decode cX7_hasPaper 2 = .ok (.iconst 0, 1) := by decide +kernel
theorem dX7_hasPaper_3 : decode cX7_hasPaper 3 = .ok (.istore_n 3, 1) := by decide +kernel
theorem dX7_hasPaper_4 : decode cX7_hasPaper 4 = .ok (.iload_n 3, 1) := by decide +kernel
theorem dX7_hasPaper_5 : decode cX7_hasPaper 5 = .ok (.aload_n 0, 1) := by decide +kernel
theorem dX7_hasPaper_6 : decode cX7_hasPaper 6 = .ok (.getfield 105, 3) := by decide +kernel
theorem dX7_hasPaper_9 : decode cX7_hasPaper 9 = .ok (.if_icmp .ge 29, 3) := by decide +kernel
theorem dX7_hasPaper_12 : decode cX7_hasPaper 12 = .ok (.iload_n 2, 1) := by decide +kernel
theorem dX7_hasPaper_13 : decode cX7_hasPaper 13 = .ok (.ifCond .ne 13, 3) := by decide +kernel
theorem dX7_hasPaper_16 : decode cX7_hasPaper 16 = .ok (.aload_n 0, 1) := by decide +kernel
theorem dX7_hasPaper_17 : decode cX7_hasPaper 17 = .ok (.getfield 52, 3) := by decide +kernel
theorem dX7_hasPaper_20 : decode cX7_hasPaper 20 = .ok (.iload_n 3, 1) := by decide +kernel
theorem dX7_hasPaper_21 : decode cX7_hasPaper 21 = .ok (.iaload, 1) := by decide +kernel
theorem dX7_hasPaper_22 : decode cX7_hasPaper 22 = .ok (.iload_n 1, 1) := by decide +kernel
theorem dX7_hasPaper_23 : decode cX7_hasPaper 23 = .ok (.if_icmp .ne 7, 3) := by decide +kernel
theorem dX7_hasPaper_26 : decode cX7_hasPaper 26 = .ok (.iconst 1, 1) := by decide +kernel
theorem dX7_hasPaper_27 : decode cX7_hasPaper 27 = .ok (.goto 4, 3) := by decide +kernel
theorem dX7_hasPaper_30 : decode cX7_hasPaper 30 = .ok (.iconst 0, 1) := by decide +kernel
theorem dX7_hasPaper_31 : decode cX7_hasPaper 31 = .ok (.istore_n 2, 1) := by decide +kernel
theorem dX7_hasPaper_32 : decode cX7_hasPaper 32 = .ok (.iinc 3 1, 3) := by decide +kernel
theorem dX7_hasPaper_35 : decode cX7_hasPaper 35 = .ok (.goto (-31), 3) := by decide +kernel
theorem dX7_hasPaper_38 : decode cX7_hasPaper 38 = .ok (.iload_n 2, 1) := by decide +kernel
theorem dX7_hasPaper_39 : decode cX7_hasPaper 39 = .ok (.ireturn, 1) := by decide +kernel
theorem dX7_letter_0 : decode cX7_letter 0 = .ok (.aload_n 0, 1) := by decide +kernel
theorem dX7_letter_1 : decode cX7_letter 1 = .ok (.iload_n 1, 1) := by decide +kernel
theorem dX7_letter_2 : decode cX7_letter 2 = .ok (.invokevirtual 108, 3) := by decide +kernel
theorem dX7_letter_5 : decode cX7_letter 5 = .ok (.ifCond .eq 32, 3) := by decide +kernel
theorem dX7_letter_8 : decode cX7_letter 8 = .ok (.iload_n 2, 1) := by decide +kernel
theorem dX7_letter_9 : decode cX7_letter 9 = .ok (.iconst 0, 1) := by decide +kernel
theorem dX7_letter_10 : decode cX7_letter 10 = .ok (.bipush 25, 2) := by decide +kernel
theorem dX7_letter_12 : decode cX7_letter 12 = .ok (.invokestatic 86, 3) := by decide +kernel
theorem dX7_letter_15 : decode cX7_letter 15 = .ok (.ifCond .eq 22, 3) := by decide +kernel
theorem dX7_letter_18 : decode cX7_letter 18 = .ok (.aload_n 0, 1) := by decide +kernel
theorem dX7_letter_19 : decode cX7_letter 19 = .ok (.getfield 37, 3) := by decide +kernel
theorem dX7_letter_22 : decode cX7_letter 22 = .ok (.iload_n 1, 1) := by decide +kernel
theorem dX7_letter_23 : decode cX7_letter 23 = .ok (.iaload, 1) := by decide +kernel
theorem dX7_letter_24 : decode cX7_letter 24 = .ok (.bipush 40, 2) := by decide +kernel
theorem dX7_letter_26 : decode cX7_letter 26 = .ok (.if_icmp .eq 11, 3) := by decide +kernel
theorem dX7_letter_29 : decode cX7_letter 29 = .ok (.aload_n 0, 1) := by decide +kernel
theorem dX7_letter_30 : decode cX7_letter 30 = .ok (.iload_n 1, 1) := by decide +kernel
theorem dX7_letter_31 : decode cX7_letter 31 = .ok (.invokevirtual 111, 3) := by decide +kernel
theorem dX7_letter_34 : decode cX7_letter 34 = .ok (.ifCond .eq 5, 3) := by decide +kernel
theorem dX7_letter_37 : decode cX7_letter 37 = .ok (.iconst (-1), 1) := by decide +kernel
theorem dX7_letter_38 : decode cX7_letter 38 = .ok (.ireturn, 1) := by decide +kernel
theorem dX7_letter_39 : decode cX7_letter 39 = .ok (.aload_n 0, 1) := by decide +kernel
theorem dX7_letter_40 : decode cX7_letter 40 = .ok (.getfield 40, 3) := by decide +kernel
theorem dX7_letter_43 : decode cX7_letter 43 = .ok (.bipush 40, 2) := by decide +kernel
theorem dX7_letter_45 : decode cX7_letter 45 = .ok (.iload_n 1, 1) := by decide +kernel
theorem dX7_letter_46 : decode cX7_letter 46 = .ok (.imul, 1) := by decide +kernel
theorem dX7_letter_47 : decode cX7_letter 47 = .ok (.aload_n 0, 1) := by decide +kernel
theorem dX7_letter_48 : decode cX7_letter 48 = .ok (.getfield 37, 3) := by decide +kernel
theorem dX7_letter_51 : decode cX7_letter 51 = .ok (.iload_n 1, 1) := by decide +kernel
theorem dX7_letter_52 : decode cX7_letter 52 = .ok (.iaload, 1) := by decide +kernel
theorem dX7_letter_53 : decode cX7_letter 53 = .ok (.iadd, 1) := by decide +kernel
theorem dX7_letter_54 : decode cX7_letter 54 = .ok (.iload_n 2, 1) := by decide +kernel
theorem dX7_letter_55 : decode cX7_letter 55 = .ok (.iastore, 1) := by decide +kernel
theorem dX7_letter_56 : decode cX7_letter 56 = .ok (.aload_n 0, 1) := by decide +kernel
theorem dX7_letter_57 : decode cX7_letter 57 = .ok (.getfield 37, 3) := by decide +kernel
theorem dX7_letter_60 : decode cX7_letter 60 = .ok (.iload_n 1, 1) := by decide +kernel
theorem dX7_letter_61 : decode cX7_letter 61 = .ok (.dup2, 1) := by decide +kernel
theorem dX7_letter_62 : decode cX7_letter 62 = .ok (.iaload, 1) := by decide +kernel
theorem dX7_letter_63 : decode cX7_letter 63 = .ok (.iconst 1, 1) := by decide +kernel
theorem dX7_letter_64 : decode cX7_letter 64 = .ok (.iadd, 1) := by decide +kernel
theorem dX7_letter_65 : decode cX7_letter 65 = .ok (.iastore, 1) := by decide +kernel
theorem dX7_letter_66 : decode cX7_letter 66 = .ok (.aload_n 0, 1) := by decide +kernel
theorem dX7_letter_67 : decode cX7_letter 67 = .ok (.getfield 37, 3) := by decide +kernel
theorem dX7_letter_70 : decode cX7_letter 70 = .ok (.iload_n 1, 1) := by decide +kernel
theorem dX7_letter_71 : decode cX7_letter 71 = .ok (.iaload, 1) := by decide +kernel
theorem dX7_letter_72 : decode cX7_letter 72 = .ok (.ireturn, 1) := by decide +kernel
theorem dX7_code_0 : decode cX7_code 0 = .ok (.aload_n 0, 1) := by decide +kernel
theorem dX7_code_1 : decode cX7_code 1 = .ok (.iload_n 1, 1) := by decide +kernel
theorem dX7_code_2 : decode cX7_code 2 = .ok (.invokevirtual 108, 3) := by decide +kernel
theorem dX7_code_5 : decode cX7_code 5 = .ok (.ifCond .eq 62, 3) := by decide +kernel
theorem dX7_code_8 : decode cX7_code 8 = .ok (.iload_n 2, 1) := by decide +kernel
theorem dX7_code_9 : decode cX7_code 9 = .ok (.iconst 0, 1) := by decide +kernel
theorem dX7_code_10 : decode cX7_code 10 = .ok (.sipush 32767, 3) := by decide +kernel
theorem dX7_code_13 : decode cX7_code 13 = .ok (.invokestatic 86, 3) := by decide +kernel
theorem dX7_code_16 : decode cX7_code 16 = .ok (.ifCond .eq 51, 3) := by decide +kernel
theorem dX7_code_19 : decode cX7_code 19 = .ok (.aload_n 0, 1) := by decide +kernel
theorem dX7_code_20 : decode cX7_code 20 = .ok (.getfield 43, 3) := by decide +kernel
theorem dX7_code_23 : decode cX7_code 23 = .ok (.iload_n 1, 1) := by decide +kernel
theorem dX7_code_24 : decode cX7_code 24 = .ok (.iaload, 1) := by decide +kernel
theorem dX7_code_25 : decode cX7_code 25 = .ok (.bipush 12, 2) := by decide +kernel
theorem dX7_code_27 : decode cX7_code 27 = .ok (.if_icmp .eq 40, 3) := by decide +kernel
theorem dX7_code_30 : decode cX7_code 30 = .ok (.aload_n 0, 1) := by decide +kernel
theorem dX7_code_31 : decode cX7_code 31 = .ok (.getfield 31, 3) := by decide +kernel
theorem dX7_code_34 : decode cX7_code 34 = .ok (.iload_n 1, 1) := by decide +kernel
theorem dX7_code_35 : decode cX7_code 35 = .ok (.iaload, 1) := by decide +kernel
theorem dX7_code_36 : decode cX7_code 36 = .ok (.iconst 1, 1) := by decide +kernel
theorem dX7_code_37 : decode cX7_code 37 = .ok (.if_icmp .eq 13, 3) := by decide +kernel
theorem dX7_code_40 : decode cX7_code 40 = .ok (.aload_n 0, 1) := by decide +kernel
theorem dX7_code_41 : decode cX7_code 41 = .ok (.getfield 31, 3) := by decide +kernel
theorem dX7_code_44 : decode cX7_code 44 = .ok (.iload_n 1, 1) := by decide +kernel
theorem dX7_code_45 : decode cX7_code 45 = .ok (.iaload, 1) := by decide +kernel
theorem dX7_code_46 : decode cX7_code 46 = .ok (.iconst 2, 1) := by decide +kernel
theorem dX7_code_47 : decode cX7_code 47 = .ok (.if_icmp .ne 20, 3) := by decide +kernel
theorem dX7_code_50 : decode cX7_code 50 = .ok (.aload_n 0, 1) := by decide +kernel
theorem dX7_code_51 : decode cX7_code 51 = .ok (.iload_n 1, 1) := by decide +kernel
theorem dX7_code_52 : decode cX7_code 52 = .ok (.invokevirtual 111, 3) := by decide +kernel
theorem dX7_code_55 : decode cX7_code 55 = .ok (.ifCond .ne 12, 3) := by decide +kernel
theorem dX7_code_58 : decode cX7_code 58 = .ok (.aload_n 0, 1) := by decide +kernel
theorem dX7_code_59 : decode cX7_code 59 = .ok (.iload_n 1, 1) := by decide +kernel
theorem dX7_code_60 : decode cX7_code 60 = .ok (.iload_n 2, 1) := by decide +kernel
theorem dX7_code_61 : decode cX7_code 61 = .ok (.invokevirtual 114, 3) := by decide +kernel
theorem dX7_code_64 : decode cX7_code 64 = .ok (.ifCond .eq 5, 3) := by decide +kernel
theorem dX7_code_67 : decode cX7_code 67 = .ok (.iconst (-1), 1) := by decide +kernel
theorem dX7_code_68 : decode cX7_code 68 = .ok (.ireturn, 1) := by decide +kernel
theorem dX7_code_69 : decode cX7_code 69 = .ok (.aload_n 0, 1) := by decide +kernel
theorem dX7_code_70 : decode cX7_code 70 = .ok (.getfield 46, 3) := by decide +kernel
theorem dX7_code_73 : decode cX7_code 73 = .ok (.bipush 12, 2) := by decide +kernel
theorem dX7_code_75 : decode cX7_code 75 = .ok (.iload_n 1, 1) := by decide +kernel
theorem dX7_code_76 : decode cX7_code 76 = .ok (.imul, 1) := by decide +kernel
theorem dX7_code_77 : decode cX7_code 77 = .ok (.aload_n 0, 1) := by decide +kernel
theorem dX7_code_78 : decode cX7_code 78 = .ok (.getfield 43, 3) := by decide +kernel
theorem dX7_code_81 : decode cX7_code 81 = .ok (.iload_n 1, 1) := by decide +kernel
theorem dX7_code_82 : decode cX7_code 82 = .ok (.iaload, 1) := by decide +kernel
theorem dX7_code_83 : decode cX7_code 83 = .ok (.iadd, 1) := by decide +kernel
theorem dX7_code_84 : decode cX7_code 84 = .ok (.iload_n 2, 1) := by decide +kernel
theorem dX7_code_85 : decode cX7_code 85 = .ok (.iastore, 1) := by decide +kernel
theorem dX7_code_86 : decode cX7_code 86 = .ok (.aload_n 0, 1) := by decide +kernel
theorem dX7_code_87 : decode cX7_code 87 = .ok (.getfield 43, 3) := by decide +kernel
theorem dX7_code_90 : decode cX7_code 90 = .ok (.iload_n 1, 1) := by decide +kernel
theorem dX7_code_91 : decode cX7_code 91 = .ok (.dup2, 1) := by decide +kernel
theorem dX7_code_92 : decode cX7_code 92 = .ok (.iaload, 1) := by decide +kernel
theorem dX7_code_93 : decode cX7_code 93 = .ok (.iconst 1, 1) := by decide +kernel
theorem dX7_code_94 : decode cX7_code 94 = .ok (.iadd, 1) := by decide +kernel
theorem dX7_code_95 : decode cX7_code 95 = .ok (.iastore, 1) := by decide +kernel
theorem dX7_code_96 : decode cX7_code 96 = .ok (.aload_n 0, 1) := by decide +kernel
theorem dX7_code_97 : decode cX7_code 97 = .ok (.getfield 43, 3) := by decide +kernel
theorem dX7_code_100 : decode cX7_code 100 = .ok (.iload_n 1, 1) := by decide +kernel
theorem dX7_code_101 : decode cX7_code 101 = .ok (.iaload, 1) := by decide +kernel
theorem dX7_code_102 : decode cX7_code 102 = .ok (.ireturn, 1) := by decide +kernel
theorem dX7_hasCode_0 : decode cX7_hasCode 0 = .ok (.iconst 0, 1) := by decide +kernel
theorem dX7_hasCode_1 : decode cX7_hasCode 1 = .ok (.istore_n 3, 1) := by decide +kernel
theorem dX7_hasCode_2 : decode cX7_hasCode 2 = .ok (.bipush 12, 2) := by decide +kernel
theorem dX7_hasCode_4 : decode cX7_hasCode 4 = .ok (.iload_n 1, 1) := by decide +kernel
theorem dX7_hasCode_5 : decode cX7_hasCode 5 = .ok (.imul, 1) := by decide +kernel
theorem dX7_hasCode_6 : decode cX7_hasCode 6 = .ok (.istore 4, 2) := by decide +kernel
theorem dX7_hasCode_8 : decode cX7_hasCode 8 = .ok (.iload 4, 2) := by decide +kernel
theorem dX7_hasCode_10 : decode cX7_hasCode 10 = .ok (.bipush 12, 2) := by decide +kernel
theorem dX7_hasCode_12 : decode cX7_hasCode 12 = .ok (.iload_n 1, 1) := by decide +kernel
theorem dX7_hasCode_13 : decode cX7_hasCode 13 = .ok (.imul, 1) := by decide +kernel
theorem dX7_hasCode_14 : decode cX7_hasCode 14 = .ok (.aload_n 0, 1) := by decide +kernel
theorem dX7_hasCode_15 : decode cX7_hasCode 15 = .ok (.getfield 43, 3) := by decide +kernel
theorem dX7_hasCode_18 : decode cX7_hasCode 18 = .ok (.iload_n 1, 1) := by decide +kernel
theorem dX7_hasCode_19 : decode cX7_hasCode 19 = .ok (.iaload, 1) := by decide +kernel
theorem dX7_hasCode_20 : decode cX7_hasCode 20 = .ok (.iadd, 1) := by decide +kernel
theorem dX7_hasCode_21 : decode cX7_hasCode 21 = .ok (.if_icmp .ge 30, 3) := by decide +kernel
theorem dX7_hasCode_24 : decode cX7_hasCode 24 = .ok (.iload_n 3, 1) := by decide +kernel
theorem dX7_hasCode_25 : decode cX7_hasCode 25 = .ok (.ifCond .ne 14, 3) := by decide +kernel
theorem dX7_hasCode_28 : decode cX7_hasCode 28 = .ok (.aload_n 0, 1) := by decide +kernel
theorem dX7_hasCode_29 : decode cX7_hasCode 29 = .ok (.getfield 46, 3) := by decide +kernel
theorem dX7_hasCode_32 : decode cX7_hasCode 32 = .ok (.iload 4, 2) := by decide +kernel
theorem dX7_hasCode_34 : decode cX7_hasCode 34 = .ok (.iaload, 1) := by decide +kernel
theorem dX7_hasCode_35 : decode cX7_hasCode 35 = .ok (.iload_n 2, 1) := by decide +kernel
theorem dX7_hasCode_36 : decode cX7_hasCode 36 = .ok (.if_icmp .ne 7, 3) := by decide +kernel
theorem dX7_hasCode_39 : decode cX7_hasCode 39 = .ok (.iconst 1, 1) := by decide +kernel
theorem dX7_hasCode_40 : decode cX7_hasCode 40 = .ok (.goto 4, 3) := by decide +kernel
theorem dX7_hasCode_43 : decode cX7_hasCode 43 = .ok (.iconst 0, 1) := by decide +kernel
theorem dX7_hasCode_44 : decode cX7_hasCode 44 = .ok (.istore_n 3, 1) := by decide +kernel
theorem dX7_hasCode_45 : decode cX7_hasCode 45 = .ok (.iinc 4 1, 3) := by decide +kernel
theorem dX7_hasCode_48 : decode cX7_hasCode 48 = .ok (.goto (-40), 3) := by decide +kernel
theorem dX7_hasCode_51 : decode cX7_hasCode 51 = .ok (.iload_n 3, 1) := by decide +kernel
theorem dX7_hasCode_52 : decode cX7_hasCode 52 = .ok (.ireturn, 1) := by decide +kernel
theorem dX7_soundOfLetter_0 : decode cX7_soundOfLetter 0 = .ok (.aload_n 0, 1) := by decide +kernel
theorem dX7_soundOfLetter_1 : decode cX7_soundOfLetter 1 = .ok (.getfield 40, 3) := by decide +kernel
theorem dX7_soundOfLetter_4 : decode cX7_soundOfLetter 4 = .ok (.bipush 40, 2) := by decide +kernel
theorem dX7_soundOfLetter_6 : decode cX7_soundOfLetter 6 = .ok (.iload_n 1, 1) := by decide +kernel
theorem dX7_soundOfLetter_7 : decode cX7_soundOfLetter 7 = .ok (.imul, 1) := by decide +kernel
theorem dX7_soundOfLetter_8 : decode cX7_soundOfLetter 8 = .ok (.iload_n 2, 1) := by decide +kernel
theorem dX7_soundOfLetter_9 : decode cX7_soundOfLetter 9 = .ok (.iadd, 1) := by decide +kernel
theorem dX7_soundOfLetter_10 : decode cX7_soundOfLetter 10 = .ok (.iaload, 1) := by decide +kernel
theorem dX7_soundOfLetter_11 : decode cX7_soundOfLetter 11 = .ok (.istore_n 3, 1) := by decide +kernel
theorem dX7_soundOfLetter_12 : decode cX7_soundOfLetter 12 = .ok (.iload_n 2, 1) := by decide +kernel
theorem dX7_soundOfLetter_13 : decode cX7_soundOfLetter 13 = .ok (.iconst 1, 1) := by decide +kernel
theorem dX7_soundOfLetter_14 : decode cX7_soundOfLetter 14 = .ok (.iadd, 1) := by decide +kernel
theorem dX7_soundOfLetter_15 : decode cX7_soundOfLetter 15 = .ok (.aload_n 0, 1) := by decide +kernel
theorem dX7_soundOfLetter_16 : decode cX7_soundOfLetter 16 = .ok (.getfield 37, 3) := by decide +kernel
theorem dX7_soundOfLetter_19 : decode cX7_soundOfLetter 19 = .ok (.iload_n 1, 1) := by decide +kernel
theorem dX7_soundOfLetter_20 : decode cX7_soundOfLetter 20 = .ok (.iaload, 1) := by decide +kernel
theorem dX7_soundOfLetter_21 : decode cX7_soundOfLetter 21 = .ok (.if_icmp .ge 19, 3) := by decide +kernel
theorem dX7_soundOfLetter_24 : decode cX7_soundOfLetter 24 = .ok (.aload_n 0, 1) := by decide +kernel
theorem dX7_soundOfLetter_25 : decode cX7_soundOfLetter 25 = .ok (.getfield 40, 3) := by decide +kernel
theorem dX7_soundOfLetter_28 : decode cX7_soundOfLetter 28 = .ok (.bipush 40, 2) := by decide +kernel
theorem dX7_soundOfLetter_30 : decode cX7_soundOfLetter 30 = .ok (.iload_n 1, 1) := by decide +kernel
theorem dX7_soundOfLetter_31 : decode cX7_soundOfLetter 31 = .ok (.imul, 1) := by decide +kernel
theorem dX7_soundOfLetter_32 : decode cX7_soundOfLetter 32 = .ok (.iload_n 2, 1) := by decide +kernel
theorem dX7_soundOfLetter_33 : decode cX7_soundOfLetter 33 = .ok (.iadd, 1) := by decide +kernel
theorem dX7_soundOfLetter_34 : decode cX7_soundOfLetter 34 = .ok (.iconst 1, 1) := by decide +kernel
theorem dX7_soundOfLetter_35 : decode cX7_soundOfLetter 35 = .ok (.iadd, 1) := by decide +kernel
theorem dX7_soundOfLetter_36 : decode cX7_soundOfLetter 36 = .ok (.iaload, 1) := by decide +kernel
theorem dX7_soundOfLetter_37 : decode cX7_soundOfLetter 37 = .ok (.goto 5, 3) := by decide +kernel
theorem dX7_soundOfLetter_40 : decode cX7_soundOfLetter 40 = .ok (.bipush 26, 2) := by decide +kernel
theorem dX7_soundOfLetter_42 : decode cX7_soundOfLetter 42 = .ok (.istore 4, 2) := by decide +kernel
theorem dX7_soundOfLetter_44 : decode cX7_soundOfLetter 44 = .ok (.aload_n 0, 1) := by decide +kernel
theorem dX7_soundOfLetter_45 : decode cX7_soundOfLetter 45 = .ok (.getfield 7, 3) := by decide +kernel
theorem dX7_soundOfLetter_48 : decode cX7_soundOfLetter 48 = .ok (.iload_n 3, 1) := by decide +kernel
theorem dX7_soundOfLetter_49 : decode cX7_soundOfLetter 49 = .ok (.iaload, 1) := by decide +kernel
theorem dX7_soundOfLetter_50 : decode cX7_soundOfLetter 50 = .ok (.iconst (-1), 1) := by decide +kernel
theorem dX7_soundOfLetter_51 : decode cX7_soundOfLetter 51 = .ok (.if_icmp .ne 8, 3) := by decide +kernel
theorem dX7_soundOfLetter_54 : decode cX7_soundOfLetter 54 = .ok (.bipush 40, 2) := by decide +kernel
theorem dX7_soundOfLetter_56 : decode cX7_soundOfLetter 56 = .ok (.iload_n 3, 1) := by decide +kernel
theorem dX7_soundOfLetter_57 : decode cX7_soundOfLetter 57 = .ok (.iadd, 1) := by decide +kernel
theorem dX7_soundOfLetter_58 : decode cX7_soundOfLetter 58 = .ok (.ireturn, 1) := by decide +kernel
theorem dX7_soundOfLetter_59 : decode cX7_soundOfLetter 59 = .ok (.iload 4, 2) := by decide +kernel
theorem dX7_soundOfLetter_61 : decode cX7_soundOfLetter 61 = .ok (.aload_n 0, 1) := by decide +kernel
theorem dX7_soundOfLetter_62 : decode cX7_soundOfLetter 62 = .ok (.getfield 7, 3) := by decide +kernel
theorem dX7_soundOfLetter_65 : decode cX7_soundOfLetter 65 = .ok (.iload_n 3, 1) := by decide +kernel
theorem dX7_soundOfLetter_66 : decode cX7_soundOfLetter 66 = .ok (.iaload, 1) := by decide +kernel
theorem dX7_soundOfLetter_67 : decode cX7_soundOfLetter 67 = .ok (.if_icmp .ge 18, 3) := by decide +kernel
theorem dX7_soundOfLetter_70 : decode cX7_soundOfLetter 70 = .ok (.aload_n 0, 1) := by decide +kernel
theorem dX7_soundOfLetter_71 : decode cX7_soundOfLetter 71 = .ok (.getfield 13, 3) := by decide +kernel
theorem dX7_soundOfLetter_74 : decode cX7_soundOfLetter 74 = .ok (.bipush 27, 2) := by decide +kernel
theorem dX7_soundOfLetter_76 : decode cX7_soundOfLetter 76 = .ok (.iload_n 3, 1) := by decide +kernel
theorem dX7_soundOfLetter_77 : decode cX7_soundOfLetter 77 = .ok (.imul, 1) := by decide +kernel
theorem dX7_soundOfLetter_78 : decode cX7_soundOfLetter 78 = .ok (.iload 4, 2) := by decide +kernel
theorem dX7_soundOfLetter_80 : decode cX7_soundOfLetter 80 = .ok (.iadd, 1) := by decide +kernel
theorem dX7_soundOfLetter_81 : decode cX7_soundOfLetter 81 = .ok (.iaload, 1) := by decide +kernel
theorem dX7_soundOfLetter_82 : decode cX7_soundOfLetter 82 = .ok (.goto 4, 3) := by decide +kernel
theorem dX7_soundOfLetter_85 : decode cX7_soundOfLetter 85 = .ok (.iconst (-1), 1) := by decide +kernel
theorem dX7_soundOfLetter_86 : decode cX7_soundOfLetter 86 = .ok (.ireturn, 1) := by decide +kernel
theorem dX7_soundsInto_0 : decode cX7_soundsInto 0 = .ok (.iconst 0, 1) := by decide +kernel
theorem dX7_soundsInto_1 : decode cX7_soundsInto 1 = .ok (.istore_n 3, 1) := by decide +kernel
theorem dX7_soundsInto_2 : decode cX7_soundsInto 2 = .ok (.iconst 0, 1) := by decide +kernel
theorem dX7_soundsInto_3 : decode cX7_soundsInto 3 = .ok (.istore 4, 2) := by decide +kernel
theorem dX7_soundsInto_5 : decode cX7_soundsInto 5 = .ok (.iload 4, 2) := by decide +kernel
theorem dX7_soundsInto_7 : decode cX7_soundsInto 7 = .ok (.aload_n 0, 1) := by decide +kernel
theorem dX7_soundsInto_8 : decode cX7_soundsInto 8 = .ok (.getfield 37, 3) := by decide +kernel
theorem dX7_soundsInto_11 : decode cX7_soundsInto 11 = .ok (.iload_n 1, 1) := by decide +kernel
theorem dX7_soundsInto_12 : decode cX7_soundsInto 12 = .ok (.iaload, 1) := by decide +kernel
theorem dX7_soundsInto_13 : decode cX7_soundsInto 13 = .ok (.if_icmp .ge 31, 3) := by decide +kernel
theorem dX7_soundsInto_16 : decode cX7_soundsInto 16 = .ok (.aload_n 0, 1) := by decide +kernel
theorem dX7_soundsInto_17 : decode cX7_soundsInto 17 = .ok (.iload_n 1, 1) := by decide +kernel
theorem dX7_soundsInto_18 : decode cX7_soundsInto 18 = .ok (.iload 4, 2) := by decide +kernel
theorem dX7_soundsInto_20 : decode cX7_soundsInto 20 = .ok (.invokevirtual 118, 3) := by decide +kernel
theorem dX7_soundsInto_23 : decode cX7_soundsInto 23 = .ok (.istore 5, 2) := by decide +kernel
theorem dX7_soundsInto_25 : decode cX7_soundsInto 25 = .ok (.iload 5, 2) := by decide +kernel
theorem dX7_soundsInto_27 : decode cX7_soundsInto 27 = .ok (.ifCond .lt 11, 3) := by decide +kernel
theorem dX7_soundsInto_30 : decode cX7_soundsInto 30 = .ok (.aload_n 2, 1) := by decide +kernel
theorem dX7_soundsInto_31 : decode cX7_soundsInto 31 = .ok (.iload_n 3, 1) := by decide +kernel
theorem dX7_soundsInto_32 : decode cX7_soundsInto 32 = .ok (.iload 5, 2) := by decide +kernel
theorem dX7_soundsInto_34 : decode cX7_soundsInto 34 = .ok (.iastore, 1) := by decide +kernel
theorem dX7_soundsInto_35 : decode cX7_soundsInto 35 = .ok (.iinc 3 1, 3) := by decide +kernel
theorem dX7_soundsInto_38 : decode cX7_soundsInto 38 = .ok (.iinc 4 1, 3) := by decide +kernel
theorem dX7_soundsInto_41 : decode cX7_soundsInto 41 = .ok (.goto (-36), 3) := by decide +kernel
theorem dX7_soundsInto_44 : decode cX7_soundsInto 44 = .ok (.iload_n 3, 1) := by decide +kernel
theorem dX7_soundsInto_45 : decode cX7_soundsInto 45 = .ok (.ireturn, 1) := by decide +kernel
theorem dX7_costOf_0 : decode cX7_costOf 0 = .ok (.aload_n 0, 1) := by decide +kernel
theorem dX7_costOf_1 : decode cX7_costOf 1 = .ok (.iload_n 1, 1) := by decide +kernel
theorem dX7_costOf_2 : decode cX7_costOf 2 = .ok (.aload_n 0, 1) := by decide +kernel
theorem dX7_costOf_3 : decode cX7_costOf 3 = .ok (.getfield 61, 3) := by decide +kernel
theorem dX7_costOf_6 : decode cX7_costOf 6 = .ok (.invokevirtual 121, 3) := by decide +kernel
theorem dX7_costOf_9 : decode cX7_costOf 9 = .ok (.istore_n 3, 1) := by decide +kernel
theorem dX7_costOf_10 : decode cX7_costOf 10 = .ok (.aload_n 0, 1) := by decide +kernel
theorem dX7_costOf_11 : decode cX7_costOf 11 = .ok (.iload_n 2, 1) := by decide +kernel
theorem dX7_costOf_12 : decode cX7_costOf 12 = .ok (.aload_n 0, 1) := by decide +kernel
theorem dX7_costOf_13 : decode cX7_costOf 13 = .ok (.getfield 64, 3) := by decide +kernel
theorem dX7_costOf_16 : decode cX7_costOf 16 = .ok (.invokevirtual 121, 3) := by decide +kernel
theorem dX7_costOf_19 : decode cX7_costOf 19 = .ok (.istore 4, 2) := by decide +kernel
theorem dX7_costOf_21 : decode cX7_costOf 21 = .ok (.aload_n 0, 1) := by decide +kernel
theorem dX7_costOf_22 : decode cX7_costOf 22 = .ok (.getfield 67, 3) := by decide +kernel
theorem dX7_costOf_25 : decode cX7_costOf 25 = .ok (.iconst 0, 1) := by decide +kernel
theorem dX7_costOf_26 : decode cX7_costOf 26 = .ok (.iconst 0, 1) := by decide +kernel
theorem dX7_costOf_27 : decode cX7_costOf 27 = .ok (.iastore, 1) := by decide +kernel
theorem dX7_costOf_28 : decode cX7_costOf 28 = .ok (.iconst 0, 1) := by decide +kernel
theorem dX7_costOf_29 : decode cX7_costOf 29 = .ok (.istore 5, 2) := by decide +kernel
theorem dX7_costOf_31 : decode cX7_costOf 31 = .ok (.iload 5, 2) := by decide +kernel
theorem dX7_costOf_33 : decode cX7_costOf 33 = .ok (.iload_n 3, 1) := by decide +kernel
theorem dX7_costOf_34 : decode cX7_costOf 34 = .ok (.if_icmp .gt 220, 3) := by decide +kernel
theorem dX7_costOf_37 : decode cX7_costOf 37 = .ok (.iconst 0, 1) := by decide +kernel
theorem dX7_costOf_38 : decode cX7_costOf 38 = .ok (.istore 6, 2) := by decide +kernel
theorem dX7_costOf_40 : decode cX7_costOf 40 = .ok (.iload 6, 2) := by decide +kernel
theorem dX7_costOf_42 : decode cX7_costOf 42 = .ok (.iload 4, 2) := by decide +kernel
theorem dX7_costOf_44 : decode cX7_costOf 44 = .ok (.if_icmp .gt 204, 3) := by decide +kernel
theorem dX7_costOf_47 : decode cX7_costOf 47 = .ok (.iload 5, 2) := by decide +kernel
theorem dX7_costOf_49 : decode cX7_costOf 49 = .ok (.ifCond .ne 11, 3) := by decide +kernel
theorem dX7_costOf_52 : decode cX7_costOf 52 = .ok (.iload 6, 2) := by decide +kernel
theorem dX7_costOf_54 : decode cX7_costOf 54 = .ok (.ifCond .ne 6, 3) := by decide +kernel
theorem dX7_costOf_57 : decode cX7_costOf 57 = .ok (.goto 185, 3) := by decide +kernel
theorem dX7_costOf_60 : decode cX7_costOf 60 = .ok (.ldc 125, 2) := by decide +kernel
theorem dX7_costOf_62 : decode cX7_costOf 62 = .ok (.istore 7, 2) := by decide +kernel
theorem dX7_costOf_64 : decode cX7_costOf 64 = .ok (.iload 5, 2) := by decide +kernel
theorem dX7_costOf_66 : decode cX7_costOf 66 = .ok (.ifCond .le 35, 3) := by decide +kernel
theorem dX7_costOf_69 : decode cX7_costOf 69 = .ok (.aload_n 0, 1) := by decide +kernel
theorem dX7_costOf_70 : decode cX7_costOf 70 = .ok (.getfield 67, 3) := by decide +kernel
theorem dX7_costOf_73 : decode cX7_costOf 73 = .ok (.bipush 41, 2) := by decide +kernel
theorem dX7_costOf_75 : decode cX7_costOf 75 = .ok (.iload 5, 2) := by decide +kernel
theorem dX7_costOf_77 : decode cX7_costOf 77 = .ok (.iconst 1, 1) := by decide +kernel
theorem dX7_costOf_78 : decode cX7_costOf 78 = .ok (.isub, 1) := by decide +kernel
theorem dX7_costOf_79 : decode cX7_costOf 79 = .ok (.imul, 1) := by decide +kernel
theorem dX7_costOf_80 : decode cX7_costOf 80 = .ok (.iload 6, 2) := by decide +kernel
theorem dX7_costOf_82 : decode cX7_costOf 82 = .ok (.iadd, 1) := by decide +kernel
theorem dX7_costOf_83 : decode cX7_costOf 83 = .ok (.iaload, 1) := by decide +kernel
theorem dX7_costOf_84 : decode cX7_costOf 84 = .ok (.aload_n 0, 1) := by decide +kernel
theorem dX7_costOf_85 : decode cX7_costOf 85 = .ok (.getfield 19, 3) := by decide +kernel
theorem dX7_costOf_88 : decode cX7_costOf 88 = .ok (.aload_n 0, 1) := by decide +kernel
theorem dX7_costOf_89 : decode cX7_costOf 89 = .ok (.getfield 61, 3) := by decide +kernel
theorem dX7_costOf_92 : decode cX7_costOf 92 = .ok (.iload 5, 2) := by decide +kernel
theorem dX7_costOf_94 : decode cX7_costOf 94 = .ok (.iconst 1, 1) := by decide +kernel
theorem dX7_costOf_95 : decode cX7_costOf 95 = .ok (.isub, 1) := by decide +kernel
theorem dX7_costOf_96 : decode cX7_costOf 96 = .ok (.iaload, 1) := by decide +kernel
theorem dX7_costOf_97 : decode cX7_costOf 97 = .ok (.iaload, 1) := by decide +kernel
theorem dX7_costOf_98 : decode cX7_costOf 98 = .ok (.iadd, 1) := by decide +kernel
theorem dX7_costOf_99 : decode cX7_costOf 99 = .ok (.istore 7, 2) := by decide +kernel
theorem dX7_costOf_101 : decode cX7_costOf 101 = .ok (.iload 6, 2) := by decide +kernel
theorem dX7_costOf_103 : decode cX7_costOf 103 = .ok (.ifCond .le 51, 3) := by decide +kernel
theorem dX7_costOf_106 : decode cX7_costOf 106 = .ok (.aload_n 0, 1) := by decide +kernel
theorem dX7_costOf_107 : decode cX7_costOf 107 = .ok (.getfield 67, 3) := by decide +kernel
theorem dX7_costOf_110 : decode cX7_costOf 110 = .ok (.bipush 41, 2) := by decide +kernel
theorem dX7_costOf_112 : decode cX7_costOf 112 = .ok (.iload 5, 2) := by decide +kernel
theorem dX7_costOf_114 : decode cX7_costOf 114 = .ok (.imul, 1) := by decide +kernel
theorem dX7_costOf_115 : decode cX7_costOf 115 = .ok (.iload 6, 2) := by decide +kernel
theorem dX7_costOf_117 : decode cX7_costOf 117 = .ok (.iadd, 1) := by decide +kernel
theorem dX7_costOf_118 : decode cX7_costOf 118 = .ok (.iconst 1, 1) := by decide +kernel
theorem dX7_costOf_119 : decode cX7_costOf 119 = .ok (.isub, 1) := by decide +kernel
theorem dX7_costOf_120 : decode cX7_costOf 120 = .ok (.iaload, 1) := by decide +kernel
theorem dX7_costOf_121 : decode cX7_costOf 121 = .ok (.aload_n 0, 1) := by decide +kernel
theorem dX7_costOf_122 : decode cX7_costOf 122 = .ok (.getfield 19, 3) := by decide +kernel
theorem dX7_costOf_125 : decode cX7_costOf 125 = .ok (.aload_n 0, 1) := by decide +kernel
theorem dX7_costOf_126 : decode cX7_costOf 126 = .ok (.getfield 64, 3) := by decide +kernel
theorem dX7_costOf_129 : decode cX7_costOf 129 = .ok (.iload 6, 2) := by decide +kernel
theorem dX7_costOf_131 : decode cX7_costOf 131 = .ok (.iconst 1, 1) := by decide +kernel
theorem dX7_costOf_132 : decode cX7_costOf 132 = .ok (.isub, 1) := by decide +kernel
theorem dX7_costOf_133 : decode cX7_costOf 133 = .ok (.iaload, 1) := by decide +kernel
theorem dX7_costOf_134 : decode cX7_costOf 134 = .ok (.iaload, 1) := by decide +kernel
theorem dX7_costOf_135 : decode cX7_costOf 135 = .ok (.iadd, 1) := by decide +kernel
theorem dX7_costOf_136 : decode cX7_costOf 136 = .ok (.istore 8, 2) := by decide +kernel
theorem dX7_costOf_138 : decode cX7_costOf 138 = .ok (.iload 8, 2) := by decide +kernel
theorem dX7_costOf_140 : decode cX7_costOf 140 = .ok (.iload 7, 2) := by decide +kernel
theorem dX7_costOf_142 : decode cX7_costOf 142 = .ok (.if_icmp .ge 8, 3) := by decide +kernel
theorem dX7_costOf_145 : decode cX7_costOf 145 = .ok (.iload 8, 2) := by decide +kernel
theorem dX7_costOf_147 : decode cX7_costOf 147 = .ok (.goto 5, 3) := by decide +kernel
theorem dX7_costOf_150 : decode cX7_costOf 150 = .ok (.iload 7, 2) := by decide +kernel
theorem dX7_costOf_152 : decode cX7_costOf 152 = .ok (.istore 7, 2) := by decide +kernel
theorem dX7_costOf_154 : decode cX7_costOf 154 = .ok (.iload 5, 2) := by decide +kernel
theorem dX7_costOf_156 : decode cX7_costOf 156 = .ok (.ifCond .le 71, 3) := by decide +kernel
theorem dX7_costOf_159 : decode cX7_costOf 159 = .ok (.iload 6, 2) := by decide +kernel
theorem dX7_costOf_161 : decode cX7_costOf 161 = .ok (.ifCond .le 66, 3) := by decide +kernel
theorem dX7_costOf_164 : decode cX7_costOf 164 = .ok (.aload_n 0, 1) := by decide +kernel
theorem dX7_costOf_165 : decode cX7_costOf 165 = .ok (.getfield 67, 3) := by decide +kernel
theorem dX7_costOf_168 : decode cX7_costOf 168 = .ok (.bipush 41, 2) := by decide +kernel
theorem dX7_costOf_170 : decode cX7_costOf 170 = .ok (.iload 5, 2) := by decide +kernel
theorem dX7_costOf_172 : decode cX7_costOf 172 = .ok (.iconst 1, 1) := by decide +kernel
theorem dX7_costOf_173 : decode cX7_costOf 173 = .ok (.isub, 1) := by decide +kernel
theorem dX7_costOf_174 : decode cX7_costOf 174 = .ok (.imul, 1) := by decide +kernel
theorem dX7_costOf_175 : decode cX7_costOf 175 = .ok (.iload 6, 2) := by decide +kernel
theorem dX7_costOf_177 : decode cX7_costOf 177 = .ok (.iadd, 1) := by decide +kernel
theorem dX7_costOf_178 : decode cX7_costOf 178 = .ok (.iconst 1, 1) := by decide +kernel
theorem dX7_costOf_179 : decode cX7_costOf 179 = .ok (.isub, 1) := by decide +kernel
theorem dX7_costOf_180 : decode cX7_costOf 180 = .ok (.iaload, 1) := by decide +kernel
theorem dX7_costOf_181 : decode cX7_costOf 181 = .ok (.aload_n 0, 1) := by decide +kernel
theorem dX7_costOf_182 : decode cX7_costOf 182 = .ok (.getfield 16, 3) := by decide +kernel
theorem dX7_costOf_185 : decode cX7_costOf 185 = .ok (.bipush 66, 2) := by decide +kernel
theorem dX7_costOf_187 : decode cX7_costOf 187 = .ok (.aload_n 0, 1) := by decide +kernel
theorem dX7_costOf_188 : decode cX7_costOf 188 = .ok (.getfield 61, 3) := by decide +kernel
theorem dX7_costOf_191 : decode cX7_costOf 191 = .ok (.iload 5, 2) := by decide +kernel
theorem dX7_costOf_193 : decode cX7_costOf 193 = .ok (.iconst 1, 1) := by decide +kernel
theorem dX7_costOf_194 : decode cX7_costOf 194 = .ok (.isub, 1) := by decide +kernel
theorem dX7_costOf_195 : decode cX7_costOf 195 = .ok (.iaload, 1) := by decide +kernel
theorem dX7_costOf_196 : decode cX7_costOf 196 = .ok (.imul, 1) := by decide +kernel
theorem dX7_costOf_197 : decode cX7_costOf 197 = .ok (.aload_n 0, 1) := by decide +kernel
theorem dX7_costOf_198 : decode cX7_costOf 198 = .ok (.getfield 64, 3) := by decide +kernel
theorem dX7_costOf_201 : decode cX7_costOf 201 = .ok (.iload 6, 2) := by decide +kernel
theorem dX7_costOf_203 : decode cX7_costOf 203 = .ok (.iconst 1, 1) := by decide +kernel
theorem dX7_costOf_204 : decode cX7_costOf 204 = .ok (.isub, 1) := by decide +kernel
theorem dX7_costOf_205 : decode cX7_costOf 205 = .ok (.iaload, 1) := by decide +kernel
theorem dX7_costOf_206 : decode cX7_costOf 206 = .ok (.iadd, 1) := by decide +kernel
theorem dX7_costOf_207 : decode cX7_costOf 207 = .ok (.iaload, 1) := by decide +kernel
theorem dX7_costOf_208 : decode cX7_costOf 208 = .ok (.iadd, 1) := by decide +kernel
theorem dX7_costOf_209 : decode cX7_costOf 209 = .ok (.istore 8, 2) := by decide +kernel
theorem dX7_costOf_211 : decode cX7_costOf 211 = .ok (.iload 8, 2) := by decide +kernel
theorem dX7_costOf_213 : decode cX7_costOf 213 = .ok (.iload 7, 2) := by decide +kernel
theorem dX7_costOf_215 : decode cX7_costOf 215 = .ok (.if_icmp .ge 8, 3) := by decide +kernel
theorem dX7_costOf_218 : decode cX7_costOf 218 = .ok (.iload 8, 2) := by decide +kernel
theorem dX7_costOf_220 : decode cX7_costOf 220 = .ok (.goto 5, 3) := by decide +kernel
theorem dX7_costOf_223 : decode cX7_costOf 223 = .ok (.iload 7, 2) := by decide +kernel
theorem dX7_costOf_225 : decode cX7_costOf 225 = .ok (.istore 7, 2) := by decide +kernel
theorem dX7_costOf_227 : decode cX7_costOf 227 = .ok (.aload_n 0, 1) := by decide +kernel
theorem dX7_costOf_228 : decode cX7_costOf 228 = .ok (.getfield 67, 3) := by decide +kernel
theorem dX7_costOf_231 : decode cX7_costOf 231 = .ok (.bipush 41, 2) := by decide +kernel
theorem dX7_costOf_233 : decode cX7_costOf 233 = .ok (.iload 5, 2) := by decide +kernel
theorem dX7_costOf_235 : decode cX7_costOf 235 = .ok (.imul, 1) := by decide +kernel
theorem dX7_costOf_236 : decode cX7_costOf 236 = .ok (.iload 6, 2) := by decide +kernel
theorem dX7_costOf_238 : decode cX7_costOf 238 = .ok (.iadd, 1) := by decide +kernel
theorem dX7_costOf_239 : decode cX7_costOf 239 = .ok (.iload 7, 2) := by decide +kernel
theorem dX7_costOf_241 : decode cX7_costOf 241 = .ok (.iastore, 1) := by decide +kernel
theorem dX7_costOf_242 : decode cX7_costOf 242 = .ok (.iinc 6 1, 3) := by decide +kernel
theorem dX7_costOf_245 : decode cX7_costOf 245 = .ok (.goto (-205), 3) := by decide +kernel
theorem dX7_costOf_248 : decode cX7_costOf 248 = .ok (.iinc 5 1, 3) := by decide +kernel
theorem dX7_costOf_251 : decode cX7_costOf 251 = .ok (.goto (-220), 3) := by decide +kernel
theorem dX7_costOf_254 : decode cX7_costOf 254 = .ok (.aload_n 0, 1) := by decide +kernel
theorem dX7_costOf_255 : decode cX7_costOf 255 = .ok (.getfield 67, 3) := by decide +kernel
theorem dX7_costOf_258 : decode cX7_costOf 258 = .ok (.bipush 41, 2) := by decide +kernel
theorem dX7_costOf_260 : decode cX7_costOf 260 = .ok (.iload_n 3, 1) := by decide +kernel
theorem dX7_costOf_261 : decode cX7_costOf 261 = .ok (.imul, 1) := by decide +kernel
theorem dX7_costOf_262 : decode cX7_costOf 262 = .ok (.iload 4, 2) := by decide +kernel
theorem dX7_costOf_264 : decode cX7_costOf 264 = .ok (.iadd, 1) := by decide +kernel
theorem dX7_costOf_265 : decode cX7_costOf 265 = .ok (.iaload, 1) := by decide +kernel
theorem dX7_costOf_266 : decode cX7_costOf 266 = .ok (.ireturn, 1) := by decide +kernel
theorem dX7_wordsLike_0 : decode cX7_wordsLike 0 = .ok (.aload_n 0, 1) := by decide +kernel
theorem dX7_wordsLike_1 : decode cX7_wordsLike 1 = .ok (.iload_n 1, 1) := by decide +kernel
theorem dX7_wordsLike_2 : decode cX7_wordsLike 2 = .ok (.iload_n 2, 1) := by decide +kernel
theorem dX7_wordsLike_3 : decode cX7_wordsLike 3 = .ok (.invokevirtual 126, 3) := by decide +kernel
theorem dX7_wordsLike_6 : decode cX7_wordsLike 6 = .ok (.istore_n 3, 1) := by decide +kernel
theorem dX7_wordsLike_7 : decode cX7_wordsLike 7 = .ok (.aload_n 0, 1) := by decide +kernel
theorem dX7_wordsLike_8 : decode cX7_wordsLike 8 = .ok (.iload_n 1, 1) := by decide +kernel
theorem dX7_wordsLike_9 : decode cX7_wordsLike 9 = .ok (.aload_n 0, 1) := by decide +kernel
theorem dX7_wordsLike_10 : decode cX7_wordsLike 10 = .ok (.getfield 61, 3) := by decide +kernel
theorem dX7_wordsLike_13 : decode cX7_wordsLike 13 = .ok (.invokevirtual 121, 3) := by decide +kernel
theorem dX7_wordsLike_16 : decode cX7_wordsLike 16 = .ok (.istore 4, 2) := by decide +kernel
theorem dX7_wordsLike_18 : decode cX7_wordsLike 18 = .ok (.aload_n 0, 1) := by decide +kernel
theorem dX7_wordsLike_19 : decode cX7_wordsLike 19 = .ok (.iload_n 2, 1) := by decide +kernel
theorem dX7_wordsLike_20 : decode cX7_wordsLike 20 = .ok (.aload_n 0, 1) := by decide +kernel
theorem dX7_wordsLike_21 : decode cX7_wordsLike 21 = .ok (.getfield 64, 3) := by decide +kernel
theorem dX7_wordsLike_24 : decode cX7_wordsLike 24 = .ok (.invokevirtual 121, 3) := by decide +kernel
theorem dX7_wordsLike_27 : decode cX7_wordsLike 27 = .ok (.istore 5, 2) := by decide +kernel
theorem dX7_wordsLike_29 : decode cX7_wordsLike 29 = .ok (.iload 4, 2) := by decide +kernel
theorem dX7_wordsLike_31 : decode cX7_wordsLike 31 = .ok (.iload 5, 2) := by decide +kernel
theorem dX7_wordsLike_33 : decode cX7_wordsLike 33 = .ok (.if_icmp .le 8, 3) := by decide +kernel
theorem dX7_wordsLike_36 : decode cX7_wordsLike 36 = .ok (.iload 4, 2) := by decide +kernel
theorem dX7_wordsLike_38 : decode cX7_wordsLike 38 = .ok (.goto 5, 3) := by decide +kernel
theorem dX7_wordsLike_41 : decode cX7_wordsLike 41 = .ok (.iload 5, 2) := by decide +kernel
theorem dX7_wordsLike_43 : decode cX7_wordsLike 43 = .ok (.istore 6, 2) := by decide +kernel
theorem dX7_wordsLike_45 : decode cX7_wordsLike 45 = .ok (.iload 6, 2) := by decide +kernel
theorem dX7_wordsLike_47 : decode cX7_wordsLike 47 = .ok (.ifCond .ne 7, 3) := by decide +kernel
theorem dX7_wordsLike_50 : decode cX7_wordsLike 50 = .ok (.sipush 1000, 3) := by decide +kernel
theorem dX7_wordsLike_53 : decode cX7_wordsLike 53 = .ok (.ireturn, 1) := by decide +kernel
theorem dX7_wordsLike_54 : decode cX7_wordsLike 54 = .ok (.sipush 1000, 3) := by decide +kernel
theorem dX7_wordsLike_57 : decode cX7_wordsLike 57 = .ok (.bipush 100, 2) := by decide +kernel
theorem dX7_wordsLike_59 : decode cX7_wordsLike 59 = .ok (.iload_n 3, 1) := by decide +kernel
theorem dX7_wordsLike_60 : decode cX7_wordsLike 60 = .ok (.imul, 1) := by decide +kernel
theorem dX7_wordsLike_61 : decode cX7_wordsLike 61 = .ok (.iload 6, 2) := by decide +kernel
theorem dX7_wordsLike_63 : decode cX7_wordsLike 63 = .ok (.idiv, 1) := by decide +kernel
theorem dX7_wordsLike_64 : decode cX7_wordsLike 64 = .ok (.isub, 1) := by decide +kernel
theorem dX7_wordsLike_65 : decode cX7_wordsLike 65 = .ok (.istore 7, 2) := by decide +kernel
theorem dX7_wordsLike_67 : decode cX7_wordsLike 67 = .ok (.iload 7, 2) := by decide +kernel
theorem dX7_wordsLike_69 : decode cX7_wordsLike 69 = .ok (.ifCond .ge 7, 3) := by decide +kernel
theorem dX7_wordsLike_72 : decode cX7_wordsLike 72 = .ok (.iconst 0, 1) := by decide +kernel
theorem dX7_wordsLike_73 : decode cX7_wordsLike 73 = .ok (.goto 5, 3) := by decide +kernel
theorem dX7_wordsLike_76 : decode cX7_wordsLike 76 = .ok (.iload 7, 2) := by decide +kernel
theorem dX7_wordsLike_78 : decode cX7_wordsLike 78 = .ok (.ireturn, 1) := by decide +kernel
theorem dX7_codesLike_0 : decode cX7_codesLike 0 = .ok (.iconst 0, 1) := by decide +kernel
theorem dX7_codesLike_1 : decode cX7_codesLike 1 = .ok (.istore_n 3, 1) := by decide +kernel
theorem dX7_codesLike_2 : decode cX7_codesLike 2 = .ok (.bipush 12, 2) := by decide +kernel
theorem dX7_codesLike_4 : decode cX7_codesLike 4 = .ok (.iload_n 1, 1) := by decide +kernel
theorem dX7_codesLike_5 : decode cX7_codesLike 5 = .ok (.imul, 1) := by decide +kernel
theorem dX7_codesLike_6 : decode cX7_codesLike 6 = .ok (.istore 4, 2) := by decide +kernel
theorem dX7_codesLike_8 : decode cX7_codesLike 8 = .ok (.iload 4, 2) := by decide +kernel
theorem dX7_codesLike_10 : decode cX7_codesLike 10 = .ok (.bipush 12, 2) := by decide +kernel
theorem dX7_codesLike_12 : decode cX7_codesLike 12 = .ok (.iload_n 1, 1) := by decide +kernel
theorem dX7_codesLike_13 : decode cX7_codesLike 13 = .ok (.imul, 1) := by decide +kernel
theorem dX7_codesLike_14 : decode cX7_codesLike 14 = .ok (.aload_n 0, 1) := by decide +kernel
theorem dX7_codesLike_15 : decode cX7_codesLike 15 = .ok (.getfield 43, 3) := by decide +kernel
theorem dX7_codesLike_18 : decode cX7_codesLike 18 = .ok (.iload_n 1, 1) := by decide +kernel
theorem dX7_codesLike_19 : decode cX7_codesLike 19 = .ok (.iaload, 1) := by decide +kernel
theorem dX7_codesLike_20 : decode cX7_codesLike 20 = .ok (.iadd, 1) := by decide +kernel
theorem dX7_codesLike_21 : decode cX7_codesLike 21 = .ok (.if_icmp .ge 32, 3) := by decide +kernel
theorem dX7_codesLike_24 : decode cX7_codesLike 24 = .ok (.iload_n 3, 1) := by decide +kernel
theorem dX7_codesLike_25 : decode cX7_codesLike 25 = .ok (.aload_n 0, 1) := by decide +kernel
theorem dX7_codesLike_26 : decode cX7_codesLike 26 = .ok (.iload_n 2, 1) := by decide +kernel
theorem dX7_codesLike_27 : decode cX7_codesLike 27 = .ok (.aload_n 0, 1) := by decide +kernel
theorem dX7_codesLike_28 : decode cX7_codesLike 28 = .ok (.getfield 46, 3) := by decide +kernel
theorem dX7_codesLike_31 : decode cX7_codesLike 31 = .ok (.iload 4, 2) := by decide +kernel
theorem dX7_codesLike_33 : decode cX7_codesLike 33 = .ok (.iaload, 1) := by decide +kernel
theorem dX7_codesLike_34 : decode cX7_codesLike 34 = .ok (.invokevirtual 114, 3) := by decide +kernel
theorem dX7_codesLike_37 : decode cX7_codesLike 37 = .ok (.ifCond .eq 7, 3) := by decide +kernel
theorem dX7_codesLike_40 : decode cX7_codesLike 40 = .ok (.iconst 1, 1) := by decide +kernel
theorem dX7_codesLike_41 : decode cX7_codesLike 41 = .ok (.goto 4, 3) := by decide +kernel
theorem dX7_codesLike_44 : decode cX7_codesLike 44 = .ok (.iconst 0, 1) := by decide +kernel
theorem dX7_codesLike_45 : decode cX7_codesLike 45 = .ok (.iadd, 1) := by decide +kernel
theorem dX7_codesLike_46 : decode cX7_codesLike 46 = .ok (.istore_n 3, 1) := by decide +kernel
theorem dX7_codesLike_47 : decode cX7_codesLike 47 = .ok (.iinc 4 1, 3) := by decide +kernel
theorem dX7_codesLike_50 : decode cX7_codesLike 50 = .ok (.goto (-42), 3) := by decide +kernel
theorem dX7_codesLike_53 : decode cX7_codesLike 53 = .ok (.aload_n 0, 1) := by decide +kernel
theorem dX7_codesLike_54 : decode cX7_codesLike 54 = .ok (.getfield 43, 3) := by decide +kernel
theorem dX7_codesLike_57 : decode cX7_codesLike 57 = .ok (.iload_n 1, 1) := by decide +kernel
theorem dX7_codesLike_58 : decode cX7_codesLike 58 = .ok (.iaload, 1) := by decide +kernel
theorem dX7_codesLike_59 : decode cX7_codesLike 59 = .ok (.aload_n 0, 1) := by decide +kernel
theorem dX7_codesLike_60 : decode cX7_codesLike 60 = .ok (.getfield 43, 3) := by decide +kernel
theorem dX7_codesLike_63 : decode cX7_codesLike 63 = .ok (.iload_n 2, 1) := by decide +kernel
theorem dX7_codesLike_64 : decode cX7_codesLike 64 = .ok (.iaload, 1) := by decide +kernel
theorem dX7_codesLike_65 : decode cX7_codesLike 65 = .ok (.if_icmp .le 12, 3) := by decide +kernel
theorem dX7_codesLike_68 : decode cX7_codesLike 68 = .ok (.aload_n 0, 1) := by decide +kernel
theorem dX7_codesLike_69 : decode cX7_codesLike 69 = .ok (.getfield 43, 3) := by decide +kernel
theorem dX7_codesLike_72 : decode cX7_codesLike 72 = .ok (.iload_n 1, 1) := by decide +kernel
theorem dX7_codesLike_73 : decode cX7_codesLike 73 = .ok (.iaload, 1) := by decide +kernel
theorem dX7_codesLike_74 : decode cX7_codesLike 74 = .ok (.goto 9, 3) := by decide +kernel
theorem dX7_codesLike_77 : decode cX7_codesLike 77 = .ok (.aload_n 0, 1) := by decide +kernel
theorem dX7_codesLike_78 : decode cX7_codesLike 78 = .ok (.getfield 43, 3) := by decide +kernel
theorem dX7_codesLike_81 : decode cX7_codesLike 81 = .ok (.iload_n 2, 1) := by decide +kernel
theorem dX7_codesLike_82 : decode cX7_codesLike 82 = .ok (.iaload, 1) := by decide +kernel
theorem dX7_codesLike_83 : decode cX7_codesLike 83 = .ok (.istore 4, 2) := by decide +kernel
theorem dX7_codesLike_85 : decode cX7_codesLike 85 = .ok (.iload 4, 2) := by decide +kernel
theorem dX7_codesLike_87 : decode cX7_codesLike 87 = .ok (.ifCond .ne 7, 3) := by decide +kernel
theorem dX7_codesLike_90 : decode cX7_codesLike 90 = .ok (.iconst 0, 1) := by decide +kernel
theorem dX7_codesLike_91 : decode cX7_codesLike 91 = .ok (.goto 11, 3) := by decide +kernel
theorem dX7_codesLike_94 : decode cX7_codesLike 94 = .ok (.sipush 1000, 3) := by decide +kernel
theorem dX7_codesLike_97 : decode cX7_codesLike 97 = .ok (.iload_n 3, 1) := by decide +kernel
theorem dX7_codesLike_98 : decode cX7_codesLike 98 = .ok (.imul, 1) := by decide +kernel
theorem dX7_codesLike_99 : decode cX7_codesLike 99 = .ok (.iload 4, 2) := by decide +kernel
theorem dX7_codesLike_101 : decode cX7_codesLike 101 = .ok (.idiv, 1) := by decide +kernel
theorem dX7_codesLike_102 : decode cX7_codesLike 102 = .ok (.ireturn, 1) := by decide +kernel
theorem dX7_likeOf_0 : decode cX7_likeOf 0 = .ok (.aload_n 0, 1) := by decide +kernel
theorem dX7_likeOf_1 : decode cX7_likeOf 1 = .ok (.getfield 31, 3) := by decide +kernel
theorem dX7_likeOf_4 : decode cX7_likeOf 4 = .ok (.iload_n 1, 1) := by decide +kernel
theorem dX7_likeOf_5 : decode cX7_likeOf 5 = .ok (.iaload, 1) := by decide +kernel
theorem dX7_likeOf_6 : decode cX7_likeOf 6 = .ok (.iconst 1, 1) := by decide +kernel
theorem dX7_likeOf_7 : decode cX7_likeOf 7 = .ok (.if_icmp .ne 7, 3) := by decide +kernel
theorem dX7_likeOf_10 : decode cX7_likeOf 10 = .ok (.iconst 1, 1) := by decide +kernel
theorem dX7_likeOf_11 : decode cX7_likeOf 11 = .ok (.goto 4, 3) := by decide +kernel
theorem dX7_likeOf_14 : decode cX7_likeOf 14 = .ok (.iconst 0, 1) := by decide +kernel
theorem dX7_likeOf_15 : decode cX7_likeOf 15 = .ok (.istore_n 3, 1) := by decide +kernel
theorem dX7_likeOf_16 : decode cX7_likeOf 16 = .ok (.aload_n 0, 1) := by decide +kernel
theorem dX7_likeOf_17 : decode cX7_likeOf 17 = .ok (.getfield 31, 3) := by decide +kernel
theorem dX7_likeOf_20 : decode cX7_likeOf 20 = .ok (.iload_n 2, 1) := by decide +kernel
theorem dX7_likeOf_21 : decode cX7_likeOf 21 = .ok (.iaload, 1) := by decide +kernel
theorem dX7_likeOf_22 : decode cX7_likeOf 22 = .ok (.iconst 1, 1) := by decide +kernel
theorem dX7_likeOf_23 : decode cX7_likeOf 23 = .ok (.if_icmp .ne 7, 3) := by decide +kernel
theorem dX7_likeOf_26 : decode cX7_likeOf 26 = .ok (.iconst 1, 1) := by decide +kernel
theorem dX7_likeOf_27 : decode cX7_likeOf 27 = .ok (.goto 4, 3) := by decide +kernel
theorem dX7_likeOf_30 : decode cX7_likeOf 30 = .ok (.iconst 0, 1) := by decide +kernel
theorem dX7_likeOf_31 : decode cX7_likeOf 31 = .ok (.istore 4, 2) := by decide +kernel
theorem dX7_likeOf_33 : decode cX7_likeOf 33 = .ok (.iload_n 3, 1) := by decide +kernel
theorem dX7_likeOf_34 : decode cX7_likeOf 34 = .ok (.ifCond .ne 13, 3) := by decide +kernel
theorem dX7_likeOf_37 : decode cX7_likeOf 37 = .ok (.aload_n 0, 1) := by decide +kernel
theorem dX7_likeOf_38 : decode cX7_likeOf 38 = .ok (.getfield 31, 3) := by decide +kernel
theorem dX7_likeOf_41 : decode cX7_likeOf 41 = .ok (.iload_n 1, 1) := by decide +kernel
theorem dX7_likeOf_42 : decode cX7_likeOf 42 = .ok (.iaload, 1) := by decide +kernel
theorem dX7_likeOf_43 : decode cX7_likeOf 43 = .ok (.iconst 2, 1) := by decide +kernel
theorem dX7_likeOf_44 : decode cX7_likeOf 44 = .ok (.if_icmp .ne 7, 3) := by decide +kernel
theorem dX7_likeOf_47 : decode cX7_likeOf 47 = .ok (.iconst 1, 1) := by decide +kernel
theorem dX7_likeOf_48 : decode cX7_likeOf 48 = .ok (.goto 4, 3) := by decide +kernel
theorem dX7_likeOf_51 : decode cX7_likeOf 51 = .ok (.iconst 0, 1) := by decide +kernel
theorem dX7_likeOf_52 : decode cX7_likeOf 52 = .ok (.istore 5, 2) := by decide +kernel
theorem dX7_likeOf_54 : decode cX7_likeOf 54 = .ok (.iload 4, 2) := by decide +kernel
theorem dX7_likeOf_56 : decode cX7_likeOf 56 = .ok (.ifCond .ne 13, 3) := by decide +kernel
theorem dX7_likeOf_59 : decode cX7_likeOf 59 = .ok (.aload_n 0, 1) := by decide +kernel
theorem dX7_likeOf_60 : decode cX7_likeOf 60 = .ok (.getfield 31, 3) := by decide +kernel
theorem dX7_likeOf_63 : decode cX7_likeOf 63 = .ok (.iload_n 2, 1) := by decide +kernel
theorem dX7_likeOf_64 : decode cX7_likeOf 64 = .ok (.iaload, 1) := by decide +kernel
theorem dX7_likeOf_65 : decode cX7_likeOf 65 = .ok (.iconst 2, 1) := by decide +kernel
theorem dX7_likeOf_66 : decode cX7_likeOf 66 = .ok (.if_icmp .ne 7, 3) := by decide +kernel
theorem dX7_likeOf_69 : decode cX7_likeOf 69 = .ok (.iconst 1, 1) := by decide +kernel
theorem dX7_likeOf_70 : decode cX7_likeOf 70 = .ok (.goto 4, 3) := by decide +kernel
theorem dX7_likeOf_73 : decode cX7_likeOf 73 = .ok (.iconst 0, 1) := by decide +kernel
theorem dX7_likeOf_74 : decode cX7_likeOf 74 = .ok (.istore 6, 2) := by decide +kernel
theorem dX7_likeOf_76 : decode cX7_likeOf 76 = .ok (.iload_n 3, 1) := by decide +kernel
theorem dX7_likeOf_77 : decode cX7_likeOf 77 = .ok (.ifCond .ne 8, 3) := by decide +kernel
theorem dX7_likeOf_80 : decode cX7_likeOf 80 = .ok (.iload 4, 2) := by decide +kernel
theorem dX7_likeOf_82 : decode cX7_likeOf 82 = .ok (.ifCond .eq 24, 3) := by decide +kernel
theorem dX7_likeOf_85 : decode cX7_likeOf 85 = .ok (.iload 5, 2) := by decide +kernel
theorem dX7_likeOf_87 : decode cX7_likeOf 87 = .ok (.ifCond .eq 17, 3) := by decide +kernel
theorem dX7_likeOf_90 : decode cX7_likeOf 90 = .ok (.iload 6, 2) := by decide +kernel
theorem dX7_likeOf_92 : decode cX7_likeOf 92 = .ok (.ifCond .eq 12, 3) := by decide +kernel
theorem dX7_likeOf_95 : decode cX7_likeOf 95 = .ok (.aload_n 0, 1) := by decide +kernel
theorem dX7_likeOf_96 : decode cX7_likeOf 96 = .ok (.iload_n 1, 1) := by decide +kernel
theorem dX7_likeOf_97 : decode cX7_likeOf 97 = .ok (.iload_n 2, 1) := by decide +kernel
theorem dX7_likeOf_98 : decode cX7_likeOf 98 = .ok (.invokevirtual 129, 3) := by decide +kernel
theorem dX7_likeOf_101 : decode cX7_likeOf 101 = .ok (.goto 4, 3) := by decide +kernel
theorem dX7_likeOf_104 : decode cX7_likeOf 104 = .ok (.iconst 0, 1) := by decide +kernel
theorem dX7_likeOf_105 : decode cX7_likeOf 105 = .ok (.ireturn, 1) := by decide +kernel
theorem dX7_likeOf_106 : decode cX7_likeOf 106 = .ok (.aload_n 0, 1) := by decide +kernel
theorem dX7_likeOf_107 : decode cX7_likeOf 107 = .ok (.iload_n 1, 1) := by decide +kernel
theorem dX7_likeOf_108 : decode cX7_likeOf 108 = .ok (.iload_n 2, 1) := by decide +kernel
theorem dX7_likeOf_109 : decode cX7_likeOf 109 = .ok (.invokevirtual 132, 3) := by decide +kernel
theorem dX7_likeOf_112 : decode cX7_likeOf 112 = .ok (.istore 7, 2) := by decide +kernel
theorem dX7_likeOf_114 : decode cX7_likeOf 114 = .ok (.iload 5, 2) := by decide +kernel
theorem dX7_likeOf_116 : decode cX7_likeOf 116 = .ok (.ifCond .eq 17, 3) := by decide +kernel
theorem dX7_likeOf_119 : decode cX7_likeOf 119 = .ok (.iload 6, 2) := by decide +kernel
theorem dX7_likeOf_121 : decode cX7_likeOf 121 = .ok (.ifCond .eq 12, 3) := by decide +kernel
theorem dX7_likeOf_124 : decode cX7_likeOf 124 = .ok (.aload_n 0, 1) := by decide +kernel
theorem dX7_likeOf_125 : decode cX7_likeOf 125 = .ok (.iload_n 1, 1) := by decide +kernel
theorem dX7_likeOf_126 : decode cX7_likeOf 126 = .ok (.iload_n 2, 1) := by decide +kernel
theorem dX7_likeOf_127 : decode cX7_likeOf 127 = .ok (.invokevirtual 129, 3) := by decide +kernel
theorem dX7_likeOf_130 : decode cX7_likeOf 130 = .ok (.goto 4, 3) := by decide +kernel
theorem dX7_likeOf_133 : decode cX7_likeOf 133 = .ok (.iconst 0, 1) := by decide +kernel
theorem dX7_likeOf_134 : decode cX7_likeOf 134 = .ok (.istore 8, 2) := by decide +kernel
theorem dX7_likeOf_136 : decode cX7_likeOf 136 = .ok (.iload 8, 2) := by decide +kernel
theorem dX7_likeOf_138 : decode cX7_likeOf 138 = .ok (.iload 7, 2) := by decide +kernel
theorem dX7_likeOf_140 : decode cX7_likeOf 140 = .ok (.if_icmp .le 8, 3) := by decide +kernel
theorem dX7_likeOf_143 : decode cX7_likeOf 143 = .ok (.iload 8, 2) := by decide +kernel
theorem dX7_likeOf_145 : decode cX7_likeOf 145 = .ok (.goto 5, 3) := by decide +kernel
theorem dX7_likeOf_148 : decode cX7_likeOf 148 = .ok (.iload 7, 2) := by decide +kernel
theorem dX7_likeOf_150 : decode cX7_likeOf 150 = .ok (.ireturn, 1) := by decide +kernel
theorem dX7_isAlike_0 : decode cX7_isAlike 0 = .ok (.aload_n 0, 1) := by decide +kernel
theorem dX7_isAlike_1 : decode cX7_isAlike 1 = .ok (.iload_n 1, 1) := by decide +kernel
theorem dX7_isAlike_2 : decode cX7_isAlike 2 = .ok (.iload_n 2, 1) := by decide +kernel
theorem dX7_isAlike_3 : decode cX7_isAlike 3 = .ok (.invokevirtual 135, 3) := by decide +kernel
theorem dX7_isAlike_6 : decode cX7_isAlike 6 = .ok (.aload_n 0, 1) := by decide +kernel
theorem dX7_isAlike_7 : decode cX7_isAlike 7 = .ok (.getfield 76, 3) := by decide +kernel
theorem dX7_isAlike_10 : decode cX7_isAlike 10 = .ok (.if_icmp .lt 7, 3) := by decide +kernel
theorem dX7_isAlike_13 : decode cX7_isAlike 13 = .ok (.iconst 1, 1) := by decide +kernel
theorem dX7_isAlike_14 : decode cX7_isAlike 14 = .ok (.goto 4, 3) := by decide +kernel
theorem dX7_isAlike_17 : decode cX7_isAlike 17 = .ok (.iconst 0, 1) := by decide +kernel
theorem dX7_isAlike_18 : decode cX7_isAlike 18 = .ok (.ireturn, 1) := by decide +kernel
theorem dX7_latest_0 : decode cX7_latest 0 = .ok (.iconst (-1), 1) := by decide +kernel
theorem dX7_latest_1 : decode cX7_latest 1 = .ok (.istore 5, 2) := by decide +kernel
theorem dX7_latest_3 : decode cX7_latest 3 = .ok (.iconst 0, 1) := by decide +kernel
theorem dX7_latest_4 : decode cX7_latest 4 = .ok (.istore 6, 2) := by decide +kernel
theorem dX7_latest_6 : decode cX7_latest 6 = .ok (.iload 6, 2) := by decide +kernel
theorem dX7_latest_8 : decode cX7_latest 8 = .ok (.aload_n 0, 1) := by decide +kernel
theorem dX7_latest_9 : decode cX7_latest 9 = .ok (.getfield 105, 3) := by decide +kernel
theorem dX7_latest_12 : decode cX7_latest 12 = .ok (.if_icmp .ge 68, 3) := by decide +kernel
theorem dX7_latest_15 : decode cX7_latest 15 = .ok (.aload_n 0, 1) := by decide +kernel
theorem dX7_latest_16 : decode cX7_latest 16 = .ok (.getfield 49, 3) := by decide +kernel
theorem dX7_latest_19 : decode cX7_latest 19 = .ok (.iload 6, 2) := by decide +kernel
theorem dX7_latest_21 : decode cX7_latest 21 = .ok (.iaload, 1) := by decide +kernel
theorem dX7_latest_22 : decode cX7_latest 22 = .ok (.iload_n 1, 1) := by decide +kernel
theorem dX7_latest_23 : decode cX7_latest 23 = .ok (.if_icmp .ne 47, 3) := by decide +kernel
theorem dX7_latest_26 : decode cX7_latest 26 = .ok (.aload_n 0, 1) := by decide +kernel
theorem dX7_latest_27 : decode cX7_latest 27 = .ok (.getfield 52, 3) := by decide +kernel
theorem dX7_latest_30 : decode cX7_latest 30 = .ok (.iload 6, 2) := by decide +kernel
theorem dX7_latest_32 : decode cX7_latest 32 = .ok (.iaload, 1) := by decide +kernel
theorem dX7_latest_33 : decode cX7_latest 33 = .ok (.iload_n 2, 1) := by decide +kernel
theorem dX7_latest_34 : decode cX7_latest 34 = .ok (.if_icmp .ne 36, 3) := by decide +kernel
theorem dX7_latest_37 : decode cX7_latest 37 = .ok (.iload_n 3, 1) := by decide +kernel
theorem dX7_latest_38 : decode cX7_latest 38 = .ok (.iconst (-1), 1) := by decide +kernel
theorem dX7_latest_39 : decode cX7_latest 39 = .ok (.if_icmp .eq 14, 3) := by decide +kernel
theorem dX7_latest_42 : decode cX7_latest 42 = .ok (.aload_n 0, 1) := by decide +kernel
theorem dX7_latest_43 : decode cX7_latest 43 = .ok (.getfield 55, 3) := by decide +kernel
theorem dX7_latest_46 : decode cX7_latest 46 = .ok (.iload 6, 2) := by decide +kernel
theorem dX7_latest_48 : decode cX7_latest 48 = .ok (.iaload, 1) := by decide +kernel
theorem dX7_latest_49 : decode cX7_latest 49 = .ok (.iload_n 3, 1) := by decide +kernel
theorem dX7_latest_50 : decode cX7_latest 50 = .ok (.if_icmp .ne 20, 3) := by decide +kernel
theorem dX7_latest_53 : decode cX7_latest 53 = .ok (.aload_n 0, 1) := by decide +kernel
theorem dX7_latest_54 : decode cX7_latest 54 = .ok (.getfield 58, 3) := by decide +kernel
theorem dX7_latest_57 : decode cX7_latest 57 = .ok (.iload 6, 2) := by decide +kernel
theorem dX7_latest_59 : decode cX7_latest 59 = .ok (.iaload, 1) := by decide +kernel
theorem dX7_latest_60 : decode cX7_latest 60 = .ok (.iload 4, 2) := by decide +kernel
theorem dX7_latest_62 : decode cX7_latest 62 = .ok (.if_icmp .gt 8, 3) := by decide +kernel
theorem dX7_latest_65 : decode cX7_latest 65 = .ok (.iload 6, 2) := by decide +kernel
theorem dX7_latest_67 : decode cX7_latest 67 = .ok (.goto 5, 3) := by decide +kernel
theorem dX7_latest_70 : decode cX7_latest 70 = .ok (.iload 5, 2) := by decide +kernel
theorem dX7_latest_72 : decode cX7_latest 72 = .ok (.istore 5, 2) := by decide +kernel
theorem dX7_latest_74 : decode cX7_latest 74 = .ok (.iinc 6 1, 3) := by decide +kernel
theorem dX7_latest_77 : decode cX7_latest 77 = .ok (.goto (-71), 3) := by decide +kernel
theorem dX7_latest_80 : decode cX7_latest 80 = .ok (.iload 5, 2) := by decide +kernel
theorem dX7_latest_82 : decode cX7_latest 82 = .ok (.ireturn, 1) := by decide +kernel
theorem dX7_earliest_0 : decode cX7_earliest 0 = .ok (.iconst (-1), 1) := by decide +kernel
theorem dX7_earliest_1 : decode cX7_earliest 1 = .ok (.istore 5, 2) := by decide +kernel
theorem dX7_earliest_3 : decode cX7_earliest 3 = .ok (.aload_n 0, 1) := by decide +kernel
theorem dX7_earliest_4 : decode cX7_earliest 4 = .ok (.getfield 105, 3) := by decide +kernel
theorem dX7_earliest_7 : decode cX7_earliest 7 = .ok (.iconst 1, 1) := by decide +kernel
theorem dX7_earliest_8 : decode cX7_earliest 8 = .ok (.isub, 1) := by decide +kernel
theorem dX7_earliest_9 : decode cX7_earliest 9 = .ok (.istore 6, 2) := by decide +kernel
theorem dX7_earliest_11 : decode cX7_earliest 11 = .ok (.iload 6, 2) := by decide +kernel
theorem dX7_earliest_13 : decode cX7_earliest 13 = .ok (.ifCond .lt 68, 3) := by decide +kernel
theorem dX7_earliest_16 : decode cX7_earliest 16 = .ok (.aload_n 0, 1) := by decide +kernel
theorem dX7_earliest_17 : decode cX7_earliest 17 = .ok (.getfield 49, 3) := by decide +kernel
theorem dX7_earliest_20 : decode cX7_earliest 20 = .ok (.iload 6, 2) := by decide +kernel
theorem dX7_earliest_22 : decode cX7_earliest 22 = .ok (.iaload, 1) := by decide +kernel
theorem dX7_earliest_23 : decode cX7_earliest 23 = .ok (.iload_n 1, 1) := by decide +kernel
theorem dX7_earliest_24 : decode cX7_earliest 24 = .ok (.if_icmp .ne 47, 3) := by decide +kernel
theorem dX7_earliest_27 : decode cX7_earliest 27 = .ok (.aload_n 0, 1) := by decide +kernel
theorem dX7_earliest_28 : decode cX7_earliest 28 = .ok (.getfield 52, 3) := by decide +kernel
theorem dX7_earliest_31 : decode cX7_earliest 31 = .ok (.iload 6, 2) := by decide +kernel
theorem dX7_earliest_33 : decode cX7_earliest 33 = .ok (.iaload, 1) := by decide +kernel
theorem dX7_earliest_34 : decode cX7_earliest 34 = .ok (.iload_n 2, 1) := by decide +kernel
theorem dX7_earliest_35 : decode cX7_earliest 35 = .ok (.if_icmp .ne 36, 3) := by decide +kernel
theorem dX7_earliest_38 : decode cX7_earliest 38 = .ok (.iload_n 3, 1) := by decide +kernel
theorem dX7_earliest_39 : decode cX7_earliest 39 = .ok (.iconst (-1), 1) := by decide +kernel
theorem dX7_earliest_40 : decode cX7_earliest 40 = .ok (.if_icmp .eq 14, 3) := by decide +kernel
theorem dX7_earliest_43 : decode cX7_earliest 43 = .ok (.aload_n 0, 1) := by decide +kernel
theorem dX7_earliest_44 : decode cX7_earliest 44 = .ok (.getfield 55, 3) := by decide +kernel
theorem dX7_earliest_47 : decode cX7_earliest 47 = .ok (.iload 6, 2) := by decide +kernel
theorem dX7_earliest_49 : decode cX7_earliest 49 = .ok (.iaload, 1) := by decide +kernel
theorem dX7_earliest_50 : decode cX7_earliest 50 = .ok (.iload_n 3, 1) := by decide +kernel
theorem dX7_earliest_51 : decode cX7_earliest 51 = .ok (.if_icmp .ne 20, 3) := by decide +kernel
theorem dX7_earliest_54 : decode cX7_earliest 54 = .ok (.aload_n 0, 1) := by decide +kernel
theorem dX7_earliest_55 : decode cX7_earliest 55 = .ok (.getfield 58, 3) := by decide +kernel
theorem dX7_earliest_58 : decode cX7_earliest 58 = .ok (.iload 6, 2) := by decide +kernel
theorem dX7_earliest_60 : decode cX7_earliest 60 = .ok (.iaload, 1) := by decide +kernel
theorem dX7_earliest_61 : decode cX7_earliest 61 = .ok (.iload 4, 2) := by decide +kernel
theorem dX7_earliest_63 : decode cX7_earliest 63 = .ok (.if_icmp .gt 8, 3) := by decide +kernel
theorem dX7_earliest_66 : decode cX7_earliest 66 = .ok (.iload 6, 2) := by decide +kernel
theorem dX7_earliest_68 : decode cX7_earliest 68 = .ok (.goto 5, 3) := by decide +kernel
theorem dX7_earliest_71 : decode cX7_earliest 71 = .ok (.iload 5, 2) := by decide +kernel
theorem dX7_earliest_73 : decode cX7_earliest 73 = .ok (.istore 5, 2) := by decide +kernel
theorem dX7_earliest_75 : decode cX7_earliest 75 = .ok (.iinc 6 (-1), 3) := by decide +kernel
theorem dX7_earliest_78 : decode cX7_earliest 78 = .ok (.goto (-67), 3) := by decide +kernel
theorem dX7_earliest_81 : decode cX7_earliest 81 = .ok (.iload 5, 2) := by decide +kernel
theorem dX7_earliest_83 : decode cX7_earliest 83 = .ok (.ireturn, 1) := by decide +kernel
theorem dX7_countOf_0 : decode cX7_countOf 0 = .ok (.iconst 0, 1) := by decide +kernel
theorem dX7_countOf_1 : decode cX7_countOf 1 = .ok (.istore 4, 2) := by decide +kernel
theorem dX7_countOf_3 : decode cX7_countOf 3 = .ok (.iconst 0, 1) := by decide +kernel
theorem dX7_countOf_4 : decode cX7_countOf 4 = .ok (.istore 5, 2) := by decide +kernel
theorem dX7_countOf_6 : decode cX7_countOf 6 = .ok (.iload 5, 2) := by decide +kernel
theorem dX7_countOf_8 : decode cX7_countOf 8 = .ok (.aload_n 0, 1) := by decide +kernel
theorem dX7_countOf_9 : decode cX7_countOf 9 = .ok (.getfield 105, 3) := by decide +kernel
theorem dX7_countOf_12 : decode cX7_countOf 12 = .ok (.if_icmp .ge 52, 3) := by decide +kernel
theorem dX7_countOf_15 : decode cX7_countOf 15 = .ok (.iload 4, 2) := by decide +kernel
theorem dX7_countOf_17 : decode cX7_countOf 17 = .ok (.aload_n 0, 1) := by decide +kernel
theorem dX7_countOf_18 : decode cX7_countOf 18 = .ok (.getfield 49, 3) := by decide +kernel
theorem dX7_countOf_21 : decode cX7_countOf 21 = .ok (.iload 5, 2) := by decide +kernel
theorem dX7_countOf_23 : decode cX7_countOf 23 = .ok (.iaload, 1) := by decide +kernel
theorem dX7_countOf_24 : decode cX7_countOf 24 = .ok (.iload_n 1, 1) := by decide +kernel
theorem dX7_countOf_25 : decode cX7_countOf 25 = .ok (.if_icmp .ne 29, 3) := by decide +kernel
theorem dX7_countOf_28 : decode cX7_countOf 28 = .ok (.aload_n 0, 1) := by decide +kernel
theorem dX7_countOf_29 : decode cX7_countOf 29 = .ok (.getfield 52, 3) := by decide +kernel
theorem dX7_countOf_32 : decode cX7_countOf 32 = .ok (.iload 5, 2) := by decide +kernel
theorem dX7_countOf_34 : decode cX7_countOf 34 = .ok (.iaload, 1) := by decide +kernel
theorem dX7_countOf_35 : decode cX7_countOf 35 = .ok (.iload_n 2, 1) := by decide +kernel
theorem dX7_countOf_36 : decode cX7_countOf 36 = .ok (.if_icmp .ne 18, 3) := by decide +kernel
theorem dX7_countOf_39 : decode cX7_countOf 39 = .ok (.aload_n 0, 1) := by decide +kernel
theorem dX7_countOf_40 : decode cX7_countOf 40 = .ok (.getfield 58, 3) := by decide +kernel
theorem dX7_countOf_43 : decode cX7_countOf 43 = .ok (.iload 5, 2) := by decide +kernel
theorem dX7_countOf_45 : decode cX7_countOf 45 = .ok (.iaload, 1) := by decide +kernel
theorem dX7_countOf_46 : decode cX7_countOf 46 = .ok (.iload_n 3, 1) := by decide +kernel
theorem dX7_countOf_47 : decode cX7_countOf 47 = .ok (.if_icmp .gt 7, 3) := by decide +kernel
theorem dX7_countOf_50 : decode cX7_countOf 50 = .ok (.iconst 1, 1) := by decide +kernel
theorem dX7_countOf_51 : decode cX7_countOf 51 = .ok (.goto 4, 3) := by decide +kernel
theorem dX7_countOf_54 : decode cX7_countOf 54 = .ok (.iconst 0, 1) := by decide +kernel
theorem dX7_countOf_55 : decode cX7_countOf 55 = .ok (.iadd, 1) := by decide +kernel
theorem dX7_countOf_56 : decode cX7_countOf 56 = .ok (.istore 4, 2) := by decide +kernel
theorem dX7_countOf_58 : decode cX7_countOf 58 = .ok (.iinc 5 1, 3) := by decide +kernel
theorem dX7_countOf_61 : decode cX7_countOf 61 = .ok (.goto (-55), 3) := by decide +kernel
theorem dX7_countOf_64 : decode cX7_countOf 64 = .ok (.iload 4, 2) := by decide +kernel
theorem dX7_countOf_66 : decode cX7_countOf 66 = .ok (.ireturn, 1) := by decide +kernel
theorem dX7_since_0 : decode cX7_since 0 = .ok (.aload_n 0, 1) := by decide +kernel
theorem dX7_since_1 : decode cX7_since 1 = .ok (.iconst 0, 1) := by decide +kernel
theorem dX7_since_2 : decode cX7_since 2 = .ok (.iload_n 1, 1) := by decide +kernel
theorem dX7_since_3 : decode cX7_since 3 = .ok (.iload_n 2, 1) := by decide +kernel
theorem dX7_since_4 : decode cX7_since 4 = .ok (.iload_n 3, 1) := by decide +kernel
theorem dX7_since_5 : decode cX7_since 5 = .ok (.invokevirtual 138, 3) := by decide +kernel
theorem dX7_since_8 : decode cX7_since 8 = .ok (.istore 4, 2) := by decide +kernel
theorem dX7_since_10 : decode cX7_since 10 = .ok (.aload_n 0, 1) := by decide +kernel
theorem dX7_since_11 : decode cX7_since 11 = .ok (.iconst 3, 1) := by decide +kernel
theorem dX7_since_12 : decode cX7_since 12 = .ok (.iload_n 1, 1) := by decide +kernel
theorem dX7_since_13 : decode cX7_since 13 = .ok (.iload_n 2, 1) := by decide +kernel
theorem dX7_since_14 : decode cX7_since 14 = .ok (.iload_n 3, 1) := by decide +kernel
theorem dX7_since_15 : decode cX7_since 15 = .ok (.invokevirtual 138, 3) := by decide +kernel
theorem dX7_since_18 : decode cX7_since 18 = .ok (.istore 5, 2) := by decide +kernel
theorem dX7_since_20 : decode cX7_since 20 = .ok (.iload 4, 2) := by decide +kernel
theorem dX7_since_22 : decode cX7_since 22 = .ok (.ifCond .lt 21, 3) := by decide +kernel
theorem dX7_since_25 : decode cX7_since 25 = .ok (.iload 5, 2) := by decide +kernel
theorem dX7_since_27 : decode cX7_since 27 = .ok (.iload 4, 2) := by decide +kernel
theorem dX7_since_29 : decode cX7_since 29 = .ok (.if_icmp .le 16, 3) := by decide +kernel
theorem dX7_since_32 : decode cX7_since 32 = .ok (.aload_n 0, 1) := by decide +kernel
theorem dX7_since_33 : decode cX7_since 33 = .ok (.getfield 58, 3) := by decide +kernel
theorem dX7_since_36 : decode cX7_since 36 = .ok (.iload 5, 2) := by decide +kernel
theorem dX7_since_38 : decode cX7_since 38 = .ok (.iaload, 1) := by decide +kernel
theorem dX7_since_39 : decode cX7_since 39 = .ok (.iload_n 3, 1) := by decide +kernel
theorem dX7_since_40 : decode cX7_since 40 = .ok (.if_icmp .eq 5, 3) := by decide +kernel
theorem dX7_since_43 : decode cX7_since 43 = .ok (.iconst (-1), 1) := by decide +kernel
theorem dX7_since_44 : decode cX7_since 44 = .ok (.ireturn, 1) := by decide +kernel
theorem dX7_since_45 : decode cX7_since 45 = .ok (.aload_n 0, 1) := by decide +kernel
theorem dX7_since_46 : decode cX7_since 46 = .ok (.getfield 58, 3) := by decide +kernel
theorem dX7_since_49 : decode cX7_since 49 = .ok (.iload 4, 2) := by decide +kernel
theorem dX7_since_51 : decode cX7_since 51 = .ok (.iaload, 1) := by decide +kernel
theorem dX7_since_52 : decode cX7_since 52 = .ok (.ireturn, 1) := by decide +kernel
theorem dX7_firstOf_0 : decode cX7_firstOf 0 = .ok (.aload_n 0, 1) := by decide +kernel
theorem dX7_firstOf_1 : decode cX7_firstOf 1 = .ok (.iconst 1, 1) := by decide +kernel
theorem dX7_firstOf_2 : decode cX7_firstOf 2 = .ok (.iload_n 1, 1) := by decide +kernel
theorem dX7_firstOf_3 : decode cX7_firstOf 3 = .ok (.iconst (-1), 1) := by decide +kernel
theorem dX7_firstOf_4 : decode cX7_firstOf 4 = .ok (.iload_n 2, 1) := by decide +kernel
theorem dX7_firstOf_5 : decode cX7_firstOf 5 = .ok (.invokevirtual 142, 3) := by decide +kernel
theorem dX7_firstOf_8 : decode cX7_firstOf 8 = .ok (.istore_n 3, 1) := by decide +kernel
theorem dX7_firstOf_9 : decode cX7_firstOf 9 = .ok (.iload_n 3, 1) := by decide +kernel
theorem dX7_firstOf_10 : decode cX7_firstOf 10 = .ok (.ifCond .ge 7, 3) := by decide +kernel
theorem dX7_firstOf_13 : decode cX7_firstOf 13 = .ok (.iconst (-1), 1) := by decide +kernel
theorem dX7_firstOf_14 : decode cX7_firstOf 14 = .ok (.goto 9, 3) := by decide +kernel
theorem dX7_firstOf_17 : decode cX7_firstOf 17 = .ok (.aload_n 0, 1) := by decide +kernel
theorem dX7_firstOf_18 : decode cX7_firstOf 18 = .ok (.getfield 58, 3) := by decide +kernel
theorem dX7_firstOf_21 : decode cX7_firstOf 21 = .ok (.iload_n 3, 1) := by decide +kernel
theorem dX7_firstOf_22 : decode cX7_firstOf 22 = .ok (.iaload, 1) := by decide +kernel
theorem dX7_firstOf_23 : decode cX7_firstOf 23 = .ok (.ireturn, 1) := by decide +kernel
theorem dX7_termEnd_0 : decode cX7_termEnd 0 = .ok (.aload_n 0, 1) := by decide +kernel
theorem dX7_termEnd_1 : decode cX7_termEnd 1 = .ok (.iload_n 1, 1) := by decide +kernel
theorem dX7_termEnd_2 : decode cX7_termEnd 2 = .ok (.iload_n 2, 1) := by decide +kernel
theorem dX7_termEnd_3 : decode cX7_termEnd 3 = .ok (.invokevirtual 145, 3) := by decide +kernel
theorem dX7_termEnd_6 : decode cX7_termEnd 6 = .ok (.sipush 3650, 3) := by decide +kernel
theorem dX7_termEnd_9 : decode cX7_termEnd 9 = .ok (.iconst 1, 1) := by decide +kernel
theorem dX7_termEnd_10 : decode cX7_termEnd 10 = .ok (.aload_n 0, 1) := by decide +kernel
theorem dX7_termEnd_11 : decode cX7_termEnd 11 = .ok (.iconst 2, 1) := by decide +kernel
theorem dX7_termEnd_12 : decode cX7_termEnd 12 = .ok (.iload_n 1, 1) := by decide +kernel
theorem dX7_termEnd_13 : decode cX7_termEnd 13 = .ok (.iload_n 2, 1) := by decide +kernel
theorem dX7_termEnd_14 : decode cX7_termEnd 14 = .ok (.invokevirtual 148, 3) := by decide +kernel
theorem dX7_termEnd_17 : decode cX7_termEnd 17 = .ok (.iadd, 1) := by decide +kernel
theorem dX7_termEnd_18 : decode cX7_termEnd 18 = .ok (.imul, 1) := by decide +kernel
theorem dX7_termEnd_19 : decode cX7_termEnd 19 = .ok (.iadd, 1) := by decide +kernel
theorem dX7_termEnd_20 : decode cX7_termEnd 20 = .ok (.ireturn, 1) := by decide +kernel
theorem dX7_hasLapsed_0 : decode cX7_hasLapsed 0 = .ok (.iload_n 2, 1) := by decide +kernel
theorem dX7_hasLapsed_1 : decode cX7_hasLapsed 1 = .ok (.aload_n 0, 1) := by decide +kernel
theorem dX7_hasLapsed_2 : decode cX7_hasLapsed 2 = .ok (.iload_n 1, 1) := by decide +kernel
theorem dX7_hasLapsed_3 : decode cX7_hasLapsed 3 = .ok (.iload_n 2, 1) := by decide +kernel
theorem dX7_hasLapsed_4 : decode cX7_hasLapsed 4 = .ok (.invokevirtual 152, 3) := by decide +kernel
theorem dX7_hasLapsed_7 : decode cX7_hasLapsed 7 = .ok (.sipush 180, 3) := by decide +kernel
theorem dX7_hasLapsed_10 : decode cX7_hasLapsed 10 = .ok (.iadd, 1) := by decide +kernel
theorem dX7_hasLapsed_11 : decode cX7_hasLapsed 11 = .ok (.if_icmp .le 7, 3) := by decide +kernel
theorem dX7_hasLapsed_14 : decode cX7_hasLapsed 14 = .ok (.iconst 1, 1) := by decide +kernel
theorem dX7_hasLapsed_15 : decode cX7_hasLapsed 15 = .ok (.goto 4, 3) := by decide +kernel
theorem dX7_hasLapsed_18 : decode cX7_hasLapsed 18 = .ok (.iconst 0, 1) := by decide +kernel
theorem dX7_hasLapsed_19 : decode cX7_hasLapsed 19 = .ok (.ireturn, 1) := by decide +kernel
theorem dX7_isStruck_0 : decode cX7_isStruck 0 = .ok (.aload_n 0, 1) := by decide +kernel
theorem dX7_isStruck_1 : decode cX7_isStruck 1 = .ok (.iconst 4, 1) := by decide +kernel
theorem dX7_isStruck_2 : decode cX7_isStruck 2 = .ok (.iload_n 1, 1) := by decide +kernel
theorem dX7_isStruck_3 : decode cX7_isStruck 3 = .ok (.iconst (-1), 1) := by decide +kernel
theorem dX7_isStruck_4 : decode cX7_isStruck 4 = .ok (.iload_n 2, 1) := by decide +kernel
theorem dX7_isStruck_5 : decode cX7_isStruck 5 = .ok (.invokevirtual 138, 3) := by decide +kernel
theorem dX7_isStruck_8 : decode cX7_isStruck 8 = .ok (.ifCond .lt 7, 3) := by decide +kernel
theorem dX7_isStruck_11 : decode cX7_isStruck 11 = .ok (.iconst 1, 1) := by decide +kernel
theorem dX7_isStruck_12 : decode cX7_isStruck 12 = .ok (.goto 4, 3) := by decide +kernel
theorem dX7_isStruck_15 : decode cX7_isStruck 15 = .ok (.iconst 0, 1) := by decide +kernel
theorem dX7_isStruck_16 : decode cX7_isStruck 16 = .ok (.ireturn, 1) := by decide +kernel
theorem dX7_rightOf_0 : decode cX7_rightOf 0 = .ok (.aload_n 0, 1) := by decide +kernel
theorem dX7_rightOf_1 : decode cX7_rightOf 1 = .ok (.iload_n 1, 1) := by decide +kernel
theorem dX7_rightOf_2 : decode cX7_rightOf 2 = .ok (.iload_n 2, 1) := by decide +kernel
theorem dX7_rightOf_3 : decode cX7_rightOf 3 = .ok (.iload 4, 2) := by decide +kernel
theorem dX7_rightOf_5 : decode cX7_rightOf 5 = .ok (.invokevirtual 155, 3) := by decide +kernel
theorem dX7_rightOf_8 : decode cX7_rightOf 8 = .ok (.istore 5, 2) := by decide +kernel
theorem dX7_rightOf_10 : decode cX7_rightOf 10 = .ok (.aload_n 0, 1) := by decide +kernel
theorem dX7_rightOf_11 : decode cX7_rightOf 11 = .ok (.iconst 1, 1) := by decide +kernel
theorem dX7_rightOf_12 : decode cX7_rightOf 12 = .ok (.iload_n 1, 1) := by decide +kernel
theorem dX7_rightOf_13 : decode cX7_rightOf 13 = .ok (.iload_n 3, 1) := by decide +kernel
theorem dX7_rightOf_14 : decode cX7_rightOf 14 = .ok (.iload 4, 2) := by decide +kernel
theorem dX7_rightOf_16 : decode cX7_rightOf 16 = .ok (.invokevirtual 142, 3) := by decide +kernel
theorem dX7_rightOf_19 : decode cX7_rightOf 19 = .ok (.istore 6, 2) := by decide +kernel
theorem dX7_rightOf_21 : decode cX7_rightOf 21 = .ok (.iload 5, 2) := by decide +kernel
theorem dX7_rightOf_23 : decode cX7_rightOf 23 = .ok (.ifCond .lt 8, 3) := by decide +kernel
theorem dX7_rightOf_26 : decode cX7_rightOf 26 = .ok (.iload 6, 2) := by decide +kernel
theorem dX7_rightOf_28 : decode cX7_rightOf 28 = .ok (.ifCond .ge 5, 3) := by decide +kernel
theorem dX7_rightOf_31 : decode cX7_rightOf 31 = .ok (.iconst (-1), 1) := by decide +kernel
theorem dX7_rightOf_32 : decode cX7_rightOf 32 = .ok (.ireturn, 1) := by decide +kernel
theorem dX7_rightOf_33 : decode cX7_rightOf 33 = .ok (.aload_n 0, 1) := by decide +kernel
theorem dX7_rightOf_34 : decode cX7_rightOf 34 = .ok (.iload_n 1, 1) := by decide +kernel
theorem dX7_rightOf_35 : decode cX7_rightOf 35 = .ok (.iload 4, 2) := by decide +kernel
theorem dX7_rightOf_37 : decode cX7_rightOf 37 = .ok (.invokevirtual 145, 3) := by decide +kernel
theorem dX7_rightOf_40 : decode cX7_rightOf 40 = .ok (.istore 7, 2) := by decide +kernel
theorem dX7_rightOf_42 : decode cX7_rightOf 42 = .ok (.aload_n 0, 1) := by decide +kernel
theorem dX7_rightOf_43 : decode cX7_rightOf 43 = .ok (.getfield 58, 3) := by decide +kernel
theorem dX7_rightOf_46 : decode cX7_rightOf 46 = .ok (.iload 6, 2) := by decide +kernel
theorem dX7_rightOf_48 : decode cX7_rightOf 48 = .ok (.iaload, 1) := by decide +kernel
