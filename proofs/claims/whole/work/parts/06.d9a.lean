theorem dX9_init_0 : decode cX9_init 0 = .ok (.aload_n 0, 1) := by decide +kernel
theorem dX9_init_1 : decode cX9_init 1 = .ok (.invokespecial 1, 3) := by decide +kernel
theorem dX9_init_4 : decode cX9_init 4 = .ok (.aload_n 0, 1) := by decide +kernel
theorem dX9_init_5 : decode cX9_init 5 = .ok (.iconst 4, 1) := by decide +kernel
theorem dX9_init_6 : decode cX9_init 6 = .ok (.newarray .int, 2) := by decide +kernel
theorem dX9_init_8 : decode cX9_init 8 = .ok (.putfield 7, 3) := by decide +kernel
theorem dX9_init_11 : decode cX9_init 11 = .ok (.aload_n 0, 1) := by decide +kernel
theorem dX9_init_12 : decode cX9_init 12 = .ok (.bipush 24, 2) := by decide +kernel
theorem dX9_init_14 : decode cX9_init 14 = .ok (.newarray .int, 2) := by decide +kernel
theorem dX9_init_16 : decode cX9_init 16 = .ok (.putfield 13, 3) := by decide +kernel
theorem dX9_init_19 : decode cX9_init 19 = .ok (.aload_n 0, 1) := by decide +kernel
theorem dX9_init_20 : decode cX9_init 20 = .ok (.bipush 24, 2) := by decide +kernel
theorem dX9_init_22 : decode cX9_init 22 = .ok (.newarray .int, 2) := by decide +kernel
theorem dX9_init_24 : decode cX9_init 24 = .ok (.putfield 16, 3) := by decide +kernel
theorem dX9_init_27 : decode cX9_init 27 = .ok (.aload_n 0, 1) := by decide +kernel
theorem dX9_init_28 : decode cX9_init 28 = .ok (.bipush 24, 2) := by decide +kernel
theorem dX9_init_30 : decode cX9_init 30 = .ok (.newarray .int, 2) := by decide +kernel
theorem dX9_init_32 : decode cX9_init 32 = .ok (.putfield 19, 3) := by decide +kernel
theorem dX9_init_35 : decode cX9_init 35 = .ok (.aload_n 0, 1) := by decide +kernel
theorem dX9_init_36 : decode cX9_init 36 = .ok (.bipush 24, 2) := by decide +kernel
theorem dX9_init_38 : decode cX9_init 38 = .ok (.newarray .int, 2) := by decide +kernel
theorem dX9_init_40 : decode cX9_init 40 = .ok (.putfield 22, 3) := by decide +kernel
theorem dX9_init_43 : decode cX9_init 43 = .ok (.aload_n 0, 1) := by decide +kernel
theorem dX9_init_44 : decode cX9_init 44 = .ok (.bipush 24, 2) := by decide +kernel
theorem dX9_init_46 : decode cX9_init 46 = .ok (.newarray .int, 2) := by decide +kernel
theorem dX9_init_48 : decode cX9_init 48 = .ok (.putfield 25, 3) := by decide +kernel
theorem dX9_init_51 : decode cX9_init 51 = .ok (.aload_n 0, 1) := by decide +kernel
theorem dX9_init_52 : decode cX9_init 52 = .ok (.bipush 24, 2) := by decide +kernel
theorem dX9_init_54 : decode cX9_init 54 = .ok (.newarray .int, 2) := by decide +kernel
theorem dX9_init_56 : decode cX9_init 56 = .ok (.putfield 28, 3) := by decide +kernel
theorem dX9_init_59 : decode cX9_init 59 = .ok (.aload_n 0, 1) := by decide +kernel
theorem dX9_init_60 : decode cX9_init 60 = .ok (.sipush 600, 3) := by decide +kernel
theorem dX9_init_63 : decode cX9_init 63 = .ok (.newarray .int, 2) := by decide +kernel
theorem dX9_init_65 : decode cX9_init 65 = .ok (.putfield 31, 3) := by decide +kernel
theorem dX9_init_68 : decode cX9_init 68 = .ok (.aload_n 0, 1) := by decide +kernel
theorem dX9_init_69 : decode cX9_init 69 = .ok (.sipush 300, 3) := by decide +kernel
theorem dX9_init_72 : decode cX9_init 72 = .ok (.newarray .int, 2) := by decide +kernel
theorem dX9_init_74 : decode cX9_init 74 = .ok (.putfield 34, 3) := by decide +kernel
theorem dX9_init_77 : decode cX9_init 77 = .ok (.aload_n 0, 1) := by decide +kernel
theorem dX9_init_78 : decode cX9_init 78 = .ok (.sipush 300, 3) := by decide +kernel
theorem dX9_init_81 : decode cX9_init 81 = .ok (.newarray .int, 2) := by decide +kernel
theorem dX9_init_83 : decode cX9_init 83 = .ok (.putfield 37, 3) := by decide +kernel
theorem dX9_init_86 : decode cX9_init 86 = .ok (.aload_n 0, 1) := by decide +kernel
theorem dX9_init_87 : decode cX9_init 87 = .ok (.bipush 6, 2) := by decide +kernel
theorem dX9_init_89 : decode cX9_init 89 = .ok (.newarray .int, 2) := by decide +kernel
theorem dX9_init_91 : decode cX9_init 91 = .ok (.putfield 40, 3) := by decide +kernel
theorem dX9_init_94 : decode cX9_init 94 = .ok (.aload_n 0, 1) := by decide +kernel
theorem dX9_init_95 : decode cX9_init 95 = .ok (.bipush 6, 2) := by decide +kernel
theorem dX9_init_97 : decode cX9_init 97 = .ok (.newarray .int, 2) := by decide +kernel
theorem dX9_init_99 : decode cX9_init 99 = .ok (.putfield 43, 3) := by decide +kernel
theorem dX9_init_102 : decode cX9_init 102 = .ok (.aload_n 0, 1) := by decide +kernel
theorem dX9_init_103 : decode cX9_init 103 = .ok (.bipush 42, 2) := by decide +kernel
theorem dX9_init_105 : decode cX9_init 105 = .ok (.newarray .boolean, 2) := by decide +kernel
theorem dX9_init_107 : decode cX9_init 107 = .ok (.putfield 46, 3) := by decide +kernel
theorem dX9_init_110 : decode cX9_init 110 = .ok (.aload_n 0, 1) := by decide +kernel
theorem dX9_init_111 : decode cX9_init 111 = .ok (.bipush 42, 2) := by decide +kernel
theorem dX9_init_113 : decode cX9_init 113 = .ok (.newarray .int, 2) := by decide +kernel
theorem dX9_init_115 : decode cX9_init 115 = .ok (.putfield 50, 3) := by decide +kernel
theorem dX9_init_118 : decode cX9_init 118 = .ok (.aload_n 0, 1) := by decide +kernel
theorem dX9_init_119 : decode cX9_init 119 = .ok (.bipush 42, 2) := by decide +kernel
theorem dX9_init_121 : decode cX9_init 121 = .ok (.newarray .int, 2) := by decide +kernel
theorem dX9_init_123 : decode cX9_init 123 = .ok (.putfield 53, 3) := by decide +kernel
theorem dX9_init_126 : decode cX9_init 126 = .ok (.aload_n 0, 1) := by decide +kernel
theorem dX9_init_127 : decode cX9_init 127 = .ok (.bipush 42, 2) := by decide +kernel
theorem dX9_init_129 : decode cX9_init 129 = .ok (.newarray .int, 2) := by decide +kernel
theorem dX9_init_131 : decode cX9_init 131 = .ok (.putfield 56, 3) := by decide +kernel
theorem dX9_init_134 : decode cX9_init 134 = .ok (.aload_n 0, 1) := by decide +kernel
theorem dX9_init_135 : decode cX9_init 135 = .ok (.bipush 42, 2) := by decide +kernel
theorem dX9_init_137 : decode cX9_init 137 = .ok (.newarray .int, 2) := by decide +kernel
theorem dX9_init_139 : decode cX9_init 139 = .ok (.putfield 59, 3) := by decide +kernel
theorem dX9_init_142 : decode cX9_init 142 = .ok (.aload_n 0, 1) := by decide +kernel
theorem dX9_init_143 : decode cX9_init 143 = .ok (.sipush 4200, 3) := by decide +kernel
theorem dX9_init_146 : decode cX9_init 146 = .ok (.newarray .int, 2) := by decide +kernel
theorem dX9_init_148 : decode cX9_init 148 = .ok (.putfield 62, 3) := by decide +kernel
theorem dX9_init_151 : decode cX9_init 151 = .ok (.aload_n 0, 1) := by decide +kernel
theorem dX9_init_152 : decode cX9_init 152 = .ok (.sipush 4200, 3) := by decide +kernel
theorem dX9_init_155 : decode cX9_init 155 = .ok (.newarray .int, 2) := by decide +kernel
theorem dX9_init_157 : decode cX9_init 157 = .ok (.putfield 65, 3) := by decide +kernel
theorem dX9_init_160 : decode cX9_init 160 = .ok (.aload_n 0, 1) := by decide +kernel
theorem dX9_init_161 : decode cX9_init 161 = .ok (.bipush 120, 2) := by decide +kernel
theorem dX9_init_163 : decode cX9_init 163 = .ok (.newarray .long, 2) := by decide +kernel
theorem dX9_init_165 : decode cX9_init 165 = .ok (.putfield 68, 3) := by decide +kernel
theorem dX9_init_168 : decode cX9_init 168 = .ok (.aload_n 0, 1) := by decide +kernel
theorem dX9_init_169 : decode cX9_init 169 = .ok (.bipush 8, 2) := by decide +kernel
theorem dX9_init_171 : decode cX9_init 171 = .ok (.newarray .int, 2) := by decide +kernel
theorem dX9_init_173 : decode cX9_init 173 = .ok (.putfield 72, 3) := by decide +kernel
theorem dX9_init_176 : decode cX9_init 176 = .ok (.aload_n 0, 1) := by decide +kernel
theorem dX9_init_177 : decode cX9_init 177 = .ok (.bipush 8, 2) := by decide +kernel
theorem dX9_init_179 : decode cX9_init 179 = .ok (.newarray .int, 2) := by decide +kernel
theorem dX9_init_181 : decode cX9_init 181 = .ok (.putfield 75, 3) := by decide +kernel
theorem dX9_init_184 : decode cX9_init 184 = .ok (.aload_n 0, 1) := by decide +kernel
theorem dX9_init_185 : decode cX9_init 185 = .ok (.bipush 8, 2) := by decide +kernel
theorem dX9_init_187 : decode cX9_init 187 = .ok (.newarray .int, 2) := by decide +kernel
theorem dX9_init_189 : decode cX9_init 189 = .ok (.putfield 78, 3) := by decide +kernel
theorem dX9_init_192 : decode cX9_init 192 = .ok (.aload_n 0, 1) := by decide +kernel
theorem dX9_init_193 : decode cX9_init 193 = .ok (.bipush 8, 2) := by decide +kernel
theorem dX9_init_195 : decode cX9_init 195 = .ok (.newarray .int, 2) := by decide +kernel
theorem dX9_init_197 : decode cX9_init 197 = .ok (.putfield 81, 3) := by decide +kernel
theorem dX9_init_200 : decode cX9_init 200 = .ok (.aload_n 0, 1) := by decide +kernel
theorem dX9_init_201 : decode cX9_init 201 = .ok (.sipush 480, 3) := by decide +kernel
theorem dX9_init_204 : decode cX9_init 204 = .ok (.newarray .long, 2) := by decide +kernel
theorem dX9_init_206 : decode cX9_init 206 = .ok (.putfield 84, 3) := by decide +kernel
theorem dX9_init_209 : decode cX9_init 209 = .ok (.aload_n 0, 1) := by decide +kernel
theorem dX9_init_210 : decode cX9_init 210 = .ok (.bipush 24, 2) := by decide +kernel
theorem dX9_init_212 : decode cX9_init 212 = .ok (.newarray .int, 2) := by decide +kernel
theorem dX9_init_214 : decode cX9_init 214 = .ok (.putfield 87, 3) := by decide +kernel
theorem dX9_init_217 : decode cX9_init 217 = .ok (.aload_n 0, 1) := by decide +kernel
theorem dX9_init_218 : decode cX9_init 218 = .ok (.bipush 24, 2) := by decide +kernel
theorem dX9_init_220 : decode cX9_init 220 = .ok (.newarray .long, 2) := by decide +kernel
theorem dX9_init_222 : decode cX9_init 222 = .ok (.putfield 90, 3) := by decide +kernel
theorem dX9_init_225 : decode cX9_init 225 = .ok (.aload_n 0, 1) := by decide +kernel
theorem dX9_init_226 : decode cX9_init 226 = .ok (.bipush 24, 2) := by decide +kernel
theorem dX9_init_228 : decode cX9_init 228 = .ok (.newarray .int, 2) := by decide +kernel
theorem dX9_init_230 : decode cX9_init 230 = .ok (.putfield 93, 3) := by decide +kernel
theorem dX9_init_233 : decode cX9_init 233 = .ok (.aload_n 0, 1) := by decide +kernel
theorem dX9_init_234 : decode cX9_init 234 = .ok (.bipush 24, 2) := by decide +kernel
theorem dX9_init_236 : decode cX9_init 236 = .ok (.newarray .int, 2) := by decide +kernel
theorem dX9_init_238 : decode cX9_init 238 = .ok (.putfield 96, 3) := by decide +kernel
theorem dX9_init_241 : decode cX9_init 241 = .ok (.aload_n 0, 1) := by decide +kernel
theorem dX9_init_242 : decode cX9_init 242 = .ok (.bipush 24, 2) := by decide +kernel
theorem dX9_init_244 : decode cX9_init 244 = .ok (.newarray .int, 2) := by decide +kernel
theorem dX9_init_246 : decode cX9_init 246 = .ok (.putfield 99, 3) := by decide +kernel
theorem dX9_init_249 : decode cX9_init 249 = .ok (.aload_n 0, 1) := by decide +kernel
theorem dX9_init_250 : decode cX9_init 250 = .ok (.bipush 24, 2) := by decide +kernel
theorem dX9_init_252 : decode cX9_init 252 = .ok (.newarray .long, 2) := by decide +kernel
theorem dX9_init_254 : decode cX9_init 254 = .ok (.putfield 102, 3) := by decide +kernel
theorem dX9_init_257 : decode cX9_init 257 = .ok (.aload_n 0, 1) := by decide +kernel
theorem dX9_init_258 : decode cX9_init 258 = .ok (.bipush 24, 2) := by decide +kernel
theorem dX9_init_260 : decode cX9_init 260 = .ok (.newarray .int, 2) := by decide +kernel
theorem dX9_init_262 : decode cX9_init 262 = .ok (.putfield 105, 3) := by decide +kernel
theorem dX9_init_265 : decode cX9_init 265 = .ok (.aload_n 0, 1) := by decide +kernel
theorem dX9_init_266 : decode cX9_init 266 = .ok (.bipush 24, 2) := by decide +kernel
theorem dX9_init_268 : decode cX9_init 268 = .ok (.newarray .int, 2) := by decide +kernel
theorem dX9_init_270 : decode cX9_init 270 = .ok (.putfield 108, 3) := by decide +kernel
theorem dX9_init_273 : decode cX9_init 273 = .ok (.aload_n 0, 1) := by decide +kernel
theorem dX9_init_274 : decode cX9_init 274 = .ok (.sipush 900, 3) := by decide +kernel
theorem dX9_init_277 : decode cX9_init 277 = .ok (.newarray .byte, 2) := by decide +kernel
theorem dX9_init_279 : decode cX9_init 279 = .ok (.putfield 111, 3) := by decide +kernel
theorem dX9_init_282 : decode cX9_init 282 = .ok (.iconst 0, 1) := by decide +kernel
theorem dX9_init_283 : decode cX9_init 283 = .ok (.istore_n 1, 1) := by decide +kernel
theorem dX9_init_284 : decode cX9_init 284 = .ok (.iload_n 1, 1) := by decide +kernel
theorem dX9_init_285 : decode cX9_init 285 = .ok (.bipush 24, 2) := by decide +kernel
theorem dX9_init_287 : decode cX9_init 287 = .ok (.if_icmp .ge 16, 3) := by decide +kernel
theorem dX9_init_290 : decode cX9_init 290 = .ok (.aload_n 0, 1) := by decide +kernel
theorem dX9_init_291 : decode cX9_init 291 = .ok (.getfield 13, 3) := by decide +kernel
theorem dX9_init_294 : decode cX9_init 294 = .ok (.iload_n 1, 1) := by decide +kernel
theorem dX9_init_295 : decode cX9_init 295 = .ok (.iconst 1, 1) := by decide +kernel
theorem dX9_init_296 : decode cX9_init 296 = .ok (.iastore, 1) := by decide +kernel
theorem dX9_init_297 : decode cX9_init 297 = .ok (.iinc 1 1, 3) := by decide +kernel
theorem dX9_init_300 : decode cX9_init 300 = .ok (.goto (-16), 3) := by decide +kernel
theorem dX9_init_303 : decode cX9_init 303 = .ok (.iconst 0, 1) := by decide +kernel
theorem dX9_init_304 : decode cX9_init 304 = .ok (.istore_n 1, 1) := by decide +kernel
theorem dX9_init_305 : decode cX9_init 305 = .ok (.iload_n 1, 1) := by decide +kernel
theorem dX9_init_306 : decode cX9_init 306 = .ok (.bipush 120, 2) := by decide +kernel
theorem dX9_init_308 : decode cX9_init 308 = .ok (.if_icmp .ge 18, 3) := by decide +kernel
theorem dX9_init_311 : decode cX9_init 311 = .ok (.aload_n 0, 1) := by decide +kernel
theorem dX9_init_312 : decode cX9_init 312 = .ok (.getfield 68, 3) := by decide +kernel
theorem dX9_init_315 : decode cX9_init 315 = .ok (.iload_n 1, 1) := by decide +kernel
theorem dX9_init_316 : decode cX9_init 316 = .ok (.ldc2_w 115, 3) := by decide +kernel
theorem dX9_init_319 : decode cX9_init 319 = .ok (.lastore, 1) := by decide +kernel
theorem dX9_init_320 : decode cX9_init 320 = .ok (.iinc 1 1, 3) := by decide +kernel
theorem dX9_init_323 : decode cX9_init 323 = .ok (.goto (-18), 3) := by decide +kernel
theorem dX9_init_326 : decode cX9_init 326 = .ok (.return_, 1) := by decide +kernel
theorem dX9_isDay_0 : decode cX9_isDay 0 = .ok (.lload_n 0, 1) := by decide +kernel
theorem dX9_isDay_1 : decode cX9_isDay 1 = .ok (.lconst 0, 1) := by decide +kernel
theorem dX9_isDay_2 : decode cX9_isDay 2 = .ok (.lcmp, 1) := by decide +kernel
theorem dX9_isDay_3 : decode cX9_isDay 3 = .ok (.ifCond .lt 15, 3) := by decide +kernel
theorem dX9_isDay_6 : decode cX9_isDay 6 = .ok (.lload_n 0, 1) := by decide +kernel
theorem dX9_isDay_7 : decode cX9_isDay 7 = .ok (.ldc2_w 117, 3) := by decide +kernel
theorem dX9_isDay_10 : decode cX9_isDay 10 = .ok (.lcmp, 1) := by decide +kernel
theorem dX9_isDay_11 : decode cX9_isDay 11 = .ok (.ifCond .ge 7, 3) := by decide +kernel
theorem dX9_isDay_14 : decode cX9_isDay 14 = .ok (.iconst 1, 1) := by decide +kernel
theorem dX9_isDay_15 : decode cX9_isDay 15 = .ok (.goto 4, 3) := by decide +kernel
theorem dX9_isDay_18 : decode cX9_isDay 18 = .ok (.iconst 0, 1) := by decide +kernel
theorem dX9_isDay_19 : decode cX9_isDay 19 = .ok (.ireturn, 1) := by decide +kernel
theorem dX9_isHouse_0 : decode cX9_isHouse 0 = .ok (.iload_n 1, 1) := by decide +kernel
theorem dX9_isHouse_1 : decode cX9_isHouse 1 = .ok (.ifCond .lt 15, 3) := by decide +kernel
theorem dX9_isHouse_4 : decode cX9_isHouse 4 = .ok (.iload_n 1, 1) := by decide +kernel
theorem dX9_isHouse_5 : decode cX9_isHouse 5 = .ok (.aload_n 0, 1) := by decide +kernel
theorem dX9_isHouse_6 : decode cX9_isHouse 6 = .ok (.getfield 119, 3) := by decide +kernel
theorem dX9_isHouse_9 : decode cX9_isHouse 9 = .ok (.if_icmp .ge 7, 3) := by decide +kernel
theorem dX9_isHouse_12 : decode cX9_isHouse 12 = .ok (.iconst 1, 1) := by decide +kernel
theorem dX9_isHouse_13 : decode cX9_isHouse 13 = .ok (.goto 4, 3) := by decide +kernel
theorem dX9_isHouse_16 : decode cX9_isHouse 16 = .ok (.iconst 0, 1) := by decide +kernel
theorem dX9_isHouse_17 : decode cX9_isHouse 17 = .ok (.ireturn, 1) := by decide +kernel
theorem dX9_isKind_0 : decode cX9_isKind 0 = .ok (.iload_n 0, 1) := by decide +kernel
theorem dX9_isKind_1 : decode cX9_isKind 1 = .ok (.ifCond .lt 13, 3) := by decide +kernel
theorem dX9_isKind_4 : decode cX9_isKind 4 = .ok (.iload_n 0, 1) := by decide +kernel
theorem dX9_isKind_5 : decode cX9_isKind 5 = .ok (.bipush 6, 2) := by decide +kernel
theorem dX9_isKind_7 : decode cX9_isKind 7 = .ok (.if_icmp .ge 7, 3) := by decide +kernel
theorem dX9_isKind_10 : decode cX9_isKind 10 = .ok (.iconst 1, 1) := by decide +kernel
theorem dX9_isKind_11 : decode cX9_isKind 11 = .ok (.goto 4, 3) := by decide +kernel
theorem dX9_isKind_14 : decode cX9_isKind 14 = .ok (.iconst 0, 1) := by decide +kernel
theorem dX9_isKind_15 : decode cX9_isKind 15 = .ok (.ireturn, 1) := by decide +kernel
theorem dX9_isMonth_0 : decode cX9_isMonth 0 = .ok (.iload_n 0, 1) := by decide +kernel
theorem dX9_isMonth_1 : decode cX9_isMonth 1 = .ok (.ifCond .lt 13, 3) := by decide +kernel
theorem dX9_isMonth_4 : decode cX9_isMonth 4 = .ok (.iload_n 0, 1) := by decide +kernel
theorem dX9_isMonth_5 : decode cX9_isMonth 5 = .ok (.bipush 120, 2) := by decide +kernel
theorem dX9_isMonth_7 : decode cX9_isMonth 7 = .ok (.if_icmp .ge 7, 3) := by decide +kernel
theorem dX9_isMonth_10 : decode cX9_isMonth 10 = .ok (.iconst 1, 1) := by decide +kernel
theorem dX9_isMonth_11 : decode cX9_isMonth 11 = .ok (.goto 4, 3) := by decide +kernel
theorem dX9_isMonth_14 : decode cX9_isMonth 14 = .ok (.iconst 0, 1) := by decide +kernel
theorem dX9_isMonth_15 : decode cX9_isMonth 15 = .ok (.ireturn, 1) := by decide +kernel
theorem dX9_house_0 : decode cX9_house 0 = .ok (.aload_n 0, 1) := by decide +kernel
theorem dX9_house_1 : decode cX9_house 1 = .ok (.getfield 119, 3) := by decide +kernel
theorem dX9_house_4 : decode cX9_house 4 = .ok (.iconst 4, 1) := by decide +kernel
theorem dX9_house_5 : decode cX9_house 5 = .ok (.if_icmp .eq 14, 3) := by decide +kernel
theorem dX9_house_8 : decode cX9_house 8 = .ok (.iload_n 1, 1) := by decide +kernel
theorem dX9_house_9 : decode cX9_house 9 = .ok (.iconst 1, 1) := by decide +kernel
theorem dX9_house_10 : decode cX9_house 10 = .ok (.if_icmp .lt 9, 3) := by decide +kernel
theorem dX9_house_13 : decode cX9_house 13 = .ok (.iload_n 1, 1) := by decide +kernel
theorem dX9_house_14 : decode cX9_house 14 = .ok (.bipush 6, 2) := by decide +kernel
theorem dX9_house_16 : decode cX9_house 16 = .ok (.if_icmp .le 5, 3) := by decide +kernel
theorem dX9_house_19 : decode cX9_house 19 = .ok (.iconst (-1), 1) := by decide +kernel
theorem dX9_house_20 : decode cX9_house 20 = .ok (.ireturn, 1) := by decide +kernel
theorem dX9_house_21 : decode cX9_house 21 = .ok (.aload_n 0, 1) := by decide +kernel
theorem dX9_house_22 : decode cX9_house 22 = .ok (.getfield 7, 3) := by decide +kernel
theorem dX9_house_25 : decode cX9_house 25 = .ok (.aload_n 0, 1) := by decide +kernel
theorem dX9_house_26 : decode cX9_house 26 = .ok (.getfield 119, 3) := by decide +kernel
theorem dX9_house_29 : decode cX9_house 29 = .ok (.iload_n 1, 1) := by decide +kernel
theorem dX9_house_30 : decode cX9_house 30 = .ok (.iastore, 1) := by decide +kernel
theorem dX9_house_31 : decode cX9_house 31 = .ok (.aload_n 0, 1) := by decide +kernel
theorem dX9_house_32 : decode cX9_house 32 = .ok (.dup, 1) := by decide +kernel
theorem dX9_house_33 : decode cX9_house 33 = .ok (.getfield 119, 3) := by decide +kernel
theorem dX9_house_36 : decode cX9_house 36 = .ok (.iconst 1, 1) := by decide +kernel
theorem dX9_house_37 : decode cX9_house 37 = .ok (.iadd, 1) := by decide +kernel
theorem dX9_house_38 : decode cX9_house 38 = .ok (.putfield 119, 3) := by decide +kernel
theorem dX9_house_41 : decode cX9_house 41 = .ok (.aload_n 0, 1) := by decide +kernel
theorem dX9_house_42 : decode cX9_house 42 = .ok (.getfield 119, 3) := by decide +kernel
theorem dX9_house_45 : decode cX9_house 45 = .ok (.iconst 1, 1) := by decide +kernel
theorem dX9_house_46 : decode cX9_house 46 = .ok (.isub, 1) := by decide +kernel
theorem dX9_house_47 : decode cX9_house 47 = .ok (.ireturn, 1) := by decide +kernel
set_option maxRecDepth 20000 in
theorem ggX9_fact_X9_isHouse : GoodIn wsX9_fact wsX9_isHouse := goodIn_r _ [12, 13, 21, 22, 23, 24, 25, 26, 27, 28, 29, 30, 31, 32, 33, 34, 35, 36, 37, 38, 39, 40, 41, 42, 43, 44, 45, 46, 47, 48, 49, 50, 51, 52, 53, 54, 55, 56, 57, 58, 59, 60, 61, 62, 63] (by decide +kernel) (by decide +kernel)
set_option maxRecDepth 20000 in
theorem gX9_fact_X9_isHouse : GoodIn wsX9_fact (wsV RX9 126 RX9 yX9_isHouse wsX9_isHouse) := goodIn_app (goodIn_of _ (by decide +kernel)) ggX9_fact_X9_isHouse
set_option maxRecDepth 20000 in
theorem ggX9_fact_X9_isKind : GoodIn wsX9_fact wsX9_isKind := goodIn_r _ [16] (by decide +kernel) (by decide +kernel)
set_option maxRecDepth 20000 in
theorem gX9_fact_X9_isKind : GoodIn wsX9_fact (va_wsS RX9 130 yX9_isKind wsX9_isKind) := goodIn_app (goodIn_of _ (by decide +kernel)) ggX9_fact_X9_isKind
set_option maxRecDepth 20000 in
theorem ggX9_fact_X9_isDay : GoodIn wsX9_fact wsX9_isDay := goodIn_r _ [19, 20] (by decide +kernel) (by decide +kernel)
set_option maxRecDepth 20000 in
theorem gX9_fact_X9_isDay : GoodIn wsX9_fact (va_wsS RX9 133 yX9_isDay wsX9_isDay) := goodIn_app (goodIn_of _ (by decide +kernel)) ggX9_fact_X9_isDay
theorem dX9_fact_0 : decode cX9_fact 0 = .ok (.aload_n 0, 1) := by decide +kernel
theorem dX9_fact_1 : decode cX9_fact 1 = .ok (.getfield 123, 3) := by decide +kernel
theorem dX9_fact_4 : decode cX9_fact 4 = .ok (.bipush 24, 2) := by decide +kernel
theorem dX9_fact_6 : decode cX9_fact 6 = .ok (.if_icmp .eq 49, 3) := by decide +kernel
theorem dX9_fact_9 : decode cX9_fact 9 = .ok (.aload_n 0, 1) := by decide +kernel
theorem dX9_fact_10 : decode cX9_fact 10 = .ok (.iload_n 1, 1) := by decide +kernel
theorem dX9_fact_11 : decode cX9_fact 11 = .ok (.invokevirtual 126, 3) := by decide +kernel
theorem dX9_fact_14 : decode cX9_fact 14 = .ok (.ifCond .eq 41, 3) := by decide +kernel
theorem dX9_fact_17 : decode cX9_fact 17 = .ok (.iload_n 2, 1) := by decide +kernel
theorem dX9_fact_18 : decode cX9_fact 18 = .ok (.invokestatic 130, 3) := by decide +kernel
theorem dX9_fact_21 : decode cX9_fact 21 = .ok (.ifCond .eq 34, 3) := by decide +kernel
theorem dX9_fact_24 : decode cX9_fact 24 = .ok (.lload_n 3, 1) := by decide +kernel
theorem dX9_fact_25 : decode cX9_fact 25 = .ok (.invokestatic 133, 3) := by decide +kernel
theorem dX9_fact_28 : decode cX9_fact 28 = .ok (.ifCond .eq 27, 3) := by decide +kernel
theorem dX9_fact_31 : decode cX9_fact 31 = .ok (.lload 5, 2) := by decide +kernel
theorem dX9_fact_33 : decode cX9_fact 33 = .ok (.lconst 0, 1) := by decide +kernel
theorem dX9_fact_34 : decode cX9_fact 34 = .ok (.lcmp, 1) := by decide +kernel
theorem dX9_fact_35 : decode cX9_fact 35 = .ok (.ifCond .lt 20, 3) := by decide +kernel
theorem dX9_fact_38 : decode cX9_fact 38 = .ok (.lload 5, 2) := by decide +kernel
theorem dX9_fact_40 : decode cX9_fact 40 = .ok (.ldc2_w 137, 3) := by decide +kernel
theorem dX9_fact_43 : decode cX9_fact 43 = .ok (.lcmp, 1) := by decide +kernel
theorem dX9_fact_44 : decode cX9_fact 44 = .ok (.ifCond .gt 11, 3) := by decide +kernel
theorem dX9_fact_47 : decode cX9_fact 47 = .ok (.lload 7, 2) := by decide +kernel
theorem dX9_fact_49 : decode cX9_fact 49 = .ok (.invokestatic 133, 3) := by decide +kernel
theorem dX9_fact_52 : decode cX9_fact 52 = .ok (.ifCond .ne 5, 3) := by decide +kernel
theorem dX9_fact_55 : decode cX9_fact 55 = .ok (.iconst (-1), 1) := by decide +kernel
theorem dX9_fact_56 : decode cX9_fact 56 = .ok (.ireturn, 1) := by decide +kernel
theorem dX9_fact_57 : decode cX9_fact 57 = .ok (.aload_n 0, 1) := by decide +kernel
theorem dX9_fact_58 : decode cX9_fact 58 = .ok (.getfield 16, 3) := by decide +kernel
theorem dX9_fact_61 : decode cX9_fact 61 = .ok (.aload_n 0, 1) := by decide +kernel
theorem dX9_fact_62 : decode cX9_fact 62 = .ok (.getfield 123, 3) := by decide +kernel
theorem dX9_fact_65 : decode cX9_fact 65 = .ok (.iload_n 1, 1) := by decide +kernel
theorem dX9_fact_66 : decode cX9_fact 66 = .ok (.iastore, 1) := by decide +kernel
theorem dX9_fact_67 : decode cX9_fact 67 = .ok (.aload_n 0, 1) := by decide +kernel
theorem dX9_fact_68 : decode cX9_fact 68 = .ok (.getfield 19, 3) := by decide +kernel
theorem dX9_fact_71 : decode cX9_fact 71 = .ok (.aload_n 0, 1) := by decide +kernel
theorem dX9_fact_72 : decode cX9_fact 72 = .ok (.getfield 123, 3) := by decide +kernel
theorem dX9_fact_75 : decode cX9_fact 75 = .ok (.iload_n 2, 1) := by decide +kernel
theorem dX9_fact_76 : decode cX9_fact 76 = .ok (.iastore, 1) := by decide +kernel
theorem dX9_fact_77 : decode cX9_fact 77 = .ok (.aload_n 0, 1) := by decide +kernel
theorem dX9_fact_78 : decode cX9_fact 78 = .ok (.getfield 22, 3) := by decide +kernel
theorem dX9_fact_81 : decode cX9_fact 81 = .ok (.aload_n 0, 1) := by decide +kernel
theorem dX9_fact_82 : decode cX9_fact 82 = .ok (.getfield 123, 3) := by decide +kernel
theorem dX9_fact_85 : decode cX9_fact 85 = .ok (.lload_n 3, 1) := by decide +kernel
theorem dX9_fact_86 : decode cX9_fact 86 = .ok (.l2i, 1) := by decide +kernel
theorem dX9_fact_87 : decode cX9_fact 87 = .ok (.iastore, 1) := by decide +kernel
theorem dX9_fact_88 : decode cX9_fact 88 = .ok (.aload_n 0, 1) := by decide +kernel
theorem dX9_fact_89 : decode cX9_fact 89 = .ok (.getfield 25, 3) := by decide +kernel
theorem dX9_fact_92 : decode cX9_fact 92 = .ok (.aload_n 0, 1) := by decide +kernel
theorem dX9_fact_93 : decode cX9_fact 93 = .ok (.getfield 123, 3) := by decide +kernel
theorem dX9_fact_96 : decode cX9_fact 96 = .ok (.lload 5, 2) := by decide +kernel
theorem dX9_fact_98 : decode cX9_fact 98 = .ok (.l2i, 1) := by decide +kernel
theorem dX9_fact_99 : decode cX9_fact 99 = .ok (.iastore, 1) := by decide +kernel
theorem dX9_fact_100 : decode cX9_fact 100 = .ok (.aload_n 0, 1) := by decide +kernel
theorem dX9_fact_101 : decode cX9_fact 101 = .ok (.getfield 28, 3) := by decide +kernel
theorem dX9_fact_104 : decode cX9_fact 104 = .ok (.aload_n 0, 1) := by decide +kernel
theorem dX9_fact_105 : decode cX9_fact 105 = .ok (.getfield 123, 3) := by decide +kernel
theorem dX9_fact_108 : decode cX9_fact 108 = .ok (.lload 7, 2) := by decide +kernel
theorem dX9_fact_110 : decode cX9_fact 110 = .ok (.l2i, 1) := by decide +kernel
theorem dX9_fact_111 : decode cX9_fact 111 = .ok (.iastore, 1) := by decide +kernel
theorem dX9_fact_112 : decode cX9_fact 112 = .ok (.aload_n 0, 1) := by decide +kernel
theorem dX9_fact_113 : decode cX9_fact 113 = .ok (.dup, 1) := by decide +kernel
theorem dX9_fact_114 : decode cX9_fact 114 = .ok (.getfield 123, 3) := by decide +kernel
theorem dX9_fact_117 : decode cX9_fact 117 = .ok (.iconst 1, 1) := by decide +kernel
theorem dX9_fact_118 : decode cX9_fact 118 = .ok (.iadd, 1) := by decide +kernel
theorem dX9_fact_119 : decode cX9_fact 119 = .ok (.putfield 123, 3) := by decide +kernel
theorem dX9_fact_122 : decode cX9_fact 122 = .ok (.aload_n 0, 1) := by decide +kernel
theorem dX9_fact_123 : decode cX9_fact 123 = .ok (.getfield 123, 3) := by decide +kernel
theorem dX9_fact_126 : decode cX9_fact 126 = .ok (.iconst 1, 1) := by decide +kernel
theorem dX9_fact_127 : decode cX9_fact 127 = .ok (.isub, 1) := by decide +kernel
theorem dX9_fact_128 : decode cX9_fact 128 = .ok (.ireturn, 1) := by decide +kernel
theorem dX9_unit_0 : decode cX9_unit 0 = .ok (.iload_n 1, 1) := by decide +kernel
theorem dX9_unit_1 : decode cX9_unit 1 = .ok (.ifCond .lt 20, 3) := by decide +kernel
theorem dX9_unit_4 : decode cX9_unit 4 = .ok (.iload_n 1, 1) := by decide +kernel
theorem dX9_unit_5 : decode cX9_unit 5 = .ok (.sipush 255, 3) := by decide +kernel
theorem dX9_unit_8 : decode cX9_unit 8 = .ok (.if_icmp .gt 13, 3) := by decide +kernel
theorem dX9_unit_11 : decode cX9_unit 11 = .ok (.aload_n 0, 1) := by decide +kernel
theorem dX9_unit_12 : decode cX9_unit 12 = .ok (.getfield 139, 3) := by decide +kernel
theorem dX9_unit_15 : decode cX9_unit 15 = .ok (.sipush 600, 3) := by decide +kernel
theorem dX9_unit_18 : decode cX9_unit 18 = .ok (.if_icmp .ne 5, 3) := by decide +kernel
theorem dX9_unit_21 : decode cX9_unit 21 = .ok (.iconst 0, 1) := by decide +kernel
theorem dX9_unit_22 : decode cX9_unit 22 = .ok (.ireturn, 1) := by decide +kernel
theorem dX9_unit_23 : decode cX9_unit 23 = .ok (.aload_n 0, 1) := by decide +kernel
theorem dX9_unit_24 : decode cX9_unit 24 = .ok (.getfield 31, 3) := by decide +kernel
theorem dX9_unit_27 : decode cX9_unit 27 = .ok (.aload_n 0, 1) := by decide +kernel
theorem dX9_unit_28 : decode cX9_unit 28 = .ok (.getfield 139, 3) := by decide +kernel
theorem dX9_unit_31 : decode cX9_unit 31 = .ok (.iload_n 1, 1) := by decide +kernel
theorem dX9_unit_32 : decode cX9_unit 32 = .ok (.iastore, 1) := by decide +kernel
theorem dX9_unit_33 : decode cX9_unit 33 = .ok (.aload_n 0, 1) := by decide +kernel
theorem dX9_unit_34 : decode cX9_unit 34 = .ok (.dup, 1) := by decide +kernel
theorem dX9_unit_35 : decode cX9_unit 35 = .ok (.getfield 139, 3) := by decide +kernel
theorem dX9_unit_38 : decode cX9_unit 38 = .ok (.iconst 1, 1) := by decide +kernel
theorem dX9_unit_39 : decode cX9_unit 39 = .ok (.iadd, 1) := by decide +kernel
theorem dX9_unit_40 : decode cX9_unit 40 = .ok (.putfield 139, 3) := by decide +kernel
theorem dX9_unit_43 : decode cX9_unit 43 = .ok (.iconst 1, 1) := by decide +kernel
theorem dX9_unit_44 : decode cX9_unit 44 = .ok (.ireturn, 1) := by decide +kernel
theorem dX9_findWords_0 : decode cX9_findWords 0 = .ok (.aload_n 0, 1) := by decide +kernel
theorem dX9_findWords_1 : decode cX9_findWords 1 = .ok (.iconst 0, 1) := by decide +kernel
theorem dX9_findWords_2 : decode cX9_findWords 2 = .ok (.putfield 142, 3) := by decide +kernel
theorem dX9_findWords_5 : decode cX9_findWords 5 = .ok (.iconst 0, 1) := by decide +kernel
theorem dX9_findWords_6 : decode cX9_findWords 6 = .ok (.istore_n 1, 1) := by decide +kernel
theorem dX9_findWords_7 : decode cX9_findWords 7 = .ok (.iconst 0, 1) := by decide +kernel
theorem dX9_findWords_8 : decode cX9_findWords 8 = .ok (.istore_n 2, 1) := by decide +kernel
theorem dX9_findWords_9 : decode cX9_findWords 9 = .ok (.iload_n 2, 1) := by decide +kernel
theorem dX9_findWords_10 : decode cX9_findWords 10 = .ok (.aload_n 0, 1) := by decide +kernel
theorem dX9_findWords_11 : decode cX9_findWords 11 = .ok (.getfield 139, 3) := by decide +kernel
theorem dX9_findWords_14 : decode cX9_findWords 14 = .ok (.if_icmp .ge 93, 3) := by decide +kernel
theorem dX9_findWords_17 : decode cX9_findWords 17 = .ok (.aload_n 0, 1) := by decide +kernel
theorem dX9_findWords_18 : decode cX9_findWords 18 = .ok (.getfield 31, 3) := by decide +kernel
theorem dX9_findWords_21 : decode cX9_findWords 21 = .ok (.iload_n 2, 1) := by decide +kernel
theorem dX9_findWords_22 : decode cX9_findWords 22 = .ok (.iaload, 1) := by decide +kernel
theorem dX9_findWords_23 : decode cX9_findWords 23 = .ok (.bipush 32, 2) := by decide +kernel
theorem dX9_findWords_25 : decode cX9_findWords 25 = .ok (.if_icmp .eq 14, 3) := by decide +kernel
theorem dX9_findWords_28 : decode cX9_findWords 28 = .ok (.aload_n 0, 1) := by decide +kernel
theorem dX9_findWords_29 : decode cX9_findWords 29 = .ok (.getfield 31, 3) := by decide +kernel
theorem dX9_findWords_32 : decode cX9_findWords 32 = .ok (.iload_n 2, 1) := by decide +kernel
theorem dX9_findWords_33 : decode cX9_findWords 33 = .ok (.iaload, 1) := by decide +kernel
theorem dX9_findWords_34 : decode cX9_findWords 34 = .ok (.bipush 10, 2) := by decide +kernel
theorem dX9_findWords_36 : decode cX9_findWords 36 = .ok (.if_icmp .ne 7, 3) := by decide +kernel
theorem dX9_findWords_39 : decode cX9_findWords 39 = .ok (.iconst 1, 1) := by decide +kernel
theorem dX9_findWords_40 : decode cX9_findWords 40 = .ok (.goto 4, 3) := by decide +kernel
theorem dX9_findWords_43 : decode cX9_findWords 43 = .ok (.iconst 0, 1) := by decide +kernel
theorem dX9_findWords_44 : decode cX9_findWords 44 = .ok (.istore_n 3, 1) := by decide +kernel
theorem dX9_findWords_45 : decode cX9_findWords 45 = .ok (.iload_n 3, 1) := by decide +kernel
theorem dX9_findWords_46 : decode cX9_findWords 46 = .ok (.ifCond .ne 27, 3) := by decide +kernel
theorem dX9_findWords_49 : decode cX9_findWords 49 = .ok (.iload_n 1, 1) := by decide +kernel
theorem dX9_findWords_50 : decode cX9_findWords 50 = .ok (.ifCond .ne 23, 3) := by decide +kernel
theorem dX9_findWords_53 : decode cX9_findWords 53 = .ok (.aload_n 0, 1) := by decide +kernel
theorem dX9_findWords_54 : decode cX9_findWords 54 = .ok (.getfield 34, 3) := by decide +kernel
theorem dX9_findWords_57 : decode cX9_findWords 57 = .ok (.aload_n 0, 1) := by decide +kernel
theorem dX9_findWords_58 : decode cX9_findWords 58 = .ok (.getfield 142, 3) := by decide +kernel
theorem dX9_findWords_61 : decode cX9_findWords 61 = .ok (.iload_n 2, 1) := by decide +kernel
theorem dX9_findWords_62 : decode cX9_findWords 62 = .ok (.iastore, 1) := by decide +kernel
theorem dX9_findWords_63 : decode cX9_findWords 63 = .ok (.aload_n 0, 1) := by decide +kernel
theorem dX9_findWords_64 : decode cX9_findWords 64 = .ok (.dup, 1) := by decide +kernel
theorem dX9_findWords_65 : decode cX9_findWords 65 = .ok (.getfield 142, 3) := by decide +kernel
theorem dX9_findWords_68 : decode cX9_findWords 68 = .ok (.iconst 1, 1) := by decide +kernel
theorem dX9_findWords_69 : decode cX9_findWords 69 = .ok (.iadd, 1) := by decide +kernel
theorem dX9_findWords_70 : decode cX9_findWords 70 = .ok (.putfield 142, 3) := by decide +kernel
theorem dX9_findWords_73 : decode cX9_findWords 73 = .ok (.iload_n 3, 1) := by decide +kernel
theorem dX9_findWords_74 : decode cX9_findWords 74 = .ok (.ifCond .ne 17, 3) := by decide +kernel
theorem dX9_findWords_77 : decode cX9_findWords 77 = .ok (.aload_n 0, 1) := by decide +kernel
theorem dX9_findWords_78 : decode cX9_findWords 78 = .ok (.getfield 37, 3) := by decide +kernel
theorem dX9_findWords_81 : decode cX9_findWords 81 = .ok (.aload_n 0, 1) := by decide +kernel
theorem dX9_findWords_82 : decode cX9_findWords 82 = .ok (.getfield 142, 3) := by decide +kernel
theorem dX9_findWords_85 : decode cX9_findWords 85 = .ok (.iconst 1, 1) := by decide +kernel
theorem dX9_findWords_86 : decode cX9_findWords 86 = .ok (.isub, 1) := by decide +kernel
theorem dX9_findWords_87 : decode cX9_findWords 87 = .ok (.iload_n 2, 1) := by decide +kernel
theorem dX9_findWords_88 : decode cX9_findWords 88 = .ok (.iconst 1, 1) := by decide +kernel
theorem dX9_findWords_89 : decode cX9_findWords 89 = .ok (.iadd, 1) := by decide +kernel
theorem dX9_findWords_90 : decode cX9_findWords 90 = .ok (.iastore, 1) := by decide +kernel
theorem dX9_findWords_91 : decode cX9_findWords 91 = .ok (.iload_n 3, 1) := by decide +kernel
theorem dX9_findWords_92 : decode cX9_findWords 92 = .ok (.ifCond .ne 7, 3) := by decide +kernel
theorem dX9_findWords_95 : decode cX9_findWords 95 = .ok (.iconst 1, 1) := by decide +kernel
theorem dX9_findWords_96 : decode cX9_findWords 96 = .ok (.goto 4, 3) := by decide +kernel
theorem dX9_findWords_99 : decode cX9_findWords 99 = .ok (.iconst 0, 1) := by decide +kernel
theorem dX9_findWords_100 : decode cX9_findWords 100 = .ok (.istore_n 1, 1) := by decide +kernel
theorem dX9_findWords_101 : decode cX9_findWords 101 = .ok (.iinc 2 1, 3) := by decide +kernel
theorem dX9_findWords_104 : decode cX9_findWords 104 = .ok (.goto (-95), 3) := by decide +kernel
theorem dX9_findWords_107 : decode cX9_findWords 107 = .ok (.return_, 1) := by decide +kernel
theorem dX9_is_0 : decode cX9_is 0 = .ok (.iload_n 1, 1) := by decide +kernel
theorem dX9_is_1 : decode cX9_is 1 = .ok (.aload_n 0, 1) := by decide +kernel
theorem dX9_is_2 : decode cX9_is 2 = .ok (.getfield 142, 3) := by decide +kernel
theorem dX9_is_5 : decode cX9_is 5 = .ok (.if_icmp .lt 5, 3) := by decide +kernel
theorem dX9_is_8 : decode cX9_is 8 = .ok (.iconst 0, 1) := by decide +kernel
theorem dX9_is_9 : decode cX9_is 9 = .ok (.ireturn, 1) := by decide +kernel
theorem dX9_is_10 : decode cX9_is 10 = .ok (.iload 6, 2) := by decide +kernel
theorem dX9_is_12 : decode cX9_is 12 = .ok (.ifCond .le 7, 3) := by decide +kernel
theorem dX9_is_15 : decode cX9_is 15 = .ok (.iconst 5, 1) := by decide +kernel
theorem dX9_is_16 : decode cX9_is 16 = .ok (.goto 13, 3) := by decide +kernel
theorem dX9_is_19 : decode cX9_is 19 = .ok (.iload 5, 2) := by decide +kernel
theorem dX9_is_21 : decode cX9_is 21 = .ok (.ifCond .le 7, 3) := by decide +kernel
theorem dX9_is_24 : decode cX9_is 24 = .ok (.iconst 4, 1) := by decide +kernel
theorem dX9_is_25 : decode cX9_is 25 = .ok (.goto 4, 3) := by decide +kernel
theorem dX9_is_28 : decode cX9_is 28 = .ok (.iconst 3, 1) := by decide +kernel
theorem dX9_is_29 : decode cX9_is 29 = .ok (.istore 7, 2) := by decide +kernel
theorem dX9_is_31 : decode cX9_is 31 = .ok (.aload_n 0, 1) := by decide +kernel
theorem dX9_is_32 : decode cX9_is 32 = .ok (.getfield 34, 3) := by decide +kernel
theorem dX9_is_35 : decode cX9_is 35 = .ok (.iload_n 1, 1) := by decide +kernel
theorem dX9_is_36 : decode cX9_is 36 = .ok (.iaload, 1) := by decide +kernel
theorem dX9_is_37 : decode cX9_is 37 = .ok (.istore 8, 2) := by decide +kernel
theorem dX9_is_39 : decode cX9_is 39 = .ok (.aload_n 0, 1) := by decide +kernel
theorem dX9_is_40 : decode cX9_is 40 = .ok (.getfield 37, 3) := by decide +kernel
theorem dX9_is_43 : decode cX9_is 43 = .ok (.iload_n 1, 1) := by decide +kernel
theorem dX9_is_44 : decode cX9_is 44 = .ok (.iaload, 1) := by decide +kernel
theorem dX9_is_45 : decode cX9_is 45 = .ok (.iload 8, 2) := by decide +kernel
theorem dX9_is_47 : decode cX9_is 47 = .ok (.isub, 1) := by decide +kernel
theorem dX9_is_48 : decode cX9_is 48 = .ok (.iload 7, 2) := by decide +kernel
theorem dX9_is_50 : decode cX9_is 50 = .ok (.if_icmp .eq 5, 3) := by decide +kernel
theorem dX9_is_53 : decode cX9_is 53 = .ok (.iconst 0, 1) := by decide +kernel
theorem dX9_is_54 : decode cX9_is 54 = .ok (.ireturn, 1) := by decide +kernel
theorem dX9_is_55 : decode cX9_is 55 = .ok (.aload_n 0, 1) := by decide +kernel
theorem dX9_is_56 : decode cX9_is 56 = .ok (.getfield 31, 3) := by decide +kernel
theorem dX9_is_59 : decode cX9_is 59 = .ok (.iload 8, 2) := by decide +kernel
theorem dX9_is_61 : decode cX9_is 61 = .ok (.iaload, 1) := by decide +kernel
theorem dX9_is_62 : decode cX9_is 62 = .ok (.iload_n 2, 1) := by decide +kernel
theorem dX9_is_63 : decode cX9_is 63 = .ok (.if_icmp .ne 34, 3) := by decide +kernel
theorem dX9_is_66 : decode cX9_is 66 = .ok (.aload_n 0, 1) := by decide +kernel
theorem dX9_is_67 : decode cX9_is 67 = .ok (.getfield 31, 3) := by decide +kernel
theorem dX9_is_70 : decode cX9_is 70 = .ok (.iload 8, 2) := by decide +kernel
theorem dX9_is_72 : decode cX9_is 72 = .ok (.iconst 1, 1) := by decide +kernel
theorem dX9_is_73 : decode cX9_is 73 = .ok (.iadd, 1) := by decide +kernel
theorem dX9_is_74 : decode cX9_is 74 = .ok (.iaload, 1) := by decide +kernel
theorem dX9_is_75 : decode cX9_is 75 = .ok (.iload_n 3, 1) := by decide +kernel
theorem dX9_is_76 : decode cX9_is 76 = .ok (.if_icmp .ne 21, 3) := by decide +kernel
theorem dX9_is_79 : decode cX9_is 79 = .ok (.aload_n 0, 1) := by decide +kernel
theorem dX9_is_80 : decode cX9_is 80 = .ok (.getfield 31, 3) := by decide +kernel
theorem dX9_is_83 : decode cX9_is 83 = .ok (.iload 8, 2) := by decide +kernel
theorem dX9_is_85 : decode cX9_is 85 = .ok (.iconst 2, 1) := by decide +kernel
theorem dX9_is_86 : decode cX9_is 86 = .ok (.iadd, 1) := by decide +kernel
theorem dX9_is_87 : decode cX9_is 87 = .ok (.iaload, 1) := by decide +kernel
theorem dX9_is_88 : decode cX9_is 88 = .ok (.iload 4, 2) := by decide +kernel
theorem dX9_is_90 : decode cX9_is 90 = .ok (.if_icmp .ne 7, 3) := by decide +kernel
theorem dX9_is_93 : decode cX9_is 93 = .ok (.iconst 1, 1) := by decide +kernel
theorem dX9_is_94 : decode cX9_is 94 = .ok (.goto 4, 3) := by decide +kernel
theorem dX9_is_97 : decode cX9_is 97 = .ok (.iconst 0, 1) := by decide +kernel
theorem dX9_is_98 : decode cX9_is 98 = .ok (.istore 9, 2) := by decide +kernel
theorem dX9_is_100 : decode cX9_is 100 = .ok (.iload 9, 2) := by decide +kernel
theorem dX9_is_102 : decode cX9_is 102 = .ok (.ifCond .eq 47, 3) := by decide +kernel
theorem dX9_is_105 : decode cX9_is 105 = .ok (.iload 7, 2) := by decide +kernel
theorem dX9_is_107 : decode cX9_is 107 = .ok (.iconst 4, 1) := by decide +kernel
theorem dX9_is_108 : decode cX9_is 108 = .ok (.if_icmp .lt 17, 3) := by decide +kernel
theorem dX9_is_111 : decode cX9_is 111 = .ok (.aload_n 0, 1) := by decide +kernel
theorem dX9_is_112 : decode cX9_is 112 = .ok (.getfield 31, 3) := by decide +kernel
theorem dX9_is_115 : decode cX9_is 115 = .ok (.iload 8, 2) := by decide +kernel
theorem dX9_is_117 : decode cX9_is 117 = .ok (.iconst 3, 1) := by decide +kernel
theorem dX9_is_118 : decode cX9_is 118 = .ok (.iadd, 1) := by decide +kernel
theorem dX9_is_119 : decode cX9_is 119 = .ok (.iaload, 1) := by decide +kernel
theorem dX9_is_120 : decode cX9_is 120 = .ok (.iload 5, 2) := by decide +kernel
theorem dX9_is_122 : decode cX9_is 122 = .ok (.if_icmp .ne 27, 3) := by decide +kernel
theorem dX9_is_125 : decode cX9_is 125 = .ok (.iload 7, 2) := by decide +kernel
theorem dX9_is_127 : decode cX9_is 127 = .ok (.iconst 5, 1) := by decide +kernel
theorem dX9_is_128 : decode cX9_is 128 = .ok (.if_icmp .lt 17, 3) := by decide +kernel
theorem dX9_is_131 : decode cX9_is 131 = .ok (.aload_n 0, 1) := by decide +kernel
theorem dX9_is_132 : decode cX9_is 132 = .ok (.getfield 31, 3) := by decide +kernel
theorem dX9_is_135 : decode cX9_is 135 = .ok (.iload 8, 2) := by decide +kernel
theorem dX9_is_137 : decode cX9_is 137 = .ok (.iconst 4, 1) := by decide +kernel
theorem dX9_is_138 : decode cX9_is 138 = .ok (.iadd, 1) := by decide +kernel
theorem dX9_is_139 : decode cX9_is 139 = .ok (.iaload, 1) := by decide +kernel
theorem dX9_is_140 : decode cX9_is 140 = .ok (.iload 6, 2) := by decide +kernel
theorem dX9_is_142 : decode cX9_is 142 = .ok (.if_icmp .ne 7, 3) := by decide +kernel
theorem dX9_is_145 : decode cX9_is 145 = .ok (.iconst 1, 1) := by decide +kernel
theorem dX9_is_146 : decode cX9_is 146 = .ok (.goto 4, 3) := by decide +kernel
theorem dX9_is_149 : decode cX9_is 149 = .ok (.iconst 0, 1) := by decide +kernel
theorem dX9_is_150 : decode cX9_is 150 = .ok (.ireturn, 1) := by decide +kernel
theorem dX9_number_0 : decode cX9_number 0 = .ok (.iload_n 1, 1) := by decide +kernel
theorem dX9_number_1 : decode cX9_number 1 = .ok (.aload_n 0, 1) := by decide +kernel
theorem dX9_number_2 : decode cX9_number 2 = .ok (.getfield 142, 3) := by decide +kernel
theorem dX9_number_5 : decode cX9_number 5 = .ok (.if_icmp .ge 21, 3) := by decide +kernel
theorem dX9_number_8 : decode cX9_number 8 = .ok (.aload_n 0, 1) := by decide +kernel
theorem dX9_number_9 : decode cX9_number 9 = .ok (.getfield 37, 3) := by decide +kernel
theorem dX9_number_12 : decode cX9_number 12 = .ok (.iload_n 1, 1) := by decide +kernel
theorem dX9_number_13 : decode cX9_number 13 = .ok (.iaload, 1) := by decide +kernel
theorem dX9_number_14 : decode cX9_number 14 = .ok (.aload_n 0, 1) := by decide +kernel
theorem dX9_number_15 : decode cX9_number 15 = .ok (.getfield 34, 3) := by decide +kernel
theorem dX9_number_18 : decode cX9_number 18 = .ok (.iload_n 1, 1) := by decide +kernel
theorem dX9_number_19 : decode cX9_number 19 = .ok (.iaload, 1) := by decide +kernel
theorem dX9_number_20 : decode cX9_number 20 = .ok (.isub, 1) := by decide +kernel
theorem dX9_number_21 : decode cX9_number 21 = .ok (.bipush 6, 2) := by decide +kernel
theorem dX9_number_23 : decode cX9_number 23 = .ok (.if_icmp .le 5, 3) := by decide +kernel
theorem dX9_number_26 : decode cX9_number 26 = .ok (.iconst (-1), 1) := by decide +kernel
theorem dX9_number_27 : decode cX9_number 27 = .ok (.ireturn, 1) := by decide +kernel
theorem dX9_number_28 : decode cX9_number 28 = .ok (.iconst 0, 1) := by decide +kernel
theorem dX9_number_29 : decode cX9_number 29 = .ok (.istore_n 2, 1) := by decide +kernel
theorem dX9_number_30 : decode cX9_number 30 = .ok (.aload_n 0, 1) := by decide +kernel
theorem dX9_number_31 : decode cX9_number 31 = .ok (.getfield 34, 3) := by decide +kernel
theorem dX9_number_34 : decode cX9_number 34 = .ok (.iload_n 1, 1) := by decide +kernel
theorem dX9_number_35 : decode cX9_number 35 = .ok (.iaload, 1) := by decide +kernel
theorem dX9_number_36 : decode cX9_number 36 = .ok (.istore_n 3, 1) := by decide +kernel
theorem dX9_number_37 : decode cX9_number 37 = .ok (.iload_n 3, 1) := by decide +kernel
theorem dX9_number_38 : decode cX9_number 38 = .ok (.aload_n 0, 1) := by decide +kernel
theorem dX9_number_39 : decode cX9_number 39 = .ok (.getfield 37, 3) := by decide +kernel
theorem dX9_number_42 : decode cX9_number 42 = .ok (.iload_n 1, 1) := by decide +kernel
theorem dX9_number_43 : decode cX9_number 43 = .ok (.iaload, 1) := by decide +kernel
theorem dX9_number_44 : decode cX9_number 44 = .ok (.if_icmp .ge 48, 3) := by decide +kernel
theorem dX9_number_47 : decode cX9_number 47 = .ok (.aload_n 0, 1) := by decide +kernel
theorem dX9_number_48 : decode cX9_number 48 = .ok (.getfield 31, 3) := by decide +kernel
theorem dX9_number_51 : decode cX9_number 51 = .ok (.iload_n 3, 1) := by decide +kernel
theorem dX9_number_52 : decode cX9_number 52 = .ok (.iaload, 1) := by decide +kernel
theorem dX9_number_53 : decode cX9_number 53 = .ok (.bipush 48, 2) := by decide +kernel
theorem dX9_number_55 : decode cX9_number 55 = .ok (.if_icmp .lt 14, 3) := by decide +kernel
theorem dX9_number_58 : decode cX9_number 58 = .ok (.aload_n 0, 1) := by decide +kernel
theorem dX9_number_59 : decode cX9_number 59 = .ok (.getfield 31, 3) := by decide +kernel
theorem dX9_number_62 : decode cX9_number 62 = .ok (.iload_n 3, 1) := by decide +kernel
theorem dX9_number_63 : decode cX9_number 63 = .ok (.iaload, 1) := by decide +kernel
theorem dX9_number_64 : decode cX9_number 64 = .ok (.bipush 57, 2) := by decide +kernel
theorem dX9_number_66 : decode cX9_number 66 = .ok (.if_icmp .le 5, 3) := by decide +kernel
theorem dX9_number_69 : decode cX9_number 69 = .ok (.iconst (-1), 1) := by decide +kernel
theorem dX9_number_70 : decode cX9_number 70 = .ok (.ireturn, 1) := by decide +kernel
theorem dX9_number_71 : decode cX9_number 71 = .ok (.bipush 10, 2) := by decide +kernel
theorem dX9_number_73 : decode cX9_number 73 = .ok (.iload_n 2, 1) := by decide +kernel
theorem dX9_number_74 : decode cX9_number 74 = .ok (.imul, 1) := by decide +kernel
theorem dX9_number_75 : decode cX9_number 75 = .ok (.aload_n 0, 1) := by decide +kernel
theorem dX9_number_76 : decode cX9_number 76 = .ok (.getfield 31, 3) := by decide +kernel
theorem dX9_number_79 : decode cX9_number 79 = .ok (.iload_n 3, 1) := by decide +kernel
theorem dX9_number_80 : decode cX9_number 80 = .ok (.iaload, 1) := by decide +kernel
theorem dX9_number_81 : decode cX9_number 81 = .ok (.iadd, 1) := by decide +kernel
theorem dX9_number_82 : decode cX9_number 82 = .ok (.bipush 48, 2) := by decide +kernel
theorem dX9_number_84 : decode cX9_number 84 = .ok (.isub, 1) := by decide +kernel
theorem dX9_number_85 : decode cX9_number 85 = .ok (.istore_n 2, 1) := by decide +kernel
theorem dX9_number_86 : decode cX9_number 86 = .ok (.iinc 3 1, 3) := by decide +kernel
theorem dX9_number_89 : decode cX9_number 89 = .ok (.goto (-52), 3) := by decide +kernel
theorem dX9_number_92 : decode cX9_number 92 = .ok (.iload_n 2, 1) := by decide +kernel
theorem dX9_number_93 : decode cX9_number 93 = .ok (.ireturn, 1) := by decide +kernel
set_option maxRecDepth 20000 in
theorem ggX9_isKindWord_X9_is : GoodIn wsX9_isKindWord wsX9_is := goodIn_r _ [5, 6, 7, 8, 9, 10, 11, 12, 13, 14, 15, 16, 17, 18, 19, 20, 21, 22, 23, 24, 25, 26, 27, 28, 29, 30, 31, 32, 33, 34, 35, 36, 37, 38, 39, 40, 41, 42, 43, 44, 45, 46, 47, 48, 49, 50, 51, 52] (by decide +kernel) (by decide +kernel)
set_option maxRecDepth 20000 in
theorem gX9_isKindWord_X9_is : GoodIn wsX9_isKindWord (wsV RX9 145 RX9 yX9_is wsX9_is) := goodIn_app (goodIn_of _ (by decide +kernel)) ggX9_isKindWord_X9_is
theorem dX9_isKindWord_0 : decode cX9_isKindWord 0 = .ok (.aload_n 0, 1) := by decide +kernel
theorem dX9_isKindWord_1 : decode cX9_isKindWord 1 = .ok (.iload_n 1, 1) := by decide +kernel
theorem dX9_isKindWord_2 : decode cX9_isKindWord 2 = .ok (.bipush 107, 2) := by decide +kernel
theorem dX9_isKindWord_4 : decode cX9_isKindWord 4 = .ok (.bipush 105, 2) := by decide +kernel
theorem dX9_isKindWord_6 : decode cX9_isKindWord 6 = .ok (.bipush 110, 2) := by decide +kernel
theorem dX9_isKindWord_8 : decode cX9_isKindWord 8 = .ok (.bipush 100, 2) := by decide +kernel
theorem dX9_isKindWord_10 : decode cX9_isKindWord 10 = .ok (.iconst 0, 1) := by decide +kernel
theorem dX9_isKindWord_11 : decode cX9_isKindWord 11 = .ok (.invokevirtual 145, 3) := by decide +kernel
theorem dX9_isKindWord_14 : decode cX9_isKindWord 14 = .ok (.ireturn, 1) := by decide +kernel
set_option maxRecDepth 20000 in
theorem ggX9_isPer_X9_is : GoodIn wsX9_isPer wsX9_is := goodIn_r _ [5, 6, 7, 8, 9, 10, 11, 12, 13, 14, 15, 16, 17, 18, 19, 20, 21, 22, 23, 24, 25, 26, 27, 28, 29, 30, 31, 32, 33, 34, 35, 36, 37, 38, 39, 40, 41, 42, 43, 44, 45, 46, 47, 48, 49, 50, 51, 52] (by decide +kernel) (by decide +kernel)
set_option maxRecDepth 20000 in
theorem gX9_isPer_X9_is : GoodIn wsX9_isPer (wsV RX9 145 RX9 yX9_is wsX9_is) := goodIn_app (goodIn_of _ (by decide +kernel)) ggX9_isPer_X9_is
theorem dX9_isPer_0 : decode cX9_isPer 0 = .ok (.aload_n 0, 1) := by decide +kernel
theorem dX9_isPer_1 : decode cX9_isPer 1 = .ok (.iload_n 1, 1) := by decide +kernel
theorem dX9_isPer_2 : decode cX9_isPer 2 = .ok (.bipush 112, 2) := by decide +kernel
theorem dX9_isPer_4 : decode cX9_isPer 4 = .ok (.bipush 101, 2) := by decide +kernel
theorem dX9_isPer_6 : decode cX9_isPer 6 = .ok (.bipush 114, 2) := by decide +kernel
theorem dX9_isPer_8 : decode cX9_isPer 8 = .ok (.iconst 0, 1) := by decide +kernel
theorem dX9_isPer_9 : decode cX9_isPer 9 = .ok (.iconst 0, 1) := by decide +kernel
theorem dX9_isPer_10 : decode cX9_isPer 10 = .ok (.invokevirtual 145, 3) := by decide +kernel
theorem dX9_isPer_13 : decode cX9_isPer 13 = .ok (.ireturn, 1) := by decide +kernel
set_option maxRecDepth 20000 in
theorem ggX9_isPrice_X9_is : GoodIn wsX9_isPrice wsX9_is := goodIn_r _ [5, 6, 7, 8, 9, 10, 11, 12, 13, 14, 15, 16, 17, 18, 19, 20, 21, 22, 23, 24, 25, 26, 27, 28, 29, 30, 31, 32, 33, 34, 35, 36, 37, 38, 39, 40, 41, 42, 43, 44, 45, 46, 47, 48, 49, 50, 51, 52] (by decide +kernel) (by decide +kernel)
set_option maxRecDepth 20000 in
theorem gX9_isPrice_X9_is : GoodIn wsX9_isPrice (wsV RX9 145 RX9 yX9_is wsX9_is) := goodIn_app (goodIn_of _ (by decide +kernel)) ggX9_isPrice_X9_is
theorem dX9_isPrice_0 : decode cX9_isPrice 0 = .ok (.aload_n 0, 1) := by decide +kernel
theorem dX9_isPrice_1 : decode cX9_isPrice 1 = .ok (.iload_n 1, 1) := by decide +kernel
theorem dX9_isPrice_2 : decode cX9_isPrice 2 = .ok (.bipush 112, 2) := by decide +kernel
theorem dX9_isPrice_4 : decode cX9_isPrice 4 = .ok (.bipush 114, 2) := by decide +kernel
theorem dX9_isPrice_6 : decode cX9_isPrice 6 = .ok (.bipush 105, 2) := by decide +kernel
theorem dX9_isPrice_8 : decode cX9_isPrice 8 = .ok (.bipush 99, 2) := by decide +kernel
theorem dX9_isPrice_10 : decode cX9_isPrice 10 = .ok (.bipush 101, 2) := by decide +kernel
theorem dX9_isPrice_12 : decode cX9_isPrice 12 = .ok (.invokevirtual 145, 3) := by decide +kernel
theorem dX9_isPrice_15 : decode cX9_isPrice 15 = .ok (.ireturn, 1) := by decide +kernel
set_option maxRecDepth 20000 in
theorem ggX9_isStep_X9_is : GoodIn wsX9_isStep wsX9_is := goodIn_r _ [5, 6, 7, 8, 9, 10, 11, 12, 13, 14, 15, 16, 17, 18, 19, 20, 21, 22, 23, 24, 25, 26, 27, 28, 29, 30, 31, 32, 33, 34, 35, 36, 37, 38, 39, 40, 41, 42, 43, 44, 45, 46, 47, 48, 49, 50, 51, 52] (by decide +kernel) (by decide +kernel)
set_option maxRecDepth 20000 in
theorem gX9_isStep_X9_is : GoodIn wsX9_isStep (wsV RX9 145 RX9 yX9_is wsX9_is) := goodIn_app (goodIn_of _ (by decide +kernel)) ggX9_isStep_X9_is
theorem dX9_isStep_0 : decode cX9_isStep 0 = .ok (.aload_n 0, 1) := by decide +kernel
theorem dX9_isStep_1 : decode cX9_isStep 1 = .ok (.iload_n 1, 1) := by decide +kernel
theorem dX9_isStep_2 : decode cX9_isStep 2 = .ok (.bipush 115, 2) := by decide +kernel
theorem dX9_isStep_4 : decode cX9_isStep 4 = .ok (.bipush 116, 2) := by decide +kernel
theorem dX9_isStep_6 : decode cX9_isStep 6 = .ok (.bipush 101, 2) := by decide +kernel
theorem dX9_isStep_8 : decode cX9_isStep 8 = .ok (.bipush 112, 2) := by decide +kernel
theorem dX9_isStep_10 : decode cX9_isStep 10 = .ok (.iconst 0, 1) := by decide +kernel
theorem dX9_isStep_11 : decode cX9_isStep 11 = .ok (.invokevirtual 145, 3) := by decide +kernel
theorem dX9_isStep_14 : decode cX9_isStep 14 = .ok (.ireturn, 1) := by decide +kernel
set_option maxRecDepth 20000 in
theorem ggX9_isCap_X9_is : GoodIn wsX9_isCap wsX9_is := goodIn_r _ [5, 6, 7, 8, 9, 10, 11, 12, 13, 14, 15, 16, 17, 18, 19, 20, 21, 22, 23, 24, 25, 26, 27, 28, 29, 30, 31, 32, 33, 34, 35, 36, 37, 38, 39, 40, 41, 42, 43, 44, 45, 46, 47, 48, 49, 50, 51, 52] (by decide +kernel) (by decide +kernel)
set_option maxRecDepth 20000 in
theorem gX9_isCap_X9_is : GoodIn wsX9_isCap (wsV RX9 145 RX9 yX9_is wsX9_is) := goodIn_app (goodIn_of _ (by decide +kernel)) ggX9_isCap_X9_is
theorem dX9_isCap_0 : decode cX9_isCap 0 = .ok (.aload_n 0, 1) := by decide +kernel
theorem dX9_isCap_1 : decode cX9_isCap 1 = .ok (.iload_n 1, 1) := by decide +kernel
theorem dX9_isCap_2 : decode cX9_isCap 2 = .ok (.bipush 99, 2) := by decide +kernel
theorem dX9_isCap_4 : decode cX9_isCap 4 = .ok (.bipush 97, 2) := by decide +kernel
theorem dX9_isCap_6 : decode cX9_isCap 6 = .ok (.bipush 112, 2) := by decide +kernel
theorem dX9_isCap_8 : decode cX9_isCap 8 = .ok (.iconst 0, 1) := by decide +kernel
theorem dX9_isCap_9 : decode cX9_isCap 9 = .ok (.iconst 0, 1) := by decide +kernel
theorem dX9_isCap_10 : decode cX9_isCap 10 = .ok (.invokevirtual 145, 3) := by decide +kernel
theorem dX9_isCap_13 : decode cX9_isCap 13 = .ok (.ireturn, 1) := by decide +kernel
set_option maxRecDepth 20000 in
theorem ggX9_rules_X9_isKindWord : GoodIn wsX9_rules wsX9_isKindWord := goodIn_r _ [14, 15, 16, 17, 13, 18, 3, 19, 20, 21, 42, 43, 44, 45, 46, 47, 48, 49, 50, 51, 52, 53, 54, 55, 56, 57, 58, 59, 60, 61, 62, 63, 64, 65, 66, 67, 68, 69, 70, 71, 72, 73, 74, 75, 76, 77, 78, 79, 80, 81, 82, 83, 84] (by decide +kernel) (by decide +kernel)
set_option maxRecDepth 20000 in
theorem gX9_rules_X9_isKindWord : GoodIn wsX9_rules (wsV RX9 152 RX9 yX9_isKindWord wsX9_isKindWord) := goodIn_app (goodIn_of _ (by decide +kernel)) ggX9_rules_X9_isKindWord
set_option maxRecDepth 20000 in
theorem ggX9_rules_X9_number : GoodIn wsX9_rules wsX9_number := goodIn_r _ [25, 3, 20, 19, 21, 42, 43, 44, 45, 46, 47, 48, 49, 50, 51, 52, 53, 54, 55, 56, 57, 58, 59, 60, 61, 62, 63, 64, 65, 66, 67, 68, 69, 70, 71, 72, 73, 74, 75, 76, 77, 78, 79, 80, 81, 82, 83, 84] (by decide +kernel) (by decide +kernel)
set_option maxRecDepth 20000 in
theorem gX9_rules_X9_number : GoodIn wsX9_rules (wsV RX9 155 RX9 yX9_number wsX9_number) := goodIn_app (goodIn_of _ (by decide +kernel)) ggX9_rules_X9_number
set_option maxRecDepth 20000 in
theorem ggX9_rules_X9_isPer : GoodIn wsX9_rules wsX9_isPer := goodIn_r _ [29, 15, 16, 17, 13, 18, 3, 19, 20, 21, 42, 43, 44, 45, 46, 47, 48, 49, 50, 51, 52, 53, 54, 55, 56, 57, 58, 59, 60, 61, 62, 63, 64, 65, 66, 67, 68, 69, 70, 71, 72, 73, 74, 75, 76, 77, 78, 79, 80, 81, 82, 83, 84] (by decide +kernel) (by decide +kernel)
set_option maxRecDepth 20000 in
theorem gX9_rules_X9_isPer : GoodIn wsX9_rules (wsV RX9 159 RX9 yX9_isPer wsX9_isPer) := goodIn_app (goodIn_of _ (by decide +kernel)) ggX9_rules_X9_isPer
set_option maxRecDepth 20000 in
theorem ggX9_rules_X9_isPrice : GoodIn wsX9_rules wsX9_isPrice := goodIn_r _ [33, 15, 16, 17, 13, 18, 3, 19, 20, 21, 42, 43, 44, 45, 46, 47, 48, 49, 50, 51, 52, 53, 54, 55, 56, 57, 58, 59, 60, 61, 62, 63, 64, 65, 66, 67, 68, 69, 70, 71, 72, 73, 74, 75, 76, 77, 78, 79, 80, 81, 82, 83, 84] (by decide +kernel) (by decide +kernel)
set_option maxRecDepth 20000 in
theorem gX9_rules_X9_isPrice : GoodIn wsX9_rules (wsV RX9 162 RX9 yX9_isPrice wsX9_isPrice) := goodIn_app (goodIn_of _ (by decide +kernel)) ggX9_rules_X9_isPrice
set_option maxRecDepth 20000 in
theorem ggX9_rules_X9_isStep : GoodIn wsX9_rules wsX9_isStep := goodIn_r _ [37, 15, 16, 17, 13, 18, 3, 19, 20, 21, 42, 43, 44, 45, 46, 47, 48, 49, 50, 51, 52, 53, 54, 55, 56, 57, 58, 59, 60, 61, 62, 63, 64, 65, 66, 67, 68, 69, 70, 71, 72, 73, 74, 75, 76, 77, 78, 79, 80, 81, 82, 83, 84] (by decide +kernel) (by decide +kernel)
set_option maxRecDepth 20000 in
theorem gX9_rules_X9_isStep : GoodIn wsX9_rules (wsV RX9 165 RX9 yX9_isStep wsX9_isStep) := goodIn_app (goodIn_of _ (by decide +kernel)) ggX9_rules_X9_isStep
set_option maxRecDepth 20000 in
theorem ggX9_rules_X9_isCap : GoodIn wsX9_rules wsX9_isCap := goodIn_r _ [41, 15, 16, 17, 13, 18, 3, 19, 20, 21, 42, 43, 44, 45, 46, 47, 48, 49, 50, 51, 52, 53, 54, 55, 56, 57, 58, 59, 60, 61, 62, 63, 64, 65, 66, 67, 68, 69, 70, 71, 72, 73, 74, 75, 76, 77, 78, 79, 80, 81, 82, 83, 84] (by decide +kernel) (by decide +kernel)
set_option maxRecDepth 20000 in
theorem gX9_rules_X9_isCap : GoodIn wsX9_rules (wsV RX9 168 RX9 yX9_isCap wsX9_isCap) := goodIn_app (goodIn_of _ (by decide +kernel)) ggX9_rules_X9_isCap
theorem dX9_rules_0 : decode cX9_rules 0 = .ok (.bipush 6, 2) := by decide +kernel
theorem dX9_rules_2 : decode cX9_rules 2 = .ok (.aload_n 0, 1) := by decide +kernel
theorem dX9_rules_3 : decode cX9_rules 3 = .ok (.getfield 149, 3) := by decide +kernel
theorem dX9_rules_6 : decode cX9_rules 6 = .ok (.imul, 1) := by decide +kernel
theorem dX9_rules_7 : decode cX9_rules 7 = .ok (.istore_n 1, 1) := by decide +kernel
theorem dX9_rules_8 : decode cX9_rules 8 = .ok (.iconst 0, 1) := by decide +kernel
theorem dX9_rules_9 : decode cX9_rules 9 = .ok (.istore_n 2, 1) := by decide +kernel
theorem dX9_rules_10 : decode cX9_rules 10 = .ok (.iload_n 2, 1) := by decide +kernel
theorem dX9_rules_11 : decode cX9_rules 11 = .ok (.bipush 6, 2) := by decide +kernel
theorem dX9_rules_13 : decode cX9_rules 13 = .ok (.if_icmp .ge 18, 3) := by decide +kernel
theorem dX9_rules_16 : decode cX9_rules 16 = .ok (.aload_n 0, 1) := by decide +kernel
theorem dX9_rules_17 : decode cX9_rules 17 = .ok (.getfield 46, 3) := by decide +kernel
theorem dX9_rules_20 : decode cX9_rules 20 = .ok (.iload_n 1, 1) := by decide +kernel
theorem dX9_rules_21 : decode cX9_rules 21 = .ok (.iload_n 2, 1) := by decide +kernel
theorem dX9_rules_22 : decode cX9_rules 22 = .ok (.iadd, 1) := by decide +kernel
theorem dX9_rules_23 : decode cX9_rules 23 = .ok (.iconst 0, 1) := by decide +kernel
theorem dX9_rules_24 : decode cX9_rules 24 = .ok (.bastore, 1) := by decide +kernel
theorem dX9_rules_25 : decode cX9_rules 25 = .ok (.iinc 2 1, 3) := by decide +kernel
theorem dX9_rules_28 : decode cX9_rules 28 = .ok (.goto (-18), 3) := by decide +kernel
theorem dX9_rules_31 : decode cX9_rules 31 = .ok (.iconst 0, 1) := by decide +kernel
theorem dX9_rules_32 : decode cX9_rules 32 = .ok (.istore_n 2, 1) := by decide +kernel
theorem dX9_rules_33 : decode cX9_rules 33 = .ok (.iconst 0, 1) := by decide +kernel
theorem dX9_rules_34 : decode cX9_rules 34 = .ok (.istore_n 3, 1) := by decide +kernel
theorem dX9_rules_35 : decode cX9_rules 35 = .ok (.iload_n 3, 1) := by decide +kernel
theorem dX9_rules_36 : decode cX9_rules 36 = .ok (.aload_n 0, 1) := by decide +kernel
theorem dX9_rules_37 : decode cX9_rules 37 = .ok (.getfield 142, 3) := by decide +kernel
theorem dX9_rules_40 : decode cX9_rules 40 = .ok (.if_icmp .ge 336, 3) := by decide +kernel
theorem dX9_rules_43 : decode cX9_rules 43 = .ok (.aload_n 0, 1) := by decide +kernel
theorem dX9_rules_44 : decode cX9_rules 44 = .ok (.iload_n 3, 1) := by decide +kernel
theorem dX9_rules_45 : decode cX9_rules 45 = .ok (.invokevirtual 152, 3) := by decide +kernel
theorem dX9_rules_48 : decode cX9_rules 48 = .ok (.ifCond .ne 7, 3) := by decide +kernel
theorem dX9_rules_51 : decode cX9_rules 51 = .ok (.iconst (-1), 1) := by decide +kernel
theorem dX9_rules_52 : decode cX9_rules 52 = .ok (.iload_n 3, 1) := by decide +kernel
theorem dX9_rules_53 : decode cX9_rules 53 = .ok (.isub, 1) := by decide +kernel
theorem dX9_rules_54 : decode cX9_rules 54 = .ok (.ireturn, 1) := by decide +kernel
theorem dX9_rules_55 : decode cX9_rules 55 = .ok (.aload_n 0, 1) := by decide +kernel
theorem dX9_rules_56 : decode cX9_rules 56 = .ok (.iload_n 3, 1) := by decide +kernel
theorem dX9_rules_57 : decode cX9_rules 57 = .ok (.iconst 1, 1) := by decide +kernel
theorem dX9_rules_58 : decode cX9_rules 58 = .ok (.iadd, 1) := by decide +kernel
theorem dX9_rules_59 : decode cX9_rules 59 = .ok (.invokevirtual 155, 3) := by decide +kernel
theorem dX9_rules_62 : decode cX9_rules 62 = .ok (.istore 4, 2) := by decide +kernel
theorem dX9_rules_64 : decode cX9_rules 64 = .ok (.iload 4, 2) := by decide +kernel
theorem dX9_rules_66 : decode cX9_rules 66 = .ok (.ifCond .lt 9, 3) := by decide +kernel
theorem dX9_rules_69 : decode cX9_rules 69 = .ok (.iload 4, 2) := by decide +kernel
theorem dX9_rules_71 : decode cX9_rules 71 = .ok (.iconst 5, 1) := by decide +kernel
theorem dX9_rules_72 : decode cX9_rules 72 = .ok (.if_icmp .le 8, 3) := by decide +kernel
theorem dX9_rules_75 : decode cX9_rules 75 = .ok (.bipush (-2), 2) := by decide +kernel
theorem dX9_rules_77 : decode cX9_rules 77 = .ok (.iload_n 3, 1) := by decide +kernel
theorem dX9_rules_78 : decode cX9_rules 78 = .ok (.isub, 1) := by decide +kernel
theorem dX9_rules_79 : decode cX9_rules 79 = .ok (.ireturn, 1) := by decide +kernel
theorem dX9_rules_80 : decode cX9_rules 80 = .ok (.aload_n 0, 1) := by decide +kernel
theorem dX9_rules_81 : decode cX9_rules 81 = .ok (.getfield 46, 3) := by decide +kernel
theorem dX9_rules_84 : decode cX9_rules 84 = .ok (.iload_n 1, 1) := by decide +kernel
theorem dX9_rules_85 : decode cX9_rules 85 = .ok (.iload 4, 2) := by decide +kernel
theorem dX9_rules_87 : decode cX9_rules 87 = .ok (.iadd, 1) := by decide +kernel
theorem dX9_rules_88 : decode cX9_rules 88 = .ok (.baload, 1) := by decide +kernel
theorem dX9_rules_89 : decode cX9_rules 89 = .ok (.ifCond .eq 8, 3) := by decide +kernel
theorem dX9_rules_92 : decode cX9_rules 92 = .ok (.bipush (-2), 2) := by decide +kernel
theorem dX9_rules_94 : decode cX9_rules 94 = .ok (.iload_n 3, 1) := by decide +kernel
theorem dX9_rules_95 : decode cX9_rules 95 = .ok (.isub, 1) := by decide +kernel
theorem dX9_rules_96 : decode cX9_rules 96 = .ok (.ireturn, 1) := by decide +kernel
theorem dX9_rules_97 : decode cX9_rules 97 = .ok (.iload_n 1, 1) := by decide +kernel
theorem dX9_rules_98 : decode cX9_rules 98 = .ok (.iload 4, 2) := by decide +kernel
theorem dX9_rules_100 : decode cX9_rules 100 = .ok (.iadd, 1) := by decide +kernel
theorem dX9_rules_101 : decode cX9_rules 101 = .ok (.istore 5, 2) := by decide +kernel
theorem dX9_rules_103 : decode cX9_rules 103 = .ok (.aload_n 0, 1) := by decide +kernel
theorem dX9_rules_104 : decode cX9_rules 104 = .ok (.iload_n 3, 1) := by decide +kernel
theorem dX9_rules_105 : decode cX9_rules 105 = .ok (.iconst 2, 1) := by decide +kernel
theorem dX9_rules_106 : decode cX9_rules 106 = .ok (.iadd, 1) := by decide +kernel
theorem dX9_rules_107 : decode cX9_rules 107 = .ok (.invokevirtual 159, 3) := by decide +kernel
theorem dX9_rules_110 : decode cX9_rules 110 = .ok (.ifCond .ne 8, 3) := by decide +kernel
theorem dX9_rules_113 : decode cX9_rules 113 = .ok (.bipush (-3), 2) := by decide +kernel
theorem dX9_rules_115 : decode cX9_rules 115 = .ok (.iload_n 3, 1) := by decide +kernel
theorem dX9_rules_116 : decode cX9_rules 116 = .ok (.isub, 1) := by decide +kernel
theorem dX9_rules_117 : decode cX9_rules 117 = .ok (.ireturn, 1) := by decide +kernel
theorem dX9_rules_118 : decode cX9_rules 118 = .ok (.aload_n 0, 1) := by decide +kernel
theorem dX9_rules_119 : decode cX9_rules 119 = .ok (.getfield 50, 3) := by decide +kernel
theorem dX9_rules_122 : decode cX9_rules 122 = .ok (.iload 5, 2) := by decide +kernel
theorem dX9_rules_124 : decode cX9_rules 124 = .ok (.aload_n 0, 1) := by decide +kernel
theorem dX9_rules_125 : decode cX9_rules 125 = .ok (.iload_n 3, 1) := by decide +kernel
theorem dX9_rules_126 : decode cX9_rules 126 = .ok (.iconst 3, 1) := by decide +kernel
theorem dX9_rules_127 : decode cX9_rules 127 = .ok (.iadd, 1) := by decide +kernel
theorem dX9_rules_128 : decode cX9_rules 128 = .ok (.invokevirtual 155, 3) := by decide +kernel
theorem dX9_rules_131 : decode cX9_rules 131 = .ok (.iastore, 1) := by decide +kernel
theorem dX9_rules_132 : decode cX9_rules 132 = .ok (.aload_n 0, 1) := by decide +kernel
theorem dX9_rules_133 : decode cX9_rules 133 = .ok (.getfield 50, 3) := by decide +kernel
theorem dX9_rules_136 : decode cX9_rules 136 = .ok (.iload 5, 2) := by decide +kernel
theorem dX9_rules_138 : decode cX9_rules 138 = .ok (.iaload, 1) := by decide +kernel
theorem dX9_rules_139 : decode cX9_rules 139 = .ok (.ifCond .ge 8, 3) := by decide +kernel
theorem dX9_rules_142 : decode cX9_rules 142 = .ok (.bipush (-4), 2) := by decide +kernel
theorem dX9_rules_144 : decode cX9_rules 144 = .ok (.iload_n 3, 1) := by decide +kernel
theorem dX9_rules_145 : decode cX9_rules 145 = .ok (.isub, 1) := by decide +kernel
theorem dX9_rules_146 : decode cX9_rules 146 = .ok (.ireturn, 1) := by decide +kernel
theorem dX9_rules_147 : decode cX9_rules 147 = .ok (.aload_n 0, 1) := by decide +kernel
theorem dX9_rules_148 : decode cX9_rules 148 = .ok (.iload_n 3, 1) := by decide +kernel
theorem dX9_rules_149 : decode cX9_rules 149 = .ok (.iconst 4, 1) := by decide +kernel
theorem dX9_rules_150 : decode cX9_rules 150 = .ok (.iadd, 1) := by decide +kernel
theorem dX9_rules_151 : decode cX9_rules 151 = .ok (.invokevirtual 162, 3) := by decide +kernel
theorem dX9_rules_154 : decode cX9_rules 154 = .ok (.ifCond .ne 8, 3) := by decide +kernel
theorem dX9_rules_157 : decode cX9_rules 157 = .ok (.bipush (-5), 2) := by decide +kernel
theorem dX9_rules_159 : decode cX9_rules 159 = .ok (.iload_n 3, 1) := by decide +kernel
theorem dX9_rules_160 : decode cX9_rules 160 = .ok (.isub, 1) := by decide +kernel
theorem dX9_rules_161 : decode cX9_rules 161 = .ok (.ireturn, 1) := by decide +kernel
theorem dX9_rules_162 : decode cX9_rules 162 = .ok (.aload_n 0, 1) := by decide +kernel
theorem dX9_rules_163 : decode cX9_rules 163 = .ok (.getfield 53, 3) := by decide +kernel
theorem dX9_rules_166 : decode cX9_rules 166 = .ok (.iload 5, 2) := by decide +kernel
theorem dX9_rules_168 : decode cX9_rules 168 = .ok (.aload_n 0, 1) := by decide +kernel
theorem dX9_rules_169 : decode cX9_rules 169 = .ok (.iload_n 3, 1) := by decide +kernel
theorem dX9_rules_170 : decode cX9_rules 170 = .ok (.iconst 5, 1) := by decide +kernel
theorem dX9_rules_171 : decode cX9_rules 171 = .ok (.iadd, 1) := by decide +kernel
theorem dX9_rules_172 : decode cX9_rules 172 = .ok (.invokevirtual 155, 3) := by decide +kernel
theorem dX9_rules_175 : decode cX9_rules 175 = .ok (.iastore, 1) := by decide +kernel
theorem dX9_rules_176 : decode cX9_rules 176 = .ok (.aload_n 0, 1) := by decide +kernel
theorem dX9_rules_177 : decode cX9_rules 177 = .ok (.getfield 53, 3) := by decide +kernel
theorem dX9_rules_180 : decode cX9_rules 180 = .ok (.iload 5, 2) := by decide +kernel
theorem dX9_rules_182 : decode cX9_rules 182 = .ok (.iaload, 1) := by decide +kernel
theorem dX9_rules_183 : decode cX9_rules 183 = .ok (.ifCond .ge 8, 3) := by decide +kernel
theorem dX9_rules_186 : decode cX9_rules 186 = .ok (.bipush (-6), 2) := by decide +kernel
theorem dX9_rules_188 : decode cX9_rules 188 = .ok (.iload_n 3, 1) := by decide +kernel
theorem dX9_rules_189 : decode cX9_rules 189 = .ok (.isub, 1) := by decide +kernel
theorem dX9_rules_190 : decode cX9_rules 190 = .ok (.ireturn, 1) := by decide +kernel
theorem dX9_rules_191 : decode cX9_rules 191 = .ok (.iinc 3 6, 3) := by decide +kernel
theorem dX9_rules_194 : decode cX9_rules 194 = .ok (.aload_n 0, 1) := by decide +kernel
theorem dX9_rules_195 : decode cX9_rules 195 = .ok (.getfield 59, 3) := by decide +kernel
theorem dX9_rules_198 : decode cX9_rules 198 = .ok (.iload 5, 2) := by decide +kernel
theorem dX9_rules_200 : decode cX9_rules 200 = .ok (.iconst 0, 1) := by decide +kernel
theorem dX9_rules_201 : decode cX9_rules 201 = .ok (.iastore, 1) := by decide +kernel
theorem dX9_rules_202 : decode cX9_rules 202 = .ok (.aload_n 0, 1) := by decide +kernel
theorem dX9_rules_203 : decode cX9_rules 203 = .ok (.getfield 56, 3) := by decide +kernel
theorem dX9_rules_206 : decode cX9_rules 206 = .ok (.iload 5, 2) := by decide +kernel
theorem dX9_rules_208 : decode cX9_rules 208 = .ok (.iconst (-1), 1) := by decide +kernel
theorem dX9_rules_209 : decode cX9_rules 209 = .ok (.iastore, 1) := by decide +kernel
theorem dX9_rules_210 : decode cX9_rules 210 = .ok (.iconst 0, 1) := by decide +kernel
theorem dX9_rules_211 : decode cX9_rules 211 = .ok (.istore 6, 2) := by decide +kernel
theorem dX9_rules_213 : decode cX9_rules 213 = .ok (.aload_n 0, 1) := by decide +kernel
theorem dX9_rules_214 : decode cX9_rules 214 = .ok (.iload_n 3, 1) := by decide +kernel
theorem dX9_rules_215 : decode cX9_rules 215 = .ok (.invokevirtual 165, 3) := by decide +kernel
theorem dX9_rules_218 : decode cX9_rules 218 = .ok (.ifCond .eq 104, 3) := by decide +kernel
theorem dX9_rules_221 : decode cX9_rules 221 = .ok (.aload_n 0, 1) := by decide +kernel
theorem dX9_rules_222 : decode cX9_rules 222 = .ok (.iload_n 3, 1) := by decide +kernel
theorem dX9_rules_223 : decode cX9_rules 223 = .ok (.iconst 1, 1) := by decide +kernel
theorem dX9_rules_224 : decode cX9_rules 224 = .ok (.iadd, 1) := by decide +kernel
theorem dX9_rules_225 : decode cX9_rules 225 = .ok (.invokevirtual 155, 3) := by decide +kernel
theorem dX9_rules_228 : decode cX9_rules 228 = .ok (.istore 7, 2) := by decide +kernel
theorem dX9_rules_230 : decode cX9_rules 230 = .ok (.iload 7, 2) := by decide +kernel
theorem dX9_rules_232 : decode cX9_rules 232 = .ok (.iload 6, 2) := by decide +kernel
theorem dX9_rules_234 : decode cX9_rules 234 = .ok (.if_icmp .gt 8, 3) := by decide +kernel
theorem dX9_rules_237 : decode cX9_rules 237 = .ok (.bipush (-2), 2) := by decide +kernel
theorem dX9_rules_239 : decode cX9_rules 239 = .ok (.iload_n 3, 1) := by decide +kernel
theorem dX9_rules_240 : decode cX9_rules 240 = .ok (.isub, 1) := by decide +kernel
theorem dX9_rules_241 : decode cX9_rules 241 = .ok (.ireturn, 1) := by decide +kernel
theorem dX9_rules_242 : decode cX9_rules 242 = .ok (.aload_n 0, 1) := by decide +kernel
theorem dX9_rules_243 : decode cX9_rules 243 = .ok (.iload_n 3, 1) := by decide +kernel
theorem dX9_rules_244 : decode cX9_rules 244 = .ok (.iconst 2, 1) := by decide +kernel
theorem dX9_rules_245 : decode cX9_rules 245 = .ok (.iadd, 1) := by decide +kernel
theorem dX9_rules_246 : decode cX9_rules 246 = .ok (.invokevirtual 155, 3) := by decide +kernel
theorem dX9_rules_249 : decode cX9_rules 249 = .ok (.istore 8, 2) := by decide +kernel
theorem dX9_rules_251 : decode cX9_rules 251 = .ok (.iload 8, 2) := by decide +kernel
theorem dX9_rules_253 : decode cX9_rules 253 = .ok (.ifCond .ge 8, 3) := by decide +kernel
theorem dX9_rules_256 : decode cX9_rules 256 = .ok (.bipush (-3), 2) := by decide +kernel
theorem dX9_rules_258 : decode cX9_rules 258 = .ok (.iload_n 3, 1) := by decide +kernel
theorem dX9_rules_259 : decode cX9_rules 259 = .ok (.isub, 1) := by decide +kernel
theorem dX9_rules_260 : decode cX9_rules 260 = .ok (.ireturn, 1) := by decide +kernel
theorem dX9_rules_261 : decode cX9_rules 261 = .ok (.aload_n 0, 1) := by decide +kernel
theorem dX9_rules_262 : decode cX9_rules 262 = .ok (.getfield 62, 3) := by decide +kernel
theorem dX9_rules_265 : decode cX9_rules 265 = .ok (.bipush 100, 2) := by decide +kernel
theorem dX9_rules_267 : decode cX9_rules 267 = .ok (.iload 5, 2) := by decide +kernel
theorem dX9_rules_269 : decode cX9_rules 269 = .ok (.imul, 1) := by decide +kernel
theorem dX9_rules_270 : decode cX9_rules 270 = .ok (.aload_n 0, 1) := by decide +kernel
theorem dX9_rules_271 : decode cX9_rules 271 = .ok (.getfield 59, 3) := by decide +kernel
theorem dX9_rules_274 : decode cX9_rules 274 = .ok (.iload 5, 2) := by decide +kernel
theorem dX9_rules_276 : decode cX9_rules 276 = .ok (.iaload, 1) := by decide +kernel
theorem dX9_rules_277 : decode cX9_rules 277 = .ok (.iadd, 1) := by decide +kernel
theorem dX9_rules_278 : decode cX9_rules 278 = .ok (.iload 7, 2) := by decide +kernel
theorem dX9_rules_280 : decode cX9_rules 280 = .ok (.iastore, 1) := by decide +kernel
theorem dX9_rules_281 : decode cX9_rules 281 = .ok (.aload_n 0, 1) := by decide +kernel
theorem dX9_rules_282 : decode cX9_rules 282 = .ok (.getfield 65, 3) := by decide +kernel
theorem dX9_rules_285 : decode cX9_rules 285 = .ok (.bipush 100, 2) := by decide +kernel
theorem dX9_rules_287 : decode cX9_rules 287 = .ok (.iload 5, 2) := by decide +kernel
theorem dX9_rules_289 : decode cX9_rules 289 = .ok (.imul, 1) := by decide +kernel
theorem dX9_rules_290 : decode cX9_rules 290 = .ok (.aload_n 0, 1) := by decide +kernel
theorem dX9_rules_291 : decode cX9_rules 291 = .ok (.getfield 59, 3) := by decide +kernel
theorem dX9_rules_294 : decode cX9_rules 294 = .ok (.iload 5, 2) := by decide +kernel
theorem dX9_rules_296 : decode cX9_rules 296 = .ok (.iaload, 1) := by decide +kernel
theorem dX9_rules_297 : decode cX9_rules 297 = .ok (.iadd, 1) := by decide +kernel
theorem dX9_rules_298 : decode cX9_rules 298 = .ok (.iload 8, 2) := by decide +kernel
theorem dX9_rules_300 : decode cX9_rules 300 = .ok (.iastore, 1) := by decide +kernel
theorem dX9_rules_301 : decode cX9_rules 301 = .ok (.aload_n 0, 1) := by decide +kernel
theorem dX9_rules_302 : decode cX9_rules 302 = .ok (.getfield 59, 3) := by decide +kernel
theorem dX9_rules_305 : decode cX9_rules 305 = .ok (.iload 5, 2) := by decide +kernel
theorem dX9_rules_307 : decode cX9_rules 307 = .ok (.dup2, 1) := by decide +kernel
theorem dX9_rules_308 : decode cX9_rules 308 = .ok (.iaload, 1) := by decide +kernel
theorem dX9_rules_309 : decode cX9_rules 309 = .ok (.iconst 1, 1) := by decide +kernel
theorem dX9_rules_310 : decode cX9_rules 310 = .ok (.iadd, 1) := by decide +kernel
theorem dX9_rules_311 : decode cX9_rules 311 = .ok (.iastore, 1) := by decide +kernel
theorem dX9_rules_312 : decode cX9_rules 312 = .ok (.iload 7, 2) := by decide +kernel
theorem dX9_rules_314 : decode cX9_rules 314 = .ok (.istore 6, 2) := by decide +kernel
theorem dX9_rules_316 : decode cX9_rules 316 = .ok (.iinc 3 3, 3) := by decide +kernel
theorem dX9_rules_319 : decode cX9_rules 319 = .ok (.goto (-106), 3) := by decide +kernel
theorem dX9_rules_322 : decode cX9_rules 322 = .ok (.aload_n 0, 1) := by decide +kernel
theorem dX9_rules_323 : decode cX9_rules 323 = .ok (.iload_n 3, 1) := by decide +kernel
theorem dX9_rules_324 : decode cX9_rules 324 = .ok (.invokevirtual 168, 3) := by decide +kernel
theorem dX9_rules_327 : decode cX9_rules 327 = .ok (.ifCond .eq 35, 3) := by decide +kernel
theorem dX9_rules_330 : decode cX9_rules 330 = .ok (.aload_n 0, 1) := by decide +kernel
theorem dX9_rules_331 : decode cX9_rules 331 = .ok (.getfield 56, 3) := by decide +kernel
theorem dX9_rules_334 : decode cX9_rules 334 = .ok (.iload 5, 2) := by decide +kernel
theorem dX9_rules_336 : decode cX9_rules 336 = .ok (.aload_n 0, 1) := by decide +kernel
theorem dX9_rules_337 : decode cX9_rules 337 = .ok (.iload_n 3, 1) := by decide +kernel
theorem dX9_rules_338 : decode cX9_rules 338 = .ok (.iconst 1, 1) := by decide +kernel
theorem dX9_rules_339 : decode cX9_rules 339 = .ok (.iadd, 1) := by decide +kernel
theorem dX9_rules_340 : decode cX9_rules 340 = .ok (.invokevirtual 155, 3) := by decide +kernel
theorem dX9_rules_343 : decode cX9_rules 343 = .ok (.iastore, 1) := by decide +kernel
theorem dX9_rules_344 : decode cX9_rules 344 = .ok (.aload_n 0, 1) := by decide +kernel
theorem dX9_rules_345 : decode cX9_rules 345 = .ok (.getfield 56, 3) := by decide +kernel
theorem dX9_rules_348 : decode cX9_rules 348 = .ok (.iload 5, 2) := by decide +kernel
theorem dX9_rules_350 : decode cX9_rules 350 = .ok (.iaload, 1) := by decide +kernel
theorem dX9_rules_351 : decode cX9_rules 351 = .ok (.ifCond .ge 8, 3) := by decide +kernel
theorem dX9_rules_354 : decode cX9_rules 354 = .ok (.bipush (-2), 2) := by decide +kernel
theorem dX9_rules_356 : decode cX9_rules 356 = .ok (.iload_n 3, 1) := by decide +kernel
theorem dX9_rules_357 : decode cX9_rules 357 = .ok (.isub, 1) := by decide +kernel
theorem dX9_rules_358 : decode cX9_rules 358 = .ok (.ireturn, 1) := by decide +kernel
theorem dX9_rules_359 : decode cX9_rules 359 = .ok (.iinc 3 2, 3) := by decide +kernel
theorem dX9_rules_362 : decode cX9_rules 362 = .ok (.aload_n 0, 1) := by decide +kernel
theorem dX9_rules_363 : decode cX9_rules 363 = .ok (.getfield 46, 3) := by decide +kernel
theorem dX9_rules_366 : decode cX9_rules 366 = .ok (.iload 5, 2) := by decide +kernel
theorem dX9_rules_368 : decode cX9_rules 368 = .ok (.iconst 1, 1) := by decide +kernel
theorem dX9_rules_369 : decode cX9_rules 369 = .ok (.bastore, 1) := by decide +kernel
theorem dX9_rules_370 : decode cX9_rules 370 = .ok (.iinc 2 1, 3) := by decide +kernel
theorem dX9_rules_373 : decode cX9_rules 373 = .ok (.goto (-338), 3) := by decide +kernel
theorem dX9_rules_376 : decode cX9_rules 376 = .ok (.iload_n 2, 1) := by decide +kernel
theorem dX9_rules_377 : decode cX9_rules 377 = .ok (.ireturn, 1) := by decide +kernel
set_option maxRecDepth 20000 in
theorem ggX9_read_X9_findWords : GoodIn wsX9_read wsX9_findWords := goodIn_r _ [9, 10, 1, 11, 12, 13, 57, 58, 59, 60, 61, 62, 63, 64, 65, 66, 67, 68, 69, 70, 71, 72, 73, 74, 75, 76, 77, 78, 79, 80, 81, 82, 83, 84, 85, 86, 87, 88, 89, 90, 91, 92, 93, 94, 95, 96, 97, 98, 99] (by decide +kernel) (by decide +kernel)
set_option maxRecDepth 20000 in
theorem gX9_read_X9_findWords : GoodIn wsX9_read (wsV RX9 171 RX9 yX9_findWords wsX9_findWords) := goodIn_app (goodIn_of _ (by decide +kernel)) ggX9_read_X9_findWords
set_option maxRecDepth 20000 in
theorem ggX9_read_X9_isDay : GoodIn wsX9_read wsX9_isDay := goodIn_r _ [16, 17] (by decide +kernel) (by decide +kernel)
set_option maxRecDepth 20000 in
theorem gX9_read_X9_isDay : GoodIn wsX9_read (va_wsS RX9 133 yX9_isDay wsX9_isDay) := goodIn_app (goodIn_of _ (by decide +kernel)) ggX9_read_X9_isDay
set_option maxRecDepth 20000 in
theorem ggX9_read_X9_rules : GoodIn wsX9_read wsX9_rules := goodIn_r _ [21, 2, 22, 10, 23, 24, 25, 26, 27, 28, 29, 30, 31, 8, 32, 33, 34, 35, 36, 12, 13, 11, 37, 38, 39, 40, 41, 42, 43, 44, 45, 46, 47, 48, 49, 50, 51, 52, 53, 54, 55, 56, 57, 58, 59, 60, 61, 62, 63, 64, 65, 66, 67, 68, 69, 70, 71, 72, 73, 74, 75, 76, 77, 78, 79, 80, 81, 82, 83, 84, 85, 86, 87, 88, 89, 90, 91, 92, 93, 94, 95, 96, 97, 98, 99] (by decide +kernel) (by decide +kernel)
set_option maxRecDepth 20000 in
theorem gX9_read_X9_rules : GoodIn wsX9_read (wsV RX9 174 RX9 yX9_rules wsX9_rules) := goodIn_app (goodIn_of _ (by decide +kernel)) ggX9_read_X9_rules
theorem dX9_read_0 : decode cX9_read 0 = .ok (.aload_n 0, 1) := by decide +kernel
theorem dX9_read_1 : decode cX9_read 1 = .ok (.invokevirtual 171, 3) := by decide +kernel
theorem dX9_read_4 : decode cX9_read 4 = .ok (.aload_n 0, 1) := by decide +kernel
theorem dX9_read_5 : decode cX9_read 5 = .ok (.iconst 0, 1) := by decide +kernel
theorem dX9_read_6 : decode cX9_read 6 = .ok (.putfield 139, 3) := by decide +kernel
theorem dX9_read_9 : decode cX9_read 9 = .ok (.lload_n 1, 1) := by decide +kernel
theorem dX9_read_10 : decode cX9_read 10 = .ok (.invokestatic 133, 3) := by decide +kernel
theorem dX9_read_13 : decode cX9_read 13 = .ok (.ifCond .eq 19, 3) := by decide +kernel
theorem dX9_read_16 : decode cX9_read 16 = .ok (.lload_n 3, 1) := by decide +kernel
theorem dX9_read_17 : decode cX9_read 17 = .ok (.invokestatic 133, 3) := by decide +kernel
theorem dX9_read_20 : decode cX9_read 20 = .ok (.ifCond .eq 12, 3) := by decide +kernel
theorem dX9_read_23 : decode cX9_read 23 = .ok (.aload_n 0, 1) := by decide +kernel
theorem dX9_read_24 : decode cX9_read 24 = .ok (.getfield 149, 3) := by decide +kernel
theorem dX9_read_27 : decode cX9_read 27 = .ok (.bipush 6, 2) := by decide +kernel
theorem dX9_read_29 : decode cX9_read 29 = .ok (.if_icmp .ne 7, 3) := by decide +kernel
theorem dX9_read_32 : decode cX9_read 32 = .ok (.sipush (-1000), 3) := by decide +kernel
theorem dX9_read_35 : decode cX9_read 35 = .ok (.ireturn, 1) := by decide +kernel
theorem dX9_read_36 : decode cX9_read 36 = .ok (.aload_n 0, 1) := by decide +kernel
theorem dX9_read_37 : decode cX9_read 37 = .ok (.invokevirtual 174, 3) := by decide +kernel
theorem dX9_read_40 : decode cX9_read 40 = .ok (.istore 5, 2) := by decide +kernel
theorem dX9_read_42 : decode cX9_read 42 = .ok (.iload 5, 2) := by decide +kernel
theorem dX9_read_44 : decode cX9_read 44 = .ok (.ifCond .ge 6, 3) := by decide +kernel
theorem dX9_read_47 : decode cX9_read 47 = .ok (.iload 5, 2) := by decide +kernel
theorem dX9_read_49 : decode cX9_read 49 = .ok (.ireturn, 1) := by decide +kernel
theorem dX9_read_50 : decode cX9_read 50 = .ok (.aload_n 0, 1) := by decide +kernel
theorem dX9_read_51 : decode cX9_read 51 = .ok (.getfield 40, 3) := by decide +kernel
theorem dX9_read_54 : decode cX9_read 54 = .ok (.aload_n 0, 1) := by decide +kernel
theorem dX9_read_55 : decode cX9_read 55 = .ok (.getfield 149, 3) := by decide +kernel
theorem dX9_read_58 : decode cX9_read 58 = .ok (.lload_n 1, 1) := by decide +kernel
theorem dX9_read_59 : decode cX9_read 59 = .ok (.l2i, 1) := by decide +kernel
theorem dX9_read_60 : decode cX9_read 60 = .ok (.iastore, 1) := by decide +kernel
theorem dX9_read_61 : decode cX9_read 61 = .ok (.aload_n 0, 1) := by decide +kernel
theorem dX9_read_62 : decode cX9_read 62 = .ok (.getfield 43, 3) := by decide +kernel
theorem dX9_read_65 : decode cX9_read 65 = .ok (.aload_n 0, 1) := by decide +kernel
theorem dX9_read_66 : decode cX9_read 66 = .ok (.getfield 149, 3) := by decide +kernel
theorem dX9_read_69 : decode cX9_read 69 = .ok (.lload_n 3, 1) := by decide +kernel
theorem dX9_read_70 : decode cX9_read 70 = .ok (.l2i, 1) := by decide +kernel
theorem dX9_read_71 : decode cX9_read 71 = .ok (.iastore, 1) := by decide +kernel
theorem dX9_read_72 : decode cX9_read 72 = .ok (.aload_n 0, 1) := by decide +kernel
theorem dX9_read_73 : decode cX9_read 73 = .ok (.dup, 1) := by decide +kernel
theorem dX9_read_74 : decode cX9_read 74 = .ok (.getfield 149, 3) := by decide +kernel
theorem dX9_read_77 : decode cX9_read 77 = .ok (.iconst 1, 1) := by decide +kernel
theorem dX9_read_78 : decode cX9_read 78 = .ok (.iadd, 1) := by decide +kernel
theorem dX9_read_79 : decode cX9_read 79 = .ok (.putfield 149, 3) := by decide +kernel
theorem dX9_read_82 : decode cX9_read 82 = .ok (.iload 5, 2) := by decide +kernel
theorem dX9_read_84 : decode cX9_read 84 = .ok (.ireturn, 1) := by decide +kernel
theorem dX9_edition_0 : decode cX9_edition 0 = .ok (.iload_n 1, 1) := by decide +kernel
theorem dX9_edition_1 : decode cX9_edition 1 = .ok (.ifCond .lt 20, 3) := by decide +kernel
theorem dX9_edition_4 : decode cX9_edition 4 = .ok (.iload_n 1, 1) := by decide +kernel
theorem dX9_edition_5 : decode cX9_edition 5 = .ok (.aload_n 0, 1) := by decide +kernel
theorem dX9_edition_6 : decode cX9_edition 6 = .ok (.getfield 149, 3) := by decide +kernel
theorem dX9_edition_9 : decode cX9_edition 9 = .ok (.if_icmp .ge 12, 3) := by decide +kernel
theorem dX9_edition_12 : decode cX9_edition 12 = .ok (.iload_n 2, 1) := by decide +kernel
theorem dX9_edition_13 : decode cX9_edition 13 = .ok (.ifCond .lt 8, 3) := by decide +kernel
theorem dX9_edition_16 : decode cX9_edition 16 = .ok (.iload_n 2, 1) := by decide +kernel
theorem dX9_edition_17 : decode cX9_edition 17 = .ok (.iconst 2, 1) := by decide +kernel
theorem dX9_edition_18 : decode cX9_edition 18 = .ok (.if_icmp .le 5, 3) := by decide +kernel
theorem dX9_edition_21 : decode cX9_edition 21 = .ok (.iconst (-1), 1) := by decide +kernel
theorem dX9_edition_22 : decode cX9_edition 22 = .ok (.ireturn, 1) := by decide +kernel
theorem dX9_edition_23 : decode cX9_edition 23 = .ok (.iload_n 2, 1) := by decide +kernel
theorem dX9_edition_24 : decode cX9_edition 24 = .ok (.iconst 2, 1) := by decide +kernel
theorem dX9_edition_25 : decode cX9_edition 25 = .ok (.if_icmp .ge 23, 3) := by decide +kernel
theorem dX9_edition_28 : decode cX9_edition 28 = .ok (.iload_n 2, 1) := by decide +kernel
theorem dX9_edition_29 : decode cX9_edition 29 = .ok (.ifCond .ne 12, 3) := by decide +kernel
theorem dX9_edition_32 : decode cX9_edition 32 = .ok (.aload_n 0, 1) := by decide +kernel
theorem dX9_edition_33 : decode cX9_edition 33 = .ok (.getfield 40, 3) := by decide +kernel
theorem dX9_edition_36 : decode cX9_edition 36 = .ok (.iload_n 1, 1) := by decide +kernel
theorem dX9_edition_37 : decode cX9_edition 37 = .ok (.iaload, 1) := by decide +kernel
theorem dX9_edition_38 : decode cX9_edition 38 = .ok (.goto 9, 3) := by decide +kernel
theorem dX9_edition_41 : decode cX9_edition 41 = .ok (.aload_n 0, 1) := by decide +kernel
theorem dX9_edition_42 : decode cX9_edition 42 = .ok (.getfield 43, 3) := by decide +kernel
theorem dX9_edition_45 : decode cX9_edition 45 = .ok (.iload_n 1, 1) := by decide +kernel
theorem dX9_edition_46 : decode cX9_edition 46 = .ok (.iaload, 1) := by decide +kernel
theorem dX9_edition_47 : decode cX9_edition 47 = .ok (.ireturn, 1) := by decide +kernel
theorem dX9_edition_48 : decode cX9_edition 48 = .ok (.iconst 0, 1) := by decide +kernel
theorem dX9_edition_49 : decode cX9_edition 49 = .ok (.istore_n 3, 1) := by decide +kernel
theorem dX9_edition_50 : decode cX9_edition 50 = .ok (.iconst 0, 1) := by decide +kernel
theorem dX9_edition_51 : decode cX9_edition 51 = .ok (.istore 4, 2) := by decide +kernel
theorem dX9_edition_53 : decode cX9_edition 53 = .ok (.iload 4, 2) := by decide +kernel
theorem dX9_edition_55 : decode cX9_edition 55 = .ok (.bipush 6, 2) := by decide +kernel
theorem dX9_edition_57 : decode cX9_edition 57 = .ok (.if_icmp .ge 32, 3) := by decide +kernel
theorem dX9_edition_60 : decode cX9_edition 60 = .ok (.iload_n 3, 1) := by decide +kernel
theorem dX9_edition_61 : decode cX9_edition 61 = .ok (.aload_n 0, 1) := by decide +kernel
theorem dX9_edition_62 : decode cX9_edition 62 = .ok (.getfield 46, 3) := by decide +kernel
theorem dX9_edition_65 : decode cX9_edition 65 = .ok (.bipush 6, 2) := by decide +kernel
theorem dX9_edition_67 : decode cX9_edition 67 = .ok (.iload_n 1, 1) := by decide +kernel
theorem dX9_edition_68 : decode cX9_edition 68 = .ok (.imul, 1) := by decide +kernel
theorem dX9_edition_69 : decode cX9_edition 69 = .ok (.iload 4, 2) := by decide +kernel
theorem dX9_edition_71 : decode cX9_edition 71 = .ok (.iadd, 1) := by decide +kernel
theorem dX9_edition_72 : decode cX9_edition 72 = .ok (.baload, 1) := by decide +kernel
theorem dX9_edition_73 : decode cX9_edition 73 = .ok (.ifCond .eq 7, 3) := by decide +kernel
theorem dX9_edition_76 : decode cX9_edition 76 = .ok (.iconst 1, 1) := by decide +kernel
theorem dX9_edition_77 : decode cX9_edition 77 = .ok (.goto 4, 3) := by decide +kernel
theorem dX9_edition_80 : decode cX9_edition 80 = .ok (.iconst 0, 1) := by decide +kernel
theorem dX9_edition_81 : decode cX9_edition 81 = .ok (.iadd, 1) := by decide +kernel
theorem dX9_edition_82 : decode cX9_edition 82 = .ok (.istore_n 3, 1) := by decide +kernel
theorem dX9_edition_83 : decode cX9_edition 83 = .ok (.iinc 4 1, 3) := by decide +kernel
theorem dX9_edition_86 : decode cX9_edition 86 = .ok (.goto (-33), 3) := by decide +kernel
theorem dX9_edition_89 : decode cX9_edition 89 = .ok (.iload_n 3, 1) := by decide +kernel
theorem dX9_edition_90 : decode cX9_edition 90 = .ok (.ireturn, 1) := by decide +kernel
set_option maxRecDepth 20000 in
theorem ggX9_cap_X9_isMonth : GoodIn wsX9_cap wsX9_isMonth := goodIn_r _ [6] (by decide +kernel) (by decide +kernel)
set_option maxRecDepth 20000 in
theorem gX9_cap_X9_isMonth : GoodIn wsX9_cap (va_wsS RX9 178 yX9_isMonth wsX9_isMonth) := goodIn_app (goodIn_of _ (by decide +kernel)) ggX9_cap_X9_isMonth
theorem dX9_cap_0 : decode cX9_cap 0 = .ok (.iload_n 1, 1) := by decide +kernel
theorem dX9_cap_1 : decode cX9_cap 1 = .ok (.invokestatic 178, 3) := by decide +kernel
theorem dX9_cap_4 : decode cX9_cap 4 = .ok (.ifCond .eq 17, 3) := by decide +kernel
theorem dX9_cap_7 : decode cX9_cap 7 = .ok (.lload_n 2, 1) := by decide +kernel
theorem dX9_cap_8 : decode cX9_cap 8 = .ok (.lconst 0, 1) := by decide +kernel
theorem dX9_cap_9 : decode cX9_cap 9 = .ok (.lcmp, 1) := by decide +kernel
theorem dX9_cap_10 : decode cX9_cap 10 = .ok (.ifCond .lt 11, 3) := by decide +kernel
theorem dX9_cap_13 : decode cX9_cap 13 = .ok (.lload_n 2, 1) := by decide +kernel
theorem dX9_cap_14 : decode cX9_cap 14 = .ok (.ldc2_w 181, 3) := by decide +kernel
theorem dX9_cap_17 : decode cX9_cap 17 = .ok (.lcmp, 1) := by decide +kernel
theorem dX9_cap_18 : decode cX9_cap 18 = .ok (.ifCond .le 5, 3) := by decide +kernel
theorem dX9_cap_21 : decode cX9_cap 21 = .ok (.iconst 0, 1) := by decide +kernel
theorem dX9_cap_22 : decode cX9_cap 22 = .ok (.ireturn, 1) := by decide +kernel
theorem dX9_cap_23 : decode cX9_cap 23 = .ok (.aload_n 0, 1) := by decide +kernel
theorem dX9_cap_24 : decode cX9_cap 24 = .ok (.getfield 68, 3) := by decide +kernel
theorem dX9_cap_27 : decode cX9_cap 27 = .ok (.iload_n 1, 1) := by decide +kernel
theorem dX9_cap_28 : decode cX9_cap 28 = .ok (.lload_n 2, 1) := by decide +kernel
theorem dX9_cap_29 : decode cX9_cap 29 = .ok (.lastore, 1) := by decide +kernel
theorem dX9_cap_30 : decode cX9_cap 30 = .ok (.iconst 1, 1) := by decide +kernel
theorem dX9_cap_31 : decode cX9_cap 31 = .ok (.ireturn, 1) := by decide +kernel
set_option maxRecDepth 20000 in
theorem ggX9_relief_X9_isHouse : GoodIn wsX9_relief wsX9_isHouse := goodIn_r _ [10, 11, 19, 20, 21, 22, 23, 24, 25, 26, 27, 28, 29, 30, 31, 32, 33, 34, 35, 36, 37, 38, 39, 40, 41, 42, 43, 44, 45, 46, 47, 48, 49, 50, 51, 52, 53, 54, 55, 56, 57, 58, 59, 60, 61] (by decide +kernel) (by decide +kernel)
set_option maxRecDepth 20000 in
theorem gX9_relief_X9_isHouse : GoodIn wsX9_relief (wsV RX9 126 RX9 yX9_isHouse wsX9_isHouse) := goodIn_app (goodIn_of _ (by decide +kernel)) ggX9_relief_X9_isHouse
set_option maxRecDepth 20000 in
theorem ggX9_relief_X9_isKind : GoodIn wsX9_relief wsX9_isKind := goodIn_r _ [14] (by decide +kernel) (by decide +kernel)
set_option maxRecDepth 20000 in
theorem gX9_relief_X9_isKind : GoodIn wsX9_relief (va_wsS RX9 130 yX9_isKind wsX9_isKind) := goodIn_app (goodIn_of _ (by decide +kernel)) ggX9_relief_X9_isKind
set_option maxRecDepth 20000 in
theorem ggX9_relief_X9_isDay : GoodIn wsX9_relief wsX9_isDay := goodIn_r _ [17, 18] (by decide +kernel) (by decide +kernel)
set_option maxRecDepth 20000 in
theorem gX9_relief_X9_isDay : GoodIn wsX9_relief (va_wsS RX9 133 yX9_isDay wsX9_isDay) := goodIn_app (goodIn_of _ (by decide +kernel)) ggX9_relief_X9_isDay
theorem dX9_relief_0 : decode cX9_relief 0 = .ok (.aload_n 0, 1) := by decide +kernel
theorem dX9_relief_1 : decode cX9_relief 1 = .ok (.getfield 183, 3) := by decide +kernel
theorem dX9_relief_4 : decode cX9_relief 4 = .ok (.bipush 8, 2) := by decide +kernel
theorem dX9_relief_6 : decode cX9_relief 6 = .ok (.if_icmp .eq 40, 3) := by decide +kernel
theorem dX9_relief_9 : decode cX9_relief 9 = .ok (.aload_n 0, 1) := by decide +kernel
theorem dX9_relief_10 : decode cX9_relief 10 = .ok (.iload_n 1, 1) := by decide +kernel
