theorem dX12_enterCode_0 : decode cX12_enterCode 0 = .ok (.bipush 29, 2) := by decide +kernel
theorem dX12_enterCode_2 : decode cX12_enterCode 2 = .ok (.bipush 6, 2) := by decide +kernel
theorem dX12_enterCode_4 : decode cX12_enterCode 4 = .ok (.iload_n 1, 1) := by decide +kernel
theorem dX12_enterCode_5 : decode cX12_enterCode 5 = .ok (.iconst 1, 1) := by decide +kernel
theorem dX12_enterCode_6 : decode cX12_enterCode 6 = .ok (.isub, 1) := by decide +kernel
theorem dX12_enterCode_7 : decode cX12_enterCode 7 = .ok (.imul, 1) := by decide +kernel
theorem dX12_enterCode_8 : decode cX12_enterCode 8 = .ok (.iadd, 1) := by decide +kernel
theorem dX12_enterCode_9 : decode cX12_enterCode 9 = .ok (.iconst 2, 1) := by decide +kernel
theorem dX12_enterCode_10 : decode cX12_enterCode 10 = .ok (.iadd, 1) := by decide +kernel
theorem dX12_enterCode_11 : decode cX12_enterCode 11 = .ok (.istore 8, 2) := by decide +kernel
theorem dX12_enterCode_13 : decode cX12_enterCode 13 = .ok (.iload 8, 2) := by decide +kernel
theorem dX12_enterCode_15 : decode cX12_enterCode 15 = .ok (.iconst 2, 1) := by decide +kernel
theorem dX12_enterCode_16 : decode cX12_enterCode 16 = .ok (.isub, 1) := by decide +kernel
theorem dX12_enterCode_17 : decode cX12_enterCode 17 = .ok (.istore 9, 2) := by decide +kernel
theorem dX12_enterCode_19 : decode cX12_enterCode 19 = .ok (.aload_n 0, 1) := by decide +kernel
theorem dX12_enterCode_20 : decode cX12_enterCode 20 = .ok (.iload 9, 2) := by decide +kernel
theorem dX12_enterCode_22 : decode cX12_enterCode 22 = .ok (.iconst (-1), 1) := by decide +kernel
theorem dX12_enterCode_23 : decode cX12_enterCode 23 = .ok (.invokevirtual 1241, 3) := by decide +kernel
theorem dX12_enterCode_26 : decode cX12_enterCode 26 = .ok (.aload_n 0, 1) := by decide +kernel
theorem dX12_enterCode_27 : decode cX12_enterCode 27 = .ok (.sipush 639, 3) := by decide +kernel
theorem dX12_enterCode_30 : decode cX12_enterCode 30 = .ok (.iload 9, 2) := by decide +kernel
theorem dX12_enterCode_32 : decode cX12_enterCode 32 = .ok (.invokevirtual 1101, 3) := by decide +kernel
theorem dX12_enterCode_35 : decode cX12_enterCode 35 = .ok (.istore 10, 2) := by decide +kernel
theorem dX12_enterCode_37 : decode cX12_enterCode 37 = .ok (.iload 8, 2) := by decide +kernel
theorem dX12_enterCode_39 : decode cX12_enterCode 39 = .ok (.istore 11, 2) := by decide +kernel
theorem dX12_enterCode_41 : decode cX12_enterCode 41 = .ok (.iload 11, 2) := by decide +kernel
theorem dX12_enterCode_43 : decode cX12_enterCode 43 = .ok (.iload 8, 2) := by decide +kernel
theorem dX12_enterCode_45 : decode cX12_enterCode 45 = .ok (.iconst 2, 1) := by decide +kernel
theorem dX12_enterCode_46 : decode cX12_enterCode 46 = .ok (.iadd, 1) := by decide +kernel
theorem dX12_enterCode_47 : decode cX12_enterCode 47 = .ok (.if_icmp .ge 88, 3) := by decide +kernel
theorem dX12_enterCode_50 : decode cX12_enterCode 50 = .ok (.iload 11, 2) := by decide +kernel
theorem dX12_enterCode_52 : decode cX12_enterCode 52 = .ok (.iload 8, 2) := by decide +kernel
theorem dX12_enterCode_54 : decode cX12_enterCode 54 = .ok (.if_icmp .ne 10, 3) := by decide +kernel
theorem dX12_enterCode_57 : decode cX12_enterCode 57 = .ok (.iload_n 2, 1) := by decide +kernel
theorem dX12_enterCode_58 : decode cX12_enterCode 58 = .ok (.ifCond .ne 13, 3) := by decide +kernel
theorem dX12_enterCode_61 : decode cX12_enterCode 61 = .ok (.goto 68, 3) := by decide +kernel
theorem dX12_enterCode_64 : decode cX12_enterCode 64 = .ok (.iload_n 3, 1) := by decide +kernel
theorem dX12_enterCode_65 : decode cX12_enterCode 65 = .ok (.ifCond .ne 6, 3) := by decide +kernel
theorem dX12_enterCode_68 : decode cX12_enterCode 68 = .ok (.goto 61, 3) := by decide +kernel
theorem dX12_enterCode_71 : decode cX12_enterCode 71 = .ok (.aload_n 0, 1) := by decide +kernel
theorem dX12_enterCode_72 : decode cX12_enterCode 72 = .ok (.getfield 268, 3) := by decide +kernel
theorem dX12_enterCode_75 : decode cX12_enterCode 75 = .ok (.iload 10, 2) := by decide +kernel
theorem dX12_enterCode_77 : decode cX12_enterCode 77 = .ok (.aload_n 0, 1) := by decide +kernel
theorem dX12_enterCode_78 : decode cX12_enterCode 78 = .ok (.getfield 268, 3) := by decide +kernel
theorem dX12_enterCode_81 : decode cX12_enterCode 81 = .ok (.iload 10, 2) := by decide +kernel
theorem dX12_enterCode_83 : decode cX12_enterCode 83 = .ok (.laload, 1) := by decide +kernel
theorem dX12_enterCode_84 : decode cX12_enterCode 84 = .ok (.aload_n 0, 1) := by decide +kernel
theorem dX12_enterCode_85 : decode cX12_enterCode 85 = .ok (.getfield 268, 3) := by decide +kernel
theorem dX12_enterCode_88 : decode cX12_enterCode 88 = .ok (.aload_n 0, 1) := by decide +kernel
theorem dX12_enterCode_89 : decode cX12_enterCode 89 = .ok (.sipush 639, 3) := by decide +kernel
theorem dX12_enterCode_92 : decode cX12_enterCode 92 = .ok (.iload 11, 2) := by decide +kernel
theorem dX12_enterCode_94 : decode cX12_enterCode 94 = .ok (.invokevirtual 1101, 3) := by decide +kernel
theorem dX12_enterCode_97 : decode cX12_enterCode 97 = .ok (.laload, 1) := by decide +kernel
theorem dX12_enterCode_98 : decode cX12_enterCode 98 = .ok (.lor, 1) := by decide +kernel
theorem dX12_enterCode_99 : decode cX12_enterCode 99 = .ok (.lastore, 1) := by decide +kernel
theorem dX12_enterCode_100 : decode cX12_enterCode 100 = .ok (.aload_n 0, 1) := by decide +kernel
theorem dX12_enterCode_101 : decode cX12_enterCode 101 = .ok (.getfield 271, 3) := by decide +kernel
theorem dX12_enterCode_104 : decode cX12_enterCode 104 = .ok (.iload 10, 2) := by decide +kernel
theorem dX12_enterCode_106 : decode cX12_enterCode 106 = .ok (.aload_n 0, 1) := by decide +kernel
theorem dX12_enterCode_107 : decode cX12_enterCode 107 = .ok (.getfield 271, 3) := by decide +kernel
theorem dX12_enterCode_110 : decode cX12_enterCode 110 = .ok (.iload 10, 2) := by decide +kernel
theorem dX12_enterCode_112 : decode cX12_enterCode 112 = .ok (.laload, 1) := by decide +kernel
theorem dX12_enterCode_113 : decode cX12_enterCode 113 = .ok (.aload_n 0, 1) := by decide +kernel
theorem dX12_enterCode_114 : decode cX12_enterCode 114 = .ok (.getfield 271, 3) := by decide +kernel
theorem dX12_enterCode_117 : decode cX12_enterCode 117 = .ok (.aload_n 0, 1) := by decide +kernel
theorem dX12_enterCode_118 : decode cX12_enterCode 118 = .ok (.sipush 639, 3) := by decide +kernel
theorem dX12_enterCode_121 : decode cX12_enterCode 121 = .ok (.iload 11, 2) := by decide +kernel
theorem dX12_enterCode_123 : decode cX12_enterCode 123 = .ok (.invokevirtual 1101, 3) := by decide +kernel
theorem dX12_enterCode_126 : decode cX12_enterCode 126 = .ok (.laload, 1) := by decide +kernel
theorem dX12_enterCode_127 : decode cX12_enterCode 127 = .ok (.lor, 1) := by decide +kernel
theorem dX12_enterCode_128 : decode cX12_enterCode 128 = .ok (.lastore, 1) := by decide +kernel
theorem dX12_enterCode_129 : decode cX12_enterCode 129 = .ok (.iinc 11 1, 3) := by decide +kernel
theorem dX12_enterCode_132 : decode cX12_enterCode 132 = .ok (.goto (-91), 3) := by decide +kernel
theorem dX12_enterCode_135 : decode cX12_enterCode 135 = .ok (.iconst 0, 1) := by decide +kernel
theorem dX12_enterCode_136 : decode cX12_enterCode 136 = .ok (.istore 11, 2) := by decide +kernel
theorem dX12_enterCode_138 : decode cX12_enterCode 138 = .ok (.iload 11, 2) := by decide +kernel
theorem dX12_enterCode_140 : decode cX12_enterCode 140 = .ok (.aload_n 0, 1) := by decide +kernel
theorem dX12_enterCode_141 : decode cX12_enterCode 141 = .ok (.getfield 110, 3) := by decide +kernel
theorem dX12_enterCode_144 : decode cX12_enterCode 144 = .ok (.iload_n 1, 1) := by decide +kernel
theorem dX12_enterCode_145 : decode cX12_enterCode 145 = .ok (.iaload, 1) := by decide +kernel
theorem dX12_enterCode_146 : decode cX12_enterCode 146 = .ok (.if_icmp .ge 157, 3) := by decide +kernel
theorem dX12_enterCode_149 : decode cX12_enterCode 149 = .ok (.aload_n 0, 1) := by decide +kernel
theorem dX12_enterCode_150 : decode cX12_enterCode 150 = .ok (.iload 9, 2) := by decide +kernel
theorem dX12_enterCode_152 : decode cX12_enterCode 152 = .ok (.aload_n 0, 1) := by decide +kernel
theorem dX12_enterCode_153 : decode cX12_enterCode 153 = .ok (.getfield 107, 3) := by decide +kernel
theorem dX12_enterCode_156 : decode cX12_enterCode 156 = .ok (.bipush 100, 2) := by decide +kernel
theorem dX12_enterCode_158 : decode cX12_enterCode 158 = .ok (.iload_n 1, 1) := by decide +kernel
theorem dX12_enterCode_159 : decode cX12_enterCode 159 = .ok (.imul, 1) := by decide +kernel
theorem dX12_enterCode_160 : decode cX12_enterCode 160 = .ok (.iload 11, 2) := by decide +kernel
theorem dX12_enterCode_162 : decode cX12_enterCode 162 = .ok (.iadd, 1) := by decide +kernel
theorem dX12_enterCode_163 : decode cX12_enterCode 163 = .ok (.iaload, 1) := by decide +kernel
theorem dX12_enterCode_164 : decode cX12_enterCode 164 = .ok (.invokevirtual 1244, 3) := by decide +kernel
theorem dX12_enterCode_167 : decode cX12_enterCode 167 = .ok (.istore 12, 2) := by decide +kernel
theorem dX12_enterCode_169 : decode cX12_enterCode 169 = .ok (.iload 11, 2) := by decide +kernel
theorem dX12_enterCode_171 : decode cX12_enterCode 171 = .ok (.aload_n 0, 1) := by decide +kernel
theorem dX12_enterCode_172 : decode cX12_enterCode 172 = .ok (.getfield 71, 3) := by decide +kernel
theorem dX12_enterCode_175 : decode cX12_enterCode 175 = .ok (.iload_n 1, 1) := by decide +kernel
theorem dX12_enterCode_176 : decode cX12_enterCode 176 = .ok (.iaload, 1) := by decide +kernel
theorem dX12_enterCode_177 : decode cX12_enterCode 177 = .ok (.if_icmp .lt 37, 3) := by decide +kernel
theorem dX12_enterCode_180 : decode cX12_enterCode 180 = .ok (.aload_n 0, 1) := by decide +kernel
theorem dX12_enterCode_181 : decode cX12_enterCode 181 = .ok (.getfield 65, 3) := by decide +kernel
theorem dX12_enterCode_184 : decode cX12_enterCode 184 = .ok (.iload_n 1, 1) := by decide +kernel
theorem dX12_enterCode_185 : decode cX12_enterCode 185 = .ok (.baload, 1) := by decide +kernel
theorem dX12_enterCode_186 : decode cX12_enterCode 186 = .ok (.ifCond .ne 28, 3) := by decide +kernel
theorem dX12_enterCode_189 : decode cX12_enterCode 189 = .ok (.aload_n 0, 1) := by decide +kernel
theorem dX12_enterCode_190 : decode cX12_enterCode 190 = .ok (.getfield 107, 3) := by decide +kernel
theorem dX12_enterCode_193 : decode cX12_enterCode 193 = .ok (.bipush 100, 2) := by decide +kernel
theorem dX12_enterCode_195 : decode cX12_enterCode 195 = .ok (.iload_n 1, 1) := by decide +kernel
theorem dX12_enterCode_196 : decode cX12_enterCode 196 = .ok (.imul, 1) := by decide +kernel
theorem dX12_enterCode_197 : decode cX12_enterCode 197 = .ok (.iload 11, 2) := by decide +kernel
theorem dX12_enterCode_199 : decode cX12_enterCode 199 = .ok (.iadd, 1) := by decide +kernel
theorem dX12_enterCode_200 : decode cX12_enterCode 200 = .ok (.iaload, 1) := by decide +kernel
theorem dX12_enterCode_201 : decode cX12_enterCode 201 = .ok (.aload_n 0, 1) := by decide +kernel
theorem dX12_enterCode_202 : decode cX12_enterCode 202 = .ok (.getfield 62, 3) := by decide +kernel
theorem dX12_enterCode_205 : decode cX12_enterCode 205 = .ok (.iload_n 1, 1) := by decide +kernel
theorem dX12_enterCode_206 : decode cX12_enterCode 206 = .ok (.iaload, 1) := by decide +kernel
theorem dX12_enterCode_207 : decode cX12_enterCode 207 = .ok (.if_icmp .ne 7, 3) := by decide +kernel
theorem dX12_enterCode_210 : decode cX12_enterCode 210 = .ok (.iconst 1, 1) := by decide +kernel
theorem dX12_enterCode_211 : decode cX12_enterCode 211 = .ok (.goto 4, 3) := by decide +kernel
theorem dX12_enterCode_214 : decode cX12_enterCode 214 = .ok (.iconst 0, 1) := by decide +kernel
theorem dX12_enterCode_215 : decode cX12_enterCode 215 = .ok (.istore 13, 2) := by decide +kernel
theorem dX12_enterCode_217 : decode cX12_enterCode 217 = .ok (.iload 11, 2) := by decide +kernel
theorem dX12_enterCode_219 : decode cX12_enterCode 219 = .ok (.aload_n 0, 1) := by decide +kernel
theorem dX12_enterCode_220 : decode cX12_enterCode 220 = .ok (.getfield 71, 3) := by decide +kernel
theorem dX12_enterCode_223 : decode cX12_enterCode 223 = .ok (.iload_n 1, 1) := by decide +kernel
theorem dX12_enterCode_224 : decode cX12_enterCode 224 = .ok (.iaload, 1) := by decide +kernel
theorem dX12_enterCode_225 : decode cX12_enterCode 225 = .ok (.if_icmp .ge 31, 3) := by decide +kernel
theorem dX12_enterCode_228 : decode cX12_enterCode 228 = .ok (.iload 11, 2) := by decide +kernel
theorem dX12_enterCode_230 : decode cX12_enterCode 230 = .ok (.iload 6, 2) := by decide +kernel
theorem dX12_enterCode_232 : decode cX12_enterCode 232 = .ok (.if_icmp .ge 24, 3) := by decide +kernel
theorem dX12_enterCode_235 : decode cX12_enterCode 235 = .ok (.aload_n 0, 1) := by decide +kernel
theorem dX12_enterCode_236 : decode cX12_enterCode 236 = .ok (.aload_n 0, 1) := by decide +kernel
theorem dX12_enterCode_237 : decode cX12_enterCode 237 = .ok (.sipush 639, 3) := by decide +kernel
theorem dX12_enterCode_240 : decode cX12_enterCode 240 = .ok (.iload 5, 2) := by decide +kernel
theorem dX12_enterCode_242 : decode cX12_enterCode 242 = .ok (.iload 11, 2) := by decide +kernel
theorem dX12_enterCode_244 : decode cX12_enterCode 244 = .ok (.iadd, 1) := by decide +kernel
theorem dX12_enterCode_245 : decode cX12_enterCode 245 = .ok (.invokevirtual 1323, 3) := by decide +kernel
theorem dX12_enterCode_248 : decode cX12_enterCode 248 = .ok (.iload 12, 2) := by decide +kernel
theorem dX12_enterCode_250 : decode cX12_enterCode 250 = .ok (.invokevirtual 1092, 3) := by decide +kernel
theorem dX12_enterCode_253 : decode cX12_enterCode 253 = .ok (.goto 44, 3) := by decide +kernel
theorem dX12_enterCode_256 : decode cX12_enterCode 256 = .ok (.iload 13, 2) := by decide +kernel
theorem dX12_enterCode_258 : decode cX12_enterCode 258 = .ok (.ifCond .eq 32, 3) := by decide +kernel
theorem dX12_enterCode_261 : decode cX12_enterCode 261 = .ok (.iload_n 2, 1) := by decide +kernel
theorem dX12_enterCode_262 : decode cX12_enterCode 262 = .ok (.ifCond .eq 11, 3) := by decide +kernel
theorem dX12_enterCode_265 : decode cX12_enterCode 265 = .ok (.aload_n 0, 1) := by decide +kernel
theorem dX12_enterCode_266 : decode cX12_enterCode 266 = .ok (.iload 12, 2) := by decide +kernel
theorem dX12_enterCode_268 : decode cX12_enterCode 268 = .ok (.iload 8, 2) := by decide +kernel
theorem dX12_enterCode_270 : decode cX12_enterCode 270 = .ok (.invokevirtual 1081, 3) := by decide +kernel
theorem dX12_enterCode_273 : decode cX12_enterCode 273 = .ok (.iload_n 3, 1) := by decide +kernel
theorem dX12_enterCode_274 : decode cX12_enterCode 274 = .ok (.ifCond .eq 23, 3) := by decide +kernel
theorem dX12_enterCode_277 : decode cX12_enterCode 277 = .ok (.aload_n 0, 1) := by decide +kernel
theorem dX12_enterCode_278 : decode cX12_enterCode 278 = .ok (.iload 12, 2) := by decide +kernel
theorem dX12_enterCode_280 : decode cX12_enterCode 280 = .ok (.iload 8, 2) := by decide +kernel
theorem dX12_enterCode_282 : decode cX12_enterCode 282 = .ok (.iconst 1, 1) := by decide +kernel
theorem dX12_enterCode_283 : decode cX12_enterCode 283 = .ok (.iadd, 1) := by decide +kernel
theorem dX12_enterCode_284 : decode cX12_enterCode 284 = .ok (.invokevirtual 1081, 3) := by decide +kernel
theorem dX12_enterCode_287 : decode cX12_enterCode 287 = .ok (.goto 10, 3) := by decide +kernel
theorem dX12_enterCode_290 : decode cX12_enterCode 290 = .ok (.aload_n 0, 1) := by decide +kernel
theorem dX12_enterCode_291 : decode cX12_enterCode 291 = .ok (.iload 12, 2) := by decide +kernel
theorem dX12_enterCode_293 : decode cX12_enterCode 293 = .ok (.iconst 1, 1) := by decide +kernel
theorem dX12_enterCode_294 : decode cX12_enterCode 294 = .ok (.invokevirtual 1072, 3) := by decide +kernel
theorem dX12_enterCode_297 : decode cX12_enterCode 297 = .ok (.iinc 11 1, 3) := by decide +kernel
theorem dX12_enterCode_300 : decode cX12_enterCode 300 = .ok (.goto (-162), 3) := by decide +kernel
theorem dX12_enterCode_303 : decode cX12_enterCode 303 = .ok (.ldc_w 1357, 3) := by decide +kernel
theorem dX12_enterCode_306 : decode cX12_enterCode 306 = .ok (.istore 11, 2) := by decide +kernel
theorem dX12_enterCode_308 : decode cX12_enterCode 308 = .ok (.aload_n 0, 1) := by decide +kernel
theorem dX12_enterCode_309 : decode cX12_enterCode 309 = .ok (.iload 11, 2) := by decide +kernel
theorem dX12_enterCode_311 : decode cX12_enterCode 311 = .ok (.invokevirtual 1066, 3) := by decide +kernel
theorem dX12_enterCode_314 : decode cX12_enterCode 314 = .ok (.iload 7, 2) := by decide +kernel
theorem dX12_enterCode_316 : decode cX12_enterCode 316 = .ok (.iconst (-1), 1) := by decide +kernel
theorem dX12_enterCode_317 : decode cX12_enterCode 317 = .ok (.if_icmp .eq 18, 3) := by decide +kernel
theorem dX12_enterCode_320 : decode cX12_enterCode 320 = .ok (.aload_n 0, 1) := by decide +kernel
theorem dX12_enterCode_321 : decode cX12_enterCode 321 = .ok (.iload 11, 2) := by decide +kernel
theorem dX12_enterCode_323 : decode cX12_enterCode 323 = .ok (.aload_n 0, 1) := by decide +kernel
theorem dX12_enterCode_324 : decode cX12_enterCode 324 = .ok (.iload 7, 2) := by decide +kernel
theorem dX12_enterCode_326 : decode cX12_enterCode 326 = .ok (.invokevirtual 920, 3) := by decide +kernel
theorem dX12_enterCode_329 : decode cX12_enterCode 329 = .ok (.invokevirtual 1081, 3) := by decide +kernel
theorem dX12_enterCode_332 : decode cX12_enterCode 332 = .ok (.goto 34, 3) := by decide +kernel
theorem dX12_enterCode_335 : decode cX12_enterCode 335 = .ok (.iload 4, 2) := by decide +kernel
theorem dX12_enterCode_337 : decode cX12_enterCode 337 = .ok (.iconst (-1), 1) := by decide +kernel
theorem dX12_enterCode_338 : decode cX12_enterCode 338 = .ok (.if_icmp .ne 13, 3) := by decide +kernel
theorem dX12_enterCode_341 : decode cX12_enterCode 341 = .ok (.aload_n 0, 1) := by decide +kernel
theorem dX12_enterCode_342 : decode cX12_enterCode 342 = .ok (.iload 11, 2) := by decide +kernel
theorem dX12_enterCode_344 : decode cX12_enterCode 344 = .ok (.iconst 1, 1) := by decide +kernel
theorem dX12_enterCode_345 : decode cX12_enterCode 345 = .ok (.invokevirtual 1072, 3) := by decide +kernel
theorem dX12_enterCode_348 : decode cX12_enterCode 348 = .ok (.goto 18, 3) := by decide +kernel
theorem dX12_enterCode_351 : decode cX12_enterCode 351 = .ok (.aload_n 0, 1) := by decide +kernel
theorem dX12_enterCode_352 : decode cX12_enterCode 352 = .ok (.aload_n 0, 1) := by decide +kernel
theorem dX12_enterCode_353 : decode cX12_enterCode 353 = .ok (.sipush 639, 3) := by decide +kernel
theorem dX12_enterCode_356 : decode cX12_enterCode 356 = .ok (.iload 4, 2) := by decide +kernel
theorem dX12_enterCode_358 : decode cX12_enterCode 358 = .ok (.invokevirtual 1323, 3) := by decide +kernel
theorem dX12_enterCode_361 : decode cX12_enterCode 361 = .ok (.iload 11, 2) := by decide +kernel
theorem dX12_enterCode_363 : decode cX12_enterCode 363 = .ok (.invokevirtual 1092, 3) := by decide +kernel
theorem dX12_enterCode_366 : decode cX12_enterCode 366 = .ok (.aload_n 0, 1) := by decide +kernel
theorem dX12_enterCode_367 : decode cX12_enterCode 367 = .ok (.iload 11, 2) := by decide +kernel
theorem dX12_enterCode_369 : decode cX12_enterCode 369 = .ok (.aload_n 0, 1) := by decide +kernel
theorem dX12_enterCode_370 : decode cX12_enterCode 370 = .ok (.sipush 639, 3) := by decide +kernel
theorem dX12_enterCode_373 : decode cX12_enterCode 373 = .ok (.invokevirtual 1098, 3) := by decide +kernel
theorem dX12_enterCode_376 : decode cX12_enterCode 376 = .ok (.invokevirtual 1092, 3) := by decide +kernel
theorem dX12_enterCode_379 : decode cX12_enterCode 379 = .ok (.aload_n 0, 1) := by decide +kernel
theorem dX12_enterCode_380 : decode cX12_enterCode 380 = .ok (.getfield 235, 3) := by decide +kernel
theorem dX12_enterCode_383 : decode cX12_enterCode 383 = .ok (.sipush 639, 3) := by decide +kernel
theorem dX12_enterCode_386 : decode cX12_enterCode 386 = .ok (.iconst 0, 1) := by decide +kernel
theorem dX12_enterCode_387 : decode cX12_enterCode 387 = .ok (.iastore, 1) := by decide +kernel
theorem dX12_enterCode_388 : decode cX12_enterCode 388 = .ok (.aload_n 0, 1) := by decide +kernel
theorem dX12_enterCode_389 : decode cX12_enterCode 389 = .ok (.getfield 247, 3) := by decide +kernel
theorem dX12_enterCode_392 : decode cX12_enterCode 392 = .ok (.sipush 639, 3) := by decide +kernel
theorem dX12_enterCode_395 : decode cX12_enterCode 395 = .ok (.iconst 0, 1) := by decide +kernel
theorem dX12_enterCode_396 : decode cX12_enterCode 396 = .ok (.iastore, 1) := by decide +kernel
theorem dX12_enterCode_397 : decode cX12_enterCode 397 = .ok (.aload_n 0, 1) := by decide +kernel
theorem dX12_enterCode_398 : decode cX12_enterCode 398 = .ok (.getfield 241, 3) := by decide +kernel
theorem dX12_enterCode_401 : decode cX12_enterCode 401 = .ok (.sipush 639, 3) := by decide +kernel
theorem dX12_enterCode_404 : decode cX12_enterCode 404 = .ok (.lconst 0, 1) := by decide +kernel
theorem dX12_enterCode_405 : decode cX12_enterCode 405 = .ok (.lastore, 1) := by decide +kernel
theorem dX12_enterCode_406 : decode cX12_enterCode 406 = .ok (.aload_n 0, 1) := by decide +kernel
theorem dX12_enterCode_407 : decode cX12_enterCode 407 = .ok (.getfield 244, 3) := by decide +kernel
theorem dX12_enterCode_410 : decode cX12_enterCode 410 = .ok (.sipush 639, 3) := by decide +kernel
theorem dX12_enterCode_413 : decode cX12_enterCode 413 = .ok (.lconst 0, 1) := by decide +kernel
theorem dX12_enterCode_414 : decode cX12_enterCode 414 = .ok (.lastore, 1) := by decide +kernel
theorem dX12_enterCode_415 : decode cX12_enterCode 415 = .ok (.iload 9, 2) := by decide +kernel
theorem dX12_enterCode_417 : decode cX12_enterCode 417 = .ok (.bipush 64, 2) := by decide +kernel
theorem dX12_enterCode_419 : decode cX12_enterCode 419 = .ok (.if_icmp .ge 18, 3) := by decide +kernel
theorem dX12_enterCode_422 : decode cX12_enterCode 422 = .ok (.aload_n 0, 1) := by decide +kernel
theorem dX12_enterCode_423 : decode cX12_enterCode 423 = .ok (.getfield 241, 3) := by decide +kernel
theorem dX12_enterCode_426 : decode cX12_enterCode 426 = .ok (.sipush 639, 3) := by decide +kernel
theorem dX12_enterCode_429 : decode cX12_enterCode 429 = .ok (.lconst 1, 1) := by decide +kernel
theorem dX12_enterCode_430 : decode cX12_enterCode 430 = .ok (.iload 9, 2) := by decide +kernel
theorem dX12_enterCode_432 : decode cX12_enterCode 432 = .ok (.lshl, 1) := by decide +kernel
theorem dX12_enterCode_433 : decode cX12_enterCode 433 = .ok (.lastore, 1) := by decide +kernel
theorem dX12_enterCode_434 : decode cX12_enterCode 434 = .ok (.goto 18, 3) := by decide +kernel
theorem dX12_enterCode_437 : decode cX12_enterCode 437 = .ok (.aload_n 0, 1) := by decide +kernel
theorem dX12_enterCode_438 : decode cX12_enterCode 438 = .ok (.getfield 244, 3) := by decide +kernel
theorem dX12_enterCode_441 : decode cX12_enterCode 441 = .ok (.sipush 639, 3) := by decide +kernel
theorem dX12_enterCode_444 : decode cX12_enterCode 444 = .ok (.lconst 1, 1) := by decide +kernel
theorem dX12_enterCode_445 : decode cX12_enterCode 445 = .ok (.iload 9, 2) := by decide +kernel
theorem dX12_enterCode_447 : decode cX12_enterCode 447 = .ok (.bipush 64, 2) := by decide +kernel
theorem dX12_enterCode_449 : decode cX12_enterCode 449 = .ok (.isub, 1) := by decide +kernel
theorem dX12_enterCode_450 : decode cX12_enterCode 450 = .ok (.lshl, 1) := by decide +kernel
theorem dX12_enterCode_451 : decode cX12_enterCode 451 = .ok (.lastore, 1) := by decide +kernel
theorem dX12_enterCode_452 : decode cX12_enterCode 452 = .ok (.aload_n 0, 1) := by decide +kernel
theorem dX12_enterCode_453 : decode cX12_enterCode 453 = .ok (.aload_n 0, 1) := by decide +kernel
theorem dX12_enterCode_454 : decode cX12_enterCode 454 = .ok (.getfield 101, 3) := by decide +kernel
theorem dX12_enterCode_457 : decode cX12_enterCode 457 = .ok (.iload_n 1, 1) := by decide +kernel
theorem dX12_enterCode_458 : decode cX12_enterCode 458 = .ok (.iaload, 1) := by decide +kernel
theorem dX12_enterCode_459 : decode cX12_enterCode 459 = .ok (.invokevirtual 1191, 3) := by decide +kernel
theorem dX12_enterCode_462 : decode cX12_enterCode 462 = .ok (.return_, 1) := by decide +kernel
theorem dX12_codeWays_0 : decode cX12_codeWays 0 = .ok (.bipush 29, 2) := by decide +kernel
theorem dX12_codeWays_2 : decode cX12_codeWays 2 = .ok (.bipush 6, 2) := by decide +kernel
theorem dX12_codeWays_4 : decode cX12_codeWays 4 = .ok (.iload_n 1, 1) := by decide +kernel
theorem dX12_codeWays_5 : decode cX12_codeWays 5 = .ok (.iconst 1, 1) := by decide +kernel
theorem dX12_codeWays_6 : decode cX12_codeWays 6 = .ok (.isub, 1) := by decide +kernel
theorem dX12_codeWays_7 : decode cX12_codeWays 7 = .ok (.imul, 1) := by decide +kernel
theorem dX12_codeWays_8 : decode cX12_codeWays 8 = .ok (.iadd, 1) := by decide +kernel
theorem dX12_codeWays_9 : decode cX12_codeWays 9 = .ok (.iconst 2, 1) := by decide +kernel
theorem dX12_codeWays_10 : decode cX12_codeWays 10 = .ok (.iadd, 1) := by decide +kernel
theorem dX12_codeWays_11 : decode cX12_codeWays 11 = .ok (.istore 11, 2) := by decide +kernel
theorem dX12_codeWays_13 : decode cX12_codeWays 13 = .ok (.lload_n 2, 1) := by decide +kernel
theorem dX12_codeWays_14 : decode cX12_codeWays 14 = .ok (.lload 4, 2) := by decide +kernel
theorem dX12_codeWays_16 : decode cX12_codeWays 16 = .ok (.iload 11, 2) := by decide +kernel
theorem dX12_codeWays_18 : decode cX12_codeWays 18 = .ok (.invokestatic 1125, 3) := by decide +kernel
theorem dX12_codeWays_21 : decode cX12_codeWays 21 = .ok (.istore 12, 2) := by decide +kernel
theorem dX12_codeWays_23 : decode cX12_codeWays 23 = .ok (.lload_n 2, 1) := by decide +kernel
theorem dX12_codeWays_24 : decode cX12_codeWays 24 = .ok (.lload 4, 2) := by decide +kernel
theorem dX12_codeWays_26 : decode cX12_codeWays 26 = .ok (.iload 11, 2) := by decide +kernel
theorem dX12_codeWays_28 : decode cX12_codeWays 28 = .ok (.iconst 1, 1) := by decide +kernel
theorem dX12_codeWays_29 : decode cX12_codeWays 29 = .ok (.iadd, 1) := by decide +kernel
theorem dX12_codeWays_30 : decode cX12_codeWays 30 = .ok (.invokestatic 1125, 3) := by decide +kernel
theorem dX12_codeWays_33 : decode cX12_codeWays 33 = .ok (.istore 13, 2) := by decide +kernel
theorem dX12_codeWays_35 : decode cX12_codeWays 35 = .ok (.iload 12, 2) := by decide +kernel
theorem dX12_codeWays_37 : decode cX12_codeWays 37 = .ok (.ifCond .ne 9, 3) := by decide +kernel
theorem dX12_codeWays_40 : decode cX12_codeWays 40 = .ok (.iload 13, 2) := by decide +kernel
theorem dX12_codeWays_42 : decode cX12_codeWays 42 = .ok (.ifCond .ne 4, 3) := by decide +kernel
theorem dX12_codeWays_45 : decode cX12_codeWays 45 = .ok (.return_, 1) := by decide +kernel
theorem dX12_codeWays_46 : decode cX12_codeWays 46 = .ok (.aload_n 0, 1) := by decide +kernel
theorem dX12_codeWays_47 : decode cX12_codeWays 47 = .ok (.lload_n 2, 1) := by decide +kernel
theorem dX12_codeWays_48 : decode cX12_codeWays 48 = .ok (.lload 4, 2) := by decide +kernel
theorem dX12_codeWays_50 : decode cX12_codeWays 50 = .ok (.iload 10, 2) := by decide +kernel
theorem dX12_codeWays_52 : decode cX12_codeWays 52 = .ok (.invokevirtual 1336, 3) := by decide +kernel
theorem dX12_codeWays_55 : decode cX12_codeWays 55 = .ok (.aload_n 0, 1) := by decide +kernel
theorem dX12_codeWays_56 : decode cX12_codeWays 56 = .ok (.iload_n 1, 1) := by decide +kernel
theorem dX12_codeWays_57 : decode cX12_codeWays 57 = .ok (.iload 12, 2) := by decide +kernel
theorem dX12_codeWays_59 : decode cX12_codeWays 59 = .ok (.iload 13, 2) := by decide +kernel
theorem dX12_codeWays_61 : decode cX12_codeWays 61 = .ok (.iload 6, 2) := by decide +kernel
theorem dX12_codeWays_63 : decode cX12_codeWays 63 = .ok (.iload 7, 2) := by decide +kernel
theorem dX12_codeWays_65 : decode cX12_codeWays 65 = .ok (.iload 8, 2) := by decide +kernel
theorem dX12_codeWays_67 : decode cX12_codeWays 67 = .ok (.iload 10, 2) := by decide +kernel
theorem dX12_codeWays_69 : decode cX12_codeWays 69 = .ok (.invokevirtual 1342, 3) := by decide +kernel
theorem dX12_codeWays_72 : decode cX12_codeWays 72 = .ok (.aload_n 0, 1) := by decide +kernel
theorem dX12_codeWays_73 : decode cX12_codeWays 73 = .ok (.getfield 606, 3) := by decide +kernel
theorem dX12_codeWays_76 : decode cX12_codeWays 76 = .ok (.iconst 2, 1) := by decide +kernel
theorem dX12_codeWays_77 : decode cX12_codeWays 77 = .ok (.iload_n 1, 1) := by decide +kernel
theorem dX12_codeWays_78 : decode cX12_codeWays 78 = .ok (.imul, 1) := by decide +kernel
theorem dX12_codeWays_79 : decode cX12_codeWays 79 = .ok (.iadd, 1) := by decide +kernel
theorem dX12_codeWays_80 : decode cX12_codeWays 80 = .ok (.istore 14, 2) := by decide +kernel
theorem dX12_codeWays_82 : decode cX12_codeWays 82 = .ok (.aload_n 0, 1) := by decide +kernel
theorem dX12_codeWays_83 : decode cX12_codeWays 83 = .ok (.getfield 226, 3) := by decide +kernel
theorem dX12_codeWays_86 : decode cX12_codeWays 86 = .ok (.iload 14, 2) := by decide +kernel
theorem dX12_codeWays_88 : decode cX12_codeWays 88 = .ok (.baload, 1) := by decide +kernel
theorem dX12_codeWays_89 : decode cX12_codeWays 89 = .ok (.ifCond .eq 100, 3) := by decide +kernel
theorem dX12_codeWays_92 : decode cX12_codeWays 92 = .ok (.aload_n 0, 1) := by decide +kernel
theorem dX12_codeWays_93 : decode cX12_codeWays 93 = .ok (.lload_n 2, 1) := by decide +kernel
theorem dX12_codeWays_94 : decode cX12_codeWays 94 = .ok (.lload 4, 2) := by decide +kernel
theorem dX12_codeWays_96 : decode cX12_codeWays 96 = .ok (.iload 10, 2) := by decide +kernel
theorem dX12_codeWays_98 : decode cX12_codeWays 98 = .ok (.invokevirtual 1336, 3) := by decide +kernel
theorem dX12_codeWays_101 : decode cX12_codeWays 101 = .ok (.aload_n 0, 1) := by decide +kernel
theorem dX12_codeWays_102 : decode cX12_codeWays 102 = .ok (.iload 14, 2) := by decide +kernel
theorem dX12_codeWays_104 : decode cX12_codeWays 104 = .ok (.invokevirtual 1346, 3) := by decide +kernel
theorem dX12_codeWays_107 : decode cX12_codeWays 107 = .ok (.ldc_w 1349, 3) := by decide +kernel
theorem dX12_codeWays_110 : decode cX12_codeWays 110 = .ok (.istore 15, 2) := by decide +kernel
theorem dX12_codeWays_112 : decode cX12_codeWays 112 = .ok (.aload_n 0, 1) := by decide +kernel
theorem dX12_codeWays_113 : decode cX12_codeWays 113 = .ok (.aload_n 0, 1) := by decide +kernel
theorem dX12_codeWays_114 : decode cX12_codeWays 114 = .ok (.getfield 238, 3) := by decide +kernel
theorem dX12_codeWays_117 : decode cX12_codeWays 117 = .ok (.iload 14, 2) := by decide +kernel
theorem dX12_codeWays_119 : decode cX12_codeWays 119 = .ok (.iaload, 1) := by decide +kernel
theorem dX12_codeWays_120 : decode cX12_codeWays 120 = .ok (.iload 15, 2) := by decide +kernel
theorem dX12_codeWays_122 : decode cX12_codeWays 122 = .ok (.invokevirtual 1092, 3) := by decide +kernel
theorem dX12_codeWays_125 : decode cX12_codeWays 125 = .ok (.iload 10, 2) := by decide +kernel
theorem dX12_codeWays_127 : decode cX12_codeWays 127 = .ok (.iconst (-1), 1) := by decide +kernel
theorem dX12_codeWays_128 : decode cX12_codeWays 128 = .ok (.if_icmp .eq 38, 3) := by decide +kernel
theorem dX12_codeWays_131 : decode cX12_codeWays 131 = .ok (.aload_n 0, 1) := by decide +kernel
theorem dX12_codeWays_132 : decode cX12_codeWays 132 = .ok (.iload 15, 2) := by decide +kernel
theorem dX12_codeWays_134 : decode cX12_codeWays 134 = .ok (.invokevirtual 1059, 3) := by decide +kernel
theorem dX12_codeWays_137 : decode cX12_codeWays 137 = .ok (.ifCond .eq 29, 3) := by decide +kernel
theorem dX12_codeWays_140 : decode cX12_codeWays 140 = .ok (.aload_n 0, 1) := by decide +kernel
theorem dX12_codeWays_141 : decode cX12_codeWays 141 = .ok (.iload 15, 2) := by decide +kernel
theorem dX12_codeWays_143 : decode cX12_codeWays 143 = .ok (.aload_n 0, 1) := by decide +kernel
theorem dX12_codeWays_144 : decode cX12_codeWays 144 = .ok (.iload 10, 2) := by decide +kernel
theorem dX12_codeWays_146 : decode cX12_codeWays 146 = .ok (.invokevirtual 920, 3) := by decide +kernel
theorem dX12_codeWays_149 : decode cX12_codeWays 149 = .ok (.invokevirtual 1081, 3) := by decide +kernel
theorem dX12_codeWays_152 : decode cX12_codeWays 152 = .ok (.aload_n 0, 1) := by decide +kernel
theorem dX12_codeWays_153 : decode cX12_codeWays 153 = .ok (.iload 15, 2) := by decide +kernel
theorem dX12_codeWays_155 : decode cX12_codeWays 155 = .ok (.aload_n 0, 1) := by decide +kernel
theorem dX12_codeWays_156 : decode cX12_codeWays 156 = .ok (.iload 10, 2) := by decide +kernel
theorem dX12_codeWays_158 : decode cX12_codeWays 158 = .ok (.invokevirtual 920, 3) := by decide +kernel
theorem dX12_codeWays_161 : decode cX12_codeWays 161 = .ok (.iconst 1, 1) := by decide +kernel
theorem dX12_codeWays_162 : decode cX12_codeWays 162 = .ok (.iadd, 1) := by decide +kernel
theorem dX12_codeWays_163 : decode cX12_codeWays 163 = .ok (.invokevirtual 1081, 3) := by decide +kernel
theorem dX12_codeWays_166 : decode cX12_codeWays 166 = .ok (.iload 10, 2) := by decide +kernel
theorem dX12_codeWays_168 : decode cX12_codeWays 168 = .ok (.iconst (-1), 1) := by decide +kernel
theorem dX12_codeWays_169 : decode cX12_codeWays 169 = .ok (.if_icmp .eq 12, 3) := by decide +kernel
theorem dX12_codeWays_172 : decode cX12_codeWays 172 = .ok (.aload_n 0, 1) := by decide +kernel
theorem dX12_codeWays_173 : decode cX12_codeWays 173 = .ok (.iload 15, 2) := by decide +kernel
theorem dX12_codeWays_175 : decode cX12_codeWays 175 = .ok (.iconst 0, 1) := by decide +kernel
theorem dX12_codeWays_176 : decode cX12_codeWays 176 = .ok (.iconst 0, 1) := by decide +kernel
theorem dX12_codeWays_177 : decode cX12_codeWays 177 = .ok (.iconst 0, 1) := by decide +kernel
theorem dX12_codeWays_178 : decode cX12_codeWays 178 = .ok (.invokevirtual 1056, 3) := by decide +kernel
theorem dX12_codeWays_181 : decode cX12_codeWays 181 = .ok (.aload_n 0, 1) := by decide +kernel
theorem dX12_codeWays_182 : decode cX12_codeWays 182 = .ok (.iload 9, 2) := by decide +kernel
theorem dX12_codeWays_184 : decode cX12_codeWays 184 = .ok (.iload 15, 2) := by decide +kernel
theorem dX12_codeWays_186 : decode cX12_codeWays 186 = .ok (.invokevirtual 1258, 3) := by decide +kernel
theorem dX12_codeWays_189 : decode cX12_codeWays 189 = .ok (.aload_n 0, 1) := by decide +kernel
theorem dX12_codeWays_190 : decode cX12_codeWays 190 = .ok (.getfield 226, 3) := by decide +kernel
theorem dX12_codeWays_193 : decode cX12_codeWays 193 = .ok (.iload 14, 2) := by decide +kernel
theorem dX12_codeWays_195 : decode cX12_codeWays 195 = .ok (.iconst 1, 1) := by decide +kernel
theorem dX12_codeWays_196 : decode cX12_codeWays 196 = .ok (.iadd, 1) := by decide +kernel
theorem dX12_codeWays_197 : decode cX12_codeWays 197 = .ok (.baload, 1) := by decide +kernel
theorem dX12_codeWays_198 : decode cX12_codeWays 198 = .ok (.ifCond .eq 46, 3) := by decide +kernel
theorem dX12_codeWays_201 : decode cX12_codeWays 201 = .ok (.aload_n 0, 1) := by decide +kernel
theorem dX12_codeWays_202 : decode cX12_codeWays 202 = .ok (.lload_n 2, 1) := by decide +kernel
theorem dX12_codeWays_203 : decode cX12_codeWays 203 = .ok (.lload 4, 2) := by decide +kernel
theorem dX12_codeWays_205 : decode cX12_codeWays 205 = .ok (.iload 10, 2) := by decide +kernel
theorem dX12_codeWays_207 : decode cX12_codeWays 207 = .ok (.invokevirtual 1336, 3) := by decide +kernel
theorem dX12_codeWays_210 : decode cX12_codeWays 210 = .ok (.aload_n 0, 1) := by decide +kernel
theorem dX12_codeWays_211 : decode cX12_codeWays 211 = .ok (.iload 14, 2) := by decide +kernel
theorem dX12_codeWays_213 : decode cX12_codeWays 213 = .ok (.iconst 1, 1) := by decide +kernel
theorem dX12_codeWays_214 : decode cX12_codeWays 214 = .ok (.iadd, 1) := by decide +kernel
theorem dX12_codeWays_215 : decode cX12_codeWays 215 = .ok (.invokevirtual 1346, 3) := by decide +kernel
theorem dX12_codeWays_218 : decode cX12_codeWays 218 = .ok (.ldc_w 1349, 3) := by decide +kernel
theorem dX12_codeWays_221 : decode cX12_codeWays 221 = .ok (.istore 15, 2) := by decide +kernel
theorem dX12_codeWays_223 : decode cX12_codeWays 223 = .ok (.aload_n 0, 1) := by decide +kernel
theorem dX12_codeWays_224 : decode cX12_codeWays 224 = .ok (.aload_n 0, 1) := by decide +kernel
theorem dX12_codeWays_225 : decode cX12_codeWays 225 = .ok (.getfield 238, 3) := by decide +kernel
theorem dX12_codeWays_228 : decode cX12_codeWays 228 = .ok (.iload 14, 2) := by decide +kernel
theorem dX12_codeWays_230 : decode cX12_codeWays 230 = .ok (.iconst 1, 1) := by decide +kernel
theorem dX12_codeWays_231 : decode cX12_codeWays 231 = .ok (.iadd, 1) := by decide +kernel
theorem dX12_codeWays_232 : decode cX12_codeWays 232 = .ok (.iaload, 1) := by decide +kernel
theorem dX12_codeWays_233 : decode cX12_codeWays 233 = .ok (.iload 15, 2) := by decide +kernel
theorem dX12_codeWays_235 : decode cX12_codeWays 235 = .ok (.invokevirtual 1092, 3) := by decide +kernel
theorem dX12_codeWays_238 : decode cX12_codeWays 238 = .ok (.aload_n 0, 1) := by decide +kernel
theorem dX12_codeWays_239 : decode cX12_codeWays 239 = .ok (.iload 15, 2) := by decide +kernel
theorem dX12_codeWays_241 : decode cX12_codeWays 241 = .ok (.invokevirtual 1198, 3) := by decide +kernel
theorem dX12_codeWays_244 : decode cX12_codeWays 244 = .ok (.return_, 1) := by decide +kernel

def q_enterCode (p1 : Int) (p2 : Int) (p3 : Int) (p4 : Int) (p5 : Int) (p6 : Int) (p7 : Int) (S : sv_S) : Option Value → sv_S → Prop := fun v S' => v = none ∧ sm_ok S' ∧ sv_mod [68, 69, 70, 81, 82, 83, 84, 85, 86, 71, 74, 75, 1127, 78, 79, 80, 72, 76, 77, 1143, 1144, 5, 1011, 1150, 1149, 1145, 1113, 1111, 1112, 1100031] S S' ∧ (sm_ST (S' 71) (S' 74) (S' 75) (S' 78) (S' 79) (S' 80) (S' 27) (S' 1100007) (S' 1100023) (S' 1100024) (S' 1046 0) ((S' 1046 0) + 2 * (S' 1032 0)) (S' 1127 0) ∧ 465000 ≤ (S' 1127 0) ∧ (S' 1127 0) + sm_hs (S' 71) (S' 1100007) ≤ 635000 ∧ (S' 75 639) = 647340 ∧ (∀ k : Int, (S 71 k) = 1 → (S' 71 k) = 1) ∧ sm_DR (S' 72) (S' 71) (S' 1046 0) ∧ (641 * (sm_cm (S' 71) + sm_pt (S' 68) (S' 69) (S' 70) + sm_pl (S' 81) (S' 82) (S' 83) (S' 84) (S' 85) (S' 86) + sm_ps (S' 76) (S' 77)) + sm_du (S' 72)) ≤ (641 * (sm_cm (S 71) + sm_pt (S 68) (S 69) (S 70) + sm_pl (S 81) (S 82) (S 83) (S 84) (S 85) (S 86) + sm_ps (S 76) (S 77)) + sm_du (S 72)))
theorem la_enterCode_0 {x0 x1 x2 : Int} (h0 : x0 ≤ 11) (h1 : 1 ≤ x1) (h2 : x1 < x0) (h3 : 29 + 6 * (x1 - 1) + 2 = x2) : sv_R (x2 - 2) := by omega
theorem la_enterCode_1 {x0 x1 : Int} (h0 : 1 ≤ x0) (h1 : 29 + 6 * (x0 - 1) + 2 = x1) : 0 ≤ x1 - 2 := by omega
theorem la_enterCode_2 {x0 x1 x2 x3 x4 : Int} (h0 : 0 ≤ x0) (h1 : x1 = 29 + 6 * (x2 - 1) + 2 * x0) (h2 : x3 < x2) (h3 : 29 + 6 * (x3 - 1) + 2 = x4) : x4 - 2 + 1 < x1 := by omega
theorem la_enterCode_3 : ((-1) : Int) ≤ (-1) := by omega
theorem la_enterCode_4 : ((-1) : Int) ≤ 63 := by omega
theorem la_enterCode_5 {x0 x1 x2 x3 x4 x5 : Int} (h0 : x0 ≤ 11) (h1 : 0 ≤ x1) (h2 : x1 ≤ 11557) (h3 : 1 ≤ x2) (h4 : x2 < x0) (h5 : 29 + 6 * (x2 - 1) + 2 = x3) : 0 ≤ x1 ∧ x1 ≤ 11557 ∧ (0 : Int) ≤ 639 ∧ ((639 : Int) = 639 ∨ 639 < x4 + 2 * x0) ∧ 0 ≤ x3 - 2 ∧ (x3 - 2 < x5 ∨ (639 : Int) = 639 ∧ x3 - 2 < 128) := by omega
theorem la_enterCode_6 : (639 : Int) = 639 := by omega
theorem la_enterCode_7 : ¬ ¬ (639 : Int) = 639 := by omega
theorem la_enterCode_8 {x0 x1 x2 : Int} (h0 : x0 ≤ 11) (h1 : 1 ≤ x1) (h2 : x1 < x0) (h3 : 29 + 6 * (x1 - 1) + 2 = x2) : sv_R x2 := by omega
theorem la_enterCode_9 {x0 x1 : Int} : x0 ≤ x0 ∧ x0 ≤ x0 + 2 ∧ x1 = x1 := by omega
theorem la_enterCode_10 {x0 x1 : Int} (h0 : x0 ≤ x1 + 2) : 0 ≤ x1 + 2 - x0 := by omega
theorem la_enterCode_11 {x0 x1 x2 : Int} (h0 : x0 ≤ 11) (h1 : 1 ≤ x1) (h2 : x1 < x0) (h3 : 29 + 6 * (x1 - 1) + 2 = x2) : sv_R (x2 + 2) := by omega
theorem la_enterCode_12 : (0 : Int) ≤ 0 := by omega
theorem la_enterCode_13 {x0 : Int} (h0 : 1 ≤ x0) : 0 ≤ x0 := by omega
theorem la_enterCode_14 {x0 x1 : Int} (h0 : x0 < x1) : ¬ x1 ≤ x0 := by omega
theorem la_enterCode_15 {x0 : Int} : x0 = x0 := by omega
theorem la_enterCode_16 {x0 x1 : Int} (h0 : x0 ≤ x1) : 0 ≤ x1 - x0 := by omega
theorem la_enterCode_17 {x0 x1 : Int} (h0 : x0 ≤ 11) (h1 : 1 ≤ x1) (h2 : x1 < x0) : 0 ≤ x1 ∧ x1 < 12 := by omega
theorem la_enterCode_18 : (0 : Int) ≤ 647753 ∧ (647753 : Int) < 647800 := by omega
theorem la_enterCode_19 : (635639 : Int) ≤ 647753 := by omega
theorem la_enterCode_20 : sv_R (635000 + 639) := by omega
theorem la_enterCode_21 : (0 : Int) ≤ 647753 ∧ (647753 : Int) < 647800 ∧ (635639 : Int) ≤ 635000 + 639 ∧ (635000 + 639 : Int) < 647800 := by omega
theorem la_enterCode_22 : (0 : Int) ≤ 639 ∧ (639 : Int) < 640 := by omega
theorem la_enterCode_23 {x0 x1 : Int} (h0 : x0 + 2 * x1 ≤ 500) : x0 + 2 * x1 ≤ 639 := by omega
theorem la_enterCode_24 {x0 : Int} (h0 : x0 = 0) : 0 ≤ x0 := by omega
theorem la_enterCode_25 {x0 : Int} (h0 : x0 = 0) : x0 ≤ 400 := by omega
theorem la_enterCode_26 {x0 : Int} (h0 : x0 = 0) : x0 ≤ 40 := by omega
theorem la_enterCode_27 {x0 x1 : Int} (h0 : x0 = 0) (h1 : x1 = 0) : x1 = x0 := by omega
theorem la_enterCode_28 {x0 : Int} (h0 : 0 ≤ x0) : (-1) < x0 := by omega
theorem la_enterCode_29 {x0 : Int} : (0 : Int) ≤ (-1) → x0 = 27 := by omega
theorem la_enterCode_30 : ((-1) : Int) < 0 := by omega
theorem la_enterCode_31 {x0 x1 x2 x3 : Int} (h0 : 1 ≤ x0) (h1 : x0 < x1) (h2 : x2 < x3) : x2 < x3 + 2 * x1 := by omega
theorem la_enterCode_32 : (639 : Int) ≤ 639 := by omega
theorem la_enterCode_33 {x0 x1 x2 x3 x4 x5 x6 x7 x8 x9 x10 x11 x12 x13 x14 x15 x16 x17 x18 x19 x20 : Int} (h0 : x0 = x1) (h1 : x2 = x3) (h2 : x4 = x5) (h3 : x6 = x2) (h4 : x7 = x0) (h5 : x8 = x7) (h6 : x9 = x8) (h7 : x10 = x9) (h8 : x11 = x12) (h9 : 641 * (x13 + x14 + x15 + x16) + x17 ≤ 641 * (x18 + x10 + x6 + x11) + x19) (h10 : x12 = x20) (h11 : x20 = x4) : 641 * (x13 + x14 + x15 + x16) + x17 ≤ 641 * (x18 + x1 + x3 + x5) + x19 := by omega
theorem la_enterCode_34 {x0 x1 : Int} (h0 : 29 + 6 * (x0 - 1) + 2 = x1) (h1 : 64 ≤ x1 - 2) : 0 ≤ x0 := by omega
theorem la_enterCode_35 {x0 x1 x2 x3 : Int} (h0 : x0 = x1) (h1 : x2 = x3) (h2 : x3 = x1) : x2 = x0 := by omega
theorem la_enterCode_36 {x0 : Int} (h0 : (-1) ≤ x0) (h1 : ¬ x0 = (-1)) : (-1) < x0 := by omega
theorem la_enterCode_37 {x0 x1 : Int} (h0 : x0 = 647340) (h1 : x1 ≤ 450) (h2 : (-1) < x1) : (0 : Int) ≤ 639 ∧ (639 : Int) < 640 ∧ (-1000) ≤ x1 ∧ x1 ≤ 1000 ∧ 0 ≤ x0 ∧ x0 ≤ 647800 := by omega
theorem la_enterCode_38 {x0 x1 x2 : Int} (h0 : x0 = 647340) (h1 : x1 ≤ 450) (h2 : (-1) < x1) (h3 : x2 = x0 + x1) : 0 ≤ x2 ∧ x2 < 647800 ∧ (635639 : Int) ≤ 647753 ∧ (647753 : Int) < 647800 := by omega
theorem la_enterCode_39 : (635639 : Int) ≤ 647753 ∧ (647753 : Int) < 647790 := by omega
theorem la_enterCode_40 {x0 x1 x2 x3 : Int} (h0 : x0 ≤ 11) (h1 : x1 ≤ 19) (h2 : 1 ≤ x2) (h3 : x2 < x0) (h4 : x3 < x1) (h5 : (-1) < x3) : 0 ≤ x3 ∧ x3 ≤ 600 ∧ 1 ≤ x0 ∧ x0 ≤ 4001 := by omega
theorem la_enterCode_41 : (635639 : Int) ≤ 647753 ∧ (647753 : Int) < 647800 := by omega
theorem la_enterCode_42 {x0 x1 : Int} (h0 : ¬ x0 ≤ x1) : x1 < x0 := by omega
theorem la_enterCode_43 {x0 x1 : Int} (h0 : 1 ≤ x0) (h1 : 0 ≤ x1) : 0 ≤ 100 * x0 + x1 := by omega
theorem la_enterCode_44 {x0 x1 x2 x3 : Int} (h0 : x0 ≤ 11) (h1 : x1 < x0) (h2 : ¬ x2 ≤ x3) (h3 : x2 ≤ 100) : 100 * x1 + x3 < 1200 := by omega
theorem la_enterCode_45 {x0 x1 x2 x3 x4 x5 x6 x7 : Int} (h0 : 0 ≤ x0) (h1 : x1 = 29 + 6 * (x2 - 1) + 2 * x0) (h2 : 0 ≤ x3) (h3 : x3 ≤ 11557) (h4 : 1 ≤ x4) (h5 : x4 < x2) (h6 : 29 + 6 * (x4 - 1) + 2 = x5) (h7 : 0 ≤ x6) (h8 : x6 < x7) : 0 ≤ x3 ∧ x3 ≤ 11557 ∧ 0 ≤ x5 - 2 ∧ x5 - 2 < x1 ∧ 0 ≤ x6 ∧ x6 ≤ x7 := by omega
theorem la_enterCode_46 {x0 x1 : Int} (h0 : 0 ≤ x0) (h1 : sv_R x1) (h2 : ¬ x1 ≤ x0) : sv_R (x0 + 1) := by omega
theorem la_enterCode_47 {x0 x1 x2 x3 x4 x5 : Int} (h0 : 0 ≤ x0) (h1 : x1 = x2) (h2 : ¬ x3 ≤ x0) (h3 : x4 = x1) (h4 : x5 = x4) : 0 ≤ x0 + 1 ∧ x0 + 1 ≤ x3 ∧ x5 = x2 := by omega
theorem la_enterCode_48 {x0 x1 : Int} : x0 - (x1 + 1) < x0 - x1 := by omega
theorem la_enterCode_49 {x0 : Int} (h0 : x0 = 0) : ¬ x0 = 1 := by omega
theorem la_enterCode_50 {x0 : Int} (h0 : 635640 ≤ x0) (h1 : x0 < 647340) : 635639 ≤ x0 ∧ x0 < 647790 := by omega
theorem la_enterCode_51 {x0 : Int} (h0 : x0 = 1) : 0 ≤ x0 := by omega
theorem la_enterCode_52 {x0 : Int} (h0 : 0 ≤ x0) (h1 : ¬ x0 = 0) : 0 < x0 := by omega
theorem la_enterCode_53 {x0 x1 : Int} : x0 = 0 → x1 = x1 := by omega
theorem la_enterCode_54 {x0 x1 x2 : Int} (h0 : x0 ≤ 11) (h1 : 1 ≤ x1) (h2 : x1 < x0) (h3 : 29 + 6 * (x1 - 1) + 2 = x2) : sv_R (x2 + 1) := by omega
theorem la_enterCode_55 {x0 : Int} (h0 : 635640 ≤ x0) (h1 : x0 < 647340) : 635639 ≤ x0 ∧ x0 < 647800 := by omega
theorem la_enterCode_56 {x0 x1 x2 : Int} (h0 : x0 = x1) : x2 = 0 → x0 = x1 := by omega
theorem la_enterCode_57 {x0 x1 x2 : Int} (h0 : x0 = x1) (h1 : x2 = x0) : x2 = x1 := by omega
theorem la_enterCode_58 {x0 x1 x2 : Int} (h0 : 0 ≤ x0) (h1 : x0 ≤ 450) (h2 : x1 ≤ 8) (h3 : 0 ≤ x2) (h4 : ¬ x1 ≤ x2) : sv_R (x0 + x2) := by omega
theorem la_enterCode_59 {x0 x1 x2 x3 : Int} (h0 : x0 = 647340) (h1 : 0 ≤ x1) (h2 : x1 ≤ 450) (h3 : x2 ≤ 8) (h4 : 0 ≤ x3) (h5 : ¬ x2 ≤ x3) : (0 : Int) ≤ 639 ∧ (639 : Int) < 640 ∧ (-1000) ≤ x1 + x3 ∧ x1 + x3 ≤ 1000 ∧ 0 ≤ x0 ∧ x0 ≤ 647800 := by omega
theorem la_enterCode_60 {x0 x1 x2 x3 x4 x5 : Int} (h0 : x0 = 647340) (h1 : 0 ≤ x1) (h2 : x1 ≤ 450) (h3 : x2 ≤ 8) (h4 : 0 ≤ x3) (h5 : 635640 ≤ x4) (h6 : x4 < 647340) (h7 : ¬ x2 ≤ x3) (h8 : x5 = x0 + (x1 + x3)) : 0 ≤ x5 ∧ x5 < 647800 ∧ 635639 ≤ x4 ∧ x4 < 647800 := by omega
theorem la_enterCode_61 {x0 x1 : Int} : x0 < x1 → (0 : Int) = 0 ∨ (0 : Int) = 1 := by omega
theorem la_enterCode_62 {x0 : Int} : ¬ x0 = 0 → (0 : Int) = 0 ∨ (0 : Int) = 1 := by omega
theorem la_enterCode_63 {x0 x1 : Int} : ¬ x0 = x1 → (0 : Int) = 0 ∨ (0 : Int) = 1 := by omega
theorem la_enterCode_64 : (1 : Int) = 0 ∨ (1 : Int) = 1 := by omega
theorem la_enterCode_65 {x0 x1 : Int} (h0 : x0 ≤ x1) (h1 : ¬ x1 = x0) : x0 < x1 := by omega
theorem la_enterCode_66 {x0 x1 x2 x3 : Int} (h0 : x0 ≤ 11) (h1 : 1 ≤ x1) (h2 : x1 < x0) (h3 : 29 + 6 * (x1 - 1) + 2 = x2) (h4 : x3 = 15000 + (x2 - 2)) : 0 ≤ x3 ∧ x3 < 15128 := by omega
theorem la_enterCode_67 {x0 x1 x2 x3 x4 x5 x6 : Int} (h0 : x0 ≤ 11) (h1 : 0 ≤ x1) (h2 : x1 ≤ 11557) (h3 : 1 ≤ x2) (h4 : x2 < x0) (h5 : 29 + 6 * (x2 - 1) + 2 = x3) (h6 : ¬ x3 + 2 ≤ x4) (h7 : x3 < x4) : 0 ≤ x1 ∧ x1 ≤ 11557 ∧ (0 : Int) ≤ 639 ∧ ((639 : Int) = 639 ∨ 639 < x5 + 2 * x0) ∧ 0 ≤ x4 ∧ (x4 < x6 ∨ (639 : Int) = 639 ∧ x4 < 128) := by omega
theorem la_enterCode_68 {x0 x1 x2 x3 x4 : Int} (h0 : x0 ≤ 11) (h1 : 1 ≤ x1) (h2 : x1 < x0) (h3 : 29 + 6 * (x1 - 1) + 2 = x2) (h4 : ¬ x2 + 2 ≤ x3) (h5 : x2 < x3) (h6 : x4 = 15000 + x3) : 0 ≤ x4 ∧ x4 < 15128 := by omega
theorem la_enterCode_69 {x0 x1 x2 x3 : Int} (h0 : 1 ≤ x0) (h1 : 29 + 6 * (x0 - 1) + 2 = x1) (h2 : x1 < x2) (h3 : sv_R x3) (h4 : x3 = 15000 + x2) : sv_R (x2 + 1) := by omega
theorem la_enterCode_70 {x0 x1 : Int} (h0 : x0 < x1) : x0 ≤ x1 + 1 := by omega
theorem la_enterCode_71 {x0 x1 : Int} (h0 : ¬ x0 + 2 ≤ x1) : x1 + 1 ≤ x0 + 2 := by omega
theorem la_enterCode_72 {x0 x1 x2 : Int} (h0 : 1 ≤ x0) (h1 : 29 + 6 * (x0 - 1) + 2 = x1) (h2 : x2 = 15000 + (x1 - 2)) : 15000 ≤ x2 := by omega
theorem la_enterCode_73 {x0 x1 x2 x3 : Int} (h0 : x0 = x1) (h1 : x2 = x3) (h2 : x3 = x0) : x2 = x1 := by omega
theorem la_enterCode_74 {x0 x1 : Int} : x0 + 2 - (x1 + 1) < x0 + 2 - x1 := by omega
theorem la_enterCode_75 {x0 x1 x2 x3 : Int} (h0 : 1 ≤ x0) (h1 : 29 + 6 * (x0 - 1) + 2 = x1) (h2 : sv_R x2) (h3 : x2 = 15000 + (x1 - 2)) (h4 : ¬ x1 + 2 ≤ x3) (h5 : x1 < x3) : sv_R (x3 + 1) := by omega
theorem la_enterCode_76 {x0 x1 x2 x3 : Int} (h0 : x0 = x1) (h1 : ¬ x2 + 2 ≤ x3) (h2 : x2 < x3) : x2 ≤ x3 + 1 ∧ x3 + 1 ≤ x2 + 2 ∧ x0 = x1 := by omega
theorem la_enterCode_77 {x0 x1 x2 x3 x4 x5 x6 : Int} (h0 : x0 ≤ 11) (h1 : 0 ≤ x1) (h2 : x1 ≤ 11557) (h3 : 1 ≤ x2) (h4 : x2 < x0) (h5 : 29 + 6 * (x2 - 1) + 2 = x3) (h6 : ¬ ¬ x4 = x3) : 0 ≤ x1 ∧ x1 ≤ 11557 ∧ (0 : Int) ≤ 639 ∧ ((639 : Int) = 639 ∨ 639 < x5 + 2 * x0) ∧ 0 ≤ x4 ∧ (x4 < x6 ∨ (639 : Int) = 639 ∧ x4 < 128) := by omega
theorem la_enterCode_78 {x0 x1 x2 x3 x4 : Int} (h0 : x0 ≤ 11) (h1 : 1 ≤ x1) (h2 : x1 < x0) (h3 : 29 + 6 * (x1 - 1) + 2 = x2) (h4 : ¬ ¬ x3 = x2) (h5 : x4 = 15000 + x3) : 0 ≤ x4 ∧ x4 < 15128 := by omega
theorem la_enterCode_79 {x0 x1 x2 x3 x4 : Int} (h0 : x0 ≤ 11) (h1 : 1 ≤ x1) (h2 : x1 < x0) (h3 : 29 + 6 * (x1 - 1) + 2 = x2) (h4 : x2 ≤ x3) (h5 : ¬ ¬ x3 = x2) (h6 : x4 = 15000 + x3) : 0 ≤ x4 ∧ x4 < 15128 := by omega
theorem la_enterCode_80 {x0 x1 x2 x3 : Int} (h0 : 1 ≤ x0) (h1 : 29 + 6 * (x0 - 1) + 2 = x1) (h2 : ¬ ¬ x2 = x1) (h3 : sv_R x3) (h4 : x3 = 15000 + x2) : sv_R (x2 + 1) := by omega
theorem la_enterCode_81 {x0 x1 : Int} (h0 : ¬ ¬ x0 = x1) : x1 ≤ x0 + 1 := by omega
theorem la_enterCode_82 {x0 x1 : Int} (h0 : ¬ ¬ x0 = x1) : x0 + 1 ≤ x1 + 2 := by omega
theorem la_enterCode_83 {x0 x1 x2 x3 : Int} (h0 : 1 ≤ x0) (h1 : 29 + 6 * (x0 - 1) + 2 = x1) (h2 : sv_R x2) (h3 : x2 = 15000 + (x1 - 2)) (h4 : x1 ≤ x3) (h5 : ¬ ¬ x3 = x1) : sv_R (x3 + 1) := by omega
theorem la_enterCode_84 {x0 x1 x2 x3 : Int} (h0 : x0 = x1) (h1 : ¬ ¬ x2 = x3) : x3 ≤ x2 + 1 ∧ x2 + 1 ≤ x3 + 2 ∧ x0 = x1 := by omega
set_option maxHeartbeats 2000000 in
theorem f_enterCode : ∀ (p1 : Int) (p2 : Int) (p3 : Int) (p4 : Int) (p5 : Int) (p6 : Int) (p7 : Int) (S : sv_S), sm_ok S → sv_R p1 → (0 ≤ p2 ∧ p2 ≤ 1) → (0 ≤ p3 ∧ p3 ≤ 1) → sv_R p4 → sv_R p5 → sv_R p6 → sv_R p7 → (29 ≤ (S 1071 0) ∧ (S 1071 0) ≤ 127 ∧ 31 ≤ (S 1008 0) ∧ (S 1008 0) ≤ 90 ∧ 1 ≤ (S 1032 0) ∧ (S 1032 0) ≤ 11 ∧ 0 ≤ (S 1055 0) ∧ (S 1055 0) ≤ 19 ∧ (S 1071 0) = 29 + 6 * ((S 1032 0) - 1) + 2 * (S 1055 0) ∧ 0 ≤ (S 1046 0) ∧ (S 1046 0) + 2 * (S 1032 0) ≤ 500 ∧ sm_PD (S 1046 0) (S 1032 0) (S 1071 0) (S 1008 0) ∧ 0 ≤ (S 1071 0) * ((S 1008 0) + 1) ∧ (S 1071 0) * ((S 1008 0) + 1) ≤ 11557 ∧ 31 ≤ (S 1007 0) ∧ (S 1007 0) ≤ 400 ∧ sm_LN (S 4) 400 (S 1007 0) ∧ (S 75 639) = 647340 ∧ sm_ST (S 71) (S 74) (S 75) (S 78) (S 79) (S 80) (S 27) (S 1100007) (S 1100023) (S 1100024) (S 1046 0) ((S 1046 0) + 2 * (S 1032 0)) (S 1127 0) ∧ 465000 ≤ (S 1127 0) ∧ (S 1127 0) + sm_hs (S 71) (S 1100007) ≤ 635000 ∧ sm_NH (S 1100007) ∧ sm_CT (S 26) (S 27) (S 28) (S 29) (S 1100007) (S 1100023) (S 1100024) (S 1100025) (S 21) (S 1046 0) (S 1032 0) (S 1008 0) (S 1055 0) ∧ (∀ k : Int, (S 1046 0) ≤ k → k < ((S 1046 0) + 2 * (S 1032 0)) → (S 1100007 k) = 1) ∧ sm_DR (S 72) (S 71) (S 1046 0) ∧ 0 ≤ (S 74 639) ∧ (S 74 639) ≤ 400 ∧ 0 ≤ (S 78 639) ∧ (S 78 639) ≤ 40 ∧ (S 78 639) = sm_dp (S 1100024) (S 1100031 0) ∧ -1 ≤ (S 1100031 0) ∧ (S 1100031 0) < (S 1046 0) ∧ (0 ≤ (S 1100031 0) → (S 26 (S 1100031 0)) = 27) ∧ sm_TC (S 79) (S 80) (S 27) (S 1100007) (S 1100023) (S 1100024) 25560 (S 1100031 0) ∧ (∀ g : Int, 0 ≤ g → g < (S 1032 0) → 0 ≤ (S 30 g) ∧ (S 30 g) < (S 1046 0) ∧ (S 1100007 (S 30 g)) = 0 ∧ (S 1100023 (S 30 g)) = -1 ∧ 0 ≤ (S 33 g) ∧ (S 33 g) ≤ 100 ∧ 0 ≤ (S 20 g) ∧ (S 20 g) ≤ 8) ∧ sm_VN (S 32) (S 33) (S 1032 0) (S 1008 0) ∧ 0 ≤ (S 1147 0) ∧ (S 1147 0) ≤ 12 ∧ (∀ k : Int, 0 ≤ k → k < (S 1147 0) → 635639 ≤ (S 91 k) ∧ (S 91 k) < 647800) ∧ 1 ≤ p1 ∧ p1 < (S 1032 0) ∧ -1 ≤ p4 ∧ p4 ≤ 450 ∧ 0 ≤ p5 ∧ p5 ≤ 450 ∧ 0 ≤ p6 ∧ p6 ≤ 8 ∧ -1 ≤ p7 ∧ p7 < (S 1055 0)) → (∀ x1 : Int, (((29 : Int) + ((6 : Int) * (p1 - (1 : Int)))) + (2 : Int)) = x1 → (sv_R (x1 - (2 : Int))) ∧ (29 ≤ (S 1071 0) ∧ (S 1071 0) ≤ 127 ∧ 31 ≤ (S 1008 0) ∧ (S 1008 0) ≤ 90 ∧ 1 ≤ (S 1032 0) ∧ (S 1032 0) ≤ 11 ∧ 0 ≤ (S 1055 0) ∧ (S 1055 0) ≤ 19 ∧ (S 1071 0) = 29 + 6 * ((S 1032 0) - 1) + 2 * (S 1055 0) ∧ 0 ≤ (S 1046 0) ∧ (S 1046 0) + 2 * (S 1032 0) ≤ 500 ∧ sm_PD (S 1046 0) (S 1032 0) (S 1071 0) (S 1008 0) ∧ 0 ≤ (S 1071 0) * ((S 1008 0) + 1) ∧ (S 1071 0) * ((S 1008 0) + 1) ≤ 11557 ∧ (S 75 639) = 647340 ∧ 0 ≤ (S 74 639) ∧ (S 74 639) ≤ 400 ∧ 0 ≤ (x1 - (2 : Int)) ∧ (x1 - (2 : Int)) + 1 < (S 1071 0) ∧ -1 ≤ (-1 : Int) ∧ (-1 : Int) ≤ 63 ∧ 0 ≤ (S 1147 0) ∧ (S 1147 0) ≤ 12 ∧ (∀ k : Int, 0 ≤ k → k < (S 1147 0) → 635639 ≤ (S 91 k) ∧ (S 91 k) < 647800)) ∧ (∀ g5 : sv_S, (sm_pt (g5 68) (g5 69) (g5 70) = sm_pt (S 68) (S 69) (S 70) ∧ sm_pl (g5 81) (g5 82) (g5 83) (g5 84) (g5 85) (g5 86) = sm_pl (S 81) (S 82) (S 83) (S 84) (S 85) (S 86) ∧ sm_ps (g5 76) (g5 77) = sm_ps (S 76) (S 77)) → (29 ≤ (S 1071 0) ∧ (S 1071 0) ≤ 127 ∧ 31 ≤ (S 1008 0) ∧ (S 1008 0) ≤ 90 ∧ 1 ≤ (S 1032 0) ∧ (S 1032 0) ≤ 11 ∧ 0 ≤ (S 1055 0) ∧ (S 1055 0) ≤ 19 ∧ (S 1071 0) = 29 + 6 * ((S 1032 0) - 1) + 2 * (S 1055 0) ∧ 0 ≤ (S 1046 0) ∧ (S 1046 0) + 2 * (S 1032 0) ≤ 500 ∧ sm_PD (S 1046 0) (S 1032 0) (S 1071 0) (S 1008 0) ∧ 0 ≤ (S 1071 0) * ((S 1008 0) + 1) ∧ (S 1071 0) * ((S 1008 0) + 1) ≤ 11557 ∧ 0 ≤ (639 : Int) ∧ ((639 : Int) = 639 ∨ (639 : Int) < (S 1046 0) + 2 * (S 1032 0)) ∧ 0 ≤ (x1 - (2 : Int)) ∧ ((x1 - (2 : Int)) < (S 1071 0) ∨ ((639 : Int) = 639 ∧ (x1 - (2 : Int)) < 128))) ∧ (∀ r15 : Int, sv_R r15 → (((639 : Int) = 639 → r15 = 15000 + (x1 - (2 : Int))) ∧ (¬ (639 : Int) = 639 → 0 ≤ r15 ∧ r15 < 14520)) → (sv_R x1) ∧ ((x1 ≤ x1 ∧ x1 ≤ x1 + 2 ∧ sm_pl (g5 81) (g5 82) (g5 83) (g5 84) (g5 85) (g5 86) = sm_pl (g5 81) (g5 82) (g5 83) (g5 84) (g5 85) (g5 86)) ∧ (∀ l11_18 : Int, sv_R l11_18 → ∀ g17 : sv_S, (x1 ≤ l11_18 ∧ l11_18 ≤ x1 + 2 ∧ sm_pl (g5 81) (g5 82) (g5 83) (g5 84) (g17 85) (g17 86) = sm_pl (g5 81) (g5 82) (g5 83) (g5 84) (g5 85) (g5 86)) → (0 ≤ x1 + 2 - l11_18) ∧ (sv_R (x1 + (2 : Int))) ∧ ((((x1 + (2 : Int)) ≤ l11_18) → ((0 ≤ (0 : Int) ∧ (0 : Int) ≤ (S 33 p1) ∧ sm_pt (g5 68) (g5 69) (g5 70) = sm_pt (g5 68) (g5 69) (g5 70)) ∧ (∀ l11_26 : Int, sv_R l11_26 → ∀ g25 : sv_S, (0 ≤ l11_26 ∧ l11_26 ≤ (S 33 p1) ∧ sm_pt (g25 68) (g25 69) (g25 70) = sm_pt (g5 68) (g5 69) (g5 70)) → (0 ≤ (S 33 p1) - l11_26) ∧ (0 ≤ p1 ∧ p1 < 12) ∧ (sv_R (S 33 p1) → ((((S 33 p1) ≤ l11_26) → (0 ≤ (647753 : Int) ∧ (647753 : Int) < 647800) ∧ (∀ g35 : sv_S, (635639 ≤ (647753 : Int) → sm_pt (g35 68) (g35 69) (g35 70) = sm_pt (g25 68) (g25 69) (g25 70)) → ((∀ g41 : sv_S, (sm_pt (g41 68) (g41 69) (g41 70) = sm_pt (g35 68) (g35 69) (g35 70)) → (sv_R (635000 + (639 : Int))) ∧ (0 ≤ (647753 : Int) ∧ (647753 : Int) < 647800 ∧ 635639 ≤ (635000 + (639 : Int)) ∧ (635000 + (639 : Int)) < 647800) ∧ (∀ g49 : sv_S, (sm_pt (g49 68) (g49 69) (g49 70) = sm_pt (g41 68) (g41 69) (g41 70)) → (0 ≤ (639 : Int) ∧ (639 : Int) < 640) ∧ ((sm_dp (S 1100024) (-1) = 0) → ((∀ g67 : sv_S, (sm_ps (g67 76) (g67 77) = sm_ps (fun i' : Int => if i' = (639 : Int) then (0 : Int) else (g5 76) i') (fun i' : Int => if i' = (639 : Int) then (0 : Int) else (g5 77) i')) → (sv_R (S 30 p1) → (29 ≤ (S 1071 0) ∧ (S 1071 0) ≤ 127 ∧ 31 ≤ (S 1008 0) ∧ (S 1008 0) ≤ 90 ∧ 1 ≤ (S 1032 0) ∧ (S 1032 0) ≤ 11 ∧ 0 ≤ (S 1055 0) ∧ (S 1055 0) ≤ 19 ∧ (S 1071 0) = 29 + 6 * ((S 1032 0) - 1) + 2 * (S 1055 0) ∧ 0 ≤ (S 1046 0) ∧ (S 1046 0) + 2 * (S 1032 0) ≤ 500 ∧ sm_PD (S 1046 0) (S 1032 0) (S 1071 0) (S 1008 0) ∧ 0 ≤ (S 1071 0) * ((S 1008 0) + 1) ∧ (S 1071 0) * ((S 1008 0) + 1) ≤ 11557 ∧ 31 ≤ (S 1007 0) ∧ (S 1007 0) ≤ 400 ∧ sm_LN (S 4) 400 (S 1007 0) ∧ (S 75 639) = 647340 ∧ sm_ST (S 71) (fun i' : Int => if i' = (639 : Int) then (0 : Int) else (S 74) i') (S 75) (fun i' : Int => if i' = (639 : Int) then (0 : Int) else (S 78) i') (S 79) (S 80) (S 27) (S 1100007) (S 1100023) (S 1100024) (S 1046 0) ((S 1046 0) + 2 * (S 1032 0)) (S 1127 0) ∧ 465000 ≤ (S 1127 0) ∧ (S 1127 0) + sm_hs (S 71) (S 1100007) ≤ 635000 ∧ sm_NH (S 1100007) ∧ sm_CT (S 26) (S 27) (S 28) (S 29) (S 1100007) (S 1100023) (S 1100024) (S 1100025) (S 21) (S 1046 0) (S 1032 0) (S 1008 0) (S 1055 0) ∧ (∀ k : Int, (S 1046 0) ≤ k → k < ((S 1046 0) + 2 * (S 1032 0)) → (S 1100007 k) = 1) ∧ sm_DR (S 72) (S 71) (S 1046 0) ∧ 0 ≤ (if 639 = (639 : Int) then (0 : Int) else (S 74 639)) ∧ (if 639 = (639 : Int) then (0 : Int) else (S 74 639)) ≤ 400 ∧ 0 ≤ (if 639 = (639 : Int) then (0 : Int) else (S 78 639)) ∧ (if 639 = (639 : Int) then (0 : Int) else (S 78 639)) ≤ 40 ∧ (if 639 = (639 : Int) then (0 : Int) else (S 78 639)) = sm_dp (S 1100024) (-1 : Int) ∧ -1 ≤ (-1 : Int) ∧ (-1 : Int) < (S 1046 0) ∧ (0 ≤ (-1 : Int) → (S 26 (-1 : Int)) = 27) ∧ sm_TC (S 79) (S 80) (S 27) (S 1100007) (S 1100023) (S 1100024) 25560 (-1 : Int) ∧ 0 ≤ (S 30 p1) ∧ (S 30 p1) < ((S 1046 0) + 2 * (S 1032 0)) ∧ (if 639 = (639 : Int) then (0 : Int) else (S 74 639)) = (S 1100007 (S 30 p1)) ∧ ((S 30 p1) < (S 1046 0) → (S 1100023 (S 30 p1)) = (-1 : Int))) ∧ (∀ g74 : sv_S, (sm_ST (g74 71) (g74 74) (g74 75) (g74 78) (g74 79) (g74 80) (S 27) (S 1100007) (S 1100023) (S 1100024) (S 1046 0) ((S 1046 0) + 2 * (S 1032 0)) (g74 1127 0) ∧ 465000 ≤ (g74 1127 0) ∧ (g74 1127 0) + sm_hs (g74 71) (S 1100007) ≤ 635000 ∧ (g74 75 639) = 647340 ∧ (g74 74 639) = (if 639 = (639 : Int) then (0 : Int) else (S 74 639)) ∧ (g74 78 639) = (if 639 = (639 : Int) then (0 : Int) else (S 78 639)) ∧ sm_TC (g74 79) (g74 80) (S 27) (S 1100007) (S 1100023) (S 1100024) 25560 (-1 : Int) ∧ (∀ k : Int, (S 71 k) = 1 → (g74 71 k) = 1) ∧ sm_DR (g74 72) (g74 71) (S 1046 0) ∧ (641 * (sm_cm (g74 71) + sm_pt (g74 68) (g74 69) (g74 70) + sm_pl (g74 81) (g74 82) (g74 83) (g74 84) (g74 85) (g74 86) + sm_ps (g74 76) (g74 77)) + sm_du (g74 72)) ≤ (641 * (sm_cm (S 71) + sm_pt (g49 68) (g49 69) (g49 70) + sm_pl (g5 81) (g5 82) (g5 83) (g5 84) (g17 85) (g17 86) + sm_ps (g67 76) (g67 77)) + sm_du (S 72)) ∧ (g74 71 (S 30 p1)) = 1) → (sm_ST (g74 71) (g74 74) (g74 75) (g74 78) (g74 79) (g74 80) (S 27) (S 1100007) (S 1100023) (S 1100024) (S 1046 0) ((S 1046 0) + 2 * (S 1032 0)) (g74 1127 0) ∧ 465000 ≤ (g74 1127 0) ∧ (g74 1127 0) + sm_hs (g74 71) (S 1100007) ≤ 635000 ∧ (g74 75 639) = 647340 ∧ (∀ k : Int, (S 71 k) = 1 → (g74 71 k) = 1) ∧ sm_DR (g74 72) (g74 71) (S 1046 0) ∧ (641 * (sm_cm (g74 71) + sm_pt (g74 68) (g74 69) (g74 70) + sm_pl (g74 81) (g74 82) (g74 83) (g74 84) (g74 85) (g74 86) + sm_ps (g74 76) (g74 77)) + sm_du (g74 72)) ≤ (641 * (sm_cm (S 71) + sm_pt (S 68) (S 69) (S 70) + sm_pl (S 81) (S 82) (S 83) (S 84) (S 85) (S 86) + sm_ps (S 76) (S 77)) + sm_du (S 72)))))) ∧ ((((64 : Int) ≤ (x1 - (2 : Int))) → (∀ r80 : Int, sv_RL r80 → (sm_ps (fun i' : Int => if i' = (639 : Int) then (0 : Int) else (g5 76) i') (fun i' : Int => if i' = (639 : Int) then r80 else (fun i' : Int => if i' = (639 : Int) then (0 : Int) else (g5 77) i') i') = sm_ps (fun i' : Int => if i' = (639 : Int) then (0 : Int) else (g5 76) i') (fun i' : Int => if i' = (639 : Int) then (0 : Int) else (g5 77) i')))) ∧ ((¬ ((64 : Int) ≤ (x1 - (2 : Int)))) → (∀ r84 : Int, sv_RL r84 → (sm_ps (fun i' : Int => if i' = (639 : Int) then r84 else (fun i' : Int => if i' = (639 : Int) then (0 : Int) else (g5 76) i') i') (fun i' : Int => if i' = (639 : Int) then (0 : Int) else (g5 77) i') = sm_ps (fun i' : Int => if i' = (639 : Int) then (0 : Int) else (g5 76) i') (fun i' : Int => if i' = (639 : Int) then (0 : Int) else (g5 77) i'))))))))) ∧ (((p7 = (-1 : Int)) → (((¬ p4 = (-1 : Int)) → (0 ≤ (639 : Int) ∧ (639 : Int) < 640 ∧ -1000 ≤ p4 ∧ p4 ≤ 1000 ∧ 0 ≤ (S 75 (639 : Int)) ∧ (S 75 (639 : Int)) ≤ 647800) ∧ (∀ r94 : Int, sv_R r94 → (r94 = (S 75 (639 : Int)) + p4) → (0 ≤ r94 ∧ r94 < 647800 ∧ 635639 ≤ (647753 : Int) ∧ (647753 : Int) < 647800) ∧ (∀ g96 : sv_S, (sm_pt (g96 68) (g96 69) (g96 70) = sm_pt (g35 68) (g35 69) (g35 70)) → (sm_pt (g96 68) (g96 69) (g96 70) = sm_pt (g35 68) (g35 69) (g35 70))))) ∧ ((¬ (¬ p4 = (-1 : Int))) → (635639 ≤ (647753 : Int) ∧ (647753 : Int) < 647790) ∧ (∀ g104 : sv_S, (sm_pt (g104 68) (g104 69) (g104 70) = sm_pt (g35 68) (g35 69) (g35 70)) → (sm_pt (g104 68) (g104 69) (g104 70) = sm_pt (g35 68) (g35 69) (g35 70)))))) ∧ ((¬ (p7 = (-1 : Int))) → (0 ≤ p7 ∧ p7 ≤ 600 ∧ 1 ≤ (S 1032 0) ∧ (S 1032 0) ≤ 4001) ∧ (∀ r116 : Int, sv_R r116 → (r116 = 29 + 6 * ((S 1032 0) - 1) + 2 * p7) → (635639 ≤ (647753 : Int) ∧ (647753 : Int) < 647800) ∧ (∀ g118 : sv_S, (sm_pt (g35 68) (g118 69) (g118 70) = sm_pt (g35 68) (g35 69) (g35 70)) → (sm_pt (g35 68) (g118 69) (g118 70) = sm_pt (g35 68) (g35 69) (g35 70))))))))) ∧ ((¬ ((S 33 p1) ≤ l11_26)) → ((sm_VN (S 32) (S 33) (S 1032 0) (S 1008 0) → 1 ≤ p1 → p1 < (S 1032 0) → 0 ≤ l11_26 → l11_26 < (S 33 p1) → 0 ≤ (S 32 (100 * p1 + l11_26)) ∧ (S 32 (100 * p1 + l11_26)) < (S 1008 0)) → (0 ≤ (((100 : Int) * p1) + l11_26) ∧ (((100 : Int) * p1) + l11_26) < 1200) ∧ (sv_R (S 32 (((100 : Int) * p1) + l11_26)) → (29 ≤ (S 1071 0) ∧ (S 1071 0) ≤ 127 ∧ 31 ≤ (S 1008 0) ∧ (S 1008 0) ≤ 90 ∧ 1 ≤ (S 1032 0) ∧ (S 1032 0) ≤ 11 ∧ 0 ≤ (S 1055 0) ∧ (S 1055 0) ≤ 19 ∧ (S 1071 0) = 29 + 6 * ((S 1032 0) - 1) + 2 * (S 1055 0) ∧ 0 ≤ (S 1046 0) ∧ (S 1046 0) + 2 * (S 1032 0) ≤ 500 ∧ sm_PD (S 1046 0) (S 1032 0) (S 1071 0) (S 1008 0) ∧ 0 ≤ (S 1071 0) * ((S 1008 0) + 1) ∧ (S 1071 0) * ((S 1008 0) + 1) ≤ 11557 ∧ 0 ≤ (x1 - (2 : Int)) ∧ (x1 - (2 : Int)) < (S 1071 0) ∧ 0 ≤ (S 32 (((100 : Int) * p1) + l11_26)) ∧ (S 32 (((100 : Int) * p1) + l11_26)) ≤ (S 1008 0)) ∧ (∀ r133 : Int, sv_R r133 → ∀ g129 : sv_S, (sm_pt (g129 68) (g129 69) (g129 70) = sm_pt (g25 68) (g25 69) (g25 70) ∧ 635640 ≤ r133 ∧ r133 < 647340) → ((∀ s136 : Int, sv_R s136 → (s136 = 0 ∨ s136 = 1) → ((∀ g138 : sv_S, (sm_pt (g138 68) (g138 69) (g138 70) = sm_pt (g129 68) (g129 69) (g129 70)) → (sv_R (l11_26 + (1 : Int))) ∧ ((0 ≤ (l11_26 + (1 : Int)) ∧ (l11_26 + (1 : Int)) ≤ (S 33 p1) ∧ sm_pt (g138 68) (g138 69) (g138 70) = sm_pt (g5 68) (g5 69) (g5 70)) ∧ ((S 33 p1) - (l11_26 + (1 : Int))) < ((S 33 p1) - l11_26))) ∧ (sv_R (S 20 p1) → ((((S 20 p1) ≤ l11_26) → (((s136 = (0 : Int)) → (635639 ≤ r133 ∧ r133 < 647790) ∧ (∀ g148 : sv_S, (sm_pt (g148 68) (g148 69) (g148 70) = sm_pt (g129 68) (g129 69) (g129 70)) → (sm_pt (g148 68) (g148 69) (g148 70) = sm_pt (g129 68) (g129 69) (g129 70)))) ∧ ((¬ (s136 = (0 : Int))) → (((p2 = (0 : Int)) → (((p3 = (0 : Int)) → (sm_pt (g129 68) (g129 69) (g129 70) = sm_pt (g129 68) (g129 69) (g129 70))) ∧ ((¬ (p3 = (0 : Int))) → (sv_R (x1 + (1 : Int))) ∧ (635639 ≤ r133 ∧ r133 < 647800) ∧ (∀ g157 : sv_S, (sm_pt (g129 68) (g157 69) (g157 70) = sm_pt (g129 68) (g129 69) (g129 70)) → (sm_pt (g129 68) (g157 69) (g157 70) = sm_pt (g129 68) (g129 69) (g129 70)))))) ∧ ((¬ (p2 = (0 : Int))) → (635639 ≤ r133 ∧ r133 < 647800) ∧ (∀ g165 : sv_S, (sm_pt (g129 68) (g165 69) (g165 70) = sm_pt (g129 68) (g129 69) (g129 70)) → (((p3 = (0 : Int)) → (sm_pt (g129 68) (g165 69) (g165 70) = sm_pt (g129 68) (g129 69) (g129 70))) ∧ ((¬ (p3 = (0 : Int))) → (sv_R (x1 + (1 : Int))) ∧ (∀ g173 : sv_S, (sm_pt (g129 68) (g173 69) (g173 70) = sm_pt (g129 68) (g165 69) (g165 70)) → (sm_pt (g129 68) (g173 69) (g173 70) = sm_pt (g129 68) (g129 69) (g129 70))))))))))) ∧ ((¬ ((S 20 p1) ≤ l11_26)) → (((p6 ≤ l11_26) → (((s136 = (0 : Int)) → (635639 ≤ r133 ∧ r133 < 647790) ∧ (∀ g181 : sv_S, (sm_pt (g181 68) (g181 69) (g181 70) = sm_pt (g129 68) (g129 69) (g129 70)) → (sm_pt (g181 68) (g181 69) (g181 70) = sm_pt (g129 68) (g129 69) (g129 70)))) ∧ ((¬ (s136 = (0 : Int))) → (((p2 = (0 : Int)) → (((p3 = (0 : Int)) → (sm_pt (g129 68) (g129 69) (g129 70) = sm_pt (g129 68) (g129 69) (g129 70))) ∧ ((¬ (p3 = (0 : Int))) → (sv_R (x1 + (1 : Int))) ∧ (635639 ≤ r133 ∧ r133 < 647800) ∧ (∀ g190 : sv_S, (sm_pt (g129 68) (g190 69) (g190 70) = sm_pt (g129 68) (g129 69) (g129 70)) → (sm_pt (g129 68) (g190 69) (g190 70) = sm_pt (g129 68) (g129 69) (g129 70)))))) ∧ ((¬ (p2 = (0 : Int))) → (635639 ≤ r133 ∧ r133 < 647800) ∧ (∀ g198 : sv_S, (sm_pt (g129 68) (g198 69) (g198 70) = sm_pt (g129 68) (g129 69) (g129 70)) → (((p3 = (0 : Int)) → (sm_pt (g129 68) (g198 69) (g198 70) = sm_pt (g129 68) (g129 69) (g129 70))) ∧ ((¬ (p3 = (0 : Int))) → (sv_R (x1 + (1 : Int))) ∧ (∀ g206 : sv_S, (sm_pt (g129 68) (g206 69) (g206 70) = sm_pt (g129 68) (g198 69) (g198 70)) → (sm_pt (g129 68) (g206 69) (g206 70) = sm_pt (g129 68) (g129 69) (g129 70))))))))))) ∧ ((¬ (p6 ≤ l11_26)) → (sv_R (p5 + l11_26)) ∧ (0 ≤ (639 : Int) ∧ (639 : Int) < 640 ∧ -1000 ≤ (p5 + l11_26) ∧ (p5 + l11_26) ≤ 1000 ∧ 0 ≤ (S 75 (639 : Int)) ∧ (S 75 (639 : Int)) ≤ 647800) ∧ (∀ r219 : Int, sv_R r219 → (r219 = (S 75 (639 : Int)) + (p5 + l11_26)) → (0 ≤ r219 ∧ r219 < 647800 ∧ 635639 ≤ r133 ∧ r133 < 647800) ∧ (∀ g221 : sv_S, (sm_pt (g221 68) (g221 69) (g221 70) = sm_pt (g129 68) (g129 69) (g129 70)) → (sm_pt (g221 68) (g221 69) (g221 70) = sm_pt (g129 68) (g129 69) (g129 70))))))))))) ∧ (sv_R (S 20 p1) → (((l11_26 < (S 20 p1)) → ((0 : Int) = 0 ∨ (0 : Int) = 1)) ∧ ((¬ (l11_26 < (S 20 p1))) → ((0 ≤ (S 18 p1) ∧ (S 18 p1) ≤ 1) → (((¬ (S 18 p1) = (0 : Int)) → ((0 : Int) = 0 ∨ (0 : Int) = 1)) ∧ ((¬ (¬ (S 18 p1) = (0 : Int))) → (sv_R (S 17 p1) → (((¬ (S 32 (((100 : Int) * p1) + l11_26)) = (S 17 p1)) → ((0 : Int) = 0 ∨ (0 : Int) = 1)) ∧ ((¬ (¬ (S 32 (((100 : Int) * p1) + l11_26)) = (S 17 p1))) → ((1 : Int) = 0 ∨ (1 : Int) = 1)))))))))))))))))))) ∧ ((¬ ((x1 + (2 : Int)) ≤ l11_18)) → (((¬ l11_18 = x1) → (((¬ p3 = (0 : Int)) → (0 ≤ r15 ∧ r15 < 15128) ∧ (sv_RL (g17 85 r15) → (29 ≤ (S 1071 0) ∧ (S 1071 0) ≤ 127 ∧ 31 ≤ (S 1008 0) ∧ (S 1008 0) ≤ 90 ∧ 1 ≤ (S 1032 0) ∧ (S 1032 0) ≤ 11 ∧ 0 ≤ (S 1055 0) ∧ (S 1055 0) ≤ 19 ∧ (S 1071 0) = 29 + 6 * ((S 1032 0) - 1) + 2 * (S 1055 0) ∧ 0 ≤ (S 1046 0) ∧ (S 1046 0) + 2 * (S 1032 0) ≤ 500 ∧ sm_PD (S 1046 0) (S 1032 0) (S 1071 0) (S 1008 0) ∧ 0 ≤ (S 1071 0) * ((S 1008 0) + 1) ∧ (S 1071 0) * ((S 1008 0) + 1) ≤ 11557 ∧ 0 ≤ (639 : Int) ∧ ((639 : Int) = 639 ∨ (639 : Int) < (S 1046 0) + 2 * (S 1032 0)) ∧ 0 ≤ l11_18 ∧ (l11_18 < (S 1071 0) ∨ ((639 : Int) = 639 ∧ l11_18 < 128))) ∧ (∀ r239 : Int, sv_R r239 → (((639 : Int) = 639 → r239 = 15000 + l11_18) ∧ (¬ (639 : Int) = 639 → 0 ≤ r239 ∧ r239 < 14520)) → (0 ≤ r239 ∧ r239 < 15128) ∧ (sv_RL (g17 85 r239) → (∀ r242 : Int, sv_RL r242 → (sv_RL (g17 86 r15) → (∀ r251 : Int, sv_R r251 → (((639 : Int) = 639 → r251 = 15000 + l11_18) ∧ (¬ (639 : Int) = 639 → 0 ≤ r251 ∧ r251 < 14520)) → (0 ≤ r251 ∧ r251 < 15128) ∧ (sv_RL (g17 86 r251) → (∀ r254 : Int, sv_RL r254 → (sv_R (l11_18 + (1 : Int))) ∧ ((x1 ≤ (l11_18 + (1 : Int)) ∧ (l11_18 + (1 : Int)) ≤ x1 + 2 ∧ sm_pl (g5 81) (g5 82) (g5 83) (g5 84) (fun i' : Int => if i' = r15 then r242 else (g17 85) i') (fun i' : Int => if i' = r15 then r254 else (g17 86) i') = sm_pl (g5 81) (g5 82) (g5 83) (g5 84) (g5 85) (g5 86)) ∧ (x1 + 2 - (l11_18 + (1 : Int))) < (x1 + 2 - l11_18))))))))))) ∧ ((¬ (¬ p3 = (0 : Int))) → (sv_R (l11_18 + (1 : Int))) ∧ ((x1 ≤ (l11_18 + (1 : Int)) ∧ (l11_18 + (1 : Int)) ≤ x1 + 2 ∧ sm_pl (g5 81) (g5 82) (g5 83) (g5 84) (g17 85) (g17 86) = sm_pl (g5 81) (g5 82) (g5 83) (g5 84) (g5 85) (g5 86)) ∧ (x1 + 2 - (l11_18 + (1 : Int))) < (x1 + 2 - l11_18))))) ∧ ((¬ (¬ l11_18 = x1)) → (((¬ p2 = (0 : Int)) → (0 ≤ r15 ∧ r15 < 15128) ∧ (sv_RL (g17 85 r15) → (29 ≤ (S 1071 0) ∧ (S 1071 0) ≤ 127 ∧ 31 ≤ (S 1008 0) ∧ (S 1008 0) ≤ 90 ∧ 1 ≤ (S 1032 0) ∧ (S 1032 0) ≤ 11 ∧ 0 ≤ (S 1055 0) ∧ (S 1055 0) ≤ 19 ∧ (S 1071 0) = 29 + 6 * ((S 1032 0) - 1) + 2 * (S 1055 0) ∧ 0 ≤ (S 1046 0) ∧ (S 1046 0) + 2 * (S 1032 0) ≤ 500 ∧ sm_PD (S 1046 0) (S 1032 0) (S 1071 0) (S 1008 0) ∧ 0 ≤ (S 1071 0) * ((S 1008 0) + 1) ∧ (S 1071 0) * ((S 1008 0) + 1) ≤ 11557 ∧ 0 ≤ (639 : Int) ∧ ((639 : Int) = 639 ∨ (639 : Int) < (S 1046 0) + 2 * (S 1032 0)) ∧ 0 ≤ l11_18 ∧ (l11_18 < (S 1071 0) ∨ ((639 : Int) = 639 ∧ l11_18 < 128))) ∧ (∀ r267 : Int, sv_R r267 → (((639 : Int) = 639 → r267 = 15000 + l11_18) ∧ (¬ (639 : Int) = 639 → 0 ≤ r267 ∧ r267 < 14520)) → (0 ≤ r267 ∧ r267 < 15128) ∧ (sv_RL (g17 85 r267) → (∀ r270 : Int, sv_RL r270 → (sv_RL (g17 86 r15) → (∀ r279 : Int, sv_R r279 → (((639 : Int) = 639 → r279 = 15000 + l11_18) ∧ (¬ (639 : Int) = 639 → 0 ≤ r279 ∧ r279 < 14520)) → (0 ≤ r279 ∧ r279 < 15128) ∧ (sv_RL (g17 86 r279) → (∀ r282 : Int, sv_RL r282 → (sv_R (l11_18 + (1 : Int))) ∧ ((x1 ≤ (l11_18 + (1 : Int)) ∧ (l11_18 + (1 : Int)) ≤ x1 + 2 ∧ sm_pl (g5 81) (g5 82) (g5 83) (g5 84) (fun i' : Int => if i' = r15 then r270 else (g17 85) i') (fun i' : Int => if i' = r15 then r282 else (g17 86) i') = sm_pl (g5 81) (g5 82) (g5 83) (g5 84) (g5 85) (g5 86)) ∧ (x1 + 2 - (l11_18 + (1 : Int))) < (x1 + 2 - l11_18))))))))))) ∧ ((¬ (¬ p2 = (0 : Int))) → (sv_R (l11_18 + (1 : Int))) ∧ ((x1 ≤ (l11_18 + (1 : Int)) ∧ (l11_18 + (1 : Int)) ≤ x1 + 2 ∧ sm_pl (g5 81) (g5 82) (g5 83) (g5 84) (g17 85) (g17 86) = sm_pl (g5 81) (g5 82) (g5 83) (g5 84) (g5 85) (g5 86)) ∧ (x1 + 2 - (l11_18 + (1 : Int))) < (x1 + 2 - l11_18))))))))))))) := by
  intro p1
  intro p2
  intro p3
  intro p4
  intro p5
  intro p6
  intro p7
  intro S
  intro h1_
  intro h2_
  rintro ⟨h3_, h4_⟩
  rintro ⟨h5_, h6_⟩
  intro h7_
  intro h8_
  intro h9_
  intro h10_
  rintro ⟨h11_, ⟨h12_, ⟨h13_, ⟨h14_, ⟨h15_, ⟨h16_, ⟨h17_, ⟨h18_, ⟨h19_, ⟨h20_, ⟨h21_, ⟨h22_, ⟨h23_, ⟨h24_, ⟨h25_, ⟨h26_, ⟨h27_, ⟨h28_, ⟨h29_, ⟨h30_, ⟨h31_, ⟨h32_, ⟨h33_, ⟨h34_, ⟨h35_, ⟨h36_, ⟨h37_, ⟨h38_, ⟨h39_, ⟨h40_, ⟨h41_, ⟨h42_, ⟨h43_, ⟨h44_, ⟨h45_, ⟨h46_, ⟨h47_, ⟨h48_, ⟨h49_, ⟨h50_, ⟨h51_, ⟨h52_, ⟨h53_, ⟨h54_, ⟨h55_, ⟨h56_, ⟨h57_, ⟨h58_, h59_⟩⟩⟩⟩⟩⟩⟩⟩⟩⟩⟩⟩⟩⟩⟩⟩⟩⟩⟩⟩⟩⟩⟩⟩⟩⟩⟩⟩⟩⟩⟩⟩⟩⟩⟩⟩⟩⟩⟩⟩⟩⟩⟩⟩⟩⟩⟩⟩
  intro x1
  intro h60_
  refine ⟨(la_enterCode_0 h16_ h50_ h51_ h60_), ?_⟩
  refine ⟨⟨h11_, ⟨h12_, ⟨h13_, ⟨h14_, ⟨h15_, ⟨h16_, ⟨h17_, ⟨h18_, ⟨h19_, ⟨h20_, ⟨h21_, ⟨h22_, ⟨h23_, ⟨h24_, ⟨h28_, ⟨h36_, ⟨h37_, ⟨(la_enterCode_1 h50_ h60_), ⟨(la_enterCode_2 h17_ h19_ h51_ h60_), ⟨la_enterCode_3, ⟨la_enterCode_4, ⟨h47_, ⟨h48_, h49_⟩⟩⟩⟩⟩⟩⟩⟩⟩⟩⟩⟩⟩⟩⟩⟩⟩⟩⟩⟩⟩⟩⟩, ?_⟩
  intro g5
  rintro ⟨h61_, ⟨h62_, h63_⟩⟩
  refine ⟨⟨h11_, ⟨h12_, ⟨h13_, ⟨h14_, ⟨h15_, ⟨h16_, ⟨h17_, ⟨h18_, ⟨h19_, ⟨h20_, ⟨h21_, ⟨h22_, (la_enterCode_5 h16_ h23_ h24_ h50_ h51_ h60_)⟩⟩⟩⟩⟩⟩⟩⟩⟩⟩⟩⟩, ?_⟩
  intro r15
  intro h64_
  rintro ⟨h65_, h66_⟩
  have h67_ := (h65_ la_enterCode_6)
  refine ⟨(la_enterCode_8 h16_ h50_ h51_ h60_), ?_⟩
  refine ⟨la_enterCode_9, ?_⟩
  intro l11_18
  intro h68_
  intro g17
  rintro ⟨h69_, ⟨h70_, h71_⟩⟩
  refine ⟨(la_enterCode_10 h70_), ?_⟩
  refine ⟨(la_enterCode_11 h16_ h50_ h51_ h60_), ?_⟩
  refine ⟨?_, ?_⟩
  · skip
    intro h72_
    refine ⟨?_, ?_⟩
    · skip
      refine ⟨la_enterCode_12, ?_⟩
      refine ⟨?_, ?_⟩
      · skip
        obtain ⟨h73_, ⟨h74_, ⟨h75_, ⟨h76_, ⟨h77_, ⟨h78_, ⟨h79_, h80_⟩⟩⟩⟩⟩⟩⟩ := (((h45_ p1) (la_enterCode_13 h50_)) h51_)
        have h81_ := (h34_ (S 30 p1))
        exact h77_
      exact la_enterCode_15
    intro l11_26
    intro h82_
    intro g25
    rintro ⟨h83_, ⟨h84_, h85_⟩⟩
    refine ⟨(la_enterCode_16 h84_), ?_⟩
    refine ⟨(la_enterCode_17 h16_ h50_ h51_), ?_⟩
    intro h86_
    refine ⟨?_, ?_⟩
    · skip
      intro h87_
      refine ⟨la_enterCode_18, ?_⟩
      intro g35
      intro h88_
      have h89_ := (h88_ la_enterCode_19)
      refine ⟨?_, ?_⟩
      · skip
        intro g41
        intro h90_
        refine ⟨la_enterCode_20, ?_⟩
        refine ⟨la_enterCode_21, ?_⟩
        intro g49
        intro h91_
        refine ⟨la_enterCode_22, ?_⟩
        intro h92_
        refine ⟨?_, ?_⟩
        · skip
          intro g67
          intro h93_
          intro h94_
          refine ⟨?_, ?_⟩
          · skip
            refine ⟨h11_, ?_⟩
            refine ⟨h12_, ?_⟩
            refine ⟨h13_, ?_⟩
            refine ⟨h14_, ?_⟩
            refine ⟨h15_, ?_⟩
            refine ⟨h16_, ?_⟩
            refine ⟨h17_, ?_⟩
            refine ⟨h18_, ?_⟩
            refine ⟨h19_, ?_⟩
            refine ⟨h20_, ?_⟩
            refine ⟨h21_, ?_⟩
            refine ⟨h22_, ?_⟩
            refine ⟨h23_, ?_⟩
            refine ⟨h24_, ?_⟩
            refine ⟨h25_, ?_⟩
            refine ⟨h26_, ?_⟩
            refine ⟨h27_, ?_⟩
            refine ⟨h28_, ?_⟩
            refine ⟨(sm_ST_F h29_ (la_enterCode_23 h21_) (sm_F1_up sm_F1_rf (Int.le_refl _)) sm_F1_rf (sm_F1_up sm_F1_rf (Int.le_refl _)) sm_F1_rf sm_F1_rf), ?_⟩
            refine ⟨h30_, ?_⟩
            refine ⟨h31_, ?_⟩
            refine ⟨h32_, ?_⟩
            refine ⟨h33_, ?_⟩
            refine ⟨h34_, ?_⟩
            refine ⟨h35_, ?_⟩
            refine ⟨?_, ?_⟩
            · skip
              obtain ⟨h95_, ⟨h96_, ⟨h97_, ⟨h98_, ⟨h99_, ⟨h100_, ⟨h101_, h102_⟩⟩⟩⟩⟩⟩⟩ := (((h45_ p1) (la_enterCode_13 h50_)) h51_)
              have e103_ : (if (639 : Int) = 639 then 0 else S 74 639 : Int) = 0 := if_pos la_enterCode_6
              have h104_ := (h34_ (S 30 p1))
              exact (la_enterCode_24 e103_)
            refine ⟨?_, ?_⟩
            · skip
              obtain ⟨h105_, ⟨h106_, ⟨h107_, ⟨h108_, ⟨h109_, ⟨h110_, ⟨h111_, h112_⟩⟩⟩⟩⟩⟩⟩ := (((h45_ p1) (la_enterCode_13 h50_)) h51_)
              have e113_ : (if (639 : Int) = 639 then 0 else S 74 639 : Int) = 0 := if_pos la_enterCode_6
              have h114_ := (h34_ (S 30 p1))
              exact (la_enterCode_25 e113_)
            refine ⟨?_, ?_⟩
            · skip
              obtain ⟨h115_, ⟨h116_, ⟨h117_, ⟨h118_, ⟨h119_, ⟨h120_, ⟨h121_, h122_⟩⟩⟩⟩⟩⟩⟩ := (((h45_ p1) (la_enterCode_13 h50_)) h51_)
              have e123_ : (if (639 : Int) = 639 then 0 else S 78 639 : Int) = 0 := if_pos la_enterCode_6
              have h124_ := (h34_ (S 30 p1))
              exact (la_enterCode_24 e123_)
            refine ⟨?_, ?_⟩
            · skip
              obtain ⟨h125_, ⟨h126_, ⟨h127_, ⟨h128_, ⟨h129_, ⟨h130_, ⟨h131_, h132_⟩⟩⟩⟩⟩⟩⟩ := (((h45_ p1) (la_enterCode_13 h50_)) h51_)
              have e133_ : (if (639 : Int) = 639 then 0 else S 78 639 : Int) = 0 := if_pos la_enterCode_6
              have h134_ := (h34_ (S 30 p1))
              exact (la_enterCode_26 e133_)
            refine ⟨?_, ?_⟩
            · skip
              obtain ⟨h135_, ⟨h136_, ⟨h137_, ⟨h138_, ⟨h139_, ⟨h140_, ⟨h141_, h142_⟩⟩⟩⟩⟩⟩⟩ := (((h45_ p1) (la_enterCode_13 h50_)) h51_)
              have e143_ : (if (639 : Int) = 639 then 0 else S 78 639 : Int) = 0 := if_pos la_enterCode_6
              have h144_ := (h34_ (S 30 p1))
              exact (la_enterCode_27 h92_ e143_)
            refine ⟨la_enterCode_3, ?_⟩
            refine ⟨(la_enterCode_28 h20_), ?_⟩
            refine ⟨la_enterCode_29, ?_⟩
            refine ⟨(sm_TC_0 la_enterCode_30), ?_⟩
            refine ⟨?_, ?_⟩
            · skip
              obtain ⟨h145_, ⟨h146_, ⟨h147_, ⟨h148_, ⟨h149_, ⟨h150_, ⟨h151_, h152_⟩⟩⟩⟩⟩⟩⟩ := (((h45_ p1) (la_enterCode_13 h50_)) h51_)
              have h153_ := (h34_ (S 30 p1))
              exact h145_
            refine ⟨?_, ?_⟩
            · skip
              obtain ⟨h154_, ⟨h155_, ⟨h156_, ⟨h157_, ⟨h158_, ⟨h159_, ⟨h160_, h161_⟩⟩⟩⟩⟩⟩⟩ := (((h45_ p1) (la_enterCode_13 h50_)) h51_)
              have h162_ := (h34_ (S 30 p1))
              exact (la_enterCode_31 h50_ h51_ h155_)
            refine ⟨?_, ?_⟩
            · skip
              have h163_ := (h34_ (S 30 p1))
              obtain ⟨h164_, ⟨h165_, ⟨h166_, ⟨h167_, ⟨h168_, ⟨h169_, ⟨h170_, h171_⟩⟩⟩⟩⟩⟩⟩ := (((h45_ p1) (la_enterCode_13 h50_)) h51_)
              have e172_ : (if (639 : Int) = 639 then 0 else S 74 639 : Int) = 0 := if_pos la_enterCode_6
              exact (la_enterCode_27 h166_ e172_)
            intro h173_
            obtain ⟨h174_, ⟨h175_, ⟨h176_, ⟨h177_, ⟨h178_, ⟨h179_, ⟨h180_, h181_⟩⟩⟩⟩⟩⟩⟩ := (((h45_ p1) (la_enterCode_13 h50_)) h51_)
            have h182_ := (h34_ (S 30 p1))
            exact h177_
          intro g74
          rintro ⟨h183_, ⟨h184_, ⟨h185_, ⟨h186_, ⟨h187_, ⟨h188_, ⟨h189_, ⟨h190_, ⟨h191_, ⟨h192_, h193_⟩⟩⟩⟩⟩⟩⟩⟩⟩⟩
          have e194_ : (if (639 : Int) = 639 then 0 else S 74 639 : Int) = 0 := if_pos la_enterCode_6
          have e195_ : (if (639 : Int) = 639 then 0 else S 78 639 : Int) = 0 := if_pos la_enterCode_6
          refine ⟨h183_, ?_⟩
          refine ⟨h184_, ?_⟩
          refine ⟨h185_, ?_⟩
          refine ⟨h186_, ?_⟩
          refine ⟨h190_, ?_⟩
          refine ⟨h191_, ?_⟩
          have e196_ : sm_ps (fun i' : Int => (if i' = 639 then 0 else (g5 76) i')) (fun i' : Int => (if i' = 639 then 0 else (g5 77) i')) = sm_ps (fun i' : Int => (if i' = 639 then 0 else (g5 76) i')) (g5 77) := sm_ps_B la_enterCode_32
          have e197_ : sm_ps (fun i' : Int => (if i' = 639 then 0 else (g5 76) i')) (g5 77) = sm_ps (g5 76) (g5 77) := sm_ps_A la_enterCode_32
          obtain ⟨h198_, ⟨h199_, ⟨h200_, ⟨h201_, ⟨h202_, ⟨h203_, ⟨h204_, h205_⟩⟩⟩⟩⟩⟩⟩ := (((h45_ p1) (la_enterCode_13 h50_)) h51_)
          have h206_ := (h190_ (S 30 p1))
          have h207_ := (h34_ (S 30 p1))
          exact (la_enterCode_33 h61_ h62_ h63_ h71_ h85_ h89_ h90_ h91_ h93_ h192_ e196_ e197_)
        refine ⟨?_, ?_⟩
        · skip
          intro h208_
          intro r80
          intro h209_
          have e210_ : sm_ps (fun i' : Int => (if i' = 639 then 0 else (g5 76) i')) (fun i' : Int => (if i' = 639 then 0 else (g5 77) i')) = sm_ps (fun i' : Int => (if i' = 639 then 0 else (g5 76) i')) (g5 77) := sm_ps_B la_enterCode_32
          have e211_ : sm_ps (fun i' : Int => (if i' = 639 then 0 else (g5 76) i')) (g5 77) = sm_ps (g5 76) (g5 77) := sm_ps_A la_enterCode_32
          have e212_ : sm_ps (fun i' : Int => (if i' = 639 then 0 else (g5 76) i')) (fun i' : Int => (if i' = 639 then r80 else (fun i' : Int => (if i' = 639 then 0 else (g5 77) i')) i')) = sm_ps (fun i' : Int => (if i' = 639 then 0 else (g5 76) i')) (fun i' : Int => (if i' = 639 then 0 else (g5 77) i')) := sm_ps_B la_enterCode_32
          obtain ⟨h213_, ⟨h214_, ⟨h215_, ⟨h216_, ⟨h217_, ⟨h218_, ⟨h219_, h220_⟩⟩⟩⟩⟩⟩⟩ := (((h45_ p1) (la_enterCode_34 h60_ h208_)) h51_)
          have h221_ := (h34_ (S 30 p1))
          exact e212_
        intro h222_
        intro r84
        intro h223_
        have e224_ : sm_ps (fun i' : Int => (if i' = 639 then 0 else (g5 76) i')) (fun i' : Int => (if i' = 639 then 0 else (g5 77) i')) = sm_ps (fun i' : Int => (if i' = 639 then 0 else (g5 76) i')) (g5 77) := sm_ps_B la_enterCode_32
        have e225_ : sm_ps (fun i' : Int => (if i' = 639 then 0 else (g5 76) i')) (g5 77) = sm_ps (g5 76) (g5 77) := sm_ps_A la_enterCode_32
        have e226_ : sm_ps (fun i' : Int => (if i' = 639 then r84 else (fun i' : Int => (if i' = 639 then 0 else (g5 76) i')) i')) (fun i' : Int => (if i' = 639 then 0 else (g5 77) i')) = sm_ps (fun i' : Int => (if i' = 639 then r84 else (fun i' : Int => (if i' = 639 then 0 else (g5 76) i')) i')) (g5 77) := sm_ps_B la_enterCode_32
        have e227_ : sm_ps (fun i' : Int => (if i' = 639 then r84 else (fun i' : Int => (if i' = 639 then 0 else (g5 76) i')) i')) (g5 77) = sm_ps (fun i' : Int => (if i' = 639 then 0 else (g5 76) i')) (g5 77) := sm_ps_A la_enterCode_32
        obtain ⟨h228_, ⟨h229_, ⟨h230_, ⟨h231_, ⟨h232_, ⟨h233_, ⟨h234_, h235_⟩⟩⟩⟩⟩⟩⟩ := (((h45_ p1) (la_enterCode_13 h50_)) h51_)
        have h236_ := (h34_ (S 30 p1))
        exact (la_enterCode_35 e224_ e226_ e227_)
      refine ⟨?_, ?_⟩
      · skip
        intro h237_
        refine ⟨?_, ?_⟩
        · skip
          intro h238_
          refine ⟨(la_enterCode_37 h28_ h53_ (la_enterCode_36 h52_ h238_)), ?_⟩
          intro r94
          intro h239_
          intro h240_
          refine ⟨(la_enterCode_38 h28_ h53_ (la_enterCode_36 h52_ h238_) h240_), ?_⟩
          intro g96
          intro h241_
          exact h241_
        intro h242_
        refine ⟨la_enterCode_39, ?_⟩
        intro g104
        intro h243_
        exact h243_
      intro h244_
      refine ⟨(la_enterCode_40 h16_ h18_ h50_ h51_ h59_ (la_enterCode_36 h58_ h244_)), ?_⟩
      intro r116
      intro h245_
      intro h246_
      refine ⟨la_enterCode_41, ?_⟩
      intro g118
      intro h247_
      exact h247_
    intro h248_
    intro h249_
    have h250_ := (h249_ h46_)
    have h251_ := (h250_ h50_)
    have h252_ := (h251_ h51_)
    have h253_ := (h252_ h83_)
    obtain ⟨h254_, h255_⟩ := (h253_ (la_enterCode_42 h248_))
    refine ⟨?_, ?_⟩
    · skip
      refine ⟨(la_enterCode_43 h50_ h83_), ?_⟩
      obtain ⟨h256_, ⟨h257_, ⟨h258_, ⟨h259_, ⟨h260_, ⟨h261_, ⟨h262_, h263_⟩⟩⟩⟩⟩⟩⟩ := (((h45_ p1) (la_enterCode_13 h50_)) h51_)
      have h264_ := (h34_ (S 30 p1))
      exact (la_enterCode_44 h16_ h51_ h248_ h261_)
    intro h265_
    refine ⟨⟨h11_, ⟨h12_, ⟨h13_, ⟨h14_, ⟨h15_, ⟨h16_, ⟨h17_, ⟨h18_, ⟨h19_, ⟨h20_, ⟨h21_, ⟨h22_, (la_enterCode_45 h17_ h19_ h23_ h24_ h50_ h51_ h60_ h254_ h255_)⟩⟩⟩⟩⟩⟩⟩⟩⟩⟩⟩⟩, ?_⟩
    intro r133
    intro h266_
    intro g129
    rintro ⟨h267_, ⟨h268_, h269_⟩⟩
    refine ⟨?_, ?_⟩
    · skip
      intro s136
      intro h270_
      intro h271_
      refine ⟨?_, ?_⟩
      · skip
        intro g138
        intro h272_
        refine ⟨(la_enterCode_46 h83_ h86_ h248_), ?_⟩
        refine ⟨(la_enterCode_47 h83_ h85_ h248_ h267_ h272_), ?_⟩
        exact la_enterCode_48
      intro h273_
      refine ⟨?_, ?_⟩
      · skip
        intro h274_
        refine ⟨?_, ?_⟩
        · skip
          intro h275_
          have h276_ := (h271_.resolve_right (la_enterCode_49 h275_))
          refine ⟨(la_enterCode_50 h268_ h269_), ?_⟩
          intro g148
          intro h277_
          exact h277_
        intro h278_
        have h279_ := (h271_.resolve_left h278_)
        refine ⟨?_, ?_⟩
        · skip
          intro h280_
          refine ⟨la_enterCode_53, ?_⟩
          intro h281_
          refine ⟨(la_enterCode_54 h16_ h50_ h51_ h60_), ?_⟩
          refine ⟨(la_enterCode_55 h268_ h269_), ?_⟩
          intro g157
          intro h282_
          exact h282_
        intro h283_
        refine ⟨(la_enterCode_55 h268_ h269_), ?_⟩
        intro g165
        intro h284_
        refine ⟨(la_enterCode_56 h284_), ?_⟩
        intro h285_
        refine ⟨(la_enterCode_54 h16_ h50_ h51_ h60_), ?_⟩
        intro g173
        intro h286_
        exact (la_enterCode_57 h284_ h286_)
      intro h287_
      refine ⟨?_, ?_⟩
      · skip
        intro h288_
        refine ⟨?_, ?_⟩
        · skip
          intro h289_
          have h290_ := (h271_.resolve_right (la_enterCode_49 h289_))
          refine ⟨(la_enterCode_50 h268_ h269_), ?_⟩
          intro g181
          intro h291_
          exact h291_
        intro h292_
        have h293_ := (h271_.resolve_left h292_)
        refine ⟨?_, ?_⟩
        · skip
          intro h294_
          refine ⟨la_enterCode_53, ?_⟩
          intro h295_
          refine ⟨(la_enterCode_54 h16_ h50_ h51_ h60_), ?_⟩
          refine ⟨(la_enterCode_55 h268_ h269_), ?_⟩
          intro g190
          intro h296_
          exact h296_
        intro h297_
        refine ⟨(la_enterCode_55 h268_ h269_), ?_⟩
        intro g198
        intro h298_
        refine ⟨(la_enterCode_56 h298_), ?_⟩
        intro h299_
        refine ⟨(la_enterCode_54 h16_ h50_ h51_ h60_), ?_⟩
        intro g206
        intro h300_
        exact (la_enterCode_57 h298_ h300_)
      intro h301_
      refine ⟨(la_enterCode_58 h54_ h55_ h57_ h83_ h301_), ?_⟩
      refine ⟨(la_enterCode_59 h28_ h54_ h55_ h57_ h83_ h301_), ?_⟩
      intro r219
      intro h302_
      intro h303_
      refine ⟨(la_enterCode_60 h28_ h54_ h55_ h57_ h83_ h268_ h269_ h301_ h303_), ?_⟩
      intro g221
      intro h304_
      exact h304_
    intro h305_
    refine ⟨la_enterCode_61, ?_⟩
    intro h306_
    rintro ⟨h307_, h308_⟩
    refine ⟨la_enterCode_62, ?_⟩
    intro h309_
    intro h310_
    refine ⟨la_enterCode_63, ?_⟩
    intro h311_
    exact la_enterCode_64
  intro h312_
  refine ⟨?_, ?_⟩
  · skip
    intro h313_
    refine ⟨?_, ?_⟩
    · skip
      intro h314_
      refine ⟨(la_enterCode_66 h16_ h50_ h51_ h60_ h67_), ?_⟩
      intro h315_
      refine ⟨⟨h11_, ⟨h12_, ⟨h13_, ⟨h14_, ⟨h15_, ⟨h16_, ⟨h17_, ⟨h18_, ⟨h19_, ⟨h20_, ⟨h21_, ⟨h22_, (la_enterCode_67 h16_ h23_ h24_ h50_ h51_ h60_ h312_ (la_enterCode_65 h69_ h313_))⟩⟩⟩⟩⟩⟩⟩⟩⟩⟩⟩⟩, ?_⟩
      intro r239
      intro h316_
      rintro ⟨h317_, h318_⟩
      have h319_ := (h317_ la_enterCode_6)
      refine ⟨(la_enterCode_68 h16_ h50_ h51_ h60_ h312_ (la_enterCode_65 h69_ h313_) h319_), ?_⟩
      intro h320_
      intro r242
      intro h321_
      intro h322_
      intro r251
      intro h323_
      rintro ⟨h324_, h325_⟩
      have h326_ := (h324_ la_enterCode_6)
      refine ⟨(la_enterCode_68 h16_ h50_ h51_ h60_ h312_ (la_enterCode_65 h69_ h313_) h326_), ?_⟩
      intro h327_
      intro r254
      intro h328_
      refine ⟨(la_enterCode_69 h50_ h60_ (la_enterCode_65 h69_ h313_) h316_ h319_), ?_⟩
      refine ⟨?_, ?_⟩
      · skip
        refine ⟨(la_enterCode_70 (la_enterCode_65 h69_ h313_)), ?_⟩
        refine ⟨(la_enterCode_71 h312_), ?_⟩
        have e329_ : sm_pl (g5 81) (g5 82) (g5 83) (g5 84) (fun i' : Int => (if i' = r15 then r242 else (g17 85) i')) (fun i' : Int => (if i' = r15 then r254 else (g17 86) i')) = sm_pl (g5 81) (g5 82) (g5 83) (g5 84) (fun i' : Int => (if i' = r15 then r242 else (g17 85) i')) (g17 86) := sm_pl_D (la_enterCode_72 h50_ h60_ h67_)
        have e330_ : sm_pl (g5 81) (g5 82) (g5 83) (g5 84) (fun i' : Int => (if i' = r15 then r242 else (g17 85) i')) (g17 86) = sm_pl (g5 81) (g5 82) (g5 83) (g5 84) (g17 85) (g17 86) := sm_pl_C (la_enterCode_72 h50_ h60_ h67_)
        exact (la_enterCode_73 h71_ e329_ e330_)
      exact la_enterCode_74
    intro h331_
    refine ⟨(la_enterCode_75 h50_ h60_ h64_ h67_ h312_ (la_enterCode_65 h69_ h313_)), ?_⟩
    refine ⟨(la_enterCode_76 h71_ h312_ (la_enterCode_65 h69_ h313_)), ?_⟩
    exact la_enterCode_74
  intro h332_
  refine ⟨?_, ?_⟩
  · skip
    intro h333_
    refine ⟨(la_enterCode_66 h16_ h50_ h51_ h60_ h67_), ?_⟩
    intro h334_
    refine ⟨⟨h11_, ⟨h12_, ⟨h13_, ⟨h14_, ⟨h15_, ⟨h16_, ⟨h17_, ⟨h18_, ⟨h19_, ⟨h20_, ⟨h21_, ⟨h22_, (la_enterCode_77 h16_ h23_ h24_ h50_ h51_ h60_ h332_)⟩⟩⟩⟩⟩⟩⟩⟩⟩⟩⟩⟩, ?_⟩
    intro r267
    intro h335_
    rintro ⟨h336_, h337_⟩
    have h338_ := (h336_ la_enterCode_6)
    refine ⟨(la_enterCode_78 h16_ h50_ h51_ h60_ h332_ h338_), ?_⟩
    intro h339_
    intro r270
    intro h340_
    intro h341_
    intro r279
    intro h342_
    rintro ⟨h343_, h344_⟩
    have h345_ := (h343_ la_enterCode_6)
    refine ⟨(la_enterCode_79 h16_ h50_ h51_ h60_ h69_ h332_ h345_), ?_⟩
    intro h346_
    intro r282
    intro h347_
    refine ⟨(la_enterCode_80 h50_ h60_ h332_ h335_ h338_), ?_⟩
    refine ⟨?_, ?_⟩
    · skip
      refine ⟨(la_enterCode_81 h332_), ?_⟩
      refine ⟨(la_enterCode_82 h332_), ?_⟩
      have e348_ : sm_pl (g5 81) (g5 82) (g5 83) (g5 84) (fun i' : Int => (if i' = r15 then r270 else (g17 85) i')) (fun i' : Int => (if i' = r15 then r282 else (g17 86) i')) = sm_pl (g5 81) (g5 82) (g5 83) (g5 84) (fun i' : Int => (if i' = r15 then r270 else (g17 85) i')) (g17 86) := sm_pl_D (la_enterCode_72 h50_ h60_ h67_)
      have e349_ : sm_pl (g5 81) (g5 82) (g5 83) (g5 84) (fun i' : Int => (if i' = r15 then r270 else (g17 85) i')) (g17 86) = sm_pl (g5 81) (g5 82) (g5 83) (g5 84) (g17 85) (g17 86) := sm_pl_C (la_enterCode_72 h50_ h60_ h67_)
      exact (la_enterCode_73 h71_ e348_ e349_)
    exact la_enterCode_74
  intro h350_
  refine ⟨(la_enterCode_83 h50_ h60_ h64_ h67_ h69_ h332_), ?_⟩
  refine ⟨(la_enterCode_84 h71_ h332_), ?_⟩
  exact la_enterCode_74
set_option maxRecDepth 8000 in
set_option maxHeartbeats 2000000 in
theorem t_enterCode : ∀ (p1 : Int) (p2 : Int) (p3 : Int) (p4 : Int) (p5 : Int) (p6 : Int) (p7 : Int) (S : sv_S), sm_ok S → sv_R p1 → (0 ≤ p2 ∧ p2 ≤ 1) → (0 ≤ p3 ∧ p3 ≤ 1) → sv_R p4 → sv_R p5 → sv_R p6 → sv_R p7 → (29 ≤ (S 1071 0) ∧ (S 1071 0) ≤ 127 ∧ 31 ≤ (S 1008 0) ∧ (S 1008 0) ≤ 90 ∧ 1 ≤ (S 1032 0) ∧ (S 1032 0) ≤ 11 ∧ 0 ≤ (S 1055 0) ∧ (S 1055 0) ≤ 19 ∧ (S 1071 0) = 29 + 6 * ((S 1032 0) - 1) + 2 * (S 1055 0) ∧ 0 ≤ (S 1046 0) ∧ (S 1046 0) + 2 * (S 1032 0) ≤ 500 ∧ sm_PD (S 1046 0) (S 1032 0) (S 1071 0) (S 1008 0) ∧ 0 ≤ (S 1071 0) * ((S 1008 0) + 1) ∧ (S 1071 0) * ((S 1008 0) + 1) ≤ 11557 ∧ 31 ≤ (S 1007 0) ∧ (S 1007 0) ≤ 400 ∧ sm_LN (S 4) 400 (S 1007 0) ∧ (S 75 639) = 647340 ∧ sm_ST (S 71) (S 74) (S 75) (S 78) (S 79) (S 80) (S 27) (S 1100007) (S 1100023) (S 1100024) (S 1046 0) ((S 1046 0) + 2 * (S 1032 0)) (S 1127 0) ∧ 465000 ≤ (S 1127 0) ∧ (S 1127 0) + sm_hs (S 71) (S 1100007) ≤ 635000 ∧ sm_NH (S 1100007) ∧ sm_CT (S 26) (S 27) (S 28) (S 29) (S 1100007) (S 1100023) (S 1100024) (S 1100025) (S 21) (S 1046 0) (S 1032 0) (S 1008 0) (S 1055 0) ∧ (∀ k : Int, (S 1046 0) ≤ k → k < ((S 1046 0) + 2 * (S 1032 0)) → (S 1100007 k) = 1) ∧ sm_DR (S 72) (S 71) (S 1046 0) ∧ 0 ≤ (S 74 639) ∧ (S 74 639) ≤ 400 ∧ 0 ≤ (S 78 639) ∧ (S 78 639) ≤ 40 ∧ (S 78 639) = sm_dp (S 1100024) (S 1100031 0) ∧ -1 ≤ (S 1100031 0) ∧ (S 1100031 0) < (S 1046 0) ∧ (0 ≤ (S 1100031 0) → (S 26 (S 1100031 0)) = 27) ∧ sm_TC (S 79) (S 80) (S 27) (S 1100007) (S 1100023) (S 1100024) 25560 (S 1100031 0) ∧ (∀ g : Int, 0 ≤ g → g < (S 1032 0) → 0 ≤ (S 30 g) ∧ (S 30 g) < (S 1046 0) ∧ (S 1100007 (S 30 g)) = 0 ∧ (S 1100023 (S 30 g)) = -1 ∧ 0 ≤ (S 33 g) ∧ (S 33 g) ≤ 100 ∧ 0 ≤ (S 20 g) ∧ (S 20 g) ≤ 8) ∧ sm_VN (S 32) (S 33) (S 1032 0) (S 1008 0) ∧ 0 ≤ (S 1147 0) ∧ (S 1147 0) ≤ 12 ∧ (∀ k : Int, 0 ≤ k → k < (S 1147 0) → 635639 ≤ (S 91 k) ∧ (S 91 k) < 647800) ∧ 1 ≤ p1 ∧ p1 < (S 1032 0) ∧ -1 ≤ p4 ∧ p4 ≤ 450 ∧ 0 ≤ p5 ∧ p5 ≤ 450 ∧ 0 ≤ p6 ∧ p6 ≤ 8 ∧ -1 ≤ p7 ∧ p7 < (S 1055 0)) → sv_T sm_XS sm_cs sm_L sm_sh 4 (q_enterCode p1 p2 p3 p4 p5 p6 p7 S) 286 0 (lv_args 0 [.ref 0, sv_I p1, sv_I p2, sv_I p3, sv_I p4, sv_I p5, sv_I p6, sv_I p7]) [] S := by
  intro p1 p2 p3 p4 p5 p6 p7 S hok hp1 hp2 hp3 hp4 hp5 hp6 hp7 hpre
  have h := f_enterCode p1 p2 p3 p4 p5 p6 p7 S hok hp1 hp2 hp3 hp4 hp5 hp6 hp7 hpre
  have hM := sm_h286
  show sv_T sm_XS sm_cs sm_L sm_sh 4 (q_enterCode p1 p2 p3 p4 p5 p6 p7 S) 286 0 [(0, .ref 0), (1, sv_I p1), (2, sv_I p2), (3, sv_I p3), (4, sv_I p4), (5, sv_I p5), (6, sv_I p6), (7, sv_I p7)] [] S
  refine sv_bipush (d := (29 : Int)) hM dX12_enterCode_0 rfl rfl ?_
  refine sv_bipush (d := (6 : Int)) hM dX12_enterCode_2 rfl rfl ?_
  refine sv_iload_n hM dX12_enterCode_4 rfl rfl ?_
  refine sv_iconst (d := (1 : Int)) hM dX12_enterCode_5 rfl rfl ?_
  refine sv_isub hM dX12_enterCode_6 rfl ?_
  refine sv_imul hM dX12_enterCode_7 rfl ?_
  refine sv_iadd hM dX12_enterCode_8 rfl ?_
  refine sv_iconst (d := (2 : Int)) hM dX12_enterCode_9 rfl rfl ?_
  refine sv_iadd hM dX12_enterCode_10 rfl ?_
  obtain ⟨x1, e2⟩ : ∃ x : Int, (((29 : Int) + ((6 : Int) * (p1 - (1 : Int)))) + (2 : Int)) = x := ⟨_, rfl⟩
  have h := h x1 e2
  refine sv_nameI e2 ?_
  refine sv_istore hM dX12_enterCode_11 (by decide) rfl ?_
  show sv_T sm_XS sm_cs sm_L sm_sh 4 (q_enterCode p1 p2 p3 p4 p5 p6 p7 S) 286 13 [(0, .ref 0), (1, sv_I p1), (2, sv_I p2), (3, sv_I p3), (4, sv_I p4), (5, sv_I p5), (6, sv_I p6), (7, sv_I p7), (8, sv_I x1)] [] S
  refine sv_iload hM dX12_enterCode_13 rfl rfl ?_
  refine sv_iconst (d := (2 : Int)) hM dX12_enterCode_15 rfl rfl ?_
  refine sv_isub hM dX12_enterCode_16 rfl ?_
  refine sv_istore hM dX12_enterCode_17 (by decide) rfl ?_
  show sv_T sm_XS sm_cs sm_L sm_sh 4 (q_enterCode p1 p2 p3 p4 p5 p6 p7 S) 286 19 [(0, .ref 0), (1, sv_I p1), (2, sv_I p2), (3, sv_I p3), (4, sv_I p4), (5, sv_I p5), (6, sv_I p6), (7, sv_I p7), (8, sv_I x1), (9, sv_I (x1 - (2 : Int)))] [] S
  refine sv_aload_n hM dX12_enterCode_19 rfl rfl ?_
  refine sv_iload hM dX12_enterCode_20 rfl rfl ?_
  refine sv_iconst (d := (-1 : Int)) hM dX12_enterCode_22 rfl rfl ?_
  obtain ⟨o3, h⟩ := h
  obtain ⟨o4, h⟩ := h
  refine sv_callV hM dX12_enterCode_23 sm_iv_1241 (by decide) (sm_a0 _) rfl rfl (Nat.le_of_ble_eq_true rfl) sm_h256 (Nat.le_of_ble_eq_true rfl) (Nat.le_of_ble_eq_true rfl) (F' := 3) (Nat.le_of_ble_eq_true rfl) rfl (t_make (x1 - (2 : Int)) (-1 : Int) S hok o3 (⟨by decide, by decide⟩ : sv_R (-1 : Int)) o4) (fun v S1 hq => ?_)
  obtain ⟨rfl, ok6, md7, hpo8⟩ := hq
  obtain ⟨g5, rfl⟩ : ∃ g, S1 = sv_sts S [68, 69, 70, 81, 82, 83, 84, 85, 86, 76, 77] g := ⟨_, md7.eq⟩
  show sv_T sm_XS sm_cs sm_L sm_sh 4 (q_enterCode p1 p2 p3 p4 p5 p6 p7 S) 286 26 [(0, .ref 0), (1, sv_I p1), (2, sv_I p2), (3, sv_I p3), (4, sv_I p4), (5, sv_I p5), (6, sv_I p6), (7, sv_I p7), (8, sv_I x1), (9, sv_I (x1 - (2 : Int)))] [] (sv_sts S [68, 69, 70, 81, 82, 83, 84, 85, 86, 76, 77] g5)
  have md9 : sv_mod [68, 69, 70, 81, 82, 83, 84, 85, 86, 71, 74, 75, 1127, 78, 79, 80, 72, 76, 77, 1143, 1144, 5, 1011, 1150, 1149, 1145, 1113, 1111, 1112, 1100031] S (sv_sts S [68, 69, 70, 81, 82, 83, 84, 85, 86, 76, 77] g5) := sv_mod.sts sv_mod.rf (by decide)
  have h := h g5 hpo8
  refine sv_aload_n hM dX12_enterCode_26 rfl rfl ?_
  refine sv_sipush (d := (639 : Int)) hM dX12_enterCode_27 rfl rfl ?_
  refine sv_iload hM dX12_enterCode_30 rfl rfl ?_
  obtain ⟨o10, h⟩ := h
  refine sv_callV hM dX12_enterCode_32 sm_iv_1101 (by decide) (sm_a0 _) rfl rfl (Nat.le_of_ble_eq_true rfl) sm_h226 (Nat.le_of_ble_eq_true rfl) (Nat.le_of_ble_eq_true rfl) (F' := 1) (Nat.le_of_ble_eq_true rfl) rfl (t_of (639 : Int) (x1 - (2 : Int)) (sv_sts S [68, 69, 70, 81, 82, 83, 84, 85, 86, 76, 77] g5) ok6 (⟨by decide, by decide⟩ : sv_R (639 : Int)) o3 o10) (fun v S1 hq => ?_)
  obtain ⟨r15, rfl, hr15, ok12, md13, hpo14⟩ := hq
  obtain rfl : (sv_sts S [68, 69, 70, 81, 82, 83, 84, 85, 86, 76, 77] g5) = S1 := (funext fun j => md13 j (by intro q; cases q)).symm
  show sv_T sm_XS sm_cs sm_L sm_sh 4 (q_enterCode p1 p2 p3 p4 p5 p6 p7 S) 286 35 [(0, .ref 0), (1, sv_I p1), (2, sv_I p2), (3, sv_I p3), (4, sv_I p4), (5, sv_I p5), (6, sv_I p6), (7, sv_I p7), (8, sv_I x1), (9, sv_I (x1 - (2 : Int)))] [sv_I r15] (sv_sts S [68, 69, 70, 81, 82, 83, 84, 85, 86, 76, 77] g5)
  have h := h r15 hr15 hpo14
  refine sv_istore hM dX12_enterCode_35 (by decide) rfl ?_
  show sv_T sm_XS sm_cs sm_L sm_sh 4 (q_enterCode p1 p2 p3 p4 p5 p6 p7 S) 286 37 [(0, .ref 0), (1, sv_I p1), (2, sv_I p2), (3, sv_I p3), (4, sv_I p4), (5, sv_I p5), (6, sv_I p6), (7, sv_I p7), (8, sv_I x1), (9, sv_I (x1 - (2 : Int))), (10, sv_I r15)] [] (sv_sts S [68, 69, 70, 81, 82, 83, 84, 85, 86, 76, 77] g5)
  refine sv_iload hM dX12_enterCode_37 rfl rfl ?_
  refine sv_istore hM dX12_enterCode_39 (by decide) rfl ?_
  show sv_T sm_XS sm_cs sm_L sm_sh 4 (q_enterCode p1 p2 p3 p4 p5 p6 p7 S) 286 41 [(0, .ref 0), (1, sv_I p1), (2, sv_I p2), (3, sv_I p3), (4, sv_I p4), (5, sv_I p5), (6, sv_I p6), (7, sv_I p7), (8, sv_I x1), (9, sv_I (x1 - (2 : Int))), (10, sv_I r15), (11, sv_I x1)] [] (sv_sts S [68, 69, 70, 81, 82, 83, 84, 85, 86, 76, 77] g5)
  obtain ⟨o16, h⟩ := h
  obtain ⟨hin20, h⟩ := h
  have hJ : ∀ a : Int × sv_S, (sv_R a.1 ∧ sm_ok (sv_sts (sv_sts S [68, 69, 70, 81, 82, 83, 84, 85, 86, 76, 77] g5) [85, 86] a.2) ∧ (x1 ≤ a.1 ∧ a.1 ≤ x1 + 2 ∧ sm_pl (g5 81) (g5 82) (g5 83) (g5 84) (a.2 85) (a.2 86) = sm_pl (g5 81) (g5 82) (g5 83) (g5 84) (g5 85) (g5 86))) → sv_T sm_XS sm_cs sm_L sm_sh 4 (q_enterCode p1 p2 p3 p4 p5 p6 p7 S) 286 41 [(0, .ref 0), (1, sv_I p1), (2, sv_I p2), (3, sv_I p3), (4, sv_I p4), (5, sv_I p5), (6, sv_I p6), (7, sv_I p7), (8, sv_I x1), (9, sv_I (x1 - (2 : Int))), (10, sv_I r15), (11, sv_I a.1)] [] (sv_sts (sv_sts S [68, 69, 70, 81, 82, 83, 84, 85, 86, 76, 77] g5) [85, 86] a.2) := by
    refine sv_loop (α := Int × sv_S) (fun a => sv_R a.1 ∧ sm_ok (sv_sts (sv_sts S [68, 69, 70, 81, 82, 83, 84, 85, 86, 76, 77] g5) [85, 86] a.2) ∧ (x1 ≤ a.1 ∧ a.1 ≤ x1 + 2 ∧ sm_pl (g5 81) (g5 82) (g5 83) (g5 84) (a.2 85) (a.2 86) = sm_pl (g5 81) (g5 82) (g5 83) (g5 84) (g5 85) (g5 86))) (fun a => x1 + 2 - a.1) (fun a => sv_T sm_XS sm_cs sm_L sm_sh 4 (q_enterCode p1 p2 p3 p4 p5 p6 p7 S) 286 41 [(0, .ref 0), (1, sv_I p1), (2, sv_I p2), (3, sv_I p3), (4, sv_I p4), (5, sv_I p5), (6, sv_I p6), (7, sv_I p7), (8, sv_I x1), (9, sv_I (x1 - (2 : Int))), (10, sv_I r15), (11, sv_I a.1)] [] (sv_sts (sv_sts S [68, 69, 70, 81, 82, 83, 84, 85, 86, 76, 77] g5) [85, 86] a.2)) (fun a q => (h a.1 q.1 a.2 q.2.2).1) (fun a q ih19 => ?_)
    obtain ⟨l11_18, g17⟩ := a
    obtain ⟨hl11_18, ok21, hin20i⟩ := q
    have h := (h l11_18 hl11_18 g17 hin20i).2
    show sv_T sm_XS sm_cs sm_L sm_sh 4 (q_enterCode p1 p2 p3 p4 p5 p6 p7 S) 286 41 [(0, .ref 0), (1, sv_I p1), (2, sv_I p2), (3, sv_I p3), (4, sv_I p4), (5, sv_I p5), (6, sv_I p6), (7, sv_I p7), (8, sv_I x1), (9, sv_I (x1 - (2 : Int))), (10, sv_I r15), (11, sv_I l11_18)] [] (sv_sts (sv_sts S [68, 69, 70, 81, 82, 83, 84, 85, 86, 76, 77] g5) [85, 86] g17)
    have md22 : sv_mod [68, 69, 70, 81, 82, 83, 84, 85, 86, 71, 74, 75, 1127, 78, 79, 80, 72, 76, 77, 1143, 1144, 5, 1011, 1150, 1149, 1145, 1113, 1111, 1112, 1100031] S (sv_sts (sv_sts S [68, 69, 70, 81, 82, 83, 84, 85, 86, 76, 77] g5) [85, 86] g17) := sv_mod.sts md9 (by decide)
    have md23 : sv_mod [85, 86] (sv_sts S [68, 69, 70, 81, 82, 83, 84, 85, 86, 76, 77] g5) (sv_sts (sv_sts S [68, 69, 70, 81, 82, 83, 84, 85, 86, 76, 77] g5) [85, 86] g17) := sv_mod.sts sv_mod.rf (by decide)
    refine sv_iload hM dX12_enterCode_41 rfl rfl ?_
    refine sv_iload hM dX12_enterCode_43 rfl rfl ?_
    refine sv_iconst (d := (2 : Int)) hM dX12_enterCode_45 rfl rfl ?_
    refine sv_iadd hM dX12_enterCode_46 rfl ?_
    obtain ⟨o24, h⟩ := h
    refine sv_icmp_ge hM dX12_enterCode_47 hl11_18 o24 (t := 135) rfl rfl (fun hc => ?_) (fun hc => ?_)
    · have h := h.1 (hc)
      refine sv_iconst (d := (0 : Int)) hM dX12_enterCode_135 rfl rfl ?_
      refine sv_istore hM dX12_enterCode_136 (by decide) rfl ?_
      show sv_T sm_XS sm_cs sm_L sm_sh 4 (q_enterCode p1 p2 p3 p4 p5 p6 p7 S) 286 138 [(0, .ref 0), (1, sv_I p1), (2, sv_I p2), (3, sv_I p3), (4, sv_I p4), (5, sv_I p5), (6, sv_I p6), (7, sv_I p7), (8, sv_I x1), (9, sv_I (x1 - (2 : Int))), (10, sv_I r15), (11, sv_I (0 : Int))] [] (sv_sts (sv_sts S [68, 69, 70, 81, 82, 83, 84, 85, 86, 76, 77] g5) [85, 86] g17)
      obtain ⟨hin28, h⟩ := h
      have hJ : ∀ a : Int × sv_S, (sv_R a.1 ∧ sm_ok (sv_sts (sv_sts (sv_sts S [68, 69, 70, 81, 82, 83, 84, 85, 86, 76, 77] g5) [85, 86] g17) [68, 69, 70] a.2) ∧ (0 ≤ a.1 ∧ a.1 ≤ (S 33 p1) ∧ sm_pt (a.2 68) (a.2 69) (a.2 70) = sm_pt (g5 68) (g5 69) (g5 70))) → sv_T sm_XS sm_cs sm_L sm_sh 4 (q_enterCode p1 p2 p3 p4 p5 p6 p7 S) 286 138 [(0, .ref 0), (1, sv_I p1), (2, sv_I p2), (3, sv_I p3), (4, sv_I p4), (5, sv_I p5), (6, sv_I p6), (7, sv_I p7), (8, sv_I x1), (9, sv_I (x1 - (2 : Int))), (10, sv_I r15), (11, sv_I a.1)] [] (sv_sts (sv_sts (sv_sts S [68, 69, 70, 81, 82, 83, 84, 85, 86, 76, 77] g5) [85, 86] g17) [68, 69, 70] a.2) := by
        refine sv_loop (α := Int × sv_S) (fun a => sv_R a.1 ∧ sm_ok (sv_sts (sv_sts (sv_sts S [68, 69, 70, 81, 82, 83, 84, 85, 86, 76, 77] g5) [85, 86] g17) [68, 69, 70] a.2) ∧ (0 ≤ a.1 ∧ a.1 ≤ (S 33 p1) ∧ sm_pt (a.2 68) (a.2 69) (a.2 70) = sm_pt (g5 68) (g5 69) (g5 70))) (fun a => (S 33 p1) - a.1) (fun a => sv_T sm_XS sm_cs sm_L sm_sh 4 (q_enterCode p1 p2 p3 p4 p5 p6 p7 S) 286 138 [(0, .ref 0), (1, sv_I p1), (2, sv_I p2), (3, sv_I p3), (4, sv_I p4), (5, sv_I p5), (6, sv_I p6), (7, sv_I p7), (8, sv_I x1), (9, sv_I (x1 - (2 : Int))), (10, sv_I r15), (11, sv_I a.1)] [] (sv_sts (sv_sts (sv_sts S [68, 69, 70, 81, 82, 83, 84, 85, 86, 76, 77] g5) [85, 86] g17) [68, 69, 70] a.2)) (fun a q => (h a.1 q.1 a.2 q.2.2).1) (fun a q ih27 => ?_)
        obtain ⟨l11_26, g25⟩ := a
        obtain ⟨hl11_26, ok29, hin28i⟩ := q
        have h := (h l11_26 hl11_26 g25 hin28i).2
        show sv_T sm_XS sm_cs sm_L sm_sh 4 (q_enterCode p1 p2 p3 p4 p5 p6 p7 S) 286 138 [(0, .ref 0), (1, sv_I p1), (2, sv_I p2), (3, sv_I p3), (4, sv_I p4), (5, sv_I p5), (6, sv_I p6), (7, sv_I p7), (8, sv_I x1), (9, sv_I (x1 - (2 : Int))), (10, sv_I r15), (11, sv_I l11_26)] [] (sv_sts (sv_sts (sv_sts S [68, 69, 70, 81, 82, 83, 84, 85, 86, 76, 77] g5) [85, 86] g17) [68, 69, 70] g25)
        have md30 : sv_mod [68, 69, 70, 81, 82, 83, 84, 85, 86, 71, 74, 75, 1127, 78, 79, 80, 72, 76, 77, 1143, 1144, 5, 1011, 1150, 1149, 1145, 1113, 1111, 1112, 1100031] S (sv_sts (sv_sts (sv_sts S [68, 69, 70, 81, 82, 83, 84, 85, 86, 76, 77] g5) [85, 86] g17) [68, 69, 70] g25) := sv_mod.sts md22 (by decide)
        have md31 : sv_mod [68, 69, 70] (sv_sts (sv_sts S [68, 69, 70, 81, 82, 83, 84, 85, 86, 76, 77] g5) [85, 86] g17) (sv_sts (sv_sts (sv_sts S [68, 69, 70, 81, 82, 83, 84, 85, 86, 76, 77] g5) [85, 86] g17) [68, 69, 70] g25) := sv_mod.sts sv_mod.rf (by decide)
        refine sv_iload hM dX12_enterCode_138 rfl rfl ?_
        refine sv_aload_n hM dX12_enterCode_140 rfl rfl ?_
        refine sv_getA hM dX12_enterCode_141 sm_fl_110 (sm_a0 _) sm_k58 rfl ?_
        refine sv_iload_n hM dX12_enterCode_144 rfl rfl ?_
        obtain ⟨o32, h⟩ := h
        have k33 : sv_R (S 33 p1) := sm_okI ok29 sm_r33 p1
        have h := h k33
        refine sv_iald hM dX12_enterCode_145 (sm_a33 _) (by decide) o32.1 o32.2 rfl (x := (S 33 p1)) rfl ?_
        refine sv_icmp_ge hM dX12_enterCode_146 hl11_26 k33 (t := 303) rfl rfl (fun hc => ?_) (fun hc => ?_)
        · have h := h.1 (hc)
          refine sv_ldc_w (d := (647753 : Int)) hM dX12_enterCode_303 sm_ck_1357 rfl rfl ?_
          refine sv_istore hM dX12_enterCode_306 (by decide) rfl ?_
          show sv_T sm_XS sm_cs sm_L sm_sh 4 (q_enterCode p1 p2 p3 p4 p5 p6 p7 S) 286 308 [(0, .ref 0), (1, sv_I p1), (2, sv_I p2), (3, sv_I p3), (4, sv_I p4), (5, sv_I p5), (6, sv_I p6), (7, sv_I p7), (8, sv_I x1), (9, sv_I (x1 - (2 : Int))), (10, sv_I r15), (11, sv_I (647753 : Int))] [] (sv_sts (sv_sts (sv_sts S [68, 69, 70, 81, 82, 83, 84, 85, 86, 76, 77] g5) [85, 86] g17) [68, 69, 70] g25)
          refine sv_aload_n hM dX12_enterCode_308 rfl rfl ?_
          refine sv_iload hM dX12_enterCode_309 rfl rfl ?_
          obtain ⟨o34, h⟩ := h
          refine sv_callV hM dX12_enterCode_311 sm_iv_1066 (by decide) (sm_a0 _) rfl rfl (Nat.le_of_ble_eq_true rfl) sm_h206 (Nat.le_of_ble_eq_true rfl) (Nat.le_of_ble_eq_true rfl) (F' := 0) (Nat.le_of_ble_eq_true rfl) rfl (t_empty (647753 : Int) (sv_sts (sv_sts (sv_sts S [68, 69, 70, 81, 82, 83, 84, 85, 86, 76, 77] g5) [85, 86] g17) [68, 69, 70] g25) ok29 (⟨by decide, by decide⟩ : sv_R (647753 : Int)) o34) (fun v S1 hq => ?_)
          obtain ⟨rfl, ok36, md37, hpo38⟩ := hq
          obtain ⟨g35, rfl⟩ : ∃ g, S1 = sv_sts (sv_sts (sv_sts (sv_sts S [68, 69, 70, 81, 82, 83, 84, 85, 86, 76, 77] g5) [85, 86] g17) [68, 69, 70] g25) [68, 69, 70] g := ⟨_, md37.eq⟩
          show sv_T sm_XS sm_cs sm_L sm_sh 4 (q_enterCode p1 p2 p3 p4 p5 p6 p7 S) 286 314 [(0, .ref 0), (1, sv_I p1), (2, sv_I p2), (3, sv_I p3), (4, sv_I p4), (5, sv_I p5), (6, sv_I p6), (7, sv_I p7), (8, sv_I x1), (9, sv_I (x1 - (2 : Int))), (10, sv_I r15), (11, sv_I (647753 : Int))] [] (sv_sts (sv_sts (sv_sts (sv_sts S [68, 69, 70, 81, 82, 83, 84, 85, 86, 76, 77] g5) [85, 86] g17) [68, 69, 70] g25) [68, 69, 70] g35)
          have md39 : sv_mod [68, 69, 70, 81, 82, 83, 84, 85, 86, 71, 74, 75, 1127, 78, 79, 80, 72, 76, 77, 1143, 1144, 5, 1011, 1150, 1149, 1145, 1113, 1111, 1112, 1100031] S (sv_sts (sv_sts (sv_sts (sv_sts S [68, 69, 70, 81, 82, 83, 84, 85, 86, 76, 77] g5) [85, 86] g17) [68, 69, 70] g25) [68, 69, 70] g35) := sv_mod.sts md30 (by decide)
          have md40 : sv_mod [68, 69, 70] (sv_sts (sv_sts S [68, 69, 70, 81, 82, 83, 84, 85, 86, 76, 77] g5) [85, 86] g17) (sv_sts (sv_sts (sv_sts (sv_sts S [68, 69, 70, 81, 82, 83, 84, 85, 86, 76, 77] g5) [85, 86] g17) [68, 69, 70] g25) [68, 69, 70] g35) := sv_mod.sts md31 (by decide)
          have h := h g35 hpo38
          have J88 : ∀ g41 : sv_S, sm_ok (sv_sts (sv_sts (sv_sts (sv_sts (sv_sts S [68, 69, 70, 81, 82, 83, 84, 85, 86, 76, 77] g5) [85, 86] g17) [68, 69, 70] g25) [68, 69, 70] g35) [68, 69, 70] g41) → (sm_pt (g41 68) (g41 69) (g41 70) = sm_pt (g35 68) (g35 69) (g35 70)) → sv_T sm_XS sm_cs sm_L sm_sh 4 (q_enterCode p1 p2 p3 p4 p5 p6 p7 S) 286 366 [(0, .ref 0), (1, sv_I p1), (2, sv_I p2), (3, sv_I p3), (4, sv_I p4), (5, sv_I p5), (6, sv_I p6), (7, sv_I p7), (8, sv_I x1), (9, sv_I (x1 - (2 : Int))), (10, sv_I r15), (11, sv_I (647753 : Int))] [] (sv_sts (sv_sts (sv_sts (sv_sts (sv_sts S [68, 69, 70, 81, 82, 83, 84, 85, 86, 76, 77] g5) [85, 86] g17) [68, 69, 70] g25) [68, 69, 70] g35) [68, 69, 70] g41) := by
            intro  g41 ok42 hin43
            have h := h.1 g41 hin43
            have md44 : sv_mod [68, 69, 70, 81, 82, 83, 84, 85, 86, 71, 74, 75, 1127, 78, 79, 80, 72, 76, 77, 1143, 1144, 5, 1011, 1150, 1149, 1145, 1113, 1111, 1112, 1100031] S (sv_sts (sv_sts (sv_sts (sv_sts (sv_sts S [68, 69, 70, 81, 82, 83, 84, 85, 86, 76, 77] g5) [85, 86] g17) [68, 69, 70] g25) [68, 69, 70] g35) [68, 69, 70] g41) := sv_mod.sts md39 (by decide)
            have md45 : sv_mod [68, 69, 70] (sv_sts (sv_sts S [68, 69, 70, 81, 82, 83, 84, 85, 86, 76, 77] g5) [85, 86] g17) (sv_sts (sv_sts (sv_sts (sv_sts (sv_sts S [68, 69, 70, 81, 82, 83, 84, 85, 86, 76, 77] g5) [85, 86] g17) [68, 69, 70] g25) [68, 69, 70] g35) [68, 69, 70] g41) := sv_mod.sts md40 (by decide)
            have md46 : sv_mod [68, 69, 70] (sv_sts (sv_sts (sv_sts (sv_sts S [68, 69, 70, 81, 82, 83, 84, 85, 86, 76, 77] g5) [85, 86] g17) [68, 69, 70] g25) [68, 69, 70] g35) (sv_sts (sv_sts (sv_sts (sv_sts (sv_sts S [68, 69, 70, 81, 82, 83, 84, 85, 86, 76, 77] g5) [85, 86] g17) [68, 69, 70] g25) [68, 69, 70] g35) [68, 69, 70] g41) := sv_mod.sts sv_mod.rf (by decide)
            refine sv_aload_n hM dX12_enterCode_366 rfl rfl ?_
            refine sv_iload hM dX12_enterCode_367 rfl rfl ?_
            refine sv_aload_n hM dX12_enterCode_369 rfl rfl ?_
            refine sv_sipush (d := (639 : Int)) hM dX12_enterCode_370 rfl rfl ?_
            refine sv_callV hM dX12_enterCode_373 sm_iv_1098 (by decide) (sm_a0 _) rfl rfl (Nat.le_of_ble_eq_true rfl) sm_h227 (Nat.le_of_ble_eq_true rfl) (Nat.le_of_ble_eq_true rfl) (F' := 0) (Nat.le_of_ble_eq_true rfl) rfl (t_thisAt (639 : Int) (sv_sts (sv_sts (sv_sts (sv_sts (sv_sts S [68, 69, 70, 81, 82, 83, 84, 85, 86, 76, 77] g5) [85, 86] g17) [68, 69, 70] g25) [68, 69, 70] g35) [68, 69, 70] g41) ok42 (⟨by decide, by decide⟩ : sv_R (639 : Int))) (fun v S1 hq => ?_)
            obtain ⟨rfl, hS1⟩ := hq
            obtain rfl : (sv_sts (sv_sts (sv_sts (sv_sts (sv_sts S [68, 69, 70, 81, 82, 83, 84, 85, 86, 76, 77] g5) [85, 86] g17) [68, 69, 70] g25) [68, 69, 70] g35) [68, 69, 70] g41) = S1 := hS1.symm
            show sv_T sm_XS sm_cs sm_L sm_sh 4 (q_enterCode p1 p2 p3 p4 p5 p6 p7 S) 286 376 [(0, .ref 0), (1, sv_I p1), (2, sv_I p2), (3, sv_I p3), (4, sv_I p4), (5, sv_I p5), (6, sv_I p6), (7, sv_I p7), (8, sv_I x1), (9, sv_I (x1 - (2 : Int))), (10, sv_I r15), (11, sv_I (647753 : Int))] [sv_I (635000 + (639 : Int)), sv_I (647753 : Int), .ref 0] (sv_sts (sv_sts (sv_sts (sv_sts (sv_sts S [68, 69, 70, 81, 82, 83, 84, 85, 86, 76, 77] g5) [85, 86] g17) [68, 69, 70] g25) [68, 69, 70] g35) [68, 69, 70] g41)
            obtain ⟨o47, h⟩ := h
            obtain ⟨o48, h⟩ := h
            refine sv_callV hM dX12_enterCode_376 sm_iv_1092 (by decide) (sm_a0 _) rfl rfl (Nat.le_of_ble_eq_true rfl) sm_h207 (Nat.le_of_ble_eq_true rfl) (Nat.le_of_ble_eq_true rfl) (F' := 0) (Nat.le_of_ble_eq_true rfl) rfl (t_copySet (647753 : Int) (635000 + (639 : Int)) (sv_sts (sv_sts (sv_sts (sv_sts (sv_sts S [68, 69, 70, 81, 82, 83, 84, 85, 86, 76, 77] g5) [85, 86] g17) [68, 69, 70] g25) [68, 69, 70] g35) [68, 69, 70] g41) ok42 (⟨by decide, by decide⟩ : sv_R (647753 : Int)) o47 o48) (fun v S1 hq => ?_)
            obtain ⟨rfl, ok50, md51, hpo52⟩ := hq
            obtain ⟨g49, rfl⟩ : ∃ g, S1 = sv_sts (sv_sts (sv_sts (sv_sts (sv_sts (sv_sts S [68, 69, 70, 81, 82, 83, 84, 85, 86, 76, 77] g5) [85, 86] g17) [68, 69, 70] g25) [68, 69, 70] g35) [68, 69, 70] g41) [68, 69, 70] g := ⟨_, md51.eq⟩
            show sv_T sm_XS sm_cs sm_L sm_sh 4 (q_enterCode p1 p2 p3 p4 p5 p6 p7 S) 286 379 [(0, .ref 0), (1, sv_I p1), (2, sv_I p2), (3, sv_I p3), (4, sv_I p4), (5, sv_I p5), (6, sv_I p6), (7, sv_I p7), (8, sv_I x1), (9, sv_I (x1 - (2 : Int))), (10, sv_I r15), (11, sv_I (647753 : Int))] [] (sv_sts (sv_sts (sv_sts (sv_sts (sv_sts (sv_sts S [68, 69, 70, 81, 82, 83, 84, 85, 86, 76, 77] g5) [85, 86] g17) [68, 69, 70] g25) [68, 69, 70] g35) [68, 69, 70] g41) [68, 69, 70] g49)
            have md53 : sv_mod [68, 69, 70, 81, 82, 83, 84, 85, 86, 71, 74, 75, 1127, 78, 79, 80, 72, 76, 77, 1143, 1144, 5, 1011, 1150, 1149, 1145, 1113, 1111, 1112, 1100031] S (sv_sts (sv_sts (sv_sts (sv_sts (sv_sts (sv_sts S [68, 69, 70, 81, 82, 83, 84, 85, 86, 76, 77] g5) [85, 86] g17) [68, 69, 70] g25) [68, 69, 70] g35) [68, 69, 70] g41) [68, 69, 70] g49) := sv_mod.sts md44 (by decide)
            have md54 : sv_mod [68, 69, 70] (sv_sts (sv_sts S [68, 69, 70, 81, 82, 83, 84, 85, 86, 76, 77] g5) [85, 86] g17) (sv_sts (sv_sts (sv_sts (sv_sts (sv_sts (sv_sts S [68, 69, 70, 81, 82, 83, 84, 85, 86, 76, 77] g5) [85, 86] g17) [68, 69, 70] g25) [68, 69, 70] g35) [68, 69, 70] g41) [68, 69, 70] g49) := sv_mod.sts md45 (by decide)
            have h := h g49 hpo52
            refine sv_aload_n hM dX12_enterCode_379 rfl rfl ?_
            refine sv_getA hM dX12_enterCode_380 sm_fl_235 (sm_a0 _) sm_k125 rfl ?_
            refine sv_sipush (d := (639 : Int)) hM dX12_enterCode_383 rfl rfl ?_
            refine sv_iconst (d := (0 : Int)) hM dX12_enterCode_386 rfl rfl ?_
            obtain ⟨o55, h⟩ := h
            refine sv_iast sm_X hM dX12_enterCode_387 (sm_a74 _) (by decide) o55.1 o55.2 rfl ?_
            have ok56 : sm_ok (sv_up (sv_sts (sv_sts (sv_sts (sv_sts (sv_sts (sv_sts S [68, 69, 70, 81, 82, 83, 84, 85, 86, 76, 77] g5) [85, 86] g17) [68, 69, 70] g25) [68, 69, 70] g35) [68, 69, 70] g41) [68, 69, 70] g49) 74 (639 : Int) (0 : Int)) := sm_upI ok50 sm_r74 (⟨by decide, by decide⟩ : sv_R (0 : Int))
            have md57 : sv_mod [68, 69, 70, 81, 82, 83, 84, 85, 86, 71, 74, 75, 1127, 78, 79, 80, 72, 76, 77, 1143, 1144, 5, 1011, 1150, 1149, 1145, 1113, 1111, 1112, 1100031] S (sv_up (sv_sts (sv_sts (sv_sts (sv_sts (sv_sts (sv_sts S [68, 69, 70, 81, 82, 83, 84, 85, 86, 76, 77] g5) [85, 86] g17) [68, 69, 70] g25) [68, 69, 70] g35) [68, 69, 70] g41) [68, 69, 70] g49) 74 (639 : Int) (0 : Int)) := sv_mod.up md53 (by decide)
            refine sv_ghost sm_X 1100031 0 (-1 : Int) (by decide) ?_
            have ok58 : sm_ok (sv_up (sv_up (sv_sts (sv_sts (sv_sts (sv_sts (sv_sts (sv_sts S [68, 69, 70, 81, 82, 83, 84, 85, 86, 76, 77] g5) [85, 86] g17) [68, 69, 70] g25) [68, 69, 70] g35) [68, 69, 70] g41) [68, 69, 70] g49) 74 (639 : Int) (0 : Int)) 1100031 0 (-1 : Int)) := sm_upI ok56 sm_r1100031 (⟨by decide, by decide⟩ : sv_R (-1 : Int))
            have md59 : sv_mod [68, 69, 70, 81, 82, 83, 84, 85, 86, 71, 74, 75, 1127, 78, 79, 80, 72, 76, 77, 1143, 1144, 5, 1011, 1150, 1149, 1145, 1113, 1111, 1112, 1100031] S (sv_up (sv_up (sv_sts (sv_sts (sv_sts (sv_sts (sv_sts (sv_sts S [68, 69, 70, 81, 82, 83, 84, 85, 86, 76, 77] g5) [85, 86] g17) [68, 69, 70] g25) [68, 69, 70] g35) [68, 69, 70] g41) [68, 69, 70] g49) 74 (639 : Int) (0 : Int)) 1100031 0 (-1 : Int)) := sv_mod.up md57 (by decide)
            have k60 : (sm_dp (S 1100024) (-1) = 0) := sm_dp_n (by decide)
            have h := h k60
            refine sv_aload_n hM dX12_enterCode_388 rfl rfl ?_
            refine sv_getA hM dX12_enterCode_389 sm_fl_247 (sm_a0 _) sm_k130 rfl ?_
            refine sv_sipush (d := (639 : Int)) hM dX12_enterCode_392 rfl rfl ?_
            refine sv_iconst (d := (0 : Int)) hM dX12_enterCode_395 rfl rfl ?_
            refine sv_iast sm_X hM dX12_enterCode_396 (sm_a78 _) (by decide) o55.1 o55.2 rfl ?_
            have ok61 : sm_ok (sv_up (sv_up (sv_up (sv_sts (sv_sts (sv_sts (sv_sts (sv_sts (sv_sts S [68, 69, 70, 81, 82, 83, 84, 85, 86, 76, 77] g5) [85, 86] g17) [68, 69, 70] g25) [68, 69, 70] g35) [68, 69, 70] g41) [68, 69, 70] g49) 74 (639 : Int) (0 : Int)) 1100031 0 (-1 : Int)) 78 (639 : Int) (0 : Int)) := sm_upI ok58 sm_r78 (⟨by decide, by decide⟩ : sv_R (0 : Int))
            have md62 : sv_mod [68, 69, 70, 81, 82, 83, 84, 85, 86, 71, 74, 75, 1127, 78, 79, 80, 72, 76, 77, 1143, 1144, 5, 1011, 1150, 1149, 1145, 1113, 1111, 1112, 1100031] S (sv_up (sv_up (sv_up (sv_sts (sv_sts (sv_sts (sv_sts (sv_sts (sv_sts S [68, 69, 70, 81, 82, 83, 84, 85, 86, 76, 77] g5) [85, 86] g17) [68, 69, 70] g25) [68, 69, 70] g35) [68, 69, 70] g41) [68, 69, 70] g49) 74 (639 : Int) (0 : Int)) 1100031 0 (-1 : Int)) 78 (639 : Int) (0 : Int)) := sv_mod.up md59 (by decide)
            refine sv_aload_n hM dX12_enterCode_397 rfl rfl ?_
            refine sv_getA hM dX12_enterCode_398 sm_fl_241 (sm_a0 _) sm_k128 rfl ?_
            refine sv_sipush (d := (639 : Int)) hM dX12_enterCode_401 rfl rfl ?_
            refine sv_lconst (d := (0 : Int)) hM dX12_enterCode_404 rfl rfl ?_
            refine sv_last sm_X hM dX12_enterCode_405 (sm_a76 _) (by decide) o55.1 o55.2 rfl ?_
            have ok63 : sm_ok (sv_up (sv_up (sv_up (sv_up (sv_sts (sv_sts (sv_sts (sv_sts (sv_sts (sv_sts S [68, 69, 70, 81, 82, 83, 84, 85, 86, 76, 77] g5) [85, 86] g17) [68, 69, 70] g25) [68, 69, 70] g35) [68, 69, 70] g41) [68, 69, 70] g49) 74 (639 : Int) (0 : Int)) 1100031 0 (-1 : Int)) 78 (639 : Int) (0 : Int)) 76 (639 : Int) (0 : Int)) := sm_upJ ok61 sm_r76 (⟨by decide, by decide⟩ : sv_RL (0 : Int))
            have md64 : sv_mod [68, 69, 70, 81, 82, 83, 84, 85, 86, 71, 74, 75, 1127, 78, 79, 80, 72, 76, 77, 1143, 1144, 5, 1011, 1150, 1149, 1145, 1113, 1111, 1112, 1100031] S (sv_up (sv_up (sv_up (sv_up (sv_sts (sv_sts (sv_sts (sv_sts (sv_sts (sv_sts S [68, 69, 70, 81, 82, 83, 84, 85, 86, 76, 77] g5) [85, 86] g17) [68, 69, 70] g25) [68, 69, 70] g35) [68, 69, 70] g41) [68, 69, 70] g49) 74 (639 : Int) (0 : Int)) 1100031 0 (-1 : Int)) 78 (639 : Int) (0 : Int)) 76 (639 : Int) (0 : Int)) := sv_mod.up md62 (by decide)
            refine sv_aload_n hM dX12_enterCode_406 rfl rfl ?_
            refine sv_getA hM dX12_enterCode_407 sm_fl_244 (sm_a0 _) sm_k129 rfl ?_
            refine sv_sipush (d := (639 : Int)) hM dX12_enterCode_410 rfl rfl ?_
            refine sv_lconst (d := (0 : Int)) hM dX12_enterCode_413 rfl rfl ?_
            refine sv_last sm_X hM dX12_enterCode_414 (sm_a77 _) (by decide) o55.1 o55.2 rfl ?_
            have ok65 : sm_ok (sv_up (sv_up (sv_up (sv_up (sv_up (sv_sts (sv_sts (sv_sts (sv_sts (sv_sts (sv_sts S [68, 69, 70, 81, 82, 83, 84, 85, 86, 76, 77] g5) [85, 86] g17) [68, 69, 70] g25) [68, 69, 70] g35) [68, 69, 70] g41) [68, 69, 70] g49) 74 (639 : Int) (0 : Int)) 1100031 0 (-1 : Int)) 78 (639 : Int) (0 : Int)) 76 (639 : Int) (0 : Int)) 77 (639 : Int) (0 : Int)) := sm_upJ ok63 sm_r77 (⟨by decide, by decide⟩ : sv_RL (0 : Int))
            have md66 : sv_mod [68, 69, 70, 81, 82, 83, 84, 85, 86, 71, 74, 75, 1127, 78, 79, 80, 72, 76, 77, 1143, 1144, 5, 1011, 1150, 1149, 1145, 1113, 1111, 1112, 1100031] S (sv_up (sv_up (sv_up (sv_up (sv_up (sv_sts (sv_sts (sv_sts (sv_sts (sv_sts (sv_sts S [68, 69, 70, 81, 82, 83, 84, 85, 86, 76, 77] g5) [85, 86] g17) [68, 69, 70] g25) [68, 69, 70] g35) [68, 69, 70] g41) [68, 69, 70] g49) 74 (639 : Int) (0 : Int)) 1100031 0 (-1 : Int)) 78 (639 : Int) (0 : Int)) 76 (639 : Int) (0 : Int)) 77 (639 : Int) (0 : Int)) := sv_mod.up md64 (by decide)
            have J79 : ∀ g67 : sv_S, sm_ok (sv_sts (sv_up (sv_up (sv_up (sv_up (sv_up (sv_sts (sv_sts (sv_sts (sv_sts (sv_sts (sv_sts S [68, 69, 70, 81, 82, 83, 84, 85, 86, 76, 77] g5) [85, 86] g17) [68, 69, 70] g25) [68, 69, 70] g35) [68, 69, 70] g41) [68, 69, 70] g49) 74 (639 : Int) (0 : Int)) 1100031 0 (-1 : Int)) 78 (639 : Int) (0 : Int)) 76 (639 : Int) (0 : Int)) 77 (639 : Int) (0 : Int)) [76, 77] g67) → (sm_ps (g67 76) (g67 77) = sm_ps (fun i' : Int => if i' = (639 : Int) then (0 : Int) else (g5 76) i') (fun i' : Int => if i' = (639 : Int) then (0 : Int) else (g5 77) i')) → sv_T sm_XS sm_cs sm_L sm_sh 4 (q_enterCode p1 p2 p3 p4 p5 p6 p7 S) 286 452 [(0, .ref 0), (1, sv_I p1), (2, sv_I p2), (3, sv_I p3), (4, sv_I p4), (5, sv_I p5), (6, sv_I p6), (7, sv_I p7), (8, sv_I x1), (9, sv_I (x1 - (2 : Int))), (10, sv_I r15), (11, sv_I (647753 : Int))] [] (sv_sts (sv_up (sv_up (sv_up (sv_up (sv_up (sv_sts (sv_sts (sv_sts (sv_sts (sv_sts (sv_sts S [68, 69, 70, 81, 82, 83, 84, 85, 86, 76, 77] g5) [85, 86] g17) [68, 69, 70] g25) [68, 69, 70] g35) [68, 69, 70] g41) [68, 69, 70] g49) 74 (639 : Int) (0 : Int)) 1100031 0 (-1 : Int)) 78 (639 : Int) (0 : Int)) 76 (639 : Int) (0 : Int)) 77 (639 : Int) (0 : Int)) [76, 77] g67) := by
              intro  g67 ok68 hin69
              have h := h.1 g67 hin69
              have md70 : sv_mod [68, 69, 70, 81, 82, 83, 84, 85, 86, 71, 74, 75, 1127, 78, 79, 80, 72, 76, 77, 1143, 1144, 5, 1011, 1150, 1149, 1145, 1113, 1111, 1112, 1100031] S (sv_sts (sv_up (sv_up (sv_up (sv_up (sv_up (sv_sts (sv_sts (sv_sts (sv_sts (sv_sts (sv_sts S [68, 69, 70, 81, 82, 83, 84, 85, 86, 76, 77] g5) [85, 86] g17) [68, 69, 70] g25) [68, 69, 70] g35) [68, 69, 70] g41) [68, 69, 70] g49) 74 (639 : Int) (0 : Int)) 1100031 0 (-1 : Int)) 78 (639 : Int) (0 : Int)) 76 (639 : Int) (0 : Int)) 77 (639 : Int) (0 : Int)) [76, 77] g67) := sv_mod.sts md66 (by decide)
              have md71 : sv_mod [76, 77] (sv_up (sv_up (sv_up (sv_up (sv_up (sv_sts (sv_sts (sv_sts (sv_sts (sv_sts (sv_sts S [68, 69, 70, 81, 82, 83, 84, 85, 86, 76, 77] g5) [85, 86] g17) [68, 69, 70] g25) [68, 69, 70] g35) [68, 69, 70] g41) [68, 69, 70] g49) 74 (639 : Int) (0 : Int)) 1100031 0 (-1 : Int)) 78 (639 : Int) (0 : Int)) 76 (639 : Int) (0 : Int)) 77 (639 : Int) (0 : Int)) (sv_sts (sv_up (sv_up (sv_up (sv_up (sv_up (sv_sts (sv_sts (sv_sts (sv_sts (sv_sts (sv_sts S [68, 69, 70, 81, 82, 83, 84, 85, 86, 76, 77] g5) [85, 86] g17) [68, 69, 70] g25) [68, 69, 70] g35) [68, 69, 70] g41) [68, 69, 70] g49) 74 (639 : Int) (0 : Int)) 1100031 0 (-1 : Int)) 78 (639 : Int) (0 : Int)) 76 (639 : Int) (0 : Int)) 77 (639 : Int) (0 : Int)) [76, 77] g67) := sv_mod.sts sv_mod.rf (by decide)
              refine sv_aload_n hM dX12_enterCode_452 rfl rfl ?_
              refine sv_aload_n hM dX12_enterCode_453 rfl rfl ?_
              refine sv_getA hM dX12_enterCode_454 sm_fl_101 (sm_a0 _) sm_k52 rfl ?_
              refine sv_iload_n hM dX12_enterCode_457 rfl rfl ?_
              have k72 : sv_R (S 30 p1) := sm_okI ok68 sm_r30 p1
              have h := h k72
              refine sv_iald hM dX12_enterCode_458 (sm_a30 _) (by decide) o32.1 o32.2 rfl (x := (S 30 p1)) rfl ?_
              obtain ⟨o73, h⟩ := h
              refine sv_callV hM dX12_enterCode_459 sm_iv_1191 (by decide) (sm_a0 _) rfl rfl (Nat.le_of_ble_eq_true rfl) sm_h235 (Nat.le_of_ble_eq_true rfl) (Nat.le_of_ble_eq_true rfl) (F' := 3) (Nat.le_of_ble_eq_true rfl) rfl (t_flow (S 30 p1) (sv_sts (sv_up (sv_up (sv_up (sv_up (sv_up (sv_sts (sv_sts (sv_sts (sv_sts (sv_sts (sv_sts S [68, 69, 70, 81, 82, 83, 84, 85, 86, 76, 77] g5) [85, 86] g17) [68, 69, 70] g25) [68, 69, 70] g35) [68, 69, 70] g41) [68, 69, 70] g49) 74 (639 : Int) (0 : Int)) 1100031 0 (-1 : Int)) 78 (639 : Int) (0 : Int)) 76 (639 : Int) (0 : Int)) 77 (639 : Int) (0 : Int)) [76, 77] g67) ok68 k72 o73) (fun v S1 hq => ?_)
              obtain ⟨rfl, ok75, md76, hpo77⟩ := hq
              obtain ⟨g74, rfl⟩ : ∃ g, S1 = sv_sts (sv_sts (sv_up (sv_up (sv_up (sv_up (sv_up (sv_sts (sv_sts (sv_sts (sv_sts (sv_sts (sv_sts S [68, 69, 70, 81, 82, 83, 84, 85, 86, 76, 77] g5) [85, 86] g17) [68, 69, 70] g25) [68, 69, 70] g35) [68, 69, 70] g41) [68, 69, 70] g49) 74 (639 : Int) (0 : Int)) 1100031 0 (-1 : Int)) 78 (639 : Int) (0 : Int)) 76 (639 : Int) (0 : Int)) 77 (639 : Int) (0 : Int)) [76, 77] g67) [68, 69, 70, 81, 82, 83, 84, 85, 86, 71, 74, 75, 1127, 78, 79, 80, 72, 76, 77] g := ⟨_, md76.eq⟩
              show sv_T sm_XS sm_cs sm_L sm_sh 4 (q_enterCode p1 p2 p3 p4 p5 p6 p7 S) 286 462 [(0, .ref 0), (1, sv_I p1), (2, sv_I p2), (3, sv_I p3), (4, sv_I p4), (5, sv_I p5), (6, sv_I p6), (7, sv_I p7), (8, sv_I x1), (9, sv_I (x1 - (2 : Int))), (10, sv_I r15), (11, sv_I (647753 : Int))] [] (sv_sts (sv_sts (sv_up (sv_up (sv_up (sv_up (sv_up (sv_sts (sv_sts (sv_sts (sv_sts (sv_sts (sv_sts S [68, 69, 70, 81, 82, 83, 84, 85, 86, 76, 77] g5) [85, 86] g17) [68, 69, 70] g25) [68, 69, 70] g35) [68, 69, 70] g41) [68, 69, 70] g49) 74 (639 : Int) (0 : Int)) 1100031 0 (-1 : Int)) 78 (639 : Int) (0 : Int)) 76 (639 : Int) (0 : Int)) 77 (639 : Int) (0 : Int)) [76, 77] g67) [68, 69, 70, 81, 82, 83, 84, 85, 86, 71, 74, 75, 1127, 78, 79, 80, 72, 76, 77] g74)
              have md78 : sv_mod [68, 69, 70, 81, 82, 83, 84, 85, 86, 71, 74, 75, 1127, 78, 79, 80, 72, 76, 77, 1143, 1144, 5, 1011, 1150, 1149, 1145, 1113, 1111, 1112, 1100031] S (sv_sts (sv_sts (sv_up (sv_up (sv_up (sv_up (sv_up (sv_sts (sv_sts (sv_sts (sv_sts (sv_sts (sv_sts S [68, 69, 70, 81, 82, 83, 84, 85, 86, 76, 77] g5) [85, 86] g17) [68, 69, 70] g25) [68, 69, 70] g35) [68, 69, 70] g41) [68, 69, 70] g49) 74 (639 : Int) (0 : Int)) 1100031 0 (-1 : Int)) 78 (639 : Int) (0 : Int)) 76 (639 : Int) (0 : Int)) 77 (639 : Int) (0 : Int)) [76, 77] g67) [68, 69, 70, 81, 82, 83, 84, 85, 86, 71, 74, 75, 1127, 78, 79, 80, 72, 76, 77] g74) := sv_mod.sts md70 (by decide)
              have h := h g74 hpo77
              exact sv_vret hM dX12_enterCode_462 rfl ⟨rfl, ok75, md78, h⟩
            have h := h.2
            refine sv_iload hM dX12_enterCode_415 rfl rfl ?_
            refine sv_bipush (d := (64 : Int)) hM dX12_enterCode_417 rfl rfl ?_
            refine sv_icmp_ge hM dX12_enterCode_419 o3 (⟨by decide, by decide⟩ : sv_R (64 : Int)) (t := 437) rfl rfl (fun hc => ?_) (fun hc => ?_)
            · have h := h.1 (hc)
              refine sv_aload_n hM dX12_enterCode_437 rfl rfl ?_
              refine sv_getA hM dX12_enterCode_438 sm_fl_244 (sm_a0 _) sm_k129 rfl ?_
              refine sv_sipush (d := (639 : Int)) hM dX12_enterCode_441 rfl rfl ?_
              refine sv_lconst (d := (1 : Int)) hM dX12_enterCode_444 rfl rfl ?_
              refine sv_iload hM dX12_enterCode_445 rfl rfl ?_
              refine sv_bipush (d := (64 : Int)) hM dX12_enterCode_447 rfl rfl ?_
              refine sv_isub hM dX12_enterCode_449 rfl ?_
              refine sv_anyL hM dX12_enterCode_450 rfl rfl (fun r80 hr80 _ => ?_)
              have h := h r80 hr80
              refine sv_last sm_X hM dX12_enterCode_451 (sm_a77 _) (by decide) o55.1 o55.2 rfl ?_
              have ok81 : sm_ok (sv_up (sv_up (sv_up (sv_up (sv_up (sv_up (sv_sts (sv_sts (sv_sts (sv_sts (sv_sts (sv_sts S [68, 69, 70, 81, 82, 83, 84, 85, 86, 76, 77] g5) [85, 86] g17) [68, 69, 70] g25) [68, 69, 70] g35) [68, 69, 70] g41) [68, 69, 70] g49) 74 (639 : Int) (0 : Int)) 1100031 0 (-1 : Int)) 78 (639 : Int) (0 : Int)) 76 (639 : Int) (0 : Int)) 77 (639 : Int) (0 : Int)) 77 (639 : Int) r80) := sm_upJ ok65 sm_r77 hr80
              have md82 : sv_mod [68, 69, 70, 81, 82, 83, 84, 85, 86, 71, 74, 75, 1127, 78, 79, 80, 72, 76, 77, 1143, 1144, 5, 1011, 1150, 1149, 1145, 1113, 1111, 1112, 1100031] S (sv_up (sv_up (sv_up (sv_up (sv_up (sv_up (sv_sts (sv_sts (sv_sts (sv_sts (sv_sts (sv_sts S [68, 69, 70, 81, 82, 83, 84, 85, 86, 76, 77] g5) [85, 86] g17) [68, 69, 70] g25) [68, 69, 70] g35) [68, 69, 70] g41) [68, 69, 70] g49) 74 (639 : Int) (0 : Int)) 1100031 0 (-1 : Int)) 78 (639 : Int) (0 : Int)) 76 (639 : Int) (0 : Int)) 77 (639 : Int) (0 : Int)) 77 (639 : Int) r80) := sv_mod.up md66 (by decide)
              have md83 : sv_mod [76, 77] (sv_up (sv_up (sv_up (sv_up (sv_up (sv_sts (sv_sts (sv_sts (sv_sts (sv_sts (sv_sts S [68, 69, 70, 81, 82, 83, 84, 85, 86, 76, 77] g5) [85, 86] g17) [68, 69, 70] g25) [68, 69, 70] g35) [68, 69, 70] g41) [68, 69, 70] g49) 74 (639 : Int) (0 : Int)) 1100031 0 (-1 : Int)) 78 (639 : Int) (0 : Int)) 76 (639 : Int) (0 : Int)) 77 (639 : Int) (0 : Int)) (sv_up (sv_up (sv_up (sv_up (sv_up (sv_up (sv_sts (sv_sts (sv_sts (sv_sts (sv_sts (sv_sts S [68, 69, 70, 81, 82, 83, 84, 85, 86, 76, 77] g5) [85, 86] g17) [68, 69, 70] g25) [68, 69, 70] g35) [68, 69, 70] g41) [68, 69, 70] g49) 74 (639 : Int) (0 : Int)) 1100031 0 (-1 : Int)) 78 (639 : Int) (0 : Int)) 76 (639 : Int) (0 : Int)) 77 (639 : Int) (0 : Int)) 77 (639 : Int) r80) := sv_mod.up (sv_mod.rf (l := [76, 77]) (S := (sv_up (sv_up (sv_up (sv_up (sv_up (sv_sts (sv_sts (sv_sts (sv_sts (sv_sts (sv_sts S [68, 69, 70, 81, 82, 83, 84, 85, 86, 76, 77] g5) [85, 86] g17) [68, 69, 70] g25) [68, 69, 70] g35) [68, 69, 70] g41) [68, 69, 70] g49) 74 (639 : Int) (0 : Int)) 1100031 0 (-1 : Int)) 78 (639 : Int) (0 : Int)) 76 (639 : Int) (0 : Int)) 77 (639 : Int) (0 : Int)))) (by decide)
              have eS := sv_mod.eq md83
              have hb := J79 (sv_up (sv_up (sv_up (sv_up (sv_up (sv_up (sv_sts (sv_sts (sv_sts (sv_sts (sv_sts (sv_sts S [68, 69, 70, 81, 82, 83, 84, 85, 86, 76, 77] g5) [85, 86] g17) [68, 69, 70] g25) [68, 69, 70] g35) [68, 69, 70] g41) [68, 69, 70] g49) 74 (639 : Int) (0 : Int)) 1100031 0 (-1 : Int)) 78 (639 : Int) (0 : Int)) 76 (639 : Int) (0 : Int)) 77 (639 : Int) (0 : Int)) 77 (639 : Int) r80) (by rw [← eS]; exact ok81) h
              have hb : sv_T sm_XS sm_cs sm_L sm_sh 4 (q_enterCode p1 p2 p3 p4 p5 p6 p7 S) 286 452 [(0, .ref 0), (1, sv_I p1), (2, sv_I p2), (3, sv_I p3), (4, sv_I p4), (5, sv_I p5), (6, sv_I p6), (7, sv_I p7), (8, sv_I x1), (9, sv_I (x1 - (2 : Int))), (10, sv_I r15), (11, sv_I (647753 : Int))] [] (sv_up (sv_up (sv_up (sv_up (sv_up (sv_up (sv_sts (sv_sts (sv_sts (sv_sts (sv_sts (sv_sts S [68, 69, 70, 81, 82, 83, 84, 85, 86, 76, 77] g5) [85, 86] g17) [68, 69, 70] g25) [68, 69, 70] g35) [68, 69, 70] g41) [68, 69, 70] g49) 74 (639 : Int) (0 : Int)) 1100031 0 (-1 : Int)) 78 (639 : Int) (0 : Int)) 76 (639 : Int) (0 : Int)) 77 (639 : Int) (0 : Int)) 77 (639 : Int) r80) := Eq.mpr (congrArg (fun Z => sv_T sm_XS sm_cs sm_L sm_sh 4 (q_enterCode p1 p2 p3 p4 p5 p6 p7 S) 286 452 [(0, .ref 0), (1, sv_I p1), (2, sv_I p2), (3, sv_I p3), (4, sv_I p4), (5, sv_I p5), (6, sv_I p6), (7, sv_I p7), (8, sv_I x1), (9, sv_I (x1 - (2 : Int))), (10, sv_I r15), (11, sv_I (647753 : Int))] [] Z) eS) hb
              exact sv_less (lv := [(0, .ref 0), (1, sv_I p1), (2, sv_I p2), (3, sv_I p3), (4, sv_I p4), (5, sv_I p5), (6, sv_I p6), (7, sv_I p7), (8, sv_I x1), (9, sv_I (x1 - (2 : Int))), (10, sv_I r15), (11, sv_I (647753 : Int))]) (sv_Sub_cons rfl (sv_Sub_cons rfl (sv_Sub_cons rfl (sv_Sub_cons rfl (sv_Sub_cons rfl (sv_Sub_cons rfl (sv_Sub_cons rfl (sv_Sub_cons rfl (sv_Sub_cons rfl (sv_Sub_cons rfl (sv_Sub_cons rfl (sv_Sub_cons rfl sv_Sub_nil)))))))))))) hb
            · have h := h.2 (hc)
              refine sv_aload_n hM dX12_enterCode_422 rfl rfl ?_
              refine sv_getA hM dX12_enterCode_423 sm_fl_241 (sm_a0 _) sm_k128 rfl ?_
              refine sv_sipush (d := (639 : Int)) hM dX12_enterCode_426 rfl rfl ?_
              refine sv_lconst (d := (1 : Int)) hM dX12_enterCode_429 rfl rfl ?_
              refine sv_iload hM dX12_enterCode_430 rfl rfl ?_
              refine sv_anyL hM dX12_enterCode_432 rfl rfl (fun r84 hr84 _ => ?_)
              have h := h r84 hr84
              refine sv_last sm_X hM dX12_enterCode_433 (sm_a76 _) (by decide) o55.1 o55.2 rfl ?_
              have ok85 : sm_ok (sv_up (sv_up (sv_up (sv_up (sv_up (sv_up (sv_sts (sv_sts (sv_sts (sv_sts (sv_sts (sv_sts S [68, 69, 70, 81, 82, 83, 84, 85, 86, 76, 77] g5) [85, 86] g17) [68, 69, 70] g25) [68, 69, 70] g35) [68, 69, 70] g41) [68, 69, 70] g49) 74 (639 : Int) (0 : Int)) 1100031 0 (-1 : Int)) 78 (639 : Int) (0 : Int)) 76 (639 : Int) (0 : Int)) 77 (639 : Int) (0 : Int)) 76 (639 : Int) r84) := sm_upJ ok65 sm_r76 hr84
              have md86 : sv_mod [68, 69, 70, 81, 82, 83, 84, 85, 86, 71, 74, 75, 1127, 78, 79, 80, 72, 76, 77, 1143, 1144, 5, 1011, 1150, 1149, 1145, 1113, 1111, 1112, 1100031] S (sv_up (sv_up (sv_up (sv_up (sv_up (sv_up (sv_sts (sv_sts (sv_sts (sv_sts (sv_sts (sv_sts S [68, 69, 70, 81, 82, 83, 84, 85, 86, 76, 77] g5) [85, 86] g17) [68, 69, 70] g25) [68, 69, 70] g35) [68, 69, 70] g41) [68, 69, 70] g49) 74 (639 : Int) (0 : Int)) 1100031 0 (-1 : Int)) 78 (639 : Int) (0 : Int)) 76 (639 : Int) (0 : Int)) 77 (639 : Int) (0 : Int)) 76 (639 : Int) r84) := sv_mod.up md66 (by decide)
              have md87 : sv_mod [76, 77] (sv_up (sv_up (sv_up (sv_up (sv_up (sv_sts (sv_sts (sv_sts (sv_sts (sv_sts (sv_sts S [68, 69, 70, 81, 82, 83, 84, 85, 86, 76, 77] g5) [85, 86] g17) [68, 69, 70] g25) [68, 69, 70] g35) [68, 69, 70] g41) [68, 69, 70] g49) 74 (639 : Int) (0 : Int)) 1100031 0 (-1 : Int)) 78 (639 : Int) (0 : Int)) 76 (639 : Int) (0 : Int)) 77 (639 : Int) (0 : Int)) (sv_up (sv_up (sv_up (sv_up (sv_up (sv_up (sv_sts (sv_sts (sv_sts (sv_sts (sv_sts (sv_sts S [68, 69, 70, 81, 82, 83, 84, 85, 86, 76, 77] g5) [85, 86] g17) [68, 69, 70] g25) [68, 69, 70] g35) [68, 69, 70] g41) [68, 69, 70] g49) 74 (639 : Int) (0 : Int)) 1100031 0 (-1 : Int)) 78 (639 : Int) (0 : Int)) 76 (639 : Int) (0 : Int)) 77 (639 : Int) (0 : Int)) 76 (639 : Int) r84) := sv_mod.up (sv_mod.rf (l := [76, 77]) (S := (sv_up (sv_up (sv_up (sv_up (sv_up (sv_sts (sv_sts (sv_sts (sv_sts (sv_sts (sv_sts S [68, 69, 70, 81, 82, 83, 84, 85, 86, 76, 77] g5) [85, 86] g17) [68, 69, 70] g25) [68, 69, 70] g35) [68, 69, 70] g41) [68, 69, 70] g49) 74 (639 : Int) (0 : Int)) 1100031 0 (-1 : Int)) 78 (639 : Int) (0 : Int)) 76 (639 : Int) (0 : Int)) 77 (639 : Int) (0 : Int)))) (by decide)
              refine sv_goto hM dX12_enterCode_434 (pc' := 452) rfl ?_
              have eS := sv_mod.eq md87
              have hb := J79 (sv_up (sv_up (sv_up (sv_up (sv_up (sv_up (sv_sts (sv_sts (sv_sts (sv_sts (sv_sts (sv_sts S [68, 69, 70, 81, 82, 83, 84, 85, 86, 76, 77] g5) [85, 86] g17) [68, 69, 70] g25) [68, 69, 70] g35) [68, 69, 70] g41) [68, 69, 70] g49) 74 (639 : Int) (0 : Int)) 1100031 0 (-1 : Int)) 78 (639 : Int) (0 : Int)) 76 (639 : Int) (0 : Int)) 77 (639 : Int) (0 : Int)) 76 (639 : Int) r84) (by rw [← eS]; exact ok85) h
              have hb : sv_T sm_XS sm_cs sm_L sm_sh 4 (q_enterCode p1 p2 p3 p4 p5 p6 p7 S) 286 452 [(0, .ref 0), (1, sv_I p1), (2, sv_I p2), (3, sv_I p3), (4, sv_I p4), (5, sv_I p5), (6, sv_I p6), (7, sv_I p7), (8, sv_I x1), (9, sv_I (x1 - (2 : Int))), (10, sv_I r15), (11, sv_I (647753 : Int))] [] (sv_up (sv_up (sv_up (sv_up (sv_up (sv_up (sv_sts (sv_sts (sv_sts (sv_sts (sv_sts (sv_sts S [68, 69, 70, 81, 82, 83, 84, 85, 86, 76, 77] g5) [85, 86] g17) [68, 69, 70] g25) [68, 69, 70] g35) [68, 69, 70] g41) [68, 69, 70] g49) 74 (639 : Int) (0 : Int)) 1100031 0 (-1 : Int)) 78 (639 : Int) (0 : Int)) 76 (639 : Int) (0 : Int)) 77 (639 : Int) (0 : Int)) 76 (639 : Int) r84) := Eq.mpr (congrArg (fun Z => sv_T sm_XS sm_cs sm_L sm_sh 4 (q_enterCode p1 p2 p3 p4 p5 p6 p7 S) 286 452 [(0, .ref 0), (1, sv_I p1), (2, sv_I p2), (3, sv_I p3), (4, sv_I p4), (5, sv_I p5), (6, sv_I p6), (7, sv_I p7), (8, sv_I x1), (9, sv_I (x1 - (2 : Int))), (10, sv_I r15), (11, sv_I (647753 : Int))] [] Z) eS) hb
              exact sv_less (lv := [(0, .ref 0), (1, sv_I p1), (2, sv_I p2), (3, sv_I p3), (4, sv_I p4), (5, sv_I p5), (6, sv_I p6), (7, sv_I p7), (8, sv_I x1), (9, sv_I (x1 - (2 : Int))), (10, sv_I r15), (11, sv_I (647753 : Int))]) (sv_Sub_cons rfl (sv_Sub_cons rfl (sv_Sub_cons rfl (sv_Sub_cons rfl (sv_Sub_cons rfl (sv_Sub_cons rfl (sv_Sub_cons rfl (sv_Sub_cons rfl (sv_Sub_cons rfl (sv_Sub_cons rfl (sv_Sub_cons rfl (sv_Sub_cons rfl sv_Sub_nil)))))))))))) hb
          have h := h.2
          refine sv_iload hM dX12_enterCode_314 rfl rfl ?_
          refine sv_iconst (d := (-1 : Int)) hM dX12_enterCode_316 rfl rfl ?_
          refine sv_icmp_eq hM dX12_enterCode_317 hp7 (⟨by decide, by decide⟩ : sv_R (-1 : Int)) (t := 335) rfl rfl (fun hc => ?_) (fun hc => ?_)
          · have h := h.1 (hc)
            refine sv_iload hM dX12_enterCode_335 rfl rfl ?_
            refine sv_iconst (d := (-1 : Int)) hM dX12_enterCode_337 rfl rfl ?_
            refine sv_icmp_ne hM dX12_enterCode_338 hp4 (⟨by decide, by decide⟩ : sv_R (-1 : Int)) (t := 351) rfl rfl (fun hc => ?_) (fun hc => ?_)
            · have h := h.1 (hc)
              refine sv_aload_n hM dX12_enterCode_351 rfl rfl ?_
              refine sv_aload_n hM dX12_enterCode_352 rfl rfl ?_
              refine sv_sipush (d := (639 : Int)) hM dX12_enterCode_353 rfl rfl ?_
              refine sv_iload hM dX12_enterCode_356 rfl rfl ?_
              obtain ⟨o89, h⟩ := h
              refine sv_callV hM dX12_enterCode_358 sm_iv_1323 (by decide) (sm_a0 _) rfl rfl (Nat.le_of_ble_eq_true rfl) sm_h228 (Nat.le_of_ble_eq_true rfl) (Nat.le_of_ble_eq_true rfl) (F' := 0) (Nat.le_of_ble_eq_true rfl) rfl (t_onStack (639 : Int) p4 (sv_sts (sv_sts (sv_sts (sv_sts S [68, 69, 70, 81, 82, 83, 84, 85, 86, 76, 77] g5) [85, 86] g17) [68, 69, 70] g25) [68, 69, 70] g35) ok36 (⟨by decide, by decide⟩ : sv_R (639 : Int)) hp4 o89) (fun v S1 hq => ?_)
              obtain ⟨r94, rfl, hr94, ok91, md92, hpo93⟩ := hq
              obtain rfl : (sv_sts (sv_sts (sv_sts (sv_sts S [68, 69, 70, 81, 82, 83, 84, 85, 86, 76, 77] g5) [85, 86] g17) [68, 69, 70] g25) [68, 69, 70] g35) = S1 := (funext fun j => md92 j (by intro q; cases q)).symm
              show sv_T sm_XS sm_cs sm_L sm_sh 4 (q_enterCode p1 p2 p3 p4 p5 p6 p7 S) 286 361 [(0, .ref 0), (1, sv_I p1), (2, sv_I p2), (3, sv_I p3), (4, sv_I p4), (5, sv_I p5), (6, sv_I p6), (7, sv_I p7), (8, sv_I x1), (9, sv_I (x1 - (2 : Int))), (10, sv_I r15), (11, sv_I (647753 : Int))] [sv_I r94, .ref 0] (sv_sts (sv_sts (sv_sts (sv_sts S [68, 69, 70, 81, 82, 83, 84, 85, 86, 76, 77] g5) [85, 86] g17) [68, 69, 70] g25) [68, 69, 70] g35)
              have h := h r94 hr94 hpo93
              refine sv_iload hM dX12_enterCode_361 rfl rfl ?_
              obtain ⟨o95, h⟩ := h
              refine sv_callV hM dX12_enterCode_363 sm_iv_1092 (by decide) (sm_a0 _) rfl rfl (Nat.le_of_ble_eq_true rfl) sm_h207 (Nat.le_of_ble_eq_true rfl) (Nat.le_of_ble_eq_true rfl) (F' := 0) (Nat.le_of_ble_eq_true rfl) rfl (t_copySet r94 (647753 : Int) (sv_sts (sv_sts (sv_sts (sv_sts S [68, 69, 70, 81, 82, 83, 84, 85, 86, 76, 77] g5) [85, 86] g17) [68, 69, 70] g25) [68, 69, 70] g35) ok91 hr94 (⟨by decide, by decide⟩ : sv_R (647753 : Int)) o95) (fun v S1 hq => ?_)
              obtain ⟨rfl, ok97, md98, hpo99⟩ := hq
              obtain ⟨g96, rfl⟩ : ∃ g, S1 = sv_sts (sv_sts (sv_sts (sv_sts (sv_sts S [68, 69, 70, 81, 82, 83, 84, 85, 86, 76, 77] g5) [85, 86] g17) [68, 69, 70] g25) [68, 69, 70] g35) [68, 69, 70] g := ⟨_, md98.eq⟩
              show sv_T sm_XS sm_cs sm_L sm_sh 4 (q_enterCode p1 p2 p3 p4 p5 p6 p7 S) 286 366 [(0, .ref 0), (1, sv_I p1), (2, sv_I p2), (3, sv_I p3), (4, sv_I p4), (5, sv_I p5), (6, sv_I p6), (7, sv_I p7), (8, sv_I x1), (9, sv_I (x1 - (2 : Int))), (10, sv_I r15), (11, sv_I (647753 : Int))] [] (sv_sts (sv_sts (sv_sts (sv_sts (sv_sts S [68, 69, 70, 81, 82, 83, 84, 85, 86, 76, 77] g5) [85, 86] g17) [68, 69, 70] g25) [68, 69, 70] g35) [68, 69, 70] g96)
              have md100 : sv_mod [68, 69, 70, 81, 82, 83, 84, 85, 86, 71, 74, 75, 1127, 78, 79, 80, 72, 76, 77, 1143, 1144, 5, 1011, 1150, 1149, 1145, 1113, 1111, 1112, 1100031] S (sv_sts (sv_sts (sv_sts (sv_sts (sv_sts S [68, 69, 70, 81, 82, 83, 84, 85, 86, 76, 77] g5) [85, 86] g17) [68, 69, 70] g25) [68, 69, 70] g35) [68, 69, 70] g96) := sv_mod.sts md39 (by decide)
              have md101 : sv_mod [68, 69, 70] (sv_sts (sv_sts S [68, 69, 70, 81, 82, 83, 84, 85, 86, 76, 77] g5) [85, 86] g17) (sv_sts (sv_sts (sv_sts (sv_sts (sv_sts S [68, 69, 70, 81, 82, 83, 84, 85, 86, 76, 77] g5) [85, 86] g17) [68, 69, 70] g25) [68, 69, 70] g35) [68, 69, 70] g96) := sv_mod.sts md40 (by decide)
              have md102 : sv_mod [68, 69, 70] (sv_sts (sv_sts (sv_sts (sv_sts S [68, 69, 70, 81, 82, 83, 84, 85, 86, 76, 77] g5) [85, 86] g17) [68, 69, 70] g25) [68, 69, 70] g35) (sv_sts (sv_sts (sv_sts (sv_sts (sv_sts S [68, 69, 70, 81, 82, 83, 84, 85, 86, 76, 77] g5) [85, 86] g17) [68, 69, 70] g25) [68, 69, 70] g35) [68, 69, 70] g96) := sv_mod.sts (sv_mod.rf (l := [68, 69, 70]) (S := (sv_sts (sv_sts (sv_sts (sv_sts S [68, 69, 70, 81, 82, 83, 84, 85, 86, 76, 77] g5) [85, 86] g17) [68, 69, 70] g25) [68, 69, 70] g35))) (by decide)
              have h := h g96 hpo99
              have eS := sv_mod.eq md102
              have hb := J88 (sv_sts (sv_sts (sv_sts (sv_sts (sv_sts S [68, 69, 70, 81, 82, 83, 84, 85, 86, 76, 77] g5) [85, 86] g17) [68, 69, 70] g25) [68, 69, 70] g35) [68, 69, 70] g96) (by rw [← eS]; exact ok97) h
              have hb : sv_T sm_XS sm_cs sm_L sm_sh 4 (q_enterCode p1 p2 p3 p4 p5 p6 p7 S) 286 366 [(0, .ref 0), (1, sv_I p1), (2, sv_I p2), (3, sv_I p3), (4, sv_I p4), (5, sv_I p5), (6, sv_I p6), (7, sv_I p7), (8, sv_I x1), (9, sv_I (x1 - (2 : Int))), (10, sv_I r15), (11, sv_I (647753 : Int))] [] (sv_sts (sv_sts (sv_sts (sv_sts (sv_sts S [68, 69, 70, 81, 82, 83, 84, 85, 86, 76, 77] g5) [85, 86] g17) [68, 69, 70] g25) [68, 69, 70] g35) [68, 69, 70] g96) := Eq.mpr (congrArg (fun Z => sv_T sm_XS sm_cs sm_L sm_sh 4 (q_enterCode p1 p2 p3 p4 p5 p6 p7 S) 286 366 [(0, .ref 0), (1, sv_I p1), (2, sv_I p2), (3, sv_I p3), (4, sv_I p4), (5, sv_I p5), (6, sv_I p6), (7, sv_I p7), (8, sv_I x1), (9, sv_I (x1 - (2 : Int))), (10, sv_I r15), (11, sv_I (647753 : Int))] [] Z) eS) hb
              exact sv_less (lv := [(0, .ref 0), (1, sv_I p1), (2, sv_I p2), (3, sv_I p3), (4, sv_I p4), (5, sv_I p5), (6, sv_I p6), (7, sv_I p7), (8, sv_I x1), (9, sv_I (x1 - (2 : Int))), (10, sv_I r15), (11, sv_I (647753 : Int))]) (sv_Sub_cons rfl (sv_Sub_cons rfl (sv_Sub_cons rfl (sv_Sub_cons rfl (sv_Sub_cons rfl (sv_Sub_cons rfl (sv_Sub_cons rfl (sv_Sub_cons rfl (sv_Sub_cons rfl (sv_Sub_cons rfl (sv_Sub_cons rfl (sv_Sub_cons rfl sv_Sub_nil)))))))))))) hb
            · have h := h.2 (hc)
              refine sv_aload_n hM dX12_enterCode_341 rfl rfl ?_
              refine sv_iload hM dX12_enterCode_342 rfl rfl ?_
              refine sv_iconst (d := (1 : Int)) hM dX12_enterCode_344 rfl rfl ?_
              obtain ⟨o103, h⟩ := h
              refine sv_callV hM dX12_enterCode_345 sm_iv_1072 (by decide) (sm_a0 _) rfl rfl (Nat.le_of_ble_eq_true rfl) sm_h213 (Nat.le_of_ble_eq_true rfl) (Nat.le_of_ble_eq_true rfl) (F' := 2) (Nat.le_of_ble_eq_true rfl) rfl (t_addSort (647753 : Int) (1 : Int) (sv_sts (sv_sts (sv_sts (sv_sts S [68, 69, 70, 81, 82, 83, 84, 85, 86, 76, 77] g5) [85, 86] g17) [68, 69, 70] g25) [68, 69, 70] g35) ok36 (⟨by decide, by decide⟩ : sv_R (647753 : Int)) (⟨by decide, by decide⟩ : sv_R (1 : Int)) o103) (fun v S1 hq => ?_)
              obtain ⟨rfl, ok105, md106, hpo107⟩ := hq
              obtain ⟨g104, rfl⟩ : ∃ g, S1 = sv_sts (sv_sts (sv_sts (sv_sts (sv_sts S [68, 69, 70, 81, 82, 83, 84, 85, 86, 76, 77] g5) [85, 86] g17) [68, 69, 70] g25) [68, 69, 70] g35) [68, 69, 70] g := ⟨_, md106.eq⟩
              show sv_T sm_XS sm_cs sm_L sm_sh 4 (q_enterCode p1 p2 p3 p4 p5 p6 p7 S) 286 348 [(0, .ref 0), (1, sv_I p1), (2, sv_I p2), (3, sv_I p3), (4, sv_I p4), (5, sv_I p5), (6, sv_I p6), (7, sv_I p7), (8, sv_I x1), (9, sv_I (x1 - (2 : Int))), (10, sv_I r15), (11, sv_I (647753 : Int))] [] (sv_sts (sv_sts (sv_sts (sv_sts (sv_sts S [68, 69, 70, 81, 82, 83, 84, 85, 86, 76, 77] g5) [85, 86] g17) [68, 69, 70] g25) [68, 69, 70] g35) [68, 69, 70] g104)
              have md108 : sv_mod [68, 69, 70, 81, 82, 83, 84, 85, 86, 71, 74, 75, 1127, 78, 79, 80, 72, 76, 77, 1143, 1144, 5, 1011, 1150, 1149, 1145, 1113, 1111, 1112, 1100031] S (sv_sts (sv_sts (sv_sts (sv_sts (sv_sts S [68, 69, 70, 81, 82, 83, 84, 85, 86, 76, 77] g5) [85, 86] g17) [68, 69, 70] g25) [68, 69, 70] g35) [68, 69, 70] g104) := sv_mod.sts md39 (by decide)
              have md109 : sv_mod [68, 69, 70] (sv_sts (sv_sts S [68, 69, 70, 81, 82, 83, 84, 85, 86, 76, 77] g5) [85, 86] g17) (sv_sts (sv_sts (sv_sts (sv_sts (sv_sts S [68, 69, 70, 81, 82, 83, 84, 85, 86, 76, 77] g5) [85, 86] g17) [68, 69, 70] g25) [68, 69, 70] g35) [68, 69, 70] g104) := sv_mod.sts md40 (by decide)
              have md110 : sv_mod [68, 69, 70] (sv_sts (sv_sts (sv_sts (sv_sts S [68, 69, 70, 81, 82, 83, 84, 85, 86, 76, 77] g5) [85, 86] g17) [68, 69, 70] g25) [68, 69, 70] g35) (sv_sts (sv_sts (sv_sts (sv_sts (sv_sts S [68, 69, 70, 81, 82, 83, 84, 85, 86, 76, 77] g5) [85, 86] g17) [68, 69, 70] g25) [68, 69, 70] g35) [68, 69, 70] g104) := sv_mod.sts (sv_mod.rf (l := [68, 69, 70]) (S := (sv_sts (sv_sts (sv_sts (sv_sts S [68, 69, 70, 81, 82, 83, 84, 85, 86, 76, 77] g5) [85, 86] g17) [68, 69, 70] g25) [68, 69, 70] g35))) (by decide)
              have h := h g104 hpo107
              refine sv_goto hM dX12_enterCode_348 (pc' := 366) rfl ?_
              have eS := sv_mod.eq md110
              have hb := J88 (sv_sts (sv_sts (sv_sts (sv_sts (sv_sts S [68, 69, 70, 81, 82, 83, 84, 85, 86, 76, 77] g5) [85, 86] g17) [68, 69, 70] g25) [68, 69, 70] g35) [68, 69, 70] g104) (by rw [← eS]; exact ok105) h
              have hb : sv_T sm_XS sm_cs sm_L sm_sh 4 (q_enterCode p1 p2 p3 p4 p5 p6 p7 S) 286 366 [(0, .ref 0), (1, sv_I p1), (2, sv_I p2), (3, sv_I p3), (4, sv_I p4), (5, sv_I p5), (6, sv_I p6), (7, sv_I p7), (8, sv_I x1), (9, sv_I (x1 - (2 : Int))), (10, sv_I r15), (11, sv_I (647753 : Int))] [] (sv_sts (sv_sts (sv_sts (sv_sts (sv_sts S [68, 69, 70, 81, 82, 83, 84, 85, 86, 76, 77] g5) [85, 86] g17) [68, 69, 70] g25) [68, 69, 70] g35) [68, 69, 70] g104) := Eq.mpr (congrArg (fun Z => sv_T sm_XS sm_cs sm_L sm_sh 4 (q_enterCode p1 p2 p3 p4 p5 p6 p7 S) 286 366 [(0, .ref 0), (1, sv_I p1), (2, sv_I p2), (3, sv_I p3), (4, sv_I p4), (5, sv_I p5), (6, sv_I p6), (7, sv_I p7), (8, sv_I x1), (9, sv_I (x1 - (2 : Int))), (10, sv_I r15), (11, sv_I (647753 : Int))] [] Z) eS) hb
              exact sv_less (lv := [(0, .ref 0), (1, sv_I p1), (2, sv_I p2), (3, sv_I p3), (4, sv_I p4), (5, sv_I p5), (6, sv_I p6), (7, sv_I p7), (8, sv_I x1), (9, sv_I (x1 - (2 : Int))), (10, sv_I r15), (11, sv_I (647753 : Int))]) (sv_Sub_cons rfl (sv_Sub_cons rfl (sv_Sub_cons rfl (sv_Sub_cons rfl (sv_Sub_cons rfl (sv_Sub_cons rfl (sv_Sub_cons rfl (sv_Sub_cons rfl (sv_Sub_cons rfl (sv_Sub_cons rfl (sv_Sub_cons rfl (sv_Sub_cons rfl sv_Sub_nil)))))))))))) hb
          · have h := h.2 (hc)
            refine sv_aload_n hM dX12_enterCode_320 rfl rfl ?_
            refine sv_iload hM dX12_enterCode_321 rfl rfl ?_
            refine sv_aload_n hM dX12_enterCode_323 rfl rfl ?_
            refine sv_iload hM dX12_enterCode_324 rfl rfl ?_
            obtain ⟨o111, h⟩ := h
            refine sv_callV hM dX12_enterCode_326 sm_iv_920 (by decide) (sm_a0 _) rfl rfl (Nat.le_of_ble_eq_true rfl) sm_h166 (Nat.le_of_ble_eq_true rfl) (Nat.le_of_ble_eq_true rfl) (F' := 0) (Nat.le_of_ble_eq_true rfl) rfl (t_siteLabel p7 (sv_sts (sv_sts (sv_sts (sv_sts S [68, 69, 70, 81, 82, 83, 84, 85, 86, 76, 77] g5) [85, 86] g17) [68, 69, 70] g25) [68, 69, 70] g35) ok36 hp7 o111) (fun v S1 hq => ?_)
            obtain ⟨r116, rfl, hr116, ok113, md114, hpo115⟩ := hq
            obtain rfl : (sv_sts (sv_sts (sv_sts (sv_sts S [68, 69, 70, 81, 82, 83, 84, 85, 86, 76, 77] g5) [85, 86] g17) [68, 69, 70] g25) [68, 69, 70] g35) = S1 := (funext fun j => md114 j (by intro q; cases q)).symm
            show sv_T sm_XS sm_cs sm_L sm_sh 4 (q_enterCode p1 p2 p3 p4 p5 p6 p7 S) 286 329 [(0, .ref 0), (1, sv_I p1), (2, sv_I p2), (3, sv_I p3), (4, sv_I p4), (5, sv_I p5), (6, sv_I p6), (7, sv_I p7), (8, sv_I x1), (9, sv_I (x1 - (2 : Int))), (10, sv_I r15), (11, sv_I (647753 : Int))] [sv_I r116, sv_I (647753 : Int), .ref 0] (sv_sts (sv_sts (sv_sts (sv_sts S [68, 69, 70, 81, 82, 83, 84, 85, 86, 76, 77] g5) [85, 86] g17) [68, 69, 70] g25) [68, 69, 70] g35)
            have h := h r116 hr116 hpo115
            obtain ⟨o117, h⟩ := h
            refine sv_callV hM dX12_enterCode_329 sm_iv_1081 (by decide) (sm_a0 _) rfl rfl (Nat.le_of_ble_eq_true rfl) sm_h216 (Nat.le_of_ble_eq_true rfl) (Nat.le_of_ble_eq_true rfl) (F' := 0) (Nat.le_of_ble_eq_true rfl) rfl (t_addLabel (647753 : Int) r116 (sv_sts (sv_sts (sv_sts (sv_sts S [68, 69, 70, 81, 82, 83, 84, 85, 86, 76, 77] g5) [85, 86] g17) [68, 69, 70] g25) [68, 69, 70] g35) ok113 (⟨by decide, by decide⟩ : sv_R (647753 : Int)) hr116 o117) (fun v S1 hq => ?_)
            obtain ⟨rfl, ok119, md120, hpo121⟩ := hq
            obtain ⟨g118, rfl⟩ : ∃ g, S1 = sv_sts (sv_sts (sv_sts (sv_sts (sv_sts S [68, 69, 70, 81, 82, 83, 84, 85, 86, 76, 77] g5) [85, 86] g17) [68, 69, 70] g25) [68, 69, 70] g35) [69, 70] g := ⟨_, md120.eq⟩
            show sv_T sm_XS sm_cs sm_L sm_sh 4 (q_enterCode p1 p2 p3 p4 p5 p6 p7 S) 286 332 [(0, .ref 0), (1, sv_I p1), (2, sv_I p2), (3, sv_I p3), (4, sv_I p4), (5, sv_I p5), (6, sv_I p6), (7, sv_I p7), (8, sv_I x1), (9, sv_I (x1 - (2 : Int))), (10, sv_I r15), (11, sv_I (647753 : Int))] [] (sv_sts (sv_sts (sv_sts (sv_sts (sv_sts S [68, 69, 70, 81, 82, 83, 84, 85, 86, 76, 77] g5) [85, 86] g17) [68, 69, 70] g25) [68, 69, 70] g35) [69, 70] g118)
            have md122 : sv_mod [68, 69, 70, 81, 82, 83, 84, 85, 86, 71, 74, 75, 1127, 78, 79, 80, 72, 76, 77, 1143, 1144, 5, 1011, 1150, 1149, 1145, 1113, 1111, 1112, 1100031] S (sv_sts (sv_sts (sv_sts (sv_sts (sv_sts S [68, 69, 70, 81, 82, 83, 84, 85, 86, 76, 77] g5) [85, 86] g17) [68, 69, 70] g25) [68, 69, 70] g35) [69, 70] g118) := sv_mod.sts md39 (by decide)
            have md123 : sv_mod [68, 69, 70] (sv_sts (sv_sts S [68, 69, 70, 81, 82, 83, 84, 85, 86, 76, 77] g5) [85, 86] g17) (sv_sts (sv_sts (sv_sts (sv_sts (sv_sts S [68, 69, 70, 81, 82, 83, 84, 85, 86, 76, 77] g5) [85, 86] g17) [68, 69, 70] g25) [68, 69, 70] g35) [69, 70] g118) := sv_mod.sts md40 (by decide)
            have md124 : sv_mod [68, 69, 70] (sv_sts (sv_sts (sv_sts (sv_sts S [68, 69, 70, 81, 82, 83, 84, 85, 86, 76, 77] g5) [85, 86] g17) [68, 69, 70] g25) [68, 69, 70] g35) (sv_sts (sv_sts (sv_sts (sv_sts (sv_sts S [68, 69, 70, 81, 82, 83, 84, 85, 86, 76, 77] g5) [85, 86] g17) [68, 69, 70] g25) [68, 69, 70] g35) [69, 70] g118) := sv_mod.sts (sv_mod.rf (l := [68, 69, 70]) (S := (sv_sts (sv_sts (sv_sts (sv_sts S [68, 69, 70, 81, 82, 83, 84, 85, 86, 76, 77] g5) [85, 86] g17) [68, 69, 70] g25) [68, 69, 70] g35))) (by decide)
            have h := h g118 hpo121
            refine sv_goto hM dX12_enterCode_332 (pc' := 366) rfl ?_
            have eS := sv_mod.eq md124
            have hb := J88 (sv_sts (sv_sts (sv_sts (sv_sts (sv_sts S [68, 69, 70, 81, 82, 83, 84, 85, 86, 76, 77] g5) [85, 86] g17) [68, 69, 70] g25) [68, 69, 70] g35) [69, 70] g118) (by rw [← eS]; exact ok119) h
            have hb : sv_T sm_XS sm_cs sm_L sm_sh 4 (q_enterCode p1 p2 p3 p4 p5 p6 p7 S) 286 366 [(0, .ref 0), (1, sv_I p1), (2, sv_I p2), (3, sv_I p3), (4, sv_I p4), (5, sv_I p5), (6, sv_I p6), (7, sv_I p7), (8, sv_I x1), (9, sv_I (x1 - (2 : Int))), (10, sv_I r15), (11, sv_I (647753 : Int))] [] (sv_sts (sv_sts (sv_sts (sv_sts (sv_sts S [68, 69, 70, 81, 82, 83, 84, 85, 86, 76, 77] g5) [85, 86] g17) [68, 69, 70] g25) [68, 69, 70] g35) [69, 70] g118) := Eq.mpr (congrArg (fun Z => sv_T sm_XS sm_cs sm_L sm_sh 4 (q_enterCode p1 p2 p3 p4 p5 p6 p7 S) 286 366 [(0, .ref 0), (1, sv_I p1), (2, sv_I p2), (3, sv_I p3), (4, sv_I p4), (5, sv_I p5), (6, sv_I p6), (7, sv_I p7), (8, sv_I x1), (9, sv_I (x1 - (2 : Int))), (10, sv_I r15), (11, sv_I (647753 : Int))] [] Z) eS) hb
            exact sv_less (lv := [(0, .ref 0), (1, sv_I p1), (2, sv_I p2), (3, sv_I p3), (4, sv_I p4), (5, sv_I p5), (6, sv_I p6), (7, sv_I p7), (8, sv_I x1), (9, sv_I (x1 - (2 : Int))), (10, sv_I r15), (11, sv_I (647753 : Int))]) (sv_Sub_cons rfl (sv_Sub_cons rfl (sv_Sub_cons rfl (sv_Sub_cons rfl (sv_Sub_cons rfl (sv_Sub_cons rfl (sv_Sub_cons rfl (sv_Sub_cons rfl (sv_Sub_cons rfl (sv_Sub_cons rfl (sv_Sub_cons rfl (sv_Sub_cons rfl sv_Sub_nil)))))))))))) hb
        · have h := h.2 (hc)
          have k125 : (sm_VN (S 32) (S 33) (S 1032 0) (S 1008 0) → 1 ≤ p1 → p1 < (S 1032 0) → 0 ≤ l11_26 → l11_26 < (S 33 p1) → 0 ≤ (S 32 (100 * p1 + l11_26)) ∧ (S 32 (100 * p1 + l11_26)) < (S 1008 0)) := fun h h1 h2 h3 h4 => sm_VN_at h p1 l11_26 h1 h2 h3 h4
          have h := h k125
          refine sv_aload_n hM dX12_enterCode_149 rfl rfl ?_
          refine sv_iload hM dX12_enterCode_150 rfl rfl ?_
          refine sv_aload_n hM dX12_enterCode_152 rfl rfl ?_
          refine sv_getA hM dX12_enterCode_153 sm_fl_107 (sm_a0 _) sm_k57 rfl ?_
          refine sv_bipush (d := (100 : Int)) hM dX12_enterCode_156 rfl rfl ?_
          refine sv_iload_n hM dX12_enterCode_158 rfl rfl ?_
          refine sv_imul hM dX12_enterCode_159 rfl ?_
          refine sv_iload hM dX12_enterCode_160 rfl rfl ?_
          refine sv_iadd hM dX12_enterCode_162 rfl ?_
          obtain ⟨o126, h⟩ := h
          have k127 : sv_R (S 32 (((100 : Int) * p1) + l11_26)) := sm_okI ok29 sm_r32 (((100 : Int) * p1) + l11_26)
          have h := h k127
          refine sv_iald hM dX12_enterCode_163 (sm_a32 _) (by decide) o126.1 o126.2 rfl (x := (S 32 (((100 : Int) * p1) + l11_26))) rfl ?_
          obtain ⟨o128, h⟩ := h
          refine sv_callV hM dX12_enterCode_164 sm_iv_1244 (by decide) (sm_a0 _) rfl rfl (Nat.le_of_ble_eq_true rfl) sm_h253 (Nat.le_of_ble_eq_true rfl) (Nat.le_of_ble_eq_true rfl) (F' := 2) (Nat.le_of_ble_eq_true rfl) rfl (t_fresh_ (x1 - (2 : Int)) (S 32 (((100 : Int) * p1) + l11_26)) (sv_sts (sv_sts (sv_sts S [68, 69, 70, 81, 82, 83, 84, 85, 86, 76, 77] g5) [85, 86] g17) [68, 69, 70] g25) ok29 o3 k127 o128) (fun v S1 hq => ?_)
          obtain ⟨r133, rfl, hr133, ok130, md131, hpo132⟩ := hq
          obtain ⟨g129, rfl⟩ : ∃ g, S1 = sv_sts (sv_sts (sv_sts (sv_sts S [68, 69, 70, 81, 82, 83, 84, 85, 86, 76, 77] g5) [85, 86] g17) [68, 69, 70] g25) [68, 69, 70] g := ⟨_, md131.eq⟩
          show sv_T sm_XS sm_cs sm_L sm_sh 4 (q_enterCode p1 p2 p3 p4 p5 p6 p7 S) 286 167 [(0, .ref 0), (1, sv_I p1), (2, sv_I p2), (3, sv_I p3), (4, sv_I p4), (5, sv_I p5), (6, sv_I p6), (7, sv_I p7), (8, sv_I x1), (9, sv_I (x1 - (2 : Int))), (10, sv_I r15), (11, sv_I l11_26)] [sv_I r133] (sv_sts (sv_sts (sv_sts (sv_sts S [68, 69, 70, 81, 82, 83, 84, 85, 86, 76, 77] g5) [85, 86] g17) [68, 69, 70] g25) [68, 69, 70] g129)
          have md134 : sv_mod [68, 69, 70, 81, 82, 83, 84, 85, 86, 71, 74, 75, 1127, 78, 79, 80, 72, 76, 77, 1143, 1144, 5, 1011, 1150, 1149, 1145, 1113, 1111, 1112, 1100031] S (sv_sts (sv_sts (sv_sts (sv_sts S [68, 69, 70, 81, 82, 83, 84, 85, 86, 76, 77] g5) [85, 86] g17) [68, 69, 70] g25) [68, 69, 70] g129) := sv_mod.sts md30 (by decide)
          have md135 : sv_mod [68, 69, 70] (sv_sts (sv_sts S [68, 69, 70, 81, 82, 83, 84, 85, 86, 76, 77] g5) [85, 86] g17) (sv_sts (sv_sts (sv_sts (sv_sts S [68, 69, 70, 81, 82, 83, 84, 85, 86, 76, 77] g5) [85, 86] g17) [68, 69, 70] g25) [68, 69, 70] g129) := sv_mod.sts md31 (by decide)
          have h := h r133 hr133 g129 hpo132
          refine sv_istore hM dX12_enterCode_167 (by decide) rfl ?_
          show sv_T sm_XS sm_cs sm_L sm_sh 4 (q_enterCode p1 p2 p3 p4 p5 p6 p7 S) 286 169 [(0, .ref 0), (1, sv_I p1), (2, sv_I p2), (3, sv_I p3), (4, sv_I p4), (5, sv_I p5), (6, sv_I p6), (7, sv_I p7), (8, sv_I x1), (9, sv_I (x1 - (2 : Int))), (10, sv_I r15), (11, sv_I l11_26), (12, sv_I r133)] [] (sv_sts (sv_sts (sv_sts (sv_sts S [68, 69, 70, 81, 82, 83, 84, 85, 86, 76, 77] g5) [85, 86] g17) [68, 69, 70] g25) [68, 69, 70] g129)
          have J228 : ∀ s136 : Int, sv_R s136 → (s136 = 0 ∨ s136 = 1) → sv_T sm_XS sm_cs sm_L sm_sh 4 (q_enterCode p1 p2 p3 p4 p5 p6 p7 S) 286 215 [(0, .ref 0), (1, sv_I p1), (2, sv_I p2), (3, sv_I p3), (4, sv_I p4), (5, sv_I p5), (6, sv_I p6), (7, sv_I p7), (8, sv_I x1), (9, sv_I (x1 - (2 : Int))), (10, sv_I r15), (11, sv_I l11_26), (12, sv_I r133)] [sv_I s136] (sv_sts (sv_sts (sv_sts (sv_sts S [68, 69, 70, 81, 82, 83, 84, 85, 86, 76, 77] g5) [85, 86] g17) [68, 69, 70] g25) [68, 69, 70] g129) := by
            intro s136 hs136 hin137
            have h := h.1 s136 hs136 hin137
            refine sv_istore hM dX12_enterCode_215 (by decide) rfl ?_
            show sv_T sm_XS sm_cs sm_L sm_sh 4 (q_enterCode p1 p2 p3 p4 p5 p6 p7 S) 286 217 [(0, .ref 0), (1, sv_I p1), (2, sv_I p2), (3, sv_I p3), (4, sv_I p4), (5, sv_I p5), (6, sv_I p6), (7, sv_I p7), (8, sv_I x1), (9, sv_I (x1 - (2 : Int))), (10, sv_I r15), (11, sv_I l11_26), (12, sv_I r133), (13, sv_I s136)] [] (sv_sts (sv_sts (sv_sts (sv_sts S [68, 69, 70, 81, 82, 83, 84, 85, 86, 76, 77] g5) [85, 86] g17) [68, 69, 70] g25) [68, 69, 70] g129)
            have J145 : ∀ g138 : sv_S, sm_ok (sv_sts (sv_sts (sv_sts (sv_sts (sv_sts S [68, 69, 70, 81, 82, 83, 84, 85, 86, 76, 77] g5) [85, 86] g17) [68, 69, 70] g25) [68, 69, 70] g129) [68, 69, 70] g138) → (sm_pt (g138 68) (g138 69) (g138 70) = sm_pt (g129 68) (g129 69) (g129 70)) → sv_T sm_XS sm_cs sm_L sm_sh 4 (q_enterCode p1 p2 p3 p4 p5 p6 p7 S) 286 297 [(0, .ref 0), (1, sv_I p1), (2, sv_I p2), (3, sv_I p3), (4, sv_I p4), (5, sv_I p5), (6, sv_I p6), (7, sv_I p7), (8, sv_I x1), (9, sv_I (x1 - (2 : Int))), (10, sv_I r15), (11, sv_I l11_26), (12, sv_I r133), (13, sv_I s136)] [] (sv_sts (sv_sts (sv_sts (sv_sts (sv_sts S [68, 69, 70, 81, 82, 83, 84, 85, 86, 76, 77] g5) [85, 86] g17) [68, 69, 70] g25) [68, 69, 70] g129) [68, 69, 70] g138) := by
              intro  g138 ok139 hin140
              have h := h.1 g138 hin140
              have md141 : sv_mod [68, 69, 70, 81, 82, 83, 84, 85, 86, 71, 74, 75, 1127, 78, 79, 80, 72, 76, 77, 1143, 1144, 5, 1011, 1150, 1149, 1145, 1113, 1111, 1112, 1100031] S (sv_sts (sv_sts (sv_sts (sv_sts (sv_sts S [68, 69, 70, 81, 82, 83, 84, 85, 86, 76, 77] g5) [85, 86] g17) [68, 69, 70] g25) [68, 69, 70] g129) [68, 69, 70] g138) := sv_mod.sts md134 (by decide)
              have md142 : sv_mod [68, 69, 70] (sv_sts (sv_sts S [68, 69, 70, 81, 82, 83, 84, 85, 86, 76, 77] g5) [85, 86] g17) (sv_sts (sv_sts (sv_sts (sv_sts (sv_sts S [68, 69, 70, 81, 82, 83, 84, 85, 86, 76, 77] g5) [85, 86] g17) [68, 69, 70] g25) [68, 69, 70] g129) [68, 69, 70] g138) := sv_mod.sts md135 (by decide)
              have md143 : sv_mod [68, 69, 70] (sv_sts (sv_sts (sv_sts (sv_sts S [68, 69, 70, 81, 82, 83, 84, 85, 86, 76, 77] g5) [85, 86] g17) [68, 69, 70] g25) [68, 69, 70] g129) (sv_sts (sv_sts (sv_sts (sv_sts (sv_sts S [68, 69, 70, 81, 82, 83, 84, 85, 86, 76, 77] g5) [85, 86] g17) [68, 69, 70] g25) [68, 69, 70] g129) [68, 69, 70] g138) := sv_mod.sts sv_mod.rf (by decide)
              refine sv_iinc (d := (1 : Int)) hM dX12_enterCode_297 rfl (by decide) rfl rfl ?_
              show sv_T sm_XS sm_cs sm_L sm_sh 4 (q_enterCode p1 p2 p3 p4 p5 p6 p7 S) 286 300 [(0, .ref 0), (1, sv_I p1), (2, sv_I p2), (3, sv_I p3), (4, sv_I p4), (5, sv_I p5), (6, sv_I p6), (7, sv_I p7), (8, sv_I x1), (9, sv_I (x1 - (2 : Int))), (10, sv_I r15), (11, sv_I (l11_26 + (1 : Int))), (12, sv_I r133), (13, sv_I s136)] [] (sv_sts (sv_sts (sv_sts (sv_sts (sv_sts S [68, 69, 70, 81, 82, 83, 84, 85, 86, 76, 77] g5) [85, 86] g17) [68, 69, 70] g25) [68, 69, 70] g129) [68, 69, 70] g138)
              refine sv_goto hM dX12_enterCode_300 (pc' := 138) rfl ?_
              obtain ⟨o144, h⟩ := h
              have eS := sv_mod.eq md142
              have hb := ih27 ((l11_26 + (1 : Int)), (sv_sts (sv_sts (sv_sts (sv_sts (sv_sts S [68, 69, 70, 81, 82, 83, 84, 85, 86, 76, 77] g5) [85, 86] g17) [68, 69, 70] g25) [68, 69, 70] g129) [68, 69, 70] g138)) ⟨o144, (by rw [← eS]; exact ok139), h.1⟩ h.2
              have hb : sv_T sm_XS sm_cs sm_L sm_sh 4 (q_enterCode p1 p2 p3 p4 p5 p6 p7 S) 286 138 [(0, .ref 0), (1, sv_I p1), (2, sv_I p2), (3, sv_I p3), (4, sv_I p4), (5, sv_I p5), (6, sv_I p6), (7, sv_I p7), (8, sv_I x1), (9, sv_I (x1 - (2 : Int))), (10, sv_I r15), (11, sv_I (l11_26 + (1 : Int)))] [] (sv_sts (sv_sts (sv_sts (sv_sts (sv_sts S [68, 69, 70, 81, 82, 83, 84, 85, 86, 76, 77] g5) [85, 86] g17) [68, 69, 70] g25) [68, 69, 70] g129) [68, 69, 70] g138) := Eq.mpr (congrArg (fun Z => sv_T sm_XS sm_cs sm_L sm_sh 4 (q_enterCode p1 p2 p3 p4 p5 p6 p7 S) 286 138 [(0, .ref 0), (1, sv_I p1), (2, sv_I p2), (3, sv_I p3), (4, sv_I p4), (5, sv_I p5), (6, sv_I p6), (7, sv_I p7), (8, sv_I x1), (9, sv_I (x1 - (2 : Int))), (10, sv_I r15), (11, sv_I (l11_26 + (1 : Int)))] [] Z) eS) hb
              exact sv_less (lv := [(0, .ref 0), (1, sv_I p1), (2, sv_I p2), (3, sv_I p3), (4, sv_I p4), (5, sv_I p5), (6, sv_I p6), (7, sv_I p7), (8, sv_I x1), (9, sv_I (x1 - (2 : Int))), (10, sv_I r15), (11, sv_I (l11_26 + (1 : Int)))]) (sv_Sub_cons rfl (sv_Sub_cons rfl (sv_Sub_cons rfl (sv_Sub_cons rfl (sv_Sub_cons rfl (sv_Sub_cons rfl (sv_Sub_cons rfl (sv_Sub_cons rfl (sv_Sub_cons rfl (sv_Sub_cons rfl (sv_Sub_cons rfl (sv_Sub_cons rfl sv_Sub_nil)))))))))))) hb
            have h := h.2
            refine sv_iload hM dX12_enterCode_217 rfl rfl ?_
            refine sv_aload_n hM dX12_enterCode_219 rfl rfl ?_
            refine sv_getA hM dX12_enterCode_220 sm_fl_71 (sm_a0 _) sm_k36 rfl ?_
            refine sv_iload_n hM dX12_enterCode_223 rfl rfl ?_
            have k146 : sv_R (S 20 p1) := sm_okI ok130 sm_r20 p1
            have h := h k146
            refine sv_iald hM dX12_enterCode_224 (sm_a20 _) (by decide) o32.1 o32.2 rfl (x := (S 20 p1)) rfl ?_
            refine sv_icmp_ge hM dX12_enterCode_225 hl11_26 k146 (t := 256) rfl rfl (fun hc => ?_) (fun hc => ?_)
            · have h := h.1 (hc)
              refine sv_iload hM dX12_enterCode_256 rfl rfl ?_
              refine sv_cond_eq hM dX12_enterCode_258 hs136 (t := 290) rfl rfl (fun hc => ?_) (fun hc => ?_)
              · have h := h.1 (hc)
                refine sv_aload_n hM dX12_enterCode_290 rfl rfl ?_
                refine sv_iload hM dX12_enterCode_291 rfl rfl ?_
                refine sv_iconst (d := (1 : Int)) hM dX12_enterCode_293 rfl rfl ?_
                obtain ⟨o147, h⟩ := h
                refine sv_callV hM dX12_enterCode_294 sm_iv_1072 (by decide) (sm_a0 _) rfl rfl (Nat.le_of_ble_eq_true rfl) sm_h213 (Nat.le_of_ble_eq_true rfl) (Nat.le_of_ble_eq_true rfl) (F' := 2) (Nat.le_of_ble_eq_true rfl) rfl (t_addSort r133 (1 : Int) (sv_sts (sv_sts (sv_sts (sv_sts S [68, 69, 70, 81, 82, 83, 84, 85, 86, 76, 77] g5) [85, 86] g17) [68, 69, 70] g25) [68, 69, 70] g129) ok130 hr133 (⟨by decide, by decide⟩ : sv_R (1 : Int)) o147) (fun v S1 hq => ?_)
                obtain ⟨rfl, ok149, md150, hpo151⟩ := hq
                obtain ⟨g148, rfl⟩ : ∃ g, S1 = sv_sts (sv_sts (sv_sts (sv_sts (sv_sts S [68, 69, 70, 81, 82, 83, 84, 85, 86, 76, 77] g5) [85, 86] g17) [68, 69, 70] g25) [68, 69, 70] g129) [68, 69, 70] g := ⟨_, md150.eq⟩
                show sv_T sm_XS sm_cs sm_L sm_sh 4 (q_enterCode p1 p2 p3 p4 p5 p6 p7 S) 286 297 [(0, .ref 0), (1, sv_I p1), (2, sv_I p2), (3, sv_I p3), (4, sv_I p4), (5, sv_I p5), (6, sv_I p6), (7, sv_I p7), (8, sv_I x1), (9, sv_I (x1 - (2 : Int))), (10, sv_I r15), (11, sv_I l11_26), (12, sv_I r133), (13, sv_I s136)] [] (sv_sts (sv_sts (sv_sts (sv_sts (sv_sts S [68, 69, 70, 81, 82, 83, 84, 85, 86, 76, 77] g5) [85, 86] g17) [68, 69, 70] g25) [68, 69, 70] g129) [68, 69, 70] g148)
                have md152 : sv_mod [68, 69, 70, 81, 82, 83, 84, 85, 86, 71, 74, 75, 1127, 78, 79, 80, 72, 76, 77, 1143, 1144, 5, 1011, 1150, 1149, 1145, 1113, 1111, 1112, 1100031] S (sv_sts (sv_sts (sv_sts (sv_sts (sv_sts S [68, 69, 70, 81, 82, 83, 84, 85, 86, 76, 77] g5) [85, 86] g17) [68, 69, 70] g25) [68, 69, 70] g129) [68, 69, 70] g148) := sv_mod.sts md134 (by decide)
                have md153 : sv_mod [68, 69, 70] (sv_sts (sv_sts S [68, 69, 70, 81, 82, 83, 84, 85, 86, 76, 77] g5) [85, 86] g17) (sv_sts (sv_sts (sv_sts (sv_sts (sv_sts S [68, 69, 70, 81, 82, 83, 84, 85, 86, 76, 77] g5) [85, 86] g17) [68, 69, 70] g25) [68, 69, 70] g129) [68, 69, 70] g148) := sv_mod.sts md135 (by decide)
                have md154 : sv_mod [68, 69, 70] (sv_sts (sv_sts (sv_sts (sv_sts S [68, 69, 70, 81, 82, 83, 84, 85, 86, 76, 77] g5) [85, 86] g17) [68, 69, 70] g25) [68, 69, 70] g129) (sv_sts (sv_sts (sv_sts (sv_sts (sv_sts S [68, 69, 70, 81, 82, 83, 84, 85, 86, 76, 77] g5) [85, 86] g17) [68, 69, 70] g25) [68, 69, 70] g129) [68, 69, 70] g148) := sv_mod.sts (sv_mod.rf (l := [68, 69, 70]) (S := (sv_sts (sv_sts (sv_sts (sv_sts S [68, 69, 70, 81, 82, 83, 84, 85, 86, 76, 77] g5) [85, 86] g17) [68, 69, 70] g25) [68, 69, 70] g129))) (by decide)
                have h := h g148 hpo151
                have eS := sv_mod.eq md154
                have hb := J145 (sv_sts (sv_sts (sv_sts (sv_sts (sv_sts S [68, 69, 70, 81, 82, 83, 84, 85, 86, 76, 77] g5) [85, 86] g17) [68, 69, 70] g25) [68, 69, 70] g129) [68, 69, 70] g148) (by rw [← eS]; exact ok149) h
                have hb : sv_T sm_XS sm_cs sm_L sm_sh 4 (q_enterCode p1 p2 p3 p4 p5 p6 p7 S) 286 297 [(0, .ref 0), (1, sv_I p1), (2, sv_I p2), (3, sv_I p3), (4, sv_I p4), (5, sv_I p5), (6, sv_I p6), (7, sv_I p7), (8, sv_I x1), (9, sv_I (x1 - (2 : Int))), (10, sv_I r15), (11, sv_I l11_26), (12, sv_I r133), (13, sv_I s136)] [] (sv_sts (sv_sts (sv_sts (sv_sts (sv_sts S [68, 69, 70, 81, 82, 83, 84, 85, 86, 76, 77] g5) [85, 86] g17) [68, 69, 70] g25) [68, 69, 70] g129) [68, 69, 70] g148) := Eq.mpr (congrArg (fun Z => sv_T sm_XS sm_cs sm_L sm_sh 4 (q_enterCode p1 p2 p3 p4 p5 p6 p7 S) 286 297 [(0, .ref 0), (1, sv_I p1), (2, sv_I p2), (3, sv_I p3), (4, sv_I p4), (5, sv_I p5), (6, sv_I p6), (7, sv_I p7), (8, sv_I x1), (9, sv_I (x1 - (2 : Int))), (10, sv_I r15), (11, sv_I l11_26), (12, sv_I r133), (13, sv_I s136)] [] Z) eS) hb
                exact sv_less (lv := [(0, .ref 0), (1, sv_I p1), (2, sv_I p2), (3, sv_I p3), (4, sv_I p4), (5, sv_I p5), (6, sv_I p6), (7, sv_I p7), (8, sv_I x1), (9, sv_I (x1 - (2 : Int))), (10, sv_I r15), (11, sv_I l11_26), (12, sv_I r133), (13, sv_I s136)]) (sv_Sub_cons rfl (sv_Sub_cons rfl (sv_Sub_cons rfl (sv_Sub_cons rfl (sv_Sub_cons rfl (sv_Sub_cons rfl (sv_Sub_cons rfl (sv_Sub_cons rfl (sv_Sub_cons rfl (sv_Sub_cons rfl (sv_Sub_cons rfl (sv_Sub_cons rfl (sv_Sub_cons rfl (sv_Sub_cons rfl sv_Sub_nil)))))))))))))) hb
              · have h := h.2 (hc)
                refine sv_iload_n hM dX12_enterCode_261 rfl rfl ?_
                refine sv_cond_eq hM dX12_enterCode_262 (sv_R01 hp2) (t := 273) rfl rfl (fun hc => ?_) (fun hc => ?_)
                · have h := h.1 (hc)
                  refine sv_iload_n hM dX12_enterCode_273 rfl rfl ?_
                  refine sv_cond_eq hM dX12_enterCode_274 (sv_R01 hp3) (t := 297) rfl rfl (fun hc => ?_) (fun hc => ?_)
                  · have h := h.1 (hc)
                    have eS := sv_mod.eq (sv_mod.rf (l := [68, 69, 70]) (S := (sv_sts (sv_sts (sv_sts (sv_sts S [68, 69, 70, 81, 82, 83, 84, 85, 86, 76, 77] g5) [85, 86] g17) [68, 69, 70] g25) [68, 69, 70] g129)))
                    have hb := J145 (sv_sts (sv_sts (sv_sts (sv_sts S [68, 69, 70, 81, 82, 83, 84, 85, 86, 76, 77] g5) [85, 86] g17) [68, 69, 70] g25) [68, 69, 70] g129) (by rw [← eS]; exact ok130) h
                    have hb : sv_T sm_XS sm_cs sm_L sm_sh 4 (q_enterCode p1 p2 p3 p4 p5 p6 p7 S) 286 297 [(0, .ref 0), (1, sv_I p1), (2, sv_I p2), (3, sv_I p3), (4, sv_I p4), (5, sv_I p5), (6, sv_I p6), (7, sv_I p7), (8, sv_I x1), (9, sv_I (x1 - (2 : Int))), (10, sv_I r15), (11, sv_I l11_26), (12, sv_I r133), (13, sv_I s136)] [] (sv_sts (sv_sts (sv_sts (sv_sts S [68, 69, 70, 81, 82, 83, 84, 85, 86, 76, 77] g5) [85, 86] g17) [68, 69, 70] g25) [68, 69, 70] g129) := Eq.mpr (congrArg (fun Z => sv_T sm_XS sm_cs sm_L sm_sh 4 (q_enterCode p1 p2 p3 p4 p5 p6 p7 S) 286 297 [(0, .ref 0), (1, sv_I p1), (2, sv_I p2), (3, sv_I p3), (4, sv_I p4), (5, sv_I p5), (6, sv_I p6), (7, sv_I p7), (8, sv_I x1), (9, sv_I (x1 - (2 : Int))), (10, sv_I r15), (11, sv_I l11_26), (12, sv_I r133), (13, sv_I s136)] [] Z) eS) hb
                    exact sv_less (lv := [(0, .ref 0), (1, sv_I p1), (2, sv_I p2), (3, sv_I p3), (4, sv_I p4), (5, sv_I p5), (6, sv_I p6), (7, sv_I p7), (8, sv_I x1), (9, sv_I (x1 - (2 : Int))), (10, sv_I r15), (11, sv_I l11_26), (12, sv_I r133), (13, sv_I s136)]) (sv_Sub_cons rfl (sv_Sub_cons rfl (sv_Sub_cons rfl (sv_Sub_cons rfl (sv_Sub_cons rfl (sv_Sub_cons rfl (sv_Sub_cons rfl (sv_Sub_cons rfl (sv_Sub_cons rfl (sv_Sub_cons rfl (sv_Sub_cons rfl (sv_Sub_cons rfl (sv_Sub_cons rfl (sv_Sub_cons rfl sv_Sub_nil)))))))))))))) hb
                  · have h := h.2 (hc)
                    refine sv_aload_n hM dX12_enterCode_277 rfl rfl ?_
                    refine sv_iload hM dX12_enterCode_278 rfl rfl ?_
                    refine sv_iload hM dX12_enterCode_280 rfl rfl ?_
                    refine sv_iconst (d := (1 : Int)) hM dX12_enterCode_282 rfl rfl ?_
                    refine sv_iadd hM dX12_enterCode_283 rfl ?_
                    obtain ⟨o155, h⟩ := h
                    obtain ⟨o156, h⟩ := h
                    refine sv_callV hM dX12_enterCode_284 sm_iv_1081 (by decide) (sm_a0 _) rfl rfl (Nat.le_of_ble_eq_true rfl) sm_h216 (Nat.le_of_ble_eq_true rfl) (Nat.le_of_ble_eq_true rfl) (F' := 0) (Nat.le_of_ble_eq_true rfl) rfl (t_addLabel r133 (x1 + (1 : Int)) (sv_sts (sv_sts (sv_sts (sv_sts S [68, 69, 70, 81, 82, 83, 84, 85, 86, 76, 77] g5) [85, 86] g17) [68, 69, 70] g25) [68, 69, 70] g129) ok130 hr133 o155 o156) (fun v S1 hq => ?_)
                    obtain ⟨rfl, ok158, md159, hpo160⟩ := hq
                    obtain ⟨g157, rfl⟩ : ∃ g, S1 = sv_sts (sv_sts (sv_sts (sv_sts (sv_sts S [68, 69, 70, 81, 82, 83, 84, 85, 86, 76, 77] g5) [85, 86] g17) [68, 69, 70] g25) [68, 69, 70] g129) [69, 70] g := ⟨_, md159.eq⟩
                    show sv_T sm_XS sm_cs sm_L sm_sh 4 (q_enterCode p1 p2 p3 p4 p5 p6 p7 S) 286 287 [(0, .ref 0), (1, sv_I p1), (2, sv_I p2), (3, sv_I p3), (4, sv_I p4), (5, sv_I p5), (6, sv_I p6), (7, sv_I p7), (8, sv_I x1), (9, sv_I (x1 - (2 : Int))), (10, sv_I r15), (11, sv_I l11_26), (12, sv_I r133), (13, sv_I s136)] [] (sv_sts (sv_sts (sv_sts (sv_sts (sv_sts S [68, 69, 70, 81, 82, 83, 84, 85, 86, 76, 77] g5) [85, 86] g17) [68, 69, 70] g25) [68, 69, 70] g129) [69, 70] g157)
                    have md161 : sv_mod [68, 69, 70, 81, 82, 83, 84, 85, 86, 71, 74, 75, 1127, 78, 79, 80, 72, 76, 77, 1143, 1144, 5, 1011, 1150, 1149, 1145, 1113, 1111, 1112, 1100031] S (sv_sts (sv_sts (sv_sts (sv_sts (sv_sts S [68, 69, 70, 81, 82, 83, 84, 85, 86, 76, 77] g5) [85, 86] g17) [68, 69, 70] g25) [68, 69, 70] g129) [69, 70] g157) := sv_mod.sts md134 (by decide)
                    have md162 : sv_mod [68, 69, 70] (sv_sts (sv_sts S [68, 69, 70, 81, 82, 83, 84, 85, 86, 76, 77] g5) [85, 86] g17) (sv_sts (sv_sts (sv_sts (sv_sts (sv_sts S [68, 69, 70, 81, 82, 83, 84, 85, 86, 76, 77] g5) [85, 86] g17) [68, 69, 70] g25) [68, 69, 70] g129) [69, 70] g157) := sv_mod.sts md135 (by decide)
                    have md163 : sv_mod [68, 69, 70] (sv_sts (sv_sts (sv_sts (sv_sts S [68, 69, 70, 81, 82, 83, 84, 85, 86, 76, 77] g5) [85, 86] g17) [68, 69, 70] g25) [68, 69, 70] g129) (sv_sts (sv_sts (sv_sts (sv_sts (sv_sts S [68, 69, 70, 81, 82, 83, 84, 85, 86, 76, 77] g5) [85, 86] g17) [68, 69, 70] g25) [68, 69, 70] g129) [69, 70] g157) := sv_mod.sts (sv_mod.rf (l := [68, 69, 70]) (S := (sv_sts (sv_sts (sv_sts (sv_sts S [68, 69, 70, 81, 82, 83, 84, 85, 86, 76, 77] g5) [85, 86] g17) [68, 69, 70] g25) [68, 69, 70] g129))) (by decide)
                    have h := h g157 hpo160
                    refine sv_goto hM dX12_enterCode_287 (pc' := 297) rfl ?_
                    have eS := sv_mod.eq md163
                    have hb := J145 (sv_sts (sv_sts (sv_sts (sv_sts (sv_sts S [68, 69, 70, 81, 82, 83, 84, 85, 86, 76, 77] g5) [85, 86] g17) [68, 69, 70] g25) [68, 69, 70] g129) [69, 70] g157) (by rw [← eS]; exact ok158) h
                    have hb : sv_T sm_XS sm_cs sm_L sm_sh 4 (q_enterCode p1 p2 p3 p4 p5 p6 p7 S) 286 297 [(0, .ref 0), (1, sv_I p1), (2, sv_I p2), (3, sv_I p3), (4, sv_I p4), (5, sv_I p5), (6, sv_I p6), (7, sv_I p7), (8, sv_I x1), (9, sv_I (x1 - (2 : Int))), (10, sv_I r15), (11, sv_I l11_26), (12, sv_I r133), (13, sv_I s136)] [] (sv_sts (sv_sts (sv_sts (sv_sts (sv_sts S [68, 69, 70, 81, 82, 83, 84, 85, 86, 76, 77] g5) [85, 86] g17) [68, 69, 70] g25) [68, 69, 70] g129) [69, 70] g157) := Eq.mpr (congrArg (fun Z => sv_T sm_XS sm_cs sm_L sm_sh 4 (q_enterCode p1 p2 p3 p4 p5 p6 p7 S) 286 297 [(0, .ref 0), (1, sv_I p1), (2, sv_I p2), (3, sv_I p3), (4, sv_I p4), (5, sv_I p5), (6, sv_I p6), (7, sv_I p7), (8, sv_I x1), (9, sv_I (x1 - (2 : Int))), (10, sv_I r15), (11, sv_I l11_26), (12, sv_I r133), (13, sv_I s136)] [] Z) eS) hb
                    exact sv_less (lv := [(0, .ref 0), (1, sv_I p1), (2, sv_I p2), (3, sv_I p3), (4, sv_I p4), (5, sv_I p5), (6, sv_I p6), (7, sv_I p7), (8, sv_I x1), (9, sv_I (x1 - (2 : Int))), (10, sv_I r15), (11, sv_I l11_26), (12, sv_I r133), (13, sv_I s136)]) (sv_Sub_cons rfl (sv_Sub_cons rfl (sv_Sub_cons rfl (sv_Sub_cons rfl (sv_Sub_cons rfl (sv_Sub_cons rfl (sv_Sub_cons rfl (sv_Sub_cons rfl (sv_Sub_cons rfl (sv_Sub_cons rfl (sv_Sub_cons rfl (sv_Sub_cons rfl (sv_Sub_cons rfl (sv_Sub_cons rfl sv_Sub_nil)))))))))))))) hb
                · have h := h.2 (hc)
                  refine sv_aload_n hM dX12_enterCode_265 rfl rfl ?_
                  refine sv_iload hM dX12_enterCode_266 rfl rfl ?_
                  refine sv_iload hM dX12_enterCode_268 rfl rfl ?_
                  obtain ⟨o164, h⟩ := h
                  refine sv_callV hM dX12_enterCode_270 sm_iv_1081 (by decide) (sm_a0 _) rfl rfl (Nat.le_of_ble_eq_true rfl) sm_h216 (Nat.le_of_ble_eq_true rfl) (Nat.le_of_ble_eq_true rfl) (F' := 0) (Nat.le_of_ble_eq_true rfl) rfl (t_addLabel r133 x1 (sv_sts (sv_sts (sv_sts (sv_sts S [68, 69, 70, 81, 82, 83, 84, 85, 86, 76, 77] g5) [85, 86] g17) [68, 69, 70] g25) [68, 69, 70] g129) ok130 hr133 o16 o164) (fun v S1 hq => ?_)
                  obtain ⟨rfl, ok166, md167, hpo168⟩ := hq
                  obtain ⟨g165, rfl⟩ : ∃ g, S1 = sv_sts (sv_sts (sv_sts (sv_sts (sv_sts S [68, 69, 70, 81, 82, 83, 84, 85, 86, 76, 77] g5) [85, 86] g17) [68, 69, 70] g25) [68, 69, 70] g129) [69, 70] g := ⟨_, md167.eq⟩
                  show sv_T sm_XS sm_cs sm_L sm_sh 4 (q_enterCode p1 p2 p3 p4 p5 p6 p7 S) 286 273 [(0, .ref 0), (1, sv_I p1), (2, sv_I p2), (3, sv_I p3), (4, sv_I p4), (5, sv_I p5), (6, sv_I p6), (7, sv_I p7), (8, sv_I x1), (9, sv_I (x1 - (2 : Int))), (10, sv_I r15), (11, sv_I l11_26), (12, sv_I r133), (13, sv_I s136)] [] (sv_sts (sv_sts (sv_sts (sv_sts (sv_sts S [68, 69, 70, 81, 82, 83, 84, 85, 86, 76, 77] g5) [85, 86] g17) [68, 69, 70] g25) [68, 69, 70] g129) [69, 70] g165)
                  have md169 : sv_mod [68, 69, 70, 81, 82, 83, 84, 85, 86, 71, 74, 75, 1127, 78, 79, 80, 72, 76, 77, 1143, 1144, 5, 1011, 1150, 1149, 1145, 1113, 1111, 1112, 1100031] S (sv_sts (sv_sts (sv_sts (sv_sts (sv_sts S [68, 69, 70, 81, 82, 83, 84, 85, 86, 76, 77] g5) [85, 86] g17) [68, 69, 70] g25) [68, 69, 70] g129) [69, 70] g165) := sv_mod.sts md134 (by decide)
                  have md170 : sv_mod [68, 69, 70] (sv_sts (sv_sts S [68, 69, 70, 81, 82, 83, 84, 85, 86, 76, 77] g5) [85, 86] g17) (sv_sts (sv_sts (sv_sts (sv_sts (sv_sts S [68, 69, 70, 81, 82, 83, 84, 85, 86, 76, 77] g5) [85, 86] g17) [68, 69, 70] g25) [68, 69, 70] g129) [69, 70] g165) := sv_mod.sts md135 (by decide)
                  have md171 : sv_mod [68, 69, 70] (sv_sts (sv_sts (sv_sts (sv_sts S [68, 69, 70, 81, 82, 83, 84, 85, 86, 76, 77] g5) [85, 86] g17) [68, 69, 70] g25) [68, 69, 70] g129) (sv_sts (sv_sts (sv_sts (sv_sts (sv_sts S [68, 69, 70, 81, 82, 83, 84, 85, 86, 76, 77] g5) [85, 86] g17) [68, 69, 70] g25) [68, 69, 70] g129) [69, 70] g165) := sv_mod.sts (sv_mod.rf (l := [68, 69, 70]) (S := (sv_sts (sv_sts (sv_sts (sv_sts S [68, 69, 70, 81, 82, 83, 84, 85, 86, 76, 77] g5) [85, 86] g17) [68, 69, 70] g25) [68, 69, 70] g129))) (by decide)
                  have h := h g165 hpo168
                  refine sv_iload_n hM dX12_enterCode_273 rfl rfl ?_
                  refine sv_cond_eq hM dX12_enterCode_274 (sv_R01 hp3) (t := 297) rfl rfl (fun hc => ?_) (fun hc => ?_)
                  · have h := h.1 (hc)
                    have eS := sv_mod.eq md171
                    have hb := J145 (sv_sts (sv_sts (sv_sts (sv_sts (sv_sts S [68, 69, 70, 81, 82, 83, 84, 85, 86, 76, 77] g5) [85, 86] g17) [68, 69, 70] g25) [68, 69, 70] g129) [69, 70] g165) (by rw [← eS]; exact ok166) h
                    have hb : sv_T sm_XS sm_cs sm_L sm_sh 4 (q_enterCode p1 p2 p3 p4 p5 p6 p7 S) 286 297 [(0, .ref 0), (1, sv_I p1), (2, sv_I p2), (3, sv_I p3), (4, sv_I p4), (5, sv_I p5), (6, sv_I p6), (7, sv_I p7), (8, sv_I x1), (9, sv_I (x1 - (2 : Int))), (10, sv_I r15), (11, sv_I l11_26), (12, sv_I r133), (13, sv_I s136)] [] (sv_sts (sv_sts (sv_sts (sv_sts (sv_sts S [68, 69, 70, 81, 82, 83, 84, 85, 86, 76, 77] g5) [85, 86] g17) [68, 69, 70] g25) [68, 69, 70] g129) [69, 70] g165) := Eq.mpr (congrArg (fun Z => sv_T sm_XS sm_cs sm_L sm_sh 4 (q_enterCode p1 p2 p3 p4 p5 p6 p7 S) 286 297 [(0, .ref 0), (1, sv_I p1), (2, sv_I p2), (3, sv_I p3), (4, sv_I p4), (5, sv_I p5), (6, sv_I p6), (7, sv_I p7), (8, sv_I x1), (9, sv_I (x1 - (2 : Int))), (10, sv_I r15), (11, sv_I l11_26), (12, sv_I r133), (13, sv_I s136)] [] Z) eS) hb
                    exact sv_less (lv := [(0, .ref 0), (1, sv_I p1), (2, sv_I p2), (3, sv_I p3), (4, sv_I p4), (5, sv_I p5), (6, sv_I p6), (7, sv_I p7), (8, sv_I x1), (9, sv_I (x1 - (2 : Int))), (10, sv_I r15), (11, sv_I l11_26), (12, sv_I r133), (13, sv_I s136)]) (sv_Sub_cons rfl (sv_Sub_cons rfl (sv_Sub_cons rfl (sv_Sub_cons rfl (sv_Sub_cons rfl (sv_Sub_cons rfl (sv_Sub_cons rfl (sv_Sub_cons rfl (sv_Sub_cons rfl (sv_Sub_cons rfl (sv_Sub_cons rfl (sv_Sub_cons rfl (sv_Sub_cons rfl (sv_Sub_cons rfl sv_Sub_nil)))))))))))))) hb
                  · have h := h.2 (hc)
                    refine sv_aload_n hM dX12_enterCode_277 rfl rfl ?_
                    refine sv_iload hM dX12_enterCode_278 rfl rfl ?_
                    refine sv_iload hM dX12_enterCode_280 rfl rfl ?_
                    refine sv_iconst (d := (1 : Int)) hM dX12_enterCode_282 rfl rfl ?_
                    refine sv_iadd hM dX12_enterCode_283 rfl ?_
                    obtain ⟨o172, h⟩ := h
                    refine sv_callV hM dX12_enterCode_284 sm_iv_1081 (by decide) (sm_a0 _) rfl rfl (Nat.le_of_ble_eq_true rfl) sm_h216 (Nat.le_of_ble_eq_true rfl) (Nat.le_of_ble_eq_true rfl) (F' := 0) (Nat.le_of_ble_eq_true rfl) rfl (t_addLabel r133 (x1 + (1 : Int)) (sv_sts (sv_sts (sv_sts (sv_sts (sv_sts S [68, 69, 70, 81, 82, 83, 84, 85, 86, 76, 77] g5) [85, 86] g17) [68, 69, 70] g25) [68, 69, 70] g129) [69, 70] g165) ok166 hr133 o172 o164) (fun v S1 hq => ?_)
                    obtain ⟨rfl, ok174, md175, hpo176⟩ := hq
                    obtain ⟨g173, rfl⟩ : ∃ g, S1 = sv_sts (sv_sts (sv_sts (sv_sts (sv_sts (sv_sts S [68, 69, 70, 81, 82, 83, 84, 85, 86, 76, 77] g5) [85, 86] g17) [68, 69, 70] g25) [68, 69, 70] g129) [69, 70] g165) [69, 70] g := ⟨_, md175.eq⟩
                    show sv_T sm_XS sm_cs sm_L sm_sh 4 (q_enterCode p1 p2 p3 p4 p5 p6 p7 S) 286 287 [(0, .ref 0), (1, sv_I p1), (2, sv_I p2), (3, sv_I p3), (4, sv_I p4), (5, sv_I p5), (6, sv_I p6), (7, sv_I p7), (8, sv_I x1), (9, sv_I (x1 - (2 : Int))), (10, sv_I r15), (11, sv_I l11_26), (12, sv_I r133), (13, sv_I s136)] [] (sv_sts (sv_sts (sv_sts (sv_sts (sv_sts (sv_sts S [68, 69, 70, 81, 82, 83, 84, 85, 86, 76, 77] g5) [85, 86] g17) [68, 69, 70] g25) [68, 69, 70] g129) [69, 70] g165) [69, 70] g173)
                    have md177 : sv_mod [68, 69, 70, 81, 82, 83, 84, 85, 86, 71, 74, 75, 1127, 78, 79, 80, 72, 76, 77, 1143, 1144, 5, 1011, 1150, 1149, 1145, 1113, 1111, 1112, 1100031] S (sv_sts (sv_sts (sv_sts (sv_sts (sv_sts (sv_sts S [68, 69, 70, 81, 82, 83, 84, 85, 86, 76, 77] g5) [85, 86] g17) [68, 69, 70] g25) [68, 69, 70] g129) [69, 70] g165) [69, 70] g173) := sv_mod.sts md169 (by decide)
                    have md178 : sv_mod [68, 69, 70] (sv_sts (sv_sts S [68, 69, 70, 81, 82, 83, 84, 85, 86, 76, 77] g5) [85, 86] g17) (sv_sts (sv_sts (sv_sts (sv_sts (sv_sts (sv_sts S [68, 69, 70, 81, 82, 83, 84, 85, 86, 76, 77] g5) [85, 86] g17) [68, 69, 70] g25) [68, 69, 70] g129) [69, 70] g165) [69, 70] g173) := sv_mod.sts md170 (by decide)
                    have md179 : sv_mod [68, 69, 70] (sv_sts (sv_sts (sv_sts (sv_sts S [68, 69, 70, 81, 82, 83, 84, 85, 86, 76, 77] g5) [85, 86] g17) [68, 69, 70] g25) [68, 69, 70] g129) (sv_sts (sv_sts (sv_sts (sv_sts (sv_sts (sv_sts S [68, 69, 70, 81, 82, 83, 84, 85, 86, 76, 77] g5) [85, 86] g17) [68, 69, 70] g25) [68, 69, 70] g129) [69, 70] g165) [69, 70] g173) := sv_mod.sts md171 (by decide)
                    have h := h g173 hpo176
                    refine sv_goto hM dX12_enterCode_287 (pc' := 297) rfl ?_
                    have eS := sv_mod.eq md179
                    have hb := J145 (sv_sts (sv_sts (sv_sts (sv_sts (sv_sts (sv_sts S [68, 69, 70, 81, 82, 83, 84, 85, 86, 76, 77] g5) [85, 86] g17) [68, 69, 70] g25) [68, 69, 70] g129) [69, 70] g165) [69, 70] g173) (by rw [← eS]; exact ok174) h
                    have hb : sv_T sm_XS sm_cs sm_L sm_sh 4 (q_enterCode p1 p2 p3 p4 p5 p6 p7 S) 286 297 [(0, .ref 0), (1, sv_I p1), (2, sv_I p2), (3, sv_I p3), (4, sv_I p4), (5, sv_I p5), (6, sv_I p6), (7, sv_I p7), (8, sv_I x1), (9, sv_I (x1 - (2 : Int))), (10, sv_I r15), (11, sv_I l11_26), (12, sv_I r133), (13, sv_I s136)] [] (sv_sts (sv_sts (sv_sts (sv_sts (sv_sts (sv_sts S [68, 69, 70, 81, 82, 83, 84, 85, 86, 76, 77] g5) [85, 86] g17) [68, 69, 70] g25) [68, 69, 70] g129) [69, 70] g165) [69, 70] g173) := Eq.mpr (congrArg (fun Z => sv_T sm_XS sm_cs sm_L sm_sh 4 (q_enterCode p1 p2 p3 p4 p5 p6 p7 S) 286 297 [(0, .ref 0), (1, sv_I p1), (2, sv_I p2), (3, sv_I p3), (4, sv_I p4), (5, sv_I p5), (6, sv_I p6), (7, sv_I p7), (8, sv_I x1), (9, sv_I (x1 - (2 : Int))), (10, sv_I r15), (11, sv_I l11_26), (12, sv_I r133), (13, sv_I s136)] [] Z) eS) hb
                    exact sv_less (lv := [(0, .ref 0), (1, sv_I p1), (2, sv_I p2), (3, sv_I p3), (4, sv_I p4), (5, sv_I p5), (6, sv_I p6), (7, sv_I p7), (8, sv_I x1), (9, sv_I (x1 - (2 : Int))), (10, sv_I r15), (11, sv_I l11_26), (12, sv_I r133), (13, sv_I s136)]) (sv_Sub_cons rfl (sv_Sub_cons rfl (sv_Sub_cons rfl (sv_Sub_cons rfl (sv_Sub_cons rfl (sv_Sub_cons rfl (sv_Sub_cons rfl (sv_Sub_cons rfl (sv_Sub_cons rfl (sv_Sub_cons rfl (sv_Sub_cons rfl (sv_Sub_cons rfl (sv_Sub_cons rfl (sv_Sub_cons rfl sv_Sub_nil)))))))))))))) hb
            · have h := h.2 (hc)
              refine sv_iload hM dX12_enterCode_228 rfl rfl ?_
              refine sv_iload hM dX12_enterCode_230 rfl rfl ?_
              refine sv_icmp_ge hM dX12_enterCode_232 hl11_26 hp6 (t := 256) rfl rfl (fun hc => ?_) (fun hc => ?_)
              · have h := h.1 (hc)
                refine sv_iload hM dX12_enterCode_256 rfl rfl ?_
                refine sv_cond_eq hM dX12_enterCode_258 hs136 (t := 290) rfl rfl (fun hc => ?_) (fun hc => ?_)
                · have h := h.1 (hc)
                  refine sv_aload_n hM dX12_enterCode_290 rfl rfl ?_
                  refine sv_iload hM dX12_enterCode_291 rfl rfl ?_
                  refine sv_iconst (d := (1 : Int)) hM dX12_enterCode_293 rfl rfl ?_
                  obtain ⟨o180, h⟩ := h
                  refine sv_callV hM dX12_enterCode_294 sm_iv_1072 (by decide) (sm_a0 _) rfl rfl (Nat.le_of_ble_eq_true rfl) sm_h213 (Nat.le_of_ble_eq_true rfl) (Nat.le_of_ble_eq_true rfl) (F' := 2) (Nat.le_of_ble_eq_true rfl) rfl (t_addSort r133 (1 : Int) (sv_sts (sv_sts (sv_sts (sv_sts S [68, 69, 70, 81, 82, 83, 84, 85, 86, 76, 77] g5) [85, 86] g17) [68, 69, 70] g25) [68, 69, 70] g129) ok130 hr133 (⟨by decide, by decide⟩ : sv_R (1 : Int)) o180) (fun v S1 hq => ?_)
                  obtain ⟨rfl, ok182, md183, hpo184⟩ := hq
                  obtain ⟨g181, rfl⟩ : ∃ g, S1 = sv_sts (sv_sts (sv_sts (sv_sts (sv_sts S [68, 69, 70, 81, 82, 83, 84, 85, 86, 76, 77] g5) [85, 86] g17) [68, 69, 70] g25) [68, 69, 70] g129) [68, 69, 70] g := ⟨_, md183.eq⟩
                  show sv_T sm_XS sm_cs sm_L sm_sh 4 (q_enterCode p1 p2 p3 p4 p5 p6 p7 S) 286 297 [(0, .ref 0), (1, sv_I p1), (2, sv_I p2), (3, sv_I p3), (4, sv_I p4), (5, sv_I p5), (6, sv_I p6), (7, sv_I p7), (8, sv_I x1), (9, sv_I (x1 - (2 : Int))), (10, sv_I r15), (11, sv_I l11_26), (12, sv_I r133), (13, sv_I s136)] [] (sv_sts (sv_sts (sv_sts (sv_sts (sv_sts S [68, 69, 70, 81, 82, 83, 84, 85, 86, 76, 77] g5) [85, 86] g17) [68, 69, 70] g25) [68, 69, 70] g129) [68, 69, 70] g181)
                  have md185 : sv_mod [68, 69, 70, 81, 82, 83, 84, 85, 86, 71, 74, 75, 1127, 78, 79, 80, 72, 76, 77, 1143, 1144, 5, 1011, 1150, 1149, 1145, 1113, 1111, 1112, 1100031] S (sv_sts (sv_sts (sv_sts (sv_sts (sv_sts S [68, 69, 70, 81, 82, 83, 84, 85, 86, 76, 77] g5) [85, 86] g17) [68, 69, 70] g25) [68, 69, 70] g129) [68, 69, 70] g181) := sv_mod.sts md134 (by decide)
                  have md186 : sv_mod [68, 69, 70] (sv_sts (sv_sts S [68, 69, 70, 81, 82, 83, 84, 85, 86, 76, 77] g5) [85, 86] g17) (sv_sts (sv_sts (sv_sts (sv_sts (sv_sts S [68, 69, 70, 81, 82, 83, 84, 85, 86, 76, 77] g5) [85, 86] g17) [68, 69, 70] g25) [68, 69, 70] g129) [68, 69, 70] g181) := sv_mod.sts md135 (by decide)
                  have md187 : sv_mod [68, 69, 70] (sv_sts (sv_sts (sv_sts (sv_sts S [68, 69, 70, 81, 82, 83, 84, 85, 86, 76, 77] g5) [85, 86] g17) [68, 69, 70] g25) [68, 69, 70] g129) (sv_sts (sv_sts (sv_sts (sv_sts (sv_sts S [68, 69, 70, 81, 82, 83, 84, 85, 86, 76, 77] g5) [85, 86] g17) [68, 69, 70] g25) [68, 69, 70] g129) [68, 69, 70] g181) := sv_mod.sts (sv_mod.rf (l := [68, 69, 70]) (S := (sv_sts (sv_sts (sv_sts (sv_sts S [68, 69, 70, 81, 82, 83, 84, 85, 86, 76, 77] g5) [85, 86] g17) [68, 69, 70] g25) [68, 69, 70] g129))) (by decide)
                  have h := h g181 hpo184
                  have eS := sv_mod.eq md187
                  have hb := J145 (sv_sts (sv_sts (sv_sts (sv_sts (sv_sts S [68, 69, 70, 81, 82, 83, 84, 85, 86, 76, 77] g5) [85, 86] g17) [68, 69, 70] g25) [68, 69, 70] g129) [68, 69, 70] g181) (by rw [← eS]; exact ok182) h
                  have hb : sv_T sm_XS sm_cs sm_L sm_sh 4 (q_enterCode p1 p2 p3 p4 p5 p6 p7 S) 286 297 [(0, .ref 0), (1, sv_I p1), (2, sv_I p2), (3, sv_I p3), (4, sv_I p4), (5, sv_I p5), (6, sv_I p6), (7, sv_I p7), (8, sv_I x1), (9, sv_I (x1 - (2 : Int))), (10, sv_I r15), (11, sv_I l11_26), (12, sv_I r133), (13, sv_I s136)] [] (sv_sts (sv_sts (sv_sts (sv_sts (sv_sts S [68, 69, 70, 81, 82, 83, 84, 85, 86, 76, 77] g5) [85, 86] g17) [68, 69, 70] g25) [68, 69, 70] g129) [68, 69, 70] g181) := Eq.mpr (congrArg (fun Z => sv_T sm_XS sm_cs sm_L sm_sh 4 (q_enterCode p1 p2 p3 p4 p5 p6 p7 S) 286 297 [(0, .ref 0), (1, sv_I p1), (2, sv_I p2), (3, sv_I p3), (4, sv_I p4), (5, sv_I p5), (6, sv_I p6), (7, sv_I p7), (8, sv_I x1), (9, sv_I (x1 - (2 : Int))), (10, sv_I r15), (11, sv_I l11_26), (12, sv_I r133), (13, sv_I s136)] [] Z) eS) hb
                  exact sv_less (lv := [(0, .ref 0), (1, sv_I p1), (2, sv_I p2), (3, sv_I p3), (4, sv_I p4), (5, sv_I p5), (6, sv_I p6), (7, sv_I p7), (8, sv_I x1), (9, sv_I (x1 - (2 : Int))), (10, sv_I r15), (11, sv_I l11_26), (12, sv_I r133), (13, sv_I s136)]) (sv_Sub_cons rfl (sv_Sub_cons rfl (sv_Sub_cons rfl (sv_Sub_cons rfl (sv_Sub_cons rfl (sv_Sub_cons rfl (sv_Sub_cons rfl (sv_Sub_cons rfl (sv_Sub_cons rfl (sv_Sub_cons rfl (sv_Sub_cons rfl (sv_Sub_cons rfl (sv_Sub_cons rfl (sv_Sub_cons rfl sv_Sub_nil)))))))))))))) hb
                · have h := h.2 (hc)
                  refine sv_iload_n hM dX12_enterCode_261 rfl rfl ?_
                  refine sv_cond_eq hM dX12_enterCode_262 (sv_R01 hp2) (t := 273) rfl rfl (fun hc => ?_) (fun hc => ?_)
                  · have h := h.1 (hc)
                    refine sv_iload_n hM dX12_enterCode_273 rfl rfl ?_
                    refine sv_cond_eq hM dX12_enterCode_274 (sv_R01 hp3) (t := 297) rfl rfl (fun hc => ?_) (fun hc => ?_)
                    · have h := h.1 (hc)
                      have eS := sv_mod.eq (sv_mod.rf (l := [68, 69, 70]) (S := (sv_sts (sv_sts (sv_sts (sv_sts S [68, 69, 70, 81, 82, 83, 84, 85, 86, 76, 77] g5) [85, 86] g17) [68, 69, 70] g25) [68, 69, 70] g129)))
                      have hb := J145 (sv_sts (sv_sts (sv_sts (sv_sts S [68, 69, 70, 81, 82, 83, 84, 85, 86, 76, 77] g5) [85, 86] g17) [68, 69, 70] g25) [68, 69, 70] g129) (by rw [← eS]; exact ok130) h
                      have hb : sv_T sm_XS sm_cs sm_L sm_sh 4 (q_enterCode p1 p2 p3 p4 p5 p6 p7 S) 286 297 [(0, .ref 0), (1, sv_I p1), (2, sv_I p2), (3, sv_I p3), (4, sv_I p4), (5, sv_I p5), (6, sv_I p6), (7, sv_I p7), (8, sv_I x1), (9, sv_I (x1 - (2 : Int))), (10, sv_I r15), (11, sv_I l11_26), (12, sv_I r133), (13, sv_I s136)] [] (sv_sts (sv_sts (sv_sts (sv_sts S [68, 69, 70, 81, 82, 83, 84, 85, 86, 76, 77] g5) [85, 86] g17) [68, 69, 70] g25) [68, 69, 70] g129) := Eq.mpr (congrArg (fun Z => sv_T sm_XS sm_cs sm_L sm_sh 4 (q_enterCode p1 p2 p3 p4 p5 p6 p7 S) 286 297 [(0, .ref 0), (1, sv_I p1), (2, sv_I p2), (3, sv_I p3), (4, sv_I p4), (5, sv_I p5), (6, sv_I p6), (7, sv_I p7), (8, sv_I x1), (9, sv_I (x1 - (2 : Int))), (10, sv_I r15), (11, sv_I l11_26), (12, sv_I r133), (13, sv_I s136)] [] Z) eS) hb
                      exact sv_less (lv := [(0, .ref 0), (1, sv_I p1), (2, sv_I p2), (3, sv_I p3), (4, sv_I p4), (5, sv_I p5), (6, sv_I p6), (7, sv_I p7), (8, sv_I x1), (9, sv_I (x1 - (2 : Int))), (10, sv_I r15), (11, sv_I l11_26), (12, sv_I r133), (13, sv_I s136)]) (sv_Sub_cons rfl (sv_Sub_cons rfl (sv_Sub_cons rfl (sv_Sub_cons rfl (sv_Sub_cons rfl (sv_Sub_cons rfl (sv_Sub_cons rfl (sv_Sub_cons rfl (sv_Sub_cons rfl (sv_Sub_cons rfl (sv_Sub_cons rfl (sv_Sub_cons rfl (sv_Sub_cons rfl (sv_Sub_cons rfl sv_Sub_nil)))))))))))))) hb
                    · have h := h.2 (hc)
                      refine sv_aload_n hM dX12_enterCode_277 rfl rfl ?_
                      refine sv_iload hM dX12_enterCode_278 rfl rfl ?_
                      refine sv_iload hM dX12_enterCode_280 rfl rfl ?_
                      refine sv_iconst (d := (1 : Int)) hM dX12_enterCode_282 rfl rfl ?_
                      refine sv_iadd hM dX12_enterCode_283 rfl ?_
                      obtain ⟨o188, h⟩ := h
                      obtain ⟨o189, h⟩ := h
                      refine sv_callV hM dX12_enterCode_284 sm_iv_1081 (by decide) (sm_a0 _) rfl rfl (Nat.le_of_ble_eq_true rfl) sm_h216 (Nat.le_of_ble_eq_true rfl) (Nat.le_of_ble_eq_true rfl) (F' := 0) (Nat.le_of_ble_eq_true rfl) rfl (t_addLabel r133 (x1 + (1 : Int)) (sv_sts (sv_sts (sv_sts (sv_sts S [68, 69, 70, 81, 82, 83, 84, 85, 86, 76, 77] g5) [85, 86] g17) [68, 69, 70] g25) [68, 69, 70] g129) ok130 hr133 o188 o189) (fun v S1 hq => ?_)
                      obtain ⟨rfl, ok191, md192, hpo193⟩ := hq
                      obtain ⟨g190, rfl⟩ : ∃ g, S1 = sv_sts (sv_sts (sv_sts (sv_sts (sv_sts S [68, 69, 70, 81, 82, 83, 84, 85, 86, 76, 77] g5) [85, 86] g17) [68, 69, 70] g25) [68, 69, 70] g129) [69, 70] g := ⟨_, md192.eq⟩
                      show sv_T sm_XS sm_cs sm_L sm_sh 4 (q_enterCode p1 p2 p3 p4 p5 p6 p7 S) 286 287 [(0, .ref 0), (1, sv_I p1), (2, sv_I p2), (3, sv_I p3), (4, sv_I p4), (5, sv_I p5), (6, sv_I p6), (7, sv_I p7), (8, sv_I x1), (9, sv_I (x1 - (2 : Int))), (10, sv_I r15), (11, sv_I l11_26), (12, sv_I r133), (13, sv_I s136)] [] (sv_sts (sv_sts (sv_sts (sv_sts (sv_sts S [68, 69, 70, 81, 82, 83, 84, 85, 86, 76, 77] g5) [85, 86] g17) [68, 69, 70] g25) [68, 69, 70] g129) [69, 70] g190)
                      have md194 : sv_mod [68, 69, 70, 81, 82, 83, 84, 85, 86, 71, 74, 75, 1127, 78, 79, 80, 72, 76, 77, 1143, 1144, 5, 1011, 1150, 1149, 1145, 1113, 1111, 1112, 1100031] S (sv_sts (sv_sts (sv_sts (sv_sts (sv_sts S [68, 69, 70, 81, 82, 83, 84, 85, 86, 76, 77] g5) [85, 86] g17) [68, 69, 70] g25) [68, 69, 70] g129) [69, 70] g190) := sv_mod.sts md134 (by decide)
                      have md195 : sv_mod [68, 69, 70] (sv_sts (sv_sts S [68, 69, 70, 81, 82, 83, 84, 85, 86, 76, 77] g5) [85, 86] g17) (sv_sts (sv_sts (sv_sts (sv_sts (sv_sts S [68, 69, 70, 81, 82, 83, 84, 85, 86, 76, 77] g5) [85, 86] g17) [68, 69, 70] g25) [68, 69, 70] g129) [69, 70] g190) := sv_mod.sts md135 (by decide)
                      have md196 : sv_mod [68, 69, 70] (sv_sts (sv_sts (sv_sts (sv_sts S [68, 69, 70, 81, 82, 83, 84, 85, 86, 76, 77] g5) [85, 86] g17) [68, 69, 70] g25) [68, 69, 70] g129) (sv_sts (sv_sts (sv_sts (sv_sts (sv_sts S [68, 69, 70, 81, 82, 83, 84, 85, 86, 76, 77] g5) [85, 86] g17) [68, 69, 70] g25) [68, 69, 70] g129) [69, 70] g190) := sv_mod.sts (sv_mod.rf (l := [68, 69, 70]) (S := (sv_sts (sv_sts (sv_sts (sv_sts S [68, 69, 70, 81, 82, 83, 84, 85, 86, 76, 77] g5) [85, 86] g17) [68, 69, 70] g25) [68, 69, 70] g129))) (by decide)
                      have h := h g190 hpo193
                      refine sv_goto hM dX12_enterCode_287 (pc' := 297) rfl ?_
                      have eS := sv_mod.eq md196
                      have hb := J145 (sv_sts (sv_sts (sv_sts (sv_sts (sv_sts S [68, 69, 70, 81, 82, 83, 84, 85, 86, 76, 77] g5) [85, 86] g17) [68, 69, 70] g25) [68, 69, 70] g129) [69, 70] g190) (by rw [← eS]; exact ok191) h
                      have hb : sv_T sm_XS sm_cs sm_L sm_sh 4 (q_enterCode p1 p2 p3 p4 p5 p6 p7 S) 286 297 [(0, .ref 0), (1, sv_I p1), (2, sv_I p2), (3, sv_I p3), (4, sv_I p4), (5, sv_I p5), (6, sv_I p6), (7, sv_I p7), (8, sv_I x1), (9, sv_I (x1 - (2 : Int))), (10, sv_I r15), (11, sv_I l11_26), (12, sv_I r133), (13, sv_I s136)] [] (sv_sts (sv_sts (sv_sts (sv_sts (sv_sts S [68, 69, 70, 81, 82, 83, 84, 85, 86, 76, 77] g5) [85, 86] g17) [68, 69, 70] g25) [68, 69, 70] g129) [69, 70] g190) := Eq.mpr (congrArg (fun Z => sv_T sm_XS sm_cs sm_L sm_sh 4 (q_enterCode p1 p2 p3 p4 p5 p6 p7 S) 286 297 [(0, .ref 0), (1, sv_I p1), (2, sv_I p2), (3, sv_I p3), (4, sv_I p4), (5, sv_I p5), (6, sv_I p6), (7, sv_I p7), (8, sv_I x1), (9, sv_I (x1 - (2 : Int))), (10, sv_I r15), (11, sv_I l11_26), (12, sv_I r133), (13, sv_I s136)] [] Z) eS) hb
                      exact sv_less (lv := [(0, .ref 0), (1, sv_I p1), (2, sv_I p2), (3, sv_I p3), (4, sv_I p4), (5, sv_I p5), (6, sv_I p6), (7, sv_I p7), (8, sv_I x1), (9, sv_I (x1 - (2 : Int))), (10, sv_I r15), (11, sv_I l11_26), (12, sv_I r133), (13, sv_I s136)]) (sv_Sub_cons rfl (sv_Sub_cons rfl (sv_Sub_cons rfl (sv_Sub_cons rfl (sv_Sub_cons rfl (sv_Sub_cons rfl (sv_Sub_cons rfl (sv_Sub_cons rfl (sv_Sub_cons rfl (sv_Sub_cons rfl (sv_Sub_cons rfl (sv_Sub_cons rfl (sv_Sub_cons rfl (sv_Sub_cons rfl sv_Sub_nil)))))))))))))) hb
                  · have h := h.2 (hc)
                    refine sv_aload_n hM dX12_enterCode_265 rfl rfl ?_
                    refine sv_iload hM dX12_enterCode_266 rfl rfl ?_
                    refine sv_iload hM dX12_enterCode_268 rfl rfl ?_
                    obtain ⟨o197, h⟩ := h
                    refine sv_callV hM dX12_enterCode_270 sm_iv_1081 (by decide) (sm_a0 _) rfl rfl (Nat.le_of_ble_eq_true rfl) sm_h216 (Nat.le_of_ble_eq_true rfl) (Nat.le_of_ble_eq_true rfl) (F' := 0) (Nat.le_of_ble_eq_true rfl) rfl (t_addLabel r133 x1 (sv_sts (sv_sts (sv_sts (sv_sts S [68, 69, 70, 81, 82, 83, 84, 85, 86, 76, 77] g5) [85, 86] g17) [68, 69, 70] g25) [68, 69, 70] g129) ok130 hr133 o16 o197) (fun v S1 hq => ?_)
                    obtain ⟨rfl, ok199, md200, hpo201⟩ := hq
                    obtain ⟨g198, rfl⟩ : ∃ g, S1 = sv_sts (sv_sts (sv_sts (sv_sts (sv_sts S [68, 69, 70, 81, 82, 83, 84, 85, 86, 76, 77] g5) [85, 86] g17) [68, 69, 70] g25) [68, 69, 70] g129) [69, 70] g := ⟨_, md200.eq⟩
                    show sv_T sm_XS sm_cs sm_L sm_sh 4 (q_enterCode p1 p2 p3 p4 p5 p6 p7 S) 286 273 [(0, .ref 0), (1, sv_I p1), (2, sv_I p2), (3, sv_I p3), (4, sv_I p4), (5, sv_I p5), (6, sv_I p6), (7, sv_I p7), (8, sv_I x1), (9, sv_I (x1 - (2 : Int))), (10, sv_I r15), (11, sv_I l11_26), (12, sv_I r133), (13, sv_I s136)] [] (sv_sts (sv_sts (sv_sts (sv_sts (sv_sts S [68, 69, 70, 81, 82, 83, 84, 85, 86, 76, 77] g5) [85, 86] g17) [68, 69, 70] g25) [68, 69, 70] g129) [69, 70] g198)
                    have md202 : sv_mod [68, 69, 70, 81, 82, 83, 84, 85, 86, 71, 74, 75, 1127, 78, 79, 80, 72, 76, 77, 1143, 1144, 5, 1011, 1150, 1149, 1145, 1113, 1111, 1112, 1100031] S (sv_sts (sv_sts (sv_sts (sv_sts (sv_sts S [68, 69, 70, 81, 82, 83, 84, 85, 86, 76, 77] g5) [85, 86] g17) [68, 69, 70] g25) [68, 69, 70] g129) [69, 70] g198) := sv_mod.sts md134 (by decide)
                    have md203 : sv_mod [68, 69, 70] (sv_sts (sv_sts S [68, 69, 70, 81, 82, 83, 84, 85, 86, 76, 77] g5) [85, 86] g17) (sv_sts (sv_sts (sv_sts (sv_sts (sv_sts S [68, 69, 70, 81, 82, 83, 84, 85, 86, 76, 77] g5) [85, 86] g17) [68, 69, 70] g25) [68, 69, 70] g129) [69, 70] g198) := sv_mod.sts md135 (by decide)
                    have md204 : sv_mod [68, 69, 70] (sv_sts (sv_sts (sv_sts (sv_sts S [68, 69, 70, 81, 82, 83, 84, 85, 86, 76, 77] g5) [85, 86] g17) [68, 69, 70] g25) [68, 69, 70] g129) (sv_sts (sv_sts (sv_sts (sv_sts (sv_sts S [68, 69, 70, 81, 82, 83, 84, 85, 86, 76, 77] g5) [85, 86] g17) [68, 69, 70] g25) [68, 69, 70] g129) [69, 70] g198) := sv_mod.sts (sv_mod.rf (l := [68, 69, 70]) (S := (sv_sts (sv_sts (sv_sts (sv_sts S [68, 69, 70, 81, 82, 83, 84, 85, 86, 76, 77] g5) [85, 86] g17) [68, 69, 70] g25) [68, 69, 70] g129))) (by decide)
                    have h := h g198 hpo201
                    refine sv_iload_n hM dX12_enterCode_273 rfl rfl ?_
                    refine sv_cond_eq hM dX12_enterCode_274 (sv_R01 hp3) (t := 297) rfl rfl (fun hc => ?_) (fun hc => ?_)
                    · have h := h.1 (hc)
                      have eS := sv_mod.eq md204
                      have hb := J145 (sv_sts (sv_sts (sv_sts (sv_sts (sv_sts S [68, 69, 70, 81, 82, 83, 84, 85, 86, 76, 77] g5) [85, 86] g17) [68, 69, 70] g25) [68, 69, 70] g129) [69, 70] g198) (by rw [← eS]; exact ok199) h
                      have hb : sv_T sm_XS sm_cs sm_L sm_sh 4 (q_enterCode p1 p2 p3 p4 p5 p6 p7 S) 286 297 [(0, .ref 0), (1, sv_I p1), (2, sv_I p2), (3, sv_I p3), (4, sv_I p4), (5, sv_I p5), (6, sv_I p6), (7, sv_I p7), (8, sv_I x1), (9, sv_I (x1 - (2 : Int))), (10, sv_I r15), (11, sv_I l11_26), (12, sv_I r133), (13, sv_I s136)] [] (sv_sts (sv_sts (sv_sts (sv_sts (sv_sts S [68, 69, 70, 81, 82, 83, 84, 85, 86, 76, 77] g5) [85, 86] g17) [68, 69, 70] g25) [68, 69, 70] g129) [69, 70] g198) := Eq.mpr (congrArg (fun Z => sv_T sm_XS sm_cs sm_L sm_sh 4 (q_enterCode p1 p2 p3 p4 p5 p6 p7 S) 286 297 [(0, .ref 0), (1, sv_I p1), (2, sv_I p2), (3, sv_I p3), (4, sv_I p4), (5, sv_I p5), (6, sv_I p6), (7, sv_I p7), (8, sv_I x1), (9, sv_I (x1 - (2 : Int))), (10, sv_I r15), (11, sv_I l11_26), (12, sv_I r133), (13, sv_I s136)] [] Z) eS) hb
                      exact sv_less (lv := [(0, .ref 0), (1, sv_I p1), (2, sv_I p2), (3, sv_I p3), (4, sv_I p4), (5, sv_I p5), (6, sv_I p6), (7, sv_I p7), (8, sv_I x1), (9, sv_I (x1 - (2 : Int))), (10, sv_I r15), (11, sv_I l11_26), (12, sv_I r133), (13, sv_I s136)]) (sv_Sub_cons rfl (sv_Sub_cons rfl (sv_Sub_cons rfl (sv_Sub_cons rfl (sv_Sub_cons rfl (sv_Sub_cons rfl (sv_Sub_cons rfl (sv_Sub_cons rfl (sv_Sub_cons rfl (sv_Sub_cons rfl (sv_Sub_cons rfl (sv_Sub_cons rfl (sv_Sub_cons rfl (sv_Sub_cons rfl sv_Sub_nil)))))))))))))) hb
                    · have h := h.2 (hc)
                      refine sv_aload_n hM dX12_enterCode_277 rfl rfl ?_
                      refine sv_iload hM dX12_enterCode_278 rfl rfl ?_
                      refine sv_iload hM dX12_enterCode_280 rfl rfl ?_
                      refine sv_iconst (d := (1 : Int)) hM dX12_enterCode_282 rfl rfl ?_
                      refine sv_iadd hM dX12_enterCode_283 rfl ?_
                      obtain ⟨o205, h⟩ := h
                      refine sv_callV hM dX12_enterCode_284 sm_iv_1081 (by decide) (sm_a0 _) rfl rfl (Nat.le_of_ble_eq_true rfl) sm_h216 (Nat.le_of_ble_eq_true rfl) (Nat.le_of_ble_eq_true rfl) (F' := 0) (Nat.le_of_ble_eq_true rfl) rfl (t_addLabel r133 (x1 + (1 : Int)) (sv_sts (sv_sts (sv_sts (sv_sts (sv_sts S [68, 69, 70, 81, 82, 83, 84, 85, 86, 76, 77] g5) [85, 86] g17) [68, 69, 70] g25) [68, 69, 70] g129) [69, 70] g198) ok199 hr133 o205 o197) (fun v S1 hq => ?_)
                      obtain ⟨rfl, ok207, md208, hpo209⟩ := hq
                      obtain ⟨g206, rfl⟩ : ∃ g, S1 = sv_sts (sv_sts (sv_sts (sv_sts (sv_sts (sv_sts S [68, 69, 70, 81, 82, 83, 84, 85, 86, 76, 77] g5) [85, 86] g17) [68, 69, 70] g25) [68, 69, 70] g129) [69, 70] g198) [69, 70] g := ⟨_, md208.eq⟩
                      show sv_T sm_XS sm_cs sm_L sm_sh 4 (q_enterCode p1 p2 p3 p4 p5 p6 p7 S) 286 287 [(0, .ref 0), (1, sv_I p1), (2, sv_I p2), (3, sv_I p3), (4, sv_I p4), (5, sv_I p5), (6, sv_I p6), (7, sv_I p7), (8, sv_I x1), (9, sv_I (x1 - (2 : Int))), (10, sv_I r15), (11, sv_I l11_26), (12, sv_I r133), (13, sv_I s136)] [] (sv_sts (sv_sts (sv_sts (sv_sts (sv_sts (sv_sts S [68, 69, 70, 81, 82, 83, 84, 85, 86, 76, 77] g5) [85, 86] g17) [68, 69, 70] g25) [68, 69, 70] g129) [69, 70] g198) [69, 70] g206)
                      have md210 : sv_mod [68, 69, 70, 81, 82, 83, 84, 85, 86, 71, 74, 75, 1127, 78, 79, 80, 72, 76, 77, 1143, 1144, 5, 1011, 1150, 1149, 1145, 1113, 1111, 1112, 1100031] S (sv_sts (sv_sts (sv_sts (sv_sts (sv_sts (sv_sts S [68, 69, 70, 81, 82, 83, 84, 85, 86, 76, 77] g5) [85, 86] g17) [68, 69, 70] g25) [68, 69, 70] g129) [69, 70] g198) [69, 70] g206) := sv_mod.sts md202 (by decide)
                      have md211 : sv_mod [68, 69, 70] (sv_sts (sv_sts S [68, 69, 70, 81, 82, 83, 84, 85, 86, 76, 77] g5) [85, 86] g17) (sv_sts (sv_sts (sv_sts (sv_sts (sv_sts (sv_sts S [68, 69, 70, 81, 82, 83, 84, 85, 86, 76, 77] g5) [85, 86] g17) [68, 69, 70] g25) [68, 69, 70] g129) [69, 70] g198) [69, 70] g206) := sv_mod.sts md203 (by decide)
                      have md212 : sv_mod [68, 69, 70] (sv_sts (sv_sts (sv_sts (sv_sts S [68, 69, 70, 81, 82, 83, 84, 85, 86, 76, 77] g5) [85, 86] g17) [68, 69, 70] g25) [68, 69, 70] g129) (sv_sts (sv_sts (sv_sts (sv_sts (sv_sts (sv_sts S [68, 69, 70, 81, 82, 83, 84, 85, 86, 76, 77] g5) [85, 86] g17) [68, 69, 70] g25) [68, 69, 70] g129) [69, 70] g198) [69, 70] g206) := sv_mod.sts md204 (by decide)
                      have h := h g206 hpo209
                      refine sv_goto hM dX12_enterCode_287 (pc' := 297) rfl ?_
                      have eS := sv_mod.eq md212
                      have hb := J145 (sv_sts (sv_sts (sv_sts (sv_sts (sv_sts (sv_sts S [68, 69, 70, 81, 82, 83, 84, 85, 86, 76, 77] g5) [85, 86] g17) [68, 69, 70] g25) [68, 69, 70] g129) [69, 70] g198) [69, 70] g206) (by rw [← eS]; exact ok207) h
                      have hb : sv_T sm_XS sm_cs sm_L sm_sh 4 (q_enterCode p1 p2 p3 p4 p5 p6 p7 S) 286 297 [(0, .ref 0), (1, sv_I p1), (2, sv_I p2), (3, sv_I p3), (4, sv_I p4), (5, sv_I p5), (6, sv_I p6), (7, sv_I p7), (8, sv_I x1), (9, sv_I (x1 - (2 : Int))), (10, sv_I r15), (11, sv_I l11_26), (12, sv_I r133), (13, sv_I s136)] [] (sv_sts (sv_sts (sv_sts (sv_sts (sv_sts (sv_sts S [68, 69, 70, 81, 82, 83, 84, 85, 86, 76, 77] g5) [85, 86] g17) [68, 69, 70] g25) [68, 69, 70] g129) [69, 70] g198) [69, 70] g206) := Eq.mpr (congrArg (fun Z => sv_T sm_XS sm_cs sm_L sm_sh 4 (q_enterCode p1 p2 p3 p4 p5 p6 p7 S) 286 297 [(0, .ref 0), (1, sv_I p1), (2, sv_I p2), (3, sv_I p3), (4, sv_I p4), (5, sv_I p5), (6, sv_I p6), (7, sv_I p7), (8, sv_I x1), (9, sv_I (x1 - (2 : Int))), (10, sv_I r15), (11, sv_I l11_26), (12, sv_I r133), (13, sv_I s136)] [] Z) eS) hb
                      exact sv_less (lv := [(0, .ref 0), (1, sv_I p1), (2, sv_I p2), (3, sv_I p3), (4, sv_I p4), (5, sv_I p5), (6, sv_I p6), (7, sv_I p7), (8, sv_I x1), (9, sv_I (x1 - (2 : Int))), (10, sv_I r15), (11, sv_I l11_26), (12, sv_I r133), (13, sv_I s136)]) (sv_Sub_cons rfl (sv_Sub_cons rfl (sv_Sub_cons rfl (sv_Sub_cons rfl (sv_Sub_cons rfl (sv_Sub_cons rfl (sv_Sub_cons rfl (sv_Sub_cons rfl (sv_Sub_cons rfl (sv_Sub_cons rfl (sv_Sub_cons rfl (sv_Sub_cons rfl (sv_Sub_cons rfl (sv_Sub_cons rfl sv_Sub_nil)))))))))))))) hb
              · have h := h.2 (hc)
                refine sv_aload_n hM dX12_enterCode_235 rfl rfl ?_
                refine sv_aload_n hM dX12_enterCode_236 rfl rfl ?_
                refine sv_sipush (d := (639 : Int)) hM dX12_enterCode_237 rfl rfl ?_
                refine sv_iload hM dX12_enterCode_240 rfl rfl ?_
                refine sv_iload hM dX12_enterCode_242 rfl rfl ?_
                refine sv_iadd hM dX12_enterCode_244 rfl ?_
                obtain ⟨o213, h⟩ := h
                obtain ⟨o214, h⟩ := h
                refine sv_callV hM dX12_enterCode_245 sm_iv_1323 (by decide) (sm_a0 _) rfl rfl (Nat.le_of_ble_eq_true rfl) sm_h228 (Nat.le_of_ble_eq_true rfl) (Nat.le_of_ble_eq_true rfl) (F' := 0) (Nat.le_of_ble_eq_true rfl) rfl (t_onStack (639 : Int) (p5 + l11_26) (sv_sts (sv_sts (sv_sts (sv_sts S [68, 69, 70, 81, 82, 83, 84, 85, 86, 76, 77] g5) [85, 86] g17) [68, 69, 70] g25) [68, 69, 70] g129) ok130 (⟨by decide, by decide⟩ : sv_R (639 : Int)) o213 o214) (fun v S1 hq => ?_)
                obtain ⟨r219, rfl, hr219, ok216, md217, hpo218⟩ := hq
                obtain rfl : (sv_sts (sv_sts (sv_sts (sv_sts S [68, 69, 70, 81, 82, 83, 84, 85, 86, 76, 77] g5) [85, 86] g17) [68, 69, 70] g25) [68, 69, 70] g129) = S1 := (funext fun j => md217 j (by intro q; cases q)).symm
                show sv_T sm_XS sm_cs sm_L sm_sh 4 (q_enterCode p1 p2 p3 p4 p5 p6 p7 S) 286 248 [(0, .ref 0), (1, sv_I p1), (2, sv_I p2), (3, sv_I p3), (4, sv_I p4), (5, sv_I p5), (6, sv_I p6), (7, sv_I p7), (8, sv_I x1), (9, sv_I (x1 - (2 : Int))), (10, sv_I r15), (11, sv_I l11_26), (12, sv_I r133), (13, sv_I s136)] [sv_I r219, .ref 0] (sv_sts (sv_sts (sv_sts (sv_sts S [68, 69, 70, 81, 82, 83, 84, 85, 86, 76, 77] g5) [85, 86] g17) [68, 69, 70] g25) [68, 69, 70] g129)
                have h := h r219 hr219 hpo218
                refine sv_iload hM dX12_enterCode_248 rfl rfl ?_
                obtain ⟨o220, h⟩ := h
                refine sv_callV hM dX12_enterCode_250 sm_iv_1092 (by decide) (sm_a0 _) rfl rfl (Nat.le_of_ble_eq_true rfl) sm_h207 (Nat.le_of_ble_eq_true rfl) (Nat.le_of_ble_eq_true rfl) (F' := 0) (Nat.le_of_ble_eq_true rfl) rfl (t_copySet r219 r133 (sv_sts (sv_sts (sv_sts (sv_sts S [68, 69, 70, 81, 82, 83, 84, 85, 86, 76, 77] g5) [85, 86] g17) [68, 69, 70] g25) [68, 69, 70] g129) ok216 hr219 hr133 o220) (fun v S1 hq => ?_)
                obtain ⟨rfl, ok222, md223, hpo224⟩ := hq
                obtain ⟨g221, rfl⟩ : ∃ g, S1 = sv_sts (sv_sts (sv_sts (sv_sts (sv_sts S [68, 69, 70, 81, 82, 83, 84, 85, 86, 76, 77] g5) [85, 86] g17) [68, 69, 70] g25) [68, 69, 70] g129) [68, 69, 70] g := ⟨_, md223.eq⟩
                show sv_T sm_XS sm_cs sm_L sm_sh 4 (q_enterCode p1 p2 p3 p4 p5 p6 p7 S) 286 253 [(0, .ref 0), (1, sv_I p1), (2, sv_I p2), (3, sv_I p3), (4, sv_I p4), (5, sv_I p5), (6, sv_I p6), (7, sv_I p7), (8, sv_I x1), (9, sv_I (x1 - (2 : Int))), (10, sv_I r15), (11, sv_I l11_26), (12, sv_I r133), (13, sv_I s136)] [] (sv_sts (sv_sts (sv_sts (sv_sts (sv_sts S [68, 69, 70, 81, 82, 83, 84, 85, 86, 76, 77] g5) [85, 86] g17) [68, 69, 70] g25) [68, 69, 70] g129) [68, 69, 70] g221)
                have md225 : sv_mod [68, 69, 70, 81, 82, 83, 84, 85, 86, 71, 74, 75, 1127, 78, 79, 80, 72, 76, 77, 1143, 1144, 5, 1011, 1150, 1149, 1145, 1113, 1111, 1112, 1100031] S (sv_sts (sv_sts (sv_sts (sv_sts (sv_sts S [68, 69, 70, 81, 82, 83, 84, 85, 86, 76, 77] g5) [85, 86] g17) [68, 69, 70] g25) [68, 69, 70] g129) [68, 69, 70] g221) := sv_mod.sts md134 (by decide)
                have md226 : sv_mod [68, 69, 70] (sv_sts (sv_sts S [68, 69, 70, 81, 82, 83, 84, 85, 86, 76, 77] g5) [85, 86] g17) (sv_sts (sv_sts (sv_sts (sv_sts (sv_sts S [68, 69, 70, 81, 82, 83, 84, 85, 86, 76, 77] g5) [85, 86] g17) [68, 69, 70] g25) [68, 69, 70] g129) [68, 69, 70] g221) := sv_mod.sts md135 (by decide)
                have md227 : sv_mod [68, 69, 70] (sv_sts (sv_sts (sv_sts (sv_sts S [68, 69, 70, 81, 82, 83, 84, 85, 86, 76, 77] g5) [85, 86] g17) [68, 69, 70] g25) [68, 69, 70] g129) (sv_sts (sv_sts (sv_sts (sv_sts (sv_sts S [68, 69, 70, 81, 82, 83, 84, 85, 86, 76, 77] g5) [85, 86] g17) [68, 69, 70] g25) [68, 69, 70] g129) [68, 69, 70] g221) := sv_mod.sts (sv_mod.rf (l := [68, 69, 70]) (S := (sv_sts (sv_sts (sv_sts (sv_sts S [68, 69, 70, 81, 82, 83, 84, 85, 86, 76, 77] g5) [85, 86] g17) [68, 69, 70] g25) [68, 69, 70] g129))) (by decide)
                have h := h g221 hpo224
                refine sv_goto hM dX12_enterCode_253 (pc' := 297) rfl ?_
                have eS := sv_mod.eq md227
                have hb := J145 (sv_sts (sv_sts (sv_sts (sv_sts (sv_sts S [68, 69, 70, 81, 82, 83, 84, 85, 86, 76, 77] g5) [85, 86] g17) [68, 69, 70] g25) [68, 69, 70] g129) [68, 69, 70] g221) (by rw [← eS]; exact ok222) h
                have hb : sv_T sm_XS sm_cs sm_L sm_sh 4 (q_enterCode p1 p2 p3 p4 p5 p6 p7 S) 286 297 [(0, .ref 0), (1, sv_I p1), (2, sv_I p2), (3, sv_I p3), (4, sv_I p4), (5, sv_I p5), (6, sv_I p6), (7, sv_I p7), (8, sv_I x1), (9, sv_I (x1 - (2 : Int))), (10, sv_I r15), (11, sv_I l11_26), (12, sv_I r133), (13, sv_I s136)] [] (sv_sts (sv_sts (sv_sts (sv_sts (sv_sts S [68, 69, 70, 81, 82, 83, 84, 85, 86, 76, 77] g5) [85, 86] g17) [68, 69, 70] g25) [68, 69, 70] g129) [68, 69, 70] g221) := Eq.mpr (congrArg (fun Z => sv_T sm_XS sm_cs sm_L sm_sh 4 (q_enterCode p1 p2 p3 p4 p5 p6 p7 S) 286 297 [(0, .ref 0), (1, sv_I p1), (2, sv_I p2), (3, sv_I p3), (4, sv_I p4), (5, sv_I p5), (6, sv_I p6), (7, sv_I p7), (8, sv_I x1), (9, sv_I (x1 - (2 : Int))), (10, sv_I r15), (11, sv_I l11_26), (12, sv_I r133), (13, sv_I s136)] [] Z) eS) hb
                exact sv_less (lv := [(0, .ref 0), (1, sv_I p1), (2, sv_I p2), (3, sv_I p3), (4, sv_I p4), (5, sv_I p5), (6, sv_I p6), (7, sv_I p7), (8, sv_I x1), (9, sv_I (x1 - (2 : Int))), (10, sv_I r15), (11, sv_I l11_26), (12, sv_I r133), (13, sv_I s136)]) (sv_Sub_cons rfl (sv_Sub_cons rfl (sv_Sub_cons rfl (sv_Sub_cons rfl (sv_Sub_cons rfl (sv_Sub_cons rfl (sv_Sub_cons rfl (sv_Sub_cons rfl (sv_Sub_cons rfl (sv_Sub_cons rfl (sv_Sub_cons rfl (sv_Sub_cons rfl (sv_Sub_cons rfl (sv_Sub_cons rfl sv_Sub_nil)))))))))))))) hb
          have h := h.2
          refine sv_iload hM dX12_enterCode_169 rfl rfl ?_
          refine sv_aload_n hM dX12_enterCode_171 rfl rfl ?_
          refine sv_getA hM dX12_enterCode_172 sm_fl_71 (sm_a0 _) sm_k36 rfl ?_
          refine sv_iload_n hM dX12_enterCode_175 rfl rfl ?_
          have k229 : sv_R (S 20 p1) := sm_okI ok130 sm_r20 p1
          have h := h k229
          refine sv_iald hM dX12_enterCode_176 (sm_a20 _) (by decide) o32.1 o32.2 rfl (x := (S 20 p1)) rfl ?_
          refine sv_icmp_lt hM dX12_enterCode_177 hl11_26 k229 (t := 214) rfl rfl (fun hc => ?_) (fun hc => ?_)
          · have h := h.1 (hc)
            refine sv_iconst (d := (0 : Int)) hM dX12_enterCode_214 rfl rfl ?_
            have hb := J228 (0 : Int) (⟨by decide, by decide⟩ : sv_R (0 : Int)) h
            exact sv_less (lv := [(0, .ref 0), (1, sv_I p1), (2, sv_I p2), (3, sv_I p3), (4, sv_I p4), (5, sv_I p5), (6, sv_I p6), (7, sv_I p7), (8, sv_I x1), (9, sv_I (x1 - (2 : Int))), (10, sv_I r15), (11, sv_I l11_26), (12, sv_I r133)]) (sv_Sub_cons rfl (sv_Sub_cons rfl (sv_Sub_cons rfl (sv_Sub_cons rfl (sv_Sub_cons rfl (sv_Sub_cons rfl (sv_Sub_cons rfl (sv_Sub_cons rfl (sv_Sub_cons rfl (sv_Sub_cons rfl (sv_Sub_cons rfl (sv_Sub_cons rfl (sv_Sub_cons rfl sv_Sub_nil))))))))))))) hb
          · have h := h.2 (hc)
            refine sv_aload_n hM dX12_enterCode_180 rfl rfl ?_
            refine sv_getA hM dX12_enterCode_181 sm_fl_65 (sm_a0 _) sm_k34 rfl ?_
            refine sv_iload_n hM dX12_enterCode_184 rfl rfl ?_
            have k230 : (0 ≤ (S 18 p1) ∧ (S 18 p1) ≤ 1) := sm_okZ ok130 sm_r18 p1
            have h := h k230
            refine sv_zald hM dX12_enterCode_185 (sm_a18 _) (by decide) o32.1 o32.2 rfl (x := (S 18 p1)) rfl ?_
            refine sv_cond_ne hM dX12_enterCode_186 (sv_R01 k230) (t := 214) rfl rfl (fun hc => ?_) (fun hc => ?_)
            · have h := h.1 (hc)
              refine sv_iconst (d := (0 : Int)) hM dX12_enterCode_214 rfl rfl ?_
              have hb := J228 (0 : Int) (⟨by decide, by decide⟩ : sv_R (0 : Int)) h
              exact sv_less (lv := [(0, .ref 0), (1, sv_I p1), (2, sv_I p2), (3, sv_I p3), (4, sv_I p4), (5, sv_I p5), (6, sv_I p6), (7, sv_I p7), (8, sv_I x1), (9, sv_I (x1 - (2 : Int))), (10, sv_I r15), (11, sv_I l11_26), (12, sv_I r133)]) (sv_Sub_cons rfl (sv_Sub_cons rfl (sv_Sub_cons rfl (sv_Sub_cons rfl (sv_Sub_cons rfl (sv_Sub_cons rfl (sv_Sub_cons rfl (sv_Sub_cons rfl (sv_Sub_cons rfl (sv_Sub_cons rfl (sv_Sub_cons rfl (sv_Sub_cons rfl (sv_Sub_cons rfl sv_Sub_nil))))))))))))) hb
            · have h := h.2 (hc)
              refine sv_aload_n hM dX12_enterCode_189 rfl rfl ?_
              refine sv_getA hM dX12_enterCode_190 sm_fl_107 (sm_a0 _) sm_k57 rfl ?_
              refine sv_bipush (d := (100 : Int)) hM dX12_enterCode_193 rfl rfl ?_
              refine sv_iload_n hM dX12_enterCode_195 rfl rfl ?_
              refine sv_imul hM dX12_enterCode_196 rfl ?_
              refine sv_iload hM dX12_enterCode_197 rfl rfl ?_
              refine sv_iadd hM dX12_enterCode_199 rfl ?_
              refine sv_iald hM dX12_enterCode_200 (sm_a32 _) (by decide) o126.1 o126.2 rfl (x := (S 32 (((100 : Int) * p1) + l11_26))) rfl ?_
              refine sv_aload_n hM dX12_enterCode_201 rfl rfl ?_
              refine sv_getA hM dX12_enterCode_202 sm_fl_62 (sm_a0 _) sm_k33 rfl ?_
              refine sv_iload_n hM dX12_enterCode_205 rfl rfl ?_
              have k231 : sv_R (S 17 p1) := sm_okI ok130 sm_r17 p1
              have h := h k231
              refine sv_iald hM dX12_enterCode_206 (sm_a17 _) (by decide) o32.1 o32.2 rfl (x := (S 17 p1)) rfl ?_
              refine sv_icmp_ne hM dX12_enterCode_207 k127 k231 (t := 214) rfl rfl (fun hc => ?_) (fun hc => ?_)
              · have h := h.1 (hc)
                refine sv_iconst (d := (0 : Int)) hM dX12_enterCode_214 rfl rfl ?_
                have hb := J228 (0 : Int) (⟨by decide, by decide⟩ : sv_R (0 : Int)) h
                exact sv_less (lv := [(0, .ref 0), (1, sv_I p1), (2, sv_I p2), (3, sv_I p3), (4, sv_I p4), (5, sv_I p5), (6, sv_I p6), (7, sv_I p7), (8, sv_I x1), (9, sv_I (x1 - (2 : Int))), (10, sv_I r15), (11, sv_I l11_26), (12, sv_I r133)]) (sv_Sub_cons rfl (sv_Sub_cons rfl (sv_Sub_cons rfl (sv_Sub_cons rfl (sv_Sub_cons rfl (sv_Sub_cons rfl (sv_Sub_cons rfl (sv_Sub_cons rfl (sv_Sub_cons rfl (sv_Sub_cons rfl (sv_Sub_cons rfl (sv_Sub_cons rfl (sv_Sub_cons rfl sv_Sub_nil))))))))))))) hb
              · have h := h.2 (hc)
                refine sv_iconst (d := (1 : Int)) hM dX12_enterCode_210 rfl rfl ?_
                refine sv_goto hM dX12_enterCode_211 (pc' := 215) rfl ?_
                have hb := J228 (1 : Int) (⟨by decide, by decide⟩ : sv_R (1 : Int)) h
                exact sv_less (lv := [(0, .ref 0), (1, sv_I p1), (2, sv_I p2), (3, sv_I p3), (4, sv_I p4), (5, sv_I p5), (6, sv_I p6), (7, sv_I p7), (8, sv_I x1), (9, sv_I (x1 - (2 : Int))), (10, sv_I r15), (11, sv_I l11_26), (12, sv_I r133)]) (sv_Sub_cons rfl (sv_Sub_cons rfl (sv_Sub_cons rfl (sv_Sub_cons rfl (sv_Sub_cons rfl (sv_Sub_cons rfl (sv_Sub_cons rfl (sv_Sub_cons rfl (sv_Sub_cons rfl (sv_Sub_cons rfl (sv_Sub_cons rfl (sv_Sub_cons rfl (sv_Sub_cons rfl sv_Sub_nil))))))))))))) hb
      have eS := sv_mod.eq (sv_mod.rf (l := [68, 69, 70]) (S := (sv_sts (sv_sts S [68, 69, 70, 81, 82, 83, 84, 85, 86, 76, 77] g5) [85, 86] g17)))
      have hb := hJ ((0 : Int), (sv_sts (sv_sts S [68, 69, 70, 81, 82, 83, 84, 85, 86, 76, 77] g5) [85, 86] g17)) ⟨(⟨by decide, by decide⟩ : sv_R (0 : Int)), (by rw [← eS]; exact ok21), hin28⟩
      have hb : sv_T sm_XS sm_cs sm_L sm_sh 4 (q_enterCode p1 p2 p3 p4 p5 p6 p7 S) 286 138 [(0, .ref 0), (1, sv_I p1), (2, sv_I p2), (3, sv_I p3), (4, sv_I p4), (5, sv_I p5), (6, sv_I p6), (7, sv_I p7), (8, sv_I x1), (9, sv_I (x1 - (2 : Int))), (10, sv_I r15), (11, sv_I (0 : Int))] [] (sv_sts (sv_sts S [68, 69, 70, 81, 82, 83, 84, 85, 86, 76, 77] g5) [85, 86] g17) := Eq.mpr (congrArg (fun Z => sv_T sm_XS sm_cs sm_L sm_sh 4 (q_enterCode p1 p2 p3 p4 p5 p6 p7 S) 286 138 [(0, .ref 0), (1, sv_I p1), (2, sv_I p2), (3, sv_I p3), (4, sv_I p4), (5, sv_I p5), (6, sv_I p6), (7, sv_I p7), (8, sv_I x1), (9, sv_I (x1 - (2 : Int))), (10, sv_I r15), (11, sv_I (0 : Int))] [] Z) eS) hb
      exact hb
    · have h := h.2 (hc)
      refine sv_iload hM dX12_enterCode_50 rfl rfl ?_
      refine sv_iload hM dX12_enterCode_52 rfl rfl ?_
      refine sv_icmp_ne hM dX12_enterCode_54 hl11_18 o16 (t := 64) rfl rfl (fun hc => ?_) (fun hc => ?_)
      · have h := h.1 (hc)
        refine sv_iload_n hM dX12_enterCode_64 rfl rfl ?_
        refine sv_cond_ne hM dX12_enterCode_65 (sv_R01 hp3) (t := 71) rfl rfl (fun hc => ?_) (fun hc => ?_)
        · have h := h.1 (hc)
          refine sv_aload_n hM dX12_enterCode_71 rfl rfl ?_
          refine sv_getA hM dX12_enterCode_72 sm_fl_268 (sm_a0 _) sm_k137 rfl ?_
          refine sv_iload hM dX12_enterCode_75 rfl rfl ?_
          refine sv_aload_n hM dX12_enterCode_77 rfl rfl ?_
          refine sv_getA hM dX12_enterCode_78 sm_fl_268 (sm_a0 _) sm_k137 rfl ?_
          refine sv_iload hM dX12_enterCode_81 rfl rfl ?_
          obtain ⟨o232, h⟩ := h
          have k233 : sv_RL (g17 85 r15) := sm_okJ ok21 sm_r85 r15
          have h := h k233
          refine sv_lald hM dX12_enterCode_83 (sm_a85 _) (by decide) o232.1 o232.2 rfl (x := (g17 85 r15)) rfl ?_
          refine sv_aload_n hM dX12_enterCode_84 rfl rfl ?_
          refine sv_getA hM dX12_enterCode_85 sm_fl_268 (sm_a0 _) sm_k137 rfl ?_
          refine sv_aload_n hM dX12_enterCode_88 rfl rfl ?_
          refine sv_sipush (d := (639 : Int)) hM dX12_enterCode_89 rfl rfl ?_
          refine sv_iload hM dX12_enterCode_92 rfl rfl ?_
          obtain ⟨o234, h⟩ := h
          refine sv_callV hM dX12_enterCode_94 sm_iv_1101 (by decide) (sm_a0 _) rfl rfl (Nat.le_of_ble_eq_true rfl) sm_h226 (Nat.le_of_ble_eq_true rfl) (Nat.le_of_ble_eq_true rfl) (F' := 1) (Nat.le_of_ble_eq_true rfl) rfl (t_of (639 : Int) l11_18 (sv_sts (sv_sts S [68, 69, 70, 81, 82, 83, 84, 85, 86, 76, 77] g5) [85, 86] g17) ok21 (⟨by decide, by decide⟩ : sv_R (639 : Int)) hl11_18 o234) (fun v S1 hq => ?_)
          obtain ⟨r239, rfl, hr239, ok236, md237, hpo238⟩ := hq
          obtain rfl : (sv_sts (sv_sts S [68, 69, 70, 81, 82, 83, 84, 85, 86, 76, 77] g5) [85, 86] g17) = S1 := (funext fun j => md237 j (by intro q; cases q)).symm
          show sv_T sm_XS sm_cs sm_L sm_sh 4 (q_enterCode p1 p2 p3 p4 p5 p6 p7 S) 286 97 [(0, .ref 0), (1, sv_I p1), (2, sv_I p2), (3, sv_I p3), (4, sv_I p4), (5, sv_I p5), (6, sv_I p6), (7, sv_I p7), (8, sv_I x1), (9, sv_I (x1 - (2 : Int))), (10, sv_I r15), (11, sv_I l11_18)] [sv_I r239, .ref 85, sv_L (g17 85 r15), sv_I r15, .ref 85] (sv_sts (sv_sts S [68, 69, 70, 81, 82, 83, 84, 85, 86, 76, 77] g5) [85, 86] g17)
          have h := h r239 hr239 hpo238
          obtain ⟨o240, h⟩ := h
          have k241 : sv_RL (g17 85 r239) := sm_okJ ok236 sm_r85 r239
          have h := h k241
          refine sv_lald hM dX12_enterCode_97 (sm_a85 _) (by decide) o240.1 o240.2 rfl (x := (g17 85 r239)) rfl ?_
          refine sv_anyL hM dX12_enterCode_98 rfl rfl (fun r242 hr242 _ => ?_)
          have h := h r242 hr242
          refine sv_last sm_X hM dX12_enterCode_99 (sm_a85 _) (by decide) o232.1 o232.2 rfl ?_
          have ok243 : sm_ok (sv_up (sv_sts (sv_sts S [68, 69, 70, 81, 82, 83, 84, 85, 86, 76, 77] g5) [85, 86] g17) 85 r15 r242) := sm_upJ ok236 sm_r85 hr242
          have md244 : sv_mod [68, 69, 70, 81, 82, 83, 84, 85, 86, 71, 74, 75, 1127, 78, 79, 80, 72, 76, 77, 1143, 1144, 5, 1011, 1150, 1149, 1145, 1113, 1111, 1112, 1100031] S (sv_up (sv_sts (sv_sts S [68, 69, 70, 81, 82, 83, 84, 85, 86, 76, 77] g5) [85, 86] g17) 85 r15 r242) := sv_mod.up md22 (by decide)
          have md245 : sv_mod [85, 86] (sv_sts S [68, 69, 70, 81, 82, 83, 84, 85, 86, 76, 77] g5) (sv_up (sv_sts (sv_sts S [68, 69, 70, 81, 82, 83, 84, 85, 86, 76, 77] g5) [85, 86] g17) 85 r15 r242) := sv_mod.up md23 (by decide)
          refine sv_aload_n hM dX12_enterCode_100 rfl rfl ?_
          refine sv_getA hM dX12_enterCode_101 sm_fl_271 (sm_a0 _) sm_k138 rfl ?_
          refine sv_iload hM dX12_enterCode_104 rfl rfl ?_
          refine sv_aload_n hM dX12_enterCode_106 rfl rfl ?_
          refine sv_getA hM dX12_enterCode_107 sm_fl_271 (sm_a0 _) sm_k138 rfl ?_
          refine sv_iload hM dX12_enterCode_110 rfl rfl ?_
          have k246 : sv_RL (g17 86 r15) := sm_okJ ok243 sm_r86 r15
          have h := h k246
          refine sv_lald hM dX12_enterCode_112 (sm_a86 _) (by decide) o232.1 o232.2 rfl (x := (g17 86 r15)) rfl ?_
          refine sv_aload_n hM dX12_enterCode_113 rfl rfl ?_
          refine sv_getA hM dX12_enterCode_114 sm_fl_271 (sm_a0 _) sm_k138 rfl ?_
          refine sv_aload_n hM dX12_enterCode_117 rfl rfl ?_
          refine sv_sipush (d := (639 : Int)) hM dX12_enterCode_118 rfl rfl ?_
          refine sv_iload hM dX12_enterCode_121 rfl rfl ?_
          refine sv_callV hM dX12_enterCode_123 sm_iv_1101 (by decide) (sm_a0 _) rfl rfl (Nat.le_of_ble_eq_true rfl) sm_h226 (Nat.le_of_ble_eq_true rfl) (Nat.le_of_ble_eq_true rfl) (F' := 1) (Nat.le_of_ble_eq_true rfl) rfl (t_of (639 : Int) l11_18 (sv_up (sv_sts (sv_sts S [68, 69, 70, 81, 82, 83, 84, 85, 86, 76, 77] g5) [85, 86] g17) 85 r15 r242) ok243 (⟨by decide, by decide⟩ : sv_R (639 : Int)) hl11_18 o234) (fun v S1 hq => ?_)
          obtain ⟨r251, rfl, hr251, ok248, md249, hpo250⟩ := hq
          obtain rfl : (sv_up (sv_sts (sv_sts S [68, 69, 70, 81, 82, 83, 84, 85, 86, 76, 77] g5) [85, 86] g17) 85 r15 r242) = S1 := (funext fun j => md249 j (by intro q; cases q)).symm
          show sv_T sm_XS sm_cs sm_L sm_sh 4 (q_enterCode p1 p2 p3 p4 p5 p6 p7 S) 286 126 [(0, .ref 0), (1, sv_I p1), (2, sv_I p2), (3, sv_I p3), (4, sv_I p4), (5, sv_I p5), (6, sv_I p6), (7, sv_I p7), (8, sv_I x1), (9, sv_I (x1 - (2 : Int))), (10, sv_I r15), (11, sv_I l11_18)] [sv_I r251, .ref 86, sv_L (g17 86 r15), sv_I r15, .ref 86] (sv_up (sv_sts (sv_sts S [68, 69, 70, 81, 82, 83, 84, 85, 86, 76, 77] g5) [85, 86] g17) 85 r15 r242)
          have h := h r251 hr251 hpo250
          obtain ⟨o252, h⟩ := h
          have k253 : sv_RL (g17 86 r251) := sm_okJ ok248 sm_r86 r251
          have h := h k253
          refine sv_lald hM dX12_enterCode_126 (sm_a86 _) (by decide) o252.1 o252.2 rfl (x := (g17 86 r251)) rfl ?_
          refine sv_anyL hM dX12_enterCode_127 rfl rfl (fun r254 hr254 _ => ?_)
          have h := h r254 hr254
          refine sv_last sm_X hM dX12_enterCode_128 (sm_a86 _) (by decide) o232.1 o232.2 rfl ?_
          have ok255 : sm_ok (sv_up (sv_up (sv_sts (sv_sts S [68, 69, 70, 81, 82, 83, 84, 85, 86, 76, 77] g5) [85, 86] g17) 85 r15 r242) 86 r15 r254) := sm_upJ ok248 sm_r86 hr254
          have md256 : sv_mod [68, 69, 70, 81, 82, 83, 84, 85, 86, 71, 74, 75, 1127, 78, 79, 80, 72, 76, 77, 1143, 1144, 5, 1011, 1150, 1149, 1145, 1113, 1111, 1112, 1100031] S (sv_up (sv_up (sv_sts (sv_sts S [68, 69, 70, 81, 82, 83, 84, 85, 86, 76, 77] g5) [85, 86] g17) 85 r15 r242) 86 r15 r254) := sv_mod.up md244 (by decide)
          have md257 : sv_mod [85, 86] (sv_sts S [68, 69, 70, 81, 82, 83, 84, 85, 86, 76, 77] g5) (sv_up (sv_up (sv_sts (sv_sts S [68, 69, 70, 81, 82, 83, 84, 85, 86, 76, 77] g5) [85, 86] g17) 85 r15 r242) 86 r15 r254) := sv_mod.up md245 (by decide)
          refine sv_iinc (d := (1 : Int)) hM dX12_enterCode_129 rfl (by decide) rfl rfl ?_
          show sv_T sm_XS sm_cs sm_L sm_sh 4 (q_enterCode p1 p2 p3 p4 p5 p6 p7 S) 286 132 [(0, .ref 0), (1, sv_I p1), (2, sv_I p2), (3, sv_I p3), (4, sv_I p4), (5, sv_I p5), (6, sv_I p6), (7, sv_I p7), (8, sv_I x1), (9, sv_I (x1 - (2 : Int))), (10, sv_I r15), (11, sv_I (l11_18 + (1 : Int)))] [] (sv_up (sv_up (sv_sts (sv_sts S [68, 69, 70, 81, 82, 83, 84, 85, 86, 76, 77] g5) [85, 86] g17) 85 r15 r242) 86 r15 r254)
          refine sv_goto hM dX12_enterCode_132 (pc' := 41) rfl ?_
          obtain ⟨o258, h⟩ := h
          have eS := sv_mod.eq md257
          have hb := ih19 ((l11_18 + (1 : Int)), (sv_up (sv_up (sv_sts (sv_sts S [68, 69, 70, 81, 82, 83, 84, 85, 86, 76, 77] g5) [85, 86] g17) 85 r15 r242) 86 r15 r254)) ⟨o258, (by rw [← eS]; exact ok255), h.1⟩ h.2
          have hb : sv_T sm_XS sm_cs sm_L sm_sh 4 (q_enterCode p1 p2 p3 p4 p5 p6 p7 S) 286 41 [(0, .ref 0), (1, sv_I p1), (2, sv_I p2), (3, sv_I p3), (4, sv_I p4), (5, sv_I p5), (6, sv_I p6), (7, sv_I p7), (8, sv_I x1), (9, sv_I (x1 - (2 : Int))), (10, sv_I r15), (11, sv_I (l11_18 + (1 : Int)))] [] (sv_up (sv_up (sv_sts (sv_sts S [68, 69, 70, 81, 82, 83, 84, 85, 86, 76, 77] g5) [85, 86] g17) 85 r15 r242) 86 r15 r254) := Eq.mpr (congrArg (fun Z => sv_T sm_XS sm_cs sm_L sm_sh 4 (q_enterCode p1 p2 p3 p4 p5 p6 p7 S) 286 41 [(0, .ref 0), (1, sv_I p1), (2, sv_I p2), (3, sv_I p3), (4, sv_I p4), (5, sv_I p5), (6, sv_I p6), (7, sv_I p7), (8, sv_I x1), (9, sv_I (x1 - (2 : Int))), (10, sv_I r15), (11, sv_I (l11_18 + (1 : Int)))] [] Z) eS) hb
          exact sv_less (lv := [(0, .ref 0), (1, sv_I p1), (2, sv_I p2), (3, sv_I p3), (4, sv_I p4), (5, sv_I p5), (6, sv_I p6), (7, sv_I p7), (8, sv_I x1), (9, sv_I (x1 - (2 : Int))), (10, sv_I r15), (11, sv_I (l11_18 + (1 : Int)))]) (sv_Sub_cons rfl (sv_Sub_cons rfl (sv_Sub_cons rfl (sv_Sub_cons rfl (sv_Sub_cons rfl (sv_Sub_cons rfl (sv_Sub_cons rfl (sv_Sub_cons rfl (sv_Sub_cons rfl (sv_Sub_cons rfl (sv_Sub_cons rfl (sv_Sub_cons rfl sv_Sub_nil)))))))))))) hb
        · have h := h.2 (hc)
          refine sv_goto hM dX12_enterCode_68 (pc' := 129) rfl ?_
          refine sv_iinc (d := (1 : Int)) hM dX12_enterCode_129 rfl (by decide) rfl rfl ?_
          show sv_T sm_XS sm_cs sm_L sm_sh 4 (q_enterCode p1 p2 p3 p4 p5 p6 p7 S) 286 132 [(0, .ref 0), (1, sv_I p1), (2, sv_I p2), (3, sv_I p3), (4, sv_I p4), (5, sv_I p5), (6, sv_I p6), (7, sv_I p7), (8, sv_I x1), (9, sv_I (x1 - (2 : Int))), (10, sv_I r15), (11, sv_I (l11_18 + (1 : Int)))] [] (sv_sts (sv_sts S [68, 69, 70, 81, 82, 83, 84, 85, 86, 76, 77] g5) [85, 86] g17)
          refine sv_goto hM dX12_enterCode_132 (pc' := 41) rfl ?_
          obtain ⟨o259, h⟩ := h
          have eS := sv_mod.eq md23
          have hb := ih19 ((l11_18 + (1 : Int)), (sv_sts (sv_sts S [68, 69, 70, 81, 82, 83, 84, 85, 86, 76, 77] g5) [85, 86] g17)) ⟨o259, (by rw [← eS]; exact ok21), h.1⟩ h.2
          have hb : sv_T sm_XS sm_cs sm_L sm_sh 4 (q_enterCode p1 p2 p3 p4 p5 p6 p7 S) 286 41 [(0, .ref 0), (1, sv_I p1), (2, sv_I p2), (3, sv_I p3), (4, sv_I p4), (5, sv_I p5), (6, sv_I p6), (7, sv_I p7), (8, sv_I x1), (9, sv_I (x1 - (2 : Int))), (10, sv_I r15), (11, sv_I (l11_18 + (1 : Int)))] [] (sv_sts (sv_sts S [68, 69, 70, 81, 82, 83, 84, 85, 86, 76, 77] g5) [85, 86] g17) := Eq.mpr (congrArg (fun Z => sv_T sm_XS sm_cs sm_L sm_sh 4 (q_enterCode p1 p2 p3 p4 p5 p6 p7 S) 286 41 [(0, .ref 0), (1, sv_I p1), (2, sv_I p2), (3, sv_I p3), (4, sv_I p4), (5, sv_I p5), (6, sv_I p6), (7, sv_I p7), (8, sv_I x1), (9, sv_I (x1 - (2 : Int))), (10, sv_I r15), (11, sv_I (l11_18 + (1 : Int)))] [] Z) eS) hb
          exact sv_less (lv := [(0, .ref 0), (1, sv_I p1), (2, sv_I p2), (3, sv_I p3), (4, sv_I p4), (5, sv_I p5), (6, sv_I p6), (7, sv_I p7), (8, sv_I x1), (9, sv_I (x1 - (2 : Int))), (10, sv_I r15), (11, sv_I (l11_18 + (1 : Int)))]) (sv_Sub_cons rfl (sv_Sub_cons rfl (sv_Sub_cons rfl (sv_Sub_cons rfl (sv_Sub_cons rfl (sv_Sub_cons rfl (sv_Sub_cons rfl (sv_Sub_cons rfl (sv_Sub_cons rfl (sv_Sub_cons rfl (sv_Sub_cons rfl (sv_Sub_cons rfl sv_Sub_nil)))))))))))) hb
      · have h := h.2 (hc)
        refine sv_iload_n hM dX12_enterCode_57 rfl rfl ?_
        refine sv_cond_ne hM dX12_enterCode_58 (sv_R01 hp2) (t := 71) rfl rfl (fun hc => ?_) (fun hc => ?_)
        · have h := h.1 (hc)
          refine sv_aload_n hM dX12_enterCode_71 rfl rfl ?_
          refine sv_getA hM dX12_enterCode_72 sm_fl_268 (sm_a0 _) sm_k137 rfl ?_
          refine sv_iload hM dX12_enterCode_75 rfl rfl ?_
          refine sv_aload_n hM dX12_enterCode_77 rfl rfl ?_
          refine sv_getA hM dX12_enterCode_78 sm_fl_268 (sm_a0 _) sm_k137 rfl ?_
          refine sv_iload hM dX12_enterCode_81 rfl rfl ?_
          obtain ⟨o260, h⟩ := h
          have k261 : sv_RL (g17 85 r15) := sm_okJ ok21 sm_r85 r15
          have h := h k261
          refine sv_lald hM dX12_enterCode_83 (sm_a85 _) (by decide) o260.1 o260.2 rfl (x := (g17 85 r15)) rfl ?_
          refine sv_aload_n hM dX12_enterCode_84 rfl rfl ?_
          refine sv_getA hM dX12_enterCode_85 sm_fl_268 (sm_a0 _) sm_k137 rfl ?_
          refine sv_aload_n hM dX12_enterCode_88 rfl rfl ?_
          refine sv_sipush (d := (639 : Int)) hM dX12_enterCode_89 rfl rfl ?_
          refine sv_iload hM dX12_enterCode_92 rfl rfl ?_
          obtain ⟨o262, h⟩ := h
          refine sv_callV hM dX12_enterCode_94 sm_iv_1101 (by decide) (sm_a0 _) rfl rfl (Nat.le_of_ble_eq_true rfl) sm_h226 (Nat.le_of_ble_eq_true rfl) (Nat.le_of_ble_eq_true rfl) (F' := 1) (Nat.le_of_ble_eq_true rfl) rfl (t_of (639 : Int) l11_18 (sv_sts (sv_sts S [68, 69, 70, 81, 82, 83, 84, 85, 86, 76, 77] g5) [85, 86] g17) ok21 (⟨by decide, by decide⟩ : sv_R (639 : Int)) hl11_18 o262) (fun v S1 hq => ?_)
          obtain ⟨r267, rfl, hr267, ok264, md265, hpo266⟩ := hq
          obtain rfl : (sv_sts (sv_sts S [68, 69, 70, 81, 82, 83, 84, 85, 86, 76, 77] g5) [85, 86] g17) = S1 := (funext fun j => md265 j (by intro q; cases q)).symm
          show sv_T sm_XS sm_cs sm_L sm_sh 4 (q_enterCode p1 p2 p3 p4 p5 p6 p7 S) 286 97 [(0, .ref 0), (1, sv_I p1), (2, sv_I p2), (3, sv_I p3), (4, sv_I p4), (5, sv_I p5), (6, sv_I p6), (7, sv_I p7), (8, sv_I x1), (9, sv_I (x1 - (2 : Int))), (10, sv_I r15), (11, sv_I l11_18)] [sv_I r267, .ref 85, sv_L (g17 85 r15), sv_I r15, .ref 85] (sv_sts (sv_sts S [68, 69, 70, 81, 82, 83, 84, 85, 86, 76, 77] g5) [85, 86] g17)
          have h := h r267 hr267 hpo266
          obtain ⟨o268, h⟩ := h
          have k269 : sv_RL (g17 85 r267) := sm_okJ ok264 sm_r85 r267
          have h := h k269
          refine sv_lald hM dX12_enterCode_97 (sm_a85 _) (by decide) o268.1 o268.2 rfl (x := (g17 85 r267)) rfl ?_
          refine sv_anyL hM dX12_enterCode_98 rfl rfl (fun r270 hr270 _ => ?_)
          have h := h r270 hr270
          refine sv_last sm_X hM dX12_enterCode_99 (sm_a85 _) (by decide) o260.1 o260.2 rfl ?_
          have ok271 : sm_ok (sv_up (sv_sts (sv_sts S [68, 69, 70, 81, 82, 83, 84, 85, 86, 76, 77] g5) [85, 86] g17) 85 r15 r270) := sm_upJ ok264 sm_r85 hr270
          have md272 : sv_mod [68, 69, 70, 81, 82, 83, 84, 85, 86, 71, 74, 75, 1127, 78, 79, 80, 72, 76, 77, 1143, 1144, 5, 1011, 1150, 1149, 1145, 1113, 1111, 1112, 1100031] S (sv_up (sv_sts (sv_sts S [68, 69, 70, 81, 82, 83, 84, 85, 86, 76, 77] g5) [85, 86] g17) 85 r15 r270) := sv_mod.up md22 (by decide)
          have md273 : sv_mod [85, 86] (sv_sts S [68, 69, 70, 81, 82, 83, 84, 85, 86, 76, 77] g5) (sv_up (sv_sts (sv_sts S [68, 69, 70, 81, 82, 83, 84, 85, 86, 76, 77] g5) [85, 86] g17) 85 r15 r270) := sv_mod.up md23 (by decide)
          refine sv_aload_n hM dX12_enterCode_100 rfl rfl ?_
          refine sv_getA hM dX12_enterCode_101 sm_fl_271 (sm_a0 _) sm_k138 rfl ?_
          refine sv_iload hM dX12_enterCode_104 rfl rfl ?_
          refine sv_aload_n hM dX12_enterCode_106 rfl rfl ?_
          refine sv_getA hM dX12_enterCode_107 sm_fl_271 (sm_a0 _) sm_k138 rfl ?_
          refine sv_iload hM dX12_enterCode_110 rfl rfl ?_
          have k274 : sv_RL (g17 86 r15) := sm_okJ ok271 sm_r86 r15
          have h := h k274
          refine sv_lald hM dX12_enterCode_112 (sm_a86 _) (by decide) o260.1 o260.2 rfl (x := (g17 86 r15)) rfl ?_
          refine sv_aload_n hM dX12_enterCode_113 rfl rfl ?_
          refine sv_getA hM dX12_enterCode_114 sm_fl_271 (sm_a0 _) sm_k138 rfl ?_
          refine sv_aload_n hM dX12_enterCode_117 rfl rfl ?_
          refine sv_sipush (d := (639 : Int)) hM dX12_enterCode_118 rfl rfl ?_
          refine sv_iload hM dX12_enterCode_121 rfl rfl ?_
          refine sv_callV hM dX12_enterCode_123 sm_iv_1101 (by decide) (sm_a0 _) rfl rfl (Nat.le_of_ble_eq_true rfl) sm_h226 (Nat.le_of_ble_eq_true rfl) (Nat.le_of_ble_eq_true rfl) (F' := 1) (Nat.le_of_ble_eq_true rfl) rfl (t_of (639 : Int) l11_18 (sv_up (sv_sts (sv_sts S [68, 69, 70, 81, 82, 83, 84, 85, 86, 76, 77] g5) [85, 86] g17) 85 r15 r270) ok271 (⟨by decide, by decide⟩ : sv_R (639 : Int)) hl11_18 o262) (fun v S1 hq => ?_)
          obtain ⟨r279, rfl, hr279, ok276, md277, hpo278⟩ := hq
          obtain rfl : (sv_up (sv_sts (sv_sts S [68, 69, 70, 81, 82, 83, 84, 85, 86, 76, 77] g5) [85, 86] g17) 85 r15 r270) = S1 := (funext fun j => md277 j (by intro q; cases q)).symm
          show sv_T sm_XS sm_cs sm_L sm_sh 4 (q_enterCode p1 p2 p3 p4 p5 p6 p7 S) 286 126 [(0, .ref 0), (1, sv_I p1), (2, sv_I p2), (3, sv_I p3), (4, sv_I p4), (5, sv_I p5), (6, sv_I p6), (7, sv_I p7), (8, sv_I x1), (9, sv_I (x1 - (2 : Int))), (10, sv_I r15), (11, sv_I l11_18)] [sv_I r279, .ref 86, sv_L (g17 86 r15), sv_I r15, .ref 86] (sv_up (sv_sts (sv_sts S [68, 69, 70, 81, 82, 83, 84, 85, 86, 76, 77] g5) [85, 86] g17) 85 r15 r270)
          have h := h r279 hr279 hpo278
          obtain ⟨o280, h⟩ := h
          have k281 : sv_RL (g17 86 r279) := sm_okJ ok276 sm_r86 r279
          have h := h k281
          refine sv_lald hM dX12_enterCode_126 (sm_a86 _) (by decide) o280.1 o280.2 rfl (x := (g17 86 r279)) rfl ?_
          refine sv_anyL hM dX12_enterCode_127 rfl rfl (fun r282 hr282 _ => ?_)
          have h := h r282 hr282
          refine sv_last sm_X hM dX12_enterCode_128 (sm_a86 _) (by decide) o260.1 o260.2 rfl ?_
          have ok283 : sm_ok (sv_up (sv_up (sv_sts (sv_sts S [68, 69, 70, 81, 82, 83, 84, 85, 86, 76, 77] g5) [85, 86] g17) 85 r15 r270) 86 r15 r282) := sm_upJ ok276 sm_r86 hr282
          have md284 : sv_mod [68, 69, 70, 81, 82, 83, 84, 85, 86, 71, 74, 75, 1127, 78, 79, 80, 72, 76, 77, 1143, 1144, 5, 1011, 1150, 1149, 1145, 1113, 1111, 1112, 1100031] S (sv_up (sv_up (sv_sts (sv_sts S [68, 69, 70, 81, 82, 83, 84, 85, 86, 76, 77] g5) [85, 86] g17) 85 r15 r270) 86 r15 r282) := sv_mod.up md272 (by decide)
          have md285 : sv_mod [85, 86] (sv_sts S [68, 69, 70, 81, 82, 83, 84, 85, 86, 76, 77] g5) (sv_up (sv_up (sv_sts (sv_sts S [68, 69, 70, 81, 82, 83, 84, 85, 86, 76, 77] g5) [85, 86] g17) 85 r15 r270) 86 r15 r282) := sv_mod.up md273 (by decide)
          refine sv_iinc (d := (1 : Int)) hM dX12_enterCode_129 rfl (by decide) rfl rfl ?_
          show sv_T sm_XS sm_cs sm_L sm_sh 4 (q_enterCode p1 p2 p3 p4 p5 p6 p7 S) 286 132 [(0, .ref 0), (1, sv_I p1), (2, sv_I p2), (3, sv_I p3), (4, sv_I p4), (5, sv_I p5), (6, sv_I p6), (7, sv_I p7), (8, sv_I x1), (9, sv_I (x1 - (2 : Int))), (10, sv_I r15), (11, sv_I (l11_18 + (1 : Int)))] [] (sv_up (sv_up (sv_sts (sv_sts S [68, 69, 70, 81, 82, 83, 84, 85, 86, 76, 77] g5) [85, 86] g17) 85 r15 r270) 86 r15 r282)
          refine sv_goto hM dX12_enterCode_132 (pc' := 41) rfl ?_
          obtain ⟨o286, h⟩ := h
          have eS := sv_mod.eq md285
          have hb := ih19 ((l11_18 + (1 : Int)), (sv_up (sv_up (sv_sts (sv_sts S [68, 69, 70, 81, 82, 83, 84, 85, 86, 76, 77] g5) [85, 86] g17) 85 r15 r270) 86 r15 r282)) ⟨o286, (by rw [← eS]; exact ok283), h.1⟩ h.2
          have hb : sv_T sm_XS sm_cs sm_L sm_sh 4 (q_enterCode p1 p2 p3 p4 p5 p6 p7 S) 286 41 [(0, .ref 0), (1, sv_I p1), (2, sv_I p2), (3, sv_I p3), (4, sv_I p4), (5, sv_I p5), (6, sv_I p6), (7, sv_I p7), (8, sv_I x1), (9, sv_I (x1 - (2 : Int))), (10, sv_I r15), (11, sv_I (l11_18 + (1 : Int)))] [] (sv_up (sv_up (sv_sts (sv_sts S [68, 69, 70, 81, 82, 83, 84, 85, 86, 76, 77] g5) [85, 86] g17) 85 r15 r270) 86 r15 r282) := Eq.mpr (congrArg (fun Z => sv_T sm_XS sm_cs sm_L sm_sh 4 (q_enterCode p1 p2 p3 p4 p5 p6 p7 S) 286 41 [(0, .ref 0), (1, sv_I p1), (2, sv_I p2), (3, sv_I p3), (4, sv_I p4), (5, sv_I p5), (6, sv_I p6), (7, sv_I p7), (8, sv_I x1), (9, sv_I (x1 - (2 : Int))), (10, sv_I r15), (11, sv_I (l11_18 + (1 : Int)))] [] Z) eS) hb
          exact sv_less (lv := [(0, .ref 0), (1, sv_I p1), (2, sv_I p2), (3, sv_I p3), (4, sv_I p4), (5, sv_I p5), (6, sv_I p6), (7, sv_I p7), (8, sv_I x1), (9, sv_I (x1 - (2 : Int))), (10, sv_I r15), (11, sv_I (l11_18 + (1 : Int)))]) (sv_Sub_cons rfl (sv_Sub_cons rfl (sv_Sub_cons rfl (sv_Sub_cons rfl (sv_Sub_cons rfl (sv_Sub_cons rfl (sv_Sub_cons rfl (sv_Sub_cons rfl (sv_Sub_cons rfl (sv_Sub_cons rfl (sv_Sub_cons rfl (sv_Sub_cons rfl sv_Sub_nil)))))))))))) hb
        · have h := h.2 (hc)
          refine sv_goto hM dX12_enterCode_61 (pc' := 129) rfl ?_
          refine sv_iinc (d := (1 : Int)) hM dX12_enterCode_129 rfl (by decide) rfl rfl ?_
          show sv_T sm_XS sm_cs sm_L sm_sh 4 (q_enterCode p1 p2 p3 p4 p5 p6 p7 S) 286 132 [(0, .ref 0), (1, sv_I p1), (2, sv_I p2), (3, sv_I p3), (4, sv_I p4), (5, sv_I p5), (6, sv_I p6), (7, sv_I p7), (8, sv_I x1), (9, sv_I (x1 - (2 : Int))), (10, sv_I r15), (11, sv_I (l11_18 + (1 : Int)))] [] (sv_sts (sv_sts S [68, 69, 70, 81, 82, 83, 84, 85, 86, 76, 77] g5) [85, 86] g17)
          refine sv_goto hM dX12_enterCode_132 (pc' := 41) rfl ?_
          obtain ⟨o287, h⟩ := h
          have eS := sv_mod.eq md23
          have hb := ih19 ((l11_18 + (1 : Int)), (sv_sts (sv_sts S [68, 69, 70, 81, 82, 83, 84, 85, 86, 76, 77] g5) [85, 86] g17)) ⟨o287, (by rw [← eS]; exact ok21), h.1⟩ h.2
          have hb : sv_T sm_XS sm_cs sm_L sm_sh 4 (q_enterCode p1 p2 p3 p4 p5 p6 p7 S) 286 41 [(0, .ref 0), (1, sv_I p1), (2, sv_I p2), (3, sv_I p3), (4, sv_I p4), (5, sv_I p5), (6, sv_I p6), (7, sv_I p7), (8, sv_I x1), (9, sv_I (x1 - (2 : Int))), (10, sv_I r15), (11, sv_I (l11_18 + (1 : Int)))] [] (sv_sts (sv_sts S [68, 69, 70, 81, 82, 83, 84, 85, 86, 76, 77] g5) [85, 86] g17) := Eq.mpr (congrArg (fun Z => sv_T sm_XS sm_cs sm_L sm_sh 4 (q_enterCode p1 p2 p3 p4 p5 p6 p7 S) 286 41 [(0, .ref 0), (1, sv_I p1), (2, sv_I p2), (3, sv_I p3), (4, sv_I p4), (5, sv_I p5), (6, sv_I p6), (7, sv_I p7), (8, sv_I x1), (9, sv_I (x1 - (2 : Int))), (10, sv_I r15), (11, sv_I (l11_18 + (1 : Int)))] [] Z) eS) hb
          exact sv_less (lv := [(0, .ref 0), (1, sv_I p1), (2, sv_I p2), (3, sv_I p3), (4, sv_I p4), (5, sv_I p5), (6, sv_I p6), (7, sv_I p7), (8, sv_I x1), (9, sv_I (x1 - (2 : Int))), (10, sv_I r15), (11, sv_I (l11_18 + (1 : Int)))]) (sv_Sub_cons rfl (sv_Sub_cons rfl (sv_Sub_cons rfl (sv_Sub_cons rfl (sv_Sub_cons rfl (sv_Sub_cons rfl (sv_Sub_cons rfl (sv_Sub_cons rfl (sv_Sub_cons rfl (sv_Sub_cons rfl (sv_Sub_cons rfl (sv_Sub_cons rfl sv_Sub_nil)))))))))))) hb
  have eS := sv_mod.eq (sv_mod.rf (l := [85, 86]) (S := (sv_sts S [68, 69, 70, 81, 82, 83, 84, 85, 86, 76, 77] g5)))
  have hb := hJ (x1, (sv_sts S [68, 69, 70, 81, 82, 83, 84, 85, 86, 76, 77] g5)) ⟨o16, (by rw [← eS]; exact ok12), hin20⟩
  have hb : sv_T sm_XS sm_cs sm_L sm_sh 4 (q_enterCode p1 p2 p3 p4 p5 p6 p7 S) 286 41 [(0, .ref 0), (1, sv_I p1), (2, sv_I p2), (3, sv_I p3), (4, sv_I p4), (5, sv_I p5), (6, sv_I p6), (7, sv_I p7), (8, sv_I x1), (9, sv_I (x1 - (2 : Int))), (10, sv_I r15), (11, sv_I x1)] [] (sv_sts S [68, 69, 70, 81, 82, 83, 84, 85, 86, 76, 77] g5) := Eq.mpr (congrArg (fun Z => sv_T sm_XS sm_cs sm_L sm_sh 4 (q_enterCode p1 p2 p3 p4 p5 p6 p7 S) 286 41 [(0, .ref 0), (1, sv_I p1), (2, sv_I p2), (3, sv_I p3), (4, sv_I p4), (5, sv_I p5), (6, sv_I p6), (7, sv_I p7), (8, sv_I x1), (9, sv_I (x1 - (2 : Int))), (10, sv_I r15), (11, sv_I x1)] [] Z) eS) hb
  exact hb
def q_codeWays (p1 : Int) (p2 : Int) (p4 : Int) (p6 : Int) (p7 : Int) (p8 : Int) (p9 : Int) (p10 : Int) (S : sv_S) : Option Value → sv_S → Prop := fun v S' => v = none ∧ sm_ok S' ∧ sv_mod [68, 69, 70, 81, 82, 83, 84, 85, 86, 71, 74, 75, 1127, 78, 79, 80, 72, 76, 77, 1143, 1144, 5, 1011, 1150, 1149, 1145, 1113, 1111, 1112, 91, 1147, 1100031] S S' ∧ (sm_ST (S' 71) (S' 74) (S' 75) (S' 78) (S' 79) (S' 80) (S' 27) (S' 1100007) (S' 1100023) (S' 1100024) (S' 1046 0) ((S' 1046 0) + 2 * (S' 1032 0)) (S' 1127 0) ∧ 465000 ≤ (S' 1127 0) ∧ (S' 1127 0) + sm_hs (S' 71) (S' 1100007) ≤ 635000 ∧ (S' 75 639) = 647340 ∧ (∀ k : Int, (S 71 k) = 1 → (S' 71 k) = 1) ∧ sm_DR (S' 72) (S' 71) (S' 1046 0) ∧ (641 * (sm_cm (S' 71) + sm_pt (S' 68) (S' 69) (S' 70) + sm_pl (S' 81) (S' 82) (S' 83) (S' 84) (S' 85) (S' 86) + sm_ps (S' 76) (S' 77)) + sm_du (S' 72)) ≤ (641 * (sm_cm (S 71) + sm_pt (S 68) (S 69) (S 70) + sm_pl (S 81) (S 82) (S 83) (S 84) (S 85) (S 86) + sm_ps (S 76) (S 77)) + sm_du (S 72)) ∧ 0 ≤ (S' 1147 0) ∧ (S' 1147 0) ≤ 12 ∧ (∀ k : Int, 0 ≤ k → k < (S' 1147 0) → 635639 ≤ (S' 91 k) ∧ (S' 91 k) < 647800))
theorem la_codeWays_0 {x0 x1 x2 : Int} (h0 : x0 ≤ 11) (h1 : 1 ≤ x1) (h2 : x1 < x0) (h3 : 29 + 6 * (x1 - 1) + 2 = x2) : sv_R x2 := by omega
theorem la_codeWays_1 {x0 x1 x2 : Int} (h0 : x0 ≤ 11) (h1 : 1 ≤ x1) (h2 : x1 < x0) (h3 : 29 + 6 * (x1 - 1) + 2 = x2) : 0 ≤ x2 ∧ x2 < 128 := by omega
theorem la_codeWays_2 {x0 x1 x2 : Int} (h0 : x0 ≤ 11) (h1 : 1 ≤ x1) (h2 : x1 < x0) (h3 : 29 + 6 * (x1 - 1) + 2 = x2) : sv_R (x2 + 1) := by omega
theorem la_codeWays_3 {x0 x1 x2 : Int} (h0 : x0 ≤ 11) (h1 : 1 ≤ x1) (h2 : x1 < x0) (h3 : 29 + 6 * (x1 - 1) + 2 = x2) : 0 ≤ x2 + 1 ∧ x2 + 1 < 128 := by omega
theorem la_codeWays_4 {x0 : Int} (h0 : x0 = 1) : 0 ≤ x0 := by omega
theorem la_codeWays_5 {x0 : Int} (h0 : 0 ≤ x0) (h1 : ¬ x0 = 0) : 0 < x0 := by omega
theorem la_codeWays_6 {x0 : Int} (h0 : x0 = 1) : 0 ≤ x0 ∧ x0 ≤ 1 := by omega
theorem la_codeWays_7 {x0 x1 : Int} (h0 : x0 + 1 < x1) : ¬ x1 ≤ x0 := by omega
theorem la_codeWays_8 {x0 x1 : Int} (h0 : x0 + 1 < x1) : ¬ x1 ≤ x0 + 1 := by omega
theorem la_codeWays_9 {x0 : Int} (h0 : x0 = 0 ∨ x0 = 1) : 0 ≤ x0 := by omega
theorem la_codeWays_10 {x0 : Int} (h0 : x0 = 0 ∨ x0 = 1) : x0 ≤ 1 := by omega
theorem la_codeWays_11 {x0 x1 x2 x3 x4 x5 x6 : Int} (h0 : 1 ≤ x0) (h1 : x0 < x1) (h2 : (-1) ≤ x2) (h3 : x2 ≤ 450) (h4 : 0 ≤ x3) (h5 : x3 ≤ 450) (h6 : 0 ≤ x4) (h7 : x4 ≤ 8) (h8 : (-1) ≤ x5) (h9 : x5 < x6) : 1 ≤ x0 ∧ x0 < x1 ∧ (-1) ≤ x2 ∧ x2 ≤ 450 ∧ 0 ≤ x3 ∧ x3 ≤ 450 ∧ 0 ≤ x4 ∧ x4 ≤ 8 ∧ (-1) ≤ x5 ∧ x5 < x6 := by omega
theorem la_codeWays_12 {x0 x1 x2 x3 x4 : Int} (h0 : x0 + 2 * x1 ≤ 500) (h1 : 0 ≤ x2) (h2 : 1 ≤ x3) (h3 : x3 < x1) (h4 : x2 + 1 < x0) (h5 : x0 + 2 * x3 = x4) : 0 ≤ x4 + 1 ∧ x4 + 1 < 640 := by omega
theorem la_codeWays_13 {x0 : Int} (h0 : x0 = 0) : ¬ x0 = 1 := by omega
theorem la_codeWays_14 {x0 x1 x2 x3 x4 x5 x6 x7 x8 x9 x10 x11 x12 x13 x14 x15 x16 x17 x18 x19 : Int} (h0 : 641 * (x0 + x1 + x2 + x3) + x4 ≤ 641 * (x5 + x6 + x7 + x8) + x9) (h1 : 641 * (x10 + x11 + x12 + x13) + x14 ≤ 641 * (x0 + x1 + x2 + x3) + x4) (h2 : 641 * (x15 + x16 + x17 + x18) + x19 ≤ 641 * (x10 + x11 + x12 + x13) + x14) : 641 * (x15 + x16 + x17 + x18) + x19 ≤ 641 * (x5 + x6 + x7 + x8) + x9 := by omega
theorem la_codeWays_15 {x0 x1 x2 x3 : Int} (h0 : 0 ≤ x0) (h1 : x0 + 2 * x1 ≤ 500) (h2 : 1 ≤ x2) (h3 : x2 < x1) (h4 : x0 + 2 * x2 = x3) : sv_R (x3 + 1) := by omega
theorem la_codeWays_16 {x0 x1 x2 x3 x4 x5 x6 x7 x8 x9 : Int} (h0 : 0 ≤ x0) (h1 : x0 ≤ 11557) (h2 : 0 ≤ x1) (h3 : 1 ≤ x2) (h4 : x2 < x3) (h5 : 1 ≤ x4) (h6 : x4 ≤ x5) (h7 : x1 + 1 < x6) (h8 : x5 ≤ 396) (h9 : x6 + 2 * x2 = x7) (h10 : x8 = 647340) (h11 : x9 = x5) : 0 ≤ x0 ∧ x0 ≤ 11557 ∧ x8 = 647340 ∧ 0 ≤ x9 ∧ x9 ≤ 400 ∧ 0 ≤ x7 + 1 ∧ x7 + 1 < x6 + 2 * x3 := by omega
theorem la_codeWays_17 {x0 x1 x2 x3 : Int} (h0 : 0 ≤ x0) (h1 : 1 ≤ x1) (h2 : x0 + 1 < x2) (h3 : x2 + 2 * x1 = x3) : 0 ≤ x3 + 1 := by omega
theorem la_codeWays_18 {x0 x1 x2 x3 : Int} (h0 : x0 < x1) (h1 : x2 + 2 * x0 = x3) : x3 + 1 < x2 + 2 * x1 := by omega
theorem la_codeWays_19 {x0 x1 x2 : Int} (h0 : 1 ≤ x0) (h1 : x1 + 2 * x0 = x2) : x1 ≤ x2 + 1 := by omega
theorem la_codeWays_20 {x0 : Int} (h0 : x0 ≤ 1) (h1 : 0 < x0) : x0 = 1 := by omega
theorem la_codeWays_21 {x0 x1 x2 : Int} (h0 : x0 = x1) (h1 : x2 = x1) : x2 = x0 := by omega
theorem la_codeWays_22 {x0 : Int} (h0 : 465000 ≤ x0) : 0 ≤ x0 := by omega
theorem la_codeWays_23 {x0 x1 x2 x3 x4 : Int} (h0 : x0 + x1 ≤ 635000) (h1 : 0 ≤ x1) (h2 : x2 = 1) (h3 : x3 = x2) (h4 : x4 + x3 ≤ x0) : x4 < 647800 := by omega
theorem la_codeWays_24 : (635639 : Int) ≤ 647751 := by omega
theorem la_codeWays_25 : (647751 : Int) < 647800 := by omega
theorem la_codeWays_26 {x0 x1 : Int} (h0 : 0 ≤ x0) (h1 : x0 + 1 < x1) : 0 ≤ x0 ∧ x0 < x1 ∧ (0 : Int) ≤ 647751 ∧ (647751 : Int) < 647800 := by omega
theorem la_codeWays_27 {x0 x1 x2 x3 x4 x5 x6 x7 x8 x9 x10 x11 x12 x13 x14 x15 x16 x17 x18 x19 x20 x21 x22 x23 x24 x25 x26 x27 x28 x29 x30 x31 x32 x33 : Int} (h0 : 641 * (x0 + x1 + x2 + x3) + x4 ≤ 641 * (x5 + x6 + x7 + x8) + x9) (h1 : 641 * (x10 + x11 + x12 + x13) + x14 ≤ 641 * (x0 + x1 + x2 + x3) + x4) (h2 : 641 * (x15 + x16 + x17 + x18) + x19 ≤ 641 * (x10 + x11 + x12 + x13) + x14) (h3 : 641 * (x20 + x21 + x22 + x23) + x24 ≤ 641 * (x15 + x16 + x17 + x18) + x19) (h4 : x25 = x21) (h5 : x26 = x22) (h6 : x27 = x23) (h7 : x28 = x25) (h8 : 641 * (x29 + x30 + x31 + x32) + x33 ≤ 641 * (x20 + x28 + x26 + x27) + x24) : 641 * (x29 + x30 + x31 + x32) + x33 ≤ 641 * (x5 + x6 + x7 + x8) + x9 := by omega
theorem la_codeWays_28 {x0 x1 x2 x3 x4 : Int} (h0 : x0 + 2 * x1 ≤ 500) (h1 : 0 ≤ x2) (h2 : 1 ≤ x3) (h3 : x3 < x1) (h4 : x2 + 1 < x0) (h5 : x0 + 2 * x3 = x4) : 0 ≤ x4 ∧ x4 < 640 := by omega
theorem la_codeWays_29 {x0 x1 x2 x3 x4 : Int} : 641 * (x0 + x1 + x2 + x3) + x4 ≤ 641 * (x0 + x1 + x2 + x3) + x4 := by omega
theorem la_codeWays_30 {x0 x1 x2 x3 : Int} (h0 : 0 ≤ x0) (h1 : x0 + 2 * x1 ≤ 500) (h2 : 1 ≤ x2) (h3 : x2 < x1) (h4 : x0 + 2 * x2 = x3) : sv_R x3 := by omega
theorem la_codeWays_31 {x0 x1 x2 x3 x4 x5 x6 x7 x8 x9 : Int} (h0 : 0 ≤ x0) (h1 : x0 ≤ 11557) (h2 : 0 ≤ x1) (h3 : 1 ≤ x2) (h4 : x2 < x3) (h5 : 1 ≤ x4) (h6 : x4 ≤ x5) (h7 : x1 + 1 < x6) (h8 : x5 ≤ 396) (h9 : x6 + 2 * x2 = x7) (h10 : x8 = 647340) (h11 : x9 = x5) : 0 ≤ x0 ∧ x0 ≤ 11557 ∧ x8 = 647340 ∧ 0 ≤ x9 ∧ x9 ≤ 400 ∧ 0 ≤ x7 ∧ x7 < x6 + 2 * x3 := by omega
theorem la_codeWays_32 {x0 x1 x2 x3 : Int} (h0 : 0 ≤ x0) (h1 : 1 ≤ x1) (h2 : x0 + 1 < x2) (h3 : x2 + 2 * x1 = x3) : 0 ≤ x3 := by omega
theorem la_codeWays_33 {x0 x1 x2 x3 : Int} (h0 : x0 < x1) (h1 : x2 + 2 * x0 = x3) : x3 < x2 + 2 * x1 := by omega
theorem la_codeWays_34 {x0 x1 x2 : Int} (h0 : 1 ≤ x0) (h1 : x1 + 2 * x0 = x2) : x1 ≤ x2 := by omega
theorem la_codeWays_35 {x0 x1 x2 x3 x4 x5 x6 x7 x8 : Int} (h0 : 0 ≤ x0) (h1 : 1 ≤ x1) (h2 : x1 ≤ x2) (h3 : x3 = x2 - x1 + 1) (h4 : x0 + 1 < x4) (h5 : x5 = x6) (h6 : x2 ≤ 396) (h7 : x7 = x2) (h8 : x8 = x6) : 0 ≤ x0 ∧ x0 + 1 < x4 ∧ 0 ≤ x1 ∧ x1 ≤ x7 ∧ x7 - x1 ≤ 399 ∧ (0 : Int) ≤ 647751 ∧ (647751 : Int) < 647800 ∧ x3 = x7 - x1 + 1 ∧ x5 = x8 := by omega
theorem la_codeWays_36 {x0 x1 x2 x3 x4 x5 x6 x7 x8 x9 x10 x11 x12 x13 x14 x15 x16 x17 x18 : Int} (h0 : 641 * (x0 + x1 + x2 + x3) + x4 ≤ 641 * (x5 + x6 + x7 + x8) + x9) (h1 : x10 = x1) (h2 : x11 = x2) (h3 : x12 = x3) (h4 : x13 = x10) (h5 : 641 * (x14 + x15 + x16 + x17) + x18 ≤ 641 * (x0 + x13 + x11 + x12) + x4) : 641 * (x14 + x15 + x16 + x17) + x18 ≤ 641 * (x5 + x6 + x7 + x8) + x9 := by omega
theorem la_codeWays_37 {x0 : Int} (h0 : x0 = (-1)) : x0 ≤ (-1) := by omega
theorem la_codeWays_38 {x0 : Int} (h0 : x0 ≤ (-1)) (h1 : ¬ x0 = (-1)) : x0 < (-1) := by omega
theorem la_codeWays_39 : (0 : Int) ≤ 647751 ∧ (647751 : Int) < 647800 := by omega
theorem la_codeWays_40 : (0 : Int) ≤ 0 := by omega
theorem la_codeWays_41 : ¬ (647751 : Int) < 635639 := by omega
theorem la_codeWays_42 : (0 : Int) < 1024 := by omega
theorem la_codeWays_43 {x0 x1 x2 x3 : Int} (h0 : (-1) ≤ x0) (h1 : x0 < (-1)) : x1 < x2 + 2 * x3 := by omega
theorem la_codeWays_44 {x0 x1 x2 : Int} (h0 : x0 = (-1)) (h1 : x0 < (-1)) : x1 ≤ x2 := by omega
theorem la_codeWays_45 {x0 x1 x2 x3 : Int} (h0 : 1 ≤ x0) (h1 : x0 < x1) (h2 : x2 + 1 < x3) : x2 < x3 + 2 * x1 := by omega
theorem la_codeWays_46 {x0 x1 x2 : Int} (h0 : x0 = (-1)) (h1 : x0 < (-1)) : x1 ≤ x2 + 1 := by omega
theorem la_codeWays_47 {x0 x1 x2 x3 : Int} (h0 : 1 ≤ x0) (h1 : x0 < x1) (h2 : x2 + 1 < x3) : x2 + 1 < x3 + 2 * x1 := by omega
theorem la_codeWays_48 {x0 x1 x2 x3 x4 : Int} (h0 : 1 ≤ x0) (h1 : x1 + 1 < x2) (h2 : (-1) ≤ x3) (h3 : x2 + 2 * x0 = x4) (h4 : x3 < (-1)) : x4 = x1 + 1 := by omega
theorem la_codeWays_49 {x0 x1 x2 x3 x4 : Int} (h0 : 1 ≤ x0) (h1 : x1 + 1 < x2) (h2 : x2 + 2 * x0 = x3) (h3 : x4 = (-1)) (h4 : x4 < (-1)) : x3 = x1 := by omega
theorem la_codeWays_50 {x0 x1 x2 : Int} (h0 : x0 = (-1)) (h1 : x0 < (-1)) : x1 = x2 := by omega
theorem la_codeWays_51 {x0 x1 x2 : Int} (h0 : (-1) ≤ x0) (h1 : x0 < (-1)) : x1 = x2 := by omega
theorem la_codeWays_52 {x0 x1 x2 x3 x4 : Int} (h0 : x0 + 2 * x1 ≤ 500) (h1 : x2 < x1) (h2 : x0 + 2 * x2 = x3) (h3 : x4 = (-1)) (h4 : x4 < (-1)) : x3 = 639 := by omega
theorem la_codeWays_53 {x0 x1 : Int} (h0 : x0 = 1) (h1 : x1 = x0) : x1 = 1 := by omega
theorem la_codeWays_54 {x0 x1 x2 x3 x4 x5 x6 x7 x8 x9 x10 x11 x12 x13 x14 x15 x16 x17 x18 x19 : Int} (h0 : 641 * (x0 + x1 + x2 + x3) + x4 ≤ 641 * (x5 + x6 + x7 + x8) + x9) (h1 : x10 = x1) (h2 : x11 = x2) (h3 : x12 = x3) (h4 : x13 = x10) (h5 : x14 = x13) (h6 : 641 * (x15 + x16 + x17 + x18) + x19 ≤ 641 * (x0 + x14 + x11 + x12) + x4) : 641 * (x15 + x16 + x17 + x18) + x19 ≤ 641 * (x5 + x6 + x7 + x8) + x9 := by omega
theorem la_codeWays_55 {x0 : Int} (h0 : (-1) ≤ x0) (h1 : ¬ x0 = (-1)) : (-1) < x0 := by omega
theorem la_codeWays_56 {x0 x1 x2 x3 : Int} (h0 : (-1) < x0) (h1 : x0 = (-1)) : x1 < x2 + 2 * x3 := by omega
theorem la_codeWays_57 {x0 x1 x2 : Int} (h0 : (-1) < x0) (h1 : x0 = (-1)) : x1 ≤ x2 := by omega
theorem la_codeWays_58 {x0 x1 x2 : Int} (h0 : (-1) < x0) (h1 : x0 = (-1)) : x1 ≤ x2 + 1 := by omega
theorem la_codeWays_59 {x0 x1 x2 x3 x4 : Int} (h0 : 1 ≤ x0) (h1 : x1 + 1 < x2) (h2 : x2 + 2 * x0 = x3) (h3 : (-1) < x4) (h4 : x4 = (-1)) : x3 = x1 + 1 := by omega
theorem la_codeWays_60 {x0 x1 x2 x3 x4 : Int} (h0 : 1 ≤ x0) (h1 : x1 + 1 < x2) (h2 : x2 + 2 * x0 = x3) (h3 : (-1) < x4) (h4 : x4 = (-1)) : x3 = x1 := by omega
theorem la_codeWays_61 {x0 x1 x2 : Int} (h0 : (-1) < x0) (h1 : x0 = (-1)) : x1 = x2 := by omega
theorem la_codeWays_62 {x0 x1 x2 x3 x4 : Int} (h0 : x0 + 2 * x1 ≤ 500) (h1 : x2 < x1) (h2 : x0 + 2 * x2 = x3) (h3 : (-1) < x4) (h4 : x4 = (-1)) : x3 = 639 := by omega
theorem la_codeWays_63 {x0 x1 x2 x3 : Int} (h0 : x0 ≤ 11) (h1 : x1 ≤ 19) (h2 : 1 ≤ x2) (h3 : x2 < x0) (h4 : x3 < x1) (h5 : (-1) < x3) : 0 ≤ x3 ∧ x3 ≤ 600 ∧ 1 ≤ x0 ∧ x0 ≤ 4001 := by omega
theorem la_codeWays_64 : (635639 : Int) ≤ 647751 ∧ (647751 : Int) < 647800 := by omega
theorem la_codeWays_65 {x0 x1 x2 x3 x4 : Int} (h0 : x0 ≤ 127) (h1 : 1 ≤ x1) (h2 : x0 = 29 + 6 * (x1 - 1) + 2 * x2) (h3 : x3 < x2) (h4 : (-1) < x3) (h5 : x4 = 29 + 6 * (x1 - 1) + 2 * x3) : sv_R (x4 + 1) := by omega
theorem la_codeWays_66 {x0 x1 : Int} (h0 : (-1) < x0) (h1 : x0 = (-1)) : 0 ≤ x1 := by omega
theorem la_codeWays_67 {x0 x1 x2 x3 x4 x5 x6 x7 x8 x9 x10 x11 x12 x13 x14 x15 x16 x17 x18 x19 x20 : Int} (h0 : 641 * (x0 + x1 + x2 + x3) + x4 ≤ 641 * (x5 + x6 + x7 + x8) + x9) (h1 : x10 = x1) (h2 : x11 = x2) (h3 : x12 = x3) (h4 : x13 = x10) (h5 : x14 = x13) (h6 : x15 = x14) (h7 : 641 * (x16 + x17 + x18 + x19) + x20 ≤ 641 * (x0 + x15 + x11 + x12) + x4) : 641 * (x16 + x17 + x18 + x19) + x20 ≤ 641 * (x5 + x6 + x7 + x8) + x9 := by omega
theorem la_codeWays_68 {x0 x1 x2 x3 x4 x5 x6 x7 x8 x9 x10 x11 x12 x13 x14 x15 x16 x17 x18 x19 x20 x21 : Int} (h0 : 641 * (x0 + x1 + x2 + x3) + x4 ≤ 641 * (x5 + x6 + x7 + x8) + x9) (h1 : x10 = x1) (h2 : x11 = x2) (h3 : x12 = x3) (h4 : x13 = x10) (h5 : x14 = x13) (h6 : x15 = x14) (h7 : x16 = x15) (h8 : 641 * (x17 + x18 + x19 + x20) + x21 ≤ 641 * (x0 + x16 + x11 + x12) + x4) : 641 * (x17 + x18 + x19 + x20) + x21 ≤ 641 * (x5 + x6 + x7 + x8) + x9 := by omega
theorem la_codeWays_69 {x0 : Int} (h0 : ¬ ¬ x0 = 0) : ¬ x0 = 1 := by omega
theorem la_codeWays_70 {x0 : Int} (h0 : ¬ ¬ x0 = 0) : 0 ≤ x0 ∧ x0 ≤ 1 := by omega
set_option maxHeartbeats 2000000 in
theorem f_codeWays : ∀ (p1 : Int) (p2 : Int) (p4 : Int) (p6 : Int) (p7 : Int) (p8 : Int) (p9 : Int) (p10 : Int) (S : sv_S), sm_ok S → sv_R p1 → sv_RL p2 → sv_RL p4 → sv_R p6 → sv_R p7 → sv_R p8 → sv_R p9 → sv_R p10 → (29 ≤ (S 1071 0) ∧ (S 1071 0) ≤ 127 ∧ 31 ≤ (S 1008 0) ∧ (S 1008 0) ≤ 90 ∧ 1 ≤ (S 1032 0) ∧ (S 1032 0) ≤ 11 ∧ 0 ≤ (S 1055 0) ∧ (S 1055 0) ≤ 19 ∧ (S 1071 0) = 29 + 6 * ((S 1032 0) - 1) + 2 * (S 1055 0) ∧ 0 ≤ (S 1046 0) ∧ (S 1046 0) + 2 * (S 1032 0) ≤ 500 ∧ sm_PD (S 1046 0) (S 1032 0) (S 1071 0) (S 1008 0) ∧ 0 ≤ (S 1071 0) * ((S 1008 0) + 1) ∧ (S 1071 0) * ((S 1008 0) + 1) ≤ 11557 ∧ 31 ≤ (S 1007 0) ∧ (S 1007 0) ≤ 400 ∧ sm_LN (S 4) 400 (S 1007 0) ∧ (S 75 639) = 647340 ∧ sm_ST (S 71) (S 74) (S 75) (S 78) (S 79) (S 80) (S 27) (S 1100007) (S 1100023) (S 1100024) (S 1046 0) ((S 1046 0) + 2 * (S 1032 0)) (S 1127 0) ∧ 465000 ≤ (S 1127 0) ∧ (S 1127 0) + sm_hs (S 71) (S 1100007) ≤ 635000 ∧ sm_NH (S 1100007) ∧ sm_CT (S 26) (S 27) (S 28) (S 29) (S 1100007) (S 1100023) (S 1100024) (S 1100025) (S 21) (S 1046 0) (S 1032 0) (S 1008 0) (S 1055 0) ∧ (∀ k : Int, (S 1046 0) ≤ k → k < ((S 1046 0) + 2 * (S 1032 0)) → (S 1100007 k) = 1) ∧ sm_DR (S 72) (S 71) (S 1046 0) ∧ 0 ≤ (S 1148 0) ∧ (S 1148 0) < (S 1046 0) ∧ (S 71 (S 1148 0)) = 1 ∧ (∀ g : Int, 0 ≤ g → g < (S 1032 0) → 0 ≤ (S 30 g) ∧ (S 30 g) < (S 1046 0) ∧ (S 1100007 (S 30 g)) = 0 ∧ (S 1100023 (S 30 g)) = -1 ∧ 0 ≤ (S 33 g) ∧ (S 33 g) ≤ 100 ∧ 0 ≤ (S 20 g) ∧ (S 20 g) ≤ 8) ∧ sm_VN (S 32) (S 33) (S 1032 0) (S 1008 0) ∧ 0 ≤ (S 1147 0) ∧ (S 1147 0) ≤ 12 ∧ (∀ k : Int, 0 ≤ k → k < (S 1147 0) → 635639 ≤ (S 91 k) ∧ (S 91 k) < 647800) ∧ 1 ≤ p1 ∧ p1 < (S 1032 0) ∧ -1 ≤ p6 ∧ p6 ≤ 450 ∧ 0 ≤ p7 ∧ p7 ≤ 450 ∧ 0 ≤ p8 ∧ p8 ≤ 8 ∧ 1 ≤ p9 ∧ p9 ≤ (S 1100007 (S 1148 0)) ∧ (S 1100007 ((S 1148 0) + 1)) = (S 1100007 (S 1148 0)) - p9 + 1 ∧ (S 1148 0) + 1 < (S 1046 0) ∧ (S 1100023 ((S 1148 0) + 1)) = (S 1100023 (S 1148 0)) ∧ -1 ≤ p10 ∧ p10 < (S 1055 0)) → ((sm_CT (S 26) (S 27) (S 28) (S 29) (S 1100007) (S 1100023) (S 1100024) (S 1100025) (S 21) (S 1046 0) (S 1032 0) (S 1008 0) (S 1055 0) → 0 ≤ (S 1148 0) → (S 1148 0) < (S 1046 0) → 0 ≤ (S 1100007 (S 1148 0)) ∧ (S 1100007 (S 1148 0)) ≤ 396 ∧ -1 ≤ (S 1100023 (S 1148 0)) ∧ (S 1100023 (S 1148 0)) < (S 1148 0)) → (∀ x2 : Int, (((29 : Int) + ((6 : Int) * (p1 - (1 : Int)))) + (2 : Int)) = x2 → (sv_R x2) ∧ (0 ≤ x2 ∧ x2 < 128) ∧ (∀ r10 : Int, sv_R r10 → (r10 = sm_in p2 p4 x2 ∧ (r10 = 0 ∨ r10 = 1)) → (sv_R (x2 + (1 : Int))) ∧ (0 ≤ (x2 + (1 : Int)) ∧ (x2 + (1 : Int)) < 128) ∧ (∀ r17 : Int, sv_R r17 → (r17 = sm_in p2 p4 (x2 + (1 : Int)) ∧ (r17 = 0 ∨ r17 = 1)) → (((¬ r10 = (0 : Int)) → (29 ≤ (S 1071 0) ∧ (S 1071 0) ≤ 127 ∧ 31 ≤ (S 1008 0) ∧ (S 1008 0) ≤ 90 ∧ 1 ≤ (S 1032 0) ∧ (S 1032 0) ≤ 11 ∧ 0 ≤ (S 1055 0) ∧ (S 1055 0) ≤ 19 ∧ (S 1071 0) = 29 + 6 * ((S 1032 0) - 1) + 2 * (S 1055 0) ∧ 0 ≤ (S 1046 0) ∧ (S 1046 0) + 2 * (S 1032 0) ≤ 500 ∧ sm_PD (S 1046 0) (S 1032 0) (S 1071 0) (S 1008 0) ∧ 0 ≤ (S 1071 0) * ((S 1008 0) + 1) ∧ (S 1071 0) * ((S 1008 0) + 1) ≤ 11557 ∧ 31 ≤ (S 1007 0) ∧ (S 1007 0) ≤ 400 ∧ sm_LN (S 4) 400 (S 1007 0) ∧ (S 75 639) = 647340 ∧ sm_ST (S 71) (S 74) (S 75) (S 78) (S 79) (S 80) (S 27) (S 1100007) (S 1100023) (S 1100024) (S 1046 0) ((S 1046 0) + 2 * (S 1032 0)) (S 1127 0) ∧ 465000 ≤ (S 1127 0) ∧ (S 1127 0) + sm_hs (S 71) (S 1100007) ≤ 635000 ∧ sm_NH (S 1100007) ∧ sm_CT (S 26) (S 27) (S 28) (S 29) (S 1100007) (S 1100023) (S 1100024) (S 1100025) (S 21) (S 1046 0) (S 1032 0) (S 1008 0) (S 1055 0) ∧ (∀ k : Int, (S 1046 0) ≤ k → k < ((S 1046 0) + 2 * (S 1032 0)) → (S 1100007 k) = 1) ∧ sm_DR (S 72) (S 71) (S 1046 0) ∧ 0 ≤ (S 1148 0) ∧ (S 1148 0) < (S 1046 0) ∧ (S 71 (S 1148 0)) = 1 ∧ -1 ≤ p10 ∧ p10 < (S 1055 0) ∧ 0 ≤ (S 1147 0) ∧ (S 1147 0) ≤ 12 ∧ (∀ k : Int, 0 ≤ k → k < (S 1147 0) → 635639 ≤ (S 91 k) ∧ (S 91 k) < 647800)) ∧ (∀ g19 : sv_S, (sm_ST (g19 71) (g19 74) (g19 75) (g19 78) (g19 79) (g19 80) (S 27) (S 1100007) (S 1100023) (S 1100024) (S 1046 0) ((S 1046 0) + 2 * (S 1032 0)) (g19 1127 0) ∧ 465000 ≤ (g19 1127 0) ∧ (g19 1127 0) + sm_hs (g19 71) (S 1100007) ≤ 635000 ∧ (g19 75 639) = 647340 ∧ (∀ k : Int, (S 71 k) = 1 → (g19 71 k) = 1) ∧ sm_DR (g19 72) (g19 71) (S 1046 0) ∧ (641 * (sm_cm (g19 71) + sm_pt (g19 68) (g19 69) (g19 70) + sm_pl (g19 81) (g19 82) (g19 83) (g19 84) (g19 85) (g19 86) + sm_ps (g19 76) (g19 77)) + sm_du (g19 72)) ≤ (641 * (sm_cm (S 71) + sm_pt (S 68) (S 69) (S 70) + sm_pl (S 81) (S 82) (S 83) (S 84) (S 85) (S 86) + sm_ps (S 76) (S 77)) + sm_du (S 72)) ∧ 0 ≤ (g19 74 639) ∧ (g19 74 639) ≤ 400 ∧ 0 ≤ (g19 78 639) ∧ (g19 78 639) ≤ 40 ∧ (g19 78 639) = sm_dp (S 1100024) (g19 1100031 0) ∧ -1 ≤ (g19 1100031 0) ∧ (g19 1100031 0) < (S 1046 0) ∧ (0 ≤ (g19 1100031 0) → (S 26 (g19 1100031 0)) = 27) ∧ sm_TC (g19 79) (g19 80) (S 27) (S 1100007) (S 1100023) (S 1100024) 25560 (g19 1100031 0) ∧ (g19 74 639) = (S 1100007 (S 1148 0)) ∧ (g19 1100031 0) = (S 1100023 (S 1148 0)) ∧ 0 ≤ (g19 1147 0) ∧ (g19 1147 0) ≤ 12 ∧ (∀ k : Int, 0 ≤ k → k < (g19 1147 0) → 635639 ≤ (g19 91 k) ∧ (g19 91 k) < 647800)) → (0 ≤ r10 ∧ r10 ≤ 1) ∧ (0 ≤ r17 ∧ r17 ≤ 1) ∧ (29 ≤ (S 1071 0) ∧ (S 1071 0) ≤ 127 ∧ 31 ≤ (S 1008 0) ∧ (S 1008 0) ≤ 90 ∧ 1 ≤ (S 1032 0) ∧ (S 1032 0) ≤ 11 ∧ 0 ≤ (S 1055 0) ∧ (S 1055 0) ≤ 19 ∧ (S 1071 0) = 29 + 6 * ((S 1032 0) - 1) + 2 * (S 1055 0) ∧ 0 ≤ (S 1046 0) ∧ (S 1046 0) + 2 * (S 1032 0) ≤ 500 ∧ sm_PD (S 1046 0) (S 1032 0) (S 1071 0) (S 1008 0) ∧ 0 ≤ (S 1071 0) * ((S 1008 0) + 1) ∧ (S 1071 0) * ((S 1008 0) + 1) ≤ 11557 ∧ 31 ≤ (S 1007 0) ∧ (S 1007 0) ≤ 400 ∧ sm_LN (S 4) 400 (S 1007 0) ∧ (g19 75 639) = 647340 ∧ sm_ST (g19 71) (g19 74) (g19 75) (g19 78) (g19 79) (g19 80) (S 27) (S 1100007) (S 1100023) (S 1100024) (S 1046 0) ((S 1046 0) + 2 * (S 1032 0)) (g19 1127 0) ∧ 465000 ≤ (g19 1127 0) ∧ (g19 1127 0) + sm_hs (g19 71) (S 1100007) ≤ 635000 ∧ sm_NH (S 1100007) ∧ sm_CT (S 26) (S 27) (S 28) (S 29) (S 1100007) (S 1100023) (S 1100024) (S 1100025) (S 21) (S 1046 0) (S 1032 0) (S 1008 0) (S 1055 0) ∧ (∀ k : Int, (S 1046 0) ≤ k → k < ((S 1046 0) + 2 * (S 1032 0)) → (S 1100007 k) = 1) ∧ sm_DR (g19 72) (g19 71) (S 1046 0) ∧ 0 ≤ (g19 74 639) ∧ (g19 74 639) ≤ 400 ∧ 0 ≤ (g19 78 639) ∧ (g19 78 639) ≤ 40 ∧ (g19 78 639) = sm_dp (S 1100024) (g19 1100031 0) ∧ -1 ≤ (g19 1100031 0) ∧ (g19 1100031 0) < (S 1046 0) ∧ (0 ≤ (g19 1100031 0) → (S 26 (g19 1100031 0)) = 27) ∧ sm_TC (g19 79) (g19 80) (S 27) (S 1100007) (S 1100023) (S 1100024) 25560 (g19 1100031 0) ∧ (∀ g : Int, 0 ≤ g → g < (S 1032 0) → 0 ≤ (S 30 g) ∧ (S 30 g) < (S 1046 0) ∧ (S 1100007 (S 30 g)) = 0 ∧ (S 1100023 (S 30 g)) = -1 ∧ 0 ≤ (S 33 g) ∧ (S 33 g) ≤ 100 ∧ 0 ≤ (S 20 g) ∧ (S 20 g) ≤ 8) ∧ sm_VN (S 32) (S 33) (S 1032 0) (S 1008 0) ∧ 0 ≤ (g19 1147 0) ∧ (g19 1147 0) ≤ 12 ∧ (∀ k : Int, 0 ≤ k → k < (g19 1147 0) → 635639 ≤ (g19 91 k) ∧ (g19 91 k) < 647800) ∧ 1 ≤ p1 ∧ p1 < (S 1032 0) ∧ -1 ≤ p6 ∧ p6 ≤ 450 ∧ 0 ≤ p7 ∧ p7 ≤ 450 ∧ 0 ≤ p8 ∧ p8 ≤ 8 ∧ -1 ≤ p10 ∧ p10 < (S 1055 0)) ∧ (∀ g27 : sv_S, (sm_ST (g27 71) (g27 74) (g27 75) (g27 78) (g27 79) (g27 80) (S 27) (S 1100007) (S 1100023) (S 1100024) (S 1046 0) ((S 1046 0) + 2 * (S 1032 0)) (g27 1127 0) ∧ 465000 ≤ (g27 1127 0) ∧ (g27 1127 0) + sm_hs (g27 71) (S 1100007) ≤ 635000 ∧ (g27 75 639) = 647340 ∧ (∀ k : Int, (g19 71 k) = 1 → (g27 71 k) = 1) ∧ sm_DR (g27 72) (g27 71) (S 1046 0) ∧ (641 * (sm_cm (g27 71) + sm_pt (g27 68) (g27 69) (g27 70) + sm_pl (g27 81) (g27 82) (g27 83) (g27 84) (g27 85) (g27 86) + sm_ps (g27 76) (g27 77)) + sm_du (g27 72)) ≤ (641 * (sm_cm (g19 71) + sm_pt (g19 68) (g19 69) (g19 70) + sm_pl (g19 81) (g19 82) (g19 83) (g19 84) (g19 85) (g19 86) + sm_ps (g19 76) (g19 77)) + sm_du (g19 72))) → (sv_R (S 1046 0) → (∀ x33 : Int, ((S 1046 0) + ((2 : Int) * p1)) = x33 → ((∀ g35 : sv_S, (sm_ST (g35 71) (g35 74) (g35 75) (g35 78) (g35 79) (g35 80) (S 27) (S 1100007) (S 1100023) (S 1100024) (S 1046 0) ((S 1046 0) + 2 * (S 1032 0)) (g35 1127 0) ∧ 465000 ≤ (g35 1127 0) ∧ (g35 1127 0) + sm_hs (g35 71) (S 1100007) ≤ 635000 ∧ (g35 75 639) = 647340 ∧ (∀ k : Int, (g27 71 k) = 1 → (g35 71 k) = 1) ∧ sm_DR (g35 72) (g35 71) (S 1046 0) ∧ (641 * (sm_cm (g35 71) + sm_pt (g35 68) (g35 69) (g35 70) + sm_pl (g35 81) (g35 82) (g35 83) (g35 84) (g35 85) (g35 86) + sm_ps (g35 76) (g35 77)) + sm_du (g35 72)) ≤ (641 * (sm_cm (g27 71) + sm_pt (g27 68) (g27 69) (g27 70) + sm_pl (g27 81) (g27 82) (g27 83) (g27 84) (g27 85) (g27 86) + sm_ps (g27 76) (g27 77)) + sm_du (g27 72)) ∧ 0 ≤ (g35 1147 0) ∧ (g35 1147 0) ≤ 12 ∧ (∀ k : Int, 0 ≤ k → k < (g35 1147 0) → 635639 ≤ (g35 91 k) ∧ (g35 91 k) < 647800)) → (0 ≤ (x33 + (1 : Int)) ∧ (x33 + (1 : Int)) < 640) ∧ ((0 ≤ (g35 71 (x33 + (1 : Int))) ∧ (g35 71 (x33 + (1 : Int))) ≤ 1) → ((((g35 71 (x33 + (1 : Int))) = (0 : Int)) → (sm_ST (g35 71) (g35 74) (g35 75) (g35 78) (g35 79) (g35 80) (S 27) (S 1100007) (S 1100023) (S 1100024) (S 1046 0) ((S 1046 0) + 2 * (S 1032 0)) (g35 1127 0) ∧ 465000 ≤ (g35 1127 0) ∧ (g35 1127 0) + sm_hs (g35 71) (S 1100007) ≤ 635000 ∧ (g35 75 639) = 647340 ∧ (∀ k : Int, (S 71 k) = 1 → (g35 71 k) = 1) ∧ sm_DR (g35 72) (g35 71) (S 1046 0) ∧ (641 * (sm_cm (g35 71) + sm_pt (g35 68) (g35 69) (g35 70) + sm_pl (g35 81) (g35 82) (g35 83) (g35 84) (g35 85) (g35 86) + sm_ps (g35 76) (g35 77)) + sm_du (g35 72)) ≤ (641 * (sm_cm (S 71) + sm_pt (S 68) (S 69) (S 70) + sm_pl (S 81) (S 82) (S 83) (S 84) (S 85) (S 86) + sm_ps (S 76) (S 77)) + sm_du (S 72)) ∧ 0 ≤ (g35 1147 0) ∧ (g35 1147 0) ≤ 12 ∧ (∀ k : Int, 0 ≤ k → k < (g35 1147 0) → 635639 ≤ (g35 91 k) ∧ (g35 91 k) < 647800))) ∧ ((¬ ((g35 71 (x33 + (1 : Int))) = (0 : Int))) → (29 ≤ (S 1071 0) ∧ (S 1071 0) ≤ 127 ∧ 31 ≤ (S 1008 0) ∧ (S 1008 0) ≤ 90 ∧ 1 ≤ (S 1032 0) ∧ (S 1032 0) ≤ 11 ∧ 0 ≤ (S 1055 0) ∧ (S 1055 0) ≤ 19 ∧ (S 1071 0) = 29 + 6 * ((S 1032 0) - 1) + 2 * (S 1055 0) ∧ 0 ≤ (S 1046 0) ∧ (S 1046 0) + 2 * (S 1032 0) ≤ 500 ∧ sm_PD (S 1046 0) (S 1032 0) (S 1071 0) (S 1008 0) ∧ 0 ≤ (S 1071 0) * ((S 1008 0) + 1) ∧ (S 1071 0) * ((S 1008 0) + 1) ≤ 11557 ∧ 31 ≤ (S 1007 0) ∧ (S 1007 0) ≤ 400 ∧ sm_LN (S 4) 400 (S 1007 0) ∧ (g35 75 639) = 647340 ∧ sm_ST (g35 71) (g35 74) (g35 75) (g35 78) (g35 79) (g35 80) (S 27) (S 1100007) (S 1100023) (S 1100024) (S 1046 0) ((S 1046 0) + 2 * (S 1032 0)) (g35 1127 0) ∧ 465000 ≤ (g35 1127 0) ∧ (g35 1127 0) + sm_hs (g35 71) (S 1100007) ≤ 635000 ∧ sm_NH (S 1100007) ∧ sm_CT (S 26) (S 27) (S 28) (S 29) (S 1100007) (S 1100023) (S 1100024) (S 1100025) (S 21) (S 1046 0) (S 1032 0) (S 1008 0) (S 1055 0) ∧ (∀ k : Int, (S 1046 0) ≤ k → k < ((S 1046 0) + 2 * (S 1032 0)) → (S 1100007 k) = 1) ∧ sm_DR (g35 72) (g35 71) (S 1046 0) ∧ 0 ≤ (S 1148 0) ∧ (S 1148 0) < (S 1046 0) ∧ (g35 71 (S 1148 0)) = 1 ∧ -1 ≤ p10 ∧ p10 < (S 1055 0) ∧ 0 ≤ (g35 1147 0) ∧ (g35 1147 0) ≤ 12 ∧ (∀ k : Int, 0 ≤ k → k < (g35 1147 0) → 635639 ≤ (g35 91 k) ∧ (g35 91 k) < 647800)) ∧ (∀ g43 : sv_S, (sm_ST (g43 71) (g43 74) (g43 75) (g43 78) (g43 79) (g43 80) (S 27) (S 1100007) (S 1100023) (S 1100024) (S 1046 0) ((S 1046 0) + 2 * (S 1032 0)) (g43 1127 0) ∧ 465000 ≤ (g43 1127 0) ∧ (g43 1127 0) + sm_hs (g43 71) (S 1100007) ≤ 635000 ∧ (g43 75 639) = 647340 ∧ (∀ k : Int, (g35 71 k) = 1 → (g43 71 k) = 1) ∧ sm_DR (g43 72) (g43 71) (S 1046 0) ∧ (641 * (sm_cm (g43 71) + sm_pt (g43 68) (g43 69) (g43 70) + sm_pl (g43 81) (g43 82) (g43 83) (g43 84) (g43 85) (g43 86) + sm_ps (g43 76) (g43 77)) + sm_du (g43 72)) ≤ (641 * (sm_cm (g35 71) + sm_pt (g35 68) (g35 69) (g35 70) + sm_pl (g35 81) (g35 82) (g35 83) (g35 84) (g35 85) (g35 86) + sm_ps (g35 76) (g35 77)) + sm_du (g35 72)) ∧ 0 ≤ (g43 74 639) ∧ (g43 74 639) ≤ 400 ∧ 0 ≤ (g43 78 639) ∧ (g43 78 639) ≤ 40 ∧ (g43 78 639) = sm_dp (S 1100024) (g43 1100031 0) ∧ -1 ≤ (g43 1100031 0) ∧ (g43 1100031 0) < (S 1046 0) ∧ (0 ≤ (g43 1100031 0) → (S 26 (g43 1100031 0)) = 27) ∧ sm_TC (g43 79) (g43 80) (S 27) (S 1100007) (S 1100023) (S 1100024) 25560 (g43 1100031 0) ∧ (g43 74 639) = (S 1100007 (S 1148 0)) ∧ (g43 1100031 0) = (S 1100023 (S 1148 0)) ∧ 0 ≤ (g43 1147 0) ∧ (g43 1147 0) ≤ 12 ∧ (∀ k : Int, 0 ≤ k → k < (g43 1147 0) → 635639 ≤ (g43 91 k) ∧ (g43 91 k) < 647800)) → (sv_R (x33 + (1 : Int))) ∧ (29 ≤ (S 1071 0) ∧ (S 1071 0) ≤ 127 ∧ 31 ≤ (S 1008 0) ∧ (S 1008 0) ≤ 90 ∧ 1 ≤ (S 1032 0) ∧ (S 1032 0) ≤ 11 ∧ 0 ≤ (S 1055 0) ∧ (S 1055 0) ≤ 19 ∧ (S 1071 0) = 29 + 6 * ((S 1032 0) - 1) + 2 * (S 1055 0) ∧ 0 ≤ (S 1046 0) ∧ (S 1046 0) + 2 * (S 1032 0) ≤ 500 ∧ sm_PD (S 1046 0) (S 1032 0) (S 1071 0) (S 1008 0) ∧ 0 ≤ (S 1071 0) * ((S 1008 0) + 1) ∧ (S 1071 0) * ((S 1008 0) + 1) ≤ 11557 ∧ (g43 75 639) = 647340 ∧ 0 ≤ (g43 74 639) ∧ (g43 74 639) ≤ 400 ∧ 0 ≤ (x33 + (1 : Int)) ∧ (x33 + (1 : Int)) < ((S 1046 0) + 2 * (S 1032 0))) ∧ (∀ g50 : sv_S, (sm_pt (g50 68) (g50 69) (g50 70) = sm_pt (g43 68) (g43 69) (g43 70) ∧ sm_pl (g50 81) (g50 82) (g50 83) (g50 84) (g50 85) (g50 86) = sm_pl (g43 81) (g43 82) (g43 83) (g43 84) (g43 85) (g43 86) ∧ sm_ps (g50 76) (g50 77) = sm_ps (g43 76) (g43 77)) → ((sm_ST (g43 71) (g43 74) (g43 75) (g43 78) (g43 79) (g43 80) (S 27) (S 1100007) (S 1100023) (S 1100024) (S 1046 0) ((S 1046 0) + 2 * (S 1032 0)) (g43 1127 0) → 0 ≤ (x33 + 1) → (x33 + 1) < ((S 1046 0) + 2 * (S 1032 0)) → (g43 71 (x33 + 1)) = 1 → (g43 74 (x33 + 1)) = (S 1100007 (x33 + 1)) ∧ 465000 ≤ (g43 75 (x33 + 1)) ∧ (g43 75 (x33 + 1)) + (g43 74 (x33 + 1)) ≤ (g43 1127 0) ∧ 0 ≤ (g43 78 (x33 + 1)) ∧ (g43 78 (x33 + 1)) ≤ 40) → ((sm_NH (S 1100007) → 0 ≤ sm_hs (g43 71) (S 1100007)) → (sv_R (g43 75 (x33 + (1 : Int))) → (0 ≤ (g43 75 (x33 + (1 : Int))) ∧ (g43 75 (x33 + (1 : Int))) < 647800 ∧ 635639 ≤ (647751 : Int) ∧ (647751 : Int) < 647800) ∧ (∀ g59 : sv_S, (sm_pt (g59 68) (g59 69) (g59 70) = sm_pt (g50 68) (g50 69) (g50 70)) → (29 ≤ (S 1071 0) ∧ (S 1071 0) ≤ 127 ∧ 31 ≤ (S 1008 0) ∧ (S 1008 0) ≤ 90 ∧ 1 ≤ (S 1032 0) ∧ (S 1032 0) ≤ 11 ∧ 0 ≤ (S 1055 0) ∧ (S 1055 0) ≤ 19 ∧ (S 1071 0) = 29 + 6 * ((S 1032 0) - 1) + 2 * (S 1055 0) ∧ 0 ≤ (S 1046 0) ∧ (S 1046 0) + 2 * (S 1032 0) ≤ 500 ∧ sm_PD (S 1046 0) (S 1032 0) (S 1071 0) (S 1008 0) ∧ 0 ≤ (S 1071 0) * ((S 1008 0) + 1) ∧ (S 1071 0) * ((S 1008 0) + 1) ≤ 11557 ∧ 31 ≤ (S 1007 0) ∧ (S 1007 0) ≤ 400 ∧ sm_LN (S 4) 400 (S 1007 0) ∧ (g43 75 639) = 647340 ∧ sm_ST (g43 71) (g43 74) (g43 75) (g43 78) (g43 79) (g43 80) (S 27) (S 1100007) (S 1100023) (S 1100024) (S 1046 0) ((S 1046 0) + 2 * (S 1032 0)) (g43 1127 0) ∧ 465000 ≤ (g43 1127 0) ∧ (g43 1127 0) + sm_hs (g43 71) (S 1100007) ≤ 635000 ∧ sm_NH (S 1100007) ∧ sm_CT (S 26) (S 27) (S 28) (S 29) (S 1100007) (S 1100023) (S 1100024) (S 1100025) (S 21) (S 1046 0) (S 1032 0) (S 1008 0) (S 1055 0) ∧ (∀ k : Int, (S 1046 0) ≤ k → k < ((S 1046 0) + 2 * (S 1032 0)) → (S 1100007 k) = 1) ∧ sm_DR (g43 72) (g43 71) (S 1046 0) ∧ 0 ≤ (g43 74 639) ∧ (g43 74 639) ≤ 400 ∧ 0 ≤ (g43 78 639) ∧ (g43 78 639) ≤ 40 ∧ (g43 78 639) = sm_dp (S 1100024) (g43 1100031 0) ∧ -1 ≤ (g43 1100031 0) ∧ (g43 1100031 0) < (S 1046 0) ∧ (0 ≤ (g43 1100031 0) → (S 26 (g43 1100031 0)) = 27) ∧ sm_TC (g43 79) (g43 80) (S 27) (S 1100007) (S 1100023) (S 1100024) 25560 (g43 1100031 0) ∧ 0 ≤ (S 1148 0) ∧ (S 1148 0) < (S 1046 0) ∧ 0 ≤ (647751 : Int) ∧ (647751 : Int) < 647800) ∧ (∀ g65 : sv_S, (sm_ST (g65 71) (g65 74) (g65 75) (g65 78) (g65 79) (g65 80) (S 27) (S 1100007) (S 1100023) (S 1100024) (S 1046 0) ((S 1046 0) + 2 * (S 1032 0)) (g65 1127 0) ∧ 465000 ≤ (g65 1127 0) ∧ (g65 1127 0) + sm_hs (g65 71) (S 1100007) ≤ 635000 ∧ (g65 75 639) = 647340 ∧ (∀ k : Int, (g43 71 k) = 1 → (g65 71 k) = 1) ∧ sm_DR (g65 72) (g65 71) (S 1046 0) ∧ (641 * (sm_cm (g65 71) + sm_pt (g65 68) (g65 69) (g65 70) + sm_pl (g65 81) (g65 82) (g65 83) (g65 84) (g65 85) (g65 86) + sm_ps (g65 76) (g65 77)) + sm_du (g65 72)) ≤ (641 * (sm_cm (g43 71) + sm_pt (g59 68) (g59 69) (g59 70) + sm_pl (g50 81) (g50 82) (g50 83) (g50 84) (g50 85) (g50 86) + sm_ps (g50 76) (g50 77)) + sm_du (g43 72))) → (sm_ST (g65 71) (g65 74) (g65 75) (g65 78) (g65 79) (g65 80) (S 27) (S 1100007) (S 1100023) (S 1100024) (S 1046 0) ((S 1046 0) + 2 * (S 1032 0)) (g65 1127 0) ∧ 465000 ≤ (g65 1127 0) ∧ (g65 1127 0) + sm_hs (g65 71) (S 1100007) ≤ 635000 ∧ (g65 75 639) = 647340 ∧ (∀ k : Int, (S 71 k) = 1 → (g65 71 k) = 1) ∧ sm_DR (g65 72) (g65 71) (S 1046 0) ∧ (641 * (sm_cm (g65 71) + sm_pt (g65 68) (g65 69) (g65 70) + sm_pl (g65 81) (g65 82) (g65 83) (g65 84) (g65 85) (g65 86) + sm_ps (g65 76) (g65 77)) + sm_du (g65 72)) ≤ (641 * (sm_cm (S 71) + sm_pt (S 68) (S 69) (S 70) + sm_pl (S 81) (S 82) (S 83) (S 84) (S 85) (S 86) + sm_ps (S 76) (S 77)) + sm_du (S 72)) ∧ 0 ≤ (g43 1147 0) ∧ (g43 1147 0) ≤ 12 ∧ (∀ k : Int, 0 ≤ k → k < (g43 1147 0) → 635639 ≤ (g43 91 k) ∧ (g43 91 k) < 647800))))))))))))) ∧ (0 ≤ x33 ∧ x33 < 640) ∧ ((0 ≤ (g27 71 x33) ∧ (g27 71 x33) ≤ 1) → ((((g27 71 x33) = (0 : Int)) → (sm_ST (g27 71) (g27 74) (g27 75) (g27 78) (g27 79) (g27 80) (S 27) (S 1100007) (S 1100023) (S 1100024) (S 1046 0) ((S 1046 0) + 2 * (S 1032 0)) (g27 1127 0) ∧ 465000 ≤ (g27 1127 0) ∧ (g27 1127 0) + sm_hs (g27 71) (S 1100007) ≤ 635000 ∧ (g27 75 639) = 647340 ∧ (∀ k : Int, (g27 71 k) = 1 → (g27 71 k) = 1) ∧ sm_DR (g27 72) (g27 71) (S 1046 0) ∧ (641 * (sm_cm (g27 71) + sm_pt (g27 68) (g27 69) (g27 70) + sm_pl (g27 81) (g27 82) (g27 83) (g27 84) (g27 85) (g27 86) + sm_ps (g27 76) (g27 77)) + sm_du (g27 72)) ≤ (641 * (sm_cm (g27 71) + sm_pt (g27 68) (g27 69) (g27 70) + sm_pl (g27 81) (g27 82) (g27 83) (g27 84) (g27 85) (g27 86) + sm_ps (g27 76) (g27 77)) + sm_du (g27 72)) ∧ 0 ≤ (g19 1147 0) ∧ (g19 1147 0) ≤ 12 ∧ (∀ k : Int, 0 ≤ k → k < (g19 1147 0) → 635639 ≤ (g19 91 k) ∧ (g19 91 k) < 647800))) ∧ ((¬ ((g27 71 x33) = (0 : Int))) → (29 ≤ (S 1071 0) ∧ (S 1071 0) ≤ 127 ∧ 31 ≤ (S 1008 0) ∧ (S 1008 0) ≤ 90 ∧ 1 ≤ (S 1032 0) ∧ (S 1032 0) ≤ 11 ∧ 0 ≤ (S 1055 0) ∧ (S 1055 0) ≤ 19 ∧ (S 1071 0) = 29 + 6 * ((S 1032 0) - 1) + 2 * (S 1055 0) ∧ 0 ≤ (S 1046 0) ∧ (S 1046 0) + 2 * (S 1032 0) ≤ 500 ∧ sm_PD (S 1046 0) (S 1032 0) (S 1071 0) (S 1008 0) ∧ 0 ≤ (S 1071 0) * ((S 1008 0) + 1) ∧ (S 1071 0) * ((S 1008 0) + 1) ≤ 11557 ∧ 31 ≤ (S 1007 0) ∧ (S 1007 0) ≤ 400 ∧ sm_LN (S 4) 400 (S 1007 0) ∧ (g27 75 639) = 647340 ∧ sm_ST (g27 71) (g27 74) (g27 75) (g27 78) (g27 79) (g27 80) (S 27) (S 1100007) (S 1100023) (S 1100024) (S 1046 0) ((S 1046 0) + 2 * (S 1032 0)) (g27 1127 0) ∧ 465000 ≤ (g27 1127 0) ∧ (g27 1127 0) + sm_hs (g27 71) (S 1100007) ≤ 635000 ∧ sm_NH (S 1100007) ∧ sm_CT (S 26) (S 27) (S 28) (S 29) (S 1100007) (S 1100023) (S 1100024) (S 1100025) (S 21) (S 1046 0) (S 1032 0) (S 1008 0) (S 1055 0) ∧ (∀ k : Int, (S 1046 0) ≤ k → k < ((S 1046 0) + 2 * (S 1032 0)) → (S 1100007 k) = 1) ∧ sm_DR (g27 72) (g27 71) (S 1046 0) ∧ 0 ≤ (S 1148 0) ∧ (S 1148 0) < (S 1046 0) ∧ (g27 71 (S 1148 0)) = 1 ∧ -1 ≤ p10 ∧ p10 < (S 1055 0) ∧ 0 ≤ (g19 1147 0) ∧ (g19 1147 0) ≤ 12 ∧ (∀ k : Int, 0 ≤ k → k < (g19 1147 0) → 635639 ≤ (g19 91 k) ∧ (g19 91 k) < 647800)) ∧ (∀ g74 : sv_S, (sm_ST (g74 71) (g74 74) (g74 75) (g74 78) (g74 79) (g74 80) (S 27) (S 1100007) (S 1100023) (S 1100024) (S 1046 0) ((S 1046 0) + 2 * (S 1032 0)) (g74 1127 0) ∧ 465000 ≤ (g74 1127 0) ∧ (g74 1127 0) + sm_hs (g74 71) (S 1100007) ≤ 635000 ∧ (g74 75 639) = 647340 ∧ (∀ k : Int, (g27 71 k) = 1 → (g74 71 k) = 1) ∧ sm_DR (g74 72) (g74 71) (S 1046 0) ∧ (641 * (sm_cm (g74 71) + sm_pt (g74 68) (g74 69) (g74 70) + sm_pl (g74 81) (g74 82) (g74 83) (g74 84) (g74 85) (g74 86) + sm_ps (g74 76) (g74 77)) + sm_du (g74 72)) ≤ (641 * (sm_cm (g27 71) + sm_pt (g27 68) (g27 69) (g27 70) + sm_pl (g27 81) (g27 82) (g27 83) (g27 84) (g27 85) (g27 86) + sm_ps (g27 76) (g27 77)) + sm_du (g27 72)) ∧ 0 ≤ (g74 74 639) ∧ (g74 74 639) ≤ 400 ∧ 0 ≤ (g74 78 639) ∧ (g74 78 639) ≤ 40 ∧ (g74 78 639) = sm_dp (S 1100024) (g74 1100031 0) ∧ -1 ≤ (g74 1100031 0) ∧ (g74 1100031 0) < (S 1046 0) ∧ (0 ≤ (g74 1100031 0) → (S 26 (g74 1100031 0)) = 27) ∧ sm_TC (g74 79) (g74 80) (S 27) (S 1100007) (S 1100023) (S 1100024) 25560 (g74 1100031 0) ∧ (g74 74 639) = (S 1100007 (S 1148 0)) ∧ (g74 1100031 0) = (S 1100023 (S 1148 0)) ∧ 0 ≤ (g74 1147 0) ∧ (g74 1147 0) ≤ 12 ∧ (∀ k : Int, 0 ≤ k → k < (g74 1147 0) → 635639 ≤ (g74 91 k) ∧ (g74 91 k) < 647800)) → (sv_R x33) ∧ (29 ≤ (S 1071 0) ∧ (S 1071 0) ≤ 127 ∧ 31 ≤ (S 1008 0) ∧ (S 1008 0) ≤ 90 ∧ 1 ≤ (S 1032 0) ∧ (S 1032 0) ≤ 11 ∧ 0 ≤ (S 1055 0) ∧ (S 1055 0) ≤ 19 ∧ (S 1071 0) = 29 + 6 * ((S 1032 0) - 1) + 2 * (S 1055 0) ∧ 0 ≤ (S 1046 0) ∧ (S 1046 0) + 2 * (S 1032 0) ≤ 500 ∧ sm_PD (S 1046 0) (S 1032 0) (S 1071 0) (S 1008 0) ∧ 0 ≤ (S 1071 0) * ((S 1008 0) + 1) ∧ (S 1071 0) * ((S 1008 0) + 1) ≤ 11557 ∧ (g74 75 639) = 647340 ∧ 0 ≤ (g74 74 639) ∧ (g74 74 639) ≤ 400 ∧ 0 ≤ x33 ∧ x33 < ((S 1046 0) + 2 * (S 1032 0))) ∧ (∀ g82 : sv_S, (sm_pt (g82 68) (g82 69) (g82 70) = sm_pt (g74 68) (g74 69) (g74 70) ∧ sm_pl (g82 81) (g82 82) (g82 83) (g82 84) (g82 85) (g82 86) = sm_pl (g74 81) (g74 82) (g74 83) (g74 84) (g74 85) (g74 86) ∧ sm_ps (g82 76) (g82 77) = sm_ps (g74 76) (g74 77)) → ((sm_ST (g74 71) (g74 74) (g74 75) (g74 78) (g74 79) (g74 80) (S 27) (S 1100007) (S 1100023) (S 1100024) (S 1046 0) ((S 1046 0) + 2 * (S 1032 0)) (g74 1127 0) → 0 ≤ x33 → x33 < ((S 1046 0) + 2 * (S 1032 0)) → (g74 71 x33) = 1 → (g74 74 x33) = (S 1100007 x33) ∧ 465000 ≤ (g74 75 x33) ∧ (g74 75 x33) + (g74 74 x33) ≤ (g74 1127 0) ∧ 0 ≤ (g74 78 x33) ∧ (g74 78 x33) ≤ 40) → ((sm_NH (S 1100007) → 0 ≤ sm_hs (g74 71) (S 1100007)) → (sv_R (g74 75 x33) → (0 ≤ (g74 75 x33) ∧ (g74 75 x33) < 647800 ∧ 635639 ≤ (647751 : Int) ∧ (647751 : Int) < 647800) ∧ (∀ g92 : sv_S, (sm_pt (g92 68) (g92 69) (g92 70) = sm_pt (g82 68) (g82 69) (g82 70)) → (((p10 = (-1 : Int)) → (((p10 = (-1 : Int)) → (29 ≤ (S 1071 0) ∧ (S 1071 0) ≤ 127 ∧ 31 ≤ (S 1008 0) ∧ (S 1008 0) ≤ 90 ∧ 1 ≤ (S 1032 0) ∧ (S 1032 0) ≤ 11 ∧ 0 ≤ (S 1055 0) ∧ (S 1055 0) ≤ 19 ∧ (S 1071 0) = 29 + 6 * ((S 1032 0) - 1) + 2 * (S 1055 0) ∧ 0 ≤ (S 1046 0) ∧ (S 1046 0) + 2 * (S 1032 0) ≤ 500 ∧ sm_PD (S 1046 0) (S 1032 0) (S 1071 0) (S 1008 0) ∧ 0 ≤ (S 1071 0) * ((S 1008 0) + 1) ∧ (S 1071 0) * ((S 1008 0) + 1) ≤ 11557 ∧ 31 ≤ (S 1007 0) ∧ (S 1007 0) ≤ 400 ∧ sm_LN (S 4) 400 (S 1007 0) ∧ (g74 75 639) = 647340 ∧ sm_ST (g74 71) (g74 74) (g74 75) (g74 78) (g74 79) (g74 80) (S 27) (S 1100007) (S 1100023) (S 1100024) (S 1046 0) ((S 1046 0) + 2 * (S 1032 0)) (g74 1127 0) ∧ 465000 ≤ (g74 1127 0) ∧ (g74 1127 0) + sm_hs (g74 71) (S 1100007) ≤ 635000 ∧ sm_NH (S 1100007) ∧ sm_CT (S 26) (S 27) (S 28) (S 29) (S 1100007) (S 1100023) (S 1100024) (S 1100025) (S 21) (S 1046 0) (S 1032 0) (S 1008 0) (S 1055 0) ∧ (∀ k : Int, (S 1046 0) ≤ k → k < ((S 1046 0) + 2 * (S 1032 0)) → (S 1100007 k) = 1) ∧ sm_DR (g74 72) (g74 71) (S 1046 0) ∧ 0 ≤ (g74 74 639) ∧ (g74 74 639) ≤ 400 ∧ 0 ≤ (g74 78 639) ∧ (g74 78 639) ≤ 40 ∧ (g74 78 639) = sm_dp (S 1100024) (g74 1100031 0) ∧ -1 ≤ (g74 1100031 0) ∧ (g74 1100031 0) < (S 1046 0) ∧ (0 ≤ (g74 1100031 0) → (S 26 (g74 1100031 0)) = 27) ∧ sm_TC (g74 79) (g74 80) (S 27) (S 1100007) (S 1100023) (S 1100024) 25560 (g74 1100031 0) ∧ 0 ≤ (S 1148 0) ∧ (S 1148 0) + 1 < (S 1046 0) ∧ 0 ≤ p9 ∧ p9 ≤ (g74 74 639) ∧ (g74 74 639) - p9 ≤ 399 ∧ 0 ≤ (647751 : Int) ∧ (647751 : Int) < 647800 ∧ (S 1100007 ((S 1148 0) + 1)) = (g74 74 639) - p9 + 1 ∧ (S 1100023 ((S 1148 0) + 1)) = (g74 1100031 0)) ∧ (∀ g99 : sv_S, (sm_ST (g99 71) (g99 74) (g99 75) (g99 78) (g99 79) (g99 80) (S 27) (S 1100007) (S 1100023) (S 1100024) (S 1046 0) ((S 1046 0) + 2 * (S 1032 0)) (g99 1127 0) ∧ 465000 ≤ (g99 1127 0) ∧ (g99 1127 0) + sm_hs (g99 71) (S 1100007) ≤ 635000 ∧ (g99 75 639) = 647340 ∧ (∀ k : Int, (g74 71 k) = 1 → (g99 71 k) = 1) ∧ sm_DR (g99 72) (g99 71) (S 1046 0) ∧ (641 * (sm_cm (g99 71) + sm_pt (g99 68) (g99 69) (g99 70) + sm_pl (g99 81) (g99 82) (g99 83) (g99 84) (g99 85) (g99 86) + sm_ps (g99 76) (g99 77)) + sm_du (g99 72)) ≤ (641 * (sm_cm (g74 71) + sm_pt (g92 68) (g92 69) (g92 70) + sm_pl (g82 81) (g82 82) (g82 83) (g82 84) (g82 85) (g82 86) + sm_ps (g82 76) (g82 77)) + sm_du (g74 72))) → (sm_ST (g99 71) (g99 74) (g99 75) (g99 78) (g99 79) (g99 80) (S 27) (S 1100007) (S 1100023) (S 1100024) (S 1046 0) ((S 1046 0) + 2 * (S 1032 0)) (g99 1127 0) ∧ 465000 ≤ (g99 1127 0) ∧ (g99 1127 0) + sm_hs (g99 71) (S 1100007) ≤ 635000 ∧ (g99 75 639) = 647340 ∧ (∀ k : Int, (g27 71 k) = 1 → (g99 71 k) = 1) ∧ sm_DR (g99 72) (g99 71) (S 1046 0) ∧ (641 * (sm_cm (g99 71) + sm_pt (g99 68) (g99 69) (g99 70) + sm_pl (g99 81) (g99 82) (g99 83) (g99 84) (g99 85) (g99 86) + sm_ps (g99 76) (g99 77)) + sm_du (g99 72)) ≤ (641 * (sm_cm (g27 71) + sm_pt (g27 68) (g27 69) (g27 70) + sm_pl (g27 81) (g27 82) (g27 83) (g27 84) (g27 85) (g27 86) + sm_ps (g27 76) (g27 77)) + sm_du (g27 72)) ∧ 0 ≤ (g74 1147 0) ∧ (g74 1147 0) ≤ 12 ∧ (∀ k : Int, 0 ≤ k → k < (g74 1147 0) → 635639 ≤ (g74 91 k) ∧ (g74 91 k) < 647800)))) ∧ ((¬ (p10 = (-1 : Int))) → (0 ≤ (647751 : Int) ∧ (647751 : Int) < 647800) ∧ (∀ g106 : sv_S, ((0 ≤ (0 : Int) → (0 : Int) < 1024 → (g106 68 (647751 : Int)) % 1024 = (0 : Int)) ∧ (635639 ≤ (647751 : Int) → sm_pt (g106 68) (g92 69) (g92 70) = sm_pt (g92 68) (g92 69) (g92 70)) ∧ ((647751 : Int) < 635639 → sm_pt (g106 68) (g92 69) (g92 70) = sm_pt (g92 68) (g92 69) (g92 70) + sm_rs (g92 68 (647751 : Int)) (g92 69 (647751 : Int)) (g92 70 (647751 : Int)) - sm_rs (g106 68 (647751 : Int)) (g92 69 (647751 : Int)) (g92 70 (647751 : Int)))) → (29 ≤ (S 1071 0) ∧ (S 1071 0) ≤ 127 ∧ 31 ≤ (S 1008 0) ∧ (S 1008 0) ≤ 90 ∧ 1 ≤ (S 1032 0) ∧ (S 1032 0) ≤ 11 ∧ 0 ≤ (S 1055 0) ∧ (S 1055 0) ≤ 19 ∧ (S 1071 0) = 29 + 6 * ((S 1032 0) - 1) + 2 * (S 1055 0) ∧ 0 ≤ (S 1046 0) ∧ (S 1046 0) + 2 * (S 1032 0) ≤ 500 ∧ sm_PD (S 1046 0) (S 1032 0) (S 1071 0) (S 1008 0) ∧ 0 ≤ (S 1071 0) * ((S 1008 0) + 1) ∧ (S 1071 0) * ((S 1008 0) + 1) ≤ 11557 ∧ 31 ≤ (S 1007 0) ∧ (S 1007 0) ≤ 400 ∧ sm_LN (S 4) 400 (S 1007 0) ∧ (g74 75 639) = 647340 ∧ sm_ST (g74 71) (g74 74) (g74 75) (g74 78) (g74 79) (g74 80) (S 27) (S 1100007) (S 1100023) (S 1100024) (S 1046 0) ((S 1046 0) + 2 * (S 1032 0)) (g74 1127 0) ∧ 465000 ≤ (g74 1127 0) ∧ (g74 1127 0) + sm_hs (g74 71) (S 1100007) ≤ 635000 ∧ sm_NH (S 1100007) ∧ sm_CT (S 26) (S 27) (S 28) (S 29) (S 1100007) (S 1100023) (S 1100024) (S 1100025) (S 21) (S 1046 0) (S 1032 0) (S 1008 0) (S 1055 0) ∧ (∀ k : Int, (S 1046 0) ≤ k → k < ((S 1046 0) + 2 * (S 1032 0)) → (S 1100007 k) = 1) ∧ sm_DR (g74 72) (g74 71) (S 1046 0) ∧ 0 ≤ (g74 74 639) ∧ (g74 74 639) ≤ 400 ∧ 0 ≤ (g74 78 639) ∧ (g74 78 639) ≤ 40 ∧ (g74 78 639) = sm_dp (S 1100024) (g74 1100031 0) ∧ -1 ≤ (g74 1100031 0) ∧ (g74 1100031 0) < (S 1046 0) ∧ (0 ≤ (g74 1100031 0) → (S 26 (g74 1100031 0)) = 27) ∧ sm_TC (g74 79) (g74 80) (S 27) (S 1100007) (S 1100023) (S 1100024) 25560 (g74 1100031 0) ∧ 0 ≤ (S 1148 0) ∧ (S 1148 0) + 1 < (S 1046 0) ∧ 0 ≤ p9 ∧ p9 ≤ (g74 74 639) ∧ (g74 74 639) - p9 ≤ 399 ∧ 0 ≤ (647751 : Int) ∧ (647751 : Int) < 647800 ∧ (S 1100007 ((S 1148 0) + 1)) = (g74 74 639) - p9 + 1 ∧ (S 1100023 ((S 1148 0) + 1)) = (g74 1100031 0)) ∧ (∀ g113 : sv_S, (sm_ST (g113 71) (g113 74) (g113 75) (g113 78) (g113 79) (g113 80) (S 27) (S 1100007) (S 1100023) (S 1100024) (S 1046 0) ((S 1046 0) + 2 * (S 1032 0)) (g113 1127 0) ∧ 465000 ≤ (g113 1127 0) ∧ (g113 1127 0) + sm_hs (g113 71) (S 1100007) ≤ 635000 ∧ (g113 75 639) = 647340 ∧ (∀ k : Int, (g74 71 k) = 1 → (g113 71 k) = 1) ∧ sm_DR (g113 72) (g113 71) (S 1046 0) ∧ (641 * (sm_cm (g113 71) + sm_pt (g113 68) (g113 69) (g113 70) + sm_pl (g113 81) (g113 82) (g113 83) (g113 84) (g113 85) (g113 86) + sm_ps (g113 76) (g113 77)) + sm_du (g113 72)) ≤ (641 * (sm_cm (g74 71) + sm_pt (g106 68) (g92 69) (g92 70) + sm_pl (g82 81) (g82 82) (g82 83) (g82 84) (g82 85) (g82 86) + sm_ps (g82 76) (g82 77)) + sm_du (g74 72))) → (sm_ST (g113 71) (g113 74) (g113 75) (g113 78) (g113 79) (g113 80) (S 27) (S 1100007) (S 1100023) (S 1100024) (S 1046 0) ((S 1046 0) + 2 * (S 1032 0)) (g113 1127 0) ∧ 465000 ≤ (g113 1127 0) ∧ (g113 1127 0) + sm_hs (g113 71) (S 1100007) ≤ 635000 ∧ (g113 75 639) = 647340 ∧ (∀ k : Int, (g27 71 k) = 1 → (g113 71 k) = 1) ∧ sm_DR (g113 72) (g113 71) (S 1046 0) ∧ (641 * (sm_cm (g113 71) + sm_pt (g113 68) (g113 69) (g113 70) + sm_pl (g113 81) (g113 82) (g113 83) (g113 84) (g113 85) (g113 86) + sm_ps (g113 76) (g113 77)) + sm_du (g113 72)) ≤ (641 * (sm_cm (g27 71) + sm_pt (g27 68) (g27 69) (g27 70) + sm_pl (g27 81) (g27 82) (g27 83) (g27 84) (g27 85) (g27 86) + sm_ps (g27 76) (g27 77)) + sm_du (g27 72)) ∧ 0 ≤ (g74 1147 0) ∧ (g74 1147 0) ≤ 12 ∧ (∀ k : Int, 0 ≤ k → k < (g74 1147 0) → 635639 ≤ (g74 91 k) ∧ (g74 91 k) < 647800))))))) ∧ ((¬ (p10 = (-1 : Int))) → (0 ≤ (647751 : Int) ∧ (647751 : Int) < 647800) ∧ (∀ r124 : Int, sv_R r124 → (sm_iand ((g92 68 (647751 : Int)) % 1024) (-513) = r124) → (((r124 = (0 : Int)) → (((p10 = (-1 : Int)) → (29 ≤ (S 1071 0) ∧ (S 1071 0) ≤ 127 ∧ 31 ≤ (S 1008 0) ∧ (S 1008 0) ≤ 90 ∧ 1 ≤ (S 1032 0) ∧ (S 1032 0) ≤ 11 ∧ 0 ≤ (S 1055 0) ∧ (S 1055 0) ≤ 19 ∧ (S 1071 0) = 29 + 6 * ((S 1032 0) - 1) + 2 * (S 1055 0) ∧ 0 ≤ (S 1046 0) ∧ (S 1046 0) + 2 * (S 1032 0) ≤ 500 ∧ sm_PD (S 1046 0) (S 1032 0) (S 1071 0) (S 1008 0) ∧ 0 ≤ (S 1071 0) * ((S 1008 0) + 1) ∧ (S 1071 0) * ((S 1008 0) + 1) ≤ 11557 ∧ 31 ≤ (S 1007 0) ∧ (S 1007 0) ≤ 400 ∧ sm_LN (S 4) 400 (S 1007 0) ∧ (g74 75 639) = 647340 ∧ sm_ST (g74 71) (g74 74) (g74 75) (g74 78) (g74 79) (g74 80) (S 27) (S 1100007) (S 1100023) (S 1100024) (S 1046 0) ((S 1046 0) + 2 * (S 1032 0)) (g74 1127 0) ∧ 465000 ≤ (g74 1127 0) ∧ (g74 1127 0) + sm_hs (g74 71) (S 1100007) ≤ 635000 ∧ sm_NH (S 1100007) ∧ sm_CT (S 26) (S 27) (S 28) (S 29) (S 1100007) (S 1100023) (S 1100024) (S 1100025) (S 21) (S 1046 0) (S 1032 0) (S 1008 0) (S 1055 0) ∧ (∀ k : Int, (S 1046 0) ≤ k → k < ((S 1046 0) + 2 * (S 1032 0)) → (S 1100007 k) = 1) ∧ sm_DR (g74 72) (g74 71) (S 1046 0) ∧ 0 ≤ (g74 74 639) ∧ (g74 74 639) ≤ 400 ∧ 0 ≤ (g74 78 639) ∧ (g74 78 639) ≤ 40 ∧ (g74 78 639) = sm_dp (S 1100024) (g74 1100031 0) ∧ -1 ≤ (g74 1100031 0) ∧ (g74 1100031 0) < (S 1046 0) ∧ (0 ≤ (g74 1100031 0) → (S 26 (g74 1100031 0)) = 27) ∧ sm_TC (g74 79) (g74 80) (S 27) (S 1100007) (S 1100023) (S 1100024) 25560 (g74 1100031 0) ∧ 0 ≤ (S 1148 0) ∧ (S 1148 0) + 1 < (S 1046 0) ∧ 0 ≤ p9 ∧ p9 ≤ (g74 74 639) ∧ (g74 74 639) - p9 ≤ 399 ∧ 0 ≤ (647751 : Int) ∧ (647751 : Int) < 647800 ∧ (S 1100007 ((S 1148 0) + 1)) = (g74 74 639) - p9 + 1 ∧ (S 1100023 ((S 1148 0) + 1)) = (g74 1100031 0)) ∧ (∀ g126 : sv_S, (sm_ST (g126 71) (g126 74) (g126 75) (g126 78) (g126 79) (g126 80) (S 27) (S 1100007) (S 1100023) (S 1100024) (S 1046 0) ((S 1046 0) + 2 * (S 1032 0)) (g126 1127 0) ∧ 465000 ≤ (g126 1127 0) ∧ (g126 1127 0) + sm_hs (g126 71) (S 1100007) ≤ 635000 ∧ (g126 75 639) = 647340 ∧ (∀ k : Int, (g74 71 k) = 1 → (g126 71 k) = 1) ∧ sm_DR (g126 72) (g126 71) (S 1046 0) ∧ (641 * (sm_cm (g126 71) + sm_pt (g126 68) (g126 69) (g126 70) + sm_pl (g126 81) (g126 82) (g126 83) (g126 84) (g126 85) (g126 86) + sm_ps (g126 76) (g126 77)) + sm_du (g126 72)) ≤ (641 * (sm_cm (g74 71) + sm_pt (g92 68) (g92 69) (g92 70) + sm_pl (g82 81) (g82 82) (g82 83) (g82 84) (g82 85) (g82 86) + sm_ps (g82 76) (g82 77)) + sm_du (g74 72))) → (sm_ST (g126 71) (g126 74) (g126 75) (g126 78) (g126 79) (g126 80) (S 27) (S 1100007) (S 1100023) (S 1100024) (S 1046 0) ((S 1046 0) + 2 * (S 1032 0)) (g126 1127 0) ∧ 465000 ≤ (g126 1127 0) ∧ (g126 1127 0) + sm_hs (g126 71) (S 1100007) ≤ 635000 ∧ (g126 75 639) = 647340 ∧ (∀ k : Int, (g27 71 k) = 1 → (g126 71 k) = 1) ∧ sm_DR (g126 72) (g126 71) (S 1046 0) ∧ (641 * (sm_cm (g126 71) + sm_pt (g126 68) (g126 69) (g126 70) + sm_pl (g126 81) (g126 82) (g126 83) (g126 84) (g126 85) (g126 86) + sm_ps (g126 76) (g126 77)) + sm_du (g126 72)) ≤ (641 * (sm_cm (g27 71) + sm_pt (g27 68) (g27 69) (g27 70) + sm_pl (g27 81) (g27 82) (g27 83) (g27 84) (g27 85) (g27 86) + sm_ps (g27 76) (g27 77)) + sm_du (g27 72)) ∧ 0 ≤ (g74 1147 0) ∧ (g74 1147 0) ≤ 12 ∧ (∀ k : Int, 0 ≤ k → k < (g74 1147 0) → 635639 ≤ (g74 91 k) ∧ (g74 91 k) < 647800)))) ∧ ((¬ (p10 = (-1 : Int))) → (∀ g132 : sv_S, ((0 ≤ (0 : Int) → (0 : Int) < 1024 → (g132 68 (647751 : Int)) % 1024 = (0 : Int)) ∧ (635639 ≤ (647751 : Int) → sm_pt (g132 68) (g92 69) (g92 70) = sm_pt (g92 68) (g92 69) (g92 70)) ∧ ((647751 : Int) < 635639 → sm_pt (g132 68) (g92 69) (g92 70) = sm_pt (g92 68) (g92 69) (g92 70) + sm_rs (g92 68 (647751 : Int)) (g92 69 (647751 : Int)) (g92 70 (647751 : Int)) - sm_rs (g132 68 (647751 : Int)) (g92 69 (647751 : Int)) (g92 70 (647751 : Int)))) → (29 ≤ (S 1071 0) ∧ (S 1071 0) ≤ 127 ∧ 31 ≤ (S 1008 0) ∧ (S 1008 0) ≤ 90 ∧ 1 ≤ (S 1032 0) ∧ (S 1032 0) ≤ 11 ∧ 0 ≤ (S 1055 0) ∧ (S 1055 0) ≤ 19 ∧ (S 1071 0) = 29 + 6 * ((S 1032 0) - 1) + 2 * (S 1055 0) ∧ 0 ≤ (S 1046 0) ∧ (S 1046 0) + 2 * (S 1032 0) ≤ 500 ∧ sm_PD (S 1046 0) (S 1032 0) (S 1071 0) (S 1008 0) ∧ 0 ≤ (S 1071 0) * ((S 1008 0) + 1) ∧ (S 1071 0) * ((S 1008 0) + 1) ≤ 11557 ∧ 31 ≤ (S 1007 0) ∧ (S 1007 0) ≤ 400 ∧ sm_LN (S 4) 400 (S 1007 0) ∧ (g74 75 639) = 647340 ∧ sm_ST (g74 71) (g74 74) (g74 75) (g74 78) (g74 79) (g74 80) (S 27) (S 1100007) (S 1100023) (S 1100024) (S 1046 0) ((S 1046 0) + 2 * (S 1032 0)) (g74 1127 0) ∧ 465000 ≤ (g74 1127 0) ∧ (g74 1127 0) + sm_hs (g74 71) (S 1100007) ≤ 635000 ∧ sm_NH (S 1100007) ∧ sm_CT (S 26) (S 27) (S 28) (S 29) (S 1100007) (S 1100023) (S 1100024) (S 1100025) (S 21) (S 1046 0) (S 1032 0) (S 1008 0) (S 1055 0) ∧ (∀ k : Int, (S 1046 0) ≤ k → k < ((S 1046 0) + 2 * (S 1032 0)) → (S 1100007 k) = 1) ∧ sm_DR (g74 72) (g74 71) (S 1046 0) ∧ 0 ≤ (g74 74 639) ∧ (g74 74 639) ≤ 400 ∧ 0 ≤ (g74 78 639) ∧ (g74 78 639) ≤ 40 ∧ (g74 78 639) = sm_dp (S 1100024) (g74 1100031 0) ∧ -1 ≤ (g74 1100031 0) ∧ (g74 1100031 0) < (S 1046 0) ∧ (0 ≤ (g74 1100031 0) → (S 26 (g74 1100031 0)) = 27) ∧ sm_TC (g74 79) (g74 80) (S 27) (S 1100007) (S 1100023) (S 1100024) 25560 (g74 1100031 0) ∧ 0 ≤ (S 1148 0) ∧ (S 1148 0) + 1 < (S 1046 0) ∧ 0 ≤ p9 ∧ p9 ≤ (g74 74 639) ∧ (g74 74 639) - p9 ≤ 399 ∧ 0 ≤ (647751 : Int) ∧ (647751 : Int) < 647800 ∧ (S 1100007 ((S 1148 0) + 1)) = (g74 74 639) - p9 + 1 ∧ (S 1100023 ((S 1148 0) + 1)) = (g74 1100031 0)) ∧ (∀ g139 : sv_S, (sm_ST (g139 71) (g139 74) (g139 75) (g139 78) (g139 79) (g139 80) (S 27) (S 1100007) (S 1100023) (S 1100024) (S 1046 0) ((S 1046 0) + 2 * (S 1032 0)) (g139 1127 0) ∧ 465000 ≤ (g139 1127 0) ∧ (g139 1127 0) + sm_hs (g139 71) (S 1100007) ≤ 635000 ∧ (g139 75 639) = 647340 ∧ (∀ k : Int, (g74 71 k) = 1 → (g139 71 k) = 1) ∧ sm_DR (g139 72) (g139 71) (S 1046 0) ∧ (641 * (sm_cm (g139 71) + sm_pt (g139 68) (g139 69) (g139 70) + sm_pl (g139 81) (g139 82) (g139 83) (g139 84) (g139 85) (g139 86) + sm_ps (g139 76) (g139 77)) + sm_du (g139 72)) ≤ (641 * (sm_cm (g74 71) + sm_pt (g132 68) (g92 69) (g92 70) + sm_pl (g82 81) (g82 82) (g82 83) (g82 84) (g82 85) (g82 86) + sm_ps (g82 76) (g82 77)) + sm_du (g74 72))) → (sm_ST (g139 71) (g139 74) (g139 75) (g139 78) (g139 79) (g139 80) (S 27) (S 1100007) (S 1100023) (S 1100024) (S 1046 0) ((S 1046 0) + 2 * (S 1032 0)) (g139 1127 0) ∧ 465000 ≤ (g139 1127 0) ∧ (g139 1127 0) + sm_hs (g139 71) (S 1100007) ≤ 635000 ∧ (g139 75 639) = 647340 ∧ (∀ k : Int, (g27 71 k) = 1 → (g139 71 k) = 1) ∧ sm_DR (g139 72) (g139 71) (S 1046 0) ∧ (641 * (sm_cm (g139 71) + sm_pt (g139 68) (g139 69) (g139 70) + sm_pl (g139 81) (g139 82) (g139 83) (g139 84) (g139 85) (g139 86) + sm_ps (g139 76) (g139 77)) + sm_du (g139 72)) ≤ (641 * (sm_cm (g27 71) + sm_pt (g27 68) (g27 69) (g27 70) + sm_pl (g27 81) (g27 82) (g27 83) (g27 84) (g27 85) (g27 86) + sm_ps (g27 76) (g27 77)) + sm_du (g27 72)) ∧ 0 ≤ (g74 1147 0) ∧ (g74 1147 0) ≤ 12 ∧ (∀ k : Int, 0 ≤ k → k < (g74 1147 0) → 635639 ≤ (g74 91 k) ∧ (g74 91 k) < 647800))))))) ∧ ((¬ (r124 = (0 : Int))) → (0 ≤ p10 ∧ p10 ≤ 600 ∧ 1 ≤ (S 1032 0) ∧ (S 1032 0) ≤ 4001) ∧ (∀ r150 : Int, sv_R r150 → (r150 = 29 + 6 * ((S 1032 0) - 1) + 2 * p10) → (635639 ≤ (647751 : Int) ∧ (647751 : Int) < 647800) ∧ (∀ g152 : sv_S, (sm_pt (g92 68) (g152 69) (g152 70) = sm_pt (g92 68) (g92 69) (g92 70)) → (∀ r162 : Int, sv_R r162 → (r162 = 29 + 6 * ((S 1032 0) - 1) + 2 * p10) → (sv_R (r162 + (1 : Int))) ∧ (∀ g164 : sv_S, (sm_pt (g92 68) (g164 69) (g164 70) = sm_pt (g92 68) (g152 69) (g152 70)) → (((p10 = (-1 : Int)) → (29 ≤ (S 1071 0) ∧ (S 1071 0) ≤ 127 ∧ 31 ≤ (S 1008 0) ∧ (S 1008 0) ≤ 90 ∧ 1 ≤ (S 1032 0) ∧ (S 1032 0) ≤ 11 ∧ 0 ≤ (S 1055 0) ∧ (S 1055 0) ≤ 19 ∧ (S 1071 0) = 29 + 6 * ((S 1032 0) - 1) + 2 * (S 1055 0) ∧ 0 ≤ (S 1046 0) ∧ (S 1046 0) + 2 * (S 1032 0) ≤ 500 ∧ sm_PD (S 1046 0) (S 1032 0) (S 1071 0) (S 1008 0) ∧ 0 ≤ (S 1071 0) * ((S 1008 0) + 1) ∧ (S 1071 0) * ((S 1008 0) + 1) ≤ 11557 ∧ 31 ≤ (S 1007 0) ∧ (S 1007 0) ≤ 400 ∧ sm_LN (S 4) 400 (S 1007 0) ∧ (g74 75 639) = 647340 ∧ sm_ST (g74 71) (g74 74) (g74 75) (g74 78) (g74 79) (g74 80) (S 27) (S 1100007) (S 1100023) (S 1100024) (S 1046 0) ((S 1046 0) + 2 * (S 1032 0)) (g74 1127 0) ∧ 465000 ≤ (g74 1127 0) ∧ (g74 1127 0) + sm_hs (g74 71) (S 1100007) ≤ 635000 ∧ sm_NH (S 1100007) ∧ sm_CT (S 26) (S 27) (S 28) (S 29) (S 1100007) (S 1100023) (S 1100024) (S 1100025) (S 21) (S 1046 0) (S 1032 0) (S 1008 0) (S 1055 0) ∧ (∀ k : Int, (S 1046 0) ≤ k → k < ((S 1046 0) + 2 * (S 1032 0)) → (S 1100007 k) = 1) ∧ sm_DR (g74 72) (g74 71) (S 1046 0) ∧ 0 ≤ (g74 74 639) ∧ (g74 74 639) ≤ 400 ∧ 0 ≤ (g74 78 639) ∧ (g74 78 639) ≤ 40 ∧ (g74 78 639) = sm_dp (S 1100024) (g74 1100031 0) ∧ -1 ≤ (g74 1100031 0) ∧ (g74 1100031 0) < (S 1046 0) ∧ (0 ≤ (g74 1100031 0) → (S 26 (g74 1100031 0)) = 27) ∧ sm_TC (g74 79) (g74 80) (S 27) (S 1100007) (S 1100023) (S 1100024) 25560 (g74 1100031 0) ∧ 0 ≤ (S 1148 0) ∧ (S 1148 0) + 1 < (S 1046 0) ∧ 0 ≤ p9 ∧ p9 ≤ (g74 74 639) ∧ (g74 74 639) - p9 ≤ 399 ∧ 0 ≤ (647751 : Int) ∧ (647751 : Int) < 647800 ∧ (S 1100007 ((S 1148 0) + 1)) = (g74 74 639) - p9 + 1 ∧ (S 1100023 ((S 1148 0) + 1)) = (g74 1100031 0)) ∧ (∀ g171 : sv_S, (sm_ST (g171 71) (g171 74) (g171 75) (g171 78) (g171 79) (g171 80) (S 27) (S 1100007) (S 1100023) (S 1100024) (S 1046 0) ((S 1046 0) + 2 * (S 1032 0)) (g171 1127 0) ∧ 465000 ≤ (g171 1127 0) ∧ (g171 1127 0) + sm_hs (g171 71) (S 1100007) ≤ 635000 ∧ (g171 75 639) = 647340 ∧ (∀ k : Int, (g74 71 k) = 1 → (g171 71 k) = 1) ∧ sm_DR (g171 72) (g171 71) (S 1046 0) ∧ (641 * (sm_cm (g171 71) + sm_pt (g171 68) (g171 69) (g171 70) + sm_pl (g171 81) (g171 82) (g171 83) (g171 84) (g171 85) (g171 86) + sm_ps (g171 76) (g171 77)) + sm_du (g171 72)) ≤ (641 * (sm_cm (g74 71) + sm_pt (g92 68) (g164 69) (g164 70) + sm_pl (g82 81) (g82 82) (g82 83) (g82 84) (g82 85) (g82 86) + sm_ps (g82 76) (g82 77)) + sm_du (g74 72))) → (sm_ST (g171 71) (g171 74) (g171 75) (g171 78) (g171 79) (g171 80) (S 27) (S 1100007) (S 1100023) (S 1100024) (S 1046 0) ((S 1046 0) + 2 * (S 1032 0)) (g171 1127 0) ∧ 465000 ≤ (g171 1127 0) ∧ (g171 1127 0) + sm_hs (g171 71) (S 1100007) ≤ 635000 ∧ (g171 75 639) = 647340 ∧ (∀ k : Int, (g27 71 k) = 1 → (g171 71 k) = 1) ∧ sm_DR (g171 72) (g171 71) (S 1046 0) ∧ (641 * (sm_cm (g171 71) + sm_pt (g171 68) (g171 69) (g171 70) + sm_pl (g171 81) (g171 82) (g171 83) (g171 84) (g171 85) (g171 86) + sm_ps (g171 76) (g171 77)) + sm_du (g171 72)) ≤ (641 * (sm_cm (g27 71) + sm_pt (g27 68) (g27 69) (g27 70) + sm_pl (g27 81) (g27 82) (g27 83) (g27 84) (g27 85) (g27 86) + sm_ps (g27 76) (g27 77)) + sm_du (g27 72)) ∧ 0 ≤ (g74 1147 0) ∧ (g74 1147 0) ≤ 12 ∧ (∀ k : Int, 0 ≤ k → k < (g74 1147 0) → 635639 ≤ (g74 91 k) ∧ (g74 91 k) < 647800)))) ∧ ((¬ (p10 = (-1 : Int))) → (∀ g177 : sv_S, ((0 ≤ (0 : Int) → (0 : Int) < 1024 → (g177 68 (647751 : Int)) % 1024 = (0 : Int)) ∧ (635639 ≤ (647751 : Int) → sm_pt (g177 68) (g164 69) (g164 70) = sm_pt (g92 68) (g164 69) (g164 70)) ∧ ((647751 : Int) < 635639 → sm_pt (g177 68) (g164 69) (g164 70) = sm_pt (g92 68) (g164 69) (g164 70) + sm_rs (g92 68 (647751 : Int)) (g164 69 (647751 : Int)) (g164 70 (647751 : Int)) - sm_rs (g177 68 (647751 : Int)) (g164 69 (647751 : Int)) (g164 70 (647751 : Int)))) → (29 ≤ (S 1071 0) ∧ (S 1071 0) ≤ 127 ∧ 31 ≤ (S 1008 0) ∧ (S 1008 0) ≤ 90 ∧ 1 ≤ (S 1032 0) ∧ (S 1032 0) ≤ 11 ∧ 0 ≤ (S 1055 0) ∧ (S 1055 0) ≤ 19 ∧ (S 1071 0) = 29 + 6 * ((S 1032 0) - 1) + 2 * (S 1055 0) ∧ 0 ≤ (S 1046 0) ∧ (S 1046 0) + 2 * (S 1032 0) ≤ 500 ∧ sm_PD (S 1046 0) (S 1032 0) (S 1071 0) (S 1008 0) ∧ 0 ≤ (S 1071 0) * ((S 1008 0) + 1) ∧ (S 1071 0) * ((S 1008 0) + 1) ≤ 11557 ∧ 31 ≤ (S 1007 0) ∧ (S 1007 0) ≤ 400 ∧ sm_LN (S 4) 400 (S 1007 0) ∧ (g74 75 639) = 647340 ∧ sm_ST (g74 71) (g74 74) (g74 75) (g74 78) (g74 79) (g74 80) (S 27) (S 1100007) (S 1100023) (S 1100024) (S 1046 0) ((S 1046 0) + 2 * (S 1032 0)) (g74 1127 0) ∧ 465000 ≤ (g74 1127 0) ∧ (g74 1127 0) + sm_hs (g74 71) (S 1100007) ≤ 635000 ∧ sm_NH (S 1100007) ∧ sm_CT (S 26) (S 27) (S 28) (S 29) (S 1100007) (S 1100023) (S 1100024) (S 1100025) (S 21) (S 1046 0) (S 1032 0) (S 1008 0) (S 1055 0) ∧ (∀ k : Int, (S 1046 0) ≤ k → k < ((S 1046 0) + 2 * (S 1032 0)) → (S 1100007 k) = 1) ∧ sm_DR (g74 72) (g74 71) (S 1046 0) ∧ 0 ≤ (g74 74 639) ∧ (g74 74 639) ≤ 400 ∧ 0 ≤ (g74 78 639) ∧ (g74 78 639) ≤ 40 ∧ (g74 78 639) = sm_dp (S 1100024) (g74 1100031 0) ∧ -1 ≤ (g74 1100031 0) ∧ (g74 1100031 0) < (S 1046 0) ∧ (0 ≤ (g74 1100031 0) → (S 26 (g74 1100031 0)) = 27) ∧ sm_TC (g74 79) (g74 80) (S 27) (S 1100007) (S 1100023) (S 1100024) 25560 (g74 1100031 0) ∧ 0 ≤ (S 1148 0) ∧ (S 1148 0) + 1 < (S 1046 0) ∧ 0 ≤ p9 ∧ p9 ≤ (g74 74 639) ∧ (g74 74 639) - p9 ≤ 399 ∧ 0 ≤ (647751 : Int) ∧ (647751 : Int) < 647800 ∧ (S 1100007 ((S 1148 0) + 1)) = (g74 74 639) - p9 + 1 ∧ (S 1100023 ((S 1148 0) + 1)) = (g74 1100031 0)) ∧ (∀ g184 : sv_S, (sm_ST (g184 71) (g184 74) (g184 75) (g184 78) (g184 79) (g184 80) (S 27) (S 1100007) (S 1100023) (S 1100024) (S 1046 0) ((S 1046 0) + 2 * (S 1032 0)) (g184 1127 0) ∧ 465000 ≤ (g184 1127 0) ∧ (g184 1127 0) + sm_hs (g184 71) (S 1100007) ≤ 635000 ∧ (g184 75 639) = 647340 ∧ (∀ k : Int, (g74 71 k) = 1 → (g184 71 k) = 1) ∧ sm_DR (g184 72) (g184 71) (S 1046 0) ∧ (641 * (sm_cm (g184 71) + sm_pt (g184 68) (g184 69) (g184 70) + sm_pl (g184 81) (g184 82) (g184 83) (g184 84) (g184 85) (g184 86) + sm_ps (g184 76) (g184 77)) + sm_du (g184 72)) ≤ (641 * (sm_cm (g74 71) + sm_pt (g177 68) (g164 69) (g164 70) + sm_pl (g82 81) (g82 82) (g82 83) (g82 84) (g82 85) (g82 86) + sm_ps (g82 76) (g82 77)) + sm_du (g74 72))) → (sm_ST (g184 71) (g184 74) (g184 75) (g184 78) (g184 79) (g184 80) (S 27) (S 1100007) (S 1100023) (S 1100024) (S 1046 0) ((S 1046 0) + 2 * (S 1032 0)) (g184 1127 0) ∧ 465000 ≤ (g184 1127 0) ∧ (g184 1127 0) + sm_hs (g184 71) (S 1100007) ≤ 635000 ∧ (g184 75 639) = 647340 ∧ (∀ k : Int, (g27 71 k) = 1 → (g184 71 k) = 1) ∧ sm_DR (g184 72) (g184 71) (S 1046 0) ∧ (641 * (sm_cm (g184 71) + sm_pt (g184 68) (g184 69) (g184 70) + sm_pl (g184 81) (g184 82) (g184 83) (g184 84) (g184 85) (g184 86) + sm_ps (g184 76) (g184 77)) + sm_du (g184 72)) ≤ (641 * (sm_cm (g27 71) + sm_pt (g27 68) (g27 69) (g27 70) + sm_pl (g27 81) (g27 82) (g27 83) (g27 84) (g27 85) (g27 86) + sm_ps (g27 76) (g27 77)) + sm_du (g27 72)) ∧ 0 ≤ (g74 1147 0) ∧ (g74 1147 0) ≤ 12 ∧ (∀ k : Int, 0 ≤ k → k < (g74 1147 0) → 635639 ≤ (g74 91 k) ∧ (g74 91 k) < 647800)))))))))))))))))))))))))))))) ∧ ((¬ (¬ r10 = (0 : Int))) → (((¬ r17 = (0 : Int)) → (29 ≤ (S 1071 0) ∧ (S 1071 0) ≤ 127 ∧ 31 ≤ (S 1008 0) ∧ (S 1008 0) ≤ 90 ∧ 1 ≤ (S 1032 0) ∧ (S 1032 0) ≤ 11 ∧ 0 ≤ (S 1055 0) ∧ (S 1055 0) ≤ 19 ∧ (S 1071 0) = 29 + 6 * ((S 1032 0) - 1) + 2 * (S 1055 0) ∧ 0 ≤ (S 1046 0) ∧ (S 1046 0) + 2 * (S 1032 0) ≤ 500 ∧ sm_PD (S 1046 0) (S 1032 0) (S 1071 0) (S 1008 0) ∧ 0 ≤ (S 1071 0) * ((S 1008 0) + 1) ∧ (S 1071 0) * ((S 1008 0) + 1) ≤ 11557 ∧ 31 ≤ (S 1007 0) ∧ (S 1007 0) ≤ 400 ∧ sm_LN (S 4) 400 (S 1007 0) ∧ (S 75 639) = 647340 ∧ sm_ST (S 71) (S 74) (S 75) (S 78) (S 79) (S 80) (S 27) (S 1100007) (S 1100023) (S 1100024) (S 1046 0) ((S 1046 0) + 2 * (S 1032 0)) (S 1127 0) ∧ 465000 ≤ (S 1127 0) ∧ (S 1127 0) + sm_hs (S 71) (S 1100007) ≤ 635000 ∧ sm_NH (S 1100007) ∧ sm_CT (S 26) (S 27) (S 28) (S 29) (S 1100007) (S 1100023) (S 1100024) (S 1100025) (S 21) (S 1046 0) (S 1032 0) (S 1008 0) (S 1055 0) ∧ (∀ k : Int, (S 1046 0) ≤ k → k < ((S 1046 0) + 2 * (S 1032 0)) → (S 1100007 k) = 1) ∧ sm_DR (S 72) (S 71) (S 1046 0) ∧ 0 ≤ (S 1148 0) ∧ (S 1148 0) < (S 1046 0) ∧ (S 71 (S 1148 0)) = 1 ∧ -1 ≤ p10 ∧ p10 < (S 1055 0) ∧ 0 ≤ (S 1147 0) ∧ (S 1147 0) ≤ 12 ∧ (∀ k : Int, 0 ≤ k → k < (S 1147 0) → 635639 ≤ (S 91 k) ∧ (S 91 k) < 647800)) ∧ (∀ g191 : sv_S, (sm_ST (g191 71) (g191 74) (g191 75) (g191 78) (g191 79) (g191 80) (S 27) (S 1100007) (S 1100023) (S 1100024) (S 1046 0) ((S 1046 0) + 2 * (S 1032 0)) (g191 1127 0) ∧ 465000 ≤ (g191 1127 0) ∧ (g191 1127 0) + sm_hs (g191 71) (S 1100007) ≤ 635000 ∧ (g191 75 639) = 647340 ∧ (∀ k : Int, (S 71 k) = 1 → (g191 71 k) = 1) ∧ sm_DR (g191 72) (g191 71) (S 1046 0) ∧ (641 * (sm_cm (g191 71) + sm_pt (g191 68) (g191 69) (g191 70) + sm_pl (g191 81) (g191 82) (g191 83) (g191 84) (g191 85) (g191 86) + sm_ps (g191 76) (g191 77)) + sm_du (g191 72)) ≤ (641 * (sm_cm (S 71) + sm_pt (S 68) (S 69) (S 70) + sm_pl (S 81) (S 82) (S 83) (S 84) (S 85) (S 86) + sm_ps (S 76) (S 77)) + sm_du (S 72)) ∧ 0 ≤ (g191 74 639) ∧ (g191 74 639) ≤ 400 ∧ 0 ≤ (g191 78 639) ∧ (g191 78 639) ≤ 40 ∧ (g191 78 639) = sm_dp (S 1100024) (g191 1100031 0) ∧ -1 ≤ (g191 1100031 0) ∧ (g191 1100031 0) < (S 1046 0) ∧ (0 ≤ (g191 1100031 0) → (S 26 (g191 1100031 0)) = 27) ∧ sm_TC (g191 79) (g191 80) (S 27) (S 1100007) (S 1100023) (S 1100024) 25560 (g191 1100031 0) ∧ (g191 74 639) = (S 1100007 (S 1148 0)) ∧ (g191 1100031 0) = (S 1100023 (S 1148 0)) ∧ 0 ≤ (g191 1147 0) ∧ (g191 1147 0) ≤ 12 ∧ (∀ k : Int, 0 ≤ k → k < (g191 1147 0) → 635639 ≤ (g191 91 k) ∧ (g191 91 k) < 647800)) → (0 ≤ r10 ∧ r10 ≤ 1) ∧ (0 ≤ r17 ∧ r17 ≤ 1) ∧ (29 ≤ (S 1071 0) ∧ (S 1071 0) ≤ 127 ∧ 31 ≤ (S 1008 0) ∧ (S 1008 0) ≤ 90 ∧ 1 ≤ (S 1032 0) ∧ (S 1032 0) ≤ 11 ∧ 0 ≤ (S 1055 0) ∧ (S 1055 0) ≤ 19 ∧ (S 1071 0) = 29 + 6 * ((S 1032 0) - 1) + 2 * (S 1055 0) ∧ 0 ≤ (S 1046 0) ∧ (S 1046 0) + 2 * (S 1032 0) ≤ 500 ∧ sm_PD (S 1046 0) (S 1032 0) (S 1071 0) (S 1008 0) ∧ 0 ≤ (S 1071 0) * ((S 1008 0) + 1) ∧ (S 1071 0) * ((S 1008 0) + 1) ≤ 11557 ∧ 31 ≤ (S 1007 0) ∧ (S 1007 0) ≤ 400 ∧ sm_LN (S 4) 400 (S 1007 0) ∧ (g191 75 639) = 647340 ∧ sm_ST (g191 71) (g191 74) (g191 75) (g191 78) (g191 79) (g191 80) (S 27) (S 1100007) (S 1100023) (S 1100024) (S 1046 0) ((S 1046 0) + 2 * (S 1032 0)) (g191 1127 0) ∧ 465000 ≤ (g191 1127 0) ∧ (g191 1127 0) + sm_hs (g191 71) (S 1100007) ≤ 635000 ∧ sm_NH (S 1100007) ∧ sm_CT (S 26) (S 27) (S 28) (S 29) (S 1100007) (S 1100023) (S 1100024) (S 1100025) (S 21) (S 1046 0) (S 1032 0) (S 1008 0) (S 1055 0) ∧ (∀ k : Int, (S 1046 0) ≤ k → k < ((S 1046 0) + 2 * (S 1032 0)) → (S 1100007 k) = 1) ∧ sm_DR (g191 72) (g191 71) (S 1046 0) ∧ 0 ≤ (g191 74 639) ∧ (g191 74 639) ≤ 400 ∧ 0 ≤ (g191 78 639) ∧ (g191 78 639) ≤ 40 ∧ (g191 78 639) = sm_dp (S 1100024) (g191 1100031 0) ∧ -1 ≤ (g191 1100031 0) ∧ (g191 1100031 0) < (S 1046 0) ∧ (0 ≤ (g191 1100031 0) → (S 26 (g191 1100031 0)) = 27) ∧ sm_TC (g191 79) (g191 80) (S 27) (S 1100007) (S 1100023) (S 1100024) 25560 (g191 1100031 0) ∧ (∀ g : Int, 0 ≤ g → g < (S 1032 0) → 0 ≤ (S 30 g) ∧ (S 30 g) < (S 1046 0) ∧ (S 1100007 (S 30 g)) = 0 ∧ (S 1100023 (S 30 g)) = -1 ∧ 0 ≤ (S 33 g) ∧ (S 33 g) ≤ 100 ∧ 0 ≤ (S 20 g) ∧ (S 20 g) ≤ 8) ∧ sm_VN (S 32) (S 33) (S 1032 0) (S 1008 0) ∧ 0 ≤ (g191 1147 0) ∧ (g191 1147 0) ≤ 12 ∧ (∀ k : Int, 0 ≤ k → k < (g191 1147 0) → 635639 ≤ (g191 91 k) ∧ (g191 91 k) < 647800) ∧ 1 ≤ p1 ∧ p1 < (S 1032 0) ∧ -1 ≤ p6 ∧ p6 ≤ 450 ∧ 0 ≤ p7 ∧ p7 ≤ 450 ∧ 0 ≤ p8 ∧ p8 ≤ 8 ∧ -1 ≤ p10 ∧ p10 < (S 1055 0)) ∧ (∀ g199 : sv_S, (sm_ST (g199 71) (g199 74) (g199 75) (g199 78) (g199 79) (g199 80) (S 27) (S 1100007) (S 1100023) (S 1100024) (S 1046 0) ((S 1046 0) + 2 * (S 1032 0)) (g199 1127 0) ∧ 465000 ≤ (g199 1127 0) ∧ (g199 1127 0) + sm_hs (g199 71) (S 1100007) ≤ 635000 ∧ (g199 75 639) = 647340 ∧ (∀ k : Int, (g191 71 k) = 1 → (g199 71 k) = 1) ∧ sm_DR (g199 72) (g199 71) (S 1046 0) ∧ (641 * (sm_cm (g199 71) + sm_pt (g199 68) (g199 69) (g199 70) + sm_pl (g199 81) (g199 82) (g199 83) (g199 84) (g199 85) (g199 86) + sm_ps (g199 76) (g199 77)) + sm_du (g199 72)) ≤ (641 * (sm_cm (g191 71) + sm_pt (g191 68) (g191 69) (g191 70) + sm_pl (g191 81) (g191 82) (g191 83) (g191 84) (g191 85) (g191 86) + sm_ps (g191 76) (g191 77)) + sm_du (g191 72))) → (sv_R (S 1046 0) → (∀ x205 : Int, ((S 1046 0) + ((2 : Int) * p1)) = x205 → ((∀ g207 : sv_S, (sm_ST (g207 71) (g207 74) (g207 75) (g207 78) (g207 79) (g207 80) (S 27) (S 1100007) (S 1100023) (S 1100024) (S 1046 0) ((S 1046 0) + 2 * (S 1032 0)) (g207 1127 0) ∧ 465000 ≤ (g207 1127 0) ∧ (g207 1127 0) + sm_hs (g207 71) (S 1100007) ≤ 635000 ∧ (g207 75 639) = 647340 ∧ (∀ k : Int, (g199 71 k) = 1 → (g207 71 k) = 1) ∧ sm_DR (g207 72) (g207 71) (S 1046 0) ∧ (641 * (sm_cm (g207 71) + sm_pt (g207 68) (g207 69) (g207 70) + sm_pl (g207 81) (g207 82) (g207 83) (g207 84) (g207 85) (g207 86) + sm_ps (g207 76) (g207 77)) + sm_du (g207 72)) ≤ (641 * (sm_cm (g199 71) + sm_pt (g199 68) (g199 69) (g199 70) + sm_pl (g199 81) (g199 82) (g199 83) (g199 84) (g199 85) (g199 86) + sm_ps (g199 76) (g199 77)) + sm_du (g199 72)) ∧ 0 ≤ (g207 1147 0) ∧ (g207 1147 0) ≤ 12 ∧ (∀ k : Int, 0 ≤ k → k < (g207 1147 0) → 635639 ≤ (g207 91 k) ∧ (g207 91 k) < 647800)) → (0 ≤ (x205 + (1 : Int)) ∧ (x205 + (1 : Int)) < 640) ∧ ((0 ≤ (g207 71 (x205 + (1 : Int))) ∧ (g207 71 (x205 + (1 : Int))) ≤ 1) → ((((g207 71 (x205 + (1 : Int))) = (0 : Int)) → (sm_ST (g207 71) (g207 74) (g207 75) (g207 78) (g207 79) (g207 80) (S 27) (S 1100007) (S 1100023) (S 1100024) (S 1046 0) ((S 1046 0) + 2 * (S 1032 0)) (g207 1127 0) ∧ 465000 ≤ (g207 1127 0) ∧ (g207 1127 0) + sm_hs (g207 71) (S 1100007) ≤ 635000 ∧ (g207 75 639) = 647340 ∧ (∀ k : Int, (S 71 k) = 1 → (g207 71 k) = 1) ∧ sm_DR (g207 72) (g207 71) (S 1046 0) ∧ (641 * (sm_cm (g207 71) + sm_pt (g207 68) (g207 69) (g207 70) + sm_pl (g207 81) (g207 82) (g207 83) (g207 84) (g207 85) (g207 86) + sm_ps (g207 76) (g207 77)) + sm_du (g207 72)) ≤ (641 * (sm_cm (S 71) + sm_pt (S 68) (S 69) (S 70) + sm_pl (S 81) (S 82) (S 83) (S 84) (S 85) (S 86) + sm_ps (S 76) (S 77)) + sm_du (S 72)) ∧ 0 ≤ (g207 1147 0) ∧ (g207 1147 0) ≤ 12 ∧ (∀ k : Int, 0 ≤ k → k < (g207 1147 0) → 635639 ≤ (g207 91 k) ∧ (g207 91 k) < 647800))) ∧ ((¬ ((g207 71 (x205 + (1 : Int))) = (0 : Int))) → (29 ≤ (S 1071 0) ∧ (S 1071 0) ≤ 127 ∧ 31 ≤ (S 1008 0) ∧ (S 1008 0) ≤ 90 ∧ 1 ≤ (S 1032 0) ∧ (S 1032 0) ≤ 11 ∧ 0 ≤ (S 1055 0) ∧ (S 1055 0) ≤ 19 ∧ (S 1071 0) = 29 + 6 * ((S 1032 0) - 1) + 2 * (S 1055 0) ∧ 0 ≤ (S 1046 0) ∧ (S 1046 0) + 2 * (S 1032 0) ≤ 500 ∧ sm_PD (S 1046 0) (S 1032 0) (S 1071 0) (S 1008 0) ∧ 0 ≤ (S 1071 0) * ((S 1008 0) + 1) ∧ (S 1071 0) * ((S 1008 0) + 1) ≤ 11557 ∧ 31 ≤ (S 1007 0) ∧ (S 1007 0) ≤ 400 ∧ sm_LN (S 4) 400 (S 1007 0) ∧ (g207 75 639) = 647340 ∧ sm_ST (g207 71) (g207 74) (g207 75) (g207 78) (g207 79) (g207 80) (S 27) (S 1100007) (S 1100023) (S 1100024) (S 1046 0) ((S 1046 0) + 2 * (S 1032 0)) (g207 1127 0) ∧ 465000 ≤ (g207 1127 0) ∧ (g207 1127 0) + sm_hs (g207 71) (S 1100007) ≤ 635000 ∧ sm_NH (S 1100007) ∧ sm_CT (S 26) (S 27) (S 28) (S 29) (S 1100007) (S 1100023) (S 1100024) (S 1100025) (S 21) (S 1046 0) (S 1032 0) (S 1008 0) (S 1055 0) ∧ (∀ k : Int, (S 1046 0) ≤ k → k < ((S 1046 0) + 2 * (S 1032 0)) → (S 1100007 k) = 1) ∧ sm_DR (g207 72) (g207 71) (S 1046 0) ∧ 0 ≤ (S 1148 0) ∧ (S 1148 0) < (S 1046 0) ∧ (g207 71 (S 1148 0)) = 1 ∧ -1 ≤ p10 ∧ p10 < (S 1055 0) ∧ 0 ≤ (g207 1147 0) ∧ (g207 1147 0) ≤ 12 ∧ (∀ k : Int, 0 ≤ k → k < (g207 1147 0) → 635639 ≤ (g207 91 k) ∧ (g207 91 k) < 647800)) ∧ (∀ g215 : sv_S, (sm_ST (g215 71) (g215 74) (g215 75) (g215 78) (g215 79) (g215 80) (S 27) (S 1100007) (S 1100023) (S 1100024) (S 1046 0) ((S 1046 0) + 2 * (S 1032 0)) (g215 1127 0) ∧ 465000 ≤ (g215 1127 0) ∧ (g215 1127 0) + sm_hs (g215 71) (S 1100007) ≤ 635000 ∧ (g215 75 639) = 647340 ∧ (∀ k : Int, (g207 71 k) = 1 → (g215 71 k) = 1) ∧ sm_DR (g215 72) (g215 71) (S 1046 0) ∧ (641 * (sm_cm (g215 71) + sm_pt (g215 68) (g215 69) (g215 70) + sm_pl (g215 81) (g215 82) (g215 83) (g215 84) (g215 85) (g215 86) + sm_ps (g215 76) (g215 77)) + sm_du (g215 72)) ≤ (641 * (sm_cm (g207 71) + sm_pt (g207 68) (g207 69) (g207 70) + sm_pl (g207 81) (g207 82) (g207 83) (g207 84) (g207 85) (g207 86) + sm_ps (g207 76) (g207 77)) + sm_du (g207 72)) ∧ 0 ≤ (g215 74 639) ∧ (g215 74 639) ≤ 400 ∧ 0 ≤ (g215 78 639) ∧ (g215 78 639) ≤ 40 ∧ (g215 78 639) = sm_dp (S 1100024) (g215 1100031 0) ∧ -1 ≤ (g215 1100031 0) ∧ (g215 1100031 0) < (S 1046 0) ∧ (0 ≤ (g215 1100031 0) → (S 26 (g215 1100031 0)) = 27) ∧ sm_TC (g215 79) (g215 80) (S 27) (S 1100007) (S 1100023) (S 1100024) 25560 (g215 1100031 0) ∧ (g215 74 639) = (S 1100007 (S 1148 0)) ∧ (g215 1100031 0) = (S 1100023 (S 1148 0)) ∧ 0 ≤ (g215 1147 0) ∧ (g215 1147 0) ≤ 12 ∧ (∀ k : Int, 0 ≤ k → k < (g215 1147 0) → 635639 ≤ (g215 91 k) ∧ (g215 91 k) < 647800)) → (sv_R (x205 + (1 : Int))) ∧ (29 ≤ (S 1071 0) ∧ (S 1071 0) ≤ 127 ∧ 31 ≤ (S 1008 0) ∧ (S 1008 0) ≤ 90 ∧ 1 ≤ (S 1032 0) ∧ (S 1032 0) ≤ 11 ∧ 0 ≤ (S 1055 0) ∧ (S 1055 0) ≤ 19 ∧ (S 1071 0) = 29 + 6 * ((S 1032 0) - 1) + 2 * (S 1055 0) ∧ 0 ≤ (S 1046 0) ∧ (S 1046 0) + 2 * (S 1032 0) ≤ 500 ∧ sm_PD (S 1046 0) (S 1032 0) (S 1071 0) (S 1008 0) ∧ 0 ≤ (S 1071 0) * ((S 1008 0) + 1) ∧ (S 1071 0) * ((S 1008 0) + 1) ≤ 11557 ∧ (g215 75 639) = 647340 ∧ 0 ≤ (g215 74 639) ∧ (g215 74 639) ≤ 400 ∧ 0 ≤ (x205 + (1 : Int)) ∧ (x205 + (1 : Int)) < ((S 1046 0) + 2 * (S 1032 0))) ∧ (∀ g222 : sv_S, (sm_pt (g222 68) (g222 69) (g222 70) = sm_pt (g215 68) (g215 69) (g215 70) ∧ sm_pl (g222 81) (g222 82) (g222 83) (g222 84) (g222 85) (g222 86) = sm_pl (g215 81) (g215 82) (g215 83) (g215 84) (g215 85) (g215 86) ∧ sm_ps (g222 76) (g222 77) = sm_ps (g215 76) (g215 77)) → ((sm_ST (g215 71) (g215 74) (g215 75) (g215 78) (g215 79) (g215 80) (S 27) (S 1100007) (S 1100023) (S 1100024) (S 1046 0) ((S 1046 0) + 2 * (S 1032 0)) (g215 1127 0) → 0 ≤ (x205 + 1) → (x205 + 1) < ((S 1046 0) + 2 * (S 1032 0)) → (g215 71 (x205 + 1)) = 1 → (g215 74 (x205 + 1)) = (S 1100007 (x205 + 1)) ∧ 465000 ≤ (g215 75 (x205 + 1)) ∧ (g215 75 (x205 + 1)) + (g215 74 (x205 + 1)) ≤ (g215 1127 0) ∧ 0 ≤ (g215 78 (x205 + 1)) ∧ (g215 78 (x205 + 1)) ≤ 40) → ((sm_NH (S 1100007) → 0 ≤ sm_hs (g215 71) (S 1100007)) → (sv_R (g215 75 (x205 + (1 : Int))) → (0 ≤ (g215 75 (x205 + (1 : Int))) ∧ (g215 75 (x205 + (1 : Int))) < 647800 ∧ 635639 ≤ (647751 : Int) ∧ (647751 : Int) < 647800) ∧ (∀ g231 : sv_S, (sm_pt (g231 68) (g231 69) (g231 70) = sm_pt (g222 68) (g222 69) (g222 70)) → (29 ≤ (S 1071 0) ∧ (S 1071 0) ≤ 127 ∧ 31 ≤ (S 1008 0) ∧ (S 1008 0) ≤ 90 ∧ 1 ≤ (S 1032 0) ∧ (S 1032 0) ≤ 11 ∧ 0 ≤ (S 1055 0) ∧ (S 1055 0) ≤ 19 ∧ (S 1071 0) = 29 + 6 * ((S 1032 0) - 1) + 2 * (S 1055 0) ∧ 0 ≤ (S 1046 0) ∧ (S 1046 0) + 2 * (S 1032 0) ≤ 500 ∧ sm_PD (S 1046 0) (S 1032 0) (S 1071 0) (S 1008 0) ∧ 0 ≤ (S 1071 0) * ((S 1008 0) + 1) ∧ (S 1071 0) * ((S 1008 0) + 1) ≤ 11557 ∧ 31 ≤ (S 1007 0) ∧ (S 1007 0) ≤ 400 ∧ sm_LN (S 4) 400 (S 1007 0) ∧ (g215 75 639) = 647340 ∧ sm_ST (g215 71) (g215 74) (g215 75) (g215 78) (g215 79) (g215 80) (S 27) (S 1100007) (S 1100023) (S 1100024) (S 1046 0) ((S 1046 0) + 2 * (S 1032 0)) (g215 1127 0) ∧ 465000 ≤ (g215 1127 0) ∧ (g215 1127 0) + sm_hs (g215 71) (S 1100007) ≤ 635000 ∧ sm_NH (S 1100007) ∧ sm_CT (S 26) (S 27) (S 28) (S 29) (S 1100007) (S 1100023) (S 1100024) (S 1100025) (S 21) (S 1046 0) (S 1032 0) (S 1008 0) (S 1055 0) ∧ (∀ k : Int, (S 1046 0) ≤ k → k < ((S 1046 0) + 2 * (S 1032 0)) → (S 1100007 k) = 1) ∧ sm_DR (g215 72) (g215 71) (S 1046 0) ∧ 0 ≤ (g215 74 639) ∧ (g215 74 639) ≤ 400 ∧ 0 ≤ (g215 78 639) ∧ (g215 78 639) ≤ 40 ∧ (g215 78 639) = sm_dp (S 1100024) (g215 1100031 0) ∧ -1 ≤ (g215 1100031 0) ∧ (g215 1100031 0) < (S 1046 0) ∧ (0 ≤ (g215 1100031 0) → (S 26 (g215 1100031 0)) = 27) ∧ sm_TC (g215 79) (g215 80) (S 27) (S 1100007) (S 1100023) (S 1100024) 25560 (g215 1100031 0) ∧ 0 ≤ (S 1148 0) ∧ (S 1148 0) < (S 1046 0) ∧ 0 ≤ (647751 : Int) ∧ (647751 : Int) < 647800) ∧ (∀ g237 : sv_S, (sm_ST (g237 71) (g237 74) (g237 75) (g237 78) (g237 79) (g237 80) (S 27) (S 1100007) (S 1100023) (S 1100024) (S 1046 0) ((S 1046 0) + 2 * (S 1032 0)) (g237 1127 0) ∧ 465000 ≤ (g237 1127 0) ∧ (g237 1127 0) + sm_hs (g237 71) (S 1100007) ≤ 635000 ∧ (g237 75 639) = 647340 ∧ (∀ k : Int, (g215 71 k) = 1 → (g237 71 k) = 1) ∧ sm_DR (g237 72) (g237 71) (S 1046 0) ∧ (641 * (sm_cm (g237 71) + sm_pt (g237 68) (g237 69) (g237 70) + sm_pl (g237 81) (g237 82) (g237 83) (g237 84) (g237 85) (g237 86) + sm_ps (g237 76) (g237 77)) + sm_du (g237 72)) ≤ (641 * (sm_cm (g215 71) + sm_pt (g231 68) (g231 69) (g231 70) + sm_pl (g222 81) (g222 82) (g222 83) (g222 84) (g222 85) (g222 86) + sm_ps (g222 76) (g222 77)) + sm_du (g215 72))) → (sm_ST (g237 71) (g237 74) (g237 75) (g237 78) (g237 79) (g237 80) (S 27) (S 1100007) (S 1100023) (S 1100024) (S 1046 0) ((S 1046 0) + 2 * (S 1032 0)) (g237 1127 0) ∧ 465000 ≤ (g237 1127 0) ∧ (g237 1127 0) + sm_hs (g237 71) (S 1100007) ≤ 635000 ∧ (g237 75 639) = 647340 ∧ (∀ k : Int, (S 71 k) = 1 → (g237 71 k) = 1) ∧ sm_DR (g237 72) (g237 71) (S 1046 0) ∧ (641 * (sm_cm (g237 71) + sm_pt (g237 68) (g237 69) (g237 70) + sm_pl (g237 81) (g237 82) (g237 83) (g237 84) (g237 85) (g237 86) + sm_ps (g237 76) (g237 77)) + sm_du (g237 72)) ≤ (641 * (sm_cm (S 71) + sm_pt (S 68) (S 69) (S 70) + sm_pl (S 81) (S 82) (S 83) (S 84) (S 85) (S 86) + sm_ps (S 76) (S 77)) + sm_du (S 72)) ∧ 0 ≤ (g215 1147 0) ∧ (g215 1147 0) ≤ 12 ∧ (∀ k : Int, 0 ≤ k → k < (g215 1147 0) → 635639 ≤ (g215 91 k) ∧ (g215 91 k) < 647800))))))))))))) ∧ (0 ≤ x205 ∧ x205 < 640) ∧ ((0 ≤ (g199 71 x205) ∧ (g199 71 x205) ≤ 1) → ((((g199 71 x205) = (0 : Int)) → (sm_ST (g199 71) (g199 74) (g199 75) (g199 78) (g199 79) (g199 80) (S 27) (S 1100007) (S 1100023) (S 1100024) (S 1046 0) ((S 1046 0) + 2 * (S 1032 0)) (g199 1127 0) ∧ 465000 ≤ (g199 1127 0) ∧ (g199 1127 0) + sm_hs (g199 71) (S 1100007) ≤ 635000 ∧ (g199 75 639) = 647340 ∧ (∀ k : Int, (g199 71 k) = 1 → (g199 71 k) = 1) ∧ sm_DR (g199 72) (g199 71) (S 1046 0) ∧ (641 * (sm_cm (g199 71) + sm_pt (g199 68) (g199 69) (g199 70) + sm_pl (g199 81) (g199 82) (g199 83) (g199 84) (g199 85) (g199 86) + sm_ps (g199 76) (g199 77)) + sm_du (g199 72)) ≤ (641 * (sm_cm (g199 71) + sm_pt (g199 68) (g199 69) (g199 70) + sm_pl (g199 81) (g199 82) (g199 83) (g199 84) (g199 85) (g199 86) + sm_ps (g199 76) (g199 77)) + sm_du (g199 72)) ∧ 0 ≤ (g191 1147 0) ∧ (g191 1147 0) ≤ 12 ∧ (∀ k : Int, 0 ≤ k → k < (g191 1147 0) → 635639 ≤ (g191 91 k) ∧ (g191 91 k) < 647800))) ∧ ((¬ ((g199 71 x205) = (0 : Int))) → (29 ≤ (S 1071 0) ∧ (S 1071 0) ≤ 127 ∧ 31 ≤ (S 1008 0) ∧ (S 1008 0) ≤ 90 ∧ 1 ≤ (S 1032 0) ∧ (S 1032 0) ≤ 11 ∧ 0 ≤ (S 1055 0) ∧ (S 1055 0) ≤ 19 ∧ (S 1071 0) = 29 + 6 * ((S 1032 0) - 1) + 2 * (S 1055 0) ∧ 0 ≤ (S 1046 0) ∧ (S 1046 0) + 2 * (S 1032 0) ≤ 500 ∧ sm_PD (S 1046 0) (S 1032 0) (S 1071 0) (S 1008 0) ∧ 0 ≤ (S 1071 0) * ((S 1008 0) + 1) ∧ (S 1071 0) * ((S 1008 0) + 1) ≤ 11557 ∧ 31 ≤ (S 1007 0) ∧ (S 1007 0) ≤ 400 ∧ sm_LN (S 4) 400 (S 1007 0) ∧ (g199 75 639) = 647340 ∧ sm_ST (g199 71) (g199 74) (g199 75) (g199 78) (g199 79) (g199 80) (S 27) (S 1100007) (S 1100023) (S 1100024) (S 1046 0) ((S 1046 0) + 2 * (S 1032 0)) (g199 1127 0) ∧ 465000 ≤ (g199 1127 0) ∧ (g199 1127 0) + sm_hs (g199 71) (S 1100007) ≤ 635000 ∧ sm_NH (S 1100007) ∧ sm_CT (S 26) (S 27) (S 28) (S 29) (S 1100007) (S 1100023) (S 1100024) (S 1100025) (S 21) (S 1046 0) (S 1032 0) (S 1008 0) (S 1055 0) ∧ (∀ k : Int, (S 1046 0) ≤ k → k < ((S 1046 0) + 2 * (S 1032 0)) → (S 1100007 k) = 1) ∧ sm_DR (g199 72) (g199 71) (S 1046 0) ∧ 0 ≤ (S 1148 0) ∧ (S 1148 0) < (S 1046 0) ∧ (g199 71 (S 1148 0)) = 1 ∧ -1 ≤ p10 ∧ p10 < (S 1055 0) ∧ 0 ≤ (g191 1147 0) ∧ (g191 1147 0) ≤ 12 ∧ (∀ k : Int, 0 ≤ k → k < (g191 1147 0) → 635639 ≤ (g191 91 k) ∧ (g191 91 k) < 647800)) ∧ (∀ g246 : sv_S, (sm_ST (g246 71) (g246 74) (g246 75) (g246 78) (g246 79) (g246 80) (S 27) (S 1100007) (S 1100023) (S 1100024) (S 1046 0) ((S 1046 0) + 2 * (S 1032 0)) (g246 1127 0) ∧ 465000 ≤ (g246 1127 0) ∧ (g246 1127 0) + sm_hs (g246 71) (S 1100007) ≤ 635000 ∧ (g246 75 639) = 647340 ∧ (∀ k : Int, (g199 71 k) = 1 → (g246 71 k) = 1) ∧ sm_DR (g246 72) (g246 71) (S 1046 0) ∧ (641 * (sm_cm (g246 71) + sm_pt (g246 68) (g246 69) (g246 70) + sm_pl (g246 81) (g246 82) (g246 83) (g246 84) (g246 85) (g246 86) + sm_ps (g246 76) (g246 77)) + sm_du (g246 72)) ≤ (641 * (sm_cm (g199 71) + sm_pt (g199 68) (g199 69) (g199 70) + sm_pl (g199 81) (g199 82) (g199 83) (g199 84) (g199 85) (g199 86) + sm_ps (g199 76) (g199 77)) + sm_du (g199 72)) ∧ 0 ≤ (g246 74 639) ∧ (g246 74 639) ≤ 400 ∧ 0 ≤ (g246 78 639) ∧ (g246 78 639) ≤ 40 ∧ (g246 78 639) = sm_dp (S 1100024) (g246 1100031 0) ∧ -1 ≤ (g246 1100031 0) ∧ (g246 1100031 0) < (S 1046 0) ∧ (0 ≤ (g246 1100031 0) → (S 26 (g246 1100031 0)) = 27) ∧ sm_TC (g246 79) (g246 80) (S 27) (S 1100007) (S 1100023) (S 1100024) 25560 (g246 1100031 0) ∧ (g246 74 639) = (S 1100007 (S 1148 0)) ∧ (g246 1100031 0) = (S 1100023 (S 1148 0)) ∧ 0 ≤ (g246 1147 0) ∧ (g246 1147 0) ≤ 12 ∧ (∀ k : Int, 0 ≤ k → k < (g246 1147 0) → 635639 ≤ (g246 91 k) ∧ (g246 91 k) < 647800)) → (sv_R x205) ∧ (29 ≤ (S 1071 0) ∧ (S 1071 0) ≤ 127 ∧ 31 ≤ (S 1008 0) ∧ (S 1008 0) ≤ 90 ∧ 1 ≤ (S 1032 0) ∧ (S 1032 0) ≤ 11 ∧ 0 ≤ (S 1055 0) ∧ (S 1055 0) ≤ 19 ∧ (S 1071 0) = 29 + 6 * ((S 1032 0) - 1) + 2 * (S 1055 0) ∧ 0 ≤ (S 1046 0) ∧ (S 1046 0) + 2 * (S 1032 0) ≤ 500 ∧ sm_PD (S 1046 0) (S 1032 0) (S 1071 0) (S 1008 0) ∧ 0 ≤ (S 1071 0) * ((S 1008 0) + 1) ∧ (S 1071 0) * ((S 1008 0) + 1) ≤ 11557 ∧ (g246 75 639) = 647340 ∧ 0 ≤ (g246 74 639) ∧ (g246 74 639) ≤ 400 ∧ 0 ≤ x205 ∧ x205 < ((S 1046 0) + 2 * (S 1032 0))) ∧ (∀ g254 : sv_S, (sm_pt (g254 68) (g254 69) (g254 70) = sm_pt (g246 68) (g246 69) (g246 70) ∧ sm_pl (g254 81) (g254 82) (g254 83) (g254 84) (g254 85) (g254 86) = sm_pl (g246 81) (g246 82) (g246 83) (g246 84) (g246 85) (g246 86) ∧ sm_ps (g254 76) (g254 77) = sm_ps (g246 76) (g246 77)) → ((sm_ST (g246 71) (g246 74) (g246 75) (g246 78) (g246 79) (g246 80) (S 27) (S 1100007) (S 1100023) (S 1100024) (S 1046 0) ((S 1046 0) + 2 * (S 1032 0)) (g246 1127 0) → 0 ≤ x205 → x205 < ((S 1046 0) + 2 * (S 1032 0)) → (g246 71 x205) = 1 → (g246 74 x205) = (S 1100007 x205) ∧ 465000 ≤ (g246 75 x205) ∧ (g246 75 x205) + (g246 74 x205) ≤ (g246 1127 0) ∧ 0 ≤ (g246 78 x205) ∧ (g246 78 x205) ≤ 40) → ((sm_NH (S 1100007) → 0 ≤ sm_hs (g246 71) (S 1100007)) → (sv_R (g246 75 x205) → (0 ≤ (g246 75 x205) ∧ (g246 75 x205) < 647800 ∧ 635639 ≤ (647751 : Int) ∧ (647751 : Int) < 647800) ∧ (∀ g264 : sv_S, (sm_pt (g264 68) (g264 69) (g264 70) = sm_pt (g254 68) (g254 69) (g254 70)) → (((p10 = (-1 : Int)) → (((p10 = (-1 : Int)) → (29 ≤ (S 1071 0) ∧ (S 1071 0) ≤ 127 ∧ 31 ≤ (S 1008 0) ∧ (S 1008 0) ≤ 90 ∧ 1 ≤ (S 1032 0) ∧ (S 1032 0) ≤ 11 ∧ 0 ≤ (S 1055 0) ∧ (S 1055 0) ≤ 19 ∧ (S 1071 0) = 29 + 6 * ((S 1032 0) - 1) + 2 * (S 1055 0) ∧ 0 ≤ (S 1046 0) ∧ (S 1046 0) + 2 * (S 1032 0) ≤ 500 ∧ sm_PD (S 1046 0) (S 1032 0) (S 1071 0) (S 1008 0) ∧ 0 ≤ (S 1071 0) * ((S 1008 0) + 1) ∧ (S 1071 0) * ((S 1008 0) + 1) ≤ 11557 ∧ 31 ≤ (S 1007 0) ∧ (S 1007 0) ≤ 400 ∧ sm_LN (S 4) 400 (S 1007 0) ∧ (g246 75 639) = 647340 ∧ sm_ST (g246 71) (g246 74) (g246 75) (g246 78) (g246 79) (g246 80) (S 27) (S 1100007) (S 1100023) (S 1100024) (S 1046 0) ((S 1046 0) + 2 * (S 1032 0)) (g246 1127 0) ∧ 465000 ≤ (g246 1127 0) ∧ (g246 1127 0) + sm_hs (g246 71) (S 1100007) ≤ 635000 ∧ sm_NH (S 1100007) ∧ sm_CT (S 26) (S 27) (S 28) (S 29) (S 1100007) (S 1100023) (S 1100024) (S 1100025) (S 21) (S 1046 0) (S 1032 0) (S 1008 0) (S 1055 0) ∧ (∀ k : Int, (S 1046 0) ≤ k → k < ((S 1046 0) + 2 * (S 1032 0)) → (S 1100007 k) = 1) ∧ sm_DR (g246 72) (g246 71) (S 1046 0) ∧ 0 ≤ (g246 74 639) ∧ (g246 74 639) ≤ 400 ∧ 0 ≤ (g246 78 639) ∧ (g246 78 639) ≤ 40 ∧ (g246 78 639) = sm_dp (S 1100024) (g246 1100031 0) ∧ -1 ≤ (g246 1100031 0) ∧ (g246 1100031 0) < (S 1046 0) ∧ (0 ≤ (g246 1100031 0) → (S 26 (g246 1100031 0)) = 27) ∧ sm_TC (g246 79) (g246 80) (S 27) (S 1100007) (S 1100023) (S 1100024) 25560 (g246 1100031 0) ∧ 0 ≤ (S 1148 0) ∧ (S 1148 0) + 1 < (S 1046 0) ∧ 0 ≤ p9 ∧ p9 ≤ (g246 74 639) ∧ (g246 74 639) - p9 ≤ 399 ∧ 0 ≤ (647751 : Int) ∧ (647751 : Int) < 647800 ∧ (S 1100007 ((S 1148 0) + 1)) = (g246 74 639) - p9 + 1 ∧ (S 1100023 ((S 1148 0) + 1)) = (g246 1100031 0)) ∧ (∀ g271 : sv_S, (sm_ST (g271 71) (g271 74) (g271 75) (g271 78) (g271 79) (g271 80) (S 27) (S 1100007) (S 1100023) (S 1100024) (S 1046 0) ((S 1046 0) + 2 * (S 1032 0)) (g271 1127 0) ∧ 465000 ≤ (g271 1127 0) ∧ (g271 1127 0) + sm_hs (g271 71) (S 1100007) ≤ 635000 ∧ (g271 75 639) = 647340 ∧ (∀ k : Int, (g246 71 k) = 1 → (g271 71 k) = 1) ∧ sm_DR (g271 72) (g271 71) (S 1046 0) ∧ (641 * (sm_cm (g271 71) + sm_pt (g271 68) (g271 69) (g271 70) + sm_pl (g271 81) (g271 82) (g271 83) (g271 84) (g271 85) (g271 86) + sm_ps (g271 76) (g271 77)) + sm_du (g271 72)) ≤ (641 * (sm_cm (g246 71) + sm_pt (g264 68) (g264 69) (g264 70) + sm_pl (g254 81) (g254 82) (g254 83) (g254 84) (g254 85) (g254 86) + sm_ps (g254 76) (g254 77)) + sm_du (g246 72))) → (sm_ST (g271 71) (g271 74) (g271 75) (g271 78) (g271 79) (g271 80) (S 27) (S 1100007) (S 1100023) (S 1100024) (S 1046 0) ((S 1046 0) + 2 * (S 1032 0)) (g271 1127 0) ∧ 465000 ≤ (g271 1127 0) ∧ (g271 1127 0) + sm_hs (g271 71) (S 1100007) ≤ 635000 ∧ (g271 75 639) = 647340 ∧ (∀ k : Int, (g199 71 k) = 1 → (g271 71 k) = 1) ∧ sm_DR (g271 72) (g271 71) (S 1046 0) ∧ (641 * (sm_cm (g271 71) + sm_pt (g271 68) (g271 69) (g271 70) + sm_pl (g271 81) (g271 82) (g271 83) (g271 84) (g271 85) (g271 86) + sm_ps (g271 76) (g271 77)) + sm_du (g271 72)) ≤ (641 * (sm_cm (g199 71) + sm_pt (g199 68) (g199 69) (g199 70) + sm_pl (g199 81) (g199 82) (g199 83) (g199 84) (g199 85) (g199 86) + sm_ps (g199 76) (g199 77)) + sm_du (g199 72)) ∧ 0 ≤ (g246 1147 0) ∧ (g246 1147 0) ≤ 12 ∧ (∀ k : Int, 0 ≤ k → k < (g246 1147 0) → 635639 ≤ (g246 91 k) ∧ (g246 91 k) < 647800)))) ∧ ((¬ (p10 = (-1 : Int))) → (0 ≤ (647751 : Int) ∧ (647751 : Int) < 647800) ∧ (∀ g278 : sv_S, ((0 ≤ (0 : Int) → (0 : Int) < 1024 → (g278 68 (647751 : Int)) % 1024 = (0 : Int)) ∧ (635639 ≤ (647751 : Int) → sm_pt (g278 68) (g264 69) (g264 70) = sm_pt (g264 68) (g264 69) (g264 70)) ∧ ((647751 : Int) < 635639 → sm_pt (g278 68) (g264 69) (g264 70) = sm_pt (g264 68) (g264 69) (g264 70) + sm_rs (g264 68 (647751 : Int)) (g264 69 (647751 : Int)) (g264 70 (647751 : Int)) - sm_rs (g278 68 (647751 : Int)) (g264 69 (647751 : Int)) (g264 70 (647751 : Int)))) → (29 ≤ (S 1071 0) ∧ (S 1071 0) ≤ 127 ∧ 31 ≤ (S 1008 0) ∧ (S 1008 0) ≤ 90 ∧ 1 ≤ (S 1032 0) ∧ (S 1032 0) ≤ 11 ∧ 0 ≤ (S 1055 0) ∧ (S 1055 0) ≤ 19 ∧ (S 1071 0) = 29 + 6 * ((S 1032 0) - 1) + 2 * (S 1055 0) ∧ 0 ≤ (S 1046 0) ∧ (S 1046 0) + 2 * (S 1032 0) ≤ 500 ∧ sm_PD (S 1046 0) (S 1032 0) (S 1071 0) (S 1008 0) ∧ 0 ≤ (S 1071 0) * ((S 1008 0) + 1) ∧ (S 1071 0) * ((S 1008 0) + 1) ≤ 11557 ∧ 31 ≤ (S 1007 0) ∧ (S 1007 0) ≤ 400 ∧ sm_LN (S 4) 400 (S 1007 0) ∧ (g246 75 639) = 647340 ∧ sm_ST (g246 71) (g246 74) (g246 75) (g246 78) (g246 79) (g246 80) (S 27) (S 1100007) (S 1100023) (S 1100024) (S 1046 0) ((S 1046 0) + 2 * (S 1032 0)) (g246 1127 0) ∧ 465000 ≤ (g246 1127 0) ∧ (g246 1127 0) + sm_hs (g246 71) (S 1100007) ≤ 635000 ∧ sm_NH (S 1100007) ∧ sm_CT (S 26) (S 27) (S 28) (S 29) (S 1100007) (S 1100023) (S 1100024) (S 1100025) (S 21) (S 1046 0) (S 1032 0) (S 1008 0) (S 1055 0) ∧ (∀ k : Int, (S 1046 0) ≤ k → k < ((S 1046 0) + 2 * (S 1032 0)) → (S 1100007 k) = 1) ∧ sm_DR (g246 72) (g246 71) (S 1046 0) ∧ 0 ≤ (g246 74 639) ∧ (g246 74 639) ≤ 400 ∧ 0 ≤ (g246 78 639) ∧ (g246 78 639) ≤ 40 ∧ (g246 78 639) = sm_dp (S 1100024) (g246 1100031 0) ∧ -1 ≤ (g246 1100031 0) ∧ (g246 1100031 0) < (S 1046 0) ∧ (0 ≤ (g246 1100031 0) → (S 26 (g246 1100031 0)) = 27) ∧ sm_TC (g246 79) (g246 80) (S 27) (S 1100007) (S 1100023) (S 1100024) 25560 (g246 1100031 0) ∧ 0 ≤ (S 1148 0) ∧ (S 1148 0) + 1 < (S 1046 0) ∧ 0 ≤ p9 ∧ p9 ≤ (g246 74 639) ∧ (g246 74 639) - p9 ≤ 399 ∧ 0 ≤ (647751 : Int) ∧ (647751 : Int) < 647800 ∧ (S 1100007 ((S 1148 0) + 1)) = (g246 74 639) - p9 + 1 ∧ (S 1100023 ((S 1148 0) + 1)) = (g246 1100031 0)) ∧ (∀ g285 : sv_S, (sm_ST (g285 71) (g285 74) (g285 75) (g285 78) (g285 79) (g285 80) (S 27) (S 1100007) (S 1100023) (S 1100024) (S 1046 0) ((S 1046 0) + 2 * (S 1032 0)) (g285 1127 0) ∧ 465000 ≤ (g285 1127 0) ∧ (g285 1127 0) + sm_hs (g285 71) (S 1100007) ≤ 635000 ∧ (g285 75 639) = 647340 ∧ (∀ k : Int, (g246 71 k) = 1 → (g285 71 k) = 1) ∧ sm_DR (g285 72) (g285 71) (S 1046 0) ∧ (641 * (sm_cm (g285 71) + sm_pt (g285 68) (g285 69) (g285 70) + sm_pl (g285 81) (g285 82) (g285 83) (g285 84) (g285 85) (g285 86) + sm_ps (g285 76) (g285 77)) + sm_du (g285 72)) ≤ (641 * (sm_cm (g246 71) + sm_pt (g278 68) (g264 69) (g264 70) + sm_pl (g254 81) (g254 82) (g254 83) (g254 84) (g254 85) (g254 86) + sm_ps (g254 76) (g254 77)) + sm_du (g246 72))) → (sm_ST (g285 71) (g285 74) (g285 75) (g285 78) (g285 79) (g285 80) (S 27) (S 1100007) (S 1100023) (S 1100024) (S 1046 0) ((S 1046 0) + 2 * (S 1032 0)) (g285 1127 0) ∧ 465000 ≤ (g285 1127 0) ∧ (g285 1127 0) + sm_hs (g285 71) (S 1100007) ≤ 635000 ∧ (g285 75 639) = 647340 ∧ (∀ k : Int, (g199 71 k) = 1 → (g285 71 k) = 1) ∧ sm_DR (g285 72) (g285 71) (S 1046 0) ∧ (641 * (sm_cm (g285 71) + sm_pt (g285 68) (g285 69) (g285 70) + sm_pl (g285 81) (g285 82) (g285 83) (g285 84) (g285 85) (g285 86) + sm_ps (g285 76) (g285 77)) + sm_du (g285 72)) ≤ (641 * (sm_cm (g199 71) + sm_pt (g199 68) (g199 69) (g199 70) + sm_pl (g199 81) (g199 82) (g199 83) (g199 84) (g199 85) (g199 86) + sm_ps (g199 76) (g199 77)) + sm_du (g199 72)) ∧ 0 ≤ (g246 1147 0) ∧ (g246 1147 0) ≤ 12 ∧ (∀ k : Int, 0 ≤ k → k < (g246 1147 0) → 635639 ≤ (g246 91 k) ∧ (g246 91 k) < 647800))))))) ∧ ((¬ (p10 = (-1 : Int))) → (0 ≤ (647751 : Int) ∧ (647751 : Int) < 647800) ∧ (∀ r296 : Int, sv_R r296 → (sm_iand ((g264 68 (647751 : Int)) % 1024) (-513) = r296) → (((r296 = (0 : Int)) → (((p10 = (-1 : Int)) → (29 ≤ (S 1071 0) ∧ (S 1071 0) ≤ 127 ∧ 31 ≤ (S 1008 0) ∧ (S 1008 0) ≤ 90 ∧ 1 ≤ (S 1032 0) ∧ (S 1032 0) ≤ 11 ∧ 0 ≤ (S 1055 0) ∧ (S 1055 0) ≤ 19 ∧ (S 1071 0) = 29 + 6 * ((S 1032 0) - 1) + 2 * (S 1055 0) ∧ 0 ≤ (S 1046 0) ∧ (S 1046 0) + 2 * (S 1032 0) ≤ 500 ∧ sm_PD (S 1046 0) (S 1032 0) (S 1071 0) (S 1008 0) ∧ 0 ≤ (S 1071 0) * ((S 1008 0) + 1) ∧ (S 1071 0) * ((S 1008 0) + 1) ≤ 11557 ∧ 31 ≤ (S 1007 0) ∧ (S 1007 0) ≤ 400 ∧ sm_LN (S 4) 400 (S 1007 0) ∧ (g246 75 639) = 647340 ∧ sm_ST (g246 71) (g246 74) (g246 75) (g246 78) (g246 79) (g246 80) (S 27) (S 1100007) (S 1100023) (S 1100024) (S 1046 0) ((S 1046 0) + 2 * (S 1032 0)) (g246 1127 0) ∧ 465000 ≤ (g246 1127 0) ∧ (g246 1127 0) + sm_hs (g246 71) (S 1100007) ≤ 635000 ∧ sm_NH (S 1100007) ∧ sm_CT (S 26) (S 27) (S 28) (S 29) (S 1100007) (S 1100023) (S 1100024) (S 1100025) (S 21) (S 1046 0) (S 1032 0) (S 1008 0) (S 1055 0) ∧ (∀ k : Int, (S 1046 0) ≤ k → k < ((S 1046 0) + 2 * (S 1032 0)) → (S 1100007 k) = 1) ∧ sm_DR (g246 72) (g246 71) (S 1046 0) ∧ 0 ≤ (g246 74 639) ∧ (g246 74 639) ≤ 400 ∧ 0 ≤ (g246 78 639) ∧ (g246 78 639) ≤ 40 ∧ (g246 78 639) = sm_dp (S 1100024) (g246 1100031 0) ∧ -1 ≤ (g246 1100031 0) ∧ (g246 1100031 0) < (S 1046 0) ∧ (0 ≤ (g246 1100031 0) → (S 26 (g246 1100031 0)) = 27) ∧ sm_TC (g246 79) (g246 80) (S 27) (S 1100007) (S 1100023) (S 1100024) 25560 (g246 1100031 0) ∧ 0 ≤ (S 1148 0) ∧ (S 1148 0) + 1 < (S 1046 0) ∧ 0 ≤ p9 ∧ p9 ≤ (g246 74 639) ∧ (g246 74 639) - p9 ≤ 399 ∧ 0 ≤ (647751 : Int) ∧ (647751 : Int) < 647800 ∧ (S 1100007 ((S 1148 0) + 1)) = (g246 74 639) - p9 + 1 ∧ (S 1100023 ((S 1148 0) + 1)) = (g246 1100031 0)) ∧ (∀ g298 : sv_S, (sm_ST (g298 71) (g298 74) (g298 75) (g298 78) (g298 79) (g298 80) (S 27) (S 1100007) (S 1100023) (S 1100024) (S 1046 0) ((S 1046 0) + 2 * (S 1032 0)) (g298 1127 0) ∧ 465000 ≤ (g298 1127 0) ∧ (g298 1127 0) + sm_hs (g298 71) (S 1100007) ≤ 635000 ∧ (g298 75 639) = 647340 ∧ (∀ k : Int, (g246 71 k) = 1 → (g298 71 k) = 1) ∧ sm_DR (g298 72) (g298 71) (S 1046 0) ∧ (641 * (sm_cm (g298 71) + sm_pt (g298 68) (g298 69) (g298 70) + sm_pl (g298 81) (g298 82) (g298 83) (g298 84) (g298 85) (g298 86) + sm_ps (g298 76) (g298 77)) + sm_du (g298 72)) ≤ (641 * (sm_cm (g246 71) + sm_pt (g264 68) (g264 69) (g264 70) + sm_pl (g254 81) (g254 82) (g254 83) (g254 84) (g254 85) (g254 86) + sm_ps (g254 76) (g254 77)) + sm_du (g246 72))) → (sm_ST (g298 71) (g298 74) (g298 75) (g298 78) (g298 79) (g298 80) (S 27) (S 1100007) (S 1100023) (S 1100024) (S 1046 0) ((S 1046 0) + 2 * (S 1032 0)) (g298 1127 0) ∧ 465000 ≤ (g298 1127 0) ∧ (g298 1127 0) + sm_hs (g298 71) (S 1100007) ≤ 635000 ∧ (g298 75 639) = 647340 ∧ (∀ k : Int, (g199 71 k) = 1 → (g298 71 k) = 1) ∧ sm_DR (g298 72) (g298 71) (S 1046 0) ∧ (641 * (sm_cm (g298 71) + sm_pt (g298 68) (g298 69) (g298 70) + sm_pl (g298 81) (g298 82) (g298 83) (g298 84) (g298 85) (g298 86) + sm_ps (g298 76) (g298 77)) + sm_du (g298 72)) ≤ (641 * (sm_cm (g199 71) + sm_pt (g199 68) (g199 69) (g199 70) + sm_pl (g199 81) (g199 82) (g199 83) (g199 84) (g199 85) (g199 86) + sm_ps (g199 76) (g199 77)) + sm_du (g199 72)) ∧ 0 ≤ (g246 1147 0) ∧ (g246 1147 0) ≤ 12 ∧ (∀ k : Int, 0 ≤ k → k < (g246 1147 0) → 635639 ≤ (g246 91 k) ∧ (g246 91 k) < 647800)))) ∧ ((¬ (p10 = (-1 : Int))) → (∀ g304 : sv_S, ((0 ≤ (0 : Int) → (0 : Int) < 1024 → (g304 68 (647751 : Int)) % 1024 = (0 : Int)) ∧ (635639 ≤ (647751 : Int) → sm_pt (g304 68) (g264 69) (g264 70) = sm_pt (g264 68) (g264 69) (g264 70)) ∧ ((647751 : Int) < 635639 → sm_pt (g304 68) (g264 69) (g264 70) = sm_pt (g264 68) (g264 69) (g264 70) + sm_rs (g264 68 (647751 : Int)) (g264 69 (647751 : Int)) (g264 70 (647751 : Int)) - sm_rs (g304 68 (647751 : Int)) (g264 69 (647751 : Int)) (g264 70 (647751 : Int)))) → (29 ≤ (S 1071 0) ∧ (S 1071 0) ≤ 127 ∧ 31 ≤ (S 1008 0) ∧ (S 1008 0) ≤ 90 ∧ 1 ≤ (S 1032 0) ∧ (S 1032 0) ≤ 11 ∧ 0 ≤ (S 1055 0) ∧ (S 1055 0) ≤ 19 ∧ (S 1071 0) = 29 + 6 * ((S 1032 0) - 1) + 2 * (S 1055 0) ∧ 0 ≤ (S 1046 0) ∧ (S 1046 0) + 2 * (S 1032 0) ≤ 500 ∧ sm_PD (S 1046 0) (S 1032 0) (S 1071 0) (S 1008 0) ∧ 0 ≤ (S 1071 0) * ((S 1008 0) + 1) ∧ (S 1071 0) * ((S 1008 0) + 1) ≤ 11557 ∧ 31 ≤ (S 1007 0) ∧ (S 1007 0) ≤ 400 ∧ sm_LN (S 4) 400 (S 1007 0) ∧ (g246 75 639) = 647340 ∧ sm_ST (g246 71) (g246 74) (g246 75) (g246 78) (g246 79) (g246 80) (S 27) (S 1100007) (S 1100023) (S 1100024) (S 1046 0) ((S 1046 0) + 2 * (S 1032 0)) (g246 1127 0) ∧ 465000 ≤ (g246 1127 0) ∧ (g246 1127 0) + sm_hs (g246 71) (S 1100007) ≤ 635000 ∧ sm_NH (S 1100007) ∧ sm_CT (S 26) (S 27) (S 28) (S 29) (S 1100007) (S 1100023) (S 1100024) (S 1100025) (S 21) (S 1046 0) (S 1032 0) (S 1008 0) (S 1055 0) ∧ (∀ k : Int, (S 1046 0) ≤ k → k < ((S 1046 0) + 2 * (S 1032 0)) → (S 1100007 k) = 1) ∧ sm_DR (g246 72) (g246 71) (S 1046 0) ∧ 0 ≤ (g246 74 639) ∧ (g246 74 639) ≤ 400 ∧ 0 ≤ (g246 78 639) ∧ (g246 78 639) ≤ 40 ∧ (g246 78 639) = sm_dp (S 1100024) (g246 1100031 0) ∧ -1 ≤ (g246 1100031 0) ∧ (g246 1100031 0) < (S 1046 0) ∧ (0 ≤ (g246 1100031 0) → (S 26 (g246 1100031 0)) = 27) ∧ sm_TC (g246 79) (g246 80) (S 27) (S 1100007) (S 1100023) (S 1100024) 25560 (g246 1100031 0) ∧ 0 ≤ (S 1148 0) ∧ (S 1148 0) + 1 < (S 1046 0) ∧ 0 ≤ p9 ∧ p9 ≤ (g246 74 639) ∧ (g246 74 639) - p9 ≤ 399 ∧ 0 ≤ (647751 : Int) ∧ (647751 : Int) < 647800 ∧ (S 1100007 ((S 1148 0) + 1)) = (g246 74 639) - p9 + 1 ∧ (S 1100023 ((S 1148 0) + 1)) = (g246 1100031 0)) ∧ (∀ g311 : sv_S, (sm_ST (g311 71) (g311 74) (g311 75) (g311 78) (g311 79) (g311 80) (S 27) (S 1100007) (S 1100023) (S 1100024) (S 1046 0) ((S 1046 0) + 2 * (S 1032 0)) (g311 1127 0) ∧ 465000 ≤ (g311 1127 0) ∧ (g311 1127 0) + sm_hs (g311 71) (S 1100007) ≤ 635000 ∧ (g311 75 639) = 647340 ∧ (∀ k : Int, (g246 71 k) = 1 → (g311 71 k) = 1) ∧ sm_DR (g311 72) (g311 71) (S 1046 0) ∧ (641 * (sm_cm (g311 71) + sm_pt (g311 68) (g311 69) (g311 70) + sm_pl (g311 81) (g311 82) (g311 83) (g311 84) (g311 85) (g311 86) + sm_ps (g311 76) (g311 77)) + sm_du (g311 72)) ≤ (641 * (sm_cm (g246 71) + sm_pt (g304 68) (g264 69) (g264 70) + sm_pl (g254 81) (g254 82) (g254 83) (g254 84) (g254 85) (g254 86) + sm_ps (g254 76) (g254 77)) + sm_du (g246 72))) → (sm_ST (g311 71) (g311 74) (g311 75) (g311 78) (g311 79) (g311 80) (S 27) (S 1100007) (S 1100023) (S 1100024) (S 1046 0) ((S 1046 0) + 2 * (S 1032 0)) (g311 1127 0) ∧ 465000 ≤ (g311 1127 0) ∧ (g311 1127 0) + sm_hs (g311 71) (S 1100007) ≤ 635000 ∧ (g311 75 639) = 647340 ∧ (∀ k : Int, (g199 71 k) = 1 → (g311 71 k) = 1) ∧ sm_DR (g311 72) (g311 71) (S 1046 0) ∧ (641 * (sm_cm (g311 71) + sm_pt (g311 68) (g311 69) (g311 70) + sm_pl (g311 81) (g311 82) (g311 83) (g311 84) (g311 85) (g311 86) + sm_ps (g311 76) (g311 77)) + sm_du (g311 72)) ≤ (641 * (sm_cm (g199 71) + sm_pt (g199 68) (g199 69) (g199 70) + sm_pl (g199 81) (g199 82) (g199 83) (g199 84) (g199 85) (g199 86) + sm_ps (g199 76) (g199 77)) + sm_du (g199 72)) ∧ 0 ≤ (g246 1147 0) ∧ (g246 1147 0) ≤ 12 ∧ (∀ k : Int, 0 ≤ k → k < (g246 1147 0) → 635639 ≤ (g246 91 k) ∧ (g246 91 k) < 647800))))))) ∧ ((¬ (r296 = (0 : Int))) → (0 ≤ p10 ∧ p10 ≤ 600 ∧ 1 ≤ (S 1032 0) ∧ (S 1032 0) ≤ 4001) ∧ (∀ r322 : Int, sv_R r322 → (r322 = 29 + 6 * ((S 1032 0) - 1) + 2 * p10) → (635639 ≤ (647751 : Int) ∧ (647751 : Int) < 647800) ∧ (∀ g324 : sv_S, (sm_pt (g264 68) (g324 69) (g324 70) = sm_pt (g264 68) (g264 69) (g264 70)) → (∀ r334 : Int, sv_R r334 → (r334 = 29 + 6 * ((S 1032 0) - 1) + 2 * p10) → (sv_R (r334 + (1 : Int))) ∧ (∀ g336 : sv_S, (sm_pt (g264 68) (g336 69) (g336 70) = sm_pt (g264 68) (g324 69) (g324 70)) → (((p10 = (-1 : Int)) → (29 ≤ (S 1071 0) ∧ (S 1071 0) ≤ 127 ∧ 31 ≤ (S 1008 0) ∧ (S 1008 0) ≤ 90 ∧ 1 ≤ (S 1032 0) ∧ (S 1032 0) ≤ 11 ∧ 0 ≤ (S 1055 0) ∧ (S 1055 0) ≤ 19 ∧ (S 1071 0) = 29 + 6 * ((S 1032 0) - 1) + 2 * (S 1055 0) ∧ 0 ≤ (S 1046 0) ∧ (S 1046 0) + 2 * (S 1032 0) ≤ 500 ∧ sm_PD (S 1046 0) (S 1032 0) (S 1071 0) (S 1008 0) ∧ 0 ≤ (S 1071 0) * ((S 1008 0) + 1) ∧ (S 1071 0) * ((S 1008 0) + 1) ≤ 11557 ∧ 31 ≤ (S 1007 0) ∧ (S 1007 0) ≤ 400 ∧ sm_LN (S 4) 400 (S 1007 0) ∧ (g246 75 639) = 647340 ∧ sm_ST (g246 71) (g246 74) (g246 75) (g246 78) (g246 79) (g246 80) (S 27) (S 1100007) (S 1100023) (S 1100024) (S 1046 0) ((S 1046 0) + 2 * (S 1032 0)) (g246 1127 0) ∧ 465000 ≤ (g246 1127 0) ∧ (g246 1127 0) + sm_hs (g246 71) (S 1100007) ≤ 635000 ∧ sm_NH (S 1100007) ∧ sm_CT (S 26) (S 27) (S 28) (S 29) (S 1100007) (S 1100023) (S 1100024) (S 1100025) (S 21) (S 1046 0) (S 1032 0) (S 1008 0) (S 1055 0) ∧ (∀ k : Int, (S 1046 0) ≤ k → k < ((S 1046 0) + 2 * (S 1032 0)) → (S 1100007 k) = 1) ∧ sm_DR (g246 72) (g246 71) (S 1046 0) ∧ 0 ≤ (g246 74 639) ∧ (g246 74 639) ≤ 400 ∧ 0 ≤ (g246 78 639) ∧ (g246 78 639) ≤ 40 ∧ (g246 78 639) = sm_dp (S 1100024) (g246 1100031 0) ∧ -1 ≤ (g246 1100031 0) ∧ (g246 1100031 0) < (S 1046 0) ∧ (0 ≤ (g246 1100031 0) → (S 26 (g246 1100031 0)) = 27) ∧ sm_TC (g246 79) (g246 80) (S 27) (S 1100007) (S 1100023) (S 1100024) 25560 (g246 1100031 0) ∧ 0 ≤ (S 1148 0) ∧ (S 1148 0) + 1 < (S 1046 0) ∧ 0 ≤ p9 ∧ p9 ≤ (g246 74 639) ∧ (g246 74 639) - p9 ≤ 399 ∧ 0 ≤ (647751 : Int) ∧ (647751 : Int) < 647800 ∧ (S 1100007 ((S 1148 0) + 1)) = (g246 74 639) - p9 + 1 ∧ (S 1100023 ((S 1148 0) + 1)) = (g246 1100031 0)) ∧ (∀ g343 : sv_S, (sm_ST (g343 71) (g343 74) (g343 75) (g343 78) (g343 79) (g343 80) (S 27) (S 1100007) (S 1100023) (S 1100024) (S 1046 0) ((S 1046 0) + 2 * (S 1032 0)) (g343 1127 0) ∧ 465000 ≤ (g343 1127 0) ∧ (g343 1127 0) + sm_hs (g343 71) (S 1100007) ≤ 635000 ∧ (g343 75 639) = 647340 ∧ (∀ k : Int, (g246 71 k) = 1 → (g343 71 k) = 1) ∧ sm_DR (g343 72) (g343 71) (S 1046 0) ∧ (641 * (sm_cm (g343 71) + sm_pt (g343 68) (g343 69) (g343 70) + sm_pl (g343 81) (g343 82) (g343 83) (g343 84) (g343 85) (g343 86) + sm_ps (g343 76) (g343 77)) + sm_du (g343 72)) ≤ (641 * (sm_cm (g246 71) + sm_pt (g264 68) (g336 69) (g336 70) + sm_pl (g254 81) (g254 82) (g254 83) (g254 84) (g254 85) (g254 86) + sm_ps (g254 76) (g254 77)) + sm_du (g246 72))) → (sm_ST (g343 71) (g343 74) (g343 75) (g343 78) (g343 79) (g343 80) (S 27) (S 1100007) (S 1100023) (S 1100024) (S 1046 0) ((S 1046 0) + 2 * (S 1032 0)) (g343 1127 0) ∧ 465000 ≤ (g343 1127 0) ∧ (g343 1127 0) + sm_hs (g343 71) (S 1100007) ≤ 635000 ∧ (g343 75 639) = 647340 ∧ (∀ k : Int, (g199 71 k) = 1 → (g343 71 k) = 1) ∧ sm_DR (g343 72) (g343 71) (S 1046 0) ∧ (641 * (sm_cm (g343 71) + sm_pt (g343 68) (g343 69) (g343 70) + sm_pl (g343 81) (g343 82) (g343 83) (g343 84) (g343 85) (g343 86) + sm_ps (g343 76) (g343 77)) + sm_du (g343 72)) ≤ (641 * (sm_cm (g199 71) + sm_pt (g199 68) (g199 69) (g199 70) + sm_pl (g199 81) (g199 82) (g199 83) (g199 84) (g199 85) (g199 86) + sm_ps (g199 76) (g199 77)) + sm_du (g199 72)) ∧ 0 ≤ (g246 1147 0) ∧ (g246 1147 0) ≤ 12 ∧ (∀ k : Int, 0 ≤ k → k < (g246 1147 0) → 635639 ≤ (g246 91 k) ∧ (g246 91 k) < 647800)))) ∧ ((¬ (p10 = (-1 : Int))) → (∀ g349 : sv_S, ((0 ≤ (0 : Int) → (0 : Int) < 1024 → (g349 68 (647751 : Int)) % 1024 = (0 : Int)) ∧ (635639 ≤ (647751 : Int) → sm_pt (g349 68) (g336 69) (g336 70) = sm_pt (g264 68) (g336 69) (g336 70)) ∧ ((647751 : Int) < 635639 → sm_pt (g349 68) (g336 69) (g336 70) = sm_pt (g264 68) (g336 69) (g336 70) + sm_rs (g264 68 (647751 : Int)) (g336 69 (647751 : Int)) (g336 70 (647751 : Int)) - sm_rs (g349 68 (647751 : Int)) (g336 69 (647751 : Int)) (g336 70 (647751 : Int)))) → (29 ≤ (S 1071 0) ∧ (S 1071 0) ≤ 127 ∧ 31 ≤ (S 1008 0) ∧ (S 1008 0) ≤ 90 ∧ 1 ≤ (S 1032 0) ∧ (S 1032 0) ≤ 11 ∧ 0 ≤ (S 1055 0) ∧ (S 1055 0) ≤ 19 ∧ (S 1071 0) = 29 + 6 * ((S 1032 0) - 1) + 2 * (S 1055 0) ∧ 0 ≤ (S 1046 0) ∧ (S 1046 0) + 2 * (S 1032 0) ≤ 500 ∧ sm_PD (S 1046 0) (S 1032 0) (S 1071 0) (S 1008 0) ∧ 0 ≤ (S 1071 0) * ((S 1008 0) + 1) ∧ (S 1071 0) * ((S 1008 0) + 1) ≤ 11557 ∧ 31 ≤ (S 1007 0) ∧ (S 1007 0) ≤ 400 ∧ sm_LN (S 4) 400 (S 1007 0) ∧ (g246 75 639) = 647340 ∧ sm_ST (g246 71) (g246 74) (g246 75) (g246 78) (g246 79) (g246 80) (S 27) (S 1100007) (S 1100023) (S 1100024) (S 1046 0) ((S 1046 0) + 2 * (S 1032 0)) (g246 1127 0) ∧ 465000 ≤ (g246 1127 0) ∧ (g246 1127 0) + sm_hs (g246 71) (S 1100007) ≤ 635000 ∧ sm_NH (S 1100007) ∧ sm_CT (S 26) (S 27) (S 28) (S 29) (S 1100007) (S 1100023) (S 1100024) (S 1100025) (S 21) (S 1046 0) (S 1032 0) (S 1008 0) (S 1055 0) ∧ (∀ k : Int, (S 1046 0) ≤ k → k < ((S 1046 0) + 2 * (S 1032 0)) → (S 1100007 k) = 1) ∧ sm_DR (g246 72) (g246 71) (S 1046 0) ∧ 0 ≤ (g246 74 639) ∧ (g246 74 639) ≤ 400 ∧ 0 ≤ (g246 78 639) ∧ (g246 78 639) ≤ 40 ∧ (g246 78 639) = sm_dp (S 1100024) (g246 1100031 0) ∧ -1 ≤ (g246 1100031 0) ∧ (g246 1100031 0) < (S 1046 0) ∧ (0 ≤ (g246 1100031 0) → (S 26 (g246 1100031 0)) = 27) ∧ sm_TC (g246 79) (g246 80) (S 27) (S 1100007) (S 1100023) (S 1100024) 25560 (g246 1100031 0) ∧ 0 ≤ (S 1148 0) ∧ (S 1148 0) + 1 < (S 1046 0) ∧ 0 ≤ p9 ∧ p9 ≤ (g246 74 639) ∧ (g246 74 639) - p9 ≤ 399 ∧ 0 ≤ (647751 : Int) ∧ (647751 : Int) < 647800 ∧ (S 1100007 ((S 1148 0) + 1)) = (g246 74 639) - p9 + 1 ∧ (S 1100023 ((S 1148 0) + 1)) = (g246 1100031 0)) ∧ (∀ g356 : sv_S, (sm_ST (g356 71) (g356 74) (g356 75) (g356 78) (g356 79) (g356 80) (S 27) (S 1100007) (S 1100023) (S 1100024) (S 1046 0) ((S 1046 0) + 2 * (S 1032 0)) (g356 1127 0) ∧ 465000 ≤ (g356 1127 0) ∧ (g356 1127 0) + sm_hs (g356 71) (S 1100007) ≤ 635000 ∧ (g356 75 639) = 647340 ∧ (∀ k : Int, (g246 71 k) = 1 → (g356 71 k) = 1) ∧ sm_DR (g356 72) (g356 71) (S 1046 0) ∧ (641 * (sm_cm (g356 71) + sm_pt (g356 68) (g356 69) (g356 70) + sm_pl (g356 81) (g356 82) (g356 83) (g356 84) (g356 85) (g356 86) + sm_ps (g356 76) (g356 77)) + sm_du (g356 72)) ≤ (641 * (sm_cm (g246 71) + sm_pt (g349 68) (g336 69) (g336 70) + sm_pl (g254 81) (g254 82) (g254 83) (g254 84) (g254 85) (g254 86) + sm_ps (g254 76) (g254 77)) + sm_du (g246 72))) → (sm_ST (g356 71) (g356 74) (g356 75) (g356 78) (g356 79) (g356 80) (S 27) (S 1100007) (S 1100023) (S 1100024) (S 1046 0) ((S 1046 0) + 2 * (S 1032 0)) (g356 1127 0) ∧ 465000 ≤ (g356 1127 0) ∧ (g356 1127 0) + sm_hs (g356 71) (S 1100007) ≤ 635000 ∧ (g356 75 639) = 647340 ∧ (∀ k : Int, (g199 71 k) = 1 → (g356 71 k) = 1) ∧ sm_DR (g356 72) (g356 71) (S 1046 0) ∧ (641 * (sm_cm (g356 71) + sm_pt (g356 68) (g356 69) (g356 70) + sm_pl (g356 81) (g356 82) (g356 83) (g356 84) (g356 85) (g356 86) + sm_ps (g356 76) (g356 77)) + sm_du (g356 72)) ≤ (641 * (sm_cm (g199 71) + sm_pt (g199 68) (g199 69) (g199 70) + sm_pl (g199 81) (g199 82) (g199 83) (g199 84) (g199 85) (g199 86) + sm_ps (g199 76) (g199 77)) + sm_du (g199 72)) ∧ 0 ≤ (g246 1147 0) ∧ (g246 1147 0) ≤ 12 ∧ (∀ k : Int, 0 ≤ k → k < (g246 1147 0) → 635639 ≤ (g246 91 k) ∧ (g246 91 k) < 647800)))))))))))))))))))))))))))))) ∧ ((¬ (¬ r17 = (0 : Int))) → (sm_ST (S 71) (S 74) (S 75) (S 78) (S 79) (S 80) (S 27) (S 1100007) (S 1100023) (S 1100024) (S 1046 0) ((S 1046 0) + 2 * (S 1032 0)) (S 1127 0) ∧ 465000 ≤ (S 1127 0) ∧ (S 1127 0) + sm_hs (S 71) (S 1100007) ≤ 635000 ∧ (S 75 639) = 647340 ∧ (∀ k : Int, (S 71 k) = 1 → (S 71 k) = 1) ∧ sm_DR (S 72) (S 71) (S 1046 0) ∧ (641 * (sm_cm (S 71) + sm_pt (S 68) (S 69) (S 70) + sm_pl (S 81) (S 82) (S 83) (S 84) (S 85) (S 86) + sm_ps (S 76) (S 77)) + sm_du (S 72)) ≤ (641 * (sm_cm (S 71) + sm_pt (S 68) (S 69) (S 70) + sm_pl (S 81) (S 82) (S 83) (S 84) (S 85) (S 86) + sm_ps (S 76) (S 77)) + sm_du (S 72)) ∧ 0 ≤ (S 1147 0) ∧ (S 1147 0) ≤ 12 ∧ (∀ k : Int, 0 ≤ k → k < (S 1147 0) → 635639 ≤ (S 91 k) ∧ (S 91 k) < 647800)))))))))) := by
  intro p1
  intro p2
  intro p4
  intro p6
  intro p7
  intro p8
  intro p9
  intro p10
  intro S
  intro h1_
  intro h2_
  intro h3_
  intro h4_
  intro h5_
  intro h6_
  intro h7_
  intro h8_
  intro h9_
  rintro ⟨h10_, ⟨h11_, ⟨h12_, ⟨h13_, ⟨h14_, ⟨h15_, ⟨h16_, ⟨h17_, ⟨h18_, ⟨h19_, ⟨h20_, ⟨h21_, ⟨h22_, ⟨h23_, ⟨h24_, ⟨h25_, ⟨h26_, ⟨h27_, ⟨h28_, ⟨h29_, ⟨h30_, ⟨h31_, ⟨h32_, ⟨h33_, ⟨h34_, ⟨h35_, ⟨h36_, ⟨h37_, ⟨h38_, ⟨h39_, ⟨h40_, ⟨h41_, ⟨h42_, ⟨h43_, ⟨h44_, ⟨h45_, ⟨h46_, ⟨h47_, ⟨h48_, ⟨h49_, ⟨h50_, ⟨h51_, ⟨h52_, ⟨h53_, ⟨h54_, ⟨h55_, ⟨h56_, h57_⟩⟩⟩⟩⟩⟩⟩⟩⟩⟩⟩⟩⟩⟩⟩⟩⟩⟩⟩⟩⟩⟩⟩⟩⟩⟩⟩⟩⟩⟩⟩⟩⟩⟩⟩⟩⟩⟩⟩⟩⟩⟩⟩⟩⟩⟩⟩
  intro h58_
  have h59_ := (h58_ h32_)
  have h60_ := (h59_ h35_)
  obtain ⟨h61_, ⟨h62_, ⟨h63_, h64_⟩⟩⟩ := (h60_ h36_)
  intro x2
  intro h65_
  refine ⟨(la_codeWays_0 h15_ h43_ h44_ h65_), ?_⟩
  refine ⟨(la_codeWays_1 h15_ h43_ h44_ h65_), ?_⟩
  intro r10
  intro h66_
  rintro ⟨h67_, h68_⟩
  refine ⟨(la_codeWays_2 h15_ h43_ h44_ h65_), ?_⟩
  refine ⟨(la_codeWays_3 h15_ h43_ h44_ h65_), ?_⟩
  intro r17
  intro h69_
  rintro ⟨h70_, h71_⟩
  refine ⟨?_, ?_⟩
  · skip
    intro h72_
    have h73_ := (h68_.resolve_left h72_)
    refine ⟨⟨h10_, ⟨h11_, ⟨h12_, ⟨h13_, ⟨h14_, ⟨h15_, ⟨h16_, ⟨h17_, ⟨h18_, ⟨h19_, ⟨h20_, ⟨h21_, ⟨h22_, ⟨h23_, ⟨h24_, ⟨h25_, ⟨h26_, ⟨h27_, ⟨h28_, ⟨h29_, ⟨h30_, ⟨h31_, ⟨h32_, ⟨h33_, ⟨h34_, ⟨h35_, ⟨h36_, ⟨h37_, ⟨h56_, ⟨h57_, ⟨h40_, ⟨h41_, h42_⟩⟩⟩⟩⟩⟩⟩⟩⟩⟩⟩⟩⟩⟩⟩⟩⟩⟩⟩⟩⟩⟩⟩⟩⟩⟩⟩⟩⟩⟩⟩⟩, ?_⟩
    intro g19
    rintro ⟨h74_, ⟨h75_, ⟨h76_, ⟨h77_, ⟨h78_, ⟨h79_, ⟨h80_, ⟨h81_, ⟨h82_, ⟨h83_, ⟨h84_, ⟨h85_, ⟨h86_, ⟨h87_, ⟨h88_, ⟨h89_, ⟨h90_, ⟨h91_, ⟨h92_, ⟨h93_, h94_⟩⟩⟩⟩⟩⟩⟩⟩⟩⟩⟩⟩⟩⟩⟩⟩⟩⟩⟩⟩
    refine ⟨(la_codeWays_6 h73_), ?_⟩
    refine ⟨?_, ?_⟩
    · skip
      refine ⟨?_, ?_⟩
      · skip
        have h95_ := (h33_ (S 1148 0))
        have h96_ := (h33_ (S 1148 0 + 1))
        have h97_ := ((h78_ (S 1148 0)) h37_)
        exact (la_codeWays_9 h71_)
      have h98_ := (h33_ (S 1148 0))
      have h99_ := (h33_ (S 1148 0 + 1))
      have h100_ := ((h78_ (S 1148 0)) h37_)
      exact (la_codeWays_10 h71_)
    refine ⟨⟨h10_, ⟨h11_, ⟨h12_, ⟨h13_, ⟨h14_, ⟨h15_, ⟨h16_, ⟨h17_, ⟨h18_, ⟨h19_, ⟨h20_, ⟨h21_, ⟨h22_, ⟨h23_, ⟨h24_, ⟨h25_, ⟨h26_, ⟨h77_, ⟨h74_, ⟨h75_, ⟨h76_, ⟨h31_, ⟨h32_, ⟨h33_, ⟨h79_, ⟨h81_, ⟨h82_, ⟨h83_, ⟨h84_, ⟨h85_, ⟨h86_, ⟨h87_, ⟨h88_, ⟨h89_, ⟨h38_, ⟨h39_, ⟨h92_, ⟨h93_, ⟨h94_, (la_codeWays_11 h43_ h44_ h45_ h46_ h47_ h48_ h49_ h50_ h56_ h57_)⟩⟩⟩⟩⟩⟩⟩⟩⟩⟩⟩⟩⟩⟩⟩⟩⟩⟩⟩⟩⟩⟩⟩⟩⟩⟩⟩⟩⟩⟩⟩⟩⟩⟩⟩⟩⟩⟩⟩, ?_⟩
    intro g27
    rintro ⟨h101_, ⟨h102_, ⟨h103_, ⟨h104_, ⟨h105_, ⟨h106_, h107_⟩⟩⟩⟩⟩⟩
    intro h108_
    intro x33
    intro h109_
    refine ⟨?_, ?_⟩
    · skip
      intro g35
      rintro ⟨h110_, ⟨h111_, ⟨h112_, ⟨h113_, ⟨h114_, ⟨h115_, ⟨h116_, ⟨h117_, ⟨h118_, h119_⟩⟩⟩⟩⟩⟩⟩⟩⟩
      refine ⟨(la_codeWays_12 h20_ h35_ h43_ h44_ h54_ h109_), ?_⟩
      rintro ⟨h120_, h121_⟩
      refine ⟨?_, ?_⟩
      · skip
        intro h122_
        refine ⟨h110_, ?_⟩
        refine ⟨h111_, ?_⟩
        refine ⟨h112_, ?_⟩
        refine ⟨h113_, ?_⟩
        refine ⟨?_, ?_⟩
        · skip
          intro k
          intro h123_
          have h124_ := (h33_ (S 1148 0))
          have h125_ := (h33_ (S 1148 0 + 1))
          have h126_ := ((h78_ (S 1148 0)) h37_)
          have h127_ := ((h78_ k) h123_)
          have h128_ := (h114_ (x33 + 1))
          have h129_ := (h114_ k)
          have h130_ : ¬ (g27 71 (x33 + 1) = 1) := fun q_ => (la_codeWays_13 h122_) (h128_ q_)
          have h131_ := (h105_ (x33 + 1))
          have h132_ := ((h105_ (S 1148 0)) h126_)
          have h133_ := ((h105_ k) h127_)
          have h134_ := (h129_ h133_)
          have h135_ : ¬ (g19 71 (x33 + 1) = 1) := fun q_ => h130_ (h131_ q_)
          exact h134_
        refine ⟨h115_, ?_⟩
        refine ⟨(la_codeWays_14 h80_ h107_ h116_), ?_⟩
        refine ⟨h117_, ?_⟩
        refine ⟨h118_, ?_⟩
        intro kv1
        intro h136_
        intro h137_
        refine ⟨?_, ?_⟩
        · skip
          have h138_ := (h33_ (S 1148 0))
          have h139_ := (h33_ (S 1148 0 + 1))
          have h140_ := ((h78_ (S 1148 0)) h37_)
          have h141_ := (h114_ (x33 + 1))
          obtain ⟨h142_, h143_⟩ := (((h119_ kv1) h136_) h137_)
          have h144_ : ¬ (g27 71 (x33 + 1) = 1) := fun q_ => (la_codeWays_13 h122_) (h141_ q_)
          have h145_ := (h105_ (x33 + 1))
          have h146_ := ((h105_ (S 1148 0)) h140_)
          have h147_ : ¬ (g19 71 (x33 + 1) = 1) := fun q_ => h144_ (h145_ q_)
          exact h142_
        have h148_ := (h33_ (S 1148 0))
        have h149_ := (h33_ (S 1148 0 + 1))
        have h150_ := ((h78_ (S 1148 0)) h37_)
        have h151_ := (h114_ (x33 + 1))
        obtain ⟨h152_, h153_⟩ := (((h119_ kv1) h136_) h137_)
        have h154_ : ¬ (g27 71 (x33 + 1) = 1) := fun q_ => (la_codeWays_13 h122_) (h151_ q_)
        have h155_ := (h105_ (x33 + 1))
        have h156_ := ((h105_ (S 1148 0)) h150_)
        have h157_ : ¬ (g19 71 (x33 + 1) = 1) := fun q_ => h154_ (h155_ q_)
        exact h153_
      intro h158_
      refine ⟨?_, ?_⟩
      · skip
        refine ⟨h10_, ?_⟩
        refine ⟨h11_, ?_⟩
        refine ⟨h12_, ?_⟩
        refine ⟨h13_, ?_⟩
        refine ⟨h14_, ?_⟩
        refine ⟨h15_, ?_⟩
        refine ⟨h16_, ?_⟩
        refine ⟨h17_, ?_⟩
        refine ⟨h18_, ?_⟩
        refine ⟨h19_, ?_⟩
        refine ⟨h20_, ?_⟩
        refine ⟨h21_, ?_⟩
        refine ⟨h22_, ?_⟩
        refine ⟨h23_, ?_⟩
        refine ⟨h24_, ?_⟩
        refine ⟨h25_, ?_⟩
        refine ⟨h26_, ?_⟩
        refine ⟨h113_, ?_⟩
        refine ⟨h110_, ?_⟩
        refine ⟨h111_, ?_⟩
        refine ⟨h112_, ?_⟩
        refine ⟨h31_, ?_⟩
        refine ⟨h32_, ?_⟩
        refine ⟨h33_, ?_⟩
        refine ⟨h115_, ?_⟩
        refine ⟨h35_, ?_⟩
        refine ⟨h36_, ?_⟩
        refine ⟨?_, ?_⟩
        · skip
          have h159_ := (h33_ (S 1148 0))
          have h160_ := (h33_ (S 1148 0 + 1))
          have h161_ := ((h78_ (S 1148 0)) h37_)
          have h162_ := (h114_ (x33 + 1))
          have h163_ := (h114_ (S 1148 0))
          have h164_ := (h105_ (x33 + 1))
          have h165_ := ((h105_ (S 1148 0)) h161_)
          have h166_ := (h163_ h165_)
          exact h166_
        refine ⟨h56_, ?_⟩
        refine ⟨h57_, ?_⟩
        refine ⟨h117_, ?_⟩
        refine ⟨h118_, ?_⟩
        intro kv2
        intro h167_
        intro h168_
        refine ⟨?_, ?_⟩
        · skip
          have h169_ := (h33_ (S 1148 0))
          have h170_ := (h33_ (S 1148 0 + 1))
          have h171_ := ((h78_ (S 1148 0)) h37_)
          have h172_ := (h114_ (x33 + 1))
          obtain ⟨h173_, h174_⟩ := (((h119_ kv2) h167_) h168_)
          have h175_ := (h105_ (x33 + 1))
          have h176_ := ((h105_ (S 1148 0)) h171_)
          exact h173_
        have h177_ := (h33_ (S 1148 0))
        have h178_ := (h33_ (S 1148 0 + 1))
        have h179_ := ((h78_ (S 1148 0)) h37_)
        have h180_ := (h114_ (x33 + 1))
        obtain ⟨h181_, h182_⟩ := (((h119_ kv2) h167_) h168_)
        have h183_ := (h105_ (x33 + 1))
        have h184_ := ((h105_ (S 1148 0)) h179_)
        exact h182_
      intro g43
      rintro ⟨h185_, ⟨h186_, ⟨h187_, ⟨h188_, ⟨h189_, ⟨h190_, ⟨h191_, ⟨h192_, ⟨h193_, ⟨h194_, ⟨h195_, ⟨h196_, ⟨h197_, ⟨h198_, ⟨h199_, ⟨h200_, ⟨h201_, ⟨h202_, ⟨h203_, ⟨h204_, h205_⟩⟩⟩⟩⟩⟩⟩⟩⟩⟩⟩⟩⟩⟩⟩⟩⟩⟩⟩⟩
      refine ⟨(la_codeWays_15 h19_ h20_ h43_ h44_ h109_), ?_⟩
      refine ⟨⟨h10_, ⟨h11_, ⟨h12_, ⟨h13_, ⟨h14_, ⟨h15_, ⟨h16_, ⟨h17_, ⟨h18_, ⟨h19_, ⟨h20_, ⟨h21_, (la_codeWays_16 h22_ h23_ h35_ h43_ h44_ h51_ h52_ h54_ h62_ h109_ h188_ h201_)⟩⟩⟩⟩⟩⟩⟩⟩⟩⟩⟩⟩, ?_⟩
      intro g50
      rintro ⟨h206_, ⟨h207_, h208_⟩⟩
      intro h209_
      have h210_ := (h209_ h185_)
      have h211_ := (h210_ (la_codeWays_17 h35_ h43_ h54_ h109_))
      have h212_ := (h211_ (la_codeWays_18 h44_ h109_))
      intro h213_
      have h214_ := (h213_ h31_)
      intro h215_
      refine ⟨?_, ?_⟩
      · skip
        refine ⟨?_, ?_⟩
        · skip
          have h216_ := (((h33_ (x33 + 1)) (la_codeWays_19 h43_ h109_)) (la_codeWays_18 h44_ h109_))
          have h217_ := (h33_ (S 1148 0))
          have h218_ := (h33_ (S 1148 0 + 1))
          have h219_ := ((h78_ (S 1148 0)) h37_)
          have h220_ := (h114_ (x33 + 1))
          have h221_ := ((h189_ (x33 + 1)) (la_codeWays_20 h121_ (la_codeWays_5 h120_ h158_)))
          obtain ⟨h222_, ⟨h223_, ⟨h224_, ⟨h225_, h226_⟩⟩⟩⟩ := (h212_ h221_)
          have h227_ := (h105_ (x33 + 1))
          have h228_ := ((h105_ (S 1148 0)) h219_)
          have e229_ : S 26 (g43 1100031 0) = S 26 (g19 1100031 0) := congrArg ((S 26)) (la_codeWays_21 h91_ h202_)
          have e230_ : sm_dp (S 1100024) (g43 1100031 0) = sm_dp (S 1100024) (g19 1100031 0) := congrArg ((sm_dp (S 1100024))) (la_codeWays_21 h91_ h202_)
          exact (la_codeWays_22 h223_)
        refine ⟨?_, ?_⟩
        · skip
          have h231_ := (((h33_ (x33 + 1)) (la_codeWays_19 h43_ h109_)) (la_codeWays_18 h44_ h109_))
          have h232_ := (h33_ (S 1148 0))
          have h233_ := (h33_ (S 1148 0 + 1))
          have h234_ := ((h78_ (S 1148 0)) h37_)
          have h235_ := (h114_ (x33 + 1))
          have h236_ := ((h189_ (x33 + 1)) (la_codeWays_20 h121_ (la_codeWays_5 h120_ h158_)))
          obtain ⟨h237_, ⟨h238_, ⟨h239_, ⟨h240_, h241_⟩⟩⟩⟩ := (h212_ h236_)
          have h242_ := (h105_ (x33 + 1))
          have h243_ := ((h105_ (S 1148 0)) h234_)
          have e244_ : S 26 (g43 1100031 0) = S 26 (g19 1100031 0) := congrArg ((S 26)) (la_codeWays_21 h91_ h202_)
          have e245_ : sm_dp (S 1100024) (g43 1100031 0) = sm_dp (S 1100024) (g19 1100031 0) := congrArg ((sm_dp (S 1100024))) (la_codeWays_21 h91_ h202_)
          exact (la_codeWays_23 h187_ h214_ h231_ h237_ h239_)
        refine ⟨la_codeWays_24, ?_⟩
        exact la_codeWays_25
      intro g59
      intro h246_
      refine ⟨⟨h10_, ⟨h11_, ⟨h12_, ⟨h13_, ⟨h14_, ⟨h15_, ⟨h16_, ⟨h17_, ⟨h18_, ⟨h19_, ⟨h20_, ⟨h21_, ⟨h22_, ⟨h23_, ⟨h24_, ⟨h25_, ⟨h26_, ⟨h188_, ⟨h185_, ⟨h186_, ⟨h187_, ⟨h31_, ⟨h32_, ⟨h33_, ⟨h190_, ⟨h192_, ⟨h193_, ⟨h194_, ⟨h195_, ⟨h196_, ⟨h197_, ⟨h198_, ⟨h199_, ⟨h200_, (la_codeWays_26 h35_ h54_)⟩⟩⟩⟩⟩⟩⟩⟩⟩⟩⟩⟩⟩⟩⟩⟩⟩⟩⟩⟩⟩⟩⟩⟩⟩⟩⟩⟩⟩⟩⟩⟩⟩⟩, ?_⟩
      intro g65
      rintro ⟨h247_, ⟨h248_, ⟨h249_, ⟨h250_, ⟨h251_, ⟨h252_, h253_⟩⟩⟩⟩⟩⟩
      refine ⟨h247_, ?_⟩
      refine ⟨h248_, ?_⟩
      refine ⟨h249_, ?_⟩
      refine ⟨h250_, ?_⟩
      refine ⟨?_, ?_⟩
      · skip
        intro kv3
        intro h254_
        have h255_ := (((h33_ (x33 + 1)) (la_codeWays_19 h43_ h109_)) (la_codeWays_18 h44_ h109_))
        have h256_ := (h33_ (S 1148 0))
        have h257_ := (h33_ (S 1148 0 + 1))
        have h258_ := ((h78_ (S 1148 0)) h37_)
        have h259_ := ((h78_ kv3) h254_)
        have h260_ := (h114_ (x33 + 1))
        have h261_ := ((h189_ (x33 + 1)) (la_codeWays_20 h121_ (la_codeWays_5 h120_ h158_)))
        have h262_ := ((h251_ (x33 + 1)) h261_)
        have h263_ := (h251_ kv3)
        obtain ⟨h264_, ⟨h265_, ⟨h266_, ⟨h267_, h268_⟩⟩⟩⟩ := (h212_ h261_)
        have h269_ := (h105_ (x33 + 1))
        have h270_ := ((h105_ (S 1148 0)) h258_)
        have h271_ := ((h105_ kv3) h259_)
        have h272_ := (h189_ kv3)
        have e273_ : S 26 (g43 1100031 0) = S 26 (g19 1100031 0) := congrArg ((S 26)) (la_codeWays_21 h91_ h202_)
        have e274_ : sm_dp (S 1100024) (g43 1100031 0) = sm_dp (S 1100024) (g19 1100031 0) := congrArg ((sm_dp (S 1100024))) (la_codeWays_21 h91_ h202_)
        have h275_ := (h78_ (x33 + 1))
        have h276_ := ((h114_ (S 1148 0)) h270_)
        have h277_ := ((h114_ kv3) h271_)
        have h278_ := (h272_ h277_)
        have h279_ := (h263_ h278_)
        have h280_ := ((h189_ (S 1148 0)) h276_)
        exact h279_
      refine ⟨h252_, ?_⟩
      refine ⟨(la_codeWays_27 h80_ h107_ h116_ h191_ h206_ h207_ h208_ h246_ h253_), ?_⟩
      refine ⟨h203_, ?_⟩
      refine ⟨h204_, ?_⟩
      intro kv4
      intro h281_
      intro h282_
      refine ⟨?_, ?_⟩
      · skip
        have h283_ := (((h33_ (x33 + 1)) (la_codeWays_19 h43_ h109_)) (la_codeWays_18 h44_ h109_))
        have h284_ := (h33_ (S 1148 0))
        have h285_ := (h33_ (S 1148 0 + 1))
        have h286_ := ((h78_ (S 1148 0)) h37_)
        have h287_ := (h114_ (x33 + 1))
        have h288_ := ((h189_ (x33 + 1)) (la_codeWays_20 h121_ (la_codeWays_5 h120_ h158_)))
        obtain ⟨h289_, h290_⟩ := (((h205_ kv4) h281_) h282_)
        have h291_ := ((h251_ (x33 + 1)) h288_)
        obtain ⟨h292_, ⟨h293_, ⟨h294_, ⟨h295_, h296_⟩⟩⟩⟩ := (h212_ h288_)
        have h297_ := (h105_ (x33 + 1))
        have h298_ := ((h105_ (S 1148 0)) h286_)
        have e299_ : S 26 (g43 1100031 0) = S 26 (g19 1100031 0) := congrArg ((S 26)) (la_codeWays_21 h91_ h202_)
        have e300_ : sm_dp (S 1100024) (g43 1100031 0) = sm_dp (S 1100024) (g19 1100031 0) := congrArg ((sm_dp (S 1100024))) (la_codeWays_21 h91_ h202_)
        exact h289_
      have h301_ := (((h33_ (x33 + 1)) (la_codeWays_19 h43_ h109_)) (la_codeWays_18 h44_ h109_))
      have h302_ := (h33_ (S 1148 0))
      have h303_ := (h33_ (S 1148 0 + 1))
      have h304_ := ((h78_ (S 1148 0)) h37_)
      have h305_ := (h114_ (x33 + 1))
      have h306_ := ((h189_ (x33 + 1)) (la_codeWays_20 h121_ (la_codeWays_5 h120_ h158_)))
      obtain ⟨h307_, h308_⟩ := (((h205_ kv4) h281_) h282_)
      have h309_ := ((h251_ (x33 + 1)) h306_)
      obtain ⟨h310_, ⟨h311_, ⟨h312_, ⟨h313_, h314_⟩⟩⟩⟩ := (h212_ h306_)
      have h315_ := (h105_ (x33 + 1))
      have h316_ := ((h105_ (S 1148 0)) h304_)
      have e317_ : S 26 (g43 1100031 0) = S 26 (g19 1100031 0) := congrArg ((S 26)) (la_codeWays_21 h91_ h202_)
      have e318_ : sm_dp (S 1100024) (g43 1100031 0) = sm_dp (S 1100024) (g19 1100031 0) := congrArg ((sm_dp (S 1100024))) (la_codeWays_21 h91_ h202_)
      exact h308_
    refine ⟨(la_codeWays_28 h20_ h35_ h43_ h44_ h54_ h109_), ?_⟩
    rintro ⟨h319_, h320_⟩
    refine ⟨?_, ?_⟩
    · skip
      intro h321_
      refine ⟨h101_, ?_⟩
      refine ⟨h102_, ?_⟩
      refine ⟨h103_, ?_⟩
      refine ⟨h104_, ?_⟩
      refine ⟨?_, ?_⟩
      · skip
        intro kv5
        intro h322_
        exact h322_
      refine ⟨h106_, ?_⟩
      refine ⟨la_codeWays_29, ?_⟩
      refine ⟨h92_, ?_⟩
      refine ⟨h93_, ?_⟩
      intro kv6
      intro h323_
      intro h324_
      refine ⟨?_, ?_⟩
      · skip
        have h325_ := (h33_ (S 1148 0))
        have h326_ := (h33_ (S 1148 0 + 1))
        have h327_ := ((h78_ (S 1148 0)) h37_)
        obtain ⟨h328_, h329_⟩ := (((h94_ kv6) h323_) h324_)
        have h330_ := (h105_ x33)
        have h331_ : ¬ (g19 71 x33 = 1) := fun q_ => (la_codeWays_13 h321_) (h330_ q_)
        have h332_ := (h78_ x33)
        have h333_ := ((h105_ (S 1148 0)) h327_)
        have h334_ : ¬ (S 71 x33 = 1) := fun q_ => h331_ (h332_ q_)
        exact h328_
      have h335_ := (h33_ (S 1148 0))
      have h336_ := (h33_ (S 1148 0 + 1))
      have h337_ := ((h78_ (S 1148 0)) h37_)
      obtain ⟨h338_, h339_⟩ := (((h94_ kv6) h323_) h324_)
      have h340_ := (h105_ x33)
      have h341_ : ¬ (g19 71 x33 = 1) := fun q_ => (la_codeWays_13 h321_) (h340_ q_)
      have h342_ := (h78_ x33)
      have h343_ := ((h105_ (S 1148 0)) h337_)
      have h344_ : ¬ (S 71 x33 = 1) := fun q_ => h341_ (h342_ q_)
      exact h339_
    intro h345_
    refine ⟨?_, ?_⟩
    · skip
      refine ⟨h10_, ?_⟩
      refine ⟨h11_, ?_⟩
      refine ⟨h12_, ?_⟩
      refine ⟨h13_, ?_⟩
      refine ⟨h14_, ?_⟩
      refine ⟨h15_, ?_⟩
      refine ⟨h16_, ?_⟩
      refine ⟨h17_, ?_⟩
      refine ⟨h18_, ?_⟩
      refine ⟨h19_, ?_⟩
      refine ⟨h20_, ?_⟩
      refine ⟨h21_, ?_⟩
      refine ⟨h22_, ?_⟩
      refine ⟨h23_, ?_⟩
      refine ⟨h24_, ?_⟩
      refine ⟨h25_, ?_⟩
      refine ⟨h26_, ?_⟩
      refine ⟨h104_, ?_⟩
      refine ⟨h101_, ?_⟩
      refine ⟨h102_, ?_⟩
      refine ⟨h103_, ?_⟩
      refine ⟨h31_, ?_⟩
      refine ⟨h32_, ?_⟩
      refine ⟨h33_, ?_⟩
      refine ⟨h106_, ?_⟩
      refine ⟨h35_, ?_⟩
      refine ⟨h36_, ?_⟩
      refine ⟨?_, ?_⟩
      · skip
        have h346_ := (h33_ (S 1148 0))
        have h347_ := (h33_ (S 1148 0 + 1))
        have h348_ := ((h78_ (S 1148 0)) h37_)
        have h349_ := (h105_ x33)
        have h350_ := ((h105_ (S 1148 0)) h348_)
        have h351_ := (h78_ x33)
        exact h350_
      refine ⟨h56_, ?_⟩
      refine ⟨h57_, ?_⟩
      refine ⟨h92_, ?_⟩
      refine ⟨h93_, ?_⟩
      intro kv7
      intro h352_
      intro h353_
      refine ⟨?_, ?_⟩
      · skip
        have h354_ := (h33_ (S 1148 0))
        have h355_ := (h33_ (S 1148 0 + 1))
        have h356_ := ((h78_ (S 1148 0)) h37_)
        obtain ⟨h357_, h358_⟩ := (((h94_ kv7) h352_) h353_)
        have h359_ := (h105_ x33)
        have h360_ := (h78_ x33)
        have h361_ := ((h105_ (S 1148 0)) h356_)
        exact h357_
      have h362_ := (h33_ (S 1148 0))
      have h363_ := (h33_ (S 1148 0 + 1))
      have h364_ := ((h78_ (S 1148 0)) h37_)
      obtain ⟨h365_, h366_⟩ := (((h94_ kv7) h352_) h353_)
      have h367_ := (h105_ x33)
      have h368_ := (h78_ x33)
      have h369_ := ((h105_ (S 1148 0)) h364_)
      exact h366_
    intro g74
    rintro ⟨h370_, ⟨h371_, ⟨h372_, ⟨h373_, ⟨h374_, ⟨h375_, ⟨h376_, ⟨h377_, ⟨h378_, ⟨h379_, ⟨h380_, ⟨h381_, ⟨h382_, ⟨h383_, ⟨h384_, ⟨h385_, ⟨h386_, ⟨h387_, ⟨h388_, ⟨h389_, h390_⟩⟩⟩⟩⟩⟩⟩⟩⟩⟩⟩⟩⟩⟩⟩⟩⟩⟩⟩⟩
    refine ⟨(la_codeWays_30 h19_ h20_ h43_ h44_ h109_), ?_⟩
    refine ⟨⟨h10_, ⟨h11_, ⟨h12_, ⟨h13_, ⟨h14_, ⟨h15_, ⟨h16_, ⟨h17_, ⟨h18_, ⟨h19_, ⟨h20_, ⟨h21_, (la_codeWays_31 h22_ h23_ h35_ h43_ h44_ h51_ h52_ h54_ h62_ h109_ h373_ h386_)⟩⟩⟩⟩⟩⟩⟩⟩⟩⟩⟩⟩, ?_⟩
    intro g82
    rintro ⟨h391_, ⟨h392_, h393_⟩⟩
    intro h394_
    have h395_ := (h394_ h370_)
    have h396_ := (h395_ (la_codeWays_32 h35_ h43_ h54_ h109_))
    have h397_ := (h396_ (la_codeWays_33 h44_ h109_))
    intro h398_
    have h399_ := (h398_ h31_)
    intro h400_
    refine ⟨?_, ?_⟩
    · skip
      refine ⟨?_, ?_⟩
      · skip
        have h401_ := (((h33_ x33) (la_codeWays_34 h43_ h109_)) (la_codeWays_33 h44_ h109_))
        have h402_ := (h33_ (S 1148 0))
        have h403_ := (h33_ (S 1148 0 + 1))
        have h404_ := ((h78_ (S 1148 0)) h37_)
        have h405_ := (h105_ x33)
        have h406_ := ((h374_ x33) (la_codeWays_20 h320_ (la_codeWays_5 h319_ h345_)))
        obtain ⟨h407_, ⟨h408_, ⟨h409_, ⟨h410_, h411_⟩⟩⟩⟩ := (h397_ h406_)
        have h412_ := (h78_ x33)
        have h413_ := ((h105_ (S 1148 0)) h404_)
        have e414_ : S 26 (g74 1100031 0) = S 26 (g19 1100031 0) := congrArg ((S 26)) (la_codeWays_21 h91_ h387_)
        have e415_ : sm_dp (S 1100024) (g74 1100031 0) = sm_dp (S 1100024) (g19 1100031 0) := congrArg ((sm_dp (S 1100024))) (la_codeWays_21 h91_ h387_)
        exact (la_codeWays_22 h408_)
      refine ⟨?_, ?_⟩
      · skip
        have h416_ := (((h33_ x33) (la_codeWays_34 h43_ h109_)) (la_codeWays_33 h44_ h109_))
        have h417_ := (h33_ (S 1148 0))
        have h418_ := (h33_ (S 1148 0 + 1))
        have h419_ := ((h78_ (S 1148 0)) h37_)
        have h420_ := (h105_ x33)
        have h421_ := ((h374_ x33) (la_codeWays_20 h320_ (la_codeWays_5 h319_ h345_)))
        obtain ⟨h422_, ⟨h423_, ⟨h424_, ⟨h425_, h426_⟩⟩⟩⟩ := (h397_ h421_)
        have h427_ := (h78_ x33)
        have h428_ := ((h105_ (S 1148 0)) h419_)
        have e429_ : S 26 (g74 1100031 0) = S 26 (g19 1100031 0) := congrArg ((S 26)) (la_codeWays_21 h91_ h387_)
        have e430_ : sm_dp (S 1100024) (g74 1100031 0) = sm_dp (S 1100024) (g19 1100031 0) := congrArg ((sm_dp (S 1100024))) (la_codeWays_21 h91_ h387_)
        exact (la_codeWays_23 h372_ h399_ h416_ h422_ h424_)
      refine ⟨la_codeWays_24, ?_⟩
      exact la_codeWays_25
    intro g92
    intro h431_
    refine ⟨?_, ?_⟩
    · skip
      intro h432_
      refine ⟨?_, ?_⟩
      · skip
        intro h433_
        refine ⟨⟨h10_, ⟨h11_, ⟨h12_, ⟨h13_, ⟨h14_, ⟨h15_, ⟨h16_, ⟨h17_, ⟨h18_, ⟨h19_, ⟨h20_, ⟨h21_, ⟨h22_, ⟨h23_, ⟨h24_, ⟨h25_, ⟨h26_, ⟨h373_, ⟨h370_, ⟨h371_, ⟨h372_, ⟨h31_, ⟨h32_, ⟨h33_, ⟨h375_, ⟨h377_, ⟨h378_, ⟨h379_, ⟨h380_, ⟨h381_, ⟨h382_, ⟨h383_, ⟨h384_, ⟨h385_, (la_codeWays_35 h35_ h51_ h52_ h53_ h54_ h55_ h62_ h386_ h387_)⟩⟩⟩⟩⟩⟩⟩⟩⟩⟩⟩⟩⟩⟩⟩⟩⟩⟩⟩⟩⟩⟩⟩⟩⟩⟩⟩⟩⟩⟩⟩⟩⟩⟩, ?_⟩
        intro g99
        rintro ⟨h434_, ⟨h435_, ⟨h436_, ⟨h437_, ⟨h438_, ⟨h439_, h440_⟩⟩⟩⟩⟩⟩
        refine ⟨h434_, ?_⟩
        refine ⟨h435_, ?_⟩
        refine ⟨h436_, ?_⟩
        refine ⟨h437_, ?_⟩
        refine ⟨?_, ?_⟩
        · skip
          intro kv8
          intro h441_
          have h442_ := (((h33_ x33) (la_codeWays_34 h43_ h109_)) (la_codeWays_33 h44_ h109_))
          have h443_ := (h33_ (S 1148 0))
          have h444_ := (h33_ (S 1148 0 + 1))
          have h445_ := ((h78_ (S 1148 0)) h37_)
          have h446_ := (h105_ kv8)
          have h447_ := (h105_ x33)
          have h448_ := ((h374_ kv8) h441_)
          have h449_ := ((h374_ x33) (la_codeWays_20 h320_ (la_codeWays_5 h319_ h345_)))
          have h450_ := ((h438_ kv8) h448_)
          have h451_ := ((h438_ x33) h449_)
          obtain ⟨h452_, ⟨h453_, ⟨h454_, ⟨h455_, h456_⟩⟩⟩⟩ := (h397_ h449_)
          have h457_ := (h78_ kv8)
          have h458_ := (h78_ x33)
          have h459_ := ((h105_ (S 1148 0)) h445_)
          have e460_ : S 26 (g74 1100031 0) = S 26 (g19 1100031 0) := congrArg ((S 26)) (la_codeWays_21 h91_ h387_)
          have e461_ : sm_dp (S 1100024) (g74 1100031 0) = sm_dp (S 1100024) (g19 1100031 0) := congrArg ((sm_dp (S 1100024))) (la_codeWays_21 h91_ h387_)
          exact h450_
        refine ⟨h439_, ?_⟩
        refine ⟨(la_codeWays_36 h376_ h391_ h392_ h393_ h431_ h440_), ?_⟩
        refine ⟨h388_, ?_⟩
        refine ⟨h389_, ?_⟩
        intro kv9
        intro h462_
        intro h463_
        refine ⟨?_, ?_⟩
        · skip
          have h464_ := (((h33_ x33) (la_codeWays_34 h43_ h109_)) (la_codeWays_33 h44_ h109_))
          have h465_ := (h33_ (S 1148 0))
          have h466_ := (h33_ (S 1148 0 + 1))
          have h467_ := ((h78_ (S 1148 0)) h37_)
          have h468_ := (h105_ x33)
          have h469_ := ((h374_ x33) (la_codeWays_20 h320_ (la_codeWays_5 h319_ h345_)))
          obtain ⟨h470_, h471_⟩ := (((h390_ kv9) h462_) h463_)
          have h472_ := ((h438_ x33) h469_)
          obtain ⟨h473_, ⟨h474_, ⟨h475_, ⟨h476_, h477_⟩⟩⟩⟩ := (h397_ h469_)
          have h478_ := (h78_ x33)
          have h479_ := ((h105_ (S 1148 0)) h467_)
          have e480_ : S 26 (g74 1100031 0) = S 26 (g19 1100031 0) := congrArg ((S 26)) (la_codeWays_21 h91_ h387_)
          have e481_ : sm_dp (S 1100024) (g74 1100031 0) = sm_dp (S 1100024) (g19 1100031 0) := congrArg ((sm_dp (S 1100024))) (la_codeWays_21 h91_ h387_)
          exact h470_
        have h482_ := (((h33_ x33) (la_codeWays_34 h43_ h109_)) (la_codeWays_33 h44_ h109_))
        have h483_ := (h33_ (S 1148 0))
        have h484_ := (h33_ (S 1148 0 + 1))
        have h485_ := ((h78_ (S 1148 0)) h37_)
        have h486_ := (h105_ x33)
        have h487_ := ((h374_ x33) (la_codeWays_20 h320_ (la_codeWays_5 h319_ h345_)))
        obtain ⟨h488_, h489_⟩ := (((h390_ kv9) h462_) h463_)
        have h490_ := ((h438_ x33) h487_)
        obtain ⟨h491_, ⟨h492_, ⟨h493_, ⟨h494_, h495_⟩⟩⟩⟩ := (h397_ h487_)
        have h496_ := (h78_ x33)
        have h497_ := ((h105_ (S 1148 0)) h485_)
        have e498_ : S 26 (g74 1100031 0) = S 26 (g19 1100031 0) := congrArg ((S 26)) (la_codeWays_21 h91_ h387_)
        have e499_ : sm_dp (S 1100024) (g74 1100031 0) = sm_dp (S 1100024) (g19 1100031 0) := congrArg ((sm_dp (S 1100024))) (la_codeWays_21 h91_ h387_)
        exact h489_
      intro h500_
      refine ⟨la_codeWays_39, ?_⟩
      intro g106
      rintro ⟨h501_, ⟨h502_, h503_⟩⟩
      have h504_ := (h501_ la_codeWays_40)
      have h505_ := (h502_ la_codeWays_24)
      have h506_ := (h504_ la_codeWays_42)
      refine ⟨⟨h10_, ⟨h11_, ⟨h12_, ⟨h13_, ⟨h14_, ⟨h15_, ⟨h16_, ⟨h17_, ⟨h18_, ⟨h19_, ⟨h20_, ⟨h21_, ⟨h22_, ⟨h23_, ⟨h24_, ⟨h25_, ⟨h26_, ⟨h373_, ⟨h370_, ⟨h371_, ⟨h372_, ⟨h31_, ⟨h32_, ⟨h33_, ⟨h375_, ⟨h377_, ⟨h378_, ⟨h379_, ⟨h380_, ⟨h381_, ⟨h382_, ⟨h383_, ⟨h384_, ⟨h385_, (la_codeWays_35 h35_ h51_ h52_ h53_ h54_ h55_ h62_ h386_ h387_)⟩⟩⟩⟩⟩⟩⟩⟩⟩⟩⟩⟩⟩⟩⟩⟩⟩⟩⟩⟩⟩⟩⟩⟩⟩⟩⟩⟩⟩⟩⟩⟩⟩⟩, ?_⟩
      intro g113
      rintro ⟨h507_, ⟨h508_, ⟨h509_, ⟨h510_, ⟨h511_, ⟨h512_, h513_⟩⟩⟩⟩⟩⟩
      refine ⟨h507_, ?_⟩
      refine ⟨h508_, ?_⟩
      refine ⟨h509_, ?_⟩
      refine ⟨h510_, ?_⟩
      refine ⟨?_, ?_⟩
      · skip
        intro kv10
        intro h514_
        have h515_ := (((h33_ x33) (la_codeWays_34 h43_ h109_)) (la_codeWays_43 h56_ (la_codeWays_38 (la_codeWays_37 h432_) h500_)))
        have h516_ := (((h33_ (S 1148 0)) (la_codeWays_44 h432_ (la_codeWays_38 (la_codeWays_37 h432_) h500_))) (la_codeWays_45 h43_ h44_ h54_))
        have h517_ := (((h33_ (S 1148 0 + 1)) (la_codeWays_46 h432_ (la_codeWays_38 (la_codeWays_37 h432_) h500_))) (la_codeWays_47 h43_ h44_ h54_))
        have h518_ := ((h78_ (S 1148 0)) h37_)
        have h519_ := (h105_ kv10)
        have h520_ := (h105_ x33)
        have h521_ := ((h374_ kv10) h514_)
        have h522_ := ((h374_ x33) (la_codeWays_20 h320_ (la_codeWays_5 h319_ h345_)))
        have h523_ := ((h511_ kv10) h521_)
        have h524_ := ((h511_ x33) h522_)
        obtain ⟨h525_, ⟨h526_, ⟨h527_, ⟨h528_, h529_⟩⟩⟩⟩ := (h397_ h522_)
        have h530_ := (h78_ kv10)
        have h531_ := (h78_ x33)
        have h532_ := ((h105_ (S 1148 0)) h518_)
        have e533_ : S 1100007 x33 = S 1100007 (S 1148 0 + 1) := congrArg ((S 1100007)) (la_codeWays_48 h43_ h54_ h56_ h109_ (la_codeWays_38 (la_codeWays_37 h432_) h500_))
        have e534_ : S 1100007 x33 = S 1100007 (S 1148 0) := congrArg ((S 1100007)) (la_codeWays_49 h43_ h54_ h109_ h432_ (la_codeWays_38 (la_codeWays_37 h432_) h500_))
        have e535_ : S 26 (g74 1100031 0) = S 26 (g19 1100031 0) := congrArg ((S 26)) (la_codeWays_21 h91_ h387_)
        have e536_ : g113 71 x33 = g113 71 kv10 := congrArg ((g113 71)) (la_codeWays_50 h432_ (la_codeWays_38 (la_codeWays_37 h432_) h500_))
        have e537_ : g19 71 kv10 = g19 71 (S 1148 0) := congrArg ((g19 71)) (la_codeWays_51 h56_ (la_codeWays_38 (la_codeWays_37 h432_) h500_))
        have e538_ : g19 71 x33 = g19 71 (S 1148 0) := congrArg ((g19 71)) (la_codeWays_49 h43_ h54_ h109_ h432_ (la_codeWays_38 (la_codeWays_37 h432_) h500_))
        have e539_ : g19 71 x33 = g19 71 kv10 := congrArg ((g19 71)) (la_codeWays_50 h432_ (la_codeWays_38 (la_codeWays_37 h432_) h500_))
        have e540_ : g27 71 x33 = g27 71 kv10 := congrArg ((g27 71)) (la_codeWays_50 h432_ (la_codeWays_38 (la_codeWays_37 h432_) h500_))
        have e541_ : g74 71 x33 = g74 71 kv10 := congrArg ((g74 71)) (la_codeWays_50 h432_ (la_codeWays_38 (la_codeWays_37 h432_) h500_))
        have e542_ : g74 74 x33 = g74 74 639 := congrArg ((g74 74)) (la_codeWays_52 h20_ h44_ h109_ h432_ (la_codeWays_38 (la_codeWays_37 h432_) h500_))
        have e543_ : g74 75 x33 = g74 75 639 := congrArg ((g74 75)) (la_codeWays_52 h20_ h44_ h109_ h432_ (la_codeWays_38 (la_codeWays_37 h432_) h500_))
        have e544_ : g74 78 x33 = g74 78 639 := congrArg ((g74 78)) (la_codeWays_52 h20_ h44_ h109_ h432_ (la_codeWays_38 (la_codeWays_37 h432_) h500_))
        have e545_ : sm_dp (S 1100024) (g74 1100031 0) = sm_dp (S 1100024) (g19 1100031 0) := congrArg ((sm_dp (S 1100024))) (la_codeWays_21 h91_ h387_)
        have h546_ := (h519_ (la_codeWays_53 h518_ e537_))
        have h547_ := (h520_ (la_codeWays_53 h518_ e538_))
        exact h523_
      refine ⟨h512_, ?_⟩
      refine ⟨(la_codeWays_54 h376_ h391_ h392_ h393_ h431_ h505_ h513_), ?_⟩
      refine ⟨h388_, ?_⟩
      refine ⟨h389_, ?_⟩
      intro kv11
      intro h548_
      intro h549_
      refine ⟨?_, ?_⟩
      · skip
        have h550_ := (((h33_ x33) (la_codeWays_34 h43_ h109_)) (la_codeWays_43 h56_ (la_codeWays_38 (la_codeWays_37 h432_) h500_)))
        have h551_ := (((h33_ (S 1148 0)) (la_codeWays_44 h432_ (la_codeWays_38 (la_codeWays_37 h432_) h500_))) (la_codeWays_45 h43_ h44_ h54_))
        have h552_ := (((h33_ (S 1148 0 + 1)) (la_codeWays_46 h432_ (la_codeWays_38 (la_codeWays_37 h432_) h500_))) (la_codeWays_47 h43_ h44_ h54_))
        have h553_ := ((h78_ (S 1148 0)) h37_)
        have h554_ := (h105_ x33)
        have h555_ := ((h374_ x33) (la_codeWays_20 h320_ (la_codeWays_5 h319_ h345_)))
        obtain ⟨h556_, h557_⟩ := (((h390_ kv11) h548_) h549_)
        have h558_ := ((h511_ x33) h555_)
        obtain ⟨h559_, ⟨h560_, ⟨h561_, ⟨h562_, h563_⟩⟩⟩⟩ := (h397_ h555_)
        have h564_ := (h78_ x33)
        have h565_ := ((h105_ (S 1148 0)) h553_)
        have e566_ : S 1100007 x33 = S 1100007 (S 1148 0 + 1) := congrArg ((S 1100007)) (la_codeWays_48 h43_ h54_ h56_ h109_ (la_codeWays_38 (la_codeWays_37 h432_) h500_))
        have e567_ : S 1100007 x33 = S 1100007 (S 1148 0) := congrArg ((S 1100007)) (la_codeWays_49 h43_ h54_ h109_ h432_ (la_codeWays_38 (la_codeWays_37 h432_) h500_))
        have e568_ : S 26 (g74 1100031 0) = S 26 (g19 1100031 0) := congrArg ((S 26)) (la_codeWays_21 h91_ h387_)
        have e569_ : g19 71 x33 = g19 71 (S 1148 0) := congrArg ((g19 71)) (la_codeWays_49 h43_ h54_ h109_ h432_ (la_codeWays_38 (la_codeWays_37 h432_) h500_))
        have e570_ : g74 74 x33 = g74 74 639 := congrArg ((g74 74)) (la_codeWays_52 h20_ h44_ h109_ h432_ (la_codeWays_38 (la_codeWays_37 h432_) h500_))
        have e571_ : g74 75 x33 = g74 75 639 := congrArg ((g74 75)) (la_codeWays_52 h20_ h44_ h109_ h432_ (la_codeWays_38 (la_codeWays_37 h432_) h500_))
        have e572_ : g74 78 x33 = g74 78 639 := congrArg ((g74 78)) (la_codeWays_52 h20_ h44_ h109_ h432_ (la_codeWays_38 (la_codeWays_37 h432_) h500_))
        have e573_ : sm_dp (S 1100024) (g74 1100031 0) = sm_dp (S 1100024) (g19 1100031 0) := congrArg ((sm_dp (S 1100024))) (la_codeWays_21 h91_ h387_)
        have h574_ := (h554_ (la_codeWays_53 h553_ e569_))
        exact h556_
      have h575_ := (((h33_ x33) (la_codeWays_34 h43_ h109_)) (la_codeWays_43 h56_ (la_codeWays_38 (la_codeWays_37 h432_) h500_)))
      have h576_ := (((h33_ (S 1148 0)) (la_codeWays_44 h432_ (la_codeWays_38 (la_codeWays_37 h432_) h500_))) (la_codeWays_45 h43_ h44_ h54_))
      have h577_ := (((h33_ (S 1148 0 + 1)) (la_codeWays_46 h432_ (la_codeWays_38 (la_codeWays_37 h432_) h500_))) (la_codeWays_47 h43_ h44_ h54_))
      have h578_ := ((h78_ (S 1148 0)) h37_)
      have h579_ := (h105_ x33)
      have h580_ := ((h374_ x33) (la_codeWays_20 h320_ (la_codeWays_5 h319_ h345_)))
      obtain ⟨h581_, h582_⟩ := (((h390_ kv11) h548_) h549_)
      have h583_ := ((h511_ x33) h580_)
      obtain ⟨h584_, ⟨h585_, ⟨h586_, ⟨h587_, h588_⟩⟩⟩⟩ := (h397_ h580_)
      have h589_ := (h78_ x33)
      have h590_ := ((h105_ (S 1148 0)) h578_)
      have e591_ : S 1100007 x33 = S 1100007 (S 1148 0 + 1) := congrArg ((S 1100007)) (la_codeWays_48 h43_ h54_ h56_ h109_ (la_codeWays_38 (la_codeWays_37 h432_) h500_))
      have e592_ : S 1100007 x33 = S 1100007 (S 1148 0) := congrArg ((S 1100007)) (la_codeWays_49 h43_ h54_ h109_ h432_ (la_codeWays_38 (la_codeWays_37 h432_) h500_))
      have e593_ : S 26 (g74 1100031 0) = S 26 (g19 1100031 0) := congrArg ((S 26)) (la_codeWays_21 h91_ h387_)
      have e594_ : g19 71 x33 = g19 71 (S 1148 0) := congrArg ((g19 71)) (la_codeWays_49 h43_ h54_ h109_ h432_ (la_codeWays_38 (la_codeWays_37 h432_) h500_))
      have e595_ : g74 74 x33 = g74 74 639 := congrArg ((g74 74)) (la_codeWays_52 h20_ h44_ h109_ h432_ (la_codeWays_38 (la_codeWays_37 h432_) h500_))
      have e596_ : g74 75 x33 = g74 75 639 := congrArg ((g74 75)) (la_codeWays_52 h20_ h44_ h109_ h432_ (la_codeWays_38 (la_codeWays_37 h432_) h500_))
      have e597_ : g74 78 x33 = g74 78 639 := congrArg ((g74 78)) (la_codeWays_52 h20_ h44_ h109_ h432_ (la_codeWays_38 (la_codeWays_37 h432_) h500_))
      have e598_ : sm_dp (S 1100024) (g74 1100031 0) = sm_dp (S 1100024) (g19 1100031 0) := congrArg ((sm_dp (S 1100024))) (la_codeWays_21 h91_ h387_)
      have h599_ := (h579_ (la_codeWays_53 h578_ e594_))
      exact h582_
    intro h600_
    refine ⟨la_codeWays_39, ?_⟩
    intro r124
    intro h601_
    intro h602_
    refine ⟨?_, ?_⟩
    · skip
      intro h603_
      refine ⟨?_, ?_⟩
      · skip
        intro h604_
        refine ⟨⟨h10_, ⟨h11_, ⟨h12_, ⟨h13_, ⟨h14_, ⟨h15_, ⟨h16_, ⟨h17_, ⟨h18_, ⟨h19_, ⟨h20_, ⟨h21_, ⟨h22_, ⟨h23_, ⟨h24_, ⟨h25_, ⟨h26_, ⟨h373_, ⟨h370_, ⟨h371_, ⟨h372_, ⟨h31_, ⟨h32_, ⟨h33_, ⟨h375_, ⟨h377_, ⟨h378_, ⟨h379_, ⟨h380_, ⟨h381_, ⟨h382_, ⟨h383_, ⟨h384_, ⟨h385_, (la_codeWays_35 h35_ h51_ h52_ h53_ h54_ h55_ h62_ h386_ h387_)⟩⟩⟩⟩⟩⟩⟩⟩⟩⟩⟩⟩⟩⟩⟩⟩⟩⟩⟩⟩⟩⟩⟩⟩⟩⟩⟩⟩⟩⟩⟩⟩⟩⟩, ?_⟩
        intro g126
        rintro ⟨h605_, ⟨h606_, ⟨h607_, ⟨h608_, ⟨h609_, ⟨h610_, h611_⟩⟩⟩⟩⟩⟩
        refine ⟨h605_, ?_⟩
        refine ⟨h606_, ?_⟩
        refine ⟨h607_, ?_⟩
        refine ⟨h608_, ?_⟩
        refine ⟨?_, ?_⟩
        · skip
          intro kv12
          intro h612_
          have h613_ := (((h33_ x33) (la_codeWays_34 h43_ h109_)) (la_codeWays_56 (la_codeWays_55 h56_ h600_) h604_))
          have h614_ := (((h33_ (S 1148 0)) (la_codeWays_57 (la_codeWays_55 h56_ h600_) h604_)) (la_codeWays_45 h43_ h44_ h54_))
          have h615_ := (((h33_ (S 1148 0 + 1)) (la_codeWays_58 (la_codeWays_55 h56_ h600_) h604_)) (la_codeWays_47 h43_ h44_ h54_))
          have h616_ := ((h78_ (S 1148 0)) h37_)
          have h617_ := (h105_ kv12)
          have h618_ := (h105_ x33)
          have h619_ := ((h374_ kv12) h612_)
          have h620_ := ((h374_ x33) (la_codeWays_20 h320_ (la_codeWays_5 h319_ h345_)))
          have h621_ := ((h609_ kv12) h619_)
          have h622_ := ((h609_ x33) h620_)
          obtain ⟨h623_, ⟨h624_, ⟨h625_, ⟨h626_, h627_⟩⟩⟩⟩ := (h397_ h620_)
          have h628_ := (h78_ kv12)
          have h629_ := (h78_ x33)
          have h630_ := ((h105_ (S 1148 0)) h616_)
          have e631_ : S 1100007 x33 = S 1100007 (S 1148 0 + 1) := congrArg ((S 1100007)) (la_codeWays_59 h43_ h54_ h109_ (la_codeWays_55 h56_ h600_) h604_)
          have e632_ : S 1100007 x33 = S 1100007 (S 1148 0) := congrArg ((S 1100007)) (la_codeWays_60 h43_ h54_ h109_ (la_codeWays_55 h56_ h600_) h604_)
          have e633_ : S 26 (g74 1100031 0) = S 26 (g19 1100031 0) := congrArg ((S 26)) (la_codeWays_21 h91_ h387_)
          have e634_ : g126 71 x33 = g126 71 kv12 := congrArg ((g126 71)) (la_codeWays_61 (la_codeWays_55 h56_ h600_) h604_)
          have e635_ : g19 71 kv12 = g19 71 (S 1148 0) := congrArg ((g19 71)) (la_codeWays_61 (la_codeWays_55 h56_ h600_) h604_)
          have e636_ : g19 71 x33 = g19 71 (S 1148 0) := congrArg ((g19 71)) (la_codeWays_60 h43_ h54_ h109_ (la_codeWays_55 h56_ h600_) h604_)
          have e637_ : g19 71 x33 = g19 71 kv12 := congrArg ((g19 71)) (la_codeWays_61 (la_codeWays_55 h56_ h600_) h604_)
          have e638_ : g27 71 x33 = g27 71 kv12 := congrArg ((g27 71)) (la_codeWays_61 (la_codeWays_55 h56_ h600_) h604_)
          have e639_ : g74 71 x33 = g74 71 kv12 := congrArg ((g74 71)) (la_codeWays_61 (la_codeWays_55 h56_ h600_) h604_)
          have e640_ : g74 74 x33 = g74 74 639 := congrArg ((g74 74)) (la_codeWays_62 h20_ h44_ h109_ (la_codeWays_55 h56_ h600_) h604_)
          have e641_ : g74 75 x33 = g74 75 639 := congrArg ((g74 75)) (la_codeWays_62 h20_ h44_ h109_ (la_codeWays_55 h56_ h600_) h604_)
          have e642_ : g74 78 x33 = g74 78 639 := congrArg ((g74 78)) (la_codeWays_62 h20_ h44_ h109_ (la_codeWays_55 h56_ h600_) h604_)
          have e643_ : sm_dp (S 1100024) (g74 1100031 0) = sm_dp (S 1100024) (g19 1100031 0) := congrArg ((sm_dp (S 1100024))) (la_codeWays_21 h91_ h387_)
          have h644_ := (h617_ (la_codeWays_53 h616_ e635_))
          have h645_ := (h618_ (la_codeWays_53 h616_ e636_))
          exact h621_
        refine ⟨h610_, ?_⟩
        refine ⟨(la_codeWays_36 h376_ h391_ h392_ h393_ h431_ h611_), ?_⟩
        refine ⟨h388_, ?_⟩
        refine ⟨h389_, ?_⟩
        intro kv13
        intro h646_
        intro h647_
        refine ⟨?_, ?_⟩
        · skip
          have h648_ := (((h33_ x33) (la_codeWays_34 h43_ h109_)) (la_codeWays_56 (la_codeWays_55 h56_ h600_) h604_))
          have h649_ := (((h33_ (S 1148 0)) (la_codeWays_57 (la_codeWays_55 h56_ h600_) h604_)) (la_codeWays_45 h43_ h44_ h54_))
          have h650_ := (((h33_ (S 1148 0 + 1)) (la_codeWays_58 (la_codeWays_55 h56_ h600_) h604_)) (la_codeWays_47 h43_ h44_ h54_))
          have h651_ := ((h78_ (S 1148 0)) h37_)
          have h652_ := (h105_ x33)
          have h653_ := ((h374_ x33) (la_codeWays_20 h320_ (la_codeWays_5 h319_ h345_)))
          obtain ⟨h654_, h655_⟩ := (((h390_ kv13) h646_) h647_)
          have h656_ := ((h609_ x33) h653_)
          obtain ⟨h657_, ⟨h658_, ⟨h659_, ⟨h660_, h661_⟩⟩⟩⟩ := (h397_ h653_)
          have h662_ := (h78_ x33)
          have h663_ := ((h105_ (S 1148 0)) h651_)
          have e664_ : S 1100007 x33 = S 1100007 (S 1148 0 + 1) := congrArg ((S 1100007)) (la_codeWays_59 h43_ h54_ h109_ (la_codeWays_55 h56_ h600_) h604_)
          have e665_ : S 1100007 x33 = S 1100007 (S 1148 0) := congrArg ((S 1100007)) (la_codeWays_60 h43_ h54_ h109_ (la_codeWays_55 h56_ h600_) h604_)
          have e666_ : S 26 (g74 1100031 0) = S 26 (g19 1100031 0) := congrArg ((S 26)) (la_codeWays_21 h91_ h387_)
          have e667_ : g19 71 x33 = g19 71 (S 1148 0) := congrArg ((g19 71)) (la_codeWays_60 h43_ h54_ h109_ (la_codeWays_55 h56_ h600_) h604_)
          have e668_ : g74 74 x33 = g74 74 639 := congrArg ((g74 74)) (la_codeWays_62 h20_ h44_ h109_ (la_codeWays_55 h56_ h600_) h604_)
          have e669_ : g74 75 x33 = g74 75 639 := congrArg ((g74 75)) (la_codeWays_62 h20_ h44_ h109_ (la_codeWays_55 h56_ h600_) h604_)
          have e670_ : g74 78 x33 = g74 78 639 := congrArg ((g74 78)) (la_codeWays_62 h20_ h44_ h109_ (la_codeWays_55 h56_ h600_) h604_)
          have e671_ : sm_dp (S 1100024) (g74 1100031 0) = sm_dp (S 1100024) (g19 1100031 0) := congrArg ((sm_dp (S 1100024))) (la_codeWays_21 h91_ h387_)
          have h672_ := (h652_ (la_codeWays_53 h651_ e667_))
          exact h654_
        have h673_ := (((h33_ x33) (la_codeWays_34 h43_ h109_)) (la_codeWays_56 (la_codeWays_55 h56_ h600_) h604_))
        have h674_ := (((h33_ (S 1148 0)) (la_codeWays_57 (la_codeWays_55 h56_ h600_) h604_)) (la_codeWays_45 h43_ h44_ h54_))
        have h675_ := (((h33_ (S 1148 0 + 1)) (la_codeWays_58 (la_codeWays_55 h56_ h600_) h604_)) (la_codeWays_47 h43_ h44_ h54_))
        have h676_ := ((h78_ (S 1148 0)) h37_)
        have h677_ := (h105_ x33)
        have h678_ := ((h374_ x33) (la_codeWays_20 h320_ (la_codeWays_5 h319_ h345_)))
        obtain ⟨h679_, h680_⟩ := (((h390_ kv13) h646_) h647_)
        have h681_ := ((h609_ x33) h678_)
        obtain ⟨h682_, ⟨h683_, ⟨h684_, ⟨h685_, h686_⟩⟩⟩⟩ := (h397_ h678_)
        have h687_ := (h78_ x33)
        have h688_ := ((h105_ (S 1148 0)) h676_)
        have e689_ : S 1100007 x33 = S 1100007 (S 1148 0 + 1) := congrArg ((S 1100007)) (la_codeWays_59 h43_ h54_ h109_ (la_codeWays_55 h56_ h600_) h604_)
        have e690_ : S 1100007 x33 = S 1100007 (S 1148 0) := congrArg ((S 1100007)) (la_codeWays_60 h43_ h54_ h109_ (la_codeWays_55 h56_ h600_) h604_)
        have e691_ : S 26 (g74 1100031 0) = S 26 (g19 1100031 0) := congrArg ((S 26)) (la_codeWays_21 h91_ h387_)
        have e692_ : g19 71 x33 = g19 71 (S 1148 0) := congrArg ((g19 71)) (la_codeWays_60 h43_ h54_ h109_ (la_codeWays_55 h56_ h600_) h604_)
        have e693_ : g74 74 x33 = g74 74 639 := congrArg ((g74 74)) (la_codeWays_62 h20_ h44_ h109_ (la_codeWays_55 h56_ h600_) h604_)
        have e694_ : g74 75 x33 = g74 75 639 := congrArg ((g74 75)) (la_codeWays_62 h20_ h44_ h109_ (la_codeWays_55 h56_ h600_) h604_)
        have e695_ : g74 78 x33 = g74 78 639 := congrArg ((g74 78)) (la_codeWays_62 h20_ h44_ h109_ (la_codeWays_55 h56_ h600_) h604_)
        have e696_ : sm_dp (S 1100024) (g74 1100031 0) = sm_dp (S 1100024) (g19 1100031 0) := congrArg ((sm_dp (S 1100024))) (la_codeWays_21 h91_ h387_)
        have h697_ := (h677_ (la_codeWays_53 h676_ e692_))
        exact h680_
      intro h698_
      intro g132
      rintro ⟨h699_, ⟨h700_, h701_⟩⟩
      have h702_ := (h699_ la_codeWays_40)
      have h703_ := (h700_ la_codeWays_24)
      have h704_ := (h702_ la_codeWays_42)
      refine ⟨⟨h10_, ⟨h11_, ⟨h12_, ⟨h13_, ⟨h14_, ⟨h15_, ⟨h16_, ⟨h17_, ⟨h18_, ⟨h19_, ⟨h20_, ⟨h21_, ⟨h22_, ⟨h23_, ⟨h24_, ⟨h25_, ⟨h26_, ⟨h373_, ⟨h370_, ⟨h371_, ⟨h372_, ⟨h31_, ⟨h32_, ⟨h33_, ⟨h375_, ⟨h377_, ⟨h378_, ⟨h379_, ⟨h380_, ⟨h381_, ⟨h382_, ⟨h383_, ⟨h384_, ⟨h385_, (la_codeWays_35 h35_ h51_ h52_ h53_ h54_ h55_ h62_ h386_ h387_)⟩⟩⟩⟩⟩⟩⟩⟩⟩⟩⟩⟩⟩⟩⟩⟩⟩⟩⟩⟩⟩⟩⟩⟩⟩⟩⟩⟩⟩⟩⟩⟩⟩⟩, ?_⟩
      intro g139
      rintro ⟨h705_, ⟨h706_, ⟨h707_, ⟨h708_, ⟨h709_, ⟨h710_, h711_⟩⟩⟩⟩⟩⟩
      refine ⟨h705_, ?_⟩
      refine ⟨h706_, ?_⟩
      refine ⟨h707_, ?_⟩
      refine ⟨h708_, ?_⟩
      refine ⟨?_, ?_⟩
      · skip
        intro kv14
        intro h712_
        have h713_ := (((h33_ x33) (la_codeWays_34 h43_ h109_)) (la_codeWays_33 h44_ h109_))
        have h714_ := (h33_ (S 1148 0))
        have h715_ := (h33_ (S 1148 0 + 1))
        have h716_ := ((h78_ (S 1148 0)) h37_)
        have h717_ := (h105_ x33)
        have h718_ := (h105_ kv14)
        have h719_ := ((h374_ x33) (la_codeWays_20 h320_ (la_codeWays_5 h319_ h345_)))
        have h720_ := ((h374_ kv14) h712_)
        have h721_ := ((h709_ x33) h719_)
        have h722_ := ((h709_ kv14) h720_)
        obtain ⟨h723_, ⟨h724_, ⟨h725_, ⟨h726_, h727_⟩⟩⟩⟩ := (h397_ h719_)
        have h728_ := (h78_ x33)
        have h729_ := (h78_ kv14)
        have h730_ := ((h105_ (S 1148 0)) h716_)
        have e731_ : S 26 (g74 1100031 0) = S 26 (g19 1100031 0) := congrArg ((S 26)) (la_codeWays_21 h91_ h387_)
        have e732_ : sm_dp (S 1100024) (g74 1100031 0) = sm_dp (S 1100024) (g19 1100031 0) := congrArg ((sm_dp (S 1100024))) (la_codeWays_21 h91_ h387_)
        exact h722_
      refine ⟨h710_, ?_⟩
      refine ⟨(la_codeWays_54 h376_ h391_ h392_ h393_ h431_ h703_ h711_), ?_⟩
      refine ⟨h388_, ?_⟩
      refine ⟨h389_, ?_⟩
      intro kv15
      intro h733_
      intro h734_
      refine ⟨?_, ?_⟩
      · skip
        have h735_ := (((h33_ x33) (la_codeWays_34 h43_ h109_)) (la_codeWays_33 h44_ h109_))
        have h736_ := (h33_ (S 1148 0))
        have h737_ := (h33_ (S 1148 0 + 1))
        have h738_ := ((h78_ (S 1148 0)) h37_)
        have h739_ := (h105_ x33)
        have h740_ := ((h374_ x33) (la_codeWays_20 h320_ (la_codeWays_5 h319_ h345_)))
        obtain ⟨h741_, h742_⟩ := (((h390_ kv15) h733_) h734_)
        have h743_ := ((h709_ x33) h740_)
        obtain ⟨h744_, ⟨h745_, ⟨h746_, ⟨h747_, h748_⟩⟩⟩⟩ := (h397_ h740_)
        have h749_ := (h78_ x33)
        have h750_ := ((h105_ (S 1148 0)) h738_)
        have e751_ : S 26 (g74 1100031 0) = S 26 (g19 1100031 0) := congrArg ((S 26)) (la_codeWays_21 h91_ h387_)
        have e752_ : sm_dp (S 1100024) (g74 1100031 0) = sm_dp (S 1100024) (g19 1100031 0) := congrArg ((sm_dp (S 1100024))) (la_codeWays_21 h91_ h387_)
        exact h741_
      have h753_ := (((h33_ x33) (la_codeWays_34 h43_ h109_)) (la_codeWays_33 h44_ h109_))
      have h754_ := (h33_ (S 1148 0))
      have h755_ := (h33_ (S 1148 0 + 1))
      have h756_ := ((h78_ (S 1148 0)) h37_)
      have h757_ := (h105_ x33)
      have h758_ := ((h374_ x33) (la_codeWays_20 h320_ (la_codeWays_5 h319_ h345_)))
      obtain ⟨h759_, h760_⟩ := (((h390_ kv15) h733_) h734_)
      have h761_ := ((h709_ x33) h758_)
      obtain ⟨h762_, ⟨h763_, ⟨h764_, ⟨h765_, h766_⟩⟩⟩⟩ := (h397_ h758_)
      have h767_ := (h78_ x33)
      have h768_ := ((h105_ (S 1148 0)) h756_)
      have e769_ : S 26 (g74 1100031 0) = S 26 (g19 1100031 0) := congrArg ((S 26)) (la_codeWays_21 h91_ h387_)
      have e770_ : sm_dp (S 1100024) (g74 1100031 0) = sm_dp (S 1100024) (g19 1100031 0) := congrArg ((sm_dp (S 1100024))) (la_codeWays_21 h91_ h387_)
      exact h760_
    intro h771_
    refine ⟨(la_codeWays_63 h15_ h17_ h43_ h44_ h57_ (la_codeWays_55 h56_ h600_)), ?_⟩
    intro r150
    intro h772_
    intro h773_
    refine ⟨la_codeWays_64, ?_⟩
    intro g152
    intro h774_
    intro r162
    intro h775_
    intro h776_
    refine ⟨(la_codeWays_65 h11_ h14_ h18_ h57_ (la_codeWays_55 h56_ h600_) h776_), ?_⟩
    intro g164
    intro h777_
    refine ⟨?_, ?_⟩
    · skip
      intro h778_
      have h779_ := (h88_ (la_codeWays_66 (la_codeWays_55 h56_ h600_) h778_))
      have h780_ := (h384_ (la_codeWays_66 (la_codeWays_55 h56_ h600_) h778_))
      refine ⟨⟨h10_, ⟨h11_, ⟨h12_, ⟨h13_, ⟨h14_, ⟨h15_, ⟨h16_, ⟨h17_, ⟨h18_, ⟨h19_, ⟨h20_, ⟨h21_, ⟨h22_, ⟨h23_, ⟨h24_, ⟨h25_, ⟨h26_, ⟨h373_, ⟨h370_, ⟨h371_, ⟨h372_, ⟨h31_, ⟨h32_, ⟨h33_, ⟨h375_, ⟨h377_, ⟨h378_, ⟨h379_, ⟨h380_, ⟨h381_, ⟨h382_, ⟨h383_, ⟨h384_, ⟨h385_, (la_codeWays_35 h35_ h51_ h52_ h53_ h54_ h55_ h62_ h386_ h387_)⟩⟩⟩⟩⟩⟩⟩⟩⟩⟩⟩⟩⟩⟩⟩⟩⟩⟩⟩⟩⟩⟩⟩⟩⟩⟩⟩⟩⟩⟩⟩⟩⟩⟩, ?_⟩
      intro g171
      rintro ⟨h781_, ⟨h782_, ⟨h783_, ⟨h784_, ⟨h785_, ⟨h786_, h787_⟩⟩⟩⟩⟩⟩
      refine ⟨h781_, ?_⟩
      refine ⟨h782_, ?_⟩
      refine ⟨h783_, ?_⟩
      refine ⟨h784_, ?_⟩
      refine ⟨?_, ?_⟩
      · skip
        intro kv16
        intro h788_
        have h789_ := (((h33_ x33) (la_codeWays_34 h43_ h109_)) (la_codeWays_56 (la_codeWays_55 h56_ h600_) h778_))
        have h790_ := (((h33_ (S 1148 0)) (la_codeWays_57 (la_codeWays_55 h56_ h600_) h778_)) (la_codeWays_45 h43_ h44_ h54_))
        have h791_ := (((h33_ (S 1148 0 + 1)) (la_codeWays_58 (la_codeWays_55 h56_ h600_) h778_)) (la_codeWays_47 h43_ h44_ h54_))
        have h792_ := ((h78_ (S 1148 0)) h37_)
        have h793_ := (h105_ x33)
        have h794_ := (h105_ kv16)
        have h795_ := ((h374_ x33) (la_codeWays_20 h320_ (la_codeWays_5 h319_ h345_)))
        have h796_ := ((h374_ kv16) h788_)
        have h797_ := ((h785_ x33) h795_)
        have h798_ := ((h785_ kv16) h796_)
        obtain ⟨h799_, ⟨h800_, ⟨h801_, ⟨h802_, h803_⟩⟩⟩⟩ := (h397_ h795_)
        have h804_ := (h78_ x33)
        have h805_ := (h78_ kv16)
        have h806_ := ((h105_ (S 1148 0)) h792_)
        have e807_ : S 1100007 x33 = S 1100007 (S 1148 0 + 1) := congrArg ((S 1100007)) (la_codeWays_59 h43_ h54_ h109_ (la_codeWays_55 h56_ h600_) h778_)
        have e808_ : S 1100007 x33 = S 1100007 (S 1148 0) := congrArg ((S 1100007)) (la_codeWays_60 h43_ h54_ h109_ (la_codeWays_55 h56_ h600_) h778_)
        have e809_ : S 26 (g74 1100031 0) = S 26 (g19 1100031 0) := congrArg ((S 26)) (la_codeWays_21 h91_ h387_)
        have e810_ : g171 71 x33 = g171 71 kv16 := congrArg ((g171 71)) (la_codeWays_61 (la_codeWays_55 h56_ h600_) h778_)
        have e811_ : g19 71 kv16 = g19 71 (S 1148 0) := congrArg ((g19 71)) (la_codeWays_61 (la_codeWays_55 h56_ h600_) h778_)
        have e812_ : g19 71 x33 = g19 71 (S 1148 0) := congrArg ((g19 71)) (la_codeWays_60 h43_ h54_ h109_ (la_codeWays_55 h56_ h600_) h778_)
        have e813_ : g19 71 x33 = g19 71 kv16 := congrArg ((g19 71)) (la_codeWays_61 (la_codeWays_55 h56_ h600_) h778_)
        have e814_ : g27 71 x33 = g27 71 kv16 := congrArg ((g27 71)) (la_codeWays_61 (la_codeWays_55 h56_ h600_) h778_)
        have e815_ : g74 71 x33 = g74 71 kv16 := congrArg ((g74 71)) (la_codeWays_61 (la_codeWays_55 h56_ h600_) h778_)
        have e816_ : g74 74 x33 = g74 74 639 := congrArg ((g74 74)) (la_codeWays_62 h20_ h44_ h109_ (la_codeWays_55 h56_ h600_) h778_)
        have e817_ : g74 75 x33 = g74 75 639 := congrArg ((g74 75)) (la_codeWays_62 h20_ h44_ h109_ (la_codeWays_55 h56_ h600_) h778_)
        have e818_ : g74 78 x33 = g74 78 639 := congrArg ((g74 78)) (la_codeWays_62 h20_ h44_ h109_ (la_codeWays_55 h56_ h600_) h778_)
        have e819_ : sm_dp (S 1100024) (g74 1100031 0) = sm_dp (S 1100024) (g19 1100031 0) := congrArg ((sm_dp (S 1100024))) (la_codeWays_21 h91_ h387_)
        have h820_ := (h793_ (la_codeWays_53 h792_ e812_))
        have h821_ := (h794_ (la_codeWays_53 h792_ e811_))
        exact h798_
      refine ⟨h786_, ?_⟩
      refine ⟨(la_codeWays_67 h376_ h391_ h392_ h393_ h431_ h774_ h777_ h787_), ?_⟩
      refine ⟨h388_, ?_⟩
      refine ⟨h389_, ?_⟩
      intro kv17
      intro h822_
      intro h823_
      refine ⟨?_, ?_⟩
      · skip
        have h824_ := (((h33_ x33) (la_codeWays_34 h43_ h109_)) (la_codeWays_56 (la_codeWays_55 h56_ h600_) h778_))
        have h825_ := (((h33_ (S 1148 0)) (la_codeWays_57 (la_codeWays_55 h56_ h600_) h778_)) (la_codeWays_45 h43_ h44_ h54_))
        have h826_ := (((h33_ (S 1148 0 + 1)) (la_codeWays_58 (la_codeWays_55 h56_ h600_) h778_)) (la_codeWays_47 h43_ h44_ h54_))
        have h827_ := ((h78_ (S 1148 0)) h37_)
        have h828_ := (h105_ x33)
        have h829_ := ((h374_ x33) (la_codeWays_20 h320_ (la_codeWays_5 h319_ h345_)))
        obtain ⟨h830_, h831_⟩ := (((h390_ kv17) h822_) h823_)
        have h832_ := ((h785_ x33) h829_)
        obtain ⟨h833_, ⟨h834_, ⟨h835_, ⟨h836_, h837_⟩⟩⟩⟩ := (h397_ h829_)
        have h838_ := (h78_ x33)
        have h839_ := ((h105_ (S 1148 0)) h827_)
        have e840_ : S 1100007 x33 = S 1100007 (S 1148 0 + 1) := congrArg ((S 1100007)) (la_codeWays_59 h43_ h54_ h109_ (la_codeWays_55 h56_ h600_) h778_)
        have e841_ : S 1100007 x33 = S 1100007 (S 1148 0) := congrArg ((S 1100007)) (la_codeWays_60 h43_ h54_ h109_ (la_codeWays_55 h56_ h600_) h778_)
        have e842_ : S 26 (g74 1100031 0) = S 26 (g19 1100031 0) := congrArg ((S 26)) (la_codeWays_21 h91_ h387_)
        have e843_ : g19 71 x33 = g19 71 (S 1148 0) := congrArg ((g19 71)) (la_codeWays_60 h43_ h54_ h109_ (la_codeWays_55 h56_ h600_) h778_)
        have e844_ : g74 74 x33 = g74 74 639 := congrArg ((g74 74)) (la_codeWays_62 h20_ h44_ h109_ (la_codeWays_55 h56_ h600_) h778_)
        have e845_ : g74 75 x33 = g74 75 639 := congrArg ((g74 75)) (la_codeWays_62 h20_ h44_ h109_ (la_codeWays_55 h56_ h600_) h778_)
        have e846_ : g74 78 x33 = g74 78 639 := congrArg ((g74 78)) (la_codeWays_62 h20_ h44_ h109_ (la_codeWays_55 h56_ h600_) h778_)
        have e847_ : sm_dp (S 1100024) (g74 1100031 0) = sm_dp (S 1100024) (g19 1100031 0) := congrArg ((sm_dp (S 1100024))) (la_codeWays_21 h91_ h387_)
        have h848_ := (h828_ (la_codeWays_53 h827_ e843_))
        exact h830_
      have h849_ := (((h33_ x33) (la_codeWays_34 h43_ h109_)) (la_codeWays_56 (la_codeWays_55 h56_ h600_) h778_))
      have h850_ := (((h33_ (S 1148 0)) (la_codeWays_57 (la_codeWays_55 h56_ h600_) h778_)) (la_codeWays_45 h43_ h44_ h54_))
      have h851_ := (((h33_ (S 1148 0 + 1)) (la_codeWays_58 (la_codeWays_55 h56_ h600_) h778_)) (la_codeWays_47 h43_ h44_ h54_))
      have h852_ := ((h78_ (S 1148 0)) h37_)
      have h853_ := (h105_ x33)
      have h854_ := ((h374_ x33) (la_codeWays_20 h320_ (la_codeWays_5 h319_ h345_)))
      obtain ⟨h855_, h856_⟩ := (((h390_ kv17) h822_) h823_)
      have h857_ := ((h785_ x33) h854_)
      obtain ⟨h858_, ⟨h859_, ⟨h860_, ⟨h861_, h862_⟩⟩⟩⟩ := (h397_ h854_)
      have h863_ := (h78_ x33)
      have h864_ := ((h105_ (S 1148 0)) h852_)
      have e865_ : S 1100007 x33 = S 1100007 (S 1148 0 + 1) := congrArg ((S 1100007)) (la_codeWays_59 h43_ h54_ h109_ (la_codeWays_55 h56_ h600_) h778_)
      have e866_ : S 1100007 x33 = S 1100007 (S 1148 0) := congrArg ((S 1100007)) (la_codeWays_60 h43_ h54_ h109_ (la_codeWays_55 h56_ h600_) h778_)
      have e867_ : S 26 (g74 1100031 0) = S 26 (g19 1100031 0) := congrArg ((S 26)) (la_codeWays_21 h91_ h387_)
      have e868_ : g19 71 x33 = g19 71 (S 1148 0) := congrArg ((g19 71)) (la_codeWays_60 h43_ h54_ h109_ (la_codeWays_55 h56_ h600_) h778_)
      have e869_ : g74 74 x33 = g74 74 639 := congrArg ((g74 74)) (la_codeWays_62 h20_ h44_ h109_ (la_codeWays_55 h56_ h600_) h778_)
      have e870_ : g74 75 x33 = g74 75 639 := congrArg ((g74 75)) (la_codeWays_62 h20_ h44_ h109_ (la_codeWays_55 h56_ h600_) h778_)
      have e871_ : g74 78 x33 = g74 78 639 := congrArg ((g74 78)) (la_codeWays_62 h20_ h44_ h109_ (la_codeWays_55 h56_ h600_) h778_)
      have e872_ : sm_dp (S 1100024) (g74 1100031 0) = sm_dp (S 1100024) (g19 1100031 0) := congrArg ((sm_dp (S 1100024))) (la_codeWays_21 h91_ h387_)
      have h873_ := (h853_ (la_codeWays_53 h852_ e868_))
      exact h856_
    intro h874_
    intro g177
    rintro ⟨h875_, ⟨h876_, h877_⟩⟩
    have h878_ := (h875_ la_codeWays_40)
    have h879_ := (h876_ la_codeWays_24)
    have h880_ := (h878_ la_codeWays_42)
    refine ⟨⟨h10_, ⟨h11_, ⟨h12_, ⟨h13_, ⟨h14_, ⟨h15_, ⟨h16_, ⟨h17_, ⟨h18_, ⟨h19_, ⟨h20_, ⟨h21_, ⟨h22_, ⟨h23_, ⟨h24_, ⟨h25_, ⟨h26_, ⟨h373_, ⟨h370_, ⟨h371_, ⟨h372_, ⟨h31_, ⟨h32_, ⟨h33_, ⟨h375_, ⟨h377_, ⟨h378_, ⟨h379_, ⟨h380_, ⟨h381_, ⟨h382_, ⟨h383_, ⟨h384_, ⟨h385_, (la_codeWays_35 h35_ h51_ h52_ h53_ h54_ h55_ h62_ h386_ h387_)⟩⟩⟩⟩⟩⟩⟩⟩⟩⟩⟩⟩⟩⟩⟩⟩⟩⟩⟩⟩⟩⟩⟩⟩⟩⟩⟩⟩⟩⟩⟩⟩⟩⟩, ?_⟩
    intro g184
    rintro ⟨h881_, ⟨h882_, ⟨h883_, ⟨h884_, ⟨h885_, ⟨h886_, h887_⟩⟩⟩⟩⟩⟩
    refine ⟨h881_, ?_⟩
    refine ⟨h882_, ?_⟩
    refine ⟨h883_, ?_⟩
    refine ⟨h884_, ?_⟩
    refine ⟨?_, ?_⟩
    · skip
      intro kv18
      intro h888_
      have h889_ := (((h33_ x33) (la_codeWays_34 h43_ h109_)) (la_codeWays_33 h44_ h109_))
      have h890_ := (h33_ (S 1148 0))
      have h891_ := (h33_ (S 1148 0 + 1))
      have h892_ := ((h78_ (S 1148 0)) h37_)
      have h893_ := (h105_ x33)
      have h894_ := (h105_ kv18)
      have h895_ := ((h374_ x33) (la_codeWays_20 h320_ (la_codeWays_5 h319_ h345_)))
      have h896_ := ((h374_ kv18) h888_)
      have h897_ := ((h885_ x33) h895_)
      have h898_ := ((h885_ kv18) h896_)
      obtain ⟨h899_, ⟨h900_, ⟨h901_, ⟨h902_, h903_⟩⟩⟩⟩ := (h397_ h895_)
      have h904_ := (h78_ x33)
      have h905_ := (h78_ kv18)
      have h906_ := ((h105_ (S 1148 0)) h892_)
      have e907_ : S 26 (g74 1100031 0) = S 26 (g19 1100031 0) := congrArg ((S 26)) (la_codeWays_21 h91_ h387_)
      have e908_ : sm_dp (S 1100024) (g74 1100031 0) = sm_dp (S 1100024) (g19 1100031 0) := congrArg ((sm_dp (S 1100024))) (la_codeWays_21 h91_ h387_)
      exact h898_
    refine ⟨h886_, ?_⟩
    refine ⟨(la_codeWays_68 h376_ h391_ h392_ h393_ h431_ h774_ h777_ h879_ h887_), ?_⟩
    refine ⟨h388_, ?_⟩
    refine ⟨h389_, ?_⟩
    intro kv19
    intro h909_
    intro h910_
    refine ⟨?_, ?_⟩
    · skip
      have h911_ := (((h33_ x33) (la_codeWays_34 h43_ h109_)) (la_codeWays_33 h44_ h109_))
      have h912_ := (h33_ (S 1148 0))
      have h913_ := (h33_ (S 1148 0 + 1))
      have h914_ := ((h78_ (S 1148 0)) h37_)
      have h915_ := (h105_ x33)
      have h916_ := ((h374_ x33) (la_codeWays_20 h320_ (la_codeWays_5 h319_ h345_)))
      obtain ⟨h917_, h918_⟩ := (((h390_ kv19) h909_) h910_)
      have h919_ := ((h885_ x33) h916_)
      obtain ⟨h920_, ⟨h921_, ⟨h922_, ⟨h923_, h924_⟩⟩⟩⟩ := (h397_ h916_)
      have h925_ := (h78_ x33)
      have h926_ := ((h105_ (S 1148 0)) h914_)
      have e927_ : S 26 (g74 1100031 0) = S 26 (g19 1100031 0) := congrArg ((S 26)) (la_codeWays_21 h91_ h387_)
      have e928_ : sm_dp (S 1100024) (g74 1100031 0) = sm_dp (S 1100024) (g19 1100031 0) := congrArg ((sm_dp (S 1100024))) (la_codeWays_21 h91_ h387_)
      exact h917_
    have h929_ := (((h33_ x33) (la_codeWays_34 h43_ h109_)) (la_codeWays_33 h44_ h109_))
    have h930_ := (h33_ (S 1148 0))
    have h931_ := (h33_ (S 1148 0 + 1))
    have h932_ := ((h78_ (S 1148 0)) h37_)
    have h933_ := (h105_ x33)
    have h934_ := ((h374_ x33) (la_codeWays_20 h320_ (la_codeWays_5 h319_ h345_)))
    obtain ⟨h935_, h936_⟩ := (((h390_ kv19) h909_) h910_)
    have h937_ := ((h885_ x33) h934_)
    obtain ⟨h938_, ⟨h939_, ⟨h940_, ⟨h941_, h942_⟩⟩⟩⟩ := (h397_ h934_)
    have h943_ := (h78_ x33)
    have h944_ := ((h105_ (S 1148 0)) h932_)
    have e945_ : S 26 (g74 1100031 0) = S 26 (g19 1100031 0) := congrArg ((S 26)) (la_codeWays_21 h91_ h387_)
    have e946_ : sm_dp (S 1100024) (g74 1100031 0) = sm_dp (S 1100024) (g19 1100031 0) := congrArg ((sm_dp (S 1100024))) (la_codeWays_21 h91_ h387_)
    exact h936_
  intro h947_
  have h948_ := (h68_.resolve_right (la_codeWays_69 h947_))
  refine ⟨?_, ?_⟩
  · skip
    intro h949_
    have h950_ := (h71_.resolve_left h949_)
    refine ⟨⟨h10_, ⟨h11_, ⟨h12_, ⟨h13_, ⟨h14_, ⟨h15_, ⟨h16_, ⟨h17_, ⟨h18_, ⟨h19_, ⟨h20_, ⟨h21_, ⟨h22_, ⟨h23_, ⟨h24_, ⟨h25_, ⟨h26_, ⟨h27_, ⟨h28_, ⟨h29_, ⟨h30_, ⟨h31_, ⟨h32_, ⟨h33_, ⟨h34_, ⟨h35_, ⟨h36_, ⟨h37_, ⟨h56_, ⟨h57_, ⟨h40_, ⟨h41_, h42_⟩⟩⟩⟩⟩⟩⟩⟩⟩⟩⟩⟩⟩⟩⟩⟩⟩⟩⟩⟩⟩⟩⟩⟩⟩⟩⟩⟩⟩⟩⟩⟩, ?_⟩
    intro g191
    rintro ⟨h951_, ⟨h952_, ⟨h953_, ⟨h954_, ⟨h955_, ⟨h956_, ⟨h957_, ⟨h958_, ⟨h959_, ⟨h960_, ⟨h961_, ⟨h962_, ⟨h963_, ⟨h964_, ⟨h965_, ⟨h966_, ⟨h967_, ⟨h968_, ⟨h969_, ⟨h970_, h971_⟩⟩⟩⟩⟩⟩⟩⟩⟩⟩⟩⟩⟩⟩⟩⟩⟩⟩⟩⟩
    refine ⟨(la_codeWays_70 h947_), ?_⟩
    refine ⟨(la_codeWays_6 h950_), ?_⟩
    refine ⟨⟨h10_, ⟨h11_, ⟨h12_, ⟨h13_, ⟨h14_, ⟨h15_, ⟨h16_, ⟨h17_, ⟨h18_, ⟨h19_, ⟨h20_, ⟨h21_, ⟨h22_, ⟨h23_, ⟨h24_, ⟨h25_, ⟨h26_, ⟨h954_, ⟨h951_, ⟨h952_, ⟨h953_, ⟨h31_, ⟨h32_, ⟨h33_, ⟨h956_, ⟨h958_, ⟨h959_, ⟨h960_, ⟨h961_, ⟨h962_, ⟨h963_, ⟨h964_, ⟨h965_, ⟨h966_, ⟨h38_, ⟨h39_, ⟨h969_, ⟨h970_, ⟨h971_, (la_codeWays_11 h43_ h44_ h45_ h46_ h47_ h48_ h49_ h50_ h56_ h57_)⟩⟩⟩⟩⟩⟩⟩⟩⟩⟩⟩⟩⟩⟩⟩⟩⟩⟩⟩⟩⟩⟩⟩⟩⟩⟩⟩⟩⟩⟩⟩⟩⟩⟩⟩⟩⟩⟩⟩, ?_⟩
    intro g199
    rintro ⟨h972_, ⟨h973_, ⟨h974_, ⟨h975_, ⟨h976_, ⟨h977_, h978_⟩⟩⟩⟩⟩⟩
    intro h979_
    intro x205
    intro h980_
    refine ⟨?_, ?_⟩
    · skip
      intro g207
      rintro ⟨h981_, ⟨h982_, ⟨h983_, ⟨h984_, ⟨h985_, ⟨h986_, ⟨h987_, ⟨h988_, ⟨h989_, h990_⟩⟩⟩⟩⟩⟩⟩⟩⟩
      refine ⟨(la_codeWays_12 h20_ h35_ h43_ h44_ h54_ h980_), ?_⟩
      rintro ⟨h991_, h992_⟩
      refine ⟨?_, ?_⟩
      · skip
        intro h993_
        refine ⟨h981_, ?_⟩
        refine ⟨h982_, ?_⟩
        refine ⟨h983_, ?_⟩
        refine ⟨h984_, ?_⟩
        refine ⟨?_, ?_⟩
        · skip
          intro kv20
          intro h994_
          have h995_ := (h33_ (S 1148 0))
          have h996_ := (h33_ (S 1148 0 + 1))
          have h997_ := ((h955_ (S 1148 0)) h37_)
          have h998_ := ((h955_ kv20) h994_)
          have h999_ := (h985_ (x205 + 1))
          have h1000_ := (h985_ kv20)
          have h1001_ : ¬ (g199 71 (x205 + 1) = 1) := fun q_ => (la_codeWays_13 h993_) (h999_ q_)
          have h1002_ := (h976_ (x205 + 1))
          have h1003_ := ((h976_ kv20) h998_)
          have h1004_ := ((h976_ (S 1148 0)) h997_)
          have h1005_ := (h1000_ h1003_)
          have h1006_ : ¬ (g191 71 (x205 + 1) = 1) := fun q_ => h1001_ (h1002_ q_)
          exact h1005_
        refine ⟨h986_, ?_⟩
        refine ⟨(la_codeWays_14 h957_ h978_ h987_), ?_⟩
        refine ⟨h988_, ?_⟩
        refine ⟨h989_, ?_⟩
        intro kv21
        intro h1007_
        intro h1008_
        refine ⟨?_, ?_⟩
        · skip
          have h1009_ := (h33_ (S 1148 0))
          have h1010_ := (h33_ (S 1148 0 + 1))
          have h1011_ := ((h955_ (S 1148 0)) h37_)
          have h1012_ := (h985_ (x205 + 1))
          obtain ⟨h1013_, h1014_⟩ := (((h990_ kv21) h1007_) h1008_)
          have h1015_ : ¬ (g199 71 (x205 + 1) = 1) := fun q_ => (la_codeWays_13 h993_) (h1012_ q_)
          have h1016_ := (h976_ (x205 + 1))
          have h1017_ := ((h976_ (S 1148 0)) h1011_)
          have h1018_ : ¬ (g191 71 (x205 + 1) = 1) := fun q_ => h1015_ (h1016_ q_)
          exact h1013_
        have h1019_ := (h33_ (S 1148 0))
        have h1020_ := (h33_ (S 1148 0 + 1))
        have h1021_ := ((h955_ (S 1148 0)) h37_)
        have h1022_ := (h985_ (x205 + 1))
        obtain ⟨h1023_, h1024_⟩ := (((h990_ kv21) h1007_) h1008_)
        have h1025_ : ¬ (g199 71 (x205 + 1) = 1) := fun q_ => (la_codeWays_13 h993_) (h1022_ q_)
        have h1026_ := (h976_ (x205 + 1))
        have h1027_ := ((h976_ (S 1148 0)) h1021_)
        have h1028_ : ¬ (g191 71 (x205 + 1) = 1) := fun q_ => h1025_ (h1026_ q_)
        exact h1024_
      intro h1029_
      refine ⟨?_, ?_⟩
      · skip
        refine ⟨h10_, ?_⟩
        refine ⟨h11_, ?_⟩
        refine ⟨h12_, ?_⟩
        refine ⟨h13_, ?_⟩
        refine ⟨h14_, ?_⟩
        refine ⟨h15_, ?_⟩
        refine ⟨h16_, ?_⟩
        refine ⟨h17_, ?_⟩
        refine ⟨h18_, ?_⟩
        refine ⟨h19_, ?_⟩
        refine ⟨h20_, ?_⟩
        refine ⟨h21_, ?_⟩
        refine ⟨h22_, ?_⟩
        refine ⟨h23_, ?_⟩
        refine ⟨h24_, ?_⟩
        refine ⟨h25_, ?_⟩
        refine ⟨h26_, ?_⟩
        refine ⟨h984_, ?_⟩
        refine ⟨h981_, ?_⟩
        refine ⟨h982_, ?_⟩
        refine ⟨h983_, ?_⟩
        refine ⟨h31_, ?_⟩
        refine ⟨h32_, ?_⟩
        refine ⟨h33_, ?_⟩
        refine ⟨h986_, ?_⟩
        refine ⟨h35_, ?_⟩
        refine ⟨h36_, ?_⟩
        refine ⟨?_, ?_⟩
        · skip
          have h1030_ := (h33_ (S 1148 0))
          have h1031_ := (h33_ (S 1148 0 + 1))
          have h1032_ := ((h955_ (S 1148 0)) h37_)
          have h1033_ := (h985_ (x205 + 1))
          have h1034_ := (h985_ (S 1148 0))
          have h1035_ := (h976_ (x205 + 1))
          have h1036_ := ((h976_ (S 1148 0)) h1032_)
          have h1037_ := (h1034_ h1036_)
          exact h1037_
        refine ⟨h56_, ?_⟩
        refine ⟨h57_, ?_⟩
        refine ⟨h988_, ?_⟩
        refine ⟨h989_, ?_⟩
        intro kv22
        intro h1038_
        intro h1039_
        refine ⟨?_, ?_⟩
        · skip
          have h1040_ := (h33_ (S 1148 0))
          have h1041_ := (h33_ (S 1148 0 + 1))
          have h1042_ := ((h955_ (S 1148 0)) h37_)
          have h1043_ := (h985_ (x205 + 1))
          obtain ⟨h1044_, h1045_⟩ := (((h990_ kv22) h1038_) h1039_)
          have h1046_ := (h976_ (x205 + 1))
          have h1047_ := ((h976_ (S 1148 0)) h1042_)
          exact h1044_
        have h1048_ := (h33_ (S 1148 0))
        have h1049_ := (h33_ (S 1148 0 + 1))
        have h1050_ := ((h955_ (S 1148 0)) h37_)
        have h1051_ := (h985_ (x205 + 1))
        obtain ⟨h1052_, h1053_⟩ := (((h990_ kv22) h1038_) h1039_)
        have h1054_ := (h976_ (x205 + 1))
        have h1055_ := ((h976_ (S 1148 0)) h1050_)
        exact h1053_
      intro g215
      rintro ⟨h1056_, ⟨h1057_, ⟨h1058_, ⟨h1059_, ⟨h1060_, ⟨h1061_, ⟨h1062_, ⟨h1063_, ⟨h1064_, ⟨h1065_, ⟨h1066_, ⟨h1067_, ⟨h1068_, ⟨h1069_, ⟨h1070_, ⟨h1071_, ⟨h1072_, ⟨h1073_, ⟨h1074_, ⟨h1075_, h1076_⟩⟩⟩⟩⟩⟩⟩⟩⟩⟩⟩⟩⟩⟩⟩⟩⟩⟩⟩⟩
      refine ⟨(la_codeWays_15 h19_ h20_ h43_ h44_ h980_), ?_⟩
      refine ⟨⟨h10_, ⟨h11_, ⟨h12_, ⟨h13_, ⟨h14_, ⟨h15_, ⟨h16_, ⟨h17_, ⟨h18_, ⟨h19_, ⟨h20_, ⟨h21_, (la_codeWays_16 h22_ h23_ h35_ h43_ h44_ h51_ h52_ h54_ h62_ h980_ h1059_ h1072_)⟩⟩⟩⟩⟩⟩⟩⟩⟩⟩⟩⟩, ?_⟩
      intro g222
      rintro ⟨h1077_, ⟨h1078_, h1079_⟩⟩
      intro h1080_
      have h1081_ := (h1080_ h1056_)
      have h1082_ := (h1081_ (la_codeWays_17 h35_ h43_ h54_ h980_))
      have h1083_ := (h1082_ (la_codeWays_18 h44_ h980_))
      intro h1084_
      have h1085_ := (h1084_ h31_)
      intro h1086_
      refine ⟨?_, ?_⟩
      · skip
        refine ⟨?_, ?_⟩
        · skip
          have h1087_ := (((h33_ (x205 + 1)) (la_codeWays_19 h43_ h980_)) (la_codeWays_18 h44_ h980_))
          have h1088_ := (h33_ (S 1148 0))
          have h1089_ := (h33_ (S 1148 0 + 1))
          have h1090_ := ((h955_ (S 1148 0)) h37_)
          have h1091_ := (h985_ (x205 + 1))
          have h1092_ := ((h1060_ (x205 + 1)) (la_codeWays_20 h992_ (la_codeWays_5 h991_ h1029_)))
          obtain ⟨h1093_, ⟨h1094_, ⟨h1095_, ⟨h1096_, h1097_⟩⟩⟩⟩ := (h1083_ h1092_)
          have h1098_ := (h976_ (x205 + 1))
          have h1099_ := ((h976_ (S 1148 0)) h1090_)
          have e1100_ : S 26 (g215 1100031 0) = S 26 (g191 1100031 0) := congrArg ((S 26)) (la_codeWays_21 h968_ h1073_)
          have e1101_ : sm_dp (S 1100024) (g215 1100031 0) = sm_dp (S 1100024) (g191 1100031 0) := congrArg ((sm_dp (S 1100024))) (la_codeWays_21 h968_ h1073_)
          exact (la_codeWays_22 h1094_)
        refine ⟨?_, ?_⟩
        · skip
          have h1102_ := (((h33_ (x205 + 1)) (la_codeWays_19 h43_ h980_)) (la_codeWays_18 h44_ h980_))
          have h1103_ := (h33_ (S 1148 0))
          have h1104_ := (h33_ (S 1148 0 + 1))
          have h1105_ := ((h955_ (S 1148 0)) h37_)
          have h1106_ := (h985_ (x205 + 1))
          have h1107_ := ((h1060_ (x205 + 1)) (la_codeWays_20 h992_ (la_codeWays_5 h991_ h1029_)))
          obtain ⟨h1108_, ⟨h1109_, ⟨h1110_, ⟨h1111_, h1112_⟩⟩⟩⟩ := (h1083_ h1107_)
          have h1113_ := (h976_ (x205 + 1))
          have h1114_ := ((h976_ (S 1148 0)) h1105_)
          have e1115_ : S 26 (g215 1100031 0) = S 26 (g191 1100031 0) := congrArg ((S 26)) (la_codeWays_21 h968_ h1073_)
          have e1116_ : sm_dp (S 1100024) (g215 1100031 0) = sm_dp (S 1100024) (g191 1100031 0) := congrArg ((sm_dp (S 1100024))) (la_codeWays_21 h968_ h1073_)
          exact (la_codeWays_23 h1058_ h1085_ h1102_ h1108_ h1110_)
        refine ⟨la_codeWays_24, ?_⟩
        exact la_codeWays_25
      intro g231
      intro h1117_
      refine ⟨⟨h10_, ⟨h11_, ⟨h12_, ⟨h13_, ⟨h14_, ⟨h15_, ⟨h16_, ⟨h17_, ⟨h18_, ⟨h19_, ⟨h20_, ⟨h21_, ⟨h22_, ⟨h23_, ⟨h24_, ⟨h25_, ⟨h26_, ⟨h1059_, ⟨h1056_, ⟨h1057_, ⟨h1058_, ⟨h31_, ⟨h32_, ⟨h33_, ⟨h1061_, ⟨h1063_, ⟨h1064_, ⟨h1065_, ⟨h1066_, ⟨h1067_, ⟨h1068_, ⟨h1069_, ⟨h1070_, ⟨h1071_, (la_codeWays_26 h35_ h54_)⟩⟩⟩⟩⟩⟩⟩⟩⟩⟩⟩⟩⟩⟩⟩⟩⟩⟩⟩⟩⟩⟩⟩⟩⟩⟩⟩⟩⟩⟩⟩⟩⟩⟩, ?_⟩
      intro g237
      rintro ⟨h1118_, ⟨h1119_, ⟨h1120_, ⟨h1121_, ⟨h1122_, ⟨h1123_, h1124_⟩⟩⟩⟩⟩⟩
      refine ⟨h1118_, ?_⟩
      refine ⟨h1119_, ?_⟩
      refine ⟨h1120_, ?_⟩
      refine ⟨h1121_, ?_⟩
      refine ⟨?_, ?_⟩
      · skip
        intro kv23
        intro h1125_
        have h1126_ := (((h33_ (x205 + 1)) (la_codeWays_19 h43_ h980_)) (la_codeWays_18 h44_ h980_))
        have h1127_ := (h33_ (S 1148 0))
        have h1128_ := (h33_ (S 1148 0 + 1))
        have h1129_ := ((h955_ kv23) h1125_)
        have h1130_ := ((h955_ (S 1148 0)) h37_)
        have h1131_ := (h985_ (x205 + 1))
        have h1132_ := ((h1060_ (x205 + 1)) (la_codeWays_20 h992_ (la_codeWays_5 h991_ h1029_)))
        have h1133_ := (h1122_ kv23)
        have h1134_ := ((h1122_ (x205 + 1)) h1132_)
        obtain ⟨h1135_, ⟨h1136_, ⟨h1137_, ⟨h1138_, h1139_⟩⟩⟩⟩ := (h1083_ h1132_)
        have h1140_ := ((h976_ kv23) h1129_)
        have h1141_ := (h976_ (x205 + 1))
        have h1142_ := ((h976_ (S 1148 0)) h1130_)
        have h1143_ := (h1060_ kv23)
        have e1144_ : S 26 (g215 1100031 0) = S 26 (g191 1100031 0) := congrArg ((S 26)) (la_codeWays_21 h968_ h1073_)
        have e1145_ : sm_dp (S 1100024) (g215 1100031 0) = sm_dp (S 1100024) (g191 1100031 0) := congrArg ((sm_dp (S 1100024))) (la_codeWays_21 h968_ h1073_)
        have h1146_ := (h955_ (x205 + 1))
        have h1147_ := ((h985_ kv23) h1140_)
        have h1148_ := ((h985_ (S 1148 0)) h1142_)
        have h1149_ := (h1143_ h1147_)
        have h1150_ := (h1133_ h1149_)
        have h1151_ := ((h1060_ (S 1148 0)) h1148_)
        exact h1150_
      refine ⟨h1123_, ?_⟩
      refine ⟨(la_codeWays_27 h957_ h978_ h987_ h1062_ h1077_ h1078_ h1079_ h1117_ h1124_), ?_⟩
      refine ⟨h1074_, ?_⟩
      refine ⟨h1075_, ?_⟩
      intro kv24
      intro h1152_
      intro h1153_
      refine ⟨?_, ?_⟩
      · skip
        have h1154_ := (((h33_ (x205 + 1)) (la_codeWays_19 h43_ h980_)) (la_codeWays_18 h44_ h980_))
        have h1155_ := (h33_ (S 1148 0))
        have h1156_ := (h33_ (S 1148 0 + 1))
        have h1157_ := ((h955_ (S 1148 0)) h37_)
        have h1158_ := (h985_ (x205 + 1))
        have h1159_ := ((h1060_ (x205 + 1)) (la_codeWays_20 h992_ (la_codeWays_5 h991_ h1029_)))
        obtain ⟨h1160_, h1161_⟩ := (((h1076_ kv24) h1152_) h1153_)
        have h1162_ := ((h1122_ (x205 + 1)) h1159_)
        obtain ⟨h1163_, ⟨h1164_, ⟨h1165_, ⟨h1166_, h1167_⟩⟩⟩⟩ := (h1083_ h1159_)
        have h1168_ := (h976_ (x205 + 1))
        have h1169_ := ((h976_ (S 1148 0)) h1157_)
        have e1170_ : S 26 (g215 1100031 0) = S 26 (g191 1100031 0) := congrArg ((S 26)) (la_codeWays_21 h968_ h1073_)
        have e1171_ : sm_dp (S 1100024) (g215 1100031 0) = sm_dp (S 1100024) (g191 1100031 0) := congrArg ((sm_dp (S 1100024))) (la_codeWays_21 h968_ h1073_)
        exact h1160_
      have h1172_ := (((h33_ (x205 + 1)) (la_codeWays_19 h43_ h980_)) (la_codeWays_18 h44_ h980_))
      have h1173_ := (h33_ (S 1148 0))
      have h1174_ := (h33_ (S 1148 0 + 1))
      have h1175_ := ((h955_ (S 1148 0)) h37_)
      have h1176_ := (h985_ (x205 + 1))
      have h1177_ := ((h1060_ (x205 + 1)) (la_codeWays_20 h992_ (la_codeWays_5 h991_ h1029_)))
      obtain ⟨h1178_, h1179_⟩ := (((h1076_ kv24) h1152_) h1153_)
      have h1180_ := ((h1122_ (x205 + 1)) h1177_)
      obtain ⟨h1181_, ⟨h1182_, ⟨h1183_, ⟨h1184_, h1185_⟩⟩⟩⟩ := (h1083_ h1177_)
      have h1186_ := (h976_ (x205 + 1))
      have h1187_ := ((h976_ (S 1148 0)) h1175_)
      have e1188_ : S 26 (g215 1100031 0) = S 26 (g191 1100031 0) := congrArg ((S 26)) (la_codeWays_21 h968_ h1073_)
      have e1189_ : sm_dp (S 1100024) (g215 1100031 0) = sm_dp (S 1100024) (g191 1100031 0) := congrArg ((sm_dp (S 1100024))) (la_codeWays_21 h968_ h1073_)
      exact h1179_
    refine ⟨(la_codeWays_28 h20_ h35_ h43_ h44_ h54_ h980_), ?_⟩
    rintro ⟨h1190_, h1191_⟩
    refine ⟨?_, ?_⟩
    · skip
      intro h1192_
      refine ⟨h972_, ?_⟩
      refine ⟨h973_, ?_⟩
      refine ⟨h974_, ?_⟩
      refine ⟨h975_, ?_⟩
      refine ⟨?_, ?_⟩
      · skip
        intro kv25
        intro h1193_
        exact h1193_
      refine ⟨h977_, ?_⟩
      refine ⟨la_codeWays_29, ?_⟩
      refine ⟨h969_, ?_⟩
      refine ⟨h970_, ?_⟩
      intro kv26
      intro h1194_
      intro h1195_
      refine ⟨?_, ?_⟩
      · skip
        have h1196_ := (h33_ (S 1148 0))
        have h1197_ := (h33_ (S 1148 0 + 1))
        have h1198_ := ((h955_ (S 1148 0)) h37_)
        obtain ⟨h1199_, h1200_⟩ := (((h971_ kv26) h1194_) h1195_)
        have h1201_ := (h976_ x205)
        have h1202_ : ¬ (g191 71 x205 = 1) := fun q_ => (la_codeWays_13 h1192_) (h1201_ q_)
        have h1203_ := (h955_ x205)
        have h1204_ := ((h976_ (S 1148 0)) h1198_)
        have h1205_ : ¬ (S 71 x205 = 1) := fun q_ => h1202_ (h1203_ q_)
        exact h1199_
      have h1206_ := (h33_ (S 1148 0))
      have h1207_ := (h33_ (S 1148 0 + 1))
      have h1208_ := ((h955_ (S 1148 0)) h37_)
      obtain ⟨h1209_, h1210_⟩ := (((h971_ kv26) h1194_) h1195_)
      have h1211_ := (h976_ x205)
      have h1212_ : ¬ (g191 71 x205 = 1) := fun q_ => (la_codeWays_13 h1192_) (h1211_ q_)
      have h1213_ := (h955_ x205)
      have h1214_ := ((h976_ (S 1148 0)) h1208_)
      have h1215_ : ¬ (S 71 x205 = 1) := fun q_ => h1212_ (h1213_ q_)
      exact h1210_
    intro h1216_
    refine ⟨?_, ?_⟩
    · skip
      refine ⟨h10_, ?_⟩
      refine ⟨h11_, ?_⟩
      refine ⟨h12_, ?_⟩
      refine ⟨h13_, ?_⟩
      refine ⟨h14_, ?_⟩
      refine ⟨h15_, ?_⟩
      refine ⟨h16_, ?_⟩
      refine ⟨h17_, ?_⟩
      refine ⟨h18_, ?_⟩
      refine ⟨h19_, ?_⟩
      refine ⟨h20_, ?_⟩
      refine ⟨h21_, ?_⟩
      refine ⟨h22_, ?_⟩
      refine ⟨h23_, ?_⟩
      refine ⟨h24_, ?_⟩
      refine ⟨h25_, ?_⟩
      refine ⟨h26_, ?_⟩
      refine ⟨h975_, ?_⟩
      refine ⟨h972_, ?_⟩
      refine ⟨h973_, ?_⟩
      refine ⟨h974_, ?_⟩
      refine ⟨h31_, ?_⟩
      refine ⟨h32_, ?_⟩
      refine ⟨h33_, ?_⟩
      refine ⟨h977_, ?_⟩
      refine ⟨h35_, ?_⟩
      refine ⟨h36_, ?_⟩
      refine ⟨?_, ?_⟩
      · skip
        have h1217_ := (h33_ (S 1148 0))
        have h1218_ := (h33_ (S 1148 0 + 1))
        have h1219_ := ((h955_ (S 1148 0)) h37_)
        have h1220_ := ((h976_ (S 1148 0)) h1219_)
        have h1221_ := (h976_ x205)
        have h1222_ := (h955_ x205)
        exact h1220_
      refine ⟨h56_, ?_⟩
      refine ⟨h57_, ?_⟩
      refine ⟨h969_, ?_⟩
      refine ⟨h970_, ?_⟩
      intro kv27
      intro h1223_
      intro h1224_
      refine ⟨?_, ?_⟩
      · skip
        have h1225_ := (h33_ (S 1148 0))
        have h1226_ := (h33_ (S 1148 0 + 1))
        have h1227_ := ((h955_ (S 1148 0)) h37_)
        obtain ⟨h1228_, h1229_⟩ := (((h971_ kv27) h1223_) h1224_)
        have h1230_ := (h976_ x205)
        have h1231_ := (h955_ x205)
        have h1232_ := ((h976_ (S 1148 0)) h1227_)
        exact h1228_
      have h1233_ := (h33_ (S 1148 0))
      have h1234_ := (h33_ (S 1148 0 + 1))
      have h1235_ := ((h955_ (S 1148 0)) h37_)
      obtain ⟨h1236_, h1237_⟩ := (((h971_ kv27) h1223_) h1224_)
      have h1238_ := (h976_ x205)
      have h1239_ := (h955_ x205)
      have h1240_ := ((h976_ (S 1148 0)) h1235_)
      exact h1237_
    intro g246
    rintro ⟨h1241_, ⟨h1242_, ⟨h1243_, ⟨h1244_, ⟨h1245_, ⟨h1246_, ⟨h1247_, ⟨h1248_, ⟨h1249_, ⟨h1250_, ⟨h1251_, ⟨h1252_, ⟨h1253_, ⟨h1254_, ⟨h1255_, ⟨h1256_, ⟨h1257_, ⟨h1258_, ⟨h1259_, ⟨h1260_, h1261_⟩⟩⟩⟩⟩⟩⟩⟩⟩⟩⟩⟩⟩⟩⟩⟩⟩⟩⟩⟩
    refine ⟨(la_codeWays_30 h19_ h20_ h43_ h44_ h980_), ?_⟩
    refine ⟨⟨h10_, ⟨h11_, ⟨h12_, ⟨h13_, ⟨h14_, ⟨h15_, ⟨h16_, ⟨h17_, ⟨h18_, ⟨h19_, ⟨h20_, ⟨h21_, (la_codeWays_31 h22_ h23_ h35_ h43_ h44_ h51_ h52_ h54_ h62_ h980_ h1244_ h1257_)⟩⟩⟩⟩⟩⟩⟩⟩⟩⟩⟩⟩, ?_⟩
    intro g254
    rintro ⟨h1262_, ⟨h1263_, h1264_⟩⟩
    intro h1265_
    have h1266_ := (h1265_ h1241_)
    have h1267_ := (h1266_ (la_codeWays_32 h35_ h43_ h54_ h980_))
    have h1268_ := (h1267_ (la_codeWays_33 h44_ h980_))
    intro h1269_
    have h1270_ := (h1269_ h31_)
    intro h1271_
    refine ⟨?_, ?_⟩
    · skip
      refine ⟨?_, ?_⟩
      · skip
        have h1272_ := (h33_ (S 1148 0))
        have h1273_ := (h33_ (S 1148 0 + 1))
        have h1274_ := (((h33_ x205) (la_codeWays_34 h43_ h980_)) (la_codeWays_33 h44_ h980_))
        have h1275_ := ((h955_ (S 1148 0)) h37_)
        have h1276_ := (h976_ x205)
        have h1277_ := ((h1245_ x205) (la_codeWays_20 h1191_ (la_codeWays_5 h1190_ h1216_)))
        obtain ⟨h1278_, ⟨h1279_, ⟨h1280_, ⟨h1281_, h1282_⟩⟩⟩⟩ := (h1268_ h1277_)
        have h1283_ := (h955_ x205)
        have h1284_ := ((h976_ (S 1148 0)) h1275_)
        have e1285_ : S 26 (g246 1100031 0) = S 26 (g191 1100031 0) := congrArg ((S 26)) (la_codeWays_21 h968_ h1258_)
        have e1286_ : sm_dp (S 1100024) (g246 1100031 0) = sm_dp (S 1100024) (g191 1100031 0) := congrArg ((sm_dp (S 1100024))) (la_codeWays_21 h968_ h1258_)
        exact (la_codeWays_22 h1279_)
      refine ⟨?_, ?_⟩
      · skip
        have h1287_ := (h33_ (S 1148 0))
        have h1288_ := (h33_ (S 1148 0 + 1))
        have h1289_ := (((h33_ x205) (la_codeWays_34 h43_ h980_)) (la_codeWays_33 h44_ h980_))
        have h1290_ := ((h955_ (S 1148 0)) h37_)
        have h1291_ := (h976_ x205)
        have h1292_ := ((h1245_ x205) (la_codeWays_20 h1191_ (la_codeWays_5 h1190_ h1216_)))
        obtain ⟨h1293_, ⟨h1294_, ⟨h1295_, ⟨h1296_, h1297_⟩⟩⟩⟩ := (h1268_ h1292_)
        have h1298_ := (h955_ x205)
        have h1299_ := ((h976_ (S 1148 0)) h1290_)
        have e1300_ : S 26 (g246 1100031 0) = S 26 (g191 1100031 0) := congrArg ((S 26)) (la_codeWays_21 h968_ h1258_)
        have e1301_ : sm_dp (S 1100024) (g246 1100031 0) = sm_dp (S 1100024) (g191 1100031 0) := congrArg ((sm_dp (S 1100024))) (la_codeWays_21 h968_ h1258_)
        exact (la_codeWays_23 h1243_ h1270_ h1289_ h1293_ h1295_)
      refine ⟨la_codeWays_24, ?_⟩
      exact la_codeWays_25
    intro g264
    intro h1302_
    refine ⟨?_, ?_⟩
    · skip
      intro h1303_
      refine ⟨?_, ?_⟩
      · skip
        intro h1304_
        refine ⟨⟨h10_, ⟨h11_, ⟨h12_, ⟨h13_, ⟨h14_, ⟨h15_, ⟨h16_, ⟨h17_, ⟨h18_, ⟨h19_, ⟨h20_, ⟨h21_, ⟨h22_, ⟨h23_, ⟨h24_, ⟨h25_, ⟨h26_, ⟨h1244_, ⟨h1241_, ⟨h1242_, ⟨h1243_, ⟨h31_, ⟨h32_, ⟨h33_, ⟨h1246_, ⟨h1248_, ⟨h1249_, ⟨h1250_, ⟨h1251_, ⟨h1252_, ⟨h1253_, ⟨h1254_, ⟨h1255_, ⟨h1256_, (la_codeWays_35 h35_ h51_ h52_ h53_ h54_ h55_ h62_ h1257_ h1258_)⟩⟩⟩⟩⟩⟩⟩⟩⟩⟩⟩⟩⟩⟩⟩⟩⟩⟩⟩⟩⟩⟩⟩⟩⟩⟩⟩⟩⟩⟩⟩⟩⟩⟩, ?_⟩
        intro g271
        rintro ⟨h1305_, ⟨h1306_, ⟨h1307_, ⟨h1308_, ⟨h1309_, ⟨h1310_, h1311_⟩⟩⟩⟩⟩⟩
        refine ⟨h1305_, ?_⟩
        refine ⟨h1306_, ?_⟩
        refine ⟨h1307_, ?_⟩
        refine ⟨h1308_, ?_⟩
        refine ⟨?_, ?_⟩
        · skip
          intro kv28
          intro h1312_
          have h1313_ := (h33_ (S 1148 0))
          have h1314_ := (h33_ (S 1148 0 + 1))
          have h1315_ := (((h33_ x205) (la_codeWays_34 h43_ h980_)) (la_codeWays_33 h44_ h980_))
          have h1316_ := ((h955_ (S 1148 0)) h37_)
          have h1317_ := (h976_ kv28)
          have h1318_ := (h976_ x205)
          have h1319_ := ((h1245_ kv28) h1312_)
          have h1320_ := ((h1245_ x205) (la_codeWays_20 h1191_ (la_codeWays_5 h1190_ h1216_)))
          have h1321_ := ((h1309_ kv28) h1319_)
          have h1322_ := ((h1309_ x205) h1320_)
          obtain ⟨h1323_, ⟨h1324_, ⟨h1325_, ⟨h1326_, h1327_⟩⟩⟩⟩ := (h1268_ h1320_)
          have h1328_ := (h955_ kv28)
          have h1329_ := (h955_ x205)
          have h1330_ := ((h976_ (S 1148 0)) h1316_)
          have e1331_ : S 26 (g246 1100031 0) = S 26 (g191 1100031 0) := congrArg ((S 26)) (la_codeWays_21 h968_ h1258_)
          have e1332_ : sm_dp (S 1100024) (g246 1100031 0) = sm_dp (S 1100024) (g191 1100031 0) := congrArg ((sm_dp (S 1100024))) (la_codeWays_21 h968_ h1258_)
          exact h1321_
        refine ⟨h1310_, ?_⟩
        refine ⟨(la_codeWays_36 h1247_ h1262_ h1263_ h1264_ h1302_ h1311_), ?_⟩
        refine ⟨h1259_, ?_⟩
        refine ⟨h1260_, ?_⟩
        intro kv29
        intro h1333_
        intro h1334_
        refine ⟨?_, ?_⟩
        · skip
          have h1335_ := (h33_ (S 1148 0))
          have h1336_ := (h33_ (S 1148 0 + 1))
          have h1337_ := (((h33_ x205) (la_codeWays_34 h43_ h980_)) (la_codeWays_33 h44_ h980_))
          have h1338_ := ((h955_ (S 1148 0)) h37_)
          have h1339_ := (h976_ x205)
          have h1340_ := ((h1245_ x205) (la_codeWays_20 h1191_ (la_codeWays_5 h1190_ h1216_)))
          obtain ⟨h1341_, h1342_⟩ := (((h1261_ kv29) h1333_) h1334_)
          have h1343_ := ((h1309_ x205) h1340_)
          obtain ⟨h1344_, ⟨h1345_, ⟨h1346_, ⟨h1347_, h1348_⟩⟩⟩⟩ := (h1268_ h1340_)
          have h1349_ := (h955_ x205)
          have h1350_ := ((h976_ (S 1148 0)) h1338_)
          have e1351_ : S 26 (g246 1100031 0) = S 26 (g191 1100031 0) := congrArg ((S 26)) (la_codeWays_21 h968_ h1258_)
          have e1352_ : sm_dp (S 1100024) (g246 1100031 0) = sm_dp (S 1100024) (g191 1100031 0) := congrArg ((sm_dp (S 1100024))) (la_codeWays_21 h968_ h1258_)
          exact h1341_
        have h1353_ := (h33_ (S 1148 0))
        have h1354_ := (h33_ (S 1148 0 + 1))
        have h1355_ := (((h33_ x205) (la_codeWays_34 h43_ h980_)) (la_codeWays_33 h44_ h980_))
        have h1356_ := ((h955_ (S 1148 0)) h37_)
        have h1357_ := (h976_ x205)
        have h1358_ := ((h1245_ x205) (la_codeWays_20 h1191_ (la_codeWays_5 h1190_ h1216_)))
        obtain ⟨h1359_, h1360_⟩ := (((h1261_ kv29) h1333_) h1334_)
        have h1361_ := ((h1309_ x205) h1358_)
        obtain ⟨h1362_, ⟨h1363_, ⟨h1364_, ⟨h1365_, h1366_⟩⟩⟩⟩ := (h1268_ h1358_)
        have h1367_ := (h955_ x205)
        have h1368_ := ((h976_ (S 1148 0)) h1356_)
        have e1369_ : S 26 (g246 1100031 0) = S 26 (g191 1100031 0) := congrArg ((S 26)) (la_codeWays_21 h968_ h1258_)
        have e1370_ : sm_dp (S 1100024) (g246 1100031 0) = sm_dp (S 1100024) (g191 1100031 0) := congrArg ((sm_dp (S 1100024))) (la_codeWays_21 h968_ h1258_)
        exact h1360_
      intro h1371_
      refine ⟨la_codeWays_39, ?_⟩
      intro g278
      rintro ⟨h1372_, ⟨h1373_, h1374_⟩⟩
      have h1375_ := (h1372_ la_codeWays_40)
      have h1376_ := (h1373_ la_codeWays_24)
      have h1377_ := (h1375_ la_codeWays_42)
      refine ⟨⟨h10_, ⟨h11_, ⟨h12_, ⟨h13_, ⟨h14_, ⟨h15_, ⟨h16_, ⟨h17_, ⟨h18_, ⟨h19_, ⟨h20_, ⟨h21_, ⟨h22_, ⟨h23_, ⟨h24_, ⟨h25_, ⟨h26_, ⟨h1244_, ⟨h1241_, ⟨h1242_, ⟨h1243_, ⟨h31_, ⟨h32_, ⟨h33_, ⟨h1246_, ⟨h1248_, ⟨h1249_, ⟨h1250_, ⟨h1251_, ⟨h1252_, ⟨h1253_, ⟨h1254_, ⟨h1255_, ⟨h1256_, (la_codeWays_35 h35_ h51_ h52_ h53_ h54_ h55_ h62_ h1257_ h1258_)⟩⟩⟩⟩⟩⟩⟩⟩⟩⟩⟩⟩⟩⟩⟩⟩⟩⟩⟩⟩⟩⟩⟩⟩⟩⟩⟩⟩⟩⟩⟩⟩⟩⟩, ?_⟩
      intro g285
      rintro ⟨h1378_, ⟨h1379_, ⟨h1380_, ⟨h1381_, ⟨h1382_, ⟨h1383_, h1384_⟩⟩⟩⟩⟩⟩
      refine ⟨h1378_, ?_⟩
      refine ⟨h1379_, ?_⟩
      refine ⟨h1380_, ?_⟩
      refine ⟨h1381_, ?_⟩
      refine ⟨?_, ?_⟩
      · skip
        intro kv30
        intro h1385_
        have h1386_ := (((h33_ (S 1148 0)) (la_codeWays_44 h1303_ (la_codeWays_38 (la_codeWays_37 h1303_) h1371_))) (la_codeWays_45 h43_ h44_ h54_))
        have h1387_ := (((h33_ (S 1148 0 + 1)) (la_codeWays_46 h1303_ (la_codeWays_38 (la_codeWays_37 h1303_) h1371_))) (la_codeWays_47 h43_ h44_ h54_))
        have h1388_ := (((h33_ x205) (la_codeWays_34 h43_ h980_)) (la_codeWays_43 h56_ (la_codeWays_38 (la_codeWays_37 h1303_) h1371_)))
        have h1389_ := ((h955_ (S 1148 0)) h37_)
        have h1390_ := (h976_ kv30)
        have h1391_ := (h976_ x205)
        have h1392_ := ((h1245_ kv30) h1385_)
        have h1393_ := ((h1245_ x205) (la_codeWays_20 h1191_ (la_codeWays_5 h1190_ h1216_)))
        have h1394_ := ((h1382_ kv30) h1392_)
        have h1395_ := ((h1382_ x205) h1393_)
        obtain ⟨h1396_, ⟨h1397_, ⟨h1398_, ⟨h1399_, h1400_⟩⟩⟩⟩ := (h1268_ h1393_)
        have h1401_ := (h955_ kv30)
        have h1402_ := (h955_ x205)
        have h1403_ := ((h976_ (S 1148 0)) h1389_)
        have e1404_ : S 1100007 x205 = S 1100007 (S 1148 0 + 1) := congrArg ((S 1100007)) (la_codeWays_48 h43_ h54_ h56_ h980_ (la_codeWays_38 (la_codeWays_37 h1303_) h1371_))
        have e1405_ : S 1100007 x205 = S 1100007 (S 1148 0) := congrArg ((S 1100007)) (la_codeWays_49 h43_ h54_ h980_ h1303_ (la_codeWays_38 (la_codeWays_37 h1303_) h1371_))
        have e1406_ : S 26 (g246 1100031 0) = S 26 (g191 1100031 0) := congrArg ((S 26)) (la_codeWays_21 h968_ h1258_)
        have e1407_ : g191 71 kv30 = g191 71 (S 1148 0) := congrArg ((g191 71)) (la_codeWays_51 h56_ (la_codeWays_38 (la_codeWays_37 h1303_) h1371_))
        have e1408_ : g191 71 x205 = g191 71 (S 1148 0) := congrArg ((g191 71)) (la_codeWays_49 h43_ h54_ h980_ h1303_ (la_codeWays_38 (la_codeWays_37 h1303_) h1371_))
        have e1409_ : g191 71 x205 = g191 71 kv30 := congrArg ((g191 71)) (la_codeWays_50 h1303_ (la_codeWays_38 (la_codeWays_37 h1303_) h1371_))
        have e1410_ : g199 71 x205 = g199 71 kv30 := congrArg ((g199 71)) (la_codeWays_50 h1303_ (la_codeWays_38 (la_codeWays_37 h1303_) h1371_))
        have e1411_ : g246 71 x205 = g246 71 kv30 := congrArg ((g246 71)) (la_codeWays_50 h1303_ (la_codeWays_38 (la_codeWays_37 h1303_) h1371_))
        have e1412_ : g246 74 x205 = g246 74 639 := congrArg ((g246 74)) (la_codeWays_52 h20_ h44_ h980_ h1303_ (la_codeWays_38 (la_codeWays_37 h1303_) h1371_))
        have e1413_ : g246 75 x205 = g246 75 639 := congrArg ((g246 75)) (la_codeWays_52 h20_ h44_ h980_ h1303_ (la_codeWays_38 (la_codeWays_37 h1303_) h1371_))
        have e1414_ : g246 78 x205 = g246 78 639 := congrArg ((g246 78)) (la_codeWays_52 h20_ h44_ h980_ h1303_ (la_codeWays_38 (la_codeWays_37 h1303_) h1371_))
        have e1415_ : g285 71 x205 = g285 71 kv30 := congrArg ((g285 71)) (la_codeWays_50 h1303_ (la_codeWays_38 (la_codeWays_37 h1303_) h1371_))
        have e1416_ : sm_dp (S 1100024) (g246 1100031 0) = sm_dp (S 1100024) (g191 1100031 0) := congrArg ((sm_dp (S 1100024))) (la_codeWays_21 h968_ h1258_)
        have h1417_ := (h1390_ (la_codeWays_53 h1389_ e1407_))
        have h1418_ := (h1391_ (la_codeWays_53 h1389_ e1408_))
        exact h1394_
      refine ⟨h1383_, ?_⟩
      refine ⟨(la_codeWays_54 h1247_ h1262_ h1263_ h1264_ h1302_ h1376_ h1384_), ?_⟩
      refine ⟨h1259_, ?_⟩
      refine ⟨h1260_, ?_⟩
      intro kv31
      intro h1419_
      intro h1420_
      refine ⟨?_, ?_⟩
      · skip
        have h1421_ := (((h33_ (S 1148 0)) (la_codeWays_44 h1303_ (la_codeWays_38 (la_codeWays_37 h1303_) h1371_))) (la_codeWays_45 h43_ h44_ h54_))
        have h1422_ := (((h33_ (S 1148 0 + 1)) (la_codeWays_46 h1303_ (la_codeWays_38 (la_codeWays_37 h1303_) h1371_))) (la_codeWays_47 h43_ h44_ h54_))
        have h1423_ := (((h33_ x205) (la_codeWays_34 h43_ h980_)) (la_codeWays_43 h56_ (la_codeWays_38 (la_codeWays_37 h1303_) h1371_)))
        have h1424_ := ((h955_ (S 1148 0)) h37_)
        have h1425_ := (h976_ x205)
        have h1426_ := ((h1245_ x205) (la_codeWays_20 h1191_ (la_codeWays_5 h1190_ h1216_)))
        obtain ⟨h1427_, h1428_⟩ := (((h1261_ kv31) h1419_) h1420_)
        have h1429_ := ((h1382_ x205) h1426_)
        obtain ⟨h1430_, ⟨h1431_, ⟨h1432_, ⟨h1433_, h1434_⟩⟩⟩⟩ := (h1268_ h1426_)
        have h1435_ := (h955_ x205)
        have h1436_ := ((h976_ (S 1148 0)) h1424_)
        have e1437_ : S 1100007 x205 = S 1100007 (S 1148 0 + 1) := congrArg ((S 1100007)) (la_codeWays_48 h43_ h54_ h56_ h980_ (la_codeWays_38 (la_codeWays_37 h1303_) h1371_))
        have e1438_ : S 1100007 x205 = S 1100007 (S 1148 0) := congrArg ((S 1100007)) (la_codeWays_49 h43_ h54_ h980_ h1303_ (la_codeWays_38 (la_codeWays_37 h1303_) h1371_))
        have e1439_ : S 26 (g246 1100031 0) = S 26 (g191 1100031 0) := congrArg ((S 26)) (la_codeWays_21 h968_ h1258_)
        have e1440_ : g191 71 x205 = g191 71 (S 1148 0) := congrArg ((g191 71)) (la_codeWays_49 h43_ h54_ h980_ h1303_ (la_codeWays_38 (la_codeWays_37 h1303_) h1371_))
        have e1441_ : g246 74 x205 = g246 74 639 := congrArg ((g246 74)) (la_codeWays_52 h20_ h44_ h980_ h1303_ (la_codeWays_38 (la_codeWays_37 h1303_) h1371_))
        have e1442_ : g246 75 x205 = g246 75 639 := congrArg ((g246 75)) (la_codeWays_52 h20_ h44_ h980_ h1303_ (la_codeWays_38 (la_codeWays_37 h1303_) h1371_))
        have e1443_ : g246 78 x205 = g246 78 639 := congrArg ((g246 78)) (la_codeWays_52 h20_ h44_ h980_ h1303_ (la_codeWays_38 (la_codeWays_37 h1303_) h1371_))
        have e1444_ : sm_dp (S 1100024) (g246 1100031 0) = sm_dp (S 1100024) (g191 1100031 0) := congrArg ((sm_dp (S 1100024))) (la_codeWays_21 h968_ h1258_)
        have h1445_ := (h1425_ (la_codeWays_53 h1424_ e1440_))
        exact h1427_
      have h1446_ := (((h33_ (S 1148 0)) (la_codeWays_44 h1303_ (la_codeWays_38 (la_codeWays_37 h1303_) h1371_))) (la_codeWays_45 h43_ h44_ h54_))
      have h1447_ := (((h33_ (S 1148 0 + 1)) (la_codeWays_46 h1303_ (la_codeWays_38 (la_codeWays_37 h1303_) h1371_))) (la_codeWays_47 h43_ h44_ h54_))
      have h1448_ := (((h33_ x205) (la_codeWays_34 h43_ h980_)) (la_codeWays_43 h56_ (la_codeWays_38 (la_codeWays_37 h1303_) h1371_)))
      have h1449_ := ((h955_ (S 1148 0)) h37_)
      have h1450_ := (h976_ x205)
      have h1451_ := ((h1245_ x205) (la_codeWays_20 h1191_ (la_codeWays_5 h1190_ h1216_)))
      obtain ⟨h1452_, h1453_⟩ := (((h1261_ kv31) h1419_) h1420_)
      have h1454_ := ((h1382_ x205) h1451_)
      obtain ⟨h1455_, ⟨h1456_, ⟨h1457_, ⟨h1458_, h1459_⟩⟩⟩⟩ := (h1268_ h1451_)
      have h1460_ := (h955_ x205)
      have h1461_ := ((h976_ (S 1148 0)) h1449_)
      have e1462_ : S 1100007 x205 = S 1100007 (S 1148 0 + 1) := congrArg ((S 1100007)) (la_codeWays_48 h43_ h54_ h56_ h980_ (la_codeWays_38 (la_codeWays_37 h1303_) h1371_))
      have e1463_ : S 1100007 x205 = S 1100007 (S 1148 0) := congrArg ((S 1100007)) (la_codeWays_49 h43_ h54_ h980_ h1303_ (la_codeWays_38 (la_codeWays_37 h1303_) h1371_))
      have e1464_ : S 26 (g246 1100031 0) = S 26 (g191 1100031 0) := congrArg ((S 26)) (la_codeWays_21 h968_ h1258_)
      have e1465_ : g191 71 x205 = g191 71 (S 1148 0) := congrArg ((g191 71)) (la_codeWays_49 h43_ h54_ h980_ h1303_ (la_codeWays_38 (la_codeWays_37 h1303_) h1371_))
      have e1466_ : g246 74 x205 = g246 74 639 := congrArg ((g246 74)) (la_codeWays_52 h20_ h44_ h980_ h1303_ (la_codeWays_38 (la_codeWays_37 h1303_) h1371_))
      have e1467_ : g246 75 x205 = g246 75 639 := congrArg ((g246 75)) (la_codeWays_52 h20_ h44_ h980_ h1303_ (la_codeWays_38 (la_codeWays_37 h1303_) h1371_))
      have e1468_ : g246 78 x205 = g246 78 639 := congrArg ((g246 78)) (la_codeWays_52 h20_ h44_ h980_ h1303_ (la_codeWays_38 (la_codeWays_37 h1303_) h1371_))
      have e1469_ : sm_dp (S 1100024) (g246 1100031 0) = sm_dp (S 1100024) (g191 1100031 0) := congrArg ((sm_dp (S 1100024))) (la_codeWays_21 h968_ h1258_)
      have h1470_ := (h1450_ (la_codeWays_53 h1449_ e1465_))
      exact h1453_
    intro h1471_
    refine ⟨la_codeWays_39, ?_⟩
    intro r296
    intro h1472_
    intro h1473_
    refine ⟨?_, ?_⟩
    · skip
      intro h1474_
      refine ⟨?_, ?_⟩
      · skip
        intro h1475_
        refine ⟨⟨h10_, ⟨h11_, ⟨h12_, ⟨h13_, ⟨h14_, ⟨h15_, ⟨h16_, ⟨h17_, ⟨h18_, ⟨h19_, ⟨h20_, ⟨h21_, ⟨h22_, ⟨h23_, ⟨h24_, ⟨h25_, ⟨h26_, ⟨h1244_, ⟨h1241_, ⟨h1242_, ⟨h1243_, ⟨h31_, ⟨h32_, ⟨h33_, ⟨h1246_, ⟨h1248_, ⟨h1249_, ⟨h1250_, ⟨h1251_, ⟨h1252_, ⟨h1253_, ⟨h1254_, ⟨h1255_, ⟨h1256_, (la_codeWays_35 h35_ h51_ h52_ h53_ h54_ h55_ h62_ h1257_ h1258_)⟩⟩⟩⟩⟩⟩⟩⟩⟩⟩⟩⟩⟩⟩⟩⟩⟩⟩⟩⟩⟩⟩⟩⟩⟩⟩⟩⟩⟩⟩⟩⟩⟩⟩, ?_⟩
        intro g298
        rintro ⟨h1476_, ⟨h1477_, ⟨h1478_, ⟨h1479_, ⟨h1480_, ⟨h1481_, h1482_⟩⟩⟩⟩⟩⟩
        refine ⟨h1476_, ?_⟩
        refine ⟨h1477_, ?_⟩
        refine ⟨h1478_, ?_⟩
        refine ⟨h1479_, ?_⟩
        refine ⟨?_, ?_⟩
        · skip
          intro kv32
          intro h1483_
          have h1484_ := (((h33_ (S 1148 0)) (la_codeWays_57 (la_codeWays_55 h56_ h1471_) h1475_)) (la_codeWays_45 h43_ h44_ h54_))
          have h1485_ := (((h33_ (S 1148 0 + 1)) (la_codeWays_58 (la_codeWays_55 h56_ h1471_) h1475_)) (la_codeWays_47 h43_ h44_ h54_))
          have h1486_ := (((h33_ x205) (la_codeWays_34 h43_ h980_)) (la_codeWays_56 (la_codeWays_55 h56_ h1471_) h1475_))
          have h1487_ := ((h955_ (S 1148 0)) h37_)
          have h1488_ := (h976_ kv32)
          have h1489_ := (h976_ x205)
          have h1490_ := ((h1245_ kv32) h1483_)
          have h1491_ := ((h1245_ x205) (la_codeWays_20 h1191_ (la_codeWays_5 h1190_ h1216_)))
          have h1492_ := ((h1480_ kv32) h1490_)
          have h1493_ := ((h1480_ x205) h1491_)
          obtain ⟨h1494_, ⟨h1495_, ⟨h1496_, ⟨h1497_, h1498_⟩⟩⟩⟩ := (h1268_ h1491_)
          have h1499_ := (h955_ kv32)
          have h1500_ := (h955_ x205)
          have h1501_ := ((h976_ (S 1148 0)) h1487_)
          have e1502_ : S 1100007 x205 = S 1100007 (S 1148 0 + 1) := congrArg ((S 1100007)) (la_codeWays_59 h43_ h54_ h980_ (la_codeWays_55 h56_ h1471_) h1475_)
          have e1503_ : S 1100007 x205 = S 1100007 (S 1148 0) := congrArg ((S 1100007)) (la_codeWays_60 h43_ h54_ h980_ (la_codeWays_55 h56_ h1471_) h1475_)
          have e1504_ : S 26 (g246 1100031 0) = S 26 (g191 1100031 0) := congrArg ((S 26)) (la_codeWays_21 h968_ h1258_)
          have e1505_ : g191 71 kv32 = g191 71 (S 1148 0) := congrArg ((g191 71)) (la_codeWays_61 (la_codeWays_55 h56_ h1471_) h1475_)
          have e1506_ : g191 71 x205 = g191 71 (S 1148 0) := congrArg ((g191 71)) (la_codeWays_60 h43_ h54_ h980_ (la_codeWays_55 h56_ h1471_) h1475_)
          have e1507_ : g191 71 x205 = g191 71 kv32 := congrArg ((g191 71)) (la_codeWays_61 (la_codeWays_55 h56_ h1471_) h1475_)
          have e1508_ : g199 71 x205 = g199 71 kv32 := congrArg ((g199 71)) (la_codeWays_61 (la_codeWays_55 h56_ h1471_) h1475_)
          have e1509_ : g246 71 x205 = g246 71 kv32 := congrArg ((g246 71)) (la_codeWays_61 (la_codeWays_55 h56_ h1471_) h1475_)
          have e1510_ : g246 74 x205 = g246 74 639 := congrArg ((g246 74)) (la_codeWays_62 h20_ h44_ h980_ (la_codeWays_55 h56_ h1471_) h1475_)
          have e1511_ : g246 75 x205 = g246 75 639 := congrArg ((g246 75)) (la_codeWays_62 h20_ h44_ h980_ (la_codeWays_55 h56_ h1471_) h1475_)
          have e1512_ : g246 78 x205 = g246 78 639 := congrArg ((g246 78)) (la_codeWays_62 h20_ h44_ h980_ (la_codeWays_55 h56_ h1471_) h1475_)
          have e1513_ : g298 71 x205 = g298 71 kv32 := congrArg ((g298 71)) (la_codeWays_61 (la_codeWays_55 h56_ h1471_) h1475_)
          have e1514_ : sm_dp (S 1100024) (g246 1100031 0) = sm_dp (S 1100024) (g191 1100031 0) := congrArg ((sm_dp (S 1100024))) (la_codeWays_21 h968_ h1258_)
          have h1515_ := (h1488_ (la_codeWays_53 h1487_ e1505_))
          have h1516_ := (h1489_ (la_codeWays_53 h1487_ e1506_))
          exact h1492_
        refine ⟨h1481_, ?_⟩
        refine ⟨(la_codeWays_36 h1247_ h1262_ h1263_ h1264_ h1302_ h1482_), ?_⟩
        refine ⟨h1259_, ?_⟩
        refine ⟨h1260_, ?_⟩
        intro kv33
        intro h1517_
        intro h1518_
        refine ⟨?_, ?_⟩
        · skip
          have h1519_ := (((h33_ (S 1148 0)) (la_codeWays_57 (la_codeWays_55 h56_ h1471_) h1475_)) (la_codeWays_45 h43_ h44_ h54_))
          have h1520_ := (((h33_ (S 1148 0 + 1)) (la_codeWays_58 (la_codeWays_55 h56_ h1471_) h1475_)) (la_codeWays_47 h43_ h44_ h54_))
          have h1521_ := (((h33_ x205) (la_codeWays_34 h43_ h980_)) (la_codeWays_56 (la_codeWays_55 h56_ h1471_) h1475_))
          have h1522_ := ((h955_ (S 1148 0)) h37_)
          have h1523_ := (h976_ x205)
          have h1524_ := ((h1245_ x205) (la_codeWays_20 h1191_ (la_codeWays_5 h1190_ h1216_)))
          obtain ⟨h1525_, h1526_⟩ := (((h1261_ kv33) h1517_) h1518_)
          have h1527_ := ((h1480_ x205) h1524_)
          obtain ⟨h1528_, ⟨h1529_, ⟨h1530_, ⟨h1531_, h1532_⟩⟩⟩⟩ := (h1268_ h1524_)
          have h1533_ := (h955_ x205)
          have h1534_ := ((h976_ (S 1148 0)) h1522_)
          have e1535_ : S 1100007 x205 = S 1100007 (S 1148 0 + 1) := congrArg ((S 1100007)) (la_codeWays_59 h43_ h54_ h980_ (la_codeWays_55 h56_ h1471_) h1475_)
          have e1536_ : S 1100007 x205 = S 1100007 (S 1148 0) := congrArg ((S 1100007)) (la_codeWays_60 h43_ h54_ h980_ (la_codeWays_55 h56_ h1471_) h1475_)
          have e1537_ : S 26 (g246 1100031 0) = S 26 (g191 1100031 0) := congrArg ((S 26)) (la_codeWays_21 h968_ h1258_)
          have e1538_ : g191 71 x205 = g191 71 (S 1148 0) := congrArg ((g191 71)) (la_codeWays_60 h43_ h54_ h980_ (la_codeWays_55 h56_ h1471_) h1475_)
          have e1539_ : g246 74 x205 = g246 74 639 := congrArg ((g246 74)) (la_codeWays_62 h20_ h44_ h980_ (la_codeWays_55 h56_ h1471_) h1475_)
          have e1540_ : g246 75 x205 = g246 75 639 := congrArg ((g246 75)) (la_codeWays_62 h20_ h44_ h980_ (la_codeWays_55 h56_ h1471_) h1475_)
          have e1541_ : g246 78 x205 = g246 78 639 := congrArg ((g246 78)) (la_codeWays_62 h20_ h44_ h980_ (la_codeWays_55 h56_ h1471_) h1475_)
          have e1542_ : sm_dp (S 1100024) (g246 1100031 0) = sm_dp (S 1100024) (g191 1100031 0) := congrArg ((sm_dp (S 1100024))) (la_codeWays_21 h968_ h1258_)
          have h1543_ := (h1523_ (la_codeWays_53 h1522_ e1538_))
          exact h1525_
        have h1544_ := (((h33_ (S 1148 0)) (la_codeWays_57 (la_codeWays_55 h56_ h1471_) h1475_)) (la_codeWays_45 h43_ h44_ h54_))
        have h1545_ := (((h33_ (S 1148 0 + 1)) (la_codeWays_58 (la_codeWays_55 h56_ h1471_) h1475_)) (la_codeWays_47 h43_ h44_ h54_))
        have h1546_ := (((h33_ x205) (la_codeWays_34 h43_ h980_)) (la_codeWays_56 (la_codeWays_55 h56_ h1471_) h1475_))
        have h1547_ := ((h955_ (S 1148 0)) h37_)
        have h1548_ := (h976_ x205)
        have h1549_ := ((h1245_ x205) (la_codeWays_20 h1191_ (la_codeWays_5 h1190_ h1216_)))
        obtain ⟨h1550_, h1551_⟩ := (((h1261_ kv33) h1517_) h1518_)
        have h1552_ := ((h1480_ x205) h1549_)
        obtain ⟨h1553_, ⟨h1554_, ⟨h1555_, ⟨h1556_, h1557_⟩⟩⟩⟩ := (h1268_ h1549_)
        have h1558_ := (h955_ x205)
        have h1559_ := ((h976_ (S 1148 0)) h1547_)
        have e1560_ : S 1100007 x205 = S 1100007 (S 1148 0 + 1) := congrArg ((S 1100007)) (la_codeWays_59 h43_ h54_ h980_ (la_codeWays_55 h56_ h1471_) h1475_)
        have e1561_ : S 1100007 x205 = S 1100007 (S 1148 0) := congrArg ((S 1100007)) (la_codeWays_60 h43_ h54_ h980_ (la_codeWays_55 h56_ h1471_) h1475_)
        have e1562_ : S 26 (g246 1100031 0) = S 26 (g191 1100031 0) := congrArg ((S 26)) (la_codeWays_21 h968_ h1258_)
        have e1563_ : g191 71 x205 = g191 71 (S 1148 0) := congrArg ((g191 71)) (la_codeWays_60 h43_ h54_ h980_ (la_codeWays_55 h56_ h1471_) h1475_)
        have e1564_ : g246 74 x205 = g246 74 639 := congrArg ((g246 74)) (la_codeWays_62 h20_ h44_ h980_ (la_codeWays_55 h56_ h1471_) h1475_)
        have e1565_ : g246 75 x205 = g246 75 639 := congrArg ((g246 75)) (la_codeWays_62 h20_ h44_ h980_ (la_codeWays_55 h56_ h1471_) h1475_)
        have e1566_ : g246 78 x205 = g246 78 639 := congrArg ((g246 78)) (la_codeWays_62 h20_ h44_ h980_ (la_codeWays_55 h56_ h1471_) h1475_)
        have e1567_ : sm_dp (S 1100024) (g246 1100031 0) = sm_dp (S 1100024) (g191 1100031 0) := congrArg ((sm_dp (S 1100024))) (la_codeWays_21 h968_ h1258_)
        have h1568_ := (h1548_ (la_codeWays_53 h1547_ e1563_))
        exact h1551_
      intro h1569_
      intro g304
      rintro ⟨h1570_, ⟨h1571_, h1572_⟩⟩
      have h1573_ := (h1570_ la_codeWays_40)
      have h1574_ := (h1571_ la_codeWays_24)
      have h1575_ := (h1573_ la_codeWays_42)
      refine ⟨⟨h10_, ⟨h11_, ⟨h12_, ⟨h13_, ⟨h14_, ⟨h15_, ⟨h16_, ⟨h17_, ⟨h18_, ⟨h19_, ⟨h20_, ⟨h21_, ⟨h22_, ⟨h23_, ⟨h24_, ⟨h25_, ⟨h26_, ⟨h1244_, ⟨h1241_, ⟨h1242_, ⟨h1243_, ⟨h31_, ⟨h32_, ⟨h33_, ⟨h1246_, ⟨h1248_, ⟨h1249_, ⟨h1250_, ⟨h1251_, ⟨h1252_, ⟨h1253_, ⟨h1254_, ⟨h1255_, ⟨h1256_, (la_codeWays_35 h35_ h51_ h52_ h53_ h54_ h55_ h62_ h1257_ h1258_)⟩⟩⟩⟩⟩⟩⟩⟩⟩⟩⟩⟩⟩⟩⟩⟩⟩⟩⟩⟩⟩⟩⟩⟩⟩⟩⟩⟩⟩⟩⟩⟩⟩⟩, ?_⟩
      intro g311
      rintro ⟨h1576_, ⟨h1577_, ⟨h1578_, ⟨h1579_, ⟨h1580_, ⟨h1581_, h1582_⟩⟩⟩⟩⟩⟩
      refine ⟨h1576_, ?_⟩
      refine ⟨h1577_, ?_⟩
      refine ⟨h1578_, ?_⟩
      refine ⟨h1579_, ?_⟩
      refine ⟨?_, ?_⟩
      · skip
        intro kv34
        intro h1583_
        have h1584_ := (h33_ (S 1148 0))
        have h1585_ := (h33_ (S 1148 0 + 1))
        have h1586_ := (((h33_ x205) (la_codeWays_34 h43_ h980_)) (la_codeWays_33 h44_ h980_))
        have h1587_ := ((h955_ (S 1148 0)) h37_)
        have h1588_ := (h976_ kv34)
        have h1589_ := (h976_ x205)
        have h1590_ := ((h1245_ kv34) h1583_)
        have h1591_ := ((h1245_ x205) (la_codeWays_20 h1191_ (la_codeWays_5 h1190_ h1216_)))
        have h1592_ := ((h1580_ kv34) h1590_)
        have h1593_ := ((h1580_ x205) h1591_)
        obtain ⟨h1594_, ⟨h1595_, ⟨h1596_, ⟨h1597_, h1598_⟩⟩⟩⟩ := (h1268_ h1591_)
        have h1599_ := (h955_ kv34)
        have h1600_ := (h955_ x205)
        have h1601_ := ((h976_ (S 1148 0)) h1587_)
        have e1602_ : S 26 (g246 1100031 0) = S 26 (g191 1100031 0) := congrArg ((S 26)) (la_codeWays_21 h968_ h1258_)
        have e1603_ : sm_dp (S 1100024) (g246 1100031 0) = sm_dp (S 1100024) (g191 1100031 0) := congrArg ((sm_dp (S 1100024))) (la_codeWays_21 h968_ h1258_)
        exact h1592_
      refine ⟨h1581_, ?_⟩
      refine ⟨(la_codeWays_54 h1247_ h1262_ h1263_ h1264_ h1302_ h1574_ h1582_), ?_⟩
      refine ⟨h1259_, ?_⟩
      refine ⟨h1260_, ?_⟩
      intro kv35
      intro h1604_
      intro h1605_
      refine ⟨?_, ?_⟩
      · skip
        have h1606_ := (h33_ (S 1148 0))
        have h1607_ := (h33_ (S 1148 0 + 1))
        have h1608_ := (((h33_ x205) (la_codeWays_34 h43_ h980_)) (la_codeWays_33 h44_ h980_))
        have h1609_ := ((h955_ (S 1148 0)) h37_)
        have h1610_ := (h976_ x205)
        have h1611_ := ((h1245_ x205) (la_codeWays_20 h1191_ (la_codeWays_5 h1190_ h1216_)))
        obtain ⟨h1612_, h1613_⟩ := (((h1261_ kv35) h1604_) h1605_)
        have h1614_ := ((h1580_ x205) h1611_)
        obtain ⟨h1615_, ⟨h1616_, ⟨h1617_, ⟨h1618_, h1619_⟩⟩⟩⟩ := (h1268_ h1611_)
        have h1620_ := (h955_ x205)
        have h1621_ := ((h976_ (S 1148 0)) h1609_)
        have e1622_ : S 26 (g246 1100031 0) = S 26 (g191 1100031 0) := congrArg ((S 26)) (la_codeWays_21 h968_ h1258_)
        have e1623_ : sm_dp (S 1100024) (g246 1100031 0) = sm_dp (S 1100024) (g191 1100031 0) := congrArg ((sm_dp (S 1100024))) (la_codeWays_21 h968_ h1258_)
        exact h1612_
      have h1624_ := (h33_ (S 1148 0))
      have h1625_ := (h33_ (S 1148 0 + 1))
      have h1626_ := (((h33_ x205) (la_codeWays_34 h43_ h980_)) (la_codeWays_33 h44_ h980_))
      have h1627_ := ((h955_ (S 1148 0)) h37_)
      have h1628_ := (h976_ x205)
      have h1629_ := ((h1245_ x205) (la_codeWays_20 h1191_ (la_codeWays_5 h1190_ h1216_)))
      obtain ⟨h1630_, h1631_⟩ := (((h1261_ kv35) h1604_) h1605_)
      have h1632_ := ((h1580_ x205) h1629_)
      obtain ⟨h1633_, ⟨h1634_, ⟨h1635_, ⟨h1636_, h1637_⟩⟩⟩⟩ := (h1268_ h1629_)
      have h1638_ := (h955_ x205)
      have h1639_ := ((h976_ (S 1148 0)) h1627_)
      have e1640_ : S 26 (g246 1100031 0) = S 26 (g191 1100031 0) := congrArg ((S 26)) (la_codeWays_21 h968_ h1258_)
      have e1641_ : sm_dp (S 1100024) (g246 1100031 0) = sm_dp (S 1100024) (g191 1100031 0) := congrArg ((sm_dp (S 1100024))) (la_codeWays_21 h968_ h1258_)
      exact h1631_
    intro h1642_
    refine ⟨(la_codeWays_63 h15_ h17_ h43_ h44_ h57_ (la_codeWays_55 h56_ h1471_)), ?_⟩
    intro r322
    intro h1643_
    intro h1644_
    refine ⟨la_codeWays_64, ?_⟩
    intro g324
    intro h1645_
    intro r334
    intro h1646_
    intro h1647_
    refine ⟨(la_codeWays_65 h11_ h14_ h18_ h57_ (la_codeWays_55 h56_ h1471_) h1647_), ?_⟩
    intro g336
    intro h1648_
    refine ⟨?_, ?_⟩
    · skip
      intro h1649_
      have h1650_ := (h965_ (la_codeWays_66 (la_codeWays_55 h56_ h1471_) h1649_))
      have h1651_ := (h1255_ (la_codeWays_66 (la_codeWays_55 h56_ h1471_) h1649_))
      refine ⟨⟨h10_, ⟨h11_, ⟨h12_, ⟨h13_, ⟨h14_, ⟨h15_, ⟨h16_, ⟨h17_, ⟨h18_, ⟨h19_, ⟨h20_, ⟨h21_, ⟨h22_, ⟨h23_, ⟨h24_, ⟨h25_, ⟨h26_, ⟨h1244_, ⟨h1241_, ⟨h1242_, ⟨h1243_, ⟨h31_, ⟨h32_, ⟨h33_, ⟨h1246_, ⟨h1248_, ⟨h1249_, ⟨h1250_, ⟨h1251_, ⟨h1252_, ⟨h1253_, ⟨h1254_, ⟨h1255_, ⟨h1256_, (la_codeWays_35 h35_ h51_ h52_ h53_ h54_ h55_ h62_ h1257_ h1258_)⟩⟩⟩⟩⟩⟩⟩⟩⟩⟩⟩⟩⟩⟩⟩⟩⟩⟩⟩⟩⟩⟩⟩⟩⟩⟩⟩⟩⟩⟩⟩⟩⟩⟩, ?_⟩
      intro g343
      rintro ⟨h1652_, ⟨h1653_, ⟨h1654_, ⟨h1655_, ⟨h1656_, ⟨h1657_, h1658_⟩⟩⟩⟩⟩⟩
      refine ⟨h1652_, ?_⟩
      refine ⟨h1653_, ?_⟩
      refine ⟨h1654_, ?_⟩
      refine ⟨h1655_, ?_⟩
      refine ⟨?_, ?_⟩
      · skip
        intro kv36
        intro h1659_
        have h1660_ := (((h33_ (S 1148 0)) (la_codeWays_57 (la_codeWays_55 h56_ h1471_) h1649_)) (la_codeWays_45 h43_ h44_ h54_))
        have h1661_ := (((h33_ (S 1148 0 + 1)) (la_codeWays_58 (la_codeWays_55 h56_ h1471_) h1649_)) (la_codeWays_47 h43_ h44_ h54_))
        have h1662_ := (((h33_ x205) (la_codeWays_34 h43_ h980_)) (la_codeWays_56 (la_codeWays_55 h56_ h1471_) h1649_))
        have h1663_ := ((h955_ (S 1148 0)) h37_)
        have h1664_ := (h976_ kv36)
        have h1665_ := (h976_ x205)
        have h1666_ := ((h1245_ kv36) h1659_)
        have h1667_ := ((h1245_ x205) (la_codeWays_20 h1191_ (la_codeWays_5 h1190_ h1216_)))
        have h1668_ := ((h1656_ kv36) h1666_)
        have h1669_ := ((h1656_ x205) h1667_)
        obtain ⟨h1670_, ⟨h1671_, ⟨h1672_, ⟨h1673_, h1674_⟩⟩⟩⟩ := (h1268_ h1667_)
        have h1675_ := (h955_ kv36)
        have h1676_ := (h955_ x205)
        have h1677_ := ((h976_ (S 1148 0)) h1663_)
        have e1678_ : S 1100007 x205 = S 1100007 (S 1148 0 + 1) := congrArg ((S 1100007)) (la_codeWays_59 h43_ h54_ h980_ (la_codeWays_55 h56_ h1471_) h1649_)
        have e1679_ : S 1100007 x205 = S 1100007 (S 1148 0) := congrArg ((S 1100007)) (la_codeWays_60 h43_ h54_ h980_ (la_codeWays_55 h56_ h1471_) h1649_)
        have e1680_ : S 26 (g246 1100031 0) = S 26 (g191 1100031 0) := congrArg ((S 26)) (la_codeWays_21 h968_ h1258_)
        have e1681_ : g191 71 kv36 = g191 71 (S 1148 0) := congrArg ((g191 71)) (la_codeWays_61 (la_codeWays_55 h56_ h1471_) h1649_)
        have e1682_ : g191 71 x205 = g191 71 (S 1148 0) := congrArg ((g191 71)) (la_codeWays_60 h43_ h54_ h980_ (la_codeWays_55 h56_ h1471_) h1649_)
        have e1683_ : g191 71 x205 = g191 71 kv36 := congrArg ((g191 71)) (la_codeWays_61 (la_codeWays_55 h56_ h1471_) h1649_)
        have e1684_ : g199 71 x205 = g199 71 kv36 := congrArg ((g199 71)) (la_codeWays_61 (la_codeWays_55 h56_ h1471_) h1649_)
        have e1685_ : g246 71 x205 = g246 71 kv36 := congrArg ((g246 71)) (la_codeWays_61 (la_codeWays_55 h56_ h1471_) h1649_)
        have e1686_ : g246 74 x205 = g246 74 639 := congrArg ((g246 74)) (la_codeWays_62 h20_ h44_ h980_ (la_codeWays_55 h56_ h1471_) h1649_)
        have e1687_ : g246 75 x205 = g246 75 639 := congrArg ((g246 75)) (la_codeWays_62 h20_ h44_ h980_ (la_codeWays_55 h56_ h1471_) h1649_)
        have e1688_ : g246 78 x205 = g246 78 639 := congrArg ((g246 78)) (la_codeWays_62 h20_ h44_ h980_ (la_codeWays_55 h56_ h1471_) h1649_)
        have e1689_ : g343 71 x205 = g343 71 kv36 := congrArg ((g343 71)) (la_codeWays_61 (la_codeWays_55 h56_ h1471_) h1649_)
        have e1690_ : sm_dp (S 1100024) (g246 1100031 0) = sm_dp (S 1100024) (g191 1100031 0) := congrArg ((sm_dp (S 1100024))) (la_codeWays_21 h968_ h1258_)
        have h1691_ := (h1664_ (la_codeWays_53 h1663_ e1681_))
        have h1692_ := (h1665_ (la_codeWays_53 h1663_ e1682_))
        exact h1668_
      refine ⟨h1657_, ?_⟩
      refine ⟨(la_codeWays_67 h1247_ h1262_ h1263_ h1264_ h1302_ h1645_ h1648_ h1658_), ?_⟩
      refine ⟨h1259_, ?_⟩
      refine ⟨h1260_, ?_⟩
      intro kv37
      intro h1693_
      intro h1694_
      refine ⟨?_, ?_⟩
      · skip
        have h1695_ := (((h33_ (S 1148 0)) (la_codeWays_57 (la_codeWays_55 h56_ h1471_) h1649_)) (la_codeWays_45 h43_ h44_ h54_))
        have h1696_ := (((h33_ (S 1148 0 + 1)) (la_codeWays_58 (la_codeWays_55 h56_ h1471_) h1649_)) (la_codeWays_47 h43_ h44_ h54_))
        have h1697_ := (((h33_ x205) (la_codeWays_34 h43_ h980_)) (la_codeWays_56 (la_codeWays_55 h56_ h1471_) h1649_))
        have h1698_ := ((h955_ (S 1148 0)) h37_)
        have h1699_ := (h976_ x205)
        have h1700_ := ((h1245_ x205) (la_codeWays_20 h1191_ (la_codeWays_5 h1190_ h1216_)))
        obtain ⟨h1701_, h1702_⟩ := (((h1261_ kv37) h1693_) h1694_)
        have h1703_ := ((h1656_ x205) h1700_)
        obtain ⟨h1704_, ⟨h1705_, ⟨h1706_, ⟨h1707_, h1708_⟩⟩⟩⟩ := (h1268_ h1700_)
        have h1709_ := (h955_ x205)
        have h1710_ := ((h976_ (S 1148 0)) h1698_)
        have e1711_ : S 1100007 x205 = S 1100007 (S 1148 0 + 1) := congrArg ((S 1100007)) (la_codeWays_59 h43_ h54_ h980_ (la_codeWays_55 h56_ h1471_) h1649_)
        have e1712_ : S 1100007 x205 = S 1100007 (S 1148 0) := congrArg ((S 1100007)) (la_codeWays_60 h43_ h54_ h980_ (la_codeWays_55 h56_ h1471_) h1649_)
        have e1713_ : S 26 (g246 1100031 0) = S 26 (g191 1100031 0) := congrArg ((S 26)) (la_codeWays_21 h968_ h1258_)
        have e1714_ : g191 71 x205 = g191 71 (S 1148 0) := congrArg ((g191 71)) (la_codeWays_60 h43_ h54_ h980_ (la_codeWays_55 h56_ h1471_) h1649_)
        have e1715_ : g246 74 x205 = g246 74 639 := congrArg ((g246 74)) (la_codeWays_62 h20_ h44_ h980_ (la_codeWays_55 h56_ h1471_) h1649_)
        have e1716_ : g246 75 x205 = g246 75 639 := congrArg ((g246 75)) (la_codeWays_62 h20_ h44_ h980_ (la_codeWays_55 h56_ h1471_) h1649_)
        have e1717_ : g246 78 x205 = g246 78 639 := congrArg ((g246 78)) (la_codeWays_62 h20_ h44_ h980_ (la_codeWays_55 h56_ h1471_) h1649_)
        have e1718_ : sm_dp (S 1100024) (g246 1100031 0) = sm_dp (S 1100024) (g191 1100031 0) := congrArg ((sm_dp (S 1100024))) (la_codeWays_21 h968_ h1258_)
        have h1719_ := (h1699_ (la_codeWays_53 h1698_ e1714_))
        exact h1701_
      have h1720_ := (((h33_ (S 1148 0)) (la_codeWays_57 (la_codeWays_55 h56_ h1471_) h1649_)) (la_codeWays_45 h43_ h44_ h54_))
      have h1721_ := (((h33_ (S 1148 0 + 1)) (la_codeWays_58 (la_codeWays_55 h56_ h1471_) h1649_)) (la_codeWays_47 h43_ h44_ h54_))
      have h1722_ := (((h33_ x205) (la_codeWays_34 h43_ h980_)) (la_codeWays_56 (la_codeWays_55 h56_ h1471_) h1649_))
      have h1723_ := ((h955_ (S 1148 0)) h37_)
      have h1724_ := (h976_ x205)
      have h1725_ := ((h1245_ x205) (la_codeWays_20 h1191_ (la_codeWays_5 h1190_ h1216_)))
      obtain ⟨h1726_, h1727_⟩ := (((h1261_ kv37) h1693_) h1694_)
      have h1728_ := ((h1656_ x205) h1725_)
      obtain ⟨h1729_, ⟨h1730_, ⟨h1731_, ⟨h1732_, h1733_⟩⟩⟩⟩ := (h1268_ h1725_)
      have h1734_ := (h955_ x205)
      have h1735_ := ((h976_ (S 1148 0)) h1723_)
      have e1736_ : S 1100007 x205 = S 1100007 (S 1148 0 + 1) := congrArg ((S 1100007)) (la_codeWays_59 h43_ h54_ h980_ (la_codeWays_55 h56_ h1471_) h1649_)
      have e1737_ : S 1100007 x205 = S 1100007 (S 1148 0) := congrArg ((S 1100007)) (la_codeWays_60 h43_ h54_ h980_ (la_codeWays_55 h56_ h1471_) h1649_)
      have e1738_ : S 26 (g246 1100031 0) = S 26 (g191 1100031 0) := congrArg ((S 26)) (la_codeWays_21 h968_ h1258_)
      have e1739_ : g191 71 x205 = g191 71 (S 1148 0) := congrArg ((g191 71)) (la_codeWays_60 h43_ h54_ h980_ (la_codeWays_55 h56_ h1471_) h1649_)
      have e1740_ : g246 74 x205 = g246 74 639 := congrArg ((g246 74)) (la_codeWays_62 h20_ h44_ h980_ (la_codeWays_55 h56_ h1471_) h1649_)
      have e1741_ : g246 75 x205 = g246 75 639 := congrArg ((g246 75)) (la_codeWays_62 h20_ h44_ h980_ (la_codeWays_55 h56_ h1471_) h1649_)
      have e1742_ : g246 78 x205 = g246 78 639 := congrArg ((g246 78)) (la_codeWays_62 h20_ h44_ h980_ (la_codeWays_55 h56_ h1471_) h1649_)
      have e1743_ : sm_dp (S 1100024) (g246 1100031 0) = sm_dp (S 1100024) (g191 1100031 0) := congrArg ((sm_dp (S 1100024))) (la_codeWays_21 h968_ h1258_)
      have h1744_ := (h1724_ (la_codeWays_53 h1723_ e1739_))
      exact h1727_
    intro h1745_
    intro g349
    rintro ⟨h1746_, ⟨h1747_, h1748_⟩⟩
    have h1749_ := (h1746_ la_codeWays_40)
    have h1750_ := (h1747_ la_codeWays_24)
    have h1751_ := (h1749_ la_codeWays_42)
    refine ⟨⟨h10_, ⟨h11_, ⟨h12_, ⟨h13_, ⟨h14_, ⟨h15_, ⟨h16_, ⟨h17_, ⟨h18_, ⟨h19_, ⟨h20_, ⟨h21_, ⟨h22_, ⟨h23_, ⟨h24_, ⟨h25_, ⟨h26_, ⟨h1244_, ⟨h1241_, ⟨h1242_, ⟨h1243_, ⟨h31_, ⟨h32_, ⟨h33_, ⟨h1246_, ⟨h1248_, ⟨h1249_, ⟨h1250_, ⟨h1251_, ⟨h1252_, ⟨h1253_, ⟨h1254_, ⟨h1255_, ⟨h1256_, (la_codeWays_35 h35_ h51_ h52_ h53_ h54_ h55_ h62_ h1257_ h1258_)⟩⟩⟩⟩⟩⟩⟩⟩⟩⟩⟩⟩⟩⟩⟩⟩⟩⟩⟩⟩⟩⟩⟩⟩⟩⟩⟩⟩⟩⟩⟩⟩⟩⟩, ?_⟩
    intro g356
    rintro ⟨h1752_, ⟨h1753_, ⟨h1754_, ⟨h1755_, ⟨h1756_, ⟨h1757_, h1758_⟩⟩⟩⟩⟩⟩
    refine ⟨h1752_, ?_⟩
    refine ⟨h1753_, ?_⟩
    refine ⟨h1754_, ?_⟩
    refine ⟨h1755_, ?_⟩
    refine ⟨?_, ?_⟩
    · skip
      intro kv38
      intro h1759_
      have h1760_ := (h33_ (S 1148 0))
      have h1761_ := (h33_ (S 1148 0 + 1))
      have h1762_ := (((h33_ x205) (la_codeWays_34 h43_ h980_)) (la_codeWays_33 h44_ h980_))
      have h1763_ := ((h955_ (S 1148 0)) h37_)
      have h1764_ := (h976_ kv38)
      have h1765_ := (h976_ x205)
      have h1766_ := ((h1245_ kv38) h1759_)
      have h1767_ := ((h1245_ x205) (la_codeWays_20 h1191_ (la_codeWays_5 h1190_ h1216_)))
      have h1768_ := ((h1756_ kv38) h1766_)
      have h1769_ := ((h1756_ x205) h1767_)
      obtain ⟨h1770_, ⟨h1771_, ⟨h1772_, ⟨h1773_, h1774_⟩⟩⟩⟩ := (h1268_ h1767_)
      have h1775_ := (h955_ kv38)
      have h1776_ := (h955_ x205)
      have h1777_ := ((h976_ (S 1148 0)) h1763_)
      have e1778_ : S 26 (g246 1100031 0) = S 26 (g191 1100031 0) := congrArg ((S 26)) (la_codeWays_21 h968_ h1258_)
      have e1779_ : sm_dp (S 1100024) (g246 1100031 0) = sm_dp (S 1100024) (g191 1100031 0) := congrArg ((sm_dp (S 1100024))) (la_codeWays_21 h968_ h1258_)
      exact h1768_
    refine ⟨h1757_, ?_⟩
    refine ⟨(la_codeWays_68 h1247_ h1262_ h1263_ h1264_ h1302_ h1645_ h1648_ h1750_ h1758_), ?_⟩
    refine ⟨h1259_, ?_⟩
    refine ⟨h1260_, ?_⟩
    intro kv39
    intro h1780_
    intro h1781_
    refine ⟨?_, ?_⟩
    · skip
      have h1782_ := (h33_ (S 1148 0))
      have h1783_ := (h33_ (S 1148 0 + 1))
      have h1784_ := (((h33_ x205) (la_codeWays_34 h43_ h980_)) (la_codeWays_33 h44_ h980_))
      have h1785_ := ((h955_ (S 1148 0)) h37_)
      have h1786_ := (h976_ x205)
      have h1787_ := ((h1245_ x205) (la_codeWays_20 h1191_ (la_codeWays_5 h1190_ h1216_)))
      obtain ⟨h1788_, h1789_⟩ := (((h1261_ kv39) h1780_) h1781_)
      have h1790_ := ((h1756_ x205) h1787_)
      obtain ⟨h1791_, ⟨h1792_, ⟨h1793_, ⟨h1794_, h1795_⟩⟩⟩⟩ := (h1268_ h1787_)
      have h1796_ := (h955_ x205)
      have h1797_ := ((h976_ (S 1148 0)) h1785_)
      have e1798_ : S 26 (g246 1100031 0) = S 26 (g191 1100031 0) := congrArg ((S 26)) (la_codeWays_21 h968_ h1258_)
      have e1799_ : sm_dp (S 1100024) (g246 1100031 0) = sm_dp (S 1100024) (g191 1100031 0) := congrArg ((sm_dp (S 1100024))) (la_codeWays_21 h968_ h1258_)
      exact h1788_
    have h1800_ := (h33_ (S 1148 0))
    have h1801_ := (h33_ (S 1148 0 + 1))
    have h1802_ := (((h33_ x205) (la_codeWays_34 h43_ h980_)) (la_codeWays_33 h44_ h980_))
    have h1803_ := ((h955_ (S 1148 0)) h37_)
    have h1804_ := (h976_ x205)
    have h1805_ := ((h1245_ x205) (la_codeWays_20 h1191_ (la_codeWays_5 h1190_ h1216_)))
    obtain ⟨h1806_, h1807_⟩ := (((h1261_ kv39) h1780_) h1781_)
    have h1808_ := ((h1756_ x205) h1805_)
    obtain ⟨h1809_, ⟨h1810_, ⟨h1811_, ⟨h1812_, h1813_⟩⟩⟩⟩ := (h1268_ h1805_)
    have h1814_ := (h955_ x205)
    have h1815_ := ((h976_ (S 1148 0)) h1803_)
    have e1816_ : S 26 (g246 1100031 0) = S 26 (g191 1100031 0) := congrArg ((S 26)) (la_codeWays_21 h968_ h1258_)
    have e1817_ : sm_dp (S 1100024) (g246 1100031 0) = sm_dp (S 1100024) (g191 1100031 0) := congrArg ((sm_dp (S 1100024))) (la_codeWays_21 h968_ h1258_)
    exact h1807_
  intro h1818_
  have h1819_ := (h71_.resolve_right (la_codeWays_69 h1818_))
  refine ⟨h28_, ?_⟩
  refine ⟨h29_, ?_⟩
  refine ⟨h30_, ?_⟩
  refine ⟨h27_, ?_⟩
  refine ⟨?_, ?_⟩
  · skip
    intro kv40
    intro h1820_
    exact h1820_
  refine ⟨h34_, ?_⟩
  refine ⟨la_codeWays_29, ?_⟩
  refine ⟨h40_, ?_⟩
  refine ⟨h41_, ?_⟩
  intro kv41
  intro h1821_
  intro h1822_
  refine ⟨?_, ?_⟩
  · skip
    have h1823_ := (h33_ (S 1148 0))
    have h1824_ := (h33_ (S 1148 0 + 1))
    obtain ⟨h1825_, h1826_⟩ := (((h42_ kv41) h1821_) h1822_)
    exact h1825_
  have h1827_ := (h33_ (S 1148 0))
  have h1828_ := (h33_ (S 1148 0 + 1))
  obtain ⟨h1829_, h1830_⟩ := (((h42_ kv41) h1821_) h1822_)
  exact h1830_
set_option maxRecDepth 8000 in
set_option maxHeartbeats 2000000 in
theorem t_codeWays : ∀ (p1 : Int) (p2 : Int) (p4 : Int) (p6 : Int) (p7 : Int) (p8 : Int) (p9 : Int) (p10 : Int) (S : sv_S), sm_ok S → sv_R p1 → sv_RL p2 → sv_RL p4 → sv_R p6 → sv_R p7 → sv_R p8 → sv_R p9 → sv_R p10 → (29 ≤ (S 1071 0) ∧ (S 1071 0) ≤ 127 ∧ 31 ≤ (S 1008 0) ∧ (S 1008 0) ≤ 90 ∧ 1 ≤ (S 1032 0) ∧ (S 1032 0) ≤ 11 ∧ 0 ≤ (S 1055 0) ∧ (S 1055 0) ≤ 19 ∧ (S 1071 0) = 29 + 6 * ((S 1032 0) - 1) + 2 * (S 1055 0) ∧ 0 ≤ (S 1046 0) ∧ (S 1046 0) + 2 * (S 1032 0) ≤ 500 ∧ sm_PD (S 1046 0) (S 1032 0) (S 1071 0) (S 1008 0) ∧ 0 ≤ (S 1071 0) * ((S 1008 0) + 1) ∧ (S 1071 0) * ((S 1008 0) + 1) ≤ 11557 ∧ 31 ≤ (S 1007 0) ∧ (S 1007 0) ≤ 400 ∧ sm_LN (S 4) 400 (S 1007 0) ∧ (S 75 639) = 647340 ∧ sm_ST (S 71) (S 74) (S 75) (S 78) (S 79) (S 80) (S 27) (S 1100007) (S 1100023) (S 1100024) (S 1046 0) ((S 1046 0) + 2 * (S 1032 0)) (S 1127 0) ∧ 465000 ≤ (S 1127 0) ∧ (S 1127 0) + sm_hs (S 71) (S 1100007) ≤ 635000 ∧ sm_NH (S 1100007) ∧ sm_CT (S 26) (S 27) (S 28) (S 29) (S 1100007) (S 1100023) (S 1100024) (S 1100025) (S 21) (S 1046 0) (S 1032 0) (S 1008 0) (S 1055 0) ∧ (∀ k : Int, (S 1046 0) ≤ k → k < ((S 1046 0) + 2 * (S 1032 0)) → (S 1100007 k) = 1) ∧ sm_DR (S 72) (S 71) (S 1046 0) ∧ 0 ≤ (S 1148 0) ∧ (S 1148 0) < (S 1046 0) ∧ (S 71 (S 1148 0)) = 1 ∧ (∀ g : Int, 0 ≤ g → g < (S 1032 0) → 0 ≤ (S 30 g) ∧ (S 30 g) < (S 1046 0) ∧ (S 1100007 (S 30 g)) = 0 ∧ (S 1100023 (S 30 g)) = -1 ∧ 0 ≤ (S 33 g) ∧ (S 33 g) ≤ 100 ∧ 0 ≤ (S 20 g) ∧ (S 20 g) ≤ 8) ∧ sm_VN (S 32) (S 33) (S 1032 0) (S 1008 0) ∧ 0 ≤ (S 1147 0) ∧ (S 1147 0) ≤ 12 ∧ (∀ k : Int, 0 ≤ k → k < (S 1147 0) → 635639 ≤ (S 91 k) ∧ (S 91 k) < 647800) ∧ 1 ≤ p1 ∧ p1 < (S 1032 0) ∧ -1 ≤ p6 ∧ p6 ≤ 450 ∧ 0 ≤ p7 ∧ p7 ≤ 450 ∧ 0 ≤ p8 ∧ p8 ≤ 8 ∧ 1 ≤ p9 ∧ p9 ≤ (S 1100007 (S 1148 0)) ∧ (S 1100007 ((S 1148 0) + 1)) = (S 1100007 (S 1148 0)) - p9 + 1 ∧ (S 1148 0) + 1 < (S 1046 0) ∧ (S 1100023 ((S 1148 0) + 1)) = (S 1100023 (S 1148 0)) ∧ -1 ≤ p10 ∧ p10 < (S 1055 0)) → sv_T sm_XS sm_cs sm_L sm_sh 6 (q_codeWays p1 p2 p4 p6 p7 p8 p9 p10 S) 284 0 (lv_args 0 [.ref 0, sv_I p1, sv_L p2, sv_L p4, sv_I p6, sv_I p7, sv_I p8, sv_I p9, sv_I p10]) [] S := by
  intro p1 p2 p4 p6 p7 p8 p9 p10 S hok hp1 hp2 hp4 hp6 hp7 hp8 hp9 hp10 hpre
  have h := f_codeWays p1 p2 p4 p6 p7 p8 p9 p10 S hok hp1 hp2 hp4 hp6 hp7 hp8 hp9 hp10 hpre
  have hM := sm_h284
  show sv_T sm_XS sm_cs sm_L sm_sh 6 (q_codeWays p1 p2 p4 p6 p7 p8 p9 p10 S) 284 0 [(0, .ref 0), (1, sv_I p1), (2, sv_L p2), (4, sv_L p4), (6, sv_I p6), (7, sv_I p7), (8, sv_I p8), (9, sv_I p9), (10, sv_I p10)] [] S
  have k1 : (sm_CT (S 26) (S 27) (S 28) (S 29) (S 1100007) (S 1100023) (S 1100024) (S 1100025) (S 21) (S 1046 0) (S 1032 0) (S 1008 0) (S 1055 0) → 0 ≤ (S 1148 0) → (S 1148 0) < (S 1046 0) → 0 ≤ (S 1100007 (S 1148 0)) ∧ (S 1100007 (S 1148 0)) ≤ 396 ∧ -1 ≤ (S 1100023 (S 1148 0)) ∧ (S 1100023 (S 1148 0)) < (S 1148 0)) := fun h h0 h1 => by have q := sm_ct_0 h _ h0 h1; exact ⟨q.2.2.2.2.1, q.2.2.2.2.2.1, q.2.2.2.2.2.2.2.1, q.2.2.2.2.2.2.2.2.1⟩
  have h := h k1
  refine sv_bipush (d := (29 : Int)) hM dX12_codeWays_0 rfl rfl ?_
  refine sv_bipush (d := (6 : Int)) hM dX12_codeWays_2 rfl rfl ?_
  refine sv_iload_n hM dX12_codeWays_4 rfl rfl ?_
  refine sv_iconst (d := (1 : Int)) hM dX12_codeWays_5 rfl rfl ?_
  refine sv_isub hM dX12_codeWays_6 rfl ?_
  refine sv_imul hM dX12_codeWays_7 rfl ?_
  refine sv_iadd hM dX12_codeWays_8 rfl ?_
  refine sv_iconst (d := (2 : Int)) hM dX12_codeWays_9 rfl rfl ?_
  refine sv_iadd hM dX12_codeWays_10 rfl ?_
  obtain ⟨x2, e3⟩ : ∃ x : Int, (((29 : Int) + ((6 : Int) * (p1 - (1 : Int)))) + (2 : Int)) = x := ⟨_, rfl⟩
  have h := h x2 e3
  refine sv_nameI e3 ?_
  refine sv_istore hM dX12_codeWays_11 (by decide) rfl ?_
  show sv_T sm_XS sm_cs sm_L sm_sh 6 (q_codeWays p1 p2 p4 p6 p7 p8 p9 p10 S) 284 13 [(0, .ref 0), (1, sv_I p1), (2, sv_L p2), (4, sv_L p4), (6, sv_I p6), (7, sv_I p7), (8, sv_I p8), (9, sv_I p9), (10, sv_I p10), (11, sv_I x2)] [] S
  refine sv_lload_n hM dX12_codeWays_13 rfl rfl ?_
  refine sv_lload hM dX12_codeWays_14 rfl rfl ?_
  refine sv_iload hM dX12_codeWays_16 rfl rfl ?_
  obtain ⟨o4, h⟩ := h
  obtain ⟨o5, h⟩ := h
  refine sv_callS hM dX12_codeWays_18 sm_iv_1125 (Nat.le_of_ble_eq_true rfl) rfl rfl (Nat.le_of_ble_eq_true rfl) sm_h217 (Nat.le_of_ble_eq_true rfl) (Nat.le_of_ble_eq_true rfl) (F' := 0) (Nat.le_of_ble_eq_true rfl) rfl (t_isIn p2 p4 x2 S hok hp2 hp4 o4 o5) (fun v S1 hq => ?_)
  obtain ⟨r10, rfl, hr10, ok7, md8, hpo9⟩ := hq
  obtain rfl : S = S1 := (funext fun j => md8 j (by intro q; cases q)).symm
  show sv_T sm_XS sm_cs sm_L sm_sh 6 (q_codeWays p1 p2 p4 p6 p7 p8 p9 p10 S) 284 21 [(0, .ref 0), (1, sv_I p1), (2, sv_L p2), (4, sv_L p4), (6, sv_I p6), (7, sv_I p7), (8, sv_I p8), (9, sv_I p9), (10, sv_I p10), (11, sv_I x2)] [sv_I r10] S
  have h := h r10 hr10 hpo9
  refine sv_istore hM dX12_codeWays_21 (by decide) rfl ?_
  show sv_T sm_XS sm_cs sm_L sm_sh 6 (q_codeWays p1 p2 p4 p6 p7 p8 p9 p10 S) 284 23 [(0, .ref 0), (1, sv_I p1), (2, sv_L p2), (4, sv_L p4), (6, sv_I p6), (7, sv_I p7), (8, sv_I p8), (9, sv_I p9), (10, sv_I p10), (11, sv_I x2), (12, sv_I r10)] [] S
  refine sv_lload_n hM dX12_codeWays_23 rfl rfl ?_
  refine sv_lload hM dX12_codeWays_24 rfl rfl ?_
  refine sv_iload hM dX12_codeWays_26 rfl rfl ?_
  refine sv_iconst (d := (1 : Int)) hM dX12_codeWays_28 rfl rfl ?_
  refine sv_iadd hM dX12_codeWays_29 rfl ?_
  obtain ⟨o11, h⟩ := h
  obtain ⟨o12, h⟩ := h
  refine sv_callS hM dX12_codeWays_30 sm_iv_1125 (Nat.le_of_ble_eq_true rfl) rfl rfl (Nat.le_of_ble_eq_true rfl) sm_h217 (Nat.le_of_ble_eq_true rfl) (Nat.le_of_ble_eq_true rfl) (F' := 0) (Nat.le_of_ble_eq_true rfl) rfl (t_isIn p2 p4 (x2 + (1 : Int)) S ok7 hp2 hp4 o11 o12) (fun v S1 hq => ?_)
  obtain ⟨r17, rfl, hr17, ok14, md15, hpo16⟩ := hq
  obtain rfl : S = S1 := (funext fun j => md15 j (by intro q; cases q)).symm
  show sv_T sm_XS sm_cs sm_L sm_sh 6 (q_codeWays p1 p2 p4 p6 p7 p8 p9 p10 S) 284 33 [(0, .ref 0), (1, sv_I p1), (2, sv_L p2), (4, sv_L p4), (6, sv_I p6), (7, sv_I p7), (8, sv_I p8), (9, sv_I p9), (10, sv_I p10), (11, sv_I x2), (12, sv_I r10)] [sv_I r17] S
  have h := h r17 hr17 hpo16
  refine sv_istore hM dX12_codeWays_33 (by decide) rfl ?_
  show sv_T sm_XS sm_cs sm_L sm_sh 6 (q_codeWays p1 p2 p4 p6 p7 p8 p9 p10 S) 284 35 [(0, .ref 0), (1, sv_I p1), (2, sv_L p2), (4, sv_L p4), (6, sv_I p6), (7, sv_I p7), (8, sv_I p8), (9, sv_I p9), (10, sv_I p10), (11, sv_I x2), (12, sv_I r10), (13, sv_I r17)] [] S
  refine sv_iload hM dX12_codeWays_35 rfl rfl ?_
  refine sv_cond_ne hM dX12_codeWays_37 hr10 (t := 46) rfl rfl (fun hc => ?_) (fun hc => ?_)
  · have h := h.1 (hc)
    refine sv_aload_n hM dX12_codeWays_46 rfl rfl ?_
    refine sv_lload_n hM dX12_codeWays_47 rfl rfl ?_
    refine sv_lload hM dX12_codeWays_48 rfl rfl ?_
    refine sv_iload hM dX12_codeWays_50 rfl rfl ?_
    obtain ⟨o18, h⟩ := h
    refine sv_callV hM dX12_codeWays_52 sm_iv_1336 (by decide) (sm_a0 _) rfl rfl (Nat.le_of_ble_eq_true rfl) sm_h283 (Nat.le_of_ble_eq_true rfl) (Nat.le_of_ble_eq_true rfl) (F' := 4) (Nat.le_of_ble_eq_true rfl) rfl (t_prepare p2 p4 p10 S ok14 hp2 hp4 hp10 o18) (fun v S1 hq => ?_)
    obtain ⟨rfl, ok20, md21, hpo22⟩ := hq
    obtain ⟨g19, rfl⟩ : ∃ g, S1 = sv_sts S [68, 69, 70, 81, 82, 83, 84, 85, 86, 71, 74, 75, 1127, 78, 79, 80, 72, 76, 77, 1143, 1144, 5, 1011, 1150, 1149, 1145, 1113, 1111, 1112, 91, 1147, 1100031] g := ⟨_, md21.eq⟩
    show sv_T sm_XS sm_cs sm_L sm_sh 6 (q_codeWays p1 p2 p4 p6 p7 p8 p9 p10 S) 284 55 [(0, .ref 0), (1, sv_I p1), (2, sv_L p2), (4, sv_L p4), (6, sv_I p6), (7, sv_I p7), (8, sv_I p8), (9, sv_I p9), (10, sv_I p10), (11, sv_I x2), (12, sv_I r10), (13, sv_I r17)] [] (sv_sts S [68, 69, 70, 81, 82, 83, 84, 85, 86, 71, 74, 75, 1127, 78, 79, 80, 72, 76, 77, 1143, 1144, 5, 1011, 1150, 1149, 1145, 1113, 1111, 1112, 91, 1147, 1100031] g19)
    have md23 : sv_mod [68, 69, 70, 81, 82, 83, 84, 85, 86, 71, 74, 75, 1127, 78, 79, 80, 72, 76, 77, 1143, 1144, 5, 1011, 1150, 1149, 1145, 1113, 1111, 1112, 91, 1147, 1100031] S (sv_sts S [68, 69, 70, 81, 82, 83, 84, 85, 86, 71, 74, 75, 1127, 78, 79, 80, 72, 76, 77, 1143, 1144, 5, 1011, 1150, 1149, 1145, 1113, 1111, 1112, 91, 1147, 1100031] g19) := sv_mod.sts sv_mod.rf (by decide)
    have h := h g19 hpo22
    refine sv_aload_n hM dX12_codeWays_55 rfl rfl ?_
    refine sv_iload_n hM dX12_codeWays_56 rfl rfl ?_
    refine sv_iload hM dX12_codeWays_57 rfl rfl ?_
    refine sv_iload hM dX12_codeWays_59 rfl rfl ?_
    refine sv_iload hM dX12_codeWays_61 rfl rfl ?_
    refine sv_iload hM dX12_codeWays_63 rfl rfl ?_
    refine sv_iload hM dX12_codeWays_65 rfl rfl ?_
    refine sv_iload hM dX12_codeWays_67 rfl rfl ?_
    obtain ⟨o24, h⟩ := h
    obtain ⟨o25, h⟩ := h
    obtain ⟨o26, h⟩ := h
    refine sv_callV hM dX12_codeWays_69 sm_iv_1342 (by decide) (sm_a0 _) rfl rfl (Nat.le_of_ble_eq_true rfl) sm_h286 (Nat.le_of_ble_eq_true rfl) (Nat.le_of_ble_eq_true rfl) (F' := 4) (Nat.le_of_ble_eq_true rfl) rfl (t_enterCode p1 r10 r17 p6 p7 p8 p10 (sv_sts S [68, 69, 70, 81, 82, 83, 84, 85, 86, 71, 74, 75, 1127, 78, 79, 80, 72, 76, 77, 1143, 1144, 5, 1011, 1150, 1149, 1145, 1113, 1111, 1112, 91, 1147, 1100031] g19) ok20 hp1 o24 o25 hp6 hp7 hp8 hp10 o26) (fun v S1 hq => ?_)
    obtain ⟨rfl, ok28, md29, hpo30⟩ := hq
    obtain ⟨g27, rfl⟩ : ∃ g, S1 = sv_sts (sv_sts S [68, 69, 70, 81, 82, 83, 84, 85, 86, 71, 74, 75, 1127, 78, 79, 80, 72, 76, 77, 1143, 1144, 5, 1011, 1150, 1149, 1145, 1113, 1111, 1112, 91, 1147, 1100031] g19) [68, 69, 70, 81, 82, 83, 84, 85, 86, 71, 74, 75, 1127, 78, 79, 80, 72, 76, 77, 1143, 1144, 5, 1011, 1150, 1149, 1145, 1113, 1111, 1112, 1100031] g := ⟨_, md29.eq⟩
    show sv_T sm_XS sm_cs sm_L sm_sh 6 (q_codeWays p1 p2 p4 p6 p7 p8 p9 p10 S) 284 72 [(0, .ref 0), (1, sv_I p1), (2, sv_L p2), (4, sv_L p4), (6, sv_I p6), (7, sv_I p7), (8, sv_I p8), (9, sv_I p9), (10, sv_I p10), (11, sv_I x2), (12, sv_I r10), (13, sv_I r17)] [] (sv_sts (sv_sts S [68, 69, 70, 81, 82, 83, 84, 85, 86, 71, 74, 75, 1127, 78, 79, 80, 72, 76, 77, 1143, 1144, 5, 1011, 1150, 1149, 1145, 1113, 1111, 1112, 91, 1147, 1100031] g19) [68, 69, 70, 81, 82, 83, 84, 85, 86, 71, 74, 75, 1127, 78, 79, 80, 72, 76, 77, 1143, 1144, 5, 1011, 1150, 1149, 1145, 1113, 1111, 1112, 1100031] g27)
    have md31 : sv_mod [68, 69, 70, 81, 82, 83, 84, 85, 86, 71, 74, 75, 1127, 78, 79, 80, 72, 76, 77, 1143, 1144, 5, 1011, 1150, 1149, 1145, 1113, 1111, 1112, 91, 1147, 1100031] S (sv_sts (sv_sts S [68, 69, 70, 81, 82, 83, 84, 85, 86, 71, 74, 75, 1127, 78, 79, 80, 72, 76, 77, 1143, 1144, 5, 1011, 1150, 1149, 1145, 1113, 1111, 1112, 91, 1147, 1100031] g19) [68, 69, 70, 81, 82, 83, 84, 85, 86, 71, 74, 75, 1127, 78, 79, 80, 72, 76, 77, 1143, 1144, 5, 1011, 1150, 1149, 1145, 1113, 1111, 1112, 1100031] g27) := sv_mod.sts md23 (by decide)
    have h := h g27 hpo30
    refine sv_aload_n hM dX12_codeWays_72 rfl rfl ?_
    have k32 : sv_R (S 1046 0) := sm_okI ok28 sm_r1046 0
    have h := h k32
    refine sv_getI hM dX12_codeWays_73 sm_fl_606 (sm_a0 _) sm_k46 rfl (x := (S 1046 0)) rfl ?_
    refine sv_iconst (d := (2 : Int)) hM dX12_codeWays_76 rfl rfl ?_
    refine sv_iload_n hM dX12_codeWays_77 rfl rfl ?_
    refine sv_imul hM dX12_codeWays_78 rfl ?_
    refine sv_iadd hM dX12_codeWays_79 rfl ?_
    obtain ⟨x33, e34⟩ : ∃ x : Int, ((S 1046 0) + ((2 : Int) * p1)) = x := ⟨_, rfl⟩
    have h := h x33 e34
    refine sv_nameI e34 ?_
    refine sv_istore hM dX12_codeWays_80 (by decide) rfl ?_
    show sv_T sm_XS sm_cs sm_L sm_sh 6 (q_codeWays p1 p2 p4 p6 p7 p8 p9 p10 S) 284 82 [(0, .ref 0), (1, sv_I p1), (2, sv_L p2), (4, sv_L p4), (6, sv_I p6), (7, sv_I p7), (8, sv_I p8), (9, sv_I p9), (10, sv_I p10), (11, sv_I x2), (12, sv_I r10), (13, sv_I r17), (14, sv_I x33)] [] (sv_sts (sv_sts S [68, 69, 70, 81, 82, 83, 84, 85, 86, 71, 74, 75, 1127, 78, 79, 80, 72, 76, 77, 1143, 1144, 5, 1011, 1150, 1149, 1145, 1113, 1111, 1112, 91, 1147, 1100031] g19) [68, 69, 70, 81, 82, 83, 84, 85, 86, 71, 74, 75, 1127, 78, 79, 80, 72, 76, 77, 1143, 1144, 5, 1011, 1150, 1149, 1145, 1113, 1111, 1112, 1100031] g27)
    have J70 : ∀ g35 : sv_S, sm_ok (sv_sts (sv_sts (sv_sts S [68, 69, 70, 81, 82, 83, 84, 85, 86, 71, 74, 75, 1127, 78, 79, 80, 72, 76, 77, 1143, 1144, 5, 1011, 1150, 1149, 1145, 1113, 1111, 1112, 91, 1147, 1100031] g19) [68, 69, 70, 81, 82, 83, 84, 85, 86, 71, 74, 75, 1127, 78, 79, 80, 72, 76, 77, 1143, 1144, 5, 1011, 1150, 1149, 1145, 1113, 1111, 1112, 1100031] g27) [68, 69, 70, 81, 82, 83, 84, 85, 86, 71, 74, 75, 1127, 78, 79, 80, 72, 76, 77, 1143, 1144, 5, 1011, 1150, 1149, 1145, 1113, 1111, 1112, 91, 1147, 1100031] g35) → (sm_ST (g35 71) (g35 74) (g35 75) (g35 78) (g35 79) (g35 80) (S 27) (S 1100007) (S 1100023) (S 1100024) (S 1046 0) ((S 1046 0) + 2 * (S 1032 0)) (g35 1127 0) ∧ 465000 ≤ (g35 1127 0) ∧ (g35 1127 0) + sm_hs (g35 71) (S 1100007) ≤ 635000 ∧ (g35 75 639) = 647340 ∧ (∀ k : Int, (g27 71 k) = 1 → (g35 71 k) = 1) ∧ sm_DR (g35 72) (g35 71) (S 1046 0) ∧ (641 * (sm_cm (g35 71) + sm_pt (g35 68) (g35 69) (g35 70) + sm_pl (g35 81) (g35 82) (g35 83) (g35 84) (g35 85) (g35 86) + sm_ps (g35 76) (g35 77)) + sm_du (g35 72)) ≤ (641 * (sm_cm (g27 71) + sm_pt (g27 68) (g27 69) (g27 70) + sm_pl (g27 81) (g27 82) (g27 83) (g27 84) (g27 85) (g27 86) + sm_ps (g27 76) (g27 77)) + sm_du (g27 72)) ∧ 0 ≤ (g35 1147 0) ∧ (g35 1147 0) ≤ 12 ∧ (∀ k : Int, 0 ≤ k → k < (g35 1147 0) → 635639 ≤ (g35 91 k) ∧ (g35 91 k) < 647800)) → sv_T sm_XS sm_cs sm_L sm_sh 6 (q_codeWays p1 p2 p4 p6 p7 p8 p9 p10 S) 284 189 [(0, .ref 0), (1, sv_I p1), (2, sv_L p2), (4, sv_L p4), (6, sv_I p6), (7, sv_I p7), (8, sv_I p8), (9, sv_I p9), (10, sv_I p10), (11, sv_I x2), (12, sv_I r10), (13, sv_I r17), (14, sv_I x33)] [] (sv_sts (sv_sts (sv_sts S [68, 69, 70, 81, 82, 83, 84, 85, 86, 71, 74, 75, 1127, 78, 79, 80, 72, 76, 77, 1143, 1144, 5, 1011, 1150, 1149, 1145, 1113, 1111, 1112, 91, 1147, 1100031] g19) [68, 69, 70, 81, 82, 83, 84, 85, 86, 71, 74, 75, 1127, 78, 79, 80, 72, 76, 77, 1143, 1144, 5, 1011, 1150, 1149, 1145, 1113, 1111, 1112, 1100031] g27) [68, 69, 70, 81, 82, 83, 84, 85, 86, 71, 74, 75, 1127, 78, 79, 80, 72, 76, 77, 1143, 1144, 5, 1011, 1150, 1149, 1145, 1113, 1111, 1112, 91, 1147, 1100031] g35) := by
      intro  g35 ok36 hin37
      have h := h.1 g35 hin37
      have md38 : sv_mod [68, 69, 70, 81, 82, 83, 84, 85, 86, 71, 74, 75, 1127, 78, 79, 80, 72, 76, 77, 1143, 1144, 5, 1011, 1150, 1149, 1145, 1113, 1111, 1112, 91, 1147, 1100031] S (sv_sts (sv_sts (sv_sts S [68, 69, 70, 81, 82, 83, 84, 85, 86, 71, 74, 75, 1127, 78, 79, 80, 72, 76, 77, 1143, 1144, 5, 1011, 1150, 1149, 1145, 1113, 1111, 1112, 91, 1147, 1100031] g19) [68, 69, 70, 81, 82, 83, 84, 85, 86, 71, 74, 75, 1127, 78, 79, 80, 72, 76, 77, 1143, 1144, 5, 1011, 1150, 1149, 1145, 1113, 1111, 1112, 1100031] g27) [68, 69, 70, 81, 82, 83, 84, 85, 86, 71, 74, 75, 1127, 78, 79, 80, 72, 76, 77, 1143, 1144, 5, 1011, 1150, 1149, 1145, 1113, 1111, 1112, 91, 1147, 1100031] g35) := sv_mod.sts md31 (by decide)
      have md39 : sv_mod [68, 69, 70, 81, 82, 83, 84, 85, 86, 71, 74, 75, 1127, 78, 79, 80, 72, 76, 77, 1143, 1144, 5, 1011, 1150, 1149, 1145, 1113, 1111, 1112, 91, 1147, 1100031] (sv_sts (sv_sts S [68, 69, 70, 81, 82, 83, 84, 85, 86, 71, 74, 75, 1127, 78, 79, 80, 72, 76, 77, 1143, 1144, 5, 1011, 1150, 1149, 1145, 1113, 1111, 1112, 91, 1147, 1100031] g19) [68, 69, 70, 81, 82, 83, 84, 85, 86, 71, 74, 75, 1127, 78, 79, 80, 72, 76, 77, 1143, 1144, 5, 1011, 1150, 1149, 1145, 1113, 1111, 1112, 1100031] g27) (sv_sts (sv_sts (sv_sts S [68, 69, 70, 81, 82, 83, 84, 85, 86, 71, 74, 75, 1127, 78, 79, 80, 72, 76, 77, 1143, 1144, 5, 1011, 1150, 1149, 1145, 1113, 1111, 1112, 91, 1147, 1100031] g19) [68, 69, 70, 81, 82, 83, 84, 85, 86, 71, 74, 75, 1127, 78, 79, 80, 72, 76, 77, 1143, 1144, 5, 1011, 1150, 1149, 1145, 1113, 1111, 1112, 1100031] g27) [68, 69, 70, 81, 82, 83, 84, 85, 86, 71, 74, 75, 1127, 78, 79, 80, 72, 76, 77, 1143, 1144, 5, 1011, 1150, 1149, 1145, 1113, 1111, 1112, 91, 1147, 1100031] g35) := sv_mod.sts sv_mod.rf (by decide)
      refine sv_aload_n hM dX12_codeWays_189 rfl rfl ?_
      refine sv_getA hM dX12_codeWays_190 sm_fl_226 (sm_a0 _) sm_k122 rfl ?_
      refine sv_iload hM dX12_codeWays_193 rfl rfl ?_
      refine sv_iconst (d := (1 : Int)) hM dX12_codeWays_195 rfl rfl ?_
      refine sv_iadd hM dX12_codeWays_196 rfl ?_
      obtain ⟨o40, h⟩ := h
      have k41 : (0 ≤ (g35 71 (x33 + (1 : Int))) ∧ (g35 71 (x33 + (1 : Int))) ≤ 1) := sm_okZ ok36 sm_r71 (x33 + (1 : Int))
      have h := h k41
      refine sv_zald hM dX12_codeWays_197 (sm_a71 _) (by decide) o40.1 o40.2 rfl (x := (g35 71 (x33 + (1 : Int)))) rfl ?_
      refine sv_cond_eq hM dX12_codeWays_198 (sv_R01 k41) (t := 244) rfl rfl (fun hc => ?_) (fun hc => ?_)
      · have h := h.1 (hc)
        exact sv_vret hM dX12_codeWays_244 rfl ⟨rfl, ok36, md38, h⟩
      · have h := h.2 (hc)
        refine sv_aload_n hM dX12_codeWays_201 rfl rfl ?_
        refine sv_lload_n hM dX12_codeWays_202 rfl rfl ?_
        refine sv_lload hM dX12_codeWays_203 rfl rfl ?_
        refine sv_iload hM dX12_codeWays_205 rfl rfl ?_
        obtain ⟨o42, h⟩ := h
        refine sv_callV hM dX12_codeWays_207 sm_iv_1336 (by decide) (sm_a0 _) rfl rfl (Nat.le_of_ble_eq_true rfl) sm_h283 (Nat.le_of_ble_eq_true rfl) (Nat.le_of_ble_eq_true rfl) (F' := 4) (Nat.le_of_ble_eq_true rfl) rfl (t_prepare p2 p4 p10 (sv_sts (sv_sts (sv_sts S [68, 69, 70, 81, 82, 83, 84, 85, 86, 71, 74, 75, 1127, 78, 79, 80, 72, 76, 77, 1143, 1144, 5, 1011, 1150, 1149, 1145, 1113, 1111, 1112, 91, 1147, 1100031] g19) [68, 69, 70, 81, 82, 83, 84, 85, 86, 71, 74, 75, 1127, 78, 79, 80, 72, 76, 77, 1143, 1144, 5, 1011, 1150, 1149, 1145, 1113, 1111, 1112, 1100031] g27) [68, 69, 70, 81, 82, 83, 84, 85, 86, 71, 74, 75, 1127, 78, 79, 80, 72, 76, 77, 1143, 1144, 5, 1011, 1150, 1149, 1145, 1113, 1111, 1112, 91, 1147, 1100031] g35) ok36 hp2 hp4 hp10 o42) (fun v S1 hq => ?_)
        obtain ⟨rfl, ok44, md45, hpo46⟩ := hq
        obtain ⟨g43, rfl⟩ : ∃ g, S1 = sv_sts (sv_sts (sv_sts (sv_sts S [68, 69, 70, 81, 82, 83, 84, 85, 86, 71, 74, 75, 1127, 78, 79, 80, 72, 76, 77, 1143, 1144, 5, 1011, 1150, 1149, 1145, 1113, 1111, 1112, 91, 1147, 1100031] g19) [68, 69, 70, 81, 82, 83, 84, 85, 86, 71, 74, 75, 1127, 78, 79, 80, 72, 76, 77, 1143, 1144, 5, 1011, 1150, 1149, 1145, 1113, 1111, 1112, 1100031] g27) [68, 69, 70, 81, 82, 83, 84, 85, 86, 71, 74, 75, 1127, 78, 79, 80, 72, 76, 77, 1143, 1144, 5, 1011, 1150, 1149, 1145, 1113, 1111, 1112, 91, 1147, 1100031] g35) [68, 69, 70, 81, 82, 83, 84, 85, 86, 71, 74, 75, 1127, 78, 79, 80, 72, 76, 77, 1143, 1144, 5, 1011, 1150, 1149, 1145, 1113, 1111, 1112, 91, 1147, 1100031] g := ⟨_, md45.eq⟩
        show sv_T sm_XS sm_cs sm_L sm_sh 6 (q_codeWays p1 p2 p4 p6 p7 p8 p9 p10 S) 284 210 [(0, .ref 0), (1, sv_I p1), (2, sv_L p2), (4, sv_L p4), (6, sv_I p6), (7, sv_I p7), (8, sv_I p8), (9, sv_I p9), (10, sv_I p10), (11, sv_I x2), (12, sv_I r10), (13, sv_I r17), (14, sv_I x33)] [] (sv_sts (sv_sts (sv_sts (sv_sts S [68, 69, 70, 81, 82, 83, 84, 85, 86, 71, 74, 75, 1127, 78, 79, 80, 72, 76, 77, 1143, 1144, 5, 1011, 1150, 1149, 1145, 1113, 1111, 1112, 91, 1147, 1100031] g19) [68, 69, 70, 81, 82, 83, 84, 85, 86, 71, 74, 75, 1127, 78, 79, 80, 72, 76, 77, 1143, 1144, 5, 1011, 1150, 1149, 1145, 1113, 1111, 1112, 1100031] g27) [68, 69, 70, 81, 82, 83, 84, 85, 86, 71, 74, 75, 1127, 78, 79, 80, 72, 76, 77, 1143, 1144, 5, 1011, 1150, 1149, 1145, 1113, 1111, 1112, 91, 1147, 1100031] g35) [68, 69, 70, 81, 82, 83, 84, 85, 86, 71, 74, 75, 1127, 78, 79, 80, 72, 76, 77, 1143, 1144, 5, 1011, 1150, 1149, 1145, 1113, 1111, 1112, 91, 1147, 1100031] g43)
        have md47 : sv_mod [68, 69, 70, 81, 82, 83, 84, 85, 86, 71, 74, 75, 1127, 78, 79, 80, 72, 76, 77, 1143, 1144, 5, 1011, 1150, 1149, 1145, 1113, 1111, 1112, 91, 1147, 1100031] S (sv_sts (sv_sts (sv_sts (sv_sts S [68, 69, 70, 81, 82, 83, 84, 85, 86, 71, 74, 75, 1127, 78, 79, 80, 72, 76, 77, 1143, 1144, 5, 1011, 1150, 1149, 1145, 1113, 1111, 1112, 91, 1147, 1100031] g19) [68, 69, 70, 81, 82, 83, 84, 85, 86, 71, 74, 75, 1127, 78, 79, 80, 72, 76, 77, 1143, 1144, 5, 1011, 1150, 1149, 1145, 1113, 1111, 1112, 1100031] g27) [68, 69, 70, 81, 82, 83, 84, 85, 86, 71, 74, 75, 1127, 78, 79, 80, 72, 76, 77, 1143, 1144, 5, 1011, 1150, 1149, 1145, 1113, 1111, 1112, 91, 1147, 1100031] g35) [68, 69, 70, 81, 82, 83, 84, 85, 86, 71, 74, 75, 1127, 78, 79, 80, 72, 76, 77, 1143, 1144, 5, 1011, 1150, 1149, 1145, 1113, 1111, 1112, 91, 1147, 1100031] g43) := sv_mod.sts md38 (by decide)
        have h := h g43 hpo46
        refine sv_aload_n hM dX12_codeWays_210 rfl rfl ?_
        refine sv_iload hM dX12_codeWays_211 rfl rfl ?_
        refine sv_iconst (d := (1 : Int)) hM dX12_codeWays_213 rfl rfl ?_
        refine sv_iadd hM dX12_codeWays_214 rfl ?_
        obtain ⟨o48, h⟩ := h
        obtain ⟨o49, h⟩ := h
        refine sv_callV hM dX12_codeWays_215 sm_iv_1346 (by decide) (sm_a0 _) rfl rfl (Nat.le_of_ble_eq_true rfl) sm_h285 (Nat.le_of_ble_eq_true rfl) (Nat.le_of_ble_eq_true rfl) (F' := 4) (Nat.le_of_ble_eq_true rfl) rfl (t_comeBack (x33 + (1 : Int)) (sv_sts (sv_sts (sv_sts (sv_sts S [68, 69, 70, 81, 82, 83, 84, 85, 86, 71, 74, 75, 1127, 78, 79, 80, 72, 76, 77, 1143, 1144, 5, 1011, 1150, 1149, 1145, 1113, 1111, 1112, 91, 1147, 1100031] g19) [68, 69, 70, 81, 82, 83, 84, 85, 86, 71, 74, 75, 1127, 78, 79, 80, 72, 76, 77, 1143, 1144, 5, 1011, 1150, 1149, 1145, 1113, 1111, 1112, 1100031] g27) [68, 69, 70, 81, 82, 83, 84, 85, 86, 71, 74, 75, 1127, 78, 79, 80, 72, 76, 77, 1143, 1144, 5, 1011, 1150, 1149, 1145, 1113, 1111, 1112, 91, 1147, 1100031] g35) [68, 69, 70, 81, 82, 83, 84, 85, 86, 71, 74, 75, 1127, 78, 79, 80, 72, 76, 77, 1143, 1144, 5, 1011, 1150, 1149, 1145, 1113, 1111, 1112, 91, 1147, 1100031] g43) ok44 o48 o49) (fun v S1 hq => ?_)
        obtain ⟨rfl, ok51, md52, hpo53⟩ := hq
        obtain ⟨g50, rfl⟩ : ∃ g, S1 = sv_sts (sv_sts (sv_sts (sv_sts (sv_sts S [68, 69, 70, 81, 82, 83, 84, 85, 86, 71, 74, 75, 1127, 78, 79, 80, 72, 76, 77, 1143, 1144, 5, 1011, 1150, 1149, 1145, 1113, 1111, 1112, 91, 1147, 1100031] g19) [68, 69, 70, 81, 82, 83, 84, 85, 86, 71, 74, 75, 1127, 78, 79, 80, 72, 76, 77, 1143, 1144, 5, 1011, 1150, 1149, 1145, 1113, 1111, 1112, 1100031] g27) [68, 69, 70, 81, 82, 83, 84, 85, 86, 71, 74, 75, 1127, 78, 79, 80, 72, 76, 77, 1143, 1144, 5, 1011, 1150, 1149, 1145, 1113, 1111, 1112, 91, 1147, 1100031] g35) [68, 69, 70, 81, 82, 83, 84, 85, 86, 71, 74, 75, 1127, 78, 79, 80, 72, 76, 77, 1143, 1144, 5, 1011, 1150, 1149, 1145, 1113, 1111, 1112, 91, 1147, 1100031] g43) [68, 69, 70, 81, 82, 83, 84, 85, 86, 76, 77] g := ⟨_, md52.eq⟩
        show sv_T sm_XS sm_cs sm_L sm_sh 6 (q_codeWays p1 p2 p4 p6 p7 p8 p9 p10 S) 284 218 [(0, .ref 0), (1, sv_I p1), (2, sv_L p2), (4, sv_L p4), (6, sv_I p6), (7, sv_I p7), (8, sv_I p8), (9, sv_I p9), (10, sv_I p10), (11, sv_I x2), (12, sv_I r10), (13, sv_I r17), (14, sv_I x33)] [] (sv_sts (sv_sts (sv_sts (sv_sts (sv_sts S [68, 69, 70, 81, 82, 83, 84, 85, 86, 71, 74, 75, 1127, 78, 79, 80, 72, 76, 77, 1143, 1144, 5, 1011, 1150, 1149, 1145, 1113, 1111, 1112, 91, 1147, 1100031] g19) [68, 69, 70, 81, 82, 83, 84, 85, 86, 71, 74, 75, 1127, 78, 79, 80, 72, 76, 77, 1143, 1144, 5, 1011, 1150, 1149, 1145, 1113, 1111, 1112, 1100031] g27) [68, 69, 70, 81, 82, 83, 84, 85, 86, 71, 74, 75, 1127, 78, 79, 80, 72, 76, 77, 1143, 1144, 5, 1011, 1150, 1149, 1145, 1113, 1111, 1112, 91, 1147, 1100031] g35) [68, 69, 70, 81, 82, 83, 84, 85, 86, 71, 74, 75, 1127, 78, 79, 80, 72, 76, 77, 1143, 1144, 5, 1011, 1150, 1149, 1145, 1113, 1111, 1112, 91, 1147, 1100031] g43) [68, 69, 70, 81, 82, 83, 84, 85, 86, 76, 77] g50)
        have md54 : sv_mod [68, 69, 70, 81, 82, 83, 84, 85, 86, 71, 74, 75, 1127, 78, 79, 80, 72, 76, 77, 1143, 1144, 5, 1011, 1150, 1149, 1145, 1113, 1111, 1112, 91, 1147, 1100031] S (sv_sts (sv_sts (sv_sts (sv_sts (sv_sts S [68, 69, 70, 81, 82, 83, 84, 85, 86, 71, 74, 75, 1127, 78, 79, 80, 72, 76, 77, 1143, 1144, 5, 1011, 1150, 1149, 1145, 1113, 1111, 1112, 91, 1147, 1100031] g19) [68, 69, 70, 81, 82, 83, 84, 85, 86, 71, 74, 75, 1127, 78, 79, 80, 72, 76, 77, 1143, 1144, 5, 1011, 1150, 1149, 1145, 1113, 1111, 1112, 1100031] g27) [68, 69, 70, 81, 82, 83, 84, 85, 86, 71, 74, 75, 1127, 78, 79, 80, 72, 76, 77, 1143, 1144, 5, 1011, 1150, 1149, 1145, 1113, 1111, 1112, 91, 1147, 1100031] g35) [68, 69, 70, 81, 82, 83, 84, 85, 86, 71, 74, 75, 1127, 78, 79, 80, 72, 76, 77, 1143, 1144, 5, 1011, 1150, 1149, 1145, 1113, 1111, 1112, 91, 1147, 1100031] g43) [68, 69, 70, 81, 82, 83, 84, 85, 86, 76, 77] g50) := sv_mod.sts md47 (by decide)
        have h := h g50 hpo53
        have k55 : (sm_ST (g43 71) (g43 74) (g43 75) (g43 78) (g43 79) (g43 80) (S 27) (S 1100007) (S 1100023) (S 1100024) (S 1046 0) ((S 1046 0) + 2 * (S 1032 0)) (g43 1127 0) → 0 ≤ (x33 + 1) → (x33 + 1) < ((S 1046 0) + 2 * (S 1032 0)) → (g43 71 (x33 + 1)) = 1 → (g43 74 (x33 + 1)) = (S 1100007 (x33 + 1)) ∧ 465000 ≤ (g43 75 (x33 + 1)) ∧ (g43 75 (x33 + 1)) + (g43 74 (x33 + 1)) ≤ (g43 1127 0) ∧ 0 ≤ (g43 78 (x33 + 1)) ∧ (g43 78 (x33 + 1)) ≤ 40) := fun h h0 h1 h2 => ⟨(sm_ST_at h (x33 + 1) h0 h1 h2).1, (sm_ST_at h (x33 + 1) h0 h1 h2).2.1, (sm_ST_at h (x33 + 1) h0 h1 h2).2.2.1, (sm_ST_at h (x33 + 1) h0 h1 h2).2.2.2.1, (sm_ST_at h (x33 + 1) h0 h1 h2).2.2.2.2.1⟩
        have h := h k55
        have k56 : (sm_NH (S 1100007) → 0 ≤ sm_hs (g43 71) (S 1100007)) := sm_hs_0
        have h := h k56
        refine sv_ldc_w (d := (647751 : Int)) hM dX12_codeWays_218 sm_ck_1349 rfl rfl ?_
        refine sv_istore hM dX12_codeWays_221 (by decide) rfl ?_
        show sv_T sm_XS sm_cs sm_L sm_sh 6 (q_codeWays p1 p2 p4 p6 p7 p8 p9 p10 S) 284 223 [(0, .ref 0), (1, sv_I p1), (2, sv_L p2), (4, sv_L p4), (6, sv_I p6), (7, sv_I p7), (8, sv_I p8), (9, sv_I p9), (10, sv_I p10), (11, sv_I x2), (12, sv_I r10), (13, sv_I r17), (14, sv_I x33), (15, sv_I (647751 : Int))] [] (sv_sts (sv_sts (sv_sts (sv_sts (sv_sts S [68, 69, 70, 81, 82, 83, 84, 85, 86, 71, 74, 75, 1127, 78, 79, 80, 72, 76, 77, 1143, 1144, 5, 1011, 1150, 1149, 1145, 1113, 1111, 1112, 91, 1147, 1100031] g19) [68, 69, 70, 81, 82, 83, 84, 85, 86, 71, 74, 75, 1127, 78, 79, 80, 72, 76, 77, 1143, 1144, 5, 1011, 1150, 1149, 1145, 1113, 1111, 1112, 1100031] g27) [68, 69, 70, 81, 82, 83, 84, 85, 86, 71, 74, 75, 1127, 78, 79, 80, 72, 76, 77, 1143, 1144, 5, 1011, 1150, 1149, 1145, 1113, 1111, 1112, 91, 1147, 1100031] g35) [68, 69, 70, 81, 82, 83, 84, 85, 86, 71, 74, 75, 1127, 78, 79, 80, 72, 76, 77, 1143, 1144, 5, 1011, 1150, 1149, 1145, 1113, 1111, 1112, 91, 1147, 1100031] g43) [68, 69, 70, 81, 82, 83, 84, 85, 86, 76, 77] g50)
        refine sv_aload_n hM dX12_codeWays_223 rfl rfl ?_
        refine sv_aload_n hM dX12_codeWays_224 rfl rfl ?_
        refine sv_getA hM dX12_codeWays_225 sm_fl_238 (sm_a0 _) sm_k126 rfl ?_
        refine sv_iload hM dX12_codeWays_228 rfl rfl ?_
        refine sv_iconst (d := (1 : Int)) hM dX12_codeWays_230 rfl rfl ?_
        refine sv_iadd hM dX12_codeWays_231 rfl ?_
        have k57 : sv_R (g43 75 (x33 + (1 : Int))) := sm_okI ok51 sm_r75 (x33 + (1 : Int))
        have h := h k57
        refine sv_iald hM dX12_codeWays_232 (sm_a75 _) (by decide) o40.1 o40.2 rfl (x := (g43 75 (x33 + (1 : Int)))) rfl ?_
        refine sv_iload hM dX12_codeWays_233 rfl rfl ?_
        obtain ⟨o58, h⟩ := h
        refine sv_callV hM dX12_codeWays_235 sm_iv_1092 (by decide) (sm_a0 _) rfl rfl (Nat.le_of_ble_eq_true rfl) sm_h207 (Nat.le_of_ble_eq_true rfl) (Nat.le_of_ble_eq_true rfl) (F' := 0) (Nat.le_of_ble_eq_true rfl) rfl (t_copySet (g43 75 (x33 + (1 : Int))) (647751 : Int) (sv_sts (sv_sts (sv_sts (sv_sts (sv_sts S [68, 69, 70, 81, 82, 83, 84, 85, 86, 71, 74, 75, 1127, 78, 79, 80, 72, 76, 77, 1143, 1144, 5, 1011, 1150, 1149, 1145, 1113, 1111, 1112, 91, 1147, 1100031] g19) [68, 69, 70, 81, 82, 83, 84, 85, 86, 71, 74, 75, 1127, 78, 79, 80, 72, 76, 77, 1143, 1144, 5, 1011, 1150, 1149, 1145, 1113, 1111, 1112, 1100031] g27) [68, 69, 70, 81, 82, 83, 84, 85, 86, 71, 74, 75, 1127, 78, 79, 80, 72, 76, 77, 1143, 1144, 5, 1011, 1150, 1149, 1145, 1113, 1111, 1112, 91, 1147, 1100031] g35) [68, 69, 70, 81, 82, 83, 84, 85, 86, 71, 74, 75, 1127, 78, 79, 80, 72, 76, 77, 1143, 1144, 5, 1011, 1150, 1149, 1145, 1113, 1111, 1112, 91, 1147, 1100031] g43) [68, 69, 70, 81, 82, 83, 84, 85, 86, 76, 77] g50) ok51 k57 (⟨by decide, by decide⟩ : sv_R (647751 : Int)) o58) (fun v S1 hq => ?_)
        obtain ⟨rfl, ok60, md61, hpo62⟩ := hq
        obtain ⟨g59, rfl⟩ : ∃ g, S1 = sv_sts (sv_sts (sv_sts (sv_sts (sv_sts (sv_sts S [68, 69, 70, 81, 82, 83, 84, 85, 86, 71, 74, 75, 1127, 78, 79, 80, 72, 76, 77, 1143, 1144, 5, 1011, 1150, 1149, 1145, 1113, 1111, 1112, 91, 1147, 1100031] g19) [68, 69, 70, 81, 82, 83, 84, 85, 86, 71, 74, 75, 1127, 78, 79, 80, 72, 76, 77, 1143, 1144, 5, 1011, 1150, 1149, 1145, 1113, 1111, 1112, 1100031] g27) [68, 69, 70, 81, 82, 83, 84, 85, 86, 71, 74, 75, 1127, 78, 79, 80, 72, 76, 77, 1143, 1144, 5, 1011, 1150, 1149, 1145, 1113, 1111, 1112, 91, 1147, 1100031] g35) [68, 69, 70, 81, 82, 83, 84, 85, 86, 71, 74, 75, 1127, 78, 79, 80, 72, 76, 77, 1143, 1144, 5, 1011, 1150, 1149, 1145, 1113, 1111, 1112, 91, 1147, 1100031] g43) [68, 69, 70, 81, 82, 83, 84, 85, 86, 76, 77] g50) [68, 69, 70] g := ⟨_, md61.eq⟩
        show sv_T sm_XS sm_cs sm_L sm_sh 6 (q_codeWays p1 p2 p4 p6 p7 p8 p9 p10 S) 284 238 [(0, .ref 0), (1, sv_I p1), (2, sv_L p2), (4, sv_L p4), (6, sv_I p6), (7, sv_I p7), (8, sv_I p8), (9, sv_I p9), (10, sv_I p10), (11, sv_I x2), (12, sv_I r10), (13, sv_I r17), (14, sv_I x33), (15, sv_I (647751 : Int))] [] (sv_sts (sv_sts (sv_sts (sv_sts (sv_sts (sv_sts S [68, 69, 70, 81, 82, 83, 84, 85, 86, 71, 74, 75, 1127, 78, 79, 80, 72, 76, 77, 1143, 1144, 5, 1011, 1150, 1149, 1145, 1113, 1111, 1112, 91, 1147, 1100031] g19) [68, 69, 70, 81, 82, 83, 84, 85, 86, 71, 74, 75, 1127, 78, 79, 80, 72, 76, 77, 1143, 1144, 5, 1011, 1150, 1149, 1145, 1113, 1111, 1112, 1100031] g27) [68, 69, 70, 81, 82, 83, 84, 85, 86, 71, 74, 75, 1127, 78, 79, 80, 72, 76, 77, 1143, 1144, 5, 1011, 1150, 1149, 1145, 1113, 1111, 1112, 91, 1147, 1100031] g35) [68, 69, 70, 81, 82, 83, 84, 85, 86, 71, 74, 75, 1127, 78, 79, 80, 72, 76, 77, 1143, 1144, 5, 1011, 1150, 1149, 1145, 1113, 1111, 1112, 91, 1147, 1100031] g43) [68, 69, 70, 81, 82, 83, 84, 85, 86, 76, 77] g50) [68, 69, 70] g59)
        have md63 : sv_mod [68, 69, 70, 81, 82, 83, 84, 85, 86, 71, 74, 75, 1127, 78, 79, 80, 72, 76, 77, 1143, 1144, 5, 1011, 1150, 1149, 1145, 1113, 1111, 1112, 91, 1147, 1100031] S (sv_sts (sv_sts (sv_sts (sv_sts (sv_sts (sv_sts S [68, 69, 70, 81, 82, 83, 84, 85, 86, 71, 74, 75, 1127, 78, 79, 80, 72, 76, 77, 1143, 1144, 5, 1011, 1150, 1149, 1145, 1113, 1111, 1112, 91, 1147, 1100031] g19) [68, 69, 70, 81, 82, 83, 84, 85, 86, 71, 74, 75, 1127, 78, 79, 80, 72, 76, 77, 1143, 1144, 5, 1011, 1150, 1149, 1145, 1113, 1111, 1112, 1100031] g27) [68, 69, 70, 81, 82, 83, 84, 85, 86, 71, 74, 75, 1127, 78, 79, 80, 72, 76, 77, 1143, 1144, 5, 1011, 1150, 1149, 1145, 1113, 1111, 1112, 91, 1147, 1100031] g35) [68, 69, 70, 81, 82, 83, 84, 85, 86, 71, 74, 75, 1127, 78, 79, 80, 72, 76, 77, 1143, 1144, 5, 1011, 1150, 1149, 1145, 1113, 1111, 1112, 91, 1147, 1100031] g43) [68, 69, 70, 81, 82, 83, 84, 85, 86, 76, 77] g50) [68, 69, 70] g59) := sv_mod.sts md54 (by decide)
        have h := h g59 hpo62
        refine sv_aload_n hM dX12_codeWays_238 rfl rfl ?_
        refine sv_iload hM dX12_codeWays_239 rfl rfl ?_
        obtain ⟨o64, h⟩ := h
        refine sv_callV hM dX12_codeWays_241 sm_iv_1198 (by decide) (sm_a0 _) rfl rfl (Nat.le_of_ble_eq_true rfl) sm_h261 (Nat.le_of_ble_eq_true rfl) (Nat.le_of_ble_eq_true rfl) (F' := 4) (Nat.le_of_ble_eq_true rfl) rfl (t_tossSet (647751 : Int) (sv_sts (sv_sts (sv_sts (sv_sts (sv_sts (sv_sts S [68, 69, 70, 81, 82, 83, 84, 85, 86, 71, 74, 75, 1127, 78, 79, 80, 72, 76, 77, 1143, 1144, 5, 1011, 1150, 1149, 1145, 1113, 1111, 1112, 91, 1147, 1100031] g19) [68, 69, 70, 81, 82, 83, 84, 85, 86, 71, 74, 75, 1127, 78, 79, 80, 72, 76, 77, 1143, 1144, 5, 1011, 1150, 1149, 1145, 1113, 1111, 1112, 1100031] g27) [68, 69, 70, 81, 82, 83, 84, 85, 86, 71, 74, 75, 1127, 78, 79, 80, 72, 76, 77, 1143, 1144, 5, 1011, 1150, 1149, 1145, 1113, 1111, 1112, 91, 1147, 1100031] g35) [68, 69, 70, 81, 82, 83, 84, 85, 86, 71, 74, 75, 1127, 78, 79, 80, 72, 76, 77, 1143, 1144, 5, 1011, 1150, 1149, 1145, 1113, 1111, 1112, 91, 1147, 1100031] g43) [68, 69, 70, 81, 82, 83, 84, 85, 86, 76, 77] g50) [68, 69, 70] g59) ok60 (⟨by decide, by decide⟩ : sv_R (647751 : Int)) o64) (fun v S1 hq => ?_)
        obtain ⟨rfl, ok66, md67, hpo68⟩ := hq
        obtain ⟨g65, rfl⟩ : ∃ g, S1 = sv_sts (sv_sts (sv_sts (sv_sts (sv_sts (sv_sts (sv_sts S [68, 69, 70, 81, 82, 83, 84, 85, 86, 71, 74, 75, 1127, 78, 79, 80, 72, 76, 77, 1143, 1144, 5, 1011, 1150, 1149, 1145, 1113, 1111, 1112, 91, 1147, 1100031] g19) [68, 69, 70, 81, 82, 83, 84, 85, 86, 71, 74, 75, 1127, 78, 79, 80, 72, 76, 77, 1143, 1144, 5, 1011, 1150, 1149, 1145, 1113, 1111, 1112, 1100031] g27) [68, 69, 70, 81, 82, 83, 84, 85, 86, 71, 74, 75, 1127, 78, 79, 80, 72, 76, 77, 1143, 1144, 5, 1011, 1150, 1149, 1145, 1113, 1111, 1112, 91, 1147, 1100031] g35) [68, 69, 70, 81, 82, 83, 84, 85, 86, 71, 74, 75, 1127, 78, 79, 80, 72, 76, 77, 1143, 1144, 5, 1011, 1150, 1149, 1145, 1113, 1111, 1112, 91, 1147, 1100031] g43) [68, 69, 70, 81, 82, 83, 84, 85, 86, 76, 77] g50) [68, 69, 70] g59) [68, 69, 70, 81, 82, 83, 84, 85, 86, 71, 74, 75, 1127, 78, 79, 80, 72, 76, 77, 1100031] g := ⟨_, md67.eq⟩
        show sv_T sm_XS sm_cs sm_L sm_sh 6 (q_codeWays p1 p2 p4 p6 p7 p8 p9 p10 S) 284 244 [(0, .ref 0), (1, sv_I p1), (2, sv_L p2), (4, sv_L p4), (6, sv_I p6), (7, sv_I p7), (8, sv_I p8), (9, sv_I p9), (10, sv_I p10), (11, sv_I x2), (12, sv_I r10), (13, sv_I r17), (14, sv_I x33), (15, sv_I (647751 : Int))] [] (sv_sts (sv_sts (sv_sts (sv_sts (sv_sts (sv_sts (sv_sts S [68, 69, 70, 81, 82, 83, 84, 85, 86, 71, 74, 75, 1127, 78, 79, 80, 72, 76, 77, 1143, 1144, 5, 1011, 1150, 1149, 1145, 1113, 1111, 1112, 91, 1147, 1100031] g19) [68, 69, 70, 81, 82, 83, 84, 85, 86, 71, 74, 75, 1127, 78, 79, 80, 72, 76, 77, 1143, 1144, 5, 1011, 1150, 1149, 1145, 1113, 1111, 1112, 1100031] g27) [68, 69, 70, 81, 82, 83, 84, 85, 86, 71, 74, 75, 1127, 78, 79, 80, 72, 76, 77, 1143, 1144, 5, 1011, 1150, 1149, 1145, 1113, 1111, 1112, 91, 1147, 1100031] g35) [68, 69, 70, 81, 82, 83, 84, 85, 86, 71, 74, 75, 1127, 78, 79, 80, 72, 76, 77, 1143, 1144, 5, 1011, 1150, 1149, 1145, 1113, 1111, 1112, 91, 1147, 1100031] g43) [68, 69, 70, 81, 82, 83, 84, 85, 86, 76, 77] g50) [68, 69, 70] g59) [68, 69, 70, 81, 82, 83, 84, 85, 86, 71, 74, 75, 1127, 78, 79, 80, 72, 76, 77, 1100031] g65)
        have md69 : sv_mod [68, 69, 70, 81, 82, 83, 84, 85, 86, 71, 74, 75, 1127, 78, 79, 80, 72, 76, 77, 1143, 1144, 5, 1011, 1150, 1149, 1145, 1113, 1111, 1112, 91, 1147, 1100031] S (sv_sts (sv_sts (sv_sts (sv_sts (sv_sts (sv_sts (sv_sts S [68, 69, 70, 81, 82, 83, 84, 85, 86, 71, 74, 75, 1127, 78, 79, 80, 72, 76, 77, 1143, 1144, 5, 1011, 1150, 1149, 1145, 1113, 1111, 1112, 91, 1147, 1100031] g19) [68, 69, 70, 81, 82, 83, 84, 85, 86, 71, 74, 75, 1127, 78, 79, 80, 72, 76, 77, 1143, 1144, 5, 1011, 1150, 1149, 1145, 1113, 1111, 1112, 1100031] g27) [68, 69, 70, 81, 82, 83, 84, 85, 86, 71, 74, 75, 1127, 78, 79, 80, 72, 76, 77, 1143, 1144, 5, 1011, 1150, 1149, 1145, 1113, 1111, 1112, 91, 1147, 1100031] g35) [68, 69, 70, 81, 82, 83, 84, 85, 86, 71, 74, 75, 1127, 78, 79, 80, 72, 76, 77, 1143, 1144, 5, 1011, 1150, 1149, 1145, 1113, 1111, 1112, 91, 1147, 1100031] g43) [68, 69, 70, 81, 82, 83, 84, 85, 86, 76, 77] g50) [68, 69, 70] g59) [68, 69, 70, 81, 82, 83, 84, 85, 86, 71, 74, 75, 1127, 78, 79, 80, 72, 76, 77, 1100031] g65) := sv_mod.sts md63 (by decide)
        have h := h g65 hpo68
        exact sv_vret hM dX12_codeWays_244 rfl ⟨rfl, ok66, md69, h⟩
    have h := h.2
    refine sv_aload_n hM dX12_codeWays_82 rfl rfl ?_
    refine sv_getA hM dX12_codeWays_83 sm_fl_226 (sm_a0 _) sm_k122 rfl ?_
    refine sv_iload hM dX12_codeWays_86 rfl rfl ?_
    obtain ⟨o71, h⟩ := h
    have k72 : (0 ≤ (g27 71 x33) ∧ (g27 71 x33) ≤ 1) := sm_okZ ok28 sm_r71 x33
    have h := h k72
    refine sv_zald hM dX12_codeWays_88 (sm_a71 _) (by decide) o71.1 o71.2 rfl (x := (g27 71 x33)) rfl ?_
    refine sv_cond_eq hM dX12_codeWays_89 (sv_R01 k72) (t := 189) rfl rfl (fun hc => ?_) (fun hc => ?_)
    · have h := h.1 (hc)
      have eS := sv_mod.eq (sv_mod.rf (l := [68, 69, 70, 81, 82, 83, 84, 85, 86, 71, 74, 75, 1127, 78, 79, 80, 72, 76, 77, 1143, 1144, 5, 1011, 1150, 1149, 1145, 1113, 1111, 1112, 91, 1147, 1100031]) (S := (sv_sts (sv_sts S [68, 69, 70, 81, 82, 83, 84, 85, 86, 71, 74, 75, 1127, 78, 79, 80, 72, 76, 77, 1143, 1144, 5, 1011, 1150, 1149, 1145, 1113, 1111, 1112, 91, 1147, 1100031] g19) [68, 69, 70, 81, 82, 83, 84, 85, 86, 71, 74, 75, 1127, 78, 79, 80, 72, 76, 77, 1143, 1144, 5, 1011, 1150, 1149, 1145, 1113, 1111, 1112, 1100031] g27)))
      have hb := J70 (sv_sts (sv_sts S [68, 69, 70, 81, 82, 83, 84, 85, 86, 71, 74, 75, 1127, 78, 79, 80, 72, 76, 77, 1143, 1144, 5, 1011, 1150, 1149, 1145, 1113, 1111, 1112, 91, 1147, 1100031] g19) [68, 69, 70, 81, 82, 83, 84, 85, 86, 71, 74, 75, 1127, 78, 79, 80, 72, 76, 77, 1143, 1144, 5, 1011, 1150, 1149, 1145, 1113, 1111, 1112, 1100031] g27) (by rw [← eS]; exact ok28) h
      have hb : sv_T sm_XS sm_cs sm_L sm_sh 6 (q_codeWays p1 p2 p4 p6 p7 p8 p9 p10 S) 284 189 [(0, .ref 0), (1, sv_I p1), (2, sv_L p2), (4, sv_L p4), (6, sv_I p6), (7, sv_I p7), (8, sv_I p8), (9, sv_I p9), (10, sv_I p10), (11, sv_I x2), (12, sv_I r10), (13, sv_I r17), (14, sv_I x33)] [] (sv_sts (sv_sts S [68, 69, 70, 81, 82, 83, 84, 85, 86, 71, 74, 75, 1127, 78, 79, 80, 72, 76, 77, 1143, 1144, 5, 1011, 1150, 1149, 1145, 1113, 1111, 1112, 91, 1147, 1100031] g19) [68, 69, 70, 81, 82, 83, 84, 85, 86, 71, 74, 75, 1127, 78, 79, 80, 72, 76, 77, 1143, 1144, 5, 1011, 1150, 1149, 1145, 1113, 1111, 1112, 1100031] g27) := Eq.mpr (congrArg (fun Z => sv_T sm_XS sm_cs sm_L sm_sh 6 (q_codeWays p1 p2 p4 p6 p7 p8 p9 p10 S) 284 189 [(0, .ref 0), (1, sv_I p1), (2, sv_L p2), (4, sv_L p4), (6, sv_I p6), (7, sv_I p7), (8, sv_I p8), (9, sv_I p9), (10, sv_I p10), (11, sv_I x2), (12, sv_I r10), (13, sv_I r17), (14, sv_I x33)] [] Z) eS) hb
      exact sv_less (lv := [(0, .ref 0), (1, sv_I p1), (2, sv_L p2), (4, sv_L p4), (6, sv_I p6), (7, sv_I p7), (8, sv_I p8), (9, sv_I p9), (10, sv_I p10), (11, sv_I x2), (12, sv_I r10), (13, sv_I r17), (14, sv_I x33)]) (sv_Sub_cons rfl (sv_Sub_cons rfl (sv_Sub_cons rfl (sv_Sub_cons rfl (sv_Sub_cons rfl (sv_Sub_cons rfl (sv_Sub_cons rfl (sv_Sub_cons rfl (sv_Sub_cons rfl (sv_Sub_cons rfl (sv_Sub_cons rfl (sv_Sub_cons rfl (sv_Sub_cons rfl sv_Sub_nil))))))))))))) hb
    · have h := h.2 (hc)
      refine sv_aload_n hM dX12_codeWays_92 rfl rfl ?_
      refine sv_lload_n hM dX12_codeWays_93 rfl rfl ?_
      refine sv_lload hM dX12_codeWays_94 rfl rfl ?_
      refine sv_iload hM dX12_codeWays_96 rfl rfl ?_
      obtain ⟨o73, h⟩ := h
      refine sv_callV hM dX12_codeWays_98 sm_iv_1336 (by decide) (sm_a0 _) rfl rfl (Nat.le_of_ble_eq_true rfl) sm_h283 (Nat.le_of_ble_eq_true rfl) (Nat.le_of_ble_eq_true rfl) (F' := 4) (Nat.le_of_ble_eq_true rfl) rfl (t_prepare p2 p4 p10 (sv_sts (sv_sts S [68, 69, 70, 81, 82, 83, 84, 85, 86, 71, 74, 75, 1127, 78, 79, 80, 72, 76, 77, 1143, 1144, 5, 1011, 1150, 1149, 1145, 1113, 1111, 1112, 91, 1147, 1100031] g19) [68, 69, 70, 81, 82, 83, 84, 85, 86, 71, 74, 75, 1127, 78, 79, 80, 72, 76, 77, 1143, 1144, 5, 1011, 1150, 1149, 1145, 1113, 1111, 1112, 1100031] g27) ok28 hp2 hp4 hp10 o73) (fun v S1 hq => ?_)
      obtain ⟨rfl, ok75, md76, hpo77⟩ := hq
      obtain ⟨g74, rfl⟩ : ∃ g, S1 = sv_sts (sv_sts (sv_sts S [68, 69, 70, 81, 82, 83, 84, 85, 86, 71, 74, 75, 1127, 78, 79, 80, 72, 76, 77, 1143, 1144, 5, 1011, 1150, 1149, 1145, 1113, 1111, 1112, 91, 1147, 1100031] g19) [68, 69, 70, 81, 82, 83, 84, 85, 86, 71, 74, 75, 1127, 78, 79, 80, 72, 76, 77, 1143, 1144, 5, 1011, 1150, 1149, 1145, 1113, 1111, 1112, 1100031] g27) [68, 69, 70, 81, 82, 83, 84, 85, 86, 71, 74, 75, 1127, 78, 79, 80, 72, 76, 77, 1143, 1144, 5, 1011, 1150, 1149, 1145, 1113, 1111, 1112, 91, 1147, 1100031] g := ⟨_, md76.eq⟩
      show sv_T sm_XS sm_cs sm_L sm_sh 6 (q_codeWays p1 p2 p4 p6 p7 p8 p9 p10 S) 284 101 [(0, .ref 0), (1, sv_I p1), (2, sv_L p2), (4, sv_L p4), (6, sv_I p6), (7, sv_I p7), (8, sv_I p8), (9, sv_I p9), (10, sv_I p10), (11, sv_I x2), (12, sv_I r10), (13, sv_I r17), (14, sv_I x33)] [] (sv_sts (sv_sts (sv_sts S [68, 69, 70, 81, 82, 83, 84, 85, 86, 71, 74, 75, 1127, 78, 79, 80, 72, 76, 77, 1143, 1144, 5, 1011, 1150, 1149, 1145, 1113, 1111, 1112, 91, 1147, 1100031] g19) [68, 69, 70, 81, 82, 83, 84, 85, 86, 71, 74, 75, 1127, 78, 79, 80, 72, 76, 77, 1143, 1144, 5, 1011, 1150, 1149, 1145, 1113, 1111, 1112, 1100031] g27) [68, 69, 70, 81, 82, 83, 84, 85, 86, 71, 74, 75, 1127, 78, 79, 80, 72, 76, 77, 1143, 1144, 5, 1011, 1150, 1149, 1145, 1113, 1111, 1112, 91, 1147, 1100031] g74)
      have md78 : sv_mod [68, 69, 70, 81, 82, 83, 84, 85, 86, 71, 74, 75, 1127, 78, 79, 80, 72, 76, 77, 1143, 1144, 5, 1011, 1150, 1149, 1145, 1113, 1111, 1112, 91, 1147, 1100031] S (sv_sts (sv_sts (sv_sts S [68, 69, 70, 81, 82, 83, 84, 85, 86, 71, 74, 75, 1127, 78, 79, 80, 72, 76, 77, 1143, 1144, 5, 1011, 1150, 1149, 1145, 1113, 1111, 1112, 91, 1147, 1100031] g19) [68, 69, 70, 81, 82, 83, 84, 85, 86, 71, 74, 75, 1127, 78, 79, 80, 72, 76, 77, 1143, 1144, 5, 1011, 1150, 1149, 1145, 1113, 1111, 1112, 1100031] g27) [68, 69, 70, 81, 82, 83, 84, 85, 86, 71, 74, 75, 1127, 78, 79, 80, 72, 76, 77, 1143, 1144, 5, 1011, 1150, 1149, 1145, 1113, 1111, 1112, 91, 1147, 1100031] g74) := sv_mod.sts md31 (by decide)
      have md79 : sv_mod [68, 69, 70, 81, 82, 83, 84, 85, 86, 71, 74, 75, 1127, 78, 79, 80, 72, 76, 77, 1143, 1144, 5, 1011, 1150, 1149, 1145, 1113, 1111, 1112, 91, 1147, 1100031] (sv_sts (sv_sts S [68, 69, 70, 81, 82, 83, 84, 85, 86, 71, 74, 75, 1127, 78, 79, 80, 72, 76, 77, 1143, 1144, 5, 1011, 1150, 1149, 1145, 1113, 1111, 1112, 91, 1147, 1100031] g19) [68, 69, 70, 81, 82, 83, 84, 85, 86, 71, 74, 75, 1127, 78, 79, 80, 72, 76, 77, 1143, 1144, 5, 1011, 1150, 1149, 1145, 1113, 1111, 1112, 1100031] g27) (sv_sts (sv_sts (sv_sts S [68, 69, 70, 81, 82, 83, 84, 85, 86, 71, 74, 75, 1127, 78, 79, 80, 72, 76, 77, 1143, 1144, 5, 1011, 1150, 1149, 1145, 1113, 1111, 1112, 91, 1147, 1100031] g19) [68, 69, 70, 81, 82, 83, 84, 85, 86, 71, 74, 75, 1127, 78, 79, 80, 72, 76, 77, 1143, 1144, 5, 1011, 1150, 1149, 1145, 1113, 1111, 1112, 1100031] g27) [68, 69, 70, 81, 82, 83, 84, 85, 86, 71, 74, 75, 1127, 78, 79, 80, 72, 76, 77, 1143, 1144, 5, 1011, 1150, 1149, 1145, 1113, 1111, 1112, 91, 1147, 1100031] g74) := sv_mod.sts (sv_mod.rf (l := [68, 69, 70, 81, 82, 83, 84, 85, 86, 71, 74, 75, 1127, 78, 79, 80, 72, 76, 77, 1143, 1144, 5, 1011, 1150, 1149, 1145, 1113, 1111, 1112, 91, 1147, 1100031]) (S := (sv_sts (sv_sts S [68, 69, 70, 81, 82, 83, 84, 85, 86, 71, 74, 75, 1127, 78, 79, 80, 72, 76, 77, 1143, 1144, 5, 1011, 1150, 1149, 1145, 1113, 1111, 1112, 91, 1147, 1100031] g19) [68, 69, 70, 81, 82, 83, 84, 85, 86, 71, 74, 75, 1127, 78, 79, 80, 72, 76, 77, 1143, 1144, 5, 1011, 1150, 1149, 1145, 1113, 1111, 1112, 1100031] g27))) (by decide)
      have h := h g74 hpo77
      refine sv_aload_n hM dX12_codeWays_101 rfl rfl ?_
      refine sv_iload hM dX12_codeWays_102 rfl rfl ?_
      obtain ⟨o80, h⟩ := h
      obtain ⟨o81, h⟩ := h
      refine sv_callV hM dX12_codeWays_104 sm_iv_1346 (by decide) (sm_a0 _) rfl rfl (Nat.le_of_ble_eq_true rfl) sm_h285 (Nat.le_of_ble_eq_true rfl) (Nat.le_of_ble_eq_true rfl) (F' := 4) (Nat.le_of_ble_eq_true rfl) rfl (t_comeBack x33 (sv_sts (sv_sts (sv_sts S [68, 69, 70, 81, 82, 83, 84, 85, 86, 71, 74, 75, 1127, 78, 79, 80, 72, 76, 77, 1143, 1144, 5, 1011, 1150, 1149, 1145, 1113, 1111, 1112, 91, 1147, 1100031] g19) [68, 69, 70, 81, 82, 83, 84, 85, 86, 71, 74, 75, 1127, 78, 79, 80, 72, 76, 77, 1143, 1144, 5, 1011, 1150, 1149, 1145, 1113, 1111, 1112, 1100031] g27) [68, 69, 70, 81, 82, 83, 84, 85, 86, 71, 74, 75, 1127, 78, 79, 80, 72, 76, 77, 1143, 1144, 5, 1011, 1150, 1149, 1145, 1113, 1111, 1112, 91, 1147, 1100031] g74) ok75 o80 o81) (fun v S1 hq => ?_)
      obtain ⟨rfl, ok83, md84, hpo85⟩ := hq
      obtain ⟨g82, rfl⟩ : ∃ g, S1 = sv_sts (sv_sts (sv_sts (sv_sts S [68, 69, 70, 81, 82, 83, 84, 85, 86, 71, 74, 75, 1127, 78, 79, 80, 72, 76, 77, 1143, 1144, 5, 1011, 1150, 1149, 1145, 1113, 1111, 1112, 91, 1147, 1100031] g19) [68, 69, 70, 81, 82, 83, 84, 85, 86, 71, 74, 75, 1127, 78, 79, 80, 72, 76, 77, 1143, 1144, 5, 1011, 1150, 1149, 1145, 1113, 1111, 1112, 1100031] g27) [68, 69, 70, 81, 82, 83, 84, 85, 86, 71, 74, 75, 1127, 78, 79, 80, 72, 76, 77, 1143, 1144, 5, 1011, 1150, 1149, 1145, 1113, 1111, 1112, 91, 1147, 1100031] g74) [68, 69, 70, 81, 82, 83, 84, 85, 86, 76, 77] g := ⟨_, md84.eq⟩
      show sv_T sm_XS sm_cs sm_L sm_sh 6 (q_codeWays p1 p2 p4 p6 p7 p8 p9 p10 S) 284 107 [(0, .ref 0), (1, sv_I p1), (2, sv_L p2), (4, sv_L p4), (6, sv_I p6), (7, sv_I p7), (8, sv_I p8), (9, sv_I p9), (10, sv_I p10), (11, sv_I x2), (12, sv_I r10), (13, sv_I r17), (14, sv_I x33)] [] (sv_sts (sv_sts (sv_sts (sv_sts S [68, 69, 70, 81, 82, 83, 84, 85, 86, 71, 74, 75, 1127, 78, 79, 80, 72, 76, 77, 1143, 1144, 5, 1011, 1150, 1149, 1145, 1113, 1111, 1112, 91, 1147, 1100031] g19) [68, 69, 70, 81, 82, 83, 84, 85, 86, 71, 74, 75, 1127, 78, 79, 80, 72, 76, 77, 1143, 1144, 5, 1011, 1150, 1149, 1145, 1113, 1111, 1112, 1100031] g27) [68, 69, 70, 81, 82, 83, 84, 85, 86, 71, 74, 75, 1127, 78, 79, 80, 72, 76, 77, 1143, 1144, 5, 1011, 1150, 1149, 1145, 1113, 1111, 1112, 91, 1147, 1100031] g74) [68, 69, 70, 81, 82, 83, 84, 85, 86, 76, 77] g82)
      have md86 : sv_mod [68, 69, 70, 81, 82, 83, 84, 85, 86, 71, 74, 75, 1127, 78, 79, 80, 72, 76, 77, 1143, 1144, 5, 1011, 1150, 1149, 1145, 1113, 1111, 1112, 91, 1147, 1100031] S (sv_sts (sv_sts (sv_sts (sv_sts S [68, 69, 70, 81, 82, 83, 84, 85, 86, 71, 74, 75, 1127, 78, 79, 80, 72, 76, 77, 1143, 1144, 5, 1011, 1150, 1149, 1145, 1113, 1111, 1112, 91, 1147, 1100031] g19) [68, 69, 70, 81, 82, 83, 84, 85, 86, 71, 74, 75, 1127, 78, 79, 80, 72, 76, 77, 1143, 1144, 5, 1011, 1150, 1149, 1145, 1113, 1111, 1112, 1100031] g27) [68, 69, 70, 81, 82, 83, 84, 85, 86, 71, 74, 75, 1127, 78, 79, 80, 72, 76, 77, 1143, 1144, 5, 1011, 1150, 1149, 1145, 1113, 1111, 1112, 91, 1147, 1100031] g74) [68, 69, 70, 81, 82, 83, 84, 85, 86, 76, 77] g82) := sv_mod.sts md78 (by decide)
      have md87 : sv_mod [68, 69, 70, 81, 82, 83, 84, 85, 86, 71, 74, 75, 1127, 78, 79, 80, 72, 76, 77, 1143, 1144, 5, 1011, 1150, 1149, 1145, 1113, 1111, 1112, 91, 1147, 1100031] (sv_sts (sv_sts S [68, 69, 70, 81, 82, 83, 84, 85, 86, 71, 74, 75, 1127, 78, 79, 80, 72, 76, 77, 1143, 1144, 5, 1011, 1150, 1149, 1145, 1113, 1111, 1112, 91, 1147, 1100031] g19) [68, 69, 70, 81, 82, 83, 84, 85, 86, 71, 74, 75, 1127, 78, 79, 80, 72, 76, 77, 1143, 1144, 5, 1011, 1150, 1149, 1145, 1113, 1111, 1112, 1100031] g27) (sv_sts (sv_sts (sv_sts (sv_sts S [68, 69, 70, 81, 82, 83, 84, 85, 86, 71, 74, 75, 1127, 78, 79, 80, 72, 76, 77, 1143, 1144, 5, 1011, 1150, 1149, 1145, 1113, 1111, 1112, 91, 1147, 1100031] g19) [68, 69, 70, 81, 82, 83, 84, 85, 86, 71, 74, 75, 1127, 78, 79, 80, 72, 76, 77, 1143, 1144, 5, 1011, 1150, 1149, 1145, 1113, 1111, 1112, 1100031] g27) [68, 69, 70, 81, 82, 83, 84, 85, 86, 71, 74, 75, 1127, 78, 79, 80, 72, 76, 77, 1143, 1144, 5, 1011, 1150, 1149, 1145, 1113, 1111, 1112, 91, 1147, 1100031] g74) [68, 69, 70, 81, 82, 83, 84, 85, 86, 76, 77] g82) := sv_mod.sts md79 (by decide)
      have h := h g82 hpo85
      have k88 : (sm_ST (g74 71) (g74 74) (g74 75) (g74 78) (g74 79) (g74 80) (S 27) (S 1100007) (S 1100023) (S 1100024) (S 1046 0) ((S 1046 0) + 2 * (S 1032 0)) (g74 1127 0) → 0 ≤ x33 → x33 < ((S 1046 0) + 2 * (S 1032 0)) → (g74 71 x33) = 1 → (g74 74 x33) = (S 1100007 x33) ∧ 465000 ≤ (g74 75 x33) ∧ (g74 75 x33) + (g74 74 x33) ≤ (g74 1127 0) ∧ 0 ≤ (g74 78 x33) ∧ (g74 78 x33) ≤ 40) := fun h h0 h1 h2 => ⟨(sm_ST_at h x33 h0 h1 h2).1, (sm_ST_at h x33 h0 h1 h2).2.1, (sm_ST_at h x33 h0 h1 h2).2.2.1, (sm_ST_at h x33 h0 h1 h2).2.2.2.1, (sm_ST_at h x33 h0 h1 h2).2.2.2.2.1⟩
      have h := h k88
      have k89 : (sm_NH (S 1100007) → 0 ≤ sm_hs (g74 71) (S 1100007)) := sm_hs_0
      have h := h k89
      refine sv_ldc_w (d := (647751 : Int)) hM dX12_codeWays_107 sm_ck_1349 rfl rfl ?_
      refine sv_istore hM dX12_codeWays_110 (by decide) rfl ?_
      show sv_T sm_XS sm_cs sm_L sm_sh 6 (q_codeWays p1 p2 p4 p6 p7 p8 p9 p10 S) 284 112 [(0, .ref 0), (1, sv_I p1), (2, sv_L p2), (4, sv_L p4), (6, sv_I p6), (7, sv_I p7), (8, sv_I p8), (9, sv_I p9), (10, sv_I p10), (11, sv_I x2), (12, sv_I r10), (13, sv_I r17), (14, sv_I x33), (15, sv_I (647751 : Int))] [] (sv_sts (sv_sts (sv_sts (sv_sts S [68, 69, 70, 81, 82, 83, 84, 85, 86, 71, 74, 75, 1127, 78, 79, 80, 72, 76, 77, 1143, 1144, 5, 1011, 1150, 1149, 1145, 1113, 1111, 1112, 91, 1147, 1100031] g19) [68, 69, 70, 81, 82, 83, 84, 85, 86, 71, 74, 75, 1127, 78, 79, 80, 72, 76, 77, 1143, 1144, 5, 1011, 1150, 1149, 1145, 1113, 1111, 1112, 1100031] g27) [68, 69, 70, 81, 82, 83, 84, 85, 86, 71, 74, 75, 1127, 78, 79, 80, 72, 76, 77, 1143, 1144, 5, 1011, 1150, 1149, 1145, 1113, 1111, 1112, 91, 1147, 1100031] g74) [68, 69, 70, 81, 82, 83, 84, 85, 86, 76, 77] g82)
      refine sv_aload_n hM dX12_codeWays_112 rfl rfl ?_
      refine sv_aload_n hM dX12_codeWays_113 rfl rfl ?_
      refine sv_getA hM dX12_codeWays_114 sm_fl_238 (sm_a0 _) sm_k126 rfl ?_
      refine sv_iload hM dX12_codeWays_117 rfl rfl ?_
      have k90 : sv_R (g74 75 x33) := sm_okI ok83 sm_r75 x33
      have h := h k90
      refine sv_iald hM dX12_codeWays_119 (sm_a75 _) (by decide) o71.1 o71.2 rfl (x := (g74 75 x33)) rfl ?_
      refine sv_iload hM dX12_codeWays_120 rfl rfl ?_
      obtain ⟨o91, h⟩ := h
      refine sv_callV hM dX12_codeWays_122 sm_iv_1092 (by decide) (sm_a0 _) rfl rfl (Nat.le_of_ble_eq_true rfl) sm_h207 (Nat.le_of_ble_eq_true rfl) (Nat.le_of_ble_eq_true rfl) (F' := 0) (Nat.le_of_ble_eq_true rfl) rfl (t_copySet (g74 75 x33) (647751 : Int) (sv_sts (sv_sts (sv_sts (sv_sts S [68, 69, 70, 81, 82, 83, 84, 85, 86, 71, 74, 75, 1127, 78, 79, 80, 72, 76, 77, 1143, 1144, 5, 1011, 1150, 1149, 1145, 1113, 1111, 1112, 91, 1147, 1100031] g19) [68, 69, 70, 81, 82, 83, 84, 85, 86, 71, 74, 75, 1127, 78, 79, 80, 72, 76, 77, 1143, 1144, 5, 1011, 1150, 1149, 1145, 1113, 1111, 1112, 1100031] g27) [68, 69, 70, 81, 82, 83, 84, 85, 86, 71, 74, 75, 1127, 78, 79, 80, 72, 76, 77, 1143, 1144, 5, 1011, 1150, 1149, 1145, 1113, 1111, 1112, 91, 1147, 1100031] g74) [68, 69, 70, 81, 82, 83, 84, 85, 86, 76, 77] g82) ok83 k90 (⟨by decide, by decide⟩ : sv_R (647751 : Int)) o91) (fun v S1 hq => ?_)
      obtain ⟨rfl, ok93, md94, hpo95⟩ := hq
      obtain ⟨g92, rfl⟩ : ∃ g, S1 = sv_sts (sv_sts (sv_sts (sv_sts (sv_sts S [68, 69, 70, 81, 82, 83, 84, 85, 86, 71, 74, 75, 1127, 78, 79, 80, 72, 76, 77, 1143, 1144, 5, 1011, 1150, 1149, 1145, 1113, 1111, 1112, 91, 1147, 1100031] g19) [68, 69, 70, 81, 82, 83, 84, 85, 86, 71, 74, 75, 1127, 78, 79, 80, 72, 76, 77, 1143, 1144, 5, 1011, 1150, 1149, 1145, 1113, 1111, 1112, 1100031] g27) [68, 69, 70, 81, 82, 83, 84, 85, 86, 71, 74, 75, 1127, 78, 79, 80, 72, 76, 77, 1143, 1144, 5, 1011, 1150, 1149, 1145, 1113, 1111, 1112, 91, 1147, 1100031] g74) [68, 69, 70, 81, 82, 83, 84, 85, 86, 76, 77] g82) [68, 69, 70] g := ⟨_, md94.eq⟩
      show sv_T sm_XS sm_cs sm_L sm_sh 6 (q_codeWays p1 p2 p4 p6 p7 p8 p9 p10 S) 284 125 [(0, .ref 0), (1, sv_I p1), (2, sv_L p2), (4, sv_L p4), (6, sv_I p6), (7, sv_I p7), (8, sv_I p8), (9, sv_I p9), (10, sv_I p10), (11, sv_I x2), (12, sv_I r10), (13, sv_I r17), (14, sv_I x33), (15, sv_I (647751 : Int))] [] (sv_sts (sv_sts (sv_sts (sv_sts (sv_sts S [68, 69, 70, 81, 82, 83, 84, 85, 86, 71, 74, 75, 1127, 78, 79, 80, 72, 76, 77, 1143, 1144, 5, 1011, 1150, 1149, 1145, 1113, 1111, 1112, 91, 1147, 1100031] g19) [68, 69, 70, 81, 82, 83, 84, 85, 86, 71, 74, 75, 1127, 78, 79, 80, 72, 76, 77, 1143, 1144, 5, 1011, 1150, 1149, 1145, 1113, 1111, 1112, 1100031] g27) [68, 69, 70, 81, 82, 83, 84, 85, 86, 71, 74, 75, 1127, 78, 79, 80, 72, 76, 77, 1143, 1144, 5, 1011, 1150, 1149, 1145, 1113, 1111, 1112, 91, 1147, 1100031] g74) [68, 69, 70, 81, 82, 83, 84, 85, 86, 76, 77] g82) [68, 69, 70] g92)
      have md96 : sv_mod [68, 69, 70, 81, 82, 83, 84, 85, 86, 71, 74, 75, 1127, 78, 79, 80, 72, 76, 77, 1143, 1144, 5, 1011, 1150, 1149, 1145, 1113, 1111, 1112, 91, 1147, 1100031] S (sv_sts (sv_sts (sv_sts (sv_sts (sv_sts S [68, 69, 70, 81, 82, 83, 84, 85, 86, 71, 74, 75, 1127, 78, 79, 80, 72, 76, 77, 1143, 1144, 5, 1011, 1150, 1149, 1145, 1113, 1111, 1112, 91, 1147, 1100031] g19) [68, 69, 70, 81, 82, 83, 84, 85, 86, 71, 74, 75, 1127, 78, 79, 80, 72, 76, 77, 1143, 1144, 5, 1011, 1150, 1149, 1145, 1113, 1111, 1112, 1100031] g27) [68, 69, 70, 81, 82, 83, 84, 85, 86, 71, 74, 75, 1127, 78, 79, 80, 72, 76, 77, 1143, 1144, 5, 1011, 1150, 1149, 1145, 1113, 1111, 1112, 91, 1147, 1100031] g74) [68, 69, 70, 81, 82, 83, 84, 85, 86, 76, 77] g82) [68, 69, 70] g92) := sv_mod.sts md86 (by decide)
      have md97 : sv_mod [68, 69, 70, 81, 82, 83, 84, 85, 86, 71, 74, 75, 1127, 78, 79, 80, 72, 76, 77, 1143, 1144, 5, 1011, 1150, 1149, 1145, 1113, 1111, 1112, 91, 1147, 1100031] (sv_sts (sv_sts S [68, 69, 70, 81, 82, 83, 84, 85, 86, 71, 74, 75, 1127, 78, 79, 80, 72, 76, 77, 1143, 1144, 5, 1011, 1150, 1149, 1145, 1113, 1111, 1112, 91, 1147, 1100031] g19) [68, 69, 70, 81, 82, 83, 84, 85, 86, 71, 74, 75, 1127, 78, 79, 80, 72, 76, 77, 1143, 1144, 5, 1011, 1150, 1149, 1145, 1113, 1111, 1112, 1100031] g27) (sv_sts (sv_sts (sv_sts (sv_sts (sv_sts S [68, 69, 70, 81, 82, 83, 84, 85, 86, 71, 74, 75, 1127, 78, 79, 80, 72, 76, 77, 1143, 1144, 5, 1011, 1150, 1149, 1145, 1113, 1111, 1112, 91, 1147, 1100031] g19) [68, 69, 70, 81, 82, 83, 84, 85, 86, 71, 74, 75, 1127, 78, 79, 80, 72, 76, 77, 1143, 1144, 5, 1011, 1150, 1149, 1145, 1113, 1111, 1112, 1100031] g27) [68, 69, 70, 81, 82, 83, 84, 85, 86, 71, 74, 75, 1127, 78, 79, 80, 72, 76, 77, 1143, 1144, 5, 1011, 1150, 1149, 1145, 1113, 1111, 1112, 91, 1147, 1100031] g74) [68, 69, 70, 81, 82, 83, 84, 85, 86, 76, 77] g82) [68, 69, 70] g92) := sv_mod.sts md87 (by decide)
      have h := h g92 hpo95
      refine sv_iload hM dX12_codeWays_125 rfl rfl ?_
      refine sv_iconst (d := (-1 : Int)) hM dX12_codeWays_127 rfl rfl ?_
      refine sv_icmp_eq hM dX12_codeWays_128 hp10 (⟨by decide, by decide⟩ : sv_R (-1 : Int)) (t := 166) rfl rfl (fun hc => ?_) (fun hc => ?_)
      · have h := h.1 (hc)
        refine sv_iload hM dX12_codeWays_166 rfl rfl ?_
        refine sv_iconst (d := (-1 : Int)) hM dX12_codeWays_168 rfl rfl ?_
        refine sv_icmp_eq hM dX12_codeWays_169 hp10 (⟨by decide, by decide⟩ : sv_R (-1 : Int)) (t := 181) rfl rfl (fun hc => ?_) (fun hc => ?_)
        · have h := h.1 (hc)
          refine sv_aload_n hM dX12_codeWays_181 rfl rfl ?_
          refine sv_iload hM dX12_codeWays_182 rfl rfl ?_
          refine sv_iload hM dX12_codeWays_184 rfl rfl ?_
          obtain ⟨o98, h⟩ := h
          refine sv_callV hM dX12_codeWays_186 sm_iv_1258 (by decide) (sm_a0 _) rfl rfl (Nat.le_of_ble_eq_true rfl) sm_h267 (Nat.le_of_ble_eq_true rfl) (Nat.le_of_ble_eq_true rfl) (F' := 5) (Nat.le_of_ble_eq_true rfl) rfl (t_replace p9 (647751 : Int) (sv_sts (sv_sts (sv_sts (sv_sts (sv_sts S [68, 69, 70, 81, 82, 83, 84, 85, 86, 71, 74, 75, 1127, 78, 79, 80, 72, 76, 77, 1143, 1144, 5, 1011, 1150, 1149, 1145, 1113, 1111, 1112, 91, 1147, 1100031] g19) [68, 69, 70, 81, 82, 83, 84, 85, 86, 71, 74, 75, 1127, 78, 79, 80, 72, 76, 77, 1143, 1144, 5, 1011, 1150, 1149, 1145, 1113, 1111, 1112, 1100031] g27) [68, 69, 70, 81, 82, 83, 84, 85, 86, 71, 74, 75, 1127, 78, 79, 80, 72, 76, 77, 1143, 1144, 5, 1011, 1150, 1149, 1145, 1113, 1111, 1112, 91, 1147, 1100031] g74) [68, 69, 70, 81, 82, 83, 84, 85, 86, 76, 77] g82) [68, 69, 70] g92) ok93 hp9 (⟨by decide, by decide⟩ : sv_R (647751 : Int)) o98) (fun v S1 hq => ?_)
          obtain ⟨rfl, ok100, md101, hpo102⟩ := hq
          obtain ⟨g99, rfl⟩ : ∃ g, S1 = sv_sts (sv_sts (sv_sts (sv_sts (sv_sts (sv_sts S [68, 69, 70, 81, 82, 83, 84, 85, 86, 71, 74, 75, 1127, 78, 79, 80, 72, 76, 77, 1143, 1144, 5, 1011, 1150, 1149, 1145, 1113, 1111, 1112, 91, 1147, 1100031] g19) [68, 69, 70, 81, 82, 83, 84, 85, 86, 71, 74, 75, 1127, 78, 79, 80, 72, 76, 77, 1143, 1144, 5, 1011, 1150, 1149, 1145, 1113, 1111, 1112, 1100031] g27) [68, 69, 70, 81, 82, 83, 84, 85, 86, 71, 74, 75, 1127, 78, 79, 80, 72, 76, 77, 1143, 1144, 5, 1011, 1150, 1149, 1145, 1113, 1111, 1112, 91, 1147, 1100031] g74) [68, 69, 70, 81, 82, 83, 84, 85, 86, 76, 77] g82) [68, 69, 70] g92) [68, 69, 70, 81, 82, 83, 84, 85, 86, 71, 74, 75, 1127, 78, 79, 80, 72, 76, 77, 1150] g := ⟨_, md101.eq⟩
          show sv_T sm_XS sm_cs sm_L sm_sh 6 (q_codeWays p1 p2 p4 p6 p7 p8 p9 p10 S) 284 189 [(0, .ref 0), (1, sv_I p1), (2, sv_L p2), (4, sv_L p4), (6, sv_I p6), (7, sv_I p7), (8, sv_I p8), (9, sv_I p9), (10, sv_I p10), (11, sv_I x2), (12, sv_I r10), (13, sv_I r17), (14, sv_I x33), (15, sv_I (647751 : Int))] [] (sv_sts (sv_sts (sv_sts (sv_sts (sv_sts (sv_sts S [68, 69, 70, 81, 82, 83, 84, 85, 86, 71, 74, 75, 1127, 78, 79, 80, 72, 76, 77, 1143, 1144, 5, 1011, 1150, 1149, 1145, 1113, 1111, 1112, 91, 1147, 1100031] g19) [68, 69, 70, 81, 82, 83, 84, 85, 86, 71, 74, 75, 1127, 78, 79, 80, 72, 76, 77, 1143, 1144, 5, 1011, 1150, 1149, 1145, 1113, 1111, 1112, 1100031] g27) [68, 69, 70, 81, 82, 83, 84, 85, 86, 71, 74, 75, 1127, 78, 79, 80, 72, 76, 77, 1143, 1144, 5, 1011, 1150, 1149, 1145, 1113, 1111, 1112, 91, 1147, 1100031] g74) [68, 69, 70, 81, 82, 83, 84, 85, 86, 76, 77] g82) [68, 69, 70] g92) [68, 69, 70, 81, 82, 83, 84, 85, 86, 71, 74, 75, 1127, 78, 79, 80, 72, 76, 77, 1150] g99)
          have md103 : sv_mod [68, 69, 70, 81, 82, 83, 84, 85, 86, 71, 74, 75, 1127, 78, 79, 80, 72, 76, 77, 1143, 1144, 5, 1011, 1150, 1149, 1145, 1113, 1111, 1112, 91, 1147, 1100031] S (sv_sts (sv_sts (sv_sts (sv_sts (sv_sts (sv_sts S [68, 69, 70, 81, 82, 83, 84, 85, 86, 71, 74, 75, 1127, 78, 79, 80, 72, 76, 77, 1143, 1144, 5, 1011, 1150, 1149, 1145, 1113, 1111, 1112, 91, 1147, 1100031] g19) [68, 69, 70, 81, 82, 83, 84, 85, 86, 71, 74, 75, 1127, 78, 79, 80, 72, 76, 77, 1143, 1144, 5, 1011, 1150, 1149, 1145, 1113, 1111, 1112, 1100031] g27) [68, 69, 70, 81, 82, 83, 84, 85, 86, 71, 74, 75, 1127, 78, 79, 80, 72, 76, 77, 1143, 1144, 5, 1011, 1150, 1149, 1145, 1113, 1111, 1112, 91, 1147, 1100031] g74) [68, 69, 70, 81, 82, 83, 84, 85, 86, 76, 77] g82) [68, 69, 70] g92) [68, 69, 70, 81, 82, 83, 84, 85, 86, 71, 74, 75, 1127, 78, 79, 80, 72, 76, 77, 1150] g99) := sv_mod.sts md96 (by decide)
          have md104 : sv_mod [68, 69, 70, 81, 82, 83, 84, 85, 86, 71, 74, 75, 1127, 78, 79, 80, 72, 76, 77, 1143, 1144, 5, 1011, 1150, 1149, 1145, 1113, 1111, 1112, 91, 1147, 1100031] (sv_sts (sv_sts S [68, 69, 70, 81, 82, 83, 84, 85, 86, 71, 74, 75, 1127, 78, 79, 80, 72, 76, 77, 1143, 1144, 5, 1011, 1150, 1149, 1145, 1113, 1111, 1112, 91, 1147, 1100031] g19) [68, 69, 70, 81, 82, 83, 84, 85, 86, 71, 74, 75, 1127, 78, 79, 80, 72, 76, 77, 1143, 1144, 5, 1011, 1150, 1149, 1145, 1113, 1111, 1112, 1100031] g27) (sv_sts (sv_sts (sv_sts (sv_sts (sv_sts (sv_sts S [68, 69, 70, 81, 82, 83, 84, 85, 86, 71, 74, 75, 1127, 78, 79, 80, 72, 76, 77, 1143, 1144, 5, 1011, 1150, 1149, 1145, 1113, 1111, 1112, 91, 1147, 1100031] g19) [68, 69, 70, 81, 82, 83, 84, 85, 86, 71, 74, 75, 1127, 78, 79, 80, 72, 76, 77, 1143, 1144, 5, 1011, 1150, 1149, 1145, 1113, 1111, 1112, 1100031] g27) [68, 69, 70, 81, 82, 83, 84, 85, 86, 71, 74, 75, 1127, 78, 79, 80, 72, 76, 77, 1143, 1144, 5, 1011, 1150, 1149, 1145, 1113, 1111, 1112, 91, 1147, 1100031] g74) [68, 69, 70, 81, 82, 83, 84, 85, 86, 76, 77] g82) [68, 69, 70] g92) [68, 69, 70, 81, 82, 83, 84, 85, 86, 71, 74, 75, 1127, 78, 79, 80, 72, 76, 77, 1150] g99) := sv_mod.sts md97 (by decide)
          have h := h g99 hpo102
          have eS := sv_mod.eq md104
          have hb := J70 (sv_sts (sv_sts (sv_sts (sv_sts (sv_sts (sv_sts S [68, 69, 70, 81, 82, 83, 84, 85, 86, 71, 74, 75, 1127, 78, 79, 80, 72, 76, 77, 1143, 1144, 5, 1011, 1150, 1149, 1145, 1113, 1111, 1112, 91, 1147, 1100031] g19) [68, 69, 70, 81, 82, 83, 84, 85, 86, 71, 74, 75, 1127, 78, 79, 80, 72, 76, 77, 1143, 1144, 5, 1011, 1150, 1149, 1145, 1113, 1111, 1112, 1100031] g27) [68, 69, 70, 81, 82, 83, 84, 85, 86, 71, 74, 75, 1127, 78, 79, 80, 72, 76, 77, 1143, 1144, 5, 1011, 1150, 1149, 1145, 1113, 1111, 1112, 91, 1147, 1100031] g74) [68, 69, 70, 81, 82, 83, 84, 85, 86, 76, 77] g82) [68, 69, 70] g92) [68, 69, 70, 81, 82, 83, 84, 85, 86, 71, 74, 75, 1127, 78, 79, 80, 72, 76, 77, 1150] g99) (by rw [← eS]; exact ok100) h
          have hb : sv_T sm_XS sm_cs sm_L sm_sh 6 (q_codeWays p1 p2 p4 p6 p7 p8 p9 p10 S) 284 189 [(0, .ref 0), (1, sv_I p1), (2, sv_L p2), (4, sv_L p4), (6, sv_I p6), (7, sv_I p7), (8, sv_I p8), (9, sv_I p9), (10, sv_I p10), (11, sv_I x2), (12, sv_I r10), (13, sv_I r17), (14, sv_I x33)] [] (sv_sts (sv_sts (sv_sts (sv_sts (sv_sts (sv_sts S [68, 69, 70, 81, 82, 83, 84, 85, 86, 71, 74, 75, 1127, 78, 79, 80, 72, 76, 77, 1143, 1144, 5, 1011, 1150, 1149, 1145, 1113, 1111, 1112, 91, 1147, 1100031] g19) [68, 69, 70, 81, 82, 83, 84, 85, 86, 71, 74, 75, 1127, 78, 79, 80, 72, 76, 77, 1143, 1144, 5, 1011, 1150, 1149, 1145, 1113, 1111, 1112, 1100031] g27) [68, 69, 70, 81, 82, 83, 84, 85, 86, 71, 74, 75, 1127, 78, 79, 80, 72, 76, 77, 1143, 1144, 5, 1011, 1150, 1149, 1145, 1113, 1111, 1112, 91, 1147, 1100031] g74) [68, 69, 70, 81, 82, 83, 84, 85, 86, 76, 77] g82) [68, 69, 70] g92) [68, 69, 70, 81, 82, 83, 84, 85, 86, 71, 74, 75, 1127, 78, 79, 80, 72, 76, 77, 1150] g99) := Eq.mpr (congrArg (fun Z => sv_T sm_XS sm_cs sm_L sm_sh 6 (q_codeWays p1 p2 p4 p6 p7 p8 p9 p10 S) 284 189 [(0, .ref 0), (1, sv_I p1), (2, sv_L p2), (4, sv_L p4), (6, sv_I p6), (7, sv_I p7), (8, sv_I p8), (9, sv_I p9), (10, sv_I p10), (11, sv_I x2), (12, sv_I r10), (13, sv_I r17), (14, sv_I x33)] [] Z) eS) hb
          exact sv_less (lv := [(0, .ref 0), (1, sv_I p1), (2, sv_L p2), (4, sv_L p4), (6, sv_I p6), (7, sv_I p7), (8, sv_I p8), (9, sv_I p9), (10, sv_I p10), (11, sv_I x2), (12, sv_I r10), (13, sv_I r17), (14, sv_I x33)]) (sv_Sub_cons rfl (sv_Sub_cons rfl (sv_Sub_cons rfl (sv_Sub_cons rfl (sv_Sub_cons rfl (sv_Sub_cons rfl (sv_Sub_cons rfl (sv_Sub_cons rfl (sv_Sub_cons rfl (sv_Sub_cons rfl (sv_Sub_cons rfl (sv_Sub_cons rfl (sv_Sub_cons rfl sv_Sub_nil))))))))))))) hb
        · have h := h.2 (hc)
          refine sv_aload_n hM dX12_codeWays_172 rfl rfl ?_
          refine sv_iload hM dX12_codeWays_173 rfl rfl ?_
          refine sv_iconst (d := (0 : Int)) hM dX12_codeWays_175 rfl rfl ?_
          refine sv_iconst (d := (0 : Int)) hM dX12_codeWays_176 rfl rfl ?_
          refine sv_iconst (d := (0 : Int)) hM dX12_codeWays_177 rfl rfl ?_
          obtain ⟨o105, h⟩ := h
          refine sv_callV hM dX12_codeWays_178 sm_iv_1056 (by decide) (sm_a0 _) rfl rfl (Nat.le_of_ble_eq_true rfl) sm_h205 (Nat.le_of_ble_eq_true rfl) (Nat.le_of_ble_eq_true rfl) (F' := 0) (Nat.le_of_ble_eq_true rfl) rfl (t_write (647751 : Int) (0 : Int) (0 : Int) (0 : Int) (sv_sts (sv_sts (sv_sts (sv_sts (sv_sts S [68, 69, 70, 81, 82, 83, 84, 85, 86, 71, 74, 75, 1127, 78, 79, 80, 72, 76, 77, 1143, 1144, 5, 1011, 1150, 1149, 1145, 1113, 1111, 1112, 91, 1147, 1100031] g19) [68, 69, 70, 81, 82, 83, 84, 85, 86, 71, 74, 75, 1127, 78, 79, 80, 72, 76, 77, 1143, 1144, 5, 1011, 1150, 1149, 1145, 1113, 1111, 1112, 1100031] g27) [68, 69, 70, 81, 82, 83, 84, 85, 86, 71, 74, 75, 1127, 78, 79, 80, 72, 76, 77, 1143, 1144, 5, 1011, 1150, 1149, 1145, 1113, 1111, 1112, 91, 1147, 1100031] g74) [68, 69, 70, 81, 82, 83, 84, 85, 86, 76, 77] g82) [68, 69, 70] g92) ok93 (⟨by decide, by decide⟩ : sv_R (647751 : Int)) (⟨by decide, by decide⟩ : sv_R (0 : Int)) (⟨by decide, by decide⟩ : sv_R (0 : Int)) (⟨by decide, by decide⟩ : sv_R (0 : Int)) o105) (fun v S1 hq => ?_)
          obtain ⟨rfl, ok107, md108, hpo109⟩ := hq
          obtain ⟨g106, rfl⟩ : ∃ g, S1 = sv_sts (sv_sts (sv_sts (sv_sts (sv_sts (sv_sts S [68, 69, 70, 81, 82, 83, 84, 85, 86, 71, 74, 75, 1127, 78, 79, 80, 72, 76, 77, 1143, 1144, 5, 1011, 1150, 1149, 1145, 1113, 1111, 1112, 91, 1147, 1100031] g19) [68, 69, 70, 81, 82, 83, 84, 85, 86, 71, 74, 75, 1127, 78, 79, 80, 72, 76, 77, 1143, 1144, 5, 1011, 1150, 1149, 1145, 1113, 1111, 1112, 1100031] g27) [68, 69, 70, 81, 82, 83, 84, 85, 86, 71, 74, 75, 1127, 78, 79, 80, 72, 76, 77, 1143, 1144, 5, 1011, 1150, 1149, 1145, 1113, 1111, 1112, 91, 1147, 1100031] g74) [68, 69, 70, 81, 82, 83, 84, 85, 86, 76, 77] g82) [68, 69, 70] g92) [68] g := ⟨_, md108.eq⟩
          show sv_T sm_XS sm_cs sm_L sm_sh 6 (q_codeWays p1 p2 p4 p6 p7 p8 p9 p10 S) 284 181 [(0, .ref 0), (1, sv_I p1), (2, sv_L p2), (4, sv_L p4), (6, sv_I p6), (7, sv_I p7), (8, sv_I p8), (9, sv_I p9), (10, sv_I p10), (11, sv_I x2), (12, sv_I r10), (13, sv_I r17), (14, sv_I x33), (15, sv_I (647751 : Int))] [] (sv_sts (sv_sts (sv_sts (sv_sts (sv_sts (sv_sts S [68, 69, 70, 81, 82, 83, 84, 85, 86, 71, 74, 75, 1127, 78, 79, 80, 72, 76, 77, 1143, 1144, 5, 1011, 1150, 1149, 1145, 1113, 1111, 1112, 91, 1147, 1100031] g19) [68, 69, 70, 81, 82, 83, 84, 85, 86, 71, 74, 75, 1127, 78, 79, 80, 72, 76, 77, 1143, 1144, 5, 1011, 1150, 1149, 1145, 1113, 1111, 1112, 1100031] g27) [68, 69, 70, 81, 82, 83, 84, 85, 86, 71, 74, 75, 1127, 78, 79, 80, 72, 76, 77, 1143, 1144, 5, 1011, 1150, 1149, 1145, 1113, 1111, 1112, 91, 1147, 1100031] g74) [68, 69, 70, 81, 82, 83, 84, 85, 86, 76, 77] g82) [68, 69, 70] g92) [68] g106)
          have md110 : sv_mod [68, 69, 70, 81, 82, 83, 84, 85, 86, 71, 74, 75, 1127, 78, 79, 80, 72, 76, 77, 1143, 1144, 5, 1011, 1150, 1149, 1145, 1113, 1111, 1112, 91, 1147, 1100031] S (sv_sts (sv_sts (sv_sts (sv_sts (sv_sts (sv_sts S [68, 69, 70, 81, 82, 83, 84, 85, 86, 71, 74, 75, 1127, 78, 79, 80, 72, 76, 77, 1143, 1144, 5, 1011, 1150, 1149, 1145, 1113, 1111, 1112, 91, 1147, 1100031] g19) [68, 69, 70, 81, 82, 83, 84, 85, 86, 71, 74, 75, 1127, 78, 79, 80, 72, 76, 77, 1143, 1144, 5, 1011, 1150, 1149, 1145, 1113, 1111, 1112, 1100031] g27) [68, 69, 70, 81, 82, 83, 84, 85, 86, 71, 74, 75, 1127, 78, 79, 80, 72, 76, 77, 1143, 1144, 5, 1011, 1150, 1149, 1145, 1113, 1111, 1112, 91, 1147, 1100031] g74) [68, 69, 70, 81, 82, 83, 84, 85, 86, 76, 77] g82) [68, 69, 70] g92) [68] g106) := sv_mod.sts md96 (by decide)
          have md111 : sv_mod [68, 69, 70, 81, 82, 83, 84, 85, 86, 71, 74, 75, 1127, 78, 79, 80, 72, 76, 77, 1143, 1144, 5, 1011, 1150, 1149, 1145, 1113, 1111, 1112, 91, 1147, 1100031] (sv_sts (sv_sts S [68, 69, 70, 81, 82, 83, 84, 85, 86, 71, 74, 75, 1127, 78, 79, 80, 72, 76, 77, 1143, 1144, 5, 1011, 1150, 1149, 1145, 1113, 1111, 1112, 91, 1147, 1100031] g19) [68, 69, 70, 81, 82, 83, 84, 85, 86, 71, 74, 75, 1127, 78, 79, 80, 72, 76, 77, 1143, 1144, 5, 1011, 1150, 1149, 1145, 1113, 1111, 1112, 1100031] g27) (sv_sts (sv_sts (sv_sts (sv_sts (sv_sts (sv_sts S [68, 69, 70, 81, 82, 83, 84, 85, 86, 71, 74, 75, 1127, 78, 79, 80, 72, 76, 77, 1143, 1144, 5, 1011, 1150, 1149, 1145, 1113, 1111, 1112, 91, 1147, 1100031] g19) [68, 69, 70, 81, 82, 83, 84, 85, 86, 71, 74, 75, 1127, 78, 79, 80, 72, 76, 77, 1143, 1144, 5, 1011, 1150, 1149, 1145, 1113, 1111, 1112, 1100031] g27) [68, 69, 70, 81, 82, 83, 84, 85, 86, 71, 74, 75, 1127, 78, 79, 80, 72, 76, 77, 1143, 1144, 5, 1011, 1150, 1149, 1145, 1113, 1111, 1112, 91, 1147, 1100031] g74) [68, 69, 70, 81, 82, 83, 84, 85, 86, 76, 77] g82) [68, 69, 70] g92) [68] g106) := sv_mod.sts md97 (by decide)
          have h := h g106 hpo109
          refine sv_aload_n hM dX12_codeWays_181 rfl rfl ?_
          refine sv_iload hM dX12_codeWays_182 rfl rfl ?_
          refine sv_iload hM dX12_codeWays_184 rfl rfl ?_
          obtain ⟨o112, h⟩ := h
          refine sv_callV hM dX12_codeWays_186 sm_iv_1258 (by decide) (sm_a0 _) rfl rfl (Nat.le_of_ble_eq_true rfl) sm_h267 (Nat.le_of_ble_eq_true rfl) (Nat.le_of_ble_eq_true rfl) (F' := 5) (Nat.le_of_ble_eq_true rfl) rfl (t_replace p9 (647751 : Int) (sv_sts (sv_sts (sv_sts (sv_sts (sv_sts (sv_sts S [68, 69, 70, 81, 82, 83, 84, 85, 86, 71, 74, 75, 1127, 78, 79, 80, 72, 76, 77, 1143, 1144, 5, 1011, 1150, 1149, 1145, 1113, 1111, 1112, 91, 1147, 1100031] g19) [68, 69, 70, 81, 82, 83, 84, 85, 86, 71, 74, 75, 1127, 78, 79, 80, 72, 76, 77, 1143, 1144, 5, 1011, 1150, 1149, 1145, 1113, 1111, 1112, 1100031] g27) [68, 69, 70, 81, 82, 83, 84, 85, 86, 71, 74, 75, 1127, 78, 79, 80, 72, 76, 77, 1143, 1144, 5, 1011, 1150, 1149, 1145, 1113, 1111, 1112, 91, 1147, 1100031] g74) [68, 69, 70, 81, 82, 83, 84, 85, 86, 76, 77] g82) [68, 69, 70] g92) [68] g106) ok107 hp9 (⟨by decide, by decide⟩ : sv_R (647751 : Int)) o112) (fun v S1 hq => ?_)
          obtain ⟨rfl, ok114, md115, hpo116⟩ := hq
          obtain ⟨g113, rfl⟩ : ∃ g, S1 = sv_sts (sv_sts (sv_sts (sv_sts (sv_sts (sv_sts (sv_sts S [68, 69, 70, 81, 82, 83, 84, 85, 86, 71, 74, 75, 1127, 78, 79, 80, 72, 76, 77, 1143, 1144, 5, 1011, 1150, 1149, 1145, 1113, 1111, 1112, 91, 1147, 1100031] g19) [68, 69, 70, 81, 82, 83, 84, 85, 86, 71, 74, 75, 1127, 78, 79, 80, 72, 76, 77, 1143, 1144, 5, 1011, 1150, 1149, 1145, 1113, 1111, 1112, 1100031] g27) [68, 69, 70, 81, 82, 83, 84, 85, 86, 71, 74, 75, 1127, 78, 79, 80, 72, 76, 77, 1143, 1144, 5, 1011, 1150, 1149, 1145, 1113, 1111, 1112, 91, 1147, 1100031] g74) [68, 69, 70, 81, 82, 83, 84, 85, 86, 76, 77] g82) [68, 69, 70] g92) [68] g106) [68, 69, 70, 81, 82, 83, 84, 85, 86, 71, 74, 75, 1127, 78, 79, 80, 72, 76, 77, 1150] g := ⟨_, md115.eq⟩
          show sv_T sm_XS sm_cs sm_L sm_sh 6 (q_codeWays p1 p2 p4 p6 p7 p8 p9 p10 S) 284 189 [(0, .ref 0), (1, sv_I p1), (2, sv_L p2), (4, sv_L p4), (6, sv_I p6), (7, sv_I p7), (8, sv_I p8), (9, sv_I p9), (10, sv_I p10), (11, sv_I x2), (12, sv_I r10), (13, sv_I r17), (14, sv_I x33), (15, sv_I (647751 : Int))] [] (sv_sts (sv_sts (sv_sts (sv_sts (sv_sts (sv_sts (sv_sts S [68, 69, 70, 81, 82, 83, 84, 85, 86, 71, 74, 75, 1127, 78, 79, 80, 72, 76, 77, 1143, 1144, 5, 1011, 1150, 1149, 1145, 1113, 1111, 1112, 91, 1147, 1100031] g19) [68, 69, 70, 81, 82, 83, 84, 85, 86, 71, 74, 75, 1127, 78, 79, 80, 72, 76, 77, 1143, 1144, 5, 1011, 1150, 1149, 1145, 1113, 1111, 1112, 1100031] g27) [68, 69, 70, 81, 82, 83, 84, 85, 86, 71, 74, 75, 1127, 78, 79, 80, 72, 76, 77, 1143, 1144, 5, 1011, 1150, 1149, 1145, 1113, 1111, 1112, 91, 1147, 1100031] g74) [68, 69, 70, 81, 82, 83, 84, 85, 86, 76, 77] g82) [68, 69, 70] g92) [68] g106) [68, 69, 70, 81, 82, 83, 84, 85, 86, 71, 74, 75, 1127, 78, 79, 80, 72, 76, 77, 1150] g113)
          have md117 : sv_mod [68, 69, 70, 81, 82, 83, 84, 85, 86, 71, 74, 75, 1127, 78, 79, 80, 72, 76, 77, 1143, 1144, 5, 1011, 1150, 1149, 1145, 1113, 1111, 1112, 91, 1147, 1100031] S (sv_sts (sv_sts (sv_sts (sv_sts (sv_sts (sv_sts (sv_sts S [68, 69, 70, 81, 82, 83, 84, 85, 86, 71, 74, 75, 1127, 78, 79, 80, 72, 76, 77, 1143, 1144, 5, 1011, 1150, 1149, 1145, 1113, 1111, 1112, 91, 1147, 1100031] g19) [68, 69, 70, 81, 82, 83, 84, 85, 86, 71, 74, 75, 1127, 78, 79, 80, 72, 76, 77, 1143, 1144, 5, 1011, 1150, 1149, 1145, 1113, 1111, 1112, 1100031] g27) [68, 69, 70, 81, 82, 83, 84, 85, 86, 71, 74, 75, 1127, 78, 79, 80, 72, 76, 77, 1143, 1144, 5, 1011, 1150, 1149, 1145, 1113, 1111, 1112, 91, 1147, 1100031] g74) [68, 69, 70, 81, 82, 83, 84, 85, 86, 76, 77] g82) [68, 69, 70] g92) [68] g106) [68, 69, 70, 81, 82, 83, 84, 85, 86, 71, 74, 75, 1127, 78, 79, 80, 72, 76, 77, 1150] g113) := sv_mod.sts md110 (by decide)
          have md118 : sv_mod [68, 69, 70, 81, 82, 83, 84, 85, 86, 71, 74, 75, 1127, 78, 79, 80, 72, 76, 77, 1143, 1144, 5, 1011, 1150, 1149, 1145, 1113, 1111, 1112, 91, 1147, 1100031] (sv_sts (sv_sts S [68, 69, 70, 81, 82, 83, 84, 85, 86, 71, 74, 75, 1127, 78, 79, 80, 72, 76, 77, 1143, 1144, 5, 1011, 1150, 1149, 1145, 1113, 1111, 1112, 91, 1147, 1100031] g19) [68, 69, 70, 81, 82, 83, 84, 85, 86, 71, 74, 75, 1127, 78, 79, 80, 72, 76, 77, 1143, 1144, 5, 1011, 1150, 1149, 1145, 1113, 1111, 1112, 1100031] g27) (sv_sts (sv_sts (sv_sts (sv_sts (sv_sts (sv_sts (sv_sts S [68, 69, 70, 81, 82, 83, 84, 85, 86, 71, 74, 75, 1127, 78, 79, 80, 72, 76, 77, 1143, 1144, 5, 1011, 1150, 1149, 1145, 1113, 1111, 1112, 91, 1147, 1100031] g19) [68, 69, 70, 81, 82, 83, 84, 85, 86, 71, 74, 75, 1127, 78, 79, 80, 72, 76, 77, 1143, 1144, 5, 1011, 1150, 1149, 1145, 1113, 1111, 1112, 1100031] g27) [68, 69, 70, 81, 82, 83, 84, 85, 86, 71, 74, 75, 1127, 78, 79, 80, 72, 76, 77, 1143, 1144, 5, 1011, 1150, 1149, 1145, 1113, 1111, 1112, 91, 1147, 1100031] g74) [68, 69, 70, 81, 82, 83, 84, 85, 86, 76, 77] g82) [68, 69, 70] g92) [68] g106) [68, 69, 70, 81, 82, 83, 84, 85, 86, 71, 74, 75, 1127, 78, 79, 80, 72, 76, 77, 1150] g113) := sv_mod.sts md111 (by decide)
          have h := h g113 hpo116
          have eS := sv_mod.eq md118
          have hb := J70 (sv_sts (sv_sts (sv_sts (sv_sts (sv_sts (sv_sts (sv_sts S [68, 69, 70, 81, 82, 83, 84, 85, 86, 71, 74, 75, 1127, 78, 79, 80, 72, 76, 77, 1143, 1144, 5, 1011, 1150, 1149, 1145, 1113, 1111, 1112, 91, 1147, 1100031] g19) [68, 69, 70, 81, 82, 83, 84, 85, 86, 71, 74, 75, 1127, 78, 79, 80, 72, 76, 77, 1143, 1144, 5, 1011, 1150, 1149, 1145, 1113, 1111, 1112, 1100031] g27) [68, 69, 70, 81, 82, 83, 84, 85, 86, 71, 74, 75, 1127, 78, 79, 80, 72, 76, 77, 1143, 1144, 5, 1011, 1150, 1149, 1145, 1113, 1111, 1112, 91, 1147, 1100031] g74) [68, 69, 70, 81, 82, 83, 84, 85, 86, 76, 77] g82) [68, 69, 70] g92) [68] g106) [68, 69, 70, 81, 82, 83, 84, 85, 86, 71, 74, 75, 1127, 78, 79, 80, 72, 76, 77, 1150] g113) (by rw [← eS]; exact ok114) h
          have hb : sv_T sm_XS sm_cs sm_L sm_sh 6 (q_codeWays p1 p2 p4 p6 p7 p8 p9 p10 S) 284 189 [(0, .ref 0), (1, sv_I p1), (2, sv_L p2), (4, sv_L p4), (6, sv_I p6), (7, sv_I p7), (8, sv_I p8), (9, sv_I p9), (10, sv_I p10), (11, sv_I x2), (12, sv_I r10), (13, sv_I r17), (14, sv_I x33)] [] (sv_sts (sv_sts (sv_sts (sv_sts (sv_sts (sv_sts (sv_sts S [68, 69, 70, 81, 82, 83, 84, 85, 86, 71, 74, 75, 1127, 78, 79, 80, 72, 76, 77, 1143, 1144, 5, 1011, 1150, 1149, 1145, 1113, 1111, 1112, 91, 1147, 1100031] g19) [68, 69, 70, 81, 82, 83, 84, 85, 86, 71, 74, 75, 1127, 78, 79, 80, 72, 76, 77, 1143, 1144, 5, 1011, 1150, 1149, 1145, 1113, 1111, 1112, 1100031] g27) [68, 69, 70, 81, 82, 83, 84, 85, 86, 71, 74, 75, 1127, 78, 79, 80, 72, 76, 77, 1143, 1144, 5, 1011, 1150, 1149, 1145, 1113, 1111, 1112, 91, 1147, 1100031] g74) [68, 69, 70, 81, 82, 83, 84, 85, 86, 76, 77] g82) [68, 69, 70] g92) [68] g106) [68, 69, 70, 81, 82, 83, 84, 85, 86, 71, 74, 75, 1127, 78, 79, 80, 72, 76, 77, 1150] g113) := Eq.mpr (congrArg (fun Z => sv_T sm_XS sm_cs sm_L sm_sh 6 (q_codeWays p1 p2 p4 p6 p7 p8 p9 p10 S) 284 189 [(0, .ref 0), (1, sv_I p1), (2, sv_L p2), (4, sv_L p4), (6, sv_I p6), (7, sv_I p7), (8, sv_I p8), (9, sv_I p9), (10, sv_I p10), (11, sv_I x2), (12, sv_I r10), (13, sv_I r17), (14, sv_I x33)] [] Z) eS) hb
          exact sv_less (lv := [(0, .ref 0), (1, sv_I p1), (2, sv_L p2), (4, sv_L p4), (6, sv_I p6), (7, sv_I p7), (8, sv_I p8), (9, sv_I p9), (10, sv_I p10), (11, sv_I x2), (12, sv_I r10), (13, sv_I r17), (14, sv_I x33)]) (sv_Sub_cons rfl (sv_Sub_cons rfl (sv_Sub_cons rfl (sv_Sub_cons rfl (sv_Sub_cons rfl (sv_Sub_cons rfl (sv_Sub_cons rfl (sv_Sub_cons rfl (sv_Sub_cons rfl (sv_Sub_cons rfl (sv_Sub_cons rfl (sv_Sub_cons rfl (sv_Sub_cons rfl sv_Sub_nil))))))))))))) hb
      · have h := h.2 (hc)
        refine sv_aload_n hM dX12_codeWays_131 rfl rfl ?_
        refine sv_iload hM dX12_codeWays_132 rfl rfl ?_
        obtain ⟨o119, h⟩ := h
        refine sv_callV hM dX12_codeWays_134 sm_iv_1059 (by decide) (sm_a0 _) rfl rfl (Nat.le_of_ble_eq_true rfl) sm_h210 (Nat.le_of_ble_eq_true rfl) (Nat.le_of_ble_eq_true rfl) (F' := 1) (Nat.le_of_ble_eq_true rfl) rfl (t_plainly (647751 : Int) (sv_sts (sv_sts (sv_sts (sv_sts (sv_sts S [68, 69, 70, 81, 82, 83, 84, 85, 86, 71, 74, 75, 1127, 78, 79, 80, 72, 76, 77, 1143, 1144, 5, 1011, 1150, 1149, 1145, 1113, 1111, 1112, 91, 1147, 1100031] g19) [68, 69, 70, 81, 82, 83, 84, 85, 86, 71, 74, 75, 1127, 78, 79, 80, 72, 76, 77, 1143, 1144, 5, 1011, 1150, 1149, 1145, 1113, 1111, 1112, 1100031] g27) [68, 69, 70, 81, 82, 83, 84, 85, 86, 71, 74, 75, 1127, 78, 79, 80, 72, 76, 77, 1143, 1144, 5, 1011, 1150, 1149, 1145, 1113, 1111, 1112, 91, 1147, 1100031] g74) [68, 69, 70, 81, 82, 83, 84, 85, 86, 76, 77] g82) [68, 69, 70] g92) ok93 (⟨by decide, by decide⟩ : sv_R (647751 : Int)) o119) (fun v S1 hq => ?_)
        obtain ⟨r124, rfl, hr124, ok121, md122, hpo123⟩ := hq
        obtain rfl : (sv_sts (sv_sts (sv_sts (sv_sts (sv_sts S [68, 69, 70, 81, 82, 83, 84, 85, 86, 71, 74, 75, 1127, 78, 79, 80, 72, 76, 77, 1143, 1144, 5, 1011, 1150, 1149, 1145, 1113, 1111, 1112, 91, 1147, 1100031] g19) [68, 69, 70, 81, 82, 83, 84, 85, 86, 71, 74, 75, 1127, 78, 79, 80, 72, 76, 77, 1143, 1144, 5, 1011, 1150, 1149, 1145, 1113, 1111, 1112, 1100031] g27) [68, 69, 70, 81, 82, 83, 84, 85, 86, 71, 74, 75, 1127, 78, 79, 80, 72, 76, 77, 1143, 1144, 5, 1011, 1150, 1149, 1145, 1113, 1111, 1112, 91, 1147, 1100031] g74) [68, 69, 70, 81, 82, 83, 84, 85, 86, 76, 77] g82) [68, 69, 70] g92) = S1 := (funext fun j => md122 j (by intro q; cases q)).symm
        show sv_T sm_XS sm_cs sm_L sm_sh 6 (q_codeWays p1 p2 p4 p6 p7 p8 p9 p10 S) 284 137 [(0, .ref 0), (1, sv_I p1), (2, sv_L p2), (4, sv_L p4), (6, sv_I p6), (7, sv_I p7), (8, sv_I p8), (9, sv_I p9), (10, sv_I p10), (11, sv_I x2), (12, sv_I r10), (13, sv_I r17), (14, sv_I x33), (15, sv_I (647751 : Int))] [sv_I r124] (sv_sts (sv_sts (sv_sts (sv_sts (sv_sts S [68, 69, 70, 81, 82, 83, 84, 85, 86, 71, 74, 75, 1127, 78, 79, 80, 72, 76, 77, 1143, 1144, 5, 1011, 1150, 1149, 1145, 1113, 1111, 1112, 91, 1147, 1100031] g19) [68, 69, 70, 81, 82, 83, 84, 85, 86, 71, 74, 75, 1127, 78, 79, 80, 72, 76, 77, 1143, 1144, 5, 1011, 1150, 1149, 1145, 1113, 1111, 1112, 1100031] g27) [68, 69, 70, 81, 82, 83, 84, 85, 86, 71, 74, 75, 1127, 78, 79, 80, 72, 76, 77, 1143, 1144, 5, 1011, 1150, 1149, 1145, 1113, 1111, 1112, 91, 1147, 1100031] g74) [68, 69, 70, 81, 82, 83, 84, 85, 86, 76, 77] g82) [68, 69, 70] g92)
        have h := h r124 hr124 hpo123
        refine sv_cond_eq hM dX12_codeWays_137 hr124 (t := 166) rfl rfl (fun hc => ?_) (fun hc => ?_)
        · have h := h.1 (hc)
          refine sv_iload hM dX12_codeWays_166 rfl rfl ?_
          refine sv_iconst (d := (-1 : Int)) hM dX12_codeWays_168 rfl rfl ?_
          refine sv_icmp_eq hM dX12_codeWays_169 hp10 (⟨by decide, by decide⟩ : sv_R (-1 : Int)) (t := 181) rfl rfl (fun hc => ?_) (fun hc => ?_)
          · have h := h.1 (hc)
            refine sv_aload_n hM dX12_codeWays_181 rfl rfl ?_
            refine sv_iload hM dX12_codeWays_182 rfl rfl ?_
            refine sv_iload hM dX12_codeWays_184 rfl rfl ?_
            obtain ⟨o125, h⟩ := h
            refine sv_callV hM dX12_codeWays_186 sm_iv_1258 (by decide) (sm_a0 _) rfl rfl (Nat.le_of_ble_eq_true rfl) sm_h267 (Nat.le_of_ble_eq_true rfl) (Nat.le_of_ble_eq_true rfl) (F' := 5) (Nat.le_of_ble_eq_true rfl) rfl (t_replace p9 (647751 : Int) (sv_sts (sv_sts (sv_sts (sv_sts (sv_sts S [68, 69, 70, 81, 82, 83, 84, 85, 86, 71, 74, 75, 1127, 78, 79, 80, 72, 76, 77, 1143, 1144, 5, 1011, 1150, 1149, 1145, 1113, 1111, 1112, 91, 1147, 1100031] g19) [68, 69, 70, 81, 82, 83, 84, 85, 86, 71, 74, 75, 1127, 78, 79, 80, 72, 76, 77, 1143, 1144, 5, 1011, 1150, 1149, 1145, 1113, 1111, 1112, 1100031] g27) [68, 69, 70, 81, 82, 83, 84, 85, 86, 71, 74, 75, 1127, 78, 79, 80, 72, 76, 77, 1143, 1144, 5, 1011, 1150, 1149, 1145, 1113, 1111, 1112, 91, 1147, 1100031] g74) [68, 69, 70, 81, 82, 83, 84, 85, 86, 76, 77] g82) [68, 69, 70] g92) ok121 hp9 (⟨by decide, by decide⟩ : sv_R (647751 : Int)) o125) (fun v S1 hq => ?_)
            obtain ⟨rfl, ok127, md128, hpo129⟩ := hq
            obtain ⟨g126, rfl⟩ : ∃ g, S1 = sv_sts (sv_sts (sv_sts (sv_sts (sv_sts (sv_sts S [68, 69, 70, 81, 82, 83, 84, 85, 86, 71, 74, 75, 1127, 78, 79, 80, 72, 76, 77, 1143, 1144, 5, 1011, 1150, 1149, 1145, 1113, 1111, 1112, 91, 1147, 1100031] g19) [68, 69, 70, 81, 82, 83, 84, 85, 86, 71, 74, 75, 1127, 78, 79, 80, 72, 76, 77, 1143, 1144, 5, 1011, 1150, 1149, 1145, 1113, 1111, 1112, 1100031] g27) [68, 69, 70, 81, 82, 83, 84, 85, 86, 71, 74, 75, 1127, 78, 79, 80, 72, 76, 77, 1143, 1144, 5, 1011, 1150, 1149, 1145, 1113, 1111, 1112, 91, 1147, 1100031] g74) [68, 69, 70, 81, 82, 83, 84, 85, 86, 76, 77] g82) [68, 69, 70] g92) [68, 69, 70, 81, 82, 83, 84, 85, 86, 71, 74, 75, 1127, 78, 79, 80, 72, 76, 77, 1150] g := ⟨_, md128.eq⟩
            show sv_T sm_XS sm_cs sm_L sm_sh 6 (q_codeWays p1 p2 p4 p6 p7 p8 p9 p10 S) 284 189 [(0, .ref 0), (1, sv_I p1), (2, sv_L p2), (4, sv_L p4), (6, sv_I p6), (7, sv_I p7), (8, sv_I p8), (9, sv_I p9), (10, sv_I p10), (11, sv_I x2), (12, sv_I r10), (13, sv_I r17), (14, sv_I x33), (15, sv_I (647751 : Int))] [] (sv_sts (sv_sts (sv_sts (sv_sts (sv_sts (sv_sts S [68, 69, 70, 81, 82, 83, 84, 85, 86, 71, 74, 75, 1127, 78, 79, 80, 72, 76, 77, 1143, 1144, 5, 1011, 1150, 1149, 1145, 1113, 1111, 1112, 91, 1147, 1100031] g19) [68, 69, 70, 81, 82, 83, 84, 85, 86, 71, 74, 75, 1127, 78, 79, 80, 72, 76, 77, 1143, 1144, 5, 1011, 1150, 1149, 1145, 1113, 1111, 1112, 1100031] g27) [68, 69, 70, 81, 82, 83, 84, 85, 86, 71, 74, 75, 1127, 78, 79, 80, 72, 76, 77, 1143, 1144, 5, 1011, 1150, 1149, 1145, 1113, 1111, 1112, 91, 1147, 1100031] g74) [68, 69, 70, 81, 82, 83, 84, 85, 86, 76, 77] g82) [68, 69, 70] g92) [68, 69, 70, 81, 82, 83, 84, 85, 86, 71, 74, 75, 1127, 78, 79, 80, 72, 76, 77, 1150] g126)
            have md130 : sv_mod [68, 69, 70, 81, 82, 83, 84, 85, 86, 71, 74, 75, 1127, 78, 79, 80, 72, 76, 77, 1143, 1144, 5, 1011, 1150, 1149, 1145, 1113, 1111, 1112, 91, 1147, 1100031] S (sv_sts (sv_sts (sv_sts (sv_sts (sv_sts (sv_sts S [68, 69, 70, 81, 82, 83, 84, 85, 86, 71, 74, 75, 1127, 78, 79, 80, 72, 76, 77, 1143, 1144, 5, 1011, 1150, 1149, 1145, 1113, 1111, 1112, 91, 1147, 1100031] g19) [68, 69, 70, 81, 82, 83, 84, 85, 86, 71, 74, 75, 1127, 78, 79, 80, 72, 76, 77, 1143, 1144, 5, 1011, 1150, 1149, 1145, 1113, 1111, 1112, 1100031] g27) [68, 69, 70, 81, 82, 83, 84, 85, 86, 71, 74, 75, 1127, 78, 79, 80, 72, 76, 77, 1143, 1144, 5, 1011, 1150, 1149, 1145, 1113, 1111, 1112, 91, 1147, 1100031] g74) [68, 69, 70, 81, 82, 83, 84, 85, 86, 76, 77] g82) [68, 69, 70] g92) [68, 69, 70, 81, 82, 83, 84, 85, 86, 71, 74, 75, 1127, 78, 79, 80, 72, 76, 77, 1150] g126) := sv_mod.sts md96 (by decide)
            have md131 : sv_mod [68, 69, 70, 81, 82, 83, 84, 85, 86, 71, 74, 75, 1127, 78, 79, 80, 72, 76, 77, 1143, 1144, 5, 1011, 1150, 1149, 1145, 1113, 1111, 1112, 91, 1147, 1100031] (sv_sts (sv_sts S [68, 69, 70, 81, 82, 83, 84, 85, 86, 71, 74, 75, 1127, 78, 79, 80, 72, 76, 77, 1143, 1144, 5, 1011, 1150, 1149, 1145, 1113, 1111, 1112, 91, 1147, 1100031] g19) [68, 69, 70, 81, 82, 83, 84, 85, 86, 71, 74, 75, 1127, 78, 79, 80, 72, 76, 77, 1143, 1144, 5, 1011, 1150, 1149, 1145, 1113, 1111, 1112, 1100031] g27) (sv_sts (sv_sts (sv_sts (sv_sts (sv_sts (sv_sts S [68, 69, 70, 81, 82, 83, 84, 85, 86, 71, 74, 75, 1127, 78, 79, 80, 72, 76, 77, 1143, 1144, 5, 1011, 1150, 1149, 1145, 1113, 1111, 1112, 91, 1147, 1100031] g19) [68, 69, 70, 81, 82, 83, 84, 85, 86, 71, 74, 75, 1127, 78, 79, 80, 72, 76, 77, 1143, 1144, 5, 1011, 1150, 1149, 1145, 1113, 1111, 1112, 1100031] g27) [68, 69, 70, 81, 82, 83, 84, 85, 86, 71, 74, 75, 1127, 78, 79, 80, 72, 76, 77, 1143, 1144, 5, 1011, 1150, 1149, 1145, 1113, 1111, 1112, 91, 1147, 1100031] g74) [68, 69, 70, 81, 82, 83, 84, 85, 86, 76, 77] g82) [68, 69, 70] g92) [68, 69, 70, 81, 82, 83, 84, 85, 86, 71, 74, 75, 1127, 78, 79, 80, 72, 76, 77, 1150] g126) := sv_mod.sts md97 (by decide)
            have h := h g126 hpo129
            have eS := sv_mod.eq md131
            have hb := J70 (sv_sts (sv_sts (sv_sts (sv_sts (sv_sts (sv_sts S [68, 69, 70, 81, 82, 83, 84, 85, 86, 71, 74, 75, 1127, 78, 79, 80, 72, 76, 77, 1143, 1144, 5, 1011, 1150, 1149, 1145, 1113, 1111, 1112, 91, 1147, 1100031] g19) [68, 69, 70, 81, 82, 83, 84, 85, 86, 71, 74, 75, 1127, 78, 79, 80, 72, 76, 77, 1143, 1144, 5, 1011, 1150, 1149, 1145, 1113, 1111, 1112, 1100031] g27) [68, 69, 70, 81, 82, 83, 84, 85, 86, 71, 74, 75, 1127, 78, 79, 80, 72, 76, 77, 1143, 1144, 5, 1011, 1150, 1149, 1145, 1113, 1111, 1112, 91, 1147, 1100031] g74) [68, 69, 70, 81, 82, 83, 84, 85, 86, 76, 77] g82) [68, 69, 70] g92) [68, 69, 70, 81, 82, 83, 84, 85, 86, 71, 74, 75, 1127, 78, 79, 80, 72, 76, 77, 1150] g126) (by rw [← eS]; exact ok127) h
            have hb : sv_T sm_XS sm_cs sm_L sm_sh 6 (q_codeWays p1 p2 p4 p6 p7 p8 p9 p10 S) 284 189 [(0, .ref 0), (1, sv_I p1), (2, sv_L p2), (4, sv_L p4), (6, sv_I p6), (7, sv_I p7), (8, sv_I p8), (9, sv_I p9), (10, sv_I p10), (11, sv_I x2), (12, sv_I r10), (13, sv_I r17), (14, sv_I x33)] [] (sv_sts (sv_sts (sv_sts (sv_sts (sv_sts (sv_sts S [68, 69, 70, 81, 82, 83, 84, 85, 86, 71, 74, 75, 1127, 78, 79, 80, 72, 76, 77, 1143, 1144, 5, 1011, 1150, 1149, 1145, 1113, 1111, 1112, 91, 1147, 1100031] g19) [68, 69, 70, 81, 82, 83, 84, 85, 86, 71, 74, 75, 1127, 78, 79, 80, 72, 76, 77, 1143, 1144, 5, 1011, 1150, 1149, 1145, 1113, 1111, 1112, 1100031] g27) [68, 69, 70, 81, 82, 83, 84, 85, 86, 71, 74, 75, 1127, 78, 79, 80, 72, 76, 77, 1143, 1144, 5, 1011, 1150, 1149, 1145, 1113, 1111, 1112, 91, 1147, 1100031] g74) [68, 69, 70, 81, 82, 83, 84, 85, 86, 76, 77] g82) [68, 69, 70] g92) [68, 69, 70, 81, 82, 83, 84, 85, 86, 71, 74, 75, 1127, 78, 79, 80, 72, 76, 77, 1150] g126) := Eq.mpr (congrArg (fun Z => sv_T sm_XS sm_cs sm_L sm_sh 6 (q_codeWays p1 p2 p4 p6 p7 p8 p9 p10 S) 284 189 [(0, .ref 0), (1, sv_I p1), (2, sv_L p2), (4, sv_L p4), (6, sv_I p6), (7, sv_I p7), (8, sv_I p8), (9, sv_I p9), (10, sv_I p10), (11, sv_I x2), (12, sv_I r10), (13, sv_I r17), (14, sv_I x33)] [] Z) eS) hb
            exact sv_less (lv := [(0, .ref 0), (1, sv_I p1), (2, sv_L p2), (4, sv_L p4), (6, sv_I p6), (7, sv_I p7), (8, sv_I p8), (9, sv_I p9), (10, sv_I p10), (11, sv_I x2), (12, sv_I r10), (13, sv_I r17), (14, sv_I x33)]) (sv_Sub_cons rfl (sv_Sub_cons rfl (sv_Sub_cons rfl (sv_Sub_cons rfl (sv_Sub_cons rfl (sv_Sub_cons rfl (sv_Sub_cons rfl (sv_Sub_cons rfl (sv_Sub_cons rfl (sv_Sub_cons rfl (sv_Sub_cons rfl (sv_Sub_cons rfl (sv_Sub_cons rfl sv_Sub_nil))))))))))))) hb
          · have h := h.2 (hc)
            refine sv_aload_n hM dX12_codeWays_172 rfl rfl ?_
            refine sv_iload hM dX12_codeWays_173 rfl rfl ?_
            refine sv_iconst (d := (0 : Int)) hM dX12_codeWays_175 rfl rfl ?_
            refine sv_iconst (d := (0 : Int)) hM dX12_codeWays_176 rfl rfl ?_
            refine sv_iconst (d := (0 : Int)) hM dX12_codeWays_177 rfl rfl ?_
            refine sv_callV hM dX12_codeWays_178 sm_iv_1056 (by decide) (sm_a0 _) rfl rfl (Nat.le_of_ble_eq_true rfl) sm_h205 (Nat.le_of_ble_eq_true rfl) (Nat.le_of_ble_eq_true rfl) (F' := 0) (Nat.le_of_ble_eq_true rfl) rfl (t_write (647751 : Int) (0 : Int) (0 : Int) (0 : Int) (sv_sts (sv_sts (sv_sts (sv_sts (sv_sts S [68, 69, 70, 81, 82, 83, 84, 85, 86, 71, 74, 75, 1127, 78, 79, 80, 72, 76, 77, 1143, 1144, 5, 1011, 1150, 1149, 1145, 1113, 1111, 1112, 91, 1147, 1100031] g19) [68, 69, 70, 81, 82, 83, 84, 85, 86, 71, 74, 75, 1127, 78, 79, 80, 72, 76, 77, 1143, 1144, 5, 1011, 1150, 1149, 1145, 1113, 1111, 1112, 1100031] g27) [68, 69, 70, 81, 82, 83, 84, 85, 86, 71, 74, 75, 1127, 78, 79, 80, 72, 76, 77, 1143, 1144, 5, 1011, 1150, 1149, 1145, 1113, 1111, 1112, 91, 1147, 1100031] g74) [68, 69, 70, 81, 82, 83, 84, 85, 86, 76, 77] g82) [68, 69, 70] g92) ok121 (⟨by decide, by decide⟩ : sv_R (647751 : Int)) (⟨by decide, by decide⟩ : sv_R (0 : Int)) (⟨by decide, by decide⟩ : sv_R (0 : Int)) (⟨by decide, by decide⟩ : sv_R (0 : Int)) o119) (fun v S1 hq => ?_)
            obtain ⟨rfl, ok133, md134, hpo135⟩ := hq
            obtain ⟨g132, rfl⟩ : ∃ g, S1 = sv_sts (sv_sts (sv_sts (sv_sts (sv_sts (sv_sts S [68, 69, 70, 81, 82, 83, 84, 85, 86, 71, 74, 75, 1127, 78, 79, 80, 72, 76, 77, 1143, 1144, 5, 1011, 1150, 1149, 1145, 1113, 1111, 1112, 91, 1147, 1100031] g19) [68, 69, 70, 81, 82, 83, 84, 85, 86, 71, 74, 75, 1127, 78, 79, 80, 72, 76, 77, 1143, 1144, 5, 1011, 1150, 1149, 1145, 1113, 1111, 1112, 1100031] g27) [68, 69, 70, 81, 82, 83, 84, 85, 86, 71, 74, 75, 1127, 78, 79, 80, 72, 76, 77, 1143, 1144, 5, 1011, 1150, 1149, 1145, 1113, 1111, 1112, 91, 1147, 1100031] g74) [68, 69, 70, 81, 82, 83, 84, 85, 86, 76, 77] g82) [68, 69, 70] g92) [68] g := ⟨_, md134.eq⟩
            show sv_T sm_XS sm_cs sm_L sm_sh 6 (q_codeWays p1 p2 p4 p6 p7 p8 p9 p10 S) 284 181 [(0, .ref 0), (1, sv_I p1), (2, sv_L p2), (4, sv_L p4), (6, sv_I p6), (7, sv_I p7), (8, sv_I p8), (9, sv_I p9), (10, sv_I p10), (11, sv_I x2), (12, sv_I r10), (13, sv_I r17), (14, sv_I x33), (15, sv_I (647751 : Int))] [] (sv_sts (sv_sts (sv_sts (sv_sts (sv_sts (sv_sts S [68, 69, 70, 81, 82, 83, 84, 85, 86, 71, 74, 75, 1127, 78, 79, 80, 72, 76, 77, 1143, 1144, 5, 1011, 1150, 1149, 1145, 1113, 1111, 1112, 91, 1147, 1100031] g19) [68, 69, 70, 81, 82, 83, 84, 85, 86, 71, 74, 75, 1127, 78, 79, 80, 72, 76, 77, 1143, 1144, 5, 1011, 1150, 1149, 1145, 1113, 1111, 1112, 1100031] g27) [68, 69, 70, 81, 82, 83, 84, 85, 86, 71, 74, 75, 1127, 78, 79, 80, 72, 76, 77, 1143, 1144, 5, 1011, 1150, 1149, 1145, 1113, 1111, 1112, 91, 1147, 1100031] g74) [68, 69, 70, 81, 82, 83, 84, 85, 86, 76, 77] g82) [68, 69, 70] g92) [68] g132)
            have md136 : sv_mod [68, 69, 70, 81, 82, 83, 84, 85, 86, 71, 74, 75, 1127, 78, 79, 80, 72, 76, 77, 1143, 1144, 5, 1011, 1150, 1149, 1145, 1113, 1111, 1112, 91, 1147, 1100031] S (sv_sts (sv_sts (sv_sts (sv_sts (sv_sts (sv_sts S [68, 69, 70, 81, 82, 83, 84, 85, 86, 71, 74, 75, 1127, 78, 79, 80, 72, 76, 77, 1143, 1144, 5, 1011, 1150, 1149, 1145, 1113, 1111, 1112, 91, 1147, 1100031] g19) [68, 69, 70, 81, 82, 83, 84, 85, 86, 71, 74, 75, 1127, 78, 79, 80, 72, 76, 77, 1143, 1144, 5, 1011, 1150, 1149, 1145, 1113, 1111, 1112, 1100031] g27) [68, 69, 70, 81, 82, 83, 84, 85, 86, 71, 74, 75, 1127, 78, 79, 80, 72, 76, 77, 1143, 1144, 5, 1011, 1150, 1149, 1145, 1113, 1111, 1112, 91, 1147, 1100031] g74) [68, 69, 70, 81, 82, 83, 84, 85, 86, 76, 77] g82) [68, 69, 70] g92) [68] g132) := sv_mod.sts md96 (by decide)
            have md137 : sv_mod [68, 69, 70, 81, 82, 83, 84, 85, 86, 71, 74, 75, 1127, 78, 79, 80, 72, 76, 77, 1143, 1144, 5, 1011, 1150, 1149, 1145, 1113, 1111, 1112, 91, 1147, 1100031] (sv_sts (sv_sts S [68, 69, 70, 81, 82, 83, 84, 85, 86, 71, 74, 75, 1127, 78, 79, 80, 72, 76, 77, 1143, 1144, 5, 1011, 1150, 1149, 1145, 1113, 1111, 1112, 91, 1147, 1100031] g19) [68, 69, 70, 81, 82, 83, 84, 85, 86, 71, 74, 75, 1127, 78, 79, 80, 72, 76, 77, 1143, 1144, 5, 1011, 1150, 1149, 1145, 1113, 1111, 1112, 1100031] g27) (sv_sts (sv_sts (sv_sts (sv_sts (sv_sts (sv_sts S [68, 69, 70, 81, 82, 83, 84, 85, 86, 71, 74, 75, 1127, 78, 79, 80, 72, 76, 77, 1143, 1144, 5, 1011, 1150, 1149, 1145, 1113, 1111, 1112, 91, 1147, 1100031] g19) [68, 69, 70, 81, 82, 83, 84, 85, 86, 71, 74, 75, 1127, 78, 79, 80, 72, 76, 77, 1143, 1144, 5, 1011, 1150, 1149, 1145, 1113, 1111, 1112, 1100031] g27) [68, 69, 70, 81, 82, 83, 84, 85, 86, 71, 74, 75, 1127, 78, 79, 80, 72, 76, 77, 1143, 1144, 5, 1011, 1150, 1149, 1145, 1113, 1111, 1112, 91, 1147, 1100031] g74) [68, 69, 70, 81, 82, 83, 84, 85, 86, 76, 77] g82) [68, 69, 70] g92) [68] g132) := sv_mod.sts md97 (by decide)
            have h := h g132 hpo135
            refine sv_aload_n hM dX12_codeWays_181 rfl rfl ?_
            refine sv_iload hM dX12_codeWays_182 rfl rfl ?_
            refine sv_iload hM dX12_codeWays_184 rfl rfl ?_
            obtain ⟨o138, h⟩ := h
            refine sv_callV hM dX12_codeWays_186 sm_iv_1258 (by decide) (sm_a0 _) rfl rfl (Nat.le_of_ble_eq_true rfl) sm_h267 (Nat.le_of_ble_eq_true rfl) (Nat.le_of_ble_eq_true rfl) (F' := 5) (Nat.le_of_ble_eq_true rfl) rfl (t_replace p9 (647751 : Int) (sv_sts (sv_sts (sv_sts (sv_sts (sv_sts (sv_sts S [68, 69, 70, 81, 82, 83, 84, 85, 86, 71, 74, 75, 1127, 78, 79, 80, 72, 76, 77, 1143, 1144, 5, 1011, 1150, 1149, 1145, 1113, 1111, 1112, 91, 1147, 1100031] g19) [68, 69, 70, 81, 82, 83, 84, 85, 86, 71, 74, 75, 1127, 78, 79, 80, 72, 76, 77, 1143, 1144, 5, 1011, 1150, 1149, 1145, 1113, 1111, 1112, 1100031] g27) [68, 69, 70, 81, 82, 83, 84, 85, 86, 71, 74, 75, 1127, 78, 79, 80, 72, 76, 77, 1143, 1144, 5, 1011, 1150, 1149, 1145, 1113, 1111, 1112, 91, 1147, 1100031] g74) [68, 69, 70, 81, 82, 83, 84, 85, 86, 76, 77] g82) [68, 69, 70] g92) [68] g132) ok133 hp9 (⟨by decide, by decide⟩ : sv_R (647751 : Int)) o138) (fun v S1 hq => ?_)
            obtain ⟨rfl, ok140, md141, hpo142⟩ := hq
            obtain ⟨g139, rfl⟩ : ∃ g, S1 = sv_sts (sv_sts (sv_sts (sv_sts (sv_sts (sv_sts (sv_sts S [68, 69, 70, 81, 82, 83, 84, 85, 86, 71, 74, 75, 1127, 78, 79, 80, 72, 76, 77, 1143, 1144, 5, 1011, 1150, 1149, 1145, 1113, 1111, 1112, 91, 1147, 1100031] g19) [68, 69, 70, 81, 82, 83, 84, 85, 86, 71, 74, 75, 1127, 78, 79, 80, 72, 76, 77, 1143, 1144, 5, 1011, 1150, 1149, 1145, 1113, 1111, 1112, 1100031] g27) [68, 69, 70, 81, 82, 83, 84, 85, 86, 71, 74, 75, 1127, 78, 79, 80, 72, 76, 77, 1143, 1144, 5, 1011, 1150, 1149, 1145, 1113, 1111, 1112, 91, 1147, 1100031] g74) [68, 69, 70, 81, 82, 83, 84, 85, 86, 76, 77] g82) [68, 69, 70] g92) [68] g132) [68, 69, 70, 81, 82, 83, 84, 85, 86, 71, 74, 75, 1127, 78, 79, 80, 72, 76, 77, 1150] g := ⟨_, md141.eq⟩
            show sv_T sm_XS sm_cs sm_L sm_sh 6 (q_codeWays p1 p2 p4 p6 p7 p8 p9 p10 S) 284 189 [(0, .ref 0), (1, sv_I p1), (2, sv_L p2), (4, sv_L p4), (6, sv_I p6), (7, sv_I p7), (8, sv_I p8), (9, sv_I p9), (10, sv_I p10), (11, sv_I x2), (12, sv_I r10), (13, sv_I r17), (14, sv_I x33), (15, sv_I (647751 : Int))] [] (sv_sts (sv_sts (sv_sts (sv_sts (sv_sts (sv_sts (sv_sts S [68, 69, 70, 81, 82, 83, 84, 85, 86, 71, 74, 75, 1127, 78, 79, 80, 72, 76, 77, 1143, 1144, 5, 1011, 1150, 1149, 1145, 1113, 1111, 1112, 91, 1147, 1100031] g19) [68, 69, 70, 81, 82, 83, 84, 85, 86, 71, 74, 75, 1127, 78, 79, 80, 72, 76, 77, 1143, 1144, 5, 1011, 1150, 1149, 1145, 1113, 1111, 1112, 1100031] g27) [68, 69, 70, 81, 82, 83, 84, 85, 86, 71, 74, 75, 1127, 78, 79, 80, 72, 76, 77, 1143, 1144, 5, 1011, 1150, 1149, 1145, 1113, 1111, 1112, 91, 1147, 1100031] g74) [68, 69, 70, 81, 82, 83, 84, 85, 86, 76, 77] g82) [68, 69, 70] g92) [68] g132) [68, 69, 70, 81, 82, 83, 84, 85, 86, 71, 74, 75, 1127, 78, 79, 80, 72, 76, 77, 1150] g139)
            have md143 : sv_mod [68, 69, 70, 81, 82, 83, 84, 85, 86, 71, 74, 75, 1127, 78, 79, 80, 72, 76, 77, 1143, 1144, 5, 1011, 1150, 1149, 1145, 1113, 1111, 1112, 91, 1147, 1100031] S (sv_sts (sv_sts (sv_sts (sv_sts (sv_sts (sv_sts (sv_sts S [68, 69, 70, 81, 82, 83, 84, 85, 86, 71, 74, 75, 1127, 78, 79, 80, 72, 76, 77, 1143, 1144, 5, 1011, 1150, 1149, 1145, 1113, 1111, 1112, 91, 1147, 1100031] g19) [68, 69, 70, 81, 82, 83, 84, 85, 86, 71, 74, 75, 1127, 78, 79, 80, 72, 76, 77, 1143, 1144, 5, 1011, 1150, 1149, 1145, 1113, 1111, 1112, 1100031] g27) [68, 69, 70, 81, 82, 83, 84, 85, 86, 71, 74, 75, 1127, 78, 79, 80, 72, 76, 77, 1143, 1144, 5, 1011, 1150, 1149, 1145, 1113, 1111, 1112, 91, 1147, 1100031] g74) [68, 69, 70, 81, 82, 83, 84, 85, 86, 76, 77] g82) [68, 69, 70] g92) [68] g132) [68, 69, 70, 81, 82, 83, 84, 85, 86, 71, 74, 75, 1127, 78, 79, 80, 72, 76, 77, 1150] g139) := sv_mod.sts md136 (by decide)
            have md144 : sv_mod [68, 69, 70, 81, 82, 83, 84, 85, 86, 71, 74, 75, 1127, 78, 79, 80, 72, 76, 77, 1143, 1144, 5, 1011, 1150, 1149, 1145, 1113, 1111, 1112, 91, 1147, 1100031] (sv_sts (sv_sts S [68, 69, 70, 81, 82, 83, 84, 85, 86, 71, 74, 75, 1127, 78, 79, 80, 72, 76, 77, 1143, 1144, 5, 1011, 1150, 1149, 1145, 1113, 1111, 1112, 91, 1147, 1100031] g19) [68, 69, 70, 81, 82, 83, 84, 85, 86, 71, 74, 75, 1127, 78, 79, 80, 72, 76, 77, 1143, 1144, 5, 1011, 1150, 1149, 1145, 1113, 1111, 1112, 1100031] g27) (sv_sts (sv_sts (sv_sts (sv_sts (sv_sts (sv_sts (sv_sts S [68, 69, 70, 81, 82, 83, 84, 85, 86, 71, 74, 75, 1127, 78, 79, 80, 72, 76, 77, 1143, 1144, 5, 1011, 1150, 1149, 1145, 1113, 1111, 1112, 91, 1147, 1100031] g19) [68, 69, 70, 81, 82, 83, 84, 85, 86, 71, 74, 75, 1127, 78, 79, 80, 72, 76, 77, 1143, 1144, 5, 1011, 1150, 1149, 1145, 1113, 1111, 1112, 1100031] g27) [68, 69, 70, 81, 82, 83, 84, 85, 86, 71, 74, 75, 1127, 78, 79, 80, 72, 76, 77, 1143, 1144, 5, 1011, 1150, 1149, 1145, 1113, 1111, 1112, 91, 1147, 1100031] g74) [68, 69, 70, 81, 82, 83, 84, 85, 86, 76, 77] g82) [68, 69, 70] g92) [68] g132) [68, 69, 70, 81, 82, 83, 84, 85, 86, 71, 74, 75, 1127, 78, 79, 80, 72, 76, 77, 1150] g139) := sv_mod.sts md137 (by decide)
            have h := h g139 hpo142
            have eS := sv_mod.eq md144
            have hb := J70 (sv_sts (sv_sts (sv_sts (sv_sts (sv_sts (sv_sts (sv_sts S [68, 69, 70, 81, 82, 83, 84, 85, 86, 71, 74, 75, 1127, 78, 79, 80, 72, 76, 77, 1143, 1144, 5, 1011, 1150, 1149, 1145, 1113, 1111, 1112, 91, 1147, 1100031] g19) [68, 69, 70, 81, 82, 83, 84, 85, 86, 71, 74, 75, 1127, 78, 79, 80, 72, 76, 77, 1143, 1144, 5, 1011, 1150, 1149, 1145, 1113, 1111, 1112, 1100031] g27) [68, 69, 70, 81, 82, 83, 84, 85, 86, 71, 74, 75, 1127, 78, 79, 80, 72, 76, 77, 1143, 1144, 5, 1011, 1150, 1149, 1145, 1113, 1111, 1112, 91, 1147, 1100031] g74) [68, 69, 70, 81, 82, 83, 84, 85, 86, 76, 77] g82) [68, 69, 70] g92) [68] g132) [68, 69, 70, 81, 82, 83, 84, 85, 86, 71, 74, 75, 1127, 78, 79, 80, 72, 76, 77, 1150] g139) (by rw [← eS]; exact ok140) h
            have hb : sv_T sm_XS sm_cs sm_L sm_sh 6 (q_codeWays p1 p2 p4 p6 p7 p8 p9 p10 S) 284 189 [(0, .ref 0), (1, sv_I p1), (2, sv_L p2), (4, sv_L p4), (6, sv_I p6), (7, sv_I p7), (8, sv_I p8), (9, sv_I p9), (10, sv_I p10), (11, sv_I x2), (12, sv_I r10), (13, sv_I r17), (14, sv_I x33)] [] (sv_sts (sv_sts (sv_sts (sv_sts (sv_sts (sv_sts (sv_sts S [68, 69, 70, 81, 82, 83, 84, 85, 86, 71, 74, 75, 1127, 78, 79, 80, 72, 76, 77, 1143, 1144, 5, 1011, 1150, 1149, 1145, 1113, 1111, 1112, 91, 1147, 1100031] g19) [68, 69, 70, 81, 82, 83, 84, 85, 86, 71, 74, 75, 1127, 78, 79, 80, 72, 76, 77, 1143, 1144, 5, 1011, 1150, 1149, 1145, 1113, 1111, 1112, 1100031] g27) [68, 69, 70, 81, 82, 83, 84, 85, 86, 71, 74, 75, 1127, 78, 79, 80, 72, 76, 77, 1143, 1144, 5, 1011, 1150, 1149, 1145, 1113, 1111, 1112, 91, 1147, 1100031] g74) [68, 69, 70, 81, 82, 83, 84, 85, 86, 76, 77] g82) [68, 69, 70] g92) [68] g132) [68, 69, 70, 81, 82, 83, 84, 85, 86, 71, 74, 75, 1127, 78, 79, 80, 72, 76, 77, 1150] g139) := Eq.mpr (congrArg (fun Z => sv_T sm_XS sm_cs sm_L sm_sh 6 (q_codeWays p1 p2 p4 p6 p7 p8 p9 p10 S) 284 189 [(0, .ref 0), (1, sv_I p1), (2, sv_L p2), (4, sv_L p4), (6, sv_I p6), (7, sv_I p7), (8, sv_I p8), (9, sv_I p9), (10, sv_I p10), (11, sv_I x2), (12, sv_I r10), (13, sv_I r17), (14, sv_I x33)] [] Z) eS) hb
            exact sv_less (lv := [(0, .ref 0), (1, sv_I p1), (2, sv_L p2), (4, sv_L p4), (6, sv_I p6), (7, sv_I p7), (8, sv_I p8), (9, sv_I p9), (10, sv_I p10), (11, sv_I x2), (12, sv_I r10), (13, sv_I r17), (14, sv_I x33)]) (sv_Sub_cons rfl (sv_Sub_cons rfl (sv_Sub_cons rfl (sv_Sub_cons rfl (sv_Sub_cons rfl (sv_Sub_cons rfl (sv_Sub_cons rfl (sv_Sub_cons rfl (sv_Sub_cons rfl (sv_Sub_cons rfl (sv_Sub_cons rfl (sv_Sub_cons rfl (sv_Sub_cons rfl sv_Sub_nil))))))))))))) hb
        · have h := h.2 (hc)
          refine sv_aload_n hM dX12_codeWays_140 rfl rfl ?_
          refine sv_iload hM dX12_codeWays_141 rfl rfl ?_
          refine sv_aload_n hM dX12_codeWays_143 rfl rfl ?_
          refine sv_iload hM dX12_codeWays_144 rfl rfl ?_
          obtain ⟨o145, h⟩ := h
          refine sv_callV hM dX12_codeWays_146 sm_iv_920 (by decide) (sm_a0 _) rfl rfl (Nat.le_of_ble_eq_true rfl) sm_h166 (Nat.le_of_ble_eq_true rfl) (Nat.le_of_ble_eq_true rfl) (F' := 0) (Nat.le_of_ble_eq_true rfl) rfl (t_siteLabel p10 (sv_sts (sv_sts (sv_sts (sv_sts (sv_sts S [68, 69, 70, 81, 82, 83, 84, 85, 86, 71, 74, 75, 1127, 78, 79, 80, 72, 76, 77, 1143, 1144, 5, 1011, 1150, 1149, 1145, 1113, 1111, 1112, 91, 1147, 1100031] g19) [68, 69, 70, 81, 82, 83, 84, 85, 86, 71, 74, 75, 1127, 78, 79, 80, 72, 76, 77, 1143, 1144, 5, 1011, 1150, 1149, 1145, 1113, 1111, 1112, 1100031] g27) [68, 69, 70, 81, 82, 83, 84, 85, 86, 71, 74, 75, 1127, 78, 79, 80, 72, 76, 77, 1143, 1144, 5, 1011, 1150, 1149, 1145, 1113, 1111, 1112, 91, 1147, 1100031] g74) [68, 69, 70, 81, 82, 83, 84, 85, 86, 76, 77] g82) [68, 69, 70] g92) ok121 hp10 o145) (fun v S1 hq => ?_)
          obtain ⟨r150, rfl, hr150, ok147, md148, hpo149⟩ := hq
          obtain rfl : (sv_sts (sv_sts (sv_sts (sv_sts (sv_sts S [68, 69, 70, 81, 82, 83, 84, 85, 86, 71, 74, 75, 1127, 78, 79, 80, 72, 76, 77, 1143, 1144, 5, 1011, 1150, 1149, 1145, 1113, 1111, 1112, 91, 1147, 1100031] g19) [68, 69, 70, 81, 82, 83, 84, 85, 86, 71, 74, 75, 1127, 78, 79, 80, 72, 76, 77, 1143, 1144, 5, 1011, 1150, 1149, 1145, 1113, 1111, 1112, 1100031] g27) [68, 69, 70, 81, 82, 83, 84, 85, 86, 71, 74, 75, 1127, 78, 79, 80, 72, 76, 77, 1143, 1144, 5, 1011, 1150, 1149, 1145, 1113, 1111, 1112, 91, 1147, 1100031] g74) [68, 69, 70, 81, 82, 83, 84, 85, 86, 76, 77] g82) [68, 69, 70] g92) = S1 := (funext fun j => md148 j (by intro q; cases q)).symm
          show sv_T sm_XS sm_cs sm_L sm_sh 6 (q_codeWays p1 p2 p4 p6 p7 p8 p9 p10 S) 284 149 [(0, .ref 0), (1, sv_I p1), (2, sv_L p2), (4, sv_L p4), (6, sv_I p6), (7, sv_I p7), (8, sv_I p8), (9, sv_I p9), (10, sv_I p10), (11, sv_I x2), (12, sv_I r10), (13, sv_I r17), (14, sv_I x33), (15, sv_I (647751 : Int))] [sv_I r150, sv_I (647751 : Int), .ref 0] (sv_sts (sv_sts (sv_sts (sv_sts (sv_sts S [68, 69, 70, 81, 82, 83, 84, 85, 86, 71, 74, 75, 1127, 78, 79, 80, 72, 76, 77, 1143, 1144, 5, 1011, 1150, 1149, 1145, 1113, 1111, 1112, 91, 1147, 1100031] g19) [68, 69, 70, 81, 82, 83, 84, 85, 86, 71, 74, 75, 1127, 78, 79, 80, 72, 76, 77, 1143, 1144, 5, 1011, 1150, 1149, 1145, 1113, 1111, 1112, 1100031] g27) [68, 69, 70, 81, 82, 83, 84, 85, 86, 71, 74, 75, 1127, 78, 79, 80, 72, 76, 77, 1143, 1144, 5, 1011, 1150, 1149, 1145, 1113, 1111, 1112, 91, 1147, 1100031] g74) [68, 69, 70, 81, 82, 83, 84, 85, 86, 76, 77] g82) [68, 69, 70] g92)
          have h := h r150 hr150 hpo149
          obtain ⟨o151, h⟩ := h
          refine sv_callV hM dX12_codeWays_149 sm_iv_1081 (by decide) (sm_a0 _) rfl rfl (Nat.le_of_ble_eq_true rfl) sm_h216 (Nat.le_of_ble_eq_true rfl) (Nat.le_of_ble_eq_true rfl) (F' := 0) (Nat.le_of_ble_eq_true rfl) rfl (t_addLabel (647751 : Int) r150 (sv_sts (sv_sts (sv_sts (sv_sts (sv_sts S [68, 69, 70, 81, 82, 83, 84, 85, 86, 71, 74, 75, 1127, 78, 79, 80, 72, 76, 77, 1143, 1144, 5, 1011, 1150, 1149, 1145, 1113, 1111, 1112, 91, 1147, 1100031] g19) [68, 69, 70, 81, 82, 83, 84, 85, 86, 71, 74, 75, 1127, 78, 79, 80, 72, 76, 77, 1143, 1144, 5, 1011, 1150, 1149, 1145, 1113, 1111, 1112, 1100031] g27) [68, 69, 70, 81, 82, 83, 84, 85, 86, 71, 74, 75, 1127, 78, 79, 80, 72, 76, 77, 1143, 1144, 5, 1011, 1150, 1149, 1145, 1113, 1111, 1112, 91, 1147, 1100031] g74) [68, 69, 70, 81, 82, 83, 84, 85, 86, 76, 77] g82) [68, 69, 70] g92) ok147 (⟨by decide, by decide⟩ : sv_R (647751 : Int)) hr150 o151) (fun v S1 hq => ?_)
          obtain ⟨rfl, ok153, md154, hpo155⟩ := hq
          obtain ⟨g152, rfl⟩ : ∃ g, S1 = sv_sts (sv_sts (sv_sts (sv_sts (sv_sts (sv_sts S [68, 69, 70, 81, 82, 83, 84, 85, 86, 71, 74, 75, 1127, 78, 79, 80, 72, 76, 77, 1143, 1144, 5, 1011, 1150, 1149, 1145, 1113, 1111, 1112, 91, 1147, 1100031] g19) [68, 69, 70, 81, 82, 83, 84, 85, 86, 71, 74, 75, 1127, 78, 79, 80, 72, 76, 77, 1143, 1144, 5, 1011, 1150, 1149, 1145, 1113, 1111, 1112, 1100031] g27) [68, 69, 70, 81, 82, 83, 84, 85, 86, 71, 74, 75, 1127, 78, 79, 80, 72, 76, 77, 1143, 1144, 5, 1011, 1150, 1149, 1145, 1113, 1111, 1112, 91, 1147, 1100031] g74) [68, 69, 70, 81, 82, 83, 84, 85, 86, 76, 77] g82) [68, 69, 70] g92) [69, 70] g := ⟨_, md154.eq⟩
          show sv_T sm_XS sm_cs sm_L sm_sh 6 (q_codeWays p1 p2 p4 p6 p7 p8 p9 p10 S) 284 152 [(0, .ref 0), (1, sv_I p1), (2, sv_L p2), (4, sv_L p4), (6, sv_I p6), (7, sv_I p7), (8, sv_I p8), (9, sv_I p9), (10, sv_I p10), (11, sv_I x2), (12, sv_I r10), (13, sv_I r17), (14, sv_I x33), (15, sv_I (647751 : Int))] [] (sv_sts (sv_sts (sv_sts (sv_sts (sv_sts (sv_sts S [68, 69, 70, 81, 82, 83, 84, 85, 86, 71, 74, 75, 1127, 78, 79, 80, 72, 76, 77, 1143, 1144, 5, 1011, 1150, 1149, 1145, 1113, 1111, 1112, 91, 1147, 1100031] g19) [68, 69, 70, 81, 82, 83, 84, 85, 86, 71, 74, 75, 1127, 78, 79, 80, 72, 76, 77, 1143, 1144, 5, 1011, 1150, 1149, 1145, 1113, 1111, 1112, 1100031] g27) [68, 69, 70, 81, 82, 83, 84, 85, 86, 71, 74, 75, 1127, 78, 79, 80, 72, 76, 77, 1143, 1144, 5, 1011, 1150, 1149, 1145, 1113, 1111, 1112, 91, 1147, 1100031] g74) [68, 69, 70, 81, 82, 83, 84, 85, 86, 76, 77] g82) [68, 69, 70] g92) [69, 70] g152)
          have md156 : sv_mod [68, 69, 70, 81, 82, 83, 84, 85, 86, 71, 74, 75, 1127, 78, 79, 80, 72, 76, 77, 1143, 1144, 5, 1011, 1150, 1149, 1145, 1113, 1111, 1112, 91, 1147, 1100031] S (sv_sts (sv_sts (sv_sts (sv_sts (sv_sts (sv_sts S [68, 69, 70, 81, 82, 83, 84, 85, 86, 71, 74, 75, 1127, 78, 79, 80, 72, 76, 77, 1143, 1144, 5, 1011, 1150, 1149, 1145, 1113, 1111, 1112, 91, 1147, 1100031] g19) [68, 69, 70, 81, 82, 83, 84, 85, 86, 71, 74, 75, 1127, 78, 79, 80, 72, 76, 77, 1143, 1144, 5, 1011, 1150, 1149, 1145, 1113, 1111, 1112, 1100031] g27) [68, 69, 70, 81, 82, 83, 84, 85, 86, 71, 74, 75, 1127, 78, 79, 80, 72, 76, 77, 1143, 1144, 5, 1011, 1150, 1149, 1145, 1113, 1111, 1112, 91, 1147, 1100031] g74) [68, 69, 70, 81, 82, 83, 84, 85, 86, 76, 77] g82) [68, 69, 70] g92) [69, 70] g152) := sv_mod.sts md96 (by decide)
          have md157 : sv_mod [68, 69, 70, 81, 82, 83, 84, 85, 86, 71, 74, 75, 1127, 78, 79, 80, 72, 76, 77, 1143, 1144, 5, 1011, 1150, 1149, 1145, 1113, 1111, 1112, 91, 1147, 1100031] (sv_sts (sv_sts S [68, 69, 70, 81, 82, 83, 84, 85, 86, 71, 74, 75, 1127, 78, 79, 80, 72, 76, 77, 1143, 1144, 5, 1011, 1150, 1149, 1145, 1113, 1111, 1112, 91, 1147, 1100031] g19) [68, 69, 70, 81, 82, 83, 84, 85, 86, 71, 74, 75, 1127, 78, 79, 80, 72, 76, 77, 1143, 1144, 5, 1011, 1150, 1149, 1145, 1113, 1111, 1112, 1100031] g27) (sv_sts (sv_sts (sv_sts (sv_sts (sv_sts (sv_sts S [68, 69, 70, 81, 82, 83, 84, 85, 86, 71, 74, 75, 1127, 78, 79, 80, 72, 76, 77, 1143, 1144, 5, 1011, 1150, 1149, 1145, 1113, 1111, 1112, 91, 1147, 1100031] g19) [68, 69, 70, 81, 82, 83, 84, 85, 86, 71, 74, 75, 1127, 78, 79, 80, 72, 76, 77, 1143, 1144, 5, 1011, 1150, 1149, 1145, 1113, 1111, 1112, 1100031] g27) [68, 69, 70, 81, 82, 83, 84, 85, 86, 71, 74, 75, 1127, 78, 79, 80, 72, 76, 77, 1143, 1144, 5, 1011, 1150, 1149, 1145, 1113, 1111, 1112, 91, 1147, 1100031] g74) [68, 69, 70, 81, 82, 83, 84, 85, 86, 76, 77] g82) [68, 69, 70] g92) [69, 70] g152) := sv_mod.sts md97 (by decide)
          have h := h g152 hpo155
          refine sv_aload_n hM dX12_codeWays_152 rfl rfl ?_
          refine sv_iload hM dX12_codeWays_153 rfl rfl ?_
          refine sv_aload_n hM dX12_codeWays_155 rfl rfl ?_
          refine sv_iload hM dX12_codeWays_156 rfl rfl ?_
          refine sv_callV hM dX12_codeWays_158 sm_iv_920 (by decide) (sm_a0 _) rfl rfl (Nat.le_of_ble_eq_true rfl) sm_h166 (Nat.le_of_ble_eq_true rfl) (Nat.le_of_ble_eq_true rfl) (F' := 0) (Nat.le_of_ble_eq_true rfl) rfl (t_siteLabel p10 (sv_sts (sv_sts (sv_sts (sv_sts (sv_sts (sv_sts S [68, 69, 70, 81, 82, 83, 84, 85, 86, 71, 74, 75, 1127, 78, 79, 80, 72, 76, 77, 1143, 1144, 5, 1011, 1150, 1149, 1145, 1113, 1111, 1112, 91, 1147, 1100031] g19) [68, 69, 70, 81, 82, 83, 84, 85, 86, 71, 74, 75, 1127, 78, 79, 80, 72, 76, 77, 1143, 1144, 5, 1011, 1150, 1149, 1145, 1113, 1111, 1112, 1100031] g27) [68, 69, 70, 81, 82, 83, 84, 85, 86, 71, 74, 75, 1127, 78, 79, 80, 72, 76, 77, 1143, 1144, 5, 1011, 1150, 1149, 1145, 1113, 1111, 1112, 91, 1147, 1100031] g74) [68, 69, 70, 81, 82, 83, 84, 85, 86, 76, 77] g82) [68, 69, 70] g92) [69, 70] g152) ok153 hp10 o145) (fun v S1 hq => ?_)
          obtain ⟨r162, rfl, hr162, ok159, md160, hpo161⟩ := hq
          obtain rfl : (sv_sts (sv_sts (sv_sts (sv_sts (sv_sts (sv_sts S [68, 69, 70, 81, 82, 83, 84, 85, 86, 71, 74, 75, 1127, 78, 79, 80, 72, 76, 77, 1143, 1144, 5, 1011, 1150, 1149, 1145, 1113, 1111, 1112, 91, 1147, 1100031] g19) [68, 69, 70, 81, 82, 83, 84, 85, 86, 71, 74, 75, 1127, 78, 79, 80, 72, 76, 77, 1143, 1144, 5, 1011, 1150, 1149, 1145, 1113, 1111, 1112, 1100031] g27) [68, 69, 70, 81, 82, 83, 84, 85, 86, 71, 74, 75, 1127, 78, 79, 80, 72, 76, 77, 1143, 1144, 5, 1011, 1150, 1149, 1145, 1113, 1111, 1112, 91, 1147, 1100031] g74) [68, 69, 70, 81, 82, 83, 84, 85, 86, 76, 77] g82) [68, 69, 70] g92) [69, 70] g152) = S1 := (funext fun j => md160 j (by intro q; cases q)).symm
          show sv_T sm_XS sm_cs sm_L sm_sh 6 (q_codeWays p1 p2 p4 p6 p7 p8 p9 p10 S) 284 161 [(0, .ref 0), (1, sv_I p1), (2, sv_L p2), (4, sv_L p4), (6, sv_I p6), (7, sv_I p7), (8, sv_I p8), (9, sv_I p9), (10, sv_I p10), (11, sv_I x2), (12, sv_I r10), (13, sv_I r17), (14, sv_I x33), (15, sv_I (647751 : Int))] [sv_I r162, sv_I (647751 : Int), .ref 0] (sv_sts (sv_sts (sv_sts (sv_sts (sv_sts (sv_sts S [68, 69, 70, 81, 82, 83, 84, 85, 86, 71, 74, 75, 1127, 78, 79, 80, 72, 76, 77, 1143, 1144, 5, 1011, 1150, 1149, 1145, 1113, 1111, 1112, 91, 1147, 1100031] g19) [68, 69, 70, 81, 82, 83, 84, 85, 86, 71, 74, 75, 1127, 78, 79, 80, 72, 76, 77, 1143, 1144, 5, 1011, 1150, 1149, 1145, 1113, 1111, 1112, 1100031] g27) [68, 69, 70, 81, 82, 83, 84, 85, 86, 71, 74, 75, 1127, 78, 79, 80, 72, 76, 77, 1143, 1144, 5, 1011, 1150, 1149, 1145, 1113, 1111, 1112, 91, 1147, 1100031] g74) [68, 69, 70, 81, 82, 83, 84, 85, 86, 76, 77] g82) [68, 69, 70] g92) [69, 70] g152)
          have h := h r162 hr162 hpo161
          refine sv_iconst (d := (1 : Int)) hM dX12_codeWays_161 rfl rfl ?_
          refine sv_iadd hM dX12_codeWays_162 rfl ?_
          obtain ⟨o163, h⟩ := h
          refine sv_callV hM dX12_codeWays_163 sm_iv_1081 (by decide) (sm_a0 _) rfl rfl (Nat.le_of_ble_eq_true rfl) sm_h216 (Nat.le_of_ble_eq_true rfl) (Nat.le_of_ble_eq_true rfl) (F' := 0) (Nat.le_of_ble_eq_true rfl) rfl (t_addLabel (647751 : Int) (r162 + (1 : Int)) (sv_sts (sv_sts (sv_sts (sv_sts (sv_sts (sv_sts S [68, 69, 70, 81, 82, 83, 84, 85, 86, 71, 74, 75, 1127, 78, 79, 80, 72, 76, 77, 1143, 1144, 5, 1011, 1150, 1149, 1145, 1113, 1111, 1112, 91, 1147, 1100031] g19) [68, 69, 70, 81, 82, 83, 84, 85, 86, 71, 74, 75, 1127, 78, 79, 80, 72, 76, 77, 1143, 1144, 5, 1011, 1150, 1149, 1145, 1113, 1111, 1112, 1100031] g27) [68, 69, 70, 81, 82, 83, 84, 85, 86, 71, 74, 75, 1127, 78, 79, 80, 72, 76, 77, 1143, 1144, 5, 1011, 1150, 1149, 1145, 1113, 1111, 1112, 91, 1147, 1100031] g74) [68, 69, 70, 81, 82, 83, 84, 85, 86, 76, 77] g82) [68, 69, 70] g92) [69, 70] g152) ok159 (⟨by decide, by decide⟩ : sv_R (647751 : Int)) o163 o151) (fun v S1 hq => ?_)
          obtain ⟨rfl, ok165, md166, hpo167⟩ := hq
          obtain ⟨g164, rfl⟩ : ∃ g, S1 = sv_sts (sv_sts (sv_sts (sv_sts (sv_sts (sv_sts (sv_sts S [68, 69, 70, 81, 82, 83, 84, 85, 86, 71, 74, 75, 1127, 78, 79, 80, 72, 76, 77, 1143, 1144, 5, 1011, 1150, 1149, 1145, 1113, 1111, 1112, 91, 1147, 1100031] g19) [68, 69, 70, 81, 82, 83, 84, 85, 86, 71, 74, 75, 1127, 78, 79, 80, 72, 76, 77, 1143, 1144, 5, 1011, 1150, 1149, 1145, 1113, 1111, 1112, 1100031] g27) [68, 69, 70, 81, 82, 83, 84, 85, 86, 71, 74, 75, 1127, 78, 79, 80, 72, 76, 77, 1143, 1144, 5, 1011, 1150, 1149, 1145, 1113, 1111, 1112, 91, 1147, 1100031] g74) [68, 69, 70, 81, 82, 83, 84, 85, 86, 76, 77] g82) [68, 69, 70] g92) [69, 70] g152) [69, 70] g := ⟨_, md166.eq⟩
          show sv_T sm_XS sm_cs sm_L sm_sh 6 (q_codeWays p1 p2 p4 p6 p7 p8 p9 p10 S) 284 166 [(0, .ref 0), (1, sv_I p1), (2, sv_L p2), (4, sv_L p4), (6, sv_I p6), (7, sv_I p7), (8, sv_I p8), (9, sv_I p9), (10, sv_I p10), (11, sv_I x2), (12, sv_I r10), (13, sv_I r17), (14, sv_I x33), (15, sv_I (647751 : Int))] [] (sv_sts (sv_sts (sv_sts (sv_sts (sv_sts (sv_sts (sv_sts S [68, 69, 70, 81, 82, 83, 84, 85, 86, 71, 74, 75, 1127, 78, 79, 80, 72, 76, 77, 1143, 1144, 5, 1011, 1150, 1149, 1145, 1113, 1111, 1112, 91, 1147, 1100031] g19) [68, 69, 70, 81, 82, 83, 84, 85, 86, 71, 74, 75, 1127, 78, 79, 80, 72, 76, 77, 1143, 1144, 5, 1011, 1150, 1149, 1145, 1113, 1111, 1112, 1100031] g27) [68, 69, 70, 81, 82, 83, 84, 85, 86, 71, 74, 75, 1127, 78, 79, 80, 72, 76, 77, 1143, 1144, 5, 1011, 1150, 1149, 1145, 1113, 1111, 1112, 91, 1147, 1100031] g74) [68, 69, 70, 81, 82, 83, 84, 85, 86, 76, 77] g82) [68, 69, 70] g92) [69, 70] g152) [69, 70] g164)
          have md168 : sv_mod [68, 69, 70, 81, 82, 83, 84, 85, 86, 71, 74, 75, 1127, 78, 79, 80, 72, 76, 77, 1143, 1144, 5, 1011, 1150, 1149, 1145, 1113, 1111, 1112, 91, 1147, 1100031] S (sv_sts (sv_sts (sv_sts (sv_sts (sv_sts (sv_sts (sv_sts S [68, 69, 70, 81, 82, 83, 84, 85, 86, 71, 74, 75, 1127, 78, 79, 80, 72, 76, 77, 1143, 1144, 5, 1011, 1150, 1149, 1145, 1113, 1111, 1112, 91, 1147, 1100031] g19) [68, 69, 70, 81, 82, 83, 84, 85, 86, 71, 74, 75, 1127, 78, 79, 80, 72, 76, 77, 1143, 1144, 5, 1011, 1150, 1149, 1145, 1113, 1111, 1112, 1100031] g27) [68, 69, 70, 81, 82, 83, 84, 85, 86, 71, 74, 75, 1127, 78, 79, 80, 72, 76, 77, 1143, 1144, 5, 1011, 1150, 1149, 1145, 1113, 1111, 1112, 91, 1147, 1100031] g74) [68, 69, 70, 81, 82, 83, 84, 85, 86, 76, 77] g82) [68, 69, 70] g92) [69, 70] g152) [69, 70] g164) := sv_mod.sts md156 (by decide)
          have md169 : sv_mod [68, 69, 70, 81, 82, 83, 84, 85, 86, 71, 74, 75, 1127, 78, 79, 80, 72, 76, 77, 1143, 1144, 5, 1011, 1150, 1149, 1145, 1113, 1111, 1112, 91, 1147, 1100031] (sv_sts (sv_sts S [68, 69, 70, 81, 82, 83, 84, 85, 86, 71, 74, 75, 1127, 78, 79, 80, 72, 76, 77, 1143, 1144, 5, 1011, 1150, 1149, 1145, 1113, 1111, 1112, 91, 1147, 1100031] g19) [68, 69, 70, 81, 82, 83, 84, 85, 86, 71, 74, 75, 1127, 78, 79, 80, 72, 76, 77, 1143, 1144, 5, 1011, 1150, 1149, 1145, 1113, 1111, 1112, 1100031] g27) (sv_sts (sv_sts (sv_sts (sv_sts (sv_sts (sv_sts (sv_sts S [68, 69, 70, 81, 82, 83, 84, 85, 86, 71, 74, 75, 1127, 78, 79, 80, 72, 76, 77, 1143, 1144, 5, 1011, 1150, 1149, 1145, 1113, 1111, 1112, 91, 1147, 1100031] g19) [68, 69, 70, 81, 82, 83, 84, 85, 86, 71, 74, 75, 1127, 78, 79, 80, 72, 76, 77, 1143, 1144, 5, 1011, 1150, 1149, 1145, 1113, 1111, 1112, 1100031] g27) [68, 69, 70, 81, 82, 83, 84, 85, 86, 71, 74, 75, 1127, 78, 79, 80, 72, 76, 77, 1143, 1144, 5, 1011, 1150, 1149, 1145, 1113, 1111, 1112, 91, 1147, 1100031] g74) [68, 69, 70, 81, 82, 83, 84, 85, 86, 76, 77] g82) [68, 69, 70] g92) [69, 70] g152) [69, 70] g164) := sv_mod.sts md157 (by decide)
          have h := h g164 hpo167
          refine sv_iload hM dX12_codeWays_166 rfl rfl ?_
          refine sv_iconst (d := (-1 : Int)) hM dX12_codeWays_168 rfl rfl ?_
          refine sv_icmp_eq hM dX12_codeWays_169 hp10 (⟨by decide, by decide⟩ : sv_R (-1 : Int)) (t := 181) rfl rfl (fun hc => ?_) (fun hc => ?_)
          · have h := h.1 (hc)
            refine sv_aload_n hM dX12_codeWays_181 rfl rfl ?_
            refine sv_iload hM dX12_codeWays_182 rfl rfl ?_
            refine sv_iload hM dX12_codeWays_184 rfl rfl ?_
            obtain ⟨o170, h⟩ := h
            refine sv_callV hM dX12_codeWays_186 sm_iv_1258 (by decide) (sm_a0 _) rfl rfl (Nat.le_of_ble_eq_true rfl) sm_h267 (Nat.le_of_ble_eq_true rfl) (Nat.le_of_ble_eq_true rfl) (F' := 5) (Nat.le_of_ble_eq_true rfl) rfl (t_replace p9 (647751 : Int) (sv_sts (sv_sts (sv_sts (sv_sts (sv_sts (sv_sts (sv_sts S [68, 69, 70, 81, 82, 83, 84, 85, 86, 71, 74, 75, 1127, 78, 79, 80, 72, 76, 77, 1143, 1144, 5, 1011, 1150, 1149, 1145, 1113, 1111, 1112, 91, 1147, 1100031] g19) [68, 69, 70, 81, 82, 83, 84, 85, 86, 71, 74, 75, 1127, 78, 79, 80, 72, 76, 77, 1143, 1144, 5, 1011, 1150, 1149, 1145, 1113, 1111, 1112, 1100031] g27) [68, 69, 70, 81, 82, 83, 84, 85, 86, 71, 74, 75, 1127, 78, 79, 80, 72, 76, 77, 1143, 1144, 5, 1011, 1150, 1149, 1145, 1113, 1111, 1112, 91, 1147, 1100031] g74) [68, 69, 70, 81, 82, 83, 84, 85, 86, 76, 77] g82) [68, 69, 70] g92) [69, 70] g152) [69, 70] g164) ok165 hp9 (⟨by decide, by decide⟩ : sv_R (647751 : Int)) o170) (fun v S1 hq => ?_)
            obtain ⟨rfl, ok172, md173, hpo174⟩ := hq
            obtain ⟨g171, rfl⟩ : ∃ g, S1 = sv_sts (sv_sts (sv_sts (sv_sts (sv_sts (sv_sts (sv_sts (sv_sts S [68, 69, 70, 81, 82, 83, 84, 85, 86, 71, 74, 75, 1127, 78, 79, 80, 72, 76, 77, 1143, 1144, 5, 1011, 1150, 1149, 1145, 1113, 1111, 1112, 91, 1147, 1100031] g19) [68, 69, 70, 81, 82, 83, 84, 85, 86, 71, 74, 75, 1127, 78, 79, 80, 72, 76, 77, 1143, 1144, 5, 1011, 1150, 1149, 1145, 1113, 1111, 1112, 1100031] g27) [68, 69, 70, 81, 82, 83, 84, 85, 86, 71, 74, 75, 1127, 78, 79, 80, 72, 76, 77, 1143, 1144, 5, 1011, 1150, 1149, 1145, 1113, 1111, 1112, 91, 1147, 1100031] g74) [68, 69, 70, 81, 82, 83, 84, 85, 86, 76, 77] g82) [68, 69, 70] g92) [69, 70] g152) [69, 70] g164) [68, 69, 70, 81, 82, 83, 84, 85, 86, 71, 74, 75, 1127, 78, 79, 80, 72, 76, 77, 1150] g := ⟨_, md173.eq⟩
            show sv_T sm_XS sm_cs sm_L sm_sh 6 (q_codeWays p1 p2 p4 p6 p7 p8 p9 p10 S) 284 189 [(0, .ref 0), (1, sv_I p1), (2, sv_L p2), (4, sv_L p4), (6, sv_I p6), (7, sv_I p7), (8, sv_I p8), (9, sv_I p9), (10, sv_I p10), (11, sv_I x2), (12, sv_I r10), (13, sv_I r17), (14, sv_I x33), (15, sv_I (647751 : Int))] [] (sv_sts (sv_sts (sv_sts (sv_sts (sv_sts (sv_sts (sv_sts (sv_sts S [68, 69, 70, 81, 82, 83, 84, 85, 86, 71, 74, 75, 1127, 78, 79, 80, 72, 76, 77, 1143, 1144, 5, 1011, 1150, 1149, 1145, 1113, 1111, 1112, 91, 1147, 1100031] g19) [68, 69, 70, 81, 82, 83, 84, 85, 86, 71, 74, 75, 1127, 78, 79, 80, 72, 76, 77, 1143, 1144, 5, 1011, 1150, 1149, 1145, 1113, 1111, 1112, 1100031] g27) [68, 69, 70, 81, 82, 83, 84, 85, 86, 71, 74, 75, 1127, 78, 79, 80, 72, 76, 77, 1143, 1144, 5, 1011, 1150, 1149, 1145, 1113, 1111, 1112, 91, 1147, 1100031] g74) [68, 69, 70, 81, 82, 83, 84, 85, 86, 76, 77] g82) [68, 69, 70] g92) [69, 70] g152) [69, 70] g164) [68, 69, 70, 81, 82, 83, 84, 85, 86, 71, 74, 75, 1127, 78, 79, 80, 72, 76, 77, 1150] g171)
            have md175 : sv_mod [68, 69, 70, 81, 82, 83, 84, 85, 86, 71, 74, 75, 1127, 78, 79, 80, 72, 76, 77, 1143, 1144, 5, 1011, 1150, 1149, 1145, 1113, 1111, 1112, 91, 1147, 1100031] S (sv_sts (sv_sts (sv_sts (sv_sts (sv_sts (sv_sts (sv_sts (sv_sts S [68, 69, 70, 81, 82, 83, 84, 85, 86, 71, 74, 75, 1127, 78, 79, 80, 72, 76, 77, 1143, 1144, 5, 1011, 1150, 1149, 1145, 1113, 1111, 1112, 91, 1147, 1100031] g19) [68, 69, 70, 81, 82, 83, 84, 85, 86, 71, 74, 75, 1127, 78, 79, 80, 72, 76, 77, 1143, 1144, 5, 1011, 1150, 1149, 1145, 1113, 1111, 1112, 1100031] g27) [68, 69, 70, 81, 82, 83, 84, 85, 86, 71, 74, 75, 1127, 78, 79, 80, 72, 76, 77, 1143, 1144, 5, 1011, 1150, 1149, 1145, 1113, 1111, 1112, 91, 1147, 1100031] g74) [68, 69, 70, 81, 82, 83, 84, 85, 86, 76, 77] g82) [68, 69, 70] g92) [69, 70] g152) [69, 70] g164) [68, 69, 70, 81, 82, 83, 84, 85, 86, 71, 74, 75, 1127, 78, 79, 80, 72, 76, 77, 1150] g171) := sv_mod.sts md168 (by decide)
            have md176 : sv_mod [68, 69, 70, 81, 82, 83, 84, 85, 86, 71, 74, 75, 1127, 78, 79, 80, 72, 76, 77, 1143, 1144, 5, 1011, 1150, 1149, 1145, 1113, 1111, 1112, 91, 1147, 1100031] (sv_sts (sv_sts S [68, 69, 70, 81, 82, 83, 84, 85, 86, 71, 74, 75, 1127, 78, 79, 80, 72, 76, 77, 1143, 1144, 5, 1011, 1150, 1149, 1145, 1113, 1111, 1112, 91, 1147, 1100031] g19) [68, 69, 70, 81, 82, 83, 84, 85, 86, 71, 74, 75, 1127, 78, 79, 80, 72, 76, 77, 1143, 1144, 5, 1011, 1150, 1149, 1145, 1113, 1111, 1112, 1100031] g27) (sv_sts (sv_sts (sv_sts (sv_sts (sv_sts (sv_sts (sv_sts (sv_sts S [68, 69, 70, 81, 82, 83, 84, 85, 86, 71, 74, 75, 1127, 78, 79, 80, 72, 76, 77, 1143, 1144, 5, 1011, 1150, 1149, 1145, 1113, 1111, 1112, 91, 1147, 1100031] g19) [68, 69, 70, 81, 82, 83, 84, 85, 86, 71, 74, 75, 1127, 78, 79, 80, 72, 76, 77, 1143, 1144, 5, 1011, 1150, 1149, 1145, 1113, 1111, 1112, 1100031] g27) [68, 69, 70, 81, 82, 83, 84, 85, 86, 71, 74, 75, 1127, 78, 79, 80, 72, 76, 77, 1143, 1144, 5, 1011, 1150, 1149, 1145, 1113, 1111, 1112, 91, 1147, 1100031] g74) [68, 69, 70, 81, 82, 83, 84, 85, 86, 76, 77] g82) [68, 69, 70] g92) [69, 70] g152) [69, 70] g164) [68, 69, 70, 81, 82, 83, 84, 85, 86, 71, 74, 75, 1127, 78, 79, 80, 72, 76, 77, 1150] g171) := sv_mod.sts md169 (by decide)
            have h := h g171 hpo174
            have eS := sv_mod.eq md176
            have hb := J70 (sv_sts (sv_sts (sv_sts (sv_sts (sv_sts (sv_sts (sv_sts (sv_sts S [68, 69, 70, 81, 82, 83, 84, 85, 86, 71, 74, 75, 1127, 78, 79, 80, 72, 76, 77, 1143, 1144, 5, 1011, 1150, 1149, 1145, 1113, 1111, 1112, 91, 1147, 1100031] g19) [68, 69, 70, 81, 82, 83, 84, 85, 86, 71, 74, 75, 1127, 78, 79, 80, 72, 76, 77, 1143, 1144, 5, 1011, 1150, 1149, 1145, 1113, 1111, 1112, 1100031] g27) [68, 69, 70, 81, 82, 83, 84, 85, 86, 71, 74, 75, 1127, 78, 79, 80, 72, 76, 77, 1143, 1144, 5, 1011, 1150, 1149, 1145, 1113, 1111, 1112, 91, 1147, 1100031] g74) [68, 69, 70, 81, 82, 83, 84, 85, 86, 76, 77] g82) [68, 69, 70] g92) [69, 70] g152) [69, 70] g164) [68, 69, 70, 81, 82, 83, 84, 85, 86, 71, 74, 75, 1127, 78, 79, 80, 72, 76, 77, 1150] g171) (by rw [← eS]; exact ok172) h
            have hb : sv_T sm_XS sm_cs sm_L sm_sh 6 (q_codeWays p1 p2 p4 p6 p7 p8 p9 p10 S) 284 189 [(0, .ref 0), (1, sv_I p1), (2, sv_L p2), (4, sv_L p4), (6, sv_I p6), (7, sv_I p7), (8, sv_I p8), (9, sv_I p9), (10, sv_I p10), (11, sv_I x2), (12, sv_I r10), (13, sv_I r17), (14, sv_I x33)] [] (sv_sts (sv_sts (sv_sts (sv_sts (sv_sts (sv_sts (sv_sts (sv_sts S [68, 69, 70, 81, 82, 83, 84, 85, 86, 71, 74, 75, 1127, 78, 79, 80, 72, 76, 77, 1143, 1144, 5, 1011, 1150, 1149, 1145, 1113, 1111, 1112, 91, 1147, 1100031] g19) [68, 69, 70, 81, 82, 83, 84, 85, 86, 71, 74, 75, 1127, 78, 79, 80, 72, 76, 77, 1143, 1144, 5, 1011, 1150, 1149, 1145, 1113, 1111, 1112, 1100031] g27) [68, 69, 70, 81, 82, 83, 84, 85, 86, 71, 74, 75, 1127, 78, 79, 80, 72, 76, 77, 1143, 1144, 5, 1011, 1150, 1149, 1145, 1113, 1111, 1112, 91, 1147, 1100031] g74) [68, 69, 70, 81, 82, 83, 84, 85, 86, 76, 77] g82) [68, 69, 70] g92) [69, 70] g152) [69, 70] g164) [68, 69, 70, 81, 82, 83, 84, 85, 86, 71, 74, 75, 1127, 78, 79, 80, 72, 76, 77, 1150] g171) := Eq.mpr (congrArg (fun Z => sv_T sm_XS sm_cs sm_L sm_sh 6 (q_codeWays p1 p2 p4 p6 p7 p8 p9 p10 S) 284 189 [(0, .ref 0), (1, sv_I p1), (2, sv_L p2), (4, sv_L p4), (6, sv_I p6), (7, sv_I p7), (8, sv_I p8), (9, sv_I p9), (10, sv_I p10), (11, sv_I x2), (12, sv_I r10), (13, sv_I r17), (14, sv_I x33)] [] Z) eS) hb
            exact sv_less (lv := [(0, .ref 0), (1, sv_I p1), (2, sv_L p2), (4, sv_L p4), (6, sv_I p6), (7, sv_I p7), (8, sv_I p8), (9, sv_I p9), (10, sv_I p10), (11, sv_I x2), (12, sv_I r10), (13, sv_I r17), (14, sv_I x33)]) (sv_Sub_cons rfl (sv_Sub_cons rfl (sv_Sub_cons rfl (sv_Sub_cons rfl (sv_Sub_cons rfl (sv_Sub_cons rfl (sv_Sub_cons rfl (sv_Sub_cons rfl (sv_Sub_cons rfl (sv_Sub_cons rfl (sv_Sub_cons rfl (sv_Sub_cons rfl (sv_Sub_cons rfl sv_Sub_nil))))))))))))) hb
          · have h := h.2 (hc)
            refine sv_aload_n hM dX12_codeWays_172 rfl rfl ?_
            refine sv_iload hM dX12_codeWays_173 rfl rfl ?_
            refine sv_iconst (d := (0 : Int)) hM dX12_codeWays_175 rfl rfl ?_
            refine sv_iconst (d := (0 : Int)) hM dX12_codeWays_176 rfl rfl ?_
            refine sv_iconst (d := (0 : Int)) hM dX12_codeWays_177 rfl rfl ?_
            refine sv_callV hM dX12_codeWays_178 sm_iv_1056 (by decide) (sm_a0 _) rfl rfl (Nat.le_of_ble_eq_true rfl) sm_h205 (Nat.le_of_ble_eq_true rfl) (Nat.le_of_ble_eq_true rfl) (F' := 0) (Nat.le_of_ble_eq_true rfl) rfl (t_write (647751 : Int) (0 : Int) (0 : Int) (0 : Int) (sv_sts (sv_sts (sv_sts (sv_sts (sv_sts (sv_sts (sv_sts S [68, 69, 70, 81, 82, 83, 84, 85, 86, 71, 74, 75, 1127, 78, 79, 80, 72, 76, 77, 1143, 1144, 5, 1011, 1150, 1149, 1145, 1113, 1111, 1112, 91, 1147, 1100031] g19) [68, 69, 70, 81, 82, 83, 84, 85, 86, 71, 74, 75, 1127, 78, 79, 80, 72, 76, 77, 1143, 1144, 5, 1011, 1150, 1149, 1145, 1113, 1111, 1112, 1100031] g27) [68, 69, 70, 81, 82, 83, 84, 85, 86, 71, 74, 75, 1127, 78, 79, 80, 72, 76, 77, 1143, 1144, 5, 1011, 1150, 1149, 1145, 1113, 1111, 1112, 91, 1147, 1100031] g74) [68, 69, 70, 81, 82, 83, 84, 85, 86, 76, 77] g82) [68, 69, 70] g92) [69, 70] g152) [69, 70] g164) ok165 (⟨by decide, by decide⟩ : sv_R (647751 : Int)) (⟨by decide, by decide⟩ : sv_R (0 : Int)) (⟨by decide, by decide⟩ : sv_R (0 : Int)) (⟨by decide, by decide⟩ : sv_R (0 : Int)) o119) (fun v S1 hq => ?_)
            obtain ⟨rfl, ok178, md179, hpo180⟩ := hq
            obtain ⟨g177, rfl⟩ : ∃ g, S1 = sv_sts (sv_sts (sv_sts (sv_sts (sv_sts (sv_sts (sv_sts (sv_sts S [68, 69, 70, 81, 82, 83, 84, 85, 86, 71, 74, 75, 1127, 78, 79, 80, 72, 76, 77, 1143, 1144, 5, 1011, 1150, 1149, 1145, 1113, 1111, 1112, 91, 1147, 1100031] g19) [68, 69, 70, 81, 82, 83, 84, 85, 86, 71, 74, 75, 1127, 78, 79, 80, 72, 76, 77, 1143, 1144, 5, 1011, 1150, 1149, 1145, 1113, 1111, 1112, 1100031] g27) [68, 69, 70, 81, 82, 83, 84, 85, 86, 71, 74, 75, 1127, 78, 79, 80, 72, 76, 77, 1143, 1144, 5, 1011, 1150, 1149, 1145, 1113, 1111, 1112, 91, 1147, 1100031] g74) [68, 69, 70, 81, 82, 83, 84, 85, 86, 76, 77] g82) [68, 69, 70] g92) [69, 70] g152) [69, 70] g164) [68] g := ⟨_, md179.eq⟩
            show sv_T sm_XS sm_cs sm_L sm_sh 6 (q_codeWays p1 p2 p4 p6 p7 p8 p9 p10 S) 284 181 [(0, .ref 0), (1, sv_I p1), (2, sv_L p2), (4, sv_L p4), (6, sv_I p6), (7, sv_I p7), (8, sv_I p8), (9, sv_I p9), (10, sv_I p10), (11, sv_I x2), (12, sv_I r10), (13, sv_I r17), (14, sv_I x33), (15, sv_I (647751 : Int))] [] (sv_sts (sv_sts (sv_sts (sv_sts (sv_sts (sv_sts (sv_sts (sv_sts S [68, 69, 70, 81, 82, 83, 84, 85, 86, 71, 74, 75, 1127, 78, 79, 80, 72, 76, 77, 1143, 1144, 5, 1011, 1150, 1149, 1145, 1113, 1111, 1112, 91, 1147, 1100031] g19) [68, 69, 70, 81, 82, 83, 84, 85, 86, 71, 74, 75, 1127, 78, 79, 80, 72, 76, 77, 1143, 1144, 5, 1011, 1150, 1149, 1145, 1113, 1111, 1112, 1100031] g27) [68, 69, 70, 81, 82, 83, 84, 85, 86, 71, 74, 75, 1127, 78, 79, 80, 72, 76, 77, 1143, 1144, 5, 1011, 1150, 1149, 1145, 1113, 1111, 1112, 91, 1147, 1100031] g74) [68, 69, 70, 81, 82, 83, 84, 85, 86, 76, 77] g82) [68, 69, 70] g92) [69, 70] g152) [69, 70] g164) [68] g177)
            have md181 : sv_mod [68, 69, 70, 81, 82, 83, 84, 85, 86, 71, 74, 75, 1127, 78, 79, 80, 72, 76, 77, 1143, 1144, 5, 1011, 1150, 1149, 1145, 1113, 1111, 1112, 91, 1147, 1100031] S (sv_sts (sv_sts (sv_sts (sv_sts (sv_sts (sv_sts (sv_sts (sv_sts S [68, 69, 70, 81, 82, 83, 84, 85, 86, 71, 74, 75, 1127, 78, 79, 80, 72, 76, 77, 1143, 1144, 5, 1011, 1150, 1149, 1145, 1113, 1111, 1112, 91, 1147, 1100031] g19) [68, 69, 70, 81, 82, 83, 84, 85, 86, 71, 74, 75, 1127, 78, 79, 80, 72, 76, 77, 1143, 1144, 5, 1011, 1150, 1149, 1145, 1113, 1111, 1112, 1100031] g27) [68, 69, 70, 81, 82, 83, 84, 85, 86, 71, 74, 75, 1127, 78, 79, 80, 72, 76, 77, 1143, 1144, 5, 1011, 1150, 1149, 1145, 1113, 1111, 1112, 91, 1147, 1100031] g74) [68, 69, 70, 81, 82, 83, 84, 85, 86, 76, 77] g82) [68, 69, 70] g92) [69, 70] g152) [69, 70] g164) [68] g177) := sv_mod.sts md168 (by decide)
            have md182 : sv_mod [68, 69, 70, 81, 82, 83, 84, 85, 86, 71, 74, 75, 1127, 78, 79, 80, 72, 76, 77, 1143, 1144, 5, 1011, 1150, 1149, 1145, 1113, 1111, 1112, 91, 1147, 1100031] (sv_sts (sv_sts S [68, 69, 70, 81, 82, 83, 84, 85, 86, 71, 74, 75, 1127, 78, 79, 80, 72, 76, 77, 1143, 1144, 5, 1011, 1150, 1149, 1145, 1113, 1111, 1112, 91, 1147, 1100031] g19) [68, 69, 70, 81, 82, 83, 84, 85, 86, 71, 74, 75, 1127, 78, 79, 80, 72, 76, 77, 1143, 1144, 5, 1011, 1150, 1149, 1145, 1113, 1111, 1112, 1100031] g27) (sv_sts (sv_sts (sv_sts (sv_sts (sv_sts (sv_sts (sv_sts (sv_sts S [68, 69, 70, 81, 82, 83, 84, 85, 86, 71, 74, 75, 1127, 78, 79, 80, 72, 76, 77, 1143, 1144, 5, 1011, 1150, 1149, 1145, 1113, 1111, 1112, 91, 1147, 1100031] g19) [68, 69, 70, 81, 82, 83, 84, 85, 86, 71, 74, 75, 1127, 78, 79, 80, 72, 76, 77, 1143, 1144, 5, 1011, 1150, 1149, 1145, 1113, 1111, 1112, 1100031] g27) [68, 69, 70, 81, 82, 83, 84, 85, 86, 71, 74, 75, 1127, 78, 79, 80, 72, 76, 77, 1143, 1144, 5, 1011, 1150, 1149, 1145, 1113, 1111, 1112, 91, 1147, 1100031] g74) [68, 69, 70, 81, 82, 83, 84, 85, 86, 76, 77] g82) [68, 69, 70] g92) [69, 70] g152) [69, 70] g164) [68] g177) := sv_mod.sts md169 (by decide)
            have h := h g177 hpo180
            refine sv_aload_n hM dX12_codeWays_181 rfl rfl ?_
            refine sv_iload hM dX12_codeWays_182 rfl rfl ?_
            refine sv_iload hM dX12_codeWays_184 rfl rfl ?_
            obtain ⟨o183, h⟩ := h
            refine sv_callV hM dX12_codeWays_186 sm_iv_1258 (by decide) (sm_a0 _) rfl rfl (Nat.le_of_ble_eq_true rfl) sm_h267 (Nat.le_of_ble_eq_true rfl) (Nat.le_of_ble_eq_true rfl) (F' := 5) (Nat.le_of_ble_eq_true rfl) rfl (t_replace p9 (647751 : Int) (sv_sts (sv_sts (sv_sts (sv_sts (sv_sts (sv_sts (sv_sts (sv_sts S [68, 69, 70, 81, 82, 83, 84, 85, 86, 71, 74, 75, 1127, 78, 79, 80, 72, 76, 77, 1143, 1144, 5, 1011, 1150, 1149, 1145, 1113, 1111, 1112, 91, 1147, 1100031] g19) [68, 69, 70, 81, 82, 83, 84, 85, 86, 71, 74, 75, 1127, 78, 79, 80, 72, 76, 77, 1143, 1144, 5, 1011, 1150, 1149, 1145, 1113, 1111, 1112, 1100031] g27) [68, 69, 70, 81, 82, 83, 84, 85, 86, 71, 74, 75, 1127, 78, 79, 80, 72, 76, 77, 1143, 1144, 5, 1011, 1150, 1149, 1145, 1113, 1111, 1112, 91, 1147, 1100031] g74) [68, 69, 70, 81, 82, 83, 84, 85, 86, 76, 77] g82) [68, 69, 70] g92) [69, 70] g152) [69, 70] g164) [68] g177) ok178 hp9 (⟨by decide, by decide⟩ : sv_R (647751 : Int)) o183) (fun v S1 hq => ?_)
            obtain ⟨rfl, ok185, md186, hpo187⟩ := hq
            obtain ⟨g184, rfl⟩ : ∃ g, S1 = sv_sts (sv_sts (sv_sts (sv_sts (sv_sts (sv_sts (sv_sts (sv_sts (sv_sts S [68, 69, 70, 81, 82, 83, 84, 85, 86, 71, 74, 75, 1127, 78, 79, 80, 72, 76, 77, 1143, 1144, 5, 1011, 1150, 1149, 1145, 1113, 1111, 1112, 91, 1147, 1100031] g19) [68, 69, 70, 81, 82, 83, 84, 85, 86, 71, 74, 75, 1127, 78, 79, 80, 72, 76, 77, 1143, 1144, 5, 1011, 1150, 1149, 1145, 1113, 1111, 1112, 1100031] g27) [68, 69, 70, 81, 82, 83, 84, 85, 86, 71, 74, 75, 1127, 78, 79, 80, 72, 76, 77, 1143, 1144, 5, 1011, 1150, 1149, 1145, 1113, 1111, 1112, 91, 1147, 1100031] g74) [68, 69, 70, 81, 82, 83, 84, 85, 86, 76, 77] g82) [68, 69, 70] g92) [69, 70] g152) [69, 70] g164) [68] g177) [68, 69, 70, 81, 82, 83, 84, 85, 86, 71, 74, 75, 1127, 78, 79, 80, 72, 76, 77, 1150] g := ⟨_, md186.eq⟩
            show sv_T sm_XS sm_cs sm_L sm_sh 6 (q_codeWays p1 p2 p4 p6 p7 p8 p9 p10 S) 284 189 [(0, .ref 0), (1, sv_I p1), (2, sv_L p2), (4, sv_L p4), (6, sv_I p6), (7, sv_I p7), (8, sv_I p8), (9, sv_I p9), (10, sv_I p10), (11, sv_I x2), (12, sv_I r10), (13, sv_I r17), (14, sv_I x33), (15, sv_I (647751 : Int))] [] (sv_sts (sv_sts (sv_sts (sv_sts (sv_sts (sv_sts (sv_sts (sv_sts (sv_sts S [68, 69, 70, 81, 82, 83, 84, 85, 86, 71, 74, 75, 1127, 78, 79, 80, 72, 76, 77, 1143, 1144, 5, 1011, 1150, 1149, 1145, 1113, 1111, 1112, 91, 1147, 1100031] g19) [68, 69, 70, 81, 82, 83, 84, 85, 86, 71, 74, 75, 1127, 78, 79, 80, 72, 76, 77, 1143, 1144, 5, 1011, 1150, 1149, 1145, 1113, 1111, 1112, 1100031] g27) [68, 69, 70, 81, 82, 83, 84, 85, 86, 71, 74, 75, 1127, 78, 79, 80, 72, 76, 77, 1143, 1144, 5, 1011, 1150, 1149, 1145, 1113, 1111, 1112, 91, 1147, 1100031] g74) [68, 69, 70, 81, 82, 83, 84, 85, 86, 76, 77] g82) [68, 69, 70] g92) [69, 70] g152) [69, 70] g164) [68] g177) [68, 69, 70, 81, 82, 83, 84, 85, 86, 71, 74, 75, 1127, 78, 79, 80, 72, 76, 77, 1150] g184)
            have md188 : sv_mod [68, 69, 70, 81, 82, 83, 84, 85, 86, 71, 74, 75, 1127, 78, 79, 80, 72, 76, 77, 1143, 1144, 5, 1011, 1150, 1149, 1145, 1113, 1111, 1112, 91, 1147, 1100031] S (sv_sts (sv_sts (sv_sts (sv_sts (sv_sts (sv_sts (sv_sts (sv_sts (sv_sts S [68, 69, 70, 81, 82, 83, 84, 85, 86, 71, 74, 75, 1127, 78, 79, 80, 72, 76, 77, 1143, 1144, 5, 1011, 1150, 1149, 1145, 1113, 1111, 1112, 91, 1147, 1100031] g19) [68, 69, 70, 81, 82, 83, 84, 85, 86, 71, 74, 75, 1127, 78, 79, 80, 72, 76, 77, 1143, 1144, 5, 1011, 1150, 1149, 1145, 1113, 1111, 1112, 1100031] g27) [68, 69, 70, 81, 82, 83, 84, 85, 86, 71, 74, 75, 1127, 78, 79, 80, 72, 76, 77, 1143, 1144, 5, 1011, 1150, 1149, 1145, 1113, 1111, 1112, 91, 1147, 1100031] g74) [68, 69, 70, 81, 82, 83, 84, 85, 86, 76, 77] g82) [68, 69, 70] g92) [69, 70] g152) [69, 70] g164) [68] g177) [68, 69, 70, 81, 82, 83, 84, 85, 86, 71, 74, 75, 1127, 78, 79, 80, 72, 76, 77, 1150] g184) := sv_mod.sts md181 (by decide)
            have md189 : sv_mod [68, 69, 70, 81, 82, 83, 84, 85, 86, 71, 74, 75, 1127, 78, 79, 80, 72, 76, 77, 1143, 1144, 5, 1011, 1150, 1149, 1145, 1113, 1111, 1112, 91, 1147, 1100031] (sv_sts (sv_sts S [68, 69, 70, 81, 82, 83, 84, 85, 86, 71, 74, 75, 1127, 78, 79, 80, 72, 76, 77, 1143, 1144, 5, 1011, 1150, 1149, 1145, 1113, 1111, 1112, 91, 1147, 1100031] g19) [68, 69, 70, 81, 82, 83, 84, 85, 86, 71, 74, 75, 1127, 78, 79, 80, 72, 76, 77, 1143, 1144, 5, 1011, 1150, 1149, 1145, 1113, 1111, 1112, 1100031] g27) (sv_sts (sv_sts (sv_sts (sv_sts (sv_sts (sv_sts (sv_sts (sv_sts (sv_sts S [68, 69, 70, 81, 82, 83, 84, 85, 86, 71, 74, 75, 1127, 78, 79, 80, 72, 76, 77, 1143, 1144, 5, 1011, 1150, 1149, 1145, 1113, 1111, 1112, 91, 1147, 1100031] g19) [68, 69, 70, 81, 82, 83, 84, 85, 86, 71, 74, 75, 1127, 78, 79, 80, 72, 76, 77, 1143, 1144, 5, 1011, 1150, 1149, 1145, 1113, 1111, 1112, 1100031] g27) [68, 69, 70, 81, 82, 83, 84, 85, 86, 71, 74, 75, 1127, 78, 79, 80, 72, 76, 77, 1143, 1144, 5, 1011, 1150, 1149, 1145, 1113, 1111, 1112, 91, 1147, 1100031] g74) [68, 69, 70, 81, 82, 83, 84, 85, 86, 76, 77] g82) [68, 69, 70] g92) [69, 70] g152) [69, 70] g164) [68] g177) [68, 69, 70, 81, 82, 83, 84, 85, 86, 71, 74, 75, 1127, 78, 79, 80, 72, 76, 77, 1150] g184) := sv_mod.sts md182 (by decide)
            have h := h g184 hpo187
            have eS := sv_mod.eq md189
            have hb := J70 (sv_sts (sv_sts (sv_sts (sv_sts (sv_sts (sv_sts (sv_sts (sv_sts (sv_sts S [68, 69, 70, 81, 82, 83, 84, 85, 86, 71, 74, 75, 1127, 78, 79, 80, 72, 76, 77, 1143, 1144, 5, 1011, 1150, 1149, 1145, 1113, 1111, 1112, 91, 1147, 1100031] g19) [68, 69, 70, 81, 82, 83, 84, 85, 86, 71, 74, 75, 1127, 78, 79, 80, 72, 76, 77, 1143, 1144, 5, 1011, 1150, 1149, 1145, 1113, 1111, 1112, 1100031] g27) [68, 69, 70, 81, 82, 83, 84, 85, 86, 71, 74, 75, 1127, 78, 79, 80, 72, 76, 77, 1143, 1144, 5, 1011, 1150, 1149, 1145, 1113, 1111, 1112, 91, 1147, 1100031] g74) [68, 69, 70, 81, 82, 83, 84, 85, 86, 76, 77] g82) [68, 69, 70] g92) [69, 70] g152) [69, 70] g164) [68] g177) [68, 69, 70, 81, 82, 83, 84, 85, 86, 71, 74, 75, 1127, 78, 79, 80, 72, 76, 77, 1150] g184) (by rw [← eS]; exact ok185) h
            have hb : sv_T sm_XS sm_cs sm_L sm_sh 6 (q_codeWays p1 p2 p4 p6 p7 p8 p9 p10 S) 284 189 [(0, .ref 0), (1, sv_I p1), (2, sv_L p2), (4, sv_L p4), (6, sv_I p6), (7, sv_I p7), (8, sv_I p8), (9, sv_I p9), (10, sv_I p10), (11, sv_I x2), (12, sv_I r10), (13, sv_I r17), (14, sv_I x33)] [] (sv_sts (sv_sts (sv_sts (sv_sts (sv_sts (sv_sts (sv_sts (sv_sts (sv_sts S [68, 69, 70, 81, 82, 83, 84, 85, 86, 71, 74, 75, 1127, 78, 79, 80, 72, 76, 77, 1143, 1144, 5, 1011, 1150, 1149, 1145, 1113, 1111, 1112, 91, 1147, 1100031] g19) [68, 69, 70, 81, 82, 83, 84, 85, 86, 71, 74, 75, 1127, 78, 79, 80, 72, 76, 77, 1143, 1144, 5, 1011, 1150, 1149, 1145, 1113, 1111, 1112, 1100031] g27) [68, 69, 70, 81, 82, 83, 84, 85, 86, 71, 74, 75, 1127, 78, 79, 80, 72, 76, 77, 1143, 1144, 5, 1011, 1150, 1149, 1145, 1113, 1111, 1112, 91, 1147, 1100031] g74) [68, 69, 70, 81, 82, 83, 84, 85, 86, 76, 77] g82) [68, 69, 70] g92) [69, 70] g152) [69, 70] g164) [68] g177) [68, 69, 70, 81, 82, 83, 84, 85, 86, 71, 74, 75, 1127, 78, 79, 80, 72, 76, 77, 1150] g184) := Eq.mpr (congrArg (fun Z => sv_T sm_XS sm_cs sm_L sm_sh 6 (q_codeWays p1 p2 p4 p6 p7 p8 p9 p10 S) 284 189 [(0, .ref 0), (1, sv_I p1), (2, sv_L p2), (4, sv_L p4), (6, sv_I p6), (7, sv_I p7), (8, sv_I p8), (9, sv_I p9), (10, sv_I p10), (11, sv_I x2), (12, sv_I r10), (13, sv_I r17), (14, sv_I x33)] [] Z) eS) hb
            exact sv_less (lv := [(0, .ref 0), (1, sv_I p1), (2, sv_L p2), (4, sv_L p4), (6, sv_I p6), (7, sv_I p7), (8, sv_I p8), (9, sv_I p9), (10, sv_I p10), (11, sv_I x2), (12, sv_I r10), (13, sv_I r17), (14, sv_I x33)]) (sv_Sub_cons rfl (sv_Sub_cons rfl (sv_Sub_cons rfl (sv_Sub_cons rfl (sv_Sub_cons rfl (sv_Sub_cons rfl (sv_Sub_cons rfl (sv_Sub_cons rfl (sv_Sub_cons rfl (sv_Sub_cons rfl (sv_Sub_cons rfl (sv_Sub_cons rfl (sv_Sub_cons rfl sv_Sub_nil))))))))))))) hb
  · have h := h.2 (hc)
    refine sv_iload hM dX12_codeWays_40 rfl rfl ?_
    refine sv_cond_ne hM dX12_codeWays_42 hr17 (t := 46) rfl rfl (fun hc => ?_) (fun hc => ?_)
    · have h := h.1 (hc)
      refine sv_aload_n hM dX12_codeWays_46 rfl rfl ?_
      refine sv_lload_n hM dX12_codeWays_47 rfl rfl ?_
      refine sv_lload hM dX12_codeWays_48 rfl rfl ?_
      refine sv_iload hM dX12_codeWays_50 rfl rfl ?_
      obtain ⟨o190, h⟩ := h
      refine sv_callV hM dX12_codeWays_52 sm_iv_1336 (by decide) (sm_a0 _) rfl rfl (Nat.le_of_ble_eq_true rfl) sm_h283 (Nat.le_of_ble_eq_true rfl) (Nat.le_of_ble_eq_true rfl) (F' := 4) (Nat.le_of_ble_eq_true rfl) rfl (t_prepare p2 p4 p10 S ok14 hp2 hp4 hp10 o190) (fun v S1 hq => ?_)
      obtain ⟨rfl, ok192, md193, hpo194⟩ := hq
      obtain ⟨g191, rfl⟩ : ∃ g, S1 = sv_sts S [68, 69, 70, 81, 82, 83, 84, 85, 86, 71, 74, 75, 1127, 78, 79, 80, 72, 76, 77, 1143, 1144, 5, 1011, 1150, 1149, 1145, 1113, 1111, 1112, 91, 1147, 1100031] g := ⟨_, md193.eq⟩
      show sv_T sm_XS sm_cs sm_L sm_sh 6 (q_codeWays p1 p2 p4 p6 p7 p8 p9 p10 S) 284 55 [(0, .ref 0), (1, sv_I p1), (2, sv_L p2), (4, sv_L p4), (6, sv_I p6), (7, sv_I p7), (8, sv_I p8), (9, sv_I p9), (10, sv_I p10), (11, sv_I x2), (12, sv_I r10), (13, sv_I r17)] [] (sv_sts S [68, 69, 70, 81, 82, 83, 84, 85, 86, 71, 74, 75, 1127, 78, 79, 80, 72, 76, 77, 1143, 1144, 5, 1011, 1150, 1149, 1145, 1113, 1111, 1112, 91, 1147, 1100031] g191)
      have md195 : sv_mod [68, 69, 70, 81, 82, 83, 84, 85, 86, 71, 74, 75, 1127, 78, 79, 80, 72, 76, 77, 1143, 1144, 5, 1011, 1150, 1149, 1145, 1113, 1111, 1112, 91, 1147, 1100031] S (sv_sts S [68, 69, 70, 81, 82, 83, 84, 85, 86, 71, 74, 75, 1127, 78, 79, 80, 72, 76, 77, 1143, 1144, 5, 1011, 1150, 1149, 1145, 1113, 1111, 1112, 91, 1147, 1100031] g191) := sv_mod.sts sv_mod.rf (by decide)
      have h := h g191 hpo194
      refine sv_aload_n hM dX12_codeWays_55 rfl rfl ?_
      refine sv_iload_n hM dX12_codeWays_56 rfl rfl ?_
      refine sv_iload hM dX12_codeWays_57 rfl rfl ?_
      refine sv_iload hM dX12_codeWays_59 rfl rfl ?_
      refine sv_iload hM dX12_codeWays_61 rfl rfl ?_
      refine sv_iload hM dX12_codeWays_63 rfl rfl ?_
      refine sv_iload hM dX12_codeWays_65 rfl rfl ?_
      refine sv_iload hM dX12_codeWays_67 rfl rfl ?_
      obtain ⟨o196, h⟩ := h
      obtain ⟨o197, h⟩ := h
      obtain ⟨o198, h⟩ := h
      refine sv_callV hM dX12_codeWays_69 sm_iv_1342 (by decide) (sm_a0 _) rfl rfl (Nat.le_of_ble_eq_true rfl) sm_h286 (Nat.le_of_ble_eq_true rfl) (Nat.le_of_ble_eq_true rfl) (F' := 4) (Nat.le_of_ble_eq_true rfl) rfl (t_enterCode p1 r10 r17 p6 p7 p8 p10 (sv_sts S [68, 69, 70, 81, 82, 83, 84, 85, 86, 71, 74, 75, 1127, 78, 79, 80, 72, 76, 77, 1143, 1144, 5, 1011, 1150, 1149, 1145, 1113, 1111, 1112, 91, 1147, 1100031] g191) ok192 hp1 o196 o197 hp6 hp7 hp8 hp10 o198) (fun v S1 hq => ?_)
      obtain ⟨rfl, ok200, md201, hpo202⟩ := hq
      obtain ⟨g199, rfl⟩ : ∃ g, S1 = sv_sts (sv_sts S [68, 69, 70, 81, 82, 83, 84, 85, 86, 71, 74, 75, 1127, 78, 79, 80, 72, 76, 77, 1143, 1144, 5, 1011, 1150, 1149, 1145, 1113, 1111, 1112, 91, 1147, 1100031] g191) [68, 69, 70, 81, 82, 83, 84, 85, 86, 71, 74, 75, 1127, 78, 79, 80, 72, 76, 77, 1143, 1144, 5, 1011, 1150, 1149, 1145, 1113, 1111, 1112, 1100031] g := ⟨_, md201.eq⟩
      show sv_T sm_XS sm_cs sm_L sm_sh 6 (q_codeWays p1 p2 p4 p6 p7 p8 p9 p10 S) 284 72 [(0, .ref 0), (1, sv_I p1), (2, sv_L p2), (4, sv_L p4), (6, sv_I p6), (7, sv_I p7), (8, sv_I p8), (9, sv_I p9), (10, sv_I p10), (11, sv_I x2), (12, sv_I r10), (13, sv_I r17)] [] (sv_sts (sv_sts S [68, 69, 70, 81, 82, 83, 84, 85, 86, 71, 74, 75, 1127, 78, 79, 80, 72, 76, 77, 1143, 1144, 5, 1011, 1150, 1149, 1145, 1113, 1111, 1112, 91, 1147, 1100031] g191) [68, 69, 70, 81, 82, 83, 84, 85, 86, 71, 74, 75, 1127, 78, 79, 80, 72, 76, 77, 1143, 1144, 5, 1011, 1150, 1149, 1145, 1113, 1111, 1112, 1100031] g199)
      have md203 : sv_mod [68, 69, 70, 81, 82, 83, 84, 85, 86, 71, 74, 75, 1127, 78, 79, 80, 72, 76, 77, 1143, 1144, 5, 1011, 1150, 1149, 1145, 1113, 1111, 1112, 91, 1147, 1100031] S (sv_sts (sv_sts S [68, 69, 70, 81, 82, 83, 84, 85, 86, 71, 74, 75, 1127, 78, 79, 80, 72, 76, 77, 1143, 1144, 5, 1011, 1150, 1149, 1145, 1113, 1111, 1112, 91, 1147, 1100031] g191) [68, 69, 70, 81, 82, 83, 84, 85, 86, 71, 74, 75, 1127, 78, 79, 80, 72, 76, 77, 1143, 1144, 5, 1011, 1150, 1149, 1145, 1113, 1111, 1112, 1100031] g199) := sv_mod.sts md195 (by decide)
      have h := h g199 hpo202
      refine sv_aload_n hM dX12_codeWays_72 rfl rfl ?_
      have k204 : sv_R (S 1046 0) := sm_okI ok200 sm_r1046 0
      have h := h k204
      refine sv_getI hM dX12_codeWays_73 sm_fl_606 (sm_a0 _) sm_k46 rfl (x := (S 1046 0)) rfl ?_
      refine sv_iconst (d := (2 : Int)) hM dX12_codeWays_76 rfl rfl ?_
      refine sv_iload_n hM dX12_codeWays_77 rfl rfl ?_
      refine sv_imul hM dX12_codeWays_78 rfl ?_
      refine sv_iadd hM dX12_codeWays_79 rfl ?_
      obtain ⟨x205, e206⟩ : ∃ x : Int, ((S 1046 0) + ((2 : Int) * p1)) = x := ⟨_, rfl⟩
      have h := h x205 e206
      refine sv_nameI e206 ?_
      refine sv_istore hM dX12_codeWays_80 (by decide) rfl ?_
      show sv_T sm_XS sm_cs sm_L sm_sh 6 (q_codeWays p1 p2 p4 p6 p7 p8 p9 p10 S) 284 82 [(0, .ref 0), (1, sv_I p1), (2, sv_L p2), (4, sv_L p4), (6, sv_I p6), (7, sv_I p7), (8, sv_I p8), (9, sv_I p9), (10, sv_I p10), (11, sv_I x2), (12, sv_I r10), (13, sv_I r17), (14, sv_I x205)] [] (sv_sts (sv_sts S [68, 69, 70, 81, 82, 83, 84, 85, 86, 71, 74, 75, 1127, 78, 79, 80, 72, 76, 77, 1143, 1144, 5, 1011, 1150, 1149, 1145, 1113, 1111, 1112, 91, 1147, 1100031] g191) [68, 69, 70, 81, 82, 83, 84, 85, 86, 71, 74, 75, 1127, 78, 79, 80, 72, 76, 77, 1143, 1144, 5, 1011, 1150, 1149, 1145, 1113, 1111, 1112, 1100031] g199)
      have J242 : ∀ g207 : sv_S, sm_ok (sv_sts (sv_sts (sv_sts S [68, 69, 70, 81, 82, 83, 84, 85, 86, 71, 74, 75, 1127, 78, 79, 80, 72, 76, 77, 1143, 1144, 5, 1011, 1150, 1149, 1145, 1113, 1111, 1112, 91, 1147, 1100031] g191) [68, 69, 70, 81, 82, 83, 84, 85, 86, 71, 74, 75, 1127, 78, 79, 80, 72, 76, 77, 1143, 1144, 5, 1011, 1150, 1149, 1145, 1113, 1111, 1112, 1100031] g199) [68, 69, 70, 81, 82, 83, 84, 85, 86, 71, 74, 75, 1127, 78, 79, 80, 72, 76, 77, 1143, 1144, 5, 1011, 1150, 1149, 1145, 1113, 1111, 1112, 91, 1147, 1100031] g207) → (sm_ST (g207 71) (g207 74) (g207 75) (g207 78) (g207 79) (g207 80) (S 27) (S 1100007) (S 1100023) (S 1100024) (S 1046 0) ((S 1046 0) + 2 * (S 1032 0)) (g207 1127 0) ∧ 465000 ≤ (g207 1127 0) ∧ (g207 1127 0) + sm_hs (g207 71) (S 1100007) ≤ 635000 ∧ (g207 75 639) = 647340 ∧ (∀ k : Int, (g199 71 k) = 1 → (g207 71 k) = 1) ∧ sm_DR (g207 72) (g207 71) (S 1046 0) ∧ (641 * (sm_cm (g207 71) + sm_pt (g207 68) (g207 69) (g207 70) + sm_pl (g207 81) (g207 82) (g207 83) (g207 84) (g207 85) (g207 86) + sm_ps (g207 76) (g207 77)) + sm_du (g207 72)) ≤ (641 * (sm_cm (g199 71) + sm_pt (g199 68) (g199 69) (g199 70) + sm_pl (g199 81) (g199 82) (g199 83) (g199 84) (g199 85) (g199 86) + sm_ps (g199 76) (g199 77)) + sm_du (g199 72)) ∧ 0 ≤ (g207 1147 0) ∧ (g207 1147 0) ≤ 12 ∧ (∀ k : Int, 0 ≤ k → k < (g207 1147 0) → 635639 ≤ (g207 91 k) ∧ (g207 91 k) < 647800)) → sv_T sm_XS sm_cs sm_L sm_sh 6 (q_codeWays p1 p2 p4 p6 p7 p8 p9 p10 S) 284 189 [(0, .ref 0), (1, sv_I p1), (2, sv_L p2), (4, sv_L p4), (6, sv_I p6), (7, sv_I p7), (8, sv_I p8), (9, sv_I p9), (10, sv_I p10), (11, sv_I x2), (12, sv_I r10), (13, sv_I r17), (14, sv_I x205)] [] (sv_sts (sv_sts (sv_sts S [68, 69, 70, 81, 82, 83, 84, 85, 86, 71, 74, 75, 1127, 78, 79, 80, 72, 76, 77, 1143, 1144, 5, 1011, 1150, 1149, 1145, 1113, 1111, 1112, 91, 1147, 1100031] g191) [68, 69, 70, 81, 82, 83, 84, 85, 86, 71, 74, 75, 1127, 78, 79, 80, 72, 76, 77, 1143, 1144, 5, 1011, 1150, 1149, 1145, 1113, 1111, 1112, 1100031] g199) [68, 69, 70, 81, 82, 83, 84, 85, 86, 71, 74, 75, 1127, 78, 79, 80, 72, 76, 77, 1143, 1144, 5, 1011, 1150, 1149, 1145, 1113, 1111, 1112, 91, 1147, 1100031] g207) := by
        intro  g207 ok208 hin209
        have h := h.1 g207 hin209
        have md210 : sv_mod [68, 69, 70, 81, 82, 83, 84, 85, 86, 71, 74, 75, 1127, 78, 79, 80, 72, 76, 77, 1143, 1144, 5, 1011, 1150, 1149, 1145, 1113, 1111, 1112, 91, 1147, 1100031] S (sv_sts (sv_sts (sv_sts S [68, 69, 70, 81, 82, 83, 84, 85, 86, 71, 74, 75, 1127, 78, 79, 80, 72, 76, 77, 1143, 1144, 5, 1011, 1150, 1149, 1145, 1113, 1111, 1112, 91, 1147, 1100031] g191) [68, 69, 70, 81, 82, 83, 84, 85, 86, 71, 74, 75, 1127, 78, 79, 80, 72, 76, 77, 1143, 1144, 5, 1011, 1150, 1149, 1145, 1113, 1111, 1112, 1100031] g199) [68, 69, 70, 81, 82, 83, 84, 85, 86, 71, 74, 75, 1127, 78, 79, 80, 72, 76, 77, 1143, 1144, 5, 1011, 1150, 1149, 1145, 1113, 1111, 1112, 91, 1147, 1100031] g207) := sv_mod.sts md203 (by decide)
        have md211 : sv_mod [68, 69, 70, 81, 82, 83, 84, 85, 86, 71, 74, 75, 1127, 78, 79, 80, 72, 76, 77, 1143, 1144, 5, 1011, 1150, 1149, 1145, 1113, 1111, 1112, 91, 1147, 1100031] (sv_sts (sv_sts S [68, 69, 70, 81, 82, 83, 84, 85, 86, 71, 74, 75, 1127, 78, 79, 80, 72, 76, 77, 1143, 1144, 5, 1011, 1150, 1149, 1145, 1113, 1111, 1112, 91, 1147, 1100031] g191) [68, 69, 70, 81, 82, 83, 84, 85, 86, 71, 74, 75, 1127, 78, 79, 80, 72, 76, 77, 1143, 1144, 5, 1011, 1150, 1149, 1145, 1113, 1111, 1112, 1100031] g199) (sv_sts (sv_sts (sv_sts S [68, 69, 70, 81, 82, 83, 84, 85, 86, 71, 74, 75, 1127, 78, 79, 80, 72, 76, 77, 1143, 1144, 5, 1011, 1150, 1149, 1145, 1113, 1111, 1112, 91, 1147, 1100031] g191) [68, 69, 70, 81, 82, 83, 84, 85, 86, 71, 74, 75, 1127, 78, 79, 80, 72, 76, 77, 1143, 1144, 5, 1011, 1150, 1149, 1145, 1113, 1111, 1112, 1100031] g199) [68, 69, 70, 81, 82, 83, 84, 85, 86, 71, 74, 75, 1127, 78, 79, 80, 72, 76, 77, 1143, 1144, 5, 1011, 1150, 1149, 1145, 1113, 1111, 1112, 91, 1147, 1100031] g207) := sv_mod.sts sv_mod.rf (by decide)
        refine sv_aload_n hM dX12_codeWays_189 rfl rfl ?_
        refine sv_getA hM dX12_codeWays_190 sm_fl_226 (sm_a0 _) sm_k122 rfl ?_
        refine sv_iload hM dX12_codeWays_193 rfl rfl ?_
        refine sv_iconst (d := (1 : Int)) hM dX12_codeWays_195 rfl rfl ?_
        refine sv_iadd hM dX12_codeWays_196 rfl ?_
        obtain ⟨o212, h⟩ := h
        have k213 : (0 ≤ (g207 71 (x205 + (1 : Int))) ∧ (g207 71 (x205 + (1 : Int))) ≤ 1) := sm_okZ ok208 sm_r71 (x205 + (1 : Int))
        have h := h k213
        refine sv_zald hM dX12_codeWays_197 (sm_a71 _) (by decide) o212.1 o212.2 rfl (x := (g207 71 (x205 + (1 : Int)))) rfl ?_
        refine sv_cond_eq hM dX12_codeWays_198 (sv_R01 k213) (t := 244) rfl rfl (fun hc => ?_) (fun hc => ?_)
        · have h := h.1 (hc)
          exact sv_vret hM dX12_codeWays_244 rfl ⟨rfl, ok208, md210, h⟩
        · have h := h.2 (hc)
          refine sv_aload_n hM dX12_codeWays_201 rfl rfl ?_
          refine sv_lload_n hM dX12_codeWays_202 rfl rfl ?_
          refine sv_lload hM dX12_codeWays_203 rfl rfl ?_
          refine sv_iload hM dX12_codeWays_205 rfl rfl ?_
          obtain ⟨o214, h⟩ := h
          refine sv_callV hM dX12_codeWays_207 sm_iv_1336 (by decide) (sm_a0 _) rfl rfl (Nat.le_of_ble_eq_true rfl) sm_h283 (Nat.le_of_ble_eq_true rfl) (Nat.le_of_ble_eq_true rfl) (F' := 4) (Nat.le_of_ble_eq_true rfl) rfl (t_prepare p2 p4 p10 (sv_sts (sv_sts (sv_sts S [68, 69, 70, 81, 82, 83, 84, 85, 86, 71, 74, 75, 1127, 78, 79, 80, 72, 76, 77, 1143, 1144, 5, 1011, 1150, 1149, 1145, 1113, 1111, 1112, 91, 1147, 1100031] g191) [68, 69, 70, 81, 82, 83, 84, 85, 86, 71, 74, 75, 1127, 78, 79, 80, 72, 76, 77, 1143, 1144, 5, 1011, 1150, 1149, 1145, 1113, 1111, 1112, 1100031] g199) [68, 69, 70, 81, 82, 83, 84, 85, 86, 71, 74, 75, 1127, 78, 79, 80, 72, 76, 77, 1143, 1144, 5, 1011, 1150, 1149, 1145, 1113, 1111, 1112, 91, 1147, 1100031] g207) ok208 hp2 hp4 hp10 o214) (fun v S1 hq => ?_)
          obtain ⟨rfl, ok216, md217, hpo218⟩ := hq
          obtain ⟨g215, rfl⟩ : ∃ g, S1 = sv_sts (sv_sts (sv_sts (sv_sts S [68, 69, 70, 81, 82, 83, 84, 85, 86, 71, 74, 75, 1127, 78, 79, 80, 72, 76, 77, 1143, 1144, 5, 1011, 1150, 1149, 1145, 1113, 1111, 1112, 91, 1147, 1100031] g191) [68, 69, 70, 81, 82, 83, 84, 85, 86, 71, 74, 75, 1127, 78, 79, 80, 72, 76, 77, 1143, 1144, 5, 1011, 1150, 1149, 1145, 1113, 1111, 1112, 1100031] g199) [68, 69, 70, 81, 82, 83, 84, 85, 86, 71, 74, 75, 1127, 78, 79, 80, 72, 76, 77, 1143, 1144, 5, 1011, 1150, 1149, 1145, 1113, 1111, 1112, 91, 1147, 1100031] g207) [68, 69, 70, 81, 82, 83, 84, 85, 86, 71, 74, 75, 1127, 78, 79, 80, 72, 76, 77, 1143, 1144, 5, 1011, 1150, 1149, 1145, 1113, 1111, 1112, 91, 1147, 1100031] g := ⟨_, md217.eq⟩
          show sv_T sm_XS sm_cs sm_L sm_sh 6 (q_codeWays p1 p2 p4 p6 p7 p8 p9 p10 S) 284 210 [(0, .ref 0), (1, sv_I p1), (2, sv_L p2), (4, sv_L p4), (6, sv_I p6), (7, sv_I p7), (8, sv_I p8), (9, sv_I p9), (10, sv_I p10), (11, sv_I x2), (12, sv_I r10), (13, sv_I r17), (14, sv_I x205)] [] (sv_sts (sv_sts (sv_sts (sv_sts S [68, 69, 70, 81, 82, 83, 84, 85, 86, 71, 74, 75, 1127, 78, 79, 80, 72, 76, 77, 1143, 1144, 5, 1011, 1150, 1149, 1145, 1113, 1111, 1112, 91, 1147, 1100031] g191) [68, 69, 70, 81, 82, 83, 84, 85, 86, 71, 74, 75, 1127, 78, 79, 80, 72, 76, 77, 1143, 1144, 5, 1011, 1150, 1149, 1145, 1113, 1111, 1112, 1100031] g199) [68, 69, 70, 81, 82, 83, 84, 85, 86, 71, 74, 75, 1127, 78, 79, 80, 72, 76, 77, 1143, 1144, 5, 1011, 1150, 1149, 1145, 1113, 1111, 1112, 91, 1147, 1100031] g207) [68, 69, 70, 81, 82, 83, 84, 85, 86, 71, 74, 75, 1127, 78, 79, 80, 72, 76, 77, 1143, 1144, 5, 1011, 1150, 1149, 1145, 1113, 1111, 1112, 91, 1147, 1100031] g215)
          have md219 : sv_mod [68, 69, 70, 81, 82, 83, 84, 85, 86, 71, 74, 75, 1127, 78, 79, 80, 72, 76, 77, 1143, 1144, 5, 1011, 1150, 1149, 1145, 1113, 1111, 1112, 91, 1147, 1100031] S (sv_sts (sv_sts (sv_sts (sv_sts S [68, 69, 70, 81, 82, 83, 84, 85, 86, 71, 74, 75, 1127, 78, 79, 80, 72, 76, 77, 1143, 1144, 5, 1011, 1150, 1149, 1145, 1113, 1111, 1112, 91, 1147, 1100031] g191) [68, 69, 70, 81, 82, 83, 84, 85, 86, 71, 74, 75, 1127, 78, 79, 80, 72, 76, 77, 1143, 1144, 5, 1011, 1150, 1149, 1145, 1113, 1111, 1112, 1100031] g199) [68, 69, 70, 81, 82, 83, 84, 85, 86, 71, 74, 75, 1127, 78, 79, 80, 72, 76, 77, 1143, 1144, 5, 1011, 1150, 1149, 1145, 1113, 1111, 1112, 91, 1147, 1100031] g207) [68, 69, 70, 81, 82, 83, 84, 85, 86, 71, 74, 75, 1127, 78, 79, 80, 72, 76, 77, 1143, 1144, 5, 1011, 1150, 1149, 1145, 1113, 1111, 1112, 91, 1147, 1100031] g215) := sv_mod.sts md210 (by decide)
          have h := h g215 hpo218
          refine sv_aload_n hM dX12_codeWays_210 rfl rfl ?_
          refine sv_iload hM dX12_codeWays_211 rfl rfl ?_
          refine sv_iconst (d := (1 : Int)) hM dX12_codeWays_213 rfl rfl ?_
          refine sv_iadd hM dX12_codeWays_214 rfl ?_
          obtain ⟨o220, h⟩ := h
          obtain ⟨o221, h⟩ := h
          refine sv_callV hM dX12_codeWays_215 sm_iv_1346 (by decide) (sm_a0 _) rfl rfl (Nat.le_of_ble_eq_true rfl) sm_h285 (Nat.le_of_ble_eq_true rfl) (Nat.le_of_ble_eq_true rfl) (F' := 4) (Nat.le_of_ble_eq_true rfl) rfl (t_comeBack (x205 + (1 : Int)) (sv_sts (sv_sts (sv_sts (sv_sts S [68, 69, 70, 81, 82, 83, 84, 85, 86, 71, 74, 75, 1127, 78, 79, 80, 72, 76, 77, 1143, 1144, 5, 1011, 1150, 1149, 1145, 1113, 1111, 1112, 91, 1147, 1100031] g191) [68, 69, 70, 81, 82, 83, 84, 85, 86, 71, 74, 75, 1127, 78, 79, 80, 72, 76, 77, 1143, 1144, 5, 1011, 1150, 1149, 1145, 1113, 1111, 1112, 1100031] g199) [68, 69, 70, 81, 82, 83, 84, 85, 86, 71, 74, 75, 1127, 78, 79, 80, 72, 76, 77, 1143, 1144, 5, 1011, 1150, 1149, 1145, 1113, 1111, 1112, 91, 1147, 1100031] g207) [68, 69, 70, 81, 82, 83, 84, 85, 86, 71, 74, 75, 1127, 78, 79, 80, 72, 76, 77, 1143, 1144, 5, 1011, 1150, 1149, 1145, 1113, 1111, 1112, 91, 1147, 1100031] g215) ok216 o220 o221) (fun v S1 hq => ?_)
          obtain ⟨rfl, ok223, md224, hpo225⟩ := hq
          obtain ⟨g222, rfl⟩ : ∃ g, S1 = sv_sts (sv_sts (sv_sts (sv_sts (sv_sts S [68, 69, 70, 81, 82, 83, 84, 85, 86, 71, 74, 75, 1127, 78, 79, 80, 72, 76, 77, 1143, 1144, 5, 1011, 1150, 1149, 1145, 1113, 1111, 1112, 91, 1147, 1100031] g191) [68, 69, 70, 81, 82, 83, 84, 85, 86, 71, 74, 75, 1127, 78, 79, 80, 72, 76, 77, 1143, 1144, 5, 1011, 1150, 1149, 1145, 1113, 1111, 1112, 1100031] g199) [68, 69, 70, 81, 82, 83, 84, 85, 86, 71, 74, 75, 1127, 78, 79, 80, 72, 76, 77, 1143, 1144, 5, 1011, 1150, 1149, 1145, 1113, 1111, 1112, 91, 1147, 1100031] g207) [68, 69, 70, 81, 82, 83, 84, 85, 86, 71, 74, 75, 1127, 78, 79, 80, 72, 76, 77, 1143, 1144, 5, 1011, 1150, 1149, 1145, 1113, 1111, 1112, 91, 1147, 1100031] g215) [68, 69, 70, 81, 82, 83, 84, 85, 86, 76, 77] g := ⟨_, md224.eq⟩
          show sv_T sm_XS sm_cs sm_L sm_sh 6 (q_codeWays p1 p2 p4 p6 p7 p8 p9 p10 S) 284 218 [(0, .ref 0), (1, sv_I p1), (2, sv_L p2), (4, sv_L p4), (6, sv_I p6), (7, sv_I p7), (8, sv_I p8), (9, sv_I p9), (10, sv_I p10), (11, sv_I x2), (12, sv_I r10), (13, sv_I r17), (14, sv_I x205)] [] (sv_sts (sv_sts (sv_sts (sv_sts (sv_sts S [68, 69, 70, 81, 82, 83, 84, 85, 86, 71, 74, 75, 1127, 78, 79, 80, 72, 76, 77, 1143, 1144, 5, 1011, 1150, 1149, 1145, 1113, 1111, 1112, 91, 1147, 1100031] g191) [68, 69, 70, 81, 82, 83, 84, 85, 86, 71, 74, 75, 1127, 78, 79, 80, 72, 76, 77, 1143, 1144, 5, 1011, 1150, 1149, 1145, 1113, 1111, 1112, 1100031] g199) [68, 69, 70, 81, 82, 83, 84, 85, 86, 71, 74, 75, 1127, 78, 79, 80, 72, 76, 77, 1143, 1144, 5, 1011, 1150, 1149, 1145, 1113, 1111, 1112, 91, 1147, 1100031] g207) [68, 69, 70, 81, 82, 83, 84, 85, 86, 71, 74, 75, 1127, 78, 79, 80, 72, 76, 77, 1143, 1144, 5, 1011, 1150, 1149, 1145, 1113, 1111, 1112, 91, 1147, 1100031] g215) [68, 69, 70, 81, 82, 83, 84, 85, 86, 76, 77] g222)
          have md226 : sv_mod [68, 69, 70, 81, 82, 83, 84, 85, 86, 71, 74, 75, 1127, 78, 79, 80, 72, 76, 77, 1143, 1144, 5, 1011, 1150, 1149, 1145, 1113, 1111, 1112, 91, 1147, 1100031] S (sv_sts (sv_sts (sv_sts (sv_sts (sv_sts S [68, 69, 70, 81, 82, 83, 84, 85, 86, 71, 74, 75, 1127, 78, 79, 80, 72, 76, 77, 1143, 1144, 5, 1011, 1150, 1149, 1145, 1113, 1111, 1112, 91, 1147, 1100031] g191) [68, 69, 70, 81, 82, 83, 84, 85, 86, 71, 74, 75, 1127, 78, 79, 80, 72, 76, 77, 1143, 1144, 5, 1011, 1150, 1149, 1145, 1113, 1111, 1112, 1100031] g199) [68, 69, 70, 81, 82, 83, 84, 85, 86, 71, 74, 75, 1127, 78, 79, 80, 72, 76, 77, 1143, 1144, 5, 1011, 1150, 1149, 1145, 1113, 1111, 1112, 91, 1147, 1100031] g207) [68, 69, 70, 81, 82, 83, 84, 85, 86, 71, 74, 75, 1127, 78, 79, 80, 72, 76, 77, 1143, 1144, 5, 1011, 1150, 1149, 1145, 1113, 1111, 1112, 91, 1147, 1100031] g215) [68, 69, 70, 81, 82, 83, 84, 85, 86, 76, 77] g222) := sv_mod.sts md219 (by decide)
          have h := h g222 hpo225
          have k227 : (sm_ST (g215 71) (g215 74) (g215 75) (g215 78) (g215 79) (g215 80) (S 27) (S 1100007) (S 1100023) (S 1100024) (S 1046 0) ((S 1046 0) + 2 * (S 1032 0)) (g215 1127 0) → 0 ≤ (x205 + 1) → (x205 + 1) < ((S 1046 0) + 2 * (S 1032 0)) → (g215 71 (x205 + 1)) = 1 → (g215 74 (x205 + 1)) = (S 1100007 (x205 + 1)) ∧ 465000 ≤ (g215 75 (x205 + 1)) ∧ (g215 75 (x205 + 1)) + (g215 74 (x205 + 1)) ≤ (g215 1127 0) ∧ 0 ≤ (g215 78 (x205 + 1)) ∧ (g215 78 (x205 + 1)) ≤ 40) := fun h h0 h1 h2 => ⟨(sm_ST_at h (x205 + 1) h0 h1 h2).1, (sm_ST_at h (x205 + 1) h0 h1 h2).2.1, (sm_ST_at h (x205 + 1) h0 h1 h2).2.2.1, (sm_ST_at h (x205 + 1) h0 h1 h2).2.2.2.1, (sm_ST_at h (x205 + 1) h0 h1 h2).2.2.2.2.1⟩
          have h := h k227
          have k228 : (sm_NH (S 1100007) → 0 ≤ sm_hs (g215 71) (S 1100007)) := sm_hs_0
          have h := h k228
          refine sv_ldc_w (d := (647751 : Int)) hM dX12_codeWays_218 sm_ck_1349 rfl rfl ?_
          refine sv_istore hM dX12_codeWays_221 (by decide) rfl ?_
          show sv_T sm_XS sm_cs sm_L sm_sh 6 (q_codeWays p1 p2 p4 p6 p7 p8 p9 p10 S) 284 223 [(0, .ref 0), (1, sv_I p1), (2, sv_L p2), (4, sv_L p4), (6, sv_I p6), (7, sv_I p7), (8, sv_I p8), (9, sv_I p9), (10, sv_I p10), (11, sv_I x2), (12, sv_I r10), (13, sv_I r17), (14, sv_I x205), (15, sv_I (647751 : Int))] [] (sv_sts (sv_sts (sv_sts (sv_sts (sv_sts S [68, 69, 70, 81, 82, 83, 84, 85, 86, 71, 74, 75, 1127, 78, 79, 80, 72, 76, 77, 1143, 1144, 5, 1011, 1150, 1149, 1145, 1113, 1111, 1112, 91, 1147, 1100031] g191) [68, 69, 70, 81, 82, 83, 84, 85, 86, 71, 74, 75, 1127, 78, 79, 80, 72, 76, 77, 1143, 1144, 5, 1011, 1150, 1149, 1145, 1113, 1111, 1112, 1100031] g199) [68, 69, 70, 81, 82, 83, 84, 85, 86, 71, 74, 75, 1127, 78, 79, 80, 72, 76, 77, 1143, 1144, 5, 1011, 1150, 1149, 1145, 1113, 1111, 1112, 91, 1147, 1100031] g207) [68, 69, 70, 81, 82, 83, 84, 85, 86, 71, 74, 75, 1127, 78, 79, 80, 72, 76, 77, 1143, 1144, 5, 1011, 1150, 1149, 1145, 1113, 1111, 1112, 91, 1147, 1100031] g215) [68, 69, 70, 81, 82, 83, 84, 85, 86, 76, 77] g222)
          refine sv_aload_n hM dX12_codeWays_223 rfl rfl ?_
          refine sv_aload_n hM dX12_codeWays_224 rfl rfl ?_
          refine sv_getA hM dX12_codeWays_225 sm_fl_238 (sm_a0 _) sm_k126 rfl ?_
          refine sv_iload hM dX12_codeWays_228 rfl rfl ?_
          refine sv_iconst (d := (1 : Int)) hM dX12_codeWays_230 rfl rfl ?_
          refine sv_iadd hM dX12_codeWays_231 rfl ?_
          have k229 : sv_R (g215 75 (x205 + (1 : Int))) := sm_okI ok223 sm_r75 (x205 + (1 : Int))
          have h := h k229
          refine sv_iald hM dX12_codeWays_232 (sm_a75 _) (by decide) o212.1 o212.2 rfl (x := (g215 75 (x205 + (1 : Int)))) rfl ?_
          refine sv_iload hM dX12_codeWays_233 rfl rfl ?_
          obtain ⟨o230, h⟩ := h
          refine sv_callV hM dX12_codeWays_235 sm_iv_1092 (by decide) (sm_a0 _) rfl rfl (Nat.le_of_ble_eq_true rfl) sm_h207 (Nat.le_of_ble_eq_true rfl) (Nat.le_of_ble_eq_true rfl) (F' := 0) (Nat.le_of_ble_eq_true rfl) rfl (t_copySet (g215 75 (x205 + (1 : Int))) (647751 : Int) (sv_sts (sv_sts (sv_sts (sv_sts (sv_sts S [68, 69, 70, 81, 82, 83, 84, 85, 86, 71, 74, 75, 1127, 78, 79, 80, 72, 76, 77, 1143, 1144, 5, 1011, 1150, 1149, 1145, 1113, 1111, 1112, 91, 1147, 1100031] g191) [68, 69, 70, 81, 82, 83, 84, 85, 86, 71, 74, 75, 1127, 78, 79, 80, 72, 76, 77, 1143, 1144, 5, 1011, 1150, 1149, 1145, 1113, 1111, 1112, 1100031] g199) [68, 69, 70, 81, 82, 83, 84, 85, 86, 71, 74, 75, 1127, 78, 79, 80, 72, 76, 77, 1143, 1144, 5, 1011, 1150, 1149, 1145, 1113, 1111, 1112, 91, 1147, 1100031] g207) [68, 69, 70, 81, 82, 83, 84, 85, 86, 71, 74, 75, 1127, 78, 79, 80, 72, 76, 77, 1143, 1144, 5, 1011, 1150, 1149, 1145, 1113, 1111, 1112, 91, 1147, 1100031] g215) [68, 69, 70, 81, 82, 83, 84, 85, 86, 76, 77] g222) ok223 k229 (⟨by decide, by decide⟩ : sv_R (647751 : Int)) o230) (fun v S1 hq => ?_)
          obtain ⟨rfl, ok232, md233, hpo234⟩ := hq
          obtain ⟨g231, rfl⟩ : ∃ g, S1 = sv_sts (sv_sts (sv_sts (sv_sts (sv_sts (sv_sts S [68, 69, 70, 81, 82, 83, 84, 85, 86, 71, 74, 75, 1127, 78, 79, 80, 72, 76, 77, 1143, 1144, 5, 1011, 1150, 1149, 1145, 1113, 1111, 1112, 91, 1147, 1100031] g191) [68, 69, 70, 81, 82, 83, 84, 85, 86, 71, 74, 75, 1127, 78, 79, 80, 72, 76, 77, 1143, 1144, 5, 1011, 1150, 1149, 1145, 1113, 1111, 1112, 1100031] g199) [68, 69, 70, 81, 82, 83, 84, 85, 86, 71, 74, 75, 1127, 78, 79, 80, 72, 76, 77, 1143, 1144, 5, 1011, 1150, 1149, 1145, 1113, 1111, 1112, 91, 1147, 1100031] g207) [68, 69, 70, 81, 82, 83, 84, 85, 86, 71, 74, 75, 1127, 78, 79, 80, 72, 76, 77, 1143, 1144, 5, 1011, 1150, 1149, 1145, 1113, 1111, 1112, 91, 1147, 1100031] g215) [68, 69, 70, 81, 82, 83, 84, 85, 86, 76, 77] g222) [68, 69, 70] g := ⟨_, md233.eq⟩
          show sv_T sm_XS sm_cs sm_L sm_sh 6 (q_codeWays p1 p2 p4 p6 p7 p8 p9 p10 S) 284 238 [(0, .ref 0), (1, sv_I p1), (2, sv_L p2), (4, sv_L p4), (6, sv_I p6), (7, sv_I p7), (8, sv_I p8), (9, sv_I p9), (10, sv_I p10), (11, sv_I x2), (12, sv_I r10), (13, sv_I r17), (14, sv_I x205), (15, sv_I (647751 : Int))] [] (sv_sts (sv_sts (sv_sts (sv_sts (sv_sts (sv_sts S [68, 69, 70, 81, 82, 83, 84, 85, 86, 71, 74, 75, 1127, 78, 79, 80, 72, 76, 77, 1143, 1144, 5, 1011, 1150, 1149, 1145, 1113, 1111, 1112, 91, 1147, 1100031] g191) [68, 69, 70, 81, 82, 83, 84, 85, 86, 71, 74, 75, 1127, 78, 79, 80, 72, 76, 77, 1143, 1144, 5, 1011, 1150, 1149, 1145, 1113, 1111, 1112, 1100031] g199) [68, 69, 70, 81, 82, 83, 84, 85, 86, 71, 74, 75, 1127, 78, 79, 80, 72, 76, 77, 1143, 1144, 5, 1011, 1150, 1149, 1145, 1113, 1111, 1112, 91, 1147, 1100031] g207) [68, 69, 70, 81, 82, 83, 84, 85, 86, 71, 74, 75, 1127, 78, 79, 80, 72, 76, 77, 1143, 1144, 5, 1011, 1150, 1149, 1145, 1113, 1111, 1112, 91, 1147, 1100031] g215) [68, 69, 70, 81, 82, 83, 84, 85, 86, 76, 77] g222) [68, 69, 70] g231)
          have md235 : sv_mod [68, 69, 70, 81, 82, 83, 84, 85, 86, 71, 74, 75, 1127, 78, 79, 80, 72, 76, 77, 1143, 1144, 5, 1011, 1150, 1149, 1145, 1113, 1111, 1112, 91, 1147, 1100031] S (sv_sts (sv_sts (sv_sts (sv_sts (sv_sts (sv_sts S [68, 69, 70, 81, 82, 83, 84, 85, 86, 71, 74, 75, 1127, 78, 79, 80, 72, 76, 77, 1143, 1144, 5, 1011, 1150, 1149, 1145, 1113, 1111, 1112, 91, 1147, 1100031] g191) [68, 69, 70, 81, 82, 83, 84, 85, 86, 71, 74, 75, 1127, 78, 79, 80, 72, 76, 77, 1143, 1144, 5, 1011, 1150, 1149, 1145, 1113, 1111, 1112, 1100031] g199) [68, 69, 70, 81, 82, 83, 84, 85, 86, 71, 74, 75, 1127, 78, 79, 80, 72, 76, 77, 1143, 1144, 5, 1011, 1150, 1149, 1145, 1113, 1111, 1112, 91, 1147, 1100031] g207) [68, 69, 70, 81, 82, 83, 84, 85, 86, 71, 74, 75, 1127, 78, 79, 80, 72, 76, 77, 1143, 1144, 5, 1011, 1150, 1149, 1145, 1113, 1111, 1112, 91, 1147, 1100031] g215) [68, 69, 70, 81, 82, 83, 84, 85, 86, 76, 77] g222) [68, 69, 70] g231) := sv_mod.sts md226 (by decide)
          have h := h g231 hpo234
          refine sv_aload_n hM dX12_codeWays_238 rfl rfl ?_
          refine sv_iload hM dX12_codeWays_239 rfl rfl ?_
          obtain ⟨o236, h⟩ := h
          refine sv_callV hM dX12_codeWays_241 sm_iv_1198 (by decide) (sm_a0 _) rfl rfl (Nat.le_of_ble_eq_true rfl) sm_h261 (Nat.le_of_ble_eq_true rfl) (Nat.le_of_ble_eq_true rfl) (F' := 4) (Nat.le_of_ble_eq_true rfl) rfl (t_tossSet (647751 : Int) (sv_sts (sv_sts (sv_sts (sv_sts (sv_sts (sv_sts S [68, 69, 70, 81, 82, 83, 84, 85, 86, 71, 74, 75, 1127, 78, 79, 80, 72, 76, 77, 1143, 1144, 5, 1011, 1150, 1149, 1145, 1113, 1111, 1112, 91, 1147, 1100031] g191) [68, 69, 70, 81, 82, 83, 84, 85, 86, 71, 74, 75, 1127, 78, 79, 80, 72, 76, 77, 1143, 1144, 5, 1011, 1150, 1149, 1145, 1113, 1111, 1112, 1100031] g199) [68, 69, 70, 81, 82, 83, 84, 85, 86, 71, 74, 75, 1127, 78, 79, 80, 72, 76, 77, 1143, 1144, 5, 1011, 1150, 1149, 1145, 1113, 1111, 1112, 91, 1147, 1100031] g207) [68, 69, 70, 81, 82, 83, 84, 85, 86, 71, 74, 75, 1127, 78, 79, 80, 72, 76, 77, 1143, 1144, 5, 1011, 1150, 1149, 1145, 1113, 1111, 1112, 91, 1147, 1100031] g215) [68, 69, 70, 81, 82, 83, 84, 85, 86, 76, 77] g222) [68, 69, 70] g231) ok232 (⟨by decide, by decide⟩ : sv_R (647751 : Int)) o236) (fun v S1 hq => ?_)
          obtain ⟨rfl, ok238, md239, hpo240⟩ := hq
          obtain ⟨g237, rfl⟩ : ∃ g, S1 = sv_sts (sv_sts (sv_sts (sv_sts (sv_sts (sv_sts (sv_sts S [68, 69, 70, 81, 82, 83, 84, 85, 86, 71, 74, 75, 1127, 78, 79, 80, 72, 76, 77, 1143, 1144, 5, 1011, 1150, 1149, 1145, 1113, 1111, 1112, 91, 1147, 1100031] g191) [68, 69, 70, 81, 82, 83, 84, 85, 86, 71, 74, 75, 1127, 78, 79, 80, 72, 76, 77, 1143, 1144, 5, 1011, 1150, 1149, 1145, 1113, 1111, 1112, 1100031] g199) [68, 69, 70, 81, 82, 83, 84, 85, 86, 71, 74, 75, 1127, 78, 79, 80, 72, 76, 77, 1143, 1144, 5, 1011, 1150, 1149, 1145, 1113, 1111, 1112, 91, 1147, 1100031] g207) [68, 69, 70, 81, 82, 83, 84, 85, 86, 71, 74, 75, 1127, 78, 79, 80, 72, 76, 77, 1143, 1144, 5, 1011, 1150, 1149, 1145, 1113, 1111, 1112, 91, 1147, 1100031] g215) [68, 69, 70, 81, 82, 83, 84, 85, 86, 76, 77] g222) [68, 69, 70] g231) [68, 69, 70, 81, 82, 83, 84, 85, 86, 71, 74, 75, 1127, 78, 79, 80, 72, 76, 77, 1100031] g := ⟨_, md239.eq⟩
          show sv_T sm_XS sm_cs sm_L sm_sh 6 (q_codeWays p1 p2 p4 p6 p7 p8 p9 p10 S) 284 244 [(0, .ref 0), (1, sv_I p1), (2, sv_L p2), (4, sv_L p4), (6, sv_I p6), (7, sv_I p7), (8, sv_I p8), (9, sv_I p9), (10, sv_I p10), (11, sv_I x2), (12, sv_I r10), (13, sv_I r17), (14, sv_I x205), (15, sv_I (647751 : Int))] [] (sv_sts (sv_sts (sv_sts (sv_sts (sv_sts (sv_sts (sv_sts S [68, 69, 70, 81, 82, 83, 84, 85, 86, 71, 74, 75, 1127, 78, 79, 80, 72, 76, 77, 1143, 1144, 5, 1011, 1150, 1149, 1145, 1113, 1111, 1112, 91, 1147, 1100031] g191) [68, 69, 70, 81, 82, 83, 84, 85, 86, 71, 74, 75, 1127, 78, 79, 80, 72, 76, 77, 1143, 1144, 5, 1011, 1150, 1149, 1145, 1113, 1111, 1112, 1100031] g199) [68, 69, 70, 81, 82, 83, 84, 85, 86, 71, 74, 75, 1127, 78, 79, 80, 72, 76, 77, 1143, 1144, 5, 1011, 1150, 1149, 1145, 1113, 1111, 1112, 91, 1147, 1100031] g207) [68, 69, 70, 81, 82, 83, 84, 85, 86, 71, 74, 75, 1127, 78, 79, 80, 72, 76, 77, 1143, 1144, 5, 1011, 1150, 1149, 1145, 1113, 1111, 1112, 91, 1147, 1100031] g215) [68, 69, 70, 81, 82, 83, 84, 85, 86, 76, 77] g222) [68, 69, 70] g231) [68, 69, 70, 81, 82, 83, 84, 85, 86, 71, 74, 75, 1127, 78, 79, 80, 72, 76, 77, 1100031] g237)
          have md241 : sv_mod [68, 69, 70, 81, 82, 83, 84, 85, 86, 71, 74, 75, 1127, 78, 79, 80, 72, 76, 77, 1143, 1144, 5, 1011, 1150, 1149, 1145, 1113, 1111, 1112, 91, 1147, 1100031] S (sv_sts (sv_sts (sv_sts (sv_sts (sv_sts (sv_sts (sv_sts S [68, 69, 70, 81, 82, 83, 84, 85, 86, 71, 74, 75, 1127, 78, 79, 80, 72, 76, 77, 1143, 1144, 5, 1011, 1150, 1149, 1145, 1113, 1111, 1112, 91, 1147, 1100031] g191) [68, 69, 70, 81, 82, 83, 84, 85, 86, 71, 74, 75, 1127, 78, 79, 80, 72, 76, 77, 1143, 1144, 5, 1011, 1150, 1149, 1145, 1113, 1111, 1112, 1100031] g199) [68, 69, 70, 81, 82, 83, 84, 85, 86, 71, 74, 75, 1127, 78, 79, 80, 72, 76, 77, 1143, 1144, 5, 1011, 1150, 1149, 1145, 1113, 1111, 1112, 91, 1147, 1100031] g207) [68, 69, 70, 81, 82, 83, 84, 85, 86, 71, 74, 75, 1127, 78, 79, 80, 72, 76, 77, 1143, 1144, 5, 1011, 1150, 1149, 1145, 1113, 1111, 1112, 91, 1147, 1100031] g215) [68, 69, 70, 81, 82, 83, 84, 85, 86, 76, 77] g222) [68, 69, 70] g231) [68, 69, 70, 81, 82, 83, 84, 85, 86, 71, 74, 75, 1127, 78, 79, 80, 72, 76, 77, 1100031] g237) := sv_mod.sts md235 (by decide)
          have h := h g237 hpo240
          exact sv_vret hM dX12_codeWays_244 rfl ⟨rfl, ok238, md241, h⟩
      have h := h.2
      refine sv_aload_n hM dX12_codeWays_82 rfl rfl ?_
      refine sv_getA hM dX12_codeWays_83 sm_fl_226 (sm_a0 _) sm_k122 rfl ?_
      refine sv_iload hM dX12_codeWays_86 rfl rfl ?_
      obtain ⟨o243, h⟩ := h
      have k244 : (0 ≤ (g199 71 x205) ∧ (g199 71 x205) ≤ 1) := sm_okZ ok200 sm_r71 x205
      have h := h k244
      refine sv_zald hM dX12_codeWays_88 (sm_a71 _) (by decide) o243.1 o243.2 rfl (x := (g199 71 x205)) rfl ?_
      refine sv_cond_eq hM dX12_codeWays_89 (sv_R01 k244) (t := 189) rfl rfl (fun hc => ?_) (fun hc => ?_)
      · have h := h.1 (hc)
        have eS := sv_mod.eq (sv_mod.rf (l := [68, 69, 70, 81, 82, 83, 84, 85, 86, 71, 74, 75, 1127, 78, 79, 80, 72, 76, 77, 1143, 1144, 5, 1011, 1150, 1149, 1145, 1113, 1111, 1112, 91, 1147, 1100031]) (S := (sv_sts (sv_sts S [68, 69, 70, 81, 82, 83, 84, 85, 86, 71, 74, 75, 1127, 78, 79, 80, 72, 76, 77, 1143, 1144, 5, 1011, 1150, 1149, 1145, 1113, 1111, 1112, 91, 1147, 1100031] g191) [68, 69, 70, 81, 82, 83, 84, 85, 86, 71, 74, 75, 1127, 78, 79, 80, 72, 76, 77, 1143, 1144, 5, 1011, 1150, 1149, 1145, 1113, 1111, 1112, 1100031] g199)))
        have hb := J242 (sv_sts (sv_sts S [68, 69, 70, 81, 82, 83, 84, 85, 86, 71, 74, 75, 1127, 78, 79, 80, 72, 76, 77, 1143, 1144, 5, 1011, 1150, 1149, 1145, 1113, 1111, 1112, 91, 1147, 1100031] g191) [68, 69, 70, 81, 82, 83, 84, 85, 86, 71, 74, 75, 1127, 78, 79, 80, 72, 76, 77, 1143, 1144, 5, 1011, 1150, 1149, 1145, 1113, 1111, 1112, 1100031] g199) (by rw [← eS]; exact ok200) h
        have hb : sv_T sm_XS sm_cs sm_L sm_sh 6 (q_codeWays p1 p2 p4 p6 p7 p8 p9 p10 S) 284 189 [(0, .ref 0), (1, sv_I p1), (2, sv_L p2), (4, sv_L p4), (6, sv_I p6), (7, sv_I p7), (8, sv_I p8), (9, sv_I p9), (10, sv_I p10), (11, sv_I x2), (12, sv_I r10), (13, sv_I r17), (14, sv_I x205)] [] (sv_sts (sv_sts S [68, 69, 70, 81, 82, 83, 84, 85, 86, 71, 74, 75, 1127, 78, 79, 80, 72, 76, 77, 1143, 1144, 5, 1011, 1150, 1149, 1145, 1113, 1111, 1112, 91, 1147, 1100031] g191) [68, 69, 70, 81, 82, 83, 84, 85, 86, 71, 74, 75, 1127, 78, 79, 80, 72, 76, 77, 1143, 1144, 5, 1011, 1150, 1149, 1145, 1113, 1111, 1112, 1100031] g199) := Eq.mpr (congrArg (fun Z => sv_T sm_XS sm_cs sm_L sm_sh 6 (q_codeWays p1 p2 p4 p6 p7 p8 p9 p10 S) 284 189 [(0, .ref 0), (1, sv_I p1), (2, sv_L p2), (4, sv_L p4), (6, sv_I p6), (7, sv_I p7), (8, sv_I p8), (9, sv_I p9), (10, sv_I p10), (11, sv_I x2), (12, sv_I r10), (13, sv_I r17), (14, sv_I x205)] [] Z) eS) hb
        exact sv_less (lv := [(0, .ref 0), (1, sv_I p1), (2, sv_L p2), (4, sv_L p4), (6, sv_I p6), (7, sv_I p7), (8, sv_I p8), (9, sv_I p9), (10, sv_I p10), (11, sv_I x2), (12, sv_I r10), (13, sv_I r17), (14, sv_I x205)]) (sv_Sub_cons rfl (sv_Sub_cons rfl (sv_Sub_cons rfl (sv_Sub_cons rfl (sv_Sub_cons rfl (sv_Sub_cons rfl (sv_Sub_cons rfl (sv_Sub_cons rfl (sv_Sub_cons rfl (sv_Sub_cons rfl (sv_Sub_cons rfl (sv_Sub_cons rfl (sv_Sub_cons rfl sv_Sub_nil))))))))))))) hb
      · have h := h.2 (hc)
        refine sv_aload_n hM dX12_codeWays_92 rfl rfl ?_
        refine sv_lload_n hM dX12_codeWays_93 rfl rfl ?_
        refine sv_lload hM dX12_codeWays_94 rfl rfl ?_
        refine sv_iload hM dX12_codeWays_96 rfl rfl ?_
        obtain ⟨o245, h⟩ := h
        refine sv_callV hM dX12_codeWays_98 sm_iv_1336 (by decide) (sm_a0 _) rfl rfl (Nat.le_of_ble_eq_true rfl) sm_h283 (Nat.le_of_ble_eq_true rfl) (Nat.le_of_ble_eq_true rfl) (F' := 4) (Nat.le_of_ble_eq_true rfl) rfl (t_prepare p2 p4 p10 (sv_sts (sv_sts S [68, 69, 70, 81, 82, 83, 84, 85, 86, 71, 74, 75, 1127, 78, 79, 80, 72, 76, 77, 1143, 1144, 5, 1011, 1150, 1149, 1145, 1113, 1111, 1112, 91, 1147, 1100031] g191) [68, 69, 70, 81, 82, 83, 84, 85, 86, 71, 74, 75, 1127, 78, 79, 80, 72, 76, 77, 1143, 1144, 5, 1011, 1150, 1149, 1145, 1113, 1111, 1112, 1100031] g199) ok200 hp2 hp4 hp10 o245) (fun v S1 hq => ?_)
        obtain ⟨rfl, ok247, md248, hpo249⟩ := hq
        obtain ⟨g246, rfl⟩ : ∃ g, S1 = sv_sts (sv_sts (sv_sts S [68, 69, 70, 81, 82, 83, 84, 85, 86, 71, 74, 75, 1127, 78, 79, 80, 72, 76, 77, 1143, 1144, 5, 1011, 1150, 1149, 1145, 1113, 1111, 1112, 91, 1147, 1100031] g191) [68, 69, 70, 81, 82, 83, 84, 85, 86, 71, 74, 75, 1127, 78, 79, 80, 72, 76, 77, 1143, 1144, 5, 1011, 1150, 1149, 1145, 1113, 1111, 1112, 1100031] g199) [68, 69, 70, 81, 82, 83, 84, 85, 86, 71, 74, 75, 1127, 78, 79, 80, 72, 76, 77, 1143, 1144, 5, 1011, 1150, 1149, 1145, 1113, 1111, 1112, 91, 1147, 1100031] g := ⟨_, md248.eq⟩
        show sv_T sm_XS sm_cs sm_L sm_sh 6 (q_codeWays p1 p2 p4 p6 p7 p8 p9 p10 S) 284 101 [(0, .ref 0), (1, sv_I p1), (2, sv_L p2), (4, sv_L p4), (6, sv_I p6), (7, sv_I p7), (8, sv_I p8), (9, sv_I p9), (10, sv_I p10), (11, sv_I x2), (12, sv_I r10), (13, sv_I r17), (14, sv_I x205)] [] (sv_sts (sv_sts (sv_sts S [68, 69, 70, 81, 82, 83, 84, 85, 86, 71, 74, 75, 1127, 78, 79, 80, 72, 76, 77, 1143, 1144, 5, 1011, 1150, 1149, 1145, 1113, 1111, 1112, 91, 1147, 1100031] g191) [68, 69, 70, 81, 82, 83, 84, 85, 86, 71, 74, 75, 1127, 78, 79, 80, 72, 76, 77, 1143, 1144, 5, 1011, 1150, 1149, 1145, 1113, 1111, 1112, 1100031] g199) [68, 69, 70, 81, 82, 83, 84, 85, 86, 71, 74, 75, 1127, 78, 79, 80, 72, 76, 77, 1143, 1144, 5, 1011, 1150, 1149, 1145, 1113, 1111, 1112, 91, 1147, 1100031] g246)
        have md250 : sv_mod [68, 69, 70, 81, 82, 83, 84, 85, 86, 71, 74, 75, 1127, 78, 79, 80, 72, 76, 77, 1143, 1144, 5, 1011, 1150, 1149, 1145, 1113, 1111, 1112, 91, 1147, 1100031] S (sv_sts (sv_sts (sv_sts S [68, 69, 70, 81, 82, 83, 84, 85, 86, 71, 74, 75, 1127, 78, 79, 80, 72, 76, 77, 1143, 1144, 5, 1011, 1150, 1149, 1145, 1113, 1111, 1112, 91, 1147, 1100031] g191) [68, 69, 70, 81, 82, 83, 84, 85, 86, 71, 74, 75, 1127, 78, 79, 80, 72, 76, 77, 1143, 1144, 5, 1011, 1150, 1149, 1145, 1113, 1111, 1112, 1100031] g199) [68, 69, 70, 81, 82, 83, 84, 85, 86, 71, 74, 75, 1127, 78, 79, 80, 72, 76, 77, 1143, 1144, 5, 1011, 1150, 1149, 1145, 1113, 1111, 1112, 91, 1147, 1100031] g246) := sv_mod.sts md203 (by decide)
        have md251 : sv_mod [68, 69, 70, 81, 82, 83, 84, 85, 86, 71, 74, 75, 1127, 78, 79, 80, 72, 76, 77, 1143, 1144, 5, 1011, 1150, 1149, 1145, 1113, 1111, 1112, 91, 1147, 1100031] (sv_sts (sv_sts S [68, 69, 70, 81, 82, 83, 84, 85, 86, 71, 74, 75, 1127, 78, 79, 80, 72, 76, 77, 1143, 1144, 5, 1011, 1150, 1149, 1145, 1113, 1111, 1112, 91, 1147, 1100031] g191) [68, 69, 70, 81, 82, 83, 84, 85, 86, 71, 74, 75, 1127, 78, 79, 80, 72, 76, 77, 1143, 1144, 5, 1011, 1150, 1149, 1145, 1113, 1111, 1112, 1100031] g199) (sv_sts (sv_sts (sv_sts S [68, 69, 70, 81, 82, 83, 84, 85, 86, 71, 74, 75, 1127, 78, 79, 80, 72, 76, 77, 1143, 1144, 5, 1011, 1150, 1149, 1145, 1113, 1111, 1112, 91, 1147, 1100031] g191) [68, 69, 70, 81, 82, 83, 84, 85, 86, 71, 74, 75, 1127, 78, 79, 80, 72, 76, 77, 1143, 1144, 5, 1011, 1150, 1149, 1145, 1113, 1111, 1112, 1100031] g199) [68, 69, 70, 81, 82, 83, 84, 85, 86, 71, 74, 75, 1127, 78, 79, 80, 72, 76, 77, 1143, 1144, 5, 1011, 1150, 1149, 1145, 1113, 1111, 1112, 91, 1147, 1100031] g246) := sv_mod.sts (sv_mod.rf (l := [68, 69, 70, 81, 82, 83, 84, 85, 86, 71, 74, 75, 1127, 78, 79, 80, 72, 76, 77, 1143, 1144, 5, 1011, 1150, 1149, 1145, 1113, 1111, 1112, 91, 1147, 1100031]) (S := (sv_sts (sv_sts S [68, 69, 70, 81, 82, 83, 84, 85, 86, 71, 74, 75, 1127, 78, 79, 80, 72, 76, 77, 1143, 1144, 5, 1011, 1150, 1149, 1145, 1113, 1111, 1112, 91, 1147, 1100031] g191) [68, 69, 70, 81, 82, 83, 84, 85, 86, 71, 74, 75, 1127, 78, 79, 80, 72, 76, 77, 1143, 1144, 5, 1011, 1150, 1149, 1145, 1113, 1111, 1112, 1100031] g199))) (by decide)
        have h := h g246 hpo249
        refine sv_aload_n hM dX12_codeWays_101 rfl rfl ?_
        refine sv_iload hM dX12_codeWays_102 rfl rfl ?_
        obtain ⟨o252, h⟩ := h
        obtain ⟨o253, h⟩ := h
        refine sv_callV hM dX12_codeWays_104 sm_iv_1346 (by decide) (sm_a0 _) rfl rfl (Nat.le_of_ble_eq_true rfl) sm_h285 (Nat.le_of_ble_eq_true rfl) (Nat.le_of_ble_eq_true rfl) (F' := 4) (Nat.le_of_ble_eq_true rfl) rfl (t_comeBack x205 (sv_sts (sv_sts (sv_sts S [68, 69, 70, 81, 82, 83, 84, 85, 86, 71, 74, 75, 1127, 78, 79, 80, 72, 76, 77, 1143, 1144, 5, 1011, 1150, 1149, 1145, 1113, 1111, 1112, 91, 1147, 1100031] g191) [68, 69, 70, 81, 82, 83, 84, 85, 86, 71, 74, 75, 1127, 78, 79, 80, 72, 76, 77, 1143, 1144, 5, 1011, 1150, 1149, 1145, 1113, 1111, 1112, 1100031] g199) [68, 69, 70, 81, 82, 83, 84, 85, 86, 71, 74, 75, 1127, 78, 79, 80, 72, 76, 77, 1143, 1144, 5, 1011, 1150, 1149, 1145, 1113, 1111, 1112, 91, 1147, 1100031] g246) ok247 o252 o253) (fun v S1 hq => ?_)
        obtain ⟨rfl, ok255, md256, hpo257⟩ := hq
        obtain ⟨g254, rfl⟩ : ∃ g, S1 = sv_sts (sv_sts (sv_sts (sv_sts S [68, 69, 70, 81, 82, 83, 84, 85, 86, 71, 74, 75, 1127, 78, 79, 80, 72, 76, 77, 1143, 1144, 5, 1011, 1150, 1149, 1145, 1113, 1111, 1112, 91, 1147, 1100031] g191) [68, 69, 70, 81, 82, 83, 84, 85, 86, 71, 74, 75, 1127, 78, 79, 80, 72, 76, 77, 1143, 1144, 5, 1011, 1150, 1149, 1145, 1113, 1111, 1112, 1100031] g199) [68, 69, 70, 81, 82, 83, 84, 85, 86, 71, 74, 75, 1127, 78, 79, 80, 72, 76, 77, 1143, 1144, 5, 1011, 1150, 1149, 1145, 1113, 1111, 1112, 91, 1147, 1100031] g246) [68, 69, 70, 81, 82, 83, 84, 85, 86, 76, 77] g := ⟨_, md256.eq⟩
        show sv_T sm_XS sm_cs sm_L sm_sh 6 (q_codeWays p1 p2 p4 p6 p7 p8 p9 p10 S) 284 107 [(0, .ref 0), (1, sv_I p1), (2, sv_L p2), (4, sv_L p4), (6, sv_I p6), (7, sv_I p7), (8, sv_I p8), (9, sv_I p9), (10, sv_I p10), (11, sv_I x2), (12, sv_I r10), (13, sv_I r17), (14, sv_I x205)] [] (sv_sts (sv_sts (sv_sts (sv_sts S [68, 69, 70, 81, 82, 83, 84, 85, 86, 71, 74, 75, 1127, 78, 79, 80, 72, 76, 77, 1143, 1144, 5, 1011, 1150, 1149, 1145, 1113, 1111, 1112, 91, 1147, 1100031] g191) [68, 69, 70, 81, 82, 83, 84, 85, 86, 71, 74, 75, 1127, 78, 79, 80, 72, 76, 77, 1143, 1144, 5, 1011, 1150, 1149, 1145, 1113, 1111, 1112, 1100031] g199) [68, 69, 70, 81, 82, 83, 84, 85, 86, 71, 74, 75, 1127, 78, 79, 80, 72, 76, 77, 1143, 1144, 5, 1011, 1150, 1149, 1145, 1113, 1111, 1112, 91, 1147, 1100031] g246) [68, 69, 70, 81, 82, 83, 84, 85, 86, 76, 77] g254)
        have md258 : sv_mod [68, 69, 70, 81, 82, 83, 84, 85, 86, 71, 74, 75, 1127, 78, 79, 80, 72, 76, 77, 1143, 1144, 5, 1011, 1150, 1149, 1145, 1113, 1111, 1112, 91, 1147, 1100031] S (sv_sts (sv_sts (sv_sts (sv_sts S [68, 69, 70, 81, 82, 83, 84, 85, 86, 71, 74, 75, 1127, 78, 79, 80, 72, 76, 77, 1143, 1144, 5, 1011, 1150, 1149, 1145, 1113, 1111, 1112, 91, 1147, 1100031] g191) [68, 69, 70, 81, 82, 83, 84, 85, 86, 71, 74, 75, 1127, 78, 79, 80, 72, 76, 77, 1143, 1144, 5, 1011, 1150, 1149, 1145, 1113, 1111, 1112, 1100031] g199) [68, 69, 70, 81, 82, 83, 84, 85, 86, 71, 74, 75, 1127, 78, 79, 80, 72, 76, 77, 1143, 1144, 5, 1011, 1150, 1149, 1145, 1113, 1111, 1112, 91, 1147, 1100031] g246) [68, 69, 70, 81, 82, 83, 84, 85, 86, 76, 77] g254) := sv_mod.sts md250 (by decide)
        have md259 : sv_mod [68, 69, 70, 81, 82, 83, 84, 85, 86, 71, 74, 75, 1127, 78, 79, 80, 72, 76, 77, 1143, 1144, 5, 1011, 1150, 1149, 1145, 1113, 1111, 1112, 91, 1147, 1100031] (sv_sts (sv_sts S [68, 69, 70, 81, 82, 83, 84, 85, 86, 71, 74, 75, 1127, 78, 79, 80, 72, 76, 77, 1143, 1144, 5, 1011, 1150, 1149, 1145, 1113, 1111, 1112, 91, 1147, 1100031] g191) [68, 69, 70, 81, 82, 83, 84, 85, 86, 71, 74, 75, 1127, 78, 79, 80, 72, 76, 77, 1143, 1144, 5, 1011, 1150, 1149, 1145, 1113, 1111, 1112, 1100031] g199) (sv_sts (sv_sts (sv_sts (sv_sts S [68, 69, 70, 81, 82, 83, 84, 85, 86, 71, 74, 75, 1127, 78, 79, 80, 72, 76, 77, 1143, 1144, 5, 1011, 1150, 1149, 1145, 1113, 1111, 1112, 91, 1147, 1100031] g191) [68, 69, 70, 81, 82, 83, 84, 85, 86, 71, 74, 75, 1127, 78, 79, 80, 72, 76, 77, 1143, 1144, 5, 1011, 1150, 1149, 1145, 1113, 1111, 1112, 1100031] g199) [68, 69, 70, 81, 82, 83, 84, 85, 86, 71, 74, 75, 1127, 78, 79, 80, 72, 76, 77, 1143, 1144, 5, 1011, 1150, 1149, 1145, 1113, 1111, 1112, 91, 1147, 1100031] g246) [68, 69, 70, 81, 82, 83, 84, 85, 86, 76, 77] g254) := sv_mod.sts md251 (by decide)
        have h := h g254 hpo257
        have k260 : (sm_ST (g246 71) (g246 74) (g246 75) (g246 78) (g246 79) (g246 80) (S 27) (S 1100007) (S 1100023) (S 1100024) (S 1046 0) ((S 1046 0) + 2 * (S 1032 0)) (g246 1127 0) → 0 ≤ x205 → x205 < ((S 1046 0) + 2 * (S 1032 0)) → (g246 71 x205) = 1 → (g246 74 x205) = (S 1100007 x205) ∧ 465000 ≤ (g246 75 x205) ∧ (g246 75 x205) + (g246 74 x205) ≤ (g246 1127 0) ∧ 0 ≤ (g246 78 x205) ∧ (g246 78 x205) ≤ 40) := fun h h0 h1 h2 => ⟨(sm_ST_at h x205 h0 h1 h2).1, (sm_ST_at h x205 h0 h1 h2).2.1, (sm_ST_at h x205 h0 h1 h2).2.2.1, (sm_ST_at h x205 h0 h1 h2).2.2.2.1, (sm_ST_at h x205 h0 h1 h2).2.2.2.2.1⟩
        have h := h k260
        have k261 : (sm_NH (S 1100007) → 0 ≤ sm_hs (g246 71) (S 1100007)) := sm_hs_0
        have h := h k261
        refine sv_ldc_w (d := (647751 : Int)) hM dX12_codeWays_107 sm_ck_1349 rfl rfl ?_
        refine sv_istore hM dX12_codeWays_110 (by decide) rfl ?_
        show sv_T sm_XS sm_cs sm_L sm_sh 6 (q_codeWays p1 p2 p4 p6 p7 p8 p9 p10 S) 284 112 [(0, .ref 0), (1, sv_I p1), (2, sv_L p2), (4, sv_L p4), (6, sv_I p6), (7, sv_I p7), (8, sv_I p8), (9, sv_I p9), (10, sv_I p10), (11, sv_I x2), (12, sv_I r10), (13, sv_I r17), (14, sv_I x205), (15, sv_I (647751 : Int))] [] (sv_sts (sv_sts (sv_sts (sv_sts S [68, 69, 70, 81, 82, 83, 84, 85, 86, 71, 74, 75, 1127, 78, 79, 80, 72, 76, 77, 1143, 1144, 5, 1011, 1150, 1149, 1145, 1113, 1111, 1112, 91, 1147, 1100031] g191) [68, 69, 70, 81, 82, 83, 84, 85, 86, 71, 74, 75, 1127, 78, 79, 80, 72, 76, 77, 1143, 1144, 5, 1011, 1150, 1149, 1145, 1113, 1111, 1112, 1100031] g199) [68, 69, 70, 81, 82, 83, 84, 85, 86, 71, 74, 75, 1127, 78, 79, 80, 72, 76, 77, 1143, 1144, 5, 1011, 1150, 1149, 1145, 1113, 1111, 1112, 91, 1147, 1100031] g246) [68, 69, 70, 81, 82, 83, 84, 85, 86, 76, 77] g254)
        refine sv_aload_n hM dX12_codeWays_112 rfl rfl ?_
        refine sv_aload_n hM dX12_codeWays_113 rfl rfl ?_
        refine sv_getA hM dX12_codeWays_114 sm_fl_238 (sm_a0 _) sm_k126 rfl ?_
        refine sv_iload hM dX12_codeWays_117 rfl rfl ?_
        have k262 : sv_R (g246 75 x205) := sm_okI ok255 sm_r75 x205
        have h := h k262
        refine sv_iald hM dX12_codeWays_119 (sm_a75 _) (by decide) o243.1 o243.2 rfl (x := (g246 75 x205)) rfl ?_
        refine sv_iload hM dX12_codeWays_120 rfl rfl ?_
        obtain ⟨o263, h⟩ := h
        refine sv_callV hM dX12_codeWays_122 sm_iv_1092 (by decide) (sm_a0 _) rfl rfl (Nat.le_of_ble_eq_true rfl) sm_h207 (Nat.le_of_ble_eq_true rfl) (Nat.le_of_ble_eq_true rfl) (F' := 0) (Nat.le_of_ble_eq_true rfl) rfl (t_copySet (g246 75 x205) (647751 : Int) (sv_sts (sv_sts (sv_sts (sv_sts S [68, 69, 70, 81, 82, 83, 84, 85, 86, 71, 74, 75, 1127, 78, 79, 80, 72, 76, 77, 1143, 1144, 5, 1011, 1150, 1149, 1145, 1113, 1111, 1112, 91, 1147, 1100031] g191) [68, 69, 70, 81, 82, 83, 84, 85, 86, 71, 74, 75, 1127, 78, 79, 80, 72, 76, 77, 1143, 1144, 5, 1011, 1150, 1149, 1145, 1113, 1111, 1112, 1100031] g199) [68, 69, 70, 81, 82, 83, 84, 85, 86, 71, 74, 75, 1127, 78, 79, 80, 72, 76, 77, 1143, 1144, 5, 1011, 1150, 1149, 1145, 1113, 1111, 1112, 91, 1147, 1100031] g246) [68, 69, 70, 81, 82, 83, 84, 85, 86, 76, 77] g254) ok255 k262 (⟨by decide, by decide⟩ : sv_R (647751 : Int)) o263) (fun v S1 hq => ?_)
        obtain ⟨rfl, ok265, md266, hpo267⟩ := hq
        obtain ⟨g264, rfl⟩ : ∃ g, S1 = sv_sts (sv_sts (sv_sts (sv_sts (sv_sts S [68, 69, 70, 81, 82, 83, 84, 85, 86, 71, 74, 75, 1127, 78, 79, 80, 72, 76, 77, 1143, 1144, 5, 1011, 1150, 1149, 1145, 1113, 1111, 1112, 91, 1147, 1100031] g191) [68, 69, 70, 81, 82, 83, 84, 85, 86, 71, 74, 75, 1127, 78, 79, 80, 72, 76, 77, 1143, 1144, 5, 1011, 1150, 1149, 1145, 1113, 1111, 1112, 1100031] g199) [68, 69, 70, 81, 82, 83, 84, 85, 86, 71, 74, 75, 1127, 78, 79, 80, 72, 76, 77, 1143, 1144, 5, 1011, 1150, 1149, 1145, 1113, 1111, 1112, 91, 1147, 1100031] g246) [68, 69, 70, 81, 82, 83, 84, 85, 86, 76, 77] g254) [68, 69, 70] g := ⟨_, md266.eq⟩
        show sv_T sm_XS sm_cs sm_L sm_sh 6 (q_codeWays p1 p2 p4 p6 p7 p8 p9 p10 S) 284 125 [(0, .ref 0), (1, sv_I p1), (2, sv_L p2), (4, sv_L p4), (6, sv_I p6), (7, sv_I p7), (8, sv_I p8), (9, sv_I p9), (10, sv_I p10), (11, sv_I x2), (12, sv_I r10), (13, sv_I r17), (14, sv_I x205), (15, sv_I (647751 : Int))] [] (sv_sts (sv_sts (sv_sts (sv_sts (sv_sts S [68, 69, 70, 81, 82, 83, 84, 85, 86, 71, 74, 75, 1127, 78, 79, 80, 72, 76, 77, 1143, 1144, 5, 1011, 1150, 1149, 1145, 1113, 1111, 1112, 91, 1147, 1100031] g191) [68, 69, 70, 81, 82, 83, 84, 85, 86, 71, 74, 75, 1127, 78, 79, 80, 72, 76, 77, 1143, 1144, 5, 1011, 1150, 1149, 1145, 1113, 1111, 1112, 1100031] g199) [68, 69, 70, 81, 82, 83, 84, 85, 86, 71, 74, 75, 1127, 78, 79, 80, 72, 76, 77, 1143, 1144, 5, 1011, 1150, 1149, 1145, 1113, 1111, 1112, 91, 1147, 1100031] g246) [68, 69, 70, 81, 82, 83, 84, 85, 86, 76, 77] g254) [68, 69, 70] g264)
        have md268 : sv_mod [68, 69, 70, 81, 82, 83, 84, 85, 86, 71, 74, 75, 1127, 78, 79, 80, 72, 76, 77, 1143, 1144, 5, 1011, 1150, 1149, 1145, 1113, 1111, 1112, 91, 1147, 1100031] S (sv_sts (sv_sts (sv_sts (sv_sts (sv_sts S [68, 69, 70, 81, 82, 83, 84, 85, 86, 71, 74, 75, 1127, 78, 79, 80, 72, 76, 77, 1143, 1144, 5, 1011, 1150, 1149, 1145, 1113, 1111, 1112, 91, 1147, 1100031] g191) [68, 69, 70, 81, 82, 83, 84, 85, 86, 71, 74, 75, 1127, 78, 79, 80, 72, 76, 77, 1143, 1144, 5, 1011, 1150, 1149, 1145, 1113, 1111, 1112, 1100031] g199) [68, 69, 70, 81, 82, 83, 84, 85, 86, 71, 74, 75, 1127, 78, 79, 80, 72, 76, 77, 1143, 1144, 5, 1011, 1150, 1149, 1145, 1113, 1111, 1112, 91, 1147, 1100031] g246) [68, 69, 70, 81, 82, 83, 84, 85, 86, 76, 77] g254) [68, 69, 70] g264) := sv_mod.sts md258 (by decide)
        have md269 : sv_mod [68, 69, 70, 81, 82, 83, 84, 85, 86, 71, 74, 75, 1127, 78, 79, 80, 72, 76, 77, 1143, 1144, 5, 1011, 1150, 1149, 1145, 1113, 1111, 1112, 91, 1147, 1100031] (sv_sts (sv_sts S [68, 69, 70, 81, 82, 83, 84, 85, 86, 71, 74, 75, 1127, 78, 79, 80, 72, 76, 77, 1143, 1144, 5, 1011, 1150, 1149, 1145, 1113, 1111, 1112, 91, 1147, 1100031] g191) [68, 69, 70, 81, 82, 83, 84, 85, 86, 71, 74, 75, 1127, 78, 79, 80, 72, 76, 77, 1143, 1144, 5, 1011, 1150, 1149, 1145, 1113, 1111, 1112, 1100031] g199) (sv_sts (sv_sts (sv_sts (sv_sts (sv_sts S [68, 69, 70, 81, 82, 83, 84, 85, 86, 71, 74, 75, 1127, 78, 79, 80, 72, 76, 77, 1143, 1144, 5, 1011, 1150, 1149, 1145, 1113, 1111, 1112, 91, 1147, 1100031] g191) [68, 69, 70, 81, 82, 83, 84, 85, 86, 71, 74, 75, 1127, 78, 79, 80, 72, 76, 77, 1143, 1144, 5, 1011, 1150, 1149, 1145, 1113, 1111, 1112, 1100031] g199) [68, 69, 70, 81, 82, 83, 84, 85, 86, 71, 74, 75, 1127, 78, 79, 80, 72, 76, 77, 1143, 1144, 5, 1011, 1150, 1149, 1145, 1113, 1111, 1112, 91, 1147, 1100031] g246) [68, 69, 70, 81, 82, 83, 84, 85, 86, 76, 77] g254) [68, 69, 70] g264) := sv_mod.sts md259 (by decide)
        have h := h g264 hpo267
        refine sv_iload hM dX12_codeWays_125 rfl rfl ?_
        refine sv_iconst (d := (-1 : Int)) hM dX12_codeWays_127 rfl rfl ?_
        refine sv_icmp_eq hM dX12_codeWays_128 hp10 (⟨by decide, by decide⟩ : sv_R (-1 : Int)) (t := 166) rfl rfl (fun hc => ?_) (fun hc => ?_)
        · have h := h.1 (hc)
          refine sv_iload hM dX12_codeWays_166 rfl rfl ?_
          refine sv_iconst (d := (-1 : Int)) hM dX12_codeWays_168 rfl rfl ?_
          refine sv_icmp_eq hM dX12_codeWays_169 hp10 (⟨by decide, by decide⟩ : sv_R (-1 : Int)) (t := 181) rfl rfl (fun hc => ?_) (fun hc => ?_)
          · have h := h.1 (hc)
            refine sv_aload_n hM dX12_codeWays_181 rfl rfl ?_
            refine sv_iload hM dX12_codeWays_182 rfl rfl ?_
            refine sv_iload hM dX12_codeWays_184 rfl rfl ?_
            obtain ⟨o270, h⟩ := h
            refine sv_callV hM dX12_codeWays_186 sm_iv_1258 (by decide) (sm_a0 _) rfl rfl (Nat.le_of_ble_eq_true rfl) sm_h267 (Nat.le_of_ble_eq_true rfl) (Nat.le_of_ble_eq_true rfl) (F' := 5) (Nat.le_of_ble_eq_true rfl) rfl (t_replace p9 (647751 : Int) (sv_sts (sv_sts (sv_sts (sv_sts (sv_sts S [68, 69, 70, 81, 82, 83, 84, 85, 86, 71, 74, 75, 1127, 78, 79, 80, 72, 76, 77, 1143, 1144, 5, 1011, 1150, 1149, 1145, 1113, 1111, 1112, 91, 1147, 1100031] g191) [68, 69, 70, 81, 82, 83, 84, 85, 86, 71, 74, 75, 1127, 78, 79, 80, 72, 76, 77, 1143, 1144, 5, 1011, 1150, 1149, 1145, 1113, 1111, 1112, 1100031] g199) [68, 69, 70, 81, 82, 83, 84, 85, 86, 71, 74, 75, 1127, 78, 79, 80, 72, 76, 77, 1143, 1144, 5, 1011, 1150, 1149, 1145, 1113, 1111, 1112, 91, 1147, 1100031] g246) [68, 69, 70, 81, 82, 83, 84, 85, 86, 76, 77] g254) [68, 69, 70] g264) ok265 hp9 (⟨by decide, by decide⟩ : sv_R (647751 : Int)) o270) (fun v S1 hq => ?_)
            obtain ⟨rfl, ok272, md273, hpo274⟩ := hq
            obtain ⟨g271, rfl⟩ : ∃ g, S1 = sv_sts (sv_sts (sv_sts (sv_sts (sv_sts (sv_sts S [68, 69, 70, 81, 82, 83, 84, 85, 86, 71, 74, 75, 1127, 78, 79, 80, 72, 76, 77, 1143, 1144, 5, 1011, 1150, 1149, 1145, 1113, 1111, 1112, 91, 1147, 1100031] g191) [68, 69, 70, 81, 82, 83, 84, 85, 86, 71, 74, 75, 1127, 78, 79, 80, 72, 76, 77, 1143, 1144, 5, 1011, 1150, 1149, 1145, 1113, 1111, 1112, 1100031] g199) [68, 69, 70, 81, 82, 83, 84, 85, 86, 71, 74, 75, 1127, 78, 79, 80, 72, 76, 77, 1143, 1144, 5, 1011, 1150, 1149, 1145, 1113, 1111, 1112, 91, 1147, 1100031] g246) [68, 69, 70, 81, 82, 83, 84, 85, 86, 76, 77] g254) [68, 69, 70] g264) [68, 69, 70, 81, 82, 83, 84, 85, 86, 71, 74, 75, 1127, 78, 79, 80, 72, 76, 77, 1150] g := ⟨_, md273.eq⟩
            show sv_T sm_XS sm_cs sm_L sm_sh 6 (q_codeWays p1 p2 p4 p6 p7 p8 p9 p10 S) 284 189 [(0, .ref 0), (1, sv_I p1), (2, sv_L p2), (4, sv_L p4), (6, sv_I p6), (7, sv_I p7), (8, sv_I p8), (9, sv_I p9), (10, sv_I p10), (11, sv_I x2), (12, sv_I r10), (13, sv_I r17), (14, sv_I x205), (15, sv_I (647751 : Int))] [] (sv_sts (sv_sts (sv_sts (sv_sts (sv_sts (sv_sts S [68, 69, 70, 81, 82, 83, 84, 85, 86, 71, 74, 75, 1127, 78, 79, 80, 72, 76, 77, 1143, 1144, 5, 1011, 1150, 1149, 1145, 1113, 1111, 1112, 91, 1147, 1100031] g191) [68, 69, 70, 81, 82, 83, 84, 85, 86, 71, 74, 75, 1127, 78, 79, 80, 72, 76, 77, 1143, 1144, 5, 1011, 1150, 1149, 1145, 1113, 1111, 1112, 1100031] g199) [68, 69, 70, 81, 82, 83, 84, 85, 86, 71, 74, 75, 1127, 78, 79, 80, 72, 76, 77, 1143, 1144, 5, 1011, 1150, 1149, 1145, 1113, 1111, 1112, 91, 1147, 1100031] g246) [68, 69, 70, 81, 82, 83, 84, 85, 86, 76, 77] g254) [68, 69, 70] g264) [68, 69, 70, 81, 82, 83, 84, 85, 86, 71, 74, 75, 1127, 78, 79, 80, 72, 76, 77, 1150] g271)
            have md275 : sv_mod [68, 69, 70, 81, 82, 83, 84, 85, 86, 71, 74, 75, 1127, 78, 79, 80, 72, 76, 77, 1143, 1144, 5, 1011, 1150, 1149, 1145, 1113, 1111, 1112, 91, 1147, 1100031] S (sv_sts (sv_sts (sv_sts (sv_sts (sv_sts (sv_sts S [68, 69, 70, 81, 82, 83, 84, 85, 86, 71, 74, 75, 1127, 78, 79, 80, 72, 76, 77, 1143, 1144, 5, 1011, 1150, 1149, 1145, 1113, 1111, 1112, 91, 1147, 1100031] g191) [68, 69, 70, 81, 82, 83, 84, 85, 86, 71, 74, 75, 1127, 78, 79, 80, 72, 76, 77, 1143, 1144, 5, 1011, 1150, 1149, 1145, 1113, 1111, 1112, 1100031] g199) [68, 69, 70, 81, 82, 83, 84, 85, 86, 71, 74, 75, 1127, 78, 79, 80, 72, 76, 77, 1143, 1144, 5, 1011, 1150, 1149, 1145, 1113, 1111, 1112, 91, 1147, 1100031] g246) [68, 69, 70, 81, 82, 83, 84, 85, 86, 76, 77] g254) [68, 69, 70] g264) [68, 69, 70, 81, 82, 83, 84, 85, 86, 71, 74, 75, 1127, 78, 79, 80, 72, 76, 77, 1150] g271) := sv_mod.sts md268 (by decide)
            have md276 : sv_mod [68, 69, 70, 81, 82, 83, 84, 85, 86, 71, 74, 75, 1127, 78, 79, 80, 72, 76, 77, 1143, 1144, 5, 1011, 1150, 1149, 1145, 1113, 1111, 1112, 91, 1147, 1100031] (sv_sts (sv_sts S [68, 69, 70, 81, 82, 83, 84, 85, 86, 71, 74, 75, 1127, 78, 79, 80, 72, 76, 77, 1143, 1144, 5, 1011, 1150, 1149, 1145, 1113, 1111, 1112, 91, 1147, 1100031] g191) [68, 69, 70, 81, 82, 83, 84, 85, 86, 71, 74, 75, 1127, 78, 79, 80, 72, 76, 77, 1143, 1144, 5, 1011, 1150, 1149, 1145, 1113, 1111, 1112, 1100031] g199) (sv_sts (sv_sts (sv_sts (sv_sts (sv_sts (sv_sts S [68, 69, 70, 81, 82, 83, 84, 85, 86, 71, 74, 75, 1127, 78, 79, 80, 72, 76, 77, 1143, 1144, 5, 1011, 1150, 1149, 1145, 1113, 1111, 1112, 91, 1147, 1100031] g191) [68, 69, 70, 81, 82, 83, 84, 85, 86, 71, 74, 75, 1127, 78, 79, 80, 72, 76, 77, 1143, 1144, 5, 1011, 1150, 1149, 1145, 1113, 1111, 1112, 1100031] g199) [68, 69, 70, 81, 82, 83, 84, 85, 86, 71, 74, 75, 1127, 78, 79, 80, 72, 76, 77, 1143, 1144, 5, 1011, 1150, 1149, 1145, 1113, 1111, 1112, 91, 1147, 1100031] g246) [68, 69, 70, 81, 82, 83, 84, 85, 86, 76, 77] g254) [68, 69, 70] g264) [68, 69, 70, 81, 82, 83, 84, 85, 86, 71, 74, 75, 1127, 78, 79, 80, 72, 76, 77, 1150] g271) := sv_mod.sts md269 (by decide)
            have h := h g271 hpo274
            have eS := sv_mod.eq md276
            have hb := J242 (sv_sts (sv_sts (sv_sts (sv_sts (sv_sts (sv_sts S [68, 69, 70, 81, 82, 83, 84, 85, 86, 71, 74, 75, 1127, 78, 79, 80, 72, 76, 77, 1143, 1144, 5, 1011, 1150, 1149, 1145, 1113, 1111, 1112, 91, 1147, 1100031] g191) [68, 69, 70, 81, 82, 83, 84, 85, 86, 71, 74, 75, 1127, 78, 79, 80, 72, 76, 77, 1143, 1144, 5, 1011, 1150, 1149, 1145, 1113, 1111, 1112, 1100031] g199) [68, 69, 70, 81, 82, 83, 84, 85, 86, 71, 74, 75, 1127, 78, 79, 80, 72, 76, 77, 1143, 1144, 5, 1011, 1150, 1149, 1145, 1113, 1111, 1112, 91, 1147, 1100031] g246) [68, 69, 70, 81, 82, 83, 84, 85, 86, 76, 77] g254) [68, 69, 70] g264) [68, 69, 70, 81, 82, 83, 84, 85, 86, 71, 74, 75, 1127, 78, 79, 80, 72, 76, 77, 1150] g271) (by rw [← eS]; exact ok272) h
            have hb : sv_T sm_XS sm_cs sm_L sm_sh 6 (q_codeWays p1 p2 p4 p6 p7 p8 p9 p10 S) 284 189 [(0, .ref 0), (1, sv_I p1), (2, sv_L p2), (4, sv_L p4), (6, sv_I p6), (7, sv_I p7), (8, sv_I p8), (9, sv_I p9), (10, sv_I p10), (11, sv_I x2), (12, sv_I r10), (13, sv_I r17), (14, sv_I x205)] [] (sv_sts (sv_sts (sv_sts (sv_sts (sv_sts (sv_sts S [68, 69, 70, 81, 82, 83, 84, 85, 86, 71, 74, 75, 1127, 78, 79, 80, 72, 76, 77, 1143, 1144, 5, 1011, 1150, 1149, 1145, 1113, 1111, 1112, 91, 1147, 1100031] g191) [68, 69, 70, 81, 82, 83, 84, 85, 86, 71, 74, 75, 1127, 78, 79, 80, 72, 76, 77, 1143, 1144, 5, 1011, 1150, 1149, 1145, 1113, 1111, 1112, 1100031] g199) [68, 69, 70, 81, 82, 83, 84, 85, 86, 71, 74, 75, 1127, 78, 79, 80, 72, 76, 77, 1143, 1144, 5, 1011, 1150, 1149, 1145, 1113, 1111, 1112, 91, 1147, 1100031] g246) [68, 69, 70, 81, 82, 83, 84, 85, 86, 76, 77] g254) [68, 69, 70] g264) [68, 69, 70, 81, 82, 83, 84, 85, 86, 71, 74, 75, 1127, 78, 79, 80, 72, 76, 77, 1150] g271) := Eq.mpr (congrArg (fun Z => sv_T sm_XS sm_cs sm_L sm_sh 6 (q_codeWays p1 p2 p4 p6 p7 p8 p9 p10 S) 284 189 [(0, .ref 0), (1, sv_I p1), (2, sv_L p2), (4, sv_L p4), (6, sv_I p6), (7, sv_I p7), (8, sv_I p8), (9, sv_I p9), (10, sv_I p10), (11, sv_I x2), (12, sv_I r10), (13, sv_I r17), (14, sv_I x205)] [] Z) eS) hb
            exact sv_less (lv := [(0, .ref 0), (1, sv_I p1), (2, sv_L p2), (4, sv_L p4), (6, sv_I p6), (7, sv_I p7), (8, sv_I p8), (9, sv_I p9), (10, sv_I p10), (11, sv_I x2), (12, sv_I r10), (13, sv_I r17), (14, sv_I x205)]) (sv_Sub_cons rfl (sv_Sub_cons rfl (sv_Sub_cons rfl (sv_Sub_cons rfl (sv_Sub_cons rfl (sv_Sub_cons rfl (sv_Sub_cons rfl (sv_Sub_cons rfl (sv_Sub_cons rfl (sv_Sub_cons rfl (sv_Sub_cons rfl (sv_Sub_cons rfl (sv_Sub_cons rfl sv_Sub_nil))))))))))))) hb
          · have h := h.2 (hc)
            refine sv_aload_n hM dX12_codeWays_172 rfl rfl ?_
            refine sv_iload hM dX12_codeWays_173 rfl rfl ?_
            refine sv_iconst (d := (0 : Int)) hM dX12_codeWays_175 rfl rfl ?_
            refine sv_iconst (d := (0 : Int)) hM dX12_codeWays_176 rfl rfl ?_
            refine sv_iconst (d := (0 : Int)) hM dX12_codeWays_177 rfl rfl ?_
            obtain ⟨o277, h⟩ := h
            refine sv_callV hM dX12_codeWays_178 sm_iv_1056 (by decide) (sm_a0 _) rfl rfl (Nat.le_of_ble_eq_true rfl) sm_h205 (Nat.le_of_ble_eq_true rfl) (Nat.le_of_ble_eq_true rfl) (F' := 0) (Nat.le_of_ble_eq_true rfl) rfl (t_write (647751 : Int) (0 : Int) (0 : Int) (0 : Int) (sv_sts (sv_sts (sv_sts (sv_sts (sv_sts S [68, 69, 70, 81, 82, 83, 84, 85, 86, 71, 74, 75, 1127, 78, 79, 80, 72, 76, 77, 1143, 1144, 5, 1011, 1150, 1149, 1145, 1113, 1111, 1112, 91, 1147, 1100031] g191) [68, 69, 70, 81, 82, 83, 84, 85, 86, 71, 74, 75, 1127, 78, 79, 80, 72, 76, 77, 1143, 1144, 5, 1011, 1150, 1149, 1145, 1113, 1111, 1112, 1100031] g199) [68, 69, 70, 81, 82, 83, 84, 85, 86, 71, 74, 75, 1127, 78, 79, 80, 72, 76, 77, 1143, 1144, 5, 1011, 1150, 1149, 1145, 1113, 1111, 1112, 91, 1147, 1100031] g246) [68, 69, 70, 81, 82, 83, 84, 85, 86, 76, 77] g254) [68, 69, 70] g264) ok265 (⟨by decide, by decide⟩ : sv_R (647751 : Int)) (⟨by decide, by decide⟩ : sv_R (0 : Int)) (⟨by decide, by decide⟩ : sv_R (0 : Int)) (⟨by decide, by decide⟩ : sv_R (0 : Int)) o277) (fun v S1 hq => ?_)
            obtain ⟨rfl, ok279, md280, hpo281⟩ := hq
            obtain ⟨g278, rfl⟩ : ∃ g, S1 = sv_sts (sv_sts (sv_sts (sv_sts (sv_sts (sv_sts S [68, 69, 70, 81, 82, 83, 84, 85, 86, 71, 74, 75, 1127, 78, 79, 80, 72, 76, 77, 1143, 1144, 5, 1011, 1150, 1149, 1145, 1113, 1111, 1112, 91, 1147, 1100031] g191) [68, 69, 70, 81, 82, 83, 84, 85, 86, 71, 74, 75, 1127, 78, 79, 80, 72, 76, 77, 1143, 1144, 5, 1011, 1150, 1149, 1145, 1113, 1111, 1112, 1100031] g199) [68, 69, 70, 81, 82, 83, 84, 85, 86, 71, 74, 75, 1127, 78, 79, 80, 72, 76, 77, 1143, 1144, 5, 1011, 1150, 1149, 1145, 1113, 1111, 1112, 91, 1147, 1100031] g246) [68, 69, 70, 81, 82, 83, 84, 85, 86, 76, 77] g254) [68, 69, 70] g264) [68] g := ⟨_, md280.eq⟩
            show sv_T sm_XS sm_cs sm_L sm_sh 6 (q_codeWays p1 p2 p4 p6 p7 p8 p9 p10 S) 284 181 [(0, .ref 0), (1, sv_I p1), (2, sv_L p2), (4, sv_L p4), (6, sv_I p6), (7, sv_I p7), (8, sv_I p8), (9, sv_I p9), (10, sv_I p10), (11, sv_I x2), (12, sv_I r10), (13, sv_I r17), (14, sv_I x205), (15, sv_I (647751 : Int))] [] (sv_sts (sv_sts (sv_sts (sv_sts (sv_sts (sv_sts S [68, 69, 70, 81, 82, 83, 84, 85, 86, 71, 74, 75, 1127, 78, 79, 80, 72, 76, 77, 1143, 1144, 5, 1011, 1150, 1149, 1145, 1113, 1111, 1112, 91, 1147, 1100031] g191) [68, 69, 70, 81, 82, 83, 84, 85, 86, 71, 74, 75, 1127, 78, 79, 80, 72, 76, 77, 1143, 1144, 5, 1011, 1150, 1149, 1145, 1113, 1111, 1112, 1100031] g199) [68, 69, 70, 81, 82, 83, 84, 85, 86, 71, 74, 75, 1127, 78, 79, 80, 72, 76, 77, 1143, 1144, 5, 1011, 1150, 1149, 1145, 1113, 1111, 1112, 91, 1147, 1100031] g246) [68, 69, 70, 81, 82, 83, 84, 85, 86, 76, 77] g254) [68, 69, 70] g264) [68] g278)
            have md282 : sv_mod [68, 69, 70, 81, 82, 83, 84, 85, 86, 71, 74, 75, 1127, 78, 79, 80, 72, 76, 77, 1143, 1144, 5, 1011, 1150, 1149, 1145, 1113, 1111, 1112, 91, 1147, 1100031] S (sv_sts (sv_sts (sv_sts (sv_sts (sv_sts (sv_sts S [68, 69, 70, 81, 82, 83, 84, 85, 86, 71, 74, 75, 1127, 78, 79, 80, 72, 76, 77, 1143, 1144, 5, 1011, 1150, 1149, 1145, 1113, 1111, 1112, 91, 1147, 1100031] g191) [68, 69, 70, 81, 82, 83, 84, 85, 86, 71, 74, 75, 1127, 78, 79, 80, 72, 76, 77, 1143, 1144, 5, 1011, 1150, 1149, 1145, 1113, 1111, 1112, 1100031] g199) [68, 69, 70, 81, 82, 83, 84, 85, 86, 71, 74, 75, 1127, 78, 79, 80, 72, 76, 77, 1143, 1144, 5, 1011, 1150, 1149, 1145, 1113, 1111, 1112, 91, 1147, 1100031] g246) [68, 69, 70, 81, 82, 83, 84, 85, 86, 76, 77] g254) [68, 69, 70] g264) [68] g278) := sv_mod.sts md268 (by decide)
            have md283 : sv_mod [68, 69, 70, 81, 82, 83, 84, 85, 86, 71, 74, 75, 1127, 78, 79, 80, 72, 76, 77, 1143, 1144, 5, 1011, 1150, 1149, 1145, 1113, 1111, 1112, 91, 1147, 1100031] (sv_sts (sv_sts S [68, 69, 70, 81, 82, 83, 84, 85, 86, 71, 74, 75, 1127, 78, 79, 80, 72, 76, 77, 1143, 1144, 5, 1011, 1150, 1149, 1145, 1113, 1111, 1112, 91, 1147, 1100031] g191) [68, 69, 70, 81, 82, 83, 84, 85, 86, 71, 74, 75, 1127, 78, 79, 80, 72, 76, 77, 1143, 1144, 5, 1011, 1150, 1149, 1145, 1113, 1111, 1112, 1100031] g199) (sv_sts (sv_sts (sv_sts (sv_sts (sv_sts (sv_sts S [68, 69, 70, 81, 82, 83, 84, 85, 86, 71, 74, 75, 1127, 78, 79, 80, 72, 76, 77, 1143, 1144, 5, 1011, 1150, 1149, 1145, 1113, 1111, 1112, 91, 1147, 1100031] g191) [68, 69, 70, 81, 82, 83, 84, 85, 86, 71, 74, 75, 1127, 78, 79, 80, 72, 76, 77, 1143, 1144, 5, 1011, 1150, 1149, 1145, 1113, 1111, 1112, 1100031] g199) [68, 69, 70, 81, 82, 83, 84, 85, 86, 71, 74, 75, 1127, 78, 79, 80, 72, 76, 77, 1143, 1144, 5, 1011, 1150, 1149, 1145, 1113, 1111, 1112, 91, 1147, 1100031] g246) [68, 69, 70, 81, 82, 83, 84, 85, 86, 76, 77] g254) [68, 69, 70] g264) [68] g278) := sv_mod.sts md269 (by decide)
            have h := h g278 hpo281
            refine sv_aload_n hM dX12_codeWays_181 rfl rfl ?_
            refine sv_iload hM dX12_codeWays_182 rfl rfl ?_
            refine sv_iload hM dX12_codeWays_184 rfl rfl ?_
            obtain ⟨o284, h⟩ := h
            refine sv_callV hM dX12_codeWays_186 sm_iv_1258 (by decide) (sm_a0 _) rfl rfl (Nat.le_of_ble_eq_true rfl) sm_h267 (Nat.le_of_ble_eq_true rfl) (Nat.le_of_ble_eq_true rfl) (F' := 5) (Nat.le_of_ble_eq_true rfl) rfl (t_replace p9 (647751 : Int) (sv_sts (sv_sts (sv_sts (sv_sts (sv_sts (sv_sts S [68, 69, 70, 81, 82, 83, 84, 85, 86, 71, 74, 75, 1127, 78, 79, 80, 72, 76, 77, 1143, 1144, 5, 1011, 1150, 1149, 1145, 1113, 1111, 1112, 91, 1147, 1100031] g191) [68, 69, 70, 81, 82, 83, 84, 85, 86, 71, 74, 75, 1127, 78, 79, 80, 72, 76, 77, 1143, 1144, 5, 1011, 1150, 1149, 1145, 1113, 1111, 1112, 1100031] g199) [68, 69, 70, 81, 82, 83, 84, 85, 86, 71, 74, 75, 1127, 78, 79, 80, 72, 76, 77, 1143, 1144, 5, 1011, 1150, 1149, 1145, 1113, 1111, 1112, 91, 1147, 1100031] g246) [68, 69, 70, 81, 82, 83, 84, 85, 86, 76, 77] g254) [68, 69, 70] g264) [68] g278) ok279 hp9 (⟨by decide, by decide⟩ : sv_R (647751 : Int)) o284) (fun v S1 hq => ?_)
            obtain ⟨rfl, ok286, md287, hpo288⟩ := hq
            obtain ⟨g285, rfl⟩ : ∃ g, S1 = sv_sts (sv_sts (sv_sts (sv_sts (sv_sts (sv_sts (sv_sts S [68, 69, 70, 81, 82, 83, 84, 85, 86, 71, 74, 75, 1127, 78, 79, 80, 72, 76, 77, 1143, 1144, 5, 1011, 1150, 1149, 1145, 1113, 1111, 1112, 91, 1147, 1100031] g191) [68, 69, 70, 81, 82, 83, 84, 85, 86, 71, 74, 75, 1127, 78, 79, 80, 72, 76, 77, 1143, 1144, 5, 1011, 1150, 1149, 1145, 1113, 1111, 1112, 1100031] g199) [68, 69, 70, 81, 82, 83, 84, 85, 86, 71, 74, 75, 1127, 78, 79, 80, 72, 76, 77, 1143, 1144, 5, 1011, 1150, 1149, 1145, 1113, 1111, 1112, 91, 1147, 1100031] g246) [68, 69, 70, 81, 82, 83, 84, 85, 86, 76, 77] g254) [68, 69, 70] g264) [68] g278) [68, 69, 70, 81, 82, 83, 84, 85, 86, 71, 74, 75, 1127, 78, 79, 80, 72, 76, 77, 1150] g := ⟨_, md287.eq⟩
            show sv_T sm_XS sm_cs sm_L sm_sh 6 (q_codeWays p1 p2 p4 p6 p7 p8 p9 p10 S) 284 189 [(0, .ref 0), (1, sv_I p1), (2, sv_L p2), (4, sv_L p4), (6, sv_I p6), (7, sv_I p7), (8, sv_I p8), (9, sv_I p9), (10, sv_I p10), (11, sv_I x2), (12, sv_I r10), (13, sv_I r17), (14, sv_I x205), (15, sv_I (647751 : Int))] [] (sv_sts (sv_sts (sv_sts (sv_sts (sv_sts (sv_sts (sv_sts S [68, 69, 70, 81, 82, 83, 84, 85, 86, 71, 74, 75, 1127, 78, 79, 80, 72, 76, 77, 1143, 1144, 5, 1011, 1150, 1149, 1145, 1113, 1111, 1112, 91, 1147, 1100031] g191) [68, 69, 70, 81, 82, 83, 84, 85, 86, 71, 74, 75, 1127, 78, 79, 80, 72, 76, 77, 1143, 1144, 5, 1011, 1150, 1149, 1145, 1113, 1111, 1112, 1100031] g199) [68, 69, 70, 81, 82, 83, 84, 85, 86, 71, 74, 75, 1127, 78, 79, 80, 72, 76, 77, 1143, 1144, 5, 1011, 1150, 1149, 1145, 1113, 1111, 1112, 91, 1147, 1100031] g246) [68, 69, 70, 81, 82, 83, 84, 85, 86, 76, 77] g254) [68, 69, 70] g264) [68] g278) [68, 69, 70, 81, 82, 83, 84, 85, 86, 71, 74, 75, 1127, 78, 79, 80, 72, 76, 77, 1150] g285)
            have md289 : sv_mod [68, 69, 70, 81, 82, 83, 84, 85, 86, 71, 74, 75, 1127, 78, 79, 80, 72, 76, 77, 1143, 1144, 5, 1011, 1150, 1149, 1145, 1113, 1111, 1112, 91, 1147, 1100031] S (sv_sts (sv_sts (sv_sts (sv_sts (sv_sts (sv_sts (sv_sts S [68, 69, 70, 81, 82, 83, 84, 85, 86, 71, 74, 75, 1127, 78, 79, 80, 72, 76, 77, 1143, 1144, 5, 1011, 1150, 1149, 1145, 1113, 1111, 1112, 91, 1147, 1100031] g191) [68, 69, 70, 81, 82, 83, 84, 85, 86, 71, 74, 75, 1127, 78, 79, 80, 72, 76, 77, 1143, 1144, 5, 1011, 1150, 1149, 1145, 1113, 1111, 1112, 1100031] g199) [68, 69, 70, 81, 82, 83, 84, 85, 86, 71, 74, 75, 1127, 78, 79, 80, 72, 76, 77, 1143, 1144, 5, 1011, 1150, 1149, 1145, 1113, 1111, 1112, 91, 1147, 1100031] g246) [68, 69, 70, 81, 82, 83, 84, 85, 86, 76, 77] g254) [68, 69, 70] g264) [68] g278) [68, 69, 70, 81, 82, 83, 84, 85, 86, 71, 74, 75, 1127, 78, 79, 80, 72, 76, 77, 1150] g285) := sv_mod.sts md282 (by decide)
            have md290 : sv_mod [68, 69, 70, 81, 82, 83, 84, 85, 86, 71, 74, 75, 1127, 78, 79, 80, 72, 76, 77, 1143, 1144, 5, 1011, 1150, 1149, 1145, 1113, 1111, 1112, 91, 1147, 1100031] (sv_sts (sv_sts S [68, 69, 70, 81, 82, 83, 84, 85, 86, 71, 74, 75, 1127, 78, 79, 80, 72, 76, 77, 1143, 1144, 5, 1011, 1150, 1149, 1145, 1113, 1111, 1112, 91, 1147, 1100031] g191) [68, 69, 70, 81, 82, 83, 84, 85, 86, 71, 74, 75, 1127, 78, 79, 80, 72, 76, 77, 1143, 1144, 5, 1011, 1150, 1149, 1145, 1113, 1111, 1112, 1100031] g199) (sv_sts (sv_sts (sv_sts (sv_sts (sv_sts (sv_sts (sv_sts S [68, 69, 70, 81, 82, 83, 84, 85, 86, 71, 74, 75, 1127, 78, 79, 80, 72, 76, 77, 1143, 1144, 5, 1011, 1150, 1149, 1145, 1113, 1111, 1112, 91, 1147, 1100031] g191) [68, 69, 70, 81, 82, 83, 84, 85, 86, 71, 74, 75, 1127, 78, 79, 80, 72, 76, 77, 1143, 1144, 5, 1011, 1150, 1149, 1145, 1113, 1111, 1112, 1100031] g199) [68, 69, 70, 81, 82, 83, 84, 85, 86, 71, 74, 75, 1127, 78, 79, 80, 72, 76, 77, 1143, 1144, 5, 1011, 1150, 1149, 1145, 1113, 1111, 1112, 91, 1147, 1100031] g246) [68, 69, 70, 81, 82, 83, 84, 85, 86, 76, 77] g254) [68, 69, 70] g264) [68] g278) [68, 69, 70, 81, 82, 83, 84, 85, 86, 71, 74, 75, 1127, 78, 79, 80, 72, 76, 77, 1150] g285) := sv_mod.sts md283 (by decide)
            have h := h g285 hpo288
            have eS := sv_mod.eq md290
            have hb := J242 (sv_sts (sv_sts (sv_sts (sv_sts (sv_sts (sv_sts (sv_sts S [68, 69, 70, 81, 82, 83, 84, 85, 86, 71, 74, 75, 1127, 78, 79, 80, 72, 76, 77, 1143, 1144, 5, 1011, 1150, 1149, 1145, 1113, 1111, 1112, 91, 1147, 1100031] g191) [68, 69, 70, 81, 82, 83, 84, 85, 86, 71, 74, 75, 1127, 78, 79, 80, 72, 76, 77, 1143, 1144, 5, 1011, 1150, 1149, 1145, 1113, 1111, 1112, 1100031] g199) [68, 69, 70, 81, 82, 83, 84, 85, 86, 71, 74, 75, 1127, 78, 79, 80, 72, 76, 77, 1143, 1144, 5, 1011, 1150, 1149, 1145, 1113, 1111, 1112, 91, 1147, 1100031] g246) [68, 69, 70, 81, 82, 83, 84, 85, 86, 76, 77] g254) [68, 69, 70] g264) [68] g278) [68, 69, 70, 81, 82, 83, 84, 85, 86, 71, 74, 75, 1127, 78, 79, 80, 72, 76, 77, 1150] g285) (by rw [← eS]; exact ok286) h
            have hb : sv_T sm_XS sm_cs sm_L sm_sh 6 (q_codeWays p1 p2 p4 p6 p7 p8 p9 p10 S) 284 189 [(0, .ref 0), (1, sv_I p1), (2, sv_L p2), (4, sv_L p4), (6, sv_I p6), (7, sv_I p7), (8, sv_I p8), (9, sv_I p9), (10, sv_I p10), (11, sv_I x2), (12, sv_I r10), (13, sv_I r17), (14, sv_I x205)] [] (sv_sts (sv_sts (sv_sts (sv_sts (sv_sts (sv_sts (sv_sts S [68, 69, 70, 81, 82, 83, 84, 85, 86, 71, 74, 75, 1127, 78, 79, 80, 72, 76, 77, 1143, 1144, 5, 1011, 1150, 1149, 1145, 1113, 1111, 1112, 91, 1147, 1100031] g191) [68, 69, 70, 81, 82, 83, 84, 85, 86, 71, 74, 75, 1127, 78, 79, 80, 72, 76, 77, 1143, 1144, 5, 1011, 1150, 1149, 1145, 1113, 1111, 1112, 1100031] g199) [68, 69, 70, 81, 82, 83, 84, 85, 86, 71, 74, 75, 1127, 78, 79, 80, 72, 76, 77, 1143, 1144, 5, 1011, 1150, 1149, 1145, 1113, 1111, 1112, 91, 1147, 1100031] g246) [68, 69, 70, 81, 82, 83, 84, 85, 86, 76, 77] g254) [68, 69, 70] g264) [68] g278) [68, 69, 70, 81, 82, 83, 84, 85, 86, 71, 74, 75, 1127, 78, 79, 80, 72, 76, 77, 1150] g285) := Eq.mpr (congrArg (fun Z => sv_T sm_XS sm_cs sm_L sm_sh 6 (q_codeWays p1 p2 p4 p6 p7 p8 p9 p10 S) 284 189 [(0, .ref 0), (1, sv_I p1), (2, sv_L p2), (4, sv_L p4), (6, sv_I p6), (7, sv_I p7), (8, sv_I p8), (9, sv_I p9), (10, sv_I p10), (11, sv_I x2), (12, sv_I r10), (13, sv_I r17), (14, sv_I x205)] [] Z) eS) hb
            exact sv_less (lv := [(0, .ref 0), (1, sv_I p1), (2, sv_L p2), (4, sv_L p4), (6, sv_I p6), (7, sv_I p7), (8, sv_I p8), (9, sv_I p9), (10, sv_I p10), (11, sv_I x2), (12, sv_I r10), (13, sv_I r17), (14, sv_I x205)]) (sv_Sub_cons rfl (sv_Sub_cons rfl (sv_Sub_cons rfl (sv_Sub_cons rfl (sv_Sub_cons rfl (sv_Sub_cons rfl (sv_Sub_cons rfl (sv_Sub_cons rfl (sv_Sub_cons rfl (sv_Sub_cons rfl (sv_Sub_cons rfl (sv_Sub_cons rfl (sv_Sub_cons rfl sv_Sub_nil))))))))))))) hb
        · have h := h.2 (hc)
          refine sv_aload_n hM dX12_codeWays_131 rfl rfl ?_
          refine sv_iload hM dX12_codeWays_132 rfl rfl ?_
          obtain ⟨o291, h⟩ := h
          refine sv_callV hM dX12_codeWays_134 sm_iv_1059 (by decide) (sm_a0 _) rfl rfl (Nat.le_of_ble_eq_true rfl) sm_h210 (Nat.le_of_ble_eq_true rfl) (Nat.le_of_ble_eq_true rfl) (F' := 1) (Nat.le_of_ble_eq_true rfl) rfl (t_plainly (647751 : Int) (sv_sts (sv_sts (sv_sts (sv_sts (sv_sts S [68, 69, 70, 81, 82, 83, 84, 85, 86, 71, 74, 75, 1127, 78, 79, 80, 72, 76, 77, 1143, 1144, 5, 1011, 1150, 1149, 1145, 1113, 1111, 1112, 91, 1147, 1100031] g191) [68, 69, 70, 81, 82, 83, 84, 85, 86, 71, 74, 75, 1127, 78, 79, 80, 72, 76, 77, 1143, 1144, 5, 1011, 1150, 1149, 1145, 1113, 1111, 1112, 1100031] g199) [68, 69, 70, 81, 82, 83, 84, 85, 86, 71, 74, 75, 1127, 78, 79, 80, 72, 76, 77, 1143, 1144, 5, 1011, 1150, 1149, 1145, 1113, 1111, 1112, 91, 1147, 1100031] g246) [68, 69, 70, 81, 82, 83, 84, 85, 86, 76, 77] g254) [68, 69, 70] g264) ok265 (⟨by decide, by decide⟩ : sv_R (647751 : Int)) o291) (fun v S1 hq => ?_)
          obtain ⟨r296, rfl, hr296, ok293, md294, hpo295⟩ := hq
          obtain rfl : (sv_sts (sv_sts (sv_sts (sv_sts (sv_sts S [68, 69, 70, 81, 82, 83, 84, 85, 86, 71, 74, 75, 1127, 78, 79, 80, 72, 76, 77, 1143, 1144, 5, 1011, 1150, 1149, 1145, 1113, 1111, 1112, 91, 1147, 1100031] g191) [68, 69, 70, 81, 82, 83, 84, 85, 86, 71, 74, 75, 1127, 78, 79, 80, 72, 76, 77, 1143, 1144, 5, 1011, 1150, 1149, 1145, 1113, 1111, 1112, 1100031] g199) [68, 69, 70, 81, 82, 83, 84, 85, 86, 71, 74, 75, 1127, 78, 79, 80, 72, 76, 77, 1143, 1144, 5, 1011, 1150, 1149, 1145, 1113, 1111, 1112, 91, 1147, 1100031] g246) [68, 69, 70, 81, 82, 83, 84, 85, 86, 76, 77] g254) [68, 69, 70] g264) = S1 := (funext fun j => md294 j (by intro q; cases q)).symm
          show sv_T sm_XS sm_cs sm_L sm_sh 6 (q_codeWays p1 p2 p4 p6 p7 p8 p9 p10 S) 284 137 [(0, .ref 0), (1, sv_I p1), (2, sv_L p2), (4, sv_L p4), (6, sv_I p6), (7, sv_I p7), (8, sv_I p8), (9, sv_I p9), (10, sv_I p10), (11, sv_I x2), (12, sv_I r10), (13, sv_I r17), (14, sv_I x205), (15, sv_I (647751 : Int))] [sv_I r296] (sv_sts (sv_sts (sv_sts (sv_sts (sv_sts S [68, 69, 70, 81, 82, 83, 84, 85, 86, 71, 74, 75, 1127, 78, 79, 80, 72, 76, 77, 1143, 1144, 5, 1011, 1150, 1149, 1145, 1113, 1111, 1112, 91, 1147, 1100031] g191) [68, 69, 70, 81, 82, 83, 84, 85, 86, 71, 74, 75, 1127, 78, 79, 80, 72, 76, 77, 1143, 1144, 5, 1011, 1150, 1149, 1145, 1113, 1111, 1112, 1100031] g199) [68, 69, 70, 81, 82, 83, 84, 85, 86, 71, 74, 75, 1127, 78, 79, 80, 72, 76, 77, 1143, 1144, 5, 1011, 1150, 1149, 1145, 1113, 1111, 1112, 91, 1147, 1100031] g246) [68, 69, 70, 81, 82, 83, 84, 85, 86, 76, 77] g254) [68, 69, 70] g264)
          have h := h r296 hr296 hpo295
          refine sv_cond_eq hM dX12_codeWays_137 hr296 (t := 166) rfl rfl (fun hc => ?_) (fun hc => ?_)
          · have h := h.1 (hc)
            refine sv_iload hM dX12_codeWays_166 rfl rfl ?_
            refine sv_iconst (d := (-1 : Int)) hM dX12_codeWays_168 rfl rfl ?_
            refine sv_icmp_eq hM dX12_codeWays_169 hp10 (⟨by decide, by decide⟩ : sv_R (-1 : Int)) (t := 181) rfl rfl (fun hc => ?_) (fun hc => ?_)
            · have h := h.1 (hc)
              refine sv_aload_n hM dX12_codeWays_181 rfl rfl ?_
              refine sv_iload hM dX12_codeWays_182 rfl rfl ?_
              refine sv_iload hM dX12_codeWays_184 rfl rfl ?_
              obtain ⟨o297, h⟩ := h
              refine sv_callV hM dX12_codeWays_186 sm_iv_1258 (by decide) (sm_a0 _) rfl rfl (Nat.le_of_ble_eq_true rfl) sm_h267 (Nat.le_of_ble_eq_true rfl) (Nat.le_of_ble_eq_true rfl) (F' := 5) (Nat.le_of_ble_eq_true rfl) rfl (t_replace p9 (647751 : Int) (sv_sts (sv_sts (sv_sts (sv_sts (sv_sts S [68, 69, 70, 81, 82, 83, 84, 85, 86, 71, 74, 75, 1127, 78, 79, 80, 72, 76, 77, 1143, 1144, 5, 1011, 1150, 1149, 1145, 1113, 1111, 1112, 91, 1147, 1100031] g191) [68, 69, 70, 81, 82, 83, 84, 85, 86, 71, 74, 75, 1127, 78, 79, 80, 72, 76, 77, 1143, 1144, 5, 1011, 1150, 1149, 1145, 1113, 1111, 1112, 1100031] g199) [68, 69, 70, 81, 82, 83, 84, 85, 86, 71, 74, 75, 1127, 78, 79, 80, 72, 76, 77, 1143, 1144, 5, 1011, 1150, 1149, 1145, 1113, 1111, 1112, 91, 1147, 1100031] g246) [68, 69, 70, 81, 82, 83, 84, 85, 86, 76, 77] g254) [68, 69, 70] g264) ok293 hp9 (⟨by decide, by decide⟩ : sv_R (647751 : Int)) o297) (fun v S1 hq => ?_)
              obtain ⟨rfl, ok299, md300, hpo301⟩ := hq
              obtain ⟨g298, rfl⟩ : ∃ g, S1 = sv_sts (sv_sts (sv_sts (sv_sts (sv_sts (sv_sts S [68, 69, 70, 81, 82, 83, 84, 85, 86, 71, 74, 75, 1127, 78, 79, 80, 72, 76, 77, 1143, 1144, 5, 1011, 1150, 1149, 1145, 1113, 1111, 1112, 91, 1147, 1100031] g191) [68, 69, 70, 81, 82, 83, 84, 85, 86, 71, 74, 75, 1127, 78, 79, 80, 72, 76, 77, 1143, 1144, 5, 1011, 1150, 1149, 1145, 1113, 1111, 1112, 1100031] g199) [68, 69, 70, 81, 82, 83, 84, 85, 86, 71, 74, 75, 1127, 78, 79, 80, 72, 76, 77, 1143, 1144, 5, 1011, 1150, 1149, 1145, 1113, 1111, 1112, 91, 1147, 1100031] g246) [68, 69, 70, 81, 82, 83, 84, 85, 86, 76, 77] g254) [68, 69, 70] g264) [68, 69, 70, 81, 82, 83, 84, 85, 86, 71, 74, 75, 1127, 78, 79, 80, 72, 76, 77, 1150] g := ⟨_, md300.eq⟩
              show sv_T sm_XS sm_cs sm_L sm_sh 6 (q_codeWays p1 p2 p4 p6 p7 p8 p9 p10 S) 284 189 [(0, .ref 0), (1, sv_I p1), (2, sv_L p2), (4, sv_L p4), (6, sv_I p6), (7, sv_I p7), (8, sv_I p8), (9, sv_I p9), (10, sv_I p10), (11, sv_I x2), (12, sv_I r10), (13, sv_I r17), (14, sv_I x205), (15, sv_I (647751 : Int))] [] (sv_sts (sv_sts (sv_sts (sv_sts (sv_sts (sv_sts S [68, 69, 70, 81, 82, 83, 84, 85, 86, 71, 74, 75, 1127, 78, 79, 80, 72, 76, 77, 1143, 1144, 5, 1011, 1150, 1149, 1145, 1113, 1111, 1112, 91, 1147, 1100031] g191) [68, 69, 70, 81, 82, 83, 84, 85, 86, 71, 74, 75, 1127, 78, 79, 80, 72, 76, 77, 1143, 1144, 5, 1011, 1150, 1149, 1145, 1113, 1111, 1112, 1100031] g199) [68, 69, 70, 81, 82, 83, 84, 85, 86, 71, 74, 75, 1127, 78, 79, 80, 72, 76, 77, 1143, 1144, 5, 1011, 1150, 1149, 1145, 1113, 1111, 1112, 91, 1147, 1100031] g246) [68, 69, 70, 81, 82, 83, 84, 85, 86, 76, 77] g254) [68, 69, 70] g264) [68, 69, 70, 81, 82, 83, 84, 85, 86, 71, 74, 75, 1127, 78, 79, 80, 72, 76, 77, 1150] g298)
              have md302 : sv_mod [68, 69, 70, 81, 82, 83, 84, 85, 86, 71, 74, 75, 1127, 78, 79, 80, 72, 76, 77, 1143, 1144, 5, 1011, 1150, 1149, 1145, 1113, 1111, 1112, 91, 1147, 1100031] S (sv_sts (sv_sts (sv_sts (sv_sts (sv_sts (sv_sts S [68, 69, 70, 81, 82, 83, 84, 85, 86, 71, 74, 75, 1127, 78, 79, 80, 72, 76, 77, 1143, 1144, 5, 1011, 1150, 1149, 1145, 1113, 1111, 1112, 91, 1147, 1100031] g191) [68, 69, 70, 81, 82, 83, 84, 85, 86, 71, 74, 75, 1127, 78, 79, 80, 72, 76, 77, 1143, 1144, 5, 1011, 1150, 1149, 1145, 1113, 1111, 1112, 1100031] g199) [68, 69, 70, 81, 82, 83, 84, 85, 86, 71, 74, 75, 1127, 78, 79, 80, 72, 76, 77, 1143, 1144, 5, 1011, 1150, 1149, 1145, 1113, 1111, 1112, 91, 1147, 1100031] g246) [68, 69, 70, 81, 82, 83, 84, 85, 86, 76, 77] g254) [68, 69, 70] g264) [68, 69, 70, 81, 82, 83, 84, 85, 86, 71, 74, 75, 1127, 78, 79, 80, 72, 76, 77, 1150] g298) := sv_mod.sts md268 (by decide)
              have md303 : sv_mod [68, 69, 70, 81, 82, 83, 84, 85, 86, 71, 74, 75, 1127, 78, 79, 80, 72, 76, 77, 1143, 1144, 5, 1011, 1150, 1149, 1145, 1113, 1111, 1112, 91, 1147, 1100031] (sv_sts (sv_sts S [68, 69, 70, 81, 82, 83, 84, 85, 86, 71, 74, 75, 1127, 78, 79, 80, 72, 76, 77, 1143, 1144, 5, 1011, 1150, 1149, 1145, 1113, 1111, 1112, 91, 1147, 1100031] g191) [68, 69, 70, 81, 82, 83, 84, 85, 86, 71, 74, 75, 1127, 78, 79, 80, 72, 76, 77, 1143, 1144, 5, 1011, 1150, 1149, 1145, 1113, 1111, 1112, 1100031] g199) (sv_sts (sv_sts (sv_sts (sv_sts (sv_sts (sv_sts S [68, 69, 70, 81, 82, 83, 84, 85, 86, 71, 74, 75, 1127, 78, 79, 80, 72, 76, 77, 1143, 1144, 5, 1011, 1150, 1149, 1145, 1113, 1111, 1112, 91, 1147, 1100031] g191) [68, 69, 70, 81, 82, 83, 84, 85, 86, 71, 74, 75, 1127, 78, 79, 80, 72, 76, 77, 1143, 1144, 5, 1011, 1150, 1149, 1145, 1113, 1111, 1112, 1100031] g199) [68, 69, 70, 81, 82, 83, 84, 85, 86, 71, 74, 75, 1127, 78, 79, 80, 72, 76, 77, 1143, 1144, 5, 1011, 1150, 1149, 1145, 1113, 1111, 1112, 91, 1147, 1100031] g246) [68, 69, 70, 81, 82, 83, 84, 85, 86, 76, 77] g254) [68, 69, 70] g264) [68, 69, 70, 81, 82, 83, 84, 85, 86, 71, 74, 75, 1127, 78, 79, 80, 72, 76, 77, 1150] g298) := sv_mod.sts md269 (by decide)
              have h := h g298 hpo301
              have eS := sv_mod.eq md303
              have hb := J242 (sv_sts (sv_sts (sv_sts (sv_sts (sv_sts (sv_sts S [68, 69, 70, 81, 82, 83, 84, 85, 86, 71, 74, 75, 1127, 78, 79, 80, 72, 76, 77, 1143, 1144, 5, 1011, 1150, 1149, 1145, 1113, 1111, 1112, 91, 1147, 1100031] g191) [68, 69, 70, 81, 82, 83, 84, 85, 86, 71, 74, 75, 1127, 78, 79, 80, 72, 76, 77, 1143, 1144, 5, 1011, 1150, 1149, 1145, 1113, 1111, 1112, 1100031] g199) [68, 69, 70, 81, 82, 83, 84, 85, 86, 71, 74, 75, 1127, 78, 79, 80, 72, 76, 77, 1143, 1144, 5, 1011, 1150, 1149, 1145, 1113, 1111, 1112, 91, 1147, 1100031] g246) [68, 69, 70, 81, 82, 83, 84, 85, 86, 76, 77] g254) [68, 69, 70] g264) [68, 69, 70, 81, 82, 83, 84, 85, 86, 71, 74, 75, 1127, 78, 79, 80, 72, 76, 77, 1150] g298) (by rw [← eS]; exact ok299) h
              have hb : sv_T sm_XS sm_cs sm_L sm_sh 6 (q_codeWays p1 p2 p4 p6 p7 p8 p9 p10 S) 284 189 [(0, .ref 0), (1, sv_I p1), (2, sv_L p2), (4, sv_L p4), (6, sv_I p6), (7, sv_I p7), (8, sv_I p8), (9, sv_I p9), (10, sv_I p10), (11, sv_I x2), (12, sv_I r10), (13, sv_I r17), (14, sv_I x205)] [] (sv_sts (sv_sts (sv_sts (sv_sts (sv_sts (sv_sts S [68, 69, 70, 81, 82, 83, 84, 85, 86, 71, 74, 75, 1127, 78, 79, 80, 72, 76, 77, 1143, 1144, 5, 1011, 1150, 1149, 1145, 1113, 1111, 1112, 91, 1147, 1100031] g191) [68, 69, 70, 81, 82, 83, 84, 85, 86, 71, 74, 75, 1127, 78, 79, 80, 72, 76, 77, 1143, 1144, 5, 1011, 1150, 1149, 1145, 1113, 1111, 1112, 1100031] g199) [68, 69, 70, 81, 82, 83, 84, 85, 86, 71, 74, 75, 1127, 78, 79, 80, 72, 76, 77, 1143, 1144, 5, 1011, 1150, 1149, 1145, 1113, 1111, 1112, 91, 1147, 1100031] g246) [68, 69, 70, 81, 82, 83, 84, 85, 86, 76, 77] g254) [68, 69, 70] g264) [68, 69, 70, 81, 82, 83, 84, 85, 86, 71, 74, 75, 1127, 78, 79, 80, 72, 76, 77, 1150] g298) := Eq.mpr (congrArg (fun Z => sv_T sm_XS sm_cs sm_L sm_sh 6 (q_codeWays p1 p2 p4 p6 p7 p8 p9 p10 S) 284 189 [(0, .ref 0), (1, sv_I p1), (2, sv_L p2), (4, sv_L p4), (6, sv_I p6), (7, sv_I p7), (8, sv_I p8), (9, sv_I p9), (10, sv_I p10), (11, sv_I x2), (12, sv_I r10), (13, sv_I r17), (14, sv_I x205)] [] Z) eS) hb
              exact sv_less (lv := [(0, .ref 0), (1, sv_I p1), (2, sv_L p2), (4, sv_L p4), (6, sv_I p6), (7, sv_I p7), (8, sv_I p8), (9, sv_I p9), (10, sv_I p10), (11, sv_I x2), (12, sv_I r10), (13, sv_I r17), (14, sv_I x205)]) (sv_Sub_cons rfl (sv_Sub_cons rfl (sv_Sub_cons rfl (sv_Sub_cons rfl (sv_Sub_cons rfl (sv_Sub_cons rfl (sv_Sub_cons rfl (sv_Sub_cons rfl (sv_Sub_cons rfl (sv_Sub_cons rfl (sv_Sub_cons rfl (sv_Sub_cons rfl (sv_Sub_cons rfl sv_Sub_nil))))))))))))) hb
            · have h := h.2 (hc)
              refine sv_aload_n hM dX12_codeWays_172 rfl rfl ?_
              refine sv_iload hM dX12_codeWays_173 rfl rfl ?_
              refine sv_iconst (d := (0 : Int)) hM dX12_codeWays_175 rfl rfl ?_
              refine sv_iconst (d := (0 : Int)) hM dX12_codeWays_176 rfl rfl ?_
              refine sv_iconst (d := (0 : Int)) hM dX12_codeWays_177 rfl rfl ?_
              refine sv_callV hM dX12_codeWays_178 sm_iv_1056 (by decide) (sm_a0 _) rfl rfl (Nat.le_of_ble_eq_true rfl) sm_h205 (Nat.le_of_ble_eq_true rfl) (Nat.le_of_ble_eq_true rfl) (F' := 0) (Nat.le_of_ble_eq_true rfl) rfl (t_write (647751 : Int) (0 : Int) (0 : Int) (0 : Int) (sv_sts (sv_sts (sv_sts (sv_sts (sv_sts S [68, 69, 70, 81, 82, 83, 84, 85, 86, 71, 74, 75, 1127, 78, 79, 80, 72, 76, 77, 1143, 1144, 5, 1011, 1150, 1149, 1145, 1113, 1111, 1112, 91, 1147, 1100031] g191) [68, 69, 70, 81, 82, 83, 84, 85, 86, 71, 74, 75, 1127, 78, 79, 80, 72, 76, 77, 1143, 1144, 5, 1011, 1150, 1149, 1145, 1113, 1111, 1112, 1100031] g199) [68, 69, 70, 81, 82, 83, 84, 85, 86, 71, 74, 75, 1127, 78, 79, 80, 72, 76, 77, 1143, 1144, 5, 1011, 1150, 1149, 1145, 1113, 1111, 1112, 91, 1147, 1100031] g246) [68, 69, 70, 81, 82, 83, 84, 85, 86, 76, 77] g254) [68, 69, 70] g264) ok293 (⟨by decide, by decide⟩ : sv_R (647751 : Int)) (⟨by decide, by decide⟩ : sv_R (0 : Int)) (⟨by decide, by decide⟩ : sv_R (0 : Int)) (⟨by decide, by decide⟩ : sv_R (0 : Int)) o291) (fun v S1 hq => ?_)
              obtain ⟨rfl, ok305, md306, hpo307⟩ := hq
              obtain ⟨g304, rfl⟩ : ∃ g, S1 = sv_sts (sv_sts (sv_sts (sv_sts (sv_sts (sv_sts S [68, 69, 70, 81, 82, 83, 84, 85, 86, 71, 74, 75, 1127, 78, 79, 80, 72, 76, 77, 1143, 1144, 5, 1011, 1150, 1149, 1145, 1113, 1111, 1112, 91, 1147, 1100031] g191) [68, 69, 70, 81, 82, 83, 84, 85, 86, 71, 74, 75, 1127, 78, 79, 80, 72, 76, 77, 1143, 1144, 5, 1011, 1150, 1149, 1145, 1113, 1111, 1112, 1100031] g199) [68, 69, 70, 81, 82, 83, 84, 85, 86, 71, 74, 75, 1127, 78, 79, 80, 72, 76, 77, 1143, 1144, 5, 1011, 1150, 1149, 1145, 1113, 1111, 1112, 91, 1147, 1100031] g246) [68, 69, 70, 81, 82, 83, 84, 85, 86, 76, 77] g254) [68, 69, 70] g264) [68] g := ⟨_, md306.eq⟩
              show sv_T sm_XS sm_cs sm_L sm_sh 6 (q_codeWays p1 p2 p4 p6 p7 p8 p9 p10 S) 284 181 [(0, .ref 0), (1, sv_I p1), (2, sv_L p2), (4, sv_L p4), (6, sv_I p6), (7, sv_I p7), (8, sv_I p8), (9, sv_I p9), (10, sv_I p10), (11, sv_I x2), (12, sv_I r10), (13, sv_I r17), (14, sv_I x205), (15, sv_I (647751 : Int))] [] (sv_sts (sv_sts (sv_sts (sv_sts (sv_sts (sv_sts S [68, 69, 70, 81, 82, 83, 84, 85, 86, 71, 74, 75, 1127, 78, 79, 80, 72, 76, 77, 1143, 1144, 5, 1011, 1150, 1149, 1145, 1113, 1111, 1112, 91, 1147, 1100031] g191) [68, 69, 70, 81, 82, 83, 84, 85, 86, 71, 74, 75, 1127, 78, 79, 80, 72, 76, 77, 1143, 1144, 5, 1011, 1150, 1149, 1145, 1113, 1111, 1112, 1100031] g199) [68, 69, 70, 81, 82, 83, 84, 85, 86, 71, 74, 75, 1127, 78, 79, 80, 72, 76, 77, 1143, 1144, 5, 1011, 1150, 1149, 1145, 1113, 1111, 1112, 91, 1147, 1100031] g246) [68, 69, 70, 81, 82, 83, 84, 85, 86, 76, 77] g254) [68, 69, 70] g264) [68] g304)
              have md308 : sv_mod [68, 69, 70, 81, 82, 83, 84, 85, 86, 71, 74, 75, 1127, 78, 79, 80, 72, 76, 77, 1143, 1144, 5, 1011, 1150, 1149, 1145, 1113, 1111, 1112, 91, 1147, 1100031] S (sv_sts (sv_sts (sv_sts (sv_sts (sv_sts (sv_sts S [68, 69, 70, 81, 82, 83, 84, 85, 86, 71, 74, 75, 1127, 78, 79, 80, 72, 76, 77, 1143, 1144, 5, 1011, 1150, 1149, 1145, 1113, 1111, 1112, 91, 1147, 1100031] g191) [68, 69, 70, 81, 82, 83, 84, 85, 86, 71, 74, 75, 1127, 78, 79, 80, 72, 76, 77, 1143, 1144, 5, 1011, 1150, 1149, 1145, 1113, 1111, 1112, 1100031] g199) [68, 69, 70, 81, 82, 83, 84, 85, 86, 71, 74, 75, 1127, 78, 79, 80, 72, 76, 77, 1143, 1144, 5, 1011, 1150, 1149, 1145, 1113, 1111, 1112, 91, 1147, 1100031] g246) [68, 69, 70, 81, 82, 83, 84, 85, 86, 76, 77] g254) [68, 69, 70] g264) [68] g304) := sv_mod.sts md268 (by decide)
              have md309 : sv_mod [68, 69, 70, 81, 82, 83, 84, 85, 86, 71, 74, 75, 1127, 78, 79, 80, 72, 76, 77, 1143, 1144, 5, 1011, 1150, 1149, 1145, 1113, 1111, 1112, 91, 1147, 1100031] (sv_sts (sv_sts S [68, 69, 70, 81, 82, 83, 84, 85, 86, 71, 74, 75, 1127, 78, 79, 80, 72, 76, 77, 1143, 1144, 5, 1011, 1150, 1149, 1145, 1113, 1111, 1112, 91, 1147, 1100031] g191) [68, 69, 70, 81, 82, 83, 84, 85, 86, 71, 74, 75, 1127, 78, 79, 80, 72, 76, 77, 1143, 1144, 5, 1011, 1150, 1149, 1145, 1113, 1111, 1112, 1100031] g199) (sv_sts (sv_sts (sv_sts (sv_sts (sv_sts (sv_sts S [68, 69, 70, 81, 82, 83, 84, 85, 86, 71, 74, 75, 1127, 78, 79, 80, 72, 76, 77, 1143, 1144, 5, 1011, 1150, 1149, 1145, 1113, 1111, 1112, 91, 1147, 1100031] g191) [68, 69, 70, 81, 82, 83, 84, 85, 86, 71, 74, 75, 1127, 78, 79, 80, 72, 76, 77, 1143, 1144, 5, 1011, 1150, 1149, 1145, 1113, 1111, 1112, 1100031] g199) [68, 69, 70, 81, 82, 83, 84, 85, 86, 71, 74, 75, 1127, 78, 79, 80, 72, 76, 77, 1143, 1144, 5, 1011, 1150, 1149, 1145, 1113, 1111, 1112, 91, 1147, 1100031] g246) [68, 69, 70, 81, 82, 83, 84, 85, 86, 76, 77] g254) [68, 69, 70] g264) [68] g304) := sv_mod.sts md269 (by decide)
              have h := h g304 hpo307
              refine sv_aload_n hM dX12_codeWays_181 rfl rfl ?_
              refine sv_iload hM dX12_codeWays_182 rfl rfl ?_
              refine sv_iload hM dX12_codeWays_184 rfl rfl ?_
              obtain ⟨o310, h⟩ := h
              refine sv_callV hM dX12_codeWays_186 sm_iv_1258 (by decide) (sm_a0 _) rfl rfl (Nat.le_of_ble_eq_true rfl) sm_h267 (Nat.le_of_ble_eq_true rfl) (Nat.le_of_ble_eq_true rfl) (F' := 5) (Nat.le_of_ble_eq_true rfl) rfl (t_replace p9 (647751 : Int) (sv_sts (sv_sts (sv_sts (sv_sts (sv_sts (sv_sts S [68, 69, 70, 81, 82, 83, 84, 85, 86, 71, 74, 75, 1127, 78, 79, 80, 72, 76, 77, 1143, 1144, 5, 1011, 1150, 1149, 1145, 1113, 1111, 1112, 91, 1147, 1100031] g191) [68, 69, 70, 81, 82, 83, 84, 85, 86, 71, 74, 75, 1127, 78, 79, 80, 72, 76, 77, 1143, 1144, 5, 1011, 1150, 1149, 1145, 1113, 1111, 1112, 1100031] g199) [68, 69, 70, 81, 82, 83, 84, 85, 86, 71, 74, 75, 1127, 78, 79, 80, 72, 76, 77, 1143, 1144, 5, 1011, 1150, 1149, 1145, 1113, 1111, 1112, 91, 1147, 1100031] g246) [68, 69, 70, 81, 82, 83, 84, 85, 86, 76, 77] g254) [68, 69, 70] g264) [68] g304) ok305 hp9 (⟨by decide, by decide⟩ : sv_R (647751 : Int)) o310) (fun v S1 hq => ?_)
              obtain ⟨rfl, ok312, md313, hpo314⟩ := hq
              obtain ⟨g311, rfl⟩ : ∃ g, S1 = sv_sts (sv_sts (sv_sts (sv_sts (sv_sts (sv_sts (sv_sts S [68, 69, 70, 81, 82, 83, 84, 85, 86, 71, 74, 75, 1127, 78, 79, 80, 72, 76, 77, 1143, 1144, 5, 1011, 1150, 1149, 1145, 1113, 1111, 1112, 91, 1147, 1100031] g191) [68, 69, 70, 81, 82, 83, 84, 85, 86, 71, 74, 75, 1127, 78, 79, 80, 72, 76, 77, 1143, 1144, 5, 1011, 1150, 1149, 1145, 1113, 1111, 1112, 1100031] g199) [68, 69, 70, 81, 82, 83, 84, 85, 86, 71, 74, 75, 1127, 78, 79, 80, 72, 76, 77, 1143, 1144, 5, 1011, 1150, 1149, 1145, 1113, 1111, 1112, 91, 1147, 1100031] g246) [68, 69, 70, 81, 82, 83, 84, 85, 86, 76, 77] g254) [68, 69, 70] g264) [68] g304) [68, 69, 70, 81, 82, 83, 84, 85, 86, 71, 74, 75, 1127, 78, 79, 80, 72, 76, 77, 1150] g := ⟨_, md313.eq⟩
              show sv_T sm_XS sm_cs sm_L sm_sh 6 (q_codeWays p1 p2 p4 p6 p7 p8 p9 p10 S) 284 189 [(0, .ref 0), (1, sv_I p1), (2, sv_L p2), (4, sv_L p4), (6, sv_I p6), (7, sv_I p7), (8, sv_I p8), (9, sv_I p9), (10, sv_I p10), (11, sv_I x2), (12, sv_I r10), (13, sv_I r17), (14, sv_I x205), (15, sv_I (647751 : Int))] [] (sv_sts (sv_sts (sv_sts (sv_sts (sv_sts (sv_sts (sv_sts S [68, 69, 70, 81, 82, 83, 84, 85, 86, 71, 74, 75, 1127, 78, 79, 80, 72, 76, 77, 1143, 1144, 5, 1011, 1150, 1149, 1145, 1113, 1111, 1112, 91, 1147, 1100031] g191) [68, 69, 70, 81, 82, 83, 84, 85, 86, 71, 74, 75, 1127, 78, 79, 80, 72, 76, 77, 1143, 1144, 5, 1011, 1150, 1149, 1145, 1113, 1111, 1112, 1100031] g199) [68, 69, 70, 81, 82, 83, 84, 85, 86, 71, 74, 75, 1127, 78, 79, 80, 72, 76, 77, 1143, 1144, 5, 1011, 1150, 1149, 1145, 1113, 1111, 1112, 91, 1147, 1100031] g246) [68, 69, 70, 81, 82, 83, 84, 85, 86, 76, 77] g254) [68, 69, 70] g264) [68] g304) [68, 69, 70, 81, 82, 83, 84, 85, 86, 71, 74, 75, 1127, 78, 79, 80, 72, 76, 77, 1150] g311)
              have md315 : sv_mod [68, 69, 70, 81, 82, 83, 84, 85, 86, 71, 74, 75, 1127, 78, 79, 80, 72, 76, 77, 1143, 1144, 5, 1011, 1150, 1149, 1145, 1113, 1111, 1112, 91, 1147, 1100031] S (sv_sts (sv_sts (sv_sts (sv_sts (sv_sts (sv_sts (sv_sts S [68, 69, 70, 81, 82, 83, 84, 85, 86, 71, 74, 75, 1127, 78, 79, 80, 72, 76, 77, 1143, 1144, 5, 1011, 1150, 1149, 1145, 1113, 1111, 1112, 91, 1147, 1100031] g191) [68, 69, 70, 81, 82, 83, 84, 85, 86, 71, 74, 75, 1127, 78, 79, 80, 72, 76, 77, 1143, 1144, 5, 1011, 1150, 1149, 1145, 1113, 1111, 1112, 1100031] g199) [68, 69, 70, 81, 82, 83, 84, 85, 86, 71, 74, 75, 1127, 78, 79, 80, 72, 76, 77, 1143, 1144, 5, 1011, 1150, 1149, 1145, 1113, 1111, 1112, 91, 1147, 1100031] g246) [68, 69, 70, 81, 82, 83, 84, 85, 86, 76, 77] g254) [68, 69, 70] g264) [68] g304) [68, 69, 70, 81, 82, 83, 84, 85, 86, 71, 74, 75, 1127, 78, 79, 80, 72, 76, 77, 1150] g311) := sv_mod.sts md308 (by decide)
              have md316 : sv_mod [68, 69, 70, 81, 82, 83, 84, 85, 86, 71, 74, 75, 1127, 78, 79, 80, 72, 76, 77, 1143, 1144, 5, 1011, 1150, 1149, 1145, 1113, 1111, 1112, 91, 1147, 1100031] (sv_sts (sv_sts S [68, 69, 70, 81, 82, 83, 84, 85, 86, 71, 74, 75, 1127, 78, 79, 80, 72, 76, 77, 1143, 1144, 5, 1011, 1150, 1149, 1145, 1113, 1111, 1112, 91, 1147, 1100031] g191) [68, 69, 70, 81, 82, 83, 84, 85, 86, 71, 74, 75, 1127, 78, 79, 80, 72, 76, 77, 1143, 1144, 5, 1011, 1150, 1149, 1145, 1113, 1111, 1112, 1100031] g199) (sv_sts (sv_sts (sv_sts (sv_sts (sv_sts (sv_sts (sv_sts S [68, 69, 70, 81, 82, 83, 84, 85, 86, 71, 74, 75, 1127, 78, 79, 80, 72, 76, 77, 1143, 1144, 5, 1011, 1150, 1149, 1145, 1113, 1111, 1112, 91, 1147, 1100031] g191) [68, 69, 70, 81, 82, 83, 84, 85, 86, 71, 74, 75, 1127, 78, 79, 80, 72, 76, 77, 1143, 1144, 5, 1011, 1150, 1149, 1145, 1113, 1111, 1112, 1100031] g199) [68, 69, 70, 81, 82, 83, 84, 85, 86, 71, 74, 75, 1127, 78, 79, 80, 72, 76, 77, 1143, 1144, 5, 1011, 1150, 1149, 1145, 1113, 1111, 1112, 91, 1147, 1100031] g246) [68, 69, 70, 81, 82, 83, 84, 85, 86, 76, 77] g254) [68, 69, 70] g264) [68] g304) [68, 69, 70, 81, 82, 83, 84, 85, 86, 71, 74, 75, 1127, 78, 79, 80, 72, 76, 77, 1150] g311) := sv_mod.sts md309 (by decide)
              have h := h g311 hpo314
              have eS := sv_mod.eq md316
              have hb := J242 (sv_sts (sv_sts (sv_sts (sv_sts (sv_sts (sv_sts (sv_sts S [68, 69, 70, 81, 82, 83, 84, 85, 86, 71, 74, 75, 1127, 78, 79, 80, 72, 76, 77, 1143, 1144, 5, 1011, 1150, 1149, 1145, 1113, 1111, 1112, 91, 1147, 1100031] g191) [68, 69, 70, 81, 82, 83, 84, 85, 86, 71, 74, 75, 1127, 78, 79, 80, 72, 76, 77, 1143, 1144, 5, 1011, 1150, 1149, 1145, 1113, 1111, 1112, 1100031] g199) [68, 69, 70, 81, 82, 83, 84, 85, 86, 71, 74, 75, 1127, 78, 79, 80, 72, 76, 77, 1143, 1144, 5, 1011, 1150, 1149, 1145, 1113, 1111, 1112, 91, 1147, 1100031] g246) [68, 69, 70, 81, 82, 83, 84, 85, 86, 76, 77] g254) [68, 69, 70] g264) [68] g304) [68, 69, 70, 81, 82, 83, 84, 85, 86, 71, 74, 75, 1127, 78, 79, 80, 72, 76, 77, 1150] g311) (by rw [← eS]; exact ok312) h
              have hb : sv_T sm_XS sm_cs sm_L sm_sh 6 (q_codeWays p1 p2 p4 p6 p7 p8 p9 p10 S) 284 189 [(0, .ref 0), (1, sv_I p1), (2, sv_L p2), (4, sv_L p4), (6, sv_I p6), (7, sv_I p7), (8, sv_I p8), (9, sv_I p9), (10, sv_I p10), (11, sv_I x2), (12, sv_I r10), (13, sv_I r17), (14, sv_I x205)] [] (sv_sts (sv_sts (sv_sts (sv_sts (sv_sts (sv_sts (sv_sts S [68, 69, 70, 81, 82, 83, 84, 85, 86, 71, 74, 75, 1127, 78, 79, 80, 72, 76, 77, 1143, 1144, 5, 1011, 1150, 1149, 1145, 1113, 1111, 1112, 91, 1147, 1100031] g191) [68, 69, 70, 81, 82, 83, 84, 85, 86, 71, 74, 75, 1127, 78, 79, 80, 72, 76, 77, 1143, 1144, 5, 1011, 1150, 1149, 1145, 1113, 1111, 1112, 1100031] g199) [68, 69, 70, 81, 82, 83, 84, 85, 86, 71, 74, 75, 1127, 78, 79, 80, 72, 76, 77, 1143, 1144, 5, 1011, 1150, 1149, 1145, 1113, 1111, 1112, 91, 1147, 1100031] g246) [68, 69, 70, 81, 82, 83, 84, 85, 86, 76, 77] g254) [68, 69, 70] g264) [68] g304) [68, 69, 70, 81, 82, 83, 84, 85, 86, 71, 74, 75, 1127, 78, 79, 80, 72, 76, 77, 1150] g311) := Eq.mpr (congrArg (fun Z => sv_T sm_XS sm_cs sm_L sm_sh 6 (q_codeWays p1 p2 p4 p6 p7 p8 p9 p10 S) 284 189 [(0, .ref 0), (1, sv_I p1), (2, sv_L p2), (4, sv_L p4), (6, sv_I p6), (7, sv_I p7), (8, sv_I p8), (9, sv_I p9), (10, sv_I p10), (11, sv_I x2), (12, sv_I r10), (13, sv_I r17), (14, sv_I x205)] [] Z) eS) hb
              exact sv_less (lv := [(0, .ref 0), (1, sv_I p1), (2, sv_L p2), (4, sv_L p4), (6, sv_I p6), (7, sv_I p7), (8, sv_I p8), (9, sv_I p9), (10, sv_I p10), (11, sv_I x2), (12, sv_I r10), (13, sv_I r17), (14, sv_I x205)]) (sv_Sub_cons rfl (sv_Sub_cons rfl (sv_Sub_cons rfl (sv_Sub_cons rfl (sv_Sub_cons rfl (sv_Sub_cons rfl (sv_Sub_cons rfl (sv_Sub_cons rfl (sv_Sub_cons rfl (sv_Sub_cons rfl (sv_Sub_cons rfl (sv_Sub_cons rfl (sv_Sub_cons rfl sv_Sub_nil))))))))))))) hb
          · have h := h.2 (hc)
            refine sv_aload_n hM dX12_codeWays_140 rfl rfl ?_
            refine sv_iload hM dX12_codeWays_141 rfl rfl ?_
            refine sv_aload_n hM dX12_codeWays_143 rfl rfl ?_
            refine sv_iload hM dX12_codeWays_144 rfl rfl ?_
            obtain ⟨o317, h⟩ := h
            refine sv_callV hM dX12_codeWays_146 sm_iv_920 (by decide) (sm_a0 _) rfl rfl (Nat.le_of_ble_eq_true rfl) sm_h166 (Nat.le_of_ble_eq_true rfl) (Nat.le_of_ble_eq_true rfl) (F' := 0) (Nat.le_of_ble_eq_true rfl) rfl (t_siteLabel p10 (sv_sts (sv_sts (sv_sts (sv_sts (sv_sts S [68, 69, 70, 81, 82, 83, 84, 85, 86, 71, 74, 75, 1127, 78, 79, 80, 72, 76, 77, 1143, 1144, 5, 1011, 1150, 1149, 1145, 1113, 1111, 1112, 91, 1147, 1100031] g191) [68, 69, 70, 81, 82, 83, 84, 85, 86, 71, 74, 75, 1127, 78, 79, 80, 72, 76, 77, 1143, 1144, 5, 1011, 1150, 1149, 1145, 1113, 1111, 1112, 1100031] g199) [68, 69, 70, 81, 82, 83, 84, 85, 86, 71, 74, 75, 1127, 78, 79, 80, 72, 76, 77, 1143, 1144, 5, 1011, 1150, 1149, 1145, 1113, 1111, 1112, 91, 1147, 1100031] g246) [68, 69, 70, 81, 82, 83, 84, 85, 86, 76, 77] g254) [68, 69, 70] g264) ok293 hp10 o317) (fun v S1 hq => ?_)
            obtain ⟨r322, rfl, hr322, ok319, md320, hpo321⟩ := hq
            obtain rfl : (sv_sts (sv_sts (sv_sts (sv_sts (sv_sts S [68, 69, 70, 81, 82, 83, 84, 85, 86, 71, 74, 75, 1127, 78, 79, 80, 72, 76, 77, 1143, 1144, 5, 1011, 1150, 1149, 1145, 1113, 1111, 1112, 91, 1147, 1100031] g191) [68, 69, 70, 81, 82, 83, 84, 85, 86, 71, 74, 75, 1127, 78, 79, 80, 72, 76, 77, 1143, 1144, 5, 1011, 1150, 1149, 1145, 1113, 1111, 1112, 1100031] g199) [68, 69, 70, 81, 82, 83, 84, 85, 86, 71, 74, 75, 1127, 78, 79, 80, 72, 76, 77, 1143, 1144, 5, 1011, 1150, 1149, 1145, 1113, 1111, 1112, 91, 1147, 1100031] g246) [68, 69, 70, 81, 82, 83, 84, 85, 86, 76, 77] g254) [68, 69, 70] g264) = S1 := (funext fun j => md320 j (by intro q; cases q)).symm
            show sv_T sm_XS sm_cs sm_L sm_sh 6 (q_codeWays p1 p2 p4 p6 p7 p8 p9 p10 S) 284 149 [(0, .ref 0), (1, sv_I p1), (2, sv_L p2), (4, sv_L p4), (6, sv_I p6), (7, sv_I p7), (8, sv_I p8), (9, sv_I p9), (10, sv_I p10), (11, sv_I x2), (12, sv_I r10), (13, sv_I r17), (14, sv_I x205), (15, sv_I (647751 : Int))] [sv_I r322, sv_I (647751 : Int), .ref 0] (sv_sts (sv_sts (sv_sts (sv_sts (sv_sts S [68, 69, 70, 81, 82, 83, 84, 85, 86, 71, 74, 75, 1127, 78, 79, 80, 72, 76, 77, 1143, 1144, 5, 1011, 1150, 1149, 1145, 1113, 1111, 1112, 91, 1147, 1100031] g191) [68, 69, 70, 81, 82, 83, 84, 85, 86, 71, 74, 75, 1127, 78, 79, 80, 72, 76, 77, 1143, 1144, 5, 1011, 1150, 1149, 1145, 1113, 1111, 1112, 1100031] g199) [68, 69, 70, 81, 82, 83, 84, 85, 86, 71, 74, 75, 1127, 78, 79, 80, 72, 76, 77, 1143, 1144, 5, 1011, 1150, 1149, 1145, 1113, 1111, 1112, 91, 1147, 1100031] g246) [68, 69, 70, 81, 82, 83, 84, 85, 86, 76, 77] g254) [68, 69, 70] g264)
            have h := h r322 hr322 hpo321
            obtain ⟨o323, h⟩ := h
            refine sv_callV hM dX12_codeWays_149 sm_iv_1081 (by decide) (sm_a0 _) rfl rfl (Nat.le_of_ble_eq_true rfl) sm_h216 (Nat.le_of_ble_eq_true rfl) (Nat.le_of_ble_eq_true rfl) (F' := 0) (Nat.le_of_ble_eq_true rfl) rfl (t_addLabel (647751 : Int) r322 (sv_sts (sv_sts (sv_sts (sv_sts (sv_sts S [68, 69, 70, 81, 82, 83, 84, 85, 86, 71, 74, 75, 1127, 78, 79, 80, 72, 76, 77, 1143, 1144, 5, 1011, 1150, 1149, 1145, 1113, 1111, 1112, 91, 1147, 1100031] g191) [68, 69, 70, 81, 82, 83, 84, 85, 86, 71, 74, 75, 1127, 78, 79, 80, 72, 76, 77, 1143, 1144, 5, 1011, 1150, 1149, 1145, 1113, 1111, 1112, 1100031] g199) [68, 69, 70, 81, 82, 83, 84, 85, 86, 71, 74, 75, 1127, 78, 79, 80, 72, 76, 77, 1143, 1144, 5, 1011, 1150, 1149, 1145, 1113, 1111, 1112, 91, 1147, 1100031] g246) [68, 69, 70, 81, 82, 83, 84, 85, 86, 76, 77] g254) [68, 69, 70] g264) ok319 (⟨by decide, by decide⟩ : sv_R (647751 : Int)) hr322 o323) (fun v S1 hq => ?_)
            obtain ⟨rfl, ok325, md326, hpo327⟩ := hq
            obtain ⟨g324, rfl⟩ : ∃ g, S1 = sv_sts (sv_sts (sv_sts (sv_sts (sv_sts (sv_sts S [68, 69, 70, 81, 82, 83, 84, 85, 86, 71, 74, 75, 1127, 78, 79, 80, 72, 76, 77, 1143, 1144, 5, 1011, 1150, 1149, 1145, 1113, 1111, 1112, 91, 1147, 1100031] g191) [68, 69, 70, 81, 82, 83, 84, 85, 86, 71, 74, 75, 1127, 78, 79, 80, 72, 76, 77, 1143, 1144, 5, 1011, 1150, 1149, 1145, 1113, 1111, 1112, 1100031] g199) [68, 69, 70, 81, 82, 83, 84, 85, 86, 71, 74, 75, 1127, 78, 79, 80, 72, 76, 77, 1143, 1144, 5, 1011, 1150, 1149, 1145, 1113, 1111, 1112, 91, 1147, 1100031] g246) [68, 69, 70, 81, 82, 83, 84, 85, 86, 76, 77] g254) [68, 69, 70] g264) [69, 70] g := ⟨_, md326.eq⟩
            show sv_T sm_XS sm_cs sm_L sm_sh 6 (q_codeWays p1 p2 p4 p6 p7 p8 p9 p10 S) 284 152 [(0, .ref 0), (1, sv_I p1), (2, sv_L p2), (4, sv_L p4), (6, sv_I p6), (7, sv_I p7), (8, sv_I p8), (9, sv_I p9), (10, sv_I p10), (11, sv_I x2), (12, sv_I r10), (13, sv_I r17), (14, sv_I x205), (15, sv_I (647751 : Int))] [] (sv_sts (sv_sts (sv_sts (sv_sts (sv_sts (sv_sts S [68, 69, 70, 81, 82, 83, 84, 85, 86, 71, 74, 75, 1127, 78, 79, 80, 72, 76, 77, 1143, 1144, 5, 1011, 1150, 1149, 1145, 1113, 1111, 1112, 91, 1147, 1100031] g191) [68, 69, 70, 81, 82, 83, 84, 85, 86, 71, 74, 75, 1127, 78, 79, 80, 72, 76, 77, 1143, 1144, 5, 1011, 1150, 1149, 1145, 1113, 1111, 1112, 1100031] g199) [68, 69, 70, 81, 82, 83, 84, 85, 86, 71, 74, 75, 1127, 78, 79, 80, 72, 76, 77, 1143, 1144, 5, 1011, 1150, 1149, 1145, 1113, 1111, 1112, 91, 1147, 1100031] g246) [68, 69, 70, 81, 82, 83, 84, 85, 86, 76, 77] g254) [68, 69, 70] g264) [69, 70] g324)
            have md328 : sv_mod [68, 69, 70, 81, 82, 83, 84, 85, 86, 71, 74, 75, 1127, 78, 79, 80, 72, 76, 77, 1143, 1144, 5, 1011, 1150, 1149, 1145, 1113, 1111, 1112, 91, 1147, 1100031] S (sv_sts (sv_sts (sv_sts (sv_sts (sv_sts (sv_sts S [68, 69, 70, 81, 82, 83, 84, 85, 86, 71, 74, 75, 1127, 78, 79, 80, 72, 76, 77, 1143, 1144, 5, 1011, 1150, 1149, 1145, 1113, 1111, 1112, 91, 1147, 1100031] g191) [68, 69, 70, 81, 82, 83, 84, 85, 86, 71, 74, 75, 1127, 78, 79, 80, 72, 76, 77, 1143, 1144, 5, 1011, 1150, 1149, 1145, 1113, 1111, 1112, 1100031] g199) [68, 69, 70, 81, 82, 83, 84, 85, 86, 71, 74, 75, 1127, 78, 79, 80, 72, 76, 77, 1143, 1144, 5, 1011, 1150, 1149, 1145, 1113, 1111, 1112, 91, 1147, 1100031] g246) [68, 69, 70, 81, 82, 83, 84, 85, 86, 76, 77] g254) [68, 69, 70] g264) [69, 70] g324) := sv_mod.sts md268 (by decide)
            have md329 : sv_mod [68, 69, 70, 81, 82, 83, 84, 85, 86, 71, 74, 75, 1127, 78, 79, 80, 72, 76, 77, 1143, 1144, 5, 1011, 1150, 1149, 1145, 1113, 1111, 1112, 91, 1147, 1100031] (sv_sts (sv_sts S [68, 69, 70, 81, 82, 83, 84, 85, 86, 71, 74, 75, 1127, 78, 79, 80, 72, 76, 77, 1143, 1144, 5, 1011, 1150, 1149, 1145, 1113, 1111, 1112, 91, 1147, 1100031] g191) [68, 69, 70, 81, 82, 83, 84, 85, 86, 71, 74, 75, 1127, 78, 79, 80, 72, 76, 77, 1143, 1144, 5, 1011, 1150, 1149, 1145, 1113, 1111, 1112, 1100031] g199) (sv_sts (sv_sts (sv_sts (sv_sts (sv_sts (sv_sts S [68, 69, 70, 81, 82, 83, 84, 85, 86, 71, 74, 75, 1127, 78, 79, 80, 72, 76, 77, 1143, 1144, 5, 1011, 1150, 1149, 1145, 1113, 1111, 1112, 91, 1147, 1100031] g191) [68, 69, 70, 81, 82, 83, 84, 85, 86, 71, 74, 75, 1127, 78, 79, 80, 72, 76, 77, 1143, 1144, 5, 1011, 1150, 1149, 1145, 1113, 1111, 1112, 1100031] g199) [68, 69, 70, 81, 82, 83, 84, 85, 86, 71, 74, 75, 1127, 78, 79, 80, 72, 76, 77, 1143, 1144, 5, 1011, 1150, 1149, 1145, 1113, 1111, 1112, 91, 1147, 1100031] g246) [68, 69, 70, 81, 82, 83, 84, 85, 86, 76, 77] g254) [68, 69, 70] g264) [69, 70] g324) := sv_mod.sts md269 (by decide)
            have h := h g324 hpo327
            refine sv_aload_n hM dX12_codeWays_152 rfl rfl ?_
            refine sv_iload hM dX12_codeWays_153 rfl rfl ?_
            refine sv_aload_n hM dX12_codeWays_155 rfl rfl ?_
            refine sv_iload hM dX12_codeWays_156 rfl rfl ?_
            refine sv_callV hM dX12_codeWays_158 sm_iv_920 (by decide) (sm_a0 _) rfl rfl (Nat.le_of_ble_eq_true rfl) sm_h166 (Nat.le_of_ble_eq_true rfl) (Nat.le_of_ble_eq_true rfl) (F' := 0) (Nat.le_of_ble_eq_true rfl) rfl (t_siteLabel p10 (sv_sts (sv_sts (sv_sts (sv_sts (sv_sts (sv_sts S [68, 69, 70, 81, 82, 83, 84, 85, 86, 71, 74, 75, 1127, 78, 79, 80, 72, 76, 77, 1143, 1144, 5, 1011, 1150, 1149, 1145, 1113, 1111, 1112, 91, 1147, 1100031] g191) [68, 69, 70, 81, 82, 83, 84, 85, 86, 71, 74, 75, 1127, 78, 79, 80, 72, 76, 77, 1143, 1144, 5, 1011, 1150, 1149, 1145, 1113, 1111, 1112, 1100031] g199) [68, 69, 70, 81, 82, 83, 84, 85, 86, 71, 74, 75, 1127, 78, 79, 80, 72, 76, 77, 1143, 1144, 5, 1011, 1150, 1149, 1145, 1113, 1111, 1112, 91, 1147, 1100031] g246) [68, 69, 70, 81, 82, 83, 84, 85, 86, 76, 77] g254) [68, 69, 70] g264) [69, 70] g324) ok325 hp10 o317) (fun v S1 hq => ?_)
            obtain ⟨r334, rfl, hr334, ok331, md332, hpo333⟩ := hq
            obtain rfl : (sv_sts (sv_sts (sv_sts (sv_sts (sv_sts (sv_sts S [68, 69, 70, 81, 82, 83, 84, 85, 86, 71, 74, 75, 1127, 78, 79, 80, 72, 76, 77, 1143, 1144, 5, 1011, 1150, 1149, 1145, 1113, 1111, 1112, 91, 1147, 1100031] g191) [68, 69, 70, 81, 82, 83, 84, 85, 86, 71, 74, 75, 1127, 78, 79, 80, 72, 76, 77, 1143, 1144, 5, 1011, 1150, 1149, 1145, 1113, 1111, 1112, 1100031] g199) [68, 69, 70, 81, 82, 83, 84, 85, 86, 71, 74, 75, 1127, 78, 79, 80, 72, 76, 77, 1143, 1144, 5, 1011, 1150, 1149, 1145, 1113, 1111, 1112, 91, 1147, 1100031] g246) [68, 69, 70, 81, 82, 83, 84, 85, 86, 76, 77] g254) [68, 69, 70] g264) [69, 70] g324) = S1 := (funext fun j => md332 j (by intro q; cases q)).symm
            show sv_T sm_XS sm_cs sm_L sm_sh 6 (q_codeWays p1 p2 p4 p6 p7 p8 p9 p10 S) 284 161 [(0, .ref 0), (1, sv_I p1), (2, sv_L p2), (4, sv_L p4), (6, sv_I p6), (7, sv_I p7), (8, sv_I p8), (9, sv_I p9), (10, sv_I p10), (11, sv_I x2), (12, sv_I r10), (13, sv_I r17), (14, sv_I x205), (15, sv_I (647751 : Int))] [sv_I r334, sv_I (647751 : Int), .ref 0] (sv_sts (sv_sts (sv_sts (sv_sts (sv_sts (sv_sts S [68, 69, 70, 81, 82, 83, 84, 85, 86, 71, 74, 75, 1127, 78, 79, 80, 72, 76, 77, 1143, 1144, 5, 1011, 1150, 1149, 1145, 1113, 1111, 1112, 91, 1147, 1100031] g191) [68, 69, 70, 81, 82, 83, 84, 85, 86, 71, 74, 75, 1127, 78, 79, 80, 72, 76, 77, 1143, 1144, 5, 1011, 1150, 1149, 1145, 1113, 1111, 1112, 1100031] g199) [68, 69, 70, 81, 82, 83, 84, 85, 86, 71, 74, 75, 1127, 78, 79, 80, 72, 76, 77, 1143, 1144, 5, 1011, 1150, 1149, 1145, 1113, 1111, 1112, 91, 1147, 1100031] g246) [68, 69, 70, 81, 82, 83, 84, 85, 86, 76, 77] g254) [68, 69, 70] g264) [69, 70] g324)
            have h := h r334 hr334 hpo333
            refine sv_iconst (d := (1 : Int)) hM dX12_codeWays_161 rfl rfl ?_
            refine sv_iadd hM dX12_codeWays_162 rfl ?_
            obtain ⟨o335, h⟩ := h
            refine sv_callV hM dX12_codeWays_163 sm_iv_1081 (by decide) (sm_a0 _) rfl rfl (Nat.le_of_ble_eq_true rfl) sm_h216 (Nat.le_of_ble_eq_true rfl) (Nat.le_of_ble_eq_true rfl) (F' := 0) (Nat.le_of_ble_eq_true rfl) rfl (t_addLabel (647751 : Int) (r334 + (1 : Int)) (sv_sts (sv_sts (sv_sts (sv_sts (sv_sts (sv_sts S [68, 69, 70, 81, 82, 83, 84, 85, 86, 71, 74, 75, 1127, 78, 79, 80, 72, 76, 77, 1143, 1144, 5, 1011, 1150, 1149, 1145, 1113, 1111, 1112, 91, 1147, 1100031] g191) [68, 69, 70, 81, 82, 83, 84, 85, 86, 71, 74, 75, 1127, 78, 79, 80, 72, 76, 77, 1143, 1144, 5, 1011, 1150, 1149, 1145, 1113, 1111, 1112, 1100031] g199) [68, 69, 70, 81, 82, 83, 84, 85, 86, 71, 74, 75, 1127, 78, 79, 80, 72, 76, 77, 1143, 1144, 5, 1011, 1150, 1149, 1145, 1113, 1111, 1112, 91, 1147, 1100031] g246) [68, 69, 70, 81, 82, 83, 84, 85, 86, 76, 77] g254) [68, 69, 70] g264) [69, 70] g324) ok331 (⟨by decide, by decide⟩ : sv_R (647751 : Int)) o335 o323) (fun v S1 hq => ?_)
            obtain ⟨rfl, ok337, md338, hpo339⟩ := hq
            obtain ⟨g336, rfl⟩ : ∃ g, S1 = sv_sts (sv_sts (sv_sts (sv_sts (sv_sts (sv_sts (sv_sts S [68, 69, 70, 81, 82, 83, 84, 85, 86, 71, 74, 75, 1127, 78, 79, 80, 72, 76, 77, 1143, 1144, 5, 1011, 1150, 1149, 1145, 1113, 1111, 1112, 91, 1147, 1100031] g191) [68, 69, 70, 81, 82, 83, 84, 85, 86, 71, 74, 75, 1127, 78, 79, 80, 72, 76, 77, 1143, 1144, 5, 1011, 1150, 1149, 1145, 1113, 1111, 1112, 1100031] g199) [68, 69, 70, 81, 82, 83, 84, 85, 86, 71, 74, 75, 1127, 78, 79, 80, 72, 76, 77, 1143, 1144, 5, 1011, 1150, 1149, 1145, 1113, 1111, 1112, 91, 1147, 1100031] g246) [68, 69, 70, 81, 82, 83, 84, 85, 86, 76, 77] g254) [68, 69, 70] g264) [69, 70] g324) [69, 70] g := ⟨_, md338.eq⟩
            show sv_T sm_XS sm_cs sm_L sm_sh 6 (q_codeWays p1 p2 p4 p6 p7 p8 p9 p10 S) 284 166 [(0, .ref 0), (1, sv_I p1), (2, sv_L p2), (4, sv_L p4), (6, sv_I p6), (7, sv_I p7), (8, sv_I p8), (9, sv_I p9), (10, sv_I p10), (11, sv_I x2), (12, sv_I r10), (13, sv_I r17), (14, sv_I x205), (15, sv_I (647751 : Int))] [] (sv_sts (sv_sts (sv_sts (sv_sts (sv_sts (sv_sts (sv_sts S [68, 69, 70, 81, 82, 83, 84, 85, 86, 71, 74, 75, 1127, 78, 79, 80, 72, 76, 77, 1143, 1144, 5, 1011, 1150, 1149, 1145, 1113, 1111, 1112, 91, 1147, 1100031] g191) [68, 69, 70, 81, 82, 83, 84, 85, 86, 71, 74, 75, 1127, 78, 79, 80, 72, 76, 77, 1143, 1144, 5, 1011, 1150, 1149, 1145, 1113, 1111, 1112, 1100031] g199) [68, 69, 70, 81, 82, 83, 84, 85, 86, 71, 74, 75, 1127, 78, 79, 80, 72, 76, 77, 1143, 1144, 5, 1011, 1150, 1149, 1145, 1113, 1111, 1112, 91, 1147, 1100031] g246) [68, 69, 70, 81, 82, 83, 84, 85, 86, 76, 77] g254) [68, 69, 70] g264) [69, 70] g324) [69, 70] g336)
            have md340 : sv_mod [68, 69, 70, 81, 82, 83, 84, 85, 86, 71, 74, 75, 1127, 78, 79, 80, 72, 76, 77, 1143, 1144, 5, 1011, 1150, 1149, 1145, 1113, 1111, 1112, 91, 1147, 1100031] S (sv_sts (sv_sts (sv_sts (sv_sts (sv_sts (sv_sts (sv_sts S [68, 69, 70, 81, 82, 83, 84, 85, 86, 71, 74, 75, 1127, 78, 79, 80, 72, 76, 77, 1143, 1144, 5, 1011, 1150, 1149, 1145, 1113, 1111, 1112, 91, 1147, 1100031] g191) [68, 69, 70, 81, 82, 83, 84, 85, 86, 71, 74, 75, 1127, 78, 79, 80, 72, 76, 77, 1143, 1144, 5, 1011, 1150, 1149, 1145, 1113, 1111, 1112, 1100031] g199) [68, 69, 70, 81, 82, 83, 84, 85, 86, 71, 74, 75, 1127, 78, 79, 80, 72, 76, 77, 1143, 1144, 5, 1011, 1150, 1149, 1145, 1113, 1111, 1112, 91, 1147, 1100031] g246) [68, 69, 70, 81, 82, 83, 84, 85, 86, 76, 77] g254) [68, 69, 70] g264) [69, 70] g324) [69, 70] g336) := sv_mod.sts md328 (by decide)
            have md341 : sv_mod [68, 69, 70, 81, 82, 83, 84, 85, 86, 71, 74, 75, 1127, 78, 79, 80, 72, 76, 77, 1143, 1144, 5, 1011, 1150, 1149, 1145, 1113, 1111, 1112, 91, 1147, 1100031] (sv_sts (sv_sts S [68, 69, 70, 81, 82, 83, 84, 85, 86, 71, 74, 75, 1127, 78, 79, 80, 72, 76, 77, 1143, 1144, 5, 1011, 1150, 1149, 1145, 1113, 1111, 1112, 91, 1147, 1100031] g191) [68, 69, 70, 81, 82, 83, 84, 85, 86, 71, 74, 75, 1127, 78, 79, 80, 72, 76, 77, 1143, 1144, 5, 1011, 1150, 1149, 1145, 1113, 1111, 1112, 1100031] g199) (sv_sts (sv_sts (sv_sts (sv_sts (sv_sts (sv_sts (sv_sts S [68, 69, 70, 81, 82, 83, 84, 85, 86, 71, 74, 75, 1127, 78, 79, 80, 72, 76, 77, 1143, 1144, 5, 1011, 1150, 1149, 1145, 1113, 1111, 1112, 91, 1147, 1100031] g191) [68, 69, 70, 81, 82, 83, 84, 85, 86, 71, 74, 75, 1127, 78, 79, 80, 72, 76, 77, 1143, 1144, 5, 1011, 1150, 1149, 1145, 1113, 1111, 1112, 1100031] g199) [68, 69, 70, 81, 82, 83, 84, 85, 86, 71, 74, 75, 1127, 78, 79, 80, 72, 76, 77, 1143, 1144, 5, 1011, 1150, 1149, 1145, 1113, 1111, 1112, 91, 1147, 1100031] g246) [68, 69, 70, 81, 82, 83, 84, 85, 86, 76, 77] g254) [68, 69, 70] g264) [69, 70] g324) [69, 70] g336) := sv_mod.sts md329 (by decide)
            have h := h g336 hpo339
            refine sv_iload hM dX12_codeWays_166 rfl rfl ?_
            refine sv_iconst (d := (-1 : Int)) hM dX12_codeWays_168 rfl rfl ?_
            refine sv_icmp_eq hM dX12_codeWays_169 hp10 (⟨by decide, by decide⟩ : sv_R (-1 : Int)) (t := 181) rfl rfl (fun hc => ?_) (fun hc => ?_)
            · have h := h.1 (hc)
              refine sv_aload_n hM dX12_codeWays_181 rfl rfl ?_
              refine sv_iload hM dX12_codeWays_182 rfl rfl ?_
              refine sv_iload hM dX12_codeWays_184 rfl rfl ?_
              obtain ⟨o342, h⟩ := h
              refine sv_callV hM dX12_codeWays_186 sm_iv_1258 (by decide) (sm_a0 _) rfl rfl (Nat.le_of_ble_eq_true rfl) sm_h267 (Nat.le_of_ble_eq_true rfl) (Nat.le_of_ble_eq_true rfl) (F' := 5) (Nat.le_of_ble_eq_true rfl) rfl (t_replace p9 (647751 : Int) (sv_sts (sv_sts (sv_sts (sv_sts (sv_sts (sv_sts (sv_sts S [68, 69, 70, 81, 82, 83, 84, 85, 86, 71, 74, 75, 1127, 78, 79, 80, 72, 76, 77, 1143, 1144, 5, 1011, 1150, 1149, 1145, 1113, 1111, 1112, 91, 1147, 1100031] g191) [68, 69, 70, 81, 82, 83, 84, 85, 86, 71, 74, 75, 1127, 78, 79, 80, 72, 76, 77, 1143, 1144, 5, 1011, 1150, 1149, 1145, 1113, 1111, 1112, 1100031] g199) [68, 69, 70, 81, 82, 83, 84, 85, 86, 71, 74, 75, 1127, 78, 79, 80, 72, 76, 77, 1143, 1144, 5, 1011, 1150, 1149, 1145, 1113, 1111, 1112, 91, 1147, 1100031] g246) [68, 69, 70, 81, 82, 83, 84, 85, 86, 76, 77] g254) [68, 69, 70] g264) [69, 70] g324) [69, 70] g336) ok337 hp9 (⟨by decide, by decide⟩ : sv_R (647751 : Int)) o342) (fun v S1 hq => ?_)
              obtain ⟨rfl, ok344, md345, hpo346⟩ := hq
              obtain ⟨g343, rfl⟩ : ∃ g, S1 = sv_sts (sv_sts (sv_sts (sv_sts (sv_sts (sv_sts (sv_sts (sv_sts S [68, 69, 70, 81, 82, 83, 84, 85, 86, 71, 74, 75, 1127, 78, 79, 80, 72, 76, 77, 1143, 1144, 5, 1011, 1150, 1149, 1145, 1113, 1111, 1112, 91, 1147, 1100031] g191) [68, 69, 70, 81, 82, 83, 84, 85, 86, 71, 74, 75, 1127, 78, 79, 80, 72, 76, 77, 1143, 1144, 5, 1011, 1150, 1149, 1145, 1113, 1111, 1112, 1100031] g199) [68, 69, 70, 81, 82, 83, 84, 85, 86, 71, 74, 75, 1127, 78, 79, 80, 72, 76, 77, 1143, 1144, 5, 1011, 1150, 1149, 1145, 1113, 1111, 1112, 91, 1147, 1100031] g246) [68, 69, 70, 81, 82, 83, 84, 85, 86, 76, 77] g254) [68, 69, 70] g264) [69, 70] g324) [69, 70] g336) [68, 69, 70, 81, 82, 83, 84, 85, 86, 71, 74, 75, 1127, 78, 79, 80, 72, 76, 77, 1150] g := ⟨_, md345.eq⟩
              show sv_T sm_XS sm_cs sm_L sm_sh 6 (q_codeWays p1 p2 p4 p6 p7 p8 p9 p10 S) 284 189 [(0, .ref 0), (1, sv_I p1), (2, sv_L p2), (4, sv_L p4), (6, sv_I p6), (7, sv_I p7), (8, sv_I p8), (9, sv_I p9), (10, sv_I p10), (11, sv_I x2), (12, sv_I r10), (13, sv_I r17), (14, sv_I x205), (15, sv_I (647751 : Int))] [] (sv_sts (sv_sts (sv_sts (sv_sts (sv_sts (sv_sts (sv_sts (sv_sts S [68, 69, 70, 81, 82, 83, 84, 85, 86, 71, 74, 75, 1127, 78, 79, 80, 72, 76, 77, 1143, 1144, 5, 1011, 1150, 1149, 1145, 1113, 1111, 1112, 91, 1147, 1100031] g191) [68, 69, 70, 81, 82, 83, 84, 85, 86, 71, 74, 75, 1127, 78, 79, 80, 72, 76, 77, 1143, 1144, 5, 1011, 1150, 1149, 1145, 1113, 1111, 1112, 1100031] g199) [68, 69, 70, 81, 82, 83, 84, 85, 86, 71, 74, 75, 1127, 78, 79, 80, 72, 76, 77, 1143, 1144, 5, 1011, 1150, 1149, 1145, 1113, 1111, 1112, 91, 1147, 1100031] g246) [68, 69, 70, 81, 82, 83, 84, 85, 86, 76, 77] g254) [68, 69, 70] g264) [69, 70] g324) [69, 70] g336) [68, 69, 70, 81, 82, 83, 84, 85, 86, 71, 74, 75, 1127, 78, 79, 80, 72, 76, 77, 1150] g343)
              have md347 : sv_mod [68, 69, 70, 81, 82, 83, 84, 85, 86, 71, 74, 75, 1127, 78, 79, 80, 72, 76, 77, 1143, 1144, 5, 1011, 1150, 1149, 1145, 1113, 1111, 1112, 91, 1147, 1100031] S (sv_sts (sv_sts (sv_sts (sv_sts (sv_sts (sv_sts (sv_sts (sv_sts S [68, 69, 70, 81, 82, 83, 84, 85, 86, 71, 74, 75, 1127, 78, 79, 80, 72, 76, 77, 1143, 1144, 5, 1011, 1150, 1149, 1145, 1113, 1111, 1112, 91, 1147, 1100031] g191) [68, 69, 70, 81, 82, 83, 84, 85, 86, 71, 74, 75, 1127, 78, 79, 80, 72, 76, 77, 1143, 1144, 5, 1011, 1150, 1149, 1145, 1113, 1111, 1112, 1100031] g199) [68, 69, 70, 81, 82, 83, 84, 85, 86, 71, 74, 75, 1127, 78, 79, 80, 72, 76, 77, 1143, 1144, 5, 1011, 1150, 1149, 1145, 1113, 1111, 1112, 91, 1147, 1100031] g246) [68, 69, 70, 81, 82, 83, 84, 85, 86, 76, 77] g254) [68, 69, 70] g264) [69, 70] g324) [69, 70] g336) [68, 69, 70, 81, 82, 83, 84, 85, 86, 71, 74, 75, 1127, 78, 79, 80, 72, 76, 77, 1150] g343) := sv_mod.sts md340 (by decide)
              have md348 : sv_mod [68, 69, 70, 81, 82, 83, 84, 85, 86, 71, 74, 75, 1127, 78, 79, 80, 72, 76, 77, 1143, 1144, 5, 1011, 1150, 1149, 1145, 1113, 1111, 1112, 91, 1147, 1100031] (sv_sts (sv_sts S [68, 69, 70, 81, 82, 83, 84, 85, 86, 71, 74, 75, 1127, 78, 79, 80, 72, 76, 77, 1143, 1144, 5, 1011, 1150, 1149, 1145, 1113, 1111, 1112, 91, 1147, 1100031] g191) [68, 69, 70, 81, 82, 83, 84, 85, 86, 71, 74, 75, 1127, 78, 79, 80, 72, 76, 77, 1143, 1144, 5, 1011, 1150, 1149, 1145, 1113, 1111, 1112, 1100031] g199) (sv_sts (sv_sts (sv_sts (sv_sts (sv_sts (sv_sts (sv_sts (sv_sts S [68, 69, 70, 81, 82, 83, 84, 85, 86, 71, 74, 75, 1127, 78, 79, 80, 72, 76, 77, 1143, 1144, 5, 1011, 1150, 1149, 1145, 1113, 1111, 1112, 91, 1147, 1100031] g191) [68, 69, 70, 81, 82, 83, 84, 85, 86, 71, 74, 75, 1127, 78, 79, 80, 72, 76, 77, 1143, 1144, 5, 1011, 1150, 1149, 1145, 1113, 1111, 1112, 1100031] g199) [68, 69, 70, 81, 82, 83, 84, 85, 86, 71, 74, 75, 1127, 78, 79, 80, 72, 76, 77, 1143, 1144, 5, 1011, 1150, 1149, 1145, 1113, 1111, 1112, 91, 1147, 1100031] g246) [68, 69, 70, 81, 82, 83, 84, 85, 86, 76, 77] g254) [68, 69, 70] g264) [69, 70] g324) [69, 70] g336) [68, 69, 70, 81, 82, 83, 84, 85, 86, 71, 74, 75, 1127, 78, 79, 80, 72, 76, 77, 1150] g343) := sv_mod.sts md341 (by decide)
              have h := h g343 hpo346
              have eS := sv_mod.eq md348
              have hb := J242 (sv_sts (sv_sts (sv_sts (sv_sts (sv_sts (sv_sts (sv_sts (sv_sts S [68, 69, 70, 81, 82, 83, 84, 85, 86, 71, 74, 75, 1127, 78, 79, 80, 72, 76, 77, 1143, 1144, 5, 1011, 1150, 1149, 1145, 1113, 1111, 1112, 91, 1147, 1100031] g191) [68, 69, 70, 81, 82, 83, 84, 85, 86, 71, 74, 75, 1127, 78, 79, 80, 72, 76, 77, 1143, 1144, 5, 1011, 1150, 1149, 1145, 1113, 1111, 1112, 1100031] g199) [68, 69, 70, 81, 82, 83, 84, 85, 86, 71, 74, 75, 1127, 78, 79, 80, 72, 76, 77, 1143, 1144, 5, 1011, 1150, 1149, 1145, 1113, 1111, 1112, 91, 1147, 1100031] g246) [68, 69, 70, 81, 82, 83, 84, 85, 86, 76, 77] g254) [68, 69, 70] g264) [69, 70] g324) [69, 70] g336) [68, 69, 70, 81, 82, 83, 84, 85, 86, 71, 74, 75, 1127, 78, 79, 80, 72, 76, 77, 1150] g343) (by rw [← eS]; exact ok344) h
              have hb : sv_T sm_XS sm_cs sm_L sm_sh 6 (q_codeWays p1 p2 p4 p6 p7 p8 p9 p10 S) 284 189 [(0, .ref 0), (1, sv_I p1), (2, sv_L p2), (4, sv_L p4), (6, sv_I p6), (7, sv_I p7), (8, sv_I p8), (9, sv_I p9), (10, sv_I p10), (11, sv_I x2), (12, sv_I r10), (13, sv_I r17), (14, sv_I x205)] [] (sv_sts (sv_sts (sv_sts (sv_sts (sv_sts (sv_sts (sv_sts (sv_sts S [68, 69, 70, 81, 82, 83, 84, 85, 86, 71, 74, 75, 1127, 78, 79, 80, 72, 76, 77, 1143, 1144, 5, 1011, 1150, 1149, 1145, 1113, 1111, 1112, 91, 1147, 1100031] g191) [68, 69, 70, 81, 82, 83, 84, 85, 86, 71, 74, 75, 1127, 78, 79, 80, 72, 76, 77, 1143, 1144, 5, 1011, 1150, 1149, 1145, 1113, 1111, 1112, 1100031] g199) [68, 69, 70, 81, 82, 83, 84, 85, 86, 71, 74, 75, 1127, 78, 79, 80, 72, 76, 77, 1143, 1144, 5, 1011, 1150, 1149, 1145, 1113, 1111, 1112, 91, 1147, 1100031] g246) [68, 69, 70, 81, 82, 83, 84, 85, 86, 76, 77] g254) [68, 69, 70] g264) [69, 70] g324) [69, 70] g336) [68, 69, 70, 81, 82, 83, 84, 85, 86, 71, 74, 75, 1127, 78, 79, 80, 72, 76, 77, 1150] g343) := Eq.mpr (congrArg (fun Z => sv_T sm_XS sm_cs sm_L sm_sh 6 (q_codeWays p1 p2 p4 p6 p7 p8 p9 p10 S) 284 189 [(0, .ref 0), (1, sv_I p1), (2, sv_L p2), (4, sv_L p4), (6, sv_I p6), (7, sv_I p7), (8, sv_I p8), (9, sv_I p9), (10, sv_I p10), (11, sv_I x2), (12, sv_I r10), (13, sv_I r17), (14, sv_I x205)] [] Z) eS) hb
              exact sv_less (lv := [(0, .ref 0), (1, sv_I p1), (2, sv_L p2), (4, sv_L p4), (6, sv_I p6), (7, sv_I p7), (8, sv_I p8), (9, sv_I p9), (10, sv_I p10), (11, sv_I x2), (12, sv_I r10), (13, sv_I r17), (14, sv_I x205)]) (sv_Sub_cons rfl (sv_Sub_cons rfl (sv_Sub_cons rfl (sv_Sub_cons rfl (sv_Sub_cons rfl (sv_Sub_cons rfl (sv_Sub_cons rfl (sv_Sub_cons rfl (sv_Sub_cons rfl (sv_Sub_cons rfl (sv_Sub_cons rfl (sv_Sub_cons rfl (sv_Sub_cons rfl sv_Sub_nil))))))))))))) hb
            · have h := h.2 (hc)
              refine sv_aload_n hM dX12_codeWays_172 rfl rfl ?_
              refine sv_iload hM dX12_codeWays_173 rfl rfl ?_
              refine sv_iconst (d := (0 : Int)) hM dX12_codeWays_175 rfl rfl ?_
              refine sv_iconst (d := (0 : Int)) hM dX12_codeWays_176 rfl rfl ?_
              refine sv_iconst (d := (0 : Int)) hM dX12_codeWays_177 rfl rfl ?_
              refine sv_callV hM dX12_codeWays_178 sm_iv_1056 (by decide) (sm_a0 _) rfl rfl (Nat.le_of_ble_eq_true rfl) sm_h205 (Nat.le_of_ble_eq_true rfl) (Nat.le_of_ble_eq_true rfl) (F' := 0) (Nat.le_of_ble_eq_true rfl) rfl (t_write (647751 : Int) (0 : Int) (0 : Int) (0 : Int) (sv_sts (sv_sts (sv_sts (sv_sts (sv_sts (sv_sts (sv_sts S [68, 69, 70, 81, 82, 83, 84, 85, 86, 71, 74, 75, 1127, 78, 79, 80, 72, 76, 77, 1143, 1144, 5, 1011, 1150, 1149, 1145, 1113, 1111, 1112, 91, 1147, 1100031] g191) [68, 69, 70, 81, 82, 83, 84, 85, 86, 71, 74, 75, 1127, 78, 79, 80, 72, 76, 77, 1143, 1144, 5, 1011, 1150, 1149, 1145, 1113, 1111, 1112, 1100031] g199) [68, 69, 70, 81, 82, 83, 84, 85, 86, 71, 74, 75, 1127, 78, 79, 80, 72, 76, 77, 1143, 1144, 5, 1011, 1150, 1149, 1145, 1113, 1111, 1112, 91, 1147, 1100031] g246) [68, 69, 70, 81, 82, 83, 84, 85, 86, 76, 77] g254) [68, 69, 70] g264) [69, 70] g324) [69, 70] g336) ok337 (⟨by decide, by decide⟩ : sv_R (647751 : Int)) (⟨by decide, by decide⟩ : sv_R (0 : Int)) (⟨by decide, by decide⟩ : sv_R (0 : Int)) (⟨by decide, by decide⟩ : sv_R (0 : Int)) o291) (fun v S1 hq => ?_)
              obtain ⟨rfl, ok350, md351, hpo352⟩ := hq
              obtain ⟨g349, rfl⟩ : ∃ g, S1 = sv_sts (sv_sts (sv_sts (sv_sts (sv_sts (sv_sts (sv_sts (sv_sts S [68, 69, 70, 81, 82, 83, 84, 85, 86, 71, 74, 75, 1127, 78, 79, 80, 72, 76, 77, 1143, 1144, 5, 1011, 1150, 1149, 1145, 1113, 1111, 1112, 91, 1147, 1100031] g191) [68, 69, 70, 81, 82, 83, 84, 85, 86, 71, 74, 75, 1127, 78, 79, 80, 72, 76, 77, 1143, 1144, 5, 1011, 1150, 1149, 1145, 1113, 1111, 1112, 1100031] g199) [68, 69, 70, 81, 82, 83, 84, 85, 86, 71, 74, 75, 1127, 78, 79, 80, 72, 76, 77, 1143, 1144, 5, 1011, 1150, 1149, 1145, 1113, 1111, 1112, 91, 1147, 1100031] g246) [68, 69, 70, 81, 82, 83, 84, 85, 86, 76, 77] g254) [68, 69, 70] g264) [69, 70] g324) [69, 70] g336) [68] g := ⟨_, md351.eq⟩
              show sv_T sm_XS sm_cs sm_L sm_sh 6 (q_codeWays p1 p2 p4 p6 p7 p8 p9 p10 S) 284 181 [(0, .ref 0), (1, sv_I p1), (2, sv_L p2), (4, sv_L p4), (6, sv_I p6), (7, sv_I p7), (8, sv_I p8), (9, sv_I p9), (10, sv_I p10), (11, sv_I x2), (12, sv_I r10), (13, sv_I r17), (14, sv_I x205), (15, sv_I (647751 : Int))] [] (sv_sts (sv_sts (sv_sts (sv_sts (sv_sts (sv_sts (sv_sts (sv_sts S [68, 69, 70, 81, 82, 83, 84, 85, 86, 71, 74, 75, 1127, 78, 79, 80, 72, 76, 77, 1143, 1144, 5, 1011, 1150, 1149, 1145, 1113, 1111, 1112, 91, 1147, 1100031] g191) [68, 69, 70, 81, 82, 83, 84, 85, 86, 71, 74, 75, 1127, 78, 79, 80, 72, 76, 77, 1143, 1144, 5, 1011, 1150, 1149, 1145, 1113, 1111, 1112, 1100031] g199) [68, 69, 70, 81, 82, 83, 84, 85, 86, 71, 74, 75, 1127, 78, 79, 80, 72, 76, 77, 1143, 1144, 5, 1011, 1150, 1149, 1145, 1113, 1111, 1112, 91, 1147, 1100031] g246) [68, 69, 70, 81, 82, 83, 84, 85, 86, 76, 77] g254) [68, 69, 70] g264) [69, 70] g324) [69, 70] g336) [68] g349)
              have md353 : sv_mod [68, 69, 70, 81, 82, 83, 84, 85, 86, 71, 74, 75, 1127, 78, 79, 80, 72, 76, 77, 1143, 1144, 5, 1011, 1150, 1149, 1145, 1113, 1111, 1112, 91, 1147, 1100031] S (sv_sts (sv_sts (sv_sts (sv_sts (sv_sts (sv_sts (sv_sts (sv_sts S [68, 69, 70, 81, 82, 83, 84, 85, 86, 71, 74, 75, 1127, 78, 79, 80, 72, 76, 77, 1143, 1144, 5, 1011, 1150, 1149, 1145, 1113, 1111, 1112, 91, 1147, 1100031] g191) [68, 69, 70, 81, 82, 83, 84, 85, 86, 71, 74, 75, 1127, 78, 79, 80, 72, 76, 77, 1143, 1144, 5, 1011, 1150, 1149, 1145, 1113, 1111, 1112, 1100031] g199) [68, 69, 70, 81, 82, 83, 84, 85, 86, 71, 74, 75, 1127, 78, 79, 80, 72, 76, 77, 1143, 1144, 5, 1011, 1150, 1149, 1145, 1113, 1111, 1112, 91, 1147, 1100031] g246) [68, 69, 70, 81, 82, 83, 84, 85, 86, 76, 77] g254) [68, 69, 70] g264) [69, 70] g324) [69, 70] g336) [68] g349) := sv_mod.sts md340 (by decide)
              have md354 : sv_mod [68, 69, 70, 81, 82, 83, 84, 85, 86, 71, 74, 75, 1127, 78, 79, 80, 72, 76, 77, 1143, 1144, 5, 1011, 1150, 1149, 1145, 1113, 1111, 1112, 91, 1147, 1100031] (sv_sts (sv_sts S [68, 69, 70, 81, 82, 83, 84, 85, 86, 71, 74, 75, 1127, 78, 79, 80, 72, 76, 77, 1143, 1144, 5, 1011, 1150, 1149, 1145, 1113, 1111, 1112, 91, 1147, 1100031] g191) [68, 69, 70, 81, 82, 83, 84, 85, 86, 71, 74, 75, 1127, 78, 79, 80, 72, 76, 77, 1143, 1144, 5, 1011, 1150, 1149, 1145, 1113, 1111, 1112, 1100031] g199) (sv_sts (sv_sts (sv_sts (sv_sts (sv_sts (sv_sts (sv_sts (sv_sts S [68, 69, 70, 81, 82, 83, 84, 85, 86, 71, 74, 75, 1127, 78, 79, 80, 72, 76, 77, 1143, 1144, 5, 1011, 1150, 1149, 1145, 1113, 1111, 1112, 91, 1147, 1100031] g191) [68, 69, 70, 81, 82, 83, 84, 85, 86, 71, 74, 75, 1127, 78, 79, 80, 72, 76, 77, 1143, 1144, 5, 1011, 1150, 1149, 1145, 1113, 1111, 1112, 1100031] g199) [68, 69, 70, 81, 82, 83, 84, 85, 86, 71, 74, 75, 1127, 78, 79, 80, 72, 76, 77, 1143, 1144, 5, 1011, 1150, 1149, 1145, 1113, 1111, 1112, 91, 1147, 1100031] g246) [68, 69, 70, 81, 82, 83, 84, 85, 86, 76, 77] g254) [68, 69, 70] g264) [69, 70] g324) [69, 70] g336) [68] g349) := sv_mod.sts md341 (by decide)
              have h := h g349 hpo352
              refine sv_aload_n hM dX12_codeWays_181 rfl rfl ?_
              refine sv_iload hM dX12_codeWays_182 rfl rfl ?_
              refine sv_iload hM dX12_codeWays_184 rfl rfl ?_
              obtain ⟨o355, h⟩ := h
              refine sv_callV hM dX12_codeWays_186 sm_iv_1258 (by decide) (sm_a0 _) rfl rfl (Nat.le_of_ble_eq_true rfl) sm_h267 (Nat.le_of_ble_eq_true rfl) (Nat.le_of_ble_eq_true rfl) (F' := 5) (Nat.le_of_ble_eq_true rfl) rfl (t_replace p9 (647751 : Int) (sv_sts (sv_sts (sv_sts (sv_sts (sv_sts (sv_sts (sv_sts (sv_sts S [68, 69, 70, 81, 82, 83, 84, 85, 86, 71, 74, 75, 1127, 78, 79, 80, 72, 76, 77, 1143, 1144, 5, 1011, 1150, 1149, 1145, 1113, 1111, 1112, 91, 1147, 1100031] g191) [68, 69, 70, 81, 82, 83, 84, 85, 86, 71, 74, 75, 1127, 78, 79, 80, 72, 76, 77, 1143, 1144, 5, 1011, 1150, 1149, 1145, 1113, 1111, 1112, 1100031] g199) [68, 69, 70, 81, 82, 83, 84, 85, 86, 71, 74, 75, 1127, 78, 79, 80, 72, 76, 77, 1143, 1144, 5, 1011, 1150, 1149, 1145, 1113, 1111, 1112, 91, 1147, 1100031] g246) [68, 69, 70, 81, 82, 83, 84, 85, 86, 76, 77] g254) [68, 69, 70] g264) [69, 70] g324) [69, 70] g336) [68] g349) ok350 hp9 (⟨by decide, by decide⟩ : sv_R (647751 : Int)) o355) (fun v S1 hq => ?_)
              obtain ⟨rfl, ok357, md358, hpo359⟩ := hq
              obtain ⟨g356, rfl⟩ : ∃ g, S1 = sv_sts (sv_sts (sv_sts (sv_sts (sv_sts (sv_sts (sv_sts (sv_sts (sv_sts S [68, 69, 70, 81, 82, 83, 84, 85, 86, 71, 74, 75, 1127, 78, 79, 80, 72, 76, 77, 1143, 1144, 5, 1011, 1150, 1149, 1145, 1113, 1111, 1112, 91, 1147, 1100031] g191) [68, 69, 70, 81, 82, 83, 84, 85, 86, 71, 74, 75, 1127, 78, 79, 80, 72, 76, 77, 1143, 1144, 5, 1011, 1150, 1149, 1145, 1113, 1111, 1112, 1100031] g199) [68, 69, 70, 81, 82, 83, 84, 85, 86, 71, 74, 75, 1127, 78, 79, 80, 72, 76, 77, 1143, 1144, 5, 1011, 1150, 1149, 1145, 1113, 1111, 1112, 91, 1147, 1100031] g246) [68, 69, 70, 81, 82, 83, 84, 85, 86, 76, 77] g254) [68, 69, 70] g264) [69, 70] g324) [69, 70] g336) [68] g349) [68, 69, 70, 81, 82, 83, 84, 85, 86, 71, 74, 75, 1127, 78, 79, 80, 72, 76, 77, 1150] g := ⟨_, md358.eq⟩
              show sv_T sm_XS sm_cs sm_L sm_sh 6 (q_codeWays p1 p2 p4 p6 p7 p8 p9 p10 S) 284 189 [(0, .ref 0), (1, sv_I p1), (2, sv_L p2), (4, sv_L p4), (6, sv_I p6), (7, sv_I p7), (8, sv_I p8), (9, sv_I p9), (10, sv_I p10), (11, sv_I x2), (12, sv_I r10), (13, sv_I r17), (14, sv_I x205), (15, sv_I (647751 : Int))] [] (sv_sts (sv_sts (sv_sts (sv_sts (sv_sts (sv_sts (sv_sts (sv_sts (sv_sts S [68, 69, 70, 81, 82, 83, 84, 85, 86, 71, 74, 75, 1127, 78, 79, 80, 72, 76, 77, 1143, 1144, 5, 1011, 1150, 1149, 1145, 1113, 1111, 1112, 91, 1147, 1100031] g191) [68, 69, 70, 81, 82, 83, 84, 85, 86, 71, 74, 75, 1127, 78, 79, 80, 72, 76, 77, 1143, 1144, 5, 1011, 1150, 1149, 1145, 1113, 1111, 1112, 1100031] g199) [68, 69, 70, 81, 82, 83, 84, 85, 86, 71, 74, 75, 1127, 78, 79, 80, 72, 76, 77, 1143, 1144, 5, 1011, 1150, 1149, 1145, 1113, 1111, 1112, 91, 1147, 1100031] g246) [68, 69, 70, 81, 82, 83, 84, 85, 86, 76, 77] g254) [68, 69, 70] g264) [69, 70] g324) [69, 70] g336) [68] g349) [68, 69, 70, 81, 82, 83, 84, 85, 86, 71, 74, 75, 1127, 78, 79, 80, 72, 76, 77, 1150] g356)
              have md360 : sv_mod [68, 69, 70, 81, 82, 83, 84, 85, 86, 71, 74, 75, 1127, 78, 79, 80, 72, 76, 77, 1143, 1144, 5, 1011, 1150, 1149, 1145, 1113, 1111, 1112, 91, 1147, 1100031] S (sv_sts (sv_sts (sv_sts (sv_sts (sv_sts (sv_sts (sv_sts (sv_sts (sv_sts S [68, 69, 70, 81, 82, 83, 84, 85, 86, 71, 74, 75, 1127, 78, 79, 80, 72, 76, 77, 1143, 1144, 5, 1011, 1150, 1149, 1145, 1113, 1111, 1112, 91, 1147, 1100031] g191) [68, 69, 70, 81, 82, 83, 84, 85, 86, 71, 74, 75, 1127, 78, 79, 80, 72, 76, 77, 1143, 1144, 5, 1011, 1150, 1149, 1145, 1113, 1111, 1112, 1100031] g199) [68, 69, 70, 81, 82, 83, 84, 85, 86, 71, 74, 75, 1127, 78, 79, 80, 72, 76, 77, 1143, 1144, 5, 1011, 1150, 1149, 1145, 1113, 1111, 1112, 91, 1147, 1100031] g246) [68, 69, 70, 81, 82, 83, 84, 85, 86, 76, 77] g254) [68, 69, 70] g264) [69, 70] g324) [69, 70] g336) [68] g349) [68, 69, 70, 81, 82, 83, 84, 85, 86, 71, 74, 75, 1127, 78, 79, 80, 72, 76, 77, 1150] g356) := sv_mod.sts md353 (by decide)
              have md361 : sv_mod [68, 69, 70, 81, 82, 83, 84, 85, 86, 71, 74, 75, 1127, 78, 79, 80, 72, 76, 77, 1143, 1144, 5, 1011, 1150, 1149, 1145, 1113, 1111, 1112, 91, 1147, 1100031] (sv_sts (sv_sts S [68, 69, 70, 81, 82, 83, 84, 85, 86, 71, 74, 75, 1127, 78, 79, 80, 72, 76, 77, 1143, 1144, 5, 1011, 1150, 1149, 1145, 1113, 1111, 1112, 91, 1147, 1100031] g191) [68, 69, 70, 81, 82, 83, 84, 85, 86, 71, 74, 75, 1127, 78, 79, 80, 72, 76, 77, 1143, 1144, 5, 1011, 1150, 1149, 1145, 1113, 1111, 1112, 1100031] g199) (sv_sts (sv_sts (sv_sts (sv_sts (sv_sts (sv_sts (sv_sts (sv_sts (sv_sts S [68, 69, 70, 81, 82, 83, 84, 85, 86, 71, 74, 75, 1127, 78, 79, 80, 72, 76, 77, 1143, 1144, 5, 1011, 1150, 1149, 1145, 1113, 1111, 1112, 91, 1147, 1100031] g191) [68, 69, 70, 81, 82, 83, 84, 85, 86, 71, 74, 75, 1127, 78, 79, 80, 72, 76, 77, 1143, 1144, 5, 1011, 1150, 1149, 1145, 1113, 1111, 1112, 1100031] g199) [68, 69, 70, 81, 82, 83, 84, 85, 86, 71, 74, 75, 1127, 78, 79, 80, 72, 76, 77, 1143, 1144, 5, 1011, 1150, 1149, 1145, 1113, 1111, 1112, 91, 1147, 1100031] g246) [68, 69, 70, 81, 82, 83, 84, 85, 86, 76, 77] g254) [68, 69, 70] g264) [69, 70] g324) [69, 70] g336) [68] g349) [68, 69, 70, 81, 82, 83, 84, 85, 86, 71, 74, 75, 1127, 78, 79, 80, 72, 76, 77, 1150] g356) := sv_mod.sts md354 (by decide)
              have h := h g356 hpo359
              have eS := sv_mod.eq md361
              have hb := J242 (sv_sts (sv_sts (sv_sts (sv_sts (sv_sts (sv_sts (sv_sts (sv_sts (sv_sts S [68, 69, 70, 81, 82, 83, 84, 85, 86, 71, 74, 75, 1127, 78, 79, 80, 72, 76, 77, 1143, 1144, 5, 1011, 1150, 1149, 1145, 1113, 1111, 1112, 91, 1147, 1100031] g191) [68, 69, 70, 81, 82, 83, 84, 85, 86, 71, 74, 75, 1127, 78, 79, 80, 72, 76, 77, 1143, 1144, 5, 1011, 1150, 1149, 1145, 1113, 1111, 1112, 1100031] g199) [68, 69, 70, 81, 82, 83, 84, 85, 86, 71, 74, 75, 1127, 78, 79, 80, 72, 76, 77, 1143, 1144, 5, 1011, 1150, 1149, 1145, 1113, 1111, 1112, 91, 1147, 1100031] g246) [68, 69, 70, 81, 82, 83, 84, 85, 86, 76, 77] g254) [68, 69, 70] g264) [69, 70] g324) [69, 70] g336) [68] g349) [68, 69, 70, 81, 82, 83, 84, 85, 86, 71, 74, 75, 1127, 78, 79, 80, 72, 76, 77, 1150] g356) (by rw [← eS]; exact ok357) h
              have hb : sv_T sm_XS sm_cs sm_L sm_sh 6 (q_codeWays p1 p2 p4 p6 p7 p8 p9 p10 S) 284 189 [(0, .ref 0), (1, sv_I p1), (2, sv_L p2), (4, sv_L p4), (6, sv_I p6), (7, sv_I p7), (8, sv_I p8), (9, sv_I p9), (10, sv_I p10), (11, sv_I x2), (12, sv_I r10), (13, sv_I r17), (14, sv_I x205)] [] (sv_sts (sv_sts (sv_sts (sv_sts (sv_sts (sv_sts (sv_sts (sv_sts (sv_sts S [68, 69, 70, 81, 82, 83, 84, 85, 86, 71, 74, 75, 1127, 78, 79, 80, 72, 76, 77, 1143, 1144, 5, 1011, 1150, 1149, 1145, 1113, 1111, 1112, 91, 1147, 1100031] g191) [68, 69, 70, 81, 82, 83, 84, 85, 86, 71, 74, 75, 1127, 78, 79, 80, 72, 76, 77, 1143, 1144, 5, 1011, 1150, 1149, 1145, 1113, 1111, 1112, 1100031] g199) [68, 69, 70, 81, 82, 83, 84, 85, 86, 71, 74, 75, 1127, 78, 79, 80, 72, 76, 77, 1143, 1144, 5, 1011, 1150, 1149, 1145, 1113, 1111, 1112, 91, 1147, 1100031] g246) [68, 69, 70, 81, 82, 83, 84, 85, 86, 76, 77] g254) [68, 69, 70] g264) [69, 70] g324) [69, 70] g336) [68] g349) [68, 69, 70, 81, 82, 83, 84, 85, 86, 71, 74, 75, 1127, 78, 79, 80, 72, 76, 77, 1150] g356) := Eq.mpr (congrArg (fun Z => sv_T sm_XS sm_cs sm_L sm_sh 6 (q_codeWays p1 p2 p4 p6 p7 p8 p9 p10 S) 284 189 [(0, .ref 0), (1, sv_I p1), (2, sv_L p2), (4, sv_L p4), (6, sv_I p6), (7, sv_I p7), (8, sv_I p8), (9, sv_I p9), (10, sv_I p10), (11, sv_I x2), (12, sv_I r10), (13, sv_I r17), (14, sv_I x205)] [] Z) eS) hb
              exact sv_less (lv := [(0, .ref 0), (1, sv_I p1), (2, sv_L p2), (4, sv_L p4), (6, sv_I p6), (7, sv_I p7), (8, sv_I p8), (9, sv_I p9), (10, sv_I p10), (11, sv_I x2), (12, sv_I r10), (13, sv_I r17), (14, sv_I x205)]) (sv_Sub_cons rfl (sv_Sub_cons rfl (sv_Sub_cons rfl (sv_Sub_cons rfl (sv_Sub_cons rfl (sv_Sub_cons rfl (sv_Sub_cons rfl (sv_Sub_cons rfl (sv_Sub_cons rfl (sv_Sub_cons rfl (sv_Sub_cons rfl (sv_Sub_cons rfl (sv_Sub_cons rfl sv_Sub_nil))))))))))))) hb
    · have h := h.2 (hc)
      exact sv_vret hM dX12_codeWays_45 rfl ⟨rfl, ok14, sv_mod.rf, h⟩
