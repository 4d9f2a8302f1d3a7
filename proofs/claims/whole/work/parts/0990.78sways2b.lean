theorem dX12_nativeWays_0 : decode cX12_nativeWays 0 = .ok (.aload_n 0, 1) := by decide +kernel
theorem dX12_nativeWays_1 : decode cX12_nativeWays 1 = .ok (.aload_n 0, 1) := by decide +kernel
theorem dX12_nativeWays_2 : decode cX12_nativeWays 2 = .ok (.getfield 1188, 3) := by decide +kernel
theorem dX12_nativeWays_5 : decode cX12_nativeWays 5 = .ok (.invokevirtual 1211, 3) := by decide +kernel
theorem dX12_nativeWays_8 : decode cX12_nativeWays 8 = .ok (.ldc_w 1358, 3) := by decide +kernel
theorem dX12_nativeWays_11 : decode cX12_nativeWays 11 = .ok (.istore 6, 2) := by decide +kernel
theorem dX12_nativeWays_13 : decode cX12_nativeWays 13 = .ok (.ldc_w 1359, 3) := by decide +kernel
theorem dX12_nativeWays_16 : decode cX12_nativeWays 16 = .ok (.istore 7, 2) := by decide +kernel
theorem dX12_nativeWays_18 : decode cX12_nativeWays 18 = .ok (.ldc_w 1360, 3) := by decide +kernel
theorem dX12_nativeWays_21 : decode cX12_nativeWays 21 = .ok (.istore 8, 2) := by decide +kernel
theorem dX12_nativeWays_23 : decode cX12_nativeWays 23 = .ok (.aload_n 0, 1) := by decide +kernel
theorem dX12_nativeWays_24 : decode cX12_nativeWays 24 = .ok (.iload 6, 2) := by decide +kernel
theorem dX12_nativeWays_26 : decode cX12_nativeWays 26 = .ok (.invokevirtual 1066, 3) := by decide +kernel
theorem dX12_nativeWays_29 : decode cX12_nativeWays 29 = .ok (.aload_n 0, 1) := by decide +kernel
theorem dX12_nativeWays_30 : decode cX12_nativeWays 30 = .ok (.iload 7, 2) := by decide +kernel
theorem dX12_nativeWays_32 : decode cX12_nativeWays 32 = .ok (.invokevirtual 1066, 3) := by decide +kernel
theorem dX12_nativeWays_35 : decode cX12_nativeWays 35 = .ok (.aload_n 0, 1) := by decide +kernel
theorem dX12_nativeWays_36 : decode cX12_nativeWays 36 = .ok (.iload 8, 2) := by decide +kernel
theorem dX12_nativeWays_38 : decode cX12_nativeWays 38 = .ok (.invokevirtual 1066, 3) := by decide +kernel
theorem dX12_nativeWays_41 : decode cX12_nativeWays 41 = .ok (.iload 4, 2) := by decide +kernel
theorem dX12_nativeWays_43 : decode cX12_nativeWays 43 = .ok (.ifCond .le 20, 3) := by decide +kernel
theorem dX12_nativeWays_46 : decode cX12_nativeWays 46 = .ok (.aload_n 0, 1) := by decide +kernel
theorem dX12_nativeWays_47 : decode cX12_nativeWays 47 = .ok (.aload_n 0, 1) := by decide +kernel
theorem dX12_nativeWays_48 : decode cX12_nativeWays 48 = .ok (.sipush 639, 3) := by decide +kernel
theorem dX12_nativeWays_51 : decode cX12_nativeWays 51 = .ok (.iload_n 3, 1) := by decide +kernel
theorem dX12_nativeWays_52 : decode cX12_nativeWays 52 = .ok (.invokevirtual 1323, 3) := by decide +kernel
theorem dX12_nativeWays_55 : decode cX12_nativeWays 55 = .ok (.iload 7, 2) := by decide +kernel
theorem dX12_nativeWays_57 : decode cX12_nativeWays 57 = .ok (.invokevirtual 1092, 3) := by decide +kernel
theorem dX12_nativeWays_60 : decode cX12_nativeWays 60 = .ok (.goto 10, 3) := by decide +kernel
theorem dX12_nativeWays_63 : decode cX12_nativeWays 63 = .ok (.aload_n 0, 1) := by decide +kernel
theorem dX12_nativeWays_64 : decode cX12_nativeWays 64 = .ok (.iload 7, 2) := by decide +kernel
theorem dX12_nativeWays_66 : decode cX12_nativeWays 66 = .ok (.iconst 1, 1) := by decide +kernel
theorem dX12_nativeWays_67 : decode cX12_nativeWays 67 = .ok (.invokevirtual 1072, 3) := by decide +kernel
theorem dX12_nativeWays_70 : decode cX12_nativeWays 70 = .ok (.iload_n 2, 1) := by decide +kernel
theorem dX12_nativeWays_71 : decode cX12_nativeWays 71 = .ok (.iconst (-1), 1) := by decide +kernel
theorem dX12_nativeWays_72 : decode cX12_nativeWays 72 = .ok (.if_icmp .ne 13, 3) := by decide +kernel
theorem dX12_nativeWays_75 : decode cX12_nativeWays 75 = .ok (.aload_n 0, 1) := by decide +kernel
theorem dX12_nativeWays_76 : decode cX12_nativeWays 76 = .ok (.iload 8, 2) := by decide +kernel
theorem dX12_nativeWays_78 : decode cX12_nativeWays 78 = .ok (.iconst 1, 1) := by decide +kernel
theorem dX12_nativeWays_79 : decode cX12_nativeWays 79 = .ok (.invokevirtual 1072, 3) := by decide +kernel
theorem dX12_nativeWays_82 : decode cX12_nativeWays 82 = .ok (.goto 17, 3) := by decide +kernel
theorem dX12_nativeWays_85 : decode cX12_nativeWays 85 = .ok (.aload_n 0, 1) := by decide +kernel
theorem dX12_nativeWays_86 : decode cX12_nativeWays 86 = .ok (.aload_n 0, 1) := by decide +kernel
theorem dX12_nativeWays_87 : decode cX12_nativeWays 87 = .ok (.sipush 639, 3) := by decide +kernel
theorem dX12_nativeWays_90 : decode cX12_nativeWays 90 = .ok (.iload_n 2, 1) := by decide +kernel
theorem dX12_nativeWays_91 : decode cX12_nativeWays 91 = .ok (.invokevirtual 1323, 3) := by decide +kernel
theorem dX12_nativeWays_94 : decode cX12_nativeWays 94 = .ok (.iload 8, 2) := by decide +kernel
theorem dX12_nativeWays_96 : decode cX12_nativeWays 96 = .ok (.invokevirtual 1092, 3) := by decide +kernel
theorem dX12_nativeWays_99 : decode cX12_nativeWays 99 = .ok (.iconst 0, 1) := by decide +kernel
theorem dX12_nativeWays_100 : decode cX12_nativeWays 100 = .ok (.istore 9, 2) := by decide +kernel
theorem dX12_nativeWays_102 : decode cX12_nativeWays 102 = .ok (.iload_n 1, 1) := by decide +kernel
theorem dX12_nativeWays_103 : decode cX12_nativeWays 103 = .ok (.tableswitch 240 9 22 #[69, 79, 99, 119, 146, 240, 240, 240, 240, 157, 157, 240, 173, 188], 69) := by decide +kernel
theorem dX12_nativeWays_172 : decode cX12_nativeWays 172 = .ok (.aload_n 0, 1) := by decide +kernel
theorem dX12_nativeWays_173 : decode cX12_nativeWays 173 = .ok (.iload 6, 2) := by decide +kernel
theorem dX12_nativeWays_175 : decode cX12_nativeWays 175 = .ok (.iconst 1, 1) := by decide +kernel
theorem dX12_nativeWays_176 : decode cX12_nativeWays 176 = .ok (.invokevirtual 1072, 3) := by decide +kernel
theorem dX12_nativeWays_179 : decode cX12_nativeWays 179 = .ok (.goto 198, 3) := by decide +kernel
theorem dX12_nativeWays_182 : decode cX12_nativeWays 182 = .ok (.aload_n 0, 1) := by decide +kernel
theorem dX12_nativeWays_183 : decode cX12_nativeWays 183 = .ok (.bipush 23, 2) := by decide +kernel
theorem dX12_nativeWays_185 : decode cX12_nativeWays 185 = .ok (.iconst 1, 1) := by decide +kernel
theorem dX12_nativeWays_186 : decode cX12_nativeWays 186 = .ok (.iconst 0, 1) := by decide +kernel
theorem dX12_nativeWays_187 : decode cX12_nativeWays 187 = .ok (.iconst (-1), 1) := by decide +kernel
theorem dX12_nativeWays_188 : decode cX12_nativeWays 188 = .ok (.invokevirtual 1204, 3) := by decide +kernel
theorem dX12_nativeWays_191 : decode cX12_nativeWays 191 = .ok (.aload_n 0, 1) := by decide +kernel
theorem dX12_nativeWays_192 : decode cX12_nativeWays 192 = .ok (.iload 6, 2) := by decide +kernel
theorem dX12_nativeWays_194 : decode cX12_nativeWays 194 = .ok (.bipush 23, 2) := by decide +kernel
theorem dX12_nativeWays_196 : decode cX12_nativeWays 196 = .ok (.invokevirtual 1081, 3) := by decide +kernel
theorem dX12_nativeWays_199 : decode cX12_nativeWays 199 = .ok (.goto 178, 3) := by decide +kernel
theorem dX12_nativeWays_202 : decode cX12_nativeWays 202 = .ok (.aload_n 0, 1) := by decide +kernel
theorem dX12_nativeWays_203 : decode cX12_nativeWays 203 = .ok (.bipush 24, 2) := by decide +kernel
theorem dX12_nativeWays_205 : decode cX12_nativeWays 205 = .ok (.iconst 3, 1) := by decide +kernel
theorem dX12_nativeWays_206 : decode cX12_nativeWays 206 = .ok (.iconst 1, 1) := by decide +kernel
theorem dX12_nativeWays_207 : decode cX12_nativeWays 207 = .ok (.iconst (-1), 1) := by decide +kernel
theorem dX12_nativeWays_208 : decode cX12_nativeWays 208 = .ok (.invokevirtual 1204, 3) := by decide +kernel
theorem dX12_nativeWays_211 : decode cX12_nativeWays 211 = .ok (.aload_n 0, 1) := by decide +kernel
theorem dX12_nativeWays_212 : decode cX12_nativeWays 212 = .ok (.iload 6, 2) := by decide +kernel
theorem dX12_nativeWays_214 : decode cX12_nativeWays 214 = .ok (.bipush 24, 2) := by decide +kernel
theorem dX12_nativeWays_216 : decode cX12_nativeWays 216 = .ok (.invokevirtual 1081, 3) := by decide +kernel
theorem dX12_nativeWays_219 : decode cX12_nativeWays 219 = .ok (.goto 158, 3) := by decide +kernel
theorem dX12_nativeWays_222 : decode cX12_nativeWays 222 = .ok (.iload 4, 2) := by decide +kernel
theorem dX12_nativeWays_224 : decode cX12_nativeWays 224 = .ok (.ifCond .ne 14, 3) := by decide +kernel
theorem dX12_nativeWays_227 : decode cX12_nativeWays 227 = .ok (.aload_n 0, 1) := by decide +kernel
theorem dX12_nativeWays_228 : decode cX12_nativeWays 228 = .ok (.iload 6, 2) := by decide +kernel
theorem dX12_nativeWays_230 : decode cX12_nativeWays 230 = .ok (.bipush 30, 2) := by decide +kernel
theorem dX12_nativeWays_232 : decode cX12_nativeWays 232 = .ok (.invokevirtual 1078, 3) := by decide +kernel
theorem dX12_nativeWays_235 : decode cX12_nativeWays 235 = .ok (.goto 142, 3) := by decide +kernel
theorem dX12_nativeWays_238 : decode cX12_nativeWays 238 = .ok (.aload_n 0, 1) := by decide +kernel
theorem dX12_nativeWays_239 : decode cX12_nativeWays 239 = .ok (.iload 7, 2) := by decide +kernel
theorem dX12_nativeWays_241 : decode cX12_nativeWays 241 = .ok (.iload 6, 2) := by decide +kernel
theorem dX12_nativeWays_243 : decode cX12_nativeWays 243 = .ok (.invokevirtual 1172, 3) := by decide +kernel
theorem dX12_nativeWays_246 : decode cX12_nativeWays 246 = .ok (.goto 131, 3) := by decide +kernel
theorem dX12_nativeWays_249 : decode cX12_nativeWays 249 = .ok (.aload_n 0, 1) := by decide +kernel
theorem dX12_nativeWays_250 : decode cX12_nativeWays 250 = .ok (.iload 7, 2) := by decide +kernel
theorem dX12_nativeWays_252 : decode cX12_nativeWays 252 = .ok (.iload 6, 2) := by decide +kernel
theorem dX12_nativeWays_254 : decode cX12_nativeWays 254 = .ok (.invokevirtual 1361, 3) := by decide +kernel
theorem dX12_nativeWays_257 : decode cX12_nativeWays 257 = .ok (.goto 120, 3) := by decide +kernel
theorem dX12_nativeWays_260 : decode cX12_nativeWays 260 = .ok (.aload_n 0, 1) := by decide +kernel
theorem dX12_nativeWays_261 : decode cX12_nativeWays 261 = .ok (.iload_n 1, 1) := by decide +kernel
theorem dX12_nativeWays_262 : decode cX12_nativeWays 262 = .ok (.iload 8, 2) := by decide +kernel
theorem dX12_nativeWays_264 : decode cX12_nativeWays 264 = .ok (.iload 7, 2) := by decide +kernel
theorem dX12_nativeWays_266 : decode cX12_nativeWays 266 = .ok (.iload 6, 2) := by decide +kernel
theorem dX12_nativeWays_268 : decode cX12_nativeWays 268 = .ok (.invokevirtual 1364, 3) := by decide +kernel
theorem dX12_nativeWays_271 : decode cX12_nativeWays 271 = .ok (.istore 9, 2) := by decide +kernel
theorem dX12_nativeWays_273 : decode cX12_nativeWays 273 = .ok (.goto 104, 3) := by decide +kernel
theorem dX12_nativeWays_276 : decode cX12_nativeWays 276 = .ok (.aload_n 0, 1) := by decide +kernel
theorem dX12_nativeWays_277 : decode cX12_nativeWays 277 = .ok (.iload 8, 2) := by decide +kernel
theorem dX12_nativeWays_279 : decode cX12_nativeWays 279 = .ok (.iload 7, 2) := by decide +kernel
theorem dX12_nativeWays_281 : decode cX12_nativeWays 281 = .ok (.iload 6, 2) := by decide +kernel
theorem dX12_nativeWays_283 : decode cX12_nativeWays 283 = .ok (.invokevirtual 1367, 3) := by decide +kernel
theorem dX12_nativeWays_286 : decode cX12_nativeWays 286 = .ok (.istore 9, 2) := by decide +kernel
theorem dX12_nativeWays_288 : decode cX12_nativeWays 288 = .ok (.goto 89, 3) := by decide +kernel
theorem dX12_nativeWays_291 : decode cX12_nativeWays 291 = .ok (.aload_n 0, 1) := by decide +kernel
theorem dX12_nativeWays_292 : decode cX12_nativeWays 292 = .ok (.iload 8, 2) := by decide +kernel
theorem dX12_nativeWays_294 : decode cX12_nativeWays 294 = .ok (.invokevirtual 1059, 3) := by decide +kernel
theorem dX12_nativeWays_297 : decode cX12_nativeWays 297 = .ok (.sipush (-385), 3) := by decide +kernel
theorem dX12_nativeWays_300 : decode cX12_nativeWays 300 = .ok (.iand, 1) := by decide +kernel
theorem dX12_nativeWays_301 : decode cX12_nativeWays 301 = .ok (.ifCond .ne 12, 3) := by decide +kernel
theorem dX12_nativeWays_304 : decode cX12_nativeWays 304 = .ok (.aload_n 0, 1) := by decide +kernel
theorem dX12_nativeWays_305 : decode cX12_nativeWays 305 = .ok (.iload 8, 2) := by decide +kernel
theorem dX12_nativeWays_307 : decode cX12_nativeWays 307 = .ok (.invokevirtual 1062, 3) := by decide +kernel
theorem dX12_nativeWays_310 : decode cX12_nativeWays 310 = .ok (.ifCond .eq 7, 3) := by decide +kernel
theorem dX12_nativeWays_313 : decode cX12_nativeWays 313 = .ok (.iconst 1, 1) := by decide +kernel
theorem dX12_nativeWays_314 : decode cX12_nativeWays 314 = .ok (.goto 4, 3) := by decide +kernel
theorem dX12_nativeWays_317 : decode cX12_nativeWays 317 = .ok (.iconst 0, 1) := by decide +kernel
theorem dX12_nativeWays_318 : decode cX12_nativeWays 318 = .ok (.istore 9, 2) := by decide +kernel
theorem dX12_nativeWays_320 : decode cX12_nativeWays 320 = .ok (.aload_n 0, 1) := by decide +kernel
theorem dX12_nativeWays_321 : decode cX12_nativeWays 321 = .ok (.iload 8, 2) := by decide +kernel
theorem dX12_nativeWays_323 : decode cX12_nativeWays 323 = .ok (.invokevirtual 1059, 3) := by decide +kernel
theorem dX12_nativeWays_326 : decode cX12_nativeWays 326 = .ok (.sipush 384, 3) := by decide +kernel
theorem dX12_nativeWays_329 : decode cX12_nativeWays 329 = .ok (.iand, 1) := by decide +kernel
theorem dX12_nativeWays_330 : decode cX12_nativeWays 330 = .ok (.ifCond .eq 47, 3) := by decide +kernel
theorem dX12_nativeWays_333 : decode cX12_nativeWays 333 = .ok (.aload_n 0, 1) := by decide +kernel
theorem dX12_nativeWays_334 : decode cX12_nativeWays 334 = .ok (.iload 6, 2) := by decide +kernel
theorem dX12_nativeWays_336 : decode cX12_nativeWays 336 = .ok (.iconst (-1), 1) := by decide +kernel
theorem dX12_nativeWays_337 : decode cX12_nativeWays 337 = .ok (.invokevirtual 1078, 3) := by decide +kernel
theorem dX12_nativeWays_340 : decode cX12_nativeWays 340 = .ok (.goto 37, 3) := by decide +kernel
theorem dX12_nativeWays_343 : decode cX12_nativeWays 343 = .ok (.aload_n 0, 1) := by decide +kernel
theorem dX12_nativeWays_344 : decode cX12_nativeWays 344 = .ok (.iload_n 1, 1) := by decide +kernel
theorem dX12_nativeWays_345 : decode cX12_nativeWays 345 = .ok (.bipush 11, 2) := by decide +kernel
theorem dX12_nativeWays_347 : decode cX12_nativeWays 347 = .ok (.iadd, 1) := by decide +kernel
theorem dX12_nativeWays_348 : decode cX12_nativeWays 348 = .ok (.iload_n 1, 1) := by decide +kernel
theorem dX12_nativeWays_349 : decode cX12_nativeWays 349 = .ok (.bipush 9, 2) := by decide +kernel
theorem dX12_nativeWays_351 : decode cX12_nativeWays 351 = .ok (.isub, 1) := by decide +kernel
theorem dX12_nativeWays_352 : decode cX12_nativeWays 352 = .ok (.iconst 0, 1) := by decide +kernel
theorem dX12_nativeWays_353 : decode cX12_nativeWays 353 = .ok (.iload 4, 2) := by decide +kernel
theorem dX12_nativeWays_355 : decode cX12_nativeWays 355 = .ok (.ifCond .le 8, 3) := by decide +kernel
theorem dX12_nativeWays_358 : decode cX12_nativeWays 358 = .ok (.iload 7, 2) := by decide +kernel
theorem dX12_nativeWays_360 : decode cX12_nativeWays 360 = .ok (.goto 4, 3) := by decide +kernel
theorem dX12_nativeWays_363 : decode cX12_nativeWays 363 = .ok (.iconst (-1), 1) := by decide +kernel
theorem dX12_nativeWays_364 : decode cX12_nativeWays 364 = .ok (.invokevirtual 1204, 3) := by decide +kernel
theorem dX12_nativeWays_367 : decode cX12_nativeWays 367 = .ok (.aload_n 0, 1) := by decide +kernel
theorem dX12_nativeWays_368 : decode cX12_nativeWays 368 = .ok (.iload 6, 2) := by decide +kernel
theorem dX12_nativeWays_370 : decode cX12_nativeWays 370 = .ok (.iload_n 1, 1) := by decide +kernel
theorem dX12_nativeWays_371 : decode cX12_nativeWays 371 = .ok (.bipush 11, 2) := by decide +kernel
theorem dX12_nativeWays_373 : decode cX12_nativeWays 373 = .ok (.iadd, 1) := by decide +kernel
theorem dX12_nativeWays_374 : decode cX12_nativeWays 374 = .ok (.invokevirtual 1081, 3) := by decide +kernel
theorem dX12_nativeWays_377 : decode cX12_nativeWays 377 = .ok (.aload_n 0, 1) := by decide +kernel
theorem dX12_nativeWays_378 : decode cX12_nativeWays 378 = .ok (.iload 5, 2) := by decide +kernel
theorem dX12_nativeWays_380 : decode cX12_nativeWays 380 = .ok (.iload 6, 2) := by decide +kernel
theorem dX12_nativeWays_382 : decode cX12_nativeWays 382 = .ok (.invokevirtual 1258, 3) := by decide +kernel
theorem dX12_nativeWays_385 : decode cX12_nativeWays 385 = .ok (.iload 9, 2) := by decide +kernel
theorem dX12_nativeWays_387 : decode cX12_nativeWays 387 = .ok (.ifCond .eq 13, 3) := by decide +kernel
theorem dX12_nativeWays_390 : decode cX12_nativeWays 390 = .ok (.aload_n 0, 1) := by decide +kernel
theorem dX12_nativeWays_391 : decode cX12_nativeWays 391 = .ok (.aload_n 0, 1) := by decide +kernel
theorem dX12_nativeWays_392 : decode cX12_nativeWays 392 = .ok (.getfield 1188, 3) := by decide +kernel
theorem dX12_nativeWays_395 : decode cX12_nativeWays 395 = .ok (.bipush 6, 2) := by decide +kernel
theorem dX12_nativeWays_397 : decode cX12_nativeWays 397 = .ok (.invokevirtual 1292, 3) := by decide +kernel
theorem dX12_nativeWays_400 : decode cX12_nativeWays 400 = .ok (.return_, 1) := by decide +kernel
theorem dX12_prepare_0 : decode cX12_prepare 0 = .ok (.aload_n 0, 1) := by decide +kernel
theorem dX12_prepare_1 : decode cX12_prepare 1 = .ok (.aload_n 0, 1) := by decide +kernel
theorem dX12_prepare_2 : decode cX12_prepare 2 = .ok (.getfield 1188, 3) := by decide +kernel
theorem dX12_prepare_5 : decode cX12_prepare 5 = .ok (.invokevirtual 1211, 3) := by decide +kernel
theorem dX12_prepare_8 : decode cX12_prepare 8 = .ok (.iload 5, 2) := by decide +kernel
theorem dX12_prepare_10 : decode cX12_prepare 10 = .ok (.iconst (-1), 1) := by decide +kernel
theorem dX12_prepare_11 : decode cX12_prepare 11 = .ok (.if_icmp .ne 4, 3) := by decide +kernel
theorem dX12_prepare_14 : decode cX12_prepare 14 = .ok (.return_, 1) := by decide +kernel
theorem dX12_prepare_15 : decode cX12_prepare 15 = .ok (.lconst 0, 1) := by decide +kernel
theorem dX12_prepare_16 : decode cX12_prepare 16 = .ok (.lstore 6, 2) := by decide +kernel
theorem dX12_prepare_18 : decode cX12_prepare 18 = .ok (.lconst 0, 1) := by decide +kernel
theorem dX12_prepare_19 : decode cX12_prepare 19 = .ok (.lstore 8, 2) := by decide +kernel
theorem dX12_prepare_21 : decode cX12_prepare 21 = .ok (.iconst 0, 1) := by decide +kernel
theorem dX12_prepare_22 : decode cX12_prepare 22 = .ok (.istore 10, 2) := by decide +kernel
theorem dX12_prepare_24 : decode cX12_prepare 24 = .ok (.iload 10, 2) := by decide +kernel
theorem dX12_prepare_26 : decode cX12_prepare 26 = .ok (.aload_n 0, 1) := by decide +kernel
theorem dX12_prepare_27 : decode cX12_prepare 27 = .ok (.getfield 765, 3) := by decide +kernel
theorem dX12_prepare_30 : decode cX12_prepare 30 = .ok (.if_icmp .ge 62, 3) := by decide +kernel
theorem dX12_prepare_33 : decode cX12_prepare 33 = .ok (.lload_n 1, 1) := by decide +kernel
theorem dX12_prepare_34 : decode cX12_prepare 34 = .ok (.lload_n 3, 1) := by decide +kernel
theorem dX12_prepare_35 : decode cX12_prepare 35 = .ok (.iload 10, 2) := by decide +kernel
theorem dX12_prepare_37 : decode cX12_prepare 37 = .ok (.invokestatic 1125, 3) := by decide +kernel
theorem dX12_prepare_40 : decode cX12_prepare 40 = .ok (.ifCond .eq 46, 3) := by decide +kernel
theorem dX12_prepare_43 : decode cX12_prepare 43 = .ok (.aload_n 0, 1) := by decide +kernel
theorem dX12_prepare_44 : decode cX12_prepare 44 = .ok (.iload 10, 2) := by decide +kernel
theorem dX12_prepare_46 : decode cX12_prepare 46 = .ok (.invokevirtual 1326, 3) := by decide +kernel
theorem dX12_prepare_49 : decode cX12_prepare 49 = .ok (.ifCond .ne 6, 3) := by decide +kernel
theorem dX12_prepare_52 : decode cX12_prepare 52 = .ok (.goto 34, 3) := by decide +kernel
theorem dX12_prepare_55 : decode cX12_prepare 55 = .ok (.iload 10, 2) := by decide +kernel
theorem dX12_prepare_57 : decode cX12_prepare 57 = .ok (.bipush 64, 2) := by decide +kernel
theorem dX12_prepare_59 : decode cX12_prepare 59 = .ok (.if_icmp .ge 15, 3) := by decide +kernel
theorem dX12_prepare_62 : decode cX12_prepare 62 = .ok (.lload 6, 2) := by decide +kernel
theorem dX12_prepare_64 : decode cX12_prepare 64 = .ok (.lconst 1, 1) := by decide +kernel
theorem dX12_prepare_65 : decode cX12_prepare 65 = .ok (.iload 10, 2) := by decide +kernel
theorem dX12_prepare_67 : decode cX12_prepare 67 = .ok (.lshl, 1) := by decide +kernel
theorem dX12_prepare_68 : decode cX12_prepare 68 = .ok (.lor, 1) := by decide +kernel
theorem dX12_prepare_69 : decode cX12_prepare 69 = .ok (.lstore 6, 2) := by decide +kernel
theorem dX12_prepare_71 : decode cX12_prepare 71 = .ok (.goto 15, 3) := by decide +kernel
theorem dX12_prepare_74 : decode cX12_prepare 74 = .ok (.lload 8, 2) := by decide +kernel
theorem dX12_prepare_76 : decode cX12_prepare 76 = .ok (.lconst 1, 1) := by decide +kernel
theorem dX12_prepare_77 : decode cX12_prepare 77 = .ok (.iload 10, 2) := by decide +kernel
theorem dX12_prepare_79 : decode cX12_prepare 79 = .ok (.bipush 64, 2) := by decide +kernel
theorem dX12_prepare_81 : decode cX12_prepare 81 = .ok (.isub, 1) := by decide +kernel
theorem dX12_prepare_82 : decode cX12_prepare 82 = .ok (.lshl, 1) := by decide +kernel
theorem dX12_prepare_83 : decode cX12_prepare 83 = .ok (.lor, 1) := by decide +kernel
theorem dX12_prepare_84 : decode cX12_prepare 84 = .ok (.lstore 8, 2) := by decide +kernel
theorem dX12_prepare_86 : decode cX12_prepare 86 = .ok (.iinc 10 1, 3) := by decide +kernel
theorem dX12_prepare_89 : decode cX12_prepare 89 = .ok (.goto (-65), 3) := by decide +kernel
theorem dX12_prepare_92 : decode cX12_prepare 92 = .ok (.ldc_w 1339, 3) := by decide +kernel
theorem dX12_prepare_95 : decode cX12_prepare 95 = .ok (.istore 10, 2) := by decide +kernel
theorem dX12_prepare_97 : decode cX12_prepare 97 = .ok (.aload_n 0, 1) := by decide +kernel
theorem dX12_prepare_98 : decode cX12_prepare 98 = .ok (.invokevirtual 1135, 3) := by decide +kernel
theorem dX12_prepare_101 : decode cX12_prepare 101 = .ok (.aload_n 0, 1) := by decide +kernel
theorem dX12_prepare_102 : decode cX12_prepare 102 = .ok (.iconst 1, 1) := by decide +kernel
theorem dX12_prepare_103 : decode cX12_prepare 103 = .ok (.invokevirtual 1138, 3) := by decide +kernel
theorem dX12_prepare_106 : decode cX12_prepare 106 = .ok (.aload_n 0, 1) := by decide +kernel
theorem dX12_prepare_107 : decode cX12_prepare 107 = .ok (.lload 6, 2) := by decide +kernel
theorem dX12_prepare_109 : decode cX12_prepare 109 = .ok (.lload 8, 2) := by decide +kernel
theorem dX12_prepare_111 : decode cX12_prepare 111 = .ok (.iload 10, 2) := by decide +kernel
theorem dX12_prepare_113 : decode cX12_prepare 113 = .ok (.invokevirtual 1306, 3) := by decide +kernel
theorem dX12_prepare_116 : decode cX12_prepare 116 = .ok (.aload_n 0, 1) := by decide +kernel
theorem dX12_prepare_117 : decode cX12_prepare 117 = .ok (.getfield 1156, 3) := by decide +kernel
theorem dX12_prepare_120 : decode cX12_prepare 120 = .ok (.ifCond .ne 12, 3) := by decide +kernel
theorem dX12_prepare_123 : decode cX12_prepare 123 = .ok (.aload_n 0, 1) := by decide +kernel
theorem dX12_prepare_124 : decode cX12_prepare 124 = .ok (.iload 10, 2) := by decide +kernel
theorem dX12_prepare_126 : decode cX12_prepare 126 = .ok (.invokevirtual 1059, 3) := by decide +kernel
theorem dX12_prepare_129 : decode cX12_prepare 129 = .ok (.ifCond .eq 7, 3) := by decide +kernel
theorem dX12_prepare_132 : decode cX12_prepare 132 = .ok (.iconst 1, 1) := by decide +kernel
theorem dX12_prepare_133 : decode cX12_prepare 133 = .ok (.goto 4, 3) := by decide +kernel
theorem dX12_prepare_136 : decode cX12_prepare 136 = .ok (.iconst 0, 1) := by decide +kernel
theorem dX12_prepare_137 : decode cX12_prepare 137 = .ok (.istore 11, 2) := by decide +kernel
theorem dX12_prepare_139 : decode cX12_prepare 139 = .ok (.aload_n 0, 1) := by decide +kernel
theorem dX12_prepare_140 : decode cX12_prepare 140 = .ok (.getfield 286, 3) := by decide +kernel
theorem dX12_prepare_143 : decode cX12_prepare 143 = .ok (.iconst 0, 1) := by decide +kernel
theorem dX12_prepare_144 : decode cX12_prepare 144 = .ok (.iload 10, 2) := by decide +kernel
theorem dX12_prepare_146 : decode cX12_prepare 146 = .ok (.iastore, 1) := by decide +kernel
theorem dX12_prepare_147 : decode cX12_prepare 147 = .ok (.aload_n 0, 1) := by decide +kernel
theorem dX12_prepare_148 : decode cX12_prepare 148 = .ok (.iconst 1, 1) := by decide +kernel
theorem dX12_prepare_149 : decode cX12_prepare 149 = .ok (.putfield 1178, 3) := by decide +kernel
theorem dX12_prepare_152 : decode cX12_prepare 152 = .ok (.aload_n 0, 1) := by decide +kernel
theorem dX12_prepare_153 : decode cX12_prepare 153 = .ok (.aload_n 0, 1) := by decide +kernel
theorem dX12_prepare_154 : decode cX12_prepare 154 = .ok (.iload 5, 2) := by decide +kernel
theorem dX12_prepare_156 : decode cX12_prepare 156 = .ok (.invokevirtual 920, 3) := by decide +kernel
theorem dX12_prepare_159 : decode cX12_prepare 159 = .ok (.iconst 1, 1) := by decide +kernel
theorem dX12_prepare_160 : decode cX12_prepare 160 = .ok (.invokevirtual 1241, 3) := by decide +kernel
theorem dX12_prepare_163 : decode cX12_prepare 163 = .ok (.aload_n 0, 1) := by decide +kernel
theorem dX12_prepare_164 : decode cX12_prepare 164 = .ok (.iconst 0, 1) := by decide +kernel
theorem dX12_prepare_165 : decode cX12_prepare 165 = .ok (.putfield 1178, 3) := by decide +kernel
theorem dX12_prepare_168 : decode cX12_prepare 168 = .ok (.aload_n 0, 1) := by decide +kernel
theorem dX12_prepare_169 : decode cX12_prepare 169 = .ok (.sipush 639, 3) := by decide +kernel
theorem dX12_prepare_172 : decode cX12_prepare 172 = .ok (.aload_n 0, 1) := by decide +kernel
theorem dX12_prepare_173 : decode cX12_prepare 173 = .ok (.iload 5, 2) := by decide +kernel
theorem dX12_prepare_175 : decode cX12_prepare 175 = .ok (.invokevirtual 920, 3) := by decide +kernel
theorem dX12_prepare_178 : decode cX12_prepare 178 = .ok (.invokevirtual 1101, 3) := by decide +kernel
theorem dX12_prepare_181 : decode cX12_prepare 181 = .ok (.istore 12, 2) := by decide +kernel
theorem dX12_prepare_183 : decode cX12_prepare 183 = .ok (.aload_n 0, 1) := by decide +kernel
theorem dX12_prepare_184 : decode cX12_prepare 184 = .ok (.getfield 262, 3) := by decide +kernel
theorem dX12_prepare_187 : decode cX12_prepare 187 = .ok (.iload 12, 2) := by decide +kernel
theorem dX12_prepare_189 : decode cX12_prepare 189 = .ok (.aload_n 0, 1) := by decide +kernel
theorem dX12_prepare_190 : decode cX12_prepare 190 = .ok (.getfield 220, 3) := by decide +kernel
theorem dX12_prepare_193 : decode cX12_prepare 193 = .ok (.iload 10, 2) := by decide +kernel
theorem dX12_prepare_195 : decode cX12_prepare 195 = .ok (.laload, 1) := by decide +kernel
theorem dX12_prepare_196 : decode cX12_prepare 196 = .ok (.iload 11, 2) := by decide +kernel
theorem dX12_prepare_198 : decode cX12_prepare 198 = .ok (.ifCond .eq 9, 3) := by decide +kernel
theorem dX12_prepare_201 : decode cX12_prepare 201 = .ok (.ldc2_w 1340, 3) := by decide +kernel
theorem dX12_prepare_204 : decode cX12_prepare 204 = .ok (.goto 4, 3) := by decide +kernel
theorem dX12_prepare_207 : decode cX12_prepare 207 = .ok (.lconst 0, 1) := by decide +kernel
theorem dX12_prepare_208 : decode cX12_prepare 208 = .ok (.lor, 1) := by decide +kernel
theorem dX12_prepare_209 : decode cX12_prepare 209 = .ok (.lastore, 1) := by decide +kernel
theorem dX12_prepare_210 : decode cX12_prepare 210 = .ok (.aload_n 0, 1) := by decide +kernel
theorem dX12_prepare_211 : decode cX12_prepare 211 = .ok (.getfield 265, 3) := by decide +kernel
theorem dX12_prepare_214 : decode cX12_prepare 214 = .ok (.iload 12, 2) := by decide +kernel
theorem dX12_prepare_216 : decode cX12_prepare 216 = .ok (.aload_n 0, 1) := by decide +kernel
theorem dX12_prepare_217 : decode cX12_prepare 217 = .ok (.getfield 223, 3) := by decide +kernel
theorem dX12_prepare_220 : decode cX12_prepare 220 = .ok (.iload 10, 2) := by decide +kernel
theorem dX12_prepare_222 : decode cX12_prepare 222 = .ok (.laload, 1) := by decide +kernel
theorem dX12_prepare_223 : decode cX12_prepare 223 = .ok (.lastore, 1) := by decide +kernel
theorem dX12_prepare_224 : decode cX12_prepare 224 = .ok (.return_, 1) := by decide +kernel

def q_nativeWays (p1 : Int) (p2 : Int) (p3 : Int) (p4 : Int) (p5 : Int) (S : sv_S) : Option Value → sv_S → Prop := fun v S' => v = none ∧ sm_ok S' ∧ sv_mod [68, 69, 70, 81, 82, 83, 84, 85, 86, 71, 74, 75, 1127, 78, 79, 80, 72, 76, 77, 1143, 1144, 5, 1011, 1150, 1149, 1145, 1113, 1111, 1112, 1100031] S S' ∧ (sm_ST (S' 71) (S' 74) (S' 75) (S' 78) (S' 79) (S' 80) (S' 27) (S' 1100007) (S' 1100023) (S' 1100024) (S' 1046 0) ((S' 1046 0) + 2 * (S' 1032 0)) (S' 1127 0) ∧ 465000 ≤ (S' 1127 0) ∧ (S' 1127 0) + sm_hs (S' 71) (S' 1100007) ≤ 635000 ∧ (S' 75 639) = 647340 ∧ (∀ k : Int, (S 71 k) = 1 → (S' 71 k) = 1) ∧ sm_DR (S' 72) (S' 71) (S' 1046 0) ∧ (641 * (sm_cm (S' 71) + sm_pt (S' 68) (S' 69) (S' 70) + sm_pl (S' 81) (S' 82) (S' 83) (S' 84) (S' 85) (S' 86) + sm_ps (S' 76) (S' 77)) + sm_du (S' 72)) ≤ (641 * (sm_cm (S 71) + sm_pt (S 68) (S 69) (S 70) + sm_pl (S 81) (S 82) (S 83) (S 84) (S 85) (S 86) + sm_ps (S 76) (S 77)) + sm_du (S 72)))
theorem la_nativeWays_0 {x0 x1 x2 : Int} (h0 : 0 ≤ x0) (h1 : x1 = 1) (h2 : x0 + 1 < x2) : 0 ≤ x0 ∧ x0 < x2 ∧ x1 = 1 := by omega
theorem la_nativeWays_1 : (0 : Int) ≤ 647760 ∧ (647760 : Int) < 647800 := by omega
theorem la_nativeWays_2 : (635639 : Int) ≤ 647760 := by omega
theorem la_nativeWays_3 : (0 : Int) ≤ 647761 ∧ (647761 : Int) < 647800 := by omega
theorem la_nativeWays_4 : (635639 : Int) ≤ 647761 := by omega
theorem la_nativeWays_5 : (0 : Int) ≤ 647762 ∧ (647762 : Int) < 647800 := by omega
theorem la_nativeWays_6 : (635639 : Int) ≤ 647762 := by omega
theorem la_nativeWays_7 {x0 x1 x2 x3 x4 x5 x6 x7 x8 : Int} (h0 : 0 ≤ x0) (h1 : 1 ≤ x1) (h2 : x1 ≤ x2) (h3 : x3 = x2 - x1 + 1) (h4 : x0 + 1 < x4) (h5 : x5 = x6) (h6 : x2 ≤ 396) (h7 : x7 = x2) (h8 : x8 = x6) : 0 ≤ x0 ∧ x0 + 1 < x4 ∧ 0 ≤ x1 ∧ x1 ≤ x7 ∧ x7 - x1 ≤ 399 ∧ (0 : Int) ≤ 647760 ∧ (647760 : Int) < 647800 ∧ x3 = x7 - x1 + 1 ∧ x5 = x8 := by omega
theorem la_nativeWays_8 {x0 : Int} (h0 : x0 = 0) : ¬ x0 = 1 := by omega
theorem la_nativeWays_9 {x0 x1 x2 x3 x4 x5 x6 x7 x8 x9 x10 x11 x12 x13 x14 x15 x16 x17 x18 x19 : Int} (h0 : x0 = x1) (h1 : x2 = x3) (h2 : x4 = x5) (h3 : x6 = x0) (h4 : x7 = x6) (h5 : x8 = x7) (h6 : x9 = x8) (h7 : x10 = x9) (h8 : x11 = x10) (h9 : x12 = x2) (h10 : 641 * (x13 + x14 + x15 + x16) + x17 ≤ 641 * (x18 + x11 + x12 + x4) + x19) : 641 * (x13 + x14 + x15 + x16) + x17 ≤ 641 * (x18 + x1 + x3 + x5) + x19 := by omega
theorem la_nativeWays_10 {x0 : Int} (h0 : x0 = 1) : 0 ≤ x0 := by omega
theorem la_nativeWays_11 {x0 : Int} (h0 : 0 ≤ x0) (h1 : ¬ x0 = 0) : 0 < x0 := by omega
theorem la_nativeWays_12 {x0 x1 : Int} (h0 : x0 + 1 < x1) : ¬ x1 ≤ x0 := by omega
theorem la_nativeWays_13 {x0 x1 : Int} (h0 : x0 + 1 < x1) : ¬ x1 ≤ x0 + 1 := by omega
theorem la_nativeWays_14 {x0 : Int} : x0 = x0 := by omega
theorem la_nativeWays_15 : (6 : Int) ≤ 6 := by omega
theorem la_nativeWays_16 : (6 : Int) ≤ 8 := by omega
theorem la_nativeWays_17 {x0 x1 x2 x3 x4 x5 x6 x7 x8 x9 x10 x11 x12 x13 x14 x15 x16 x17 x18 x19 x20 x21 x22 x23 x24 : Int} (h0 : x0 = x1) (h1 : x2 = x3) (h2 : x4 = x5) (h3 : x6 = x0) (h4 : x7 = x6) (h5 : x8 = x7) (h6 : x9 = x8) (h7 : x10 = x9) (h8 : x11 = x10) (h9 : x12 = x2) (h10 : 641 * (x13 + x14 + x15 + x16) + x17 ≤ 641 * (x18 + x11 + x12 + x4) + x19) (h11 : 641 * (x20 + x21 + x22 + x23) + x24 ≤ 641 * (x13 + x14 + x15 + x16) + x17) : 641 * (x20 + x21 + x22 + x23) + x24 ≤ 641 * (x18 + x1 + x3 + x5) + x19 := by omega
theorem la_nativeWays_18 {x0 : Int} (h0 : 9 ≤ x0) : ¬ x0 < 9 := by omega
theorem la_nativeWays_19 {x0 : Int} (h0 : x0 ≤ 22) : ¬ 22 < x0 := by omega
theorem la_nativeWays_20 {x0 : Int} (h0 : 9 ≤ x0) (h1 : x0 ≤ 22) : sv_R (x0 + 11) := by omega
theorem la_nativeWays_21 {x0 : Int} (h0 : 9 ≤ x0) (h1 : x0 ≤ 22) : sv_R (x0 - 9) := by omega
theorem la_nativeWays_22 {x0 : Int} (h0 : 9 ≤ x0) : 0 ≤ x0 + 11 := by omega
theorem la_nativeWays_23 {x0 x1 : Int} (h0 : 29 ≤ x0) (h1 : 9 ≤ x1) (h2 : x1 ≤ 22) (h3 : ¬ x1 = 20) (h4 : x1 = 14 ∨ x1 = 15 ∨ x1 = 16 ∨ x1 = 17 ∨ x1 = 20) : 0 ≤ x1 + 11 ∧ x1 + 11 < x0 ∧ 0 ≤ x1 - 9 ∧ x1 - 9 ≤ 63 ∧ (((-1) : Int) = (-1) ∨ (0 : Int) ≤ (-1) ∧ ((-1) : Int) < 647800) := by omega
theorem la_nativeWays_24 : (635639 : Int) ≤ 647760 ∧ (647760 : Int) < 647800 := by omega
theorem la_nativeWays_25 : (0 : Int) = 0 ∨ (0 : Int) = 1 := by omega
theorem la_nativeWays_26 {x0 x1 x2 : Int} (h0 : x0 = x1) (h1 : x2 = x0) : x2 = x1 := by omega
theorem la_nativeWays_27 {x0 x1 : Int} (h0 : 29 ≤ x0) (h1 : 9 ≤ x1) (h2 : x1 ≤ 22) (h3 : ¬ x1 = 20) (h4 : x1 = 14 ∨ x1 = 15 ∨ x1 = 16 ∨ x1 = 17 ∨ x1 = 20) : 0 ≤ x1 + 11 ∧ x1 + 11 < x0 ∧ 0 ≤ x1 - 9 ∧ x1 - 9 ≤ 63 ∧ ((647761 : Int) = (-1) ∨ (0 : Int) ≤ 647761 ∧ (647761 : Int) < 647800) := by omega
theorem la_nativeWays_28 {x0 : Int} (h0 : x0 = 9) : x0 ≤ 20 := by omega
theorem la_nativeWays_29 {x0 : Int} (h0 : x0 ≤ 20) (h1 : ¬ x0 = 20) : x0 < 20 := by omega
theorem la_nativeWays_30 : (635639 : Int) ≤ 647760 ∧ (647760 : Int) < 647790 := by omega
theorem la_nativeWays_31 {x0 : Int} (h0 : x0 = 10) : x0 ≤ 20 := by omega
theorem la_nativeWays_32 {x0 : Int} (h0 : 29 ≤ x0) : (0 : Int) ≤ 23 ∧ 23 < x0 ∧ (0 : Int) ≤ 1 ∧ (1 : Int) ≤ 63 ∧ (((-1) : Int) = (-1) ∨ (0 : Int) ≤ (-1) ∧ ((-1) : Int) < 647800) := by omega
theorem la_nativeWays_33 {x0 : Int} (h0 : x0 = 11) : x0 ≤ 20 := by omega
theorem la_nativeWays_34 {x0 : Int} (h0 : 29 ≤ x0) : (0 : Int) ≤ 24 ∧ 24 < x0 ∧ (0 : Int) ≤ 3 ∧ (3 : Int) ≤ 63 ∧ (((-1) : Int) = (-1) ∨ (0 : Int) ≤ (-1) ∧ ((-1) : Int) < 647800) := by omega
theorem la_nativeWays_35 {x0 : Int} (h0 : x0 = 12) : x0 ≤ 20 := by omega
theorem la_nativeWays_36 : (0 : Int) ≤ 647761 := by omega
theorem la_nativeWays_37 : (647761 : Int) < 647800 := by omega
theorem la_nativeWays_38 : (647760 : Int) < 647790 := by omega
theorem la_nativeWays_39 {x0 : Int} (h0 : 0 ≤ x0) (h1 : x0 ≤ 11557) : 0 ≤ x0 ∧ x0 ≤ 11557 := by omega
theorem la_nativeWays_40 {x0 : Int} (h0 : x0 = 13) : x0 ≤ 20 := by omega
theorem la_nativeWays_41 : (0 : Int) ≤ 647761 ∧ (647761 : Int) < 647800 ∧ (635639 : Int) ≤ 647760 ∧ (647760 : Int) < 647790 := by omega
theorem la_nativeWays_42 : (0 : Int) ≤ 647762 ∧ (647762 : Int) < 647800 ∧ (0 : Int) ≤ 647761 ∧ (647761 : Int) < 647800 ∧ (635639 : Int) ≤ 647760 ∧ (647760 : Int) < 647790 := by omega
theorem la_nativeWays_43 {x0 : Int} (h0 : x0 = 21) : 20 ≤ x0 := by omega
theorem la_nativeWays_44 {x0 : Int} (h0 : 20 ≤ x0) (h1 : ¬ x0 = 20) : 20 < x0 := by omega
theorem la_nativeWays_45 {x0 : Int} (h0 : x0 = 22) : 20 ≤ x0 := by omega
theorem la_nativeWays_46 {x0 x1 x2 : Int} : x0 = 0 → ((1 : Int) = 0 ∨ (1 : Int) = 1) ∧ x1 = x1 ∧ x2 = x2 := by omega
theorem la_nativeWays_47 : (1 : Int) = 0 ∨ (1 : Int) = 1 := by omega
theorem la_nativeWays_48 {x0 x1 x2 : Int} : x0 = 0 → ((0 : Int) = 0 ∨ (0 : Int) = 1) ∧ x1 = x1 ∧ x2 = x2 := by omega
theorem la_nativeWays_49 {x0 : Int} (h0 : (-1) ≤ x0) (h1 : ¬ x0 = (-1)) : (-1) < x0 := by omega
theorem la_nativeWays_50 {x0 x1 : Int} (h0 : x0 = 647340) (h1 : x1 ≤ 450) (h2 : (-1) < x1) : (0 : Int) ≤ 639 ∧ (639 : Int) < 640 ∧ (-1000) ≤ x1 ∧ x1 ≤ 1000 ∧ 0 ≤ x0 ∧ x0 ≤ 647800 := by omega
theorem la_nativeWays_51 {x0 x1 x2 : Int} (h0 : x0 = 647340) (h1 : x1 ≤ 450) (h2 : (-1) < x1) (h3 : x2 = x0 + x1) : 0 ≤ x2 ∧ x2 < 647800 ∧ (635639 : Int) ≤ 647762 ∧ (647762 : Int) < 647800 := by omega
theorem la_nativeWays_52 : (635639 : Int) ≤ 647762 ∧ (647762 : Int) < 647790 := by omega
theorem la_nativeWays_53 : (635639 : Int) ≤ 647761 ∧ (647761 : Int) < 647790 := by omega
theorem la_nativeWays_54 {x0 x1 : Int} (h0 : x0 = 647340) (h1 : 0 ≤ x1) (h2 : x1 ≤ 450) : (0 : Int) ≤ 639 ∧ (639 : Int) < 640 ∧ (-1000) ≤ x1 ∧ x1 ≤ 1000 ∧ 0 ≤ x0 ∧ x0 ≤ 647800 := by omega
theorem la_nativeWays_55 {x0 x1 x2 : Int} (h0 : x0 = 647340) (h1 : 0 ≤ x1) (h2 : x1 ≤ 450) (h3 : x2 = x0 + x1) : 0 ≤ x2 ∧ x2 < 647800 ∧ (635639 : Int) ≤ 647761 ∧ (647761 : Int) < 647800 := by omega
set_option maxHeartbeats 2000000 in
theorem f_nativeWays : ∀ (p1 : Int) (p2 : Int) (p3 : Int) (p4 : Int) (p5 : Int) (S : sv_S), sm_ok S → sv_R p1 → sv_R p2 → sv_R p3 → sv_R p4 → sv_R p5 → (29 ≤ (S 1071 0) ∧ (S 1071 0) ≤ 127 ∧ 31 ≤ (S 1008 0) ∧ (S 1008 0) ≤ 90 ∧ 1 ≤ (S 1032 0) ∧ (S 1032 0) ≤ 11 ∧ 0 ≤ (S 1055 0) ∧ (S 1055 0) ≤ 19 ∧ (S 1071 0) = 29 + 6 * ((S 1032 0) - 1) + 2 * (S 1055 0) ∧ 0 ≤ (S 1046 0) ∧ (S 1046 0) + 2 * (S 1032 0) ≤ 500 ∧ sm_PD (S 1046 0) (S 1032 0) (S 1071 0) (S 1008 0) ∧ 0 ≤ (S 1071 0) * ((S 1008 0) + 1) ∧ (S 1071 0) * ((S 1008 0) + 1) ≤ 11557 ∧ 31 ≤ (S 1007 0) ∧ (S 1007 0) ≤ 400 ∧ sm_LN (S 4) 400 (S 1007 0) ∧ (S 75 639) = 647340 ∧ sm_ST (S 71) (S 74) (S 75) (S 78) (S 79) (S 80) (S 27) (S 1100007) (S 1100023) (S 1100024) (S 1046 0) ((S 1046 0) + 2 * (S 1032 0)) (S 1127 0) ∧ 465000 ≤ (S 1127 0) ∧ (S 1127 0) + sm_hs (S 71) (S 1100007) ≤ 635000 ∧ sm_NH (S 1100007) ∧ sm_CT (S 26) (S 27) (S 28) (S 29) (S 1100007) (S 1100023) (S 1100024) (S 1100025) (S 21) (S 1046 0) (S 1032 0) (S 1008 0) (S 1055 0) ∧ (∀ k : Int, (S 1046 0) ≤ k → k < ((S 1046 0) + 2 * (S 1032 0)) → (S 1100007 k) = 1) ∧ sm_DR (S 72) (S 71) (S 1046 0) ∧ 0 ≤ (S 1148 0) ∧ (S 1148 0) < (S 1046 0) ∧ (S 71 (S 1148 0)) = 1 ∧ 9 ≤ p1 ∧ p1 ≤ 22 ∧ ¬ p1 = 20 ∧ -1 ≤ p2 ∧ p2 ≤ 450 ∧ 0 ≤ p3 ∧ p3 ≤ 450 ∧ 0 ≤ p4 ∧ p4 ≤ 8 ∧ 1 ≤ p5 ∧ p5 ≤ (S 1100007 (S 1148 0)) ∧ (S 1100007 ((S 1148 0) + 1)) = (S 1100007 (S 1148 0)) - p5 + 1 ∧ (S 1148 0) + 1 < (S 1046 0) ∧ (S 1100023 ((S 1148 0) + 1)) = (S 1100023 (S 1148 0))) → ((sm_CT (S 26) (S 27) (S 28) (S 29) (S 1100007) (S 1100023) (S 1100024) (S 1100025) (S 21) (S 1046 0) (S 1032 0) (S 1008 0) (S 1055 0) → 0 ≤ (S 1148 0) → (S 1148 0) < (S 1046 0) → 0 ≤ (S 1100007 (S 1148 0)) ∧ (S 1100007 (S 1148 0)) ≤ 396 ∧ -1 ≤ (S 1100023 (S 1148 0)) ∧ (S 1100023 (S 1148 0)) < (S 1148 0)) → (sv_R (S 1148 0) → (29 ≤ (S 1071 0) ∧ (S 1071 0) ≤ 127 ∧ 31 ≤ (S 1008 0) ∧ (S 1008 0) ≤ 90 ∧ 1 ≤ (S 1032 0) ∧ (S 1032 0) ≤ 11 ∧ 0 ≤ (S 1055 0) ∧ (S 1055 0) ≤ 19 ∧ (S 1071 0) = 29 + 6 * ((S 1032 0) - 1) + 2 * (S 1055 0) ∧ 0 ≤ (S 1046 0) ∧ (S 1046 0) + 2 * (S 1032 0) ≤ 500 ∧ sm_PD (S 1046 0) (S 1032 0) (S 1071 0) (S 1008 0) ∧ 0 ≤ (S 1071 0) * ((S 1008 0) + 1) ∧ (S 1071 0) * ((S 1008 0) + 1) ≤ 11557 ∧ 31 ≤ (S 1007 0) ∧ (S 1007 0) ≤ 400 ∧ sm_LN (S 4) 400 (S 1007 0) ∧ (S 75 639) = 647340 ∧ sm_ST (S 71) (S 74) (S 75) (S 78) (S 79) (S 80) (S 27) (S 1100007) (S 1100023) (S 1100024) (S 1046 0) ((S 1046 0) + 2 * (S 1032 0)) (S 1127 0) ∧ 465000 ≤ (S 1127 0) ∧ (S 1127 0) + sm_hs (S 71) (S 1100007) ≤ 635000 ∧ sm_NH (S 1100007) ∧ sm_CT (S 26) (S 27) (S 28) (S 29) (S 1100007) (S 1100023) (S 1100024) (S 1100025) (S 21) (S 1046 0) (S 1032 0) (S 1008 0) (S 1055 0) ∧ (∀ k : Int, (S 1046 0) ≤ k → k < ((S 1046 0) + 2 * (S 1032 0)) → (S 1100007 k) = 1) ∧ sm_DR (S 72) (S 71) (S 1046 0) ∧ 0 ≤ (S 1148 0) ∧ (S 1148 0) < (S 1046 0) ∧ (S 71 (S 1148 0)) = 1) ∧ (∀ g4 : sv_S, (sm_pt (g4 68) (g4 69) (g4 70) = sm_pt (S 68) (S 69) (S 70) ∧ sm_pl (g4 81) (g4 82) (g4 83) (g4 84) (g4 85) (g4 86) = sm_pl (S 81) (S 82) (S 83) (S 84) (S 85) (S 86) ∧ sm_ps (g4 76) (g4 77) = sm_ps (S 76) (S 77) ∧ sm_ST (S 71) (g4 74) (S 75) (g4 78) (g4 79) (g4 80) (S 27) (S 1100007) (S 1100023) (S 1100024) (S 1046 0) ((S 1046 0) + 2 * (S 1032 0)) (S 1127 0) ∧ 0 ≤ (g4 74 639) ∧ (g4 74 639) ≤ 400 ∧ 0 ≤ (g4 78 639) ∧ (g4 78 639) ≤ 40 ∧ (g4 78 639) = sm_dp (S 1100024) (g4 1100031 0) ∧ -1 ≤ (g4 1100031 0) ∧ (g4 1100031 0) < (S 1046 0) ∧ (0 ≤ (g4 1100031 0) → (S 26 (g4 1100031 0)) = 27) ∧ sm_TC (g4 79) (g4 80) (S 27) (S 1100007) (S 1100023) (S 1100024) 25560 (g4 1100031 0) ∧ (g4 74 639) = (S 1100007 (S 1148 0)) ∧ (g4 1100031 0) = (S 1100023 (S 1148 0))) → (0 ≤ (647760 : Int) ∧ (647760 : Int) < 647800) ∧ (∀ g10 : sv_S, (635639 ≤ (647760 : Int) → sm_pt (g10 68) (g10 69) (g10 70) = sm_pt (g4 68) (g4 69) (g4 70)) → (0 ≤ (647761 : Int) ∧ (647761 : Int) < 647800) ∧ (∀ g16 : sv_S, (635639 ≤ (647761 : Int) → sm_pt (g16 68) (g16 69) (g16 70) = sm_pt (g10 68) (g10 69) (g10 70)) → (0 ≤ (647762 : Int) ∧ (647762 : Int) < 647800) ∧ (∀ g22 : sv_S, (635639 ≤ (647762 : Int) → sm_pt (g22 68) (g22 69) (g22 70) = sm_pt (g16 68) (g16 69) (g16 70)) → ((∀ g27 : sv_S, (sm_pt (g27 68) (g27 69) (g27 70) = sm_pt (g22 68) (g22 69) (g22 70)) → ((∀ g32 : sv_S, (sm_pt (g32 68) (g32 69) (g32 70) = sm_pt (g27 68) (g27 69) (g27 70)) → ((∀ l9_38 : Int, sv_R l9_38 → ∀ g37 : sv_S, ((l9_38 = 0 ∨ l9_38 = 1) ∧ sm_pt (g37 68) (g37 69) (g37 70) = sm_pt (g32 68) (g32 69) (g32 70) ∧ sm_pl (g37 81) (g37 82) (g37 83) (g37 84) (g37 85) (g37 86) = sm_pl (g4 81) (g4 82) (g4 83) (g4 84) (g4 85) (g4 86)) → (29 ≤ (S 1071 0) ∧ (S 1071 0) ≤ 127 ∧ 31 ≤ (S 1008 0) ∧ (S 1008 0) ≤ 90 ∧ 1 ≤ (S 1032 0) ∧ (S 1032 0) ≤ 11 ∧ 0 ≤ (S 1055 0) ∧ (S 1055 0) ≤ 19 ∧ (S 1071 0) = 29 + 6 * ((S 1032 0) - 1) + 2 * (S 1055 0) ∧ 0 ≤ (S 1046 0) ∧ (S 1046 0) + 2 * (S 1032 0) ≤ 500 ∧ sm_PD (S 1046 0) (S 1032 0) (S 1071 0) (S 1008 0) ∧ 0 ≤ (S 1071 0) * ((S 1008 0) + 1) ∧ (S 1071 0) * ((S 1008 0) + 1) ≤ 11557 ∧ 31 ≤ (S 1007 0) ∧ (S 1007 0) ≤ 400 ∧ sm_LN (S 4) 400 (S 1007 0) ∧ (S 75 639) = 647340 ∧ sm_ST (S 71) (g4 74) (S 75) (g4 78) (g4 79) (g4 80) (S 27) (S 1100007) (S 1100023) (S 1100024) (S 1046 0) ((S 1046 0) + 2 * (S 1032 0)) (S 1127 0) ∧ 465000 ≤ (S 1127 0) ∧ (S 1127 0) + sm_hs (S 71) (S 1100007) ≤ 635000 ∧ sm_NH (S 1100007) ∧ sm_CT (S 26) (S 27) (S 28) (S 29) (S 1100007) (S 1100023) (S 1100024) (S 1100025) (S 21) (S 1046 0) (S 1032 0) (S 1008 0) (S 1055 0) ∧ (∀ k : Int, (S 1046 0) ≤ k → k < ((S 1046 0) + 2 * (S 1032 0)) → (S 1100007 k) = 1) ∧ sm_DR (S 72) (S 71) (S 1046 0) ∧ 0 ≤ (g4 74 639) ∧ (g4 74 639) ≤ 400 ∧ 0 ≤ (g4 78 639) ∧ (g4 78 639) ≤ 40 ∧ (g4 78 639) = sm_dp (S 1100024) (g4 1100031 0) ∧ -1 ≤ (g4 1100031 0) ∧ (g4 1100031 0) < (S 1046 0) ∧ (0 ≤ (g4 1100031 0) → (S 26 (g4 1100031 0)) = 27) ∧ sm_TC (g4 79) (g4 80) (S 27) (S 1100007) (S 1100023) (S 1100024) 25560 (g4 1100031 0) ∧ 0 ≤ (S 1148 0) ∧ (S 1148 0) + 1 < (S 1046 0) ∧ 0 ≤ p5 ∧ p5 ≤ (g4 74 639) ∧ (g4 74 639) - p5 ≤ 399 ∧ 0 ≤ (647760 : Int) ∧ (647760 : Int) < 647800 ∧ (S 1100007 ((S 1148 0) + 1)) = (g4 74 639) - p5 + 1 ∧ (S 1100023 ((S 1148 0) + 1)) = (g4 1100031 0)) ∧ (∀ g44 : sv_S, (sm_ST (g44 71) (g44 74) (g44 75) (g44 78) (g44 79) (g44 80) (S 27) (S 1100007) (S 1100023) (S 1100024) (S 1046 0) ((S 1046 0) + 2 * (S 1032 0)) (g44 1127 0) ∧ 465000 ≤ (g44 1127 0) ∧ (g44 1127 0) + sm_hs (g44 71) (S 1100007) ≤ 635000 ∧ (g44 75 639) = 647340 ∧ (∀ k : Int, (S 71 k) = 1 → (g44 71 k) = 1) ∧ sm_DR (g44 72) (g44 71) (S 1046 0) ∧ (641 * (sm_cm (g44 71) + sm_pt (g44 68) (g44 69) (g44 70) + sm_pl (g44 81) (g44 82) (g44 83) (g44 84) (g44 85) (g44 86) + sm_ps (g44 76) (g44 77)) + sm_du (g44 72)) ≤ (641 * (sm_cm (S 71) + sm_pt (g37 68) (g37 69) (g37 70) + sm_pl (g37 81) (g37 82) (g37 83) (g37 84) (g37 85) (g37 86) + sm_ps (g4 76) (g4 77)) + sm_du (S 72))) → (((l9_38 = (0 : Int)) → (sm_ST (g44 71) (g44 74) (g44 75) (g44 78) (g44 79) (g44 80) (S 27) (S 1100007) (S 1100023) (S 1100024) (S 1046 0) ((S 1046 0) + 2 * (S 1032 0)) (g44 1127 0) ∧ 465000 ≤ (g44 1127 0) ∧ (g44 1127 0) + sm_hs (g44 71) (S 1100007) ≤ 635000 ∧ (g44 75 639) = 647340 ∧ (∀ k : Int, (S 71 k) = 1 → (g44 71 k) = 1) ∧ sm_DR (g44 72) (g44 71) (S 1046 0) ∧ (641 * (sm_cm (g44 71) + sm_pt (g44 68) (g44 69) (g44 70) + sm_pl (g44 81) (g44 82) (g44 83) (g44 84) (g44 85) (g44 86) + sm_ps (g44 76) (g44 77)) + sm_du (g44 72)) ≤ (641 * (sm_cm (S 71) + sm_pt (S 68) (S 69) (S 70) + sm_pl (S 81) (S 82) (S 83) (S 84) (S 85) (S 86) + sm_ps (S 76) (S 77)) + sm_du (S 72)))) ∧ ((¬ (l9_38 = (0 : Int))) → (29 ≤ (S 1071 0) ∧ (S 1071 0) ≤ 127 ∧ 31 ≤ (S 1008 0) ∧ (S 1008 0) ≤ 90 ∧ 1 ≤ (S 1032 0) ∧ (S 1032 0) ≤ 11 ∧ 0 ≤ (S 1055 0) ∧ (S 1055 0) ≤ 19 ∧ (S 1071 0) = 29 + 6 * ((S 1032 0) - 1) + 2 * (S 1055 0) ∧ 0 ≤ (S 1046 0) ∧ (S 1046 0) + 2 * (S 1032 0) ≤ 500 ∧ sm_PD (S 1046 0) (S 1032 0) (S 1071 0) (S 1008 0) ∧ 0 ≤ (S 1071 0) * ((S 1008 0) + 1) ∧ (S 1071 0) * ((S 1008 0) + 1) ≤ 11557 ∧ 31 ≤ (S 1007 0) ∧ (S 1007 0) ≤ 400 ∧ sm_LN (S 4) 400 (S 1007 0) ∧ (g44 75 639) = 647340 ∧ sm_ST (g44 71) (g44 74) (g44 75) (g44 78) (g44 79) (g44 80) (S 27) (S 1100007) (S 1100023) (S 1100024) (S 1046 0) ((S 1046 0) + 2 * (S 1032 0)) (g44 1127 0) ∧ 465000 ≤ (g44 1127 0) ∧ (g44 1127 0) + sm_hs (g44 71) (S 1100007) ≤ 635000 ∧ sm_NH (S 1100007) ∧ sm_CT (S 26) (S 27) (S 28) (S 29) (S 1100007) (S 1100023) (S 1100024) (S 1100025) (S 21) (S 1046 0) (S 1032 0) (S 1008 0) (S 1055 0) ∧ (∀ k : Int, (S 1046 0) ≤ k → k < ((S 1046 0) + 2 * (S 1032 0)) → (S 1100007 k) = 1) ∧ sm_DR (g44 72) (g44 71) (S 1046 0) ∧ 0 ≤ (S 1148 0) ∧ (S 1148 0) < (S 1046 0) ∧ (g44 71 (S 1148 0)) = 1 ∧ (S 1148 0) = (S 1148 0) ∧ 6 ≤ (6 : Int) ∧ (6 : Int) ≤ 8) ∧ (∀ g50 : sv_S, (sm_ST (g50 71) (g50 74) (g50 75) (g50 78) (g50 79) (g50 80) (S 27) (S 1100007) (S 1100023) (S 1100024) (S 1046 0) ((S 1046 0) + 2 * (S 1032 0)) (g50 1127 0) ∧ 465000 ≤ (g50 1127 0) ∧ (g50 1127 0) + sm_hs (g50 71) (S 1100007) ≤ 635000 ∧ (g50 75 639) = 647340 ∧ (∀ k : Int, (g44 71 k) = 1 → (g50 71 k) = 1) ∧ sm_DR (g50 72) (g50 71) (S 1046 0) ∧ (641 * (sm_cm (g50 71) + sm_pt (g50 68) (g50 69) (g50 70) + sm_pl (g50 81) (g50 82) (g50 83) (g50 84) (g50 85) (g50 86) + sm_ps (g50 76) (g50 77)) + sm_du (g50 72)) ≤ (641 * (sm_cm (g44 71) + sm_pt (g44 68) (g44 69) (g44 70) + sm_pl (g44 81) (g44 82) (g44 83) (g44 84) (g44 85) (g44 86) + sm_ps (g44 76) (g44 77)) + sm_du (g44 72))) → (sm_ST (g50 71) (g50 74) (g50 75) (g50 78) (g50 79) (g50 80) (S 27) (S 1100007) (S 1100023) (S 1100024) (S 1046 0) ((S 1046 0) + 2 * (S 1032 0)) (g50 1127 0) ∧ 465000 ≤ (g50 1127 0) ∧ (g50 1127 0) + sm_hs (g50 71) (S 1100007) ≤ 635000 ∧ (g50 75 639) = 647340 ∧ (∀ k : Int, (S 71 k) = 1 → (g50 71 k) = 1) ∧ sm_DR (g50 72) (g50 71) (S 1046 0) ∧ (641 * (sm_cm (g50 71) + sm_pt (g50 68) (g50 69) (g50 70) + sm_pl (g50 81) (g50 82) (g50 83) (g50 84) (g50 85) (g50 86) + sm_ps (g50 76) (g50 77)) + sm_du (g50 72)) ≤ (641 * (sm_cm (S 71) + sm_pt (S 68) (S 69) (S 70) + sm_pl (S 81) (S 82) (S 83) (S 84) (S 85) (S 86) + sm_ps (S 76) (S 77)) + sm_du (S 72)))))))) ∧ (((p1 < (9 : Int) ∨ (22 : Int) < p1 ∨ p1 = (14 : Int) ∨ p1 = (15 : Int) ∨ p1 = (16 : Int) ∨ p1 = (17 : Int) ∨ p1 = (20 : Int)) → (((p4 ≤ (0 : Int)) → (sv_R (p1 + (11 : Int))) ∧ (sv_R (p1 - (9 : Int))) ∧ (29 ≤ (S 1071 0) ∧ (S 1071 0) ≤ 127 ∧ 31 ≤ (S 1008 0) ∧ (S 1008 0) ≤ 90 ∧ 1 ≤ (S 1032 0) ∧ (S 1032 0) ≤ 11 ∧ 0 ≤ (S 1055 0) ∧ (S 1055 0) ≤ 19 ∧ (S 1071 0) = 29 + 6 * ((S 1032 0) - 1) + 2 * (S 1055 0) ∧ 0 ≤ (S 1046 0) ∧ (S 1046 0) + 2 * (S 1032 0) ≤ 500 ∧ sm_PD (S 1046 0) (S 1032 0) (S 1071 0) (S 1008 0) ∧ 0 ≤ (S 1071 0) * ((S 1008 0) + 1) ∧ (S 1071 0) * ((S 1008 0) + 1) ≤ 11557 ∧ 31 ≤ (S 1007 0) ∧ (S 1007 0) ≤ 400 ∧ sm_LN (S 4) 400 (S 1007 0) ∧ 0 ≤ (p1 + (11 : Int)) ∧ (p1 + (11 : Int)) < (S 1071 0) ∧ 0 ≤ (p1 - (9 : Int)) ∧ (p1 - (9 : Int)) ≤ 63 ∧ ((-1 : Int) = -1 ∨ (0 ≤ (-1 : Int) ∧ (-1 : Int) < 647800))) ∧ (∀ g59 : sv_S, (sm_pt (g59 68) (g59 69) (g59 70) = sm_pt (g32 68) (g32 69) (g32 70) ∧ sm_pl (g59 81) (g59 82) (g59 83) (g59 84) (g59 85) (g59 86) = sm_pl (g4 81) (g4 82) (g4 83) (g4 84) (g4 85) (g4 86)) → (635639 ≤ (647760 : Int) ∧ (647760 : Int) < 647800) ∧ (∀ g66 : sv_S, (sm_pt (g59 68) (g66 69) (g66 70) = sm_pt (g59 68) (g59 69) (g59 70)) → (((0 : Int) = 0 ∨ (0 : Int) = 1) ∧ sm_pt (g59 68) (g66 69) (g66 70) = sm_pt (g32 68) (g32 69) (g32 70) ∧ sm_pl (g59 81) (g59 82) (g59 83) (g59 84) (g59 85) (g59 86) = sm_pl (g4 81) (g4 82) (g4 83) (g4 84) (g4 85) (g4 86))))) ∧ ((¬ (p4 ≤ (0 : Int))) → (sv_R (p1 + (11 : Int))) ∧ (sv_R (p1 - (9 : Int))) ∧ (29 ≤ (S 1071 0) ∧ (S 1071 0) ≤ 127 ∧ 31 ≤ (S 1008 0) ∧ (S 1008 0) ≤ 90 ∧ 1 ≤ (S 1032 0) ∧ (S 1032 0) ≤ 11 ∧ 0 ≤ (S 1055 0) ∧ (S 1055 0) ≤ 19 ∧ (S 1071 0) = 29 + 6 * ((S 1032 0) - 1) + 2 * (S 1055 0) ∧ 0 ≤ (S 1046 0) ∧ (S 1046 0) + 2 * (S 1032 0) ≤ 500 ∧ sm_PD (S 1046 0) (S 1032 0) (S 1071 0) (S 1008 0) ∧ 0 ≤ (S 1071 0) * ((S 1008 0) + 1) ∧ (S 1071 0) * ((S 1008 0) + 1) ≤ 11557 ∧ 31 ≤ (S 1007 0) ∧ (S 1007 0) ≤ 400 ∧ sm_LN (S 4) 400 (S 1007 0) ∧ 0 ≤ (p1 + (11 : Int)) ∧ (p1 + (11 : Int)) < (S 1071 0) ∧ 0 ≤ (p1 - (9 : Int)) ∧ (p1 - (9 : Int)) ≤ 63 ∧ ((647761 : Int) = -1 ∨ (0 ≤ (647761 : Int) ∧ (647761 : Int) < 647800))) ∧ (∀ g75 : sv_S, (sm_pt (g75 68) (g75 69) (g75 70) = sm_pt (g32 68) (g32 69) (g32 70) ∧ sm_pl (g75 81) (g75 82) (g75 83) (g75 84) (g75 85) (g75 86) = sm_pl (g4 81) (g4 82) (g4 83) (g4 84) (g4 85) (g4 86)) → (635639 ≤ (647760 : Int) ∧ (647760 : Int) < 647800) ∧ (∀ g82 : sv_S, (sm_pt (g75 68) (g82 69) (g82 70) = sm_pt (g75 68) (g75 69) (g75 70)) → (((0 : Int) = 0 ∨ (0 : Int) = 1) ∧ sm_pt (g75 68) (g82 69) (g82 70) = sm_pt (g32 68) (g32 69) (g32 70) ∧ sm_pl (g75 81) (g75 82) (g75 83) (g75 84) (g75 85) (g75 86) = sm_pl (g4 81) (g4 82) (g4 83) (g4 84) (g4 85) (g4 86))))))) ∧ ((p1 = (9 : Int)) → (635639 ≤ (647760 : Int) ∧ (647760 : Int) < 647790) ∧ (∀ g89 : sv_S, (sm_pt (g89 68) (g89 69) (g89 70) = sm_pt (g32 68) (g32 69) (g32 70)) → (((0 : Int) = 0 ∨ (0 : Int) = 1) ∧ sm_pt (g89 68) (g89 69) (g89 70) = sm_pt (g32 68) (g32 69) (g32 70) ∧ sm_pl (g4 81) (g4 82) (g4 83) (g4 84) (g4 85) (g4 86) = sm_pl (g4 81) (g4 82) (g4 83) (g4 84) (g4 85) (g4 86)))) ∧ ((p1 = (10 : Int)) → (29 ≤ (S 1071 0) ∧ (S 1071 0) ≤ 127 ∧ 31 ≤ (S 1008 0) ∧ (S 1008 0) ≤ 90 ∧ 1 ≤ (S 1032 0) ∧ (S 1032 0) ≤ 11 ∧ 0 ≤ (S 1055 0) ∧ (S 1055 0) ≤ 19 ∧ (S 1071 0) = 29 + 6 * ((S 1032 0) - 1) + 2 * (S 1055 0) ∧ 0 ≤ (S 1046 0) ∧ (S 1046 0) + 2 * (S 1032 0) ≤ 500 ∧ sm_PD (S 1046 0) (S 1032 0) (S 1071 0) (S 1008 0) ∧ 0 ≤ (S 1071 0) * ((S 1008 0) + 1) ∧ (S 1071 0) * ((S 1008 0) + 1) ≤ 11557 ∧ 31 ≤ (S 1007 0) ∧ (S 1007 0) ≤ 400 ∧ sm_LN (S 4) 400 (S 1007 0) ∧ 0 ≤ (23 : Int) ∧ (23 : Int) < (S 1071 0) ∧ 0 ≤ (1 : Int) ∧ (1 : Int) ≤ 63 ∧ ((-1 : Int) = -1 ∨ (0 ≤ (-1 : Int) ∧ (-1 : Int) < 647800))) ∧ (∀ g96 : sv_S, (sm_pt (g96 68) (g96 69) (g96 70) = sm_pt (g32 68) (g32 69) (g32 70) ∧ sm_pl (g96 81) (g96 82) (g96 83) (g96 84) (g96 85) (g96 86) = sm_pl (g4 81) (g4 82) (g4 83) (g4 84) (g4 85) (g4 86)) → (635639 ≤ (647760 : Int) ∧ (647760 : Int) < 647800) ∧ (∀ g103 : sv_S, (sm_pt (g96 68) (g103 69) (g103 70) = sm_pt (g96 68) (g96 69) (g96 70)) → (((0 : Int) = 0 ∨ (0 : Int) = 1) ∧ sm_pt (g96 68) (g103 69) (g103 70) = sm_pt (g32 68) (g32 69) (g32 70) ∧ sm_pl (g96 81) (g96 82) (g96 83) (g96 84) (g96 85) (g96 86) = sm_pl (g4 81) (g4 82) (g4 83) (g4 84) (g4 85) (g4 86))))) ∧ ((p1 = (11 : Int)) → (29 ≤ (S 1071 0) ∧ (S 1071 0) ≤ 127 ∧ 31 ≤ (S 1008 0) ∧ (S 1008 0) ≤ 90 ∧ 1 ≤ (S 1032 0) ∧ (S 1032 0) ≤ 11 ∧ 0 ≤ (S 1055 0) ∧ (S 1055 0) ≤ 19 ∧ (S 1071 0) = 29 + 6 * ((S 1032 0) - 1) + 2 * (S 1055 0) ∧ 0 ≤ (S 1046 0) ∧ (S 1046 0) + 2 * (S 1032 0) ≤ 500 ∧ sm_PD (S 1046 0) (S 1032 0) (S 1071 0) (S 1008 0) ∧ 0 ≤ (S 1071 0) * ((S 1008 0) + 1) ∧ (S 1071 0) * ((S 1008 0) + 1) ≤ 11557 ∧ 31 ≤ (S 1007 0) ∧ (S 1007 0) ≤ 400 ∧ sm_LN (S 4) 400 (S 1007 0) ∧ 0 ≤ (24 : Int) ∧ (24 : Int) < (S 1071 0) ∧ 0 ≤ (3 : Int) ∧ (3 : Int) ≤ 63 ∧ ((-1 : Int) = -1 ∨ (0 ≤ (-1 : Int) ∧ (-1 : Int) < 647800))) ∧ (∀ g110 : sv_S, (sm_pt (g110 68) (g110 69) (g110 70) = sm_pt (g32 68) (g32 69) (g32 70) ∧ sm_pl (g110 81) (g110 82) (g110 83) (g110 84) (g110 85) (g110 86) = sm_pl (g4 81) (g4 82) (g4 83) (g4 84) (g4 85) (g4 86)) → (635639 ≤ (647760 : Int) ∧ (647760 : Int) < 647800) ∧ (∀ g117 : sv_S, (sm_pt (g110 68) (g117 69) (g117 70) = sm_pt (g110 68) (g110 69) (g110 70)) → (((0 : Int) = 0 ∨ (0 : Int) = 1) ∧ sm_pt (g110 68) (g117 69) (g117 70) = sm_pt (g32 68) (g32 69) (g32 70) ∧ sm_pl (g110 81) (g110 82) (g110 83) (g110 84) (g110 85) (g110 86) = sm_pl (g4 81) (g4 82) (g4 83) (g4 84) (g4 85) (g4 86))))) ∧ ((p1 = (12 : Int)) → (((¬ p4 = (0 : Int)) → (31 ≤ (S 1007 0) ∧ (S 1007 0) ≤ 400 ∧ sm_LN (S 4) 400 (S 1007 0) ∧ 0 ≤ (647761 : Int) ∧ (647761 : Int) < 647800 ∧ 635639 ≤ (647760 : Int) ∧ (647760 : Int) < 647790 ∧ 29 ≤ (S 1071 0) ∧ (S 1071 0) ≤ 127 ∧ 31 ≤ (S 1008 0) ∧ (S 1008 0) ≤ 90 ∧ 1 ≤ (S 1032 0) ∧ (S 1032 0) ≤ 11 ∧ 0 ≤ (S 1055 0) ∧ (S 1055 0) ≤ 19 ∧ (S 1071 0) = 29 + 6 * ((S 1032 0) - 1) + 2 * (S 1055 0) ∧ 0 ≤ (S 1046 0) ∧ (S 1046 0) + 2 * (S 1032 0) ≤ 500 ∧ sm_PD (S 1046 0) (S 1032 0) (S 1071 0) (S 1008 0) ∧ 0 ≤ (S 1071 0) * ((S 1008 0) + 1) ∧ (S 1071 0) * ((S 1008 0) + 1) ≤ 11557) ∧ (∀ g124 : sv_S, (sm_pt (g124 68) (g124 69) (g124 70) = sm_pt (g32 68) (g32 69) (g32 70)) → (((0 : Int) = 0 ∨ (0 : Int) = 1) ∧ sm_pt (g124 68) (g124 69) (g124 70) = sm_pt (g32 68) (g32 69) (g32 70) ∧ sm_pl (g4 81) (g4 82) (g4 83) (g4 84) (g4 85) (g4 86) = sm_pl (g4 81) (g4 82) (g4 83) (g4 84) (g4 85) (g4 86)))) ∧ ((¬ (¬ p4 = (0 : Int))) → (635639 ≤ (647760 : Int) ∧ (647760 : Int) < 647790) ∧ (∀ g131 : sv_S, (sm_pt (g131 68) (g131 69) (g131 70) = sm_pt (g32 68) (g32 69) (g32 70)) → (((0 : Int) = 0 ∨ (0 : Int) = 1) ∧ sm_pt (g131 68) (g131 69) (g131 70) = sm_pt (g32 68) (g32 69) (g32 70) ∧ sm_pl (g4 81) (g4 82) (g4 83) (g4 84) (g4 85) (g4 86) = sm_pl (g4 81) (g4 82) (g4 83) (g4 84) (g4 85) (g4 86)))))) ∧ ((p1 = (13 : Int)) → (29 ≤ (S 1071 0) ∧ (S 1071 0) ≤ 127 ∧ 31 ≤ (S 1008 0) ∧ (S 1008 0) ≤ 90 ∧ 1 ≤ (S 1032 0) ∧ (S 1032 0) ≤ 11 ∧ 0 ≤ (S 1055 0) ∧ (S 1055 0) ≤ 19 ∧ (S 1071 0) = 29 + 6 * ((S 1032 0) - 1) + 2 * (S 1055 0) ∧ 0 ≤ (S 1046 0) ∧ (S 1046 0) + 2 * (S 1032 0) ≤ 500 ∧ sm_PD (S 1046 0) (S 1032 0) (S 1071 0) (S 1008 0) ∧ 0 ≤ (S 1071 0) * ((S 1008 0) + 1) ∧ (S 1071 0) * ((S 1008 0) + 1) ≤ 11557 ∧ 31 ≤ (S 1007 0) ∧ (S 1007 0) ≤ 400 ∧ sm_LN (S 4) 400 (S 1007 0) ∧ 0 ≤ (647761 : Int) ∧ (647761 : Int) < 647800 ∧ 635639 ≤ (647760 : Int) ∧ (647760 : Int) < 647790) ∧ (∀ g138 : sv_S, (sm_pt (g138 68) (g138 69) (g138 70) = sm_pt (g32 68) (g32 69) (g32 70)) → (((0 : Int) = 0 ∨ (0 : Int) = 1) ∧ sm_pt (g138 68) (g138 69) (g138 70) = sm_pt (g32 68) (g32 69) (g32 70) ∧ sm_pl (g4 81) (g4 82) (g4 83) (g4 84) (g4 85) (g4 86) = sm_pl (g4 81) (g4 82) (g4 83) (g4 84) (g4 85) (g4 86)))) ∧ ((p1 = (18 : Int) ∨ p1 = (19 : Int)) → (29 ≤ (S 1071 0) ∧ (S 1071 0) ≤ 127 ∧ 31 ≤ (S 1008 0) ∧ (S 1008 0) ≤ 90 ∧ 1 ≤ (S 1032 0) ∧ (S 1032 0) ≤ 11 ∧ 0 ≤ (S 1055 0) ∧ (S 1055 0) ≤ 19 ∧ (S 1071 0) = 29 + 6 * ((S 1032 0) - 1) + 2 * (S 1055 0) ∧ 0 ≤ (S 1046 0) ∧ (S 1046 0) + 2 * (S 1032 0) ≤ 500 ∧ sm_PD (S 1046 0) (S 1032 0) (S 1071 0) (S 1008 0) ∧ 0 ≤ (S 1071 0) * ((S 1008 0) + 1) ∧ (S 1071 0) * ((S 1008 0) + 1) ≤ 11557 ∧ 31 ≤ (S 1007 0) ∧ (S 1007 0) ≤ 400 ∧ sm_LN (S 4) 400 (S 1007 0) ∧ 0 ≤ (647762 : Int) ∧ (647762 : Int) < 647800 ∧ 0 ≤ (647761 : Int) ∧ (647761 : Int) < 647800 ∧ 635639 ≤ (647760 : Int) ∧ (647760 : Int) < 647790) ∧ (∀ r149 : Int, sv_R r149 → ∀ g145 : sv_S, (sm_pt (g145 68) (g145 69) (g145 70) = sm_pt (g32 68) (g32 69) (g32 70) ∧ (r149 = 0 ∨ r149 = 1)) → ((r149 = 0 ∨ r149 = 1) ∧ sm_pt (g145 68) (g145 69) (g145 70) = sm_pt (g32 68) (g32 69) (g32 70) ∧ sm_pl (g4 81) (g4 82) (g4 83) (g4 84) (g4 85) (g4 86) = sm_pl (g4 81) (g4 82) (g4 83) (g4 84) (g4 85) (g4 86)))) ∧ ((p1 = (21 : Int)) → (29 ≤ (S 1071 0) ∧ (S 1071 0) ≤ 127 ∧ 31 ≤ (S 1008 0) ∧ (S 1008 0) ≤ 90 ∧ 1 ≤ (S 1032 0) ∧ (S 1032 0) ≤ 11 ∧ 0 ≤ (S 1055 0) ∧ (S 1055 0) ≤ 19 ∧ (S 1071 0) = 29 + 6 * ((S 1032 0) - 1) + 2 * (S 1055 0) ∧ 0 ≤ (S 1046 0) ∧ (S 1046 0) + 2 * (S 1032 0) ≤ 500 ∧ sm_PD (S 1046 0) (S 1032 0) (S 1071 0) (S 1008 0) ∧ 0 ≤ (S 1071 0) * ((S 1008 0) + 1) ∧ (S 1071 0) * ((S 1008 0) + 1) ≤ 11557 ∧ 31 ≤ (S 1007 0) ∧ (S 1007 0) ≤ 400 ∧ sm_LN (S 4) 400 (S 1007 0) ∧ 0 ≤ (647762 : Int) ∧ (647762 : Int) < 647800 ∧ 0 ≤ (647761 : Int) ∧ (647761 : Int) < 647800 ∧ 635639 ≤ (647760 : Int) ∧ (647760 : Int) < 647790) ∧ (∀ r157 : Int, sv_R r157 → ∀ g153 : sv_S, (sm_pt (g153 68) (g153 69) (g153 70) = sm_pt (g32 68) (g32 69) (g32 70) ∧ (r157 = 0 ∨ r157 = 1)) → ((r157 = 0 ∨ r157 = 1) ∧ sm_pt (g153 68) (g153 69) (g153 70) = sm_pt (g32 68) (g32 69) (g32 70) ∧ sm_pl (g4 81) (g4 82) (g4 83) (g4 84) (g4 85) (g4 86) = sm_pl (g4 81) (g4 82) (g4 83) (g4 84) (g4 85) (g4 86)))) ∧ ((p1 = (22 : Int)) → (∀ r164 : Int, sv_R r164 → (sm_iand ((g32 68 (647762 : Int)) % 1024) (-513) = r164) → (∀ r165 : Int, sv_R r165 → (((¬ r165 = (0 : Int)) → (∀ r170 : Int, sv_R r170 → (sm_iand ((g32 68 (647762 : Int)) % 1024) (-513) = r170) → (∀ r171 : Int, (0 ≤ r171 ∧ r171 ≤ (384 : Int)) → (((r171 = (0 : Int)) → (((1 : Int) = 0 ∨ (1 : Int) = 1) ∧ sm_pt (g32 68) (g32 69) (g32 70) = sm_pt (g32 68) (g32 69) (g32 70) ∧ sm_pl (g4 81) (g4 82) (g4 83) (g4 84) (g4 85) (g4 86) = sm_pl (g4 81) (g4 82) (g4 83) (g4 84) (g4 85) (g4 86))) ∧ ((¬ (r171 = (0 : Int))) → (635639 ≤ (647760 : Int) ∧ (647760 : Int) < 647790) ∧ (∀ g173 : sv_S, (sm_pt (g173 68) (g173 69) (g173 70) = sm_pt (g32 68) (g32 69) (g32 70)) → (((1 : Int) = 0 ∨ (1 : Int) = 1) ∧ sm_pt (g173 68) (g173 69) (g173 70) = sm_pt (g32 68) (g32 69) (g32 70) ∧ sm_pl (g4 81) (g4 82) (g4 83) (g4 84) (g4 85) (g4 86) = sm_pl (g4 81) (g4 82) (g4 83) (g4 84) (g4 85) (g4 86)))))))) ∧ ((¬ (¬ r165 = (0 : Int))) → (∀ r183 : Int, sv_R r183 → (r183 = 0 ∨ r183 = 1) → (((r183 = (0 : Int)) → (∀ r188 : Int, sv_R r188 → (sm_iand ((g32 68 (647762 : Int)) % 1024) (-513) = r188) → (∀ r189 : Int, (0 ≤ r189 ∧ r189 ≤ (384 : Int)) → (((r189 = (0 : Int)) → (((0 : Int) = 0 ∨ (0 : Int) = 1) ∧ sm_pt (g32 68) (g32 69) (g32 70) = sm_pt (g32 68) (g32 69) (g32 70) ∧ sm_pl (g4 81) (g4 82) (g4 83) (g4 84) (g4 85) (g4 86) = sm_pl (g4 81) (g4 82) (g4 83) (g4 84) (g4 85) (g4 86))) ∧ ((¬ (r189 = (0 : Int))) → (635639 ≤ (647760 : Int) ∧ (647760 : Int) < 647790) ∧ (∀ g191 : sv_S, (sm_pt (g191 68) (g191 69) (g191 70) = sm_pt (g32 68) (g32 69) (g32 70)) → (((0 : Int) = 0 ∨ (0 : Int) = 1) ∧ sm_pt (g191 68) (g191 69) (g191 70) = sm_pt (g32 68) (g32 69) (g32 70) ∧ sm_pl (g4 81) (g4 82) (g4 83) (g4 84) (g4 85) (g4 86) = sm_pl (g4 81) (g4 82) (g4 83) (g4 84) (g4 85) (g4 86)))))))) ∧ ((¬ (r183 = (0 : Int))) → (∀ r201 : Int, sv_R r201 → (sm_iand ((g32 68 (647762 : Int)) % 1024) (-513) = r201) → (∀ r202 : Int, (0 ≤ r202 ∧ r202 ≤ (384 : Int)) → (((r202 = (0 : Int)) → (((1 : Int) = 0 ∨ (1 : Int) = 1) ∧ sm_pt (g32 68) (g32 69) (g32 70) = sm_pt (g32 68) (g32 69) (g32 70) ∧ sm_pl (g4 81) (g4 82) (g4 83) (g4 84) (g4 85) (g4 86) = sm_pl (g4 81) (g4 82) (g4 83) (g4 84) (g4 85) (g4 86))) ∧ ((¬ (r202 = (0 : Int))) → (635639 ≤ (647760 : Int) ∧ (647760 : Int) < 647790) ∧ (∀ g204 : sv_S, (sm_pt (g204 68) (g204 69) (g204 70) = sm_pt (g32 68) (g32 69) (g32 70)) → (((1 : Int) = 0 ∨ (1 : Int) = 1) ∧ sm_pt (g204 68) (g204 69) (g204 70) = sm_pt (g32 68) (g32 69) (g32 70) ∧ sm_pl (g4 81) (g4 82) (g4 83) (g4 84) (g4 85) (g4 86) = sm_pl (g4 81) (g4 82) (g4 83) (g4 84) (g4 85) (g4 86)))))))))))))))))) ∧ (((¬ p2 = (-1 : Int)) → (0 ≤ (639 : Int) ∧ (639 : Int) < 640 ∧ -1000 ≤ p2 ∧ p2 ≤ 1000 ∧ 0 ≤ (S 75 (639 : Int)) ∧ (S 75 (639 : Int)) ≤ 647800) ∧ (∀ r216 : Int, sv_R r216 → (r216 = (S 75 (639 : Int)) + p2) → (0 ≤ r216 ∧ r216 < 647800 ∧ 635639 ≤ (647762 : Int) ∧ (647762 : Int) < 647800) ∧ (∀ g218 : sv_S, (sm_pt (g218 68) (g218 69) (g218 70) = sm_pt (g27 68) (g27 69) (g27 70)) → (sm_pt (g218 68) (g218 69) (g218 70) = sm_pt (g27 68) (g27 69) (g27 70))))) ∧ ((¬ (¬ p2 = (-1 : Int))) → (635639 ≤ (647762 : Int) ∧ (647762 : Int) < 647790) ∧ (∀ g225 : sv_S, (sm_pt (g225 68) (g225 69) (g225 70) = sm_pt (g27 68) (g27 69) (g27 70)) → (sm_pt (g225 68) (g225 69) (g225 70) = sm_pt (g27 68) (g27 69) (g27 70))))))) ∧ (((p4 ≤ (0 : Int)) → (635639 ≤ (647761 : Int) ∧ (647761 : Int) < 647790) ∧ (∀ g233 : sv_S, (sm_pt (g233 68) (g233 69) (g233 70) = sm_pt (g22 68) (g22 69) (g22 70)) → (sm_pt (g233 68) (g233 69) (g233 70) = sm_pt (g22 68) (g22 69) (g22 70)))) ∧ ((¬ (p4 ≤ (0 : Int))) → (0 ≤ (639 : Int) ∧ (639 : Int) < 640 ∧ -1000 ≤ p3 ∧ p3 ≤ 1000 ∧ 0 ≤ (S 75 (639 : Int)) ∧ (S 75 (639 : Int)) ≤ 647800) ∧ (∀ r244 : Int, sv_R r244 → (r244 = (S 75 (639 : Int)) + p3) → (0 ≤ r244 ∧ r244 < 647800 ∧ 635639 ≤ (647761 : Int) ∧ (647761 : Int) < 647800) ∧ (∀ g246 : sv_S, (sm_pt (g246 68) (g246 69) (g246 70) = sm_pt (g22 68) (g22 69) (g22 70)) → (sm_pt (g246 68) (g246 69) (g246 70) = sm_pt (g22 68) (g22 69) (g22 70))))))))))))) := by
  intro p1
  intro p2
  intro p3
  intro p4
  intro p5
  intro S
  intro h1_
  intro h2_
  intro h3_
  intro h4_
  intro h5_
  intro h6_
  rintro ⟨h7_, ⟨h8_, ⟨h9_, ⟨h10_, ⟨h11_, ⟨h12_, ⟨h13_, ⟨h14_, ⟨h15_, ⟨h16_, ⟨h17_, ⟨h18_, ⟨h19_, ⟨h20_, ⟨h21_, ⟨h22_, ⟨h23_, ⟨h24_, ⟨h25_, ⟨h26_, ⟨h27_, ⟨h28_, ⟨h29_, ⟨h30_, ⟨h31_, ⟨h32_, ⟨h33_, ⟨h34_, ⟨h35_, ⟨h36_, ⟨h37_, ⟨h38_, ⟨h39_, ⟨h40_, ⟨h41_, ⟨h42_, ⟨h43_, ⟨h44_, ⟨h45_, ⟨h46_, ⟨h47_, h48_⟩⟩⟩⟩⟩⟩⟩⟩⟩⟩⟩⟩⟩⟩⟩⟩⟩⟩⟩⟩⟩⟩⟩⟩⟩⟩⟩⟩⟩⟩⟩⟩⟩⟩⟩⟩⟩⟩⟩⟩⟩
  intro h49_
  have h50_ := (h49_ h29_)
  have h51_ := (h50_ h32_)
  obtain ⟨h52_, ⟨h53_, ⟨h54_, h55_⟩⟩⟩ := (h51_ h33_)
  intro h56_
  refine ⟨⟨h7_, ⟨h8_, ⟨h9_, ⟨h10_, ⟨h11_, ⟨h12_, ⟨h13_, ⟨h14_, ⟨h15_, ⟨h16_, ⟨h17_, ⟨h18_, ⟨h19_, ⟨h20_, ⟨h21_, ⟨h22_, ⟨h23_, ⟨h24_, ⟨h25_, ⟨h26_, ⟨h27_, ⟨h28_, ⟨h29_, ⟨h30_, ⟨h31_, (la_nativeWays_0 h32_ h34_ h47_)⟩⟩⟩⟩⟩⟩⟩⟩⟩⟩⟩⟩⟩⟩⟩⟩⟩⟩⟩⟩⟩⟩⟩⟩⟩, ?_⟩
  intro g4
  rintro ⟨h57_, ⟨h58_, ⟨h59_, ⟨h60_, ⟨h61_, ⟨h62_, ⟨h63_, ⟨h64_, ⟨h65_, ⟨h66_, ⟨h67_, ⟨h68_, ⟨h69_, ⟨h70_, h71_⟩⟩⟩⟩⟩⟩⟩⟩⟩⟩⟩⟩⟩⟩
  refine ⟨la_nativeWays_1, ?_⟩
  intro g10
  intro h72_
  have h73_ := (h72_ la_nativeWays_2)
  refine ⟨la_nativeWays_3, ?_⟩
  intro g16
  intro h74_
  have h75_ := (h74_ la_nativeWays_4)
  refine ⟨la_nativeWays_5, ?_⟩
  intro g22
  intro h76_
  have h77_ := (h76_ la_nativeWays_6)
  refine ⟨?_, ?_⟩
  · skip
    intro g27
    intro h78_
    refine ⟨?_, ?_⟩
    · skip
      intro g32
      intro h79_
      refine ⟨?_, ?_⟩
      · skip
        intro l9_38
        intro h80_
        intro g37
        rintro ⟨h81_, ⟨h82_, h83_⟩⟩
        refine ⟨⟨h7_, ⟨h8_, ⟨h9_, ⟨h10_, ⟨h11_, ⟨h12_, ⟨h13_, ⟨h14_, ⟨h15_, ⟨h16_, ⟨h17_, ⟨h18_, ⟨h19_, ⟨h20_, ⟨h21_, ⟨h22_, ⟨h23_, ⟨h24_, ⟨h60_, ⟨h26_, ⟨h27_, ⟨h28_, ⟨h29_, ⟨h30_, ⟨h31_, ⟨h61_, ⟨h62_, ⟨h63_, ⟨h64_, ⟨h65_, ⟨h66_, ⟨h67_, ⟨h68_, ⟨h69_, (la_nativeWays_7 h32_ h44_ h45_ h46_ h47_ h48_ h53_ h70_ h71_)⟩⟩⟩⟩⟩⟩⟩⟩⟩⟩⟩⟩⟩⟩⟩⟩⟩⟩⟩⟩⟩⟩⟩⟩⟩⟩⟩⟩⟩⟩⟩⟩⟩⟩, ?_⟩
        intro g44
        rintro ⟨h84_, ⟨h85_, ⟨h86_, ⟨h87_, ⟨h88_, ⟨h89_, h90_⟩⟩⟩⟩⟩⟩
        refine ⟨?_, ?_⟩
        · skip
          intro h91_
          have h92_ := (h81_.resolve_right (la_nativeWays_8 h91_))
          refine ⟨h84_, ?_⟩
          refine ⟨h85_, ?_⟩
          refine ⟨h86_, ?_⟩
          refine ⟨h87_, ?_⟩
          refine ⟨h88_, ?_⟩
          refine ⟨h89_, ?_⟩
          exact (la_nativeWays_9 h57_ h58_ h59_ h73_ h75_ h77_ h78_ h79_ h82_ h83_ h90_)
        intro h93_
        have h94_ := (h81_.resolve_left h93_)
        refine ⟨?_, ?_⟩
        · skip
          refine ⟨h7_, ?_⟩
          refine ⟨h8_, ?_⟩
          refine ⟨h9_, ?_⟩
          refine ⟨h10_, ?_⟩
          refine ⟨h11_, ?_⟩
          refine ⟨h12_, ?_⟩
          refine ⟨h13_, ?_⟩
          refine ⟨h14_, ?_⟩
          refine ⟨h15_, ?_⟩
          refine ⟨h16_, ?_⟩
          refine ⟨h17_, ?_⟩
          refine ⟨h18_, ?_⟩
          refine ⟨h19_, ?_⟩
          refine ⟨h20_, ?_⟩
          refine ⟨h21_, ?_⟩
          refine ⟨h22_, ?_⟩
          refine ⟨h23_, ?_⟩
          refine ⟨h87_, ?_⟩
          refine ⟨h84_, ?_⟩
          refine ⟨h85_, ?_⟩
          refine ⟨h86_, ?_⟩
          refine ⟨h28_, ?_⟩
          refine ⟨h29_, ?_⟩
          refine ⟨h30_, ?_⟩
          refine ⟨h89_, ?_⟩
          refine ⟨h32_, ?_⟩
          refine ⟨h33_, ?_⟩
          refine ⟨?_, ?_⟩
          · skip
            have h95_ := (h30_ (S 1148 0))
            have h96_ := (h30_ (S 1148 0 + 1))
            have h97_ := ((h88_ (S 1148 0)) h34_)
            exact h97_
          refine ⟨la_nativeWays_14, ?_⟩
          refine ⟨la_nativeWays_15, ?_⟩
          exact la_nativeWays_16
        intro g50
        rintro ⟨h98_, ⟨h99_, ⟨h100_, ⟨h101_, ⟨h102_, ⟨h103_, h104_⟩⟩⟩⟩⟩⟩
        refine ⟨h98_, ?_⟩
        refine ⟨h99_, ?_⟩
        refine ⟨h100_, ?_⟩
        refine ⟨h101_, ?_⟩
        refine ⟨?_, ?_⟩
        · skip
          intro k
          intro h105_
          have h106_ := (h30_ (S 1148 0))
          have h107_ := (h30_ (S 1148 0 + 1))
          have h108_ := ((h88_ (S 1148 0)) h34_)
          have h109_ := ((h88_ k) h105_)
          have h110_ := ((h102_ k) h109_)
          have h111_ := ((h102_ (S 1148 0)) h108_)
          exact h110_
        refine ⟨h103_, ?_⟩
        exact (la_nativeWays_17 h57_ h58_ h59_ h73_ h75_ h77_ h78_ h79_ h82_ h83_ h90_ h104_)
      refine ⟨?_, ?_⟩
      · skip
        intro h112_
        have h113_ := (h112_.resolve_left (la_nativeWays_18 h35_))
        have h114_ := (h113_.resolve_left (la_nativeWays_19 h36_))
        refine ⟨?_, ?_⟩
        · skip
          intro h115_
          refine ⟨(la_nativeWays_20 h35_ h36_), ?_⟩
          refine ⟨(la_nativeWays_21 h35_ h36_), ?_⟩
          refine ⟨⟨h7_, ⟨h8_, ⟨h9_, ⟨h10_, ⟨h11_, ⟨h12_, ⟨h13_, ⟨h14_, ⟨h15_, ⟨h16_, ⟨h17_, ⟨h18_, ⟨h19_, ⟨h20_, ⟨h21_, ⟨h22_, ⟨h23_, (la_nativeWays_23 h7_ h35_ h36_ h37_ h114_)⟩⟩⟩⟩⟩⟩⟩⟩⟩⟩⟩⟩⟩⟩⟩⟩⟩, ?_⟩
          intro g59
          rintro ⟨h116_, h117_⟩
          refine ⟨la_nativeWays_24, ?_⟩
          intro g66
          intro h118_
          refine ⟨la_nativeWays_25, ?_⟩
          refine ⟨(la_nativeWays_26 h116_ h118_), ?_⟩
          exact h117_
        intro h119_
        refine ⟨(la_nativeWays_20 h35_ h36_), ?_⟩
        refine ⟨(la_nativeWays_21 h35_ h36_), ?_⟩
        refine ⟨⟨h7_, ⟨h8_, ⟨h9_, ⟨h10_, ⟨h11_, ⟨h12_, ⟨h13_, ⟨h14_, ⟨h15_, ⟨h16_, ⟨h17_, ⟨h18_, ⟨h19_, ⟨h20_, ⟨h21_, ⟨h22_, ⟨h23_, (la_nativeWays_27 h7_ h35_ h36_ h37_ h114_)⟩⟩⟩⟩⟩⟩⟩⟩⟩⟩⟩⟩⟩⟩⟩⟩⟩, ?_⟩
        intro g75
        rintro ⟨h120_, h121_⟩
        refine ⟨la_nativeWays_24, ?_⟩
        intro g82
        intro h122_
        refine ⟨la_nativeWays_25, ?_⟩
        refine ⟨(la_nativeWays_26 h120_ h122_), ?_⟩
        exact h121_
      refine ⟨?_, ?_⟩
      · skip
        intro h123_
        refine ⟨la_nativeWays_30, ?_⟩
        intro g89
        intro h124_
        refine ⟨la_nativeWays_25, ?_⟩
        refine ⟨h124_, ?_⟩
        exact la_nativeWays_14
      refine ⟨?_, ?_⟩
      · skip
        intro h125_
        refine ⟨⟨h7_, ⟨h8_, ⟨h9_, ⟨h10_, ⟨h11_, ⟨h12_, ⟨h13_, ⟨h14_, ⟨h15_, ⟨h16_, ⟨h17_, ⟨h18_, ⟨h19_, ⟨h20_, ⟨h21_, ⟨h22_, ⟨h23_, (la_nativeWays_32 h7_)⟩⟩⟩⟩⟩⟩⟩⟩⟩⟩⟩⟩⟩⟩⟩⟩⟩, ?_⟩
        intro g96
        rintro ⟨h126_, h127_⟩
        refine ⟨la_nativeWays_24, ?_⟩
        intro g103
        intro h128_
        refine ⟨la_nativeWays_25, ?_⟩
        refine ⟨(la_nativeWays_26 h126_ h128_), ?_⟩
        exact h127_
      refine ⟨?_, ?_⟩
      · skip
        intro h129_
        refine ⟨⟨h7_, ⟨h8_, ⟨h9_, ⟨h10_, ⟨h11_, ⟨h12_, ⟨h13_, ⟨h14_, ⟨h15_, ⟨h16_, ⟨h17_, ⟨h18_, ⟨h19_, ⟨h20_, ⟨h21_, ⟨h22_, ⟨h23_, (la_nativeWays_34 h7_)⟩⟩⟩⟩⟩⟩⟩⟩⟩⟩⟩⟩⟩⟩⟩⟩⟩, ?_⟩
        intro g110
        rintro ⟨h130_, h131_⟩
        refine ⟨la_nativeWays_24, ?_⟩
        intro g117
        intro h132_
        refine ⟨la_nativeWays_25, ?_⟩
        refine ⟨(la_nativeWays_26 h130_ h132_), ?_⟩
        exact h131_
      refine ⟨?_, ?_⟩
      · skip
        intro h133_
        refine ⟨?_, ?_⟩
        · skip
          intro h134_
          refine ⟨⟨h21_, ⟨h22_, ⟨h23_, ⟨la_nativeWays_36, ⟨la_nativeWays_37, ⟨la_nativeWays_2, ⟨la_nativeWays_38, ⟨h7_, ⟨h8_, ⟨h9_, ⟨h10_, ⟨h11_, ⟨h12_, ⟨h13_, ⟨h14_, ⟨h15_, ⟨h16_, ⟨h17_, ⟨h18_, (la_nativeWays_39 h19_ h20_)⟩⟩⟩⟩⟩⟩⟩⟩⟩⟩⟩⟩⟩⟩⟩⟩⟩⟩⟩, ?_⟩
          intro g124
          intro h135_
          refine ⟨la_nativeWays_25, ?_⟩
          refine ⟨h135_, ?_⟩
          exact la_nativeWays_14
        intro h136_
        refine ⟨la_nativeWays_30, ?_⟩
        intro g131
        intro h137_
        refine ⟨la_nativeWays_25, ?_⟩
        refine ⟨h137_, ?_⟩
        exact la_nativeWays_14
      refine ⟨?_, ?_⟩
      · skip
        intro h138_
        refine ⟨⟨h7_, ⟨h8_, ⟨h9_, ⟨h10_, ⟨h11_, ⟨h12_, ⟨h13_, ⟨h14_, ⟨h15_, ⟨h16_, ⟨h17_, ⟨h18_, ⟨h19_, ⟨h20_, ⟨h21_, ⟨h22_, ⟨h23_, la_nativeWays_41⟩⟩⟩⟩⟩⟩⟩⟩⟩⟩⟩⟩⟩⟩⟩⟩⟩, ?_⟩
        intro g138
        intro h139_
        refine ⟨la_nativeWays_25, ?_⟩
        refine ⟨h139_, ?_⟩
        exact la_nativeWays_14
      refine ⟨?_, ?_⟩
      · skip
        intro h140_
        refine ⟨⟨h7_, ⟨h8_, ⟨h9_, ⟨h10_, ⟨h11_, ⟨h12_, ⟨h13_, ⟨h14_, ⟨h15_, ⟨h16_, ⟨h17_, ⟨h18_, ⟨h19_, ⟨h20_, ⟨h21_, ⟨h22_, ⟨h23_, la_nativeWays_42⟩⟩⟩⟩⟩⟩⟩⟩⟩⟩⟩⟩⟩⟩⟩⟩⟩, ?_⟩
        intro r149
        intro h141_
        intro g145
        rintro ⟨h142_, h143_⟩
        refine ⟨h143_, ?_⟩
        refine ⟨h142_, ?_⟩
        exact la_nativeWays_14
      refine ⟨?_, ?_⟩
      · skip
        intro h144_
        refine ⟨⟨h7_, ⟨h8_, ⟨h9_, ⟨h10_, ⟨h11_, ⟨h12_, ⟨h13_, ⟨h14_, ⟨h15_, ⟨h16_, ⟨h17_, ⟨h18_, ⟨h19_, ⟨h20_, ⟨h21_, ⟨h22_, ⟨h23_, la_nativeWays_42⟩⟩⟩⟩⟩⟩⟩⟩⟩⟩⟩⟩⟩⟩⟩⟩⟩, ?_⟩
        intro r157
        intro h145_
        intro g153
        rintro ⟨h146_, h147_⟩
        refine ⟨h147_, ?_⟩
        refine ⟨h146_, ?_⟩
        exact la_nativeWays_14
      intro h148_
      intro r164
      intro h149_
      intro h150_
      intro r165
      intro h151_
      refine ⟨?_, ?_⟩
      · skip
        intro h152_
        intro r170
        intro h153_
        intro h154_
        intro r171
        rintro ⟨h155_, h156_⟩
        refine ⟨la_nativeWays_46, ?_⟩
        intro h157_
        refine ⟨la_nativeWays_30, ?_⟩
        intro g173
        intro h158_
        refine ⟨la_nativeWays_47, ?_⟩
        refine ⟨h158_, ?_⟩
        exact la_nativeWays_14
      intro h159_
      intro r183
      intro h160_
      intro h161_
      refine ⟨?_, ?_⟩
      · skip
        intro h162_
        have h163_ := (h161_.resolve_right (la_nativeWays_8 h162_))
        intro r188
        intro h164_
        intro h165_
        intro r189
        rintro ⟨h166_, h167_⟩
        refine ⟨la_nativeWays_48, ?_⟩
        intro h168_
        refine ⟨la_nativeWays_30, ?_⟩
        intro g191
        intro h169_
        refine ⟨la_nativeWays_25, ?_⟩
        refine ⟨h169_, ?_⟩
        exact la_nativeWays_14
      intro h170_
      have h171_ := (h161_.resolve_left h170_)
      intro r201
      intro h172_
      intro h173_
      intro r202
      rintro ⟨h174_, h175_⟩
      refine ⟨la_nativeWays_46, ?_⟩
      intro h176_
      refine ⟨la_nativeWays_30, ?_⟩
      intro g204
      intro h177_
      refine ⟨la_nativeWays_47, ?_⟩
      refine ⟨h177_, ?_⟩
      exact la_nativeWays_14
    refine ⟨?_, ?_⟩
    · skip
      intro h178_
      refine ⟨(la_nativeWays_50 h24_ h39_ (la_nativeWays_49 h38_ h178_)), ?_⟩
      intro r216
      intro h179_
      intro h180_
      refine ⟨(la_nativeWays_51 h24_ h39_ (la_nativeWays_49 h38_ h178_) h180_), ?_⟩
      intro g218
      intro h181_
      exact h181_
    intro h182_
    refine ⟨la_nativeWays_52, ?_⟩
    intro g225
    intro h183_
    exact h183_
  refine ⟨?_, ?_⟩
  · skip
    intro h184_
    refine ⟨la_nativeWays_53, ?_⟩
    intro g233
    intro h185_
    exact h185_
  intro h186_
  refine ⟨(la_nativeWays_54 h24_ h40_ h41_), ?_⟩
  intro r244
  intro h187_
  intro h188_
  refine ⟨(la_nativeWays_55 h24_ h40_ h41_ h188_), ?_⟩
  intro g246
  intro h189_
  exact h189_
set_option maxRecDepth 8000 in
set_option maxHeartbeats 2000000 in
theorem t_nativeWays : ∀ (p1 : Int) (p2 : Int) (p3 : Int) (p4 : Int) (p5 : Int) (S : sv_S), sm_ok S → sv_R p1 → sv_R p2 → sv_R p3 → sv_R p4 → sv_R p5 → (29 ≤ (S 1071 0) ∧ (S 1071 0) ≤ 127 ∧ 31 ≤ (S 1008 0) ∧ (S 1008 0) ≤ 90 ∧ 1 ≤ (S 1032 0) ∧ (S 1032 0) ≤ 11 ∧ 0 ≤ (S 1055 0) ∧ (S 1055 0) ≤ 19 ∧ (S 1071 0) = 29 + 6 * ((S 1032 0) - 1) + 2 * (S 1055 0) ∧ 0 ≤ (S 1046 0) ∧ (S 1046 0) + 2 * (S 1032 0) ≤ 500 ∧ sm_PD (S 1046 0) (S 1032 0) (S 1071 0) (S 1008 0) ∧ 0 ≤ (S 1071 0) * ((S 1008 0) + 1) ∧ (S 1071 0) * ((S 1008 0) + 1) ≤ 11557 ∧ 31 ≤ (S 1007 0) ∧ (S 1007 0) ≤ 400 ∧ sm_LN (S 4) 400 (S 1007 0) ∧ (S 75 639) = 647340 ∧ sm_ST (S 71) (S 74) (S 75) (S 78) (S 79) (S 80) (S 27) (S 1100007) (S 1100023) (S 1100024) (S 1046 0) ((S 1046 0) + 2 * (S 1032 0)) (S 1127 0) ∧ 465000 ≤ (S 1127 0) ∧ (S 1127 0) + sm_hs (S 71) (S 1100007) ≤ 635000 ∧ sm_NH (S 1100007) ∧ sm_CT (S 26) (S 27) (S 28) (S 29) (S 1100007) (S 1100023) (S 1100024) (S 1100025) (S 21) (S 1046 0) (S 1032 0) (S 1008 0) (S 1055 0) ∧ (∀ k : Int, (S 1046 0) ≤ k → k < ((S 1046 0) + 2 * (S 1032 0)) → (S 1100007 k) = 1) ∧ sm_DR (S 72) (S 71) (S 1046 0) ∧ 0 ≤ (S 1148 0) ∧ (S 1148 0) < (S 1046 0) ∧ (S 71 (S 1148 0)) = 1 ∧ 9 ≤ p1 ∧ p1 ≤ 22 ∧ ¬ p1 = 20 ∧ -1 ≤ p2 ∧ p2 ≤ 450 ∧ 0 ≤ p3 ∧ p3 ≤ 450 ∧ 0 ≤ p4 ∧ p4 ≤ 8 ∧ 1 ≤ p5 ∧ p5 ≤ (S 1100007 (S 1148 0)) ∧ (S 1100007 ((S 1148 0) + 1)) = (S 1100007 (S 1148 0)) - p5 + 1 ∧ (S 1148 0) + 1 < (S 1046 0) ∧ (S 1100023 ((S 1148 0) + 1)) = (S 1100023 (S 1148 0))) → sv_T sm_XS sm_cs sm_L sm_sh 9 (q_nativeWays p1 p2 p3 p4 p5 S) 287 0 (lv_args 0 [.ref 0, sv_I p1, sv_I p2, sv_I p3, sv_I p4, sv_I p5]) [] S := by
  intro p1 p2 p3 p4 p5 S hok hp1 hp2 hp3 hp4 hp5 hpre
  have h := f_nativeWays p1 p2 p3 p4 p5 S hok hp1 hp2 hp3 hp4 hp5 hpre
  have hM := sm_h287
  show sv_T sm_XS sm_cs sm_L sm_sh 9 (q_nativeWays p1 p2 p3 p4 p5 S) 287 0 [(0, .ref 0), (1, sv_I p1), (2, sv_I p2), (3, sv_I p3), (4, sv_I p4), (5, sv_I p5)] [] S
  have k1 : (sm_CT (S 26) (S 27) (S 28) (S 29) (S 1100007) (S 1100023) (S 1100024) (S 1100025) (S 21) (S 1046 0) (S 1032 0) (S 1008 0) (S 1055 0) → 0 ≤ (S 1148 0) → (S 1148 0) < (S 1046 0) → 0 ≤ (S 1100007 (S 1148 0)) ∧ (S 1100007 (S 1148 0)) ≤ 396 ∧ -1 ≤ (S 1100023 (S 1148 0)) ∧ (S 1100023 (S 1148 0)) < (S 1148 0)) := fun h h0 h1 => by have q := sm_ct_0 h _ h0 h1; exact ⟨q.2.2.2.2.1, q.2.2.2.2.2.1, q.2.2.2.2.2.2.2.1, q.2.2.2.2.2.2.2.2.1⟩
  have h := h k1
  refine sv_aload_n hM dX12_nativeWays_0 rfl rfl ?_
  refine sv_aload_n hM dX12_nativeWays_1 rfl rfl ?_
  have k2 : sv_R (S 1148 0) := sm_okI hok sm_r1148 0
  have h := h k2
  refine sv_getI hM dX12_nativeWays_2 sm_fl_1188 (sm_a0 _) sm_k148 rfl (x := (S 1148 0)) rfl ?_
  obtain ⟨o3, h⟩ := h
  refine sv_callV hM dX12_nativeWays_5 sm_iv_1211 (by decide) (sm_a0 _) rfl rfl (Nat.le_of_ble_eq_true rfl) sm_h231 (Nat.le_of_ble_eq_true rfl) (Nat.le_of_ble_eq_true rfl) (F' := 3) (Nat.le_of_ble_eq_true rfl) rfl (t_load (S 1148 0) S hok k2 o3) (fun v S1 hq => ?_)
  obtain ⟨rfl, ok5, md6, hpo7⟩ := hq
  obtain ⟨g4, rfl⟩ : ∃ g, S1 = sv_sts S [68, 69, 70, 81, 82, 83, 84, 85, 86, 74, 78, 79, 80, 76, 77, 1100031] g := ⟨_, md6.eq⟩
  show sv_T sm_XS sm_cs sm_L sm_sh 9 (q_nativeWays p1 p2 p3 p4 p5 S) 287 8 [(0, .ref 0), (1, sv_I p1), (2, sv_I p2), (3, sv_I p3), (4, sv_I p4), (5, sv_I p5)] [] (sv_sts S [68, 69, 70, 81, 82, 83, 84, 85, 86, 74, 78, 79, 80, 76, 77, 1100031] g4)
  have md8 : sv_mod [68, 69, 70, 81, 82, 83, 84, 85, 86, 71, 74, 75, 1127, 78, 79, 80, 72, 76, 77, 1143, 1144, 5, 1011, 1150, 1149, 1145, 1113, 1111, 1112, 1100031] S (sv_sts S [68, 69, 70, 81, 82, 83, 84, 85, 86, 74, 78, 79, 80, 76, 77, 1100031] g4) := sv_mod.sts sv_mod.rf (by decide)
  have h := h g4 hpo7
  refine sv_ldc_w (d := (647760 : Int)) hM dX12_nativeWays_8 sm_ck_1358 rfl rfl ?_
  refine sv_istore hM dX12_nativeWays_11 (by decide) rfl ?_
  show sv_T sm_XS sm_cs sm_L sm_sh 9 (q_nativeWays p1 p2 p3 p4 p5 S) 287 13 [(0, .ref 0), (1, sv_I p1), (2, sv_I p2), (3, sv_I p3), (4, sv_I p4), (5, sv_I p5), (6, sv_I (647760 : Int))] [] (sv_sts S [68, 69, 70, 81, 82, 83, 84, 85, 86, 74, 78, 79, 80, 76, 77, 1100031] g4)
  refine sv_ldc_w (d := (647761 : Int)) hM dX12_nativeWays_13 sm_ck_1359 rfl rfl ?_
  refine sv_istore hM dX12_nativeWays_16 (by decide) rfl ?_
  show sv_T sm_XS sm_cs sm_L sm_sh 9 (q_nativeWays p1 p2 p3 p4 p5 S) 287 18 [(0, .ref 0), (1, sv_I p1), (2, sv_I p2), (3, sv_I p3), (4, sv_I p4), (5, sv_I p5), (6, sv_I (647760 : Int)), (7, sv_I (647761 : Int))] [] (sv_sts S [68, 69, 70, 81, 82, 83, 84, 85, 86, 74, 78, 79, 80, 76, 77, 1100031] g4)
  refine sv_ldc_w (d := (647762 : Int)) hM dX12_nativeWays_18 sm_ck_1360 rfl rfl ?_
  refine sv_istore hM dX12_nativeWays_21 (by decide) rfl ?_
  show sv_T sm_XS sm_cs sm_L sm_sh 9 (q_nativeWays p1 p2 p3 p4 p5 S) 287 23 [(0, .ref 0), (1, sv_I p1), (2, sv_I p2), (3, sv_I p3), (4, sv_I p4), (5, sv_I p5), (6, sv_I (647760 : Int)), (7, sv_I (647761 : Int)), (8, sv_I (647762 : Int))] [] (sv_sts S [68, 69, 70, 81, 82, 83, 84, 85, 86, 74, 78, 79, 80, 76, 77, 1100031] g4)
  refine sv_aload_n hM dX12_nativeWays_23 rfl rfl ?_
  refine sv_iload hM dX12_nativeWays_24 rfl rfl ?_
  obtain ⟨o9, h⟩ := h
  refine sv_callV hM dX12_nativeWays_26 sm_iv_1066 (by decide) (sm_a0 _) rfl rfl (Nat.le_of_ble_eq_true rfl) sm_h206 (Nat.le_of_ble_eq_true rfl) (Nat.le_of_ble_eq_true rfl) (F' := 0) (Nat.le_of_ble_eq_true rfl) rfl (t_empty (647760 : Int) (sv_sts S [68, 69, 70, 81, 82, 83, 84, 85, 86, 74, 78, 79, 80, 76, 77, 1100031] g4) ok5 (⟨by decide, by decide⟩ : sv_R (647760 : Int)) o9) (fun v S1 hq => ?_)
  obtain ⟨rfl, ok11, md12, hpo13⟩ := hq
  obtain ⟨g10, rfl⟩ : ∃ g, S1 = sv_sts (sv_sts S [68, 69, 70, 81, 82, 83, 84, 85, 86, 74, 78, 79, 80, 76, 77, 1100031] g4) [68, 69, 70] g := ⟨_, md12.eq⟩
  show sv_T sm_XS sm_cs sm_L sm_sh 9 (q_nativeWays p1 p2 p3 p4 p5 S) 287 29 [(0, .ref 0), (1, sv_I p1), (2, sv_I p2), (3, sv_I p3), (4, sv_I p4), (5, sv_I p5), (6, sv_I (647760 : Int)), (7, sv_I (647761 : Int)), (8, sv_I (647762 : Int))] [] (sv_sts (sv_sts S [68, 69, 70, 81, 82, 83, 84, 85, 86, 74, 78, 79, 80, 76, 77, 1100031] g4) [68, 69, 70] g10)
  have md14 : sv_mod [68, 69, 70, 81, 82, 83, 84, 85, 86, 71, 74, 75, 1127, 78, 79, 80, 72, 76, 77, 1143, 1144, 5, 1011, 1150, 1149, 1145, 1113, 1111, 1112, 1100031] S (sv_sts (sv_sts S [68, 69, 70, 81, 82, 83, 84, 85, 86, 74, 78, 79, 80, 76, 77, 1100031] g4) [68, 69, 70] g10) := sv_mod.sts md8 (by decide)
  have h := h g10 hpo13
  refine sv_aload_n hM dX12_nativeWays_29 rfl rfl ?_
  refine sv_iload hM dX12_nativeWays_30 rfl rfl ?_
  obtain ⟨o15, h⟩ := h
  refine sv_callV hM dX12_nativeWays_32 sm_iv_1066 (by decide) (sm_a0 _) rfl rfl (Nat.le_of_ble_eq_true rfl) sm_h206 (Nat.le_of_ble_eq_true rfl) (Nat.le_of_ble_eq_true rfl) (F' := 0) (Nat.le_of_ble_eq_true rfl) rfl (t_empty (647761 : Int) (sv_sts (sv_sts S [68, 69, 70, 81, 82, 83, 84, 85, 86, 74, 78, 79, 80, 76, 77, 1100031] g4) [68, 69, 70] g10) ok11 (⟨by decide, by decide⟩ : sv_R (647761 : Int)) o15) (fun v S1 hq => ?_)
  obtain ⟨rfl, ok17, md18, hpo19⟩ := hq
  obtain ⟨g16, rfl⟩ : ∃ g, S1 = sv_sts (sv_sts (sv_sts S [68, 69, 70, 81, 82, 83, 84, 85, 86, 74, 78, 79, 80, 76, 77, 1100031] g4) [68, 69, 70] g10) [68, 69, 70] g := ⟨_, md18.eq⟩
  show sv_T sm_XS sm_cs sm_L sm_sh 9 (q_nativeWays p1 p2 p3 p4 p5 S) 287 35 [(0, .ref 0), (1, sv_I p1), (2, sv_I p2), (3, sv_I p3), (4, sv_I p4), (5, sv_I p5), (6, sv_I (647760 : Int)), (7, sv_I (647761 : Int)), (8, sv_I (647762 : Int))] [] (sv_sts (sv_sts (sv_sts S [68, 69, 70, 81, 82, 83, 84, 85, 86, 74, 78, 79, 80, 76, 77, 1100031] g4) [68, 69, 70] g10) [68, 69, 70] g16)
  have md20 : sv_mod [68, 69, 70, 81, 82, 83, 84, 85, 86, 71, 74, 75, 1127, 78, 79, 80, 72, 76, 77, 1143, 1144, 5, 1011, 1150, 1149, 1145, 1113, 1111, 1112, 1100031] S (sv_sts (sv_sts (sv_sts S [68, 69, 70, 81, 82, 83, 84, 85, 86, 74, 78, 79, 80, 76, 77, 1100031] g4) [68, 69, 70] g10) [68, 69, 70] g16) := sv_mod.sts md14 (by decide)
  have h := h g16 hpo19
  refine sv_aload_n hM dX12_nativeWays_35 rfl rfl ?_
  refine sv_iload hM dX12_nativeWays_36 rfl rfl ?_
  obtain ⟨o21, h⟩ := h
  refine sv_callV hM dX12_nativeWays_38 sm_iv_1066 (by decide) (sm_a0 _) rfl rfl (Nat.le_of_ble_eq_true rfl) sm_h206 (Nat.le_of_ble_eq_true rfl) (Nat.le_of_ble_eq_true rfl) (F' := 0) (Nat.le_of_ble_eq_true rfl) rfl (t_empty (647762 : Int) (sv_sts (sv_sts (sv_sts S [68, 69, 70, 81, 82, 83, 84, 85, 86, 74, 78, 79, 80, 76, 77, 1100031] g4) [68, 69, 70] g10) [68, 69, 70] g16) ok17 (⟨by decide, by decide⟩ : sv_R (647762 : Int)) o21) (fun v S1 hq => ?_)
  obtain ⟨rfl, ok23, md24, hpo25⟩ := hq
  obtain ⟨g22, rfl⟩ : ∃ g, S1 = sv_sts (sv_sts (sv_sts (sv_sts S [68, 69, 70, 81, 82, 83, 84, 85, 86, 74, 78, 79, 80, 76, 77, 1100031] g4) [68, 69, 70] g10) [68, 69, 70] g16) [68, 69, 70] g := ⟨_, md24.eq⟩
  show sv_T sm_XS sm_cs sm_L sm_sh 9 (q_nativeWays p1 p2 p3 p4 p5 S) 287 41 [(0, .ref 0), (1, sv_I p1), (2, sv_I p2), (3, sv_I p3), (4, sv_I p4), (5, sv_I p5), (6, sv_I (647760 : Int)), (7, sv_I (647761 : Int)), (8, sv_I (647762 : Int))] [] (sv_sts (sv_sts (sv_sts (sv_sts S [68, 69, 70, 81, 82, 83, 84, 85, 86, 74, 78, 79, 80, 76, 77, 1100031] g4) [68, 69, 70] g10) [68, 69, 70] g16) [68, 69, 70] g22)
  have md26 : sv_mod [68, 69, 70, 81, 82, 83, 84, 85, 86, 71, 74, 75, 1127, 78, 79, 80, 72, 76, 77, 1143, 1144, 5, 1011, 1150, 1149, 1145, 1113, 1111, 1112, 1100031] S (sv_sts (sv_sts (sv_sts (sv_sts S [68, 69, 70, 81, 82, 83, 84, 85, 86, 74, 78, 79, 80, 76, 77, 1100031] g4) [68, 69, 70] g10) [68, 69, 70] g16) [68, 69, 70] g22) := sv_mod.sts md20 (by decide)
  have h := h g22 hpo25
  have J231 : ∀ g27 : sv_S, sm_ok (sv_sts (sv_sts (sv_sts (sv_sts (sv_sts S [68, 69, 70, 81, 82, 83, 84, 85, 86, 74, 78, 79, 80, 76, 77, 1100031] g4) [68, 69, 70] g10) [68, 69, 70] g16) [68, 69, 70] g22) [68, 69, 70] g27) → (sm_pt (g27 68) (g27 69) (g27 70) = sm_pt (g22 68) (g22 69) (g22 70)) → sv_T sm_XS sm_cs sm_L sm_sh 9 (q_nativeWays p1 p2 p3 p4 p5 S) 287 70 [(0, .ref 0), (1, sv_I p1), (2, sv_I p2), (3, sv_I p3), (4, sv_I p4), (5, sv_I p5), (6, sv_I (647760 : Int)), (7, sv_I (647761 : Int)), (8, sv_I (647762 : Int))] [] (sv_sts (sv_sts (sv_sts (sv_sts (sv_sts S [68, 69, 70, 81, 82, 83, 84, 85, 86, 74, 78, 79, 80, 76, 77, 1100031] g4) [68, 69, 70] g10) [68, 69, 70] g16) [68, 69, 70] g22) [68, 69, 70] g27) := by
    intro  g27 ok28 hin29
    have h := h.1 g27 hin29
    have md30 : sv_mod [68, 69, 70, 81, 82, 83, 84, 85, 86, 71, 74, 75, 1127, 78, 79, 80, 72, 76, 77, 1143, 1144, 5, 1011, 1150, 1149, 1145, 1113, 1111, 1112, 1100031] S (sv_sts (sv_sts (sv_sts (sv_sts (sv_sts S [68, 69, 70, 81, 82, 83, 84, 85, 86, 74, 78, 79, 80, 76, 77, 1100031] g4) [68, 69, 70] g10) [68, 69, 70] g16) [68, 69, 70] g22) [68, 69, 70] g27) := sv_mod.sts md26 (by decide)
    have md31 : sv_mod [68, 69, 70] (sv_sts (sv_sts (sv_sts (sv_sts S [68, 69, 70, 81, 82, 83, 84, 85, 86, 74, 78, 79, 80, 76, 77, 1100031] g4) [68, 69, 70] g10) [68, 69, 70] g16) [68, 69, 70] g22) (sv_sts (sv_sts (sv_sts (sv_sts (sv_sts S [68, 69, 70, 81, 82, 83, 84, 85, 86, 74, 78, 79, 80, 76, 77, 1100031] g4) [68, 69, 70] g10) [68, 69, 70] g16) [68, 69, 70] g22) [68, 69, 70] g27) := sv_mod.sts sv_mod.rf (by decide)
    have J210 : ∀ g32 : sv_S, sm_ok (sv_sts (sv_sts (sv_sts (sv_sts (sv_sts (sv_sts S [68, 69, 70, 81, 82, 83, 84, 85, 86, 74, 78, 79, 80, 76, 77, 1100031] g4) [68, 69, 70] g10) [68, 69, 70] g16) [68, 69, 70] g22) [68, 69, 70] g27) [68, 69, 70] g32) → (sm_pt (g32 68) (g32 69) (g32 70) = sm_pt (g27 68) (g27 69) (g27 70)) → sv_T sm_XS sm_cs sm_L sm_sh 9 (q_nativeWays p1 p2 p3 p4 p5 S) 287 99 [(0, .ref 0), (1, sv_I p1), (2, sv_I p2), (3, sv_I p3), (4, sv_I p4), (5, sv_I p5), (6, sv_I (647760 : Int)), (7, sv_I (647761 : Int)), (8, sv_I (647762 : Int))] [] (sv_sts (sv_sts (sv_sts (sv_sts (sv_sts (sv_sts S [68, 69, 70, 81, 82, 83, 84, 85, 86, 74, 78, 79, 80, 76, 77, 1100031] g4) [68, 69, 70] g10) [68, 69, 70] g16) [68, 69, 70] g22) [68, 69, 70] g27) [68, 69, 70] g32) := by
      intro  g32 ok33 hin34
      have h := h.1 g32 hin34
      have md35 : sv_mod [68, 69, 70, 81, 82, 83, 84, 85, 86, 71, 74, 75, 1127, 78, 79, 80, 72, 76, 77, 1143, 1144, 5, 1011, 1150, 1149, 1145, 1113, 1111, 1112, 1100031] S (sv_sts (sv_sts (sv_sts (sv_sts (sv_sts (sv_sts S [68, 69, 70, 81, 82, 83, 84, 85, 86, 74, 78, 79, 80, 76, 77, 1100031] g4) [68, 69, 70] g10) [68, 69, 70] g16) [68, 69, 70] g22) [68, 69, 70] g27) [68, 69, 70] g32) := sv_mod.sts md30 (by decide)
      have md36 : sv_mod [68, 69, 70] (sv_sts (sv_sts (sv_sts (sv_sts (sv_sts S [68, 69, 70, 81, 82, 83, 84, 85, 86, 74, 78, 79, 80, 76, 77, 1100031] g4) [68, 69, 70] g10) [68, 69, 70] g16) [68, 69, 70] g22) [68, 69, 70] g27) (sv_sts (sv_sts (sv_sts (sv_sts (sv_sts (sv_sts S [68, 69, 70, 81, 82, 83, 84, 85, 86, 74, 78, 79, 80, 76, 77, 1100031] g4) [68, 69, 70] g10) [68, 69, 70] g16) [68, 69, 70] g22) [68, 69, 70] g27) [68, 69, 70] g32) := sv_mod.sts sv_mod.rf (by decide)
      refine sv_iconst (d := (0 : Int)) hM dX12_nativeWays_99 rfl rfl ?_
      refine sv_istore hM dX12_nativeWays_100 (by decide) rfl ?_
      show sv_T sm_XS sm_cs sm_L sm_sh 9 (q_nativeWays p1 p2 p3 p4 p5 S) 287 102 [(0, .ref 0), (1, sv_I p1), (2, sv_I p2), (3, sv_I p3), (4, sv_I p4), (5, sv_I p5), (6, sv_I (647760 : Int)), (7, sv_I (647761 : Int)), (8, sv_I (647762 : Int)), (9, sv_I (0 : Int))] [] (sv_sts (sv_sts (sv_sts (sv_sts (sv_sts (sv_sts S [68, 69, 70, 81, 82, 83, 84, 85, 86, 74, 78, 79, 80, 76, 77, 1100031] g4) [68, 69, 70] g10) [68, 69, 70] g16) [68, 69, 70] g22) [68, 69, 70] g27) [68, 69, 70] g32)
      have J55 : ∀ l9_38 : Int, sv_R l9_38 → ∀ g37 : sv_S, sm_ok (sv_sts (sv_sts (sv_sts (sv_sts (sv_sts (sv_sts (sv_sts S [68, 69, 70, 81, 82, 83, 84, 85, 86, 74, 78, 79, 80, 76, 77, 1100031] g4) [68, 69, 70] g10) [68, 69, 70] g16) [68, 69, 70] g22) [68, 69, 70] g27) [68, 69, 70] g32) [68, 69, 70, 1143, 1144, 5, 1011, 81, 82, 83, 84, 85, 86, 1113, 1111, 1112] g37) → ((l9_38 = 0 ∨ l9_38 = 1) ∧ sm_pt (g37 68) (g37 69) (g37 70) = sm_pt (g32 68) (g32 69) (g32 70) ∧ sm_pl (g37 81) (g37 82) (g37 83) (g37 84) (g37 85) (g37 86) = sm_pl (g4 81) (g4 82) (g4 83) (g4 84) (g4 85) (g4 86)) → sv_T sm_XS sm_cs sm_L sm_sh 9 (q_nativeWays p1 p2 p3 p4 p5 S) 287 377 [(0, .ref 0), (1, sv_I p1), (2, sv_I p2), (3, sv_I p3), (4, sv_I p4), (5, sv_I p5), (6, sv_I (647760 : Int)), (7, sv_I (647761 : Int)), (8, sv_I (647762 : Int)), (9, sv_I l9_38)] [] (sv_sts (sv_sts (sv_sts (sv_sts (sv_sts (sv_sts (sv_sts S [68, 69, 70, 81, 82, 83, 84, 85, 86, 74, 78, 79, 80, 76, 77, 1100031] g4) [68, 69, 70] g10) [68, 69, 70] g16) [68, 69, 70] g22) [68, 69, 70] g27) [68, 69, 70] g32) [68, 69, 70, 1143, 1144, 5, 1011, 81, 82, 83, 84, 85, 86, 1113, 1111, 1112] g37) := by
        intro l9_38 hl9_38 g37 ok39 hin40
        have h := h.1 l9_38 hl9_38 g37 hin40
        have md41 : sv_mod [68, 69, 70, 81, 82, 83, 84, 85, 86, 71, 74, 75, 1127, 78, 79, 80, 72, 76, 77, 1143, 1144, 5, 1011, 1150, 1149, 1145, 1113, 1111, 1112, 1100031] S (sv_sts (sv_sts (sv_sts (sv_sts (sv_sts (sv_sts (sv_sts S [68, 69, 70, 81, 82, 83, 84, 85, 86, 74, 78, 79, 80, 76, 77, 1100031] g4) [68, 69, 70] g10) [68, 69, 70] g16) [68, 69, 70] g22) [68, 69, 70] g27) [68, 69, 70] g32) [68, 69, 70, 1143, 1144, 5, 1011, 81, 82, 83, 84, 85, 86, 1113, 1111, 1112] g37) := sv_mod.sts md35 (by decide)
        have md42 : sv_mod [68, 69, 70, 1143, 1144, 5, 1011, 81, 82, 83, 84, 85, 86, 1113, 1111, 1112] (sv_sts (sv_sts (sv_sts (sv_sts (sv_sts (sv_sts S [68, 69, 70, 81, 82, 83, 84, 85, 86, 74, 78, 79, 80, 76, 77, 1100031] g4) [68, 69, 70] g10) [68, 69, 70] g16) [68, 69, 70] g22) [68, 69, 70] g27) [68, 69, 70] g32) (sv_sts (sv_sts (sv_sts (sv_sts (sv_sts (sv_sts (sv_sts S [68, 69, 70, 81, 82, 83, 84, 85, 86, 74, 78, 79, 80, 76, 77, 1100031] g4) [68, 69, 70] g10) [68, 69, 70] g16) [68, 69, 70] g22) [68, 69, 70] g27) [68, 69, 70] g32) [68, 69, 70, 1143, 1144, 5, 1011, 81, 82, 83, 84, 85, 86, 1113, 1111, 1112] g37) := sv_mod.sts sv_mod.rf (by decide)
        refine sv_aload_n hM dX12_nativeWays_377 rfl rfl ?_
        refine sv_iload hM dX12_nativeWays_378 rfl rfl ?_
        refine sv_iload hM dX12_nativeWays_380 rfl rfl ?_
        obtain ⟨o43, h⟩ := h
        refine sv_callV hM dX12_nativeWays_382 sm_iv_1258 (by decide) (sm_a0 _) rfl rfl (Nat.le_of_ble_eq_true rfl) sm_h267 (Nat.le_of_ble_eq_true rfl) (Nat.le_of_ble_eq_true rfl) (F' := 5) (Nat.le_of_ble_eq_true rfl) rfl (t_replace p5 (647760 : Int) (sv_sts (sv_sts (sv_sts (sv_sts (sv_sts (sv_sts (sv_sts S [68, 69, 70, 81, 82, 83, 84, 85, 86, 74, 78, 79, 80, 76, 77, 1100031] g4) [68, 69, 70] g10) [68, 69, 70] g16) [68, 69, 70] g22) [68, 69, 70] g27) [68, 69, 70] g32) [68, 69, 70, 1143, 1144, 5, 1011, 81, 82, 83, 84, 85, 86, 1113, 1111, 1112] g37) ok39 hp5 (⟨by decide, by decide⟩ : sv_R (647760 : Int)) o43) (fun v S1 hq => ?_)
        obtain ⟨rfl, ok45, md46, hpo47⟩ := hq
        obtain ⟨g44, rfl⟩ : ∃ g, S1 = sv_sts (sv_sts (sv_sts (sv_sts (sv_sts (sv_sts (sv_sts (sv_sts S [68, 69, 70, 81, 82, 83, 84, 85, 86, 74, 78, 79, 80, 76, 77, 1100031] g4) [68, 69, 70] g10) [68, 69, 70] g16) [68, 69, 70] g22) [68, 69, 70] g27) [68, 69, 70] g32) [68, 69, 70, 1143, 1144, 5, 1011, 81, 82, 83, 84, 85, 86, 1113, 1111, 1112] g37) [68, 69, 70, 81, 82, 83, 84, 85, 86, 71, 74, 75, 1127, 78, 79, 80, 72, 76, 77, 1150] g := ⟨_, md46.eq⟩
        show sv_T sm_XS sm_cs sm_L sm_sh 9 (q_nativeWays p1 p2 p3 p4 p5 S) 287 385 [(0, .ref 0), (1, sv_I p1), (2, sv_I p2), (3, sv_I p3), (4, sv_I p4), (5, sv_I p5), (6, sv_I (647760 : Int)), (7, sv_I (647761 : Int)), (8, sv_I (647762 : Int)), (9, sv_I l9_38)] [] (sv_sts (sv_sts (sv_sts (sv_sts (sv_sts (sv_sts (sv_sts (sv_sts S [68, 69, 70, 81, 82, 83, 84, 85, 86, 74, 78, 79, 80, 76, 77, 1100031] g4) [68, 69, 70] g10) [68, 69, 70] g16) [68, 69, 70] g22) [68, 69, 70] g27) [68, 69, 70] g32) [68, 69, 70, 1143, 1144, 5, 1011, 81, 82, 83, 84, 85, 86, 1113, 1111, 1112] g37) [68, 69, 70, 81, 82, 83, 84, 85, 86, 71, 74, 75, 1127, 78, 79, 80, 72, 76, 77, 1150] g44)
        have md48 : sv_mod [68, 69, 70, 81, 82, 83, 84, 85, 86, 71, 74, 75, 1127, 78, 79, 80, 72, 76, 77, 1143, 1144, 5, 1011, 1150, 1149, 1145, 1113, 1111, 1112, 1100031] S (sv_sts (sv_sts (sv_sts (sv_sts (sv_sts (sv_sts (sv_sts (sv_sts S [68, 69, 70, 81, 82, 83, 84, 85, 86, 74, 78, 79, 80, 76, 77, 1100031] g4) [68, 69, 70] g10) [68, 69, 70] g16) [68, 69, 70] g22) [68, 69, 70] g27) [68, 69, 70] g32) [68, 69, 70, 1143, 1144, 5, 1011, 81, 82, 83, 84, 85, 86, 1113, 1111, 1112] g37) [68, 69, 70, 81, 82, 83, 84, 85, 86, 71, 74, 75, 1127, 78, 79, 80, 72, 76, 77, 1150] g44) := sv_mod.sts md41 (by decide)
        have h := h g44 hpo47
        refine sv_iload hM dX12_nativeWays_385 rfl rfl ?_
        refine sv_cond_eq hM dX12_nativeWays_387 hl9_38 (t := 400) rfl rfl (fun hc => ?_) (fun hc => ?_)
        · have h := h.1 (hc)
          exact sv_vret hM dX12_nativeWays_400 rfl ⟨rfl, ok45, md48, h⟩
        · have h := h.2 (hc)
          refine sv_aload_n hM dX12_nativeWays_390 rfl rfl ?_
          refine sv_aload_n hM dX12_nativeWays_391 rfl rfl ?_
          refine sv_getI hM dX12_nativeWays_392 sm_fl_1188 (sm_a0 _) sm_k148 rfl (x := (S 1148 0)) rfl ?_
          refine sv_bipush (d := (6 : Int)) hM dX12_nativeWays_395 rfl rfl ?_
          obtain ⟨o49, h⟩ := h
          refine sv_callV hM dX12_nativeWays_397 sm_iv_1292 (by decide) (sm_a0 _) rfl rfl (Nat.le_of_ble_eq_true rfl) sm_h263 (Nat.le_of_ble_eq_true rfl) (Nat.le_of_ble_eq_true rfl) (F' := 8) (Nat.le_of_ble_eq_true rfl) rfl (t_error_ (S 1148 0) (6 : Int) (sv_sts (sv_sts (sv_sts (sv_sts (sv_sts (sv_sts (sv_sts (sv_sts S [68, 69, 70, 81, 82, 83, 84, 85, 86, 74, 78, 79, 80, 76, 77, 1100031] g4) [68, 69, 70] g10) [68, 69, 70] g16) [68, 69, 70] g22) [68, 69, 70] g27) [68, 69, 70] g32) [68, 69, 70, 1143, 1144, 5, 1011, 81, 82, 83, 84, 85, 86, 1113, 1111, 1112] g37) [68, 69, 70, 81, 82, 83, 84, 85, 86, 71, 74, 75, 1127, 78, 79, 80, 72, 76, 77, 1150] g44) ok45 k2 (⟨by decide, by decide⟩ : sv_R (6 : Int)) o49) (fun v S1 hq => ?_)
          obtain ⟨rfl, ok51, md52, hpo53⟩ := hq
          obtain ⟨g50, rfl⟩ : ∃ g, S1 = sv_sts (sv_sts (sv_sts (sv_sts (sv_sts (sv_sts (sv_sts (sv_sts (sv_sts S [68, 69, 70, 81, 82, 83, 84, 85, 86, 74, 78, 79, 80, 76, 77, 1100031] g4) [68, 69, 70] g10) [68, 69, 70] g16) [68, 69, 70] g22) [68, 69, 70] g27) [68, 69, 70] g32) [68, 69, 70, 1143, 1144, 5, 1011, 81, 82, 83, 84, 85, 86, 1113, 1111, 1112] g37) [68, 69, 70, 81, 82, 83, 84, 85, 86, 71, 74, 75, 1127, 78, 79, 80, 72, 76, 77, 1150] g44) [68, 69, 70, 81, 82, 83, 84, 85, 86, 71, 74, 75, 1127, 78, 79, 80, 72, 76, 77, 1143, 1144, 5, 1011, 1150, 1149, 1145, 1113, 1111, 1112, 1100031] g := ⟨_, md52.eq⟩
          show sv_T sm_XS sm_cs sm_L sm_sh 9 (q_nativeWays p1 p2 p3 p4 p5 S) 287 400 [(0, .ref 0), (1, sv_I p1), (2, sv_I p2), (3, sv_I p3), (4, sv_I p4), (5, sv_I p5), (6, sv_I (647760 : Int)), (7, sv_I (647761 : Int)), (8, sv_I (647762 : Int)), (9, sv_I l9_38)] [] (sv_sts (sv_sts (sv_sts (sv_sts (sv_sts (sv_sts (sv_sts (sv_sts (sv_sts S [68, 69, 70, 81, 82, 83, 84, 85, 86, 74, 78, 79, 80, 76, 77, 1100031] g4) [68, 69, 70] g10) [68, 69, 70] g16) [68, 69, 70] g22) [68, 69, 70] g27) [68, 69, 70] g32) [68, 69, 70, 1143, 1144, 5, 1011, 81, 82, 83, 84, 85, 86, 1113, 1111, 1112] g37) [68, 69, 70, 81, 82, 83, 84, 85, 86, 71, 74, 75, 1127, 78, 79, 80, 72, 76, 77, 1150] g44) [68, 69, 70, 81, 82, 83, 84, 85, 86, 71, 74, 75, 1127, 78, 79, 80, 72, 76, 77, 1143, 1144, 5, 1011, 1150, 1149, 1145, 1113, 1111, 1112, 1100031] g50)
          have md54 : sv_mod [68, 69, 70, 81, 82, 83, 84, 85, 86, 71, 74, 75, 1127, 78, 79, 80, 72, 76, 77, 1143, 1144, 5, 1011, 1150, 1149, 1145, 1113, 1111, 1112, 1100031] S (sv_sts (sv_sts (sv_sts (sv_sts (sv_sts (sv_sts (sv_sts (sv_sts (sv_sts S [68, 69, 70, 81, 82, 83, 84, 85, 86, 74, 78, 79, 80, 76, 77, 1100031] g4) [68, 69, 70] g10) [68, 69, 70] g16) [68, 69, 70] g22) [68, 69, 70] g27) [68, 69, 70] g32) [68, 69, 70, 1143, 1144, 5, 1011, 81, 82, 83, 84, 85, 86, 1113, 1111, 1112] g37) [68, 69, 70, 81, 82, 83, 84, 85, 86, 71, 74, 75, 1127, 78, 79, 80, 72, 76, 77, 1150] g44) [68, 69, 70, 81, 82, 83, 84, 85, 86, 71, 74, 75, 1127, 78, 79, 80, 72, 76, 77, 1143, 1144, 5, 1011, 1150, 1149, 1145, 1113, 1111, 1112, 1100031] g50) := sv_mod.sts md48 (by decide)
          have h := h g50 hpo53
          exact sv_vret hM dX12_nativeWays_400 rfl ⟨rfl, ok51, md54, h⟩
      have h := h.2
      refine sv_iload_n hM dX12_nativeWays_102 rfl rfl ?_
      have hS := h
      have J0 : (p1 < (9 : Int) ∨ (22 : Int) < p1 ∨ p1 = (14 : Int) ∨ p1 = (15 : Int) ∨ p1 = (16 : Int) ∨ p1 = (17 : Int) ∨ p1 = (20 : Int)) → sv_T sm_XS sm_cs sm_L sm_sh 9 (q_nativeWays p1 p2 p3 p4 p5 S) 287 343 [(0, .ref 0), (1, sv_I p1), (2, sv_I p2), (3, sv_I p3), (4, sv_I p4), (5, sv_I p5), (6, sv_I (647760 : Int)), (7, sv_I (647761 : Int)), (8, sv_I (647762 : Int)), (9, sv_I (0 : Int))] [] (sv_sts (sv_sts (sv_sts (sv_sts (sv_sts (sv_sts S [68, 69, 70, 81, 82, 83, 84, 85, 86, 74, 78, 79, 80, 76, 77, 1100031] g4) [68, 69, 70] g10) [68, 69, 70] g16) [68, 69, 70] g22) [68, 69, 70] g27) [68, 69, 70] g32) := by
        intro hc
        have h := hS.1 hc
        refine sv_aload_n hM dX12_nativeWays_343 rfl rfl ?_
        refine sv_iload_n hM dX12_nativeWays_344 rfl rfl ?_
        refine sv_bipush (d := (11 : Int)) hM dX12_nativeWays_345 rfl rfl ?_
        refine sv_iadd hM dX12_nativeWays_347 rfl ?_
        refine sv_iload_n hM dX12_nativeWays_348 rfl rfl ?_
        refine sv_bipush (d := (9 : Int)) hM dX12_nativeWays_349 rfl rfl ?_
        refine sv_isub hM dX12_nativeWays_351 rfl ?_
        refine sv_iconst (d := (0 : Int)) hM dX12_nativeWays_352 rfl rfl ?_
        refine sv_iload hM dX12_nativeWays_353 rfl rfl ?_
        refine sv_cond_le hM dX12_nativeWays_355 hp4 (t := 363) rfl rfl (fun hc => ?_) (fun hc => ?_)
        · have h := h.1 (hc)
          refine sv_iconst (d := (-1 : Int)) hM dX12_nativeWays_363 rfl rfl ?_
          obtain ⟨o56, h⟩ := h
          obtain ⟨o57, h⟩ := h
          obtain ⟨o58, h⟩ := h
          refine sv_callV hM dX12_nativeWays_364 sm_iv_1204 (by decide) (sm_a0 _) rfl rfl (Nat.le_of_ble_eq_true rfl) sm_h254 (Nat.le_of_ble_eq_true rfl) (Nat.le_of_ble_eq_true rfl) (F' := 6) (Nat.le_of_ble_eq_true rfl) rfl (t_addNew (p1 + (11 : Int)) (p1 - (9 : Int)) (0 : Int) (-1 : Int) (sv_sts (sv_sts (sv_sts (sv_sts (sv_sts (sv_sts S [68, 69, 70, 81, 82, 83, 84, 85, 86, 74, 78, 79, 80, 76, 77, 1100031] g4) [68, 69, 70] g10) [68, 69, 70] g16) [68, 69, 70] g22) [68, 69, 70] g27) [68, 69, 70] g32) ok33 o56 o57 (⟨by decide, by decide⟩ : 0 ≤ (0 : Int) ∧ (0 : Int) ≤ 1) (⟨by decide, by decide⟩ : sv_R (-1 : Int)) o58) (fun v S1 hq => ?_)
          obtain ⟨rfl, ok60, md61, hpo62⟩ := hq
          obtain ⟨g59, rfl⟩ : ∃ g, S1 = sv_sts (sv_sts (sv_sts (sv_sts (sv_sts (sv_sts (sv_sts S [68, 69, 70, 81, 82, 83, 84, 85, 86, 74, 78, 79, 80, 76, 77, 1100031] g4) [68, 69, 70] g10) [68, 69, 70] g16) [68, 69, 70] g22) [68, 69, 70] g27) [68, 69, 70] g32) [68, 69, 70, 1143, 1144, 5, 1011, 81, 82, 83, 84, 85, 86] g := ⟨_, md61.eq⟩
          show sv_T sm_XS sm_cs sm_L sm_sh 9 (q_nativeWays p1 p2 p3 p4 p5 S) 287 367 [(0, .ref 0), (1, sv_I p1), (2, sv_I p2), (3, sv_I p3), (4, sv_I p4), (5, sv_I p5), (6, sv_I (647760 : Int)), (7, sv_I (647761 : Int)), (8, sv_I (647762 : Int)), (9, sv_I (0 : Int))] [] (sv_sts (sv_sts (sv_sts (sv_sts (sv_sts (sv_sts (sv_sts S [68, 69, 70, 81, 82, 83, 84, 85, 86, 74, 78, 79, 80, 76, 77, 1100031] g4) [68, 69, 70] g10) [68, 69, 70] g16) [68, 69, 70] g22) [68, 69, 70] g27) [68, 69, 70] g32) [68, 69, 70, 1143, 1144, 5, 1011, 81, 82, 83, 84, 85, 86] g59)
          have md63 : sv_mod [68, 69, 70, 81, 82, 83, 84, 85, 86, 71, 74, 75, 1127, 78, 79, 80, 72, 76, 77, 1143, 1144, 5, 1011, 1150, 1149, 1145, 1113, 1111, 1112, 1100031] S (sv_sts (sv_sts (sv_sts (sv_sts (sv_sts (sv_sts (sv_sts S [68, 69, 70, 81, 82, 83, 84, 85, 86, 74, 78, 79, 80, 76, 77, 1100031] g4) [68, 69, 70] g10) [68, 69, 70] g16) [68, 69, 70] g22) [68, 69, 70] g27) [68, 69, 70] g32) [68, 69, 70, 1143, 1144, 5, 1011, 81, 82, 83, 84, 85, 86] g59) := sv_mod.sts md35 (by decide)
          have md64 : sv_mod [68, 69, 70, 1143, 1144, 5, 1011, 81, 82, 83, 84, 85, 86, 1113, 1111, 1112] (sv_sts (sv_sts (sv_sts (sv_sts (sv_sts (sv_sts S [68, 69, 70, 81, 82, 83, 84, 85, 86, 74, 78, 79, 80, 76, 77, 1100031] g4) [68, 69, 70] g10) [68, 69, 70] g16) [68, 69, 70] g22) [68, 69, 70] g27) [68, 69, 70] g32) (sv_sts (sv_sts (sv_sts (sv_sts (sv_sts (sv_sts (sv_sts S [68, 69, 70, 81, 82, 83, 84, 85, 86, 74, 78, 79, 80, 76, 77, 1100031] g4) [68, 69, 70] g10) [68, 69, 70] g16) [68, 69, 70] g22) [68, 69, 70] g27) [68, 69, 70] g32) [68, 69, 70, 1143, 1144, 5, 1011, 81, 82, 83, 84, 85, 86] g59) := sv_mod.sts (sv_mod.rf (l := [68, 69, 70, 1143, 1144, 5, 1011, 81, 82, 83, 84, 85, 86, 1113, 1111, 1112]) (S := (sv_sts (sv_sts (sv_sts (sv_sts (sv_sts (sv_sts S [68, 69, 70, 81, 82, 83, 84, 85, 86, 74, 78, 79, 80, 76, 77, 1100031] g4) [68, 69, 70] g10) [68, 69, 70] g16) [68, 69, 70] g22) [68, 69, 70] g27) [68, 69, 70] g32))) (by decide)
          have h := h g59 hpo62
          refine sv_aload_n hM dX12_nativeWays_367 rfl rfl ?_
          refine sv_iload hM dX12_nativeWays_368 rfl rfl ?_
          refine sv_iload_n hM dX12_nativeWays_370 rfl rfl ?_
          refine sv_bipush (d := (11 : Int)) hM dX12_nativeWays_371 rfl rfl ?_
          refine sv_iadd hM dX12_nativeWays_373 rfl ?_
          obtain ⟨o65, h⟩ := h
          refine sv_callV hM dX12_nativeWays_374 sm_iv_1081 (by decide) (sm_a0 _) rfl rfl (Nat.le_of_ble_eq_true rfl) sm_h216 (Nat.le_of_ble_eq_true rfl) (Nat.le_of_ble_eq_true rfl) (F' := 0) (Nat.le_of_ble_eq_true rfl) rfl (t_addLabel (647760 : Int) (p1 + (11 : Int)) (sv_sts (sv_sts (sv_sts (sv_sts (sv_sts (sv_sts (sv_sts S [68, 69, 70, 81, 82, 83, 84, 85, 86, 74, 78, 79, 80, 76, 77, 1100031] g4) [68, 69, 70] g10) [68, 69, 70] g16) [68, 69, 70] g22) [68, 69, 70] g27) [68, 69, 70] g32) [68, 69, 70, 1143, 1144, 5, 1011, 81, 82, 83, 84, 85, 86] g59) ok60 (⟨by decide, by decide⟩ : sv_R (647760 : Int)) o56 o65) (fun v S1 hq => ?_)
          obtain ⟨rfl, ok67, md68, hpo69⟩ := hq
          obtain ⟨g66, rfl⟩ : ∃ g, S1 = sv_sts (sv_sts (sv_sts (sv_sts (sv_sts (sv_sts (sv_sts (sv_sts S [68, 69, 70, 81, 82, 83, 84, 85, 86, 74, 78, 79, 80, 76, 77, 1100031] g4) [68, 69, 70] g10) [68, 69, 70] g16) [68, 69, 70] g22) [68, 69, 70] g27) [68, 69, 70] g32) [68, 69, 70, 1143, 1144, 5, 1011, 81, 82, 83, 84, 85, 86] g59) [69, 70] g := ⟨_, md68.eq⟩
          show sv_T sm_XS sm_cs sm_L sm_sh 9 (q_nativeWays p1 p2 p3 p4 p5 S) 287 377 [(0, .ref 0), (1, sv_I p1), (2, sv_I p2), (3, sv_I p3), (4, sv_I p4), (5, sv_I p5), (6, sv_I (647760 : Int)), (7, sv_I (647761 : Int)), (8, sv_I (647762 : Int)), (9, sv_I (0 : Int))] [] (sv_sts (sv_sts (sv_sts (sv_sts (sv_sts (sv_sts (sv_sts (sv_sts S [68, 69, 70, 81, 82, 83, 84, 85, 86, 74, 78, 79, 80, 76, 77, 1100031] g4) [68, 69, 70] g10) [68, 69, 70] g16) [68, 69, 70] g22) [68, 69, 70] g27) [68, 69, 70] g32) [68, 69, 70, 1143, 1144, 5, 1011, 81, 82, 83, 84, 85, 86] g59) [69, 70] g66)
          have md70 : sv_mod [68, 69, 70, 81, 82, 83, 84, 85, 86, 71, 74, 75, 1127, 78, 79, 80, 72, 76, 77, 1143, 1144, 5, 1011, 1150, 1149, 1145, 1113, 1111, 1112, 1100031] S (sv_sts (sv_sts (sv_sts (sv_sts (sv_sts (sv_sts (sv_sts (sv_sts S [68, 69, 70, 81, 82, 83, 84, 85, 86, 74, 78, 79, 80, 76, 77, 1100031] g4) [68, 69, 70] g10) [68, 69, 70] g16) [68, 69, 70] g22) [68, 69, 70] g27) [68, 69, 70] g32) [68, 69, 70, 1143, 1144, 5, 1011, 81, 82, 83, 84, 85, 86] g59) [69, 70] g66) := sv_mod.sts md63 (by decide)
          have md71 : sv_mod [68, 69, 70, 1143, 1144, 5, 1011, 81, 82, 83, 84, 85, 86, 1113, 1111, 1112] (sv_sts (sv_sts (sv_sts (sv_sts (sv_sts (sv_sts S [68, 69, 70, 81, 82, 83, 84, 85, 86, 74, 78, 79, 80, 76, 77, 1100031] g4) [68, 69, 70] g10) [68, 69, 70] g16) [68, 69, 70] g22) [68, 69, 70] g27) [68, 69, 70] g32) (sv_sts (sv_sts (sv_sts (sv_sts (sv_sts (sv_sts (sv_sts (sv_sts S [68, 69, 70, 81, 82, 83, 84, 85, 86, 74, 78, 79, 80, 76, 77, 1100031] g4) [68, 69, 70] g10) [68, 69, 70] g16) [68, 69, 70] g22) [68, 69, 70] g27) [68, 69, 70] g32) [68, 69, 70, 1143, 1144, 5, 1011, 81, 82, 83, 84, 85, 86] g59) [69, 70] g66) := sv_mod.sts md64 (by decide)
          have h := h g66 hpo69
          have eS := sv_mod.eq md71
          have hb := J55 (0 : Int) (⟨by decide, by decide⟩ : sv_R (0 : Int)) (sv_sts (sv_sts (sv_sts (sv_sts (sv_sts (sv_sts (sv_sts (sv_sts S [68, 69, 70, 81, 82, 83, 84, 85, 86, 74, 78, 79, 80, 76, 77, 1100031] g4) [68, 69, 70] g10) [68, 69, 70] g16) [68, 69, 70] g22) [68, 69, 70] g27) [68, 69, 70] g32) [68, 69, 70, 1143, 1144, 5, 1011, 81, 82, 83, 84, 85, 86] g59) [69, 70] g66) (by rw [← eS]; exact ok67) h
          have hb : sv_T sm_XS sm_cs sm_L sm_sh 9 (q_nativeWays p1 p2 p3 p4 p5 S) 287 377 [(0, .ref 0), (1, sv_I p1), (2, sv_I p2), (3, sv_I p3), (4, sv_I p4), (5, sv_I p5), (6, sv_I (647760 : Int)), (7, sv_I (647761 : Int)), (8, sv_I (647762 : Int)), (9, sv_I (0 : Int))] [] (sv_sts (sv_sts (sv_sts (sv_sts (sv_sts (sv_sts (sv_sts (sv_sts S [68, 69, 70, 81, 82, 83, 84, 85, 86, 74, 78, 79, 80, 76, 77, 1100031] g4) [68, 69, 70] g10) [68, 69, 70] g16) [68, 69, 70] g22) [68, 69, 70] g27) [68, 69, 70] g32) [68, 69, 70, 1143, 1144, 5, 1011, 81, 82, 83, 84, 85, 86] g59) [69, 70] g66) := Eq.mpr (congrArg (fun Z => sv_T sm_XS sm_cs sm_L sm_sh 9 (q_nativeWays p1 p2 p3 p4 p5 S) 287 377 [(0, .ref 0), (1, sv_I p1), (2, sv_I p2), (3, sv_I p3), (4, sv_I p4), (5, sv_I p5), (6, sv_I (647760 : Int)), (7, sv_I (647761 : Int)), (8, sv_I (647762 : Int)), (9, sv_I (0 : Int))] [] Z) eS) hb
          exact sv_less (lv := [(0, .ref 0), (1, sv_I p1), (2, sv_I p2), (3, sv_I p3), (4, sv_I p4), (5, sv_I p5), (6, sv_I (647760 : Int)), (7, sv_I (647761 : Int)), (8, sv_I (647762 : Int)), (9, sv_I (0 : Int))]) (sv_Sub_cons rfl (sv_Sub_cons rfl (sv_Sub_cons rfl (sv_Sub_cons rfl (sv_Sub_cons rfl (sv_Sub_cons rfl (sv_Sub_cons rfl (sv_Sub_cons rfl (sv_Sub_cons rfl (sv_Sub_cons rfl sv_Sub_nil)))))))))) hb
        · have h := h.2 (hc)
          refine sv_iload hM dX12_nativeWays_358 rfl rfl ?_
          refine sv_goto hM dX12_nativeWays_360 (pc' := 364) rfl ?_
          obtain ⟨o72, h⟩ := h
          obtain ⟨o73, h⟩ := h
          obtain ⟨o74, h⟩ := h
          refine sv_callV hM dX12_nativeWays_364 sm_iv_1204 (by decide) (sm_a0 _) rfl rfl (Nat.le_of_ble_eq_true rfl) sm_h254 (Nat.le_of_ble_eq_true rfl) (Nat.le_of_ble_eq_true rfl) (F' := 6) (Nat.le_of_ble_eq_true rfl) rfl (t_addNew (p1 + (11 : Int)) (p1 - (9 : Int)) (0 : Int) (647761 : Int) (sv_sts (sv_sts (sv_sts (sv_sts (sv_sts (sv_sts S [68, 69, 70, 81, 82, 83, 84, 85, 86, 74, 78, 79, 80, 76, 77, 1100031] g4) [68, 69, 70] g10) [68, 69, 70] g16) [68, 69, 70] g22) [68, 69, 70] g27) [68, 69, 70] g32) ok33 o72 o73 (⟨by decide, by decide⟩ : 0 ≤ (0 : Int) ∧ (0 : Int) ≤ 1) (⟨by decide, by decide⟩ : sv_R (647761 : Int)) o74) (fun v S1 hq => ?_)
          obtain ⟨rfl, ok76, md77, hpo78⟩ := hq
          obtain ⟨g75, rfl⟩ : ∃ g, S1 = sv_sts (sv_sts (sv_sts (sv_sts (sv_sts (sv_sts (sv_sts S [68, 69, 70, 81, 82, 83, 84, 85, 86, 74, 78, 79, 80, 76, 77, 1100031] g4) [68, 69, 70] g10) [68, 69, 70] g16) [68, 69, 70] g22) [68, 69, 70] g27) [68, 69, 70] g32) [68, 69, 70, 1143, 1144, 5, 1011, 81, 82, 83, 84, 85, 86] g := ⟨_, md77.eq⟩
          show sv_T sm_XS sm_cs sm_L sm_sh 9 (q_nativeWays p1 p2 p3 p4 p5 S) 287 367 [(0, .ref 0), (1, sv_I p1), (2, sv_I p2), (3, sv_I p3), (4, sv_I p4), (5, sv_I p5), (6, sv_I (647760 : Int)), (7, sv_I (647761 : Int)), (8, sv_I (647762 : Int)), (9, sv_I (0 : Int))] [] (sv_sts (sv_sts (sv_sts (sv_sts (sv_sts (sv_sts (sv_sts S [68, 69, 70, 81, 82, 83, 84, 85, 86, 74, 78, 79, 80, 76, 77, 1100031] g4) [68, 69, 70] g10) [68, 69, 70] g16) [68, 69, 70] g22) [68, 69, 70] g27) [68, 69, 70] g32) [68, 69, 70, 1143, 1144, 5, 1011, 81, 82, 83, 84, 85, 86] g75)
          have md79 : sv_mod [68, 69, 70, 81, 82, 83, 84, 85, 86, 71, 74, 75, 1127, 78, 79, 80, 72, 76, 77, 1143, 1144, 5, 1011, 1150, 1149, 1145, 1113, 1111, 1112, 1100031] S (sv_sts (sv_sts (sv_sts (sv_sts (sv_sts (sv_sts (sv_sts S [68, 69, 70, 81, 82, 83, 84, 85, 86, 74, 78, 79, 80, 76, 77, 1100031] g4) [68, 69, 70] g10) [68, 69, 70] g16) [68, 69, 70] g22) [68, 69, 70] g27) [68, 69, 70] g32) [68, 69, 70, 1143, 1144, 5, 1011, 81, 82, 83, 84, 85, 86] g75) := sv_mod.sts md35 (by decide)
          have md80 : sv_mod [68, 69, 70, 1143, 1144, 5, 1011, 81, 82, 83, 84, 85, 86, 1113, 1111, 1112] (sv_sts (sv_sts (sv_sts (sv_sts (sv_sts (sv_sts S [68, 69, 70, 81, 82, 83, 84, 85, 86, 74, 78, 79, 80, 76, 77, 1100031] g4) [68, 69, 70] g10) [68, 69, 70] g16) [68, 69, 70] g22) [68, 69, 70] g27) [68, 69, 70] g32) (sv_sts (sv_sts (sv_sts (sv_sts (sv_sts (sv_sts (sv_sts S [68, 69, 70, 81, 82, 83, 84, 85, 86, 74, 78, 79, 80, 76, 77, 1100031] g4) [68, 69, 70] g10) [68, 69, 70] g16) [68, 69, 70] g22) [68, 69, 70] g27) [68, 69, 70] g32) [68, 69, 70, 1143, 1144, 5, 1011, 81, 82, 83, 84, 85, 86] g75) := sv_mod.sts (sv_mod.rf (l := [68, 69, 70, 1143, 1144, 5, 1011, 81, 82, 83, 84, 85, 86, 1113, 1111, 1112]) (S := (sv_sts (sv_sts (sv_sts (sv_sts (sv_sts (sv_sts S [68, 69, 70, 81, 82, 83, 84, 85, 86, 74, 78, 79, 80, 76, 77, 1100031] g4) [68, 69, 70] g10) [68, 69, 70] g16) [68, 69, 70] g22) [68, 69, 70] g27) [68, 69, 70] g32))) (by decide)
          have h := h g75 hpo78
          refine sv_aload_n hM dX12_nativeWays_367 rfl rfl ?_
          refine sv_iload hM dX12_nativeWays_368 rfl rfl ?_
          refine sv_iload_n hM dX12_nativeWays_370 rfl rfl ?_
          refine sv_bipush (d := (11 : Int)) hM dX12_nativeWays_371 rfl rfl ?_
          refine sv_iadd hM dX12_nativeWays_373 rfl ?_
          obtain ⟨o81, h⟩ := h
          refine sv_callV hM dX12_nativeWays_374 sm_iv_1081 (by decide) (sm_a0 _) rfl rfl (Nat.le_of_ble_eq_true rfl) sm_h216 (Nat.le_of_ble_eq_true rfl) (Nat.le_of_ble_eq_true rfl) (F' := 0) (Nat.le_of_ble_eq_true rfl) rfl (t_addLabel (647760 : Int) (p1 + (11 : Int)) (sv_sts (sv_sts (sv_sts (sv_sts (sv_sts (sv_sts (sv_sts S [68, 69, 70, 81, 82, 83, 84, 85, 86, 74, 78, 79, 80, 76, 77, 1100031] g4) [68, 69, 70] g10) [68, 69, 70] g16) [68, 69, 70] g22) [68, 69, 70] g27) [68, 69, 70] g32) [68, 69, 70, 1143, 1144, 5, 1011, 81, 82, 83, 84, 85, 86] g75) ok76 (⟨by decide, by decide⟩ : sv_R (647760 : Int)) o72 o81) (fun v S1 hq => ?_)
          obtain ⟨rfl, ok83, md84, hpo85⟩ := hq
          obtain ⟨g82, rfl⟩ : ∃ g, S1 = sv_sts (sv_sts (sv_sts (sv_sts (sv_sts (sv_sts (sv_sts (sv_sts S [68, 69, 70, 81, 82, 83, 84, 85, 86, 74, 78, 79, 80, 76, 77, 1100031] g4) [68, 69, 70] g10) [68, 69, 70] g16) [68, 69, 70] g22) [68, 69, 70] g27) [68, 69, 70] g32) [68, 69, 70, 1143, 1144, 5, 1011, 81, 82, 83, 84, 85, 86] g75) [69, 70] g := ⟨_, md84.eq⟩
          show sv_T sm_XS sm_cs sm_L sm_sh 9 (q_nativeWays p1 p2 p3 p4 p5 S) 287 377 [(0, .ref 0), (1, sv_I p1), (2, sv_I p2), (3, sv_I p3), (4, sv_I p4), (5, sv_I p5), (6, sv_I (647760 : Int)), (7, sv_I (647761 : Int)), (8, sv_I (647762 : Int)), (9, sv_I (0 : Int))] [] (sv_sts (sv_sts (sv_sts (sv_sts (sv_sts (sv_sts (sv_sts (sv_sts S [68, 69, 70, 81, 82, 83, 84, 85, 86, 74, 78, 79, 80, 76, 77, 1100031] g4) [68, 69, 70] g10) [68, 69, 70] g16) [68, 69, 70] g22) [68, 69, 70] g27) [68, 69, 70] g32) [68, 69, 70, 1143, 1144, 5, 1011, 81, 82, 83, 84, 85, 86] g75) [69, 70] g82)
          have md86 : sv_mod [68, 69, 70, 81, 82, 83, 84, 85, 86, 71, 74, 75, 1127, 78, 79, 80, 72, 76, 77, 1143, 1144, 5, 1011, 1150, 1149, 1145, 1113, 1111, 1112, 1100031] S (sv_sts (sv_sts (sv_sts (sv_sts (sv_sts (sv_sts (sv_sts (sv_sts S [68, 69, 70, 81, 82, 83, 84, 85, 86, 74, 78, 79, 80, 76, 77, 1100031] g4) [68, 69, 70] g10) [68, 69, 70] g16) [68, 69, 70] g22) [68, 69, 70] g27) [68, 69, 70] g32) [68, 69, 70, 1143, 1144, 5, 1011, 81, 82, 83, 84, 85, 86] g75) [69, 70] g82) := sv_mod.sts md79 (by decide)
          have md87 : sv_mod [68, 69, 70, 1143, 1144, 5, 1011, 81, 82, 83, 84, 85, 86, 1113, 1111, 1112] (sv_sts (sv_sts (sv_sts (sv_sts (sv_sts (sv_sts S [68, 69, 70, 81, 82, 83, 84, 85, 86, 74, 78, 79, 80, 76, 77, 1100031] g4) [68, 69, 70] g10) [68, 69, 70] g16) [68, 69, 70] g22) [68, 69, 70] g27) [68, 69, 70] g32) (sv_sts (sv_sts (sv_sts (sv_sts (sv_sts (sv_sts (sv_sts (sv_sts S [68, 69, 70, 81, 82, 83, 84, 85, 86, 74, 78, 79, 80, 76, 77, 1100031] g4) [68, 69, 70] g10) [68, 69, 70] g16) [68, 69, 70] g22) [68, 69, 70] g27) [68, 69, 70] g32) [68, 69, 70, 1143, 1144, 5, 1011, 81, 82, 83, 84, 85, 86] g75) [69, 70] g82) := sv_mod.sts md80 (by decide)
          have h := h g82 hpo85
          have eS := sv_mod.eq md87
          have hb := J55 (0 : Int) (⟨by decide, by decide⟩ : sv_R (0 : Int)) (sv_sts (sv_sts (sv_sts (sv_sts (sv_sts (sv_sts (sv_sts (sv_sts S [68, 69, 70, 81, 82, 83, 84, 85, 86, 74, 78, 79, 80, 76, 77, 1100031] g4) [68, 69, 70] g10) [68, 69, 70] g16) [68, 69, 70] g22) [68, 69, 70] g27) [68, 69, 70] g32) [68, 69, 70, 1143, 1144, 5, 1011, 81, 82, 83, 84, 85, 86] g75) [69, 70] g82) (by rw [← eS]; exact ok83) h
          have hb : sv_T sm_XS sm_cs sm_L sm_sh 9 (q_nativeWays p1 p2 p3 p4 p5 S) 287 377 [(0, .ref 0), (1, sv_I p1), (2, sv_I p2), (3, sv_I p3), (4, sv_I p4), (5, sv_I p5), (6, sv_I (647760 : Int)), (7, sv_I (647761 : Int)), (8, sv_I (647762 : Int)), (9, sv_I (0 : Int))] [] (sv_sts (sv_sts (sv_sts (sv_sts (sv_sts (sv_sts (sv_sts (sv_sts S [68, 69, 70, 81, 82, 83, 84, 85, 86, 74, 78, 79, 80, 76, 77, 1100031] g4) [68, 69, 70] g10) [68, 69, 70] g16) [68, 69, 70] g22) [68, 69, 70] g27) [68, 69, 70] g32) [68, 69, 70, 1143, 1144, 5, 1011, 81, 82, 83, 84, 85, 86] g75) [69, 70] g82) := Eq.mpr (congrArg (fun Z => sv_T sm_XS sm_cs sm_L sm_sh 9 (q_nativeWays p1 p2 p3 p4 p5 S) 287 377 [(0, .ref 0), (1, sv_I p1), (2, sv_I p2), (3, sv_I p3), (4, sv_I p4), (5, sv_I p5), (6, sv_I (647760 : Int)), (7, sv_I (647761 : Int)), (8, sv_I (647762 : Int)), (9, sv_I (0 : Int))] [] Z) eS) hb
          exact sv_less (lv := [(0, .ref 0), (1, sv_I p1), (2, sv_I p2), (3, sv_I p3), (4, sv_I p4), (5, sv_I p5), (6, sv_I (647760 : Int)), (7, sv_I (647761 : Int)), (8, sv_I (647762 : Int)), (9, sv_I (0 : Int))]) (sv_Sub_cons rfl (sv_Sub_cons rfl (sv_Sub_cons rfl (sv_Sub_cons rfl (sv_Sub_cons rfl (sv_Sub_cons rfl (sv_Sub_cons rfl (sv_Sub_cons rfl (sv_Sub_cons rfl (sv_Sub_cons rfl sv_Sub_nil)))))))))) hb
      have J1 : (p1 = (9 : Int)) → sv_T sm_XS sm_cs sm_L sm_sh 9 (q_nativeWays p1 p2 p3 p4 p5 S) 287 172 [(0, .ref 0), (1, sv_I p1), (2, sv_I p2), (3, sv_I p3), (4, sv_I p4), (5, sv_I p5), (6, sv_I (647760 : Int)), (7, sv_I (647761 : Int)), (8, sv_I (647762 : Int)), (9, sv_I (0 : Int))] [] (sv_sts (sv_sts (sv_sts (sv_sts (sv_sts (sv_sts S [68, 69, 70, 81, 82, 83, 84, 85, 86, 74, 78, 79, 80, 76, 77, 1100031] g4) [68, 69, 70] g10) [68, 69, 70] g16) [68, 69, 70] g22) [68, 69, 70] g27) [68, 69, 70] g32) := by
        intro hc
        have h := hS.2.1 hc
        refine sv_aload_n hM dX12_nativeWays_172 rfl rfl ?_
        refine sv_iload hM dX12_nativeWays_173 rfl rfl ?_
        refine sv_iconst (d := (1 : Int)) hM dX12_nativeWays_175 rfl rfl ?_
        obtain ⟨o88, h⟩ := h
        refine sv_callV hM dX12_nativeWays_176 sm_iv_1072 (by decide) (sm_a0 _) rfl rfl (Nat.le_of_ble_eq_true rfl) sm_h213 (Nat.le_of_ble_eq_true rfl) (Nat.le_of_ble_eq_true rfl) (F' := 2) (Nat.le_of_ble_eq_true rfl) rfl (t_addSort (647760 : Int) (1 : Int) (sv_sts (sv_sts (sv_sts (sv_sts (sv_sts (sv_sts S [68, 69, 70, 81, 82, 83, 84, 85, 86, 74, 78, 79, 80, 76, 77, 1100031] g4) [68, 69, 70] g10) [68, 69, 70] g16) [68, 69, 70] g22) [68, 69, 70] g27) [68, 69, 70] g32) ok33 (⟨by decide, by decide⟩ : sv_R (647760 : Int)) (⟨by decide, by decide⟩ : sv_R (1 : Int)) o88) (fun v S1 hq => ?_)
        obtain ⟨rfl, ok90, md91, hpo92⟩ := hq
        obtain ⟨g89, rfl⟩ : ∃ g, S1 = sv_sts (sv_sts (sv_sts (sv_sts (sv_sts (sv_sts (sv_sts S [68, 69, 70, 81, 82, 83, 84, 85, 86, 74, 78, 79, 80, 76, 77, 1100031] g4) [68, 69, 70] g10) [68, 69, 70] g16) [68, 69, 70] g22) [68, 69, 70] g27) [68, 69, 70] g32) [68, 69, 70] g := ⟨_, md91.eq⟩
        show sv_T sm_XS sm_cs sm_L sm_sh 9 (q_nativeWays p1 p2 p3 p4 p5 S) 287 179 [(0, .ref 0), (1, sv_I p1), (2, sv_I p2), (3, sv_I p3), (4, sv_I p4), (5, sv_I p5), (6, sv_I (647760 : Int)), (7, sv_I (647761 : Int)), (8, sv_I (647762 : Int)), (9, sv_I (0 : Int))] [] (sv_sts (sv_sts (sv_sts (sv_sts (sv_sts (sv_sts (sv_sts S [68, 69, 70, 81, 82, 83, 84, 85, 86, 74, 78, 79, 80, 76, 77, 1100031] g4) [68, 69, 70] g10) [68, 69, 70] g16) [68, 69, 70] g22) [68, 69, 70] g27) [68, 69, 70] g32) [68, 69, 70] g89)
        have md93 : sv_mod [68, 69, 70, 81, 82, 83, 84, 85, 86, 71, 74, 75, 1127, 78, 79, 80, 72, 76, 77, 1143, 1144, 5, 1011, 1150, 1149, 1145, 1113, 1111, 1112, 1100031] S (sv_sts (sv_sts (sv_sts (sv_sts (sv_sts (sv_sts (sv_sts S [68, 69, 70, 81, 82, 83, 84, 85, 86, 74, 78, 79, 80, 76, 77, 1100031] g4) [68, 69, 70] g10) [68, 69, 70] g16) [68, 69, 70] g22) [68, 69, 70] g27) [68, 69, 70] g32) [68, 69, 70] g89) := sv_mod.sts md35 (by decide)
        have md94 : sv_mod [68, 69, 70, 1143, 1144, 5, 1011, 81, 82, 83, 84, 85, 86, 1113, 1111, 1112] (sv_sts (sv_sts (sv_sts (sv_sts (sv_sts (sv_sts S [68, 69, 70, 81, 82, 83, 84, 85, 86, 74, 78, 79, 80, 76, 77, 1100031] g4) [68, 69, 70] g10) [68, 69, 70] g16) [68, 69, 70] g22) [68, 69, 70] g27) [68, 69, 70] g32) (sv_sts (sv_sts (sv_sts (sv_sts (sv_sts (sv_sts (sv_sts S [68, 69, 70, 81, 82, 83, 84, 85, 86, 74, 78, 79, 80, 76, 77, 1100031] g4) [68, 69, 70] g10) [68, 69, 70] g16) [68, 69, 70] g22) [68, 69, 70] g27) [68, 69, 70] g32) [68, 69, 70] g89) := sv_mod.sts (sv_mod.rf (l := [68, 69, 70, 1143, 1144, 5, 1011, 81, 82, 83, 84, 85, 86, 1113, 1111, 1112]) (S := (sv_sts (sv_sts (sv_sts (sv_sts (sv_sts (sv_sts S [68, 69, 70, 81, 82, 83, 84, 85, 86, 74, 78, 79, 80, 76, 77, 1100031] g4) [68, 69, 70] g10) [68, 69, 70] g16) [68, 69, 70] g22) [68, 69, 70] g27) [68, 69, 70] g32))) (by decide)
        have h := h g89 hpo92
        refine sv_goto hM dX12_nativeWays_179 (pc' := 377) rfl ?_
        have eS := sv_mod.eq md94
        have hb := J55 (0 : Int) (⟨by decide, by decide⟩ : sv_R (0 : Int)) (sv_sts (sv_sts (sv_sts (sv_sts (sv_sts (sv_sts (sv_sts S [68, 69, 70, 81, 82, 83, 84, 85, 86, 74, 78, 79, 80, 76, 77, 1100031] g4) [68, 69, 70] g10) [68, 69, 70] g16) [68, 69, 70] g22) [68, 69, 70] g27) [68, 69, 70] g32) [68, 69, 70] g89) (by rw [← eS]; exact ok90) h
        have hb : sv_T sm_XS sm_cs sm_L sm_sh 9 (q_nativeWays p1 p2 p3 p4 p5 S) 287 377 [(0, .ref 0), (1, sv_I p1), (2, sv_I p2), (3, sv_I p3), (4, sv_I p4), (5, sv_I p5), (6, sv_I (647760 : Int)), (7, sv_I (647761 : Int)), (8, sv_I (647762 : Int)), (9, sv_I (0 : Int))] [] (sv_sts (sv_sts (sv_sts (sv_sts (sv_sts (sv_sts (sv_sts S [68, 69, 70, 81, 82, 83, 84, 85, 86, 74, 78, 79, 80, 76, 77, 1100031] g4) [68, 69, 70] g10) [68, 69, 70] g16) [68, 69, 70] g22) [68, 69, 70] g27) [68, 69, 70] g32) [68, 69, 70] g89) := Eq.mpr (congrArg (fun Z => sv_T sm_XS sm_cs sm_L sm_sh 9 (q_nativeWays p1 p2 p3 p4 p5 S) 287 377 [(0, .ref 0), (1, sv_I p1), (2, sv_I p2), (3, sv_I p3), (4, sv_I p4), (5, sv_I p5), (6, sv_I (647760 : Int)), (7, sv_I (647761 : Int)), (8, sv_I (647762 : Int)), (9, sv_I (0 : Int))] [] Z) eS) hb
        exact sv_less (lv := [(0, .ref 0), (1, sv_I p1), (2, sv_I p2), (3, sv_I p3), (4, sv_I p4), (5, sv_I p5), (6, sv_I (647760 : Int)), (7, sv_I (647761 : Int)), (8, sv_I (647762 : Int)), (9, sv_I (0 : Int))]) (sv_Sub_cons rfl (sv_Sub_cons rfl (sv_Sub_cons rfl (sv_Sub_cons rfl (sv_Sub_cons rfl (sv_Sub_cons rfl (sv_Sub_cons rfl (sv_Sub_cons rfl (sv_Sub_cons rfl (sv_Sub_cons rfl sv_Sub_nil)))))))))) hb
      have J2 : (p1 = (10 : Int)) → sv_T sm_XS sm_cs sm_L sm_sh 9 (q_nativeWays p1 p2 p3 p4 p5 S) 287 182 [(0, .ref 0), (1, sv_I p1), (2, sv_I p2), (3, sv_I p3), (4, sv_I p4), (5, sv_I p5), (6, sv_I (647760 : Int)), (7, sv_I (647761 : Int)), (8, sv_I (647762 : Int)), (9, sv_I (0 : Int))] [] (sv_sts (sv_sts (sv_sts (sv_sts (sv_sts (sv_sts S [68, 69, 70, 81, 82, 83, 84, 85, 86, 74, 78, 79, 80, 76, 77, 1100031] g4) [68, 69, 70] g10) [68, 69, 70] g16) [68, 69, 70] g22) [68, 69, 70] g27) [68, 69, 70] g32) := by
        intro hc
        have h := hS.2.2.1 hc
        refine sv_aload_n hM dX12_nativeWays_182 rfl rfl ?_
        refine sv_bipush (d := (23 : Int)) hM dX12_nativeWays_183 rfl rfl ?_
        refine sv_iconst (d := (1 : Int)) hM dX12_nativeWays_185 rfl rfl ?_
        refine sv_iconst (d := (0 : Int)) hM dX12_nativeWays_186 rfl rfl ?_
        refine sv_iconst (d := (-1 : Int)) hM dX12_nativeWays_187 rfl rfl ?_
        obtain ⟨o95, h⟩ := h
        refine sv_callV hM dX12_nativeWays_188 sm_iv_1204 (by decide) (sm_a0 _) rfl rfl (Nat.le_of_ble_eq_true rfl) sm_h254 (Nat.le_of_ble_eq_true rfl) (Nat.le_of_ble_eq_true rfl) (F' := 6) (Nat.le_of_ble_eq_true rfl) rfl (t_addNew (23 : Int) (1 : Int) (0 : Int) (-1 : Int) (sv_sts (sv_sts (sv_sts (sv_sts (sv_sts (sv_sts S [68, 69, 70, 81, 82, 83, 84, 85, 86, 74, 78, 79, 80, 76, 77, 1100031] g4) [68, 69, 70] g10) [68, 69, 70] g16) [68, 69, 70] g22) [68, 69, 70] g27) [68, 69, 70] g32) ok33 (⟨by decide, by decide⟩ : sv_R (23 : Int)) (⟨by decide, by decide⟩ : sv_R (1 : Int)) (⟨by decide, by decide⟩ : 0 ≤ (0 : Int) ∧ (0 : Int) ≤ 1) (⟨by decide, by decide⟩ : sv_R (-1 : Int)) o95) (fun v S1 hq => ?_)
        obtain ⟨rfl, ok97, md98, hpo99⟩ := hq
        obtain ⟨g96, rfl⟩ : ∃ g, S1 = sv_sts (sv_sts (sv_sts (sv_sts (sv_sts (sv_sts (sv_sts S [68, 69, 70, 81, 82, 83, 84, 85, 86, 74, 78, 79, 80, 76, 77, 1100031] g4) [68, 69, 70] g10) [68, 69, 70] g16) [68, 69, 70] g22) [68, 69, 70] g27) [68, 69, 70] g32) [68, 69, 70, 1143, 1144, 5, 1011, 81, 82, 83, 84, 85, 86] g := ⟨_, md98.eq⟩
        show sv_T sm_XS sm_cs sm_L sm_sh 9 (q_nativeWays p1 p2 p3 p4 p5 S) 287 191 [(0, .ref 0), (1, sv_I p1), (2, sv_I p2), (3, sv_I p3), (4, sv_I p4), (5, sv_I p5), (6, sv_I (647760 : Int)), (7, sv_I (647761 : Int)), (8, sv_I (647762 : Int)), (9, sv_I (0 : Int))] [] (sv_sts (sv_sts (sv_sts (sv_sts (sv_sts (sv_sts (sv_sts S [68, 69, 70, 81, 82, 83, 84, 85, 86, 74, 78, 79, 80, 76, 77, 1100031] g4) [68, 69, 70] g10) [68, 69, 70] g16) [68, 69, 70] g22) [68, 69, 70] g27) [68, 69, 70] g32) [68, 69, 70, 1143, 1144, 5, 1011, 81, 82, 83, 84, 85, 86] g96)
        have md100 : sv_mod [68, 69, 70, 81, 82, 83, 84, 85, 86, 71, 74, 75, 1127, 78, 79, 80, 72, 76, 77, 1143, 1144, 5, 1011, 1150, 1149, 1145, 1113, 1111, 1112, 1100031] S (sv_sts (sv_sts (sv_sts (sv_sts (sv_sts (sv_sts (sv_sts S [68, 69, 70, 81, 82, 83, 84, 85, 86, 74, 78, 79, 80, 76, 77, 1100031] g4) [68, 69, 70] g10) [68, 69, 70] g16) [68, 69, 70] g22) [68, 69, 70] g27) [68, 69, 70] g32) [68, 69, 70, 1143, 1144, 5, 1011, 81, 82, 83, 84, 85, 86] g96) := sv_mod.sts md35 (by decide)
        have md101 : sv_mod [68, 69, 70, 1143, 1144, 5, 1011, 81, 82, 83, 84, 85, 86, 1113, 1111, 1112] (sv_sts (sv_sts (sv_sts (sv_sts (sv_sts (sv_sts S [68, 69, 70, 81, 82, 83, 84, 85, 86, 74, 78, 79, 80, 76, 77, 1100031] g4) [68, 69, 70] g10) [68, 69, 70] g16) [68, 69, 70] g22) [68, 69, 70] g27) [68, 69, 70] g32) (sv_sts (sv_sts (sv_sts (sv_sts (sv_sts (sv_sts (sv_sts S [68, 69, 70, 81, 82, 83, 84, 85, 86, 74, 78, 79, 80, 76, 77, 1100031] g4) [68, 69, 70] g10) [68, 69, 70] g16) [68, 69, 70] g22) [68, 69, 70] g27) [68, 69, 70] g32) [68, 69, 70, 1143, 1144, 5, 1011, 81, 82, 83, 84, 85, 86] g96) := sv_mod.sts (sv_mod.rf (l := [68, 69, 70, 1143, 1144, 5, 1011, 81, 82, 83, 84, 85, 86, 1113, 1111, 1112]) (S := (sv_sts (sv_sts (sv_sts (sv_sts (sv_sts (sv_sts S [68, 69, 70, 81, 82, 83, 84, 85, 86, 74, 78, 79, 80, 76, 77, 1100031] g4) [68, 69, 70] g10) [68, 69, 70] g16) [68, 69, 70] g22) [68, 69, 70] g27) [68, 69, 70] g32))) (by decide)
        have h := h g96 hpo99
        refine sv_aload_n hM dX12_nativeWays_191 rfl rfl ?_
        refine sv_iload hM dX12_nativeWays_192 rfl rfl ?_
        refine sv_bipush (d := (23 : Int)) hM dX12_nativeWays_194 rfl rfl ?_
        obtain ⟨o102, h⟩ := h
        refine sv_callV hM dX12_nativeWays_196 sm_iv_1081 (by decide) (sm_a0 _) rfl rfl (Nat.le_of_ble_eq_true rfl) sm_h216 (Nat.le_of_ble_eq_true rfl) (Nat.le_of_ble_eq_true rfl) (F' := 0) (Nat.le_of_ble_eq_true rfl) rfl (t_addLabel (647760 : Int) (23 : Int) (sv_sts (sv_sts (sv_sts (sv_sts (sv_sts (sv_sts (sv_sts S [68, 69, 70, 81, 82, 83, 84, 85, 86, 74, 78, 79, 80, 76, 77, 1100031] g4) [68, 69, 70] g10) [68, 69, 70] g16) [68, 69, 70] g22) [68, 69, 70] g27) [68, 69, 70] g32) [68, 69, 70, 1143, 1144, 5, 1011, 81, 82, 83, 84, 85, 86] g96) ok97 (⟨by decide, by decide⟩ : sv_R (647760 : Int)) (⟨by decide, by decide⟩ : sv_R (23 : Int)) o102) (fun v S1 hq => ?_)
        obtain ⟨rfl, ok104, md105, hpo106⟩ := hq
        obtain ⟨g103, rfl⟩ : ∃ g, S1 = sv_sts (sv_sts (sv_sts (sv_sts (sv_sts (sv_sts (sv_sts (sv_sts S [68, 69, 70, 81, 82, 83, 84, 85, 86, 74, 78, 79, 80, 76, 77, 1100031] g4) [68, 69, 70] g10) [68, 69, 70] g16) [68, 69, 70] g22) [68, 69, 70] g27) [68, 69, 70] g32) [68, 69, 70, 1143, 1144, 5, 1011, 81, 82, 83, 84, 85, 86] g96) [69, 70] g := ⟨_, md105.eq⟩
        show sv_T sm_XS sm_cs sm_L sm_sh 9 (q_nativeWays p1 p2 p3 p4 p5 S) 287 199 [(0, .ref 0), (1, sv_I p1), (2, sv_I p2), (3, sv_I p3), (4, sv_I p4), (5, sv_I p5), (6, sv_I (647760 : Int)), (7, sv_I (647761 : Int)), (8, sv_I (647762 : Int)), (9, sv_I (0 : Int))] [] (sv_sts (sv_sts (sv_sts (sv_sts (sv_sts (sv_sts (sv_sts (sv_sts S [68, 69, 70, 81, 82, 83, 84, 85, 86, 74, 78, 79, 80, 76, 77, 1100031] g4) [68, 69, 70] g10) [68, 69, 70] g16) [68, 69, 70] g22) [68, 69, 70] g27) [68, 69, 70] g32) [68, 69, 70, 1143, 1144, 5, 1011, 81, 82, 83, 84, 85, 86] g96) [69, 70] g103)
        have md107 : sv_mod [68, 69, 70, 81, 82, 83, 84, 85, 86, 71, 74, 75, 1127, 78, 79, 80, 72, 76, 77, 1143, 1144, 5, 1011, 1150, 1149, 1145, 1113, 1111, 1112, 1100031] S (sv_sts (sv_sts (sv_sts (sv_sts (sv_sts (sv_sts (sv_sts (sv_sts S [68, 69, 70, 81, 82, 83, 84, 85, 86, 74, 78, 79, 80, 76, 77, 1100031] g4) [68, 69, 70] g10) [68, 69, 70] g16) [68, 69, 70] g22) [68, 69, 70] g27) [68, 69, 70] g32) [68, 69, 70, 1143, 1144, 5, 1011, 81, 82, 83, 84, 85, 86] g96) [69, 70] g103) := sv_mod.sts md100 (by decide)
        have md108 : sv_mod [68, 69, 70, 1143, 1144, 5, 1011, 81, 82, 83, 84, 85, 86, 1113, 1111, 1112] (sv_sts (sv_sts (sv_sts (sv_sts (sv_sts (sv_sts S [68, 69, 70, 81, 82, 83, 84, 85, 86, 74, 78, 79, 80, 76, 77, 1100031] g4) [68, 69, 70] g10) [68, 69, 70] g16) [68, 69, 70] g22) [68, 69, 70] g27) [68, 69, 70] g32) (sv_sts (sv_sts (sv_sts (sv_sts (sv_sts (sv_sts (sv_sts (sv_sts S [68, 69, 70, 81, 82, 83, 84, 85, 86, 74, 78, 79, 80, 76, 77, 1100031] g4) [68, 69, 70] g10) [68, 69, 70] g16) [68, 69, 70] g22) [68, 69, 70] g27) [68, 69, 70] g32) [68, 69, 70, 1143, 1144, 5, 1011, 81, 82, 83, 84, 85, 86] g96) [69, 70] g103) := sv_mod.sts md101 (by decide)
        have h := h g103 hpo106
        refine sv_goto hM dX12_nativeWays_199 (pc' := 377) rfl ?_
        have eS := sv_mod.eq md108
        have hb := J55 (0 : Int) (⟨by decide, by decide⟩ : sv_R (0 : Int)) (sv_sts (sv_sts (sv_sts (sv_sts (sv_sts (sv_sts (sv_sts (sv_sts S [68, 69, 70, 81, 82, 83, 84, 85, 86, 74, 78, 79, 80, 76, 77, 1100031] g4) [68, 69, 70] g10) [68, 69, 70] g16) [68, 69, 70] g22) [68, 69, 70] g27) [68, 69, 70] g32) [68, 69, 70, 1143, 1144, 5, 1011, 81, 82, 83, 84, 85, 86] g96) [69, 70] g103) (by rw [← eS]; exact ok104) h
        have hb : sv_T sm_XS sm_cs sm_L sm_sh 9 (q_nativeWays p1 p2 p3 p4 p5 S) 287 377 [(0, .ref 0), (1, sv_I p1), (2, sv_I p2), (3, sv_I p3), (4, sv_I p4), (5, sv_I p5), (6, sv_I (647760 : Int)), (7, sv_I (647761 : Int)), (8, sv_I (647762 : Int)), (9, sv_I (0 : Int))] [] (sv_sts (sv_sts (sv_sts (sv_sts (sv_sts (sv_sts (sv_sts (sv_sts S [68, 69, 70, 81, 82, 83, 84, 85, 86, 74, 78, 79, 80, 76, 77, 1100031] g4) [68, 69, 70] g10) [68, 69, 70] g16) [68, 69, 70] g22) [68, 69, 70] g27) [68, 69, 70] g32) [68, 69, 70, 1143, 1144, 5, 1011, 81, 82, 83, 84, 85, 86] g96) [69, 70] g103) := Eq.mpr (congrArg (fun Z => sv_T sm_XS sm_cs sm_L sm_sh 9 (q_nativeWays p1 p2 p3 p4 p5 S) 287 377 [(0, .ref 0), (1, sv_I p1), (2, sv_I p2), (3, sv_I p3), (4, sv_I p4), (5, sv_I p5), (6, sv_I (647760 : Int)), (7, sv_I (647761 : Int)), (8, sv_I (647762 : Int)), (9, sv_I (0 : Int))] [] Z) eS) hb
        exact sv_less (lv := [(0, .ref 0), (1, sv_I p1), (2, sv_I p2), (3, sv_I p3), (4, sv_I p4), (5, sv_I p5), (6, sv_I (647760 : Int)), (7, sv_I (647761 : Int)), (8, sv_I (647762 : Int)), (9, sv_I (0 : Int))]) (sv_Sub_cons rfl (sv_Sub_cons rfl (sv_Sub_cons rfl (sv_Sub_cons rfl (sv_Sub_cons rfl (sv_Sub_cons rfl (sv_Sub_cons rfl (sv_Sub_cons rfl (sv_Sub_cons rfl (sv_Sub_cons rfl sv_Sub_nil)))))))))) hb
      have J3 : (p1 = (11 : Int)) → sv_T sm_XS sm_cs sm_L sm_sh 9 (q_nativeWays p1 p2 p3 p4 p5 S) 287 202 [(0, .ref 0), (1, sv_I p1), (2, sv_I p2), (3, sv_I p3), (4, sv_I p4), (5, sv_I p5), (6, sv_I (647760 : Int)), (7, sv_I (647761 : Int)), (8, sv_I (647762 : Int)), (9, sv_I (0 : Int))] [] (sv_sts (sv_sts (sv_sts (sv_sts (sv_sts (sv_sts S [68, 69, 70, 81, 82, 83, 84, 85, 86, 74, 78, 79, 80, 76, 77, 1100031] g4) [68, 69, 70] g10) [68, 69, 70] g16) [68, 69, 70] g22) [68, 69, 70] g27) [68, 69, 70] g32) := by
        intro hc
        have h := hS.2.2.2.1 hc
        refine sv_aload_n hM dX12_nativeWays_202 rfl rfl ?_
        refine sv_bipush (d := (24 : Int)) hM dX12_nativeWays_203 rfl rfl ?_
        refine sv_iconst (d := (3 : Int)) hM dX12_nativeWays_205 rfl rfl ?_
        refine sv_iconst (d := (1 : Int)) hM dX12_nativeWays_206 rfl rfl ?_
        refine sv_iconst (d := (-1 : Int)) hM dX12_nativeWays_207 rfl rfl ?_
        obtain ⟨o109, h⟩ := h
        refine sv_callV hM dX12_nativeWays_208 sm_iv_1204 (by decide) (sm_a0 _) rfl rfl (Nat.le_of_ble_eq_true rfl) sm_h254 (Nat.le_of_ble_eq_true rfl) (Nat.le_of_ble_eq_true rfl) (F' := 6) (Nat.le_of_ble_eq_true rfl) rfl (t_addNew (24 : Int) (3 : Int) (1 : Int) (-1 : Int) (sv_sts (sv_sts (sv_sts (sv_sts (sv_sts (sv_sts S [68, 69, 70, 81, 82, 83, 84, 85, 86, 74, 78, 79, 80, 76, 77, 1100031] g4) [68, 69, 70] g10) [68, 69, 70] g16) [68, 69, 70] g22) [68, 69, 70] g27) [68, 69, 70] g32) ok33 (⟨by decide, by decide⟩ : sv_R (24 : Int)) (⟨by decide, by decide⟩ : sv_R (3 : Int)) (⟨by decide, by decide⟩ : 0 ≤ (1 : Int) ∧ (1 : Int) ≤ 1) (⟨by decide, by decide⟩ : sv_R (-1 : Int)) o109) (fun v S1 hq => ?_)
        obtain ⟨rfl, ok111, md112, hpo113⟩ := hq
        obtain ⟨g110, rfl⟩ : ∃ g, S1 = sv_sts (sv_sts (sv_sts (sv_sts (sv_sts (sv_sts (sv_sts S [68, 69, 70, 81, 82, 83, 84, 85, 86, 74, 78, 79, 80, 76, 77, 1100031] g4) [68, 69, 70] g10) [68, 69, 70] g16) [68, 69, 70] g22) [68, 69, 70] g27) [68, 69, 70] g32) [68, 69, 70, 1143, 1144, 5, 1011, 81, 82, 83, 84, 85, 86] g := ⟨_, md112.eq⟩
        show sv_T sm_XS sm_cs sm_L sm_sh 9 (q_nativeWays p1 p2 p3 p4 p5 S) 287 211 [(0, .ref 0), (1, sv_I p1), (2, sv_I p2), (3, sv_I p3), (4, sv_I p4), (5, sv_I p5), (6, sv_I (647760 : Int)), (7, sv_I (647761 : Int)), (8, sv_I (647762 : Int)), (9, sv_I (0 : Int))] [] (sv_sts (sv_sts (sv_sts (sv_sts (sv_sts (sv_sts (sv_sts S [68, 69, 70, 81, 82, 83, 84, 85, 86, 74, 78, 79, 80, 76, 77, 1100031] g4) [68, 69, 70] g10) [68, 69, 70] g16) [68, 69, 70] g22) [68, 69, 70] g27) [68, 69, 70] g32) [68, 69, 70, 1143, 1144, 5, 1011, 81, 82, 83, 84, 85, 86] g110)
        have md114 : sv_mod [68, 69, 70, 81, 82, 83, 84, 85, 86, 71, 74, 75, 1127, 78, 79, 80, 72, 76, 77, 1143, 1144, 5, 1011, 1150, 1149, 1145, 1113, 1111, 1112, 1100031] S (sv_sts (sv_sts (sv_sts (sv_sts (sv_sts (sv_sts (sv_sts S [68, 69, 70, 81, 82, 83, 84, 85, 86, 74, 78, 79, 80, 76, 77, 1100031] g4) [68, 69, 70] g10) [68, 69, 70] g16) [68, 69, 70] g22) [68, 69, 70] g27) [68, 69, 70] g32) [68, 69, 70, 1143, 1144, 5, 1011, 81, 82, 83, 84, 85, 86] g110) := sv_mod.sts md35 (by decide)
        have md115 : sv_mod [68, 69, 70, 1143, 1144, 5, 1011, 81, 82, 83, 84, 85, 86, 1113, 1111, 1112] (sv_sts (sv_sts (sv_sts (sv_sts (sv_sts (sv_sts S [68, 69, 70, 81, 82, 83, 84, 85, 86, 74, 78, 79, 80, 76, 77, 1100031] g4) [68, 69, 70] g10) [68, 69, 70] g16) [68, 69, 70] g22) [68, 69, 70] g27) [68, 69, 70] g32) (sv_sts (sv_sts (sv_sts (sv_sts (sv_sts (sv_sts (sv_sts S [68, 69, 70, 81, 82, 83, 84, 85, 86, 74, 78, 79, 80, 76, 77, 1100031] g4) [68, 69, 70] g10) [68, 69, 70] g16) [68, 69, 70] g22) [68, 69, 70] g27) [68, 69, 70] g32) [68, 69, 70, 1143, 1144, 5, 1011, 81, 82, 83, 84, 85, 86] g110) := sv_mod.sts (sv_mod.rf (l := [68, 69, 70, 1143, 1144, 5, 1011, 81, 82, 83, 84, 85, 86, 1113, 1111, 1112]) (S := (sv_sts (sv_sts (sv_sts (sv_sts (sv_sts (sv_sts S [68, 69, 70, 81, 82, 83, 84, 85, 86, 74, 78, 79, 80, 76, 77, 1100031] g4) [68, 69, 70] g10) [68, 69, 70] g16) [68, 69, 70] g22) [68, 69, 70] g27) [68, 69, 70] g32))) (by decide)
        have h := h g110 hpo113
        refine sv_aload_n hM dX12_nativeWays_211 rfl rfl ?_
        refine sv_iload hM dX12_nativeWays_212 rfl rfl ?_
        refine sv_bipush (d := (24 : Int)) hM dX12_nativeWays_214 rfl rfl ?_
        obtain ⟨o116, h⟩ := h
        refine sv_callV hM dX12_nativeWays_216 sm_iv_1081 (by decide) (sm_a0 _) rfl rfl (Nat.le_of_ble_eq_true rfl) sm_h216 (Nat.le_of_ble_eq_true rfl) (Nat.le_of_ble_eq_true rfl) (F' := 0) (Nat.le_of_ble_eq_true rfl) rfl (t_addLabel (647760 : Int) (24 : Int) (sv_sts (sv_sts (sv_sts (sv_sts (sv_sts (sv_sts (sv_sts S [68, 69, 70, 81, 82, 83, 84, 85, 86, 74, 78, 79, 80, 76, 77, 1100031] g4) [68, 69, 70] g10) [68, 69, 70] g16) [68, 69, 70] g22) [68, 69, 70] g27) [68, 69, 70] g32) [68, 69, 70, 1143, 1144, 5, 1011, 81, 82, 83, 84, 85, 86] g110) ok111 (⟨by decide, by decide⟩ : sv_R (647760 : Int)) (⟨by decide, by decide⟩ : sv_R (24 : Int)) o116) (fun v S1 hq => ?_)
        obtain ⟨rfl, ok118, md119, hpo120⟩ := hq
        obtain ⟨g117, rfl⟩ : ∃ g, S1 = sv_sts (sv_sts (sv_sts (sv_sts (sv_sts (sv_sts (sv_sts (sv_sts S [68, 69, 70, 81, 82, 83, 84, 85, 86, 74, 78, 79, 80, 76, 77, 1100031] g4) [68, 69, 70] g10) [68, 69, 70] g16) [68, 69, 70] g22) [68, 69, 70] g27) [68, 69, 70] g32) [68, 69, 70, 1143, 1144, 5, 1011, 81, 82, 83, 84, 85, 86] g110) [69, 70] g := ⟨_, md119.eq⟩
        show sv_T sm_XS sm_cs sm_L sm_sh 9 (q_nativeWays p1 p2 p3 p4 p5 S) 287 219 [(0, .ref 0), (1, sv_I p1), (2, sv_I p2), (3, sv_I p3), (4, sv_I p4), (5, sv_I p5), (6, sv_I (647760 : Int)), (7, sv_I (647761 : Int)), (8, sv_I (647762 : Int)), (9, sv_I (0 : Int))] [] (sv_sts (sv_sts (sv_sts (sv_sts (sv_sts (sv_sts (sv_sts (sv_sts S [68, 69, 70, 81, 82, 83, 84, 85, 86, 74, 78, 79, 80, 76, 77, 1100031] g4) [68, 69, 70] g10) [68, 69, 70] g16) [68, 69, 70] g22) [68, 69, 70] g27) [68, 69, 70] g32) [68, 69, 70, 1143, 1144, 5, 1011, 81, 82, 83, 84, 85, 86] g110) [69, 70] g117)
        have md121 : sv_mod [68, 69, 70, 81, 82, 83, 84, 85, 86, 71, 74, 75, 1127, 78, 79, 80, 72, 76, 77, 1143, 1144, 5, 1011, 1150, 1149, 1145, 1113, 1111, 1112, 1100031] S (sv_sts (sv_sts (sv_sts (sv_sts (sv_sts (sv_sts (sv_sts (sv_sts S [68, 69, 70, 81, 82, 83, 84, 85, 86, 74, 78, 79, 80, 76, 77, 1100031] g4) [68, 69, 70] g10) [68, 69, 70] g16) [68, 69, 70] g22) [68, 69, 70] g27) [68, 69, 70] g32) [68, 69, 70, 1143, 1144, 5, 1011, 81, 82, 83, 84, 85, 86] g110) [69, 70] g117) := sv_mod.sts md114 (by decide)
        have md122 : sv_mod [68, 69, 70, 1143, 1144, 5, 1011, 81, 82, 83, 84, 85, 86, 1113, 1111, 1112] (sv_sts (sv_sts (sv_sts (sv_sts (sv_sts (sv_sts S [68, 69, 70, 81, 82, 83, 84, 85, 86, 74, 78, 79, 80, 76, 77, 1100031] g4) [68, 69, 70] g10) [68, 69, 70] g16) [68, 69, 70] g22) [68, 69, 70] g27) [68, 69, 70] g32) (sv_sts (sv_sts (sv_sts (sv_sts (sv_sts (sv_sts (sv_sts (sv_sts S [68, 69, 70, 81, 82, 83, 84, 85, 86, 74, 78, 79, 80, 76, 77, 1100031] g4) [68, 69, 70] g10) [68, 69, 70] g16) [68, 69, 70] g22) [68, 69, 70] g27) [68, 69, 70] g32) [68, 69, 70, 1143, 1144, 5, 1011, 81, 82, 83, 84, 85, 86] g110) [69, 70] g117) := sv_mod.sts md115 (by decide)
        have h := h g117 hpo120
        refine sv_goto hM dX12_nativeWays_219 (pc' := 377) rfl ?_
        have eS := sv_mod.eq md122
        have hb := J55 (0 : Int) (⟨by decide, by decide⟩ : sv_R (0 : Int)) (sv_sts (sv_sts (sv_sts (sv_sts (sv_sts (sv_sts (sv_sts (sv_sts S [68, 69, 70, 81, 82, 83, 84, 85, 86, 74, 78, 79, 80, 76, 77, 1100031] g4) [68, 69, 70] g10) [68, 69, 70] g16) [68, 69, 70] g22) [68, 69, 70] g27) [68, 69, 70] g32) [68, 69, 70, 1143, 1144, 5, 1011, 81, 82, 83, 84, 85, 86] g110) [69, 70] g117) (by rw [← eS]; exact ok118) h
        have hb : sv_T sm_XS sm_cs sm_L sm_sh 9 (q_nativeWays p1 p2 p3 p4 p5 S) 287 377 [(0, .ref 0), (1, sv_I p1), (2, sv_I p2), (3, sv_I p3), (4, sv_I p4), (5, sv_I p5), (6, sv_I (647760 : Int)), (7, sv_I (647761 : Int)), (8, sv_I (647762 : Int)), (9, sv_I (0 : Int))] [] (sv_sts (sv_sts (sv_sts (sv_sts (sv_sts (sv_sts (sv_sts (sv_sts S [68, 69, 70, 81, 82, 83, 84, 85, 86, 74, 78, 79, 80, 76, 77, 1100031] g4) [68, 69, 70] g10) [68, 69, 70] g16) [68, 69, 70] g22) [68, 69, 70] g27) [68, 69, 70] g32) [68, 69, 70, 1143, 1144, 5, 1011, 81, 82, 83, 84, 85, 86] g110) [69, 70] g117) := Eq.mpr (congrArg (fun Z => sv_T sm_XS sm_cs sm_L sm_sh 9 (q_nativeWays p1 p2 p3 p4 p5 S) 287 377 [(0, .ref 0), (1, sv_I p1), (2, sv_I p2), (3, sv_I p3), (4, sv_I p4), (5, sv_I p5), (6, sv_I (647760 : Int)), (7, sv_I (647761 : Int)), (8, sv_I (647762 : Int)), (9, sv_I (0 : Int))] [] Z) eS) hb
        exact sv_less (lv := [(0, .ref 0), (1, sv_I p1), (2, sv_I p2), (3, sv_I p3), (4, sv_I p4), (5, sv_I p5), (6, sv_I (647760 : Int)), (7, sv_I (647761 : Int)), (8, sv_I (647762 : Int)), (9, sv_I (0 : Int))]) (sv_Sub_cons rfl (sv_Sub_cons rfl (sv_Sub_cons rfl (sv_Sub_cons rfl (sv_Sub_cons rfl (sv_Sub_cons rfl (sv_Sub_cons rfl (sv_Sub_cons rfl (sv_Sub_cons rfl (sv_Sub_cons rfl sv_Sub_nil)))))))))) hb
      have J4 : (p1 = (12 : Int)) → sv_T sm_XS sm_cs sm_L sm_sh 9 (q_nativeWays p1 p2 p3 p4 p5 S) 287 222 [(0, .ref 0), (1, sv_I p1), (2, sv_I p2), (3, sv_I p3), (4, sv_I p4), (5, sv_I p5), (6, sv_I (647760 : Int)), (7, sv_I (647761 : Int)), (8, sv_I (647762 : Int)), (9, sv_I (0 : Int))] [] (sv_sts (sv_sts (sv_sts (sv_sts (sv_sts (sv_sts S [68, 69, 70, 81, 82, 83, 84, 85, 86, 74, 78, 79, 80, 76, 77, 1100031] g4) [68, 69, 70] g10) [68, 69, 70] g16) [68, 69, 70] g22) [68, 69, 70] g27) [68, 69, 70] g32) := by
        intro hc
        have h := hS.2.2.2.2.1 hc
        refine sv_iload hM dX12_nativeWays_222 rfl rfl ?_
        refine sv_cond_ne hM dX12_nativeWays_224 hp4 (t := 238) rfl rfl (fun hc => ?_) (fun hc => ?_)
        · have h := h.1 (hc)
          refine sv_aload_n hM dX12_nativeWays_238 rfl rfl ?_
          refine sv_iload hM dX12_nativeWays_239 rfl rfl ?_
          refine sv_iload hM dX12_nativeWays_241 rfl rfl ?_
          obtain ⟨o123, h⟩ := h
          refine sv_callV hM dX12_nativeWays_243 sm_iv_1172 (by decide) (sm_a0 _) rfl rfl (Nat.le_of_ble_eq_true rfl) sm_h248 (Nat.le_of_ble_eq_true rfl) (Nat.le_of_ble_eq_true rfl) (F' := 5) (Nat.le_of_ble_eq_true rfl) rfl (t_addTextOf (647761 : Int) (647760 : Int) (sv_sts (sv_sts (sv_sts (sv_sts (sv_sts (sv_sts S [68, 69, 70, 81, 82, 83, 84, 85, 86, 74, 78, 79, 80, 76, 77, 1100031] g4) [68, 69, 70] g10) [68, 69, 70] g16) [68, 69, 70] g22) [68, 69, 70] g27) [68, 69, 70] g32) ok33 (⟨by decide, by decide⟩ : sv_R (647761 : Int)) (⟨by decide, by decide⟩ : sv_R (647760 : Int)) o123) (fun v S1 hq => ?_)
          obtain ⟨rfl, ok125, md126, hpo127⟩ := hq
          obtain ⟨g124, rfl⟩ : ∃ g, S1 = sv_sts (sv_sts (sv_sts (sv_sts (sv_sts (sv_sts (sv_sts S [68, 69, 70, 81, 82, 83, 84, 85, 86, 74, 78, 79, 80, 76, 77, 1100031] g4) [68, 69, 70] g10) [68, 69, 70] g16) [68, 69, 70] g22) [68, 69, 70] g27) [68, 69, 70] g32) [1143, 1144, 5, 1011, 68, 69, 70] g := ⟨_, md126.eq⟩
          show sv_T sm_XS sm_cs sm_L sm_sh 9 (q_nativeWays p1 p2 p3 p4 p5 S) 287 246 [(0, .ref 0), (1, sv_I p1), (2, sv_I p2), (3, sv_I p3), (4, sv_I p4), (5, sv_I p5), (6, sv_I (647760 : Int)), (7, sv_I (647761 : Int)), (8, sv_I (647762 : Int)), (9, sv_I (0 : Int))] [] (sv_sts (sv_sts (sv_sts (sv_sts (sv_sts (sv_sts (sv_sts S [68, 69, 70, 81, 82, 83, 84, 85, 86, 74, 78, 79, 80, 76, 77, 1100031] g4) [68, 69, 70] g10) [68, 69, 70] g16) [68, 69, 70] g22) [68, 69, 70] g27) [68, 69, 70] g32) [1143, 1144, 5, 1011, 68, 69, 70] g124)
          have md128 : sv_mod [68, 69, 70, 81, 82, 83, 84, 85, 86, 71, 74, 75, 1127, 78, 79, 80, 72, 76, 77, 1143, 1144, 5, 1011, 1150, 1149, 1145, 1113, 1111, 1112, 1100031] S (sv_sts (sv_sts (sv_sts (sv_sts (sv_sts (sv_sts (sv_sts S [68, 69, 70, 81, 82, 83, 84, 85, 86, 74, 78, 79, 80, 76, 77, 1100031] g4) [68, 69, 70] g10) [68, 69, 70] g16) [68, 69, 70] g22) [68, 69, 70] g27) [68, 69, 70] g32) [1143, 1144, 5, 1011, 68, 69, 70] g124) := sv_mod.sts md35 (by decide)
          have md129 : sv_mod [68, 69, 70, 1143, 1144, 5, 1011, 81, 82, 83, 84, 85, 86, 1113, 1111, 1112] (sv_sts (sv_sts (sv_sts (sv_sts (sv_sts (sv_sts S [68, 69, 70, 81, 82, 83, 84, 85, 86, 74, 78, 79, 80, 76, 77, 1100031] g4) [68, 69, 70] g10) [68, 69, 70] g16) [68, 69, 70] g22) [68, 69, 70] g27) [68, 69, 70] g32) (sv_sts (sv_sts (sv_sts (sv_sts (sv_sts (sv_sts (sv_sts S [68, 69, 70, 81, 82, 83, 84, 85, 86, 74, 78, 79, 80, 76, 77, 1100031] g4) [68, 69, 70] g10) [68, 69, 70] g16) [68, 69, 70] g22) [68, 69, 70] g27) [68, 69, 70] g32) [1143, 1144, 5, 1011, 68, 69, 70] g124) := sv_mod.sts (sv_mod.rf (l := [68, 69, 70, 1143, 1144, 5, 1011, 81, 82, 83, 84, 85, 86, 1113, 1111, 1112]) (S := (sv_sts (sv_sts (sv_sts (sv_sts (sv_sts (sv_sts S [68, 69, 70, 81, 82, 83, 84, 85, 86, 74, 78, 79, 80, 76, 77, 1100031] g4) [68, 69, 70] g10) [68, 69, 70] g16) [68, 69, 70] g22) [68, 69, 70] g27) [68, 69, 70] g32))) (by decide)
          have h := h g124 hpo127
          refine sv_goto hM dX12_nativeWays_246 (pc' := 377) rfl ?_
          have eS := sv_mod.eq md129
          have hb := J55 (0 : Int) (⟨by decide, by decide⟩ : sv_R (0 : Int)) (sv_sts (sv_sts (sv_sts (sv_sts (sv_sts (sv_sts (sv_sts S [68, 69, 70, 81, 82, 83, 84, 85, 86, 74, 78, 79, 80, 76, 77, 1100031] g4) [68, 69, 70] g10) [68, 69, 70] g16) [68, 69, 70] g22) [68, 69, 70] g27) [68, 69, 70] g32) [1143, 1144, 5, 1011, 68, 69, 70] g124) (by rw [← eS]; exact ok125) h
          have hb : sv_T sm_XS sm_cs sm_L sm_sh 9 (q_nativeWays p1 p2 p3 p4 p5 S) 287 377 [(0, .ref 0), (1, sv_I p1), (2, sv_I p2), (3, sv_I p3), (4, sv_I p4), (5, sv_I p5), (6, sv_I (647760 : Int)), (7, sv_I (647761 : Int)), (8, sv_I (647762 : Int)), (9, sv_I (0 : Int))] [] (sv_sts (sv_sts (sv_sts (sv_sts (sv_sts (sv_sts (sv_sts S [68, 69, 70, 81, 82, 83, 84, 85, 86, 74, 78, 79, 80, 76, 77, 1100031] g4) [68, 69, 70] g10) [68, 69, 70] g16) [68, 69, 70] g22) [68, 69, 70] g27) [68, 69, 70] g32) [1143, 1144, 5, 1011, 68, 69, 70] g124) := Eq.mpr (congrArg (fun Z => sv_T sm_XS sm_cs sm_L sm_sh 9 (q_nativeWays p1 p2 p3 p4 p5 S) 287 377 [(0, .ref 0), (1, sv_I p1), (2, sv_I p2), (3, sv_I p3), (4, sv_I p4), (5, sv_I p5), (6, sv_I (647760 : Int)), (7, sv_I (647761 : Int)), (8, sv_I (647762 : Int)), (9, sv_I (0 : Int))] [] Z) eS) hb
          exact sv_less (lv := [(0, .ref 0), (1, sv_I p1), (2, sv_I p2), (3, sv_I p3), (4, sv_I p4), (5, sv_I p5), (6, sv_I (647760 : Int)), (7, sv_I (647761 : Int)), (8, sv_I (647762 : Int)), (9, sv_I (0 : Int))]) (sv_Sub_cons rfl (sv_Sub_cons rfl (sv_Sub_cons rfl (sv_Sub_cons rfl (sv_Sub_cons rfl (sv_Sub_cons rfl (sv_Sub_cons rfl (sv_Sub_cons rfl (sv_Sub_cons rfl (sv_Sub_cons rfl sv_Sub_nil)))))))))) hb
        · have h := h.2 (hc)
          refine sv_aload_n hM dX12_nativeWays_227 rfl rfl ?_
          refine sv_iload hM dX12_nativeWays_228 rfl rfl ?_
          refine sv_bipush (d := (30 : Int)) hM dX12_nativeWays_230 rfl rfl ?_
          obtain ⟨o130, h⟩ := h
          refine sv_callV hM dX12_nativeWays_232 sm_iv_1078 (by decide) (sm_a0 _) rfl rfl (Nat.le_of_ble_eq_true rfl) sm_h215 (Nat.le_of_ble_eq_true rfl) (Nat.le_of_ble_eq_true rfl) (F' := 2) (Nat.le_of_ble_eq_true rfl) rfl (t_addString (647760 : Int) (30 : Int) (sv_sts (sv_sts (sv_sts (sv_sts (sv_sts (sv_sts S [68, 69, 70, 81, 82, 83, 84, 85, 86, 74, 78, 79, 80, 76, 77, 1100031] g4) [68, 69, 70] g10) [68, 69, 70] g16) [68, 69, 70] g22) [68, 69, 70] g27) [68, 69, 70] g32) ok33 (⟨by decide, by decide⟩ : sv_R (647760 : Int)) (⟨by decide, by decide⟩ : sv_R (30 : Int)) o130) (fun v S1 hq => ?_)
          obtain ⟨rfl, ok132, md133, hpo134⟩ := hq
          obtain ⟨g131, rfl⟩ : ∃ g, S1 = sv_sts (sv_sts (sv_sts (sv_sts (sv_sts (sv_sts (sv_sts S [68, 69, 70, 81, 82, 83, 84, 85, 86, 74, 78, 79, 80, 76, 77, 1100031] g4) [68, 69, 70] g10) [68, 69, 70] g16) [68, 69, 70] g22) [68, 69, 70] g27) [68, 69, 70] g32) [68, 69, 70] g := ⟨_, md133.eq⟩
          show sv_T sm_XS sm_cs sm_L sm_sh 9 (q_nativeWays p1 p2 p3 p4 p5 S) 287 235 [(0, .ref 0), (1, sv_I p1), (2, sv_I p2), (3, sv_I p3), (4, sv_I p4), (5, sv_I p5), (6, sv_I (647760 : Int)), (7, sv_I (647761 : Int)), (8, sv_I (647762 : Int)), (9, sv_I (0 : Int))] [] (sv_sts (sv_sts (sv_sts (sv_sts (sv_sts (sv_sts (sv_sts S [68, 69, 70, 81, 82, 83, 84, 85, 86, 74, 78, 79, 80, 76, 77, 1100031] g4) [68, 69, 70] g10) [68, 69, 70] g16) [68, 69, 70] g22) [68, 69, 70] g27) [68, 69, 70] g32) [68, 69, 70] g131)
          have md135 : sv_mod [68, 69, 70, 81, 82, 83, 84, 85, 86, 71, 74, 75, 1127, 78, 79, 80, 72, 76, 77, 1143, 1144, 5, 1011, 1150, 1149, 1145, 1113, 1111, 1112, 1100031] S (sv_sts (sv_sts (sv_sts (sv_sts (sv_sts (sv_sts (sv_sts S [68, 69, 70, 81, 82, 83, 84, 85, 86, 74, 78, 79, 80, 76, 77, 1100031] g4) [68, 69, 70] g10) [68, 69, 70] g16) [68, 69, 70] g22) [68, 69, 70] g27) [68, 69, 70] g32) [68, 69, 70] g131) := sv_mod.sts md35 (by decide)
          have md136 : sv_mod [68, 69, 70, 1143, 1144, 5, 1011, 81, 82, 83, 84, 85, 86, 1113, 1111, 1112] (sv_sts (sv_sts (sv_sts (sv_sts (sv_sts (sv_sts S [68, 69, 70, 81, 82, 83, 84, 85, 86, 74, 78, 79, 80, 76, 77, 1100031] g4) [68, 69, 70] g10) [68, 69, 70] g16) [68, 69, 70] g22) [68, 69, 70] g27) [68, 69, 70] g32) (sv_sts (sv_sts (sv_sts (sv_sts (sv_sts (sv_sts (sv_sts S [68, 69, 70, 81, 82, 83, 84, 85, 86, 74, 78, 79, 80, 76, 77, 1100031] g4) [68, 69, 70] g10) [68, 69, 70] g16) [68, 69, 70] g22) [68, 69, 70] g27) [68, 69, 70] g32) [68, 69, 70] g131) := sv_mod.sts (sv_mod.rf (l := [68, 69, 70, 1143, 1144, 5, 1011, 81, 82, 83, 84, 85, 86, 1113, 1111, 1112]) (S := (sv_sts (sv_sts (sv_sts (sv_sts (sv_sts (sv_sts S [68, 69, 70, 81, 82, 83, 84, 85, 86, 74, 78, 79, 80, 76, 77, 1100031] g4) [68, 69, 70] g10) [68, 69, 70] g16) [68, 69, 70] g22) [68, 69, 70] g27) [68, 69, 70] g32))) (by decide)
          have h := h g131 hpo134
          refine sv_goto hM dX12_nativeWays_235 (pc' := 377) rfl ?_
          have eS := sv_mod.eq md136
          have hb := J55 (0 : Int) (⟨by decide, by decide⟩ : sv_R (0 : Int)) (sv_sts (sv_sts (sv_sts (sv_sts (sv_sts (sv_sts (sv_sts S [68, 69, 70, 81, 82, 83, 84, 85, 86, 74, 78, 79, 80, 76, 77, 1100031] g4) [68, 69, 70] g10) [68, 69, 70] g16) [68, 69, 70] g22) [68, 69, 70] g27) [68, 69, 70] g32) [68, 69, 70] g131) (by rw [← eS]; exact ok132) h
          have hb : sv_T sm_XS sm_cs sm_L sm_sh 9 (q_nativeWays p1 p2 p3 p4 p5 S) 287 377 [(0, .ref 0), (1, sv_I p1), (2, sv_I p2), (3, sv_I p3), (4, sv_I p4), (5, sv_I p5), (6, sv_I (647760 : Int)), (7, sv_I (647761 : Int)), (8, sv_I (647762 : Int)), (9, sv_I (0 : Int))] [] (sv_sts (sv_sts (sv_sts (sv_sts (sv_sts (sv_sts (sv_sts S [68, 69, 70, 81, 82, 83, 84, 85, 86, 74, 78, 79, 80, 76, 77, 1100031] g4) [68, 69, 70] g10) [68, 69, 70] g16) [68, 69, 70] g22) [68, 69, 70] g27) [68, 69, 70] g32) [68, 69, 70] g131) := Eq.mpr (congrArg (fun Z => sv_T sm_XS sm_cs sm_L sm_sh 9 (q_nativeWays p1 p2 p3 p4 p5 S) 287 377 [(0, .ref 0), (1, sv_I p1), (2, sv_I p2), (3, sv_I p3), (4, sv_I p4), (5, sv_I p5), (6, sv_I (647760 : Int)), (7, sv_I (647761 : Int)), (8, sv_I (647762 : Int)), (9, sv_I (0 : Int))] [] Z) eS) hb
          exact sv_less (lv := [(0, .ref 0), (1, sv_I p1), (2, sv_I p2), (3, sv_I p3), (4, sv_I p4), (5, sv_I p5), (6, sv_I (647760 : Int)), (7, sv_I (647761 : Int)), (8, sv_I (647762 : Int)), (9, sv_I (0 : Int))]) (sv_Sub_cons rfl (sv_Sub_cons rfl (sv_Sub_cons rfl (sv_Sub_cons rfl (sv_Sub_cons rfl (sv_Sub_cons rfl (sv_Sub_cons rfl (sv_Sub_cons rfl (sv_Sub_cons rfl (sv_Sub_cons rfl sv_Sub_nil)))))))))) hb
      have J5 : (p1 = (13 : Int)) → sv_T sm_XS sm_cs sm_L sm_sh 9 (q_nativeWays p1 p2 p3 p4 p5 S) 287 249 [(0, .ref 0), (1, sv_I p1), (2, sv_I p2), (3, sv_I p3), (4, sv_I p4), (5, sv_I p5), (6, sv_I (647760 : Int)), (7, sv_I (647761 : Int)), (8, sv_I (647762 : Int)), (9, sv_I (0 : Int))] [] (sv_sts (sv_sts (sv_sts (sv_sts (sv_sts (sv_sts S [68, 69, 70, 81, 82, 83, 84, 85, 86, 74, 78, 79, 80, 76, 77, 1100031] g4) [68, 69, 70] g10) [68, 69, 70] g16) [68, 69, 70] g22) [68, 69, 70] g27) [68, 69, 70] g32) := by
        intro hc
        have h := hS.2.2.2.2.2.1 hc
        refine sv_aload_n hM dX12_nativeWays_249 rfl rfl ?_
        refine sv_iload hM dX12_nativeWays_250 rfl rfl ?_
        refine sv_iload hM dX12_nativeWays_252 rfl rfl ?_
        obtain ⟨o137, h⟩ := h
        refine sv_callV hM dX12_nativeWays_254 sm_iv_1361 (by decide) (sm_a0 _) rfl rfl (Nat.le_of_ble_eq_true rfl) sm_h288 (Nat.le_of_ble_eq_true rfl) (Nat.le_of_ble_eq_true rfl) (F' := 3) (Nat.le_of_ble_eq_true rfl) rfl (t_isNaNOf (647761 : Int) (647760 : Int) (sv_sts (sv_sts (sv_sts (sv_sts (sv_sts (sv_sts S [68, 69, 70, 81, 82, 83, 84, 85, 86, 74, 78, 79, 80, 76, 77, 1100031] g4) [68, 69, 70] g10) [68, 69, 70] g16) [68, 69, 70] g22) [68, 69, 70] g27) [68, 69, 70] g32) ok33 (⟨by decide, by decide⟩ : sv_R (647761 : Int)) (⟨by decide, by decide⟩ : sv_R (647760 : Int)) o137) (fun v S1 hq => ?_)
        obtain ⟨rfl, ok139, md140, hpo141⟩ := hq
        obtain ⟨g138, rfl⟩ : ∃ g, S1 = sv_sts (sv_sts (sv_sts (sv_sts (sv_sts (sv_sts (sv_sts S [68, 69, 70, 81, 82, 83, 84, 85, 86, 74, 78, 79, 80, 76, 77, 1100031] g4) [68, 69, 70] g10) [68, 69, 70] g16) [68, 69, 70] g22) [68, 69, 70] g27) [68, 69, 70] g32) [68, 69, 70, 1113] g := ⟨_, md140.eq⟩
        show sv_T sm_XS sm_cs sm_L sm_sh 9 (q_nativeWays p1 p2 p3 p4 p5 S) 287 257 [(0, .ref 0), (1, sv_I p1), (2, sv_I p2), (3, sv_I p3), (4, sv_I p4), (5, sv_I p5), (6, sv_I (647760 : Int)), (7, sv_I (647761 : Int)), (8, sv_I (647762 : Int)), (9, sv_I (0 : Int))] [] (sv_sts (sv_sts (sv_sts (sv_sts (sv_sts (sv_sts (sv_sts S [68, 69, 70, 81, 82, 83, 84, 85, 86, 74, 78, 79, 80, 76, 77, 1100031] g4) [68, 69, 70] g10) [68, 69, 70] g16) [68, 69, 70] g22) [68, 69, 70] g27) [68, 69, 70] g32) [68, 69, 70, 1113] g138)
        have md142 : sv_mod [68, 69, 70, 81, 82, 83, 84, 85, 86, 71, 74, 75, 1127, 78, 79, 80, 72, 76, 77, 1143, 1144, 5, 1011, 1150, 1149, 1145, 1113, 1111, 1112, 1100031] S (sv_sts (sv_sts (sv_sts (sv_sts (sv_sts (sv_sts (sv_sts S [68, 69, 70, 81, 82, 83, 84, 85, 86, 74, 78, 79, 80, 76, 77, 1100031] g4) [68, 69, 70] g10) [68, 69, 70] g16) [68, 69, 70] g22) [68, 69, 70] g27) [68, 69, 70] g32) [68, 69, 70, 1113] g138) := sv_mod.sts md35 (by decide)
        have md143 : sv_mod [68, 69, 70, 1143, 1144, 5, 1011, 81, 82, 83, 84, 85, 86, 1113, 1111, 1112] (sv_sts (sv_sts (sv_sts (sv_sts (sv_sts (sv_sts S [68, 69, 70, 81, 82, 83, 84, 85, 86, 74, 78, 79, 80, 76, 77, 1100031] g4) [68, 69, 70] g10) [68, 69, 70] g16) [68, 69, 70] g22) [68, 69, 70] g27) [68, 69, 70] g32) (sv_sts (sv_sts (sv_sts (sv_sts (sv_sts (sv_sts (sv_sts S [68, 69, 70, 81, 82, 83, 84, 85, 86, 74, 78, 79, 80, 76, 77, 1100031] g4) [68, 69, 70] g10) [68, 69, 70] g16) [68, 69, 70] g22) [68, 69, 70] g27) [68, 69, 70] g32) [68, 69, 70, 1113] g138) := sv_mod.sts (sv_mod.rf (l := [68, 69, 70, 1143, 1144, 5, 1011, 81, 82, 83, 84, 85, 86, 1113, 1111, 1112]) (S := (sv_sts (sv_sts (sv_sts (sv_sts (sv_sts (sv_sts S [68, 69, 70, 81, 82, 83, 84, 85, 86, 74, 78, 79, 80, 76, 77, 1100031] g4) [68, 69, 70] g10) [68, 69, 70] g16) [68, 69, 70] g22) [68, 69, 70] g27) [68, 69, 70] g32))) (by decide)
        have h := h g138 hpo141
        refine sv_goto hM dX12_nativeWays_257 (pc' := 377) rfl ?_
        have eS := sv_mod.eq md143
        have hb := J55 (0 : Int) (⟨by decide, by decide⟩ : sv_R (0 : Int)) (sv_sts (sv_sts (sv_sts (sv_sts (sv_sts (sv_sts (sv_sts S [68, 69, 70, 81, 82, 83, 84, 85, 86, 74, 78, 79, 80, 76, 77, 1100031] g4) [68, 69, 70] g10) [68, 69, 70] g16) [68, 69, 70] g22) [68, 69, 70] g27) [68, 69, 70] g32) [68, 69, 70, 1113] g138) (by rw [← eS]; exact ok139) h
        have hb : sv_T sm_XS sm_cs sm_L sm_sh 9 (q_nativeWays p1 p2 p3 p4 p5 S) 287 377 [(0, .ref 0), (1, sv_I p1), (2, sv_I p2), (3, sv_I p3), (4, sv_I p4), (5, sv_I p5), (6, sv_I (647760 : Int)), (7, sv_I (647761 : Int)), (8, sv_I (647762 : Int)), (9, sv_I (0 : Int))] [] (sv_sts (sv_sts (sv_sts (sv_sts (sv_sts (sv_sts (sv_sts S [68, 69, 70, 81, 82, 83, 84, 85, 86, 74, 78, 79, 80, 76, 77, 1100031] g4) [68, 69, 70] g10) [68, 69, 70] g16) [68, 69, 70] g22) [68, 69, 70] g27) [68, 69, 70] g32) [68, 69, 70, 1113] g138) := Eq.mpr (congrArg (fun Z => sv_T sm_XS sm_cs sm_L sm_sh 9 (q_nativeWays p1 p2 p3 p4 p5 S) 287 377 [(0, .ref 0), (1, sv_I p1), (2, sv_I p2), (3, sv_I p3), (4, sv_I p4), (5, sv_I p5), (6, sv_I (647760 : Int)), (7, sv_I (647761 : Int)), (8, sv_I (647762 : Int)), (9, sv_I (0 : Int))] [] Z) eS) hb
        exact sv_less (lv := [(0, .ref 0), (1, sv_I p1), (2, sv_I p2), (3, sv_I p3), (4, sv_I p4), (5, sv_I p5), (6, sv_I (647760 : Int)), (7, sv_I (647761 : Int)), (8, sv_I (647762 : Int)), (9, sv_I (0 : Int))]) (sv_Sub_cons rfl (sv_Sub_cons rfl (sv_Sub_cons rfl (sv_Sub_cons rfl (sv_Sub_cons rfl (sv_Sub_cons rfl (sv_Sub_cons rfl (sv_Sub_cons rfl (sv_Sub_cons rfl (sv_Sub_cons rfl sv_Sub_nil)))))))))) hb
      have J6 : (p1 = (18 : Int) ∨ p1 = (19 : Int)) → sv_T sm_XS sm_cs sm_L sm_sh 9 (q_nativeWays p1 p2 p3 p4 p5 S) 287 260 [(0, .ref 0), (1, sv_I p1), (2, sv_I p2), (3, sv_I p3), (4, sv_I p4), (5, sv_I p5), (6, sv_I (647760 : Int)), (7, sv_I (647761 : Int)), (8, sv_I (647762 : Int)), (9, sv_I (0 : Int))] [] (sv_sts (sv_sts (sv_sts (sv_sts (sv_sts (sv_sts S [68, 69, 70, 81, 82, 83, 84, 85, 86, 74, 78, 79, 80, 76, 77, 1100031] g4) [68, 69, 70] g10) [68, 69, 70] g16) [68, 69, 70] g22) [68, 69, 70] g27) [68, 69, 70] g32) := by
        intro hc
        have h := hS.2.2.2.2.2.2.1 hc
        refine sv_aload_n hM dX12_nativeWays_260 rfl rfl ?_
        refine sv_iload_n hM dX12_nativeWays_261 rfl rfl ?_
        refine sv_iload hM dX12_nativeWays_262 rfl rfl ?_
        refine sv_iload hM dX12_nativeWays_264 rfl rfl ?_
        refine sv_iload hM dX12_nativeWays_266 rfl rfl ?_
        obtain ⟨o144, h⟩ := h
        refine sv_callV hM dX12_nativeWays_268 sm_iv_1364 (by decide) (sm_a0 _) rfl rfl (Nat.le_of_ble_eq_true rfl) sm_h289 (Nat.le_of_ble_eq_true rfl) (Nat.le_of_ble_eq_true rfl) (F' := 3) (Nat.le_of_ble_eq_true rfl) rfl (t_rowWays p1 (647762 : Int) (647761 : Int) (647760 : Int) (sv_sts (sv_sts (sv_sts (sv_sts (sv_sts (sv_sts S [68, 69, 70, 81, 82, 83, 84, 85, 86, 74, 78, 79, 80, 76, 77, 1100031] g4) [68, 69, 70] g10) [68, 69, 70] g16) [68, 69, 70] g22) [68, 69, 70] g27) [68, 69, 70] g32) ok33 hp1 (⟨by decide, by decide⟩ : sv_R (647762 : Int)) (⟨by decide, by decide⟩ : sv_R (647761 : Int)) (⟨by decide, by decide⟩ : sv_R (647760 : Int)) o144) (fun v S1 hq => ?_)
        obtain ⟨r149, rfl, hr149, ok146, md147, hpo148⟩ := hq
        obtain ⟨g145, rfl⟩ : ∃ g, S1 = sv_sts (sv_sts (sv_sts (sv_sts (sv_sts (sv_sts (sv_sts S [68, 69, 70, 81, 82, 83, 84, 85, 86, 74, 78, 79, 80, 76, 77, 1100031] g4) [68, 69, 70] g10) [68, 69, 70] g16) [68, 69, 70] g22) [68, 69, 70] g27) [68, 69, 70] g32) [68, 69, 70] g := ⟨_, md147.eq⟩
        show sv_T sm_XS sm_cs sm_L sm_sh 9 (q_nativeWays p1 p2 p3 p4 p5 S) 287 271 [(0, .ref 0), (1, sv_I p1), (2, sv_I p2), (3, sv_I p3), (4, sv_I p4), (5, sv_I p5), (6, sv_I (647760 : Int)), (7, sv_I (647761 : Int)), (8, sv_I (647762 : Int)), (9, sv_I (0 : Int))] [sv_I r149] (sv_sts (sv_sts (sv_sts (sv_sts (sv_sts (sv_sts (sv_sts S [68, 69, 70, 81, 82, 83, 84, 85, 86, 74, 78, 79, 80, 76, 77, 1100031] g4) [68, 69, 70] g10) [68, 69, 70] g16) [68, 69, 70] g22) [68, 69, 70] g27) [68, 69, 70] g32) [68, 69, 70] g145)
        have md150 : sv_mod [68, 69, 70, 81, 82, 83, 84, 85, 86, 71, 74, 75, 1127, 78, 79, 80, 72, 76, 77, 1143, 1144, 5, 1011, 1150, 1149, 1145, 1113, 1111, 1112, 1100031] S (sv_sts (sv_sts (sv_sts (sv_sts (sv_sts (sv_sts (sv_sts S [68, 69, 70, 81, 82, 83, 84, 85, 86, 74, 78, 79, 80, 76, 77, 1100031] g4) [68, 69, 70] g10) [68, 69, 70] g16) [68, 69, 70] g22) [68, 69, 70] g27) [68, 69, 70] g32) [68, 69, 70] g145) := sv_mod.sts md35 (by decide)
        have md151 : sv_mod [68, 69, 70, 1143, 1144, 5, 1011, 81, 82, 83, 84, 85, 86, 1113, 1111, 1112] (sv_sts (sv_sts (sv_sts (sv_sts (sv_sts (sv_sts S [68, 69, 70, 81, 82, 83, 84, 85, 86, 74, 78, 79, 80, 76, 77, 1100031] g4) [68, 69, 70] g10) [68, 69, 70] g16) [68, 69, 70] g22) [68, 69, 70] g27) [68, 69, 70] g32) (sv_sts (sv_sts (sv_sts (sv_sts (sv_sts (sv_sts (sv_sts S [68, 69, 70, 81, 82, 83, 84, 85, 86, 74, 78, 79, 80, 76, 77, 1100031] g4) [68, 69, 70] g10) [68, 69, 70] g16) [68, 69, 70] g22) [68, 69, 70] g27) [68, 69, 70] g32) [68, 69, 70] g145) := sv_mod.sts (sv_mod.rf (l := [68, 69, 70, 1143, 1144, 5, 1011, 81, 82, 83, 84, 85, 86, 1113, 1111, 1112]) (S := (sv_sts (sv_sts (sv_sts (sv_sts (sv_sts (sv_sts S [68, 69, 70, 81, 82, 83, 84, 85, 86, 74, 78, 79, 80, 76, 77, 1100031] g4) [68, 69, 70] g10) [68, 69, 70] g16) [68, 69, 70] g22) [68, 69, 70] g27) [68, 69, 70] g32))) (by decide)
        have h := h r149 hr149 g145 hpo148
        refine sv_istore hM dX12_nativeWays_271 (by decide) rfl ?_
        show sv_T sm_XS sm_cs sm_L sm_sh 9 (q_nativeWays p1 p2 p3 p4 p5 S) 287 273 [(0, .ref 0), (1, sv_I p1), (2, sv_I p2), (3, sv_I p3), (4, sv_I p4), (5, sv_I p5), (6, sv_I (647760 : Int)), (7, sv_I (647761 : Int)), (8, sv_I (647762 : Int)), (9, sv_I r149)] [] (sv_sts (sv_sts (sv_sts (sv_sts (sv_sts (sv_sts (sv_sts S [68, 69, 70, 81, 82, 83, 84, 85, 86, 74, 78, 79, 80, 76, 77, 1100031] g4) [68, 69, 70] g10) [68, 69, 70] g16) [68, 69, 70] g22) [68, 69, 70] g27) [68, 69, 70] g32) [68, 69, 70] g145)
        refine sv_goto hM dX12_nativeWays_273 (pc' := 377) rfl ?_
        have eS := sv_mod.eq md151
        have hb := J55 r149 hr149 (sv_sts (sv_sts (sv_sts (sv_sts (sv_sts (sv_sts (sv_sts S [68, 69, 70, 81, 82, 83, 84, 85, 86, 74, 78, 79, 80, 76, 77, 1100031] g4) [68, 69, 70] g10) [68, 69, 70] g16) [68, 69, 70] g22) [68, 69, 70] g27) [68, 69, 70] g32) [68, 69, 70] g145) (by rw [← eS]; exact ok146) h
        have hb : sv_T sm_XS sm_cs sm_L sm_sh 9 (q_nativeWays p1 p2 p3 p4 p5 S) 287 377 [(0, .ref 0), (1, sv_I p1), (2, sv_I p2), (3, sv_I p3), (4, sv_I p4), (5, sv_I p5), (6, sv_I (647760 : Int)), (7, sv_I (647761 : Int)), (8, sv_I (647762 : Int)), (9, sv_I r149)] [] (sv_sts (sv_sts (sv_sts (sv_sts (sv_sts (sv_sts (sv_sts S [68, 69, 70, 81, 82, 83, 84, 85, 86, 74, 78, 79, 80, 76, 77, 1100031] g4) [68, 69, 70] g10) [68, 69, 70] g16) [68, 69, 70] g22) [68, 69, 70] g27) [68, 69, 70] g32) [68, 69, 70] g145) := Eq.mpr (congrArg (fun Z => sv_T sm_XS sm_cs sm_L sm_sh 9 (q_nativeWays p1 p2 p3 p4 p5 S) 287 377 [(0, .ref 0), (1, sv_I p1), (2, sv_I p2), (3, sv_I p3), (4, sv_I p4), (5, sv_I p5), (6, sv_I (647760 : Int)), (7, sv_I (647761 : Int)), (8, sv_I (647762 : Int)), (9, sv_I r149)] [] Z) eS) hb
        exact sv_less (lv := [(0, .ref 0), (1, sv_I p1), (2, sv_I p2), (3, sv_I p3), (4, sv_I p4), (5, sv_I p5), (6, sv_I (647760 : Int)), (7, sv_I (647761 : Int)), (8, sv_I (647762 : Int)), (9, sv_I r149)]) (sv_Sub_cons rfl (sv_Sub_cons rfl (sv_Sub_cons rfl (sv_Sub_cons rfl (sv_Sub_cons rfl (sv_Sub_cons rfl (sv_Sub_cons rfl (sv_Sub_cons rfl (sv_Sub_cons rfl (sv_Sub_cons rfl sv_Sub_nil)))))))))) hb
      have J7 : (p1 = (21 : Int)) → sv_T sm_XS sm_cs sm_L sm_sh 9 (q_nativeWays p1 p2 p3 p4 p5 S) 287 276 [(0, .ref 0), (1, sv_I p1), (2, sv_I p2), (3, sv_I p3), (4, sv_I p4), (5, sv_I p5), (6, sv_I (647760 : Int)), (7, sv_I (647761 : Int)), (8, sv_I (647762 : Int)), (9, sv_I (0 : Int))] [] (sv_sts (sv_sts (sv_sts (sv_sts (sv_sts (sv_sts S [68, 69, 70, 81, 82, 83, 84, 85, 86, 74, 78, 79, 80, 76, 77, 1100031] g4) [68, 69, 70] g10) [68, 69, 70] g16) [68, 69, 70] g22) [68, 69, 70] g27) [68, 69, 70] g32) := by
        intro hc
        have h := hS.2.2.2.2.2.2.2.1 hc
        refine sv_aload_n hM dX12_nativeWays_276 rfl rfl ?_
        refine sv_iload hM dX12_nativeWays_277 rfl rfl ?_
        refine sv_iload hM dX12_nativeWays_279 rfl rfl ?_
        refine sv_iload hM dX12_nativeWays_281 rfl rfl ?_
        obtain ⟨o152, h⟩ := h
        refine sv_callV hM dX12_nativeWays_283 sm_iv_1367 (by decide) (sm_a0 _) rfl rfl (Nat.le_of_ble_eq_true rfl) sm_h290 (Nat.le_of_ble_eq_true rfl) (Nat.le_of_ble_eq_true rfl) (F' := 4) (Nat.le_of_ble_eq_true rfl) rfl (t_ownWays (647762 : Int) (647761 : Int) (647760 : Int) (sv_sts (sv_sts (sv_sts (sv_sts (sv_sts (sv_sts S [68, 69, 70, 81, 82, 83, 84, 85, 86, 74, 78, 79, 80, 76, 77, 1100031] g4) [68, 69, 70] g10) [68, 69, 70] g16) [68, 69, 70] g22) [68, 69, 70] g27) [68, 69, 70] g32) ok33 (⟨by decide, by decide⟩ : sv_R (647762 : Int)) (⟨by decide, by decide⟩ : sv_R (647761 : Int)) (⟨by decide, by decide⟩ : sv_R (647760 : Int)) o152) (fun v S1 hq => ?_)
        obtain ⟨r157, rfl, hr157, ok154, md155, hpo156⟩ := hq
        obtain ⟨g153, rfl⟩ : ∃ g, S1 = sv_sts (sv_sts (sv_sts (sv_sts (sv_sts (sv_sts (sv_sts S [68, 69, 70, 81, 82, 83, 84, 85, 86, 74, 78, 79, 80, 76, 77, 1100031] g4) [68, 69, 70] g10) [68, 69, 70] g16) [68, 69, 70] g22) [68, 69, 70] g27) [68, 69, 70] g32) [68, 69, 70, 1143, 1144, 5, 1011] g := ⟨_, md155.eq⟩
        show sv_T sm_XS sm_cs sm_L sm_sh 9 (q_nativeWays p1 p2 p3 p4 p5 S) 287 286 [(0, .ref 0), (1, sv_I p1), (2, sv_I p2), (3, sv_I p3), (4, sv_I p4), (5, sv_I p5), (6, sv_I (647760 : Int)), (7, sv_I (647761 : Int)), (8, sv_I (647762 : Int)), (9, sv_I (0 : Int))] [sv_I r157] (sv_sts (sv_sts (sv_sts (sv_sts (sv_sts (sv_sts (sv_sts S [68, 69, 70, 81, 82, 83, 84, 85, 86, 74, 78, 79, 80, 76, 77, 1100031] g4) [68, 69, 70] g10) [68, 69, 70] g16) [68, 69, 70] g22) [68, 69, 70] g27) [68, 69, 70] g32) [68, 69, 70, 1143, 1144, 5, 1011] g153)
        have md158 : sv_mod [68, 69, 70, 81, 82, 83, 84, 85, 86, 71, 74, 75, 1127, 78, 79, 80, 72, 76, 77, 1143, 1144, 5, 1011, 1150, 1149, 1145, 1113, 1111, 1112, 1100031] S (sv_sts (sv_sts (sv_sts (sv_sts (sv_sts (sv_sts (sv_sts S [68, 69, 70, 81, 82, 83, 84, 85, 86, 74, 78, 79, 80, 76, 77, 1100031] g4) [68, 69, 70] g10) [68, 69, 70] g16) [68, 69, 70] g22) [68, 69, 70] g27) [68, 69, 70] g32) [68, 69, 70, 1143, 1144, 5, 1011] g153) := sv_mod.sts md35 (by decide)
        have md159 : sv_mod [68, 69, 70, 1143, 1144, 5, 1011, 81, 82, 83, 84, 85, 86, 1113, 1111, 1112] (sv_sts (sv_sts (sv_sts (sv_sts (sv_sts (sv_sts S [68, 69, 70, 81, 82, 83, 84, 85, 86, 74, 78, 79, 80, 76, 77, 1100031] g4) [68, 69, 70] g10) [68, 69, 70] g16) [68, 69, 70] g22) [68, 69, 70] g27) [68, 69, 70] g32) (sv_sts (sv_sts (sv_sts (sv_sts (sv_sts (sv_sts (sv_sts S [68, 69, 70, 81, 82, 83, 84, 85, 86, 74, 78, 79, 80, 76, 77, 1100031] g4) [68, 69, 70] g10) [68, 69, 70] g16) [68, 69, 70] g22) [68, 69, 70] g27) [68, 69, 70] g32) [68, 69, 70, 1143, 1144, 5, 1011] g153) := sv_mod.sts (sv_mod.rf (l := [68, 69, 70, 1143, 1144, 5, 1011, 81, 82, 83, 84, 85, 86, 1113, 1111, 1112]) (S := (sv_sts (sv_sts (sv_sts (sv_sts (sv_sts (sv_sts S [68, 69, 70, 81, 82, 83, 84, 85, 86, 74, 78, 79, 80, 76, 77, 1100031] g4) [68, 69, 70] g10) [68, 69, 70] g16) [68, 69, 70] g22) [68, 69, 70] g27) [68, 69, 70] g32))) (by decide)
        have h := h r157 hr157 g153 hpo156
        refine sv_istore hM dX12_nativeWays_286 (by decide) rfl ?_
        show sv_T sm_XS sm_cs sm_L sm_sh 9 (q_nativeWays p1 p2 p3 p4 p5 S) 287 288 [(0, .ref 0), (1, sv_I p1), (2, sv_I p2), (3, sv_I p3), (4, sv_I p4), (5, sv_I p5), (6, sv_I (647760 : Int)), (7, sv_I (647761 : Int)), (8, sv_I (647762 : Int)), (9, sv_I r157)] [] (sv_sts (sv_sts (sv_sts (sv_sts (sv_sts (sv_sts (sv_sts S [68, 69, 70, 81, 82, 83, 84, 85, 86, 74, 78, 79, 80, 76, 77, 1100031] g4) [68, 69, 70] g10) [68, 69, 70] g16) [68, 69, 70] g22) [68, 69, 70] g27) [68, 69, 70] g32) [68, 69, 70, 1143, 1144, 5, 1011] g153)
        refine sv_goto hM dX12_nativeWays_288 (pc' := 377) rfl ?_
        have eS := sv_mod.eq md159
        have hb := J55 r157 hr157 (sv_sts (sv_sts (sv_sts (sv_sts (sv_sts (sv_sts (sv_sts S [68, 69, 70, 81, 82, 83, 84, 85, 86, 74, 78, 79, 80, 76, 77, 1100031] g4) [68, 69, 70] g10) [68, 69, 70] g16) [68, 69, 70] g22) [68, 69, 70] g27) [68, 69, 70] g32) [68, 69, 70, 1143, 1144, 5, 1011] g153) (by rw [← eS]; exact ok154) h
        have hb : sv_T sm_XS sm_cs sm_L sm_sh 9 (q_nativeWays p1 p2 p3 p4 p5 S) 287 377 [(0, .ref 0), (1, sv_I p1), (2, sv_I p2), (3, sv_I p3), (4, sv_I p4), (5, sv_I p5), (6, sv_I (647760 : Int)), (7, sv_I (647761 : Int)), (8, sv_I (647762 : Int)), (9, sv_I r157)] [] (sv_sts (sv_sts (sv_sts (sv_sts (sv_sts (sv_sts (sv_sts S [68, 69, 70, 81, 82, 83, 84, 85, 86, 74, 78, 79, 80, 76, 77, 1100031] g4) [68, 69, 70] g10) [68, 69, 70] g16) [68, 69, 70] g22) [68, 69, 70] g27) [68, 69, 70] g32) [68, 69, 70, 1143, 1144, 5, 1011] g153) := Eq.mpr (congrArg (fun Z => sv_T sm_XS sm_cs sm_L sm_sh 9 (q_nativeWays p1 p2 p3 p4 p5 S) 287 377 [(0, .ref 0), (1, sv_I p1), (2, sv_I p2), (3, sv_I p3), (4, sv_I p4), (5, sv_I p5), (6, sv_I (647760 : Int)), (7, sv_I (647761 : Int)), (8, sv_I (647762 : Int)), (9, sv_I r157)] [] Z) eS) hb
        exact sv_less (lv := [(0, .ref 0), (1, sv_I p1), (2, sv_I p2), (3, sv_I p3), (4, sv_I p4), (5, sv_I p5), (6, sv_I (647760 : Int)), (7, sv_I (647761 : Int)), (8, sv_I (647762 : Int)), (9, sv_I r157)]) (sv_Sub_cons rfl (sv_Sub_cons rfl (sv_Sub_cons rfl (sv_Sub_cons rfl (sv_Sub_cons rfl (sv_Sub_cons rfl (sv_Sub_cons rfl (sv_Sub_cons rfl (sv_Sub_cons rfl (sv_Sub_cons rfl sv_Sub_nil)))))))))) hb
      have J8 : (p1 = (22 : Int)) → sv_T sm_XS sm_cs sm_L sm_sh 9 (q_nativeWays p1 p2 p3 p4 p5 S) 287 291 [(0, .ref 0), (1, sv_I p1), (2, sv_I p2), (3, sv_I p3), (4, sv_I p4), (5, sv_I p5), (6, sv_I (647760 : Int)), (7, sv_I (647761 : Int)), (8, sv_I (647762 : Int)), (9, sv_I (0 : Int))] [] (sv_sts (sv_sts (sv_sts (sv_sts (sv_sts (sv_sts S [68, 69, 70, 81, 82, 83, 84, 85, 86, 74, 78, 79, 80, 76, 77, 1100031] g4) [68, 69, 70] g10) [68, 69, 70] g16) [68, 69, 70] g22) [68, 69, 70] g27) [68, 69, 70] g32) := by
        intro hc
        have h := hS.2.2.2.2.2.2.2.2 hc
        refine sv_aload_n hM dX12_nativeWays_291 rfl rfl ?_
        refine sv_iload hM dX12_nativeWays_292 rfl rfl ?_
        refine sv_callV hM dX12_nativeWays_294 sm_iv_1059 (by decide) (sm_a0 _) rfl rfl (Nat.le_of_ble_eq_true rfl) sm_h210 (Nat.le_of_ble_eq_true rfl) (Nat.le_of_ble_eq_true rfl) (F' := 1) (Nat.le_of_ble_eq_true rfl) rfl (t_plainly (647762 : Int) (sv_sts (sv_sts (sv_sts (sv_sts (sv_sts (sv_sts S [68, 69, 70, 81, 82, 83, 84, 85, 86, 74, 78, 79, 80, 76, 77, 1100031] g4) [68, 69, 70] g10) [68, 69, 70] g16) [68, 69, 70] g22) [68, 69, 70] g27) [68, 69, 70] g32) ok33 (⟨by decide, by decide⟩ : sv_R (647762 : Int)) o21) (fun v S1 hq => ?_)
        obtain ⟨r164, rfl, hr164, ok161, md162, hpo163⟩ := hq
        obtain rfl : (sv_sts (sv_sts (sv_sts (sv_sts (sv_sts (sv_sts S [68, 69, 70, 81, 82, 83, 84, 85, 86, 74, 78, 79, 80, 76, 77, 1100031] g4) [68, 69, 70] g10) [68, 69, 70] g16) [68, 69, 70] g22) [68, 69, 70] g27) [68, 69, 70] g32) = S1 := (funext fun j => md162 j (by intro q; cases q)).symm
        show sv_T sm_XS sm_cs sm_L sm_sh 9 (q_nativeWays p1 p2 p3 p4 p5 S) 287 297 [(0, .ref 0), (1, sv_I p1), (2, sv_I p2), (3, sv_I p3), (4, sv_I p4), (5, sv_I p5), (6, sv_I (647760 : Int)), (7, sv_I (647761 : Int)), (8, sv_I (647762 : Int)), (9, sv_I (0 : Int))] [sv_I r164] (sv_sts (sv_sts (sv_sts (sv_sts (sv_sts (sv_sts S [68, 69, 70, 81, 82, 83, 84, 85, 86, 74, 78, 79, 80, 76, 77, 1100031] g4) [68, 69, 70] g10) [68, 69, 70] g16) [68, 69, 70] g22) [68, 69, 70] g27) [68, 69, 70] g32)
        have h := h r164 hr164 hpo163
        refine sv_sipush (d := (-385 : Int)) hM dX12_nativeWays_297 rfl rfl ?_
        refine sv_anyI hM dX12_nativeWays_300 rfl rfl (fun r165 hr165 _ => ?_)
        have h := h r165 hr165
        refine sv_cond_ne hM dX12_nativeWays_301 hr165 (t := 313) rfl rfl (fun hc => ?_) (fun hc => ?_)
        · have h := h.1 (hc)
          refine sv_iconst (d := (1 : Int)) hM dX12_nativeWays_313 rfl rfl ?_
          refine sv_goto hM dX12_nativeWays_314 (pc' := 318) rfl ?_
          refine sv_istore hM dX12_nativeWays_318 (by decide) rfl ?_
          show sv_T sm_XS sm_cs sm_L sm_sh 9 (q_nativeWays p1 p2 p3 p4 p5 S) 287 320 [(0, .ref 0), (1, sv_I p1), (2, sv_I p2), (3, sv_I p3), (4, sv_I p4), (5, sv_I p5), (6, sv_I (647760 : Int)), (7, sv_I (647761 : Int)), (8, sv_I (647762 : Int)), (9, sv_I (1 : Int))] [] (sv_sts (sv_sts (sv_sts (sv_sts (sv_sts (sv_sts S [68, 69, 70, 81, 82, 83, 84, 85, 86, 74, 78, 79, 80, 76, 77, 1100031] g4) [68, 69, 70] g10) [68, 69, 70] g16) [68, 69, 70] g22) [68, 69, 70] g27) [68, 69, 70] g32)
          refine sv_aload_n hM dX12_nativeWays_320 rfl rfl ?_
          refine sv_iload hM dX12_nativeWays_321 rfl rfl ?_
          refine sv_callV hM dX12_nativeWays_323 sm_iv_1059 (by decide) (sm_a0 _) rfl rfl (Nat.le_of_ble_eq_true rfl) sm_h210 (Nat.le_of_ble_eq_true rfl) (Nat.le_of_ble_eq_true rfl) (F' := 1) (Nat.le_of_ble_eq_true rfl) rfl (t_plainly (647762 : Int) (sv_sts (sv_sts (sv_sts (sv_sts (sv_sts (sv_sts S [68, 69, 70, 81, 82, 83, 84, 85, 86, 74, 78, 79, 80, 76, 77, 1100031] g4) [68, 69, 70] g10) [68, 69, 70] g16) [68, 69, 70] g22) [68, 69, 70] g27) [68, 69, 70] g32) ok161 (⟨by decide, by decide⟩ : sv_R (647762 : Int)) o21) (fun v S1 hq => ?_)
          obtain ⟨r170, rfl, hr170, ok167, md168, hpo169⟩ := hq
          obtain rfl : (sv_sts (sv_sts (sv_sts (sv_sts (sv_sts (sv_sts S [68, 69, 70, 81, 82, 83, 84, 85, 86, 74, 78, 79, 80, 76, 77, 1100031] g4) [68, 69, 70] g10) [68, 69, 70] g16) [68, 69, 70] g22) [68, 69, 70] g27) [68, 69, 70] g32) = S1 := (funext fun j => md168 j (by intro q; cases q)).symm
          show sv_T sm_XS sm_cs sm_L sm_sh 9 (q_nativeWays p1 p2 p3 p4 p5 S) 287 326 [(0, .ref 0), (1, sv_I p1), (2, sv_I p2), (3, sv_I p3), (4, sv_I p4), (5, sv_I p5), (6, sv_I (647760 : Int)), (7, sv_I (647761 : Int)), (8, sv_I (647762 : Int)), (9, sv_I (1 : Int))] [sv_I r170] (sv_sts (sv_sts (sv_sts (sv_sts (sv_sts (sv_sts S [68, 69, 70, 81, 82, 83, 84, 85, 86, 74, 78, 79, 80, 76, 77, 1100031] g4) [68, 69, 70] g10) [68, 69, 70] g16) [68, 69, 70] g22) [68, 69, 70] g27) [68, 69, 70] g32)
          have h := h r170 hr170 hpo169
          refine sv_sipush (d := (384 : Int)) hM dX12_nativeWays_326 rfl rfl ?_
          refine sv_iand hM dX12_nativeWays_329 ⟨by decide, by decide⟩ rfl (fun r171 hr171 => ?_)
          have h := h r171 hr171
          refine sv_cond_eq hM dX12_nativeWays_330 (⟨by omega, by omega⟩ : sv_R r171) (t := 377) rfl rfl (fun hc => ?_) (fun hc => ?_)
          · have h := h.1 (hc)
            have eS := sv_mod.eq (sv_mod.rf (l := [68, 69, 70, 1143, 1144, 5, 1011, 81, 82, 83, 84, 85, 86, 1113, 1111, 1112]) (S := (sv_sts (sv_sts (sv_sts (sv_sts (sv_sts (sv_sts S [68, 69, 70, 81, 82, 83, 84, 85, 86, 74, 78, 79, 80, 76, 77, 1100031] g4) [68, 69, 70] g10) [68, 69, 70] g16) [68, 69, 70] g22) [68, 69, 70] g27) [68, 69, 70] g32)))
            have hb := J55 (1 : Int) (⟨by decide, by decide⟩ : sv_R (1 : Int)) (sv_sts (sv_sts (sv_sts (sv_sts (sv_sts (sv_sts S [68, 69, 70, 81, 82, 83, 84, 85, 86, 74, 78, 79, 80, 76, 77, 1100031] g4) [68, 69, 70] g10) [68, 69, 70] g16) [68, 69, 70] g22) [68, 69, 70] g27) [68, 69, 70] g32) (by rw [← eS]; exact ok167) h
            have hb : sv_T sm_XS sm_cs sm_L sm_sh 9 (q_nativeWays p1 p2 p3 p4 p5 S) 287 377 [(0, .ref 0), (1, sv_I p1), (2, sv_I p2), (3, sv_I p3), (4, sv_I p4), (5, sv_I p5), (6, sv_I (647760 : Int)), (7, sv_I (647761 : Int)), (8, sv_I (647762 : Int)), (9, sv_I (1 : Int))] [] (sv_sts (sv_sts (sv_sts (sv_sts (sv_sts (sv_sts S [68, 69, 70, 81, 82, 83, 84, 85, 86, 74, 78, 79, 80, 76, 77, 1100031] g4) [68, 69, 70] g10) [68, 69, 70] g16) [68, 69, 70] g22) [68, 69, 70] g27) [68, 69, 70] g32) := Eq.mpr (congrArg (fun Z => sv_T sm_XS sm_cs sm_L sm_sh 9 (q_nativeWays p1 p2 p3 p4 p5 S) 287 377 [(0, .ref 0), (1, sv_I p1), (2, sv_I p2), (3, sv_I p3), (4, sv_I p4), (5, sv_I p5), (6, sv_I (647760 : Int)), (7, sv_I (647761 : Int)), (8, sv_I (647762 : Int)), (9, sv_I (1 : Int))] [] Z) eS) hb
            exact sv_less (lv := [(0, .ref 0), (1, sv_I p1), (2, sv_I p2), (3, sv_I p3), (4, sv_I p4), (5, sv_I p5), (6, sv_I (647760 : Int)), (7, sv_I (647761 : Int)), (8, sv_I (647762 : Int)), (9, sv_I (1 : Int))]) (sv_Sub_cons rfl (sv_Sub_cons rfl (sv_Sub_cons rfl (sv_Sub_cons rfl (sv_Sub_cons rfl (sv_Sub_cons rfl (sv_Sub_cons rfl (sv_Sub_cons rfl (sv_Sub_cons rfl (sv_Sub_cons rfl sv_Sub_nil)))))))))) hb
          · have h := h.2 (hc)
            refine sv_aload_n hM dX12_nativeWays_333 rfl rfl ?_
            refine sv_iload hM dX12_nativeWays_334 rfl rfl ?_
            refine sv_iconst (d := (-1 : Int)) hM dX12_nativeWays_336 rfl rfl ?_
            obtain ⟨o172, h⟩ := h
            refine sv_callV hM dX12_nativeWays_337 sm_iv_1078 (by decide) (sm_a0 _) rfl rfl (Nat.le_of_ble_eq_true rfl) sm_h215 (Nat.le_of_ble_eq_true rfl) (Nat.le_of_ble_eq_true rfl) (F' := 2) (Nat.le_of_ble_eq_true rfl) rfl (t_addString (647760 : Int) (-1 : Int) (sv_sts (sv_sts (sv_sts (sv_sts (sv_sts (sv_sts S [68, 69, 70, 81, 82, 83, 84, 85, 86, 74, 78, 79, 80, 76, 77, 1100031] g4) [68, 69, 70] g10) [68, 69, 70] g16) [68, 69, 70] g22) [68, 69, 70] g27) [68, 69, 70] g32) ok167 (⟨by decide, by decide⟩ : sv_R (647760 : Int)) (⟨by decide, by decide⟩ : sv_R (-1 : Int)) o172) (fun v S1 hq => ?_)
            obtain ⟨rfl, ok174, md175, hpo176⟩ := hq
            obtain ⟨g173, rfl⟩ : ∃ g, S1 = sv_sts (sv_sts (sv_sts (sv_sts (sv_sts (sv_sts (sv_sts S [68, 69, 70, 81, 82, 83, 84, 85, 86, 74, 78, 79, 80, 76, 77, 1100031] g4) [68, 69, 70] g10) [68, 69, 70] g16) [68, 69, 70] g22) [68, 69, 70] g27) [68, 69, 70] g32) [68, 69, 70] g := ⟨_, md175.eq⟩
            show sv_T sm_XS sm_cs sm_L sm_sh 9 (q_nativeWays p1 p2 p3 p4 p5 S) 287 340 [(0, .ref 0), (1, sv_I p1), (2, sv_I p2), (3, sv_I p3), (4, sv_I p4), (5, sv_I p5), (6, sv_I (647760 : Int)), (7, sv_I (647761 : Int)), (8, sv_I (647762 : Int)), (9, sv_I (1 : Int))] [] (sv_sts (sv_sts (sv_sts (sv_sts (sv_sts (sv_sts (sv_sts S [68, 69, 70, 81, 82, 83, 84, 85, 86, 74, 78, 79, 80, 76, 77, 1100031] g4) [68, 69, 70] g10) [68, 69, 70] g16) [68, 69, 70] g22) [68, 69, 70] g27) [68, 69, 70] g32) [68, 69, 70] g173)
            have md177 : sv_mod [68, 69, 70, 81, 82, 83, 84, 85, 86, 71, 74, 75, 1127, 78, 79, 80, 72, 76, 77, 1143, 1144, 5, 1011, 1150, 1149, 1145, 1113, 1111, 1112, 1100031] S (sv_sts (sv_sts (sv_sts (sv_sts (sv_sts (sv_sts (sv_sts S [68, 69, 70, 81, 82, 83, 84, 85, 86, 74, 78, 79, 80, 76, 77, 1100031] g4) [68, 69, 70] g10) [68, 69, 70] g16) [68, 69, 70] g22) [68, 69, 70] g27) [68, 69, 70] g32) [68, 69, 70] g173) := sv_mod.sts md35 (by decide)
            have md178 : sv_mod [68, 69, 70, 1143, 1144, 5, 1011, 81, 82, 83, 84, 85, 86, 1113, 1111, 1112] (sv_sts (sv_sts (sv_sts (sv_sts (sv_sts (sv_sts S [68, 69, 70, 81, 82, 83, 84, 85, 86, 74, 78, 79, 80, 76, 77, 1100031] g4) [68, 69, 70] g10) [68, 69, 70] g16) [68, 69, 70] g22) [68, 69, 70] g27) [68, 69, 70] g32) (sv_sts (sv_sts (sv_sts (sv_sts (sv_sts (sv_sts (sv_sts S [68, 69, 70, 81, 82, 83, 84, 85, 86, 74, 78, 79, 80, 76, 77, 1100031] g4) [68, 69, 70] g10) [68, 69, 70] g16) [68, 69, 70] g22) [68, 69, 70] g27) [68, 69, 70] g32) [68, 69, 70] g173) := sv_mod.sts (sv_mod.rf (l := [68, 69, 70, 1143, 1144, 5, 1011, 81, 82, 83, 84, 85, 86, 1113, 1111, 1112]) (S := (sv_sts (sv_sts (sv_sts (sv_sts (sv_sts (sv_sts S [68, 69, 70, 81, 82, 83, 84, 85, 86, 74, 78, 79, 80, 76, 77, 1100031] g4) [68, 69, 70] g10) [68, 69, 70] g16) [68, 69, 70] g22) [68, 69, 70] g27) [68, 69, 70] g32))) (by decide)
            have h := h g173 hpo176
            refine sv_goto hM dX12_nativeWays_340 (pc' := 377) rfl ?_
            have eS := sv_mod.eq md178
            have hb := J55 (1 : Int) (⟨by decide, by decide⟩ : sv_R (1 : Int)) (sv_sts (sv_sts (sv_sts (sv_sts (sv_sts (sv_sts (sv_sts S [68, 69, 70, 81, 82, 83, 84, 85, 86, 74, 78, 79, 80, 76, 77, 1100031] g4) [68, 69, 70] g10) [68, 69, 70] g16) [68, 69, 70] g22) [68, 69, 70] g27) [68, 69, 70] g32) [68, 69, 70] g173) (by rw [← eS]; exact ok174) h
            have hb : sv_T sm_XS sm_cs sm_L sm_sh 9 (q_nativeWays p1 p2 p3 p4 p5 S) 287 377 [(0, .ref 0), (1, sv_I p1), (2, sv_I p2), (3, sv_I p3), (4, sv_I p4), (5, sv_I p5), (6, sv_I (647760 : Int)), (7, sv_I (647761 : Int)), (8, sv_I (647762 : Int)), (9, sv_I (1 : Int))] [] (sv_sts (sv_sts (sv_sts (sv_sts (sv_sts (sv_sts (sv_sts S [68, 69, 70, 81, 82, 83, 84, 85, 86, 74, 78, 79, 80, 76, 77, 1100031] g4) [68, 69, 70] g10) [68, 69, 70] g16) [68, 69, 70] g22) [68, 69, 70] g27) [68, 69, 70] g32) [68, 69, 70] g173) := Eq.mpr (congrArg (fun Z => sv_T sm_XS sm_cs sm_L sm_sh 9 (q_nativeWays p1 p2 p3 p4 p5 S) 287 377 [(0, .ref 0), (1, sv_I p1), (2, sv_I p2), (3, sv_I p3), (4, sv_I p4), (5, sv_I p5), (6, sv_I (647760 : Int)), (7, sv_I (647761 : Int)), (8, sv_I (647762 : Int)), (9, sv_I (1 : Int))] [] Z) eS) hb
            exact sv_less (lv := [(0, .ref 0), (1, sv_I p1), (2, sv_I p2), (3, sv_I p3), (4, sv_I p4), (5, sv_I p5), (6, sv_I (647760 : Int)), (7, sv_I (647761 : Int)), (8, sv_I (647762 : Int)), (9, sv_I (1 : Int))]) (sv_Sub_cons rfl (sv_Sub_cons rfl (sv_Sub_cons rfl (sv_Sub_cons rfl (sv_Sub_cons rfl (sv_Sub_cons rfl (sv_Sub_cons rfl (sv_Sub_cons rfl (sv_Sub_cons rfl (sv_Sub_cons rfl sv_Sub_nil)))))))))) hb
        · have h := h.2 (hc)
          refine sv_aload_n hM dX12_nativeWays_304 rfl rfl ?_
          refine sv_iload hM dX12_nativeWays_305 rfl rfl ?_
          refine sv_callV hM dX12_nativeWays_307 sm_iv_1062 (by decide) (sm_a0 _) rfl rfl (Nat.le_of_ble_eq_true rfl) sm_h209 (Nat.le_of_ble_eq_true rfl) (Nat.le_of_ble_eq_true rfl) (F' := 0) (Nat.le_of_ble_eq_true rfl) rfl (t_hasLabels (647762 : Int) (sv_sts (sv_sts (sv_sts (sv_sts (sv_sts (sv_sts S [68, 69, 70, 81, 82, 83, 84, 85, 86, 74, 78, 79, 80, 76, 77, 1100031] g4) [68, 69, 70] g10) [68, 69, 70] g16) [68, 69, 70] g22) [68, 69, 70] g27) [68, 69, 70] g32) ok161 (⟨by decide, by decide⟩ : sv_R (647762 : Int)) o21) (fun v S1 hq => ?_)
          obtain ⟨r183, rfl, hr183, ok180, md181, hpo182⟩ := hq
          obtain rfl : (sv_sts (sv_sts (sv_sts (sv_sts (sv_sts (sv_sts S [68, 69, 70, 81, 82, 83, 84, 85, 86, 74, 78, 79, 80, 76, 77, 1100031] g4) [68, 69, 70] g10) [68, 69, 70] g16) [68, 69, 70] g22) [68, 69, 70] g27) [68, 69, 70] g32) = S1 := (funext fun j => md181 j (by intro q; cases q)).symm
          show sv_T sm_XS sm_cs sm_L sm_sh 9 (q_nativeWays p1 p2 p3 p4 p5 S) 287 310 [(0, .ref 0), (1, sv_I p1), (2, sv_I p2), (3, sv_I p3), (4, sv_I p4), (5, sv_I p5), (6, sv_I (647760 : Int)), (7, sv_I (647761 : Int)), (8, sv_I (647762 : Int)), (9, sv_I (0 : Int))] [sv_I r183] (sv_sts (sv_sts (sv_sts (sv_sts (sv_sts (sv_sts S [68, 69, 70, 81, 82, 83, 84, 85, 86, 74, 78, 79, 80, 76, 77, 1100031] g4) [68, 69, 70] g10) [68, 69, 70] g16) [68, 69, 70] g22) [68, 69, 70] g27) [68, 69, 70] g32)
          have h := h r183 hr183 hpo182
          refine sv_cond_eq hM dX12_nativeWays_310 hr183 (t := 317) rfl rfl (fun hc => ?_) (fun hc => ?_)
          · have h := h.1 (hc)
            refine sv_iconst (d := (0 : Int)) hM dX12_nativeWays_317 rfl rfl ?_
            refine sv_istore hM dX12_nativeWays_318 (by decide) rfl ?_
            show sv_T sm_XS sm_cs sm_L sm_sh 9 (q_nativeWays p1 p2 p3 p4 p5 S) 287 320 [(0, .ref 0), (1, sv_I p1), (2, sv_I p2), (3, sv_I p3), (4, sv_I p4), (5, sv_I p5), (6, sv_I (647760 : Int)), (7, sv_I (647761 : Int)), (8, sv_I (647762 : Int)), (9, sv_I (0 : Int))] [] (sv_sts (sv_sts (sv_sts (sv_sts (sv_sts (sv_sts S [68, 69, 70, 81, 82, 83, 84, 85, 86, 74, 78, 79, 80, 76, 77, 1100031] g4) [68, 69, 70] g10) [68, 69, 70] g16) [68, 69, 70] g22) [68, 69, 70] g27) [68, 69, 70] g32)
            refine sv_aload_n hM dX12_nativeWays_320 rfl rfl ?_
            refine sv_iload hM dX12_nativeWays_321 rfl rfl ?_
            refine sv_callV hM dX12_nativeWays_323 sm_iv_1059 (by decide) (sm_a0 _) rfl rfl (Nat.le_of_ble_eq_true rfl) sm_h210 (Nat.le_of_ble_eq_true rfl) (Nat.le_of_ble_eq_true rfl) (F' := 1) (Nat.le_of_ble_eq_true rfl) rfl (t_plainly (647762 : Int) (sv_sts (sv_sts (sv_sts (sv_sts (sv_sts (sv_sts S [68, 69, 70, 81, 82, 83, 84, 85, 86, 74, 78, 79, 80, 76, 77, 1100031] g4) [68, 69, 70] g10) [68, 69, 70] g16) [68, 69, 70] g22) [68, 69, 70] g27) [68, 69, 70] g32) ok180 (⟨by decide, by decide⟩ : sv_R (647762 : Int)) o21) (fun v S1 hq => ?_)
            obtain ⟨r188, rfl, hr188, ok185, md186, hpo187⟩ := hq
            obtain rfl : (sv_sts (sv_sts (sv_sts (sv_sts (sv_sts (sv_sts S [68, 69, 70, 81, 82, 83, 84, 85, 86, 74, 78, 79, 80, 76, 77, 1100031] g4) [68, 69, 70] g10) [68, 69, 70] g16) [68, 69, 70] g22) [68, 69, 70] g27) [68, 69, 70] g32) = S1 := (funext fun j => md186 j (by intro q; cases q)).symm
            show sv_T sm_XS sm_cs sm_L sm_sh 9 (q_nativeWays p1 p2 p3 p4 p5 S) 287 326 [(0, .ref 0), (1, sv_I p1), (2, sv_I p2), (3, sv_I p3), (4, sv_I p4), (5, sv_I p5), (6, sv_I (647760 : Int)), (7, sv_I (647761 : Int)), (8, sv_I (647762 : Int)), (9, sv_I (0 : Int))] [sv_I r188] (sv_sts (sv_sts (sv_sts (sv_sts (sv_sts (sv_sts S [68, 69, 70, 81, 82, 83, 84, 85, 86, 74, 78, 79, 80, 76, 77, 1100031] g4) [68, 69, 70] g10) [68, 69, 70] g16) [68, 69, 70] g22) [68, 69, 70] g27) [68, 69, 70] g32)
            have h := h r188 hr188 hpo187
            refine sv_sipush (d := (384 : Int)) hM dX12_nativeWays_326 rfl rfl ?_
            refine sv_iand hM dX12_nativeWays_329 ⟨by decide, by decide⟩ rfl (fun r189 hr189 => ?_)
            have h := h r189 hr189
            refine sv_cond_eq hM dX12_nativeWays_330 (⟨by omega, by omega⟩ : sv_R r189) (t := 377) rfl rfl (fun hc => ?_) (fun hc => ?_)
            · have h := h.1 (hc)
              have eS := sv_mod.eq (sv_mod.rf (l := [68, 69, 70, 1143, 1144, 5, 1011, 81, 82, 83, 84, 85, 86, 1113, 1111, 1112]) (S := (sv_sts (sv_sts (sv_sts (sv_sts (sv_sts (sv_sts S [68, 69, 70, 81, 82, 83, 84, 85, 86, 74, 78, 79, 80, 76, 77, 1100031] g4) [68, 69, 70] g10) [68, 69, 70] g16) [68, 69, 70] g22) [68, 69, 70] g27) [68, 69, 70] g32)))
              have hb := J55 (0 : Int) (⟨by decide, by decide⟩ : sv_R (0 : Int)) (sv_sts (sv_sts (sv_sts (sv_sts (sv_sts (sv_sts S [68, 69, 70, 81, 82, 83, 84, 85, 86, 74, 78, 79, 80, 76, 77, 1100031] g4) [68, 69, 70] g10) [68, 69, 70] g16) [68, 69, 70] g22) [68, 69, 70] g27) [68, 69, 70] g32) (by rw [← eS]; exact ok185) h
              have hb : sv_T sm_XS sm_cs sm_L sm_sh 9 (q_nativeWays p1 p2 p3 p4 p5 S) 287 377 [(0, .ref 0), (1, sv_I p1), (2, sv_I p2), (3, sv_I p3), (4, sv_I p4), (5, sv_I p5), (6, sv_I (647760 : Int)), (7, sv_I (647761 : Int)), (8, sv_I (647762 : Int)), (9, sv_I (0 : Int))] [] (sv_sts (sv_sts (sv_sts (sv_sts (sv_sts (sv_sts S [68, 69, 70, 81, 82, 83, 84, 85, 86, 74, 78, 79, 80, 76, 77, 1100031] g4) [68, 69, 70] g10) [68, 69, 70] g16) [68, 69, 70] g22) [68, 69, 70] g27) [68, 69, 70] g32) := Eq.mpr (congrArg (fun Z => sv_T sm_XS sm_cs sm_L sm_sh 9 (q_nativeWays p1 p2 p3 p4 p5 S) 287 377 [(0, .ref 0), (1, sv_I p1), (2, sv_I p2), (3, sv_I p3), (4, sv_I p4), (5, sv_I p5), (6, sv_I (647760 : Int)), (7, sv_I (647761 : Int)), (8, sv_I (647762 : Int)), (9, sv_I (0 : Int))] [] Z) eS) hb
              exact sv_less (lv := [(0, .ref 0), (1, sv_I p1), (2, sv_I p2), (3, sv_I p3), (4, sv_I p4), (5, sv_I p5), (6, sv_I (647760 : Int)), (7, sv_I (647761 : Int)), (8, sv_I (647762 : Int)), (9, sv_I (0 : Int))]) (sv_Sub_cons rfl (sv_Sub_cons rfl (sv_Sub_cons rfl (sv_Sub_cons rfl (sv_Sub_cons rfl (sv_Sub_cons rfl (sv_Sub_cons rfl (sv_Sub_cons rfl (sv_Sub_cons rfl (sv_Sub_cons rfl sv_Sub_nil)))))))))) hb
            · have h := h.2 (hc)
              refine sv_aload_n hM dX12_nativeWays_333 rfl rfl ?_
              refine sv_iload hM dX12_nativeWays_334 rfl rfl ?_
              refine sv_iconst (d := (-1 : Int)) hM dX12_nativeWays_336 rfl rfl ?_
              obtain ⟨o190, h⟩ := h
              refine sv_callV hM dX12_nativeWays_337 sm_iv_1078 (by decide) (sm_a0 _) rfl rfl (Nat.le_of_ble_eq_true rfl) sm_h215 (Nat.le_of_ble_eq_true rfl) (Nat.le_of_ble_eq_true rfl) (F' := 2) (Nat.le_of_ble_eq_true rfl) rfl (t_addString (647760 : Int) (-1 : Int) (sv_sts (sv_sts (sv_sts (sv_sts (sv_sts (sv_sts S [68, 69, 70, 81, 82, 83, 84, 85, 86, 74, 78, 79, 80, 76, 77, 1100031] g4) [68, 69, 70] g10) [68, 69, 70] g16) [68, 69, 70] g22) [68, 69, 70] g27) [68, 69, 70] g32) ok185 (⟨by decide, by decide⟩ : sv_R (647760 : Int)) (⟨by decide, by decide⟩ : sv_R (-1 : Int)) o190) (fun v S1 hq => ?_)
              obtain ⟨rfl, ok192, md193, hpo194⟩ := hq
              obtain ⟨g191, rfl⟩ : ∃ g, S1 = sv_sts (sv_sts (sv_sts (sv_sts (sv_sts (sv_sts (sv_sts S [68, 69, 70, 81, 82, 83, 84, 85, 86, 74, 78, 79, 80, 76, 77, 1100031] g4) [68, 69, 70] g10) [68, 69, 70] g16) [68, 69, 70] g22) [68, 69, 70] g27) [68, 69, 70] g32) [68, 69, 70] g := ⟨_, md193.eq⟩
              show sv_T sm_XS sm_cs sm_L sm_sh 9 (q_nativeWays p1 p2 p3 p4 p5 S) 287 340 [(0, .ref 0), (1, sv_I p1), (2, sv_I p2), (3, sv_I p3), (4, sv_I p4), (5, sv_I p5), (6, sv_I (647760 : Int)), (7, sv_I (647761 : Int)), (8, sv_I (647762 : Int)), (9, sv_I (0 : Int))] [] (sv_sts (sv_sts (sv_sts (sv_sts (sv_sts (sv_sts (sv_sts S [68, 69, 70, 81, 82, 83, 84, 85, 86, 74, 78, 79, 80, 76, 77, 1100031] g4) [68, 69, 70] g10) [68, 69, 70] g16) [68, 69, 70] g22) [68, 69, 70] g27) [68, 69, 70] g32) [68, 69, 70] g191)
              have md195 : sv_mod [68, 69, 70, 81, 82, 83, 84, 85, 86, 71, 74, 75, 1127, 78, 79, 80, 72, 76, 77, 1143, 1144, 5, 1011, 1150, 1149, 1145, 1113, 1111, 1112, 1100031] S (sv_sts (sv_sts (sv_sts (sv_sts (sv_sts (sv_sts (sv_sts S [68, 69, 70, 81, 82, 83, 84, 85, 86, 74, 78, 79, 80, 76, 77, 1100031] g4) [68, 69, 70] g10) [68, 69, 70] g16) [68, 69, 70] g22) [68, 69, 70] g27) [68, 69, 70] g32) [68, 69, 70] g191) := sv_mod.sts md35 (by decide)
              have md196 : sv_mod [68, 69, 70, 1143, 1144, 5, 1011, 81, 82, 83, 84, 85, 86, 1113, 1111, 1112] (sv_sts (sv_sts (sv_sts (sv_sts (sv_sts (sv_sts S [68, 69, 70, 81, 82, 83, 84, 85, 86, 74, 78, 79, 80, 76, 77, 1100031] g4) [68, 69, 70] g10) [68, 69, 70] g16) [68, 69, 70] g22) [68, 69, 70] g27) [68, 69, 70] g32) (sv_sts (sv_sts (sv_sts (sv_sts (sv_sts (sv_sts (sv_sts S [68, 69, 70, 81, 82, 83, 84, 85, 86, 74, 78, 79, 80, 76, 77, 1100031] g4) [68, 69, 70] g10) [68, 69, 70] g16) [68, 69, 70] g22) [68, 69, 70] g27) [68, 69, 70] g32) [68, 69, 70] g191) := sv_mod.sts (sv_mod.rf (l := [68, 69, 70, 1143, 1144, 5, 1011, 81, 82, 83, 84, 85, 86, 1113, 1111, 1112]) (S := (sv_sts (sv_sts (sv_sts (sv_sts (sv_sts (sv_sts S [68, 69, 70, 81, 82, 83, 84, 85, 86, 74, 78, 79, 80, 76, 77, 1100031] g4) [68, 69, 70] g10) [68, 69, 70] g16) [68, 69, 70] g22) [68, 69, 70] g27) [68, 69, 70] g32))) (by decide)
              have h := h g191 hpo194
              refine sv_goto hM dX12_nativeWays_340 (pc' := 377) rfl ?_
              have eS := sv_mod.eq md196
              have hb := J55 (0 : Int) (⟨by decide, by decide⟩ : sv_R (0 : Int)) (sv_sts (sv_sts (sv_sts (sv_sts (sv_sts (sv_sts (sv_sts S [68, 69, 70, 81, 82, 83, 84, 85, 86, 74, 78, 79, 80, 76, 77, 1100031] g4) [68, 69, 70] g10) [68, 69, 70] g16) [68, 69, 70] g22) [68, 69, 70] g27) [68, 69, 70] g32) [68, 69, 70] g191) (by rw [← eS]; exact ok192) h
              have hb : sv_T sm_XS sm_cs sm_L sm_sh 9 (q_nativeWays p1 p2 p3 p4 p5 S) 287 377 [(0, .ref 0), (1, sv_I p1), (2, sv_I p2), (3, sv_I p3), (4, sv_I p4), (5, sv_I p5), (6, sv_I (647760 : Int)), (7, sv_I (647761 : Int)), (8, sv_I (647762 : Int)), (9, sv_I (0 : Int))] [] (sv_sts (sv_sts (sv_sts (sv_sts (sv_sts (sv_sts (sv_sts S [68, 69, 70, 81, 82, 83, 84, 85, 86, 74, 78, 79, 80, 76, 77, 1100031] g4) [68, 69, 70] g10) [68, 69, 70] g16) [68, 69, 70] g22) [68, 69, 70] g27) [68, 69, 70] g32) [68, 69, 70] g191) := Eq.mpr (congrArg (fun Z => sv_T sm_XS sm_cs sm_L sm_sh 9 (q_nativeWays p1 p2 p3 p4 p5 S) 287 377 [(0, .ref 0), (1, sv_I p1), (2, sv_I p2), (3, sv_I p3), (4, sv_I p4), (5, sv_I p5), (6, sv_I (647760 : Int)), (7, sv_I (647761 : Int)), (8, sv_I (647762 : Int)), (9, sv_I (0 : Int))] [] Z) eS) hb
              exact sv_less (lv := [(0, .ref 0), (1, sv_I p1), (2, sv_I p2), (3, sv_I p3), (4, sv_I p4), (5, sv_I p5), (6, sv_I (647760 : Int)), (7, sv_I (647761 : Int)), (8, sv_I (647762 : Int)), (9, sv_I (0 : Int))]) (sv_Sub_cons rfl (sv_Sub_cons rfl (sv_Sub_cons rfl (sv_Sub_cons rfl (sv_Sub_cons rfl (sv_Sub_cons rfl (sv_Sub_cons rfl (sv_Sub_cons rfl (sv_Sub_cons rfl (sv_Sub_cons rfl sv_Sub_nil)))))))))) hb
          · have h := h.2 (hc)
            refine sv_iconst (d := (1 : Int)) hM dX12_nativeWays_313 rfl rfl ?_
            refine sv_goto hM dX12_nativeWays_314 (pc' := 318) rfl ?_
            refine sv_istore hM dX12_nativeWays_318 (by decide) rfl ?_
            show sv_T sm_XS sm_cs sm_L sm_sh 9 (q_nativeWays p1 p2 p3 p4 p5 S) 287 320 [(0, .ref 0), (1, sv_I p1), (2, sv_I p2), (3, sv_I p3), (4, sv_I p4), (5, sv_I p5), (6, sv_I (647760 : Int)), (7, sv_I (647761 : Int)), (8, sv_I (647762 : Int)), (9, sv_I (1 : Int))] [] (sv_sts (sv_sts (sv_sts (sv_sts (sv_sts (sv_sts S [68, 69, 70, 81, 82, 83, 84, 85, 86, 74, 78, 79, 80, 76, 77, 1100031] g4) [68, 69, 70] g10) [68, 69, 70] g16) [68, 69, 70] g22) [68, 69, 70] g27) [68, 69, 70] g32)
            refine sv_aload_n hM dX12_nativeWays_320 rfl rfl ?_
            refine sv_iload hM dX12_nativeWays_321 rfl rfl ?_
            refine sv_callV hM dX12_nativeWays_323 sm_iv_1059 (by decide) (sm_a0 _) rfl rfl (Nat.le_of_ble_eq_true rfl) sm_h210 (Nat.le_of_ble_eq_true rfl) (Nat.le_of_ble_eq_true rfl) (F' := 1) (Nat.le_of_ble_eq_true rfl) rfl (t_plainly (647762 : Int) (sv_sts (sv_sts (sv_sts (sv_sts (sv_sts (sv_sts S [68, 69, 70, 81, 82, 83, 84, 85, 86, 74, 78, 79, 80, 76, 77, 1100031] g4) [68, 69, 70] g10) [68, 69, 70] g16) [68, 69, 70] g22) [68, 69, 70] g27) [68, 69, 70] g32) ok180 (⟨by decide, by decide⟩ : sv_R (647762 : Int)) o21) (fun v S1 hq => ?_)
            obtain ⟨r201, rfl, hr201, ok198, md199, hpo200⟩ := hq
            obtain rfl : (sv_sts (sv_sts (sv_sts (sv_sts (sv_sts (sv_sts S [68, 69, 70, 81, 82, 83, 84, 85, 86, 74, 78, 79, 80, 76, 77, 1100031] g4) [68, 69, 70] g10) [68, 69, 70] g16) [68, 69, 70] g22) [68, 69, 70] g27) [68, 69, 70] g32) = S1 := (funext fun j => md199 j (by intro q; cases q)).symm
            show sv_T sm_XS sm_cs sm_L sm_sh 9 (q_nativeWays p1 p2 p3 p4 p5 S) 287 326 [(0, .ref 0), (1, sv_I p1), (2, sv_I p2), (3, sv_I p3), (4, sv_I p4), (5, sv_I p5), (6, sv_I (647760 : Int)), (7, sv_I (647761 : Int)), (8, sv_I (647762 : Int)), (9, sv_I (1 : Int))] [sv_I r201] (sv_sts (sv_sts (sv_sts (sv_sts (sv_sts (sv_sts S [68, 69, 70, 81, 82, 83, 84, 85, 86, 74, 78, 79, 80, 76, 77, 1100031] g4) [68, 69, 70] g10) [68, 69, 70] g16) [68, 69, 70] g22) [68, 69, 70] g27) [68, 69, 70] g32)
            have h := h r201 hr201 hpo200
            refine sv_sipush (d := (384 : Int)) hM dX12_nativeWays_326 rfl rfl ?_
            refine sv_iand hM dX12_nativeWays_329 ⟨by decide, by decide⟩ rfl (fun r202 hr202 => ?_)
            have h := h r202 hr202
            refine sv_cond_eq hM dX12_nativeWays_330 (⟨by omega, by omega⟩ : sv_R r202) (t := 377) rfl rfl (fun hc => ?_) (fun hc => ?_)
            · have h := h.1 (hc)
              have eS := sv_mod.eq (sv_mod.rf (l := [68, 69, 70, 1143, 1144, 5, 1011, 81, 82, 83, 84, 85, 86, 1113, 1111, 1112]) (S := (sv_sts (sv_sts (sv_sts (sv_sts (sv_sts (sv_sts S [68, 69, 70, 81, 82, 83, 84, 85, 86, 74, 78, 79, 80, 76, 77, 1100031] g4) [68, 69, 70] g10) [68, 69, 70] g16) [68, 69, 70] g22) [68, 69, 70] g27) [68, 69, 70] g32)))
              have hb := J55 (1 : Int) (⟨by decide, by decide⟩ : sv_R (1 : Int)) (sv_sts (sv_sts (sv_sts (sv_sts (sv_sts (sv_sts S [68, 69, 70, 81, 82, 83, 84, 85, 86, 74, 78, 79, 80, 76, 77, 1100031] g4) [68, 69, 70] g10) [68, 69, 70] g16) [68, 69, 70] g22) [68, 69, 70] g27) [68, 69, 70] g32) (by rw [← eS]; exact ok198) h
              have hb : sv_T sm_XS sm_cs sm_L sm_sh 9 (q_nativeWays p1 p2 p3 p4 p5 S) 287 377 [(0, .ref 0), (1, sv_I p1), (2, sv_I p2), (3, sv_I p3), (4, sv_I p4), (5, sv_I p5), (6, sv_I (647760 : Int)), (7, sv_I (647761 : Int)), (8, sv_I (647762 : Int)), (9, sv_I (1 : Int))] [] (sv_sts (sv_sts (sv_sts (sv_sts (sv_sts (sv_sts S [68, 69, 70, 81, 82, 83, 84, 85, 86, 74, 78, 79, 80, 76, 77, 1100031] g4) [68, 69, 70] g10) [68, 69, 70] g16) [68, 69, 70] g22) [68, 69, 70] g27) [68, 69, 70] g32) := Eq.mpr (congrArg (fun Z => sv_T sm_XS sm_cs sm_L sm_sh 9 (q_nativeWays p1 p2 p3 p4 p5 S) 287 377 [(0, .ref 0), (1, sv_I p1), (2, sv_I p2), (3, sv_I p3), (4, sv_I p4), (5, sv_I p5), (6, sv_I (647760 : Int)), (7, sv_I (647761 : Int)), (8, sv_I (647762 : Int)), (9, sv_I (1 : Int))] [] Z) eS) hb
              exact sv_less (lv := [(0, .ref 0), (1, sv_I p1), (2, sv_I p2), (3, sv_I p3), (4, sv_I p4), (5, sv_I p5), (6, sv_I (647760 : Int)), (7, sv_I (647761 : Int)), (8, sv_I (647762 : Int)), (9, sv_I (1 : Int))]) (sv_Sub_cons rfl (sv_Sub_cons rfl (sv_Sub_cons rfl (sv_Sub_cons rfl (sv_Sub_cons rfl (sv_Sub_cons rfl (sv_Sub_cons rfl (sv_Sub_cons rfl (sv_Sub_cons rfl (sv_Sub_cons rfl sv_Sub_nil)))))))))) hb
            · have h := h.2 (hc)
              refine sv_aload_n hM dX12_nativeWays_333 rfl rfl ?_
              refine sv_iload hM dX12_nativeWays_334 rfl rfl ?_
              refine sv_iconst (d := (-1 : Int)) hM dX12_nativeWays_336 rfl rfl ?_
              obtain ⟨o203, h⟩ := h
              refine sv_callV hM dX12_nativeWays_337 sm_iv_1078 (by decide) (sm_a0 _) rfl rfl (Nat.le_of_ble_eq_true rfl) sm_h215 (Nat.le_of_ble_eq_true rfl) (Nat.le_of_ble_eq_true rfl) (F' := 2) (Nat.le_of_ble_eq_true rfl) rfl (t_addString (647760 : Int) (-1 : Int) (sv_sts (sv_sts (sv_sts (sv_sts (sv_sts (sv_sts S [68, 69, 70, 81, 82, 83, 84, 85, 86, 74, 78, 79, 80, 76, 77, 1100031] g4) [68, 69, 70] g10) [68, 69, 70] g16) [68, 69, 70] g22) [68, 69, 70] g27) [68, 69, 70] g32) ok198 (⟨by decide, by decide⟩ : sv_R (647760 : Int)) (⟨by decide, by decide⟩ : sv_R (-1 : Int)) o203) (fun v S1 hq => ?_)
              obtain ⟨rfl, ok205, md206, hpo207⟩ := hq
              obtain ⟨g204, rfl⟩ : ∃ g, S1 = sv_sts (sv_sts (sv_sts (sv_sts (sv_sts (sv_sts (sv_sts S [68, 69, 70, 81, 82, 83, 84, 85, 86, 74, 78, 79, 80, 76, 77, 1100031] g4) [68, 69, 70] g10) [68, 69, 70] g16) [68, 69, 70] g22) [68, 69, 70] g27) [68, 69, 70] g32) [68, 69, 70] g := ⟨_, md206.eq⟩
              show sv_T sm_XS sm_cs sm_L sm_sh 9 (q_nativeWays p1 p2 p3 p4 p5 S) 287 340 [(0, .ref 0), (1, sv_I p1), (2, sv_I p2), (3, sv_I p3), (4, sv_I p4), (5, sv_I p5), (6, sv_I (647760 : Int)), (7, sv_I (647761 : Int)), (8, sv_I (647762 : Int)), (9, sv_I (1 : Int))] [] (sv_sts (sv_sts (sv_sts (sv_sts (sv_sts (sv_sts (sv_sts S [68, 69, 70, 81, 82, 83, 84, 85, 86, 74, 78, 79, 80, 76, 77, 1100031] g4) [68, 69, 70] g10) [68, 69, 70] g16) [68, 69, 70] g22) [68, 69, 70] g27) [68, 69, 70] g32) [68, 69, 70] g204)
              have md208 : sv_mod [68, 69, 70, 81, 82, 83, 84, 85, 86, 71, 74, 75, 1127, 78, 79, 80, 72, 76, 77, 1143, 1144, 5, 1011, 1150, 1149, 1145, 1113, 1111, 1112, 1100031] S (sv_sts (sv_sts (sv_sts (sv_sts (sv_sts (sv_sts (sv_sts S [68, 69, 70, 81, 82, 83, 84, 85, 86, 74, 78, 79, 80, 76, 77, 1100031] g4) [68, 69, 70] g10) [68, 69, 70] g16) [68, 69, 70] g22) [68, 69, 70] g27) [68, 69, 70] g32) [68, 69, 70] g204) := sv_mod.sts md35 (by decide)
              have md209 : sv_mod [68, 69, 70, 1143, 1144, 5, 1011, 81, 82, 83, 84, 85, 86, 1113, 1111, 1112] (sv_sts (sv_sts (sv_sts (sv_sts (sv_sts (sv_sts S [68, 69, 70, 81, 82, 83, 84, 85, 86, 74, 78, 79, 80, 76, 77, 1100031] g4) [68, 69, 70] g10) [68, 69, 70] g16) [68, 69, 70] g22) [68, 69, 70] g27) [68, 69, 70] g32) (sv_sts (sv_sts (sv_sts (sv_sts (sv_sts (sv_sts (sv_sts S [68, 69, 70, 81, 82, 83, 84, 85, 86, 74, 78, 79, 80, 76, 77, 1100031] g4) [68, 69, 70] g10) [68, 69, 70] g16) [68, 69, 70] g22) [68, 69, 70] g27) [68, 69, 70] g32) [68, 69, 70] g204) := sv_mod.sts (sv_mod.rf (l := [68, 69, 70, 1143, 1144, 5, 1011, 81, 82, 83, 84, 85, 86, 1113, 1111, 1112]) (S := (sv_sts (sv_sts (sv_sts (sv_sts (sv_sts (sv_sts S [68, 69, 70, 81, 82, 83, 84, 85, 86, 74, 78, 79, 80, 76, 77, 1100031] g4) [68, 69, 70] g10) [68, 69, 70] g16) [68, 69, 70] g22) [68, 69, 70] g27) [68, 69, 70] g32))) (by decide)
              have h := h g204 hpo207
              refine sv_goto hM dX12_nativeWays_340 (pc' := 377) rfl ?_
              have eS := sv_mod.eq md209
              have hb := J55 (1 : Int) (⟨by decide, by decide⟩ : sv_R (1 : Int)) (sv_sts (sv_sts (sv_sts (sv_sts (sv_sts (sv_sts (sv_sts S [68, 69, 70, 81, 82, 83, 84, 85, 86, 74, 78, 79, 80, 76, 77, 1100031] g4) [68, 69, 70] g10) [68, 69, 70] g16) [68, 69, 70] g22) [68, 69, 70] g27) [68, 69, 70] g32) [68, 69, 70] g204) (by rw [← eS]; exact ok205) h
              have hb : sv_T sm_XS sm_cs sm_L sm_sh 9 (q_nativeWays p1 p2 p3 p4 p5 S) 287 377 [(0, .ref 0), (1, sv_I p1), (2, sv_I p2), (3, sv_I p3), (4, sv_I p4), (5, sv_I p5), (6, sv_I (647760 : Int)), (7, sv_I (647761 : Int)), (8, sv_I (647762 : Int)), (9, sv_I (1 : Int))] [] (sv_sts (sv_sts (sv_sts (sv_sts (sv_sts (sv_sts (sv_sts S [68, 69, 70, 81, 82, 83, 84, 85, 86, 74, 78, 79, 80, 76, 77, 1100031] g4) [68, 69, 70] g10) [68, 69, 70] g16) [68, 69, 70] g22) [68, 69, 70] g27) [68, 69, 70] g32) [68, 69, 70] g204) := Eq.mpr (congrArg (fun Z => sv_T sm_XS sm_cs sm_L sm_sh 9 (q_nativeWays p1 p2 p3 p4 p5 S) 287 377 [(0, .ref 0), (1, sv_I p1), (2, sv_I p2), (3, sv_I p3), (4, sv_I p4), (5, sv_I p5), (6, sv_I (647760 : Int)), (7, sv_I (647761 : Int)), (8, sv_I (647762 : Int)), (9, sv_I (1 : Int))] [] Z) eS) hb
              exact sv_less (lv := [(0, .ref 0), (1, sv_I p1), (2, sv_I p2), (3, sv_I p3), (4, sv_I p4), (5, sv_I p5), (6, sv_I (647760 : Int)), (7, sv_I (647761 : Int)), (8, sv_I (647762 : Int)), (9, sv_I (1 : Int))]) (sv_Sub_cons rfl (sv_Sub_cons rfl (sv_Sub_cons rfl (sv_Sub_cons rfl (sv_Sub_cons rfl (sv_Sub_cons rfl (sv_Sub_cons rfl (sv_Sub_cons rfl (sv_Sub_cons rfl (sv_Sub_cons rfl sv_Sub_nil)))))))))) hb
      refine sv_tsw hM dX12_nativeWays_103 hp1 (t := 343) rfl (fun hc => J0 (by rcases hc with hc | hc; exact Or.inl hc; exact Or.inr (Or.inl hc))) (fun hc => ?_)
      have hv : p1 = (9 : Int) ∨ p1 = (10 : Int) ∨ p1 = (11 : Int) ∨ p1 = (12 : Int) ∨ p1 = (13 : Int) ∨ p1 = (14 : Int) ∨ p1 = (15 : Int) ∨ p1 = (16 : Int) ∨ p1 = (17 : Int) ∨ p1 = (18 : Int) ∨ p1 = (19 : Int) ∨ p1 = (20 : Int) ∨ p1 = (21 : Int) ∨ p1 = (22 : Int) := by omega
      rcases hv with hv | hv | hv | hv | hv | hv | hv | hv | hv | hv | hv | hv | hv | hv
      · exact ⟨69, 172, by rw [hv]; rfl, rfl, J1 (by omega)⟩
      · exact ⟨79, 182, by rw [hv]; rfl, rfl, J2 (by omega)⟩
      · exact ⟨99, 202, by rw [hv]; rfl, rfl, J3 (by omega)⟩
      · exact ⟨119, 222, by rw [hv]; rfl, rfl, J4 (by omega)⟩
      · exact ⟨146, 249, by rw [hv]; rfl, rfl, J5 (by omega)⟩
      · exact ⟨240, 343, by rw [hv]; rfl, rfl, J0 (by omega)⟩
      · exact ⟨240, 343, by rw [hv]; rfl, rfl, J0 (by omega)⟩
      · exact ⟨240, 343, by rw [hv]; rfl, rfl, J0 (by omega)⟩
      · exact ⟨240, 343, by rw [hv]; rfl, rfl, J0 (by omega)⟩
      · exact ⟨157, 260, by rw [hv]; rfl, rfl, J6 (by omega)⟩
      · exact ⟨157, 260, by rw [hv]; rfl, rfl, J6 (by omega)⟩
      · exact ⟨240, 343, by rw [hv]; rfl, rfl, J0 (by omega)⟩
      · exact ⟨173, 276, by rw [hv]; rfl, rfl, J7 (by omega)⟩
      · exact ⟨188, 291, by rw [hv]; rfl, rfl, J8 (by omega)⟩
    have h := h.2
    refine sv_iload_n hM dX12_nativeWays_70 rfl rfl ?_
    refine sv_iconst (d := (-1 : Int)) hM dX12_nativeWays_71 rfl rfl ?_
    refine sv_icmp_ne hM dX12_nativeWays_72 hp2 (⟨by decide, by decide⟩ : sv_R (-1 : Int)) (t := 85) rfl rfl (fun hc => ?_) (fun hc => ?_)
    · have h := h.1 (hc)
      refine sv_aload_n hM dX12_nativeWays_85 rfl rfl ?_
      refine sv_aload_n hM dX12_nativeWays_86 rfl rfl ?_
      refine sv_sipush (d := (639 : Int)) hM dX12_nativeWays_87 rfl rfl ?_
      refine sv_iload_n hM dX12_nativeWays_90 rfl rfl ?_
      obtain ⟨o211, h⟩ := h
      refine sv_callV hM dX12_nativeWays_91 sm_iv_1323 (by decide) (sm_a0 _) rfl rfl (Nat.le_of_ble_eq_true rfl) sm_h228 (Nat.le_of_ble_eq_true rfl) (Nat.le_of_ble_eq_true rfl) (F' := 0) (Nat.le_of_ble_eq_true rfl) rfl (t_onStack (639 : Int) p2 (sv_sts (sv_sts (sv_sts (sv_sts (sv_sts S [68, 69, 70, 81, 82, 83, 84, 85, 86, 74, 78, 79, 80, 76, 77, 1100031] g4) [68, 69, 70] g10) [68, 69, 70] g16) [68, 69, 70] g22) [68, 69, 70] g27) ok28 (⟨by decide, by decide⟩ : sv_R (639 : Int)) hp2 o211) (fun v S1 hq => ?_)
      obtain ⟨r216, rfl, hr216, ok213, md214, hpo215⟩ := hq
      obtain rfl : (sv_sts (sv_sts (sv_sts (sv_sts (sv_sts S [68, 69, 70, 81, 82, 83, 84, 85, 86, 74, 78, 79, 80, 76, 77, 1100031] g4) [68, 69, 70] g10) [68, 69, 70] g16) [68, 69, 70] g22) [68, 69, 70] g27) = S1 := (funext fun j => md214 j (by intro q; cases q)).symm
      show sv_T sm_XS sm_cs sm_L sm_sh 9 (q_nativeWays p1 p2 p3 p4 p5 S) 287 94 [(0, .ref 0), (1, sv_I p1), (2, sv_I p2), (3, sv_I p3), (4, sv_I p4), (5, sv_I p5), (6, sv_I (647760 : Int)), (7, sv_I (647761 : Int)), (8, sv_I (647762 : Int))] [sv_I r216, .ref 0] (sv_sts (sv_sts (sv_sts (sv_sts (sv_sts S [68, 69, 70, 81, 82, 83, 84, 85, 86, 74, 78, 79, 80, 76, 77, 1100031] g4) [68, 69, 70] g10) [68, 69, 70] g16) [68, 69, 70] g22) [68, 69, 70] g27)
      have h := h r216 hr216 hpo215
      refine sv_iload hM dX12_nativeWays_94 rfl rfl ?_
      obtain ⟨o217, h⟩ := h
      refine sv_callV hM dX12_nativeWays_96 sm_iv_1092 (by decide) (sm_a0 _) rfl rfl (Nat.le_of_ble_eq_true rfl) sm_h207 (Nat.le_of_ble_eq_true rfl) (Nat.le_of_ble_eq_true rfl) (F' := 0) (Nat.le_of_ble_eq_true rfl) rfl (t_copySet r216 (647762 : Int) (sv_sts (sv_sts (sv_sts (sv_sts (sv_sts S [68, 69, 70, 81, 82, 83, 84, 85, 86, 74, 78, 79, 80, 76, 77, 1100031] g4) [68, 69, 70] g10) [68, 69, 70] g16) [68, 69, 70] g22) [68, 69, 70] g27) ok213 hr216 (⟨by decide, by decide⟩ : sv_R (647762 : Int)) o217) (fun v S1 hq => ?_)
      obtain ⟨rfl, ok219, md220, hpo221⟩ := hq
      obtain ⟨g218, rfl⟩ : ∃ g, S1 = sv_sts (sv_sts (sv_sts (sv_sts (sv_sts (sv_sts S [68, 69, 70, 81, 82, 83, 84, 85, 86, 74, 78, 79, 80, 76, 77, 1100031] g4) [68, 69, 70] g10) [68, 69, 70] g16) [68, 69, 70] g22) [68, 69, 70] g27) [68, 69, 70] g := ⟨_, md220.eq⟩
      show sv_T sm_XS sm_cs sm_L sm_sh 9 (q_nativeWays p1 p2 p3 p4 p5 S) 287 99 [(0, .ref 0), (1, sv_I p1), (2, sv_I p2), (3, sv_I p3), (4, sv_I p4), (5, sv_I p5), (6, sv_I (647760 : Int)), (7, sv_I (647761 : Int)), (8, sv_I (647762 : Int))] [] (sv_sts (sv_sts (sv_sts (sv_sts (sv_sts (sv_sts S [68, 69, 70, 81, 82, 83, 84, 85, 86, 74, 78, 79, 80, 76, 77, 1100031] g4) [68, 69, 70] g10) [68, 69, 70] g16) [68, 69, 70] g22) [68, 69, 70] g27) [68, 69, 70] g218)
      have md222 : sv_mod [68, 69, 70, 81, 82, 83, 84, 85, 86, 71, 74, 75, 1127, 78, 79, 80, 72, 76, 77, 1143, 1144, 5, 1011, 1150, 1149, 1145, 1113, 1111, 1112, 1100031] S (sv_sts (sv_sts (sv_sts (sv_sts (sv_sts (sv_sts S [68, 69, 70, 81, 82, 83, 84, 85, 86, 74, 78, 79, 80, 76, 77, 1100031] g4) [68, 69, 70] g10) [68, 69, 70] g16) [68, 69, 70] g22) [68, 69, 70] g27) [68, 69, 70] g218) := sv_mod.sts md30 (by decide)
      have md223 : sv_mod [68, 69, 70] (sv_sts (sv_sts (sv_sts (sv_sts (sv_sts S [68, 69, 70, 81, 82, 83, 84, 85, 86, 74, 78, 79, 80, 76, 77, 1100031] g4) [68, 69, 70] g10) [68, 69, 70] g16) [68, 69, 70] g22) [68, 69, 70] g27) (sv_sts (sv_sts (sv_sts (sv_sts (sv_sts (sv_sts S [68, 69, 70, 81, 82, 83, 84, 85, 86, 74, 78, 79, 80, 76, 77, 1100031] g4) [68, 69, 70] g10) [68, 69, 70] g16) [68, 69, 70] g22) [68, 69, 70] g27) [68, 69, 70] g218) := sv_mod.sts (sv_mod.rf (l := [68, 69, 70]) (S := (sv_sts (sv_sts (sv_sts (sv_sts (sv_sts S [68, 69, 70, 81, 82, 83, 84, 85, 86, 74, 78, 79, 80, 76, 77, 1100031] g4) [68, 69, 70] g10) [68, 69, 70] g16) [68, 69, 70] g22) [68, 69, 70] g27))) (by decide)
      have h := h g218 hpo221
      have eS := sv_mod.eq md223
      have hb := J210 (sv_sts (sv_sts (sv_sts (sv_sts (sv_sts (sv_sts S [68, 69, 70, 81, 82, 83, 84, 85, 86, 74, 78, 79, 80, 76, 77, 1100031] g4) [68, 69, 70] g10) [68, 69, 70] g16) [68, 69, 70] g22) [68, 69, 70] g27) [68, 69, 70] g218) (by rw [← eS]; exact ok219) h
      have hb : sv_T sm_XS sm_cs sm_L sm_sh 9 (q_nativeWays p1 p2 p3 p4 p5 S) 287 99 [(0, .ref 0), (1, sv_I p1), (2, sv_I p2), (3, sv_I p3), (4, sv_I p4), (5, sv_I p5), (6, sv_I (647760 : Int)), (7, sv_I (647761 : Int)), (8, sv_I (647762 : Int))] [] (sv_sts (sv_sts (sv_sts (sv_sts (sv_sts (sv_sts S [68, 69, 70, 81, 82, 83, 84, 85, 86, 74, 78, 79, 80, 76, 77, 1100031] g4) [68, 69, 70] g10) [68, 69, 70] g16) [68, 69, 70] g22) [68, 69, 70] g27) [68, 69, 70] g218) := Eq.mpr (congrArg (fun Z => sv_T sm_XS sm_cs sm_L sm_sh 9 (q_nativeWays p1 p2 p3 p4 p5 S) 287 99 [(0, .ref 0), (1, sv_I p1), (2, sv_I p2), (3, sv_I p3), (4, sv_I p4), (5, sv_I p5), (6, sv_I (647760 : Int)), (7, sv_I (647761 : Int)), (8, sv_I (647762 : Int))] [] Z) eS) hb
      exact sv_less (lv := [(0, .ref 0), (1, sv_I p1), (2, sv_I p2), (3, sv_I p3), (4, sv_I p4), (5, sv_I p5), (6, sv_I (647760 : Int)), (7, sv_I (647761 : Int)), (8, sv_I (647762 : Int))]) (sv_Sub_cons rfl (sv_Sub_cons rfl (sv_Sub_cons rfl (sv_Sub_cons rfl (sv_Sub_cons rfl (sv_Sub_cons rfl (sv_Sub_cons rfl (sv_Sub_cons rfl (sv_Sub_cons rfl sv_Sub_nil))))))))) hb
    · have h := h.2 (hc)
      refine sv_aload_n hM dX12_nativeWays_75 rfl rfl ?_
      refine sv_iload hM dX12_nativeWays_76 rfl rfl ?_
      refine sv_iconst (d := (1 : Int)) hM dX12_nativeWays_78 rfl rfl ?_
      obtain ⟨o224, h⟩ := h
      refine sv_callV hM dX12_nativeWays_79 sm_iv_1072 (by decide) (sm_a0 _) rfl rfl (Nat.le_of_ble_eq_true rfl) sm_h213 (Nat.le_of_ble_eq_true rfl) (Nat.le_of_ble_eq_true rfl) (F' := 2) (Nat.le_of_ble_eq_true rfl) rfl (t_addSort (647762 : Int) (1 : Int) (sv_sts (sv_sts (sv_sts (sv_sts (sv_sts S [68, 69, 70, 81, 82, 83, 84, 85, 86, 74, 78, 79, 80, 76, 77, 1100031] g4) [68, 69, 70] g10) [68, 69, 70] g16) [68, 69, 70] g22) [68, 69, 70] g27) ok28 (⟨by decide, by decide⟩ : sv_R (647762 : Int)) (⟨by decide, by decide⟩ : sv_R (1 : Int)) o224) (fun v S1 hq => ?_)
      obtain ⟨rfl, ok226, md227, hpo228⟩ := hq
      obtain ⟨g225, rfl⟩ : ∃ g, S1 = sv_sts (sv_sts (sv_sts (sv_sts (sv_sts (sv_sts S [68, 69, 70, 81, 82, 83, 84, 85, 86, 74, 78, 79, 80, 76, 77, 1100031] g4) [68, 69, 70] g10) [68, 69, 70] g16) [68, 69, 70] g22) [68, 69, 70] g27) [68, 69, 70] g := ⟨_, md227.eq⟩
      show sv_T sm_XS sm_cs sm_L sm_sh 9 (q_nativeWays p1 p2 p3 p4 p5 S) 287 82 [(0, .ref 0), (1, sv_I p1), (2, sv_I p2), (3, sv_I p3), (4, sv_I p4), (5, sv_I p5), (6, sv_I (647760 : Int)), (7, sv_I (647761 : Int)), (8, sv_I (647762 : Int))] [] (sv_sts (sv_sts (sv_sts (sv_sts (sv_sts (sv_sts S [68, 69, 70, 81, 82, 83, 84, 85, 86, 74, 78, 79, 80, 76, 77, 1100031] g4) [68, 69, 70] g10) [68, 69, 70] g16) [68, 69, 70] g22) [68, 69, 70] g27) [68, 69, 70] g225)
      have md229 : sv_mod [68, 69, 70, 81, 82, 83, 84, 85, 86, 71, 74, 75, 1127, 78, 79, 80, 72, 76, 77, 1143, 1144, 5, 1011, 1150, 1149, 1145, 1113, 1111, 1112, 1100031] S (sv_sts (sv_sts (sv_sts (sv_sts (sv_sts (sv_sts S [68, 69, 70, 81, 82, 83, 84, 85, 86, 74, 78, 79, 80, 76, 77, 1100031] g4) [68, 69, 70] g10) [68, 69, 70] g16) [68, 69, 70] g22) [68, 69, 70] g27) [68, 69, 70] g225) := sv_mod.sts md30 (by decide)
      have md230 : sv_mod [68, 69, 70] (sv_sts (sv_sts (sv_sts (sv_sts (sv_sts S [68, 69, 70, 81, 82, 83, 84, 85, 86, 74, 78, 79, 80, 76, 77, 1100031] g4) [68, 69, 70] g10) [68, 69, 70] g16) [68, 69, 70] g22) [68, 69, 70] g27) (sv_sts (sv_sts (sv_sts (sv_sts (sv_sts (sv_sts S [68, 69, 70, 81, 82, 83, 84, 85, 86, 74, 78, 79, 80, 76, 77, 1100031] g4) [68, 69, 70] g10) [68, 69, 70] g16) [68, 69, 70] g22) [68, 69, 70] g27) [68, 69, 70] g225) := sv_mod.sts (sv_mod.rf (l := [68, 69, 70]) (S := (sv_sts (sv_sts (sv_sts (sv_sts (sv_sts S [68, 69, 70, 81, 82, 83, 84, 85, 86, 74, 78, 79, 80, 76, 77, 1100031] g4) [68, 69, 70] g10) [68, 69, 70] g16) [68, 69, 70] g22) [68, 69, 70] g27))) (by decide)
      have h := h g225 hpo228
      refine sv_goto hM dX12_nativeWays_82 (pc' := 99) rfl ?_
      have eS := sv_mod.eq md230
      have hb := J210 (sv_sts (sv_sts (sv_sts (sv_sts (sv_sts (sv_sts S [68, 69, 70, 81, 82, 83, 84, 85, 86, 74, 78, 79, 80, 76, 77, 1100031] g4) [68, 69, 70] g10) [68, 69, 70] g16) [68, 69, 70] g22) [68, 69, 70] g27) [68, 69, 70] g225) (by rw [← eS]; exact ok226) h
      have hb : sv_T sm_XS sm_cs sm_L sm_sh 9 (q_nativeWays p1 p2 p3 p4 p5 S) 287 99 [(0, .ref 0), (1, sv_I p1), (2, sv_I p2), (3, sv_I p3), (4, sv_I p4), (5, sv_I p5), (6, sv_I (647760 : Int)), (7, sv_I (647761 : Int)), (8, sv_I (647762 : Int))] [] (sv_sts (sv_sts (sv_sts (sv_sts (sv_sts (sv_sts S [68, 69, 70, 81, 82, 83, 84, 85, 86, 74, 78, 79, 80, 76, 77, 1100031] g4) [68, 69, 70] g10) [68, 69, 70] g16) [68, 69, 70] g22) [68, 69, 70] g27) [68, 69, 70] g225) := Eq.mpr (congrArg (fun Z => sv_T sm_XS sm_cs sm_L sm_sh 9 (q_nativeWays p1 p2 p3 p4 p5 S) 287 99 [(0, .ref 0), (1, sv_I p1), (2, sv_I p2), (3, sv_I p3), (4, sv_I p4), (5, sv_I p5), (6, sv_I (647760 : Int)), (7, sv_I (647761 : Int)), (8, sv_I (647762 : Int))] [] Z) eS) hb
      exact sv_less (lv := [(0, .ref 0), (1, sv_I p1), (2, sv_I p2), (3, sv_I p3), (4, sv_I p4), (5, sv_I p5), (6, sv_I (647760 : Int)), (7, sv_I (647761 : Int)), (8, sv_I (647762 : Int))]) (sv_Sub_cons rfl (sv_Sub_cons rfl (sv_Sub_cons rfl (sv_Sub_cons rfl (sv_Sub_cons rfl (sv_Sub_cons rfl (sv_Sub_cons rfl (sv_Sub_cons rfl (sv_Sub_cons rfl sv_Sub_nil))))))))) hb
  have h := h.2
  refine sv_iload hM dX12_nativeWays_41 rfl rfl ?_
  refine sv_cond_le hM dX12_nativeWays_43 hp4 (t := 63) rfl rfl (fun hc => ?_) (fun hc => ?_)
  · have h := h.1 (hc)
    refine sv_aload_n hM dX12_nativeWays_63 rfl rfl ?_
    refine sv_iload hM dX12_nativeWays_64 rfl rfl ?_
    refine sv_iconst (d := (1 : Int)) hM dX12_nativeWays_66 rfl rfl ?_
    obtain ⟨o232, h⟩ := h
    refine sv_callV hM dX12_nativeWays_67 sm_iv_1072 (by decide) (sm_a0 _) rfl rfl (Nat.le_of_ble_eq_true rfl) sm_h213 (Nat.le_of_ble_eq_true rfl) (Nat.le_of_ble_eq_true rfl) (F' := 2) (Nat.le_of_ble_eq_true rfl) rfl (t_addSort (647761 : Int) (1 : Int) (sv_sts (sv_sts (sv_sts (sv_sts S [68, 69, 70, 81, 82, 83, 84, 85, 86, 74, 78, 79, 80, 76, 77, 1100031] g4) [68, 69, 70] g10) [68, 69, 70] g16) [68, 69, 70] g22) ok23 (⟨by decide, by decide⟩ : sv_R (647761 : Int)) (⟨by decide, by decide⟩ : sv_R (1 : Int)) o232) (fun v S1 hq => ?_)
    obtain ⟨rfl, ok234, md235, hpo236⟩ := hq
    obtain ⟨g233, rfl⟩ : ∃ g, S1 = sv_sts (sv_sts (sv_sts (sv_sts (sv_sts S [68, 69, 70, 81, 82, 83, 84, 85, 86, 74, 78, 79, 80, 76, 77, 1100031] g4) [68, 69, 70] g10) [68, 69, 70] g16) [68, 69, 70] g22) [68, 69, 70] g := ⟨_, md235.eq⟩
    show sv_T sm_XS sm_cs sm_L sm_sh 9 (q_nativeWays p1 p2 p3 p4 p5 S) 287 70 [(0, .ref 0), (1, sv_I p1), (2, sv_I p2), (3, sv_I p3), (4, sv_I p4), (5, sv_I p5), (6, sv_I (647760 : Int)), (7, sv_I (647761 : Int)), (8, sv_I (647762 : Int))] [] (sv_sts (sv_sts (sv_sts (sv_sts (sv_sts S [68, 69, 70, 81, 82, 83, 84, 85, 86, 74, 78, 79, 80, 76, 77, 1100031] g4) [68, 69, 70] g10) [68, 69, 70] g16) [68, 69, 70] g22) [68, 69, 70] g233)
    have md237 : sv_mod [68, 69, 70, 81, 82, 83, 84, 85, 86, 71, 74, 75, 1127, 78, 79, 80, 72, 76, 77, 1143, 1144, 5, 1011, 1150, 1149, 1145, 1113, 1111, 1112, 1100031] S (sv_sts (sv_sts (sv_sts (sv_sts (sv_sts S [68, 69, 70, 81, 82, 83, 84, 85, 86, 74, 78, 79, 80, 76, 77, 1100031] g4) [68, 69, 70] g10) [68, 69, 70] g16) [68, 69, 70] g22) [68, 69, 70] g233) := sv_mod.sts md26 (by decide)
    have md238 : sv_mod [68, 69, 70] (sv_sts (sv_sts (sv_sts (sv_sts S [68, 69, 70, 81, 82, 83, 84, 85, 86, 74, 78, 79, 80, 76, 77, 1100031] g4) [68, 69, 70] g10) [68, 69, 70] g16) [68, 69, 70] g22) (sv_sts (sv_sts (sv_sts (sv_sts (sv_sts S [68, 69, 70, 81, 82, 83, 84, 85, 86, 74, 78, 79, 80, 76, 77, 1100031] g4) [68, 69, 70] g10) [68, 69, 70] g16) [68, 69, 70] g22) [68, 69, 70] g233) := sv_mod.sts (sv_mod.rf (l := [68, 69, 70]) (S := (sv_sts (sv_sts (sv_sts (sv_sts S [68, 69, 70, 81, 82, 83, 84, 85, 86, 74, 78, 79, 80, 76, 77, 1100031] g4) [68, 69, 70] g10) [68, 69, 70] g16) [68, 69, 70] g22))) (by decide)
    have h := h g233 hpo236
    have eS := sv_mod.eq md238
    have hb := J231 (sv_sts (sv_sts (sv_sts (sv_sts (sv_sts S [68, 69, 70, 81, 82, 83, 84, 85, 86, 74, 78, 79, 80, 76, 77, 1100031] g4) [68, 69, 70] g10) [68, 69, 70] g16) [68, 69, 70] g22) [68, 69, 70] g233) (by rw [← eS]; exact ok234) h
    have hb : sv_T sm_XS sm_cs sm_L sm_sh 9 (q_nativeWays p1 p2 p3 p4 p5 S) 287 70 [(0, .ref 0), (1, sv_I p1), (2, sv_I p2), (3, sv_I p3), (4, sv_I p4), (5, sv_I p5), (6, sv_I (647760 : Int)), (7, sv_I (647761 : Int)), (8, sv_I (647762 : Int))] [] (sv_sts (sv_sts (sv_sts (sv_sts (sv_sts S [68, 69, 70, 81, 82, 83, 84, 85, 86, 74, 78, 79, 80, 76, 77, 1100031] g4) [68, 69, 70] g10) [68, 69, 70] g16) [68, 69, 70] g22) [68, 69, 70] g233) := Eq.mpr (congrArg (fun Z => sv_T sm_XS sm_cs sm_L sm_sh 9 (q_nativeWays p1 p2 p3 p4 p5 S) 287 70 [(0, .ref 0), (1, sv_I p1), (2, sv_I p2), (3, sv_I p3), (4, sv_I p4), (5, sv_I p5), (6, sv_I (647760 : Int)), (7, sv_I (647761 : Int)), (8, sv_I (647762 : Int))] [] Z) eS) hb
    exact sv_less (lv := [(0, .ref 0), (1, sv_I p1), (2, sv_I p2), (3, sv_I p3), (4, sv_I p4), (5, sv_I p5), (6, sv_I (647760 : Int)), (7, sv_I (647761 : Int)), (8, sv_I (647762 : Int))]) (sv_Sub_cons rfl (sv_Sub_cons rfl (sv_Sub_cons rfl (sv_Sub_cons rfl (sv_Sub_cons rfl (sv_Sub_cons rfl (sv_Sub_cons rfl (sv_Sub_cons rfl (sv_Sub_cons rfl sv_Sub_nil))))))))) hb
  · have h := h.2 (hc)
    refine sv_aload_n hM dX12_nativeWays_46 rfl rfl ?_
    refine sv_aload_n hM dX12_nativeWays_47 rfl rfl ?_
    refine sv_sipush (d := (639 : Int)) hM dX12_nativeWays_48 rfl rfl ?_
    refine sv_iload_n hM dX12_nativeWays_51 rfl rfl ?_
    obtain ⟨o239, h⟩ := h
    refine sv_callV hM dX12_nativeWays_52 sm_iv_1323 (by decide) (sm_a0 _) rfl rfl (Nat.le_of_ble_eq_true rfl) sm_h228 (Nat.le_of_ble_eq_true rfl) (Nat.le_of_ble_eq_true rfl) (F' := 0) (Nat.le_of_ble_eq_true rfl) rfl (t_onStack (639 : Int) p3 (sv_sts (sv_sts (sv_sts (sv_sts S [68, 69, 70, 81, 82, 83, 84, 85, 86, 74, 78, 79, 80, 76, 77, 1100031] g4) [68, 69, 70] g10) [68, 69, 70] g16) [68, 69, 70] g22) ok23 (⟨by decide, by decide⟩ : sv_R (639 : Int)) hp3 o239) (fun v S1 hq => ?_)
    obtain ⟨r244, rfl, hr244, ok241, md242, hpo243⟩ := hq
    obtain rfl : (sv_sts (sv_sts (sv_sts (sv_sts S [68, 69, 70, 81, 82, 83, 84, 85, 86, 74, 78, 79, 80, 76, 77, 1100031] g4) [68, 69, 70] g10) [68, 69, 70] g16) [68, 69, 70] g22) = S1 := (funext fun j => md242 j (by intro q; cases q)).symm
    show sv_T sm_XS sm_cs sm_L sm_sh 9 (q_nativeWays p1 p2 p3 p4 p5 S) 287 55 [(0, .ref 0), (1, sv_I p1), (2, sv_I p2), (3, sv_I p3), (4, sv_I p4), (5, sv_I p5), (6, sv_I (647760 : Int)), (7, sv_I (647761 : Int)), (8, sv_I (647762 : Int))] [sv_I r244, .ref 0] (sv_sts (sv_sts (sv_sts (sv_sts S [68, 69, 70, 81, 82, 83, 84, 85, 86, 74, 78, 79, 80, 76, 77, 1100031] g4) [68, 69, 70] g10) [68, 69, 70] g16) [68, 69, 70] g22)
    have h := h r244 hr244 hpo243
    refine sv_iload hM dX12_nativeWays_55 rfl rfl ?_
    obtain ⟨o245, h⟩ := h
    refine sv_callV hM dX12_nativeWays_57 sm_iv_1092 (by decide) (sm_a0 _) rfl rfl (Nat.le_of_ble_eq_true rfl) sm_h207 (Nat.le_of_ble_eq_true rfl) (Nat.le_of_ble_eq_true rfl) (F' := 0) (Nat.le_of_ble_eq_true rfl) rfl (t_copySet r244 (647761 : Int) (sv_sts (sv_sts (sv_sts (sv_sts S [68, 69, 70, 81, 82, 83, 84, 85, 86, 74, 78, 79, 80, 76, 77, 1100031] g4) [68, 69, 70] g10) [68, 69, 70] g16) [68, 69, 70] g22) ok241 hr244 (⟨by decide, by decide⟩ : sv_R (647761 : Int)) o245) (fun v S1 hq => ?_)
    obtain ⟨rfl, ok247, md248, hpo249⟩ := hq
    obtain ⟨g246, rfl⟩ : ∃ g, S1 = sv_sts (sv_sts (sv_sts (sv_sts (sv_sts S [68, 69, 70, 81, 82, 83, 84, 85, 86, 74, 78, 79, 80, 76, 77, 1100031] g4) [68, 69, 70] g10) [68, 69, 70] g16) [68, 69, 70] g22) [68, 69, 70] g := ⟨_, md248.eq⟩
    show sv_T sm_XS sm_cs sm_L sm_sh 9 (q_nativeWays p1 p2 p3 p4 p5 S) 287 60 [(0, .ref 0), (1, sv_I p1), (2, sv_I p2), (3, sv_I p3), (4, sv_I p4), (5, sv_I p5), (6, sv_I (647760 : Int)), (7, sv_I (647761 : Int)), (8, sv_I (647762 : Int))] [] (sv_sts (sv_sts (sv_sts (sv_sts (sv_sts S [68, 69, 70, 81, 82, 83, 84, 85, 86, 74, 78, 79, 80, 76, 77, 1100031] g4) [68, 69, 70] g10) [68, 69, 70] g16) [68, 69, 70] g22) [68, 69, 70] g246)
    have md250 : sv_mod [68, 69, 70, 81, 82, 83, 84, 85, 86, 71, 74, 75, 1127, 78, 79, 80, 72, 76, 77, 1143, 1144, 5, 1011, 1150, 1149, 1145, 1113, 1111, 1112, 1100031] S (sv_sts (sv_sts (sv_sts (sv_sts (sv_sts S [68, 69, 70, 81, 82, 83, 84, 85, 86, 74, 78, 79, 80, 76, 77, 1100031] g4) [68, 69, 70] g10) [68, 69, 70] g16) [68, 69, 70] g22) [68, 69, 70] g246) := sv_mod.sts md26 (by decide)
    have md251 : sv_mod [68, 69, 70] (sv_sts (sv_sts (sv_sts (sv_sts S [68, 69, 70, 81, 82, 83, 84, 85, 86, 74, 78, 79, 80, 76, 77, 1100031] g4) [68, 69, 70] g10) [68, 69, 70] g16) [68, 69, 70] g22) (sv_sts (sv_sts (sv_sts (sv_sts (sv_sts S [68, 69, 70, 81, 82, 83, 84, 85, 86, 74, 78, 79, 80, 76, 77, 1100031] g4) [68, 69, 70] g10) [68, 69, 70] g16) [68, 69, 70] g22) [68, 69, 70] g246) := sv_mod.sts (sv_mod.rf (l := [68, 69, 70]) (S := (sv_sts (sv_sts (sv_sts (sv_sts S [68, 69, 70, 81, 82, 83, 84, 85, 86, 74, 78, 79, 80, 76, 77, 1100031] g4) [68, 69, 70] g10) [68, 69, 70] g16) [68, 69, 70] g22))) (by decide)
    have h := h g246 hpo249
    refine sv_goto hM dX12_nativeWays_60 (pc' := 70) rfl ?_
    have eS := sv_mod.eq md251
    have hb := J231 (sv_sts (sv_sts (sv_sts (sv_sts (sv_sts S [68, 69, 70, 81, 82, 83, 84, 85, 86, 74, 78, 79, 80, 76, 77, 1100031] g4) [68, 69, 70] g10) [68, 69, 70] g16) [68, 69, 70] g22) [68, 69, 70] g246) (by rw [← eS]; exact ok247) h
    have hb : sv_T sm_XS sm_cs sm_L sm_sh 9 (q_nativeWays p1 p2 p3 p4 p5 S) 287 70 [(0, .ref 0), (1, sv_I p1), (2, sv_I p2), (3, sv_I p3), (4, sv_I p4), (5, sv_I p5), (6, sv_I (647760 : Int)), (7, sv_I (647761 : Int)), (8, sv_I (647762 : Int))] [] (sv_sts (sv_sts (sv_sts (sv_sts (sv_sts S [68, 69, 70, 81, 82, 83, 84, 85, 86, 74, 78, 79, 80, 76, 77, 1100031] g4) [68, 69, 70] g10) [68, 69, 70] g16) [68, 69, 70] g22) [68, 69, 70] g246) := Eq.mpr (congrArg (fun Z => sv_T sm_XS sm_cs sm_L sm_sh 9 (q_nativeWays p1 p2 p3 p4 p5 S) 287 70 [(0, .ref 0), (1, sv_I p1), (2, sv_I p2), (3, sv_I p3), (4, sv_I p4), (5, sv_I p5), (6, sv_I (647760 : Int)), (7, sv_I (647761 : Int)), (8, sv_I (647762 : Int))] [] Z) eS) hb
    exact sv_less (lv := [(0, .ref 0), (1, sv_I p1), (2, sv_I p2), (3, sv_I p3), (4, sv_I p4), (5, sv_I p5), (6, sv_I (647760 : Int)), (7, sv_I (647761 : Int)), (8, sv_I (647762 : Int))]) (sv_Sub_cons rfl (sv_Sub_cons rfl (sv_Sub_cons rfl (sv_Sub_cons rfl (sv_Sub_cons rfl (sv_Sub_cons rfl (sv_Sub_cons rfl (sv_Sub_cons rfl (sv_Sub_cons rfl sv_Sub_nil))))))))) hb
def q_prepare (p1 : Int) (p3 : Int) (p5 : Int) (S : sv_S) : Option Value → sv_S → Prop := fun v S' => v = none ∧ sm_ok S' ∧ sv_mod [68, 69, 70, 81, 82, 83, 84, 85, 86, 71, 74, 75, 1127, 78, 79, 80, 72, 76, 77, 1143, 1144, 5, 1011, 1150, 1149, 1145, 1113, 1111, 1112, 91, 1147, 1100031] S S' ∧ (sm_ST (S' 71) (S' 74) (S' 75) (S' 78) (S' 79) (S' 80) (S' 27) (S' 1100007) (S' 1100023) (S' 1100024) (S' 1046 0) ((S' 1046 0) + 2 * (S' 1032 0)) (S' 1127 0) ∧ 465000 ≤ (S' 1127 0) ∧ (S' 1127 0) + sm_hs (S' 71) (S' 1100007) ≤ 635000 ∧ (S' 75 639) = 647340 ∧ (∀ k : Int, (S 71 k) = 1 → (S' 71 k) = 1) ∧ sm_DR (S' 72) (S' 71) (S' 1046 0) ∧ (641 * (sm_cm (S' 71) + sm_pt (S' 68) (S' 69) (S' 70) + sm_pl (S' 81) (S' 82) (S' 83) (S' 84) (S' 85) (S' 86) + sm_ps (S' 76) (S' 77)) + sm_du (S' 72)) ≤ (641 * (sm_cm (S 71) + sm_pt (S 68) (S 69) (S 70) + sm_pl (S 81) (S 82) (S 83) (S 84) (S 85) (S 86) + sm_ps (S 76) (S 77)) + sm_du (S 72)) ∧ 0 ≤ (S' 74 639) ∧ (S' 74 639) ≤ 400 ∧ 0 ≤ (S' 78 639) ∧ (S' 78 639) ≤ 40 ∧ (S' 78 639) = sm_dp (S' 1100024) (S' 1100031 0) ∧ -1 ≤ (S' 1100031 0) ∧ (S' 1100031 0) < (S' 1046 0) ∧ (0 ≤ (S' 1100031 0) → (S' 26 (S' 1100031 0)) = 27) ∧ sm_TC (S' 79) (S' 80) (S' 27) (S' 1100007) (S' 1100023) (S' 1100024) 25560 (S' 1100031 0) ∧ (S' 74 639) = (S' 1100007 (S' 1148 0)) ∧ (S' 1100031 0) = (S' 1100023 (S' 1148 0)) ∧ 0 ≤ (S' 1147 0) ∧ (S' 1147 0) ≤ 12 ∧ (∀ k : Int, 0 ≤ k → k < (S' 1147 0) → 635639 ≤ (S' 91 k) ∧ (S' 91 k) < 647800))
theorem la_prepare_0 {x0 x1 x2 : Int} (h0 : 0 ≤ x0) (h1 : x0 < x1) (h2 : x2 = 1) : 0 ≤ x0 ∧ x0 < x1 ∧ x2 = 1 := by omega
theorem la_prepare_1 {x0 : Int} (h0 : (-1) ≤ x0) (h1 : ¬ x0 = (-1)) : (-1) < x0 := by omega
theorem la_prepare_2 {x0 : Int} (h0 : 29 ≤ x0) : (0 : Int) ≤ 0 ∧ 0 ≤ x0 := by omega
theorem la_prepare_3 {x0 x1 : Int} (h0 : x0 ≤ x1) : 0 ≤ x1 - x0 := by omega
theorem la_prepare_4 : (0 : Int) ≤ 1 ∧ (1 : Int) ≤ 1000 := by omega
theorem la_prepare_5 {x0 : Int} (h0 : 0 ≤ x0) (h1 : x0 ≤ 11557) : 0 ≤ x0 ∧ x0 ≤ 11557 ∧ (635639 : Int) ≤ 647750 ∧ (647750 : Int) < 647790 := by omega
theorem la_prepare_6 {x0 : Int} (h0 : 0 ≤ x0) (h1 : ¬ x0 = 0) : 0 < x0 := by omega
theorem la_prepare_7 : (0 : Int) ≤ 0 ∧ (0 : Int) < 12 := by omega
theorem la_prepare_8 {x0 x1 x2 : Int} (h0 : 1 ≤ x0) (h1 : x0 ≤ 11) (h2 : x1 ≤ 19) (h3 : x2 < x1) (h4 : (-1) < x2) : 0 ≤ x2 ∧ x2 ≤ 600 ∧ 1 ≤ x0 ∧ x0 ≤ 4001 := by omega
theorem la_prepare_9 {x0 x1 x2 : Int} (h0 : 1 ≤ x0) (h1 : (-1) < x1) (h2 : x2 = 29 + 6 * (x0 - 1) + 2 * x1) : 0 ≤ x2 := by omega
theorem la_prepare_10 {x0 x1 x2 x3 x4 : Int} (h0 : x0 = 29 + 6 * (x1 - 1) + 2 * x2) (h1 : x3 < x2) (h2 : x4 = 29 + 6 * (x1 - 1) + 2 * x3) : x4 + 1 < x0 := by omega
theorem la_prepare_11 : ((-1) : Int) ≤ 1 := by omega
theorem la_prepare_12 : (1 : Int) ≤ 63 := by omega
theorem la_prepare_13 : (0 : Int) ≤ 1 := by omega
theorem la_prepare_14 : (1 : Int) ≤ 12 := by omega
theorem la_prepare_15 {x0 : Int} (h0 : 0 ≤ x0) (h1 : x0 < 1) : x0 = 0 := by omega
theorem la_prepare_16 {x0 x1 : Int} (h0 : x0 < x1) : ¬ x1 ≤ x0 := by omega
theorem la_prepare_17 {x0 : Int} (h0 : x0 = 647750) : 635639 ≤ x0 := by omega
theorem la_prepare_18 {x0 : Int} (h0 : x0 = 647750) : x0 < 647800 := by omega
theorem la_prepare_19 {x0 x1 x2 x3 x4 x5 x6 : Int} (h0 : x0 ≤ 127) (h1 : 1 ≤ x1) (h2 : x0 = 29 + 6 * (x1 - 1) + 2 * x2) (h3 : 0 ≤ x3) (h4 : x3 ≤ 11557) (h5 : x4 < x2) (h6 : (-1) < x4) (h7 : x5 = 29 + 6 * (x1 - 1) + 2 * x4) : 0 ≤ x3 ∧ x3 ≤ 11557 ∧ (0 : Int) ≤ 639 ∧ ((639 : Int) = 639 ∨ 639 < x6 + 2 * x1) ∧ 0 ≤ x5 ∧ (x5 < x0 ∨ (639 : Int) = 639 ∧ x5 < 128) := by omega
theorem la_prepare_20 : (639 : Int) = 639 := by omega
theorem la_prepare_21 : ¬ ¬ (639 : Int) = 639 := by omega
theorem la_prepare_22 : (0 : Int) ≤ 647750 ∧ (647750 : Int) < 647800 := by omega
theorem la_prepare_23 {x0 : Int} (h0 : (1 : Int) = 0) : 0 ≤ x0 ∧ x0 < 15128 := by omega
theorem la_prepare_24 {x0 x1 x2 x3 x4 x5 x6 x7 : Int} (h0 : (1 : Int) = 0) : 641 * (x0 + x1 + x2 + x3) + x4 ≤ 641 * (x0 + x5 + x6 + x7) + x4 := by omega
theorem la_prepare_25 : (0 : Int) ≤ 0 := by omega
theorem la_prepare_26 : (0 : Int) ≤ 12 := by omega
theorem la_prepare_27 {x0 : Int} (h0 : (1 : Int) = 0) : 635639 ≤ x0 := by omega
theorem la_prepare_28 {x0 : Int} (h0 : (1 : Int) = 0) : x0 < 647800 := by omega
theorem la_prepare_29 (h0 : (0 : Int) ≤ 1) (h1 : ¬ (1 : Int) = 0) : (0 : Int) < 1 := by omega
theorem la_prepare_30 {x0 x1 x2 x3 x4 x5 : Int} (h0 : x0 ≤ 127) (h1 : 1 ≤ x1) (h2 : x0 = 29 + 6 * (x1 - 1) + 2 * x2) (h3 : x3 < x2) (h4 : (-1) < x3) (h5 : x4 = 29 + 6 * (x1 - 1) + 2 * x3) (h6 : x5 = 15000 + x4) : 0 ≤ x5 ∧ x5 < 15128 := by omega
theorem la_prepare_31 {x0 x1 x2 x3 : Int} (h0 : 1 ≤ x0) (h1 : (-1) < x1) (h2 : x2 = 29 + 6 * (x0 - 1) + 2 * x1) (h3 : x3 = 15000 + x2) : 15000 ≤ x3 := by omega
theorem la_prepare_32 {x0 x1 x2 x3 x4 x5 x6 x7 x8 x9 x10 x11 x12 x13 : Int} (h0 : x0 = x1) (h1 : x2 = x3) (h2 : x4 = x5) (h3 : x6 = x0) (h4 : x7 = x6) (h5 : x8 = x2) (h6 : x9 = x4) (h7 : x10 = x11) (h8 : x11 = x8) : 641 * (x12 + x7 + x10 + x9) + x13 ≤ 641 * (x12 + x1 + x3 + x5) + x13 := by omega
theorem la_prepare_33 {x0 x1 : Int} (h0 : 0 ≤ x0) (h1 : x0 < 0) : x0 < x1 := by omega
theorem la_prepare_34 {x0 : Int} (h0 : 0 ≤ x0) (h1 : x0 < 0) : x0 = 0 := by omega
theorem la_prepare_35 (h0 : (0 : Int) ≤ 0) (h1 : ¬ (0 : Int) = 0) : (0 : Int) < 0 := by omega
theorem la_prepare_36 {x0 : Int} (h0 : (0 : Int) < 0) : 0 ≤ x0 ∧ x0 < 15128 := by omega
theorem la_prepare_37 {x0 x1 x2 x3 x4 x5 x6 x7 : Int} (h0 : (0 : Int) < 0) : 641 * (x0 + x1 + x2 + x3) + x4 ≤ 641 * (x0 + x5 + x6 + x7) + x4 := by omega
theorem la_prepare_38 {x0 : Int} (h0 : (0 : Int) < 0) : 635639 ≤ x0 := by omega
theorem la_prepare_39 {x0 : Int} (h0 : (0 : Int) < 0) : x0 < 647800 := by omega
theorem la_prepare_40 {x0 x1 : Int} (h0 : x0 ≤ 127) (h1 : 0 ≤ x1) (h2 : ¬ x0 ≤ x1) : 0 ≤ x1 ∧ x1 < 128 := by omega
theorem la_prepare_41 {x0 x1 x2 : Int} (h0 : x0 ≤ 127) (h1 : 0 ≤ x1) (h2 : ¬ x0 ≤ x1) : x2 = 0 → sv_R (x1 + 1) ∧ (0 ≤ x1 + 1 ∧ x1 + 1 ≤ x0) ∧ x0 - (x1 + 1) < x0 - x1 := by omega
theorem la_prepare_42 {x0 : Int} (h0 : x0 = 1) : 0 ≤ x0 := by omega
theorem la_prepare_43 {x0 x1 x2 : Int} (h0 : x0 ≤ 127) (h1 : 1 ≤ x1) (h2 : x1 ≤ 11) (h3 : 0 ≤ x2) (h4 : ¬ x0 ≤ x2) : 1 ≤ x1 ∧ x1 ≤ 11 ∧ 0 ≤ x2 ∧ x2 ≤ 200 := by omega
theorem la_prepare_44 {x0 x1 : Int} (h0 : x0 ≤ 127) (h1 : ¬ x0 ≤ x1) (h2 : 64 ≤ x1) : sv_R (x1 + 1) := by omega
theorem la_prepare_45 {x0 x1 : Int} (h0 : ¬ x0 ≤ x1) (h1 : 64 ≤ x1) : 0 ≤ x1 + 1 ∧ x1 + 1 ≤ x0 := by omega
theorem la_prepare_46 {x0 x1 : Int} : x0 - (x1 + 1) < x0 - x1 := by omega
theorem la_prepare_47 {x0 : Int} (h0 : 0 ≤ x0) (h1 : ¬ 64 ≤ x0) : sv_R (x0 + 1) := by omega
theorem la_prepare_48 {x0 x1 : Int} (h0 : 0 ≤ x0) (h1 : ¬ x1 ≤ x0) : 0 ≤ x0 + 1 ∧ x0 + 1 ≤ x1 := by omega
theorem la_prepare_49 {x0 x1 : Int} (h0 : x0 ≤ 127) (h1 : 0 ≤ x1) (h2 : ¬ x0 ≤ x1) : sv_R (x1 + 1) := by omega
theorem la_prepare_50 {x0 x1 x2 x3 x4 x5 x6 x7 : Int} (h0 : x0 = x1) (h1 : x2 = x3) (h2 : x4 = x5) : 641 * (x6 + x0 + x2 + x4) + x7 ≤ 641 * (x6 + x1 + x3 + x5) + x7 := by omega
set_option maxHeartbeats 2000000 in
theorem f_prepare : ∀ (p1 : Int) (p3 : Int) (p5 : Int) (S : sv_S), sm_ok S → sv_RL p1 → sv_RL p3 → sv_R p5 → (29 ≤ (S 1071 0) ∧ (S 1071 0) ≤ 127 ∧ 31 ≤ (S 1008 0) ∧ (S 1008 0) ≤ 90 ∧ 1 ≤ (S 1032 0) ∧ (S 1032 0) ≤ 11 ∧ 0 ≤ (S 1055 0) ∧ (S 1055 0) ≤ 19 ∧ (S 1071 0) = 29 + 6 * ((S 1032 0) - 1) + 2 * (S 1055 0) ∧ 0 ≤ (S 1046 0) ∧ (S 1046 0) + 2 * (S 1032 0) ≤ 500 ∧ sm_PD (S 1046 0) (S 1032 0) (S 1071 0) (S 1008 0) ∧ 0 ≤ (S 1071 0) * ((S 1008 0) + 1) ∧ (S 1071 0) * ((S 1008 0) + 1) ≤ 11557 ∧ 31 ≤ (S 1007 0) ∧ (S 1007 0) ≤ 400 ∧ sm_LN (S 4) 400 (S 1007 0) ∧ (S 75 639) = 647340 ∧ sm_ST (S 71) (S 74) (S 75) (S 78) (S 79) (S 80) (S 27) (S 1100007) (S 1100023) (S 1100024) (S 1046 0) ((S 1046 0) + 2 * (S 1032 0)) (S 1127 0) ∧ 465000 ≤ (S 1127 0) ∧ (S 1127 0) + sm_hs (S 71) (S 1100007) ≤ 635000 ∧ sm_NH (S 1100007) ∧ sm_CT (S 26) (S 27) (S 28) (S 29) (S 1100007) (S 1100023) (S 1100024) (S 1100025) (S 21) (S 1046 0) (S 1032 0) (S 1008 0) (S 1055 0) ∧ (∀ k : Int, (S 1046 0) ≤ k → k < ((S 1046 0) + 2 * (S 1032 0)) → (S 1100007 k) = 1) ∧ sm_DR (S 72) (S 71) (S 1046 0) ∧ 0 ≤ (S 1148 0) ∧ (S 1148 0) < (S 1046 0) ∧ (S 71 (S 1148 0)) = 1 ∧ -1 ≤ p5 ∧ p5 < (S 1055 0) ∧ 0 ≤ (S 1147 0) ∧ (S 1147 0) ≤ 12 ∧ (∀ k : Int, 0 ≤ k → k < (S 1147 0) → 635639 ≤ (S 91 k) ∧ (S 91 k) < 647800)) → ((sm_CT (S 26) (S 27) (S 28) (S 29) (S 1100007) (S 1100023) (S 1100024) (S 1100025) (S 21) (S 1046 0) (S 1032 0) (S 1008 0) (S 1055 0) → 0 ≤ (S 1148 0) → (S 1148 0) < (S 1046 0) → 0 ≤ (S 1100007 (S 1148 0)) ∧ (S 1100007 (S 1148 0)) ≤ 396 ∧ -1 ≤ (S 1100023 (S 1148 0)) ∧ (S 1100023 (S 1148 0)) < (S 1148 0)) → (sv_R (S 1148 0) → (29 ≤ (S 1071 0) ∧ (S 1071 0) ≤ 127 ∧ 31 ≤ (S 1008 0) ∧ (S 1008 0) ≤ 90 ∧ 1 ≤ (S 1032 0) ∧ (S 1032 0) ≤ 11 ∧ 0 ≤ (S 1055 0) ∧ (S 1055 0) ≤ 19 ∧ (S 1071 0) = 29 + 6 * ((S 1032 0) - 1) + 2 * (S 1055 0) ∧ 0 ≤ (S 1046 0) ∧ (S 1046 0) + 2 * (S 1032 0) ≤ 500 ∧ sm_PD (S 1046 0) (S 1032 0) (S 1071 0) (S 1008 0) ∧ 0 ≤ (S 1071 0) * ((S 1008 0) + 1) ∧ (S 1071 0) * ((S 1008 0) + 1) ≤ 11557 ∧ 31 ≤ (S 1007 0) ∧ (S 1007 0) ≤ 400 ∧ sm_LN (S 4) 400 (S 1007 0) ∧ (S 75 639) = 647340 ∧ sm_ST (S 71) (S 74) (S 75) (S 78) (S 79) (S 80) (S 27) (S 1100007) (S 1100023) (S 1100024) (S 1046 0) ((S 1046 0) + 2 * (S 1032 0)) (S 1127 0) ∧ 465000 ≤ (S 1127 0) ∧ (S 1127 0) + sm_hs (S 71) (S 1100007) ≤ 635000 ∧ sm_NH (S 1100007) ∧ sm_CT (S 26) (S 27) (S 28) (S 29) (S 1100007) (S 1100023) (S 1100024) (S 1100025) (S 21) (S 1046 0) (S 1032 0) (S 1008 0) (S 1055 0) ∧ (∀ k : Int, (S 1046 0) ≤ k → k < ((S 1046 0) + 2 * (S 1032 0)) → (S 1100007 k) = 1) ∧ sm_DR (S 72) (S 71) (S 1046 0) ∧ 0 ≤ (S 1148 0) ∧ (S 1148 0) < (S 1046 0) ∧ (S 71 (S 1148 0)) = 1) ∧ (∀ g4 : sv_S, (sm_pt (g4 68) (g4 69) (g4 70) = sm_pt (S 68) (S 69) (S 70) ∧ sm_pl (g4 81) (g4 82) (g4 83) (g4 84) (g4 85) (g4 86) = sm_pl (S 81) (S 82) (S 83) (S 84) (S 85) (S 86) ∧ sm_ps (g4 76) (g4 77) = sm_ps (S 76) (S 77) ∧ sm_ST (S 71) (g4 74) (S 75) (g4 78) (g4 79) (g4 80) (S 27) (S 1100007) (S 1100023) (S 1100024) (S 1046 0) ((S 1046 0) + 2 * (S 1032 0)) (S 1127 0) ∧ 0 ≤ (g4 74 639) ∧ (g4 74 639) ≤ 400 ∧ 0 ≤ (g4 78 639) ∧ (g4 78 639) ≤ 40 ∧ (g4 78 639) = sm_dp (S 1100024) (g4 1100031 0) ∧ -1 ≤ (g4 1100031 0) ∧ (g4 1100031 0) < (S 1046 0) ∧ (0 ≤ (g4 1100031 0) → (S 26 (g4 1100031 0)) = 27) ∧ sm_TC (g4 79) (g4 80) (S 27) (S 1100007) (S 1100023) (S 1100024) 25560 (g4 1100031 0) ∧ (g4 74 639) = (S 1100007 (S 1148 0)) ∧ (g4 1100031 0) = (S 1100023 (S 1148 0))) → (((¬ p5 = (-1 : Int)) → ((0 ≤ (0 : Int) ∧ (0 : Int) ≤ (S 1071 0)) ∧ (∀ l6_9 : Int, sv_RL l6_9 → ∀ l8_10 : Int, sv_RL l8_10 → ∀ l10_11 : Int, sv_R l10_11 → (0 ≤ l10_11 ∧ l10_11 ≤ (S 1071 0)) → (0 ≤ (S 1071 0) - l10_11) ∧ (sv_R (S 1071 0) → ((((S 1071 0) ≤ l10_11) → (∀ g16 : sv_S, (True) → (0 ≤ (1 : Int) ∧ (1 : Int) ≤ 1000) ∧ (∀ g22 : sv_S, (True) → (29 ≤ (S 1071 0) ∧ (S 1071 0) ≤ 127 ∧ 31 ≤ (S 1008 0) ∧ (S 1008 0) ≤ 90 ∧ 1 ≤ (S 1032 0) ∧ (S 1032 0) ≤ 11 ∧ 0 ≤ (S 1055 0) ∧ (S 1055 0) ≤ 19 ∧ (S 1071 0) = 29 + 6 * ((S 1032 0) - 1) + 2 * (S 1055 0) ∧ 0 ≤ (S 1046 0) ∧ (S 1046 0) + 2 * (S 1032 0) ≤ 500 ∧ sm_PD (S 1046 0) (S 1032 0) (S 1071 0) (S 1008 0) ∧ 0 ≤ (S 1071 0) * ((S 1008 0) + 1) ∧ (S 1071 0) * ((S 1008 0) + 1) ≤ 11557 ∧ 635639 ≤ (647750 : Int) ∧ (647750 : Int) < 647790) ∧ (∀ g28 : sv_S, (sm_pt (g28 68) (g28 69) (g28 70) = sm_pt (g4 68) (g4 69) (g4 70)) → ((0 ≤ (g28 1145 0) ∧ (g28 1145 0) ≤ 1) → (((¬ (g28 1145 0) = (0 : Int)) → (0 ≤ (0 : Int) ∧ (0 : Int) < 12) ∧ (0 ≤ p5 ∧ p5 ≤ 600 ∧ 1 ≤ (S 1032 0) ∧ (S 1032 0) ≤ 4001) ∧ (∀ r44 : Int, sv_R r44 → (r44 = 29 + 6 * ((S 1032 0) - 1) + 2 * p5) → (29 ≤ (S 1071 0) ∧ (S 1071 0) ≤ 127 ∧ 31 ≤ (S 1008 0) ∧ (S 1008 0) ≤ 90 ∧ 1 ≤ (S 1032 0) ∧ (S 1032 0) ≤ 11 ∧ 0 ≤ (S 1055 0) ∧ (S 1055 0) ≤ 19 ∧ (S 1071 0) = 29 + 6 * ((S 1032 0) - 1) + 2 * (S 1055 0) ∧ 0 ≤ (S 1046 0) ∧ (S 1046 0) + 2 * (S 1032 0) ≤ 500 ∧ sm_PD (S 1046 0) (S 1032 0) (S 1071 0) (S 1008 0) ∧ 0 ≤ (S 1071 0) * ((S 1008 0) + 1) ∧ (S 1071 0) * ((S 1008 0) + 1) ≤ 11557 ∧ (S 75 639) = 647340 ∧ 0 ≤ (g4 74 639) ∧ (g4 74 639) ≤ 400 ∧ 0 ≤ r44 ∧ r44 + 1 < (S 1071 0) ∧ -1 ≤ (1 : Int) ∧ (1 : Int) ≤ 63 ∧ 0 ≤ (1 : Int) ∧ (1 : Int) ≤ 12 ∧ (∀ k : Int, 0 ≤ k → k < (1 : Int) → 635639 ≤ (if k = (0 : Int) then (647750 : Int) else (S 91 k)) ∧ (if k = (0 : Int) then (647750 : Int) else (S 91 k)) < 647800)) ∧ (∀ g46 : sv_S, (sm_pt (g46 68) (g46 69) (g46 70) = sm_pt (g28 68) (g28 69) (g28 70) ∧ sm_pl (g46 81) (g46 82) (g46 83) (g46 84) (g46 85) (g46 86) = sm_pl (g4 81) (g4 82) (g4 83) (g4 84) (g4 85) (g4 86) ∧ sm_ps (g46 76) (g46 77) = sm_ps (g4 76) (g4 77)) → (∀ r57 : Int, sv_R r57 → (r57 = 29 + 6 * ((S 1032 0) - 1) + 2 * p5) → (29 ≤ (S 1071 0) ∧ (S 1071 0) ≤ 127 ∧ 31 ≤ (S 1008 0) ∧ (S 1008 0) ≤ 90 ∧ 1 ≤ (S 1032 0) ∧ (S 1032 0) ≤ 11 ∧ 0 ≤ (S 1055 0) ∧ (S 1055 0) ≤ 19 ∧ (S 1071 0) = 29 + 6 * ((S 1032 0) - 1) + 2 * (S 1055 0) ∧ 0 ≤ (S 1046 0) ∧ (S 1046 0) + 2 * (S 1032 0) ≤ 500 ∧ sm_PD (S 1046 0) (S 1032 0) (S 1071 0) (S 1008 0) ∧ 0 ≤ (S 1071 0) * ((S 1008 0) + 1) ∧ (S 1071 0) * ((S 1008 0) + 1) ≤ 11557 ∧ 0 ≤ (639 : Int) ∧ ((639 : Int) = 639 ∨ (639 : Int) < (S 1046 0) + 2 * (S 1032 0)) ∧ 0 ≤ r57 ∧ (r57 < (S 1071 0) ∨ ((639 : Int) = 639 ∧ r57 < 128))) ∧ (∀ r63 : Int, sv_R r63 → (((639 : Int) = 639 → r63 = 15000 + r57) ∧ (¬ (639 : Int) = 639 → 0 ≤ r63 ∧ r63 < 14520)) → (0 ≤ (647750 : Int) ∧ (647750 : Int) < 647800) ∧ (sv_RL (g46 69 (647750 : Int)) → ((((1 : Int) = (0 : Int)) → (∀ r66 : Int, sv_RL r66 → (0 ≤ r63 ∧ r63 < 15128) ∧ (sv_RL (g46 70 (647750 : Int)) → (sm_ST (S 71) (g4 74) (S 75) (g4 78) (g4 79) (g4 80) (S 27) (S 1100007) (S 1100023) (S 1100024) (S 1046 0) ((S 1046 0) + 2 * (S 1032 0)) (S 1127 0) ∧ 465000 ≤ (S 1127 0) ∧ (S 1127 0) + sm_hs (S 71) (S 1100007) ≤ 635000 ∧ (S 75 639) = 647340 ∧ (∀ k : Int, (S 71 k) = 1 → (S 71 k) = 1) ∧ sm_DR (S 72) (S 71) (S 1046 0) ∧ (641 * (sm_cm (S 71) + sm_pt (g46 68) (g46 69) (g46 70) + sm_pl (g46 81) (g46 82) (fun i' : Int => if i' = r63 then r66 else (g46 83) i') (fun i' : Int => if i' = r63 then (g46 70 (647750 : Int)) else (g46 84) i') (g46 85) (g46 86) + sm_ps (g46 76) (g46 77)) + sm_du (S 72)) ≤ (641 * (sm_cm (S 71) + sm_pt (S 68) (S 69) (S 70) + sm_pl (S 81) (S 82) (S 83) (S 84) (S 85) (S 86) + sm_ps (S 76) (S 77)) + sm_du (S 72)) ∧ 0 ≤ (g4 74 639) ∧ (g4 74 639) ≤ 400 ∧ 0 ≤ (g4 78 639) ∧ (g4 78 639) ≤ 40 ∧ (g4 78 639) = sm_dp (S 1100024) (g4 1100031 0) ∧ -1 ≤ (g4 1100031 0) ∧ (g4 1100031 0) < (S 1046 0) ∧ (0 ≤ (g4 1100031 0) → (S 26 (g4 1100031 0)) = 27) ∧ sm_TC (g4 79) (g4 80) (S 27) (S 1100007) (S 1100023) (S 1100024) 25560 (g4 1100031 0) ∧ (g4 74 639) = (S 1100007 (S 1148 0)) ∧ (g4 1100031 0) = (S 1100023 (S 1148 0)) ∧ 0 ≤ (0 : Int) ∧ (0 : Int) ≤ 12 ∧ (∀ k : Int, 0 ≤ k → k < (0 : Int) → 635639 ≤ (if k = (0 : Int) then (647750 : Int) else (S 91 k)) ∧ (if k = (0 : Int) then (647750 : Int) else (S 91 k)) < 647800))))) ∧ ((¬ ((1 : Int) = (0 : Int))) → (∀ r73 : Int, sv_RL r73 → (0 ≤ r63 ∧ r63 < 15128) ∧ (sv_RL (g46 70 (647750 : Int)) → (sm_ST (S 71) (g4 74) (S 75) (g4 78) (g4 79) (g4 80) (S 27) (S 1100007) (S 1100023) (S 1100024) (S 1046 0) ((S 1046 0) + 2 * (S 1032 0)) (S 1127 0) ∧ 465000 ≤ (S 1127 0) ∧ (S 1127 0) + sm_hs (S 71) (S 1100007) ≤ 635000 ∧ (S 75 639) = 647340 ∧ (∀ k : Int, (S 71 k) = 1 → (S 71 k) = 1) ∧ sm_DR (S 72) (S 71) (S 1046 0) ∧ (641 * (sm_cm (S 71) + sm_pt (g46 68) (g46 69) (g46 70) + sm_pl (g46 81) (g46 82) (fun i' : Int => if i' = r63 then r73 else (g46 83) i') (fun i' : Int => if i' = r63 then (g46 70 (647750 : Int)) else (g46 84) i') (g46 85) (g46 86) + sm_ps (g46 76) (g46 77)) + sm_du (S 72)) ≤ (641 * (sm_cm (S 71) + sm_pt (S 68) (S 69) (S 70) + sm_pl (S 81) (S 82) (S 83) (S 84) (S 85) (S 86) + sm_ps (S 76) (S 77)) + sm_du (S 72)) ∧ 0 ≤ (g4 74 639) ∧ (g4 74 639) ≤ 400 ∧ 0 ≤ (g4 78 639) ∧ (g4 78 639) ≤ 40 ∧ (g4 78 639) = sm_dp (S 1100024) (g4 1100031 0) ∧ -1 ≤ (g4 1100031 0) ∧ (g4 1100031 0) < (S 1046 0) ∧ (0 ≤ (g4 1100031 0) → (S 26 (g4 1100031 0)) = 27) ∧ sm_TC (g4 79) (g4 80) (S 27) (S 1100007) (S 1100023) (S 1100024) 25560 (g4 1100031 0) ∧ (g4 74 639) = (S 1100007 (S 1148 0)) ∧ (g4 1100031 0) = (S 1100023 (S 1148 0)) ∧ 0 ≤ (0 : Int) ∧ (0 : Int) ≤ 12 ∧ (∀ k : Int, 0 ≤ k → k < (0 : Int) → 635639 ≤ (if k = (0 : Int) then (647750 : Int) else (S 91 k)) ∧ (if k = (0 : Int) then (647750 : Int) else (S 91 k)) < 647800)))))))))))) ∧ ((¬ (¬ (g28 1145 0) = (0 : Int))) → (0 ≤ (647750 : Int) ∧ (647750 : Int) < 647800) ∧ (∀ r85 : Int, sv_R r85 → (sm_iand ((g28 68 (647750 : Int)) % 1024) (-513) = r85) → (((r85 = (0 : Int)) → (0 ≤ (0 : Int) ∧ (0 : Int) < 12) ∧ (0 ≤ p5 ∧ p5 ≤ 600 ∧ 1 ≤ (S 1032 0) ∧ (S 1032 0) ≤ 4001) ∧ (∀ r96 : Int, sv_R r96 → (r96 = 29 + 6 * ((S 1032 0) - 1) + 2 * p5) → (29 ≤ (S 1071 0) ∧ (S 1071 0) ≤ 127 ∧ 31 ≤ (S 1008 0) ∧ (S 1008 0) ≤ 90 ∧ 1 ≤ (S 1032 0) ∧ (S 1032 0) ≤ 11 ∧ 0 ≤ (S 1055 0) ∧ (S 1055 0) ≤ 19 ∧ (S 1071 0) = 29 + 6 * ((S 1032 0) - 1) + 2 * (S 1055 0) ∧ 0 ≤ (S 1046 0) ∧ (S 1046 0) + 2 * (S 1032 0) ≤ 500 ∧ sm_PD (S 1046 0) (S 1032 0) (S 1071 0) (S 1008 0) ∧ 0 ≤ (S 1071 0) * ((S 1008 0) + 1) ∧ (S 1071 0) * ((S 1008 0) + 1) ≤ 11557 ∧ (S 75 639) = 647340 ∧ 0 ≤ (g4 74 639) ∧ (g4 74 639) ≤ 400 ∧ 0 ≤ r96 ∧ r96 + 1 < (S 1071 0) ∧ -1 ≤ (1 : Int) ∧ (1 : Int) ≤ 63 ∧ 0 ≤ (1 : Int) ∧ (1 : Int) ≤ 12 ∧ (∀ k : Int, 0 ≤ k → k < (1 : Int) → 635639 ≤ (if k = (0 : Int) then (647750 : Int) else (S 91 k)) ∧ (if k = (0 : Int) then (647750 : Int) else (S 91 k)) < 647800)) ∧ (∀ g98 : sv_S, (sm_pt (g98 68) (g98 69) (g98 70) = sm_pt (g28 68) (g28 69) (g28 70) ∧ sm_pl (g98 81) (g98 82) (g98 83) (g98 84) (g98 85) (g98 86) = sm_pl (g4 81) (g4 82) (g4 83) (g4 84) (g4 85) (g4 86) ∧ sm_ps (g98 76) (g98 77) = sm_ps (g4 76) (g4 77)) → (∀ r109 : Int, sv_R r109 → (r109 = 29 + 6 * ((S 1032 0) - 1) + 2 * p5) → (29 ≤ (S 1071 0) ∧ (S 1071 0) ≤ 127 ∧ 31 ≤ (S 1008 0) ∧ (S 1008 0) ≤ 90 ∧ 1 ≤ (S 1032 0) ∧ (S 1032 0) ≤ 11 ∧ 0 ≤ (S 1055 0) ∧ (S 1055 0) ≤ 19 ∧ (S 1071 0) = 29 + 6 * ((S 1032 0) - 1) + 2 * (S 1055 0) ∧ 0 ≤ (S 1046 0) ∧ (S 1046 0) + 2 * (S 1032 0) ≤ 500 ∧ sm_PD (S 1046 0) (S 1032 0) (S 1071 0) (S 1008 0) ∧ 0 ≤ (S 1071 0) * ((S 1008 0) + 1) ∧ (S 1071 0) * ((S 1008 0) + 1) ≤ 11557 ∧ 0 ≤ (639 : Int) ∧ ((639 : Int) = 639 ∨ (639 : Int) < (S 1046 0) + 2 * (S 1032 0)) ∧ 0 ≤ r109 ∧ (r109 < (S 1071 0) ∨ ((639 : Int) = 639 ∧ r109 < 128))) ∧ (∀ r115 : Int, sv_R r115 → (((639 : Int) = 639 → r115 = 15000 + r109) ∧ (¬ (639 : Int) = 639 → 0 ≤ r115 ∧ r115 < 14520)) → (sv_RL (g98 69 (647750 : Int)) → ((((0 : Int) = (0 : Int)) → (∀ r117 : Int, sv_RL r117 → (0 ≤ r115 ∧ r115 < 15128) ∧ (sv_RL (g98 70 (647750 : Int)) → (sm_ST (S 71) (g4 74) (S 75) (g4 78) (g4 79) (g4 80) (S 27) (S 1100007) (S 1100023) (S 1100024) (S 1046 0) ((S 1046 0) + 2 * (S 1032 0)) (S 1127 0) ∧ 465000 ≤ (S 1127 0) ∧ (S 1127 0) + sm_hs (S 71) (S 1100007) ≤ 635000 ∧ (S 75 639) = 647340 ∧ (∀ k : Int, (S 71 k) = 1 → (S 71 k) = 1) ∧ sm_DR (S 72) (S 71) (S 1046 0) ∧ (641 * (sm_cm (S 71) + sm_pt (g98 68) (g98 69) (g98 70) + sm_pl (g98 81) (g98 82) (fun i' : Int => if i' = r115 then r117 else (g98 83) i') (fun i' : Int => if i' = r115 then (g98 70 (647750 : Int)) else (g98 84) i') (g98 85) (g98 86) + sm_ps (g98 76) (g98 77)) + sm_du (S 72)) ≤ (641 * (sm_cm (S 71) + sm_pt (S 68) (S 69) (S 70) + sm_pl (S 81) (S 82) (S 83) (S 84) (S 85) (S 86) + sm_ps (S 76) (S 77)) + sm_du (S 72)) ∧ 0 ≤ (g4 74 639) ∧ (g4 74 639) ≤ 400 ∧ 0 ≤ (g4 78 639) ∧ (g4 78 639) ≤ 40 ∧ (g4 78 639) = sm_dp (S 1100024) (g4 1100031 0) ∧ -1 ≤ (g4 1100031 0) ∧ (g4 1100031 0) < (S 1046 0) ∧ (0 ≤ (g4 1100031 0) → (S 26 (g4 1100031 0)) = 27) ∧ sm_TC (g4 79) (g4 80) (S 27) (S 1100007) (S 1100023) (S 1100024) 25560 (g4 1100031 0) ∧ (g4 74 639) = (S 1100007 (S 1148 0)) ∧ (g4 1100031 0) = (S 1100023 (S 1148 0)) ∧ 0 ≤ (0 : Int) ∧ (0 : Int) ≤ 12 ∧ (∀ k : Int, 0 ≤ k → k < (0 : Int) → 635639 ≤ (if k = (0 : Int) then (647750 : Int) else (S 91 k)) ∧ (if k = (0 : Int) then (647750 : Int) else (S 91 k)) < 647800))))) ∧ ((¬ ((0 : Int) = (0 : Int))) → (∀ r124 : Int, sv_RL r124 → (0 ≤ r115 ∧ r115 < 15128) ∧ (sv_RL (g98 70 (647750 : Int)) → (sm_ST (S 71) (g4 74) (S 75) (g4 78) (g4 79) (g4 80) (S 27) (S 1100007) (S 1100023) (S 1100024) (S 1046 0) ((S 1046 0) + 2 * (S 1032 0)) (S 1127 0) ∧ 465000 ≤ (S 1127 0) ∧ (S 1127 0) + sm_hs (S 71) (S 1100007) ≤ 635000 ∧ (S 75 639) = 647340 ∧ (∀ k : Int, (S 71 k) = 1 → (S 71 k) = 1) ∧ sm_DR (S 72) (S 71) (S 1046 0) ∧ (641 * (sm_cm (S 71) + sm_pt (g98 68) (g98 69) (g98 70) + sm_pl (g98 81) (g98 82) (fun i' : Int => if i' = r115 then r124 else (g98 83) i') (fun i' : Int => if i' = r115 then (g98 70 (647750 : Int)) else (g98 84) i') (g98 85) (g98 86) + sm_ps (g98 76) (g98 77)) + sm_du (S 72)) ≤ (641 * (sm_cm (S 71) + sm_pt (S 68) (S 69) (S 70) + sm_pl (S 81) (S 82) (S 83) (S 84) (S 85) (S 86) + sm_ps (S 76) (S 77)) + sm_du (S 72)) ∧ 0 ≤ (g4 74 639) ∧ (g4 74 639) ≤ 400 ∧ 0 ≤ (g4 78 639) ∧ (g4 78 639) ≤ 40 ∧ (g4 78 639) = sm_dp (S 1100024) (g4 1100031 0) ∧ -1 ≤ (g4 1100031 0) ∧ (g4 1100031 0) < (S 1046 0) ∧ (0 ≤ (g4 1100031 0) → (S 26 (g4 1100031 0)) = 27) ∧ sm_TC (g4 79) (g4 80) (S 27) (S 1100007) (S 1100023) (S 1100024) 25560 (g4 1100031 0) ∧ (g4 74 639) = (S 1100007 (S 1148 0)) ∧ (g4 1100031 0) = (S 1100023 (S 1148 0)) ∧ 0 ≤ (0 : Int) ∧ (0 : Int) ≤ 12 ∧ (∀ k : Int, 0 ≤ k → k < (0 : Int) → 635639 ≤ (if k = (0 : Int) then (647750 : Int) else (S 91 k)) ∧ (if k = (0 : Int) then (647750 : Int) else (S 91 k)) < 647800)))))))))))) ∧ ((¬ (r85 = (0 : Int))) → (0 ≤ (0 : Int) ∧ (0 : Int) < 12) ∧ (0 ≤ p5 ∧ p5 ≤ 600 ∧ 1 ≤ (S 1032 0) ∧ (S 1032 0) ≤ 4001) ∧ (∀ r141 : Int, sv_R r141 → (r141 = 29 + 6 * ((S 1032 0) - 1) + 2 * p5) → (29 ≤ (S 1071 0) ∧ (S 1071 0) ≤ 127 ∧ 31 ≤ (S 1008 0) ∧ (S 1008 0) ≤ 90 ∧ 1 ≤ (S 1032 0) ∧ (S 1032 0) ≤ 11 ∧ 0 ≤ (S 1055 0) ∧ (S 1055 0) ≤ 19 ∧ (S 1071 0) = 29 + 6 * ((S 1032 0) - 1) + 2 * (S 1055 0) ∧ 0 ≤ (S 1046 0) ∧ (S 1046 0) + 2 * (S 1032 0) ≤ 500 ∧ sm_PD (S 1046 0) (S 1032 0) (S 1071 0) (S 1008 0) ∧ 0 ≤ (S 1071 0) * ((S 1008 0) + 1) ∧ (S 1071 0) * ((S 1008 0) + 1) ≤ 11557 ∧ (S 75 639) = 647340 ∧ 0 ≤ (g4 74 639) ∧ (g4 74 639) ≤ 400 ∧ 0 ≤ r141 ∧ r141 + 1 < (S 1071 0) ∧ -1 ≤ (1 : Int) ∧ (1 : Int) ≤ 63 ∧ 0 ≤ (1 : Int) ∧ (1 : Int) ≤ 12 ∧ (∀ k : Int, 0 ≤ k → k < (1 : Int) → 635639 ≤ (if k = (0 : Int) then (647750 : Int) else (S 91 k)) ∧ (if k = (0 : Int) then (647750 : Int) else (S 91 k)) < 647800)) ∧ (∀ g143 : sv_S, (sm_pt (g143 68) (g143 69) (g143 70) = sm_pt (g28 68) (g28 69) (g28 70) ∧ sm_pl (g143 81) (g143 82) (g143 83) (g143 84) (g143 85) (g143 86) = sm_pl (g4 81) (g4 82) (g4 83) (g4 84) (g4 85) (g4 86) ∧ sm_ps (g143 76) (g143 77) = sm_ps (g4 76) (g4 77)) → (∀ r154 : Int, sv_R r154 → (r154 = 29 + 6 * ((S 1032 0) - 1) + 2 * p5) → (29 ≤ (S 1071 0) ∧ (S 1071 0) ≤ 127 ∧ 31 ≤ (S 1008 0) ∧ (S 1008 0) ≤ 90 ∧ 1 ≤ (S 1032 0) ∧ (S 1032 0) ≤ 11 ∧ 0 ≤ (S 1055 0) ∧ (S 1055 0) ≤ 19 ∧ (S 1071 0) = 29 + 6 * ((S 1032 0) - 1) + 2 * (S 1055 0) ∧ 0 ≤ (S 1046 0) ∧ (S 1046 0) + 2 * (S 1032 0) ≤ 500 ∧ sm_PD (S 1046 0) (S 1032 0) (S 1071 0) (S 1008 0) ∧ 0 ≤ (S 1071 0) * ((S 1008 0) + 1) ∧ (S 1071 0) * ((S 1008 0) + 1) ≤ 11557 ∧ 0 ≤ (639 : Int) ∧ ((639 : Int) = 639 ∨ (639 : Int) < (S 1046 0) + 2 * (S 1032 0)) ∧ 0 ≤ r154 ∧ (r154 < (S 1071 0) ∨ ((639 : Int) = 639 ∧ r154 < 128))) ∧ (∀ r160 : Int, sv_R r160 → (((639 : Int) = 639 → r160 = 15000 + r154) ∧ (¬ (639 : Int) = 639 → 0 ≤ r160 ∧ r160 < 14520)) → (sv_RL (g143 69 (647750 : Int)) → ((((1 : Int) = (0 : Int)) → (∀ r162 : Int, sv_RL r162 → (0 ≤ r160 ∧ r160 < 15128) ∧ (sv_RL (g143 70 (647750 : Int)) → (sm_ST (S 71) (g4 74) (S 75) (g4 78) (g4 79) (g4 80) (S 27) (S 1100007) (S 1100023) (S 1100024) (S 1046 0) ((S 1046 0) + 2 * (S 1032 0)) (S 1127 0) ∧ 465000 ≤ (S 1127 0) ∧ (S 1127 0) + sm_hs (S 71) (S 1100007) ≤ 635000 ∧ (S 75 639) = 647340 ∧ (∀ k : Int, (S 71 k) = 1 → (S 71 k) = 1) ∧ sm_DR (S 72) (S 71) (S 1046 0) ∧ (641 * (sm_cm (S 71) + sm_pt (g143 68) (g143 69) (g143 70) + sm_pl (g143 81) (g143 82) (fun i' : Int => if i' = r160 then r162 else (g143 83) i') (fun i' : Int => if i' = r160 then (g143 70 (647750 : Int)) else (g143 84) i') (g143 85) (g143 86) + sm_ps (g143 76) (g143 77)) + sm_du (S 72)) ≤ (641 * (sm_cm (S 71) + sm_pt (S 68) (S 69) (S 70) + sm_pl (S 81) (S 82) (S 83) (S 84) (S 85) (S 86) + sm_ps (S 76) (S 77)) + sm_du (S 72)) ∧ 0 ≤ (g4 74 639) ∧ (g4 74 639) ≤ 400 ∧ 0 ≤ (g4 78 639) ∧ (g4 78 639) ≤ 40 ∧ (g4 78 639) = sm_dp (S 1100024) (g4 1100031 0) ∧ -1 ≤ (g4 1100031 0) ∧ (g4 1100031 0) < (S 1046 0) ∧ (0 ≤ (g4 1100031 0) → (S 26 (g4 1100031 0)) = 27) ∧ sm_TC (g4 79) (g4 80) (S 27) (S 1100007) (S 1100023) (S 1100024) 25560 (g4 1100031 0) ∧ (g4 74 639) = (S 1100007 (S 1148 0)) ∧ (g4 1100031 0) = (S 1100023 (S 1148 0)) ∧ 0 ≤ (0 : Int) ∧ (0 : Int) ≤ 12 ∧ (∀ k : Int, 0 ≤ k → k < (0 : Int) → 635639 ≤ (if k = (0 : Int) then (647750 : Int) else (S 91 k)) ∧ (if k = (0 : Int) then (647750 : Int) else (S 91 k)) < 647800))))) ∧ ((¬ ((1 : Int) = (0 : Int))) → (∀ r169 : Int, sv_RL r169 → (0 ≤ r160 ∧ r160 < 15128) ∧ (sv_RL (g143 70 (647750 : Int)) → (sm_ST (S 71) (g4 74) (S 75) (g4 78) (g4 79) (g4 80) (S 27) (S 1100007) (S 1100023) (S 1100024) (S 1046 0) ((S 1046 0) + 2 * (S 1032 0)) (S 1127 0) ∧ 465000 ≤ (S 1127 0) ∧ (S 1127 0) + sm_hs (S 71) (S 1100007) ≤ 635000 ∧ (S 75 639) = 647340 ∧ (∀ k : Int, (S 71 k) = 1 → (S 71 k) = 1) ∧ sm_DR (S 72) (S 71) (S 1046 0) ∧ (641 * (sm_cm (S 71) + sm_pt (g143 68) (g143 69) (g143 70) + sm_pl (g143 81) (g143 82) (fun i' : Int => if i' = r160 then r169 else (g143 83) i') (fun i' : Int => if i' = r160 then (g143 70 (647750 : Int)) else (g143 84) i') (g143 85) (g143 86) + sm_ps (g143 76) (g143 77)) + sm_du (S 72)) ≤ (641 * (sm_cm (S 71) + sm_pt (S 68) (S 69) (S 70) + sm_pl (S 81) (S 82) (S 83) (S 84) (S 85) (S 86) + sm_ps (S 76) (S 77)) + sm_du (S 72)) ∧ 0 ≤ (g4 74 639) ∧ (g4 74 639) ≤ 400 ∧ 0 ≤ (g4 78 639) ∧ (g4 78 639) ≤ 40 ∧ (g4 78 639) = sm_dp (S 1100024) (g4 1100031 0) ∧ -1 ≤ (g4 1100031 0) ∧ (g4 1100031 0) < (S 1046 0) ∧ (0 ≤ (g4 1100031 0) → (S 26 (g4 1100031 0)) = 27) ∧ sm_TC (g4 79) (g4 80) (S 27) (S 1100007) (S 1100023) (S 1100024) 25560 (g4 1100031 0) ∧ (g4 74 639) = (S 1100007 (S 1148 0)) ∧ (g4 1100031 0) = (S 1100023 (S 1148 0)) ∧ 0 ≤ (0 : Int) ∧ (0 : Int) ≤ 12 ∧ (∀ k : Int, 0 ≤ k → k < (0 : Int) → 635639 ≤ (if k = (0 : Int) then (647750 : Int) else (S 91 k)) ∧ (if k = (0 : Int) then (647750 : Int) else (S 91 k)) < 647800))))))))))))))))))))) ∧ ((¬ ((S 1071 0) ≤ l10_11)) → (0 ≤ l10_11 ∧ l10_11 < 128) ∧ (∀ r181 : Int, sv_R r181 → (r181 = sm_in p1 p3 l10_11 ∧ (r181 = 0 ∨ r181 = 1)) → (((r181 = (0 : Int)) → (sv_R (l10_11 + (1 : Int))) ∧ ((0 ≤ (l10_11 + (1 : Int)) ∧ (l10_11 + (1 : Int)) ≤ (S 1071 0)) ∧ ((S 1071 0) - (l10_11 + (1 : Int))) < ((S 1071 0) - l10_11))) ∧ ((¬ (r181 = (0 : Int))) → (1 ≤ (S 1032 0) ∧ (S 1032 0) ≤ 11 ∧ 0 ≤ l10_11 ∧ l10_11 ≤ 200) ∧ (∀ r188 : Int, sv_R r188 → (0 ≤ r188 ∧ r188 < (S 1032 0)) → (((¬ r188 = (0 : Int)) → ((((64 : Int) ≤ l10_11) → (∀ r189 : Int, sv_RL r189 → (∀ r190 : Int, sv_RL r190 → (sv_R (l10_11 + (1 : Int))) ∧ ((0 ≤ (l10_11 + (1 : Int)) ∧ (l10_11 + (1 : Int)) ≤ (S 1071 0)) ∧ ((S 1071 0) - (l10_11 + (1 : Int))) < ((S 1071 0) - l10_11))))) ∧ ((¬ ((64 : Int) ≤ l10_11)) → (∀ r192 : Int, sv_RL r192 → (∀ r193 : Int, sv_RL r193 → (sv_R (l10_11 + (1 : Int))) ∧ ((0 ≤ (l10_11 + (1 : Int)) ∧ (l10_11 + (1 : Int)) ≤ (S 1071 0)) ∧ ((S 1071 0) - (l10_11 + (1 : Int))) < ((S 1071 0) - l10_11))))))) ∧ ((¬ (¬ r188 = (0 : Int))) → (sv_R (l10_11 + (1 : Int))) ∧ ((0 ≤ (l10_11 + (1 : Int)) ∧ (l10_11 + (1 : Int)) ≤ (S 1071 0)) ∧ ((S 1071 0) - (l10_11 + (1 : Int))) < ((S 1071 0) - l10_11)))))))))))))) ∧ ((¬ (¬ p5 = (-1 : Int))) → (sm_ST (S 71) (g4 74) (S 75) (g4 78) (g4 79) (g4 80) (S 27) (S 1100007) (S 1100023) (S 1100024) (S 1046 0) ((S 1046 0) + 2 * (S 1032 0)) (S 1127 0) ∧ 465000 ≤ (S 1127 0) ∧ (S 1127 0) + sm_hs (S 71) (S 1100007) ≤ 635000 ∧ (S 75 639) = 647340 ∧ (∀ k : Int, (S 71 k) = 1 → (S 71 k) = 1) ∧ sm_DR (S 72) (S 71) (S 1046 0) ∧ (641 * (sm_cm (S 71) + sm_pt (g4 68) (g4 69) (g4 70) + sm_pl (g4 81) (g4 82) (g4 83) (g4 84) (g4 85) (g4 86) + sm_ps (g4 76) (g4 77)) + sm_du (S 72)) ≤ (641 * (sm_cm (S 71) + sm_pt (S 68) (S 69) (S 70) + sm_pl (S 81) (S 82) (S 83) (S 84) (S 85) (S 86) + sm_ps (S 76) (S 77)) + sm_du (S 72)) ∧ 0 ≤ (g4 74 639) ∧ (g4 74 639) ≤ 400 ∧ 0 ≤ (g4 78 639) ∧ (g4 78 639) ≤ 40 ∧ (g4 78 639) = sm_dp (S 1100024) (g4 1100031 0) ∧ -1 ≤ (g4 1100031 0) ∧ (g4 1100031 0) < (S 1046 0) ∧ (0 ≤ (g4 1100031 0) → (S 26 (g4 1100031 0)) = 27) ∧ sm_TC (g4 79) (g4 80) (S 27) (S 1100007) (S 1100023) (S 1100024) 25560 (g4 1100031 0) ∧ (g4 74 639) = (S 1100007 (S 1148 0)) ∧ (g4 1100031 0) = (S 1100023 (S 1148 0)) ∧ 0 ≤ (S 1147 0) ∧ (S 1147 0) ≤ 12 ∧ (∀ k : Int, 0 ≤ k → k < (S 1147 0) → 635639 ≤ (S 91 k) ∧ (S 91 k) < 647800))))))) := by
  intro p1
  intro p3
  intro p5
  intro S
  intro h1_
  intro h2_
  intro h3_
  intro h4_
  rintro ⟨h5_, ⟨h6_, ⟨h7_, ⟨h8_, ⟨h9_, ⟨h10_, ⟨h11_, ⟨h12_, ⟨h13_, ⟨h14_, ⟨h15_, ⟨h16_, ⟨h17_, ⟨h18_, ⟨h19_, ⟨h20_, ⟨h21_, ⟨h22_, ⟨h23_, ⟨h24_, ⟨h25_, ⟨h26_, ⟨h27_, ⟨h28_, ⟨h29_, ⟨h30_, ⟨h31_, ⟨h32_, ⟨h33_, ⟨h34_, ⟨h35_, ⟨h36_, h37_⟩⟩⟩⟩⟩⟩⟩⟩⟩⟩⟩⟩⟩⟩⟩⟩⟩⟩⟩⟩⟩⟩⟩⟩⟩⟩⟩⟩⟩⟩⟩⟩
  intro h38_
  have h39_ := (h38_ h27_)
  have h40_ := (h39_ h30_)
  obtain ⟨h41_, ⟨h42_, ⟨h43_, h44_⟩⟩⟩ := (h40_ h31_)
  intro h45_
  refine ⟨⟨h5_, ⟨h6_, ⟨h7_, ⟨h8_, ⟨h9_, ⟨h10_, ⟨h11_, ⟨h12_, ⟨h13_, ⟨h14_, ⟨h15_, ⟨h16_, ⟨h17_, ⟨h18_, ⟨h19_, ⟨h20_, ⟨h21_, ⟨h22_, ⟨h23_, ⟨h24_, ⟨h25_, ⟨h26_, ⟨h27_, ⟨h28_, ⟨h29_, (la_prepare_0 h30_ h31_ h32_)⟩⟩⟩⟩⟩⟩⟩⟩⟩⟩⟩⟩⟩⟩⟩⟩⟩⟩⟩⟩⟩⟩⟩⟩⟩, ?_⟩
  intro g4
  rintro ⟨h46_, ⟨h47_, ⟨h48_, ⟨h49_, ⟨h50_, ⟨h51_, ⟨h52_, ⟨h53_, ⟨h54_, ⟨h55_, ⟨h56_, ⟨h57_, ⟨h58_, ⟨h59_, h60_⟩⟩⟩⟩⟩⟩⟩⟩⟩⟩⟩⟩⟩⟩
  refine ⟨?_, ?_⟩
  · skip
    intro h61_
    refine ⟨(la_prepare_2 h5_), ?_⟩
    intro l6_9
    intro h62_
    intro l8_10
    intro h63_
    intro l10_11
    intro h64_
    rintro ⟨h65_, h66_⟩
    refine ⟨(la_prepare_3 h66_), ?_⟩
    intro h67_
    refine ⟨?_, ?_⟩
    · skip
      intro h68_
      intro g16
      intro _
      refine ⟨la_prepare_4, ?_⟩
      intro g22
      intro _
      refine ⟨⟨h5_, ⟨h6_, ⟨h7_, ⟨h8_, ⟨h9_, ⟨h10_, ⟨h11_, ⟨h12_, ⟨h13_, ⟨h14_, ⟨h15_, ⟨h16_, (la_prepare_5 h17_ h18_)⟩⟩⟩⟩⟩⟩⟩⟩⟩⟩⟩⟩, ?_⟩
      intro g28
      intro h69_
      rintro ⟨h70_, h71_⟩
      refine ⟨?_, ?_⟩
      · skip
        intro h72_
        refine ⟨la_prepare_7, ?_⟩
        refine ⟨(la_prepare_8 h9_ h10_ h12_ h34_ (la_prepare_1 h33_ h61_)), ?_⟩
        intro r44
        intro h73_
        intro h74_
        refine ⟨?_, ?_⟩
        · skip
          refine ⟨h5_, ?_⟩
          refine ⟨h6_, ?_⟩
          refine ⟨h7_, ?_⟩
          refine ⟨h8_, ?_⟩
          refine ⟨h9_, ?_⟩
          refine ⟨h10_, ?_⟩
          refine ⟨h11_, ?_⟩
          refine ⟨h12_, ?_⟩
          refine ⟨h13_, ?_⟩
          refine ⟨h14_, ?_⟩
          refine ⟨h15_, ?_⟩
          refine ⟨h16_, ?_⟩
          refine ⟨h17_, ?_⟩
          refine ⟨h18_, ?_⟩
          refine ⟨h22_, ?_⟩
          refine ⟨h50_, ?_⟩
          refine ⟨h51_, ?_⟩
          refine ⟨(la_prepare_9 h9_ (la_prepare_1 h33_ h61_) h74_), ?_⟩
          refine ⟨(la_prepare_10 h13_ h34_ h74_), ?_⟩
          refine ⟨la_prepare_11, ?_⟩
          refine ⟨la_prepare_12, ?_⟩
          refine ⟨la_prepare_13, ?_⟩
          refine ⟨la_prepare_14, ?_⟩
          intro k
          intro h75_
          intro h76_
          refine ⟨?_, ?_⟩
          · skip
            have h77_ := (h28_ (S 1148 0))
            have h78_ := ((h37_ k) h75_)
            have e79_ : (if k = 0 then 647750 else S 91 k : Int) = 647750 := if_pos (la_prepare_15 h75_ h76_)
            exact (la_prepare_17 e79_)
          have h80_ := (h28_ (S 1148 0))
          have h81_ := ((h37_ k) h75_)
          have e82_ : (if k = 0 then 647750 else S 91 k : Int) = 647750 := if_pos (la_prepare_15 h75_ h76_)
          exact (la_prepare_18 e82_)
        intro g46
        rintro ⟨h83_, ⟨h84_, h85_⟩⟩
        intro r57
        intro h86_
        intro h87_
        refine ⟨⟨h5_, ⟨h6_, ⟨h7_, ⟨h8_, ⟨h9_, ⟨h10_, ⟨h11_, ⟨h12_, ⟨h13_, ⟨h14_, ⟨h15_, ⟨h16_, (la_prepare_19 h6_ h9_ h13_ h17_ h18_ h34_ (la_prepare_1 h33_ h61_) h87_)⟩⟩⟩⟩⟩⟩⟩⟩⟩⟩⟩⟩, ?_⟩
        intro r63
        intro h88_
        rintro ⟨h89_, h90_⟩
        have h91_ := (h89_ la_prepare_20)
        refine ⟨la_prepare_22, ?_⟩
        intro h92_
        refine ⟨?_, ?_⟩
        · skip
          intro h93_
          intro r66
          intro h94_
          refine ⟨(la_prepare_23 h93_), ?_⟩
          intro h95_
          refine ⟨h49_, ?_⟩
          refine ⟨h24_, ?_⟩
          refine ⟨h25_, ?_⟩
          refine ⟨h22_, ?_⟩
          refine ⟨?_, ?_⟩
          · skip
            intro kv1
            intro h96_
            exact h96_
          refine ⟨h29_, ?_⟩
          refine ⟨(la_prepare_24 h93_), ?_⟩
          refine ⟨h50_, ?_⟩
          refine ⟨h51_, ?_⟩
          refine ⟨h52_, ?_⟩
          refine ⟨h53_, ?_⟩
          refine ⟨h54_, ?_⟩
          refine ⟨h55_, ?_⟩
          refine ⟨h56_, ?_⟩
          refine ⟨h57_, ?_⟩
          refine ⟨h58_, ?_⟩
          refine ⟨h59_, ?_⟩
          refine ⟨h60_, ?_⟩
          refine ⟨la_prepare_25, ?_⟩
          refine ⟨la_prepare_26, ?_⟩
          intro kv2
          intro h97_
          intro h98_
          refine ⟨(la_prepare_27 h93_), ?_⟩
          exact (la_prepare_28 h93_)
        intro h99_
        intro r73
        intro h100_
        refine ⟨(la_prepare_30 h6_ h9_ h13_ h34_ (la_prepare_1 h33_ h61_) h87_ h91_), ?_⟩
        intro h101_
        refine ⟨h49_, ?_⟩
        refine ⟨h24_, ?_⟩
        refine ⟨h25_, ?_⟩
        refine ⟨h22_, ?_⟩
        refine ⟨?_, ?_⟩
        · skip
          intro kv3
          intro h102_
          exact h102_
        refine ⟨h29_, ?_⟩
        refine ⟨?_, ?_⟩
        · skip
          have e103_ : sm_pl (g46 81) (g46 82) (fun i' : Int => (if i' = r63 then r73 else (g46 83) i')) (fun i' : Int => (if i' = r63 then g46 70 647750 else (g46 84) i')) (g46 85) (g46 86) = sm_pl (g46 81) (g46 82) (fun i' : Int => (if i' = r63 then r73 else (g46 83) i')) (g46 84) (g46 85) (g46 86) := sm_pl_B (la_prepare_31 h9_ (la_prepare_1 h33_ h61_) h87_ h91_)
          have e104_ : sm_pl (g46 81) (g46 82) (fun i' : Int => (if i' = r63 then r73 else (g46 83) i')) (g46 84) (g46 85) (g46 86) = sm_pl (g46 81) (g46 82) (g46 83) (g46 84) (g46 85) (g46 86) := sm_pl_A (la_prepare_31 h9_ (la_prepare_1 h33_ h61_) h87_ h91_)
          have h105_ := (h28_ (S 1148 0))
          exact (la_prepare_32 h46_ h47_ h48_ h69_ h83_ h84_ h85_ e103_ e104_)
        refine ⟨h50_, ?_⟩
        refine ⟨h51_, ?_⟩
        refine ⟨h52_, ?_⟩
        refine ⟨h53_, ?_⟩
        refine ⟨h54_, ?_⟩
        refine ⟨h55_, ?_⟩
        refine ⟨h56_, ?_⟩
        refine ⟨h57_, ?_⟩
        refine ⟨h58_, ?_⟩
        refine ⟨h59_, ?_⟩
        refine ⟨h60_, ?_⟩
        refine ⟨la_prepare_25, ?_⟩
        refine ⟨la_prepare_26, ?_⟩
        intro kv4
        intro h106_
        intro h107_
        refine ⟨?_, ?_⟩
        · skip
          have h108_ := (h28_ (S 1148 0))
          obtain ⟨h109_, h110_⟩ := (((h37_ kv4) h106_) (la_prepare_33 h106_ h107_))
          have e111_ : (if kv4 = 0 then 647750 else S 91 kv4 : Int) = 647750 := if_pos (la_prepare_34 h106_ h107_)
          exact (la_prepare_17 e111_)
        have h112_ := (h28_ (S 1148 0))
        obtain ⟨h113_, h114_⟩ := (((h37_ kv4) h106_) (la_prepare_33 h106_ h107_))
        have e115_ : (if kv4 = 0 then 647750 else S 91 kv4 : Int) = 647750 := if_pos (la_prepare_34 h106_ h107_)
        exact (la_prepare_18 e115_)
      intro h116_
      refine ⟨la_prepare_22, ?_⟩
      intro r85
      intro h117_
      intro h118_
      refine ⟨?_, ?_⟩
      · skip
        intro h119_
        refine ⟨la_prepare_7, ?_⟩
        refine ⟨(la_prepare_8 h9_ h10_ h12_ h34_ (la_prepare_1 h33_ h61_)), ?_⟩
        intro r96
        intro h120_
        intro h121_
        refine ⟨?_, ?_⟩
        · skip
          refine ⟨h5_, ?_⟩
          refine ⟨h6_, ?_⟩
          refine ⟨h7_, ?_⟩
          refine ⟨h8_, ?_⟩
          refine ⟨h9_, ?_⟩
          refine ⟨h10_, ?_⟩
          refine ⟨h11_, ?_⟩
          refine ⟨h12_, ?_⟩
          refine ⟨h13_, ?_⟩
          refine ⟨h14_, ?_⟩
          refine ⟨h15_, ?_⟩
          refine ⟨h16_, ?_⟩
          refine ⟨h17_, ?_⟩
          refine ⟨h18_, ?_⟩
          refine ⟨h22_, ?_⟩
          refine ⟨h50_, ?_⟩
          refine ⟨h51_, ?_⟩
          refine ⟨(la_prepare_9 h9_ (la_prepare_1 h33_ h61_) h121_), ?_⟩
          refine ⟨(la_prepare_10 h13_ h34_ h121_), ?_⟩
          refine ⟨la_prepare_11, ?_⟩
          refine ⟨la_prepare_12, ?_⟩
          refine ⟨la_prepare_13, ?_⟩
          refine ⟨la_prepare_14, ?_⟩
          intro kv5
          intro h122_
          intro h123_
          refine ⟨?_, ?_⟩
          · skip
            have h124_ := (h28_ (S 1148 0))
            have h125_ := ((h37_ kv5) h122_)
            have e126_ : (if kv5 = 0 then 647750 else S 91 kv5 : Int) = 647750 := if_pos (la_prepare_15 h122_ h123_)
            exact (la_prepare_17 e126_)
          have h127_ := (h28_ (S 1148 0))
          have h128_ := ((h37_ kv5) h122_)
          have e129_ : (if kv5 = 0 then 647750 else S 91 kv5 : Int) = 647750 := if_pos (la_prepare_15 h122_ h123_)
          exact (la_prepare_18 e129_)
        intro g98
        rintro ⟨h130_, ⟨h131_, h132_⟩⟩
        intro r109
        intro h133_
        intro h134_
        refine ⟨⟨h5_, ⟨h6_, ⟨h7_, ⟨h8_, ⟨h9_, ⟨h10_, ⟨h11_, ⟨h12_, ⟨h13_, ⟨h14_, ⟨h15_, ⟨h16_, (la_prepare_19 h6_ h9_ h13_ h17_ h18_ h34_ (la_prepare_1 h33_ h61_) h134_)⟩⟩⟩⟩⟩⟩⟩⟩⟩⟩⟩⟩, ?_⟩
        intro r115
        intro h135_
        rintro ⟨h136_, h137_⟩
        have h138_ := (h136_ la_prepare_20)
        intro h139_
        refine ⟨?_, ?_⟩
        · skip
          intro h140_
          intro r117
          intro h141_
          refine ⟨(la_prepare_30 h6_ h9_ h13_ h34_ (la_prepare_1 h33_ h61_) h134_ h138_), ?_⟩
          intro h142_
          refine ⟨h49_, ?_⟩
          refine ⟨h24_, ?_⟩
          refine ⟨h25_, ?_⟩
          refine ⟨h22_, ?_⟩
          refine ⟨?_, ?_⟩
          · skip
            intro kv6
            intro h143_
            exact h143_
          refine ⟨h29_, ?_⟩
          refine ⟨?_, ?_⟩
          · skip
            have e144_ : sm_pl (g98 81) (g98 82) (fun i' : Int => (if i' = r115 then r117 else (g98 83) i')) (fun i' : Int => (if i' = r115 then g98 70 647750 else (g98 84) i')) (g98 85) (g98 86) = sm_pl (g98 81) (g98 82) (fun i' : Int => (if i' = r115 then r117 else (g98 83) i')) (g98 84) (g98 85) (g98 86) := sm_pl_B (la_prepare_31 h9_ (la_prepare_1 h33_ h61_) h134_ h138_)
            have e145_ : sm_pl (g98 81) (g98 82) (fun i' : Int => (if i' = r115 then r117 else (g98 83) i')) (g98 84) (g98 85) (g98 86) = sm_pl (g98 81) (g98 82) (g98 83) (g98 84) (g98 85) (g98 86) := sm_pl_A (la_prepare_31 h9_ (la_prepare_1 h33_ h61_) h134_ h138_)
            have h146_ := (h28_ (S 1148 0))
            exact (la_prepare_32 h46_ h47_ h48_ h69_ h130_ h131_ h132_ e144_ e145_)
          refine ⟨h50_, ?_⟩
          refine ⟨h51_, ?_⟩
          refine ⟨h52_, ?_⟩
          refine ⟨h53_, ?_⟩
          refine ⟨h54_, ?_⟩
          refine ⟨h55_, ?_⟩
          refine ⟨h56_, ?_⟩
          refine ⟨h57_, ?_⟩
          refine ⟨h58_, ?_⟩
          refine ⟨h59_, ?_⟩
          refine ⟨h60_, ?_⟩
          refine ⟨la_prepare_25, ?_⟩
          refine ⟨la_prepare_26, ?_⟩
          intro kv7
          intro h147_
          intro h148_
          refine ⟨?_, ?_⟩
          · skip
            have h149_ := (h28_ (S 1148 0))
            obtain ⟨h150_, h151_⟩ := (((h37_ kv7) h147_) (la_prepare_33 h147_ h148_))
            have e152_ : (if kv7 = 0 then 647750 else S 91 kv7 : Int) = 647750 := if_pos (la_prepare_34 h147_ h148_)
            exact (la_prepare_17 e152_)
          have h153_ := (h28_ (S 1148 0))
          obtain ⟨h154_, h155_⟩ := (((h37_ kv7) h147_) (la_prepare_33 h147_ h148_))
          have e156_ : (if kv7 = 0 then 647750 else S 91 kv7 : Int) = 647750 := if_pos (la_prepare_34 h147_ h148_)
          exact (la_prepare_18 e156_)
        intro h157_
        intro r124
        intro h158_
        refine ⟨(la_prepare_36 (la_prepare_35 la_prepare_25 h157_)), ?_⟩
        intro h159_
        refine ⟨h49_, ?_⟩
        refine ⟨h24_, ?_⟩
        refine ⟨h25_, ?_⟩
        refine ⟨h22_, ?_⟩
        refine ⟨?_, ?_⟩
        · skip
          intro kv8
          intro h160_
          exact h160_
        refine ⟨h29_, ?_⟩
        refine ⟨(la_prepare_37 (la_prepare_35 la_prepare_25 h157_)), ?_⟩
        refine ⟨h50_, ?_⟩
        refine ⟨h51_, ?_⟩
        refine ⟨h52_, ?_⟩
        refine ⟨h53_, ?_⟩
        refine ⟨h54_, ?_⟩
        refine ⟨h55_, ?_⟩
        refine ⟨h56_, ?_⟩
        refine ⟨h57_, ?_⟩
        refine ⟨h58_, ?_⟩
        refine ⟨h59_, ?_⟩
        refine ⟨h60_, ?_⟩
        refine ⟨la_prepare_25, ?_⟩
        refine ⟨la_prepare_26, ?_⟩
        intro kv9
        intro h161_
        intro h162_
        refine ⟨(la_prepare_38 (la_prepare_35 la_prepare_25 h157_)), ?_⟩
        exact (la_prepare_39 (la_prepare_35 la_prepare_25 h157_))
      intro h163_
      refine ⟨la_prepare_7, ?_⟩
      refine ⟨(la_prepare_8 h9_ h10_ h12_ h34_ (la_prepare_1 h33_ h61_)), ?_⟩
      intro r141
      intro h164_
      intro h165_
      refine ⟨?_, ?_⟩
      · skip
        refine ⟨h5_, ?_⟩
        refine ⟨h6_, ?_⟩
        refine ⟨h7_, ?_⟩
        refine ⟨h8_, ?_⟩
        refine ⟨h9_, ?_⟩
        refine ⟨h10_, ?_⟩
        refine ⟨h11_, ?_⟩
        refine ⟨h12_, ?_⟩
        refine ⟨h13_, ?_⟩
        refine ⟨h14_, ?_⟩
        refine ⟨h15_, ?_⟩
        refine ⟨h16_, ?_⟩
        refine ⟨h17_, ?_⟩
        refine ⟨h18_, ?_⟩
        refine ⟨h22_, ?_⟩
        refine ⟨h50_, ?_⟩
        refine ⟨h51_, ?_⟩
        refine ⟨(la_prepare_9 h9_ (la_prepare_1 h33_ h61_) h165_), ?_⟩
        refine ⟨(la_prepare_10 h13_ h34_ h165_), ?_⟩
        refine ⟨la_prepare_11, ?_⟩
        refine ⟨la_prepare_12, ?_⟩
        refine ⟨la_prepare_13, ?_⟩
        refine ⟨la_prepare_14, ?_⟩
        intro kv10
        intro h166_
        intro h167_
        refine ⟨?_, ?_⟩
        · skip
          have h168_ := (h28_ (S 1148 0))
          have h169_ := ((h37_ kv10) h166_)
          have e170_ : (if kv10 = 0 then 647750 else S 91 kv10 : Int) = 647750 := if_pos (la_prepare_15 h166_ h167_)
          exact (la_prepare_17 e170_)
        have h171_ := (h28_ (S 1148 0))
        have h172_ := ((h37_ kv10) h166_)
        have e173_ : (if kv10 = 0 then 647750 else S 91 kv10 : Int) = 647750 := if_pos (la_prepare_15 h166_ h167_)
        exact (la_prepare_18 e173_)
      intro g143
      rintro ⟨h174_, ⟨h175_, h176_⟩⟩
      intro r154
      intro h177_
      intro h178_
      refine ⟨⟨h5_, ⟨h6_, ⟨h7_, ⟨h8_, ⟨h9_, ⟨h10_, ⟨h11_, ⟨h12_, ⟨h13_, ⟨h14_, ⟨h15_, ⟨h16_, (la_prepare_19 h6_ h9_ h13_ h17_ h18_ h34_ (la_prepare_1 h33_ h61_) h178_)⟩⟩⟩⟩⟩⟩⟩⟩⟩⟩⟩⟩, ?_⟩
      intro r160
      intro h179_
      rintro ⟨h180_, h181_⟩
      have h182_ := (h180_ la_prepare_20)
      intro h183_
      refine ⟨?_, ?_⟩
      · skip
        intro h184_
        intro r162
        intro h185_
        refine ⟨(la_prepare_23 h184_), ?_⟩
        intro h186_
        refine ⟨h49_, ?_⟩
        refine ⟨h24_, ?_⟩
        refine ⟨h25_, ?_⟩
        refine ⟨h22_, ?_⟩
        refine ⟨?_, ?_⟩
        · skip
          intro kv11
          intro h187_
          exact h187_
        refine ⟨h29_, ?_⟩
        refine ⟨(la_prepare_24 h184_), ?_⟩
        refine ⟨h50_, ?_⟩
        refine ⟨h51_, ?_⟩
        refine ⟨h52_, ?_⟩
        refine ⟨h53_, ?_⟩
        refine ⟨h54_, ?_⟩
        refine ⟨h55_, ?_⟩
        refine ⟨h56_, ?_⟩
        refine ⟨h57_, ?_⟩
        refine ⟨h58_, ?_⟩
        refine ⟨h59_, ?_⟩
        refine ⟨h60_, ?_⟩
        refine ⟨la_prepare_25, ?_⟩
        refine ⟨la_prepare_26, ?_⟩
        intro kv12
        intro h188_
        intro h189_
        refine ⟨(la_prepare_27 h184_), ?_⟩
        exact (la_prepare_28 h184_)
      intro h190_
      intro r169
      intro h191_
      refine ⟨(la_prepare_30 h6_ h9_ h13_ h34_ (la_prepare_1 h33_ h61_) h178_ h182_), ?_⟩
      intro h192_
      refine ⟨h49_, ?_⟩
      refine ⟨h24_, ?_⟩
      refine ⟨h25_, ?_⟩
      refine ⟨h22_, ?_⟩
      refine ⟨?_, ?_⟩
      · skip
        intro kv13
        intro h193_
        exact h193_
      refine ⟨h29_, ?_⟩
      refine ⟨?_, ?_⟩
      · skip
        have e194_ : sm_pl (g143 81) (g143 82) (fun i' : Int => (if i' = r160 then r169 else (g143 83) i')) (fun i' : Int => (if i' = r160 then g143 70 647750 else (g143 84) i')) (g143 85) (g143 86) = sm_pl (g143 81) (g143 82) (fun i' : Int => (if i' = r160 then r169 else (g143 83) i')) (g143 84) (g143 85) (g143 86) := sm_pl_B (la_prepare_31 h9_ (la_prepare_1 h33_ h61_) h178_ h182_)
        have e195_ : sm_pl (g143 81) (g143 82) (fun i' : Int => (if i' = r160 then r169 else (g143 83) i')) (g143 84) (g143 85) (g143 86) = sm_pl (g143 81) (g143 82) (g143 83) (g143 84) (g143 85) (g143 86) := sm_pl_A (la_prepare_31 h9_ (la_prepare_1 h33_ h61_) h178_ h182_)
        have h196_ := (h28_ (S 1148 0))
        exact (la_prepare_32 h46_ h47_ h48_ h69_ h174_ h175_ h176_ e194_ e195_)
      refine ⟨h50_, ?_⟩
      refine ⟨h51_, ?_⟩
      refine ⟨h52_, ?_⟩
      refine ⟨h53_, ?_⟩
      refine ⟨h54_, ?_⟩
      refine ⟨h55_, ?_⟩
      refine ⟨h56_, ?_⟩
      refine ⟨h57_, ?_⟩
      refine ⟨h58_, ?_⟩
      refine ⟨h59_, ?_⟩
      refine ⟨h60_, ?_⟩
      refine ⟨la_prepare_25, ?_⟩
      refine ⟨la_prepare_26, ?_⟩
      intro kv14
      intro h197_
      intro h198_
      refine ⟨?_, ?_⟩
      · skip
        have h199_ := (h28_ (S 1148 0))
        obtain ⟨h200_, h201_⟩ := (((h37_ kv14) h197_) (la_prepare_33 h197_ h198_))
        have e202_ : (if kv14 = 0 then 647750 else S 91 kv14 : Int) = 647750 := if_pos (la_prepare_34 h197_ h198_)
        exact (la_prepare_17 e202_)
      have h203_ := (h28_ (S 1148 0))
      obtain ⟨h204_, h205_⟩ := (((h37_ kv14) h197_) (la_prepare_33 h197_ h198_))
      have e206_ : (if kv14 = 0 then 647750 else S 91 kv14 : Int) = 647750 := if_pos (la_prepare_34 h197_ h198_)
      exact (la_prepare_18 e206_)
    intro h207_
    refine ⟨(la_prepare_40 h6_ h65_ h207_), ?_⟩
    intro r181
    intro h208_
    rintro ⟨h209_, h210_⟩
    refine ⟨(la_prepare_41 h6_ h65_ h207_), ?_⟩
    intro h211_
    have h212_ := (h210_.resolve_left h211_)
    refine ⟨(la_prepare_43 h6_ h9_ h10_ h65_ h207_), ?_⟩
    intro r188
    intro h213_
    rintro ⟨h214_, h215_⟩
    refine ⟨?_, ?_⟩
    · skip
      intro h216_
      refine ⟨?_, ?_⟩
      · skip
        intro h217_
        intro r189
        intro h218_
        intro r190
        intro h219_
        refine ⟨(la_prepare_44 h6_ h207_ h217_), ?_⟩
        refine ⟨(la_prepare_45 h207_ h217_), ?_⟩
        exact la_prepare_46
      intro h220_
      intro r192
      intro h221_
      intro r193
      intro h222_
      refine ⟨(la_prepare_47 h65_ h220_), ?_⟩
      refine ⟨(la_prepare_48 h65_ h207_), ?_⟩
      exact la_prepare_46
    intro h223_
    refine ⟨(la_prepare_49 h6_ h65_ h207_), ?_⟩
    refine ⟨(la_prepare_48 h65_ h207_), ?_⟩
    exact la_prepare_46
  intro h224_
  refine ⟨h49_, ?_⟩
  refine ⟨h24_, ?_⟩
  refine ⟨h25_, ?_⟩
  refine ⟨h22_, ?_⟩
  refine ⟨?_, ?_⟩
  · skip
    intro kv15
    intro h225_
    exact h225_
  refine ⟨h29_, ?_⟩
  refine ⟨(la_prepare_50 h46_ h47_ h48_), ?_⟩
  refine ⟨h50_, ?_⟩
  refine ⟨h51_, ?_⟩
  refine ⟨h52_, ?_⟩
  refine ⟨h53_, ?_⟩
  refine ⟨h54_, ?_⟩
  refine ⟨h55_, ?_⟩
  refine ⟨h56_, ?_⟩
  refine ⟨h57_, ?_⟩
  refine ⟨h58_, ?_⟩
  refine ⟨h59_, ?_⟩
  refine ⟨h60_, ?_⟩
  refine ⟨h35_, ?_⟩
  refine ⟨h36_, ?_⟩
  intro kv16
  intro h226_
  intro h227_
  refine ⟨?_, ?_⟩
  · skip
    have h228_ := (h28_ (S 1148 0))
    obtain ⟨h229_, h230_⟩ := (((h37_ kv16) h226_) h227_)
    exact h229_
  have h231_ := (h28_ (S 1148 0))
  obtain ⟨h232_, h233_⟩ := (((h37_ kv16) h226_) h227_)
  exact h233_
set_option maxRecDepth 8000 in
set_option maxHeartbeats 2000000 in
theorem t_prepare : ∀ (p1 : Int) (p3 : Int) (p5 : Int) (S : sv_S), sm_ok S → sv_RL p1 → sv_RL p3 → sv_R p5 → (29 ≤ (S 1071 0) ∧ (S 1071 0) ≤ 127 ∧ 31 ≤ (S 1008 0) ∧ (S 1008 0) ≤ 90 ∧ 1 ≤ (S 1032 0) ∧ (S 1032 0) ≤ 11 ∧ 0 ≤ (S 1055 0) ∧ (S 1055 0) ≤ 19 ∧ (S 1071 0) = 29 + 6 * ((S 1032 0) - 1) + 2 * (S 1055 0) ∧ 0 ≤ (S 1046 0) ∧ (S 1046 0) + 2 * (S 1032 0) ≤ 500 ∧ sm_PD (S 1046 0) (S 1032 0) (S 1071 0) (S 1008 0) ∧ 0 ≤ (S 1071 0) * ((S 1008 0) + 1) ∧ (S 1071 0) * ((S 1008 0) + 1) ≤ 11557 ∧ 31 ≤ (S 1007 0) ∧ (S 1007 0) ≤ 400 ∧ sm_LN (S 4) 400 (S 1007 0) ∧ (S 75 639) = 647340 ∧ sm_ST (S 71) (S 74) (S 75) (S 78) (S 79) (S 80) (S 27) (S 1100007) (S 1100023) (S 1100024) (S 1046 0) ((S 1046 0) + 2 * (S 1032 0)) (S 1127 0) ∧ 465000 ≤ (S 1127 0) ∧ (S 1127 0) + sm_hs (S 71) (S 1100007) ≤ 635000 ∧ sm_NH (S 1100007) ∧ sm_CT (S 26) (S 27) (S 28) (S 29) (S 1100007) (S 1100023) (S 1100024) (S 1100025) (S 21) (S 1046 0) (S 1032 0) (S 1008 0) (S 1055 0) ∧ (∀ k : Int, (S 1046 0) ≤ k → k < ((S 1046 0) + 2 * (S 1032 0)) → (S 1100007 k) = 1) ∧ sm_DR (S 72) (S 71) (S 1046 0) ∧ 0 ≤ (S 1148 0) ∧ (S 1148 0) < (S 1046 0) ∧ (S 71 (S 1148 0)) = 1 ∧ -1 ≤ p5 ∧ p5 < (S 1055 0) ∧ 0 ≤ (S 1147 0) ∧ (S 1147 0) ≤ 12 ∧ (∀ k : Int, 0 ≤ k → k < (S 1147 0) → 635639 ≤ (S 91 k) ∧ (S 91 k) < 647800)) → sv_T sm_XS sm_cs sm_L sm_sh 4 (q_prepare p1 p3 p5 S) 283 0 (lv_args 0 [.ref 0, sv_L p1, sv_L p3, sv_I p5]) [] S := by
  intro p1 p3 p5 S hok hp1 hp3 hp5 hpre
  have h := f_prepare p1 p3 p5 S hok hp1 hp3 hp5 hpre
  have hM := sm_h283
  show sv_T sm_XS sm_cs sm_L sm_sh 4 (q_prepare p1 p3 p5 S) 283 0 [(0, .ref 0), (1, sv_L p1), (3, sv_L p3), (5, sv_I p5)] [] S
  have k1 : (sm_CT (S 26) (S 27) (S 28) (S 29) (S 1100007) (S 1100023) (S 1100024) (S 1100025) (S 21) (S 1046 0) (S 1032 0) (S 1008 0) (S 1055 0) → 0 ≤ (S 1148 0) → (S 1148 0) < (S 1046 0) → 0 ≤ (S 1100007 (S 1148 0)) ∧ (S 1100007 (S 1148 0)) ≤ 396 ∧ -1 ≤ (S 1100023 (S 1148 0)) ∧ (S 1100023 (S 1148 0)) < (S 1148 0)) := fun h h0 h1 => by have q := sm_ct_0 h _ h0 h1; exact ⟨q.2.2.2.2.1, q.2.2.2.2.2.1, q.2.2.2.2.2.2.2.1, q.2.2.2.2.2.2.2.2.1⟩
  have h := h k1
  refine sv_aload_n hM dX12_prepare_0 rfl rfl ?_
  refine sv_aload_n hM dX12_prepare_1 rfl rfl ?_
  have k2 : sv_R (S 1148 0) := sm_okI hok sm_r1148 0
  have h := h k2
  refine sv_getI hM dX12_prepare_2 sm_fl_1188 (sm_a0 _) sm_k148 rfl (x := (S 1148 0)) rfl ?_
  obtain ⟨o3, h⟩ := h
  refine sv_callV hM dX12_prepare_5 sm_iv_1211 (by decide) (sm_a0 _) rfl rfl (Nat.le_of_ble_eq_true rfl) sm_h231 (Nat.le_of_ble_eq_true rfl) (Nat.le_of_ble_eq_true rfl) (F' := 3) (Nat.le_of_ble_eq_true rfl) rfl (t_load (S 1148 0) S hok k2 o3) (fun v S1 hq => ?_)
  obtain ⟨rfl, ok5, md6, hpo7⟩ := hq
  obtain ⟨g4, rfl⟩ : ∃ g, S1 = sv_sts S [68, 69, 70, 81, 82, 83, 84, 85, 86, 74, 78, 79, 80, 76, 77, 1100031] g := ⟨_, md6.eq⟩
  show sv_T sm_XS sm_cs sm_L sm_sh 4 (q_prepare p1 p3 p5 S) 283 8 [(0, .ref 0), (1, sv_L p1), (3, sv_L p3), (5, sv_I p5)] [] (sv_sts S [68, 69, 70, 81, 82, 83, 84, 85, 86, 74, 78, 79, 80, 76, 77, 1100031] g4)
  have md8 : sv_mod [68, 69, 70, 81, 82, 83, 84, 85, 86, 71, 74, 75, 1127, 78, 79, 80, 72, 76, 77, 1143, 1144, 5, 1011, 1150, 1149, 1145, 1113, 1111, 1112, 91, 1147, 1100031] S (sv_sts S [68, 69, 70, 81, 82, 83, 84, 85, 86, 74, 78, 79, 80, 76, 77, 1100031] g4) := sv_mod.sts sv_mod.rf (by decide)
  have h := h g4 hpo7
  refine sv_iload hM dX12_prepare_8 rfl rfl ?_
  refine sv_iconst (d := (-1 : Int)) hM dX12_prepare_10 rfl rfl ?_
  refine sv_icmp_ne hM dX12_prepare_11 hp5 (⟨by decide, by decide⟩ : sv_R (-1 : Int)) (t := 15) rfl rfl (fun hc => ?_) (fun hc => ?_)
  · have h := h.1 (hc)
    refine sv_lconst (d := (0 : Int)) hM dX12_prepare_15 rfl rfl ?_
    refine sv_lstore hM dX12_prepare_16 (by decide) rfl ?_
    show sv_T sm_XS sm_cs sm_L sm_sh 4 (q_prepare p1 p3 p5 S) 283 18 [(0, .ref 0), (1, sv_L p1), (3, sv_L p3), (5, sv_I p5), (6, sv_L (0 : Int))] [] (sv_sts S [68, 69, 70, 81, 82, 83, 84, 85, 86, 74, 78, 79, 80, 76, 77, 1100031] g4)
    refine sv_lconst (d := (0 : Int)) hM dX12_prepare_18 rfl rfl ?_
    refine sv_lstore hM dX12_prepare_19 (by decide) rfl ?_
    show sv_T sm_XS sm_cs sm_L sm_sh 4 (q_prepare p1 p3 p5 S) 283 21 [(0, .ref 0), (1, sv_L p1), (3, sv_L p3), (5, sv_I p5), (6, sv_L (0 : Int)), (8, sv_L (0 : Int))] [] (sv_sts S [68, 69, 70, 81, 82, 83, 84, 85, 86, 74, 78, 79, 80, 76, 77, 1100031] g4)
    refine sv_iconst (d := (0 : Int)) hM dX12_prepare_21 rfl rfl ?_
    refine sv_istore hM dX12_prepare_22 (by decide) rfl ?_
    show sv_T sm_XS sm_cs sm_L sm_sh 4 (q_prepare p1 p3 p5 S) 283 24 [(0, .ref 0), (1, sv_L p1), (3, sv_L p3), (5, sv_I p5), (6, sv_L (0 : Int)), (8, sv_L (0 : Int)), (10, sv_I (0 : Int))] [] (sv_sts S [68, 69, 70, 81, 82, 83, 84, 85, 86, 74, 78, 79, 80, 76, 77, 1100031] g4)
    obtain ⟨hin13, h⟩ := h
    have hJ : ∀ a : Int × Int × Int × Unit, (sv_RL a.1 ∧ sv_RL a.2.1 ∧ sv_R a.2.2.1 ∧ sm_ok (sv_sts S [68, 69, 70, 81, 82, 83, 84, 85, 86, 74, 78, 79, 80, 76, 77, 1100031] g4) ∧ (0 ≤ a.2.2.1 ∧ a.2.2.1 ≤ (S 1071 0))) → sv_T sm_XS sm_cs sm_L sm_sh 4 (q_prepare p1 p3 p5 S) 283 24 [(0, .ref 0), (1, sv_L p1), (3, sv_L p3), (5, sv_I p5), (6, sv_L a.1), (8, sv_L a.2.1), (10, sv_I a.2.2.1)] [] (sv_sts S [68, 69, 70, 81, 82, 83, 84, 85, 86, 74, 78, 79, 80, 76, 77, 1100031] g4) := by
      refine sv_loop (α := Int × Int × Int × Unit) (fun a => sv_RL a.1 ∧ sv_RL a.2.1 ∧ sv_R a.2.2.1 ∧ sm_ok (sv_sts S [68, 69, 70, 81, 82, 83, 84, 85, 86, 74, 78, 79, 80, 76, 77, 1100031] g4) ∧ (0 ≤ a.2.2.1 ∧ a.2.2.1 ≤ (S 1071 0))) (fun a => (S 1071 0) - a.2.2.1) (fun a => sv_T sm_XS sm_cs sm_L sm_sh 4 (q_prepare p1 p3 p5 S) 283 24 [(0, .ref 0), (1, sv_L p1), (3, sv_L p3), (5, sv_I p5), (6, sv_L a.1), (8, sv_L a.2.1), (10, sv_I a.2.2.1)] [] (sv_sts S [68, 69, 70, 81, 82, 83, 84, 85, 86, 74, 78, 79, 80, 76, 77, 1100031] g4)) (fun a q => (h a.1 q.1 a.2.1 q.2.1 a.2.2.1 q.2.2.1 q.2.2.2.2).1) (fun a q ih12 => ?_)
      obtain ⟨l6_9, l8_10, l10_11, _u⟩ := a
      obtain ⟨hl6_9, hl8_10, hl10_11, ok14, hin13i⟩ := q
      have h := (h l6_9 hl6_9 l8_10 hl8_10 l10_11 hl10_11 hin13i).2
      show sv_T sm_XS sm_cs sm_L sm_sh 4 (q_prepare p1 p3 p5 S) 283 24 [(0, .ref 0), (1, sv_L p1), (3, sv_L p3), (5, sv_I p5), (6, sv_L l6_9), (8, sv_L l8_10), (10, sv_I l10_11)] [] (sv_sts S [68, 69, 70, 81, 82, 83, 84, 85, 86, 74, 78, 79, 80, 76, 77, 1100031] g4)
      refine sv_iload hM dX12_prepare_24 rfl rfl ?_
      refine sv_aload_n hM dX12_prepare_26 rfl rfl ?_
      have k15 : sv_R (S 1071 0) := sm_okI ok14 sm_r1071 0
      have h := h k15
      refine sv_getI hM dX12_prepare_27 sm_fl_765 (sm_a0 _) sm_k71 rfl (x := (S 1071 0)) rfl ?_
      refine sv_icmp_ge hM dX12_prepare_30 hl10_11 k15 (t := 92) rfl rfl (fun hc => ?_) (fun hc => ?_)
      · have h := h.1 (hc)
        refine sv_ldc_w (d := (647750 : Int)) hM dX12_prepare_92 sm_ck_1339 rfl rfl ?_
        refine sv_istore hM dX12_prepare_95 (by decide) rfl ?_
        show sv_T sm_XS sm_cs sm_L sm_sh 4 (q_prepare p1 p3 p5 S) 283 97 [(0, .ref 0), (1, sv_L p1), (3, sv_L p3), (5, sv_I p5), (6, sv_L l6_9), (8, sv_L l8_10), (10, sv_I (647750 : Int))] [] (sv_sts S [68, 69, 70, 81, 82, 83, 84, 85, 86, 74, 78, 79, 80, 76, 77, 1100031] g4)
        refine sv_aload_n hM dX12_prepare_97 rfl rfl ?_
        refine sv_callV hM dX12_prepare_98 sm_iv_1135 (by decide) (sm_a0 _) rfl rfl (Nat.le_of_ble_eq_true rfl) sm_h244 (Nat.le_of_ble_eq_true rfl) (Nat.le_of_ble_eq_true rfl) (F' := 0) (Nat.le_of_ble_eq_true rfl) rfl (t_noKeys  (sv_sts S [68, 69, 70, 81, 82, 83, 84, 85, 86, 74, 78, 79, 80, 76, 77, 1100031] g4) ok14) (fun v S1 hq => ?_)
        obtain ⟨rfl, ok17, md18, hpo19⟩ := hq
        obtain ⟨g16, rfl⟩ : ∃ g, S1 = sv_sts (sv_sts S [68, 69, 70, 81, 82, 83, 84, 85, 86, 74, 78, 79, 80, 76, 77, 1100031] g4) [1143, 1144] g := ⟨_, md18.eq⟩
        show sv_T sm_XS sm_cs sm_L sm_sh 4 (q_prepare p1 p3 p5 S) 283 101 [(0, .ref 0), (1, sv_L p1), (3, sv_L p3), (5, sv_I p5), (6, sv_L l6_9), (8, sv_L l8_10), (10, sv_I (647750 : Int))] [] (sv_sts (sv_sts S [68, 69, 70, 81, 82, 83, 84, 85, 86, 74, 78, 79, 80, 76, 77, 1100031] g4) [1143, 1144] g16)
        have md20 : sv_mod [68, 69, 70, 81, 82, 83, 84, 85, 86, 71, 74, 75, 1127, 78, 79, 80, 72, 76, 77, 1143, 1144, 5, 1011, 1150, 1149, 1145, 1113, 1111, 1112, 91, 1147, 1100031] S (sv_sts (sv_sts S [68, 69, 70, 81, 82, 83, 84, 85, 86, 74, 78, 79, 80, 76, 77, 1100031] g4) [1143, 1144] g16) := sv_mod.sts md8 (by decide)
        have h := h g16 hpo19
        refine sv_aload_n hM dX12_prepare_101 rfl rfl ?_
        refine sv_iconst (d := (1 : Int)) hM dX12_prepare_102 rfl rfl ?_
        obtain ⟨o21, h⟩ := h
        refine sv_callV hM dX12_prepare_103 sm_iv_1138 (by decide) (sm_a0 _) rfl rfl (Nat.le_of_ble_eq_true rfl) sm_h241 (Nat.le_of_ble_eq_true rfl) (Nat.le_of_ble_eq_true rfl) (F' := 0) (Nat.le_of_ble_eq_true rfl) rfl (t_addKey (1 : Int) (sv_sts (sv_sts S [68, 69, 70, 81, 82, 83, 84, 85, 86, 74, 78, 79, 80, 76, 77, 1100031] g4) [1143, 1144] g16) ok17 (⟨by decide, by decide⟩ : sv_R (1 : Int)) o21) (fun v S1 hq => ?_)
        obtain ⟨rfl, ok23, md24, hpo25⟩ := hq
        obtain ⟨g22, rfl⟩ : ∃ g, S1 = sv_sts (sv_sts (sv_sts S [68, 69, 70, 81, 82, 83, 84, 85, 86, 74, 78, 79, 80, 76, 77, 1100031] g4) [1143, 1144] g16) [1143, 1144] g := ⟨_, md24.eq⟩
        show sv_T sm_XS sm_cs sm_L sm_sh 4 (q_prepare p1 p3 p5 S) 283 106 [(0, .ref 0), (1, sv_L p1), (3, sv_L p3), (5, sv_I p5), (6, sv_L l6_9), (8, sv_L l8_10), (10, sv_I (647750 : Int))] [] (sv_sts (sv_sts (sv_sts S [68, 69, 70, 81, 82, 83, 84, 85, 86, 74, 78, 79, 80, 76, 77, 1100031] g4) [1143, 1144] g16) [1143, 1144] g22)
        have md26 : sv_mod [68, 69, 70, 81, 82, 83, 84, 85, 86, 71, 74, 75, 1127, 78, 79, 80, 72, 76, 77, 1143, 1144, 5, 1011, 1150, 1149, 1145, 1113, 1111, 1112, 91, 1147, 1100031] S (sv_sts (sv_sts (sv_sts S [68, 69, 70, 81, 82, 83, 84, 85, 86, 74, 78, 79, 80, 76, 77, 1100031] g4) [1143, 1144] g16) [1143, 1144] g22) := sv_mod.sts md20 (by decide)
        have h := h g22 hpo25
        refine sv_aload_n hM dX12_prepare_106 rfl rfl ?_
        refine sv_lload hM dX12_prepare_107 rfl rfl ?_
        refine sv_lload hM dX12_prepare_109 rfl rfl ?_
        refine sv_iload hM dX12_prepare_111 rfl rfl ?_
        obtain ⟨o27, h⟩ := h
        refine sv_callV hM dX12_prepare_113 sm_iv_1306 (by decide) (sm_a0 _) rfl rfl (Nat.le_of_ble_eq_true rfl) sm_h249 (Nat.le_of_ble_eq_true rfl) (Nat.le_of_ble_eq_true rfl) (F' := 3) (Nat.le_of_ble_eq_true rfl) rfl (t_readFrom l6_9 l8_10 (647750 : Int) (sv_sts (sv_sts (sv_sts S [68, 69, 70, 81, 82, 83, 84, 85, 86, 74, 78, 79, 80, 76, 77, 1100031] g4) [1143, 1144] g16) [1143, 1144] g22) ok23 hl6_9 hl8_10 (⟨by decide, by decide⟩ : sv_R (647750 : Int)) o27) (fun v S1 hq => ?_)
        obtain ⟨rfl, ok29, md30, hpo31⟩ := hq
        obtain ⟨g28, rfl⟩ : ∃ g, S1 = sv_sts (sv_sts (sv_sts (sv_sts S [68, 69, 70, 81, 82, 83, 84, 85, 86, 74, 78, 79, 80, 76, 77, 1100031] g4) [1143, 1144] g16) [1143, 1144] g22) [68, 69, 70, 1145] g := ⟨_, md30.eq⟩
        show sv_T sm_XS sm_cs sm_L sm_sh 4 (q_prepare p1 p3 p5 S) 283 116 [(0, .ref 0), (1, sv_L p1), (3, sv_L p3), (5, sv_I p5), (6, sv_L l6_9), (8, sv_L l8_10), (10, sv_I (647750 : Int))] [] (sv_sts (sv_sts (sv_sts (sv_sts S [68, 69, 70, 81, 82, 83, 84, 85, 86, 74, 78, 79, 80, 76, 77, 1100031] g4) [1143, 1144] g16) [1143, 1144] g22) [68, 69, 70, 1145] g28)
        have md32 : sv_mod [68, 69, 70, 81, 82, 83, 84, 85, 86, 71, 74, 75, 1127, 78, 79, 80, 72, 76, 77, 1143, 1144, 5, 1011, 1150, 1149, 1145, 1113, 1111, 1112, 91, 1147, 1100031] S (sv_sts (sv_sts (sv_sts (sv_sts S [68, 69, 70, 81, 82, 83, 84, 85, 86, 74, 78, 79, 80, 76, 77, 1100031] g4) [1143, 1144] g16) [1143, 1144] g22) [68, 69, 70, 1145] g28) := sv_mod.sts md26 (by decide)
        have h := h g28 hpo31
        refine sv_aload_n hM dX12_prepare_116 rfl rfl ?_
        have k33 : (0 ≤ (g28 1145 0) ∧ (g28 1145 0) ≤ 1) := sm_okZ ok29 sm_r1145 0
        have h := h k33
        refine sv_getI hM dX12_prepare_117 sm_fl_1156 (sm_a0 _) sm_k145 rfl (x := (g28 1145 0)) rfl ?_
        refine sv_cond_ne hM dX12_prepare_120 (sv_R01 k33) (t := 132) rfl rfl (fun hc => ?_) (fun hc => ?_)
        · have h := h.1 (hc)
          refine sv_iconst (d := (1 : Int)) hM dX12_prepare_132 rfl rfl ?_
          refine sv_goto hM dX12_prepare_133 (pc' := 137) rfl ?_
          refine sv_istore hM dX12_prepare_137 (by decide) rfl ?_
          show sv_T sm_XS sm_cs sm_L sm_sh 4 (q_prepare p1 p3 p5 S) 283 139 [(0, .ref 0), (1, sv_L p1), (3, sv_L p3), (5, sv_I p5), (6, sv_L l6_9), (8, sv_L l8_10), (10, sv_I (647750 : Int)), (11, sv_I (1 : Int))] [] (sv_sts (sv_sts (sv_sts (sv_sts S [68, 69, 70, 81, 82, 83, 84, 85, 86, 74, 78, 79, 80, 76, 77, 1100031] g4) [1143, 1144] g16) [1143, 1144] g22) [68, 69, 70, 1145] g28)
          refine sv_aload_n hM dX12_prepare_139 rfl rfl ?_
          refine sv_getA hM dX12_prepare_140 sm_fl_286 (sm_a0 _) sm_k146 rfl ?_
          refine sv_iconst (d := (0 : Int)) hM dX12_prepare_143 rfl rfl ?_
          refine sv_iload hM dX12_prepare_144 rfl rfl ?_
          obtain ⟨o34, h⟩ := h
          refine sv_iast sm_X hM dX12_prepare_146 (sm_a91 _) (by decide) o34.1 o34.2 rfl ?_
          have ok35 : sm_ok (sv_up (sv_sts (sv_sts (sv_sts (sv_sts S [68, 69, 70, 81, 82, 83, 84, 85, 86, 74, 78, 79, 80, 76, 77, 1100031] g4) [1143, 1144] g16) [1143, 1144] g22) [68, 69, 70, 1145] g28) 91 (0 : Int) (647750 : Int)) := sm_upI ok29 sm_r91 (⟨by decide, by decide⟩ : sv_R (647750 : Int))
          have md36 : sv_mod [68, 69, 70, 81, 82, 83, 84, 85, 86, 71, 74, 75, 1127, 78, 79, 80, 72, 76, 77, 1143, 1144, 5, 1011, 1150, 1149, 1145, 1113, 1111, 1112, 91, 1147, 1100031] S (sv_up (sv_sts (sv_sts (sv_sts (sv_sts S [68, 69, 70, 81, 82, 83, 84, 85, 86, 74, 78, 79, 80, 76, 77, 1100031] g4) [1143, 1144] g16) [1143, 1144] g22) [68, 69, 70, 1145] g28) 91 (0 : Int) (647750 : Int)) := sv_mod.up md32 (by decide)
          refine sv_aload_n hM dX12_prepare_147 rfl rfl ?_
          refine sv_iconst (d := (1 : Int)) hM dX12_prepare_148 rfl rfl ?_
          refine sv_putI sm_X hM dX12_prepare_149 sm_fp_1178 (sm_a0 _) sm_q147 (Or.inl rfl) rfl rfl rfl rfl ?_
          have ok37 : sm_ok (sv_up (sv_up (sv_sts (sv_sts (sv_sts (sv_sts S [68, 69, 70, 81, 82, 83, 84, 85, 86, 74, 78, 79, 80, 76, 77, 1100031] g4) [1143, 1144] g16) [1143, 1144] g22) [68, 69, 70, 1145] g28) 91 (0 : Int) (647750 : Int)) 1147 0 (1 : Int)) := sm_upI ok35 sm_r1147 (⟨by decide, by decide⟩ : sv_R (1 : Int))
          have md38 : sv_mod [68, 69, 70, 81, 82, 83, 84, 85, 86, 71, 74, 75, 1127, 78, 79, 80, 72, 76, 77, 1143, 1144, 5, 1011, 1150, 1149, 1145, 1113, 1111, 1112, 91, 1147, 1100031] S (sv_up (sv_up (sv_sts (sv_sts (sv_sts (sv_sts S [68, 69, 70, 81, 82, 83, 84, 85, 86, 74, 78, 79, 80, 76, 77, 1100031] g4) [1143, 1144] g16) [1143, 1144] g22) [68, 69, 70, 1145] g28) 91 (0 : Int) (647750 : Int)) 1147 0 (1 : Int)) := sv_mod.up md36 (by decide)
          refine sv_aload_n hM dX12_prepare_152 rfl rfl ?_
          refine sv_aload_n hM dX12_prepare_153 rfl rfl ?_
          refine sv_iload hM dX12_prepare_154 rfl rfl ?_
          obtain ⟨o39, h⟩ := h
          refine sv_callV hM dX12_prepare_156 sm_iv_920 (by decide) (sm_a0 _) rfl rfl (Nat.le_of_ble_eq_true rfl) sm_h166 (Nat.le_of_ble_eq_true rfl) (Nat.le_of_ble_eq_true rfl) (F' := 0) (Nat.le_of_ble_eq_true rfl) rfl (t_siteLabel p5 (sv_up (sv_up (sv_sts (sv_sts (sv_sts (sv_sts S [68, 69, 70, 81, 82, 83, 84, 85, 86, 74, 78, 79, 80, 76, 77, 1100031] g4) [1143, 1144] g16) [1143, 1144] g22) [68, 69, 70, 1145] g28) 91 (0 : Int) (647750 : Int)) 1147 0 (1 : Int)) ok37 hp5 o39) (fun v S1 hq => ?_)
          obtain ⟨r44, rfl, hr44, ok41, md42, hpo43⟩ := hq
          obtain rfl : (sv_up (sv_up (sv_sts (sv_sts (sv_sts (sv_sts S [68, 69, 70, 81, 82, 83, 84, 85, 86, 74, 78, 79, 80, 76, 77, 1100031] g4) [1143, 1144] g16) [1143, 1144] g22) [68, 69, 70, 1145] g28) 91 (0 : Int) (647750 : Int)) 1147 0 (1 : Int)) = S1 := (funext fun j => md42 j (by intro q; cases q)).symm
          show sv_T sm_XS sm_cs sm_L sm_sh 4 (q_prepare p1 p3 p5 S) 283 159 [(0, .ref 0), (1, sv_L p1), (3, sv_L p3), (5, sv_I p5), (6, sv_L l6_9), (8, sv_L l8_10), (10, sv_I (647750 : Int)), (11, sv_I (1 : Int))] [sv_I r44, .ref 0] (sv_up (sv_up (sv_sts (sv_sts (sv_sts (sv_sts S [68, 69, 70, 81, 82, 83, 84, 85, 86, 74, 78, 79, 80, 76, 77, 1100031] g4) [1143, 1144] g16) [1143, 1144] g22) [68, 69, 70, 1145] g28) 91 (0 : Int) (647750 : Int)) 1147 0 (1 : Int))
          have h := h r44 hr44 hpo43
          refine sv_iconst (d := (1 : Int)) hM dX12_prepare_159 rfl rfl ?_
          obtain ⟨o45, h⟩ := h
          refine sv_callV hM dX12_prepare_160 sm_iv_1241 (by decide) (sm_a0 _) rfl rfl (Nat.le_of_ble_eq_true rfl) sm_h256 (Nat.le_of_ble_eq_true rfl) (Nat.le_of_ble_eq_true rfl) (F' := 3) (Nat.le_of_ble_eq_true rfl) rfl (t_make r44 (1 : Int) (sv_up (sv_up (sv_sts (sv_sts (sv_sts (sv_sts S [68, 69, 70, 81, 82, 83, 84, 85, 86, 74, 78, 79, 80, 76, 77, 1100031] g4) [1143, 1144] g16) [1143, 1144] g22) [68, 69, 70, 1145] g28) 91 (0 : Int) (647750 : Int)) 1147 0 (1 : Int)) ok41 hr44 (⟨by decide, by decide⟩ : sv_R (1 : Int)) o45) (fun v S1 hq => ?_)
          obtain ⟨rfl, ok47, md48, hpo49⟩ := hq
          obtain ⟨g46, rfl⟩ : ∃ g, S1 = sv_sts (sv_up (sv_up (sv_sts (sv_sts (sv_sts (sv_sts S [68, 69, 70, 81, 82, 83, 84, 85, 86, 74, 78, 79, 80, 76, 77, 1100031] g4) [1143, 1144] g16) [1143, 1144] g22) [68, 69, 70, 1145] g28) 91 (0 : Int) (647750 : Int)) 1147 0 (1 : Int)) [68, 69, 70, 81, 82, 83, 84, 85, 86, 76, 77] g := ⟨_, md48.eq⟩
          show sv_T sm_XS sm_cs sm_L sm_sh 4 (q_prepare p1 p3 p5 S) 283 163 [(0, .ref 0), (1, sv_L p1), (3, sv_L p3), (5, sv_I p5), (6, sv_L l6_9), (8, sv_L l8_10), (10, sv_I (647750 : Int)), (11, sv_I (1 : Int))] [] (sv_sts (sv_up (sv_up (sv_sts (sv_sts (sv_sts (sv_sts S [68, 69, 70, 81, 82, 83, 84, 85, 86, 74, 78, 79, 80, 76, 77, 1100031] g4) [1143, 1144] g16) [1143, 1144] g22) [68, 69, 70, 1145] g28) 91 (0 : Int) (647750 : Int)) 1147 0 (1 : Int)) [68, 69, 70, 81, 82, 83, 84, 85, 86, 76, 77] g46)
          have md50 : sv_mod [68, 69, 70, 81, 82, 83, 84, 85, 86, 71, 74, 75, 1127, 78, 79, 80, 72, 76, 77, 1143, 1144, 5, 1011, 1150, 1149, 1145, 1113, 1111, 1112, 91, 1147, 1100031] S (sv_sts (sv_up (sv_up (sv_sts (sv_sts (sv_sts (sv_sts S [68, 69, 70, 81, 82, 83, 84, 85, 86, 74, 78, 79, 80, 76, 77, 1100031] g4) [1143, 1144] g16) [1143, 1144] g22) [68, 69, 70, 1145] g28) 91 (0 : Int) (647750 : Int)) 1147 0 (1 : Int)) [68, 69, 70, 81, 82, 83, 84, 85, 86, 76, 77] g46) := sv_mod.sts md38 (by decide)
          have h := h g46 hpo49
          refine sv_aload_n hM dX12_prepare_163 rfl rfl ?_
          refine sv_iconst (d := (0 : Int)) hM dX12_prepare_164 rfl rfl ?_
          refine sv_putI sm_X hM dX12_prepare_165 sm_fp_1178 (sm_a0 _) sm_q147 (Or.inl rfl) rfl rfl rfl rfl ?_
          have ok51 : sm_ok (sv_up (sv_sts (sv_up (sv_up (sv_sts (sv_sts (sv_sts (sv_sts S [68, 69, 70, 81, 82, 83, 84, 85, 86, 74, 78, 79, 80, 76, 77, 1100031] g4) [1143, 1144] g16) [1143, 1144] g22) [68, 69, 70, 1145] g28) 91 (0 : Int) (647750 : Int)) 1147 0 (1 : Int)) [68, 69, 70, 81, 82, 83, 84, 85, 86, 76, 77] g46) 1147 0 (0 : Int)) := sm_upI ok47 sm_r1147 (⟨by decide, by decide⟩ : sv_R (0 : Int))
          have md52 : sv_mod [68, 69, 70, 81, 82, 83, 84, 85, 86, 71, 74, 75, 1127, 78, 79, 80, 72, 76, 77, 1143, 1144, 5, 1011, 1150, 1149, 1145, 1113, 1111, 1112, 91, 1147, 1100031] S (sv_up (sv_sts (sv_up (sv_up (sv_sts (sv_sts (sv_sts (sv_sts S [68, 69, 70, 81, 82, 83, 84, 85, 86, 74, 78, 79, 80, 76, 77, 1100031] g4) [1143, 1144] g16) [1143, 1144] g22) [68, 69, 70, 1145] g28) 91 (0 : Int) (647750 : Int)) 1147 0 (1 : Int)) [68, 69, 70, 81, 82, 83, 84, 85, 86, 76, 77] g46) 1147 0 (0 : Int)) := sv_mod.up md50 (by decide)
          refine sv_aload_n hM dX12_prepare_168 rfl rfl ?_
          refine sv_sipush (d := (639 : Int)) hM dX12_prepare_169 rfl rfl ?_
          refine sv_aload_n hM dX12_prepare_172 rfl rfl ?_
          refine sv_iload hM dX12_prepare_173 rfl rfl ?_
          refine sv_callV hM dX12_prepare_175 sm_iv_920 (by decide) (sm_a0 _) rfl rfl (Nat.le_of_ble_eq_true rfl) sm_h166 (Nat.le_of_ble_eq_true rfl) (Nat.le_of_ble_eq_true rfl) (F' := 0) (Nat.le_of_ble_eq_true rfl) rfl (t_siteLabel p5 (sv_up (sv_sts (sv_up (sv_up (sv_sts (sv_sts (sv_sts (sv_sts S [68, 69, 70, 81, 82, 83, 84, 85, 86, 74, 78, 79, 80, 76, 77, 1100031] g4) [1143, 1144] g16) [1143, 1144] g22) [68, 69, 70, 1145] g28) 91 (0 : Int) (647750 : Int)) 1147 0 (1 : Int)) [68, 69, 70, 81, 82, 83, 84, 85, 86, 76, 77] g46) 1147 0 (0 : Int)) ok51 hp5 o39) (fun v S1 hq => ?_)
          obtain ⟨r57, rfl, hr57, ok54, md55, hpo56⟩ := hq
          obtain rfl : (sv_up (sv_sts (sv_up (sv_up (sv_sts (sv_sts (sv_sts (sv_sts S [68, 69, 70, 81, 82, 83, 84, 85, 86, 74, 78, 79, 80, 76, 77, 1100031] g4) [1143, 1144] g16) [1143, 1144] g22) [68, 69, 70, 1145] g28) 91 (0 : Int) (647750 : Int)) 1147 0 (1 : Int)) [68, 69, 70, 81, 82, 83, 84, 85, 86, 76, 77] g46) 1147 0 (0 : Int)) = S1 := (funext fun j => md55 j (by intro q; cases q)).symm
          show sv_T sm_XS sm_cs sm_L sm_sh 4 (q_prepare p1 p3 p5 S) 283 178 [(0, .ref 0), (1, sv_L p1), (3, sv_L p3), (5, sv_I p5), (6, sv_L l6_9), (8, sv_L l8_10), (10, sv_I (647750 : Int)), (11, sv_I (1 : Int))] [sv_I r57, sv_I (639 : Int), .ref 0] (sv_up (sv_sts (sv_up (sv_up (sv_sts (sv_sts (sv_sts (sv_sts S [68, 69, 70, 81, 82, 83, 84, 85, 86, 74, 78, 79, 80, 76, 77, 1100031] g4) [1143, 1144] g16) [1143, 1144] g22) [68, 69, 70, 1145] g28) 91 (0 : Int) (647750 : Int)) 1147 0 (1 : Int)) [68, 69, 70, 81, 82, 83, 84, 85, 86, 76, 77] g46) 1147 0 (0 : Int))
          have h := h r57 hr57 hpo56
          obtain ⟨o58, h⟩ := h
          refine sv_callV hM dX12_prepare_178 sm_iv_1101 (by decide) (sm_a0 _) rfl rfl (Nat.le_of_ble_eq_true rfl) sm_h226 (Nat.le_of_ble_eq_true rfl) (Nat.le_of_ble_eq_true rfl) (F' := 1) (Nat.le_of_ble_eq_true rfl) rfl (t_of (639 : Int) r57 (sv_up (sv_sts (sv_up (sv_up (sv_sts (sv_sts (sv_sts (sv_sts S [68, 69, 70, 81, 82, 83, 84, 85, 86, 74, 78, 79, 80, 76, 77, 1100031] g4) [1143, 1144] g16) [1143, 1144] g22) [68, 69, 70, 1145] g28) 91 (0 : Int) (647750 : Int)) 1147 0 (1 : Int)) [68, 69, 70, 81, 82, 83, 84, 85, 86, 76, 77] g46) 1147 0 (0 : Int)) ok54 (⟨by decide, by decide⟩ : sv_R (639 : Int)) hr57 o58) (fun v S1 hq => ?_)
          obtain ⟨r63, rfl, hr63, ok60, md61, hpo62⟩ := hq
          obtain rfl : (sv_up (sv_sts (sv_up (sv_up (sv_sts (sv_sts (sv_sts (sv_sts S [68, 69, 70, 81, 82, 83, 84, 85, 86, 74, 78, 79, 80, 76, 77, 1100031] g4) [1143, 1144] g16) [1143, 1144] g22) [68, 69, 70, 1145] g28) 91 (0 : Int) (647750 : Int)) 1147 0 (1 : Int)) [68, 69, 70, 81, 82, 83, 84, 85, 86, 76, 77] g46) 1147 0 (0 : Int)) = S1 := (funext fun j => md61 j (by intro q; cases q)).symm
          show sv_T sm_XS sm_cs sm_L sm_sh 4 (q_prepare p1 p3 p5 S) 283 181 [(0, .ref 0), (1, sv_L p1), (3, sv_L p3), (5, sv_I p5), (6, sv_L l6_9), (8, sv_L l8_10), (10, sv_I (647750 : Int)), (11, sv_I (1 : Int))] [sv_I r63] (sv_up (sv_sts (sv_up (sv_up (sv_sts (sv_sts (sv_sts (sv_sts S [68, 69, 70, 81, 82, 83, 84, 85, 86, 74, 78, 79, 80, 76, 77, 1100031] g4) [1143, 1144] g16) [1143, 1144] g22) [68, 69, 70, 1145] g28) 91 (0 : Int) (647750 : Int)) 1147 0 (1 : Int)) [68, 69, 70, 81, 82, 83, 84, 85, 86, 76, 77] g46) 1147 0 (0 : Int))
          have h := h r63 hr63 hpo62
          refine sv_istore hM dX12_prepare_181 (by decide) rfl ?_
          show sv_T sm_XS sm_cs sm_L sm_sh 4 (q_prepare p1 p3 p5 S) 283 183 [(0, .ref 0), (1, sv_L p1), (3, sv_L p3), (5, sv_I p5), (6, sv_L l6_9), (8, sv_L l8_10), (10, sv_I (647750 : Int)), (11, sv_I (1 : Int)), (12, sv_I r63)] [] (sv_up (sv_sts (sv_up (sv_up (sv_sts (sv_sts (sv_sts (sv_sts S [68, 69, 70, 81, 82, 83, 84, 85, 86, 74, 78, 79, 80, 76, 77, 1100031] g4) [1143, 1144] g16) [1143, 1144] g22) [68, 69, 70, 1145] g28) 91 (0 : Int) (647750 : Int)) 1147 0 (1 : Int)) [68, 69, 70, 81, 82, 83, 84, 85, 86, 76, 77] g46) 1147 0 (0 : Int))
          refine sv_aload_n hM dX12_prepare_183 rfl rfl ?_
          refine sv_getA hM dX12_prepare_184 sm_fl_262 (sm_a0 _) sm_k135 rfl ?_
          refine sv_iload hM dX12_prepare_187 rfl rfl ?_
          refine sv_aload_n hM dX12_prepare_189 rfl rfl ?_
          refine sv_getA hM dX12_prepare_190 sm_fl_220 (sm_a0 _) sm_k117 rfl ?_
          refine sv_iload hM dX12_prepare_193 rfl rfl ?_
          obtain ⟨o64, h⟩ := h
          have k65 : sv_RL (g46 69 (647750 : Int)) := sm_okJ ok60 sm_r69 (647750 : Int)
          have h := h k65
          refine sv_lald hM dX12_prepare_195 (sm_a69 _) (by decide) o64.1 o64.2 rfl (x := (g46 69 (647750 : Int))) rfl ?_
          refine sv_iload hM dX12_prepare_196 rfl rfl ?_
          refine sv_cond_eq hM dX12_prepare_198 (⟨by decide, by decide⟩ : sv_R (1 : Int)) (t := 207) rfl rfl (fun hc => ?_) (fun hc => ?_)
          · have h := h.1 (hc)
            refine sv_lconst (d := (0 : Int)) hM dX12_prepare_207 rfl rfl ?_
            refine sv_anyL hM dX12_prepare_208 rfl rfl (fun r66 hr66 _ => ?_)
            have h := h r66 hr66
            obtain ⟨o67, h⟩ := h
            refine sv_last sm_X hM dX12_prepare_209 (sm_a83 _) (by decide) o67.1 o67.2 rfl ?_
            have ok68 : sm_ok (sv_up (sv_up (sv_sts (sv_up (sv_up (sv_sts (sv_sts (sv_sts (sv_sts S [68, 69, 70, 81, 82, 83, 84, 85, 86, 74, 78, 79, 80, 76, 77, 1100031] g4) [1143, 1144] g16) [1143, 1144] g22) [68, 69, 70, 1145] g28) 91 (0 : Int) (647750 : Int)) 1147 0 (1 : Int)) [68, 69, 70, 81, 82, 83, 84, 85, 86, 76, 77] g46) 1147 0 (0 : Int)) 83 r63 r66) := sm_upJ ok60 sm_r83 hr66
            have md69 : sv_mod [68, 69, 70, 81, 82, 83, 84, 85, 86, 71, 74, 75, 1127, 78, 79, 80, 72, 76, 77, 1143, 1144, 5, 1011, 1150, 1149, 1145, 1113, 1111, 1112, 91, 1147, 1100031] S (sv_up (sv_up (sv_sts (sv_up (sv_up (sv_sts (sv_sts (sv_sts (sv_sts S [68, 69, 70, 81, 82, 83, 84, 85, 86, 74, 78, 79, 80, 76, 77, 1100031] g4) [1143, 1144] g16) [1143, 1144] g22) [68, 69, 70, 1145] g28) 91 (0 : Int) (647750 : Int)) 1147 0 (1 : Int)) [68, 69, 70, 81, 82, 83, 84, 85, 86, 76, 77] g46) 1147 0 (0 : Int)) 83 r63 r66) := sv_mod.up md52 (by decide)
            refine sv_aload_n hM dX12_prepare_210 rfl rfl ?_
            refine sv_getA hM dX12_prepare_211 sm_fl_265 (sm_a0 _) sm_k136 rfl ?_
            refine sv_iload hM dX12_prepare_214 rfl rfl ?_
            refine sv_aload_n hM dX12_prepare_216 rfl rfl ?_
            refine sv_getA hM dX12_prepare_217 sm_fl_223 (sm_a0 _) sm_k118 rfl ?_
            refine sv_iload hM dX12_prepare_220 rfl rfl ?_
            have k70 : sv_RL (g46 70 (647750 : Int)) := sm_okJ ok68 sm_r70 (647750 : Int)
            have h := h k70
            refine sv_lald hM dX12_prepare_222 (sm_a70 _) (by decide) o64.1 o64.2 rfl (x := (g46 70 (647750 : Int))) rfl ?_
            refine sv_last sm_X hM dX12_prepare_223 (sm_a84 _) (by decide) o67.1 o67.2 rfl ?_
            have ok71 : sm_ok (sv_up (sv_up (sv_up (sv_sts (sv_up (sv_up (sv_sts (sv_sts (sv_sts (sv_sts S [68, 69, 70, 81, 82, 83, 84, 85, 86, 74, 78, 79, 80, 76, 77, 1100031] g4) [1143, 1144] g16) [1143, 1144] g22) [68, 69, 70, 1145] g28) 91 (0 : Int) (647750 : Int)) 1147 0 (1 : Int)) [68, 69, 70, 81, 82, 83, 84, 85, 86, 76, 77] g46) 1147 0 (0 : Int)) 83 r63 r66) 84 r63 (g46 70 (647750 : Int))) := sm_upJ ok68 sm_r84 k70
            have md72 : sv_mod [68, 69, 70, 81, 82, 83, 84, 85, 86, 71, 74, 75, 1127, 78, 79, 80, 72, 76, 77, 1143, 1144, 5, 1011, 1150, 1149, 1145, 1113, 1111, 1112, 91, 1147, 1100031] S (sv_up (sv_up (sv_up (sv_sts (sv_up (sv_up (sv_sts (sv_sts (sv_sts (sv_sts S [68, 69, 70, 81, 82, 83, 84, 85, 86, 74, 78, 79, 80, 76, 77, 1100031] g4) [1143, 1144] g16) [1143, 1144] g22) [68, 69, 70, 1145] g28) 91 (0 : Int) (647750 : Int)) 1147 0 (1 : Int)) [68, 69, 70, 81, 82, 83, 84, 85, 86, 76, 77] g46) 1147 0 (0 : Int)) 83 r63 r66) 84 r63 (g46 70 (647750 : Int))) := sv_mod.up md69 (by decide)
            exact sv_vret hM dX12_prepare_224 rfl ⟨rfl, ok71, md72, h⟩
          · have h := h.2 (hc)
            refine sv_ldc2_w (d := (2 : Int)) hM dX12_prepare_201 sm_ck_1340 rfl rfl ?_
            refine sv_goto hM dX12_prepare_204 (pc' := 208) rfl ?_
            refine sv_anyL hM dX12_prepare_208 rfl rfl (fun r73 hr73 _ => ?_)
            have h := h r73 hr73
            obtain ⟨o74, h⟩ := h
            refine sv_last sm_X hM dX12_prepare_209 (sm_a83 _) (by decide) o74.1 o74.2 rfl ?_
            have ok75 : sm_ok (sv_up (sv_up (sv_sts (sv_up (sv_up (sv_sts (sv_sts (sv_sts (sv_sts S [68, 69, 70, 81, 82, 83, 84, 85, 86, 74, 78, 79, 80, 76, 77, 1100031] g4) [1143, 1144] g16) [1143, 1144] g22) [68, 69, 70, 1145] g28) 91 (0 : Int) (647750 : Int)) 1147 0 (1 : Int)) [68, 69, 70, 81, 82, 83, 84, 85, 86, 76, 77] g46) 1147 0 (0 : Int)) 83 r63 r73) := sm_upJ ok60 sm_r83 hr73
            have md76 : sv_mod [68, 69, 70, 81, 82, 83, 84, 85, 86, 71, 74, 75, 1127, 78, 79, 80, 72, 76, 77, 1143, 1144, 5, 1011, 1150, 1149, 1145, 1113, 1111, 1112, 91, 1147, 1100031] S (sv_up (sv_up (sv_sts (sv_up (sv_up (sv_sts (sv_sts (sv_sts (sv_sts S [68, 69, 70, 81, 82, 83, 84, 85, 86, 74, 78, 79, 80, 76, 77, 1100031] g4) [1143, 1144] g16) [1143, 1144] g22) [68, 69, 70, 1145] g28) 91 (0 : Int) (647750 : Int)) 1147 0 (1 : Int)) [68, 69, 70, 81, 82, 83, 84, 85, 86, 76, 77] g46) 1147 0 (0 : Int)) 83 r63 r73) := sv_mod.up md52 (by decide)
            refine sv_aload_n hM dX12_prepare_210 rfl rfl ?_
            refine sv_getA hM dX12_prepare_211 sm_fl_265 (sm_a0 _) sm_k136 rfl ?_
            refine sv_iload hM dX12_prepare_214 rfl rfl ?_
            refine sv_aload_n hM dX12_prepare_216 rfl rfl ?_
            refine sv_getA hM dX12_prepare_217 sm_fl_223 (sm_a0 _) sm_k118 rfl ?_
            refine sv_iload hM dX12_prepare_220 rfl rfl ?_
            have k77 : sv_RL (g46 70 (647750 : Int)) := sm_okJ ok75 sm_r70 (647750 : Int)
            have h := h k77
            refine sv_lald hM dX12_prepare_222 (sm_a70 _) (by decide) o64.1 o64.2 rfl (x := (g46 70 (647750 : Int))) rfl ?_
            refine sv_last sm_X hM dX12_prepare_223 (sm_a84 _) (by decide) o74.1 o74.2 rfl ?_
            have ok78 : sm_ok (sv_up (sv_up (sv_up (sv_sts (sv_up (sv_up (sv_sts (sv_sts (sv_sts (sv_sts S [68, 69, 70, 81, 82, 83, 84, 85, 86, 74, 78, 79, 80, 76, 77, 1100031] g4) [1143, 1144] g16) [1143, 1144] g22) [68, 69, 70, 1145] g28) 91 (0 : Int) (647750 : Int)) 1147 0 (1 : Int)) [68, 69, 70, 81, 82, 83, 84, 85, 86, 76, 77] g46) 1147 0 (0 : Int)) 83 r63 r73) 84 r63 (g46 70 (647750 : Int))) := sm_upJ ok75 sm_r84 k77
            have md79 : sv_mod [68, 69, 70, 81, 82, 83, 84, 85, 86, 71, 74, 75, 1127, 78, 79, 80, 72, 76, 77, 1143, 1144, 5, 1011, 1150, 1149, 1145, 1113, 1111, 1112, 91, 1147, 1100031] S (sv_up (sv_up (sv_up (sv_sts (sv_up (sv_up (sv_sts (sv_sts (sv_sts (sv_sts S [68, 69, 70, 81, 82, 83, 84, 85, 86, 74, 78, 79, 80, 76, 77, 1100031] g4) [1143, 1144] g16) [1143, 1144] g22) [68, 69, 70, 1145] g28) 91 (0 : Int) (647750 : Int)) 1147 0 (1 : Int)) [68, 69, 70, 81, 82, 83, 84, 85, 86, 76, 77] g46) 1147 0 (0 : Int)) 83 r63 r73) 84 r63 (g46 70 (647750 : Int))) := sv_mod.up md76 (by decide)
            exact sv_vret hM dX12_prepare_224 rfl ⟨rfl, ok78, md79, h⟩
        · have h := h.2 (hc)
          refine sv_aload_n hM dX12_prepare_123 rfl rfl ?_
          refine sv_iload hM dX12_prepare_124 rfl rfl ?_
          obtain ⟨o80, h⟩ := h
          refine sv_callV hM dX12_prepare_126 sm_iv_1059 (by decide) (sm_a0 _) rfl rfl (Nat.le_of_ble_eq_true rfl) sm_h210 (Nat.le_of_ble_eq_true rfl) (Nat.le_of_ble_eq_true rfl) (F' := 1) (Nat.le_of_ble_eq_true rfl) rfl (t_plainly (647750 : Int) (sv_sts (sv_sts (sv_sts (sv_sts S [68, 69, 70, 81, 82, 83, 84, 85, 86, 74, 78, 79, 80, 76, 77, 1100031] g4) [1143, 1144] g16) [1143, 1144] g22) [68, 69, 70, 1145] g28) ok29 (⟨by decide, by decide⟩ : sv_R (647750 : Int)) o80) (fun v S1 hq => ?_)
          obtain ⟨r85, rfl, hr85, ok82, md83, hpo84⟩ := hq
          obtain rfl : (sv_sts (sv_sts (sv_sts (sv_sts S [68, 69, 70, 81, 82, 83, 84, 85, 86, 74, 78, 79, 80, 76, 77, 1100031] g4) [1143, 1144] g16) [1143, 1144] g22) [68, 69, 70, 1145] g28) = S1 := (funext fun j => md83 j (by intro q; cases q)).symm
          show sv_T sm_XS sm_cs sm_L sm_sh 4 (q_prepare p1 p3 p5 S) 283 129 [(0, .ref 0), (1, sv_L p1), (3, sv_L p3), (5, sv_I p5), (6, sv_L l6_9), (8, sv_L l8_10), (10, sv_I (647750 : Int))] [sv_I r85] (sv_sts (sv_sts (sv_sts (sv_sts S [68, 69, 70, 81, 82, 83, 84, 85, 86, 74, 78, 79, 80, 76, 77, 1100031] g4) [1143, 1144] g16) [1143, 1144] g22) [68, 69, 70, 1145] g28)
          have h := h r85 hr85 hpo84
          refine sv_cond_eq hM dX12_prepare_129 hr85 (t := 136) rfl rfl (fun hc => ?_) (fun hc => ?_)
          · have h := h.1 (hc)
            refine sv_iconst (d := (0 : Int)) hM dX12_prepare_136 rfl rfl ?_
            refine sv_istore hM dX12_prepare_137 (by decide) rfl ?_
            show sv_T sm_XS sm_cs sm_L sm_sh 4 (q_prepare p1 p3 p5 S) 283 139 [(0, .ref 0), (1, sv_L p1), (3, sv_L p3), (5, sv_I p5), (6, sv_L l6_9), (8, sv_L l8_10), (10, sv_I (647750 : Int)), (11, sv_I (0 : Int))] [] (sv_sts (sv_sts (sv_sts (sv_sts S [68, 69, 70, 81, 82, 83, 84, 85, 86, 74, 78, 79, 80, 76, 77, 1100031] g4) [1143, 1144] g16) [1143, 1144] g22) [68, 69, 70, 1145] g28)
            refine sv_aload_n hM dX12_prepare_139 rfl rfl ?_
            refine sv_getA hM dX12_prepare_140 sm_fl_286 (sm_a0 _) sm_k146 rfl ?_
            refine sv_iconst (d := (0 : Int)) hM dX12_prepare_143 rfl rfl ?_
            refine sv_iload hM dX12_prepare_144 rfl rfl ?_
            obtain ⟨o86, h⟩ := h
            refine sv_iast sm_X hM dX12_prepare_146 (sm_a91 _) (by decide) o86.1 o86.2 rfl ?_
            have ok87 : sm_ok (sv_up (sv_sts (sv_sts (sv_sts (sv_sts S [68, 69, 70, 81, 82, 83, 84, 85, 86, 74, 78, 79, 80, 76, 77, 1100031] g4) [1143, 1144] g16) [1143, 1144] g22) [68, 69, 70, 1145] g28) 91 (0 : Int) (647750 : Int)) := sm_upI ok82 sm_r91 (⟨by decide, by decide⟩ : sv_R (647750 : Int))
            have md88 : sv_mod [68, 69, 70, 81, 82, 83, 84, 85, 86, 71, 74, 75, 1127, 78, 79, 80, 72, 76, 77, 1143, 1144, 5, 1011, 1150, 1149, 1145, 1113, 1111, 1112, 91, 1147, 1100031] S (sv_up (sv_sts (sv_sts (sv_sts (sv_sts S [68, 69, 70, 81, 82, 83, 84, 85, 86, 74, 78, 79, 80, 76, 77, 1100031] g4) [1143, 1144] g16) [1143, 1144] g22) [68, 69, 70, 1145] g28) 91 (0 : Int) (647750 : Int)) := sv_mod.up md32 (by decide)
            refine sv_aload_n hM dX12_prepare_147 rfl rfl ?_
            refine sv_iconst (d := (1 : Int)) hM dX12_prepare_148 rfl rfl ?_
            refine sv_putI sm_X hM dX12_prepare_149 sm_fp_1178 (sm_a0 _) sm_q147 (Or.inl rfl) rfl rfl rfl rfl ?_
            have ok89 : sm_ok (sv_up (sv_up (sv_sts (sv_sts (sv_sts (sv_sts S [68, 69, 70, 81, 82, 83, 84, 85, 86, 74, 78, 79, 80, 76, 77, 1100031] g4) [1143, 1144] g16) [1143, 1144] g22) [68, 69, 70, 1145] g28) 91 (0 : Int) (647750 : Int)) 1147 0 (1 : Int)) := sm_upI ok87 sm_r1147 (⟨by decide, by decide⟩ : sv_R (1 : Int))
            have md90 : sv_mod [68, 69, 70, 81, 82, 83, 84, 85, 86, 71, 74, 75, 1127, 78, 79, 80, 72, 76, 77, 1143, 1144, 5, 1011, 1150, 1149, 1145, 1113, 1111, 1112, 91, 1147, 1100031] S (sv_up (sv_up (sv_sts (sv_sts (sv_sts (sv_sts S [68, 69, 70, 81, 82, 83, 84, 85, 86, 74, 78, 79, 80, 76, 77, 1100031] g4) [1143, 1144] g16) [1143, 1144] g22) [68, 69, 70, 1145] g28) 91 (0 : Int) (647750 : Int)) 1147 0 (1 : Int)) := sv_mod.up md88 (by decide)
            refine sv_aload_n hM dX12_prepare_152 rfl rfl ?_
            refine sv_aload_n hM dX12_prepare_153 rfl rfl ?_
            refine sv_iload hM dX12_prepare_154 rfl rfl ?_
            obtain ⟨o91, h⟩ := h
            refine sv_callV hM dX12_prepare_156 sm_iv_920 (by decide) (sm_a0 _) rfl rfl (Nat.le_of_ble_eq_true rfl) sm_h166 (Nat.le_of_ble_eq_true rfl) (Nat.le_of_ble_eq_true rfl) (F' := 0) (Nat.le_of_ble_eq_true rfl) rfl (t_siteLabel p5 (sv_up (sv_up (sv_sts (sv_sts (sv_sts (sv_sts S [68, 69, 70, 81, 82, 83, 84, 85, 86, 74, 78, 79, 80, 76, 77, 1100031] g4) [1143, 1144] g16) [1143, 1144] g22) [68, 69, 70, 1145] g28) 91 (0 : Int) (647750 : Int)) 1147 0 (1 : Int)) ok89 hp5 o91) (fun v S1 hq => ?_)
            obtain ⟨r96, rfl, hr96, ok93, md94, hpo95⟩ := hq
            obtain rfl : (sv_up (sv_up (sv_sts (sv_sts (sv_sts (sv_sts S [68, 69, 70, 81, 82, 83, 84, 85, 86, 74, 78, 79, 80, 76, 77, 1100031] g4) [1143, 1144] g16) [1143, 1144] g22) [68, 69, 70, 1145] g28) 91 (0 : Int) (647750 : Int)) 1147 0 (1 : Int)) = S1 := (funext fun j => md94 j (by intro q; cases q)).symm
            show sv_T sm_XS sm_cs sm_L sm_sh 4 (q_prepare p1 p3 p5 S) 283 159 [(0, .ref 0), (1, sv_L p1), (3, sv_L p3), (5, sv_I p5), (6, sv_L l6_9), (8, sv_L l8_10), (10, sv_I (647750 : Int)), (11, sv_I (0 : Int))] [sv_I r96, .ref 0] (sv_up (sv_up (sv_sts (sv_sts (sv_sts (sv_sts S [68, 69, 70, 81, 82, 83, 84, 85, 86, 74, 78, 79, 80, 76, 77, 1100031] g4) [1143, 1144] g16) [1143, 1144] g22) [68, 69, 70, 1145] g28) 91 (0 : Int) (647750 : Int)) 1147 0 (1 : Int))
            have h := h r96 hr96 hpo95
            refine sv_iconst (d := (1 : Int)) hM dX12_prepare_159 rfl rfl ?_
            obtain ⟨o97, h⟩ := h
            refine sv_callV hM dX12_prepare_160 sm_iv_1241 (by decide) (sm_a0 _) rfl rfl (Nat.le_of_ble_eq_true rfl) sm_h256 (Nat.le_of_ble_eq_true rfl) (Nat.le_of_ble_eq_true rfl) (F' := 3) (Nat.le_of_ble_eq_true rfl) rfl (t_make r96 (1 : Int) (sv_up (sv_up (sv_sts (sv_sts (sv_sts (sv_sts S [68, 69, 70, 81, 82, 83, 84, 85, 86, 74, 78, 79, 80, 76, 77, 1100031] g4) [1143, 1144] g16) [1143, 1144] g22) [68, 69, 70, 1145] g28) 91 (0 : Int) (647750 : Int)) 1147 0 (1 : Int)) ok93 hr96 (⟨by decide, by decide⟩ : sv_R (1 : Int)) o97) (fun v S1 hq => ?_)
            obtain ⟨rfl, ok99, md100, hpo101⟩ := hq
            obtain ⟨g98, rfl⟩ : ∃ g, S1 = sv_sts (sv_up (sv_up (sv_sts (sv_sts (sv_sts (sv_sts S [68, 69, 70, 81, 82, 83, 84, 85, 86, 74, 78, 79, 80, 76, 77, 1100031] g4) [1143, 1144] g16) [1143, 1144] g22) [68, 69, 70, 1145] g28) 91 (0 : Int) (647750 : Int)) 1147 0 (1 : Int)) [68, 69, 70, 81, 82, 83, 84, 85, 86, 76, 77] g := ⟨_, md100.eq⟩
            show sv_T sm_XS sm_cs sm_L sm_sh 4 (q_prepare p1 p3 p5 S) 283 163 [(0, .ref 0), (1, sv_L p1), (3, sv_L p3), (5, sv_I p5), (6, sv_L l6_9), (8, sv_L l8_10), (10, sv_I (647750 : Int)), (11, sv_I (0 : Int))] [] (sv_sts (sv_up (sv_up (sv_sts (sv_sts (sv_sts (sv_sts S [68, 69, 70, 81, 82, 83, 84, 85, 86, 74, 78, 79, 80, 76, 77, 1100031] g4) [1143, 1144] g16) [1143, 1144] g22) [68, 69, 70, 1145] g28) 91 (0 : Int) (647750 : Int)) 1147 0 (1 : Int)) [68, 69, 70, 81, 82, 83, 84, 85, 86, 76, 77] g98)
            have md102 : sv_mod [68, 69, 70, 81, 82, 83, 84, 85, 86, 71, 74, 75, 1127, 78, 79, 80, 72, 76, 77, 1143, 1144, 5, 1011, 1150, 1149, 1145, 1113, 1111, 1112, 91, 1147, 1100031] S (sv_sts (sv_up (sv_up (sv_sts (sv_sts (sv_sts (sv_sts S [68, 69, 70, 81, 82, 83, 84, 85, 86, 74, 78, 79, 80, 76, 77, 1100031] g4) [1143, 1144] g16) [1143, 1144] g22) [68, 69, 70, 1145] g28) 91 (0 : Int) (647750 : Int)) 1147 0 (1 : Int)) [68, 69, 70, 81, 82, 83, 84, 85, 86, 76, 77] g98) := sv_mod.sts md90 (by decide)
            have h := h g98 hpo101
            refine sv_aload_n hM dX12_prepare_163 rfl rfl ?_
            refine sv_iconst (d := (0 : Int)) hM dX12_prepare_164 rfl rfl ?_
            refine sv_putI sm_X hM dX12_prepare_165 sm_fp_1178 (sm_a0 _) sm_q147 (Or.inl rfl) rfl rfl rfl rfl ?_
            have ok103 : sm_ok (sv_up (sv_sts (sv_up (sv_up (sv_sts (sv_sts (sv_sts (sv_sts S [68, 69, 70, 81, 82, 83, 84, 85, 86, 74, 78, 79, 80, 76, 77, 1100031] g4) [1143, 1144] g16) [1143, 1144] g22) [68, 69, 70, 1145] g28) 91 (0 : Int) (647750 : Int)) 1147 0 (1 : Int)) [68, 69, 70, 81, 82, 83, 84, 85, 86, 76, 77] g98) 1147 0 (0 : Int)) := sm_upI ok99 sm_r1147 (⟨by decide, by decide⟩ : sv_R (0 : Int))
            have md104 : sv_mod [68, 69, 70, 81, 82, 83, 84, 85, 86, 71, 74, 75, 1127, 78, 79, 80, 72, 76, 77, 1143, 1144, 5, 1011, 1150, 1149, 1145, 1113, 1111, 1112, 91, 1147, 1100031] S (sv_up (sv_sts (sv_up (sv_up (sv_sts (sv_sts (sv_sts (sv_sts S [68, 69, 70, 81, 82, 83, 84, 85, 86, 74, 78, 79, 80, 76, 77, 1100031] g4) [1143, 1144] g16) [1143, 1144] g22) [68, 69, 70, 1145] g28) 91 (0 : Int) (647750 : Int)) 1147 0 (1 : Int)) [68, 69, 70, 81, 82, 83, 84, 85, 86, 76, 77] g98) 1147 0 (0 : Int)) := sv_mod.up md102 (by decide)
            refine sv_aload_n hM dX12_prepare_168 rfl rfl ?_
            refine sv_sipush (d := (639 : Int)) hM dX12_prepare_169 rfl rfl ?_
            refine sv_aload_n hM dX12_prepare_172 rfl rfl ?_
            refine sv_iload hM dX12_prepare_173 rfl rfl ?_
            refine sv_callV hM dX12_prepare_175 sm_iv_920 (by decide) (sm_a0 _) rfl rfl (Nat.le_of_ble_eq_true rfl) sm_h166 (Nat.le_of_ble_eq_true rfl) (Nat.le_of_ble_eq_true rfl) (F' := 0) (Nat.le_of_ble_eq_true rfl) rfl (t_siteLabel p5 (sv_up (sv_sts (sv_up (sv_up (sv_sts (sv_sts (sv_sts (sv_sts S [68, 69, 70, 81, 82, 83, 84, 85, 86, 74, 78, 79, 80, 76, 77, 1100031] g4) [1143, 1144] g16) [1143, 1144] g22) [68, 69, 70, 1145] g28) 91 (0 : Int) (647750 : Int)) 1147 0 (1 : Int)) [68, 69, 70, 81, 82, 83, 84, 85, 86, 76, 77] g98) 1147 0 (0 : Int)) ok103 hp5 o91) (fun v S1 hq => ?_)
            obtain ⟨r109, rfl, hr109, ok106, md107, hpo108⟩ := hq
            obtain rfl : (sv_up (sv_sts (sv_up (sv_up (sv_sts (sv_sts (sv_sts (sv_sts S [68, 69, 70, 81, 82, 83, 84, 85, 86, 74, 78, 79, 80, 76, 77, 1100031] g4) [1143, 1144] g16) [1143, 1144] g22) [68, 69, 70, 1145] g28) 91 (0 : Int) (647750 : Int)) 1147 0 (1 : Int)) [68, 69, 70, 81, 82, 83, 84, 85, 86, 76, 77] g98) 1147 0 (0 : Int)) = S1 := (funext fun j => md107 j (by intro q; cases q)).symm
            show sv_T sm_XS sm_cs sm_L sm_sh 4 (q_prepare p1 p3 p5 S) 283 178 [(0, .ref 0), (1, sv_L p1), (3, sv_L p3), (5, sv_I p5), (6, sv_L l6_9), (8, sv_L l8_10), (10, sv_I (647750 : Int)), (11, sv_I (0 : Int))] [sv_I r109, sv_I (639 : Int), .ref 0] (sv_up (sv_sts (sv_up (sv_up (sv_sts (sv_sts (sv_sts (sv_sts S [68, 69, 70, 81, 82, 83, 84, 85, 86, 74, 78, 79, 80, 76, 77, 1100031] g4) [1143, 1144] g16) [1143, 1144] g22) [68, 69, 70, 1145] g28) 91 (0 : Int) (647750 : Int)) 1147 0 (1 : Int)) [68, 69, 70, 81, 82, 83, 84, 85, 86, 76, 77] g98) 1147 0 (0 : Int))
            have h := h r109 hr109 hpo108
            obtain ⟨o110, h⟩ := h
            refine sv_callV hM dX12_prepare_178 sm_iv_1101 (by decide) (sm_a0 _) rfl rfl (Nat.le_of_ble_eq_true rfl) sm_h226 (Nat.le_of_ble_eq_true rfl) (Nat.le_of_ble_eq_true rfl) (F' := 1) (Nat.le_of_ble_eq_true rfl) rfl (t_of (639 : Int) r109 (sv_up (sv_sts (sv_up (sv_up (sv_sts (sv_sts (sv_sts (sv_sts S [68, 69, 70, 81, 82, 83, 84, 85, 86, 74, 78, 79, 80, 76, 77, 1100031] g4) [1143, 1144] g16) [1143, 1144] g22) [68, 69, 70, 1145] g28) 91 (0 : Int) (647750 : Int)) 1147 0 (1 : Int)) [68, 69, 70, 81, 82, 83, 84, 85, 86, 76, 77] g98) 1147 0 (0 : Int)) ok106 (⟨by decide, by decide⟩ : sv_R (639 : Int)) hr109 o110) (fun v S1 hq => ?_)
            obtain ⟨r115, rfl, hr115, ok112, md113, hpo114⟩ := hq
            obtain rfl : (sv_up (sv_sts (sv_up (sv_up (sv_sts (sv_sts (sv_sts (sv_sts S [68, 69, 70, 81, 82, 83, 84, 85, 86, 74, 78, 79, 80, 76, 77, 1100031] g4) [1143, 1144] g16) [1143, 1144] g22) [68, 69, 70, 1145] g28) 91 (0 : Int) (647750 : Int)) 1147 0 (1 : Int)) [68, 69, 70, 81, 82, 83, 84, 85, 86, 76, 77] g98) 1147 0 (0 : Int)) = S1 := (funext fun j => md113 j (by intro q; cases q)).symm
            show sv_T sm_XS sm_cs sm_L sm_sh 4 (q_prepare p1 p3 p5 S) 283 181 [(0, .ref 0), (1, sv_L p1), (3, sv_L p3), (5, sv_I p5), (6, sv_L l6_9), (8, sv_L l8_10), (10, sv_I (647750 : Int)), (11, sv_I (0 : Int))] [sv_I r115] (sv_up (sv_sts (sv_up (sv_up (sv_sts (sv_sts (sv_sts (sv_sts S [68, 69, 70, 81, 82, 83, 84, 85, 86, 74, 78, 79, 80, 76, 77, 1100031] g4) [1143, 1144] g16) [1143, 1144] g22) [68, 69, 70, 1145] g28) 91 (0 : Int) (647750 : Int)) 1147 0 (1 : Int)) [68, 69, 70, 81, 82, 83, 84, 85, 86, 76, 77] g98) 1147 0 (0 : Int))
            have h := h r115 hr115 hpo114
            refine sv_istore hM dX12_prepare_181 (by decide) rfl ?_
            show sv_T sm_XS sm_cs sm_L sm_sh 4 (q_prepare p1 p3 p5 S) 283 183 [(0, .ref 0), (1, sv_L p1), (3, sv_L p3), (5, sv_I p5), (6, sv_L l6_9), (8, sv_L l8_10), (10, sv_I (647750 : Int)), (11, sv_I (0 : Int)), (12, sv_I r115)] [] (sv_up (sv_sts (sv_up (sv_up (sv_sts (sv_sts (sv_sts (sv_sts S [68, 69, 70, 81, 82, 83, 84, 85, 86, 74, 78, 79, 80, 76, 77, 1100031] g4) [1143, 1144] g16) [1143, 1144] g22) [68, 69, 70, 1145] g28) 91 (0 : Int) (647750 : Int)) 1147 0 (1 : Int)) [68, 69, 70, 81, 82, 83, 84, 85, 86, 76, 77] g98) 1147 0 (0 : Int))
            refine sv_aload_n hM dX12_prepare_183 rfl rfl ?_
            refine sv_getA hM dX12_prepare_184 sm_fl_262 (sm_a0 _) sm_k135 rfl ?_
            refine sv_iload hM dX12_prepare_187 rfl rfl ?_
            refine sv_aload_n hM dX12_prepare_189 rfl rfl ?_
            refine sv_getA hM dX12_prepare_190 sm_fl_220 (sm_a0 _) sm_k117 rfl ?_
            refine sv_iload hM dX12_prepare_193 rfl rfl ?_
            have k116 : sv_RL (g98 69 (647750 : Int)) := sm_okJ ok112 sm_r69 (647750 : Int)
            have h := h k116
            refine sv_lald hM dX12_prepare_195 (sm_a69 _) (by decide) o80.1 o80.2 rfl (x := (g98 69 (647750 : Int))) rfl ?_
            refine sv_iload hM dX12_prepare_196 rfl rfl ?_
            refine sv_cond_eq hM dX12_prepare_198 (⟨by decide, by decide⟩ : sv_R (0 : Int)) (t := 207) rfl rfl (fun hc => ?_) (fun hc => ?_)
            · have h := h.1 (hc)
              refine sv_lconst (d := (0 : Int)) hM dX12_prepare_207 rfl rfl ?_
              refine sv_anyL hM dX12_prepare_208 rfl rfl (fun r117 hr117 _ => ?_)
              have h := h r117 hr117
              obtain ⟨o118, h⟩ := h
              refine sv_last sm_X hM dX12_prepare_209 (sm_a83 _) (by decide) o118.1 o118.2 rfl ?_
              have ok119 : sm_ok (sv_up (sv_up (sv_sts (sv_up (sv_up (sv_sts (sv_sts (sv_sts (sv_sts S [68, 69, 70, 81, 82, 83, 84, 85, 86, 74, 78, 79, 80, 76, 77, 1100031] g4) [1143, 1144] g16) [1143, 1144] g22) [68, 69, 70, 1145] g28) 91 (0 : Int) (647750 : Int)) 1147 0 (1 : Int)) [68, 69, 70, 81, 82, 83, 84, 85, 86, 76, 77] g98) 1147 0 (0 : Int)) 83 r115 r117) := sm_upJ ok112 sm_r83 hr117
              have md120 : sv_mod [68, 69, 70, 81, 82, 83, 84, 85, 86, 71, 74, 75, 1127, 78, 79, 80, 72, 76, 77, 1143, 1144, 5, 1011, 1150, 1149, 1145, 1113, 1111, 1112, 91, 1147, 1100031] S (sv_up (sv_up (sv_sts (sv_up (sv_up (sv_sts (sv_sts (sv_sts (sv_sts S [68, 69, 70, 81, 82, 83, 84, 85, 86, 74, 78, 79, 80, 76, 77, 1100031] g4) [1143, 1144] g16) [1143, 1144] g22) [68, 69, 70, 1145] g28) 91 (0 : Int) (647750 : Int)) 1147 0 (1 : Int)) [68, 69, 70, 81, 82, 83, 84, 85, 86, 76, 77] g98) 1147 0 (0 : Int)) 83 r115 r117) := sv_mod.up md104 (by decide)
              refine sv_aload_n hM dX12_prepare_210 rfl rfl ?_
              refine sv_getA hM dX12_prepare_211 sm_fl_265 (sm_a0 _) sm_k136 rfl ?_
              refine sv_iload hM dX12_prepare_214 rfl rfl ?_
              refine sv_aload_n hM dX12_prepare_216 rfl rfl ?_
              refine sv_getA hM dX12_prepare_217 sm_fl_223 (sm_a0 _) sm_k118 rfl ?_
              refine sv_iload hM dX12_prepare_220 rfl rfl ?_
              have k121 : sv_RL (g98 70 (647750 : Int)) := sm_okJ ok119 sm_r70 (647750 : Int)
              have h := h k121
              refine sv_lald hM dX12_prepare_222 (sm_a70 _) (by decide) o80.1 o80.2 rfl (x := (g98 70 (647750 : Int))) rfl ?_
              refine sv_last sm_X hM dX12_prepare_223 (sm_a84 _) (by decide) o118.1 o118.2 rfl ?_
              have ok122 : sm_ok (sv_up (sv_up (sv_up (sv_sts (sv_up (sv_up (sv_sts (sv_sts (sv_sts (sv_sts S [68, 69, 70, 81, 82, 83, 84, 85, 86, 74, 78, 79, 80, 76, 77, 1100031] g4) [1143, 1144] g16) [1143, 1144] g22) [68, 69, 70, 1145] g28) 91 (0 : Int) (647750 : Int)) 1147 0 (1 : Int)) [68, 69, 70, 81, 82, 83, 84, 85, 86, 76, 77] g98) 1147 0 (0 : Int)) 83 r115 r117) 84 r115 (g98 70 (647750 : Int))) := sm_upJ ok119 sm_r84 k121
              have md123 : sv_mod [68, 69, 70, 81, 82, 83, 84, 85, 86, 71, 74, 75, 1127, 78, 79, 80, 72, 76, 77, 1143, 1144, 5, 1011, 1150, 1149, 1145, 1113, 1111, 1112, 91, 1147, 1100031] S (sv_up (sv_up (sv_up (sv_sts (sv_up (sv_up (sv_sts (sv_sts (sv_sts (sv_sts S [68, 69, 70, 81, 82, 83, 84, 85, 86, 74, 78, 79, 80, 76, 77, 1100031] g4) [1143, 1144] g16) [1143, 1144] g22) [68, 69, 70, 1145] g28) 91 (0 : Int) (647750 : Int)) 1147 0 (1 : Int)) [68, 69, 70, 81, 82, 83, 84, 85, 86, 76, 77] g98) 1147 0 (0 : Int)) 83 r115 r117) 84 r115 (g98 70 (647750 : Int))) := sv_mod.up md120 (by decide)
              exact sv_vret hM dX12_prepare_224 rfl ⟨rfl, ok122, md123, h⟩
            · have h := h.2 (hc)
              refine sv_ldc2_w (d := (2 : Int)) hM dX12_prepare_201 sm_ck_1340 rfl rfl ?_
              refine sv_goto hM dX12_prepare_204 (pc' := 208) rfl ?_
              refine sv_anyL hM dX12_prepare_208 rfl rfl (fun r124 hr124 _ => ?_)
              have h := h r124 hr124
              obtain ⟨o125, h⟩ := h
              refine sv_last sm_X hM dX12_prepare_209 (sm_a83 _) (by decide) o125.1 o125.2 rfl ?_
              have ok126 : sm_ok (sv_up (sv_up (sv_sts (sv_up (sv_up (sv_sts (sv_sts (sv_sts (sv_sts S [68, 69, 70, 81, 82, 83, 84, 85, 86, 74, 78, 79, 80, 76, 77, 1100031] g4) [1143, 1144] g16) [1143, 1144] g22) [68, 69, 70, 1145] g28) 91 (0 : Int) (647750 : Int)) 1147 0 (1 : Int)) [68, 69, 70, 81, 82, 83, 84, 85, 86, 76, 77] g98) 1147 0 (0 : Int)) 83 r115 r124) := sm_upJ ok112 sm_r83 hr124
              have md127 : sv_mod [68, 69, 70, 81, 82, 83, 84, 85, 86, 71, 74, 75, 1127, 78, 79, 80, 72, 76, 77, 1143, 1144, 5, 1011, 1150, 1149, 1145, 1113, 1111, 1112, 91, 1147, 1100031] S (sv_up (sv_up (sv_sts (sv_up (sv_up (sv_sts (sv_sts (sv_sts (sv_sts S [68, 69, 70, 81, 82, 83, 84, 85, 86, 74, 78, 79, 80, 76, 77, 1100031] g4) [1143, 1144] g16) [1143, 1144] g22) [68, 69, 70, 1145] g28) 91 (0 : Int) (647750 : Int)) 1147 0 (1 : Int)) [68, 69, 70, 81, 82, 83, 84, 85, 86, 76, 77] g98) 1147 0 (0 : Int)) 83 r115 r124) := sv_mod.up md104 (by decide)
              refine sv_aload_n hM dX12_prepare_210 rfl rfl ?_
              refine sv_getA hM dX12_prepare_211 sm_fl_265 (sm_a0 _) sm_k136 rfl ?_
              refine sv_iload hM dX12_prepare_214 rfl rfl ?_
              refine sv_aload_n hM dX12_prepare_216 rfl rfl ?_
              refine sv_getA hM dX12_prepare_217 sm_fl_223 (sm_a0 _) sm_k118 rfl ?_
              refine sv_iload hM dX12_prepare_220 rfl rfl ?_
              have k128 : sv_RL (g98 70 (647750 : Int)) := sm_okJ ok126 sm_r70 (647750 : Int)
              have h := h k128
              refine sv_lald hM dX12_prepare_222 (sm_a70 _) (by decide) o80.1 o80.2 rfl (x := (g98 70 (647750 : Int))) rfl ?_
              refine sv_last sm_X hM dX12_prepare_223 (sm_a84 _) (by decide) o125.1 o125.2 rfl ?_
              have ok129 : sm_ok (sv_up (sv_up (sv_up (sv_sts (sv_up (sv_up (sv_sts (sv_sts (sv_sts (sv_sts S [68, 69, 70, 81, 82, 83, 84, 85, 86, 74, 78, 79, 80, 76, 77, 1100031] g4) [1143, 1144] g16) [1143, 1144] g22) [68, 69, 70, 1145] g28) 91 (0 : Int) (647750 : Int)) 1147 0 (1 : Int)) [68, 69, 70, 81, 82, 83, 84, 85, 86, 76, 77] g98) 1147 0 (0 : Int)) 83 r115 r124) 84 r115 (g98 70 (647750 : Int))) := sm_upJ ok126 sm_r84 k128
              have md130 : sv_mod [68, 69, 70, 81, 82, 83, 84, 85, 86, 71, 74, 75, 1127, 78, 79, 80, 72, 76, 77, 1143, 1144, 5, 1011, 1150, 1149, 1145, 1113, 1111, 1112, 91, 1147, 1100031] S (sv_up (sv_up (sv_up (sv_sts (sv_up (sv_up (sv_sts (sv_sts (sv_sts (sv_sts S [68, 69, 70, 81, 82, 83, 84, 85, 86, 74, 78, 79, 80, 76, 77, 1100031] g4) [1143, 1144] g16) [1143, 1144] g22) [68, 69, 70, 1145] g28) 91 (0 : Int) (647750 : Int)) 1147 0 (1 : Int)) [68, 69, 70, 81, 82, 83, 84, 85, 86, 76, 77] g98) 1147 0 (0 : Int)) 83 r115 r124) 84 r115 (g98 70 (647750 : Int))) := sv_mod.up md127 (by decide)
              exact sv_vret hM dX12_prepare_224 rfl ⟨rfl, ok129, md130, h⟩
          · have h := h.2 (hc)
            refine sv_iconst (d := (1 : Int)) hM dX12_prepare_132 rfl rfl ?_
            refine sv_goto hM dX12_prepare_133 (pc' := 137) rfl ?_
            refine sv_istore hM dX12_prepare_137 (by decide) rfl ?_
            show sv_T sm_XS sm_cs sm_L sm_sh 4 (q_prepare p1 p3 p5 S) 283 139 [(0, .ref 0), (1, sv_L p1), (3, sv_L p3), (5, sv_I p5), (6, sv_L l6_9), (8, sv_L l8_10), (10, sv_I (647750 : Int)), (11, sv_I (1 : Int))] [] (sv_sts (sv_sts (sv_sts (sv_sts S [68, 69, 70, 81, 82, 83, 84, 85, 86, 74, 78, 79, 80, 76, 77, 1100031] g4) [1143, 1144] g16) [1143, 1144] g22) [68, 69, 70, 1145] g28)
            refine sv_aload_n hM dX12_prepare_139 rfl rfl ?_
            refine sv_getA hM dX12_prepare_140 sm_fl_286 (sm_a0 _) sm_k146 rfl ?_
            refine sv_iconst (d := (0 : Int)) hM dX12_prepare_143 rfl rfl ?_
            refine sv_iload hM dX12_prepare_144 rfl rfl ?_
            obtain ⟨o131, h⟩ := h
            refine sv_iast sm_X hM dX12_prepare_146 (sm_a91 _) (by decide) o131.1 o131.2 rfl ?_
            have ok132 : sm_ok (sv_up (sv_sts (sv_sts (sv_sts (sv_sts S [68, 69, 70, 81, 82, 83, 84, 85, 86, 74, 78, 79, 80, 76, 77, 1100031] g4) [1143, 1144] g16) [1143, 1144] g22) [68, 69, 70, 1145] g28) 91 (0 : Int) (647750 : Int)) := sm_upI ok82 sm_r91 (⟨by decide, by decide⟩ : sv_R (647750 : Int))
            have md133 : sv_mod [68, 69, 70, 81, 82, 83, 84, 85, 86, 71, 74, 75, 1127, 78, 79, 80, 72, 76, 77, 1143, 1144, 5, 1011, 1150, 1149, 1145, 1113, 1111, 1112, 91, 1147, 1100031] S (sv_up (sv_sts (sv_sts (sv_sts (sv_sts S [68, 69, 70, 81, 82, 83, 84, 85, 86, 74, 78, 79, 80, 76, 77, 1100031] g4) [1143, 1144] g16) [1143, 1144] g22) [68, 69, 70, 1145] g28) 91 (0 : Int) (647750 : Int)) := sv_mod.up md32 (by decide)
            refine sv_aload_n hM dX12_prepare_147 rfl rfl ?_
            refine sv_iconst (d := (1 : Int)) hM dX12_prepare_148 rfl rfl ?_
            refine sv_putI sm_X hM dX12_prepare_149 sm_fp_1178 (sm_a0 _) sm_q147 (Or.inl rfl) rfl rfl rfl rfl ?_
            have ok134 : sm_ok (sv_up (sv_up (sv_sts (sv_sts (sv_sts (sv_sts S [68, 69, 70, 81, 82, 83, 84, 85, 86, 74, 78, 79, 80, 76, 77, 1100031] g4) [1143, 1144] g16) [1143, 1144] g22) [68, 69, 70, 1145] g28) 91 (0 : Int) (647750 : Int)) 1147 0 (1 : Int)) := sm_upI ok132 sm_r1147 (⟨by decide, by decide⟩ : sv_R (1 : Int))
            have md135 : sv_mod [68, 69, 70, 81, 82, 83, 84, 85, 86, 71, 74, 75, 1127, 78, 79, 80, 72, 76, 77, 1143, 1144, 5, 1011, 1150, 1149, 1145, 1113, 1111, 1112, 91, 1147, 1100031] S (sv_up (sv_up (sv_sts (sv_sts (sv_sts (sv_sts S [68, 69, 70, 81, 82, 83, 84, 85, 86, 74, 78, 79, 80, 76, 77, 1100031] g4) [1143, 1144] g16) [1143, 1144] g22) [68, 69, 70, 1145] g28) 91 (0 : Int) (647750 : Int)) 1147 0 (1 : Int)) := sv_mod.up md133 (by decide)
            refine sv_aload_n hM dX12_prepare_152 rfl rfl ?_
            refine sv_aload_n hM dX12_prepare_153 rfl rfl ?_
            refine sv_iload hM dX12_prepare_154 rfl rfl ?_
            obtain ⟨o136, h⟩ := h
            refine sv_callV hM dX12_prepare_156 sm_iv_920 (by decide) (sm_a0 _) rfl rfl (Nat.le_of_ble_eq_true rfl) sm_h166 (Nat.le_of_ble_eq_true rfl) (Nat.le_of_ble_eq_true rfl) (F' := 0) (Nat.le_of_ble_eq_true rfl) rfl (t_siteLabel p5 (sv_up (sv_up (sv_sts (sv_sts (sv_sts (sv_sts S [68, 69, 70, 81, 82, 83, 84, 85, 86, 74, 78, 79, 80, 76, 77, 1100031] g4) [1143, 1144] g16) [1143, 1144] g22) [68, 69, 70, 1145] g28) 91 (0 : Int) (647750 : Int)) 1147 0 (1 : Int)) ok134 hp5 o136) (fun v S1 hq => ?_)
            obtain ⟨r141, rfl, hr141, ok138, md139, hpo140⟩ := hq
            obtain rfl : (sv_up (sv_up (sv_sts (sv_sts (sv_sts (sv_sts S [68, 69, 70, 81, 82, 83, 84, 85, 86, 74, 78, 79, 80, 76, 77, 1100031] g4) [1143, 1144] g16) [1143, 1144] g22) [68, 69, 70, 1145] g28) 91 (0 : Int) (647750 : Int)) 1147 0 (1 : Int)) = S1 := (funext fun j => md139 j (by intro q; cases q)).symm
            show sv_T sm_XS sm_cs sm_L sm_sh 4 (q_prepare p1 p3 p5 S) 283 159 [(0, .ref 0), (1, sv_L p1), (3, sv_L p3), (5, sv_I p5), (6, sv_L l6_9), (8, sv_L l8_10), (10, sv_I (647750 : Int)), (11, sv_I (1 : Int))] [sv_I r141, .ref 0] (sv_up (sv_up (sv_sts (sv_sts (sv_sts (sv_sts S [68, 69, 70, 81, 82, 83, 84, 85, 86, 74, 78, 79, 80, 76, 77, 1100031] g4) [1143, 1144] g16) [1143, 1144] g22) [68, 69, 70, 1145] g28) 91 (0 : Int) (647750 : Int)) 1147 0 (1 : Int))
            have h := h r141 hr141 hpo140
            refine sv_iconst (d := (1 : Int)) hM dX12_prepare_159 rfl rfl ?_
            obtain ⟨o142, h⟩ := h
            refine sv_callV hM dX12_prepare_160 sm_iv_1241 (by decide) (sm_a0 _) rfl rfl (Nat.le_of_ble_eq_true rfl) sm_h256 (Nat.le_of_ble_eq_true rfl) (Nat.le_of_ble_eq_true rfl) (F' := 3) (Nat.le_of_ble_eq_true rfl) rfl (t_make r141 (1 : Int) (sv_up (sv_up (sv_sts (sv_sts (sv_sts (sv_sts S [68, 69, 70, 81, 82, 83, 84, 85, 86, 74, 78, 79, 80, 76, 77, 1100031] g4) [1143, 1144] g16) [1143, 1144] g22) [68, 69, 70, 1145] g28) 91 (0 : Int) (647750 : Int)) 1147 0 (1 : Int)) ok138 hr141 (⟨by decide, by decide⟩ : sv_R (1 : Int)) o142) (fun v S1 hq => ?_)
            obtain ⟨rfl, ok144, md145, hpo146⟩ := hq
            obtain ⟨g143, rfl⟩ : ∃ g, S1 = sv_sts (sv_up (sv_up (sv_sts (sv_sts (sv_sts (sv_sts S [68, 69, 70, 81, 82, 83, 84, 85, 86, 74, 78, 79, 80, 76, 77, 1100031] g4) [1143, 1144] g16) [1143, 1144] g22) [68, 69, 70, 1145] g28) 91 (0 : Int) (647750 : Int)) 1147 0 (1 : Int)) [68, 69, 70, 81, 82, 83, 84, 85, 86, 76, 77] g := ⟨_, md145.eq⟩
            show sv_T sm_XS sm_cs sm_L sm_sh 4 (q_prepare p1 p3 p5 S) 283 163 [(0, .ref 0), (1, sv_L p1), (3, sv_L p3), (5, sv_I p5), (6, sv_L l6_9), (8, sv_L l8_10), (10, sv_I (647750 : Int)), (11, sv_I (1 : Int))] [] (sv_sts (sv_up (sv_up (sv_sts (sv_sts (sv_sts (sv_sts S [68, 69, 70, 81, 82, 83, 84, 85, 86, 74, 78, 79, 80, 76, 77, 1100031] g4) [1143, 1144] g16) [1143, 1144] g22) [68, 69, 70, 1145] g28) 91 (0 : Int) (647750 : Int)) 1147 0 (1 : Int)) [68, 69, 70, 81, 82, 83, 84, 85, 86, 76, 77] g143)
            have md147 : sv_mod [68, 69, 70, 81, 82, 83, 84, 85, 86, 71, 74, 75, 1127, 78, 79, 80, 72, 76, 77, 1143, 1144, 5, 1011, 1150, 1149, 1145, 1113, 1111, 1112, 91, 1147, 1100031] S (sv_sts (sv_up (sv_up (sv_sts (sv_sts (sv_sts (sv_sts S [68, 69, 70, 81, 82, 83, 84, 85, 86, 74, 78, 79, 80, 76, 77, 1100031] g4) [1143, 1144] g16) [1143, 1144] g22) [68, 69, 70, 1145] g28) 91 (0 : Int) (647750 : Int)) 1147 0 (1 : Int)) [68, 69, 70, 81, 82, 83, 84, 85, 86, 76, 77] g143) := sv_mod.sts md135 (by decide)
            have h := h g143 hpo146
            refine sv_aload_n hM dX12_prepare_163 rfl rfl ?_
            refine sv_iconst (d := (0 : Int)) hM dX12_prepare_164 rfl rfl ?_
            refine sv_putI sm_X hM dX12_prepare_165 sm_fp_1178 (sm_a0 _) sm_q147 (Or.inl rfl) rfl rfl rfl rfl ?_
            have ok148 : sm_ok (sv_up (sv_sts (sv_up (sv_up (sv_sts (sv_sts (sv_sts (sv_sts S [68, 69, 70, 81, 82, 83, 84, 85, 86, 74, 78, 79, 80, 76, 77, 1100031] g4) [1143, 1144] g16) [1143, 1144] g22) [68, 69, 70, 1145] g28) 91 (0 : Int) (647750 : Int)) 1147 0 (1 : Int)) [68, 69, 70, 81, 82, 83, 84, 85, 86, 76, 77] g143) 1147 0 (0 : Int)) := sm_upI ok144 sm_r1147 (⟨by decide, by decide⟩ : sv_R (0 : Int))
            have md149 : sv_mod [68, 69, 70, 81, 82, 83, 84, 85, 86, 71, 74, 75, 1127, 78, 79, 80, 72, 76, 77, 1143, 1144, 5, 1011, 1150, 1149, 1145, 1113, 1111, 1112, 91, 1147, 1100031] S (sv_up (sv_sts (sv_up (sv_up (sv_sts (sv_sts (sv_sts (sv_sts S [68, 69, 70, 81, 82, 83, 84, 85, 86, 74, 78, 79, 80, 76, 77, 1100031] g4) [1143, 1144] g16) [1143, 1144] g22) [68, 69, 70, 1145] g28) 91 (0 : Int) (647750 : Int)) 1147 0 (1 : Int)) [68, 69, 70, 81, 82, 83, 84, 85, 86, 76, 77] g143) 1147 0 (0 : Int)) := sv_mod.up md147 (by decide)
            refine sv_aload_n hM dX12_prepare_168 rfl rfl ?_
            refine sv_sipush (d := (639 : Int)) hM dX12_prepare_169 rfl rfl ?_
            refine sv_aload_n hM dX12_prepare_172 rfl rfl ?_
            refine sv_iload hM dX12_prepare_173 rfl rfl ?_
            refine sv_callV hM dX12_prepare_175 sm_iv_920 (by decide) (sm_a0 _) rfl rfl (Nat.le_of_ble_eq_true rfl) sm_h166 (Nat.le_of_ble_eq_true rfl) (Nat.le_of_ble_eq_true rfl) (F' := 0) (Nat.le_of_ble_eq_true rfl) rfl (t_siteLabel p5 (sv_up (sv_sts (sv_up (sv_up (sv_sts (sv_sts (sv_sts (sv_sts S [68, 69, 70, 81, 82, 83, 84, 85, 86, 74, 78, 79, 80, 76, 77, 1100031] g4) [1143, 1144] g16) [1143, 1144] g22) [68, 69, 70, 1145] g28) 91 (0 : Int) (647750 : Int)) 1147 0 (1 : Int)) [68, 69, 70, 81, 82, 83, 84, 85, 86, 76, 77] g143) 1147 0 (0 : Int)) ok148 hp5 o136) (fun v S1 hq => ?_)
            obtain ⟨r154, rfl, hr154, ok151, md152, hpo153⟩ := hq
            obtain rfl : (sv_up (sv_sts (sv_up (sv_up (sv_sts (sv_sts (sv_sts (sv_sts S [68, 69, 70, 81, 82, 83, 84, 85, 86, 74, 78, 79, 80, 76, 77, 1100031] g4) [1143, 1144] g16) [1143, 1144] g22) [68, 69, 70, 1145] g28) 91 (0 : Int) (647750 : Int)) 1147 0 (1 : Int)) [68, 69, 70, 81, 82, 83, 84, 85, 86, 76, 77] g143) 1147 0 (0 : Int)) = S1 := (funext fun j => md152 j (by intro q; cases q)).symm
            show sv_T sm_XS sm_cs sm_L sm_sh 4 (q_prepare p1 p3 p5 S) 283 178 [(0, .ref 0), (1, sv_L p1), (3, sv_L p3), (5, sv_I p5), (6, sv_L l6_9), (8, sv_L l8_10), (10, sv_I (647750 : Int)), (11, sv_I (1 : Int))] [sv_I r154, sv_I (639 : Int), .ref 0] (sv_up (sv_sts (sv_up (sv_up (sv_sts (sv_sts (sv_sts (sv_sts S [68, 69, 70, 81, 82, 83, 84, 85, 86, 74, 78, 79, 80, 76, 77, 1100031] g4) [1143, 1144] g16) [1143, 1144] g22) [68, 69, 70, 1145] g28) 91 (0 : Int) (647750 : Int)) 1147 0 (1 : Int)) [68, 69, 70, 81, 82, 83, 84, 85, 86, 76, 77] g143) 1147 0 (0 : Int))
            have h := h r154 hr154 hpo153
            obtain ⟨o155, h⟩ := h
            refine sv_callV hM dX12_prepare_178 sm_iv_1101 (by decide) (sm_a0 _) rfl rfl (Nat.le_of_ble_eq_true rfl) sm_h226 (Nat.le_of_ble_eq_true rfl) (Nat.le_of_ble_eq_true rfl) (F' := 1) (Nat.le_of_ble_eq_true rfl) rfl (t_of (639 : Int) r154 (sv_up (sv_sts (sv_up (sv_up (sv_sts (sv_sts (sv_sts (sv_sts S [68, 69, 70, 81, 82, 83, 84, 85, 86, 74, 78, 79, 80, 76, 77, 1100031] g4) [1143, 1144] g16) [1143, 1144] g22) [68, 69, 70, 1145] g28) 91 (0 : Int) (647750 : Int)) 1147 0 (1 : Int)) [68, 69, 70, 81, 82, 83, 84, 85, 86, 76, 77] g143) 1147 0 (0 : Int)) ok151 (⟨by decide, by decide⟩ : sv_R (639 : Int)) hr154 o155) (fun v S1 hq => ?_)
            obtain ⟨r160, rfl, hr160, ok157, md158, hpo159⟩ := hq
            obtain rfl : (sv_up (sv_sts (sv_up (sv_up (sv_sts (sv_sts (sv_sts (sv_sts S [68, 69, 70, 81, 82, 83, 84, 85, 86, 74, 78, 79, 80, 76, 77, 1100031] g4) [1143, 1144] g16) [1143, 1144] g22) [68, 69, 70, 1145] g28) 91 (0 : Int) (647750 : Int)) 1147 0 (1 : Int)) [68, 69, 70, 81, 82, 83, 84, 85, 86, 76, 77] g143) 1147 0 (0 : Int)) = S1 := (funext fun j => md158 j (by intro q; cases q)).symm
            show sv_T sm_XS sm_cs sm_L sm_sh 4 (q_prepare p1 p3 p5 S) 283 181 [(0, .ref 0), (1, sv_L p1), (3, sv_L p3), (5, sv_I p5), (6, sv_L l6_9), (8, sv_L l8_10), (10, sv_I (647750 : Int)), (11, sv_I (1 : Int))] [sv_I r160] (sv_up (sv_sts (sv_up (sv_up (sv_sts (sv_sts (sv_sts (sv_sts S [68, 69, 70, 81, 82, 83, 84, 85, 86, 74, 78, 79, 80, 76, 77, 1100031] g4) [1143, 1144] g16) [1143, 1144] g22) [68, 69, 70, 1145] g28) 91 (0 : Int) (647750 : Int)) 1147 0 (1 : Int)) [68, 69, 70, 81, 82, 83, 84, 85, 86, 76, 77] g143) 1147 0 (0 : Int))
            have h := h r160 hr160 hpo159
            refine sv_istore hM dX12_prepare_181 (by decide) rfl ?_
            show sv_T sm_XS sm_cs sm_L sm_sh 4 (q_prepare p1 p3 p5 S) 283 183 [(0, .ref 0), (1, sv_L p1), (3, sv_L p3), (5, sv_I p5), (6, sv_L l6_9), (8, sv_L l8_10), (10, sv_I (647750 : Int)), (11, sv_I (1 : Int)), (12, sv_I r160)] [] (sv_up (sv_sts (sv_up (sv_up (sv_sts (sv_sts (sv_sts (sv_sts S [68, 69, 70, 81, 82, 83, 84, 85, 86, 74, 78, 79, 80, 76, 77, 1100031] g4) [1143, 1144] g16) [1143, 1144] g22) [68, 69, 70, 1145] g28) 91 (0 : Int) (647750 : Int)) 1147 0 (1 : Int)) [68, 69, 70, 81, 82, 83, 84, 85, 86, 76, 77] g143) 1147 0 (0 : Int))
            refine sv_aload_n hM dX12_prepare_183 rfl rfl ?_
            refine sv_getA hM dX12_prepare_184 sm_fl_262 (sm_a0 _) sm_k135 rfl ?_
            refine sv_iload hM dX12_prepare_187 rfl rfl ?_
            refine sv_aload_n hM dX12_prepare_189 rfl rfl ?_
            refine sv_getA hM dX12_prepare_190 sm_fl_220 (sm_a0 _) sm_k117 rfl ?_
            refine sv_iload hM dX12_prepare_193 rfl rfl ?_
            have k161 : sv_RL (g143 69 (647750 : Int)) := sm_okJ ok157 sm_r69 (647750 : Int)
            have h := h k161
            refine sv_lald hM dX12_prepare_195 (sm_a69 _) (by decide) o80.1 o80.2 rfl (x := (g143 69 (647750 : Int))) rfl ?_
            refine sv_iload hM dX12_prepare_196 rfl rfl ?_
            refine sv_cond_eq hM dX12_prepare_198 (⟨by decide, by decide⟩ : sv_R (1 : Int)) (t := 207) rfl rfl (fun hc => ?_) (fun hc => ?_)
            · have h := h.1 (hc)
              refine sv_lconst (d := (0 : Int)) hM dX12_prepare_207 rfl rfl ?_
              refine sv_anyL hM dX12_prepare_208 rfl rfl (fun r162 hr162 _ => ?_)
              have h := h r162 hr162
              obtain ⟨o163, h⟩ := h
              refine sv_last sm_X hM dX12_prepare_209 (sm_a83 _) (by decide) o163.1 o163.2 rfl ?_
              have ok164 : sm_ok (sv_up (sv_up (sv_sts (sv_up (sv_up (sv_sts (sv_sts (sv_sts (sv_sts S [68, 69, 70, 81, 82, 83, 84, 85, 86, 74, 78, 79, 80, 76, 77, 1100031] g4) [1143, 1144] g16) [1143, 1144] g22) [68, 69, 70, 1145] g28) 91 (0 : Int) (647750 : Int)) 1147 0 (1 : Int)) [68, 69, 70, 81, 82, 83, 84, 85, 86, 76, 77] g143) 1147 0 (0 : Int)) 83 r160 r162) := sm_upJ ok157 sm_r83 hr162
              have md165 : sv_mod [68, 69, 70, 81, 82, 83, 84, 85, 86, 71, 74, 75, 1127, 78, 79, 80, 72, 76, 77, 1143, 1144, 5, 1011, 1150, 1149, 1145, 1113, 1111, 1112, 91, 1147, 1100031] S (sv_up (sv_up (sv_sts (sv_up (sv_up (sv_sts (sv_sts (sv_sts (sv_sts S [68, 69, 70, 81, 82, 83, 84, 85, 86, 74, 78, 79, 80, 76, 77, 1100031] g4) [1143, 1144] g16) [1143, 1144] g22) [68, 69, 70, 1145] g28) 91 (0 : Int) (647750 : Int)) 1147 0 (1 : Int)) [68, 69, 70, 81, 82, 83, 84, 85, 86, 76, 77] g143) 1147 0 (0 : Int)) 83 r160 r162) := sv_mod.up md149 (by decide)
              refine sv_aload_n hM dX12_prepare_210 rfl rfl ?_
              refine sv_getA hM dX12_prepare_211 sm_fl_265 (sm_a0 _) sm_k136 rfl ?_
              refine sv_iload hM dX12_prepare_214 rfl rfl ?_
              refine sv_aload_n hM dX12_prepare_216 rfl rfl ?_
              refine sv_getA hM dX12_prepare_217 sm_fl_223 (sm_a0 _) sm_k118 rfl ?_
              refine sv_iload hM dX12_prepare_220 rfl rfl ?_
              have k166 : sv_RL (g143 70 (647750 : Int)) := sm_okJ ok164 sm_r70 (647750 : Int)
              have h := h k166
              refine sv_lald hM dX12_prepare_222 (sm_a70 _) (by decide) o80.1 o80.2 rfl (x := (g143 70 (647750 : Int))) rfl ?_
              refine sv_last sm_X hM dX12_prepare_223 (sm_a84 _) (by decide) o163.1 o163.2 rfl ?_
              have ok167 : sm_ok (sv_up (sv_up (sv_up (sv_sts (sv_up (sv_up (sv_sts (sv_sts (sv_sts (sv_sts S [68, 69, 70, 81, 82, 83, 84, 85, 86, 74, 78, 79, 80, 76, 77, 1100031] g4) [1143, 1144] g16) [1143, 1144] g22) [68, 69, 70, 1145] g28) 91 (0 : Int) (647750 : Int)) 1147 0 (1 : Int)) [68, 69, 70, 81, 82, 83, 84, 85, 86, 76, 77] g143) 1147 0 (0 : Int)) 83 r160 r162) 84 r160 (g143 70 (647750 : Int))) := sm_upJ ok164 sm_r84 k166
              have md168 : sv_mod [68, 69, 70, 81, 82, 83, 84, 85, 86, 71, 74, 75, 1127, 78, 79, 80, 72, 76, 77, 1143, 1144, 5, 1011, 1150, 1149, 1145, 1113, 1111, 1112, 91, 1147, 1100031] S (sv_up (sv_up (sv_up (sv_sts (sv_up (sv_up (sv_sts (sv_sts (sv_sts (sv_sts S [68, 69, 70, 81, 82, 83, 84, 85, 86, 74, 78, 79, 80, 76, 77, 1100031] g4) [1143, 1144] g16) [1143, 1144] g22) [68, 69, 70, 1145] g28) 91 (0 : Int) (647750 : Int)) 1147 0 (1 : Int)) [68, 69, 70, 81, 82, 83, 84, 85, 86, 76, 77] g143) 1147 0 (0 : Int)) 83 r160 r162) 84 r160 (g143 70 (647750 : Int))) := sv_mod.up md165 (by decide)
              exact sv_vret hM dX12_prepare_224 rfl ⟨rfl, ok167, md168, h⟩
            · have h := h.2 (hc)
              refine sv_ldc2_w (d := (2 : Int)) hM dX12_prepare_201 sm_ck_1340 rfl rfl ?_
              refine sv_goto hM dX12_prepare_204 (pc' := 208) rfl ?_
              refine sv_anyL hM dX12_prepare_208 rfl rfl (fun r169 hr169 _ => ?_)
              have h := h r169 hr169
              obtain ⟨o170, h⟩ := h
              refine sv_last sm_X hM dX12_prepare_209 (sm_a83 _) (by decide) o170.1 o170.2 rfl ?_
              have ok171 : sm_ok (sv_up (sv_up (sv_sts (sv_up (sv_up (sv_sts (sv_sts (sv_sts (sv_sts S [68, 69, 70, 81, 82, 83, 84, 85, 86, 74, 78, 79, 80, 76, 77, 1100031] g4) [1143, 1144] g16) [1143, 1144] g22) [68, 69, 70, 1145] g28) 91 (0 : Int) (647750 : Int)) 1147 0 (1 : Int)) [68, 69, 70, 81, 82, 83, 84, 85, 86, 76, 77] g143) 1147 0 (0 : Int)) 83 r160 r169) := sm_upJ ok157 sm_r83 hr169
              have md172 : sv_mod [68, 69, 70, 81, 82, 83, 84, 85, 86, 71, 74, 75, 1127, 78, 79, 80, 72, 76, 77, 1143, 1144, 5, 1011, 1150, 1149, 1145, 1113, 1111, 1112, 91, 1147, 1100031] S (sv_up (sv_up (sv_sts (sv_up (sv_up (sv_sts (sv_sts (sv_sts (sv_sts S [68, 69, 70, 81, 82, 83, 84, 85, 86, 74, 78, 79, 80, 76, 77, 1100031] g4) [1143, 1144] g16) [1143, 1144] g22) [68, 69, 70, 1145] g28) 91 (0 : Int) (647750 : Int)) 1147 0 (1 : Int)) [68, 69, 70, 81, 82, 83, 84, 85, 86, 76, 77] g143) 1147 0 (0 : Int)) 83 r160 r169) := sv_mod.up md149 (by decide)
              refine sv_aload_n hM dX12_prepare_210 rfl rfl ?_
              refine sv_getA hM dX12_prepare_211 sm_fl_265 (sm_a0 _) sm_k136 rfl ?_
              refine sv_iload hM dX12_prepare_214 rfl rfl ?_
              refine sv_aload_n hM dX12_prepare_216 rfl rfl ?_
              refine sv_getA hM dX12_prepare_217 sm_fl_223 (sm_a0 _) sm_k118 rfl ?_
              refine sv_iload hM dX12_prepare_220 rfl rfl ?_
              have k173 : sv_RL (g143 70 (647750 : Int)) := sm_okJ ok171 sm_r70 (647750 : Int)
              have h := h k173
              refine sv_lald hM dX12_prepare_222 (sm_a70 _) (by decide) o80.1 o80.2 rfl (x := (g143 70 (647750 : Int))) rfl ?_
              refine sv_last sm_X hM dX12_prepare_223 (sm_a84 _) (by decide) o170.1 o170.2 rfl ?_
              have ok174 : sm_ok (sv_up (sv_up (sv_up (sv_sts (sv_up (sv_up (sv_sts (sv_sts (sv_sts (sv_sts S [68, 69, 70, 81, 82, 83, 84, 85, 86, 74, 78, 79, 80, 76, 77, 1100031] g4) [1143, 1144] g16) [1143, 1144] g22) [68, 69, 70, 1145] g28) 91 (0 : Int) (647750 : Int)) 1147 0 (1 : Int)) [68, 69, 70, 81, 82, 83, 84, 85, 86, 76, 77] g143) 1147 0 (0 : Int)) 83 r160 r169) 84 r160 (g143 70 (647750 : Int))) := sm_upJ ok171 sm_r84 k173
              have md175 : sv_mod [68, 69, 70, 81, 82, 83, 84, 85, 86, 71, 74, 75, 1127, 78, 79, 80, 72, 76, 77, 1143, 1144, 5, 1011, 1150, 1149, 1145, 1113, 1111, 1112, 91, 1147, 1100031] S (sv_up (sv_up (sv_up (sv_sts (sv_up (sv_up (sv_sts (sv_sts (sv_sts (sv_sts S [68, 69, 70, 81, 82, 83, 84, 85, 86, 74, 78, 79, 80, 76, 77, 1100031] g4) [1143, 1144] g16) [1143, 1144] g22) [68, 69, 70, 1145] g28) 91 (0 : Int) (647750 : Int)) 1147 0 (1 : Int)) [68, 69, 70, 81, 82, 83, 84, 85, 86, 76, 77] g143) 1147 0 (0 : Int)) 83 r160 r169) 84 r160 (g143 70 (647750 : Int))) := sv_mod.up md172 (by decide)
              exact sv_vret hM dX12_prepare_224 rfl ⟨rfl, ok174, md175, h⟩
      · have h := h.2 (hc)
        refine sv_lload_n hM dX12_prepare_33 rfl rfl ?_
        refine sv_lload_n hM dX12_prepare_34 rfl rfl ?_
        refine sv_iload hM dX12_prepare_35 rfl rfl ?_
        obtain ⟨o176, h⟩ := h
        refine sv_callS hM dX12_prepare_37 sm_iv_1125 (Nat.le_of_ble_eq_true rfl) rfl rfl (Nat.le_of_ble_eq_true rfl) sm_h217 (Nat.le_of_ble_eq_true rfl) (Nat.le_of_ble_eq_true rfl) (F' := 0) (Nat.le_of_ble_eq_true rfl) rfl (t_isIn p1 p3 l10_11 (sv_sts S [68, 69, 70, 81, 82, 83, 84, 85, 86, 74, 78, 79, 80, 76, 77, 1100031] g4) ok14 hp1 hp3 hl10_11 o176) (fun v S1 hq => ?_)
        obtain ⟨r181, rfl, hr181, ok178, md179, hpo180⟩ := hq
        obtain rfl : (sv_sts S [68, 69, 70, 81, 82, 83, 84, 85, 86, 74, 78, 79, 80, 76, 77, 1100031] g4) = S1 := (funext fun j => md179 j (by intro q; cases q)).symm
        show sv_T sm_XS sm_cs sm_L sm_sh 4 (q_prepare p1 p3 p5 S) 283 40 [(0, .ref 0), (1, sv_L p1), (3, sv_L p3), (5, sv_I p5), (6, sv_L l6_9), (8, sv_L l8_10), (10, sv_I l10_11)] [sv_I r181] (sv_sts S [68, 69, 70, 81, 82, 83, 84, 85, 86, 74, 78, 79, 80, 76, 77, 1100031] g4)
        have h := h r181 hr181 hpo180
        refine sv_cond_eq hM dX12_prepare_40 hr181 (t := 86) rfl rfl (fun hc => ?_) (fun hc => ?_)
        · have h := h.1 (hc)
          refine sv_iinc (d := (1 : Int)) hM dX12_prepare_86 rfl (by decide) rfl rfl ?_
          show sv_T sm_XS sm_cs sm_L sm_sh 4 (q_prepare p1 p3 p5 S) 283 89 [(0, .ref 0), (1, sv_L p1), (3, sv_L p3), (5, sv_I p5), (6, sv_L l6_9), (8, sv_L l8_10), (10, sv_I (l10_11 + (1 : Int)))] [] (sv_sts S [68, 69, 70, 81, 82, 83, 84, 85, 86, 74, 78, 79, 80, 76, 77, 1100031] g4)
          refine sv_goto hM dX12_prepare_89 (pc' := 24) rfl ?_
          obtain ⟨o182, h⟩ := h
          have hb := ih12 (l6_9, l8_10, (l10_11 + (1 : Int)), ()) ⟨hl6_9, hl8_10, o182, ok178, h.1⟩ h.2
          exact sv_less (lv := [(0, .ref 0), (1, sv_L p1), (3, sv_L p3), (5, sv_I p5), (6, sv_L l6_9), (8, sv_L l8_10), (10, sv_I (l10_11 + (1 : Int)))]) (sv_Sub_cons rfl (sv_Sub_cons rfl (sv_Sub_cons rfl (sv_Sub_cons rfl (sv_Sub_cons rfl (sv_Sub_cons rfl (sv_Sub_cons rfl sv_Sub_nil))))))) hb
        · have h := h.2 (hc)
          refine sv_aload_n hM dX12_prepare_43 rfl rfl ?_
          refine sv_iload hM dX12_prepare_44 rfl rfl ?_
          obtain ⟨o183, h⟩ := h
          refine sv_callV hM dX12_prepare_46 sm_iv_1326 (by decide) (sm_a0 _) rfl rfl (Nat.le_of_ble_eq_true rfl) sm_h238 (Nat.le_of_ble_eq_true rfl) (Nat.le_of_ble_eq_true rfl) (F' := 1) (Nat.le_of_ble_eq_true rfl) rfl (t_codeOfLabel l10_11 (sv_sts S [68, 69, 70, 81, 82, 83, 84, 85, 86, 74, 78, 79, 80, 76, 77, 1100031] g4) ok178 hl10_11 o183) (fun v S1 hq => ?_)
          obtain ⟨r188, rfl, hr188, ok185, md186, hpo187⟩ := hq
          obtain rfl : (sv_sts S [68, 69, 70, 81, 82, 83, 84, 85, 86, 74, 78, 79, 80, 76, 77, 1100031] g4) = S1 := (funext fun j => md186 j (by intro q; cases q)).symm
          show sv_T sm_XS sm_cs sm_L sm_sh 4 (q_prepare p1 p3 p5 S) 283 49 [(0, .ref 0), (1, sv_L p1), (3, sv_L p3), (5, sv_I p5), (6, sv_L l6_9), (8, sv_L l8_10), (10, sv_I l10_11)] [sv_I r188] (sv_sts S [68, 69, 70, 81, 82, 83, 84, 85, 86, 74, 78, 79, 80, 76, 77, 1100031] g4)
          have h := h r188 hr188 hpo187
          refine sv_cond_ne hM dX12_prepare_49 hr188 (t := 55) rfl rfl (fun hc => ?_) (fun hc => ?_)
          · have h := h.1 (hc)
            refine sv_iload hM dX12_prepare_55 rfl rfl ?_
            refine sv_bipush (d := (64 : Int)) hM dX12_prepare_57 rfl rfl ?_
            refine sv_icmp_ge hM dX12_prepare_59 hl10_11 (⟨by decide, by decide⟩ : sv_R (64 : Int)) (t := 74) rfl rfl (fun hc => ?_) (fun hc => ?_)
            · have h := h.1 (hc)
              refine sv_lload hM dX12_prepare_74 rfl rfl ?_
              refine sv_lconst (d := (1 : Int)) hM dX12_prepare_76 rfl rfl ?_
              refine sv_iload hM dX12_prepare_77 rfl rfl ?_
              refine sv_bipush (d := (64 : Int)) hM dX12_prepare_79 rfl rfl ?_
              refine sv_isub hM dX12_prepare_81 rfl ?_
              refine sv_anyL hM dX12_prepare_82 rfl rfl (fun r189 hr189 _ => ?_)
              have h := h r189 hr189
              refine sv_anyL hM dX12_prepare_83 rfl rfl (fun r190 hr190 _ => ?_)
              have h := h r190 hr190
              refine sv_lstore hM dX12_prepare_84 (by decide) rfl ?_
              show sv_T sm_XS sm_cs sm_L sm_sh 4 (q_prepare p1 p3 p5 S) 283 86 [(0, .ref 0), (1, sv_L p1), (3, sv_L p3), (5, sv_I p5), (6, sv_L l6_9), (8, sv_L r190), (10, sv_I l10_11)] [] (sv_sts S [68, 69, 70, 81, 82, 83, 84, 85, 86, 74, 78, 79, 80, 76, 77, 1100031] g4)
              refine sv_iinc (d := (1 : Int)) hM dX12_prepare_86 rfl (by decide) rfl rfl ?_
              show sv_T sm_XS sm_cs sm_L sm_sh 4 (q_prepare p1 p3 p5 S) 283 89 [(0, .ref 0), (1, sv_L p1), (3, sv_L p3), (5, sv_I p5), (6, sv_L l6_9), (8, sv_L r190), (10, sv_I (l10_11 + (1 : Int)))] [] (sv_sts S [68, 69, 70, 81, 82, 83, 84, 85, 86, 74, 78, 79, 80, 76, 77, 1100031] g4)
              refine sv_goto hM dX12_prepare_89 (pc' := 24) rfl ?_
              obtain ⟨o191, h⟩ := h
              have hb := ih12 (l6_9, r190, (l10_11 + (1 : Int)), ()) ⟨hl6_9, hr190, o191, ok185, h.1⟩ h.2
              exact sv_less (lv := [(0, .ref 0), (1, sv_L p1), (3, sv_L p3), (5, sv_I p5), (6, sv_L l6_9), (8, sv_L r190), (10, sv_I (l10_11 + (1 : Int)))]) (sv_Sub_cons rfl (sv_Sub_cons rfl (sv_Sub_cons rfl (sv_Sub_cons rfl (sv_Sub_cons rfl (sv_Sub_cons rfl (sv_Sub_cons rfl sv_Sub_nil))))))) hb
            · have h := h.2 (hc)
              refine sv_lload hM dX12_prepare_62 rfl rfl ?_
              refine sv_lconst (d := (1 : Int)) hM dX12_prepare_64 rfl rfl ?_
              refine sv_iload hM dX12_prepare_65 rfl rfl ?_
              refine sv_anyL hM dX12_prepare_67 rfl rfl (fun r192 hr192 _ => ?_)
              have h := h r192 hr192
              refine sv_anyL hM dX12_prepare_68 rfl rfl (fun r193 hr193 _ => ?_)
              have h := h r193 hr193
              refine sv_lstore hM dX12_prepare_69 (by decide) rfl ?_
              show sv_T sm_XS sm_cs sm_L sm_sh 4 (q_prepare p1 p3 p5 S) 283 71 [(0, .ref 0), (1, sv_L p1), (3, sv_L p3), (5, sv_I p5), (6, sv_L r193), (8, sv_L l8_10), (10, sv_I l10_11)] [] (sv_sts S [68, 69, 70, 81, 82, 83, 84, 85, 86, 74, 78, 79, 80, 76, 77, 1100031] g4)
              refine sv_goto hM dX12_prepare_71 (pc' := 86) rfl ?_
              refine sv_iinc (d := (1 : Int)) hM dX12_prepare_86 rfl (by decide) rfl rfl ?_
              show sv_T sm_XS sm_cs sm_L sm_sh 4 (q_prepare p1 p3 p5 S) 283 89 [(0, .ref 0), (1, sv_L p1), (3, sv_L p3), (5, sv_I p5), (6, sv_L r193), (8, sv_L l8_10), (10, sv_I (l10_11 + (1 : Int)))] [] (sv_sts S [68, 69, 70, 81, 82, 83, 84, 85, 86, 74, 78, 79, 80, 76, 77, 1100031] g4)
              refine sv_goto hM dX12_prepare_89 (pc' := 24) rfl ?_
              obtain ⟨o194, h⟩ := h
              have hb := ih12 (r193, l8_10, (l10_11 + (1 : Int)), ()) ⟨hr193, hl8_10, o194, ok185, h.1⟩ h.2
              exact sv_less (lv := [(0, .ref 0), (1, sv_L p1), (3, sv_L p3), (5, sv_I p5), (6, sv_L r193), (8, sv_L l8_10), (10, sv_I (l10_11 + (1 : Int)))]) (sv_Sub_cons rfl (sv_Sub_cons rfl (sv_Sub_cons rfl (sv_Sub_cons rfl (sv_Sub_cons rfl (sv_Sub_cons rfl (sv_Sub_cons rfl sv_Sub_nil))))))) hb
          · have h := h.2 (hc)
            refine sv_goto hM dX12_prepare_52 (pc' := 86) rfl ?_
            refine sv_iinc (d := (1 : Int)) hM dX12_prepare_86 rfl (by decide) rfl rfl ?_
            show sv_T sm_XS sm_cs sm_L sm_sh 4 (q_prepare p1 p3 p5 S) 283 89 [(0, .ref 0), (1, sv_L p1), (3, sv_L p3), (5, sv_I p5), (6, sv_L l6_9), (8, sv_L l8_10), (10, sv_I (l10_11 + (1 : Int)))] [] (sv_sts S [68, 69, 70, 81, 82, 83, 84, 85, 86, 74, 78, 79, 80, 76, 77, 1100031] g4)
            refine sv_goto hM dX12_prepare_89 (pc' := 24) rfl ?_
            obtain ⟨o195, h⟩ := h
            have hb := ih12 (l6_9, l8_10, (l10_11 + (1 : Int)), ()) ⟨hl6_9, hl8_10, o195, ok185, h.1⟩ h.2
            exact sv_less (lv := [(0, .ref 0), (1, sv_L p1), (3, sv_L p3), (5, sv_I p5), (6, sv_L l6_9), (8, sv_L l8_10), (10, sv_I (l10_11 + (1 : Int)))]) (sv_Sub_cons rfl (sv_Sub_cons rfl (sv_Sub_cons rfl (sv_Sub_cons rfl (sv_Sub_cons rfl (sv_Sub_cons rfl (sv_Sub_cons rfl sv_Sub_nil))))))) hb
    exact hJ ((0 : Int), (0 : Int), (0 : Int), ()) ⟨(⟨by decide, by decide⟩ : sv_RL (0 : Int)), (⟨by decide, by decide⟩ : sv_RL (0 : Int)), (⟨by decide, by decide⟩ : sv_R (0 : Int)), ok5, hin13⟩
  · have h := h.2 (hc)
    exact sv_vret hM dX12_prepare_14 rfl ⟨rfl, ok5, md8, h⟩
