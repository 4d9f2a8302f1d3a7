theorem dX12_ways_0 : decode cX12_ways 0 = .ok (.aload_n 0, 1) := by decide +kernel
theorem dX12_ways_1 : decode cX12_ways 1 = .ok (.iload_n 1, 1) := by decide +kernel
theorem dX12_ways_2 : decode cX12_ways 2 = .ok (.putfield 1188, 3) := by decide +kernel
theorem dX12_ways_5 : decode cX12_ways 5 = .ok (.aload_n 0, 1) := by decide +kernel
theorem dX12_ways_6 : decode cX12_ways 6 = .ok (.iconst 0, 1) := by decide +kernel
theorem dX12_ways_7 : decode cX12_ways 7 = .ok (.putfield 1208, 3) := by decide +kernel
theorem dX12_ways_10 : decode cX12_ways 10 = .ok (.aload_n 0, 1) := by decide +kernel
theorem dX12_ways_11 : decode cX12_ways 11 = .ok (.iconst 0, 1) := by decide +kernel
theorem dX12_ways_12 : decode cX12_ways 12 = .ok (.putfield 1185, 3) := by decide +kernel
theorem dX12_ways_15 : decode cX12_ways 15 = .ok (.aload_n 0, 1) := by decide +kernel
theorem dX12_ways_16 : decode cX12_ways 16 = .ok (.iconst 0, 1) := by decide +kernel
theorem dX12_ways_17 : decode cX12_ways 17 = .ok (.putfield 1178, 3) := by decide +kernel
theorem dX12_ways_20 : decode cX12_ways 20 = .ok (.aload_n 0, 1) := by decide +kernel
theorem dX12_ways_21 : decode cX12_ways 21 = .ok (.iload_n 1, 1) := by decide +kernel
theorem dX12_ways_22 : decode cX12_ways 22 = .ok (.invokevirtual 1211, 3) := by decide +kernel
theorem dX12_ways_25 : decode cX12_ways 25 = .ok (.aload_n 0, 1) := by decide +kernel
theorem dX12_ways_26 : decode cX12_ways 26 = .ok (.getfield 92, 3) := by decide +kernel
theorem dX12_ways_29 : decode cX12_ways 29 = .ok (.iload_n 1, 1) := by decide +kernel
theorem dX12_ways_30 : decode cX12_ways 30 = .ok (.iaload, 1) := by decide +kernel
theorem dX12_ways_31 : decode cX12_ways 31 = .ok (.istore_n 2, 1) := by decide +kernel
theorem dX12_ways_32 : decode cX12_ways 32 = .ok (.aload_n 0, 1) := by decide +kernel
theorem dX12_ways_33 : decode cX12_ways 33 = .ok (.getfield 95, 3) := by decide +kernel
theorem dX12_ways_36 : decode cX12_ways 36 = .ok (.iload_n 1, 1) := by decide +kernel
theorem dX12_ways_37 : decode cX12_ways 37 = .ok (.iaload, 1) := by decide +kernel
theorem dX12_ways_38 : decode cX12_ways 38 = .ok (.istore_n 3, 1) := by decide +kernel
theorem dX12_ways_39 : decode cX12_ways 39 = .ok (.ldc_w 1218, 3) := by decide +kernel
theorem dX12_ways_42 : decode cX12_ways 42 = .ok (.istore 4, 2) := by decide +kernel
theorem dX12_ways_44 : decode cX12_ways 44 = .ok (.aload_n 0, 1) := by decide +kernel
theorem dX12_ways_45 : decode cX12_ways 45 = .ok (.getfield 89, 3) := by decide +kernel
theorem dX12_ways_48 : decode cX12_ways 48 = .ok (.iload_n 1, 1) := by decide +kernel
theorem dX12_ways_49 : decode cX12_ways 49 = .ok (.iaload, 1) := by decide +kernel
theorem dX12_ways_50 : decode cX12_ways 50 = .ok (.tableswitch 604 0 16 #[82, 113, 225, 273, 296, 273, 325, 347, 347, 416, 536, 543, 550, 557, 579, 587, 595], 82) := by decide +kernel
theorem dX12_ways_132 : decode cX12_ways 132 = .ok (.aload_n 0, 1) := by decide +kernel
theorem dX12_ways_133 : decode cX12_ways 133 = .ok (.iload 4, 2) := by decide +kernel
theorem dX12_ways_135 : decode cX12_ways 135 = .ok (.invokevirtual 1066, 3) := by decide +kernel
theorem dX12_ways_138 : decode cX12_ways 138 = .ok (.aload_n 0, 1) := by decide +kernel
theorem dX12_ways_139 : decode cX12_ways 139 = .ok (.iload 4, 2) := by decide +kernel
theorem dX12_ways_141 : decode cX12_ways 141 = .ok (.iload_n 2, 1) := by decide +kernel
theorem dX12_ways_142 : decode cX12_ways 142 = .ok (.iload_n 3, 1) := by decide +kernel
theorem dX12_ways_143 : decode cX12_ways 143 = .ok (.invokevirtual 1219, 3) := by decide +kernel
theorem dX12_ways_146 : decode cX12_ways 146 = .ok (.aload_n 0, 1) := by decide +kernel
theorem dX12_ways_147 : decode cX12_ways 147 = .ok (.iload 4, 2) := by decide +kernel
theorem dX12_ways_149 : decode cX12_ways 149 = .ok (.aload_n 0, 1) := by decide +kernel
theorem dX12_ways_150 : decode cX12_ways 150 = .ok (.invokevirtual 1201, 3) := by decide +kernel
theorem dX12_ways_153 : decode cX12_ways 153 = .ok (.invokevirtual 1092, 3) := by decide +kernel
theorem dX12_ways_156 : decode cX12_ways 156 = .ok (.aload_n 0, 1) := by decide +kernel
theorem dX12_ways_157 : decode cX12_ways 157 = .ok (.invokevirtual 1222, 3) := by decide +kernel
theorem dX12_ways_160 : decode cX12_ways 160 = .ok (.goto 505, 3) := by decide +kernel
theorem dX12_ways_163 : decode cX12_ways 163 = .ok (.aload_n 0, 1) := by decide +kernel
theorem dX12_ways_164 : decode cX12_ways 164 = .ok (.iload_n 2, 1) := by decide +kernel
theorem dX12_ways_165 : decode cX12_ways 165 = .ok (.iload 4, 2) := by decide +kernel
theorem dX12_ways_167 : decode cX12_ways 167 = .ok (.invokevirtual 1225, 3) := by decide +kernel
theorem dX12_ways_170 : decode cX12_ways 170 = .ok (.aload_n 0, 1) := by decide +kernel
theorem dX12_ways_171 : decode cX12_ways 171 = .ok (.invokevirtual 1135, 3) := by decide +kernel
theorem dX12_ways_174 : decode cX12_ways 174 = .ok (.aload_n 0, 1) := by decide +kernel
theorem dX12_ways_175 : decode cX12_ways 175 = .ok (.iload_n 3, 1) := by decide +kernel
theorem dX12_ways_176 : decode cX12_ways 176 = .ok (.invokevirtual 1138, 3) := by decide +kernel
theorem dX12_ways_179 : decode cX12_ways 179 = .ok (.aload_n 0, 1) := by decide +kernel
theorem dX12_ways_180 : decode cX12_ways 180 = .ok (.iload 4, 2) := by decide +kernel
theorem dX12_ways_182 : decode cX12_ways 182 = .ok (.iconst 1, 1) := by decide +kernel
theorem dX12_ways_183 : decode cX12_ways 183 = .ok (.iadd, 1) := by decide +kernel
theorem dX12_ways_184 : decode cX12_ways 184 = .ok (.invokevirtual 1066, 3) := by decide +kernel
theorem dX12_ways_187 : decode cX12_ways 187 = .ok (.iconst 0, 1) := by decide +kernel
theorem dX12_ways_188 : decode cX12_ways 188 = .ok (.istore 5, 2) := by decide +kernel
theorem dX12_ways_190 : decode cX12_ways 190 = .ok (.iload 5, 2) := by decide +kernel
theorem dX12_ways_192 : decode cX12_ways 192 = .ok (.aload_n 0, 1) := by decide +kernel
theorem dX12_ways_193 : decode cX12_ways 193 = .ok (.getfield 765, 3) := by decide +kernel
theorem dX12_ways_196 : decode cX12_ways 196 = .ok (.if_icmp .ge 49, 3) := by decide +kernel
theorem dX12_ways_199 : decode cX12_ways 199 = .ok (.aload_n 0, 1) := by decide +kernel
theorem dX12_ways_200 : decode cX12_ways 200 = .ok (.getfield 220, 3) := by decide +kernel
theorem dX12_ways_203 : decode cX12_ways 203 = .ok (.iload 4, 2) := by decide +kernel
theorem dX12_ways_205 : decode cX12_ways 205 = .ok (.laload, 1) := by decide +kernel
theorem dX12_ways_206 : decode cX12_ways 206 = .ok (.aload_n 0, 1) := by decide +kernel
theorem dX12_ways_207 : decode cX12_ways 207 = .ok (.getfield 223, 3) := by decide +kernel
theorem dX12_ways_210 : decode cX12_ways 210 = .ok (.iload 4, 2) := by decide +kernel
theorem dX12_ways_212 : decode cX12_ways 212 = .ok (.laload, 1) := by decide +kernel
theorem dX12_ways_213 : decode cX12_ways 213 = .ok (.iload 5, 2) := by decide +kernel
theorem dX12_ways_215 : decode cX12_ways 215 = .ok (.invokestatic 1125, 3) := by decide +kernel
theorem dX12_ways_218 : decode cX12_ways 218 = .ok (.ifCond .eq 21, 3) := by decide +kernel
theorem dX12_ways_221 : decode cX12_ways 221 = .ok (.aload_n 0, 1) := by decide +kernel
theorem dX12_ways_222 : decode cX12_ways 222 = .ok (.aload_n 0, 1) := by decide +kernel
theorem dX12_ways_223 : decode cX12_ways 223 = .ok (.sipush 639, 3) := by decide +kernel
theorem dX12_ways_226 : decode cX12_ways 226 = .ok (.iload 5, 2) := by decide +kernel
theorem dX12_ways_228 : decode cX12_ways 228 = .ok (.iload_n 3, 1) := by decide +kernel
theorem dX12_ways_229 : decode cX12_ways 229 = .ok (.invokevirtual 1163, 3) := by decide +kernel
theorem dX12_ways_232 : decode cX12_ways 232 = .ok (.iload 4, 2) := by decide +kernel
theorem dX12_ways_234 : decode cX12_ways 234 = .ok (.iconst 1, 1) := by decide +kernel
theorem dX12_ways_235 : decode cX12_ways 235 = .ok (.iadd, 1) := by decide +kernel
theorem dX12_ways_236 : decode cX12_ways 236 = .ok (.invokevirtual 1228, 3) := by decide +kernel
theorem dX12_ways_239 : decode cX12_ways 239 = .ok (.iinc 5 1, 3) := by decide +kernel
theorem dX12_ways_242 : decode cX12_ways 242 = .ok (.goto (-52), 3) := by decide +kernel
theorem dX12_ways_245 : decode cX12_ways 245 = .ok (.aload_n 0, 1) := by decide +kernel
theorem dX12_ways_246 : decode cX12_ways 246 = .ok (.iload 4, 2) := by decide +kernel
theorem dX12_ways_248 : decode cX12_ways 248 = .ok (.iconst 1, 1) := by decide +kernel
theorem dX12_ways_249 : decode cX12_ways 249 = .ok (.iadd, 1) := by decide +kernel
theorem dX12_ways_250 : decode cX12_ways 250 = .ok (.aload_n 0, 1) := by decide +kernel
theorem dX12_ways_251 : decode cX12_ways 251 = .ok (.invokevirtual 1201, 3) := by decide +kernel
theorem dX12_ways_254 : decode cX12_ways 254 = .ok (.invokevirtual 1092, 3) := by decide +kernel
theorem dX12_ways_257 : decode cX12_ways 257 = .ok (.aload_n 0, 1) := by decide +kernel
theorem dX12_ways_258 : decode cX12_ways 258 = .ok (.iload 4, 2) := by decide +kernel
theorem dX12_ways_260 : decode cX12_ways 260 = .ok (.iconst 1, 1) := by decide +kernel
theorem dX12_ways_261 : decode cX12_ways 261 = .ok (.iadd, 1) := by decide +kernel
theorem dX12_ways_262 : decode cX12_ways 262 = .ok (.invokevirtual 1231, 3) := by decide +kernel
theorem dX12_ways_265 : decode cX12_ways 265 = .ok (.ifCond .ne 400, 3) := by decide +kernel
theorem dX12_ways_268 : decode cX12_ways 268 = .ok (.aload_n 0, 1) := by decide +kernel
theorem dX12_ways_269 : decode cX12_ways 269 = .ok (.invokevirtual 1222, 3) := by decide +kernel
theorem dX12_ways_272 : decode cX12_ways 272 = .ok (.goto 393, 3) := by decide +kernel
theorem dX12_ways_275 : decode cX12_ways 275 = .ok (.aload_n 0, 1) := by decide +kernel
theorem dX12_ways_276 : decode cX12_ways 276 = .ok (.iload_n 2, 1) := by decide +kernel
theorem dX12_ways_277 : decode cX12_ways 277 = .ok (.iload 4, 2) := by decide +kernel
theorem dX12_ways_279 : decode cX12_ways 279 = .ok (.invokevirtual 1225, 3) := by decide +kernel
theorem dX12_ways_282 : decode cX12_ways 282 = .ok (.aload_n 0, 1) := by decide +kernel
theorem dX12_ways_283 : decode cX12_ways 283 = .ok (.invokevirtual 1135, 3) := by decide +kernel
theorem dX12_ways_286 : decode cX12_ways 286 = .ok (.aload_n 0, 1) := by decide +kernel
theorem dX12_ways_287 : decode cX12_ways 287 = .ok (.iload_n 3, 1) := by decide +kernel
theorem dX12_ways_288 : decode cX12_ways 288 = .ok (.invokevirtual 1138, 3) := by decide +kernel
theorem dX12_ways_291 : decode cX12_ways 291 = .ok (.aload_n 0, 1) := by decide +kernel
theorem dX12_ways_292 : decode cX12_ways 292 = .ok (.aload_n 0, 1) := by decide +kernel
theorem dX12_ways_293 : decode cX12_ways 293 = .ok (.getfield 220, 3) := by decide +kernel
theorem dX12_ways_296 : decode cX12_ways 296 = .ok (.iload 4, 2) := by decide +kernel
theorem dX12_ways_298 : decode cX12_ways 298 = .ok (.laload, 1) := by decide +kernel
theorem dX12_ways_299 : decode cX12_ways 299 = .ok (.aload_n 0, 1) := by decide +kernel
theorem dX12_ways_300 : decode cX12_ways 300 = .ok (.getfield 223, 3) := by decide +kernel
theorem dX12_ways_303 : decode cX12_ways 303 = .ok (.iload 4, 2) := by decide +kernel
theorem dX12_ways_305 : decode cX12_ways 305 = .ok (.laload, 1) := by decide +kernel
theorem dX12_ways_306 : decode cX12_ways 306 = .ok (.aload_n 0, 1) := by decide +kernel
theorem dX12_ways_307 : decode cX12_ways 307 = .ok (.iconst 0, 1) := by decide +kernel
theorem dX12_ways_308 : decode cX12_ways 308 = .ok (.invokevirtual 1195, 3) := by decide +kernel
theorem dX12_ways_311 : decode cX12_ways 311 = .ok (.iconst 1, 1) := by decide +kernel
theorem dX12_ways_312 : decode cX12_ways 312 = .ok (.iconst 0, 1) := by decide +kernel
theorem dX12_ways_313 : decode cX12_ways 313 = .ok (.invokevirtual 1234, 3) := by decide +kernel
theorem dX12_ways_316 : decode cX12_ways 316 = .ok (.aload_n 0, 1) := by decide +kernel
theorem dX12_ways_317 : decode cX12_ways 317 = .ok (.invokevirtual 1222, 3) := by decide +kernel
theorem dX12_ways_320 : decode cX12_ways 320 = .ok (.goto 345, 3) := by decide +kernel
theorem dX12_ways_323 : decode cX12_ways 323 = .ok (.aload_n 0, 1) := by decide +kernel
theorem dX12_ways_324 : decode cX12_ways 324 = .ok (.iload_n 3, 1) := by decide +kernel
theorem dX12_ways_325 : decode cX12_ways 325 = .ok (.aload_n 0, 1) := by decide +kernel
theorem dX12_ways_326 : decode cX12_ways 326 = .ok (.getfield 89, 3) := by decide +kernel
theorem dX12_ways_329 : decode cX12_ways 329 = .ok (.iload_n 1, 1) := by decide +kernel
theorem dX12_ways_330 : decode cX12_ways 330 = .ok (.iaload, 1) := by decide +kernel
theorem dX12_ways_331 : decode cX12_ways 331 = .ok (.iconst 3, 1) := by decide +kernel
theorem dX12_ways_332 : decode cX12_ways 332 = .ok (.if_icmp .ne 7, 3) := by decide +kernel
theorem dX12_ways_335 : decode cX12_ways 335 = .ok (.iconst 1, 1) := by decide +kernel
theorem dX12_ways_336 : decode cX12_ways 336 = .ok (.goto 4, 3) := by decide +kernel
theorem dX12_ways_339 : decode cX12_ways 339 = .ok (.iconst 0, 1) := by decide +kernel
theorem dX12_ways_340 : decode cX12_ways 340 = .ok (.invokevirtual 1238, 3) := by decide +kernel
theorem dX12_ways_343 : decode cX12_ways 343 = .ok (.goto 322, 3) := by decide +kernel
theorem dX12_ways_346 : decode cX12_ways 346 = .ok (.aload_n 0, 1) := by decide +kernel
theorem dX12_ways_347 : decode cX12_ways 347 = .ok (.invokevirtual 1135, 3) := by decide +kernel
theorem dX12_ways_350 : decode cX12_ways 350 = .ok (.aload_n 0, 1) := by decide +kernel
theorem dX12_ways_351 : decode cX12_ways 351 = .ok (.iload_n 3, 1) := by decide +kernel
theorem dX12_ways_352 : decode cX12_ways 352 = .ok (.invokevirtual 1138, 3) := by decide +kernel
theorem dX12_ways_355 : decode cX12_ways 355 = .ok (.aload_n 0, 1) := by decide +kernel
theorem dX12_ways_356 : decode cX12_ways 356 = .ok (.lconst 1, 1) := by decide +kernel
theorem dX12_ways_357 : decode cX12_ways 357 = .ok (.lconst 0, 1) := by decide +kernel
theorem dX12_ways_358 : decode cX12_ways 358 = .ok (.aload_n 0, 1) := by decide +kernel
theorem dX12_ways_359 : decode cX12_ways 359 = .ok (.iconst 0, 1) := by decide +kernel
theorem dX12_ways_360 : decode cX12_ways 360 = .ok (.invokevirtual 1195, 3) := by decide +kernel
theorem dX12_ways_363 : decode cX12_ways 363 = .ok (.iconst 1, 1) := by decide +kernel
theorem dX12_ways_364 : decode cX12_ways 364 = .ok (.iconst 0, 1) := by decide +kernel
theorem dX12_ways_365 : decode cX12_ways 365 = .ok (.invokevirtual 1234, 3) := by decide +kernel
theorem dX12_ways_368 : decode cX12_ways 368 = .ok (.aload_n 0, 1) := by decide +kernel
theorem dX12_ways_369 : decode cX12_ways 369 = .ok (.invokevirtual 1222, 3) := by decide +kernel
theorem dX12_ways_372 : decode cX12_ways 372 = .ok (.goto 293, 3) := by decide +kernel
theorem dX12_ways_375 : decode cX12_ways 375 = .ok (.aload_n 0, 1) := by decide +kernel
theorem dX12_ways_376 : decode cX12_ways 376 = .ok (.aload_n 0, 1) := by decide +kernel
theorem dX12_ways_377 : decode cX12_ways 377 = .ok (.sipush 639, 3) := by decide +kernel
theorem dX12_ways_380 : decode cX12_ways 380 = .ok (.invokevirtual 1098, 3) := by decide +kernel
theorem dX12_ways_383 : decode cX12_ways 383 = .ok (.aload_n 0, 1) := by decide +kernel
theorem dX12_ways_384 : decode cX12_ways 384 = .ok (.invokevirtual 1201, 3) := by decide +kernel
theorem dX12_ways_387 : decode cX12_ways 387 = .ok (.invokevirtual 1092, 3) := by decide +kernel
theorem dX12_ways_390 : decode cX12_ways 390 = .ok (.aload_n 0, 1) := by decide +kernel
theorem dX12_ways_391 : decode cX12_ways 391 = .ok (.invokevirtual 1222, 3) := by decide +kernel
theorem dX12_ways_394 : decode cX12_ways 394 = .ok (.goto 271, 3) := by decide +kernel
theorem dX12_ways_397 : decode cX12_ways 397 = .ok (.aload_n 0, 1) := by decide +kernel
theorem dX12_ways_398 : decode cX12_ways 398 = .ok (.iload_n 2, 1) := by decide +kernel
theorem dX12_ways_399 : decode cX12_ways 399 = .ok (.invokevirtual 920, 3) := by decide +kernel
theorem dX12_ways_402 : decode cX12_ways 402 = .ok (.istore 5, 2) := by decide +kernel
theorem dX12_ways_404 : decode cX12_ways 404 = .ok (.aload_n 0, 1) := by decide +kernel
theorem dX12_ways_405 : decode cX12_ways 405 = .ok (.iload 5, 2) := by decide +kernel
theorem dX12_ways_407 : decode cX12_ways 407 = .ok (.aload_n 0, 1) := by decide +kernel
theorem dX12_ways_408 : decode cX12_ways 408 = .ok (.getfield 89, 3) := by decide +kernel
theorem dX12_ways_411 : decode cX12_ways 411 = .ok (.iload_n 1, 1) := by decide +kernel
theorem dX12_ways_412 : decode cX12_ways 412 = .ok (.iaload, 1) := by decide +kernel
theorem dX12_ways_413 : decode cX12_ways 413 = .ok (.bipush 7, 2) := by decide +kernel
theorem dX12_ways_415 : decode cX12_ways 415 = .ok (.if_icmp .ne 7, 3) := by decide +kernel
theorem dX12_ways_418 : decode cX12_ways 418 = .ok (.iconst 1, 1) := by decide +kernel
theorem dX12_ways_419 : decode cX12_ways 419 = .ok (.goto 4, 3) := by decide +kernel
theorem dX12_ways_422 : decode cX12_ways 422 = .ok (.iconst 3, 1) := by decide +kernel
theorem dX12_ways_423 : decode cX12_ways 423 = .ok (.invokevirtual 1241, 3) := by decide +kernel
theorem dX12_ways_426 : decode cX12_ways 426 = .ok (.aload_n 0, 1) := by decide +kernel
theorem dX12_ways_427 : decode cX12_ways 427 = .ok (.getfield 89, 3) := by decide +kernel
theorem dX12_ways_430 : decode cX12_ways 430 = .ok (.iload_n 1, 1) := by decide +kernel
theorem dX12_ways_431 : decode cX12_ways 431 = .ok (.iaload, 1) := by decide +kernel
theorem dX12_ways_432 : decode cX12_ways 432 = .ok (.bipush 8, 2) := by decide +kernel
theorem dX12_ways_434 : decode cX12_ways 434 = .ok (.if_icmp .ne 15, 3) := by decide +kernel
theorem dX12_ways_437 : decode cX12_ways 437 = .ok (.aload_n 0, 1) := by decide +kernel
theorem dX12_ways_438 : decode cX12_ways 438 = .ok (.aload_n 0, 1) := by decide +kernel
theorem dX12_ways_439 : decode cX12_ways 439 = .ok (.iload 5, 2) := by decide +kernel
theorem dX12_ways_441 : decode cX12_ways 441 = .ok (.iconst 0, 1) := by decide +kernel
theorem dX12_ways_442 : decode cX12_ways 442 = .ok (.invokevirtual 1244, 3) := by decide +kernel
theorem dX12_ways_445 : decode cX12_ways 445 = .ok (.iconst 0, 1) := by decide +kernel
theorem dX12_ways_446 : decode cX12_ways 446 = .ok (.invokevirtual 1075, 3) := by decide +kernel
theorem dX12_ways_449 : decode cX12_ways 449 = .ok (.aload_n 0, 1) := by decide +kernel
theorem dX12_ways_450 : decode cX12_ways 450 = .ok (.aload_n 0, 1) := by decide +kernel
theorem dX12_ways_451 : decode cX12_ways 451 = .ok (.invokevirtual 1201, 3) := by decide +kernel
theorem dX12_ways_454 : decode cX12_ways 454 = .ok (.iload 5, 2) := by decide +kernel
theorem dX12_ways_456 : decode cX12_ways 456 = .ok (.invokevirtual 1081, 3) := by decide +kernel
theorem dX12_ways_459 : decode cX12_ways 459 = .ok (.aload_n 0, 1) := by decide +kernel
theorem dX12_ways_460 : decode cX12_ways 460 = .ok (.invokevirtual 1222, 3) := by decide +kernel
theorem dX12_ways_463 : decode cX12_ways 463 = .ok (.goto 202, 3) := by decide +kernel
theorem dX12_ways_466 : decode cX12_ways 466 = .ok (.bipush 29, 2) := by decide +kernel
theorem dX12_ways_468 : decode cX12_ways 468 = .ok (.bipush 6, 2) := by decide +kernel
theorem dX12_ways_470 : decode cX12_ways 470 = .ok (.iload_n 2, 1) := by decide +kernel
theorem dX12_ways_471 : decode cX12_ways 471 = .ok (.iconst 1, 1) := by decide +kernel
theorem dX12_ways_472 : decode cX12_ways 472 = .ok (.isub, 1) := by decide +kernel
theorem dX12_ways_473 : decode cX12_ways 473 = .ok (.imul, 1) := by decide +kernel
theorem dX12_ways_474 : decode cX12_ways 474 = .ok (.iadd, 1) := by decide +kernel
theorem dX12_ways_475 : decode cX12_ways 475 = .ok (.iconst 2, 1) := by decide +kernel
theorem dX12_ways_476 : decode cX12_ways 476 = .ok (.iadd, 1) := by decide +kernel
theorem dX12_ways_477 : decode cX12_ways 477 = .ok (.istore 5, 2) := by decide +kernel
theorem dX12_ways_479 : decode cX12_ways 479 = .ok (.aload_n 0, 1) := by decide +kernel
theorem dX12_ways_480 : decode cX12_ways 480 = .ok (.iload 5, 2) := by decide +kernel
theorem dX12_ways_482 : decode cX12_ways 482 = .ok (.iconst 2, 1) := by decide +kernel
theorem dX12_ways_483 : decode cX12_ways 483 = .ok (.invokevirtual 1241, 3) := by decide +kernel
theorem dX12_ways_486 : decode cX12_ways 486 = .ok (.aload_n 0, 1) := by decide +kernel
theorem dX12_ways_487 : decode cX12_ways 487 = .ok (.iload 5, 2) := by decide +kernel
theorem dX12_ways_489 : decode cX12_ways 489 = .ok (.iconst 2, 1) := by decide +kernel
theorem dX12_ways_490 : decode cX12_ways 490 = .ok (.iadd, 1) := by decide +kernel
theorem dX12_ways_491 : decode cX12_ways 491 = .ok (.iconst 1, 1) := by decide +kernel
theorem dX12_ways_492 : decode cX12_ways 492 = .ok (.invokevirtual 1241, 3) := by decide +kernel
theorem dX12_ways_495 : decode cX12_ways 495 = .ok (.aload_n 0, 1) := by decide +kernel
theorem dX12_ways_496 : decode cX12_ways 496 = .ok (.getfield 268, 3) := by decide +kernel
theorem dX12_ways_499 : decode cX12_ways 499 = .ok (.aload_n 0, 1) := by decide +kernel
theorem dX12_ways_500 : decode cX12_ways 500 = .ok (.sipush 639, 3) := by decide +kernel
theorem dX12_ways_503 : decode cX12_ways 503 = .ok (.iload 5, 2) := by decide +kernel
theorem dX12_ways_505 : decode cX12_ways 505 = .ok (.invokevirtual 1101, 3) := by decide +kernel
theorem dX12_ways_508 : decode cX12_ways 508 = .ok (.aload_n 0, 1) := by decide +kernel
theorem dX12_ways_509 : decode cX12_ways 509 = .ok (.getfield 241, 3) := by decide +kernel
theorem dX12_ways_512 : decode cX12_ways 512 = .ok (.sipush 639, 3) := by decide +kernel
theorem dX12_ways_515 : decode cX12_ways 515 = .ok (.laload, 1) := by decide +kernel
theorem dX12_ways_516 : decode cX12_ways 516 = .ok (.lastore, 1) := by decide +kernel
theorem dX12_ways_517 : decode cX12_ways 517 = .ok (.aload_n 0, 1) := by decide +kernel
theorem dX12_ways_518 : decode cX12_ways 518 = .ok (.getfield 271, 3) := by decide +kernel
theorem dX12_ways_521 : decode cX12_ways 521 = .ok (.aload_n 0, 1) := by decide +kernel
theorem dX12_ways_522 : decode cX12_ways 522 = .ok (.sipush 639, 3) := by decide +kernel
theorem dX12_ways_525 : decode cX12_ways 525 = .ok (.iload 5, 2) := by decide +kernel
theorem dX12_ways_527 : decode cX12_ways 527 = .ok (.invokevirtual 1101, 3) := by decide +kernel
theorem dX12_ways_530 : decode cX12_ways 530 = .ok (.aload_n 0, 1) := by decide +kernel
theorem dX12_ways_531 : decode cX12_ways 531 = .ok (.getfield 244, 3) := by decide +kernel
theorem dX12_ways_534 : decode cX12_ways 534 = .ok (.sipush 639, 3) := by decide +kernel
theorem dX12_ways_537 : decode cX12_ways 537 = .ok (.laload, 1) := by decide +kernel
theorem dX12_ways_538 : decode cX12_ways 538 = .ok (.lastore, 1) := by decide +kernel
theorem dX12_ways_539 : decode cX12_ways 539 = .ok (.aload_n 0, 1) := by decide +kernel
theorem dX12_ways_540 : decode cX12_ways 540 = .ok (.aload_n 0, 1) := by decide +kernel
theorem dX12_ways_541 : decode cX12_ways 541 = .ok (.iload 5, 2) := by decide +kernel
theorem dX12_ways_543 : decode cX12_ways 543 = .ok (.iconst 1, 1) := by decide +kernel
theorem dX12_ways_544 : decode cX12_ways 544 = .ok (.invokevirtual 1244, 3) := by decide +kernel
theorem dX12_ways_547 : decode cX12_ways 547 = .ok (.iload 5, 2) := by decide +kernel
theorem dX12_ways_549 : decode cX12_ways 549 = .ok (.iconst 2, 1) := by decide +kernel
theorem dX12_ways_550 : decode cX12_ways 550 = .ok (.iadd, 1) := by decide +kernel
theorem dX12_ways_551 : decode cX12_ways 551 = .ok (.invokevirtual 1081, 3) := by decide +kernel
theorem dX12_ways_554 : decode cX12_ways 554 = .ok (.aload_n 0, 1) := by decide +kernel
theorem dX12_ways_555 : decode cX12_ways 555 = .ok (.aload_n 0, 1) := by decide +kernel
theorem dX12_ways_556 : decode cX12_ways 556 = .ok (.iload 5, 2) := by decide +kernel
theorem dX12_ways_558 : decode cX12_ways 558 = .ok (.iconst 2, 1) := by decide +kernel
theorem dX12_ways_559 : decode cX12_ways 559 = .ok (.iadd, 1) := by decide +kernel
theorem dX12_ways_560 : decode cX12_ways 560 = .ok (.iconst 2, 1) := by decide +kernel
theorem dX12_ways_561 : decode cX12_ways 561 = .ok (.invokevirtual 1244, 3) := by decide +kernel
theorem dX12_ways_564 : decode cX12_ways 564 = .ok (.iload 5, 2) := by decide +kernel
theorem dX12_ways_566 : decode cX12_ways 566 = .ok (.invokevirtual 1081, 3) := by decide +kernel
theorem dX12_ways_569 : decode cX12_ways 569 = .ok (.aload_n 0, 1) := by decide +kernel
theorem dX12_ways_570 : decode cX12_ways 570 = .ok (.aload_n 0, 1) := by decide +kernel
theorem dX12_ways_571 : decode cX12_ways 571 = .ok (.invokevirtual 1201, 3) := by decide +kernel
theorem dX12_ways_574 : decode cX12_ways 574 = .ok (.iload 5, 2) := by decide +kernel
theorem dX12_ways_576 : decode cX12_ways 576 = .ok (.invokevirtual 1081, 3) := by decide +kernel
theorem dX12_ways_579 : decode cX12_ways 579 = .ok (.aload_n 0, 1) := by decide +kernel
theorem dX12_ways_580 : decode cX12_ways 580 = .ok (.invokevirtual 1222, 3) := by decide +kernel
theorem dX12_ways_583 : decode cX12_ways 583 = .ok (.goto 82, 3) := by decide +kernel
theorem dX12_ways_586 : decode cX12_ways 586 = .ok (.aload_n 0, 1) := by decide +kernel
theorem dX12_ways_587 : decode cX12_ways 587 = .ok (.invokevirtual 1246, 3) := by decide +kernel
theorem dX12_ways_590 : decode cX12_ways 590 = .ok (.goto 75, 3) := by decide +kernel
theorem dX12_ways_593 : decode cX12_ways 593 = .ok (.aload_n 0, 1) := by decide +kernel
theorem dX12_ways_594 : decode cX12_ways 594 = .ok (.invokevirtual 1249, 3) := by decide +kernel
theorem dX12_ways_597 : decode cX12_ways 597 = .ok (.goto 68, 3) := by decide +kernel
theorem dX12_ways_600 : decode cX12_ways 600 = .ok (.aload_n 0, 1) := by decide +kernel
theorem dX12_ways_601 : decode cX12_ways 601 = .ok (.invokevirtual 1252, 3) := by decide +kernel
theorem dX12_ways_604 : decode cX12_ways 604 = .ok (.goto 61, 3) := by decide +kernel
theorem dX12_ways_607 : decode cX12_ways 607 = .ok (.aload_n 0, 1) := by decide +kernel
theorem dX12_ways_608 : decode cX12_ways 608 = .ok (.iload_n 2, 1) := by decide +kernel
theorem dX12_ways_609 : decode cX12_ways 609 = .ok (.aload_n 0, 1) := by decide +kernel
theorem dX12_ways_610 : decode cX12_ways 610 = .ok (.iconst 0, 1) := by decide +kernel
theorem dX12_ways_611 : decode cX12_ways 611 = .ok (.invokevirtual 1195, 3) := by decide +kernel
theorem dX12_ways_614 : decode cX12_ways 614 = .ok (.iload 4, 2) := by decide +kernel
theorem dX12_ways_616 : decode cX12_ways 616 = .ok (.invokevirtual 1255, 3) := by decide +kernel
theorem dX12_ways_619 : decode cX12_ways 619 = .ok (.aload_n 0, 1) := by decide +kernel
theorem dX12_ways_620 : decode cX12_ways 620 = .ok (.iconst 1, 1) := by decide +kernel
theorem dX12_ways_621 : decode cX12_ways 621 = .ok (.iload 4, 2) := by decide +kernel
theorem dX12_ways_623 : decode cX12_ways 623 = .ok (.invokevirtual 1258, 3) := by decide +kernel
theorem dX12_ways_626 : decode cX12_ways 626 = .ok (.goto 39, 3) := by decide +kernel
theorem dX12_ways_629 : decode cX12_ways 629 = .ok (.aload_n 0, 1) := by decide +kernel
theorem dX12_ways_630 : decode cX12_ways 630 = .ok (.iload_n 2, 1) := by decide +kernel
theorem dX12_ways_631 : decode cX12_ways 631 = .ok (.invokevirtual 1261, 3) := by decide +kernel
theorem dX12_ways_634 : decode cX12_ways 634 = .ok (.goto 31, 3) := by decide +kernel
theorem dX12_ways_637 : decode cX12_ways 637 = .ok (.aload_n 0, 1) := by decide +kernel
theorem dX12_ways_638 : decode cX12_ways 638 = .ok (.iload_n 2, 1) := by decide +kernel
theorem dX12_ways_639 : decode cX12_ways 639 = .ok (.invokevirtual 1264, 3) := by decide +kernel
theorem dX12_ways_642 : decode cX12_ways 642 = .ok (.goto 23, 3) := by decide +kernel
theorem dX12_ways_645 : decode cX12_ways 645 = .ok (.aload_n 0, 1) := by decide +kernel
theorem dX12_ways_646 : decode cX12_ways 646 = .ok (.iload_n 2, 1) := by decide +kernel
theorem dX12_ways_647 : decode cX12_ways 647 = .ok (.iload_n 3, 1) := by decide +kernel
theorem dX12_ways_648 : decode cX12_ways 648 = .ok (.invokevirtual 1267, 3) := by decide +kernel
theorem dX12_ways_651 : decode cX12_ways 651 = .ok (.goto 14, 3) := by decide +kernel
theorem dX12_ways_654 : decode cX12_ways 654 = .ok (.aload_n 0, 1) := by decide +kernel
theorem dX12_ways_655 : decode cX12_ways 655 = .ok (.aload_n 0, 1) := by decide +kernel
theorem dX12_ways_656 : decode cX12_ways 656 = .ok (.getfield 89, 3) := by decide +kernel
theorem dX12_ways_659 : decode cX12_ways 659 = .ok (.iload_n 1, 1) := by decide +kernel
theorem dX12_ways_660 : decode cX12_ways 660 = .ok (.iaload, 1) := by decide +kernel
theorem dX12_ways_661 : decode cX12_ways 661 = .ok (.iload_n 2, 1) := by decide +kernel
theorem dX12_ways_662 : decode cX12_ways 662 = .ok (.invokevirtual 1270, 3) := by decide +kernel
theorem dX12_ways_665 : decode cX12_ways 665 = .ok (.aload_n 0, 1) := by decide +kernel
theorem dX12_ways_666 : decode cX12_ways 666 = .ok (.getfield 232, 3) := by decide +kernel
theorem dX12_ways_669 : decode cX12_ways 669 = .ok (.iload_n 1, 1) := by decide +kernel
theorem dX12_ways_670 : decode cX12_ways 670 = .ok (.aload_n 0, 1) := by decide +kernel
theorem dX12_ways_671 : decode cX12_ways 671 = .ok (.getfield 1208, 3) := by decide +kernel
theorem dX12_ways_674 : decode cX12_ways 674 = .ok (.aload_n 0, 1) := by decide +kernel
theorem dX12_ways_675 : decode cX12_ways 675 = .ok (.getfield 1185, 3) := by decide +kernel
theorem dX12_ways_678 : decode cX12_ways 678 = .ok (.ifCond .ne 14, 3) := by decide +kernel
theorem dX12_ways_681 : decode cX12_ways 681 = .ok (.aload_n 0, 1) := by decide +kernel
theorem dX12_ways_682 : decode cX12_ways 682 = .ok (.getfield 89, 3) := by decide +kernel
theorem dX12_ways_685 : decode cX12_ways 685 = .ok (.iload_n 1, 1) := by decide +kernel
theorem dX12_ways_686 : decode cX12_ways 686 = .ok (.iaload, 1) := by decide +kernel
theorem dX12_ways_687 : decode cX12_ways 687 = .ok (.bipush 25, 2) := by decide +kernel
theorem dX12_ways_689 : decode cX12_ways 689 = .ok (.if_icmp .ne 7, 3) := by decide +kernel
theorem dX12_ways_692 : decode cX12_ways 692 = .ok (.iconst 0, 1) := by decide +kernel
theorem dX12_ways_693 : decode cX12_ways 693 = .ok (.goto 4, 3) := by decide +kernel
theorem dX12_ways_696 : decode cX12_ways 696 = .ok (.iconst 4, 1) := by decide +kernel
theorem dX12_ways_697 : decode cX12_ways 697 = .ok (.ior, 1) := by decide +kernel
theorem dX12_ways_698 : decode cX12_ways 698 = .ok (.iastore, 1) := by decide +kernel
theorem dX12_ways_699 : decode cX12_ways 699 = .ok (.return_, 1) := by decide +kernel

def q_ways (p1 : Int) (S : sv_S) : Option Value → sv_S → Prop := fun v S' => v = none ∧ sm_ok S' ∧ sv_mod [68, 69, 70, 81, 82, 83, 84, 85, 86, 71, 74, 75, 1127, 78, 79, 80, 72, 76, 77, 1143, 1144, 5, 1011, 1150, 1149, 1145, 1113, 1111, 1112, 91, 1147, 1100031, 1148, 73] S S' ∧ (sm_ST (S' 71) (S' 74) (S' 75) (S' 78) (S' 79) (S' 80) (S' 27) (S' 1100007) (S' 1100023) (S' 1100024) (S' 1046 0) ((S' 1046 0) + 2 * (S' 1032 0)) (S' 1127 0) ∧ 465000 ≤ (S' 1127 0) ∧ (S' 1127 0) + sm_hs (S' 71) (S' 1100007) ≤ 635000 ∧ (S' 75 639) = 647340 ∧ (∀ k : Int, (S 71 k) = 1 → (S' 71 k) = 1) ∧ sm_DR (S' 72) (S' 71) (S' 1046 0) ∧ (641 * (sm_cm (S' 71) + sm_pt (S' 68) (S' 69) (S' 70) + sm_pl (S' 81) (S' 82) (S' 83) (S' 84) (S' 85) (S' 86) + sm_ps (S' 76) (S' 77)) + sm_du (S' 72)) ≤ (641 * (sm_cm (S 71) + sm_pt (S 68) (S 69) (S 70) + sm_pl (S 81) (S 82) (S 83) (S 84) (S 85) (S 86) + sm_ps (S 76) (S 77)) + sm_du (S 72)))
theorem la_ways_0 {x0 x1 x2 : Int} (h0 : 0 ≤ x0) (h1 : x0 < x1) (h2 : x2 = 1) : 0 ≤ x0 ∧ x0 < x1 ∧ x2 = 1 := by omega
theorem la_ways_1 {x0 x1 x2 : Int} (h0 : 1 ≤ x0) (h1 : x1 + 2 * x0 ≤ 500) (h2 : 0 ≤ x2) (h3 : x2 < x1) : 0 ≤ x2 ∧ x2 < 600 := by omega
theorem la_ways_2 {x0 : Int} (h0 : 0 ≤ x0) (h1 : ¬ x0 = 0) : 0 < x0 := by omega
theorem la_ways_3 {x0 x1 x2 : Int} (h0 : 1 ≤ x0) (h1 : x1 + 2 * x0 ≤ 500) (h2 : 0 ≤ x2) (h3 : x2 < x1) : 0 ≤ x2 ∧ x2 < 640 := by omega
theorem la_ways_4 {x0 x1 x2 x3 x4 x5 x6 x7 x8 x9 x10 x11 x12 : Int} (h0 : x0 = x1) (h1 : x2 = x3) (h2 : x4 = x5) (h3 : 641 * (x6 + x7 + x8 + x9) + x10 ≤ 641 * (x11 + x0 + x2 + x4) + x12) : 641 * (x6 + x7 + x8 + x9) + x10 ≤ 641 * (x11 + x1 + x3 + x5) + x12 := by omega
theorem la_ways_5 {x0 : Int} (h0 : ¬ ¬ x0 = 25) : ¬ x0 = 0 := by omega
theorem la_ways_6 {x0 : Int} (h0 : ¬ ¬ x0 = 25) : ¬ (x0 = 1 ∨ x0 = 3 ∨ x0 = 5) := by omega
theorem la_ways_7 {x0 : Int} (h0 : ¬ ¬ x0 = 25) : ¬ (x0 = 2 ∨ x0 = 4) := by omega
theorem la_ways_8 {x0 : Int} (h0 : ¬ ¬ x0 = 25) : ¬ x0 = 6 := by omega
theorem la_ways_9 {x0 : Int} (h0 : ¬ ¬ x0 = 25) : ¬ (x0 = 7 ∨ x0 = 8) := by omega
theorem la_ways_10 {x0 : Int} (h0 : ¬ ¬ x0 = 25) : ¬ x0 = 9 := by omega
theorem la_ways_11 {x0 : Int} (h0 : ¬ ¬ x0 = 25) : ¬ (x0 = 10 ∨ x0 = 12) := by omega
theorem la_ways_12 {x0 : Int} (h0 : ¬ ¬ x0 = 25) : ¬ x0 = 11 := by omega
theorem la_ways_13 {x0 : Int} (h0 : ¬ ¬ x0 = 25) : ¬ x0 = 13 := by omega
theorem la_ways_14 {x0 : Int} (h0 : ¬ ¬ x0 = 25) : ¬ x0 = 14 := by omega
theorem la_ways_15 {x0 : Int} (h0 : ¬ ¬ x0 = 25) : ¬ x0 = 15 := by omega
theorem la_ways_16 {x0 : Int} (h0 : ¬ ¬ x0 = 25) : ¬ x0 = 16 := by omega
theorem la_ways_17 {x0 : Int} (h0 : ¬ ¬ x0 = 25) : ¬ x0 = 17 := by omega
theorem la_ways_18 {x0 : Int} (h0 : ¬ ¬ x0 = 25) : ¬ x0 = 18 := by omega
theorem la_ways_19 {x0 : Int} (h0 : ¬ ¬ x0 = 25) : ¬ x0 = 19 := by omega
theorem la_ways_20 {x0 : Int} (h0 : ¬ ¬ x0 = 25) : ¬ x0 = 20 := by omega
theorem la_ways_21 {x0 : Int} (h0 : ¬ ¬ x0 = 25) : ¬ x0 = 21 := by omega
theorem la_ways_22 {x0 : Int} (h0 : ¬ ¬ x0 = 25) : ¬ x0 = 22 := by omega
theorem la_ways_23 {x0 : Int} (h0 : ¬ ¬ x0 = 25) : ¬ (x0 = 23 ∨ x0 = 24) := by omega
theorem la_ways_24 {x0 : Int} (h0 : ¬ ¬ x0 = 25) : x0 = 25 ∨ x0 = 26 := by omega
theorem la_ways_25 {x0 : Int} (h0 : ¬ ¬ x0 = 25) : ¬ x0 = 27 := by omega
theorem la_ways_26 {x0 : Int} (h0 : ¬ ¬ x0 = 25) : ¬ x0 = 28 := by omega
theorem la_ways_27 {x0 : Int} (h0 : ¬ ¬ x0 = 25) : ¬ x0 = 29 := by omega
theorem la_ways_28 {x0 : Int} (h0 : ¬ ¬ x0 = 25) : ¬ x0 = 30 := by omega
theorem la_ways_29 {x0 : Int} (h0 : 0 ≤ x0) : ¬ x0 < 0 := by omega
theorem la_ways_30 {x0 : Int} (h0 : 16 < x0) : ¬ x0 = 0 := by omega
theorem la_ways_31 {x0 : Int} (h0 : 16 < x0) : ¬ (x0 = 1 ∨ x0 = 3 ∨ x0 = 5) := by omega
theorem la_ways_32 {x0 : Int} (h0 : 16 < x0) : ¬ (x0 = 2 ∨ x0 = 4) := by omega
theorem la_ways_33 {x0 : Int} (h0 : 16 < x0) : ¬ x0 = 6 := by omega
theorem la_ways_34 {x0 : Int} (h0 : 16 < x0) : ¬ (x0 = 7 ∨ x0 = 8) := by omega
theorem la_ways_35 {x0 : Int} (h0 : 16 < x0) : ¬ x0 = 9 := by omega
theorem la_ways_36 {x0 : Int} (h0 : 16 < x0) : ¬ (x0 = 10 ∨ x0 = 12) := by omega
theorem la_ways_37 {x0 : Int} (h0 : 16 < x0) : ¬ x0 = 11 := by omega
theorem la_ways_38 {x0 : Int} (h0 : 16 < x0) : ¬ x0 = 13 := by omega
theorem la_ways_39 {x0 : Int} (h0 : 16 < x0) : ¬ x0 = 14 := by omega
theorem la_ways_40 {x0 : Int} (h0 : 16 < x0) : ¬ x0 = 15 := by omega
theorem la_ways_41 {x0 : Int} (h0 : 16 < x0) : ¬ x0 = 16 := by omega
theorem la_ways_42 {x0 : Int} (h0 : 16 < x0) : 17 ≤ x0 := by omega
theorem la_ways_43 {x0 x1 x2 x3 x4 x5 x6 x7 x8 x9 x10 x11 x12 x13 x14 x15 x16 x17 x18 x19 x20 x21 x22 x23 : Int} (h0 : 0 ≤ x0) (h1 : x0 < x1) (h2 : x2 = 1) (h3 : x3 = x4) (h4 : x5 = x6) (h5 : x7 ≤ 30) (h6 : x7 = 17 → 1 ≤ x4 ∧ (0 ≤ x6 → x8 ≤ x4 - 1) ∧ (0 ≤ x9 ∧ x10 = x4 ∧ 0 ≤ x0 + 1 ∧ x0 + 1 < x1 ∧ x11 = x12 ∧ x13 = x4 - 1 ∧ x14 = x6 ∧ x15 = x16 ∨ (0 ≤ x9 → x10 ≤ x4 - 1) ∧ 0 ≤ x0 + 1 ∧ x0 + 1 < x1 ∧ x11 = x12 ∧ x13 = x4 - 1 ∧ x14 = x6 ∧ x15 = x9)) (h7 : x7 = 18 → (0 ≤ x4 - 1 ∧ (0 ≤ x6 → x8 ≤ x4 - 1) ∧ (0 ≤ x9 → x10 ≤ x4 - 1)) ∧ 0 ≤ x0 + 1 ∧ x0 + 1 < x1 ∧ x11 = x12 ∧ x13 = x4 + 1 ∧ x14 = x6 ∧ x15 = x9) (h8 : x7 = 19 → (0 ≤ x4 - 2 ∧ (0 ≤ x6 → x8 ≤ x4 - 2) ∧ (0 ≤ x9 → x10 ≤ x4 - 2)) ∧ 0 ≤ x0 + 1 ∧ x0 + 1 < x1 ∧ x11 = x12 ∧ x13 = x4 + 2 ∧ x14 = x6 ∧ x15 = x9) (h9 : x7 = 20 → (0 ≤ x4 - 3 ∧ (0 ≤ x6 → x8 ≤ x4 - 3) ∧ (0 ≤ x9 → x10 ≤ x4 - 3)) ∧ 0 ≤ x0 + 1 ∧ x0 + 1 < x1 ∧ x11 = x12 ∧ x13 = x4 + 1 ∧ x14 = x6 ∧ x15 = x9) (h10 : x7 = 21 → (0 ≤ x4 ∧ (0 ≤ x6 → x8 ≤ x4) ∧ (0 ≤ x9 → x10 ≤ x4)) ∧ 0 ≤ x17 ∧ x17 < x1 ∧ x18 = x12 ∧ x19 = x4 ∧ x20 = x6 ∧ x21 = x9) (h11 : x7 = 22 → (0 ≤ x4 - 1 ∧ (0 ≤ x6 → x8 ≤ x4 - 1) ∧ (0 ≤ x9 → x10 ≤ x4 - 1)) ∧ (0 ≤ x0 + 1 ∧ x0 + 1 < x1 ∧ x11 = x12 ∧ x13 = x4 - 1 ∧ x14 = x6 ∧ x15 = x9) ∧ 0 ≤ x17 ∧ x17 < x1 ∧ x18 = x12 ∧ x19 = x4 - 1 ∧ x20 = x6 ∧ x21 = x9) (h12 : x7 = 23 ∨ x7 = 24 → (0 ≤ x4 - 1 ∧ (0 ≤ x6 → x8 ≤ x4 - 1) ∧ (0 ≤ x9 → x10 ≤ x4 - 1)) ∧ (0 ≤ x0 + 1 ∧ x0 + 1 < x1 ∧ x11 = x12 ∧ x13 = x4 - 1 ∧ x14 = x6 ∧ x15 = x9) ∧ 0 ≤ x17 ∧ x17 < x1 ∧ x18 = x12 ∧ x19 = x4 ∧ x20 = x6 ∧ x21 = x9) (h13 : x7 = 25 ∨ x7 = 26 → 0 ≤ x4 - 1 ∧ (0 ≤ x6 → x8 ≤ x4 - 1) ∧ (0 ≤ x9 → x10 ≤ x4 - 1)) (h14 : x7 = 27 → x22 < 40 ∧ (0 ≤ x4 ∧ (0 ≤ x6 → x8 ≤ x4) ∧ (0 ≤ x9 → x10 ≤ x4)) ∧ (0 ≤ x0 + 1 ∧ x0 + 1 < x1 ∧ x11 = x12 ∧ x13 = x4 ∧ x14 = x0 ∧ x15 = x9) ∧ 0 ≤ x17 ∧ x17 < x1 ∧ x18 = x12 ∧ x19 = x4 + 1 ∧ x20 = x6 ∧ x21 = x9) (h15 : x7 = 28 → 0 ≤ x6 ∧ (0 ≤ x4 ∧ (0 ≤ x6 → x8 ≤ x4) ∧ (0 ≤ x9 → x10 ≤ x4)) ∧ 0 ≤ x0 + 1 ∧ x0 + 1 < x1 ∧ x11 = x12 ∧ x13 = x4 ∧ x14 = x23 ∧ x15 = x9) (h16 : x7 = 29 → (0 ≤ x4 - 1 ∧ (0 ≤ x6 → x8 ≤ x4 - 1) ∧ (0 ≤ x9 → x10 ≤ x4 - 1)) ∧ 0 ≤ x0 + 1 ∧ x0 + 1 < x1 ∧ x11 = x12 ∧ x13 = x4 ∧ x14 = x6 ∧ x15 = x0) (h17 : x7 = 30 → 0 ≤ x9 ∧ x10 = x4 ∧ 1 ≤ x4 ∧ (0 ≤ x6 → x8 ≤ x4 - 1) ∧ (0 ≤ x0 + 1 ∧ x0 + 1 < x1 ∧ x11 = x12 ∧ x13 = x4 + 1 ∧ x14 = x6 ∧ x15 = x9) ∧ 0 ≤ x17 ∧ x17 < x1 ∧ x18 = x12 ∧ x19 = x4 - 1 ∧ x20 = x6 ∧ x21 = x16) (h18 : 16 < x7) : 0 ≤ x0 ∧ x0 < x1 ∧ x2 = 1 ∧ x3 = x4 ∧ x5 = x6 ∧ 17 ≤ x7 ∧ x7 ≤ 30 ∧ (x7 = 17 → 1 ≤ x4 ∧ x0 + 1 < x1 ∧ x13 = x4 + (-1) ∧ x14 = x6) ∧ (x7 = 18 → 1 ≤ x4 ∧ x0 + 1 < x1 ∧ x13 = x4 + 1 ∧ x14 = x6) ∧ (x7 = 19 → 2 ≤ x4 ∧ x0 + 1 < x1 ∧ x13 = x4 + 2 ∧ x14 = x6) ∧ (x7 = 20 → 3 ≤ x4 ∧ x0 + 1 < x1 ∧ x13 = x4 + 1 ∧ x14 = x6) ∧ (x7 = 21 → 0 ≤ x17 ∧ x17 < x1 ∧ x19 = x4 + 0 ∧ x20 = x6) ∧ (x7 = 22 → 1 ≤ x4 ∧ x0 + 1 < x1 ∧ x13 = x4 + (-1) ∧ x14 = x6 ∧ 0 ≤ x17 ∧ x17 < x1 ∧ x19 = x4 + (-1) ∧ x20 = x6) ∧ (x7 = 23 ∨ x7 = 24 → 1 ≤ x4 ∧ x0 + 1 < x1 ∧ x13 = x4 + (-1) ∧ x14 = x6 ∧ 0 ≤ x17 ∧ x17 < x1 ∧ x19 = x4 + 0 ∧ x20 = x6) ∧ (x7 = 25 ∨ x7 = 26 → 1 ≤ x4) ∧ (x7 = 27 → x22 < 40 ∧ x17 = x17 ∧ x7 = 27 ∧ x0 + 1 < x1 ∧ x13 = x4 ∧ x14 = x0) ∧ (x7 = 28 → 0 ≤ x6 ∧ x0 + 1 < x1 ∧ x13 = x4 ∧ x14 = x23) ∧ (x7 = 29 → 1 ≤ x4 ∧ x0 + 1 < x1 ∧ x13 = x4 + 0 ∧ x14 = x6) ∧ (x7 = 30 → 1 ≤ x4 ∧ x0 + 1 < x1 ∧ x13 = x4 + 1 ∧ x14 = x6 ∧ 0 ≤ x17 ∧ x17 < x1 ∧ x19 = x4 + (-1) ∧ x20 = x6) := by omega
theorem la_ways_44 {x0 : Int} (h0 : x0 = 0) : ¬ (x0 = 1 ∨ x0 = 3 ∨ x0 = 5) := by omega
theorem la_ways_45 {x0 : Int} (h0 : x0 = 0) : ¬ (x0 = 2 ∨ x0 = 4) := by omega
theorem la_ways_46 {x0 : Int} (h0 : x0 = 0) : ¬ x0 = 6 := by omega
theorem la_ways_47 {x0 : Int} (h0 : x0 = 0) : ¬ (x0 = 7 ∨ x0 = 8) := by omega
theorem la_ways_48 {x0 : Int} (h0 : x0 = 0) : ¬ x0 = 9 := by omega
theorem la_ways_49 {x0 : Int} (h0 : x0 = 0) : ¬ (x0 = 10 ∨ x0 = 12) := by omega
theorem la_ways_50 {x0 : Int} (h0 : x0 = 0) : ¬ x0 = 11 := by omega
theorem la_ways_51 {x0 : Int} (h0 : x0 = 0) : ¬ x0 = 13 := by omega
theorem la_ways_52 {x0 : Int} (h0 : x0 = 0) : ¬ x0 = 14 := by omega
theorem la_ways_53 {x0 : Int} (h0 : x0 = 0) : ¬ x0 = 15 := by omega
theorem la_ways_54 {x0 : Int} (h0 : x0 = 0) : ¬ x0 = 16 := by omega
theorem la_ways_55 {x0 : Int} (h0 : x0 = 0) : ¬ x0 = 17 := by omega
theorem la_ways_56 {x0 : Int} (h0 : x0 = 0) : ¬ x0 = 18 := by omega
theorem la_ways_57 {x0 : Int} (h0 : x0 = 0) : ¬ x0 = 19 := by omega
theorem la_ways_58 {x0 : Int} (h0 : x0 = 0) : ¬ x0 = 20 := by omega
theorem la_ways_59 {x0 : Int} (h0 : x0 = 0) : ¬ x0 = 21 := by omega
theorem la_ways_60 {x0 : Int} (h0 : x0 = 0) : ¬ x0 = 22 := by omega
theorem la_ways_61 {x0 : Int} (h0 : x0 = 0) : ¬ (x0 = 23 ∨ x0 = 24) := by omega
theorem la_ways_62 {x0 : Int} (h0 : x0 = 0) : ¬ (x0 = 25 ∨ x0 = 26) := by omega
theorem la_ways_63 {x0 : Int} (h0 : x0 = 0) : ¬ x0 = 27 := by omega
theorem la_ways_64 {x0 : Int} (h0 : x0 = 0) : ¬ x0 = 28 := by omega
theorem la_ways_65 {x0 : Int} (h0 : x0 = 0) : ¬ x0 = 29 := by omega
theorem la_ways_66 {x0 : Int} (h0 : x0 = 0) : ¬ x0 = 30 := by omega
theorem la_ways_67 : (0 : Int) ≤ 647740 ∧ (647740 : Int) < 647800 := by omega
theorem la_ways_68 : (635639 : Int) ≤ 647740 := by omega
theorem la_ways_69 : (635639 : Int) ≤ 647740 ∧ (647740 : Int) < 647790 := by omega
theorem la_ways_70 {x0 x1 x2 : Int} (h0 : x0 = 647340) (h1 : 0 ≤ x1) (h2 : x1 = x2) (h3 : x2 ≤ 396) : x0 = 647340 ∧ 0 ≤ x1 ∧ x1 ≤ 400 ∧ x1 < 400 := by omega
theorem la_ways_71 {x0 x1 : Int} (h0 : 0 ≤ x0) (h1 : x0 ≤ 400) (h2 : x1 = 647340 + x0) : (0 : Int) ≤ 647740 ∧ (647740 : Int) < 647800 ∧ 635639 ≤ x1 ∧ x1 < 647800 := by omega
theorem la_ways_72 {x0 x1 : Int} (h0 : x0 + 2 * x1 ≤ 500) : x0 + 2 * x1 ≤ 639 := by omega
theorem la_ways_73 {x0 x1 : Int} (h0 : 0 ≤ x0) (h1 : x1 = x0 + 1) : 0 ≤ x1 := by omega
theorem la_ways_74 {x0 x1 x2 : Int} (h0 : x0 = x1) (h1 : x1 ≤ 396) (h2 : x2 = x0 + 1) : x2 ≤ 400 := by omega
theorem la_ways_75 {x0 x1 x2 x3 x4 x5 x6 x7 x8 : Int} (h0 : 0 ≤ x0) (h1 : x1 = x2) (h2 : x3 = x4) (h3 : x0 + 1 < x5) (h4 : x6 = x2 + 1) (h5 : x7 = x4) (h6 : x8 = x1 + 1) : 0 ≤ x0 ∧ x0 + 1 < x5 ∧ x8 = x6 ∧ x7 = x3 := by omega
theorem la_ways_76 {x0 x1 x2 x3 x4 x5 x6 x7 x8 x9 x10 x11 x12 x13 : Int} (h0 : x0 = x1) (h1 : x2 = x0) (h2 : x3 = x2) (h3 : x4 = x3) (h4 : 641 * (x5 + x6 + x7 + x8) + x9 ≤ 641 * (x10 + x4 + x11 + x12) + x13) : 641 * (x5 + x6 + x7 + x8) + x9 ≤ 641 * (x10 + x1 + x11 + x12) + x13 := by omega
theorem la_ways_77 {x0 : Int} (h0 : x0 = 1) : ¬ x0 = 0 := by omega
theorem la_ways_78 {x0 : Int} (h0 : x0 = 1) : x0 = 1 ∨ x0 = 3 ∨ x0 = 5 := by omega
theorem la_ways_79 {x0 : Int} (h0 : x0 = 1) : ¬ (x0 = 2 ∨ x0 = 4) := by omega
theorem la_ways_80 {x0 : Int} (h0 : x0 = 1) : ¬ x0 = 6 := by omega
theorem la_ways_81 {x0 : Int} (h0 : x0 = 1) : ¬ (x0 = 7 ∨ x0 = 8) := by omega
theorem la_ways_82 {x0 : Int} (h0 : x0 = 1) : ¬ x0 = 9 := by omega
theorem la_ways_83 {x0 : Int} (h0 : x0 = 1) : ¬ (x0 = 10 ∨ x0 = 12) := by omega
theorem la_ways_84 {x0 : Int} (h0 : x0 = 1) : ¬ x0 = 11 := by omega
theorem la_ways_85 {x0 : Int} (h0 : x0 = 1) : ¬ x0 = 13 := by omega
theorem la_ways_86 {x0 : Int} (h0 : x0 = 1) : ¬ x0 = 14 := by omega
theorem la_ways_87 {x0 : Int} (h0 : x0 = 1) : ¬ x0 = 15 := by omega
theorem la_ways_88 {x0 : Int} (h0 : x0 = 1) : ¬ x0 = 16 := by omega
theorem la_ways_89 {x0 : Int} (h0 : x0 = 1) : ¬ x0 = 17 := by omega
theorem la_ways_90 {x0 : Int} (h0 : x0 = 1) : ¬ x0 = 18 := by omega
theorem la_ways_91 {x0 : Int} (h0 : x0 = 1) : ¬ x0 = 19 := by omega
theorem la_ways_92 {x0 : Int} (h0 : x0 = 1) : ¬ x0 = 20 := by omega
theorem la_ways_93 {x0 : Int} (h0 : x0 = 1) : ¬ x0 = 21 := by omega
theorem la_ways_94 {x0 : Int} (h0 : x0 = 1) : ¬ x0 = 22 := by omega
theorem la_ways_95 {x0 : Int} (h0 : x0 = 1) : ¬ (x0 = 23 ∨ x0 = 24) := by omega
theorem la_ways_96 {x0 : Int} (h0 : x0 = 1) : ¬ (x0 = 25 ∨ x0 = 26) := by omega
theorem la_ways_97 {x0 : Int} (h0 : x0 = 1) : ¬ x0 = 27 := by omega
theorem la_ways_98 {x0 : Int} (h0 : x0 = 1) : ¬ x0 = 28 := by omega
theorem la_ways_99 {x0 : Int} (h0 : x0 = 1) : ¬ x0 = 29 := by omega
theorem la_ways_100 {x0 : Int} (h0 : x0 = 1) : ¬ x0 = 30 := by omega
theorem la_ways_101 {x0 x1 : Int} (h0 : 0 ≤ x0) (h1 : x0 ≤ 11557) (h2 : 0 ≤ x1) : 0 ≤ x0 ∧ x0 ≤ 11557 ∧ (635639 : Int) ≤ 647740 ∧ (647740 : Int) < 647790 ∧ 0 ≤ x1 := by omega
theorem la_ways_102 {x0 x1 : Int} (h0 : x0 ≤ 90) (h1 : 0 ≤ x1) (h2 : x1 < x0) : 0 ≤ x1 ∧ x1 ≤ 1000 := by omega
theorem la_ways_103 : sv_R (647740 + 1) := by omega
theorem la_ways_104 : (0 : Int) ≤ 647740 + 1 ∧ (647740 + 1 : Int) < 647800 := by omega
theorem la_ways_105 : (635639 : Int) ≤ 647740 + 1 := by omega
theorem la_ways_106 {x0 x1 : Int} (h0 : 29 ≤ x0) : (0 : Int) ≤ 0 ∧ 0 ≤ x0 ∧ x1 = x1 := by omega
theorem la_ways_107 {x0 x1 : Int} (h0 : x0 ≤ x1) : 0 ≤ x1 - x0 := by omega
theorem la_ways_108 {x0 x1 : Int} (h0 : 0 ≤ x0) (h1 : x0 ≤ 400) (h2 : x1 = 647340 + x0) : (0 : Int) ≤ 647740 + 1 ∧ (647740 + 1 : Int) < 647800 ∧ 635639 ≤ x1 ∧ x1 < 647800 := by omega
theorem la_ways_109 {x0 : Int} (h0 : x0 = 1) : 0 ≤ x0 := by omega
theorem la_ways_110 {x0 x1 x2 x3 x4 x5 x6 x7 x8 x9 : Int} (h0 : x0 = x1) (h1 : x2 = x0) (h2 : x3 = x2) (h3 : x4 = x3) (h4 : x5 = x4) : 641 * (x6 + x5 + x7 + x8) + x9 ≤ 641 * (x6 + x1 + x7 + x8) + x9 := by omega
theorem la_ways_111 {x0 : Int} (h0 : ¬ ¬ x0 = 0) : ¬ x0 = 1 := by omega
theorem la_ways_112 {x0 x1 x2 x3 x4 x5 x6 x7 x8 x9 x10 x11 x12 x13 x14 : Int} (h0 : x0 = x1) (h1 : x2 = x0) (h2 : x3 = x2) (h3 : x4 = x3) (h4 : x5 = x4) (h5 : 641 * (x6 + x7 + x8 + x9) + x10 ≤ 641 * (x11 + x5 + x12 + x13) + x14) : 641 * (x6 + x7 + x8 + x9) + x10 ≤ 641 * (x11 + x1 + x12 + x13) + x14 := by omega
theorem la_ways_113 {x0 x1 : Int} (h0 : x0 ≤ 127) (h1 : 0 ≤ x1) (h2 : ¬ x0 ≤ x1) : 0 ≤ x1 ∧ x1 < 128 := by omega
theorem la_ways_114 {x0 x1 x2 x3 x4 : Int} (h0 : x0 ≤ 127) (h1 : 0 ≤ x1) (h2 : x2 = x3) (h3 : ¬ x0 ≤ x1) : x4 = 0 → sv_R (x1 + 1) ∧ (0 ≤ x1 + 1 ∧ x1 + 1 ≤ x0 ∧ x2 = x3) ∧ x0 - (x1 + 1) < x0 - x1 := by omega
theorem la_ways_115 {x0 x1 x2 x3 x4 x5 x6 : Int} (h0 : x0 ≤ 127) (h1 : 0 ≤ x1) (h2 : x1 ≤ 11557) (h3 : 0 ≤ x2) (h4 : x2 < x3) (h5 : 0 ≤ x4) (h6 : ¬ x0 ≤ x4) : 0 ≤ x1 ∧ x1 ≤ 11557 ∧ (0 : Int) ≤ 639 ∧ ((639 : Int) = 639 ∨ 639 < x5 + 2 * x6) ∧ 0 ≤ x4 ∧ (x4 < x0 ∨ (639 : Int) = 639 ∧ x4 < 128) ∧ 0 ≤ x2 ∧ x2 ≤ x3 := by omega
theorem la_ways_116 : (639 : Int) = 639 := by omega
theorem la_ways_117 : ¬ ¬ (639 : Int) = 639 := by omega
theorem la_ways_118 {x0 : Int} (h0 : 635640 ≤ x0) (h1 : x0 < 647340) : 0 ≤ x0 ∧ x0 < 647800 ∧ (635639 : Int) ≤ 647740 + 1 ∧ (647740 + 1 : Int) < 647790 := by omega
theorem la_ways_119 {x0 x1 : Int} (h0 : x0 ≤ 127) (h1 : 0 ≤ x1) (h2 : ¬ x0 ≤ x1) : sv_R (x1 + 1) := by omega
theorem la_ways_120 {x0 x1 x2 x3 x4 : Int} (h0 : 0 ≤ x0) (h1 : x1 = x2) (h2 : ¬ x3 ≤ x0) (h3 : x4 = x1) : 0 ≤ x0 + 1 ∧ x0 + 1 ≤ x3 ∧ x4 = x2 := by omega
theorem la_ways_121 {x0 x1 : Int} : x0 - (x1 + 1) < x0 - x1 := by omega
theorem la_ways_122 {x0 : Int} (h0 : x0 = 2) : ¬ x0 = 0 := by omega
theorem la_ways_123 {x0 : Int} (h0 : x0 = 2) : ¬ (x0 = 1 ∨ x0 = 3 ∨ x0 = 5) := by omega
theorem la_ways_124 {x0 : Int} (h0 : x0 = 2) : x0 = 2 ∨ x0 = 4 := by omega
theorem la_ways_125 {x0 : Int} (h0 : x0 = 2) : ¬ x0 = 6 := by omega
theorem la_ways_126 {x0 : Int} (h0 : x0 = 2) : ¬ (x0 = 7 ∨ x0 = 8) := by omega
theorem la_ways_127 {x0 : Int} (h0 : x0 = 2) : ¬ x0 = 9 := by omega
theorem la_ways_128 {x0 : Int} (h0 : x0 = 2) : ¬ (x0 = 10 ∨ x0 = 12) := by omega
theorem la_ways_129 {x0 : Int} (h0 : x0 = 2) : ¬ x0 = 11 := by omega
theorem la_ways_130 {x0 : Int} (h0 : x0 = 2) : ¬ x0 = 13 := by omega
theorem la_ways_131 {x0 : Int} (h0 : x0 = 2) : ¬ x0 = 14 := by omega
theorem la_ways_132 {x0 : Int} (h0 : x0 = 2) : ¬ x0 = 15 := by omega
theorem la_ways_133 {x0 : Int} (h0 : x0 = 2) : ¬ x0 = 16 := by omega
theorem la_ways_134 {x0 : Int} (h0 : x0 = 2) : ¬ x0 = 17 := by omega
theorem la_ways_135 {x0 : Int} (h0 : x0 = 2) : ¬ x0 = 18 := by omega
theorem la_ways_136 {x0 : Int} (h0 : x0 = 2) : ¬ x0 = 19 := by omega
theorem la_ways_137 {x0 : Int} (h0 : x0 = 2) : ¬ x0 = 20 := by omega
theorem la_ways_138 {x0 : Int} (h0 : x0 = 2) : ¬ x0 = 21 := by omega
theorem la_ways_139 {x0 : Int} (h0 : x0 = 2) : ¬ x0 = 22 := by omega
theorem la_ways_140 {x0 : Int} (h0 : x0 = 2) : ¬ (x0 = 23 ∨ x0 = 24) := by omega
theorem la_ways_141 {x0 : Int} (h0 : x0 = 2) : ¬ (x0 = 25 ∨ x0 = 26) := by omega
theorem la_ways_142 {x0 : Int} (h0 : x0 = 2) : ¬ x0 = 27 := by omega
theorem la_ways_143 {x0 : Int} (h0 : x0 = 2) : ¬ x0 = 28 := by omega
theorem la_ways_144 {x0 : Int} (h0 : x0 = 2) : ¬ x0 = 29 := by omega
theorem la_ways_145 {x0 : Int} (h0 : x0 = 2) : ¬ x0 = 30 := by omega
theorem la_ways_146 {x0 x1 x2 : Int} (h0 : x0 = 647340) (h1 : x1 = x2) (h2 : x2 ≤ 396) (h3 : 0 ≤ x2 - 1) : x0 = 647340 ∧ 0 ≤ x1 ∧ x1 ≤ 400 ∧ ((-1) : Int) ≤ 0 ∧ (0 : Int) ≤ 1000 := by omega
theorem la_ways_147 {x0 x1 x2 : Int} (h0 : 0 ≤ x0) (h1 : x0 ≤ 11557) (h2 : 0 ≤ x1) (h3 : x1 ≤ 400) (h4 : x2 = 647339 + x1 - 0) : 0 ≤ x0 ∧ x0 ≤ 11557 ∧ 0 ≤ x2 ∧ x2 < 647800 := by omega
theorem la_ways_148 {x0 x1 x2 x3 x4 x5 x6 x7 : Int} (h0 : 0 ≤ x0) (h1 : x1 = x2) (h2 : x3 = x4) (h3 : x0 + 1 < x5) (h4 : x6 = x2) (h5 : x7 = x4) : 0 ≤ x0 ∧ x0 + 1 < x5 ∧ x1 = x6 ∧ x7 = x3 := by omega
theorem la_ways_149 {x0 x1 x2 x3 x4 x5 x6 x7 x8 x9 x10 x11 : Int} (h0 : x0 = x1) (h1 : x2 = x0) (h2 : 641 * (x3 + x4 + x5 + x6) + x7 ≤ 641 * (x8 + x2 + x9 + x10) + x11) : 641 * (x3 + x4 + x5 + x6) + x7 ≤ 641 * (x8 + x1 + x9 + x10) + x11 := by omega
theorem la_ways_150 {x0 : Int} (h0 : x0 = 5) : 3 ≤ x0 := by omega
theorem la_ways_151 {x0 : Int} (h0 : 3 ≤ x0) (h1 : ¬ x0 = 3) : 3 < x0 := by omega
theorem la_ways_152 {x0 : Int} (h0 : x0 = 5) : ¬ x0 = 0 := by omega
theorem la_ways_153 {x0 : Int} (h0 : x0 = 5) : x0 = 1 ∨ x0 = 3 ∨ x0 = 5 := by omega
theorem la_ways_154 {x0 : Int} (h0 : x0 = 5) : ¬ (x0 = 2 ∨ x0 = 4) := by omega
theorem la_ways_155 {x0 : Int} (h0 : x0 = 5) : ¬ x0 = 6 := by omega
theorem la_ways_156 {x0 : Int} (h0 : x0 = 5) : ¬ (x0 = 7 ∨ x0 = 8) := by omega
theorem la_ways_157 {x0 : Int} (h0 : x0 = 5) : ¬ x0 = 9 := by omega
theorem la_ways_158 {x0 : Int} (h0 : x0 = 5) : ¬ (x0 = 10 ∨ x0 = 12) := by omega
theorem la_ways_159 {x0 : Int} (h0 : x0 = 5) : ¬ x0 = 11 := by omega
theorem la_ways_160 {x0 : Int} (h0 : x0 = 5) : ¬ x0 = 13 := by omega
theorem la_ways_161 {x0 : Int} (h0 : x0 = 5) : ¬ x0 = 14 := by omega
theorem la_ways_162 {x0 : Int} (h0 : x0 = 5) : ¬ x0 = 15 := by omega
theorem la_ways_163 {x0 : Int} (h0 : x0 = 5) : ¬ x0 = 16 := by omega
theorem la_ways_164 {x0 : Int} (h0 : x0 = 5) : ¬ x0 = 17 := by omega
theorem la_ways_165 {x0 : Int} (h0 : x0 = 5) : ¬ x0 = 18 := by omega
theorem la_ways_166 {x0 : Int} (h0 : x0 = 5) : ¬ x0 = 19 := by omega
theorem la_ways_167 {x0 : Int} (h0 : x0 = 5) : ¬ x0 = 20 := by omega
theorem la_ways_168 {x0 : Int} (h0 : x0 = 5) : ¬ x0 = 21 := by omega
theorem la_ways_169 {x0 : Int} (h0 : x0 = 5) : ¬ x0 = 22 := by omega
theorem la_ways_170 {x0 : Int} (h0 : x0 = 5) : ¬ (x0 = 23 ∨ x0 = 24) := by omega
theorem la_ways_171 {x0 : Int} (h0 : x0 = 5) : ¬ (x0 = 25 ∨ x0 = 26) := by omega
theorem la_ways_172 {x0 : Int} (h0 : x0 = 5) : ¬ x0 = 27 := by omega
theorem la_ways_173 {x0 : Int} (h0 : x0 = 5) : ¬ x0 = 28 := by omega
theorem la_ways_174 {x0 : Int} (h0 : x0 = 5) : ¬ x0 = 29 := by omega
theorem la_ways_175 {x0 : Int} (h0 : x0 = 5) : ¬ x0 = 30 := by omega
theorem la_ways_176 {x0 x1 x2 x3 x4 x5 x6 x7 x8 x9 x10 : Int} (h0 : 0 ≤ x0) (h1 : x1 = 1) (h2 : x2 = x3) (h3 : x4 = x5) (h4 : 0 ≤ x6) (h5 : x6 < x7) (h6 : x0 + 1 < x8) (h7 : x9 = x3 + 1) (h8 : x10 = x5) : 0 ≤ x0 ∧ x0 < x8 ∧ x1 = 1 ∧ x2 = x3 ∧ x4 = x5 ∧ 0 ≤ x6 ∧ x6 < x7 ∧ x0 + 1 < x8 ∧ x9 = x3 + 1 ∧ x10 = x5 := by omega
theorem la_ways_177 {x0 : Int} (h0 : ¬ ¬ x0 = 3) : ¬ x0 = 0 := by omega
theorem la_ways_178 {x0 : Int} (h0 : ¬ ¬ x0 = 3) : x0 = 1 ∨ x0 = 3 ∨ x0 = 5 := by omega
theorem la_ways_179 {x0 : Int} (h0 : ¬ ¬ x0 = 3) : ¬ (x0 = 2 ∨ x0 = 4) := by omega
theorem la_ways_180 {x0 : Int} (h0 : ¬ ¬ x0 = 3) : ¬ x0 = 6 := by omega
theorem la_ways_181 {x0 : Int} (h0 : ¬ ¬ x0 = 3) : ¬ (x0 = 7 ∨ x0 = 8) := by omega
theorem la_ways_182 {x0 : Int} (h0 : ¬ ¬ x0 = 3) : ¬ x0 = 9 := by omega
theorem la_ways_183 {x0 : Int} (h0 : ¬ ¬ x0 = 3) : ¬ (x0 = 10 ∨ x0 = 12) := by omega
theorem la_ways_184 {x0 : Int} (h0 : ¬ ¬ x0 = 3) : ¬ x0 = 11 := by omega
theorem la_ways_185 {x0 : Int} (h0 : ¬ ¬ x0 = 3) : ¬ x0 = 13 := by omega
theorem la_ways_186 {x0 : Int} (h0 : ¬ ¬ x0 = 3) : ¬ x0 = 14 := by omega
theorem la_ways_187 {x0 : Int} (h0 : ¬ ¬ x0 = 3) : ¬ x0 = 15 := by omega
theorem la_ways_188 {x0 : Int} (h0 : ¬ ¬ x0 = 3) : ¬ x0 = 16 := by omega
theorem la_ways_189 {x0 : Int} (h0 : ¬ ¬ x0 = 3) : ¬ x0 = 17 := by omega
theorem la_ways_190 {x0 : Int} (h0 : ¬ ¬ x0 = 3) : ¬ x0 = 18 := by omega
theorem la_ways_191 {x0 : Int} (h0 : ¬ ¬ x0 = 3) : ¬ x0 = 19 := by omega
theorem la_ways_192 {x0 : Int} (h0 : ¬ ¬ x0 = 3) : ¬ x0 = 20 := by omega
theorem la_ways_193 {x0 : Int} (h0 : ¬ ¬ x0 = 3) : ¬ x0 = 21 := by omega
theorem la_ways_194 {x0 : Int} (h0 : ¬ ¬ x0 = 3) : ¬ x0 = 22 := by omega
theorem la_ways_195 {x0 : Int} (h0 : ¬ ¬ x0 = 3) : ¬ (x0 = 23 ∨ x0 = 24) := by omega
theorem la_ways_196 {x0 : Int} (h0 : ¬ ¬ x0 = 3) : ¬ (x0 = 25 ∨ x0 = 26) := by omega
theorem la_ways_197 {x0 : Int} (h0 : ¬ ¬ x0 = 3) : ¬ x0 = 27 := by omega
theorem la_ways_198 {x0 : Int} (h0 : ¬ ¬ x0 = 3) : ¬ x0 = 28 := by omega
theorem la_ways_199 {x0 : Int} (h0 : ¬ ¬ x0 = 3) : ¬ x0 = 29 := by omega
theorem la_ways_200 {x0 : Int} (h0 : ¬ ¬ x0 = 3) : ¬ x0 = 30 := by omega
theorem la_ways_201 {x0 : Int} (h0 : ¬ ¬ x0 = 3) : ¬ x0 = 5 := by omega
theorem la_ways_202 {x0 : Int} (h0 : x0 = 4) : ¬ x0 = 0 := by omega
theorem la_ways_203 {x0 : Int} (h0 : x0 = 4) : ¬ (x0 = 1 ∨ x0 = 3 ∨ x0 = 5) := by omega
theorem la_ways_204 {x0 : Int} (h0 : x0 = 4) : x0 = 2 ∨ x0 = 4 := by omega
theorem la_ways_205 {x0 : Int} (h0 : x0 = 4) : ¬ x0 = 6 := by omega
theorem la_ways_206 {x0 : Int} (h0 : x0 = 4) : ¬ (x0 = 7 ∨ x0 = 8) := by omega
theorem la_ways_207 {x0 : Int} (h0 : x0 = 4) : ¬ x0 = 9 := by omega
theorem la_ways_208 {x0 : Int} (h0 : x0 = 4) : ¬ (x0 = 10 ∨ x0 = 12) := by omega
theorem la_ways_209 {x0 : Int} (h0 : x0 = 4) : ¬ x0 = 11 := by omega
theorem la_ways_210 {x0 : Int} (h0 : x0 = 4) : ¬ x0 = 13 := by omega
theorem la_ways_211 {x0 : Int} (h0 : x0 = 4) : ¬ x0 = 14 := by omega
theorem la_ways_212 {x0 : Int} (h0 : x0 = 4) : ¬ x0 = 15 := by omega
theorem la_ways_213 {x0 : Int} (h0 : x0 = 4) : ¬ x0 = 16 := by omega
theorem la_ways_214 {x0 : Int} (h0 : x0 = 4) : ¬ x0 = 17 := by omega
theorem la_ways_215 {x0 : Int} (h0 : x0 = 4) : ¬ x0 = 18 := by omega
theorem la_ways_216 {x0 : Int} (h0 : x0 = 4) : ¬ x0 = 19 := by omega
theorem la_ways_217 {x0 : Int} (h0 : x0 = 4) : ¬ x0 = 20 := by omega
theorem la_ways_218 {x0 : Int} (h0 : x0 = 4) : ¬ x0 = 21 := by omega
theorem la_ways_219 {x0 : Int} (h0 : x0 = 4) : ¬ x0 = 22 := by omega
theorem la_ways_220 {x0 : Int} (h0 : x0 = 4) : ¬ (x0 = 23 ∨ x0 = 24) := by omega
theorem la_ways_221 {x0 : Int} (h0 : x0 = 4) : ¬ (x0 = 25 ∨ x0 = 26) := by omega
theorem la_ways_222 {x0 : Int} (h0 : x0 = 4) : ¬ x0 = 27 := by omega
theorem la_ways_223 {x0 : Int} (h0 : x0 = 4) : ¬ x0 = 28 := by omega
theorem la_ways_224 {x0 : Int} (h0 : x0 = 4) : ¬ x0 = 29 := by omega
theorem la_ways_225 {x0 : Int} (h0 : x0 = 4) : ¬ x0 = 30 := by omega
theorem la_ways_226 {x0 x1 x2 x3 x4 x5 x6 x7 x8 x9 x10 : Int} (h0 : x0 = x1) (h1 : 641 * (x2 + x3 + x4 + x5) + x6 ≤ 641 * (x7 + x0 + x8 + x9) + x10) : 641 * (x2 + x3 + x4 + x5) + x6 ≤ 641 * (x7 + x1 + x8 + x9) + x10 := by omega
theorem la_ways_227 {x0 : Int} (h0 : x0 = 6) : ¬ x0 = 0 := by omega
theorem la_ways_228 {x0 : Int} (h0 : x0 = 6) : ¬ (x0 = 1 ∨ x0 = 3 ∨ x0 = 5) := by omega
theorem la_ways_229 {x0 : Int} (h0 : x0 = 6) : ¬ (x0 = 2 ∨ x0 = 4) := by omega
theorem la_ways_230 {x0 : Int} (h0 : x0 = 6) : ¬ (x0 = 7 ∨ x0 = 8) := by omega
theorem la_ways_231 {x0 : Int} (h0 : x0 = 6) : ¬ x0 = 9 := by omega
theorem la_ways_232 {x0 : Int} (h0 : x0 = 6) : ¬ (x0 = 10 ∨ x0 = 12) := by omega
theorem la_ways_233 {x0 : Int} (h0 : x0 = 6) : ¬ x0 = 11 := by omega
theorem la_ways_234 {x0 : Int} (h0 : x0 = 6) : ¬ x0 = 13 := by omega
theorem la_ways_235 {x0 : Int} (h0 : x0 = 6) : ¬ x0 = 14 := by omega
theorem la_ways_236 {x0 : Int} (h0 : x0 = 6) : ¬ x0 = 15 := by omega
theorem la_ways_237 {x0 : Int} (h0 : x0 = 6) : ¬ x0 = 16 := by omega
theorem la_ways_238 {x0 : Int} (h0 : x0 = 6) : ¬ x0 = 17 := by omega
theorem la_ways_239 {x0 : Int} (h0 : x0 = 6) : ¬ x0 = 18 := by omega
theorem la_ways_240 {x0 : Int} (h0 : x0 = 6) : ¬ x0 = 19 := by omega
theorem la_ways_241 {x0 : Int} (h0 : x0 = 6) : ¬ x0 = 20 := by omega
theorem la_ways_242 {x0 : Int} (h0 : x0 = 6) : ¬ x0 = 21 := by omega
theorem la_ways_243 {x0 : Int} (h0 : x0 = 6) : ¬ x0 = 22 := by omega
theorem la_ways_244 {x0 : Int} (h0 : x0 = 6) : ¬ (x0 = 23 ∨ x0 = 24) := by omega
theorem la_ways_245 {x0 : Int} (h0 : x0 = 6) : ¬ (x0 = 25 ∨ x0 = 26) := by omega
theorem la_ways_246 {x0 : Int} (h0 : x0 = 6) : ¬ x0 = 27 := by omega
theorem la_ways_247 {x0 : Int} (h0 : x0 = 6) : ¬ x0 = 28 := by omega
theorem la_ways_248 {x0 : Int} (h0 : x0 = 6) : ¬ x0 = 29 := by omega
theorem la_ways_249 {x0 : Int} (h0 : x0 = 6) : ¬ x0 = 30 := by omega
theorem la_ways_250 : sv_R (635000 + 639) := by omega
theorem la_ways_251 {x0 x1 : Int} (h0 : 0 ≤ x0) (h1 : x0 ≤ 400) (h2 : x1 = 647340 + x0) : (0 : Int) ≤ 635000 + 639 ∧ (635000 + 639 : Int) < 647800 ∧ 635639 ≤ x1 ∧ x1 < 647800 := by omega
theorem la_ways_252 {x0 x1 x2 : Int} (h0 : 1 ≤ x0) (h1 : x0 ≤ 11) (h2 : x1 ≤ 19) (h3 : 0 ≤ x2) (h4 : x2 < x1) : 0 ≤ x2 ∧ x2 ≤ 600 ∧ 1 ≤ x0 ∧ x0 ≤ 4001 := by omega
theorem la_ways_253 {x0 : Int} (h0 : x0 = 8) : 7 ≤ x0 := by omega
theorem la_ways_254 {x0 : Int} (h0 : 7 ≤ x0) (h1 : ¬ x0 = 7) : 7 < x0 := by omega
theorem la_ways_255 {x0 : Int} (h0 : x0 = 8) : ¬ x0 = 0 := by omega
theorem la_ways_256 {x0 : Int} (h0 : x0 = 8) : ¬ (x0 = 1 ∨ x0 = 3 ∨ x0 = 5) := by omega
theorem la_ways_257 {x0 : Int} (h0 : x0 = 8) : ¬ (x0 = 2 ∨ x0 = 4) := by omega
theorem la_ways_258 {x0 : Int} (h0 : x0 = 8) : ¬ x0 = 6 := by omega
theorem la_ways_259 {x0 : Int} (h0 : x0 = 8) : ¬ x0 = 9 := by omega
theorem la_ways_260 {x0 : Int} (h0 : x0 = 8) : ¬ (x0 = 10 ∨ x0 = 12) := by omega
theorem la_ways_261 {x0 : Int} (h0 : x0 = 8) : ¬ x0 = 11 := by omega
theorem la_ways_262 {x0 : Int} (h0 : x0 = 8) : ¬ x0 = 13 := by omega
theorem la_ways_263 {x0 : Int} (h0 : x0 = 8) : ¬ x0 = 14 := by omega
theorem la_ways_264 {x0 : Int} (h0 : x0 = 8) : ¬ x0 = 15 := by omega
theorem la_ways_265 {x0 : Int} (h0 : x0 = 8) : ¬ x0 = 16 := by omega
theorem la_ways_266 {x0 : Int} (h0 : x0 = 8) : ¬ x0 = 17 := by omega
theorem la_ways_267 {x0 : Int} (h0 : x0 = 8) : ¬ x0 = 18 := by omega
theorem la_ways_268 {x0 : Int} (h0 : x0 = 8) : ¬ x0 = 19 := by omega
theorem la_ways_269 {x0 : Int} (h0 : x0 = 8) : ¬ x0 = 20 := by omega
theorem la_ways_270 {x0 : Int} (h0 : x0 = 8) : ¬ x0 = 21 := by omega
theorem la_ways_271 {x0 : Int} (h0 : x0 = 8) : ¬ x0 = 22 := by omega
theorem la_ways_272 {x0 : Int} (h0 : x0 = 8) : ¬ (x0 = 23 ∨ x0 = 24) := by omega
theorem la_ways_273 {x0 : Int} (h0 : x0 = 8) : ¬ (x0 = 25 ∨ x0 = 26) := by omega
theorem la_ways_274 {x0 : Int} (h0 : x0 = 8) : ¬ x0 = 27 := by omega
theorem la_ways_275 {x0 : Int} (h0 : x0 = 8) : ¬ x0 = 28 := by omega
theorem la_ways_276 {x0 : Int} (h0 : x0 = 8) : ¬ x0 = 29 := by omega
theorem la_ways_277 {x0 : Int} (h0 : x0 = 8) : ¬ x0 = 30 := by omega
theorem la_ways_278 {x0 x1 x2 : Int} (h0 : 1 ≤ x0) (h1 : 0 ≤ x1) (h2 : x2 = 29 + 6 * (x0 - 1) + 2 * x1) : 0 ≤ x2 := by omega
theorem la_ways_279 {x0 x1 x2 x3 x4 : Int} (h0 : x0 = 29 + 6 * (x1 - 1) + 2 * x2) (h1 : x3 < x2) (h2 : x4 = 29 + 6 * (x1 - 1) + 2 * x3) : x4 + 1 < x0 := by omega
theorem la_ways_280 : ((-1) : Int) ≤ 3 := by omega
theorem la_ways_281 : (3 : Int) ≤ 63 := by omega
theorem la_ways_282 : (0 : Int) ≤ 0 := by omega
theorem la_ways_283 : (0 : Int) ≤ 12 := by omega
theorem la_ways_284 {x0 x1 : Int} (h0 : x0 + 1 < x1) : ¬ x1 ≤ x0 := by omega
theorem la_ways_285 {x0 x1 : Int} (h0 : x0 + 1 < x1) : ¬ x1 ≤ x0 + 1 := by omega
theorem la_ways_286 {x0 x1 x2 : Int} (h0 : x0 < x1) (h1 : x1 + 1 < x2) : ¬ x2 ≤ x0 := by omega
theorem la_ways_287 {x0 : Int} (h0 : 0 ≤ x0) (h1 : x0 < 0) : False := by omega
theorem la_ways_288 {x0 : Int} (h0 : x0 = 8) : x0 ≤ 8 := by omega
theorem la_ways_289 {x0 : Int} (h0 : x0 ≤ 8) (h1 : ¬ x0 = 8) : x0 < 8 := by omega
theorem la_ways_290 {x0 x1 : Int} (h0 : 0 ≤ x0) (h1 : x0 ≤ 400) (h2 : x1 = 647340 + x0) : 635639 ≤ x1 ∧ x1 < 647800 := by omega
theorem la_ways_291 {x0 x1 x2 x3 x4 x5 x6 x7 x8 x9 x10 x11 x12 x13 x14 : Int} (h0 : x0 = x1) (h1 : x2 = x3) (h2 : x4 = x5) (h3 : x6 = x0) (h4 : x7 = x6) (h5 : 641 * (x8 + x9 + x10 + x11) + x12 ≤ 641 * (x13 + x7 + x2 + x4) + x14) : 641 * (x8 + x9 + x10 + x11) + x12 ≤ 641 * (x13 + x1 + x3 + x5) + x14 := by omega
theorem la_ways_292 {x0 x1 x2 x3 x4 x5 x6 : Int} (h0 : 31 ≤ x0) (h1 : 1 ≤ x1) (h2 : x2 = 29 + 6 * (x1 - 1) + 2 * x3) (h3 : 0 ≤ x4) (h4 : x4 ≤ 11557) (h5 : 0 ≤ x5) (h6 : x5 < x3) (h7 : x6 = 29 + 6 * (x1 - 1) + 2 * x5) : 0 ≤ x4 ∧ x4 ≤ 11557 ∧ 0 ≤ x6 ∧ x6 < x2 ∧ (0 : Int) ≤ 0 ∧ 0 ≤ x0 := by omega
theorem la_ways_293 {x0 : Int} (h0 : 635640 ≤ x0) (h1 : x0 < 647340) : 635639 ≤ x0 ∧ x0 < 647790 := by omega
theorem la_ways_294 {x0 x1 x2 x3 x4 x5 x6 x7 x8 x9 x10 x11 x12 x13 x14 x15 x16 : Int} (h0 : x0 = x1) (h1 : x2 = x3) (h2 : x4 = x5) (h3 : x6 = x0) (h4 : x7 = x6) (h5 : x8 = x7) (h6 : x9 = x8) (h7 : 641 * (x10 + x11 + x12 + x13) + x14 ≤ 641 * (x15 + x9 + x2 + x4) + x16) : 641 * (x10 + x11 + x12 + x13) + x14 ≤ 641 * (x15 + x1 + x3 + x5) + x16 := by omega
theorem la_ways_295 {x0 : Int} (h0 : ¬ ¬ x0 = 7) : ¬ x0 = 0 := by omega
theorem la_ways_296 {x0 : Int} (h0 : ¬ ¬ x0 = 7) : ¬ (x0 = 1 ∨ x0 = 3 ∨ x0 = 5) := by omega
theorem la_ways_297 {x0 : Int} (h0 : ¬ ¬ x0 = 7) : ¬ (x0 = 2 ∨ x0 = 4) := by omega
theorem la_ways_298 {x0 : Int} (h0 : ¬ ¬ x0 = 7) : ¬ x0 = 6 := by omega
theorem la_ways_299 {x0 : Int} (h0 : ¬ ¬ x0 = 7) : ¬ x0 = 9 := by omega
theorem la_ways_300 {x0 : Int} (h0 : ¬ ¬ x0 = 7) : ¬ (x0 = 10 ∨ x0 = 12) := by omega
theorem la_ways_301 {x0 : Int} (h0 : ¬ ¬ x0 = 7) : ¬ x0 = 11 := by omega
theorem la_ways_302 {x0 : Int} (h0 : ¬ ¬ x0 = 7) : ¬ x0 = 13 := by omega
theorem la_ways_303 {x0 : Int} (h0 : ¬ ¬ x0 = 7) : ¬ x0 = 14 := by omega
theorem la_ways_304 {x0 : Int} (h0 : ¬ ¬ x0 = 7) : ¬ x0 = 15 := by omega
theorem la_ways_305 {x0 : Int} (h0 : ¬ ¬ x0 = 7) : ¬ x0 = 16 := by omega
theorem la_ways_306 {x0 : Int} (h0 : ¬ ¬ x0 = 7) : ¬ x0 = 17 := by omega
theorem la_ways_307 {x0 : Int} (h0 : ¬ ¬ x0 = 7) : ¬ x0 = 18 := by omega
theorem la_ways_308 {x0 : Int} (h0 : ¬ ¬ x0 = 7) : ¬ x0 = 19 := by omega
theorem la_ways_309 {x0 : Int} (h0 : ¬ ¬ x0 = 7) : ¬ x0 = 20 := by omega
theorem la_ways_310 {x0 : Int} (h0 : ¬ ¬ x0 = 7) : ¬ x0 = 21 := by omega
theorem la_ways_311 {x0 : Int} (h0 : ¬ ¬ x0 = 7) : ¬ x0 = 22 := by omega
theorem la_ways_312 {x0 : Int} (h0 : ¬ ¬ x0 = 7) : ¬ (x0 = 23 ∨ x0 = 24) := by omega
theorem la_ways_313 {x0 : Int} (h0 : ¬ ¬ x0 = 7) : ¬ (x0 = 25 ∨ x0 = 26) := by omega
theorem la_ways_314 {x0 : Int} (h0 : ¬ ¬ x0 = 7) : ¬ x0 = 27 := by omega
theorem la_ways_315 {x0 : Int} (h0 : ¬ ¬ x0 = 7) : ¬ x0 = 28 := by omega
theorem la_ways_316 {x0 : Int} (h0 : ¬ ¬ x0 = 7) : ¬ x0 = 29 := by omega
theorem la_ways_317 {x0 : Int} (h0 : ¬ ¬ x0 = 7) : ¬ x0 = 30 := by omega
theorem la_ways_318 {x0 : Int} (h0 : ¬ ¬ x0 = 7) : ¬ x0 = 8 := by omega
theorem la_ways_319 : ((-1) : Int) ≤ 1 := by omega
theorem la_ways_320 : (1 : Int) ≤ 63 := by omega
theorem la_ways_321 {x0 : Int} (h0 : x0 = 7) : x0 ≤ 8 := by omega
theorem la_ways_322 {x0 : Int} (h0 : x0 = 9) : ¬ x0 = 0 := by omega
theorem la_ways_323 {x0 : Int} (h0 : x0 = 9) : ¬ (x0 = 1 ∨ x0 = 3 ∨ x0 = 5) := by omega
theorem la_ways_324 {x0 : Int} (h0 : x0 = 9) : ¬ (x0 = 2 ∨ x0 = 4) := by omega
theorem la_ways_325 {x0 : Int} (h0 : x0 = 9) : ¬ x0 = 6 := by omega
theorem la_ways_326 {x0 : Int} (h0 : x0 = 9) : ¬ (x0 = 7 ∨ x0 = 8) := by omega
theorem la_ways_327 {x0 : Int} (h0 : x0 = 9) : ¬ (x0 = 10 ∨ x0 = 12) := by omega
theorem la_ways_328 {x0 : Int} (h0 : x0 = 9) : ¬ x0 = 11 := by omega
theorem la_ways_329 {x0 : Int} (h0 : x0 = 9) : ¬ x0 = 13 := by omega
theorem la_ways_330 {x0 : Int} (h0 : x0 = 9) : ¬ x0 = 14 := by omega
theorem la_ways_331 {x0 : Int} (h0 : x0 = 9) : ¬ x0 = 15 := by omega
theorem la_ways_332 {x0 : Int} (h0 : x0 = 9) : ¬ x0 = 16 := by omega
theorem la_ways_333 {x0 : Int} (h0 : x0 = 9) : ¬ x0 = 17 := by omega
theorem la_ways_334 {x0 : Int} (h0 : x0 = 9) : ¬ x0 = 18 := by omega
theorem la_ways_335 {x0 : Int} (h0 : x0 = 9) : ¬ x0 = 19 := by omega
theorem la_ways_336 {x0 : Int} (h0 : x0 = 9) : ¬ x0 = 20 := by omega
theorem la_ways_337 {x0 : Int} (h0 : x0 = 9) : ¬ x0 = 21 := by omega
theorem la_ways_338 {x0 : Int} (h0 : x0 = 9) : ¬ x0 = 22 := by omega
theorem la_ways_339 {x0 : Int} (h0 : x0 = 9) : ¬ (x0 = 23 ∨ x0 = 24) := by omega
theorem la_ways_340 {x0 : Int} (h0 : x0 = 9) : ¬ (x0 = 25 ∨ x0 = 26) := by omega
theorem la_ways_341 {x0 : Int} (h0 : x0 = 9) : ¬ x0 = 27 := by omega
theorem la_ways_342 {x0 : Int} (h0 : x0 = 9) : ¬ x0 = 28 := by omega
theorem la_ways_343 {x0 : Int} (h0 : x0 = 9) : ¬ x0 = 29 := by omega
theorem la_ways_344 {x0 : Int} (h0 : x0 = 9) : ¬ x0 = 30 := by omega
theorem la_ways_345 {x0 x1 x2 : Int} (h0 : x0 ≤ 11) (h1 : 1 ≤ x1) (h2 : x1 < x0) (h3 : 29 + 6 * (x1 - 1) + 2 = x2) : sv_R x2 := by omega
theorem la_ways_346 {x0 x1 : Int} (h0 : 1 ≤ x0) (h1 : 29 + 6 * (x0 - 1) + 2 = x1) : 0 ≤ x1 := by omega
theorem la_ways_347 {x0 x1 x2 x3 x4 : Int} (h0 : 0 ≤ x0) (h1 : x1 = 29 + 6 * (x2 - 1) + 2 * x0) (h2 : x3 < x2) (h3 : 29 + 6 * (x3 - 1) + 2 = x4) : x4 + 1 < x1 := by omega
theorem la_ways_348 : ((-1) : Int) ≤ 2 := by omega
theorem la_ways_349 : (2 : Int) ≤ 63 := by omega
theorem la_ways_350 {x0 x1 x2 : Int} (h0 : x0 ≤ 11) (h1 : 1 ≤ x1) (h2 : x1 < x0) (h3 : 29 + 6 * (x1 - 1) + 2 = x2) : sv_R (x2 + 2) := by omega
theorem la_ways_351 {x0 x1 : Int} (h0 : 1 ≤ x0) (h1 : 29 + 6 * (x0 - 1) + 2 = x1) : 0 ≤ x1 + 2 := by omega
theorem la_ways_352 {x0 x1 x2 x3 x4 : Int} (h0 : 0 ≤ x0) (h1 : x1 = 29 + 6 * (x2 - 1) + 2 * x0) (h2 : x3 < x2) (h3 : 29 + 6 * (x3 - 1) + 2 = x4) : x4 + 2 + 1 < x1 := by omega
theorem la_ways_353 {x0 x1 x2 x3 x4 x5 : Int} (h0 : x0 ≤ 11) (h1 : 0 ≤ x1) (h2 : x1 ≤ 11557) (h3 : 1 ≤ x2) (h4 : x2 < x0) (h5 : 29 + 6 * (x2 - 1) + 2 = x3) : 0 ≤ x1 ∧ x1 ≤ 11557 ∧ (0 : Int) ≤ 639 ∧ ((639 : Int) = 639 ∨ 639 < x4 + 2 * x0) ∧ 0 ≤ x3 ∧ (x3 < x5 ∨ (639 : Int) = 639 ∧ x3 < 128) := by omega
theorem la_ways_354 : (0 : Int) ≤ 639 ∧ (639 : Int) < 640 := by omega
theorem la_ways_355 {x0 x1 x2 x3 : Int} (h0 : x0 ≤ 11) (h1 : 1 ≤ x1) (h2 : x1 < x0) (h3 : 29 + 6 * (x1 - 1) + 2 = x2) (h4 : x3 = 15000 + x2) : 0 ≤ x3 ∧ x3 < 15128 := by omega
theorem la_ways_356 {x0 x1 x2 x3 x4 x5 x6 : Int} (h0 : 31 ≤ x0) (h1 : 0 ≤ x1) (h2 : x2 = 29 + 6 * (x3 - 1) + 2 * x1) (h3 : 0 ≤ x4) (h4 : x4 ≤ 11557) (h5 : 1 ≤ x5) (h6 : x5 < x3) (h7 : 29 + 6 * (x5 - 1) + 2 = x6) : 0 ≤ x4 ∧ x4 ≤ 11557 ∧ 0 ≤ x6 ∧ x6 < x2 ∧ (0 : Int) ≤ 1 ∧ 1 ≤ x0 := by omega
theorem la_ways_357 {x0 : Int} (h0 : 635640 ≤ x0) (h1 : x0 < 647340) : 635639 ≤ x0 ∧ x0 < 647800 := by omega
theorem la_ways_358 {x0 x1 x2 x3 x4 x5 x6 : Int} (h0 : 31 ≤ x0) (h1 : 0 ≤ x1) (h2 : x2 = 29 + 6 * (x3 - 1) + 2 * x1) (h3 : 0 ≤ x4) (h4 : x4 ≤ 11557) (h5 : 1 ≤ x5) (h6 : x5 < x3) (h7 : 29 + 6 * (x5 - 1) + 2 = x6) : 0 ≤ x4 ∧ x4 ≤ 11557 ∧ 0 ≤ x6 + 2 ∧ x6 + 2 < x2 ∧ (0 : Int) ≤ 2 ∧ 2 ≤ x0 := by omega
theorem la_ways_359 {x0 x1 x2 : Int} (h0 : 1 ≤ x0) (h1 : 29 + 6 * (x0 - 1) + 2 = x1) (h2 : x2 = 15000 + x1) : 15000 ≤ x2 := by omega
theorem la_ways_360 {x0 x1 x2 x3 x4 x5 x6 x7 x8 x9 x10 x11 x12 x13 x14 x15 x16 x17 x18 x19 x20 x21 x22 x23 : Int} (h0 : x0 = x1) (h1 : x2 = x3) (h2 : x4 = x5) (h3 : x6 = x0) (h4 : x7 = x2) (h5 : x8 = x4) (h6 : x9 = x6) (h7 : x10 = x9) (h8 : x11 = x10) (h9 : x12 = x11) (h10 : x13 = x12) (h11 : x14 = x13) (h12 : 641 * (x15 + x16 + x17 + x18) + x19 ≤ 641 * (x20 + x14 + x21 + x8) + x22) (h13 : x21 = x23) (h14 : x23 = x7) : 641 * (x15 + x16 + x17 + x18) + x19 ≤ 641 * (x20 + x1 + x3 + x5) + x22 := by omega
theorem la_ways_361 {x0 : Int} (h0 : x0 = 10) : ¬ x0 = 0 := by omega
theorem la_ways_362 {x0 : Int} (h0 : x0 = 10) : ¬ (x0 = 1 ∨ x0 = 3 ∨ x0 = 5) := by omega
theorem la_ways_363 {x0 : Int} (h0 : x0 = 10) : ¬ (x0 = 2 ∨ x0 = 4) := by omega
theorem la_ways_364 {x0 : Int} (h0 : x0 = 10) : ¬ x0 = 6 := by omega
theorem la_ways_365 {x0 : Int} (h0 : x0 = 10) : ¬ (x0 = 7 ∨ x0 = 8) := by omega
theorem la_ways_366 {x0 : Int} (h0 : x0 = 10) : ¬ x0 = 9 := by omega
theorem la_ways_367 {x0 : Int} (h0 : x0 = 10) : x0 = 10 ∨ x0 = 12 := by omega
theorem la_ways_368 {x0 : Int} (h0 : x0 = 10) : ¬ x0 = 11 := by omega
theorem la_ways_369 {x0 : Int} (h0 : x0 = 10) : ¬ x0 = 13 := by omega
theorem la_ways_370 {x0 : Int} (h0 : x0 = 10) : ¬ x0 = 14 := by omega
theorem la_ways_371 {x0 : Int} (h0 : x0 = 10) : ¬ x0 = 15 := by omega
theorem la_ways_372 {x0 : Int} (h0 : x0 = 10) : ¬ x0 = 16 := by omega
theorem la_ways_373 {x0 : Int} (h0 : x0 = 10) : ¬ x0 = 17 := by omega
theorem la_ways_374 {x0 : Int} (h0 : x0 = 10) : ¬ x0 = 18 := by omega
theorem la_ways_375 {x0 : Int} (h0 : x0 = 10) : ¬ x0 = 19 := by omega
theorem la_ways_376 {x0 : Int} (h0 : x0 = 10) : ¬ x0 = 20 := by omega
theorem la_ways_377 {x0 : Int} (h0 : x0 = 10) : ¬ x0 = 21 := by omega
theorem la_ways_378 {x0 : Int} (h0 : x0 = 10) : ¬ x0 = 22 := by omega
theorem la_ways_379 {x0 : Int} (h0 : x0 = 10) : ¬ (x0 = 23 ∨ x0 = 24) := by omega
theorem la_ways_380 {x0 : Int} (h0 : x0 = 10) : ¬ (x0 = 25 ∨ x0 = 26) := by omega
theorem la_ways_381 {x0 : Int} (h0 : x0 = 10) : ¬ x0 = 27 := by omega
theorem la_ways_382 {x0 : Int} (h0 : x0 = 10) : ¬ x0 = 28 := by omega
theorem la_ways_383 {x0 : Int} (h0 : x0 = 10) : ¬ x0 = 29 := by omega
theorem la_ways_384 {x0 : Int} (h0 : x0 = 10) : ¬ x0 = 30 := by omega
theorem la_ways_385 {x0 x1 x2 x3 x4 x5 x6 x7 x8 : Int} (h0 : 0 ≤ x0) (h1 : x1 = 1) (h2 : x2 = x3) (h3 : x4 = x5) (h4 : 0 ≤ x3 - 2) (h5 : x0 + 1 < x6) (h6 : x7 = x3 - 1) (h7 : x8 = x5) : 0 ≤ x0 ∧ x0 < x6 ∧ x1 = 1 ∧ x2 = x3 ∧ x4 = x5 ∧ 2 ≤ x3 ∧ x0 + 1 < x6 ∧ x7 = x3 + (-1) ∧ x8 = x5 := by omega
theorem la_ways_386 {x0 : Int} (h0 : x0 = 11) : ¬ x0 = 0 := by omega
theorem la_ways_387 {x0 : Int} (h0 : x0 = 11) : ¬ (x0 = 1 ∨ x0 = 3 ∨ x0 = 5) := by omega
theorem la_ways_388 {x0 : Int} (h0 : x0 = 11) : ¬ (x0 = 2 ∨ x0 = 4) := by omega
theorem la_ways_389 {x0 : Int} (h0 : x0 = 11) : ¬ x0 = 6 := by omega
theorem la_ways_390 {x0 : Int} (h0 : x0 = 11) : ¬ (x0 = 7 ∨ x0 = 8) := by omega
theorem la_ways_391 {x0 : Int} (h0 : x0 = 11) : ¬ x0 = 9 := by omega
theorem la_ways_392 {x0 : Int} (h0 : x0 = 11) : ¬ (x0 = 10 ∨ x0 = 12) := by omega
theorem la_ways_393 {x0 : Int} (h0 : x0 = 11) : ¬ x0 = 13 := by omega
theorem la_ways_394 {x0 : Int} (h0 : x0 = 11) : ¬ x0 = 14 := by omega
theorem la_ways_395 {x0 : Int} (h0 : x0 = 11) : ¬ x0 = 15 := by omega
theorem la_ways_396 {x0 : Int} (h0 : x0 = 11) : ¬ x0 = 16 := by omega
theorem la_ways_397 {x0 : Int} (h0 : x0 = 11) : ¬ x0 = 17 := by omega
theorem la_ways_398 {x0 : Int} (h0 : x0 = 11) : ¬ x0 = 18 := by omega
theorem la_ways_399 {x0 : Int} (h0 : x0 = 11) : ¬ x0 = 19 := by omega
theorem la_ways_400 {x0 : Int} (h0 : x0 = 11) : ¬ x0 = 20 := by omega
theorem la_ways_401 {x0 : Int} (h0 : x0 = 11) : ¬ x0 = 21 := by omega
theorem la_ways_402 {x0 : Int} (h0 : x0 = 11) : ¬ x0 = 22 := by omega
theorem la_ways_403 {x0 : Int} (h0 : x0 = 11) : ¬ (x0 = 23 ∨ x0 = 24) := by omega
theorem la_ways_404 {x0 : Int} (h0 : x0 = 11) : ¬ (x0 = 25 ∨ x0 = 26) := by omega
theorem la_ways_405 {x0 : Int} (h0 : x0 = 11) : ¬ x0 = 27 := by omega
theorem la_ways_406 {x0 : Int} (h0 : x0 = 11) : ¬ x0 = 28 := by omega
theorem la_ways_407 {x0 : Int} (h0 : x0 = 11) : ¬ x0 = 29 := by omega
theorem la_ways_408 {x0 : Int} (h0 : x0 = 11) : ¬ x0 = 30 := by omega
theorem la_ways_409 {x0 x1 x2 x3 x4 x5 x6 x7 x8 : Int} (h0 : 0 ≤ x0) (h1 : x1 = 1) (h2 : x2 = x3) (h3 : x4 = x5) (h4 : 0 ≤ x3 - 3) (h5 : x0 + 1 < x6) (h6 : x7 = x3 - 2) (h7 : x8 = x5) : 0 ≤ x0 ∧ x0 < x6 ∧ x1 = 1 ∧ x2 = x3 ∧ x4 = x5 ∧ 3 ≤ x3 ∧ x0 + 1 < x6 ∧ x7 = x3 + (-2) ∧ x8 = x5 := by omega
theorem la_ways_410 {x0 : Int} (h0 : x0 = 12) : ¬ x0 = 0 := by omega
theorem la_ways_411 {x0 : Int} (h0 : x0 = 12) : ¬ (x0 = 1 ∨ x0 = 3 ∨ x0 = 5) := by omega
theorem la_ways_412 {x0 : Int} (h0 : x0 = 12) : ¬ (x0 = 2 ∨ x0 = 4) := by omega
theorem la_ways_413 {x0 : Int} (h0 : x0 = 12) : ¬ x0 = 6 := by omega
theorem la_ways_414 {x0 : Int} (h0 : x0 = 12) : ¬ (x0 = 7 ∨ x0 = 8) := by omega
theorem la_ways_415 {x0 : Int} (h0 : x0 = 12) : ¬ x0 = 9 := by omega
theorem la_ways_416 {x0 : Int} (h0 : x0 = 12) : x0 = 10 ∨ x0 = 12 := by omega
theorem la_ways_417 {x0 : Int} (h0 : x0 = 12) : ¬ x0 = 11 := by omega
theorem la_ways_418 {x0 : Int} (h0 : x0 = 12) : ¬ x0 = 13 := by omega
theorem la_ways_419 {x0 : Int} (h0 : x0 = 12) : ¬ x0 = 14 := by omega
theorem la_ways_420 {x0 : Int} (h0 : x0 = 12) : ¬ x0 = 15 := by omega
theorem la_ways_421 {x0 : Int} (h0 : x0 = 12) : ¬ x0 = 16 := by omega
theorem la_ways_422 {x0 : Int} (h0 : x0 = 12) : ¬ x0 = 17 := by omega
theorem la_ways_423 {x0 : Int} (h0 : x0 = 12) : ¬ x0 = 18 := by omega
theorem la_ways_424 {x0 : Int} (h0 : x0 = 12) : ¬ x0 = 19 := by omega
theorem la_ways_425 {x0 : Int} (h0 : x0 = 12) : ¬ x0 = 20 := by omega
theorem la_ways_426 {x0 : Int} (h0 : x0 = 12) : ¬ x0 = 21 := by omega
theorem la_ways_427 {x0 : Int} (h0 : x0 = 12) : ¬ x0 = 22 := by omega
theorem la_ways_428 {x0 : Int} (h0 : x0 = 12) : ¬ (x0 = 23 ∨ x0 = 24) := by omega
theorem la_ways_429 {x0 : Int} (h0 : x0 = 12) : ¬ (x0 = 25 ∨ x0 = 26) := by omega
theorem la_ways_430 {x0 : Int} (h0 : x0 = 12) : ¬ x0 = 27 := by omega
theorem la_ways_431 {x0 : Int} (h0 : x0 = 12) : ¬ x0 = 28 := by omega
theorem la_ways_432 {x0 : Int} (h0 : x0 = 12) : ¬ x0 = 29 := by omega
theorem la_ways_433 {x0 : Int} (h0 : x0 = 12) : ¬ x0 = 30 := by omega
theorem la_ways_434 {x0 : Int} (h0 : x0 = 13) : ¬ x0 = 0 := by omega
theorem la_ways_435 {x0 : Int} (h0 : x0 = 13) : ¬ (x0 = 1 ∨ x0 = 3 ∨ x0 = 5) := by omega
theorem la_ways_436 {x0 : Int} (h0 : x0 = 13) : ¬ (x0 = 2 ∨ x0 = 4) := by omega
theorem la_ways_437 {x0 : Int} (h0 : x0 = 13) : ¬ x0 = 6 := by omega
theorem la_ways_438 {x0 : Int} (h0 : x0 = 13) : ¬ (x0 = 7 ∨ x0 = 8) := by omega
theorem la_ways_439 {x0 : Int} (h0 : x0 = 13) : ¬ x0 = 9 := by omega
theorem la_ways_440 {x0 : Int} (h0 : x0 = 13) : ¬ (x0 = 10 ∨ x0 = 12) := by omega
theorem la_ways_441 {x0 : Int} (h0 : x0 = 13) : ¬ x0 = 11 := by omega
theorem la_ways_442 {x0 : Int} (h0 : x0 = 13) : ¬ x0 = 14 := by omega
theorem la_ways_443 {x0 : Int} (h0 : x0 = 13) : ¬ x0 = 15 := by omega
theorem la_ways_444 {x0 : Int} (h0 : x0 = 13) : ¬ x0 = 16 := by omega
theorem la_ways_445 {x0 : Int} (h0 : x0 = 13) : ¬ x0 = 17 := by omega
theorem la_ways_446 {x0 : Int} (h0 : x0 = 13) : ¬ x0 = 18 := by omega
theorem la_ways_447 {x0 : Int} (h0 : x0 = 13) : ¬ x0 = 19 := by omega
theorem la_ways_448 {x0 : Int} (h0 : x0 = 13) : ¬ x0 = 20 := by omega
theorem la_ways_449 {x0 : Int} (h0 : x0 = 13) : ¬ x0 = 21 := by omega
theorem la_ways_450 {x0 : Int} (h0 : x0 = 13) : ¬ x0 = 22 := by omega
theorem la_ways_451 {x0 : Int} (h0 : x0 = 13) : ¬ (x0 = 23 ∨ x0 = 24) := by omega
theorem la_ways_452 {x0 : Int} (h0 : x0 = 13) : ¬ (x0 = 25 ∨ x0 = 26) := by omega
theorem la_ways_453 {x0 : Int} (h0 : x0 = 13) : ¬ x0 = 27 := by omega
theorem la_ways_454 {x0 : Int} (h0 : x0 = 13) : ¬ x0 = 28 := by omega
theorem la_ways_455 {x0 : Int} (h0 : x0 = 13) : ¬ x0 = 29 := by omega
theorem la_ways_456 {x0 : Int} (h0 : x0 = 13) : ¬ x0 = 30 := by omega
theorem la_ways_457 {x0 x1 : Int} (h0 : 0 ≤ x0) (h1 : x0 ≤ 400) (h2 : x1 = 647339 + x0 - 0) : 0 ≤ x1 ∧ x1 < 647800 ∧ (635639 : Int) ≤ 647740 ∧ (647740 : Int) < 647790 := by omega
theorem la_ways_458 {x0 x1 x2 x3 x4 x5 x6 x7 : Int} (h0 : 0 ≤ x0) (h1 : x1 = x2) (h2 : x3 = x4) (h3 : x2 ≤ 396) (h4 : 0 ≤ x2 - 1) (h5 : x0 + 1 < x5) (h6 : x6 = x2) (h7 : x7 = x4) : 0 ≤ x0 ∧ x0 + 1 < x5 ∧ (0 : Int) ≤ 1 ∧ 1 ≤ x1 ∧ x1 - 1 ≤ 399 ∧ (0 : Int) ≤ 647740 ∧ (647740 : Int) < 647800 ∧ x6 = x1 - 1 + 1 ∧ x7 = x3 := by omega
theorem la_ways_459 {x0 : Int} (h0 : x0 = 14) : ¬ x0 = 0 := by omega
theorem la_ways_460 {x0 : Int} (h0 : x0 = 14) : ¬ (x0 = 1 ∨ x0 = 3 ∨ x0 = 5) := by omega
theorem la_ways_461 {x0 : Int} (h0 : x0 = 14) : ¬ (x0 = 2 ∨ x0 = 4) := by omega
theorem la_ways_462 {x0 : Int} (h0 : x0 = 14) : ¬ x0 = 6 := by omega
theorem la_ways_463 {x0 : Int} (h0 : x0 = 14) : ¬ (x0 = 7 ∨ x0 = 8) := by omega
theorem la_ways_464 {x0 : Int} (h0 : x0 = 14) : ¬ x0 = 9 := by omega
theorem la_ways_465 {x0 : Int} (h0 : x0 = 14) : ¬ (x0 = 10 ∨ x0 = 12) := by omega
theorem la_ways_466 {x0 : Int} (h0 : x0 = 14) : ¬ x0 = 11 := by omega
theorem la_ways_467 {x0 : Int} (h0 : x0 = 14) : ¬ x0 = 13 := by omega
theorem la_ways_468 {x0 : Int} (h0 : x0 = 14) : ¬ x0 = 15 := by omega
theorem la_ways_469 {x0 : Int} (h0 : x0 = 14) : ¬ x0 = 16 := by omega
theorem la_ways_470 {x0 : Int} (h0 : x0 = 14) : ¬ x0 = 17 := by omega
theorem la_ways_471 {x0 : Int} (h0 : x0 = 14) : ¬ x0 = 18 := by omega
theorem la_ways_472 {x0 : Int} (h0 : x0 = 14) : ¬ x0 = 19 := by omega
theorem la_ways_473 {x0 : Int} (h0 : x0 = 14) : ¬ x0 = 20 := by omega
theorem la_ways_474 {x0 : Int} (h0 : x0 = 14) : ¬ x0 = 21 := by omega
theorem la_ways_475 {x0 : Int} (h0 : x0 = 14) : ¬ x0 = 22 := by omega
theorem la_ways_476 {x0 : Int} (h0 : x0 = 14) : ¬ (x0 = 23 ∨ x0 = 24) := by omega
theorem la_ways_477 {x0 : Int} (h0 : x0 = 14) : ¬ (x0 = 25 ∨ x0 = 26) := by omega
theorem la_ways_478 {x0 : Int} (h0 : x0 = 14) : ¬ x0 = 27 := by omega
theorem la_ways_479 {x0 : Int} (h0 : x0 = 14) : ¬ x0 = 28 := by omega
theorem la_ways_480 {x0 : Int} (h0 : x0 = 14) : ¬ x0 = 29 := by omega
theorem la_ways_481 {x0 : Int} (h0 : x0 = 14) : ¬ x0 = 30 := by omega
theorem la_ways_482 {x0 x1 x2 x3 x4 x5 x6 x7 x8 x9 : Int} (h0 : 0 ≤ x0) (h1 : x1 = 1) (h2 : x2 = x3) (h3 : x4 = x5) (h4 : 0 ≤ x6) (h5 : x6 ≤ 20) (h6 : 0 ≤ x3 - 2) (h7 : x0 + 1 < x7) (h8 : x8 = x3 - 1) (h9 : x9 = x5) : 0 ≤ x0 ∧ x0 < x7 ∧ x1 = 1 ∧ x2 = x3 ∧ x4 = x5 ∧ 2 ≤ x3 ∧ 0 ≤ x6 ∧ x6 ≤ 20 ∧ x0 + 1 < x7 ∧ x8 = x3 + (-1) ∧ x9 = x5 := by omega
theorem la_ways_483 {x0 : Int} (h0 : x0 = 15) : ¬ x0 = 0 := by omega
theorem la_ways_484 {x0 : Int} (h0 : x0 = 15) : ¬ (x0 = 1 ∨ x0 = 3 ∨ x0 = 5) := by omega
theorem la_ways_485 {x0 : Int} (h0 : x0 = 15) : ¬ (x0 = 2 ∨ x0 = 4) := by omega
theorem la_ways_486 {x0 : Int} (h0 : x0 = 15) : ¬ x0 = 6 := by omega
theorem la_ways_487 {x0 : Int} (h0 : x0 = 15) : ¬ (x0 = 7 ∨ x0 = 8) := by omega
theorem la_ways_488 {x0 : Int} (h0 : x0 = 15) : ¬ x0 = 9 := by omega
theorem la_ways_489 {x0 : Int} (h0 : x0 = 15) : ¬ (x0 = 10 ∨ x0 = 12) := by omega
theorem la_ways_490 {x0 : Int} (h0 : x0 = 15) : ¬ x0 = 11 := by omega
theorem la_ways_491 {x0 : Int} (h0 : x0 = 15) : ¬ x0 = 13 := by omega
theorem la_ways_492 {x0 : Int} (h0 : x0 = 15) : ¬ x0 = 14 := by omega
theorem la_ways_493 {x0 : Int} (h0 : x0 = 15) : ¬ x0 = 16 := by omega
theorem la_ways_494 {x0 : Int} (h0 : x0 = 15) : ¬ x0 = 17 := by omega
theorem la_ways_495 {x0 : Int} (h0 : x0 = 15) : ¬ x0 = 18 := by omega
theorem la_ways_496 {x0 : Int} (h0 : x0 = 15) : ¬ x0 = 19 := by omega
theorem la_ways_497 {x0 : Int} (h0 : x0 = 15) : ¬ x0 = 20 := by omega
theorem la_ways_498 {x0 : Int} (h0 : x0 = 15) : ¬ x0 = 21 := by omega
theorem la_ways_499 {x0 : Int} (h0 : x0 = 15) : ¬ x0 = 22 := by omega
theorem la_ways_500 {x0 : Int} (h0 : x0 = 15) : ¬ (x0 = 23 ∨ x0 = 24) := by omega
theorem la_ways_501 {x0 : Int} (h0 : x0 = 15) : ¬ (x0 = 25 ∨ x0 = 26) := by omega
theorem la_ways_502 {x0 : Int} (h0 : x0 = 15) : ¬ x0 = 27 := by omega
theorem la_ways_503 {x0 : Int} (h0 : x0 = 15) : ¬ x0 = 28 := by omega
theorem la_ways_504 {x0 : Int} (h0 : x0 = 15) : ¬ x0 = 29 := by omega
theorem la_ways_505 {x0 : Int} (h0 : x0 = 15) : ¬ x0 = 30 := by omega
theorem la_ways_506 {x0 x1 : Int} (h0 : 0 ≤ x0 - x1 - 2) : x1 + 2 ≤ x0 := by omega
theorem la_ways_507 {x0 : Int} (h0 : x0 = 16) : ¬ x0 = 0 := by omega
theorem la_ways_508 {x0 : Int} (h0 : x0 = 16) : ¬ (x0 = 1 ∨ x0 = 3 ∨ x0 = 5) := by omega
theorem la_ways_509 {x0 : Int} (h0 : x0 = 16) : ¬ (x0 = 2 ∨ x0 = 4) := by omega
theorem la_ways_510 {x0 : Int} (h0 : x0 = 16) : ¬ x0 = 6 := by omega
theorem la_ways_511 {x0 : Int} (h0 : x0 = 16) : ¬ (x0 = 7 ∨ x0 = 8) := by omega
theorem la_ways_512 {x0 : Int} (h0 : x0 = 16) : ¬ x0 = 9 := by omega
theorem la_ways_513 {x0 : Int} (h0 : x0 = 16) : ¬ (x0 = 10 ∨ x0 = 12) := by omega
theorem la_ways_514 {x0 : Int} (h0 : x0 = 16) : ¬ x0 = 11 := by omega
theorem la_ways_515 {x0 : Int} (h0 : x0 = 16) : ¬ x0 = 13 := by omega
theorem la_ways_516 {x0 : Int} (h0 : x0 = 16) : ¬ x0 = 14 := by omega
theorem la_ways_517 {x0 : Int} (h0 : x0 = 16) : ¬ x0 = 15 := by omega
theorem la_ways_518 {x0 : Int} (h0 : x0 = 16) : ¬ x0 = 17 := by omega
theorem la_ways_519 {x0 : Int} (h0 : x0 = 16) : ¬ x0 = 18 := by omega
theorem la_ways_520 {x0 : Int} (h0 : x0 = 16) : ¬ x0 = 19 := by omega
theorem la_ways_521 {x0 : Int} (h0 : x0 = 16) : ¬ x0 = 20 := by omega
theorem la_ways_522 {x0 : Int} (h0 : x0 = 16) : ¬ x0 = 21 := by omega
theorem la_ways_523 {x0 : Int} (h0 : x0 = 16) : ¬ x0 = 22 := by omega
theorem la_ways_524 {x0 : Int} (h0 : x0 = 16) : ¬ (x0 = 23 ∨ x0 = 24) := by omega
theorem la_ways_525 {x0 : Int} (h0 : x0 = 16) : ¬ (x0 = 25 ∨ x0 = 26) := by omega
theorem la_ways_526 {x0 : Int} (h0 : x0 = 16) : ¬ x0 = 27 := by omega
theorem la_ways_527 {x0 : Int} (h0 : x0 = 16) : ¬ x0 = 28 := by omega
theorem la_ways_528 {x0 : Int} (h0 : x0 = 16) : ¬ x0 = 29 := by omega
theorem la_ways_529 {x0 : Int} (h0 : x0 = 16) : ¬ x0 = 30 := by omega
theorem la_ways_530 {x0 x1 : Int} (h0 : 0 ≤ x0 - x1 - 1) : x1 + 1 ≤ x0 := by omega
set_option maxHeartbeats 8000000 in
theorem f_ways : ∀ (p1 : Int) (S : sv_S), sm_ok S → sv_R p1 → (29 ≤ (S 1071 0) ∧ (S 1071 0) ≤ 127 ∧ 31 ≤ (S 1008 0) ∧ (S 1008 0) ≤ 90 ∧ 1 ≤ (S 1032 0) ∧ (S 1032 0) ≤ 11 ∧ 0 ≤ (S 1055 0) ∧ (S 1055 0) ≤ 19 ∧ (S 1071 0) = 29 + 6 * ((S 1032 0) - 1) + 2 * (S 1055 0) ∧ 0 ≤ (S 1046 0) ∧ (S 1046 0) + 2 * (S 1032 0) ≤ 500 ∧ sm_PD (S 1046 0) (S 1032 0) (S 1071 0) (S 1008 0) ∧ 0 ≤ (S 1071 0) * ((S 1008 0) + 1) ∧ (S 1071 0) * ((S 1008 0) + 1) ≤ 11557 ∧ 31 ≤ (S 1007 0) ∧ (S 1007 0) ≤ 400 ∧ sm_LN (S 4) 400 (S 1007 0) ∧ (S 75 639) = 647340 ∧ sm_ST (S 71) (S 74) (S 75) (S 78) (S 79) (S 80) (S 27) (S 1100007) (S 1100023) (S 1100024) (S 1046 0) ((S 1046 0) + 2 * (S 1032 0)) (S 1127 0) ∧ 465000 ≤ (S 1127 0) ∧ (S 1127 0) + sm_hs (S 71) (S 1100007) ≤ 635000 ∧ sm_NH (S 1100007) ∧ sm_CT (S 26) (S 27) (S 28) (S 29) (S 1100007) (S 1100023) (S 1100024) (S 1100025) (S 21) (S 1046 0) (S 1032 0) (S 1008 0) (S 1055 0) ∧ (∀ k : Int, (S 1046 0) ≤ k → k < ((S 1046 0) + 2 * (S 1032 0)) → (S 1100007 k) = 1) ∧ sm_DR (S 72) (S 71) (S 1046 0) ∧ (∀ g : Int, 0 ≤ g → g < (S 1032 0) → 0 ≤ (S 30 g) ∧ (S 30 g) < (S 1046 0) ∧ (S 1100007 (S 30 g)) = 0 ∧ (S 1100023 (S 30 g)) = -1 ∧ 0 ≤ (S 33 g) ∧ (S 33 g) ≤ 100 ∧ 0 ≤ (S 20 g) ∧ (S 20 g) ≤ 8) ∧ sm_VN (S 32) (S 33) (S 1032 0) (S 1008 0) ∧ 0 ≤ p1 ∧ p1 < (S 1046 0) ∧ (S 71 p1) = 1) → (29 ≤ (S 1071 0) ∧ (S 1071 0) ≤ 127 ∧ 31 ≤ (S 1008 0) ∧ (S 1008 0) ≤ 90 ∧ 1 ≤ (S 1032 0) ∧ (S 1032 0) ≤ 11 ∧ 0 ≤ (S 1055 0) ∧ (S 1055 0) ≤ 19 ∧ (S 1071 0) = 29 + 6 * ((S 1032 0) - 1) + 2 * (S 1055 0) ∧ 0 ≤ (S 1046 0) ∧ (S 1046 0) + 2 * (S 1032 0) ≤ 500 ∧ sm_PD (S 1046 0) (S 1032 0) (S 1071 0) (S 1008 0) ∧ 0 ≤ (S 1071 0) * ((S 1008 0) + 1) ∧ (S 1071 0) * ((S 1008 0) + 1) ≤ 11557 ∧ 31 ≤ (S 1007 0) ∧ (S 1007 0) ≤ 400 ∧ sm_LN (S 4) 400 (S 1007 0) ∧ (S 75 639) = 647340 ∧ sm_ST (S 71) (S 74) (S 75) (S 78) (S 79) (S 80) (S 27) (S 1100007) (S 1100023) (S 1100024) (S 1046 0) ((S 1046 0) + 2 * (S 1032 0)) (S 1127 0) ∧ 465000 ≤ (S 1127 0) ∧ (S 1127 0) + sm_hs (S 71) (S 1100007) ≤ 635000 ∧ sm_NH (S 1100007) ∧ sm_CT (S 26) (S 27) (S 28) (S 29) (S 1100007) (S 1100023) (S 1100024) (S 1100025) (S 21) (S 1046 0) (S 1032 0) (S 1008 0) (S 1055 0) ∧ (∀ k : Int, (S 1046 0) ≤ k → k < ((S 1046 0) + 2 * (S 1032 0)) → (S 1100007 k) = 1) ∧ sm_DR (S 72) (S 71) (S 1046 0) ∧ 0 ≤ p1 ∧ p1 < (S 1046 0) ∧ (S 71 p1) = 1) ∧ (∀ g10 : sv_S, (sm_pt (g10 68) (g10 69) (g10 70) = sm_pt (S 68) (S 69) (S 70) ∧ sm_pl (g10 81) (g10 82) (g10 83) (g10 84) (g10 85) (g10 86) = sm_pl (S 81) (S 82) (S 83) (S 84) (S 85) (S 86) ∧ sm_ps (g10 76) (g10 77) = sm_ps (S 76) (S 77) ∧ sm_ST (S 71) (g10 74) (S 75) (g10 78) (g10 79) (g10 80) (S 27) (S 1100007) (S 1100023) (S 1100024) (S 1046 0) ((S 1046 0) + 2 * (S 1032 0)) (S 1127 0) ∧ 0 ≤ (g10 74 639) ∧ (g10 74 639) ≤ 400 ∧ 0 ≤ (g10 78 639) ∧ (g10 78 639) ≤ 40 ∧ (g10 78 639) = sm_dp (S 1100024) (g10 1100031 0) ∧ -1 ≤ (g10 1100031 0) ∧ (g10 1100031 0) < (S 1046 0) ∧ (0 ≤ (g10 1100031 0) → (S 26 (g10 1100031 0)) = 27) ∧ sm_TC (g10 79) (g10 80) (S 27) (S 1100007) (S 1100023) (S 1100024) 25560 (g10 1100031 0) ∧ (g10 74 639) = (S 1100007 p1) ∧ (g10 1100031 0) = (S 1100023 p1)) → ((sm_CT (S 26) (S 27) (S 28) (S 29) (S 1100007) (S 1100023) (S 1100024) (S 1100025) (S 21) (S 1046 0) (S 1032 0) (S 1008 0) (S 1055 0) → 0 ≤ p1 → p1 < (S 1046 0) → 0 ≤ (S 29 p1) ∧ (S 29 p1) < (S 1032 0) ∧ 0 ≤ (S 1100007 p1) ∧ (S 1100007 p1) ≤ 396 ∧ -1 ≤ (S 1100023 p1) ∧ (S 1100023 p1) < p1 ∧ 0 ≤ (S 26 p1) ∧ (S 26 p1) ≤ 30) → ((sm_CT (S 26) (S 27) (S 28) (S 29) (S 1100007) (S 1100023) (S 1100024) (S 1100025) (S 21) (S 1046 0) (S 1032 0) (S 1008 0) (S 1055 0) → 0 ≤ p1 → p1 < (S 1046 0) → ((S 26 p1) = 0 → (0 ≤ (S 27 p1) ∧ (S 27 p1) ≤ 6 ∧ ((S 27 p1) = 6 → 0 ≤ (S 28 p1) ∧ (S 28 p1) < (S 1008 0))) ∧ (0 ≤ ((S 1100007 p1)) ∧ (0 ≤ (S 1100023 p1) → (S 1100007 (S 1100023 p1)) ≤ ((S 1100007 p1))) ∧ (0 ≤ (S 1100025 p1) → (S 1100007 (S 1100025 p1)) ≤ ((S 1100007 p1)))) ∧ (0 ≤ (p1 + 1) ∧ (p1 + 1) < (S 1046 0) ∧ (S 29 (p1 + 1)) = ((S 29 p1)) ∧ (S 1100007 (p1 + 1)) = ((S 1100007 p1) + 1) ∧ (S 1100023 (p1 + 1)) = ((S 1100023 p1)) ∧ (S 1100025 (p1 + 1)) = ((S 1100025 p1))))) → ((sm_CT (S 26) (S 27) (S 28) (S 29) (S 1100007) (S 1100023) (S 1100024) (S 1100025) (S 21) (S 1046 0) (S 1032 0) (S 1008 0) (S 1055 0) → 0 ≤ p1 → p1 < (S 1046 0) → (((S 26 p1) = 1 ∨ (S 26 p1) = 3 ∨ (S 26 p1) = 5) → (0 ≤ (S 27 p1) ∧ 0 ≤ (S 28 p1) ∧ (S 28 p1) < (S 1008 0)) ∧ (0 ≤ ((S 1100007 p1)) ∧ (0 ≤ (S 1100023 p1) → (S 1100007 (S 1100023 p1)) ≤ ((S 1100007 p1))) ∧ (0 ≤ (S 1100025 p1) → (S 1100007 (S 1100025 p1)) ≤ ((S 1100007 p1)))) ∧ (0 ≤ (p1 + 1) ∧ (p1 + 1) < (S 1046 0) ∧ (S 29 (p1 + 1)) = ((S 29 p1)) ∧ (S 1100007 (p1 + 1)) = ((S 1100007 p1) + 1) ∧ (S 1100023 (p1 + 1)) = ((S 1100023 p1)) ∧ (S 1100025 (p1 + 1)) = ((S 1100025 p1))))) → ((sm_CT (S 26) (S 27) (S 28) (S 29) (S 1100007) (S 1100023) (S 1100024) (S 1100025) (S 21) (S 1046 0) (S 1032 0) (S 1008 0) (S 1055 0) → 0 ≤ p1 → p1 < (S 1046 0) → (((S 26 p1) = 2 ∨ (S 26 p1) = 4) → (0 ≤ (S 27 p1) ∧ 0 ≤ (S 28 p1) ∧ (S 28 p1) < (S 1008 0)) ∧ (0 ≤ ((S 1100007 p1) - 1) ∧ (0 ≤ (S 1100023 p1) → (S 1100007 (S 1100023 p1)) ≤ ((S 1100007 p1) - 1)) ∧ (0 ≤ (S 1100025 p1) → (S 1100007 (S 1100025 p1)) ≤ ((S 1100007 p1) - 1))) ∧ (0 ≤ (p1 + 1) ∧ (p1 + 1) < (S 1046 0) ∧ (S 29 (p1 + 1)) = ((S 29 p1)) ∧ (S 1100007 (p1 + 1)) = ((S 1100007 p1)) ∧ (S 1100023 (p1 + 1)) = ((S 1100023 p1)) ∧ (S 1100025 (p1 + 1)) = ((S 1100025 p1))))) → ((sm_CT (S 26) (S 27) (S 28) (S 29) (S 1100007) (S 1100023) (S 1100024) (S 1100025) (S 21) (S 1046 0) (S 1032 0) (S 1008 0) (S 1055 0) → 0 ≤ p1 → p1 < (S 1046 0) → ((S 26 p1) = 6 → (0 ≤ ((S 1100007 p1)) ∧ (0 ≤ (S 1100023 p1) → (S 1100007 (S 1100023 p1)) ≤ ((S 1100007 p1))) ∧ (0 ≤ (S 1100025 p1) → (S 1100007 (S 1100025 p1)) ≤ ((S 1100007 p1)))) ∧ (0 ≤ (p1 + 1) ∧ (p1 + 1) < (S 1046 0) ∧ (S 29 (p1 + 1)) = ((S 29 p1)) ∧ (S 1100007 (p1 + 1)) = ((S 1100007 p1) + 1) ∧ (S 1100023 (p1 + 1)) = ((S 1100023 p1)) ∧ (S 1100025 (p1 + 1)) = ((S 1100025 p1))))) → ((sm_CT (S 26) (S 27) (S 28) (S 29) (S 1100007) (S 1100023) (S 1100024) (S 1100025) (S 21) (S 1046 0) (S 1032 0) (S 1008 0) (S 1055 0) → 0 ≤ p1 → p1 < (S 1046 0) → (((S 26 p1) = 7 ∨ (S 26 p1) = 8) → (0 ≤ (S 27 p1) ∧ (S 27 p1) < (S 1055 0)) ∧ (0 ≤ ((S 1100007 p1)) ∧ (0 ≤ (S 1100023 p1) → (S 1100007 (S 1100023 p1)) ≤ ((S 1100007 p1))) ∧ (0 ≤ (S 1100025 p1) → (S 1100007 (S 1100025 p1)) ≤ ((S 1100007 p1)))) ∧ (0 ≤ (p1 + 1) ∧ (p1 + 1) < (S 1046 0) ∧ (S 29 (p1 + 1)) = ((S 29 p1)) ∧ (S 1100007 (p1 + 1)) = ((S 1100007 p1) + 1) ∧ (S 1100023 (p1 + 1)) = ((S 1100023 p1)) ∧ (S 1100025 (p1 + 1)) = ((S 1100025 p1))))) → ((sm_CT (S 26) (S 27) (S 28) (S 29) (S 1100007) (S 1100023) (S 1100024) (S 1100025) (S 21) (S 1046 0) (S 1032 0) (S 1008 0) (S 1055 0) → 0 ≤ p1 → p1 < (S 1046 0) → ((S 26 p1) = 9 → (1 ≤ (S 27 p1) ∧ (S 27 p1) < (S 1032 0) ∧ (S 21 ((S 27 p1))) = (S 29 p1)) ∧ (0 ≤ ((S 1100007 p1)) ∧ (0 ≤ (S 1100023 p1) → (S 1100007 (S 1100023 p1)) ≤ ((S 1100007 p1))) ∧ (0 ≤ (S 1100025 p1) → (S 1100007 (S 1100025 p1)) ≤ ((S 1100007 p1)))) ∧ (0 ≤ (p1 + 1) ∧ (p1 + 1) < (S 1046 0) ∧ (S 29 (p1 + 1)) = ((S 29 p1)) ∧ (S 1100007 (p1 + 1)) = ((S 1100007 p1) + 1) ∧ (S 1100023 (p1 + 1)) = ((S 1100023 p1)) ∧ (S 1100025 (p1 + 1)) = ((S 1100025 p1))))) → ((sm_CT (S 26) (S 27) (S 28) (S 29) (S 1100007) (S 1100023) (S 1100024) (S 1100025) (S 21) (S 1046 0) (S 1032 0) (S 1008 0) (S 1055 0) → 0 ≤ p1 → p1 < (S 1046 0) → (((S 26 p1) = 10 ∨ (S 26 p1) = 12) → (0 ≤ ((S 1100007 p1) - 2) ∧ (0 ≤ (S 1100023 p1) → (S 1100007 (S 1100023 p1)) ≤ ((S 1100007 p1) - 2)) ∧ (0 ≤ (S 1100025 p1) → (S 1100007 (S 1100025 p1)) ≤ ((S 1100007 p1) - 2))) ∧ (0 ≤ (p1 + 1) ∧ (p1 + 1) < (S 1046 0) ∧ (S 29 (p1 + 1)) = ((S 29 p1)) ∧ (S 1100007 (p1 + 1)) = ((S 1100007 p1) - 1) ∧ (S 1100023 (p1 + 1)) = ((S 1100023 p1)) ∧ (S 1100025 (p1 + 1)) = ((S 1100025 p1))))) → ((sm_CT (S 26) (S 27) (S 28) (S 29) (S 1100007) (S 1100023) (S 1100024) (S 1100025) (S 21) (S 1046 0) (S 1032 0) (S 1008 0) (S 1055 0) → 0 ≤ p1 → p1 < (S 1046 0) → ((S 26 p1) = 11 → (0 ≤ ((S 1100007 p1) - 3) ∧ (0 ≤ (S 1100023 p1) → (S 1100007 (S 1100023 p1)) ≤ ((S 1100007 p1) - 3)) ∧ (0 ≤ (S 1100025 p1) → (S 1100007 (S 1100025 p1)) ≤ ((S 1100007 p1) - 3))) ∧ (0 ≤ (p1 + 1) ∧ (p1 + 1) < (S 1046 0) ∧ (S 29 (p1 + 1)) = ((S 29 p1)) ∧ (S 1100007 (p1 + 1)) = ((S 1100007 p1) - 2) ∧ (S 1100023 (p1 + 1)) = ((S 1100023 p1)) ∧ (S 1100025 (p1 + 1)) = ((S 1100025 p1))))) → ((sm_CT (S 26) (S 27) (S 28) (S 29) (S 1100007) (S 1100023) (S 1100024) (S 1100025) (S 21) (S 1046 0) (S 1032 0) (S 1008 0) (S 1055 0) → 0 ≤ p1 → p1 < (S 1046 0) → ((S 26 p1) = 13 → (0 ≤ (S 27 p1) ∧ (S 27 p1) ≤ 4) ∧ (0 ≤ ((S 1100007 p1) - 1) ∧ (0 ≤ (S 1100023 p1) → (S 1100007 (S 1100023 p1)) ≤ ((S 1100007 p1) - 1)) ∧ (0 ≤ (S 1100025 p1) → (S 1100007 (S 1100025 p1)) ≤ ((S 1100007 p1) - 1))) ∧ (0 ≤ (p1 + 1) ∧ (p1 + 1) < (S 1046 0) ∧ (S 29 (p1 + 1)) = ((S 29 p1)) ∧ (S 1100007 (p1 + 1)) = ((S 1100007 p1)) ∧ (S 1100023 (p1 + 1)) = ((S 1100023 p1)) ∧ (S 1100025 (p1 + 1)) = ((S 1100025 p1))))) → ((sm_CT (S 26) (S 27) (S 28) (S 29) (S 1100007) (S 1100023) (S 1100024) (S 1100025) (S 21) (S 1046 0) (S 1032 0) (S 1008 0) (S 1055 0) → 0 ≤ p1 → p1 < (S 1046 0) → ((S 26 p1) = 14 → (0 ≤ (S 27 p1) ∧ (S 27 p1) ≤ 20) ∧ (0 ≤ ((S 1100007 p1) - 2) ∧ (0 ≤ (S 1100023 p1) → (S 1100007 (S 1100023 p1)) ≤ ((S 1100007 p1) - 2)) ∧ (0 ≤ (S 1100025 p1) → (S 1100007 (S 1100025 p1)) ≤ ((S 1100007 p1) - 2))) ∧ (0 ≤ (p1 + 1) ∧ (p1 + 1) < (S 1046 0) ∧ (S 29 (p1 + 1)) = ((S 29 p1)) ∧ (S 1100007 (p1 + 1)) = ((S 1100007 p1) - 1) ∧ (S 1100023 (p1 + 1)) = ((S 1100023 p1)) ∧ (S 1100025 (p1 + 1)) = ((S 1100025 p1))))) → ((sm_CT (S 26) (S 27) (S 28) (S 29) (S 1100007) (S 1100023) (S 1100024) (S 1100025) (S 21) (S 1046 0) (S 1032 0) (S 1008 0) (S 1055 0) → 0 ≤ p1 → p1 < (S 1046 0) → ((S 26 p1) = 15 → (0 ≤ (S 27 p1) ∧ (S 27 p1) ≤ 8) ∧ (0 ≤ ((S 1100007 p1) - (S 27 p1) - 2) ∧ (0 ≤ (S 1100023 p1) → (S 1100007 (S 1100023 p1)) ≤ ((S 1100007 p1) - (S 27 p1) - 2)) ∧ (0 ≤ (S 1100025 p1) → (S 1100007 (S 1100025 p1)) ≤ ((S 1100007 p1) - (S 27 p1) - 2))) ∧ (0 ≤ (p1 + 1) ∧ (p1 + 1) < (S 1046 0) ∧ (S 29 (p1 + 1)) = ((S 29 p1)) ∧ (S 1100007 (p1 + 1)) = ((S 1100007 p1) - (S 27 p1) - 1) ∧ (S 1100023 (p1 + 1)) = ((S 1100023 p1)) ∧ (S 1100025 (p1 + 1)) = ((S 1100025 p1))))) → ((sm_CT (S 26) (S 27) (S 28) (S 29) (S 1100007) (S 1100023) (S 1100024) (S 1100025) (S 21) (S 1046 0) (S 1032 0) (S 1008 0) (S 1055 0) → 0 ≤ p1 → p1 < (S 1046 0) → ((S 26 p1) = 16 → (0 ≤ (S 27 p1) ∧ (S 27 p1) ≤ 8 ∧ 0 ≤ (S 28 p1) ∧ (S 28 p1) < (S 1055 0)) ∧ (0 ≤ ((S 1100007 p1) - (S 27 p1) - 1) ∧ (0 ≤ (S 1100023 p1) → (S 1100007 (S 1100023 p1)) ≤ ((S 1100007 p1) - (S 27 p1) - 1)) ∧ (0 ≤ (S 1100025 p1) → (S 1100007 (S 1100025 p1)) ≤ ((S 1100007 p1) - (S 27 p1) - 1))) ∧ (0 ≤ (p1 + 1) ∧ (p1 + 1) < (S 1046 0) ∧ (S 29 (p1 + 1)) = ((S 29 p1)) ∧ (S 1100007 (p1 + 1)) = ((S 1100007 p1) - (S 27 p1)) ∧ (S 1100023 (p1 + 1)) = ((S 1100023 p1)) ∧ (S 1100025 (p1 + 1)) = ((S 1100025 p1))))) → ((sm_CT (S 26) (S 27) (S 28) (S 29) (S 1100007) (S 1100023) (S 1100024) (S 1100025) (S 21) (S 1046 0) (S 1032 0) (S 1008 0) (S 1055 0) → 0 ≤ p1 → p1 < (S 1046 0) → ((S 26 p1) = 17 → 1 ≤ (S 1100007 p1) ∧ (0 ≤ (S 1100023 p1) → (S 1100007 ((S 1100023 p1))) ≤ (S 1100007 p1) - 1) ∧ ((0 ≤ (S 1100025 p1) ∧ (S 1100007 ((S 1100025 p1))) = (S 1100007 p1) ∧ (0 ≤ (p1 + 1) ∧ (p1 + 1) < (S 1046 0) ∧ (S 29 (p1 + 1)) = ((S 29 p1)) ∧ (S 1100007 (p1 + 1)) = ((S 1100007 p1) - 1) ∧ (S 1100023 (p1 + 1)) = ((S 1100023 p1)) ∧ (S 1100025 (p1 + 1)) = ((S 1100025 ((S 1100025 p1)))))) ∨ ((0 ≤ (S 1100025 p1) → (S 1100007 ((S 1100025 p1))) ≤ (S 1100007 p1) - 1) ∧ (0 ≤ (p1 + 1) ∧ (p1 + 1) < (S 1046 0) ∧ (S 29 (p1 + 1)) = ((S 29 p1)) ∧ (S 1100007 (p1 + 1)) = ((S 1100007 p1) - 1) ∧ (S 1100023 (p1 + 1)) = ((S 1100023 p1)) ∧ (S 1100025 (p1 + 1)) = ((S 1100025 p1))))))) → ((sm_CT (S 26) (S 27) (S 28) (S 29) (S 1100007) (S 1100023) (S 1100024) (S 1100025) (S 21) (S 1046 0) (S 1032 0) (S 1008 0) (S 1055 0) → 0 ≤ p1 → p1 < (S 1046 0) → ((S 26 p1) = 18 → (0 ≤ ((S 1100007 p1) - 1) ∧ (0 ≤ (S 1100023 p1) → (S 1100007 (S 1100023 p1)) ≤ ((S 1100007 p1) - 1)) ∧ (0 ≤ (S 1100025 p1) → (S 1100007 (S 1100025 p1)) ≤ ((S 1100007 p1) - 1))) ∧ (0 ≤ (p1 + 1) ∧ (p1 + 1) < (S 1046 0) ∧ (S 29 (p1 + 1)) = ((S 29 p1)) ∧ (S 1100007 (p1 + 1)) = ((S 1100007 p1) + 1) ∧ (S 1100023 (p1 + 1)) = ((S 1100023 p1)) ∧ (S 1100025 (p1 + 1)) = ((S 1100025 p1))))) → ((sm_CT (S 26) (S 27) (S 28) (S 29) (S 1100007) (S 1100023) (S 1100024) (S 1100025) (S 21) (S 1046 0) (S 1032 0) (S 1008 0) (S 1055 0) → 0 ≤ p1 → p1 < (S 1046 0) → ((S 26 p1) = 19 → (0 ≤ ((S 1100007 p1) - 2) ∧ (0 ≤ (S 1100023 p1) → (S 1100007 (S 1100023 p1)) ≤ ((S 1100007 p1) - 2)) ∧ (0 ≤ (S 1100025 p1) → (S 1100007 (S 1100025 p1)) ≤ ((S 1100007 p1) - 2))) ∧ (0 ≤ (p1 + 1) ∧ (p1 + 1) < (S 1046 0) ∧ (S 29 (p1 + 1)) = ((S 29 p1)) ∧ (S 1100007 (p1 + 1)) = ((S 1100007 p1) + 2) ∧ (S 1100023 (p1 + 1)) = ((S 1100023 p1)) ∧ (S 1100025 (p1 + 1)) = ((S 1100025 p1))))) → ((sm_CT (S 26) (S 27) (S 28) (S 29) (S 1100007) (S 1100023) (S 1100024) (S 1100025) (S 21) (S 1046 0) (S 1032 0) (S 1008 0) (S 1055 0) → 0 ≤ p1 → p1 < (S 1046 0) → ((S 26 p1) = 20 → (0 ≤ ((S 1100007 p1) - 3) ∧ (0 ≤ (S 1100023 p1) → (S 1100007 (S 1100023 p1)) ≤ ((S 1100007 p1) - 3)) ∧ (0 ≤ (S 1100025 p1) → (S 1100007 (S 1100025 p1)) ≤ ((S 1100007 p1) - 3))) ∧ (0 ≤ (p1 + 1) ∧ (p1 + 1) < (S 1046 0) ∧ (S 29 (p1 + 1)) = ((S 29 p1)) ∧ (S 1100007 (p1 + 1)) = ((S 1100007 p1) + 1) ∧ (S 1100023 (p1 + 1)) = ((S 1100023 p1)) ∧ (S 1100025 (p1 + 1)) = ((S 1100025 p1))))) → ((sm_CT (S 26) (S 27) (S 28) (S 29) (S 1100007) (S 1100023) (S 1100024) (S 1100025) (S 21) (S 1046 0) (S 1032 0) (S 1008 0) (S 1055 0) → 0 ≤ p1 → p1 < (S 1046 0) → ((S 26 p1) = 21 → (0 ≤ ((S 1100007 p1)) ∧ (0 ≤ (S 1100023 p1) → (S 1100007 (S 1100023 p1)) ≤ ((S 1100007 p1))) ∧ (0 ≤ (S 1100025 p1) → (S 1100007 (S 1100025 p1)) ≤ ((S 1100007 p1)))) ∧ (0 ≤ ((S 27 p1)) ∧ ((S 27 p1)) < (S 1046 0) ∧ (S 29 ((S 27 p1))) = ((S 29 p1)) ∧ (S 1100007 ((S 27 p1))) = ((S 1100007 p1)) ∧ (S 1100023 ((S 27 p1))) = ((S 1100023 p1)) ∧ (S 1100025 ((S 27 p1))) = ((S 1100025 p1))))) → ((sm_CT (S 26) (S 27) (S 28) (S 29) (S 1100007) (S 1100023) (S 1100024) (S 1100025) (S 21) (S 1046 0) (S 1032 0) (S 1008 0) (S 1055 0) → 0 ≤ p1 → p1 < (S 1046 0) → ((S 26 p1) = 22 → (0 ≤ ((S 1100007 p1) - 1) ∧ (0 ≤ (S 1100023 p1) → (S 1100007 (S 1100023 p1)) ≤ ((S 1100007 p1) - 1)) ∧ (0 ≤ (S 1100025 p1) → (S 1100007 (S 1100025 p1)) ≤ ((S 1100007 p1) - 1))) ∧ (0 ≤ (p1 + 1) ∧ (p1 + 1) < (S 1046 0) ∧ (S 29 (p1 + 1)) = ((S 29 p1)) ∧ (S 1100007 (p1 + 1)) = ((S 1100007 p1) - 1) ∧ (S 1100023 (p1 + 1)) = ((S 1100023 p1)) ∧ (S 1100025 (p1 + 1)) = ((S 1100025 p1))) ∧ (0 ≤ ((S 27 p1)) ∧ ((S 27 p1)) < (S 1046 0) ∧ (S 29 ((S 27 p1))) = ((S 29 p1)) ∧ (S 1100007 ((S 27 p1))) = ((S 1100007 p1) - 1) ∧ (S 1100023 ((S 27 p1))) = ((S 1100023 p1)) ∧ (S 1100025 ((S 27 p1))) = ((S 1100025 p1))))) → ((sm_CT (S 26) (S 27) (S 28) (S 29) (S 1100007) (S 1100023) (S 1100024) (S 1100025) (S 21) (S 1046 0) (S 1032 0) (S 1008 0) (S 1055 0) → 0 ≤ p1 → p1 < (S 1046 0) → (((S 26 p1) = 23 ∨ (S 26 p1) = 24) → (0 ≤ ((S 1100007 p1) - 1) ∧ (0 ≤ (S 1100023 p1) → (S 1100007 (S 1100023 p1)) ≤ ((S 1100007 p1) - 1)) ∧ (0 ≤ (S 1100025 p1) → (S 1100007 (S 1100025 p1)) ≤ ((S 1100007 p1) - 1))) ∧ (0 ≤ (p1 + 1) ∧ (p1 + 1) < (S 1046 0) ∧ (S 29 (p1 + 1)) = ((S 29 p1)) ∧ (S 1100007 (p1 + 1)) = ((S 1100007 p1) - 1) ∧ (S 1100023 (p1 + 1)) = ((S 1100023 p1)) ∧ (S 1100025 (p1 + 1)) = ((S 1100025 p1))) ∧ (0 ≤ ((S 27 p1)) ∧ ((S 27 p1)) < (S 1046 0) ∧ (S 29 ((S 27 p1))) = ((S 29 p1)) ∧ (S 1100007 ((S 27 p1))) = ((S 1100007 p1)) ∧ (S 1100023 ((S 27 p1))) = ((S 1100023 p1)) ∧ (S 1100025 ((S 27 p1))) = ((S 1100025 p1))))) → ((sm_CT (S 26) (S 27) (S 28) (S 29) (S 1100007) (S 1100023) (S 1100024) (S 1100025) (S 21) (S 1046 0) (S 1032 0) (S 1008 0) (S 1055 0) → 0 ≤ p1 → p1 < (S 1046 0) → (((S 26 p1) = 25 ∨ (S 26 p1) = 26) → (0 ≤ ((S 1100007 p1) - 1) ∧ (0 ≤ (S 1100023 p1) → (S 1100007 (S 1100023 p1)) ≤ ((S 1100007 p1) - 1)) ∧ (0 ≤ (S 1100025 p1) → (S 1100007 (S 1100025 p1)) ≤ ((S 1100007 p1) - 1))))) → ((sm_CT (S 26) (S 27) (S 28) (S 29) (S 1100007) (S 1100023) (S 1100024) (S 1100025) (S 21) (S 1046 0) (S 1032 0) (S 1008 0) (S 1055 0) → 0 ≤ p1 → p1 < (S 1046 0) → ((S 26 p1) = 27 → (S 1100024 p1) < 40 ∧ (0 ≤ ((S 1100007 p1)) ∧ (0 ≤ (S 1100023 p1) → (S 1100007 (S 1100023 p1)) ≤ ((S 1100007 p1))) ∧ (0 ≤ (S 1100025 p1) → (S 1100007 (S 1100025 p1)) ≤ ((S 1100007 p1)))) ∧ (0 ≤ (p1 + 1) ∧ (p1 + 1) < (S 1046 0) ∧ (S 29 (p1 + 1)) = ((S 29 p1)) ∧ (S 1100007 (p1 + 1)) = ((S 1100007 p1)) ∧ (S 1100023 (p1 + 1)) = p1 ∧ (S 1100025 (p1 + 1)) = ((S 1100025 p1))) ∧ (0 ≤ ((S 27 p1)) ∧ ((S 27 p1)) < (S 1046 0) ∧ (S 29 ((S 27 p1))) = ((S 29 p1)) ∧ (S 1100007 ((S 27 p1))) = ((S 1100007 p1) + 1) ∧ (S 1100023 ((S 27 p1))) = ((S 1100023 p1)) ∧ (S 1100025 ((S 27 p1))) = ((S 1100025 p1))))) → ((sm_CT (S 26) (S 27) (S 28) (S 29) (S 1100007) (S 1100023) (S 1100024) (S 1100025) (S 21) (S 1046 0) (S 1032 0) (S 1008 0) (S 1055 0) → 0 ≤ p1 → p1 < (S 1046 0) → ((S 26 p1) = 28 → 0 ≤ (S 1100023 p1) ∧ (0 ≤ ((S 1100007 p1)) ∧ (0 ≤ (S 1100023 p1) → (S 1100007 (S 1100023 p1)) ≤ ((S 1100007 p1))) ∧ (0 ≤ (S 1100025 p1) → (S 1100007 (S 1100025 p1)) ≤ ((S 1100007 p1)))) ∧ (0 ≤ (p1 + 1) ∧ (p1 + 1) < (S 1046 0) ∧ (S 29 (p1 + 1)) = ((S 29 p1)) ∧ (S 1100007 (p1 + 1)) = ((S 1100007 p1)) ∧ (S 1100023 (p1 + 1)) = ((S 1100023 ((S 1100023 p1)))) ∧ (S 1100025 (p1 + 1)) = ((S 1100025 p1))))) → ((sm_CT (S 26) (S 27) (S 28) (S 29) (S 1100007) (S 1100023) (S 1100024) (S 1100025) (S 21) (S 1046 0) (S 1032 0) (S 1008 0) (S 1055 0) → 0 ≤ p1 → p1 < (S 1046 0) → ((S 26 p1) = 29 → (0 ≤ ((S 1100007 p1) - 1) ∧ (0 ≤ (S 1100023 p1) → (S 1100007 (S 1100023 p1)) ≤ ((S 1100007 p1) - 1)) ∧ (0 ≤ (S 1100025 p1) → (S 1100007 (S 1100025 p1)) ≤ ((S 1100007 p1) - 1))) ∧ (0 ≤ (p1 + 1) ∧ (p1 + 1) < (S 1046 0) ∧ (S 29 (p1 + 1)) = ((S 29 p1)) ∧ (S 1100007 (p1 + 1)) = ((S 1100007 p1)) ∧ (S 1100023 (p1 + 1)) = ((S 1100023 p1)) ∧ (S 1100025 (p1 + 1)) = p1))) → ((sm_CT (S 26) (S 27) (S 28) (S 29) (S 1100007) (S 1100023) (S 1100024) (S 1100025) (S 21) (S 1046 0) (S 1032 0) (S 1008 0) (S 1055 0) → 0 ≤ p1 → p1 < (S 1046 0) → ((S 26 p1) = 30 → 0 ≤ (S 1100025 p1) ∧ (S 1100007 ((S 1100025 p1))) = (S 1100007 p1) ∧ 1 ≤ (S 1100007 p1) ∧ (0 ≤ (S 1100023 p1) → (S 1100007 ((S 1100023 p1))) ≤ (S 1100007 p1) - 1) ∧ (0 ≤ (p1 + 1) ∧ (p1 + 1) < (S 1046 0) ∧ (S 29 (p1 + 1)) = ((S 29 p1)) ∧ (S 1100007 (p1 + 1)) = ((S 1100007 p1) + 1) ∧ (S 1100023 (p1 + 1)) = ((S 1100023 p1)) ∧ (S 1100025 (p1 + 1)) = ((S 1100025 p1))) ∧ (0 ≤ ((S 27 p1)) ∧ ((S 27 p1)) < (S 1046 0) ∧ (S 29 ((S 27 p1))) = ((S 29 p1)) ∧ (S 1100007 ((S 27 p1))) = ((S 1100007 p1) - 1) ∧ (S 1100023 ((S 27 p1))) = ((S 1100023 p1)) ∧ (S 1100025 ((S 27 p1))) = ((S 1100025 ((S 1100025 p1))))))) → (0 ≤ p1 ∧ p1 < 600) ∧ (sv_R (S 27 p1) → (sv_R (S 28 p1) → ((∀ g43 : sv_S, (sm_ST (g43 71) (g43 74) (g43 75) (g43 78) (g43 79) (g43 80) (S 27) (S 1100007) (S 1100023) (S 1100024) (S 1046 0) ((S 1046 0) + 2 * (S 1032 0)) (g43 1127 0) ∧ 465000 ≤ (g43 1127 0) ∧ (g43 1127 0) + sm_hs (g43 71) (S 1100007) ≤ 635000 ∧ (g43 75 639) = 647340 ∧ (∀ k : Int, (S 71 k) = 1 → (g43 71 k) = 1) ∧ sm_DR (g43 72) (g43 71) (S 1046 0) ∧ (641 * (sm_cm (g43 71) + sm_pt (g43 68) (g43 69) (g43 70) + sm_pl (g43 81) (g43 82) (g43 83) (g43 84) (g43 85) (g43 86) + sm_ps (g43 76) (g43 77)) + sm_du (g43 72)) ≤ (641 * (sm_cm (S 71) + sm_pt (g10 68) (g10 69) (g10 70) + sm_pl (g10 81) (g10 82) (g10 83) (g10 84) (g10 85) (g10 86) + sm_ps (g10 76) (g10 77)) + sm_du (S 72))) → (sv_R (g43 1149 0) → ((0 ≤ (g43 1150 0) ∧ (g43 1150 0) ≤ 1) → (((¬ (g43 1150 0) = (0 : Int)) → (∀ r50 : Int, sv_R r50 → (0 ≤ p1 ∧ p1 < 640) ∧ (sm_ST (g43 71) (g43 74) (g43 75) (g43 78) (g43 79) (g43 80) (S 27) (S 1100007) (S 1100023) (S 1100024) (S 1046 0) ((S 1046 0) + 2 * (S 1032 0)) (g43 1127 0) ∧ 465000 ≤ (g43 1127 0) ∧ (g43 1127 0) + sm_hs (g43 71) (S 1100007) ≤ 635000 ∧ (g43 75 639) = 647340 ∧ (∀ k : Int, (S 71 k) = 1 → (g43 71 k) = 1) ∧ sm_DR (g43 72) (g43 71) (S 1046 0) ∧ (641 * (sm_cm (g43 71) + sm_pt (g43 68) (g43 69) (g43 70) + sm_pl (g43 81) (g43 82) (g43 83) (g43 84) (g43 85) (g43 86) + sm_ps (g43 76) (g43 77)) + sm_du (g43 72)) ≤ (641 * (sm_cm (S 71) + sm_pt (S 68) (S 69) (S 70) + sm_pl (S 81) (S 82) (S 83) (S 84) (S 85) (S 86) + sm_ps (S 76) (S 77)) + sm_du (S 72))))) ∧ ((¬ (¬ (g43 1150 0) = (0 : Int))) → (sv_R (S 26 p1) → (((¬ (S 26 p1) = (25 : Int)) → (∀ r55 : Int, sv_R r55 → (0 ≤ p1 ∧ p1 < 640) ∧ (sm_ST (g43 71) (g43 74) (g43 75) (g43 78) (g43 79) (g43 80) (S 27) (S 1100007) (S 1100023) (S 1100024) (S 1046 0) ((S 1046 0) + 2 * (S 1032 0)) (g43 1127 0) ∧ 465000 ≤ (g43 1127 0) ∧ (g43 1127 0) + sm_hs (g43 71) (S 1100007) ≤ 635000 ∧ (g43 75 639) = 647340 ∧ (∀ k : Int, (S 71 k) = 1 → (g43 71 k) = 1) ∧ sm_DR (g43 72) (g43 71) (S 1046 0) ∧ (641 * (sm_cm (g43 71) + sm_pt (g43 68) (g43 69) (g43 70) + sm_pl (g43 81) (g43 82) (g43 83) (g43 84) (g43 85) (g43 86) + sm_ps (g43 76) (g43 77)) + sm_du (g43 72)) ≤ (641 * (sm_cm (S 71) + sm_pt (S 68) (S 69) (S 70) + sm_pl (S 81) (S 82) (S 83) (S 84) (S 85) (S 86) + sm_ps (S 76) (S 77)) + sm_du (S 72))))) ∧ ((¬ (¬ (S 26 p1) = (25 : Int))) → (∀ r59 : Int, sv_R r59 → (0 ≤ p1 ∧ p1 < 640) ∧ (sm_ST (g43 71) (g43 74) (g43 75) (g43 78) (g43 79) (g43 80) (S 27) (S 1100007) (S 1100023) (S 1100024) (S 1046 0) ((S 1046 0) + 2 * (S 1032 0)) (g43 1127 0) ∧ 465000 ≤ (g43 1127 0) ∧ (g43 1127 0) + sm_hs (g43 71) (S 1100007) ≤ 635000 ∧ (g43 75 639) = 647340 ∧ (∀ k : Int, (S 71 k) = 1 → (g43 71 k) = 1) ∧ sm_DR (g43 72) (g43 71) (S 1046 0) ∧ (641 * (sm_cm (g43 71) + sm_pt (g43 68) (g43 69) (g43 70) + sm_pl (g43 81) (g43 82) (g43 83) (g43 84) (g43 85) (g43 86) + sm_ps (g43 76) (g43 77)) + sm_du (g43 72)) ≤ (641 * (sm_cm (S 71) + sm_pt (S 68) (S 69) (S 70) + sm_pl (S 81) (S 82) (S 83) (S 84) (S 85) (S 86) + sm_ps (S 76) (S 77)) + sm_du (S 72)))))))))))) ∧ (sv_R (S 26 p1) → ((((S 26 p1) < (0 : Int) ∨ (16 : Int) < (S 26 p1)) → (29 ≤ (S 1071 0) ∧ (S 1071 0) ≤ 127 ∧ 31 ≤ (S 1008 0) ∧ (S 1008 0) ≤ 90 ∧ 1 ≤ (S 1032 0) ∧ (S 1032 0) ≤ 11 ∧ 0 ≤ (S 1055 0) ∧ (S 1055 0) ≤ 19 ∧ (S 1071 0) = 29 + 6 * ((S 1032 0) - 1) + 2 * (S 1055 0) ∧ 0 ≤ (S 1046 0) ∧ (S 1046 0) + 2 * (S 1032 0) ≤ 500 ∧ sm_PD (S 1046 0) (S 1032 0) (S 1071 0) (S 1008 0) ∧ 0 ≤ (S 1071 0) * ((S 1008 0) + 1) ∧ (S 1071 0) * ((S 1008 0) + 1) ≤ 11557 ∧ 31 ≤ (S 1007 0) ∧ (S 1007 0) ≤ 400 ∧ sm_LN (S 4) 400 (S 1007 0) ∧ (S 75 639) = 647340 ∧ sm_ST (S 71) (g10 74) (S 75) (g10 78) (g10 79) (g10 80) (S 27) (S 1100007) (S 1100023) (S 1100024) (S 1046 0) ((S 1046 0) + 2 * (S 1032 0)) (S 1127 0) ∧ 465000 ≤ (S 1127 0) ∧ (S 1127 0) + sm_hs (S 71) (S 1100007) ≤ 635000 ∧ sm_NH (S 1100007) ∧ sm_CT (S 26) (S 27) (S 28) (S 29) (S 1100007) (S 1100023) (S 1100024) (S 1100025) (S 21) (S 1046 0) (S 1032 0) (S 1008 0) (S 1055 0) ∧ (∀ k : Int, (S 1046 0) ≤ k → k < ((S 1046 0) + 2 * (S 1032 0)) → (S 1100007 k) = 1) ∧ sm_DR (S 72) (S 71) (S 1046 0) ∧ 0 ≤ (g10 74 639) ∧ (g10 74 639) ≤ 400 ∧ 0 ≤ (g10 78 639) ∧ (g10 78 639) ≤ 40 ∧ (g10 78 639) = sm_dp (S 1100024) (g10 1100031 0) ∧ -1 ≤ (g10 1100031 0) ∧ (g10 1100031 0) < (S 1046 0) ∧ (0 ≤ (g10 1100031 0) → (S 26 (g10 1100031 0)) = 27) ∧ sm_TC (g10 79) (g10 80) (S 27) (S 1100007) (S 1100023) (S 1100024) 25560 (g10 1100031 0) ∧ 0 ≤ p1 ∧ p1 < (S 1046 0) ∧ (S 71 p1) = 1 ∧ (g10 74 639) = (S 1100007 p1) ∧ (g10 1100031 0) = (S 1100023 p1) ∧ 17 ≤ (S 26 p1) ∧ (S 26 p1) ≤ 30 ∧ ((S 26 p1) = 17 → 1 ≤ (S 1100007 p1) ∧ p1 + 1 < (S 1046 0) ∧ (S 1100007 (p1 + 1)) = (S 1100007 p1) + (-1) ∧ (S 1100023 (p1 + 1)) = (S 1100023 p1)) ∧ ((S 26 p1) = 18 → 1 ≤ (S 1100007 p1) ∧ p1 + 1 < (S 1046 0) ∧ (S 1100007 (p1 + 1)) = (S 1100007 p1) + 1 ∧ (S 1100023 (p1 + 1)) = (S 1100023 p1)) ∧ ((S 26 p1) = 19 → 2 ≤ (S 1100007 p1) ∧ p1 + 1 < (S 1046 0) ∧ (S 1100007 (p1 + 1)) = (S 1100007 p1) + 2 ∧ (S 1100023 (p1 + 1)) = (S 1100023 p1)) ∧ ((S 26 p1) = 20 → 3 ≤ (S 1100007 p1) ∧ p1 + 1 < (S 1046 0) ∧ (S 1100007 (p1 + 1)) = (S 1100007 p1) + 1 ∧ (S 1100023 (p1 + 1)) = (S 1100023 p1)) ∧ ((S 26 p1) = 21 → 0 ≤ (S 27 p1) ∧ (S 27 p1) < (S 1046 0) ∧ (S 1100007 (S 27 p1)) = (S 1100007 p1) + 0 ∧ (S 1100023 (S 27 p1)) = (S 1100023 p1)) ∧ ((S 26 p1) = 22 → 1 ≤ (S 1100007 p1) ∧ p1 + 1 < (S 1046 0) ∧ (S 1100007 (p1 + 1)) = (S 1100007 p1) + (-1) ∧ (S 1100023 (p1 + 1)) = (S 1100023 p1) ∧ 0 ≤ (S 27 p1) ∧ (S 27 p1) < (S 1046 0) ∧ (S 1100007 (S 27 p1)) = (S 1100007 p1) + (-1) ∧ (S 1100023 (S 27 p1)) = (S 1100023 p1)) ∧ ((S 26 p1) = 23 ∨ (S 26 p1) = 24 → 1 ≤ (S 1100007 p1) ∧ p1 + 1 < (S 1046 0) ∧ (S 1100007 (p1 + 1)) = (S 1100007 p1) + (-1) ∧ (S 1100023 (p1 + 1)) = (S 1100023 p1) ∧ 0 ≤ (S 27 p1) ∧ (S 27 p1) < (S 1046 0) ∧ (S 1100007 (S 27 p1)) = (S 1100007 p1) + 0 ∧ (S 1100023 (S 27 p1)) = (S 1100023 p1)) ∧ ((S 26 p1) = 25 ∨ (S 26 p1) = 26 → 1 ≤ (S 1100007 p1)) ∧ ((S 26 p1) = 27 → (S 1100024 p1) < 40 ∧ (S 27 p1) = (S 27 p1) ∧ (S 26 p1) = 27 ∧ p1 + 1 < (S 1046 0) ∧ (S 1100007 (p1 + 1)) = (S 1100007 p1) ∧ (S 1100023 (p1 + 1)) = p1) ∧ ((S 26 p1) = 28 → 0 ≤ (S 1100023 p1) ∧ p1 + 1 < (S 1046 0) ∧ (S 1100007 (p1 + 1)) = (S 1100007 p1) ∧ (S 1100023 (p1 + 1)) = (S 1100023 (S 1100023 p1))) ∧ ((S 26 p1) = 29 → 1 ≤ (S 1100007 p1) ∧ p1 + 1 < (S 1046 0) ∧ (S 1100007 (p1 + 1)) = (S 1100007 p1) + 0 ∧ (S 1100023 (p1 + 1)) = (S 1100023 p1)) ∧ ((S 26 p1) = 30 → 1 ≤ (S 1100007 p1) ∧ p1 + 1 < (S 1046 0) ∧ (S 1100007 (p1 + 1)) = (S 1100007 p1) + 1 ∧ (S 1100023 (p1 + 1)) = (S 1100023 p1) ∧ 0 ≤ (S 27 p1) ∧ (S 27 p1) < (S 1046 0) ∧ (S 1100007 (S 27 p1)) = (S 1100007 p1) + (-1) ∧ (S 1100023 (S 27 p1)) = (S 1100023 p1))) ∧ (∀ g66 : sv_S, (sm_ST (g66 71) (g66 74) (g66 75) (g66 78) (g66 79) (g66 80) (S 27) (S 1100007) (S 1100023) (S 1100024) (S 1046 0) ((S 1046 0) + 2 * (S 1032 0)) (g66 1127 0) ∧ 465000 ≤ (g66 1127 0) ∧ (g66 1127 0) + sm_hs (g66 71) (S 1100007) ≤ 635000 ∧ (g66 75 639) = 647340 ∧ (∀ k : Int, (S 71 k) = 1 → (g66 71 k) = 1) ∧ sm_DR (g66 72) (g66 71) (S 1046 0) ∧ (641 * (sm_cm (g66 71) + sm_pt (g66 68) (g66 69) (g66 70) + sm_pl (g66 81) (g66 82) (g66 83) (g66 84) (g66 85) (g66 86) + sm_ps (g66 76) (g66 77)) + sm_du (g66 72)) ≤ (641 * (sm_cm (S 71) + sm_pt (g10 68) (g10 69) (g10 70) + sm_pl (g10 81) (g10 82) (g10 83) (g10 84) (g10 85) (g10 86) + sm_ps (g10 76) (g10 77)) + sm_du (S 72))) → (sm_ST (g66 71) (g66 74) (g66 75) (g66 78) (g66 79) (g66 80) (S 27) (S 1100007) (S 1100023) (S 1100024) (S 1046 0) ((S 1046 0) + 2 * (S 1032 0)) (g66 1127 0) ∧ 465000 ≤ (g66 1127 0) ∧ (g66 1127 0) + sm_hs (g66 71) (S 1100007) ≤ 635000 ∧ (g66 75 639) = 647340 ∧ (∀ k : Int, (S 71 k) = 1 → (g66 71 k) = 1) ∧ sm_DR (g66 72) (g66 71) (S 1046 0) ∧ (641 * (sm_cm (g66 71) + sm_pt (g66 68) (g66 69) (g66 70) + sm_pl (g66 81) (g66 82) (g66 83) (g66 84) (g66 85) (g66 86) + sm_ps (g66 76) (g66 77)) + sm_du (g66 72)) ≤ (641 * (sm_cm (S 71) + sm_pt (g10 68) (g10 69) (g10 70) + sm_pl (g10 81) (g10 82) (g10 83) (g10 84) (g10 85) (g10 86) + sm_ps (g10 76) (g10 77)) + sm_du (S 72))))) ∧ (((S 26 p1) = (0 : Int)) → (0 ≤ (647740 : Int) ∧ (647740 : Int) < 647800) ∧ (∀ g73 : sv_S, (635639 ≤ (647740 : Int) → sm_pt (g73 68) (g73 69) (g73 70) = sm_pt (g10 68) (g10 69) (g10 70)) → (635639 ≤ (647740 : Int) ∧ (647740 : Int) < 647790) ∧ (∀ g80 : sv_S, (sm_pt (g80 68) (g80 69) (g80 70) = sm_pt (g73 68) (g73 69) (g73 70)) → ((S 75 639) = 647340 ∧ 0 ≤ (g10 74 639) ∧ (g10 74 639) ≤ 400 ∧ (g10 74 639) < 400) ∧ (∀ r91 : Int, sv_R r91 → ∀ g87 : sv_S, (r91 = 647340 + (g10 74 639) ∧ (g87 74 639) = (g10 74 639) + 1 ∧ sm_F1 (g10 74) (g87 74) 639 ∧ sm_pt (g87 68) (g87 69) (g87 70) = sm_pt (g80 68) (g80 69) (g80 70)) → (0 ≤ (647740 : Int) ∧ (647740 : Int) < 647800 ∧ 635639 ≤ r91 ∧ r91 < 647800) ∧ (∀ g95 : sv_S, (sm_pt (g95 68) (g95 69) (g95 70) = sm_pt (g87 68) (g87 69) (g87 70)) → (29 ≤ (S 1071 0) ∧ (S 1071 0) ≤ 127 ∧ 31 ≤ (S 1008 0) ∧ (S 1008 0) ≤ 90 ∧ 1 ≤ (S 1032 0) ∧ (S 1032 0) ≤ 11 ∧ 0 ≤ (S 1055 0) ∧ (S 1055 0) ≤ 19 ∧ (S 1071 0) = 29 + 6 * ((S 1032 0) - 1) + 2 * (S 1055 0) ∧ 0 ≤ (S 1046 0) ∧ (S 1046 0) + 2 * (S 1032 0) ≤ 500 ∧ sm_PD (S 1046 0) (S 1032 0) (S 1071 0) (S 1008 0) ∧ 0 ≤ (S 1071 0) * ((S 1008 0) + 1) ∧ (S 1071 0) * ((S 1008 0) + 1) ≤ 11557 ∧ 31 ≤ (S 1007 0) ∧ (S 1007 0) ≤ 400 ∧ sm_LN (S 4) 400 (S 1007 0) ∧ (S 75 639) = 647340 ∧ sm_ST (S 71) (g87 74) (S 75) (g10 78) (g10 79) (g10 80) (S 27) (S 1100007) (S 1100023) (S 1100024) (S 1046 0) ((S 1046 0) + 2 * (S 1032 0)) (S 1127 0) ∧ 465000 ≤ (S 1127 0) ∧ (S 1127 0) + sm_hs (S 71) (S 1100007) ≤ 635000 ∧ sm_NH (S 1100007) ∧ sm_CT (S 26) (S 27) (S 28) (S 29) (S 1100007) (S 1100023) (S 1100024) (S 1100025) (S 21) (S 1046 0) (S 1032 0) (S 1008 0) (S 1055 0) ∧ (∀ k : Int, (S 1046 0) ≤ k → k < ((S 1046 0) + 2 * (S 1032 0)) → (S 1100007 k) = 1) ∧ sm_DR (S 72) (S 71) (S 1046 0) ∧ 0 ≤ (g87 74 639) ∧ (g87 74 639) ≤ 400 ∧ 0 ≤ (g10 78 639) ∧ (g10 78 639) ≤ 40 ∧ (g10 78 639) = sm_dp (S 1100024) (g10 1100031 0) ∧ -1 ≤ (g10 1100031 0) ∧ (g10 1100031 0) < (S 1046 0) ∧ (0 ≤ (g10 1100031 0) → (S 26 (g10 1100031 0)) = 27) ∧ sm_TC (g10 79) (g10 80) (S 27) (S 1100007) (S 1100023) (S 1100024) 25560 (g10 1100031 0) ∧ 0 ≤ p1 ∧ p1 + 1 < (S 1046 0) ∧ (g87 74 639) = (S 1100007 (p1 + 1)) ∧ (S 1100023 (p1 + 1)) = (g10 1100031 0)) ∧ (∀ g102 : sv_S, (sm_ST (g102 71) (g102 74) (g102 75) (g102 78) (g102 79) (g102 80) (S 27) (S 1100007) (S 1100023) (S 1100024) (S 1046 0) ((S 1046 0) + 2 * (S 1032 0)) (g102 1127 0) ∧ 465000 ≤ (g102 1127 0) ∧ (g102 1127 0) + sm_hs (g102 71) (S 1100007) ≤ 635000 ∧ (g102 75 639) = 647340 ∧ (g102 74 639) = (g87 74 639) ∧ (g102 78 639) = (g10 78 639) ∧ sm_TC (g102 79) (g102 80) (S 27) (S 1100007) (S 1100023) (S 1100024) 25560 (g10 1100031 0) ∧ (∀ k : Int, (S 71 k) = 1 → (g102 71 k) = 1) ∧ sm_DR (g102 72) (g102 71) (S 1046 0) ∧ (641 * (sm_cm (g102 71) + sm_pt (g102 68) (g102 69) (g102 70) + sm_pl (g102 81) (g102 82) (g102 83) (g102 84) (g102 85) (g102 86) + sm_ps (g102 76) (g102 77)) + sm_du (g102 72)) ≤ (641 * (sm_cm (S 71) + sm_pt (g95 68) (g95 69) (g95 70) + sm_pl (g10 81) (g10 82) (g10 83) (g10 84) (g10 85) (g10 86) + sm_ps (g10 76) (g10 77)) + sm_du (S 72))) → (sm_ST (g102 71) (g102 74) (g102 75) (g102 78) (g102 79) (g102 80) (S 27) (S 1100007) (S 1100023) (S 1100024) (S 1046 0) ((S 1046 0) + 2 * (S 1032 0)) (g102 1127 0) ∧ 465000 ≤ (g102 1127 0) ∧ (g102 1127 0) + sm_hs (g102 71) (S 1100007) ≤ 635000 ∧ (g102 75 639) = 647340 ∧ (∀ k : Int, (S 71 k) = 1 → (g102 71 k) = 1) ∧ sm_DR (g102 72) (g102 71) (S 1046 0) ∧ (641 * (sm_cm (g102 71) + sm_pt (g102 68) (g102 69) (g102 70) + sm_pl (g102 81) (g102 82) (g102 83) (g102 84) (g102 85) (g102 86) + sm_ps (g102 76) (g102 77)) + sm_du (g102 72)) ≤ (641 * (sm_cm (S 71) + sm_pt (g10 68) (g10 69) (g10 70) + sm_pl (g10 81) (g10 82) (g10 83) (g10 84) (g10 85) (g10 86) + sm_ps (g10 76) (g10 77)) + sm_du (S 72))))))))) ∧ (((S 26 p1) = (1 : Int)) → (29 ≤ (S 1071 0) ∧ (S 1071 0) ≤ 127 ∧ 31 ≤ (S 1008 0) ∧ (S 1008 0) ≤ 90 ∧ 1 ≤ (S 1032 0) ∧ (S 1032 0) ≤ 11 ∧ 0 ≤ (S 1055 0) ∧ (S 1055 0) ≤ 19 ∧ (S 1071 0) = 29 + 6 * ((S 1032 0) - 1) + 2 * (S 1055 0) ∧ 0 ≤ (S 1046 0) ∧ (S 1046 0) + 2 * (S 1032 0) ≤ 500 ∧ sm_PD (S 1046 0) (S 1032 0) (S 1071 0) (S 1008 0) ∧ 0 ≤ (S 1071 0) * ((S 1008 0) + 1) ∧ (S 1071 0) * ((S 1008 0) + 1) ≤ 11557 ∧ 635639 ≤ (647740 : Int) ∧ (647740 : Int) < 647790 ∧ 0 ≤ (S 27 p1)) ∧ (∀ g109 : sv_S, (sm_pt (g109 68) (g109 69) (g109 70) = sm_pt (g10 68) (g10 69) (g10 70)) → (∀ g115 : sv_S, (True) → (0 ≤ (S 28 p1) ∧ (S 28 p1) ≤ 1000) ∧ (∀ g122 : sv_S, (True) → (sv_R ((647740 : Int) + (1 : Int))) ∧ (0 ≤ ((647740 : Int) + (1 : Int)) ∧ ((647740 : Int) + (1 : Int)) < 647800) ∧ (∀ g130 : sv_S, (635639 ≤ ((647740 : Int) + (1 : Int)) → sm_pt (g130 68) (g130 69) (g130 70) = sm_pt (g109 68) (g109 69) (g109 70)) → ((0 ≤ (0 : Int) ∧ (0 : Int) ≤ (S 1071 0) ∧ sm_pt (g130 68) (g130 69) (g130 70) = sm_pt (g130 68) (g130 69) (g130 70)) ∧ (∀ l5_137 : Int, sv_R l5_137 → ∀ g136 : sv_S, (0 ≤ l5_137 ∧ l5_137 ≤ (S 1071 0) ∧ sm_pt (g136 68) (g136 69) (g136 70) = sm_pt (g130 68) (g130 69) (g130 70)) → (0 ≤ (S 1071 0) - l5_137) ∧ (sv_R (S 1071 0) → ((((S 1071 0) ≤ l5_137) → ((S 75 639) = 647340 ∧ 0 ≤ (g10 74 639) ∧ (g10 74 639) ≤ 400 ∧ (g10 74 639) < 400) ∧ (∀ r150 : Int, sv_R r150 → ∀ g146 : sv_S, (r150 = 647340 + (g10 74 639) ∧ (g146 74 639) = (g10 74 639) + 1 ∧ sm_F1 (g10 74) (g146 74) 639 ∧ sm_pt (g146 68) (g146 69) (g146 70) = sm_pt (g136 68) (g136 69) (g136 70)) → (0 ≤ ((647740 : Int) + (1 : Int)) ∧ ((647740 : Int) + (1 : Int)) < 647800 ∧ 635639 ≤ r150 ∧ r150 < 647800) ∧ (∀ g154 : sv_S, (sm_pt (g154 68) (g154 69) (g154 70) = sm_pt (g146 68) (g146 69) (g146 70)) → (∀ r164 : Int, sv_R r164 → (r164 = 0 ∨ r164 = 1) → (((¬ r164 = (0 : Int)) → (sm_ST (S 71) (g146 74) (S 75) (g10 78) (g10 79) (g10 80) (S 27) (S 1100007) (S 1100023) (S 1100024) (S 1046 0) ((S 1046 0) + 2 * (S 1032 0)) (S 1127 0) ∧ 465000 ≤ (S 1127 0) ∧ (S 1127 0) + sm_hs (S 71) (S 1100007) ≤ 635000 ∧ (S 75 639) = 647340 ∧ (∀ k : Int, (S 71 k) = 1 → (S 71 k) = 1) ∧ sm_DR (S 72) (S 71) (S 1046 0) ∧ (641 * (sm_cm (S 71) + sm_pt (g154 68) (g154 69) (g154 70) + sm_pl (g10 81) (g10 82) (g10 83) (g10 84) (g10 85) (g10 86) + sm_ps (g10 76) (g10 77)) + sm_du (S 72)) ≤ (641 * (sm_cm (S 71) + sm_pt (g10 68) (g10 69) (g10 70) + sm_pl (g10 81) (g10 82) (g10 83) (g10 84) (g10 85) (g10 86) + sm_ps (g10 76) (g10 77)) + sm_du (S 72)))) ∧ ((¬ (¬ r164 = (0 : Int))) → (29 ≤ (S 1071 0) ∧ (S 1071 0) ≤ 127 ∧ 31 ≤ (S 1008 0) ∧ (S 1008 0) ≤ 90 ∧ 1 ≤ (S 1032 0) ∧ (S 1032 0) ≤ 11 ∧ 0 ≤ (S 1055 0) ∧ (S 1055 0) ≤ 19 ∧ (S 1071 0) = 29 + 6 * ((S 1032 0) - 1) + 2 * (S 1055 0) ∧ 0 ≤ (S 1046 0) ∧ (S 1046 0) + 2 * (S 1032 0) ≤ 500 ∧ sm_PD (S 1046 0) (S 1032 0) (S 1071 0) (S 1008 0) ∧ 0 ≤ (S 1071 0) * ((S 1008 0) + 1) ∧ (S 1071 0) * ((S 1008 0) + 1) ≤ 11557 ∧ 31 ≤ (S 1007 0) ∧ (S 1007 0) ≤ 400 ∧ sm_LN (S 4) 400 (S 1007 0) ∧ (S 75 639) = 647340 ∧ sm_ST (S 71) (g146 74) (S 75) (g10 78) (g10 79) (g10 80) (S 27) (S 1100007) (S 1100023) (S 1100024) (S 1046 0) ((S 1046 0) + 2 * (S 1032 0)) (S 1127 0) ∧ 465000 ≤ (S 1127 0) ∧ (S 1127 0) + sm_hs (S 71) (S 1100007) ≤ 635000 ∧ sm_NH (S 1100007) ∧ sm_CT (S 26) (S 27) (S 28) (S 29) (S 1100007) (S 1100023) (S 1100024) (S 1100025) (S 21) (S 1046 0) (S 1032 0) (S 1008 0) (S 1055 0) ∧ (∀ k : Int, (S 1046 0) ≤ k → k < ((S 1046 0) + 2 * (S 1032 0)) → (S 1100007 k) = 1) ∧ sm_DR (S 72) (S 71) (S 1046 0) ∧ 0 ≤ (g146 74 639) ∧ (g146 74 639) ≤ 400 ∧ 0 ≤ (g10 78 639) ∧ (g10 78 639) ≤ 40 ∧ (g10 78 639) = sm_dp (S 1100024) (g10 1100031 0) ∧ -1 ≤ (g10 1100031 0) ∧ (g10 1100031 0) < (S 1046 0) ∧ (0 ≤ (g10 1100031 0) → (S 26 (g10 1100031 0)) = 27) ∧ sm_TC (g10 79) (g10 80) (S 27) (S 1100007) (S 1100023) (S 1100024) 25560 (g10 1100031 0) ∧ 0 ≤ p1 ∧ p1 + 1 < (S 1046 0) ∧ (g146 74 639) = (S 1100007 (p1 + 1)) ∧ (S 1100023 (p1 + 1)) = (g10 1100031 0)) ∧ (∀ g166 : sv_S, (sm_ST (g166 71) (g166 74) (g166 75) (g166 78) (g166 79) (g166 80) (S 27) (S 1100007) (S 1100023) (S 1100024) (S 1046 0) ((S 1046 0) + 2 * (S 1032 0)) (g166 1127 0) ∧ 465000 ≤ (g166 1127 0) ∧ (g166 1127 0) + sm_hs (g166 71) (S 1100007) ≤ 635000 ∧ (g166 75 639) = 647340 ∧ (g166 74 639) = (g146 74 639) ∧ (g166 78 639) = (g10 78 639) ∧ sm_TC (g166 79) (g166 80) (S 27) (S 1100007) (S 1100023) (S 1100024) 25560 (g10 1100031 0) ∧ (∀ k : Int, (S 71 k) = 1 → (g166 71 k) = 1) ∧ sm_DR (g166 72) (g166 71) (S 1046 0) ∧ (641 * (sm_cm (g166 71) + sm_pt (g166 68) (g166 69) (g166 70) + sm_pl (g166 81) (g166 82) (g166 83) (g166 84) (g166 85) (g166 86) + sm_ps (g166 76) (g166 77)) + sm_du (g166 72)) ≤ (641 * (sm_cm (S 71) + sm_pt (g154 68) (g154 69) (g154 70) + sm_pl (g10 81) (g10 82) (g10 83) (g10 84) (g10 85) (g10 86) + sm_ps (g10 76) (g10 77)) + sm_du (S 72))) → (sm_ST (g166 71) (g166 74) (g166 75) (g166 78) (g166 79) (g166 80) (S 27) (S 1100007) (S 1100023) (S 1100024) (S 1046 0) ((S 1046 0) + 2 * (S 1032 0)) (g166 1127 0) ∧ 465000 ≤ (g166 1127 0) ∧ (g166 1127 0) + sm_hs (g166 71) (S 1100007) ≤ 635000 ∧ (g166 75 639) = 647340 ∧ (∀ k : Int, (S 71 k) = 1 → (g166 71 k) = 1) ∧ sm_DR (g166 72) (g166 71) (S 1046 0) ∧ (641 * (sm_cm (g166 71) + sm_pt (g166 68) (g166 69) (g166 70) + sm_pl (g166 81) (g166 82) (g166 83) (g166 84) (g166 85) (g166 86) + sm_ps (g166 76) (g166 77)) + sm_du (g166 72)) ≤ (641 * (sm_cm (S 71) + sm_pt (g10 68) (g10 69) (g10 70) + sm_pl (g10 81) (g10 82) (g10 83) (g10 84) (g10 85) (g10 86) + sm_ps (g10 76) (g10 77)) + sm_du (S 72)))))))))) ∧ ((¬ ((S 1071 0) ≤ l5_137)) → (0 ≤ (647740 : Int) ∧ (647740 : Int) < 647800) ∧ (sv_RL (g136 69 (647740 : Int)) → (sv_RL (g136 70 (647740 : Int)) → (0 ≤ l5_137 ∧ l5_137 < 128) ∧ (∀ r180 : Int, sv_R r180 → (r180 = sm_in (g136 69 (647740 : Int)) (g136 70 (647740 : Int)) l5_137 ∧ (r180 = 0 ∨ r180 = 1)) → (((r180 = (0 : Int)) → (sv_R (l5_137 + (1 : Int))) ∧ ((0 ≤ (l5_137 + (1 : Int)) ∧ (l5_137 + (1 : Int)) ≤ (S 1071 0) ∧ sm_pt (g136 68) (g136 69) (g136 70) = sm_pt (g130 68) (g130 69) (g130 70)) ∧ ((S 1071 0) - (l5_137 + (1 : Int))) < ((S 1071 0) - l5_137))) ∧ ((¬ (r180 = (0 : Int))) → (29 ≤ (S 1071 0) ∧ (S 1071 0) ≤ 127 ∧ 31 ≤ (S 1008 0) ∧ (S 1008 0) ≤ 90 ∧ 1 ≤ (S 1032 0) ∧ (S 1032 0) ≤ 11 ∧ 0 ≤ (S 1055 0) ∧ (S 1055 0) ≤ 19 ∧ (S 1071 0) = 29 + 6 * ((S 1032 0) - 1) + 2 * (S 1055 0) ∧ 0 ≤ (S 1046 0) ∧ (S 1046 0) + 2 * (S 1032 0) ≤ 500 ∧ sm_PD (S 1046 0) (S 1032 0) (S 1071 0) (S 1008 0) ∧ 0 ≤ (S 1071 0) * ((S 1008 0) + 1) ∧ (S 1071 0) * ((S 1008 0) + 1) ≤ 11557 ∧ 0 ≤ (639 : Int) ∧ ((639 : Int) = 639 ∨ (639 : Int) < (S 1046 0) + 2 * (S 1032 0)) ∧ 0 ≤ l5_137 ∧ (l5_137 < (S 1071 0) ∨ ((639 : Int) = 639 ∧ l5_137 < 128)) ∧ 0 ≤ (S 28 p1) ∧ (S 28 p1) ≤ (S 1008 0)) ∧ (∀ r187 : Int, sv_R r187 → (((639 : Int) = 639 → 635640 ≤ r187 ∧ r187 < 647340) ∧ (¬ (639 : Int) = 639 → 0 ≤ r187 ∧ r187 < 464520)) → (0 ≤ r187 ∧ r187 < 647800 ∧ 635639 ≤ ((647740 : Int) + (1 : Int)) ∧ ((647740 : Int) + (1 : Int)) < 647790) ∧ (∀ g189 : sv_S, (sm_pt (g189 68) (g189 69) (g189 70) = sm_pt (g136 68) (g136 69) (g136 70)) → (sv_R (l5_137 + (1 : Int))) ∧ ((0 ≤ (l5_137 + (1 : Int)) ∧ (l5_137 + (1 : Int)) ≤ (S 1071 0) ∧ sm_pt (g189 68) (g189 69) (g189 70) = sm_pt (g130 68) (g130 69) (g130 70)) ∧ ((S 1071 0) - (l5_137 + (1 : Int))) < ((S 1071 0) - l5_137))))))))))))))))))) ∧ (((S 26 p1) = (2 : Int)) → (29 ≤ (S 1071 0) ∧ (S 1071 0) ≤ 127 ∧ 31 ≤ (S 1008 0) ∧ (S 1008 0) ≤ 90 ∧ 1 ≤ (S 1032 0) ∧ (S 1032 0) ≤ 11 ∧ 0 ≤ (S 1055 0) ∧ (S 1055 0) ≤ 19 ∧ (S 1071 0) = 29 + 6 * ((S 1032 0) - 1) + 2 * (S 1055 0) ∧ 0 ≤ (S 1046 0) ∧ (S 1046 0) + 2 * (S 1032 0) ≤ 500 ∧ sm_PD (S 1046 0) (S 1032 0) (S 1071 0) (S 1008 0) ∧ 0 ≤ (S 1071 0) * ((S 1008 0) + 1) ∧ (S 1071 0) * ((S 1008 0) + 1) ≤ 11557 ∧ 635639 ≤ (647740 : Int) ∧ (647740 : Int) < 647790 ∧ 0 ≤ (S 27 p1)) ∧ (∀ g198 : sv_S, (sm_pt (g198 68) (g198 69) (g198 70) = sm_pt (g10 68) (g10 69) (g10 70)) → (∀ g204 : sv_S, (True) → (0 ≤ (S 28 p1) ∧ (S 28 p1) ≤ 1000) ∧ (∀ g211 : sv_S, (True) → (0 ≤ (647740 : Int) ∧ (647740 : Int) < 647800) ∧ (sv_RL (g198 69 (647740 : Int)) → (sv_RL (g198 70 (647740 : Int)) → ((S 75 639) = 647340 ∧ 0 ≤ (g10 74 639) ∧ (g10 74 639) ≤ 400 ∧ -1 ≤ (0 : Int) ∧ (0 : Int) ≤ 1000) ∧ (∀ r225 : Int, sv_R r225 → (r225 = 647339 + (g10 74 639) - (0 : Int)) → (29 ≤ (S 1071 0) ∧ (S 1071 0) ≤ 127 ∧ 31 ≤ (S 1008 0) ∧ (S 1008 0) ≤ 90 ∧ 1 ≤ (S 1032 0) ∧ (S 1032 0) ≤ 11 ∧ 0 ≤ (S 1055 0) ∧ (S 1055 0) ≤ 19 ∧ (S 1071 0) = 29 + 6 * ((S 1032 0) - 1) + 2 * (S 1055 0) ∧ 0 ≤ (S 1046 0) ∧ (S 1046 0) + 2 * (S 1032 0) ≤ 500 ∧ sm_PD (S 1046 0) (S 1032 0) (S 1071 0) (S 1008 0) ∧ 0 ≤ (S 1071 0) * ((S 1008 0) + 1) ∧ (S 1071 0) * ((S 1008 0) + 1) ≤ 11557 ∧ 0 ≤ r225 ∧ r225 < 647800) ∧ (∀ g227 : sv_S, (sm_pt (g227 68) (g227 69) (g227 70) = sm_pt (g198 68) (g198 69) (g198 70)) → (29 ≤ (S 1071 0) ∧ (S 1071 0) ≤ 127 ∧ 31 ≤ (S 1008 0) ∧ (S 1008 0) ≤ 90 ∧ 1 ≤ (S 1032 0) ∧ (S 1032 0) ≤ 11 ∧ 0 ≤ (S 1055 0) ∧ (S 1055 0) ≤ 19 ∧ (S 1071 0) = 29 + 6 * ((S 1032 0) - 1) + 2 * (S 1055 0) ∧ 0 ≤ (S 1046 0) ∧ (S 1046 0) + 2 * (S 1032 0) ≤ 500 ∧ sm_PD (S 1046 0) (S 1032 0) (S 1071 0) (S 1008 0) ∧ 0 ≤ (S 1071 0) * ((S 1008 0) + 1) ∧ (S 1071 0) * ((S 1008 0) + 1) ≤ 11557 ∧ 31 ≤ (S 1007 0) ∧ (S 1007 0) ≤ 400 ∧ sm_LN (S 4) 400 (S 1007 0) ∧ (S 75 639) = 647340 ∧ sm_ST (S 71) (g10 74) (S 75) (g10 78) (g10 79) (g10 80) (S 27) (S 1100007) (S 1100023) (S 1100024) (S 1046 0) ((S 1046 0) + 2 * (S 1032 0)) (S 1127 0) ∧ 465000 ≤ (S 1127 0) ∧ (S 1127 0) + sm_hs (S 71) (S 1100007) ≤ 635000 ∧ sm_NH (S 1100007) ∧ sm_CT (S 26) (S 27) (S 28) (S 29) (S 1100007) (S 1100023) (S 1100024) (S 1100025) (S 21) (S 1046 0) (S 1032 0) (S 1008 0) (S 1055 0) ∧ (∀ k : Int, (S 1046 0) ≤ k → k < ((S 1046 0) + 2 * (S 1032 0)) → (S 1100007 k) = 1) ∧ sm_DR (S 72) (S 71) (S 1046 0) ∧ 0 ≤ (g10 74 639) ∧ (g10 74 639) ≤ 400 ∧ 0 ≤ (g10 78 639) ∧ (g10 78 639) ≤ 40 ∧ (g10 78 639) = sm_dp (S 1100024) (g10 1100031 0) ∧ -1 ≤ (g10 1100031 0) ∧ (g10 1100031 0) < (S 1046 0) ∧ (0 ≤ (g10 1100031 0) → (S 26 (g10 1100031 0)) = 27) ∧ sm_TC (g10 79) (g10 80) (S 27) (S 1100007) (S 1100023) (S 1100024) 25560 (g10 1100031 0) ∧ 0 ≤ p1 ∧ p1 + 1 < (S 1046 0) ∧ (g10 74 639) = (S 1100007 (p1 + 1)) ∧ (S 1100023 (p1 + 1)) = (g10 1100031 0)) ∧ (∀ g234 : sv_S, (sm_ST (g234 71) (g234 74) (g234 75) (g234 78) (g234 79) (g234 80) (S 27) (S 1100007) (S 1100023) (S 1100024) (S 1046 0) ((S 1046 0) + 2 * (S 1032 0)) (g234 1127 0) ∧ 465000 ≤ (g234 1127 0) ∧ (g234 1127 0) + sm_hs (g234 71) (S 1100007) ≤ 635000 ∧ (g234 75 639) = 647340 ∧ (g234 74 639) = (g10 74 639) ∧ (g234 78 639) = (g10 78 639) ∧ sm_TC (g234 79) (g234 80) (S 27) (S 1100007) (S 1100023) (S 1100024) 25560 (g10 1100031 0) ∧ (∀ k : Int, (S 71 k) = 1 → (g234 71 k) = 1) ∧ sm_DR (g234 72) (g234 71) (S 1046 0) ∧ (641 * (sm_cm (g234 71) + sm_pt (g234 68) (g234 69) (g234 70) + sm_pl (g234 81) (g234 82) (g234 83) (g234 84) (g234 85) (g234 86) + sm_ps (g234 76) (g234 77)) + sm_du (g234 72)) ≤ (641 * (sm_cm (S 71) + sm_pt (g227 68) (g227 69) (g227 70) + sm_pl (g10 81) (g10 82) (g10 83) (g10 84) (g10 85) (g10 86) + sm_ps (g10 76) (g10 77)) + sm_du (S 72))) → (sm_ST (g234 71) (g234 74) (g234 75) (g234 78) (g234 79) (g234 80) (S 27) (S 1100007) (S 1100023) (S 1100024) (S 1046 0) ((S 1046 0) + 2 * (S 1032 0)) (g234 1127 0) ∧ 465000 ≤ (g234 1127 0) ∧ (g234 1127 0) + sm_hs (g234 71) (S 1100007) ≤ 635000 ∧ (g234 75 639) = 647340 ∧ (∀ k : Int, (S 71 k) = 1 → (g234 71 k) = 1) ∧ sm_DR (g234 72) (g234 71) (S 1046 0) ∧ (641 * (sm_cm (g234 71) + sm_pt (g234 68) (g234 69) (g234 70) + sm_pl (g234 81) (g234 82) (g234 83) (g234 84) (g234 85) (g234 86) + sm_ps (g234 76) (g234 77)) + sm_du (g234 72)) ≤ (641 * (sm_cm (S 71) + sm_pt (g10 68) (g10 69) (g10 70) + sm_pl (g10 81) (g10 82) (g10 83) (g10 84) (g10 85) (g10 86) + sm_ps (g10 76) (g10 77)) + sm_du (S 72)))))))))))) ∧ (((S 26 p1) = (3 : Int) ∨ (S 26 p1) = (5 : Int)) → (((¬ (S 26 p1) = (3 : Int)) → (29 ≤ (S 1071 0) ∧ (S 1071 0) ≤ 127 ∧ 31 ≤ (S 1008 0) ∧ (S 1008 0) ≤ 90 ∧ 1 ≤ (S 1032 0) ∧ (S 1032 0) ≤ 11 ∧ 0 ≤ (S 1055 0) ∧ (S 1055 0) ≤ 19 ∧ (S 1071 0) = 29 + 6 * ((S 1032 0) - 1) + 2 * (S 1055 0) ∧ 0 ≤ (S 1046 0) ∧ (S 1046 0) + 2 * (S 1032 0) ≤ 500 ∧ sm_PD (S 1046 0) (S 1032 0) (S 1071 0) (S 1008 0) ∧ 0 ≤ (S 1071 0) * ((S 1008 0) + 1) ∧ (S 1071 0) * ((S 1008 0) + 1) ≤ 11557 ∧ 31 ≤ (S 1007 0) ∧ (S 1007 0) ≤ 400 ∧ sm_LN (S 4) 400 (S 1007 0) ∧ (S 75 639) = 647340 ∧ sm_ST (S 71) (g10 74) (S 75) (g10 78) (g10 79) (g10 80) (S 27) (S 1100007) (S 1100023) (S 1100024) (S 1046 0) ((S 1046 0) + 2 * (S 1032 0)) (S 1127 0) ∧ 465000 ≤ (S 1127 0) ∧ (S 1127 0) + sm_hs (S 71) (S 1100007) ≤ 635000 ∧ sm_NH (S 1100007) ∧ sm_CT (S 26) (S 27) (S 28) (S 29) (S 1100007) (S 1100023) (S 1100024) (S 1100025) (S 21) (S 1046 0) (S 1032 0) (S 1008 0) (S 1055 0) ∧ (∀ k : Int, (S 1046 0) ≤ k → k < ((S 1046 0) + 2 * (S 1032 0)) → (S 1100007 k) = 1) ∧ sm_DR (S 72) (S 71) (S 1046 0) ∧ 0 ≤ (g10 74 639) ∧ (g10 74 639) ≤ 400 ∧ 0 ≤ (g10 78 639) ∧ (g10 78 639) ≤ 40 ∧ (g10 78 639) = sm_dp (S 1100024) (g10 1100031 0) ∧ -1 ≤ (g10 1100031 0) ∧ (g10 1100031 0) < (S 1046 0) ∧ (0 ≤ (g10 1100031 0) → (S 26 (g10 1100031 0)) = 27) ∧ sm_TC (g10 79) (g10 80) (S 27) (S 1100007) (S 1100023) (S 1100024) 25560 (g10 1100031 0) ∧ 0 ≤ p1 ∧ p1 < (S 1046 0) ∧ (S 71 p1) = 1 ∧ (g10 74 639) = (S 1100007 p1) ∧ (g10 1100031 0) = (S 1100023 p1) ∧ 0 ≤ (S 28 p1) ∧ (S 28 p1) < (S 1008 0) ∧ p1 + 1 < (S 1046 0) ∧ (S 1100007 (p1 + 1)) = (S 1100007 p1) + 1 ∧ (S 1100023 (p1 + 1)) = (S 1100023 p1)) ∧ (∀ g241 : sv_S, (sm_ST (g241 71) (g241 74) (g241 75) (g241 78) (g241 79) (g241 80) (S 27) (S 1100007) (S 1100023) (S 1100024) (S 1046 0) ((S 1046 0) + 2 * (S 1032 0)) (g241 1127 0) ∧ 465000 ≤ (g241 1127 0) ∧ (g241 1127 0) + sm_hs (g241 71) (S 1100007) ≤ 635000 ∧ (g241 75 639) = 647340 ∧ (∀ k : Int, (S 71 k) = 1 → (g241 71 k) = 1) ∧ sm_DR (g241 72) (g241 71) (S 1046 0) ∧ (641 * (sm_cm (g241 71) + sm_pt (g241 68) (g241 69) (g241 70) + sm_pl (g241 81) (g241 82) (g241 83) (g241 84) (g241 85) (g241 86) + sm_ps (g241 76) (g241 77)) + sm_du (g241 72)) ≤ (641 * (sm_cm (S 71) + sm_pt (g10 68) (g10 69) (g10 70) + sm_pl (g10 81) (g10 82) (g10 83) (g10 84) (g10 85) (g10 86) + sm_ps (g10 76) (g10 77)) + sm_du (S 72))) → (sm_ST (g241 71) (g241 74) (g241 75) (g241 78) (g241 79) (g241 80) (S 27) (S 1100007) (S 1100023) (S 1100024) (S 1046 0) ((S 1046 0) + 2 * (S 1032 0)) (g241 1127 0) ∧ 465000 ≤ (g241 1127 0) ∧ (g241 1127 0) + sm_hs (g241 71) (S 1100007) ≤ 635000 ∧ (g241 75 639) = 647340 ∧ (∀ k : Int, (S 71 k) = 1 → (g241 71 k) = 1) ∧ sm_DR (g241 72) (g241 71) (S 1046 0) ∧ (641 * (sm_cm (g241 71) + sm_pt (g241 68) (g241 69) (g241 70) + sm_pl (g241 81) (g241 82) (g241 83) (g241 84) (g241 85) (g241 86) + sm_ps (g241 76) (g241 77)) + sm_du (g241 72)) ≤ (641 * (sm_cm (S 71) + sm_pt (g10 68) (g10 69) (g10 70) + sm_pl (g10 81) (g10 82) (g10 83) (g10 84) (g10 85) (g10 86) + sm_ps (g10 76) (g10 77)) + sm_du (S 72))))) ∧ ((¬ (¬ (S 26 p1) = (3 : Int))) → (29 ≤ (S 1071 0) ∧ (S 1071 0) ≤ 127 ∧ 31 ≤ (S 1008 0) ∧ (S 1008 0) ≤ 90 ∧ 1 ≤ (S 1032 0) ∧ (S 1032 0) ≤ 11 ∧ 0 ≤ (S 1055 0) ∧ (S 1055 0) ≤ 19 ∧ (S 1071 0) = 29 + 6 * ((S 1032 0) - 1) + 2 * (S 1055 0) ∧ 0 ≤ (S 1046 0) ∧ (S 1046 0) + 2 * (S 1032 0) ≤ 500 ∧ sm_PD (S 1046 0) (S 1032 0) (S 1071 0) (S 1008 0) ∧ 0 ≤ (S 1071 0) * ((S 1008 0) + 1) ∧ (S 1071 0) * ((S 1008 0) + 1) ≤ 11557 ∧ 31 ≤ (S 1007 0) ∧ (S 1007 0) ≤ 400 ∧ sm_LN (S 4) 400 (S 1007 0) ∧ (S 75 639) = 647340 ∧ sm_ST (S 71) (g10 74) (S 75) (g10 78) (g10 79) (g10 80) (S 27) (S 1100007) (S 1100023) (S 1100024) (S 1046 0) ((S 1046 0) + 2 * (S 1032 0)) (S 1127 0) ∧ 465000 ≤ (S 1127 0) ∧ (S 1127 0) + sm_hs (S 71) (S 1100007) ≤ 635000 ∧ sm_NH (S 1100007) ∧ sm_CT (S 26) (S 27) (S 28) (S 29) (S 1100007) (S 1100023) (S 1100024) (S 1100025) (S 21) (S 1046 0) (S 1032 0) (S 1008 0) (S 1055 0) ∧ (∀ k : Int, (S 1046 0) ≤ k → k < ((S 1046 0) + 2 * (S 1032 0)) → (S 1100007 k) = 1) ∧ sm_DR (S 72) (S 71) (S 1046 0) ∧ 0 ≤ (g10 74 639) ∧ (g10 74 639) ≤ 400 ∧ 0 ≤ (g10 78 639) ∧ (g10 78 639) ≤ 40 ∧ (g10 78 639) = sm_dp (S 1100024) (g10 1100031 0) ∧ -1 ≤ (g10 1100031 0) ∧ (g10 1100031 0) < (S 1046 0) ∧ (0 ≤ (g10 1100031 0) → (S 26 (g10 1100031 0)) = 27) ∧ sm_TC (g10 79) (g10 80) (S 27) (S 1100007) (S 1100023) (S 1100024) 25560 (g10 1100031 0) ∧ 0 ≤ p1 ∧ p1 < (S 1046 0) ∧ (S 71 p1) = 1 ∧ (g10 74 639) = (S 1100007 p1) ∧ (g10 1100031 0) = (S 1100023 p1) ∧ 0 ≤ (S 28 p1) ∧ (S 28 p1) < (S 1008 0) ∧ p1 + 1 < (S 1046 0) ∧ (S 1100007 (p1 + 1)) = (S 1100007 p1) + 1 ∧ (S 1100023 (p1 + 1)) = (S 1100023 p1)) ∧ (∀ g248 : sv_S, (sm_ST (g248 71) (g248 74) (g248 75) (g248 78) (g248 79) (g248 80) (S 27) (S 1100007) (S 1100023) (S 1100024) (S 1046 0) ((S 1046 0) + 2 * (S 1032 0)) (g248 1127 0) ∧ 465000 ≤ (g248 1127 0) ∧ (g248 1127 0) + sm_hs (g248 71) (S 1100007) ≤ 635000 ∧ (g248 75 639) = 647340 ∧ (∀ k : Int, (S 71 k) = 1 → (g248 71 k) = 1) ∧ sm_DR (g248 72) (g248 71) (S 1046 0) ∧ (641 * (sm_cm (g248 71) + sm_pt (g248 68) (g248 69) (g248 70) + sm_pl (g248 81) (g248 82) (g248 83) (g248 84) (g248 85) (g248 86) + sm_ps (g248 76) (g248 77)) + sm_du (g248 72)) ≤ (641 * (sm_cm (S 71) + sm_pt (g10 68) (g10 69) (g10 70) + sm_pl (g10 81) (g10 82) (g10 83) (g10 84) (g10 85) (g10 86) + sm_ps (g10 76) (g10 77)) + sm_du (S 72))) → (sm_ST (g248 71) (g248 74) (g248 75) (g248 78) (g248 79) (g248 80) (S 27) (S 1100007) (S 1100023) (S 1100024) (S 1046 0) ((S 1046 0) + 2 * (S 1032 0)) (g248 1127 0) ∧ 465000 ≤ (g248 1127 0) ∧ (g248 1127 0) + sm_hs (g248 71) (S 1100007) ≤ 635000 ∧ (g248 75 639) = 647340 ∧ (∀ k : Int, (S 71 k) = 1 → (g248 71 k) = 1) ∧ sm_DR (g248 72) (g248 71) (S 1046 0) ∧ (641 * (sm_cm (g248 71) + sm_pt (g248 68) (g248 69) (g248 70) + sm_pl (g248 81) (g248 82) (g248 83) (g248 84) (g248 85) (g248 86) + sm_ps (g248 76) (g248 77)) + sm_du (g248 72)) ≤ (641 * (sm_cm (S 71) + sm_pt (g10 68) (g10 69) (g10 70) + sm_pl (g10 81) (g10 82) (g10 83) (g10 84) (g10 85) (g10 86) + sm_ps (g10 76) (g10 77)) + sm_du (S 72))))))) ∧ (((S 26 p1) = (4 : Int)) → (∀ g254 : sv_S, (True) → (0 ≤ (S 28 p1) ∧ (S 28 p1) ≤ 1000) ∧ (∀ g261 : sv_S, (True) → ((S 75 639) = 647340 ∧ 0 ≤ (g10 74 639) ∧ (g10 74 639) ≤ 400 ∧ -1 ≤ (0 : Int) ∧ (0 : Int) ≤ 1000) ∧ (∀ r272 : Int, sv_R r272 → (r272 = 647339 + (g10 74 639) - (0 : Int)) → (29 ≤ (S 1071 0) ∧ (S 1071 0) ≤ 127 ∧ 31 ≤ (S 1008 0) ∧ (S 1008 0) ≤ 90 ∧ 1 ≤ (S 1032 0) ∧ (S 1032 0) ≤ 11 ∧ 0 ≤ (S 1055 0) ∧ (S 1055 0) ≤ 19 ∧ (S 1071 0) = 29 + 6 * ((S 1032 0) - 1) + 2 * (S 1055 0) ∧ 0 ≤ (S 1046 0) ∧ (S 1046 0) + 2 * (S 1032 0) ≤ 500 ∧ sm_PD (S 1046 0) (S 1032 0) (S 1071 0) (S 1008 0) ∧ 0 ≤ (S 1071 0) * ((S 1008 0) + 1) ∧ (S 1071 0) * ((S 1008 0) + 1) ≤ 11557 ∧ 0 ≤ r272 ∧ r272 < 647800) ∧ (∀ g274 : sv_S, (sm_pt (g274 68) (g274 69) (g274 70) = sm_pt (g10 68) (g10 69) (g10 70)) → (29 ≤ (S 1071 0) ∧ (S 1071 0) ≤ 127 ∧ 31 ≤ (S 1008 0) ∧ (S 1008 0) ≤ 90 ∧ 1 ≤ (S 1032 0) ∧ (S 1032 0) ≤ 11 ∧ 0 ≤ (S 1055 0) ∧ (S 1055 0) ≤ 19 ∧ (S 1071 0) = 29 + 6 * ((S 1032 0) - 1) + 2 * (S 1055 0) ∧ 0 ≤ (S 1046 0) ∧ (S 1046 0) + 2 * (S 1032 0) ≤ 500 ∧ sm_PD (S 1046 0) (S 1032 0) (S 1071 0) (S 1008 0) ∧ 0 ≤ (S 1071 0) * ((S 1008 0) + 1) ∧ (S 1071 0) * ((S 1008 0) + 1) ≤ 11557 ∧ 31 ≤ (S 1007 0) ∧ (S 1007 0) ≤ 400 ∧ sm_LN (S 4) 400 (S 1007 0) ∧ (S 75 639) = 647340 ∧ sm_ST (S 71) (g10 74) (S 75) (g10 78) (g10 79) (g10 80) (S 27) (S 1100007) (S 1100023) (S 1100024) (S 1046 0) ((S 1046 0) + 2 * (S 1032 0)) (S 1127 0) ∧ 465000 ≤ (S 1127 0) ∧ (S 1127 0) + sm_hs (S 71) (S 1100007) ≤ 635000 ∧ sm_NH (S 1100007) ∧ sm_CT (S 26) (S 27) (S 28) (S 29) (S 1100007) (S 1100023) (S 1100024) (S 1100025) (S 21) (S 1046 0) (S 1032 0) (S 1008 0) (S 1055 0) ∧ (∀ k : Int, (S 1046 0) ≤ k → k < ((S 1046 0) + 2 * (S 1032 0)) → (S 1100007 k) = 1) ∧ sm_DR (S 72) (S 71) (S 1046 0) ∧ 0 ≤ (g10 74 639) ∧ (g10 74 639) ≤ 400 ∧ 0 ≤ (g10 78 639) ∧ (g10 78 639) ≤ 40 ∧ (g10 78 639) = sm_dp (S 1100024) (g10 1100031 0) ∧ -1 ≤ (g10 1100031 0) ∧ (g10 1100031 0) < (S 1046 0) ∧ (0 ≤ (g10 1100031 0) → (S 26 (g10 1100031 0)) = 27) ∧ sm_TC (g10 79) (g10 80) (S 27) (S 1100007) (S 1100023) (S 1100024) 25560 (g10 1100031 0) ∧ 0 ≤ p1 ∧ p1 + 1 < (S 1046 0) ∧ (g10 74 639) = (S 1100007 (p1 + 1)) ∧ (S 1100023 (p1 + 1)) = (g10 1100031 0)) ∧ (∀ g281 : sv_S, (sm_ST (g281 71) (g281 74) (g281 75) (g281 78) (g281 79) (g281 80) (S 27) (S 1100007) (S 1100023) (S 1100024) (S 1046 0) ((S 1046 0) + 2 * (S 1032 0)) (g281 1127 0) ∧ 465000 ≤ (g281 1127 0) ∧ (g281 1127 0) + sm_hs (g281 71) (S 1100007) ≤ 635000 ∧ (g281 75 639) = 647340 ∧ (g281 74 639) = (g10 74 639) ∧ (g281 78 639) = (g10 78 639) ∧ sm_TC (g281 79) (g281 80) (S 27) (S 1100007) (S 1100023) (S 1100024) 25560 (g10 1100031 0) ∧ (∀ k : Int, (S 71 k) = 1 → (g281 71 k) = 1) ∧ sm_DR (g281 72) (g281 71) (S 1046 0) ∧ (641 * (sm_cm (g281 71) + sm_pt (g281 68) (g281 69) (g281 70) + sm_pl (g281 81) (g281 82) (g281 83) (g281 84) (g281 85) (g281 86) + sm_ps (g281 76) (g281 77)) + sm_du (g281 72)) ≤ (641 * (sm_cm (S 71) + sm_pt (g274 68) (g274 69) (g274 70) + sm_pl (g10 81) (g10 82) (g10 83) (g10 84) (g10 85) (g10 86) + sm_ps (g10 76) (g10 77)) + sm_du (S 72))) → (sm_ST (g281 71) (g281 74) (g281 75) (g281 78) (g281 79) (g281 80) (S 27) (S 1100007) (S 1100023) (S 1100024) (S 1046 0) ((S 1046 0) + 2 * (S 1032 0)) (g281 1127 0) ∧ 465000 ≤ (g281 1127 0) ∧ (g281 1127 0) + sm_hs (g281 71) (S 1100007) ≤ 635000 ∧ (g281 75 639) = 647340 ∧ (∀ k : Int, (S 71 k) = 1 → (g281 71 k) = 1) ∧ sm_DR (g281 72) (g281 71) (S 1046 0) ∧ (641 * (sm_cm (g281 71) + sm_pt (g281 68) (g281 69) (g281 70) + sm_pl (g281 81) (g281 82) (g281 83) (g281 84) (g281 85) (g281 86) + sm_ps (g281 76) (g281 77)) + sm_du (g281 72)) ≤ (641 * (sm_cm (S 71) + sm_pt (g10 68) (g10 69) (g10 70) + sm_pl (g10 81) (g10 82) (g10 83) (g10 84) (g10 85) (g10 86) + sm_ps (g10 76) (g10 77)) + sm_du (S 72))))))))) ∧ (((S 26 p1) = (6 : Int)) → ((S 75 639) = 647340 ∧ 0 ≤ (g10 74 639) ∧ (g10 74 639) ≤ 400 ∧ (g10 74 639) < 400) ∧ (∀ r292 : Int, sv_R r292 → ∀ g288 : sv_S, (r292 = 647340 + (g10 74 639) ∧ (g288 74 639) = (g10 74 639) + 1 ∧ sm_F1 (g10 74) (g288 74) 639 ∧ sm_pt (g288 68) (g288 69) (g288 70) = sm_pt (g10 68) (g10 69) (g10 70)) → (sv_R (635000 + (639 : Int))) ∧ (0 ≤ (635000 + (639 : Int)) ∧ (635000 + (639 : Int)) < 647800 ∧ 635639 ≤ r292 ∧ r292 < 647800) ∧ (∀ g297 : sv_S, (sm_pt (g297 68) (g297 69) (g297 70) = sm_pt (g288 68) (g288 69) (g288 70)) → (29 ≤ (S 1071 0) ∧ (S 1071 0) ≤ 127 ∧ 31 ≤ (S 1008 0) ∧ (S 1008 0) ≤ 90 ∧ 1 ≤ (S 1032 0) ∧ (S 1032 0) ≤ 11 ∧ 0 ≤ (S 1055 0) ∧ (S 1055 0) ≤ 19 ∧ (S 1071 0) = 29 + 6 * ((S 1032 0) - 1) + 2 * (S 1055 0) ∧ 0 ≤ (S 1046 0) ∧ (S 1046 0) + 2 * (S 1032 0) ≤ 500 ∧ sm_PD (S 1046 0) (S 1032 0) (S 1071 0) (S 1008 0) ∧ 0 ≤ (S 1071 0) * ((S 1008 0) + 1) ∧ (S 1071 0) * ((S 1008 0) + 1) ≤ 11557 ∧ 31 ≤ (S 1007 0) ∧ (S 1007 0) ≤ 400 ∧ sm_LN (S 4) 400 (S 1007 0) ∧ (S 75 639) = 647340 ∧ sm_ST (S 71) (g288 74) (S 75) (g10 78) (g10 79) (g10 80) (S 27) (S 1100007) (S 1100023) (S 1100024) (S 1046 0) ((S 1046 0) + 2 * (S 1032 0)) (S 1127 0) ∧ 465000 ≤ (S 1127 0) ∧ (S 1127 0) + sm_hs (S 71) (S 1100007) ≤ 635000 ∧ sm_NH (S 1100007) ∧ sm_CT (S 26) (S 27) (S 28) (S 29) (S 1100007) (S 1100023) (S 1100024) (S 1100025) (S 21) (S 1046 0) (S 1032 0) (S 1008 0) (S 1055 0) ∧ (∀ k : Int, (S 1046 0) ≤ k → k < ((S 1046 0) + 2 * (S 1032 0)) → (S 1100007 k) = 1) ∧ sm_DR (S 72) (S 71) (S 1046 0) ∧ 0 ≤ (g288 74 639) ∧ (g288 74 639) ≤ 400 ∧ 0 ≤ (g10 78 639) ∧ (g10 78 639) ≤ 40 ∧ (g10 78 639) = sm_dp (S 1100024) (g10 1100031 0) ∧ -1 ≤ (g10 1100031 0) ∧ (g10 1100031 0) < (S 1046 0) ∧ (0 ≤ (g10 1100031 0) → (S 26 (g10 1100031 0)) = 27) ∧ sm_TC (g10 79) (g10 80) (S 27) (S 1100007) (S 1100023) (S 1100024) 25560 (g10 1100031 0) ∧ 0 ≤ p1 ∧ p1 + 1 < (S 1046 0) ∧ (g288 74 639) = (S 1100007 (p1 + 1)) ∧ (S 1100023 (p1 + 1)) = (g10 1100031 0)) ∧ (∀ g304 : sv_S, (sm_ST (g304 71) (g304 74) (g304 75) (g304 78) (g304 79) (g304 80) (S 27) (S 1100007) (S 1100023) (S 1100024) (S 1046 0) ((S 1046 0) + 2 * (S 1032 0)) (g304 1127 0) ∧ 465000 ≤ (g304 1127 0) ∧ (g304 1127 0) + sm_hs (g304 71) (S 1100007) ≤ 635000 ∧ (g304 75 639) = 647340 ∧ (g304 74 639) = (g288 74 639) ∧ (g304 78 639) = (g10 78 639) ∧ sm_TC (g304 79) (g304 80) (S 27) (S 1100007) (S 1100023) (S 1100024) 25560 (g10 1100031 0) ∧ (∀ k : Int, (S 71 k) = 1 → (g304 71 k) = 1) ∧ sm_DR (g304 72) (g304 71) (S 1046 0) ∧ (641 * (sm_cm (g304 71) + sm_pt (g304 68) (g304 69) (g304 70) + sm_pl (g304 81) (g304 82) (g304 83) (g304 84) (g304 85) (g304 86) + sm_ps (g304 76) (g304 77)) + sm_du (g304 72)) ≤ (641 * (sm_cm (S 71) + sm_pt (g297 68) (g297 69) (g297 70) + sm_pl (g10 81) (g10 82) (g10 83) (g10 84) (g10 85) (g10 86) + sm_ps (g10 76) (g10 77)) + sm_du (S 72))) → (sm_ST (g304 71) (g304 74) (g304 75) (g304 78) (g304 79) (g304 80) (S 27) (S 1100007) (S 1100023) (S 1100024) (S 1046 0) ((S 1046 0) + 2 * (S 1032 0)) (g304 1127 0) ∧ 465000 ≤ (g304 1127 0) ∧ (g304 1127 0) + sm_hs (g304 71) (S 1100007) ≤ 635000 ∧ (g304 75 639) = 647340 ∧ (∀ k : Int, (S 71 k) = 1 → (g304 71 k) = 1) ∧ sm_DR (g304 72) (g304 71) (S 1046 0) ∧ (641 * (sm_cm (g304 71) + sm_pt (g304 68) (g304 69) (g304 70) + sm_pl (g304 81) (g304 82) (g304 83) (g304 84) (g304 85) (g304 86) + sm_ps (g304 76) (g304 77)) + sm_du (g304 72)) ≤ (641 * (sm_cm (S 71) + sm_pt (g10 68) (g10 69) (g10 70) + sm_pl (g10 81) (g10 82) (g10 83) (g10 84) (g10 85) (g10 86) + sm_ps (g10 76) (g10 77)) + sm_du (S 72))))))) ∧ (((S 26 p1) = (7 : Int) ∨ (S 26 p1) = (8 : Int)) → (0 ≤ (S 27 p1) ∧ (S 27 p1) ≤ 600 ∧ 1 ≤ (S 1032 0) ∧ (S 1032 0) ≤ 4001) ∧ (∀ r315 : Int, sv_R r315 → (r315 = 29 + 6 * ((S 1032 0) - 1) + 2 * (S 27 p1)) → (((¬ (S 26 p1) = (7 : Int)) → (29 ≤ (S 1071 0) ∧ (S 1071 0) ≤ 127 ∧ 31 ≤ (S 1008 0) ∧ (S 1008 0) ≤ 90 ∧ 1 ≤ (S 1032 0) ∧ (S 1032 0) ≤ 11 ∧ 0 ≤ (S 1055 0) ∧ (S 1055 0) ≤ 19 ∧ (S 1071 0) = 29 + 6 * ((S 1032 0) - 1) + 2 * (S 1055 0) ∧ 0 ≤ (S 1046 0) ∧ (S 1046 0) + 2 * (S 1032 0) ≤ 500 ∧ sm_PD (S 1046 0) (S 1032 0) (S 1071 0) (S 1008 0) ∧ 0 ≤ (S 1071 0) * ((S 1008 0) + 1) ∧ (S 1071 0) * ((S 1008 0) + 1) ≤ 11557 ∧ (S 75 639) = 647340 ∧ 0 ≤ (g10 74 639) ∧ (g10 74 639) ≤ 400 ∧ 0 ≤ r315 ∧ r315 + 1 < (S 1071 0) ∧ -1 ≤ (3 : Int) ∧ (3 : Int) ≤ 63 ∧ 0 ≤ (0 : Int) ∧ (0 : Int) ≤ 12 ∧ (∀ k : Int, 0 ≤ k → k < (0 : Int) → 635639 ≤ (S 91 k) ∧ (S 91 k) < 647800)) ∧ (∀ g317 : sv_S, (sm_pt (g317 68) (g317 69) (g317 70) = sm_pt (g10 68) (g10 69) (g10 70) ∧ sm_pl (g317 81) (g317 82) (g317 83) (g317 84) (g317 85) (g317 86) = sm_pl (g10 81) (g10 82) (g10 83) (g10 84) (g10 85) (g10 86) ∧ sm_ps (g317 76) (g317 77) = sm_ps (g10 76) (g10 77)) → (((¬ (S 26 p1) = (8 : Int)) → ((S 75 639) = 647340 ∧ 0 ≤ (g10 74 639) ∧ (g10 74 639) ≤ 400 ∧ (g10 74 639) < 400) ∧ (∀ r328 : Int, sv_R r328 → ∀ g324 : sv_S, (r328 = 647340 + (g10 74 639) ∧ (g324 74 639) = (g10 74 639) + 1 ∧ sm_F1 (g10 74) (g324 74) 639 ∧ sm_pt (g324 68) (g324 69) (g324 70) = sm_pt (g317 68) (g317 69) (g317 70)) → (635639 ≤ r328 ∧ r328 < 647800) ∧ (∀ g332 : sv_S, (sm_pt (g324 68) (g332 69) (g332 70) = sm_pt (g324 68) (g324 69) (g324 70)) → (29 ≤ (S 1071 0) ∧ (S 1071 0) ≤ 127 ∧ 31 ≤ (S 1008 0) ∧ (S 1008 0) ≤ 90 ∧ 1 ≤ (S 1032 0) ∧ (S 1032 0) ≤ 11 ∧ 0 ≤ (S 1055 0) ∧ (S 1055 0) ≤ 19 ∧ (S 1071 0) = 29 + 6 * ((S 1032 0) - 1) + 2 * (S 1055 0) ∧ 0 ≤ (S 1046 0) ∧ (S 1046 0) + 2 * (S 1032 0) ≤ 500 ∧ sm_PD (S 1046 0) (S 1032 0) (S 1071 0) (S 1008 0) ∧ 0 ≤ (S 1071 0) * ((S 1008 0) + 1) ∧ (S 1071 0) * ((S 1008 0) + 1) ≤ 11557 ∧ 31 ≤ (S 1007 0) ∧ (S 1007 0) ≤ 400 ∧ sm_LN (S 4) 400 (S 1007 0) ∧ (S 75 639) = 647340 ∧ sm_ST (S 71) (g324 74) (S 75) (g10 78) (g10 79) (g10 80) (S 27) (S 1100007) (S 1100023) (S 1100024) (S 1046 0) ((S 1046 0) + 2 * (S 1032 0)) (S 1127 0) ∧ 465000 ≤ (S 1127 0) ∧ (S 1127 0) + sm_hs (S 71) (S 1100007) ≤ 635000 ∧ sm_NH (S 1100007) ∧ sm_CT (S 26) (S 27) (S 28) (S 29) (S 1100007) (S 1100023) (S 1100024) (S 1100025) (S 21) (S 1046 0) (S 1032 0) (S 1008 0) (S 1055 0) ∧ (∀ k : Int, (S 1046 0) ≤ k → k < ((S 1046 0) + 2 * (S 1032 0)) → (S 1100007 k) = 1) ∧ sm_DR (S 72) (S 71) (S 1046 0) ∧ 0 ≤ (g324 74 639) ∧ (g324 74 639) ≤ 400 ∧ 0 ≤ (g10 78 639) ∧ (g10 78 639) ≤ 40 ∧ (g10 78 639) = sm_dp (S 1100024) (g10 1100031 0) ∧ -1 ≤ (g10 1100031 0) ∧ (g10 1100031 0) < (S 1046 0) ∧ (0 ≤ (g10 1100031 0) → (S 26 (g10 1100031 0)) = 27) ∧ sm_TC (g10 79) (g10 80) (S 27) (S 1100007) (S 1100023) (S 1100024) 25560 (g10 1100031 0) ∧ 0 ≤ p1 ∧ p1 + 1 < (S 1046 0) ∧ (g324 74 639) = (S 1100007 (p1 + 1)) ∧ (S 1100023 (p1 + 1)) = (g10 1100031 0)) ∧ (∀ g339 : sv_S, (sm_ST (g339 71) (g339 74) (g339 75) (g339 78) (g339 79) (g339 80) (S 27) (S 1100007) (S 1100023) (S 1100024) (S 1046 0) ((S 1046 0) + 2 * (S 1032 0)) (g339 1127 0) ∧ 465000 ≤ (g339 1127 0) ∧ (g339 1127 0) + sm_hs (g339 71) (S 1100007) ≤ 635000 ∧ (g339 75 639) = 647340 ∧ (g339 74 639) = (g324 74 639) ∧ (g339 78 639) = (g10 78 639) ∧ sm_TC (g339 79) (g339 80) (S 27) (S 1100007) (S 1100023) (S 1100024) 25560 (g10 1100031 0) ∧ (∀ k : Int, (S 71 k) = 1 → (g339 71 k) = 1) ∧ sm_DR (g339 72) (g339 71) (S 1046 0) ∧ (641 * (sm_cm (g339 71) + sm_pt (g339 68) (g339 69) (g339 70) + sm_pl (g339 81) (g339 82) (g339 83) (g339 84) (g339 85) (g339 86) + sm_ps (g339 76) (g339 77)) + sm_du (g339 72)) ≤ (641 * (sm_cm (S 71) + sm_pt (g324 68) (g332 69) (g332 70) + sm_pl (g317 81) (g317 82) (g317 83) (g317 84) (g317 85) (g317 86) + sm_ps (g317 76) (g317 77)) + sm_du (S 72))) → (sm_ST (g339 71) (g339 74) (g339 75) (g339 78) (g339 79) (g339 80) (S 27) (S 1100007) (S 1100023) (S 1100024) (S 1046 0) ((S 1046 0) + 2 * (S 1032 0)) (g339 1127 0) ∧ 465000 ≤ (g339 1127 0) ∧ (g339 1127 0) + sm_hs (g339 71) (S 1100007) ≤ 635000 ∧ (g339 75 639) = 647340 ∧ (∀ k : Int, (S 71 k) = 1 → (g339 71 k) = 1) ∧ sm_DR (g339 72) (g339 71) (S 1046 0) ∧ (641 * (sm_cm (g339 71) + sm_pt (g339 68) (g339 69) (g339 70) + sm_pl (g339 81) (g339 82) (g339 83) (g339 84) (g339 85) (g339 86) + sm_ps (g339 76) (g339 77)) + sm_du (g339 72)) ≤ (641 * (sm_cm (S 71) + sm_pt (g10 68) (g10 69) (g10 70) + sm_pl (g10 81) (g10 82) (g10 83) (g10 84) (g10 85) (g10 86) + sm_ps (g10 76) (g10 77)) + sm_du (S 72))))))) ∧ ((¬ (¬ (S 26 p1) = (8 : Int))) → (29 ≤ (S 1071 0) ∧ (S 1071 0) ≤ 127 ∧ 31 ≤ (S 1008 0) ∧ (S 1008 0) ≤ 90 ∧ 1 ≤ (S 1032 0) ∧ (S 1032 0) ≤ 11 ∧ 0 ≤ (S 1055 0) ∧ (S 1055 0) ≤ 19 ∧ (S 1071 0) = 29 + 6 * ((S 1032 0) - 1) + 2 * (S 1055 0) ∧ 0 ≤ (S 1046 0) ∧ (S 1046 0) + 2 * (S 1032 0) ≤ 500 ∧ sm_PD (S 1046 0) (S 1032 0) (S 1071 0) (S 1008 0) ∧ 0 ≤ (S 1071 0) * ((S 1008 0) + 1) ∧ (S 1071 0) * ((S 1008 0) + 1) ≤ 11557 ∧ 0 ≤ r315 ∧ r315 < (S 1071 0) ∧ 0 ≤ (0 : Int) ∧ (0 : Int) ≤ (S 1008 0)) ∧ (∀ r350 : Int, sv_R r350 → ∀ g346 : sv_S, (sm_pt (g346 68) (g346 69) (g346 70) = sm_pt (g317 68) (g317 69) (g317 70) ∧ 635640 ≤ r350 ∧ r350 < 647340) → (635639 ≤ r350 ∧ r350 < 647790) ∧ (∀ g354 : sv_S, (sm_pt (g354 68) (g354 69) (g354 70) = sm_pt (g346 68) (g346 69) (g346 70)) → ((S 75 639) = 647340 ∧ 0 ≤ (g10 74 639) ∧ (g10 74 639) ≤ 400 ∧ (g10 74 639) < 400) ∧ (∀ r365 : Int, sv_R r365 → ∀ g361 : sv_S, (r365 = 647340 + (g10 74 639) ∧ (g361 74 639) = (g10 74 639) + 1 ∧ sm_F1 (g10 74) (g361 74) 639 ∧ sm_pt (g361 68) (g361 69) (g361 70) = sm_pt (g354 68) (g354 69) (g354 70)) → (635639 ≤ r365 ∧ r365 < 647800) ∧ (∀ g369 : sv_S, (sm_pt (g361 68) (g369 69) (g369 70) = sm_pt (g361 68) (g361 69) (g361 70)) → (29 ≤ (S 1071 0) ∧ (S 1071 0) ≤ 127 ∧ 31 ≤ (S 1008 0) ∧ (S 1008 0) ≤ 90 ∧ 1 ≤ (S 1032 0) ∧ (S 1032 0) ≤ 11 ∧ 0 ≤ (S 1055 0) ∧ (S 1055 0) ≤ 19 ∧ (S 1071 0) = 29 + 6 * ((S 1032 0) - 1) + 2 * (S 1055 0) ∧ 0 ≤ (S 1046 0) ∧ (S 1046 0) + 2 * (S 1032 0) ≤ 500 ∧ sm_PD (S 1046 0) (S 1032 0) (S 1071 0) (S 1008 0) ∧ 0 ≤ (S 1071 0) * ((S 1008 0) + 1) ∧ (S 1071 0) * ((S 1008 0) + 1) ≤ 11557 ∧ 31 ≤ (S 1007 0) ∧ (S 1007 0) ≤ 400 ∧ sm_LN (S 4) 400 (S 1007 0) ∧ (S 75 639) = 647340 ∧ sm_ST (S 71) (g361 74) (S 75) (g10 78) (g10 79) (g10 80) (S 27) (S 1100007) (S 1100023) (S 1100024) (S 1046 0) ((S 1046 0) + 2 * (S 1032 0)) (S 1127 0) ∧ 465000 ≤ (S 1127 0) ∧ (S 1127 0) + sm_hs (S 71) (S 1100007) ≤ 635000 ∧ sm_NH (S 1100007) ∧ sm_CT (S 26) (S 27) (S 28) (S 29) (S 1100007) (S 1100023) (S 1100024) (S 1100025) (S 21) (S 1046 0) (S 1032 0) (S 1008 0) (S 1055 0) ∧ (∀ k : Int, (S 1046 0) ≤ k → k < ((S 1046 0) + 2 * (S 1032 0)) → (S 1100007 k) = 1) ∧ sm_DR (S 72) (S 71) (S 1046 0) ∧ 0 ≤ (g361 74 639) ∧ (g361 74 639) ≤ 400 ∧ 0 ≤ (g10 78 639) ∧ (g10 78 639) ≤ 40 ∧ (g10 78 639) = sm_dp (S 1100024) (g10 1100031 0) ∧ -1 ≤ (g10 1100031 0) ∧ (g10 1100031 0) < (S 1046 0) ∧ (0 ≤ (g10 1100031 0) → (S 26 (g10 1100031 0)) = 27) ∧ sm_TC (g10 79) (g10 80) (S 27) (S 1100007) (S 1100023) (S 1100024) 25560 (g10 1100031 0) ∧ 0 ≤ p1 ∧ p1 + 1 < (S 1046 0) ∧ (g361 74 639) = (S 1100007 (p1 + 1)) ∧ (S 1100023 (p1 + 1)) = (g10 1100031 0)) ∧ (∀ g376 : sv_S, (sm_ST (g376 71) (g376 74) (g376 75) (g376 78) (g376 79) (g376 80) (S 27) (S 1100007) (S 1100023) (S 1100024) (S 1046 0) ((S 1046 0) + 2 * (S 1032 0)) (g376 1127 0) ∧ 465000 ≤ (g376 1127 0) ∧ (g376 1127 0) + sm_hs (g376 71) (S 1100007) ≤ 635000 ∧ (g376 75 639) = 647340 ∧ (g376 74 639) = (g361 74 639) ∧ (g376 78 639) = (g10 78 639) ∧ sm_TC (g376 79) (g376 80) (S 27) (S 1100007) (S 1100023) (S 1100024) 25560 (g10 1100031 0) ∧ (∀ k : Int, (S 71 k) = 1 → (g376 71 k) = 1) ∧ sm_DR (g376 72) (g376 71) (S 1046 0) ∧ (641 * (sm_cm (g376 71) + sm_pt (g376 68) (g376 69) (g376 70) + sm_pl (g376 81) (g376 82) (g376 83) (g376 84) (g376 85) (g376 86) + sm_ps (g376 76) (g376 77)) + sm_du (g376 72)) ≤ (641 * (sm_cm (S 71) + sm_pt (g361 68) (g369 69) (g369 70) + sm_pl (g317 81) (g317 82) (g317 83) (g317 84) (g317 85) (g317 86) + sm_ps (g317 76) (g317 77)) + sm_du (S 72))) → (sm_ST (g376 71) (g376 74) (g376 75) (g376 78) (g376 79) (g376 80) (S 27) (S 1100007) (S 1100023) (S 1100024) (S 1046 0) ((S 1046 0) + 2 * (S 1032 0)) (g376 1127 0) ∧ 465000 ≤ (g376 1127 0) ∧ (g376 1127 0) + sm_hs (g376 71) (S 1100007) ≤ 635000 ∧ (g376 75 639) = 647340 ∧ (∀ k : Int, (S 71 k) = 1 → (g376 71 k) = 1) ∧ sm_DR (g376 72) (g376 71) (S 1046 0) ∧ (641 * (sm_cm (g376 71) + sm_pt (g376 68) (g376 69) (g376 70) + sm_pl (g376 81) (g376 82) (g376 83) (g376 84) (g376 85) (g376 86) + sm_ps (g376 76) (g376 77)) + sm_du (g376 72)) ≤ (641 * (sm_cm (S 71) + sm_pt (g10 68) (g10 69) (g10 70) + sm_pl (g10 81) (g10 82) (g10 83) (g10 84) (g10 85) (g10 86) + sm_ps (g10 76) (g10 77)) + sm_du (S 72)))))))))))) ∧ ((¬ (¬ (S 26 p1) = (7 : Int))) → (29 ≤ (S 1071 0) ∧ (S 1071 0) ≤ 127 ∧ 31 ≤ (S 1008 0) ∧ (S 1008 0) ≤ 90 ∧ 1 ≤ (S 1032 0) ∧ (S 1032 0) ≤ 11 ∧ 0 ≤ (S 1055 0) ∧ (S 1055 0) ≤ 19 ∧ (S 1071 0) = 29 + 6 * ((S 1032 0) - 1) + 2 * (S 1055 0) ∧ 0 ≤ (S 1046 0) ∧ (S 1046 0) + 2 * (S 1032 0) ≤ 500 ∧ sm_PD (S 1046 0) (S 1032 0) (S 1071 0) (S 1008 0) ∧ 0 ≤ (S 1071 0) * ((S 1008 0) + 1) ∧ (S 1071 0) * ((S 1008 0) + 1) ≤ 11557 ∧ (S 75 639) = 647340 ∧ 0 ≤ (g10 74 639) ∧ (g10 74 639) ≤ 400 ∧ 0 ≤ r315 ∧ r315 + 1 < (S 1071 0) ∧ -1 ≤ (1 : Int) ∧ (1 : Int) ≤ 63 ∧ 0 ≤ (0 : Int) ∧ (0 : Int) ≤ 12 ∧ (∀ k : Int, 0 ≤ k → k < (0 : Int) → 635639 ≤ (S 91 k) ∧ (S 91 k) < 647800)) ∧ (∀ g383 : sv_S, (sm_pt (g383 68) (g383 69) (g383 70) = sm_pt (g10 68) (g10 69) (g10 70) ∧ sm_pl (g383 81) (g383 82) (g383 83) (g383 84) (g383 85) (g383 86) = sm_pl (g10 81) (g10 82) (g10 83) (g10 84) (g10 85) (g10 86) ∧ sm_ps (g383 76) (g383 77) = sm_ps (g10 76) (g10 77)) → (((¬ (S 26 p1) = (8 : Int)) → ((S 75 639) = 647340 ∧ 0 ≤ (g10 74 639) ∧ (g10 74 639) ≤ 400 ∧ (g10 74 639) < 400) ∧ (∀ r394 : Int, sv_R r394 → ∀ g390 : sv_S, (r394 = 647340 + (g10 74 639) ∧ (g390 74 639) = (g10 74 639) + 1 ∧ sm_F1 (g10 74) (g390 74) 639 ∧ sm_pt (g390 68) (g390 69) (g390 70) = sm_pt (g383 68) (g383 69) (g383 70)) → (635639 ≤ r394 ∧ r394 < 647800) ∧ (∀ g398 : sv_S, (sm_pt (g390 68) (g398 69) (g398 70) = sm_pt (g390 68) (g390 69) (g390 70)) → (29 ≤ (S 1071 0) ∧ (S 1071 0) ≤ 127 ∧ 31 ≤ (S 1008 0) ∧ (S 1008 0) ≤ 90 ∧ 1 ≤ (S 1032 0) ∧ (S 1032 0) ≤ 11 ∧ 0 ≤ (S 1055 0) ∧ (S 1055 0) ≤ 19 ∧ (S 1071 0) = 29 + 6 * ((S 1032 0) - 1) + 2 * (S 1055 0) ∧ 0 ≤ (S 1046 0) ∧ (S 1046 0) + 2 * (S 1032 0) ≤ 500 ∧ sm_PD (S 1046 0) (S 1032 0) (S 1071 0) (S 1008 0) ∧ 0 ≤ (S 1071 0) * ((S 1008 0) + 1) ∧ (S 1071 0) * ((S 1008 0) + 1) ≤ 11557 ∧ 31 ≤ (S 1007 0) ∧ (S 1007 0) ≤ 400 ∧ sm_LN (S 4) 400 (S 1007 0) ∧ (S 75 639) = 647340 ∧ sm_ST (S 71) (g390 74) (S 75) (g10 78) (g10 79) (g10 80) (S 27) (S 1100007) (S 1100023) (S 1100024) (S 1046 0) ((S 1046 0) + 2 * (S 1032 0)) (S 1127 0) ∧ 465000 ≤ (S 1127 0) ∧ (S 1127 0) + sm_hs (S 71) (S 1100007) ≤ 635000 ∧ sm_NH (S 1100007) ∧ sm_CT (S 26) (S 27) (S 28) (S 29) (S 1100007) (S 1100023) (S 1100024) (S 1100025) (S 21) (S 1046 0) (S 1032 0) (S 1008 0) (S 1055 0) ∧ (∀ k : Int, (S 1046 0) ≤ k → k < ((S 1046 0) + 2 * (S 1032 0)) → (S 1100007 k) = 1) ∧ sm_DR (S 72) (S 71) (S 1046 0) ∧ 0 ≤ (g390 74 639) ∧ (g390 74 639) ≤ 400 ∧ 0 ≤ (g10 78 639) ∧ (g10 78 639) ≤ 40 ∧ (g10 78 639) = sm_dp (S 1100024) (g10 1100031 0) ∧ -1 ≤ (g10 1100031 0) ∧ (g10 1100031 0) < (S 1046 0) ∧ (0 ≤ (g10 1100031 0) → (S 26 (g10 1100031 0)) = 27) ∧ sm_TC (g10 79) (g10 80) (S 27) (S 1100007) (S 1100023) (S 1100024) 25560 (g10 1100031 0) ∧ 0 ≤ p1 ∧ p1 + 1 < (S 1046 0) ∧ (g390 74 639) = (S 1100007 (p1 + 1)) ∧ (S 1100023 (p1 + 1)) = (g10 1100031 0)) ∧ (∀ g405 : sv_S, (sm_ST (g405 71) (g405 74) (g405 75) (g405 78) (g405 79) (g405 80) (S 27) (S 1100007) (S 1100023) (S 1100024) (S 1046 0) ((S 1046 0) + 2 * (S 1032 0)) (g405 1127 0) ∧ 465000 ≤ (g405 1127 0) ∧ (g405 1127 0) + sm_hs (g405 71) (S 1100007) ≤ 635000 ∧ (g405 75 639) = 647340 ∧ (g405 74 639) = (g390 74 639) ∧ (g405 78 639) = (g10 78 639) ∧ sm_TC (g405 79) (g405 80) (S 27) (S 1100007) (S 1100023) (S 1100024) 25560 (g10 1100031 0) ∧ (∀ k : Int, (S 71 k) = 1 → (g405 71 k) = 1) ∧ sm_DR (g405 72) (g405 71) (S 1046 0) ∧ (641 * (sm_cm (g405 71) + sm_pt (g405 68) (g405 69) (g405 70) + sm_pl (g405 81) (g405 82) (g405 83) (g405 84) (g405 85) (g405 86) + sm_ps (g405 76) (g405 77)) + sm_du (g405 72)) ≤ (641 * (sm_cm (S 71) + sm_pt (g390 68) (g398 69) (g398 70) + sm_pl (g383 81) (g383 82) (g383 83) (g383 84) (g383 85) (g383 86) + sm_ps (g383 76) (g383 77)) + sm_du (S 72))) → (sm_ST (g405 71) (g405 74) (g405 75) (g405 78) (g405 79) (g405 80) (S 27) (S 1100007) (S 1100023) (S 1100024) (S 1046 0) ((S 1046 0) + 2 * (S 1032 0)) (g405 1127 0) ∧ 465000 ≤ (g405 1127 0) ∧ (g405 1127 0) + sm_hs (g405 71) (S 1100007) ≤ 635000 ∧ (g405 75 639) = 647340 ∧ (∀ k : Int, (S 71 k) = 1 → (g405 71 k) = 1) ∧ sm_DR (g405 72) (g405 71) (S 1046 0) ∧ (641 * (sm_cm (g405 71) + sm_pt (g405 68) (g405 69) (g405 70) + sm_pl (g405 81) (g405 82) (g405 83) (g405 84) (g405 85) (g405 86) + sm_ps (g405 76) (g405 77)) + sm_du (g405 72)) ≤ (641 * (sm_cm (S 71) + sm_pt (g10 68) (g10 69) (g10 70) + sm_pl (g10 81) (g10 82) (g10 83) (g10 84) (g10 85) (g10 86) + sm_ps (g10 76) (g10 77)) + sm_du (S 72))))))) ∧ ((¬ (¬ (S 26 p1) = (8 : Int))) → (29 ≤ (S 1071 0) ∧ (S 1071 0) ≤ 127 ∧ 31 ≤ (S 1008 0) ∧ (S 1008 0) ≤ 90 ∧ 1 ≤ (S 1032 0) ∧ (S 1032 0) ≤ 11 ∧ 0 ≤ (S 1055 0) ∧ (S 1055 0) ≤ 19 ∧ (S 1071 0) = 29 + 6 * ((S 1032 0) - 1) + 2 * (S 1055 0) ∧ 0 ≤ (S 1046 0) ∧ (S 1046 0) + 2 * (S 1032 0) ≤ 500 ∧ sm_PD (S 1046 0) (S 1032 0) (S 1071 0) (S 1008 0) ∧ 0 ≤ (S 1071 0) * ((S 1008 0) + 1) ∧ (S 1071 0) * ((S 1008 0) + 1) ≤ 11557 ∧ 0 ≤ r315 ∧ r315 < (S 1071 0) ∧ 0 ≤ (0 : Int) ∧ (0 : Int) ≤ (S 1008 0)) ∧ (∀ r416 : Int, sv_R r416 → ∀ g412 : sv_S, (sm_pt (g412 68) (g412 69) (g412 70) = sm_pt (g383 68) (g383 69) (g383 70) ∧ 635640 ≤ r416 ∧ r416 < 647340) → (635639 ≤ r416 ∧ r416 < 647790) ∧ (∀ g420 : sv_S, (sm_pt (g420 68) (g420 69) (g420 70) = sm_pt (g412 68) (g412 69) (g412 70)) → ((S 75 639) = 647340 ∧ 0 ≤ (g10 74 639) ∧ (g10 74 639) ≤ 400 ∧ (g10 74 639) < 400) ∧ (∀ r431 : Int, sv_R r431 → ∀ g427 : sv_S, (r431 = 647340 + (g10 74 639) ∧ (g427 74 639) = (g10 74 639) + 1 ∧ sm_F1 (g10 74) (g427 74) 639 ∧ sm_pt (g427 68) (g427 69) (g427 70) = sm_pt (g420 68) (g420 69) (g420 70)) → (635639 ≤ r431 ∧ r431 < 647800) ∧ (∀ g435 : sv_S, (sm_pt (g427 68) (g435 69) (g435 70) = sm_pt (g427 68) (g427 69) (g427 70)) → (29 ≤ (S 1071 0) ∧ (S 1071 0) ≤ 127 ∧ 31 ≤ (S 1008 0) ∧ (S 1008 0) ≤ 90 ∧ 1 ≤ (S 1032 0) ∧ (S 1032 0) ≤ 11 ∧ 0 ≤ (S 1055 0) ∧ (S 1055 0) ≤ 19 ∧ (S 1071 0) = 29 + 6 * ((S 1032 0) - 1) + 2 * (S 1055 0) ∧ 0 ≤ (S 1046 0) ∧ (S 1046 0) + 2 * (S 1032 0) ≤ 500 ∧ sm_PD (S 1046 0) (S 1032 0) (S 1071 0) (S 1008 0) ∧ 0 ≤ (S 1071 0) * ((S 1008 0) + 1) ∧ (S 1071 0) * ((S 1008 0) + 1) ≤ 11557 ∧ 31 ≤ (S 1007 0) ∧ (S 1007 0) ≤ 400 ∧ sm_LN (S 4) 400 (S 1007 0) ∧ (S 75 639) = 647340 ∧ sm_ST (S 71) (g427 74) (S 75) (g10 78) (g10 79) (g10 80) (S 27) (S 1100007) (S 1100023) (S 1100024) (S 1046 0) ((S 1046 0) + 2 * (S 1032 0)) (S 1127 0) ∧ 465000 ≤ (S 1127 0) ∧ (S 1127 0) + sm_hs (S 71) (S 1100007) ≤ 635000 ∧ sm_NH (S 1100007) ∧ sm_CT (S 26) (S 27) (S 28) (S 29) (S 1100007) (S 1100023) (S 1100024) (S 1100025) (S 21) (S 1046 0) (S 1032 0) (S 1008 0) (S 1055 0) ∧ (∀ k : Int, (S 1046 0) ≤ k → k < ((S 1046 0) + 2 * (S 1032 0)) → (S 1100007 k) = 1) ∧ sm_DR (S 72) (S 71) (S 1046 0) ∧ 0 ≤ (g427 74 639) ∧ (g427 74 639) ≤ 400 ∧ 0 ≤ (g10 78 639) ∧ (g10 78 639) ≤ 40 ∧ (g10 78 639) = sm_dp (S 1100024) (g10 1100031 0) ∧ -1 ≤ (g10 1100031 0) ∧ (g10 1100031 0) < (S 1046 0) ∧ (0 ≤ (g10 1100031 0) → (S 26 (g10 1100031 0)) = 27) ∧ sm_TC (g10 79) (g10 80) (S 27) (S 1100007) (S 1100023) (S 1100024) 25560 (g10 1100031 0) ∧ 0 ≤ p1 ∧ p1 + 1 < (S 1046 0) ∧ (g427 74 639) = (S 1100007 (p1 + 1)) ∧ (S 1100023 (p1 + 1)) = (g10 1100031 0)) ∧ (∀ g442 : sv_S, (sm_ST (g442 71) (g442 74) (g442 75) (g442 78) (g442 79) (g442 80) (S 27) (S 1100007) (S 1100023) (S 1100024) (S 1046 0) ((S 1046 0) + 2 * (S 1032 0)) (g442 1127 0) ∧ 465000 ≤ (g442 1127 0) ∧ (g442 1127 0) + sm_hs (g442 71) (S 1100007) ≤ 635000 ∧ (g442 75 639) = 647340 ∧ (g442 74 639) = (g427 74 639) ∧ (g442 78 639) = (g10 78 639) ∧ sm_TC (g442 79) (g442 80) (S 27) (S 1100007) (S 1100023) (S 1100024) 25560 (g10 1100031 0) ∧ (∀ k : Int, (S 71 k) = 1 → (g442 71 k) = 1) ∧ sm_DR (g442 72) (g442 71) (S 1046 0) ∧ (641 * (sm_cm (g442 71) + sm_pt (g442 68) (g442 69) (g442 70) + sm_pl (g442 81) (g442 82) (g442 83) (g442 84) (g442 85) (g442 86) + sm_ps (g442 76) (g442 77)) + sm_du (g442 72)) ≤ (641 * (sm_cm (S 71) + sm_pt (g427 68) (g435 69) (g435 70) + sm_pl (g383 81) (g383 82) (g383 83) (g383 84) (g383 85) (g383 86) + sm_ps (g383 76) (g383 77)) + sm_du (S 72))) → (sm_ST (g442 71) (g442 74) (g442 75) (g442 78) (g442 79) (g442 80) (S 27) (S 1100007) (S 1100023) (S 1100024) (S 1046 0) ((S 1046 0) + 2 * (S 1032 0)) (g442 1127 0) ∧ 465000 ≤ (g442 1127 0) ∧ (g442 1127 0) + sm_hs (g442 71) (S 1100007) ≤ 635000 ∧ (g442 75 639) = 647340 ∧ (∀ k : Int, (S 71 k) = 1 → (g442 71 k) = 1) ∧ sm_DR (g442 72) (g442 71) (S 1046 0) ∧ (641 * (sm_cm (g442 71) + sm_pt (g442 68) (g442 69) (g442 70) + sm_pl (g442 81) (g442 82) (g442 83) (g442 84) (g442 85) (g442 86) + sm_ps (g442 76) (g442 77)) + sm_du (g442 72)) ≤ (641 * (sm_cm (S 71) + sm_pt (g10 68) (g10 69) (g10 70) + sm_pl (g10 81) (g10 82) (g10 83) (g10 84) (g10 85) (g10 86) + sm_ps (g10 76) (g10 77)) + sm_du (S 72))))))))))))))) ∧ (((S 26 p1) = (9 : Int)) → (∀ x448 : Int, (((29 : Int) + ((6 : Int) * ((S 27 p1) - (1 : Int)))) + (2 : Int)) = x448 → (sv_R x448) ∧ (29 ≤ (S 1071 0) ∧ (S 1071 0) ≤ 127 ∧ 31 ≤ (S 1008 0) ∧ (S 1008 0) ≤ 90 ∧ 1 ≤ (S 1032 0) ∧ (S 1032 0) ≤ 11 ∧ 0 ≤ (S 1055 0) ∧ (S 1055 0) ≤ 19 ∧ (S 1071 0) = 29 + 6 * ((S 1032 0) - 1) + 2 * (S 1055 0) ∧ 0 ≤ (S 1046 0) ∧ (S 1046 0) + 2 * (S 1032 0) ≤ 500 ∧ sm_PD (S 1046 0) (S 1032 0) (S 1071 0) (S 1008 0) ∧ 0 ≤ (S 1071 0) * ((S 1008 0) + 1) ∧ (S 1071 0) * ((S 1008 0) + 1) ≤ 11557 ∧ (S 75 639) = 647340 ∧ 0 ≤ (g10 74 639) ∧ (g10 74 639) ≤ 400 ∧ 0 ≤ x448 ∧ x448 + 1 < (S 1071 0) ∧ -1 ≤ (2 : Int) ∧ (2 : Int) ≤ 63 ∧ 0 ≤ (0 : Int) ∧ (0 : Int) ≤ 12 ∧ (∀ k : Int, 0 ≤ k → k < (0 : Int) → 635639 ≤ (S 91 k) ∧ (S 91 k) < 647800)) ∧ (∀ g452 : sv_S, (sm_pt (g452 68) (g452 69) (g452 70) = sm_pt (g10 68) (g10 69) (g10 70) ∧ sm_pl (g452 81) (g452 82) (g452 83) (g452 84) (g452 85) (g452 86) = sm_pl (g10 81) (g10 82) (g10 83) (g10 84) (g10 85) (g10 86) ∧ sm_ps (g452 76) (g452 77) = sm_ps (g10 76) (g10 77)) → (sv_R (x448 + (2 : Int))) ∧ (29 ≤ (S 1071 0) ∧ (S 1071 0) ≤ 127 ∧ 31 ≤ (S 1008 0) ∧ (S 1008 0) ≤ 90 ∧ 1 ≤ (S 1032 0) ∧ (S 1032 0) ≤ 11 ∧ 0 ≤ (S 1055 0) ∧ (S 1055 0) ≤ 19 ∧ (S 1071 0) = 29 + 6 * ((S 1032 0) - 1) + 2 * (S 1055 0) ∧ 0 ≤ (S 1046 0) ∧ (S 1046 0) + 2 * (S 1032 0) ≤ 500 ∧ sm_PD (S 1046 0) (S 1032 0) (S 1071 0) (S 1008 0) ∧ 0 ≤ (S 1071 0) * ((S 1008 0) + 1) ∧ (S 1071 0) * ((S 1008 0) + 1) ≤ 11557 ∧ (S 75 639) = 647340 ∧ 0 ≤ (g10 74 639) ∧ (g10 74 639) ≤ 400 ∧ 0 ≤ (x448 + (2 : Int)) ∧ (x448 + (2 : Int)) + 1 < (S 1071 0) ∧ -1 ≤ (1 : Int) ∧ (1 : Int) ≤ 63 ∧ 0 ≤ (0 : Int) ∧ (0 : Int) ≤ 12 ∧ (∀ k : Int, 0 ≤ k → k < (0 : Int) → 635639 ≤ (S 91 k) ∧ (S 91 k) < 647800)) ∧ (∀ g460 : sv_S, (sm_pt (g460 68) (g460 69) (g460 70) = sm_pt (g452 68) (g452 69) (g452 70) ∧ sm_pl (g460 81) (g460 82) (g460 83) (g460 84) (g460 85) (g460 86) = sm_pl (g452 81) (g452 82) (g452 83) (g452 84) (g452 85) (g452 86) ∧ sm_ps (g460 76) (g460 77) = sm_ps (g452 76) (g452 77)) → (29 ≤ (S 1071 0) ∧ (S 1071 0) ≤ 127 ∧ 31 ≤ (S 1008 0) ∧ (S 1008 0) ≤ 90 ∧ 1 ≤ (S 1032 0) ∧ (S 1032 0) ≤ 11 ∧ 0 ≤ (S 1055 0) ∧ (S 1055 0) ≤ 19 ∧ (S 1071 0) = 29 + 6 * ((S 1032 0) - 1) + 2 * (S 1055 0) ∧ 0 ≤ (S 1046 0) ∧ (S 1046 0) + 2 * (S 1032 0) ≤ 500 ∧ sm_PD (S 1046 0) (S 1032 0) (S 1071 0) (S 1008 0) ∧ 0 ≤ (S 1071 0) * ((S 1008 0) + 1) ∧ (S 1071 0) * ((S 1008 0) + 1) ≤ 11557 ∧ 0 ≤ (639 : Int) ∧ ((639 : Int) = 639 ∨ (639 : Int) < (S 1046 0) + 2 * (S 1032 0)) ∧ 0 ≤ x448 ∧ (x448 < (S 1071 0) ∨ ((639 : Int) = 639 ∧ x448 < 128))) ∧ (∀ r471 : Int, sv_R r471 → (((639 : Int) = 639 → r471 = 15000 + x448) ∧ (¬ (639 : Int) = 639 → 0 ≤ r471 ∧ r471 < 14520)) → (0 ≤ (639 : Int) ∧ (639 : Int) < 640) ∧ (sv_RL (g460 76 (639 : Int)) → (0 ≤ r471 ∧ r471 < 15128) ∧ (∀ r482 : Int, sv_R r482 → (((639 : Int) = 639 → r482 = 15000 + x448) ∧ (¬ (639 : Int) = 639 → 0 ≤ r482 ∧ r482 < 14520)) → (sv_RL (g460 77 (639 : Int)) → (0 ≤ r482 ∧ r482 < 15128) ∧ (29 ≤ (S 1071 0) ∧ (S 1071 0) ≤ 127 ∧ 31 ≤ (S 1008 0) ∧ (S 1008 0) ≤ 90 ∧ 1 ≤ (S 1032 0) ∧ (S 1032 0) ≤ 11 ∧ 0 ≤ (S 1055 0) ∧ (S 1055 0) ≤ 19 ∧ (S 1071 0) = 29 + 6 * ((S 1032 0) - 1) + 2 * (S 1055 0) ∧ 0 ≤ (S 1046 0) ∧ (S 1046 0) + 2 * (S 1032 0) ≤ 500 ∧ sm_PD (S 1046 0) (S 1032 0) (S 1071 0) (S 1008 0) ∧ 0 ≤ (S 1071 0) * ((S 1008 0) + 1) ∧ (S 1071 0) * ((S 1008 0) + 1) ≤ 11557 ∧ 0 ≤ x448 ∧ x448 < (S 1071 0) ∧ 0 ≤ (1 : Int) ∧ (1 : Int) ≤ (S 1008 0)) ∧ (∀ r493 : Int, sv_R r493 → ∀ g489 : sv_S, (sm_pt (g489 68) (g489 69) (g489 70) = sm_pt (g460 68) (g460 69) (g460 70) ∧ 635640 ≤ r493 ∧ r493 < 647340) → (635639 ≤ r493 ∧ r493 < 647800) ∧ (∀ g497 : sv_S, (sm_pt (g489 68) (g497 69) (g497 70) = sm_pt (g489 68) (g489 69) (g489 70)) → (29 ≤ (S 1071 0) ∧ (S 1071 0) ≤ 127 ∧ 31 ≤ (S 1008 0) ∧ (S 1008 0) ≤ 90 ∧ 1 ≤ (S 1032 0) ∧ (S 1032 0) ≤ 11 ∧ 0 ≤ (S 1055 0) ∧ (S 1055 0) ≤ 19 ∧ (S 1071 0) = 29 + 6 * ((S 1032 0) - 1) + 2 * (S 1055 0) ∧ 0 ≤ (S 1046 0) ∧ (S 1046 0) + 2 * (S 1032 0) ≤ 500 ∧ sm_PD (S 1046 0) (S 1032 0) (S 1071 0) (S 1008 0) ∧ 0 ≤ (S 1071 0) * ((S 1008 0) + 1) ∧ (S 1071 0) * ((S 1008 0) + 1) ≤ 11557 ∧ 0 ≤ (x448 + (2 : Int)) ∧ (x448 + (2 : Int)) < (S 1071 0) ∧ 0 ≤ (2 : Int) ∧ (2 : Int) ≤ (S 1008 0)) ∧ (∀ r508 : Int, sv_R r508 → ∀ g504 : sv_S, (sm_pt (g504 68) (g504 69) (g504 70) = sm_pt (g489 68) (g497 69) (g497 70) ∧ 635640 ≤ r508 ∧ r508 < 647340) → (635639 ≤ r508 ∧ r508 < 647800) ∧ (∀ g512 : sv_S, (sm_pt (g504 68) (g512 69) (g512 70) = sm_pt (g504 68) (g504 69) (g504 70)) → ((S 75 639) = 647340 ∧ 0 ≤ (g10 74 639) ∧ (g10 74 639) ≤ 400 ∧ (g10 74 639) < 400) ∧ (∀ r523 : Int, sv_R r523 → ∀ g519 : sv_S, (r523 = 647340 + (g10 74 639) ∧ (g519 74 639) = (g10 74 639) + 1 ∧ sm_F1 (g10 74) (g519 74) 639 ∧ sm_pt (g519 68) (g519 69) (g519 70) = sm_pt (g504 68) (g512 69) (g512 70)) → (635639 ≤ r523 ∧ r523 < 647800) ∧ (∀ g527 : sv_S, (sm_pt (g519 68) (g527 69) (g527 70) = sm_pt (g519 68) (g519 69) (g519 70)) → (29 ≤ (S 1071 0) ∧ (S 1071 0) ≤ 127 ∧ 31 ≤ (S 1008 0) ∧ (S 1008 0) ≤ 90 ∧ 1 ≤ (S 1032 0) ∧ (S 1032 0) ≤ 11 ∧ 0 ≤ (S 1055 0) ∧ (S 1055 0) ≤ 19 ∧ (S 1071 0) = 29 + 6 * ((S 1032 0) - 1) + 2 * (S 1055 0) ∧ 0 ≤ (S 1046 0) ∧ (S 1046 0) + 2 * (S 1032 0) ≤ 500 ∧ sm_PD (S 1046 0) (S 1032 0) (S 1071 0) (S 1008 0) ∧ 0 ≤ (S 1071 0) * ((S 1008 0) + 1) ∧ (S 1071 0) * ((S 1008 0) + 1) ≤ 11557 ∧ 31 ≤ (S 1007 0) ∧ (S 1007 0) ≤ 400 ∧ sm_LN (S 4) 400 (S 1007 0) ∧ (S 75 639) = 647340 ∧ sm_ST (S 71) (g519 74) (S 75) (g10 78) (g10 79) (g10 80) (S 27) (S 1100007) (S 1100023) (S 1100024) (S 1046 0) ((S 1046 0) + 2 * (S 1032 0)) (S 1127 0) ∧ 465000 ≤ (S 1127 0) ∧ (S 1127 0) + sm_hs (S 71) (S 1100007) ≤ 635000 ∧ sm_NH (S 1100007) ∧ sm_CT (S 26) (S 27) (S 28) (S 29) (S 1100007) (S 1100023) (S 1100024) (S 1100025) (S 21) (S 1046 0) (S 1032 0) (S 1008 0) (S 1055 0) ∧ (∀ k : Int, (S 1046 0) ≤ k → k < ((S 1046 0) + 2 * (S 1032 0)) → (S 1100007 k) = 1) ∧ sm_DR (S 72) (S 71) (S 1046 0) ∧ 0 ≤ (g519 74 639) ∧ (g519 74 639) ≤ 400 ∧ 0 ≤ (g10 78 639) ∧ (g10 78 639) ≤ 40 ∧ (g10 78 639) = sm_dp (S 1100024) (g10 1100031 0) ∧ -1 ≤ (g10 1100031 0) ∧ (g10 1100031 0) < (S 1046 0) ∧ (0 ≤ (g10 1100031 0) → (S 26 (g10 1100031 0)) = 27) ∧ sm_TC (g10 79) (g10 80) (S 27) (S 1100007) (S 1100023) (S 1100024) 25560 (g10 1100031 0) ∧ 0 ≤ p1 ∧ p1 + 1 < (S 1046 0) ∧ (g519 74 639) = (S 1100007 (p1 + 1)) ∧ (S 1100023 (p1 + 1)) = (g10 1100031 0)) ∧ (∀ g534 : sv_S, (sm_ST (g534 71) (g534 74) (g534 75) (g534 78) (g534 79) (g534 80) (S 27) (S 1100007) (S 1100023) (S 1100024) (S 1046 0) ((S 1046 0) + 2 * (S 1032 0)) (g534 1127 0) ∧ 465000 ≤ (g534 1127 0) ∧ (g534 1127 0) + sm_hs (g534 71) (S 1100007) ≤ 635000 ∧ (g534 75 639) = 647340 ∧ (g534 74 639) = (g519 74 639) ∧ (g534 78 639) = (g10 78 639) ∧ sm_TC (g534 79) (g534 80) (S 27) (S 1100007) (S 1100023) (S 1100024) 25560 (g10 1100031 0) ∧ (∀ k : Int, (S 71 k) = 1 → (g534 71 k) = 1) ∧ sm_DR (g534 72) (g534 71) (S 1046 0) ∧ (641 * (sm_cm (g534 71) + sm_pt (g534 68) (g534 69) (g534 70) + sm_pl (g534 81) (g534 82) (g534 83) (g534 84) (g534 85) (g534 86) + sm_ps (g534 76) (g534 77)) + sm_du (g534 72)) ≤ (641 * (sm_cm (S 71) + sm_pt (g519 68) (g527 69) (g527 70) + sm_pl (g460 81) (g460 82) (g460 83) (g460 84) (fun i' : Int => if i' = r471 then (g460 76 (639 : Int)) else (g460 85) i') (fun i' : Int => if i' = r482 then (g460 77 (639 : Int)) else (g460 86) i') + sm_ps (g460 76) (g460 77)) + sm_du (S 72))) → (sm_ST (g534 71) (g534 74) (g534 75) (g534 78) (g534 79) (g534 80) (S 27) (S 1100007) (S 1100023) (S 1100024) (S 1046 0) ((S 1046 0) + 2 * (S 1032 0)) (g534 1127 0) ∧ 465000 ≤ (g534 1127 0) ∧ (g534 1127 0) + sm_hs (g534 71) (S 1100007) ≤ 635000 ∧ (g534 75 639) = 647340 ∧ (∀ k : Int, (S 71 k) = 1 → (g534 71 k) = 1) ∧ sm_DR (g534 72) (g534 71) (S 1046 0) ∧ (641 * (sm_cm (g534 71) + sm_pt (g534 68) (g534 69) (g534 70) + sm_pl (g534 81) (g534 82) (g534 83) (g534 84) (g534 85) (g534 86) + sm_ps (g534 76) (g534 77)) + sm_du (g534 72)) ≤ (641 * (sm_cm (S 71) + sm_pt (g10 68) (g10 69) (g10 70) + sm_pl (g10 81) (g10 82) (g10 83) (g10 84) (g10 85) (g10 86) + sm_ps (g10 76) (g10 77)) + sm_du (S 72)))))))))))))))))) ∧ (((S 26 p1) = (10 : Int)) → (29 ≤ (S 1071 0) ∧ (S 1071 0) ≤ 127 ∧ 31 ≤ (S 1008 0) ∧ (S 1008 0) ≤ 90 ∧ 1 ≤ (S 1032 0) ∧ (S 1032 0) ≤ 11 ∧ 0 ≤ (S 1055 0) ∧ (S 1055 0) ≤ 19 ∧ (S 1071 0) = 29 + 6 * ((S 1032 0) - 1) + 2 * (S 1055 0) ∧ 0 ≤ (S 1046 0) ∧ (S 1046 0) + 2 * (S 1032 0) ≤ 500 ∧ sm_PD (S 1046 0) (S 1032 0) (S 1071 0) (S 1008 0) ∧ 0 ≤ (S 1071 0) * ((S 1008 0) + 1) ∧ (S 1071 0) * ((S 1008 0) + 1) ≤ 11557 ∧ 31 ≤ (S 1007 0) ∧ (S 1007 0) ≤ 400 ∧ sm_LN (S 4) 400 (S 1007 0) ∧ (S 75 639) = 647340 ∧ sm_ST (S 71) (g10 74) (S 75) (g10 78) (g10 79) (g10 80) (S 27) (S 1100007) (S 1100023) (S 1100024) (S 1046 0) ((S 1046 0) + 2 * (S 1032 0)) (S 1127 0) ∧ 465000 ≤ (S 1127 0) ∧ (S 1127 0) + sm_hs (S 71) (S 1100007) ≤ 635000 ∧ sm_NH (S 1100007) ∧ sm_CT (S 26) (S 27) (S 28) (S 29) (S 1100007) (S 1100023) (S 1100024) (S 1100025) (S 21) (S 1046 0) (S 1032 0) (S 1008 0) (S 1055 0) ∧ (∀ k : Int, (S 1046 0) ≤ k → k < ((S 1046 0) + 2 * (S 1032 0)) → (S 1100007 k) = 1) ∧ sm_DR (S 72) (S 71) (S 1046 0) ∧ 0 ≤ (g10 74 639) ∧ (g10 74 639) ≤ 400 ∧ 0 ≤ (g10 78 639) ∧ (g10 78 639) ≤ 40 ∧ (g10 78 639) = sm_dp (S 1100024) (g10 1100031 0) ∧ -1 ≤ (g10 1100031 0) ∧ (g10 1100031 0) < (S 1046 0) ∧ (0 ≤ (g10 1100031 0) → (S 26 (g10 1100031 0)) = 27) ∧ sm_TC (g10 79) (g10 80) (S 27) (S 1100007) (S 1100023) (S 1100024) 25560 (g10 1100031 0) ∧ 0 ≤ p1 ∧ p1 < (S 1046 0) ∧ (S 71 p1) = 1 ∧ (g10 74 639) = (S 1100007 p1) ∧ (g10 1100031 0) = (S 1100023 p1) ∧ 2 ≤ (S 1100007 p1) ∧ p1 + 1 < (S 1046 0) ∧ (S 1100007 (p1 + 1)) = (S 1100007 p1) + (-1) ∧ (S 1100023 (p1 + 1)) = (S 1100023 p1)) ∧ (∀ g541 : sv_S, (sm_ST (g541 71) (g541 74) (g541 75) (g541 78) (g541 79) (g541 80) (S 27) (S 1100007) (S 1100023) (S 1100024) (S 1046 0) ((S 1046 0) + 2 * (S 1032 0)) (g541 1127 0) ∧ 465000 ≤ (g541 1127 0) ∧ (g541 1127 0) + sm_hs (g541 71) (S 1100007) ≤ 635000 ∧ (g541 75 639) = 647340 ∧ (∀ k : Int, (S 71 k) = 1 → (g541 71 k) = 1) ∧ sm_DR (g541 72) (g541 71) (S 1046 0) ∧ (641 * (sm_cm (g541 71) + sm_pt (g541 68) (g541 69) (g541 70) + sm_pl (g541 81) (g541 82) (g541 83) (g541 84) (g541 85) (g541 86) + sm_ps (g541 76) (g541 77)) + sm_du (g541 72)) ≤ (641 * (sm_cm (S 71) + sm_pt (g10 68) (g10 69) (g10 70) + sm_pl (g10 81) (g10 82) (g10 83) (g10 84) (g10 85) (g10 86) + sm_ps (g10 76) (g10 77)) + sm_du (S 72))) → (sm_ST (g541 71) (g541 74) (g541 75) (g541 78) (g541 79) (g541 80) (S 27) (S 1100007) (S 1100023) (S 1100024) (S 1046 0) ((S 1046 0) + 2 * (S 1032 0)) (g541 1127 0) ∧ 465000 ≤ (g541 1127 0) ∧ (g541 1127 0) + sm_hs (g541 71) (S 1100007) ≤ 635000 ∧ (g541 75 639) = 647340 ∧ (∀ k : Int, (S 71 k) = 1 → (g541 71 k) = 1) ∧ sm_DR (g541 72) (g541 71) (S 1046 0) ∧ (641 * (sm_cm (g541 71) + sm_pt (g541 68) (g541 69) (g541 70) + sm_pl (g541 81) (g541 82) (g541 83) (g541 84) (g541 85) (g541 86) + sm_ps (g541 76) (g541 77)) + sm_du (g541 72)) ≤ (641 * (sm_cm (S 71) + sm_pt (g10 68) (g10 69) (g10 70) + sm_pl (g10 81) (g10 82) (g10 83) (g10 84) (g10 85) (g10 86) + sm_ps (g10 76) (g10 77)) + sm_du (S 72))))) ∧ (((S 26 p1) = (11 : Int)) → (29 ≤ (S 1071 0) ∧ (S 1071 0) ≤ 127 ∧ 31 ≤ (S 1008 0) ∧ (S 1008 0) ≤ 90 ∧ 1 ≤ (S 1032 0) ∧ (S 1032 0) ≤ 11 ∧ 0 ≤ (S 1055 0) ∧ (S 1055 0) ≤ 19 ∧ (S 1071 0) = 29 + 6 * ((S 1032 0) - 1) + 2 * (S 1055 0) ∧ 0 ≤ (S 1046 0) ∧ (S 1046 0) + 2 * (S 1032 0) ≤ 500 ∧ sm_PD (S 1046 0) (S 1032 0) (S 1071 0) (S 1008 0) ∧ 0 ≤ (S 1071 0) * ((S 1008 0) + 1) ∧ (S 1071 0) * ((S 1008 0) + 1) ≤ 11557 ∧ 31 ≤ (S 1007 0) ∧ (S 1007 0) ≤ 400 ∧ sm_LN (S 4) 400 (S 1007 0) ∧ (S 75 639) = 647340 ∧ sm_ST (S 71) (g10 74) (S 75) (g10 78) (g10 79) (g10 80) (S 27) (S 1100007) (S 1100023) (S 1100024) (S 1046 0) ((S 1046 0) + 2 * (S 1032 0)) (S 1127 0) ∧ 465000 ≤ (S 1127 0) ∧ (S 1127 0) + sm_hs (S 71) (S 1100007) ≤ 635000 ∧ sm_NH (S 1100007) ∧ sm_CT (S 26) (S 27) (S 28) (S 29) (S 1100007) (S 1100023) (S 1100024) (S 1100025) (S 21) (S 1046 0) (S 1032 0) (S 1008 0) (S 1055 0) ∧ (∀ k : Int, (S 1046 0) ≤ k → k < ((S 1046 0) + 2 * (S 1032 0)) → (S 1100007 k) = 1) ∧ sm_DR (S 72) (S 71) (S 1046 0) ∧ 0 ≤ (g10 74 639) ∧ (g10 74 639) ≤ 400 ∧ 0 ≤ (g10 78 639) ∧ (g10 78 639) ≤ 40 ∧ (g10 78 639) = sm_dp (S 1100024) (g10 1100031 0) ∧ -1 ≤ (g10 1100031 0) ∧ (g10 1100031 0) < (S 1046 0) ∧ (0 ≤ (g10 1100031 0) → (S 26 (g10 1100031 0)) = 27) ∧ sm_TC (g10 79) (g10 80) (S 27) (S 1100007) (S 1100023) (S 1100024) 25560 (g10 1100031 0) ∧ 0 ≤ p1 ∧ p1 < (S 1046 0) ∧ (S 71 p1) = 1 ∧ (g10 74 639) = (S 1100007 p1) ∧ (g10 1100031 0) = (S 1100023 p1) ∧ 3 ≤ (S 1100007 p1) ∧ p1 + 1 < (S 1046 0) ∧ (S 1100007 (p1 + 1)) = (S 1100007 p1) + (-2) ∧ (S 1100023 (p1 + 1)) = (S 1100023 p1)) ∧ (∀ g548 : sv_S, (sm_ST (g548 71) (g548 74) (g548 75) (g548 78) (g548 79) (g548 80) (S 27) (S 1100007) (S 1100023) (S 1100024) (S 1046 0) ((S 1046 0) + 2 * (S 1032 0)) (g548 1127 0) ∧ 465000 ≤ (g548 1127 0) ∧ (g548 1127 0) + sm_hs (g548 71) (S 1100007) ≤ 635000 ∧ (g548 75 639) = 647340 ∧ (∀ k : Int, (S 71 k) = 1 → (g548 71 k) = 1) ∧ sm_DR (g548 72) (g548 71) (S 1046 0) ∧ (641 * (sm_cm (g548 71) + sm_pt (g548 68) (g548 69) (g548 70) + sm_pl (g548 81) (g548 82) (g548 83) (g548 84) (g548 85) (g548 86) + sm_ps (g548 76) (g548 77)) + sm_du (g548 72)) ≤ (641 * (sm_cm (S 71) + sm_pt (g10 68) (g10 69) (g10 70) + sm_pl (g10 81) (g10 82) (g10 83) (g10 84) (g10 85) (g10 86) + sm_ps (g10 76) (g10 77)) + sm_du (S 72))) → (sm_ST (g548 71) (g548 74) (g548 75) (g548 78) (g548 79) (g548 80) (S 27) (S 1100007) (S 1100023) (S 1100024) (S 1046 0) ((S 1046 0) + 2 * (S 1032 0)) (g548 1127 0) ∧ 465000 ≤ (g548 1127 0) ∧ (g548 1127 0) + sm_hs (g548 71) (S 1100007) ≤ 635000 ∧ (g548 75 639) = 647340 ∧ (∀ k : Int, (S 71 k) = 1 → (g548 71 k) = 1) ∧ sm_DR (g548 72) (g548 71) (S 1046 0) ∧ (641 * (sm_cm (g548 71) + sm_pt (g548 68) (g548 69) (g548 70) + sm_pl (g548 81) (g548 82) (g548 83) (g548 84) (g548 85) (g548 86) + sm_ps (g548 76) (g548 77)) + sm_du (g548 72)) ≤ (641 * (sm_cm (S 71) + sm_pt (g10 68) (g10 69) (g10 70) + sm_pl (g10 81) (g10 82) (g10 83) (g10 84) (g10 85) (g10 86) + sm_ps (g10 76) (g10 77)) + sm_du (S 72))))) ∧ (((S 26 p1) = (12 : Int)) → (29 ≤ (S 1071 0) ∧ (S 1071 0) ≤ 127 ∧ 31 ≤ (S 1008 0) ∧ (S 1008 0) ≤ 90 ∧ 1 ≤ (S 1032 0) ∧ (S 1032 0) ≤ 11 ∧ 0 ≤ (S 1055 0) ∧ (S 1055 0) ≤ 19 ∧ (S 1071 0) = 29 + 6 * ((S 1032 0) - 1) + 2 * (S 1055 0) ∧ 0 ≤ (S 1046 0) ∧ (S 1046 0) + 2 * (S 1032 0) ≤ 500 ∧ sm_PD (S 1046 0) (S 1032 0) (S 1071 0) (S 1008 0) ∧ 0 ≤ (S 1071 0) * ((S 1008 0) + 1) ∧ (S 1071 0) * ((S 1008 0) + 1) ≤ 11557 ∧ 31 ≤ (S 1007 0) ∧ (S 1007 0) ≤ 400 ∧ sm_LN (S 4) 400 (S 1007 0) ∧ (S 75 639) = 647340 ∧ sm_ST (S 71) (g10 74) (S 75) (g10 78) (g10 79) (g10 80) (S 27) (S 1100007) (S 1100023) (S 1100024) (S 1046 0) ((S 1046 0) + 2 * (S 1032 0)) (S 1127 0) ∧ 465000 ≤ (S 1127 0) ∧ (S 1127 0) + sm_hs (S 71) (S 1100007) ≤ 635000 ∧ sm_NH (S 1100007) ∧ sm_CT (S 26) (S 27) (S 28) (S 29) (S 1100007) (S 1100023) (S 1100024) (S 1100025) (S 21) (S 1046 0) (S 1032 0) (S 1008 0) (S 1055 0) ∧ (∀ k : Int, (S 1046 0) ≤ k → k < ((S 1046 0) + 2 * (S 1032 0)) → (S 1100007 k) = 1) ∧ sm_DR (S 72) (S 71) (S 1046 0) ∧ 0 ≤ (g10 74 639) ∧ (g10 74 639) ≤ 400 ∧ 0 ≤ (g10 78 639) ∧ (g10 78 639) ≤ 40 ∧ (g10 78 639) = sm_dp (S 1100024) (g10 1100031 0) ∧ -1 ≤ (g10 1100031 0) ∧ (g10 1100031 0) < (S 1046 0) ∧ (0 ≤ (g10 1100031 0) → (S 26 (g10 1100031 0)) = 27) ∧ sm_TC (g10 79) (g10 80) (S 27) (S 1100007) (S 1100023) (S 1100024) 25560 (g10 1100031 0) ∧ 0 ≤ p1 ∧ p1 < (S 1046 0) ∧ (S 71 p1) = 1 ∧ (g10 74 639) = (S 1100007 p1) ∧ (g10 1100031 0) = (S 1100023 p1) ∧ 2 ≤ (S 1100007 p1) ∧ p1 + 1 < (S 1046 0) ∧ (S 1100007 (p1 + 1)) = (S 1100007 p1) + (-1) ∧ (S 1100023 (p1 + 1)) = (S 1100023 p1)) ∧ (∀ g555 : sv_S, (sm_ST (g555 71) (g555 74) (g555 75) (g555 78) (g555 79) (g555 80) (S 27) (S 1100007) (S 1100023) (S 1100024) (S 1046 0) ((S 1046 0) + 2 * (S 1032 0)) (g555 1127 0) ∧ 465000 ≤ (g555 1127 0) ∧ (g555 1127 0) + sm_hs (g555 71) (S 1100007) ≤ 635000 ∧ (g555 75 639) = 647340 ∧ (∀ k : Int, (S 71 k) = 1 → (g555 71 k) = 1) ∧ sm_DR (g555 72) (g555 71) (S 1046 0) ∧ (641 * (sm_cm (g555 71) + sm_pt (g555 68) (g555 69) (g555 70) + sm_pl (g555 81) (g555 82) (g555 83) (g555 84) (g555 85) (g555 86) + sm_ps (g555 76) (g555 77)) + sm_du (g555 72)) ≤ (641 * (sm_cm (S 71) + sm_pt (g10 68) (g10 69) (g10 70) + sm_pl (g10 81) (g10 82) (g10 83) (g10 84) (g10 85) (g10 86) + sm_ps (g10 76) (g10 77)) + sm_du (S 72))) → (sm_ST (g555 71) (g555 74) (g555 75) (g555 78) (g555 79) (g555 80) (S 27) (S 1100007) (S 1100023) (S 1100024) (S 1046 0) ((S 1046 0) + 2 * (S 1032 0)) (g555 1127 0) ∧ 465000 ≤ (g555 1127 0) ∧ (g555 1127 0) + sm_hs (g555 71) (S 1100007) ≤ 635000 ∧ (g555 75 639) = 647340 ∧ (∀ k : Int, (S 71 k) = 1 → (g555 71 k) = 1) ∧ sm_DR (g555 72) (g555 71) (S 1046 0) ∧ (641 * (sm_cm (g555 71) + sm_pt (g555 68) (g555 69) (g555 70) + sm_pl (g555 81) (g555 82) (g555 83) (g555 84) (g555 85) (g555 86) + sm_ps (g555 76) (g555 77)) + sm_du (g555 72)) ≤ (641 * (sm_cm (S 71) + sm_pt (g10 68) (g10 69) (g10 70) + sm_pl (g10 81) (g10 82) (g10 83) (g10 84) (g10 85) (g10 86) + sm_ps (g10 76) (g10 77)) + sm_du (S 72))))) ∧ (((S 26 p1) = (13 : Int)) → ((S 75 639) = 647340 ∧ 0 ≤ (g10 74 639) ∧ (g10 74 639) ≤ 400 ∧ -1 ≤ (0 : Int) ∧ (0 : Int) ≤ 1000) ∧ (∀ r566 : Int, sv_R r566 → (r566 = 647339 + (g10 74 639) - (0 : Int)) → (29 ≤ (S 1071 0) ∧ (S 1071 0) ≤ 127 ∧ 31 ≤ (S 1008 0) ∧ (S 1008 0) ≤ 90 ∧ 1 ≤ (S 1032 0) ∧ (S 1032 0) ≤ 11 ∧ 0 ≤ (S 1055 0) ∧ (S 1055 0) ≤ 19 ∧ (S 1071 0) = 29 + 6 * ((S 1032 0) - 1) + 2 * (S 1055 0) ∧ 0 ≤ (S 1046 0) ∧ (S 1046 0) + 2 * (S 1032 0) ≤ 500 ∧ sm_PD (S 1046 0) (S 1032 0) (S 1071 0) (S 1008 0) ∧ 0 ≤ (S 1071 0) * ((S 1008 0) + 1) ∧ (S 1071 0) * ((S 1008 0) + 1) ≤ 11557 ∧ 31 ≤ (S 1007 0) ∧ (S 1007 0) ≤ 400 ∧ sm_LN (S 4) 400 (S 1007 0) ∧ 0 ≤ r566 ∧ r566 < 647800 ∧ 635639 ≤ (647740 : Int) ∧ (647740 : Int) < 647790) ∧ (∀ g568 : sv_S, (sm_pt (g568 68) (g568 69) (g568 70) = sm_pt (g10 68) (g10 69) (g10 70)) → (29 ≤ (S 1071 0) ∧ (S 1071 0) ≤ 127 ∧ 31 ≤ (S 1008 0) ∧ (S 1008 0) ≤ 90 ∧ 1 ≤ (S 1032 0) ∧ (S 1032 0) ≤ 11 ∧ 0 ≤ (S 1055 0) ∧ (S 1055 0) ≤ 19 ∧ (S 1071 0) = 29 + 6 * ((S 1032 0) - 1) + 2 * (S 1055 0) ∧ 0 ≤ (S 1046 0) ∧ (S 1046 0) + 2 * (S 1032 0) ≤ 500 ∧ sm_PD (S 1046 0) (S 1032 0) (S 1071 0) (S 1008 0) ∧ 0 ≤ (S 1071 0) * ((S 1008 0) + 1) ∧ (S 1071 0) * ((S 1008 0) + 1) ≤ 11557 ∧ 31 ≤ (S 1007 0) ∧ (S 1007 0) ≤ 400 ∧ sm_LN (S 4) 400 (S 1007 0) ∧ (S 75 639) = 647340 ∧ sm_ST (S 71) (g10 74) (S 75) (g10 78) (g10 79) (g10 80) (S 27) (S 1100007) (S 1100023) (S 1100024) (S 1046 0) ((S 1046 0) + 2 * (S 1032 0)) (S 1127 0) ∧ 465000 ≤ (S 1127 0) ∧ (S 1127 0) + sm_hs (S 71) (S 1100007) ≤ 635000 ∧ sm_NH (S 1100007) ∧ sm_CT (S 26) (S 27) (S 28) (S 29) (S 1100007) (S 1100023) (S 1100024) (S 1100025) (S 21) (S 1046 0) (S 1032 0) (S 1008 0) (S 1055 0) ∧ (∀ k : Int, (S 1046 0) ≤ k → k < ((S 1046 0) + 2 * (S 1032 0)) → (S 1100007 k) = 1) ∧ sm_DR (S 72) (S 71) (S 1046 0) ∧ 0 ≤ (g10 74 639) ∧ (g10 74 639) ≤ 400 ∧ 0 ≤ (g10 78 639) ∧ (g10 78 639) ≤ 40 ∧ (g10 78 639) = sm_dp (S 1100024) (g10 1100031 0) ∧ -1 ≤ (g10 1100031 0) ∧ (g10 1100031 0) < (S 1046 0) ∧ (0 ≤ (g10 1100031 0) → (S 26 (g10 1100031 0)) = 27) ∧ sm_TC (g10 79) (g10 80) (S 27) (S 1100007) (S 1100023) (S 1100024) 25560 (g10 1100031 0) ∧ 0 ≤ p1 ∧ p1 + 1 < (S 1046 0) ∧ 0 ≤ (1 : Int) ∧ (1 : Int) ≤ (g10 74 639) ∧ (g10 74 639) - (1 : Int) ≤ 399 ∧ 0 ≤ (647740 : Int) ∧ (647740 : Int) < 647800 ∧ (S 1100007 (p1 + 1)) = (g10 74 639) - (1 : Int) + 1 ∧ (S 1100023 (p1 + 1)) = (g10 1100031 0)) ∧ (∀ g575 : sv_S, (sm_ST (g575 71) (g575 74) (g575 75) (g575 78) (g575 79) (g575 80) (S 27) (S 1100007) (S 1100023) (S 1100024) (S 1046 0) ((S 1046 0) + 2 * (S 1032 0)) (g575 1127 0) ∧ 465000 ≤ (g575 1127 0) ∧ (g575 1127 0) + sm_hs (g575 71) (S 1100007) ≤ 635000 ∧ (g575 75 639) = 647340 ∧ (∀ k : Int, (S 71 k) = 1 → (g575 71 k) = 1) ∧ sm_DR (g575 72) (g575 71) (S 1046 0) ∧ (641 * (sm_cm (g575 71) + sm_pt (g575 68) (g575 69) (g575 70) + sm_pl (g575 81) (g575 82) (g575 83) (g575 84) (g575 85) (g575 86) + sm_ps (g575 76) (g575 77)) + sm_du (g575 72)) ≤ (641 * (sm_cm (S 71) + sm_pt (g568 68) (g568 69) (g568 70) + sm_pl (g10 81) (g10 82) (g10 83) (g10 84) (g10 85) (g10 86) + sm_ps (g10 76) (g10 77)) + sm_du (S 72))) → (sm_ST (g575 71) (g575 74) (g575 75) (g575 78) (g575 79) (g575 80) (S 27) (S 1100007) (S 1100023) (S 1100024) (S 1046 0) ((S 1046 0) + 2 * (S 1032 0)) (g575 1127 0) ∧ 465000 ≤ (g575 1127 0) ∧ (g575 1127 0) + sm_hs (g575 71) (S 1100007) ≤ 635000 ∧ (g575 75 639) = 647340 ∧ (∀ k : Int, (S 71 k) = 1 → (g575 71 k) = 1) ∧ sm_DR (g575 72) (g575 71) (S 1046 0) ∧ (641 * (sm_cm (g575 71) + sm_pt (g575 68) (g575 69) (g575 70) + sm_pl (g575 81) (g575 82) (g575 83) (g575 84) (g575 85) (g575 86) + sm_ps (g575 76) (g575 77)) + sm_du (g575 72)) ≤ (641 * (sm_cm (S 71) + sm_pt (g10 68) (g10 69) (g10 70) + sm_pl (g10 81) (g10 82) (g10 83) (g10 84) (g10 85) (g10 86) + sm_ps (g10 76) (g10 77)) + sm_du (S 72))))))) ∧ (((S 26 p1) = (14 : Int)) → (29 ≤ (S 1071 0) ∧ (S 1071 0) ≤ 127 ∧ 31 ≤ (S 1008 0) ∧ (S 1008 0) ≤ 90 ∧ 1 ≤ (S 1032 0) ∧ (S 1032 0) ≤ 11 ∧ 0 ≤ (S 1055 0) ∧ (S 1055 0) ≤ 19 ∧ (S 1071 0) = 29 + 6 * ((S 1032 0) - 1) + 2 * (S 1055 0) ∧ 0 ≤ (S 1046 0) ∧ (S 1046 0) + 2 * (S 1032 0) ≤ 500 ∧ sm_PD (S 1046 0) (S 1032 0) (S 1071 0) (S 1008 0) ∧ 0 ≤ (S 1071 0) * ((S 1008 0) + 1) ∧ (S 1071 0) * ((S 1008 0) + 1) ≤ 11557 ∧ 31 ≤ (S 1007 0) ∧ (S 1007 0) ≤ 400 ∧ sm_LN (S 4) 400 (S 1007 0) ∧ (S 75 639) = 647340 ∧ sm_ST (S 71) (g10 74) (S 75) (g10 78) (g10 79) (g10 80) (S 27) (S 1100007) (S 1100023) (S 1100024) (S 1046 0) ((S 1046 0) + 2 * (S 1032 0)) (S 1127 0) ∧ 465000 ≤ (S 1127 0) ∧ (S 1127 0) + sm_hs (S 71) (S 1100007) ≤ 635000 ∧ sm_NH (S 1100007) ∧ sm_CT (S 26) (S 27) (S 28) (S 29) (S 1100007) (S 1100023) (S 1100024) (S 1100025) (S 21) (S 1046 0) (S 1032 0) (S 1008 0) (S 1055 0) ∧ (∀ k : Int, (S 1046 0) ≤ k → k < ((S 1046 0) + 2 * (S 1032 0)) → (S 1100007 k) = 1) ∧ sm_DR (S 72) (S 71) (S 1046 0) ∧ 0 ≤ (g10 74 639) ∧ (g10 74 639) ≤ 400 ∧ 0 ≤ (g10 78 639) ∧ (g10 78 639) ≤ 40 ∧ (g10 78 639) = sm_dp (S 1100024) (g10 1100031 0) ∧ -1 ≤ (g10 1100031 0) ∧ (g10 1100031 0) < (S 1046 0) ∧ (0 ≤ (g10 1100031 0) → (S 26 (g10 1100031 0)) = 27) ∧ sm_TC (g10 79) (g10 80) (S 27) (S 1100007) (S 1100023) (S 1100024) 25560 (g10 1100031 0) ∧ 0 ≤ p1 ∧ p1 < (S 1046 0) ∧ (S 71 p1) = 1 ∧ (g10 74 639) = (S 1100007 p1) ∧ (g10 1100031 0) = (S 1100023 p1) ∧ 2 ≤ (S 1100007 p1) ∧ 0 ≤ (S 27 p1) ∧ (S 27 p1) ≤ 20 ∧ p1 + 1 < (S 1046 0) ∧ (S 1100007 (p1 + 1)) = (S 1100007 p1) + (-1) ∧ (S 1100023 (p1 + 1)) = (S 1100023 p1)) ∧ (∀ g582 : sv_S, (sm_ST (g582 71) (g582 74) (g582 75) (g582 78) (g582 79) (g582 80) (S 27) (S 1100007) (S 1100023) (S 1100024) (S 1046 0) ((S 1046 0) + 2 * (S 1032 0)) (g582 1127 0) ∧ 465000 ≤ (g582 1127 0) ∧ (g582 1127 0) + sm_hs (g582 71) (S 1100007) ≤ 635000 ∧ (g582 75 639) = 647340 ∧ (∀ k : Int, (S 71 k) = 1 → (g582 71 k) = 1) ∧ sm_DR (g582 72) (g582 71) (S 1046 0) ∧ (641 * (sm_cm (g582 71) + sm_pt (g582 68) (g582 69) (g582 70) + sm_pl (g582 81) (g582 82) (g582 83) (g582 84) (g582 85) (g582 86) + sm_ps (g582 76) (g582 77)) + sm_du (g582 72)) ≤ (641 * (sm_cm (S 71) + sm_pt (g10 68) (g10 69) (g10 70) + sm_pl (g10 81) (g10 82) (g10 83) (g10 84) (g10 85) (g10 86) + sm_ps (g10 76) (g10 77)) + sm_du (S 72))) → (sm_ST (g582 71) (g582 74) (g582 75) (g582 78) (g582 79) (g582 80) (S 27) (S 1100007) (S 1100023) (S 1100024) (S 1046 0) ((S 1046 0) + 2 * (S 1032 0)) (g582 1127 0) ∧ 465000 ≤ (g582 1127 0) ∧ (g582 1127 0) + sm_hs (g582 71) (S 1100007) ≤ 635000 ∧ (g582 75 639) = 647340 ∧ (∀ k : Int, (S 71 k) = 1 → (g582 71 k) = 1) ∧ sm_DR (g582 72) (g582 71) (S 1046 0) ∧ (641 * (sm_cm (g582 71) + sm_pt (g582 68) (g582 69) (g582 70) + sm_pl (g582 81) (g582 82) (g582 83) (g582 84) (g582 85) (g582 86) + sm_ps (g582 76) (g582 77)) + sm_du (g582 72)) ≤ (641 * (sm_cm (S 71) + sm_pt (g10 68) (g10 69) (g10 70) + sm_pl (g10 81) (g10 82) (g10 83) (g10 84) (g10 85) (g10 86) + sm_ps (g10 76) (g10 77)) + sm_du (S 72))))) ∧ (((S 26 p1) = (15 : Int)) → (29 ≤ (S 1071 0) ∧ (S 1071 0) ≤ 127 ∧ 31 ≤ (S 1008 0) ∧ (S 1008 0) ≤ 90 ∧ 1 ≤ (S 1032 0) ∧ (S 1032 0) ≤ 11 ∧ 0 ≤ (S 1055 0) ∧ (S 1055 0) ≤ 19 ∧ (S 1071 0) = 29 + 6 * ((S 1032 0) - 1) + 2 * (S 1055 0) ∧ 0 ≤ (S 1046 0) ∧ (S 1046 0) + 2 * (S 1032 0) ≤ 500 ∧ sm_PD (S 1046 0) (S 1032 0) (S 1071 0) (S 1008 0) ∧ 0 ≤ (S 1071 0) * ((S 1008 0) + 1) ∧ (S 1071 0) * ((S 1008 0) + 1) ≤ 11557 ∧ 31 ≤ (S 1007 0) ∧ (S 1007 0) ≤ 400 ∧ sm_LN (S 4) 400 (S 1007 0) ∧ (S 75 639) = 647340 ∧ sm_ST (S 71) (g10 74) (S 75) (g10 78) (g10 79) (g10 80) (S 27) (S 1100007) (S 1100023) (S 1100024) (S 1046 0) ((S 1046 0) + 2 * (S 1032 0)) (S 1127 0) ∧ 465000 ≤ (S 1127 0) ∧ (S 1127 0) + sm_hs (S 71) (S 1100007) ≤ 635000 ∧ sm_NH (S 1100007) ∧ sm_CT (S 26) (S 27) (S 28) (S 29) (S 1100007) (S 1100023) (S 1100024) (S 1100025) (S 21) (S 1046 0) (S 1032 0) (S 1008 0) (S 1055 0) ∧ (∀ k : Int, (S 1046 0) ≤ k → k < ((S 1046 0) + 2 * (S 1032 0)) → (S 1100007 k) = 1) ∧ sm_DR (S 72) (S 71) (S 1046 0) ∧ 0 ≤ (g10 74 639) ∧ (g10 74 639) ≤ 400 ∧ 0 ≤ (g10 78 639) ∧ (g10 78 639) ≤ 40 ∧ (g10 78 639) = sm_dp (S 1100024) (g10 1100031 0) ∧ -1 ≤ (g10 1100031 0) ∧ (g10 1100031 0) < (S 1046 0) ∧ (0 ≤ (g10 1100031 0) → (S 26 (g10 1100031 0)) = 27) ∧ sm_TC (g10 79) (g10 80) (S 27) (S 1100007) (S 1100023) (S 1100024) 25560 (g10 1100031 0) ∧ 0 ≤ p1 ∧ p1 < (S 1046 0) ∧ (S 71 p1) = 1 ∧ (g10 74 639) = (S 1100007 p1) ∧ (g10 1100031 0) = (S 1100023 p1) ∧ (∀ g : Int, 0 ≤ g → g < (S 1032 0) → 0 ≤ (S 30 g) ∧ (S 30 g) < (S 1046 0) ∧ (S 1100007 (S 30 g)) = 0 ∧ (S 1100023 (S 30 g)) = -1 ∧ 0 ≤ (S 33 g) ∧ (S 33 g) ≤ 100 ∧ 0 ≤ (S 20 g) ∧ (S 20 g) ≤ 8) ∧ sm_VN (S 32) (S 33) (S 1032 0) (S 1008 0) ∧ 0 ≤ (0 : Int) ∧ (0 : Int) ≤ 12 ∧ (∀ k : Int, 0 ≤ k → k < (0 : Int) → 635639 ≤ (S 91 k) ∧ (S 91 k) < 647800) ∧ 0 ≤ (S 27 p1) ∧ (S 27 p1) ≤ 8 ∧ (S 27 p1) + 2 ≤ (S 1100007 p1) ∧ (S 1100007 (p1 + 1)) = (S 1100007 p1) - (S 27 p1) - 1 ∧ p1 + 1 < (S 1046 0) ∧ (S 1100023 (p1 + 1)) = (S 1100023 p1)) ∧ (∀ g589 : sv_S, (sm_ST (g589 71) (g589 74) (g589 75) (g589 78) (g589 79) (g589 80) (S 27) (S 1100007) (S 1100023) (S 1100024) (S 1046 0) ((S 1046 0) + 2 * (S 1032 0)) (g589 1127 0) ∧ 465000 ≤ (g589 1127 0) ∧ (g589 1127 0) + sm_hs (g589 71) (S 1100007) ≤ 635000 ∧ (g589 75 639) = 647340 ∧ (∀ k : Int, (S 71 k) = 1 → (g589 71 k) = 1) ∧ sm_DR (g589 72) (g589 71) (S 1046 0) ∧ (641 * (sm_cm (g589 71) + sm_pt (g589 68) (g589 69) (g589 70) + sm_pl (g589 81) (g589 82) (g589 83) (g589 84) (g589 85) (g589 86) + sm_ps (g589 76) (g589 77)) + sm_du (g589 72)) ≤ (641 * (sm_cm (S 71) + sm_pt (g10 68) (g10 69) (g10 70) + sm_pl (g10 81) (g10 82) (g10 83) (g10 84) (g10 85) (g10 86) + sm_ps (g10 76) (g10 77)) + sm_du (S 72)) ∧ 0 ≤ (g589 1147 0) ∧ (g589 1147 0) ≤ 12 ∧ (∀ k : Int, 0 ≤ k → k < (g589 1147 0) → 635639 ≤ (g589 91 k) ∧ (g589 91 k) < 647800)) → (sm_ST (g589 71) (g589 74) (g589 75) (g589 78) (g589 79) (g589 80) (S 27) (S 1100007) (S 1100023) (S 1100024) (S 1046 0) ((S 1046 0) + 2 * (S 1032 0)) (g589 1127 0) ∧ 465000 ≤ (g589 1127 0) ∧ (g589 1127 0) + sm_hs (g589 71) (S 1100007) ≤ 635000 ∧ (g589 75 639) = 647340 ∧ (∀ k : Int, (S 71 k) = 1 → (g589 71 k) = 1) ∧ sm_DR (g589 72) (g589 71) (S 1046 0) ∧ (641 * (sm_cm (g589 71) + sm_pt (g589 68) (g589 69) (g589 70) + sm_pl (g589 81) (g589 82) (g589 83) (g589 84) (g589 85) (g589 86) + sm_ps (g589 76) (g589 77)) + sm_du (g589 72)) ≤ (641 * (sm_cm (S 71) + sm_pt (g10 68) (g10 69) (g10 70) + sm_pl (g10 81) (g10 82) (g10 83) (g10 84) (g10 85) (g10 86) + sm_ps (g10 76) (g10 77)) + sm_du (S 72))))) ∧ (((S 26 p1) = (16 : Int)) → (29 ≤ (S 1071 0) ∧ (S 1071 0) ≤ 127 ∧ 31 ≤ (S 1008 0) ∧ (S 1008 0) ≤ 90 ∧ 1 ≤ (S 1032 0) ∧ (S 1032 0) ≤ 11 ∧ 0 ≤ (S 1055 0) ∧ (S 1055 0) ≤ 19 ∧ (S 1071 0) = 29 + 6 * ((S 1032 0) - 1) + 2 * (S 1055 0) ∧ 0 ≤ (S 1046 0) ∧ (S 1046 0) + 2 * (S 1032 0) ≤ 500 ∧ sm_PD (S 1046 0) (S 1032 0) (S 1071 0) (S 1008 0) ∧ 0 ≤ (S 1071 0) * ((S 1008 0) + 1) ∧ (S 1071 0) * ((S 1008 0) + 1) ≤ 11557 ∧ 31 ≤ (S 1007 0) ∧ (S 1007 0) ≤ 400 ∧ sm_LN (S 4) 400 (S 1007 0) ∧ (S 75 639) = 647340 ∧ sm_ST (S 71) (g10 74) (S 75) (g10 78) (g10 79) (g10 80) (S 27) (S 1100007) (S 1100023) (S 1100024) (S 1046 0) ((S 1046 0) + 2 * (S 1032 0)) (S 1127 0) ∧ 465000 ≤ (S 1127 0) ∧ (S 1127 0) + sm_hs (S 71) (S 1100007) ≤ 635000 ∧ sm_NH (S 1100007) ∧ sm_CT (S 26) (S 27) (S 28) (S 29) (S 1100007) (S 1100023) (S 1100024) (S 1100025) (S 21) (S 1046 0) (S 1032 0) (S 1008 0) (S 1055 0) ∧ (∀ k : Int, (S 1046 0) ≤ k → k < ((S 1046 0) + 2 * (S 1032 0)) → (S 1100007 k) = 1) ∧ sm_DR (S 72) (S 71) (S 1046 0) ∧ 0 ≤ (g10 74 639) ∧ (g10 74 639) ≤ 400 ∧ 0 ≤ (g10 78 639) ∧ (g10 78 639) ≤ 40 ∧ (g10 78 639) = sm_dp (S 1100024) (g10 1100031 0) ∧ -1 ≤ (g10 1100031 0) ∧ (g10 1100031 0) < (S 1046 0) ∧ (0 ≤ (g10 1100031 0) → (S 26 (g10 1100031 0)) = 27) ∧ sm_TC (g10 79) (g10 80) (S 27) (S 1100007) (S 1100023) (S 1100024) 25560 (g10 1100031 0) ∧ 0 ≤ p1 ∧ p1 < (S 1046 0) ∧ (S 71 p1) = 1 ∧ (g10 74 639) = (S 1100007 p1) ∧ (g10 1100031 0) = (S 1100023 p1) ∧ (∀ g : Int, 0 ≤ g → g < (S 1032 0) → 0 ≤ (S 30 g) ∧ (S 30 g) < (S 1046 0) ∧ (S 1100007 (S 30 g)) = 0 ∧ (S 1100023 (S 30 g)) = -1 ∧ 0 ≤ (S 33 g) ∧ (S 33 g) ≤ 100 ∧ 0 ≤ (S 20 g) ∧ (S 20 g) ≤ 8) ∧ sm_VN (S 32) (S 33) (S 1032 0) (S 1008 0) ∧ 0 ≤ (0 : Int) ∧ (0 : Int) ≤ 12 ∧ (∀ k : Int, 0 ≤ k → k < (0 : Int) → 635639 ≤ (S 91 k) ∧ (S 91 k) < 647800) ∧ 0 ≤ (S 27 p1) ∧ (S 27 p1) ≤ 8 ∧ (S 27 p1) + 1 ≤ (S 1100007 p1) ∧ (S 1100007 (p1 + 1)) = (S 1100007 p1) - (S 27 p1) ∧ p1 + 1 < (S 1046 0) ∧ (S 1100023 (p1 + 1)) = (S 1100023 p1) ∧ 0 ≤ (S 28 p1) ∧ (S 28 p1) < (S 1055 0)) ∧ (∀ g596 : sv_S, (sm_ST (g596 71) (g596 74) (g596 75) (g596 78) (g596 79) (g596 80) (S 27) (S 1100007) (S 1100023) (S 1100024) (S 1046 0) ((S 1046 0) + 2 * (S 1032 0)) (g596 1127 0) ∧ 465000 ≤ (g596 1127 0) ∧ (g596 1127 0) + sm_hs (g596 71) (S 1100007) ≤ 635000 ∧ (g596 75 639) = 647340 ∧ (∀ k : Int, (S 71 k) = 1 → (g596 71 k) = 1) ∧ sm_DR (g596 72) (g596 71) (S 1046 0) ∧ (641 * (sm_cm (g596 71) + sm_pt (g596 68) (g596 69) (g596 70) + sm_pl (g596 81) (g596 82) (g596 83) (g596 84) (g596 85) (g596 86) + sm_ps (g596 76) (g596 77)) + sm_du (g596 72)) ≤ (641 * (sm_cm (S 71) + sm_pt (g10 68) (g10 69) (g10 70) + sm_pl (g10 81) (g10 82) (g10 83) (g10 84) (g10 85) (g10 86) + sm_ps (g10 76) (g10 77)) + sm_du (S 72)) ∧ 0 ≤ (g596 1147 0) ∧ (g596 1147 0) ≤ 12 ∧ (∀ k : Int, 0 ≤ k → k < (g596 1147 0) → 635639 ≤ (g596 91 k) ∧ (g596 91 k) < 647800)) → (sm_ST (g596 71) (g596 74) (g596 75) (g596 78) (g596 79) (g596 80) (S 27) (S 1100007) (S 1100023) (S 1100024) (S 1046 0) ((S 1046 0) + 2 * (S 1032 0)) (g596 1127 0) ∧ 465000 ≤ (g596 1127 0) ∧ (g596 1127 0) + sm_hs (g596 71) (S 1100007) ≤ 635000 ∧ (g596 75 639) = 647340 ∧ (∀ k : Int, (S 71 k) = 1 → (g596 71 k) = 1) ∧ sm_DR (g596 72) (g596 71) (S 1046 0) ∧ (641 * (sm_cm (g596 71) + sm_pt (g596 68) (g596 69) (g596 70) + sm_pl (g596 81) (g596 82) (g596 83) (g596 84) (g596 85) (g596 86) + sm_ps (g596 76) (g596 77)) + sm_du (g596 72)) ≤ (641 * (sm_cm (S 71) + sm_pt (g10 68) (g10 69) (g10 70) + sm_pl (g10 81) (g10 82) (g10 83) (g10 84) (g10 85) (g10 86) + sm_ps (g10 76) (g10 77)) + sm_du (S 72)))))))))))))))))))))))))))))))))))) := by
  intro p1
  intro S
  intro h1_
  intro h2_
  rintro ⟨h3_, ⟨h4_, ⟨h5_, ⟨h6_, ⟨h7_, ⟨h8_, ⟨h9_, ⟨h10_, ⟨h11_, ⟨h12_, ⟨h13_, ⟨h14_, ⟨h15_, ⟨h16_, ⟨h17_, ⟨h18_, ⟨h19_, ⟨h20_, ⟨h21_, ⟨h22_, ⟨h23_, ⟨h24_, ⟨h25_, ⟨h26_, ⟨h27_, ⟨h28_, ⟨h29_, ⟨h30_, ⟨h31_, h32_⟩⟩⟩⟩⟩⟩⟩⟩⟩⟩⟩⟩⟩⟩⟩⟩⟩⟩⟩⟩⟩⟩⟩⟩⟩⟩⟩⟩⟩
  refine ⟨⟨h3_, ⟨h4_, ⟨h5_, ⟨h6_, ⟨h7_, ⟨h8_, ⟨h9_, ⟨h10_, ⟨h11_, ⟨h12_, ⟨h13_, ⟨h14_, ⟨h15_, ⟨h16_, ⟨h17_, ⟨h18_, ⟨h19_, ⟨h20_, ⟨h21_, ⟨h22_, ⟨h23_, ⟨h24_, ⟨h25_, ⟨h26_, ⟨h27_, (la_ways_0 h30_ h31_ h32_)⟩⟩⟩⟩⟩⟩⟩⟩⟩⟩⟩⟩⟩⟩⟩⟩⟩⟩⟩⟩⟩⟩⟩⟩⟩, ?_⟩
  intro g10
  rintro ⟨h33_, ⟨h34_, ⟨h35_, ⟨h36_, ⟨h37_, ⟨h38_, ⟨h39_, ⟨h40_, ⟨h41_, ⟨h42_, ⟨h43_, ⟨h44_, ⟨h45_, ⟨h46_, h47_⟩⟩⟩⟩⟩⟩⟩⟩⟩⟩⟩⟩⟩⟩
  intro h48_
  have h49_ := (h48_ h25_)
  have h50_ := (h49_ h30_)
  obtain ⟨h51_, ⟨h52_, ⟨h53_, ⟨h54_, ⟨h55_, ⟨h56_, ⟨h57_, h58_⟩⟩⟩⟩⟩⟩⟩ := (h50_ h31_)
  intro h59_
  have h60_ := (h59_ h25_)
  have h61_ := (h60_ h30_)
  have h62_ := (h61_ h31_)
  intro h63_
  have h64_ := (h63_ h25_)
  have h65_ := (h64_ h30_)
  have h66_ := (h65_ h31_)
  intro h67_
  have h68_ := (h67_ h25_)
  have h69_ := (h68_ h30_)
  have h70_ := (h69_ h31_)
  intro h71_
  have h72_ := (h71_ h25_)
  have h73_ := (h72_ h30_)
  have h74_ := (h73_ h31_)
  intro h75_
  have h76_ := (h75_ h25_)
  have h77_ := (h76_ h30_)
  have h78_ := (h77_ h31_)
  intro h79_
  have h80_ := (h79_ h25_)
  have h81_ := (h80_ h30_)
  have h82_ := (h81_ h31_)
  intro h83_
  have h84_ := (h83_ h25_)
  have h85_ := (h84_ h30_)
  have h86_ := (h85_ h31_)
  intro h87_
  have h88_ := (h87_ h25_)
  have h89_ := (h88_ h30_)
  have h90_ := (h89_ h31_)
  intro h91_
  have h92_ := (h91_ h25_)
  have h93_ := (h92_ h30_)
  have h94_ := (h93_ h31_)
  intro h95_
  have h96_ := (h95_ h25_)
  have h97_ := (h96_ h30_)
  have h98_ := (h97_ h31_)
  intro h99_
  have h100_ := (h99_ h25_)
  have h101_ := (h100_ h30_)
  have h102_ := (h101_ h31_)
  intro h103_
  have h104_ := (h103_ h25_)
  have h105_ := (h104_ h30_)
  have h106_ := (h105_ h31_)
  intro h107_
  have h108_ := (h107_ h25_)
  have h109_ := (h108_ h30_)
  have h110_ := (h109_ h31_)
  intro h111_
  have h112_ := (h111_ h25_)
  have h113_ := (h112_ h30_)
  have h114_ := (h113_ h31_)
  intro h115_
  have h116_ := (h115_ h25_)
  have h117_ := (h116_ h30_)
  have h118_ := (h117_ h31_)
  intro h119_
  have h120_ := (h119_ h25_)
  have h121_ := (h120_ h30_)
  have h122_ := (h121_ h31_)
  intro h123_
  have h124_ := (h123_ h25_)
  have h125_ := (h124_ h30_)
  have h126_ := (h125_ h31_)
  intro h127_
  have h128_ := (h127_ h25_)
  have h129_ := (h128_ h30_)
  have h130_ := (h129_ h31_)
  intro h131_
  have h132_ := (h131_ h25_)
  have h133_ := (h132_ h30_)
  have h134_ := (h133_ h31_)
  intro h135_
  have h136_ := (h135_ h25_)
  have h137_ := (h136_ h30_)
  have h138_ := (h137_ h31_)
  intro h139_
  have h140_ := (h139_ h25_)
  have h141_ := (h140_ h30_)
  have h142_ := (h141_ h31_)
  intro h143_
  have h144_ := (h143_ h25_)
  have h145_ := (h144_ h30_)
  have h146_ := (h145_ h31_)
  intro h147_
  have h148_ := (h147_ h25_)
  have h149_ := (h148_ h30_)
  have h150_ := (h149_ h31_)
  intro h151_
  have h152_ := (h151_ h25_)
  have h153_ := (h152_ h30_)
  have h154_ := (h153_ h31_)
  refine ⟨(la_ways_1 h7_ h13_ h30_ h31_), ?_⟩
  intro h155_
  intro h156_
  refine ⟨?_, ?_⟩
  · skip
    intro g43
    rintro ⟨h157_, ⟨h158_, ⟨h159_, ⟨h160_, ⟨h161_, ⟨h162_, h163_⟩⟩⟩⟩⟩⟩
    intro h164_
    rintro ⟨h165_, h166_⟩
    refine ⟨?_, ?_⟩
    · skip
      intro h167_
      intro r50
      intro h168_
      refine ⟨(la_ways_3 h7_ h13_ h30_ h31_), ?_⟩
      refine ⟨h157_, ?_⟩
      refine ⟨h158_, ?_⟩
      refine ⟨h159_, ?_⟩
      refine ⟨h160_, ?_⟩
      refine ⟨h161_, ?_⟩
      refine ⟨h162_, ?_⟩
      exact (la_ways_4 h33_ h34_ h35_ h163_)
    intro h169_
    intro h170_
    refine ⟨?_, ?_⟩
    · skip
      intro h171_
      intro r55
      intro h172_
      refine ⟨(la_ways_3 h7_ h13_ h30_ h31_), ?_⟩
      refine ⟨h157_, ?_⟩
      refine ⟨h158_, ?_⟩
      refine ⟨h159_, ?_⟩
      refine ⟨h160_, ?_⟩
      refine ⟨h161_, ?_⟩
      refine ⟨h162_, ?_⟩
      exact (la_ways_4 h33_ h34_ h35_ h163_)
    intro h173_
    obtain ⟨h174_, ⟨h175_, h176_⟩⟩ := (h138_ (la_ways_24 h173_))
    intro r59
    intro h177_
    refine ⟨(la_ways_3 h7_ h13_ h30_ h31_), ?_⟩
    refine ⟨h157_, ?_⟩
    refine ⟨h158_, ?_⟩
    refine ⟨h159_, ?_⟩
    refine ⟨h160_, ?_⟩
    refine ⟨h161_, ?_⟩
    refine ⟨h162_, ?_⟩
    exact (la_ways_4 h33_ h34_ h35_ h163_)
  intro h178_
  refine ⟨?_, ?_⟩
  · skip
    intro h179_
    have h180_ := (h179_.resolve_left (la_ways_29 h57_))
    refine ⟨⟨h3_, ⟨h4_, ⟨h5_, ⟨h6_, ⟨h7_, ⟨h8_, ⟨h9_, ⟨h10_, ⟨h11_, ⟨h12_, ⟨h13_, ⟨h14_, ⟨h15_, ⟨h16_, ⟨h17_, ⟨h18_, ⟨h19_, ⟨h20_, ⟨h36_, ⟨h22_, ⟨h23_, ⟨h24_, ⟨h25_, ⟨h26_, ⟨h27_, ⟨h37_, ⟨h38_, ⟨h39_, ⟨h40_, ⟨h41_, ⟨h42_, ⟨h43_, ⟨h44_, ⟨h45_, (la_ways_43 h30_ h31_ h32_ h46_ h47_ h58_ h110_ h114_ h118_ h122_ h126_ h130_ h134_ h138_ h142_ h146_ h150_ h154_ h180_)⟩⟩⟩⟩⟩⟩⟩⟩⟩⟩⟩⟩⟩⟩⟩⟩⟩⟩⟩⟩⟩⟩⟩⟩⟩⟩⟩⟩⟩⟩⟩⟩⟩⟩, ?_⟩
    intro g66
    rintro ⟨h181_, ⟨h182_, ⟨h183_, ⟨h184_, ⟨h185_, ⟨h186_, h187_⟩⟩⟩⟩⟩⟩
    refine ⟨h181_, ?_⟩
    refine ⟨h182_, ?_⟩
    refine ⟨h183_, ?_⟩
    refine ⟨h184_, ?_⟩
    refine ⟨h185_, ?_⟩
    refine ⟨h186_, ?_⟩
    exact h187_
  refine ⟨?_, ?_⟩
  · skip
    intro h188_
    obtain ⟨⟨h189_, ⟨h190_, h191_⟩⟩, ⟨⟨h192_, ⟨h193_, h194_⟩⟩, ⟨h195_, ⟨h196_, ⟨h197_, ⟨h198_, ⟨h199_, h200_⟩⟩⟩⟩⟩⟩⟩ := (h62_ h188_)
    refine ⟨la_ways_67, ?_⟩
    intro g73
    intro h201_
    have h202_ := (h201_ la_ways_68)
    refine ⟨la_ways_69, ?_⟩
    intro g80
    intro h203_
    refine ⟨(la_ways_70 h20_ h37_ h46_ h54_), ?_⟩
    intro r91
    intro h204_
    intro g87
    rintro ⟨h205_, ⟨h206_, ⟨h207_, h208_⟩⟩⟩
    refine ⟨(la_ways_71 h37_ h38_ h205_), ?_⟩
    intro g95
    intro h209_
    refine ⟨⟨h3_, ⟨h4_, ⟨h5_, ⟨h6_, ⟨h7_, ⟨h8_, ⟨h9_, ⟨h10_, ⟨h11_, ⟨h12_, ⟨h13_, ⟨h14_, ⟨h15_, ⟨h16_, ⟨h17_, ⟨h18_, ⟨h19_, ⟨h20_, ⟨(sm_ST_F h36_ (la_ways_72 h13_) (sm_F1_le h207_ (Int.le_refl _)) sm_F1_rf sm_F1_rf sm_F1_rf sm_F1_rf), ⟨h22_, ⟨h23_, ⟨h24_, ⟨h25_, ⟨h26_, ⟨h27_, ⟨(la_ways_73 h37_ h206_), ⟨(la_ways_74 h46_ h54_ h206_), ⟨h39_, ⟨h40_, ⟨h41_, ⟨h42_, ⟨h43_, ⟨h44_, ⟨h45_, (la_ways_75 h30_ h46_ h47_ h196_ h198_ h199_ h206_)⟩⟩⟩⟩⟩⟩⟩⟩⟩⟩⟩⟩⟩⟩⟩⟩⟩⟩⟩⟩⟩⟩⟩⟩⟩⟩⟩⟩⟩⟩⟩⟩⟩⟩, ?_⟩
    intro g102
    rintro ⟨h210_, ⟨h211_, ⟨h212_, ⟨h213_, ⟨h214_, ⟨h215_, ⟨h216_, ⟨h217_, ⟨h218_, h219_⟩⟩⟩⟩⟩⟩⟩⟩⟩
    refine ⟨h210_, ?_⟩
    refine ⟨h211_, ?_⟩
    refine ⟨h212_, ?_⟩
    refine ⟨h213_, ?_⟩
    refine ⟨h217_, ?_⟩
    refine ⟨h218_, ?_⟩
    exact (la_ways_76 h202_ h203_ h208_ h209_ h219_)
  refine ⟨?_, ?_⟩
  · skip
    intro h220_
    obtain ⟨⟨h221_, ⟨h222_, h223_⟩⟩, ⟨⟨h224_, ⟨h225_, h226_⟩⟩, ⟨h227_, ⟨h228_, ⟨h229_, ⟨h230_, ⟨h231_, h232_⟩⟩⟩⟩⟩⟩⟩ := (h66_ (la_ways_78 h220_))
    refine ⟨⟨h3_, ⟨h4_, ⟨h5_, ⟨h6_, ⟨h7_, ⟨h8_, ⟨h9_, ⟨h10_, ⟨h11_, ⟨h12_, ⟨h13_, ⟨h14_, (la_ways_101 h15_ h16_ h221_)⟩⟩⟩⟩⟩⟩⟩⟩⟩⟩⟩⟩, ?_⟩
    intro g109
    intro h233_
    intro g115
    intro _
    refine ⟨(la_ways_102 h6_ h222_ h223_), ?_⟩
    intro g122
    intro _
    refine ⟨la_ways_103, ?_⟩
    refine ⟨la_ways_104, ?_⟩
    intro g130
    intro h234_
    have h235_ := (h234_ la_ways_105)
    refine ⟨(la_ways_106 h3_), ?_⟩
    intro l5_137
    intro h236_
    intro g136
    rintro ⟨h237_, ⟨h238_, h239_⟩⟩
    refine ⟨(la_ways_107 h238_), ?_⟩
    intro h240_
    refine ⟨?_, ?_⟩
    · skip
      intro h241_
      refine ⟨(la_ways_70 h20_ h37_ h46_ h54_), ?_⟩
      intro r150
      intro h242_
      intro g146
      rintro ⟨h243_, ⟨h244_, ⟨h245_, h246_⟩⟩⟩
      refine ⟨(la_ways_108 h37_ h38_ h243_), ?_⟩
      intro g154
      intro h247_
      intro r164
      intro h248_
      intro h249_
      refine ⟨?_, ?_⟩
      · skip
        intro h250_
        have h251_ := (h249_.resolve_left h250_)
        refine ⟨(sm_ST_F h36_ (la_ways_72 h13_) (sm_F1_le h245_ (Int.le_refl _)) sm_F1_rf sm_F1_rf sm_F1_rf sm_F1_rf), ?_⟩
        refine ⟨h22_, ?_⟩
        refine ⟨h23_, ?_⟩
        refine ⟨h20_, ?_⟩
        refine ⟨?_, ?_⟩
        · skip
          intro k
          intro h252_
          exact h252_
        refine ⟨h27_, ?_⟩
        exact (la_ways_110 h233_ h235_ h239_ h246_ h247_)
      intro h253_
      have h254_ := (h249_.resolve_right (la_ways_111 h253_))
      refine ⟨⟨h3_, ⟨h4_, ⟨h5_, ⟨h6_, ⟨h7_, ⟨h8_, ⟨h9_, ⟨h10_, ⟨h11_, ⟨h12_, ⟨h13_, ⟨h14_, ⟨h15_, ⟨h16_, ⟨h17_, ⟨h18_, ⟨h19_, ⟨h20_, ⟨(sm_ST_F h36_ (la_ways_72 h13_) (sm_F1_le h245_ (Int.le_refl _)) sm_F1_rf sm_F1_rf sm_F1_rf sm_F1_rf), ⟨h22_, ⟨h23_, ⟨h24_, ⟨h25_, ⟨h26_, ⟨h27_, ⟨(la_ways_73 h37_ h244_), ⟨(la_ways_74 h46_ h54_ h244_), ⟨h39_, ⟨h40_, ⟨h41_, ⟨h42_, ⟨h43_, ⟨h44_, ⟨h45_, (la_ways_75 h30_ h46_ h47_ h228_ h230_ h231_ h244_)⟩⟩⟩⟩⟩⟩⟩⟩⟩⟩⟩⟩⟩⟩⟩⟩⟩⟩⟩⟩⟩⟩⟩⟩⟩⟩⟩⟩⟩⟩⟩⟩⟩⟩, ?_⟩
      intro g166
      rintro ⟨h255_, ⟨h256_, ⟨h257_, ⟨h258_, ⟨h259_, ⟨h260_, ⟨h261_, ⟨h262_, ⟨h263_, h264_⟩⟩⟩⟩⟩⟩⟩⟩⟩
      refine ⟨h255_, ?_⟩
      refine ⟨h256_, ?_⟩
      refine ⟨h257_, ?_⟩
      refine ⟨h258_, ?_⟩
      refine ⟨h262_, ?_⟩
      refine ⟨h263_, ?_⟩
      exact (la_ways_112 h233_ h235_ h239_ h246_ h247_ h264_)
    intro h265_
    refine ⟨la_ways_67, ?_⟩
    intro h266_
    intro h267_
    refine ⟨(la_ways_113 h4_ h237_ h265_), ?_⟩
    intro r180
    intro h268_
    rintro ⟨h269_, h270_⟩
    refine ⟨(la_ways_114 h4_ h237_ h239_ h265_), ?_⟩
    intro h271_
    have h272_ := (h270_.resolve_left h271_)
    refine ⟨⟨h3_, ⟨h4_, ⟨h5_, ⟨h6_, ⟨h7_, ⟨h8_, ⟨h9_, ⟨h10_, ⟨h11_, ⟨h12_, ⟨h13_, ⟨h14_, (la_ways_115 h4_ h15_ h16_ h222_ h223_ h237_ h265_)⟩⟩⟩⟩⟩⟩⟩⟩⟩⟩⟩⟩, ?_⟩
    intro r187
    intro h273_
    rintro ⟨h274_, h275_⟩
    obtain ⟨h276_, h277_⟩ := (h274_ la_ways_116)
    refine ⟨(la_ways_118 h276_ h277_), ?_⟩
    intro g189
    intro h278_
    refine ⟨(la_ways_119 h4_ h237_ h265_), ?_⟩
    refine ⟨(la_ways_120 h237_ h239_ h265_ h278_), ?_⟩
    exact la_ways_121
  refine ⟨?_, ?_⟩
  · skip
    intro h279_
    obtain ⟨⟨h280_, ⟨h281_, h282_⟩⟩, ⟨⟨h283_, ⟨h284_, h285_⟩⟩, ⟨h286_, ⟨h287_, ⟨h288_, ⟨h289_, ⟨h290_, h291_⟩⟩⟩⟩⟩⟩⟩ := (h70_ (la_ways_124 h279_))
    refine ⟨⟨h3_, ⟨h4_, ⟨h5_, ⟨h6_, ⟨h7_, ⟨h8_, ⟨h9_, ⟨h10_, ⟨h11_, ⟨h12_, ⟨h13_, ⟨h14_, (la_ways_101 h15_ h16_ h280_)⟩⟩⟩⟩⟩⟩⟩⟩⟩⟩⟩⟩, ?_⟩
    intro g198
    intro h292_
    intro g204
    intro _
    refine ⟨(la_ways_102 h6_ h281_ h282_), ?_⟩
    intro g211
    intro _
    refine ⟨la_ways_67, ?_⟩
    intro h293_
    intro h294_
    refine ⟨(la_ways_146 h20_ h46_ h54_ h283_), ?_⟩
    intro r225
    intro h295_
    intro h296_
    refine ⟨⟨h3_, ⟨h4_, ⟨h5_, ⟨h6_, ⟨h7_, ⟨h8_, ⟨h9_, ⟨h10_, ⟨h11_, ⟨h12_, ⟨h13_, ⟨h14_, (la_ways_147 h15_ h16_ h37_ h38_ h296_)⟩⟩⟩⟩⟩⟩⟩⟩⟩⟩⟩⟩, ?_⟩
    intro g227
    intro h297_
    refine ⟨⟨h3_, ⟨h4_, ⟨h5_, ⟨h6_, ⟨h7_, ⟨h8_, ⟨h9_, ⟨h10_, ⟨h11_, ⟨h12_, ⟨h13_, ⟨h14_, ⟨h15_, ⟨h16_, ⟨h17_, ⟨h18_, ⟨h19_, ⟨h20_, ⟨h36_, ⟨h22_, ⟨h23_, ⟨h24_, ⟨h25_, ⟨h26_, ⟨h27_, ⟨h37_, ⟨h38_, ⟨h39_, ⟨h40_, ⟨h41_, ⟨h42_, ⟨h43_, ⟨h44_, ⟨h45_, (la_ways_148 h30_ h46_ h47_ h287_ h289_ h290_)⟩⟩⟩⟩⟩⟩⟩⟩⟩⟩⟩⟩⟩⟩⟩⟩⟩⟩⟩⟩⟩⟩⟩⟩⟩⟩⟩⟩⟩⟩⟩⟩⟩⟩, ?_⟩
    intro g234
    rintro ⟨h298_, ⟨h299_, ⟨h300_, ⟨h301_, ⟨h302_, ⟨h303_, ⟨h304_, ⟨h305_, ⟨h306_, h307_⟩⟩⟩⟩⟩⟩⟩⟩⟩
    refine ⟨h298_, ?_⟩
    refine ⟨h299_, ?_⟩
    refine ⟨h300_, ?_⟩
    refine ⟨h301_, ?_⟩
    refine ⟨h305_, ?_⟩
    refine ⟨h306_, ?_⟩
    exact (la_ways_149 h292_ h297_ h307_)
  refine ⟨?_, ?_⟩
  · skip
    intro h308_
    refine ⟨?_, ?_⟩
    · skip
      intro h309_
      have h310_ := (h308_.resolve_left h309_)
      obtain ⟨⟨h311_, ⟨h312_, h313_⟩⟩, ⟨⟨h314_, ⟨h315_, h316_⟩⟩, ⟨h317_, ⟨h318_, ⟨h319_, ⟨h320_, ⟨h321_, h322_⟩⟩⟩⟩⟩⟩⟩ := (h66_ (la_ways_153 h310_))
      refine ⟨⟨h3_, ⟨h4_, ⟨h5_, ⟨h6_, ⟨h7_, ⟨h8_, ⟨h9_, ⟨h10_, ⟨h11_, ⟨h12_, ⟨h13_, ⟨h14_, ⟨h15_, ⟨h16_, ⟨h17_, ⟨h18_, ⟨h19_, ⟨h20_, ⟨h36_, ⟨h22_, ⟨h23_, ⟨h24_, ⟨h25_, ⟨h26_, ⟨h27_, ⟨h37_, ⟨h38_, ⟨h39_, ⟨h40_, ⟨h41_, ⟨h42_, ⟨h43_, ⟨h44_, ⟨h45_, (la_ways_176 h30_ h32_ h46_ h47_ h312_ h313_ h318_ h320_ h321_)⟩⟩⟩⟩⟩⟩⟩⟩⟩⟩⟩⟩⟩⟩⟩⟩⟩⟩⟩⟩⟩⟩⟩⟩⟩⟩⟩⟩⟩⟩⟩⟩⟩⟩, ?_⟩
      intro g241
      rintro ⟨h323_, ⟨h324_, ⟨h325_, ⟨h326_, ⟨h327_, ⟨h328_, h329_⟩⟩⟩⟩⟩⟩
      refine ⟨h323_, ?_⟩
      refine ⟨h324_, ?_⟩
      refine ⟨h325_, ?_⟩
      refine ⟨h326_, ?_⟩
      refine ⟨h327_, ?_⟩
      refine ⟨h328_, ?_⟩
      exact h329_
    intro h330_
    obtain ⟨⟨h331_, ⟨h332_, h333_⟩⟩, ⟨⟨h334_, ⟨h335_, h336_⟩⟩, ⟨h337_, ⟨h338_, ⟨h339_, ⟨h340_, ⟨h341_, h342_⟩⟩⟩⟩⟩⟩⟩ := (h66_ (la_ways_178 h330_))
    have h343_ := (h308_.resolve_right (la_ways_201 h330_))
    refine ⟨⟨h3_, ⟨h4_, ⟨h5_, ⟨h6_, ⟨h7_, ⟨h8_, ⟨h9_, ⟨h10_, ⟨h11_, ⟨h12_, ⟨h13_, ⟨h14_, ⟨h15_, ⟨h16_, ⟨h17_, ⟨h18_, ⟨h19_, ⟨h20_, ⟨h36_, ⟨h22_, ⟨h23_, ⟨h24_, ⟨h25_, ⟨h26_, ⟨h27_, ⟨h37_, ⟨h38_, ⟨h39_, ⟨h40_, ⟨h41_, ⟨h42_, ⟨h43_, ⟨h44_, ⟨h45_, (la_ways_176 h30_ h32_ h46_ h47_ h332_ h333_ h338_ h340_ h341_)⟩⟩⟩⟩⟩⟩⟩⟩⟩⟩⟩⟩⟩⟩⟩⟩⟩⟩⟩⟩⟩⟩⟩⟩⟩⟩⟩⟩⟩⟩⟩⟩⟩⟩, ?_⟩
    intro g248
    rintro ⟨h344_, ⟨h345_, ⟨h346_, ⟨h347_, ⟨h348_, ⟨h349_, h350_⟩⟩⟩⟩⟩⟩
    refine ⟨h344_, ?_⟩
    refine ⟨h345_, ?_⟩
    refine ⟨h346_, ?_⟩
    refine ⟨h347_, ?_⟩
    refine ⟨h348_, ?_⟩
    refine ⟨h349_, ?_⟩
    exact h350_
  refine ⟨?_, ?_⟩
  · skip
    intro h351_
    obtain ⟨⟨h352_, ⟨h353_, h354_⟩⟩, ⟨⟨h355_, ⟨h356_, h357_⟩⟩, ⟨h358_, ⟨h359_, ⟨h360_, ⟨h361_, ⟨h362_, h363_⟩⟩⟩⟩⟩⟩⟩ := (h70_ (la_ways_204 h351_))
    intro g254
    intro _
    refine ⟨(la_ways_102 h6_ h353_ h354_), ?_⟩
    intro g261
    intro _
    refine ⟨(la_ways_146 h20_ h46_ h54_ h355_), ?_⟩
    intro r272
    intro h364_
    intro h365_
    refine ⟨⟨h3_, ⟨h4_, ⟨h5_, ⟨h6_, ⟨h7_, ⟨h8_, ⟨h9_, ⟨h10_, ⟨h11_, ⟨h12_, ⟨h13_, ⟨h14_, (la_ways_147 h15_ h16_ h37_ h38_ h365_)⟩⟩⟩⟩⟩⟩⟩⟩⟩⟩⟩⟩, ?_⟩
    intro g274
    intro h366_
    refine ⟨⟨h3_, ⟨h4_, ⟨h5_, ⟨h6_, ⟨h7_, ⟨h8_, ⟨h9_, ⟨h10_, ⟨h11_, ⟨h12_, ⟨h13_, ⟨h14_, ⟨h15_, ⟨h16_, ⟨h17_, ⟨h18_, ⟨h19_, ⟨h20_, ⟨h36_, ⟨h22_, ⟨h23_, ⟨h24_, ⟨h25_, ⟨h26_, ⟨h27_, ⟨h37_, ⟨h38_, ⟨h39_, ⟨h40_, ⟨h41_, ⟨h42_, ⟨h43_, ⟨h44_, ⟨h45_, (la_ways_148 h30_ h46_ h47_ h359_ h361_ h362_)⟩⟩⟩⟩⟩⟩⟩⟩⟩⟩⟩⟩⟩⟩⟩⟩⟩⟩⟩⟩⟩⟩⟩⟩⟩⟩⟩⟩⟩⟩⟩⟩⟩⟩, ?_⟩
    intro g281
    rintro ⟨h367_, ⟨h368_, ⟨h369_, ⟨h370_, ⟨h371_, ⟨h372_, ⟨h373_, ⟨h374_, ⟨h375_, h376_⟩⟩⟩⟩⟩⟩⟩⟩⟩
    refine ⟨h367_, ?_⟩
    refine ⟨h368_, ?_⟩
    refine ⟨h369_, ?_⟩
    refine ⟨h370_, ?_⟩
    refine ⟨h374_, ?_⟩
    refine ⟨h375_, ?_⟩
    exact (la_ways_226 h366_ h376_)
  refine ⟨?_, ?_⟩
  · skip
    intro h377_
    obtain ⟨⟨h378_, ⟨h379_, h380_⟩⟩, ⟨h381_, ⟨h382_, ⟨h383_, ⟨h384_, ⟨h385_, h386_⟩⟩⟩⟩⟩⟩ := (h74_ h377_)
    refine ⟨(la_ways_70 h20_ h37_ h46_ h54_), ?_⟩
    intro r292
    intro h387_
    intro g288
    rintro ⟨h388_, ⟨h389_, ⟨h390_, h391_⟩⟩⟩
    refine ⟨la_ways_250, ?_⟩
    refine ⟨(la_ways_251 h37_ h38_ h388_), ?_⟩
    intro g297
    intro h392_
    refine ⟨⟨h3_, ⟨h4_, ⟨h5_, ⟨h6_, ⟨h7_, ⟨h8_, ⟨h9_, ⟨h10_, ⟨h11_, ⟨h12_, ⟨h13_, ⟨h14_, ⟨h15_, ⟨h16_, ⟨h17_, ⟨h18_, ⟨h19_, ⟨h20_, ⟨(sm_ST_F h36_ (la_ways_72 h13_) (sm_F1_le h390_ (Int.le_refl _)) sm_F1_rf sm_F1_rf sm_F1_rf sm_F1_rf), ⟨h22_, ⟨h23_, ⟨h24_, ⟨h25_, ⟨h26_, ⟨h27_, ⟨(la_ways_73 h37_ h389_), ⟨(la_ways_74 h46_ h54_ h389_), ⟨h39_, ⟨h40_, ⟨h41_, ⟨h42_, ⟨h43_, ⟨h44_, ⟨h45_, (la_ways_75 h30_ h46_ h47_ h382_ h384_ h385_ h389_)⟩⟩⟩⟩⟩⟩⟩⟩⟩⟩⟩⟩⟩⟩⟩⟩⟩⟩⟩⟩⟩⟩⟩⟩⟩⟩⟩⟩⟩⟩⟩⟩⟩⟩, ?_⟩
    intro g304
    rintro ⟨h393_, ⟨h394_, ⟨h395_, ⟨h396_, ⟨h397_, ⟨h398_, ⟨h399_, ⟨h400_, ⟨h401_, h402_⟩⟩⟩⟩⟩⟩⟩⟩⟩
    refine ⟨h393_, ?_⟩
    refine ⟨h394_, ?_⟩
    refine ⟨h395_, ?_⟩
    refine ⟨h396_, ?_⟩
    refine ⟨h400_, ?_⟩
    refine ⟨h401_, ?_⟩
    exact (la_ways_149 h391_ h392_ h402_)
  refine ⟨?_, ?_⟩
  · skip
    intro h403_
    obtain ⟨⟨h404_, h405_⟩, ⟨⟨h406_, ⟨h407_, h408_⟩⟩, ⟨h409_, ⟨h410_, ⟨h411_, ⟨h412_, ⟨h413_, h414_⟩⟩⟩⟩⟩⟩⟩ := (h78_ h403_)
    refine ⟨(la_ways_252 h7_ h8_ h10_ h404_ h405_), ?_⟩
    intro r315
    intro h415_
    intro h416_
    refine ⟨?_, ?_⟩
    · skip
      intro h417_
      have h418_ := (h403_.resolve_left h417_)
      refine ⟨?_, ?_⟩
      · skip
        refine ⟨h3_, ?_⟩
        refine ⟨h4_, ?_⟩
        refine ⟨h5_, ?_⟩
        refine ⟨h6_, ?_⟩
        refine ⟨h7_, ?_⟩
        refine ⟨h8_, ?_⟩
        refine ⟨h9_, ?_⟩
        refine ⟨h10_, ?_⟩
        refine ⟨h11_, ?_⟩
        refine ⟨h12_, ?_⟩
        refine ⟨h13_, ?_⟩
        refine ⟨h14_, ?_⟩
        refine ⟨h15_, ?_⟩
        refine ⟨h16_, ?_⟩
        refine ⟨h20_, ?_⟩
        refine ⟨h37_, ?_⟩
        refine ⟨h38_, ?_⟩
        refine ⟨(la_ways_278 h7_ h404_ h416_), ?_⟩
        refine ⟨(la_ways_279 h11_ h405_ h416_), ?_⟩
        refine ⟨la_ways_280, ?_⟩
        refine ⟨la_ways_281, ?_⟩
        refine ⟨la_ways_282, ?_⟩
        refine ⟨la_ways_283, ?_⟩
        intro kv1
        intro h419_
        intro h420_
        refine ⟨?_, ?_⟩
        · skip
          have h421_ := (h26_ p1)
          have h422_ := (h26_ (S 1100025 p1))
          have h423_ := (h26_ (p1 + 1))
          have h424_ := (h26_ (S 1100023 p1))
          exact ((la_ways_287 h419_ h420_)).elim
        have h425_ := (h26_ p1)
        have h426_ := (h26_ (S 1100025 p1))
        have h427_ := (h26_ (p1 + 1))
        have h428_ := (h26_ (S 1100023 p1))
        exact ((la_ways_287 h419_ h420_)).elim
      intro g317
      rintro ⟨h429_, ⟨h430_, h431_⟩⟩
      refine ⟨?_, ?_⟩
      · skip
        intro h432_
        refine ⟨(la_ways_70 h20_ h37_ h46_ h54_), ?_⟩
        intro r328
        intro h433_
        intro g324
        rintro ⟨h434_, ⟨h435_, ⟨h436_, h437_⟩⟩⟩
        refine ⟨(la_ways_290 h37_ h38_ h434_), ?_⟩
        intro g332
        intro h438_
        refine ⟨⟨h3_, ⟨h4_, ⟨h5_, ⟨h6_, ⟨h7_, ⟨h8_, ⟨h9_, ⟨h10_, ⟨h11_, ⟨h12_, ⟨h13_, ⟨h14_, ⟨h15_, ⟨h16_, ⟨h17_, ⟨h18_, ⟨h19_, ⟨h20_, ⟨(sm_ST_F h36_ (la_ways_72 h13_) (sm_F1_le h436_ (Int.le_refl _)) sm_F1_rf sm_F1_rf sm_F1_rf sm_F1_rf), ⟨h22_, ⟨h23_, ⟨h24_, ⟨h25_, ⟨h26_, ⟨h27_, ⟨(la_ways_73 h37_ h435_), ⟨(la_ways_74 h46_ h54_ h435_), ⟨h39_, ⟨h40_, ⟨h41_, ⟨h42_, ⟨h43_, ⟨h44_, ⟨h45_, (la_ways_75 h30_ h46_ h47_ h410_ h412_ h413_ h435_)⟩⟩⟩⟩⟩⟩⟩⟩⟩⟩⟩⟩⟩⟩⟩⟩⟩⟩⟩⟩⟩⟩⟩⟩⟩⟩⟩⟩⟩⟩⟩⟩⟩⟩, ?_⟩
        intro g339
        rintro ⟨h439_, ⟨h440_, ⟨h441_, ⟨h442_, ⟨h443_, ⟨h444_, ⟨h445_, ⟨h446_, ⟨h447_, h448_⟩⟩⟩⟩⟩⟩⟩⟩⟩
        refine ⟨h439_, ?_⟩
        refine ⟨h440_, ?_⟩
        refine ⟨h441_, ?_⟩
        refine ⟨h442_, ?_⟩
        refine ⟨h446_, ?_⟩
        refine ⟨h447_, ?_⟩
        exact (la_ways_291 h429_ h430_ h431_ h437_ h438_ h448_)
      intro h449_
      refine ⟨⟨h3_, ⟨h4_, ⟨h5_, ⟨h6_, ⟨h7_, ⟨h8_, ⟨h9_, ⟨h10_, ⟨h11_, ⟨h12_, ⟨h13_, ⟨h14_, (la_ways_292 h5_ h7_ h11_ h15_ h16_ h404_ h405_ h416_)⟩⟩⟩⟩⟩⟩⟩⟩⟩⟩⟩⟩, ?_⟩
      intro r350
      intro h450_
      intro g346
      rintro ⟨h451_, ⟨h452_, h453_⟩⟩
      refine ⟨(la_ways_293 h452_ h453_), ?_⟩
      intro g354
      intro h454_
      refine ⟨(la_ways_70 h20_ h37_ h46_ h54_), ?_⟩
      intro r365
      intro h455_
      intro g361
      rintro ⟨h456_, ⟨h457_, ⟨h458_, h459_⟩⟩⟩
      refine ⟨(la_ways_290 h37_ h38_ h456_), ?_⟩
      intro g369
      intro h460_
      refine ⟨⟨h3_, ⟨h4_, ⟨h5_, ⟨h6_, ⟨h7_, ⟨h8_, ⟨h9_, ⟨h10_, ⟨h11_, ⟨h12_, ⟨h13_, ⟨h14_, ⟨h15_, ⟨h16_, ⟨h17_, ⟨h18_, ⟨h19_, ⟨h20_, ⟨(sm_ST_F h36_ (la_ways_72 h13_) (sm_F1_le h458_ (Int.le_refl _)) sm_F1_rf sm_F1_rf sm_F1_rf sm_F1_rf), ⟨h22_, ⟨h23_, ⟨h24_, ⟨h25_, ⟨h26_, ⟨h27_, ⟨(la_ways_73 h37_ h457_), ⟨(la_ways_74 h46_ h54_ h457_), ⟨h39_, ⟨h40_, ⟨h41_, ⟨h42_, ⟨h43_, ⟨h44_, ⟨h45_, (la_ways_75 h30_ h46_ h47_ h410_ h412_ h413_ h457_)⟩⟩⟩⟩⟩⟩⟩⟩⟩⟩⟩⟩⟩⟩⟩⟩⟩⟩⟩⟩⟩⟩⟩⟩⟩⟩⟩⟩⟩⟩⟩⟩⟩⟩, ?_⟩
      intro g376
      rintro ⟨h461_, ⟨h462_, ⟨h463_, ⟨h464_, ⟨h465_, ⟨h466_, ⟨h467_, ⟨h468_, ⟨h469_, h470_⟩⟩⟩⟩⟩⟩⟩⟩⟩
      refine ⟨h461_, ?_⟩
      refine ⟨h462_, ?_⟩
      refine ⟨h463_, ?_⟩
      refine ⟨h464_, ?_⟩
      refine ⟨h468_, ?_⟩
      refine ⟨h469_, ?_⟩
      exact (la_ways_294 h429_ h430_ h431_ h451_ h454_ h459_ h460_ h470_)
    intro h471_
    have h472_ := (h403_.resolve_right (la_ways_318 h471_))
    refine ⟨?_, ?_⟩
    · skip
      refine ⟨h3_, ?_⟩
      refine ⟨h4_, ?_⟩
      refine ⟨h5_, ?_⟩
      refine ⟨h6_, ?_⟩
      refine ⟨h7_, ?_⟩
      refine ⟨h8_, ?_⟩
      refine ⟨h9_, ?_⟩
      refine ⟨h10_, ?_⟩
      refine ⟨h11_, ?_⟩
      refine ⟨h12_, ?_⟩
      refine ⟨h13_, ?_⟩
      refine ⟨h14_, ?_⟩
      refine ⟨h15_, ?_⟩
      refine ⟨h16_, ?_⟩
      refine ⟨h20_, ?_⟩
      refine ⟨h37_, ?_⟩
      refine ⟨h38_, ?_⟩
      refine ⟨(la_ways_278 h7_ h404_ h416_), ?_⟩
      refine ⟨(la_ways_279 h11_ h405_ h416_), ?_⟩
      refine ⟨la_ways_319, ?_⟩
      refine ⟨la_ways_320, ?_⟩
      refine ⟨la_ways_282, ?_⟩
      refine ⟨la_ways_283, ?_⟩
      intro kv2
      intro h473_
      intro h474_
      refine ⟨?_, ?_⟩
      · skip
        have h475_ := (h26_ p1)
        have h476_ := (h26_ (S 1100025 p1))
        have h477_ := (h26_ (p1 + 1))
        have h478_ := (h26_ (S 1100023 p1))
        exact ((la_ways_287 h473_ h474_)).elim
      have h479_ := (h26_ p1)
      have h480_ := (h26_ (S 1100025 p1))
      have h481_ := (h26_ (p1 + 1))
      have h482_ := (h26_ (S 1100023 p1))
      exact ((la_ways_287 h473_ h474_)).elim
    intro g383
    rintro ⟨h483_, ⟨h484_, h485_⟩⟩
    refine ⟨?_, ?_⟩
    · skip
      intro h486_
      refine ⟨(la_ways_70 h20_ h37_ h46_ h54_), ?_⟩
      intro r394
      intro h487_
      intro g390
      rintro ⟨h488_, ⟨h489_, ⟨h490_, h491_⟩⟩⟩
      refine ⟨(la_ways_290 h37_ h38_ h488_), ?_⟩
      intro g398
      intro h492_
      refine ⟨⟨h3_, ⟨h4_, ⟨h5_, ⟨h6_, ⟨h7_, ⟨h8_, ⟨h9_, ⟨h10_, ⟨h11_, ⟨h12_, ⟨h13_, ⟨h14_, ⟨h15_, ⟨h16_, ⟨h17_, ⟨h18_, ⟨h19_, ⟨h20_, ⟨(sm_ST_F h36_ (la_ways_72 h13_) (sm_F1_le h490_ (Int.le_refl _)) sm_F1_rf sm_F1_rf sm_F1_rf sm_F1_rf), ⟨h22_, ⟨h23_, ⟨h24_, ⟨h25_, ⟨h26_, ⟨h27_, ⟨(la_ways_73 h37_ h489_), ⟨(la_ways_74 h46_ h54_ h489_), ⟨h39_, ⟨h40_, ⟨h41_, ⟨h42_, ⟨h43_, ⟨h44_, ⟨h45_, (la_ways_75 h30_ h46_ h47_ h410_ h412_ h413_ h489_)⟩⟩⟩⟩⟩⟩⟩⟩⟩⟩⟩⟩⟩⟩⟩⟩⟩⟩⟩⟩⟩⟩⟩⟩⟩⟩⟩⟩⟩⟩⟩⟩⟩⟩, ?_⟩
      intro g405
      rintro ⟨h493_, ⟨h494_, ⟨h495_, ⟨h496_, ⟨h497_, ⟨h498_, ⟨h499_, ⟨h500_, ⟨h501_, h502_⟩⟩⟩⟩⟩⟩⟩⟩⟩
      refine ⟨h493_, ?_⟩
      refine ⟨h494_, ?_⟩
      refine ⟨h495_, ?_⟩
      refine ⟨h496_, ?_⟩
      refine ⟨h500_, ?_⟩
      refine ⟨h501_, ?_⟩
      exact (la_ways_291 h483_ h484_ h485_ h491_ h492_ h502_)
    intro h503_
    refine ⟨⟨h3_, ⟨h4_, ⟨h5_, ⟨h6_, ⟨h7_, ⟨h8_, ⟨h9_, ⟨h10_, ⟨h11_, ⟨h12_, ⟨h13_, ⟨h14_, (la_ways_292 h5_ h7_ h11_ h15_ h16_ h404_ h405_ h416_)⟩⟩⟩⟩⟩⟩⟩⟩⟩⟩⟩⟩, ?_⟩
    intro r416
    intro h504_
    intro g412
    rintro ⟨h505_, ⟨h506_, h507_⟩⟩
    refine ⟨(la_ways_293 h506_ h507_), ?_⟩
    intro g420
    intro h508_
    refine ⟨(la_ways_70 h20_ h37_ h46_ h54_), ?_⟩
    intro r431
    intro h509_
    intro g427
    rintro ⟨h510_, ⟨h511_, ⟨h512_, h513_⟩⟩⟩
    refine ⟨(la_ways_290 h37_ h38_ h510_), ?_⟩
    intro g435
    intro h514_
    refine ⟨⟨h3_, ⟨h4_, ⟨h5_, ⟨h6_, ⟨h7_, ⟨h8_, ⟨h9_, ⟨h10_, ⟨h11_, ⟨h12_, ⟨h13_, ⟨h14_, ⟨h15_, ⟨h16_, ⟨h17_, ⟨h18_, ⟨h19_, ⟨h20_, ⟨(sm_ST_F h36_ (la_ways_72 h13_) (sm_F1_le h512_ (Int.le_refl _)) sm_F1_rf sm_F1_rf sm_F1_rf sm_F1_rf), ⟨h22_, ⟨h23_, ⟨h24_, ⟨h25_, ⟨h26_, ⟨h27_, ⟨(la_ways_73 h37_ h511_), ⟨(la_ways_74 h46_ h54_ h511_), ⟨h39_, ⟨h40_, ⟨h41_, ⟨h42_, ⟨h43_, ⟨h44_, ⟨h45_, (la_ways_75 h30_ h46_ h47_ h410_ h412_ h413_ h511_)⟩⟩⟩⟩⟩⟩⟩⟩⟩⟩⟩⟩⟩⟩⟩⟩⟩⟩⟩⟩⟩⟩⟩⟩⟩⟩⟩⟩⟩⟩⟩⟩⟩⟩, ?_⟩
    intro g442
    rintro ⟨h515_, ⟨h516_, ⟨h517_, ⟨h518_, ⟨h519_, ⟨h520_, ⟨h521_, ⟨h522_, ⟨h523_, h524_⟩⟩⟩⟩⟩⟩⟩⟩⟩
    refine ⟨h515_, ?_⟩
    refine ⟨h516_, ?_⟩
    refine ⟨h517_, ?_⟩
    refine ⟨h518_, ?_⟩
    refine ⟨h522_, ?_⟩
    refine ⟨h523_, ?_⟩
    exact (la_ways_294 h483_ h484_ h485_ h505_ h508_ h513_ h514_ h524_)
  refine ⟨?_, ?_⟩
  · skip
    intro h525_
    obtain ⟨⟨h526_, ⟨h527_, h528_⟩⟩, ⟨⟨h529_, ⟨h530_, h531_⟩⟩, ⟨h532_, ⟨h533_, ⟨h534_, ⟨h535_, ⟨h536_, h537_⟩⟩⟩⟩⟩⟩⟩ := (h82_ h525_)
    intro x448
    intro h538_
    refine ⟨(la_ways_345 h8_ h526_ h527_ h538_), ?_⟩
    refine ⟨?_, ?_⟩
    · skip
      refine ⟨h3_, ?_⟩
      refine ⟨h4_, ?_⟩
      refine ⟨h5_, ?_⟩
      refine ⟨h6_, ?_⟩
      refine ⟨h7_, ?_⟩
      refine ⟨h8_, ?_⟩
      refine ⟨h9_, ?_⟩
      refine ⟨h10_, ?_⟩
      refine ⟨h11_, ?_⟩
      refine ⟨h12_, ?_⟩
      refine ⟨h13_, ?_⟩
      refine ⟨h14_, ?_⟩
      refine ⟨h15_, ?_⟩
      refine ⟨h16_, ?_⟩
      refine ⟨h20_, ?_⟩
      refine ⟨h37_, ?_⟩
      refine ⟨h38_, ?_⟩
      refine ⟨(la_ways_346 h526_ h538_), ?_⟩
      refine ⟨(la_ways_347 h9_ h11_ h527_ h538_), ?_⟩
      refine ⟨la_ways_348, ?_⟩
      refine ⟨la_ways_349, ?_⟩
      refine ⟨la_ways_282, ?_⟩
      refine ⟨la_ways_283, ?_⟩
      intro kv3
      intro h539_
      intro h540_
      refine ⟨?_, ?_⟩
      · skip
        have h541_ := (h26_ p1)
        have h542_ := (h26_ (S 1100025 p1))
        have h543_ := (h26_ (p1 + 1))
        have h544_ := (h26_ (S 1100023 p1))
        exact ((la_ways_287 h539_ h540_)).elim
      have h545_ := (h26_ p1)
      have h546_ := (h26_ (S 1100025 p1))
      have h547_ := (h26_ (p1 + 1))
      have h548_ := (h26_ (S 1100023 p1))
      exact ((la_ways_287 h539_ h540_)).elim
    intro g452
    rintro ⟨h549_, ⟨h550_, h551_⟩⟩
    refine ⟨(la_ways_350 h8_ h526_ h527_ h538_), ?_⟩
    refine ⟨?_, ?_⟩
    · skip
      refine ⟨h3_, ?_⟩
      refine ⟨h4_, ?_⟩
      refine ⟨h5_, ?_⟩
      refine ⟨h6_, ?_⟩
      refine ⟨h7_, ?_⟩
      refine ⟨h8_, ?_⟩
      refine ⟨h9_, ?_⟩
      refine ⟨h10_, ?_⟩
      refine ⟨h11_, ?_⟩
      refine ⟨h12_, ?_⟩
      refine ⟨h13_, ?_⟩
      refine ⟨h14_, ?_⟩
      refine ⟨h15_, ?_⟩
      refine ⟨h16_, ?_⟩
      refine ⟨h20_, ?_⟩
      refine ⟨h37_, ?_⟩
      refine ⟨h38_, ?_⟩
      refine ⟨(la_ways_351 h526_ h538_), ?_⟩
      refine ⟨(la_ways_352 h9_ h11_ h527_ h538_), ?_⟩
      refine ⟨la_ways_319, ?_⟩
      refine ⟨la_ways_320, ?_⟩
      refine ⟨la_ways_282, ?_⟩
      refine ⟨la_ways_283, ?_⟩
      intro kv4
      intro h552_
      intro h553_
      refine ⟨?_, ?_⟩
      · skip
        have h554_ := (h26_ p1)
        have h555_ := (h26_ (S 1100025 p1))
        have h556_ := (h26_ (p1 + 1))
        have h557_ := (h26_ (S 1100023 p1))
        exact ((la_ways_287 h552_ h553_)).elim
      have h558_ := (h26_ p1)
      have h559_ := (h26_ (S 1100025 p1))
      have h560_ := (h26_ (p1 + 1))
      have h561_ := (h26_ (S 1100023 p1))
      exact ((la_ways_287 h552_ h553_)).elim
    intro g460
    rintro ⟨h562_, ⟨h563_, h564_⟩⟩
    refine ⟨⟨h3_, ⟨h4_, ⟨h5_, ⟨h6_, ⟨h7_, ⟨h8_, ⟨h9_, ⟨h10_, ⟨h11_, ⟨h12_, ⟨h13_, ⟨h14_, (la_ways_353 h8_ h15_ h16_ h526_ h527_ h538_)⟩⟩⟩⟩⟩⟩⟩⟩⟩⟩⟩⟩, ?_⟩
    intro r471
    intro h565_
    rintro ⟨h566_, h567_⟩
    have h568_ := (h566_ la_ways_116)
    refine ⟨la_ways_354, ?_⟩
    intro h569_
    refine ⟨(la_ways_355 h8_ h526_ h527_ h538_ h568_), ?_⟩
    intro r482
    intro h570_
    rintro ⟨h571_, h572_⟩
    have h573_ := (h571_ la_ways_116)
    intro h574_
    refine ⟨(la_ways_355 h8_ h526_ h527_ h538_ h573_), ?_⟩
    refine ⟨⟨h3_, ⟨h4_, ⟨h5_, ⟨h6_, ⟨h7_, ⟨h8_, ⟨h9_, ⟨h10_, ⟨h11_, ⟨h12_, ⟨h13_, ⟨h14_, (la_ways_356 h5_ h9_ h11_ h15_ h16_ h526_ h527_ h538_)⟩⟩⟩⟩⟩⟩⟩⟩⟩⟩⟩⟩, ?_⟩
    intro r493
    intro h575_
    intro g489
    rintro ⟨h576_, ⟨h577_, h578_⟩⟩
    refine ⟨(la_ways_357 h577_ h578_), ?_⟩
    intro g497
    intro h579_
    refine ⟨⟨h3_, ⟨h4_, ⟨h5_, ⟨h6_, ⟨h7_, ⟨h8_, ⟨h9_, ⟨h10_, ⟨h11_, ⟨h12_, ⟨h13_, ⟨h14_, (la_ways_358 h5_ h9_ h11_ h15_ h16_ h526_ h527_ h538_)⟩⟩⟩⟩⟩⟩⟩⟩⟩⟩⟩⟩, ?_⟩
    intro r508
    intro h580_
    intro g504
    rintro ⟨h581_, ⟨h582_, h583_⟩⟩
    refine ⟨(la_ways_357 h582_ h583_), ?_⟩
    intro g512
    intro h584_
    refine ⟨(la_ways_70 h20_ h37_ h46_ h54_), ?_⟩
    intro r523
    intro h585_
    intro g519
    rintro ⟨h586_, ⟨h587_, ⟨h588_, h589_⟩⟩⟩
    refine ⟨(la_ways_290 h37_ h38_ h586_), ?_⟩
    intro g527
    intro h590_
    refine ⟨⟨h3_, ⟨h4_, ⟨h5_, ⟨h6_, ⟨h7_, ⟨h8_, ⟨h9_, ⟨h10_, ⟨h11_, ⟨h12_, ⟨h13_, ⟨h14_, ⟨h15_, ⟨h16_, ⟨h17_, ⟨h18_, ⟨h19_, ⟨h20_, ⟨(sm_ST_F h36_ (la_ways_72 h13_) (sm_F1_le h588_ (Int.le_refl _)) sm_F1_rf sm_F1_rf sm_F1_rf sm_F1_rf), ⟨h22_, ⟨h23_, ⟨h24_, ⟨h25_, ⟨h26_, ⟨h27_, ⟨(la_ways_73 h37_ h587_), ⟨(la_ways_74 h46_ h54_ h587_), ⟨h39_, ⟨h40_, ⟨h41_, ⟨h42_, ⟨h43_, ⟨h44_, ⟨h45_, (la_ways_75 h30_ h46_ h47_ h533_ h535_ h536_ h587_)⟩⟩⟩⟩⟩⟩⟩⟩⟩⟩⟩⟩⟩⟩⟩⟩⟩⟩⟩⟩⟩⟩⟩⟩⟩⟩⟩⟩⟩⟩⟩⟩⟩⟩, ?_⟩
    intro g534
    rintro ⟨h591_, ⟨h592_, ⟨h593_, ⟨h594_, ⟨h595_, ⟨h596_, ⟨h597_, ⟨h598_, ⟨h599_, h600_⟩⟩⟩⟩⟩⟩⟩⟩⟩
    refine ⟨h591_, ?_⟩
    refine ⟨h592_, ?_⟩
    refine ⟨h593_, ?_⟩
    refine ⟨h594_, ?_⟩
    refine ⟨h598_, ?_⟩
    refine ⟨h599_, ?_⟩
    have e601_ : sm_pl (g460 81) (g460 82) (g460 83) (g460 84) (fun i' : Int => (if i' = r471 then g460 76 639 else (g460 85) i')) (fun i' : Int => (if i' = r482 then g460 77 639 else (g460 86) i')) = sm_pl (g460 81) (g460 82) (g460 83) (g460 84) (fun i' : Int => (if i' = r471 then g460 76 639 else (g460 85) i')) (g460 86) := sm_pl_D (la_ways_359 h526_ h538_ h573_)
    have e602_ : sm_pl (g460 81) (g460 82) (g460 83) (g460 84) (fun i' : Int => (if i' = r471 then g460 76 639 else (g460 85) i')) (g460 86) = sm_pl (g460 81) (g460 82) (g460 83) (g460 84) (g460 85) (g460 86) := sm_pl_C (la_ways_359 h526_ h538_ h568_)
    have h603_ := (h26_ p1)
    have h604_ := (h26_ (S 1100025 p1))
    have h605_ := (h26_ (p1 + 1))
    have h606_ := (h26_ (S 1100023 p1))
    have h607_ := ((h598_ p1) h32_)
    exact (la_ways_360 h549_ h550_ h551_ h562_ h563_ h564_ h576_ h579_ h581_ h584_ h589_ h590_ h600_ e601_ e602_)
  refine ⟨?_, ?_⟩
  · skip
    intro h608_
    obtain ⟨⟨h609_, ⟨h610_, h611_⟩⟩, ⟨h612_, ⟨h613_, ⟨h614_, ⟨h615_, ⟨h616_, h617_⟩⟩⟩⟩⟩⟩ := (h86_ (la_ways_367 h608_))
    refine ⟨⟨h3_, ⟨h4_, ⟨h5_, ⟨h6_, ⟨h7_, ⟨h8_, ⟨h9_, ⟨h10_, ⟨h11_, ⟨h12_, ⟨h13_, ⟨h14_, ⟨h15_, ⟨h16_, ⟨h17_, ⟨h18_, ⟨h19_, ⟨h20_, ⟨h36_, ⟨h22_, ⟨h23_, ⟨h24_, ⟨h25_, ⟨h26_, ⟨h27_, ⟨h37_, ⟨h38_, ⟨h39_, ⟨h40_, ⟨h41_, ⟨h42_, ⟨h43_, ⟨h44_, ⟨h45_, (la_ways_385 h30_ h32_ h46_ h47_ h609_ h613_ h615_ h616_)⟩⟩⟩⟩⟩⟩⟩⟩⟩⟩⟩⟩⟩⟩⟩⟩⟩⟩⟩⟩⟩⟩⟩⟩⟩⟩⟩⟩⟩⟩⟩⟩⟩⟩, ?_⟩
    intro g541
    rintro ⟨h618_, ⟨h619_, ⟨h620_, ⟨h621_, ⟨h622_, ⟨h623_, h624_⟩⟩⟩⟩⟩⟩
    refine ⟨h618_, ?_⟩
    refine ⟨h619_, ?_⟩
    refine ⟨h620_, ?_⟩
    refine ⟨h621_, ?_⟩
    refine ⟨h622_, ?_⟩
    refine ⟨h623_, ?_⟩
    exact h624_
  refine ⟨?_, ?_⟩
  · skip
    intro h625_
    obtain ⟨⟨h626_, ⟨h627_, h628_⟩⟩, ⟨h629_, ⟨h630_, ⟨h631_, ⟨h632_, ⟨h633_, h634_⟩⟩⟩⟩⟩⟩ := (h90_ h625_)
    refine ⟨⟨h3_, ⟨h4_, ⟨h5_, ⟨h6_, ⟨h7_, ⟨h8_, ⟨h9_, ⟨h10_, ⟨h11_, ⟨h12_, ⟨h13_, ⟨h14_, ⟨h15_, ⟨h16_, ⟨h17_, ⟨h18_, ⟨h19_, ⟨h20_, ⟨h36_, ⟨h22_, ⟨h23_, ⟨h24_, ⟨h25_, ⟨h26_, ⟨h27_, ⟨h37_, ⟨h38_, ⟨h39_, ⟨h40_, ⟨h41_, ⟨h42_, ⟨h43_, ⟨h44_, ⟨h45_, (la_ways_409 h30_ h32_ h46_ h47_ h626_ h630_ h632_ h633_)⟩⟩⟩⟩⟩⟩⟩⟩⟩⟩⟩⟩⟩⟩⟩⟩⟩⟩⟩⟩⟩⟩⟩⟩⟩⟩⟩⟩⟩⟩⟩⟩⟩⟩, ?_⟩
    intro g548
    rintro ⟨h635_, ⟨h636_, ⟨h637_, ⟨h638_, ⟨h639_, ⟨h640_, h641_⟩⟩⟩⟩⟩⟩
    refine ⟨h635_, ?_⟩
    refine ⟨h636_, ?_⟩
    refine ⟨h637_, ?_⟩
    refine ⟨h638_, ?_⟩
    refine ⟨h639_, ?_⟩
    refine ⟨h640_, ?_⟩
    exact h641_
  refine ⟨?_, ?_⟩
  · skip
    intro h642_
    obtain ⟨⟨h643_, ⟨h644_, h645_⟩⟩, ⟨h646_, ⟨h647_, ⟨h648_, ⟨h649_, ⟨h650_, h651_⟩⟩⟩⟩⟩⟩ := (h86_ (la_ways_416 h642_))
    refine ⟨⟨h3_, ⟨h4_, ⟨h5_, ⟨h6_, ⟨h7_, ⟨h8_, ⟨h9_, ⟨h10_, ⟨h11_, ⟨h12_, ⟨h13_, ⟨h14_, ⟨h15_, ⟨h16_, ⟨h17_, ⟨h18_, ⟨h19_, ⟨h20_, ⟨h36_, ⟨h22_, ⟨h23_, ⟨h24_, ⟨h25_, ⟨h26_, ⟨h27_, ⟨h37_, ⟨h38_, ⟨h39_, ⟨h40_, ⟨h41_, ⟨h42_, ⟨h43_, ⟨h44_, ⟨h45_, (la_ways_385 h30_ h32_ h46_ h47_ h643_ h647_ h649_ h650_)⟩⟩⟩⟩⟩⟩⟩⟩⟩⟩⟩⟩⟩⟩⟩⟩⟩⟩⟩⟩⟩⟩⟩⟩⟩⟩⟩⟩⟩⟩⟩⟩⟩⟩, ?_⟩
    intro g555
    rintro ⟨h652_, ⟨h653_, ⟨h654_, ⟨h655_, ⟨h656_, ⟨h657_, h658_⟩⟩⟩⟩⟩⟩
    refine ⟨h652_, ?_⟩
    refine ⟨h653_, ?_⟩
    refine ⟨h654_, ?_⟩
    refine ⟨h655_, ?_⟩
    refine ⟨h656_, ?_⟩
    refine ⟨h657_, ?_⟩
    exact h658_
  refine ⟨?_, ?_⟩
  · skip
    intro h659_
    obtain ⟨⟨h660_, h661_⟩, ⟨⟨h662_, ⟨h663_, h664_⟩⟩, ⟨h665_, ⟨h666_, ⟨h667_, ⟨h668_, ⟨h669_, h670_⟩⟩⟩⟩⟩⟩⟩ := (h94_ h659_)
    refine ⟨(la_ways_146 h20_ h46_ h54_ h662_), ?_⟩
    intro r566
    intro h671_
    intro h672_
    refine ⟨⟨h3_, ⟨h4_, ⟨h5_, ⟨h6_, ⟨h7_, ⟨h8_, ⟨h9_, ⟨h10_, ⟨h11_, ⟨h12_, ⟨h13_, ⟨h14_, ⟨h15_, ⟨h16_, ⟨h17_, ⟨h18_, ⟨h19_, (la_ways_457 h37_ h38_ h672_)⟩⟩⟩⟩⟩⟩⟩⟩⟩⟩⟩⟩⟩⟩⟩⟩⟩, ?_⟩
    intro g568
    intro h673_
    refine ⟨⟨h3_, ⟨h4_, ⟨h5_, ⟨h6_, ⟨h7_, ⟨h8_, ⟨h9_, ⟨h10_, ⟨h11_, ⟨h12_, ⟨h13_, ⟨h14_, ⟨h15_, ⟨h16_, ⟨h17_, ⟨h18_, ⟨h19_, ⟨h20_, ⟨h36_, ⟨h22_, ⟨h23_, ⟨h24_, ⟨h25_, ⟨h26_, ⟨h27_, ⟨h37_, ⟨h38_, ⟨h39_, ⟨h40_, ⟨h41_, ⟨h42_, ⟨h43_, ⟨h44_, ⟨h45_, (la_ways_458 h30_ h46_ h47_ h54_ h662_ h666_ h668_ h669_)⟩⟩⟩⟩⟩⟩⟩⟩⟩⟩⟩⟩⟩⟩⟩⟩⟩⟩⟩⟩⟩⟩⟩⟩⟩⟩⟩⟩⟩⟩⟩⟩⟩⟩, ?_⟩
    intro g575
    rintro ⟨h674_, ⟨h675_, ⟨h676_, ⟨h677_, ⟨h678_, ⟨h679_, h680_⟩⟩⟩⟩⟩⟩
    refine ⟨h674_, ?_⟩
    refine ⟨h675_, ?_⟩
    refine ⟨h676_, ?_⟩
    refine ⟨h677_, ?_⟩
    refine ⟨h678_, ?_⟩
    refine ⟨h679_, ?_⟩
    exact (la_ways_226 h673_ h680_)
  refine ⟨?_, ?_⟩
  · skip
    intro h681_
    obtain ⟨⟨h682_, h683_⟩, ⟨⟨h684_, ⟨h685_, h686_⟩⟩, ⟨h687_, ⟨h688_, ⟨h689_, ⟨h690_, ⟨h691_, h692_⟩⟩⟩⟩⟩⟩⟩ := (h98_ h681_)
    refine ⟨⟨h3_, ⟨h4_, ⟨h5_, ⟨h6_, ⟨h7_, ⟨h8_, ⟨h9_, ⟨h10_, ⟨h11_, ⟨h12_, ⟨h13_, ⟨h14_, ⟨h15_, ⟨h16_, ⟨h17_, ⟨h18_, ⟨h19_, ⟨h20_, ⟨h36_, ⟨h22_, ⟨h23_, ⟨h24_, ⟨h25_, ⟨h26_, ⟨h27_, ⟨h37_, ⟨h38_, ⟨h39_, ⟨h40_, ⟨h41_, ⟨h42_, ⟨h43_, ⟨h44_, ⟨h45_, (la_ways_482 h30_ h32_ h46_ h47_ h682_ h683_ h684_ h688_ h690_ h691_)⟩⟩⟩⟩⟩⟩⟩⟩⟩⟩⟩⟩⟩⟩⟩⟩⟩⟩⟩⟩⟩⟩⟩⟩⟩⟩⟩⟩⟩⟩⟩⟩⟩⟩, ?_⟩
    intro g582
    rintro ⟨h693_, ⟨h694_, ⟨h695_, ⟨h696_, ⟨h697_, ⟨h698_, h699_⟩⟩⟩⟩⟩⟩
    refine ⟨h693_, ?_⟩
    refine ⟨h694_, ?_⟩
    refine ⟨h695_, ?_⟩
    refine ⟨h696_, ?_⟩
    refine ⟨h697_, ?_⟩
    refine ⟨h698_, ?_⟩
    exact h699_
  refine ⟨?_, ?_⟩
  · skip
    intro h700_
    obtain ⟨⟨h701_, h702_⟩, ⟨⟨h703_, ⟨h704_, h705_⟩⟩, ⟨h706_, ⟨h707_, ⟨h708_, ⟨h709_, ⟨h710_, h711_⟩⟩⟩⟩⟩⟩⟩ := (h102_ h700_)
    refine ⟨?_, ?_⟩
    · skip
      refine ⟨h3_, ?_⟩
      refine ⟨h4_, ?_⟩
      refine ⟨h5_, ?_⟩
      refine ⟨h6_, ?_⟩
      refine ⟨h7_, ?_⟩
      refine ⟨h8_, ?_⟩
      refine ⟨h9_, ?_⟩
      refine ⟨h10_, ?_⟩
      refine ⟨h11_, ?_⟩
      refine ⟨h12_, ?_⟩
      refine ⟨h13_, ?_⟩
      refine ⟨h14_, ?_⟩
      refine ⟨h15_, ?_⟩
      refine ⟨h16_, ?_⟩
      refine ⟨h17_, ?_⟩
      refine ⟨h18_, ?_⟩
      refine ⟨h19_, ?_⟩
      refine ⟨h20_, ?_⟩
      refine ⟨h36_, ?_⟩
      refine ⟨h22_, ?_⟩
      refine ⟨h23_, ?_⟩
      refine ⟨h24_, ?_⟩
      refine ⟨h25_, ?_⟩
      refine ⟨h26_, ?_⟩
      refine ⟨h27_, ?_⟩
      refine ⟨h37_, ?_⟩
      refine ⟨h38_, ?_⟩
      refine ⟨h39_, ?_⟩
      refine ⟨h40_, ?_⟩
      refine ⟨h41_, ?_⟩
      refine ⟨h42_, ?_⟩
      refine ⟨h43_, ?_⟩
      refine ⟨h44_, ?_⟩
      refine ⟨h45_, ?_⟩
      refine ⟨h30_, ?_⟩
      refine ⟨h31_, ?_⟩
      refine ⟨h32_, ?_⟩
      refine ⟨h46_, ?_⟩
      refine ⟨h47_, ?_⟩
      refine ⟨h28_, ?_⟩
      refine ⟨h29_, ?_⟩
      refine ⟨la_ways_282, ?_⟩
      refine ⟨la_ways_283, ?_⟩
      refine ⟨?_, ?_⟩
      · skip
        intro kv5
        intro h712_
        intro h713_
        refine ⟨?_, ?_⟩
        · skip
          have h714_ := (h26_ p1)
          have h715_ := (h26_ (S 1100025 p1))
          have h716_ := (h26_ (p1 + 1))
          have h717_ := (h26_ (S 1100023 p1))
          exact ((la_ways_287 h712_ h713_)).elim
        have h718_ := (h26_ p1)
        have h719_ := (h26_ (S 1100025 p1))
        have h720_ := (h26_ (p1 + 1))
        have h721_ := (h26_ (S 1100023 p1))
        exact ((la_ways_287 h712_ h713_)).elim
      refine ⟨h701_, ?_⟩
      refine ⟨h702_, ?_⟩
      refine ⟨(la_ways_506 h703_), ?_⟩
      refine ⟨h709_, ?_⟩
      refine ⟨h707_, ?_⟩
      exact h710_
    intro g589
    rintro ⟨h722_, ⟨h723_, ⟨h724_, ⟨h725_, ⟨h726_, ⟨h727_, ⟨h728_, ⟨h729_, ⟨h730_, h731_⟩⟩⟩⟩⟩⟩⟩⟩⟩
    refine ⟨h722_, ?_⟩
    refine ⟨h723_, ?_⟩
    refine ⟨h724_, ?_⟩
    refine ⟨h725_, ?_⟩
    refine ⟨h726_, ?_⟩
    refine ⟨h727_, ?_⟩
    exact h728_
  intro h732_
  obtain ⟨⟨h733_, ⟨h734_, ⟨h735_, h736_⟩⟩⟩, ⟨⟨h737_, ⟨h738_, h739_⟩⟩, ⟨h740_, ⟨h741_, ⟨h742_, ⟨h743_, ⟨h744_, h745_⟩⟩⟩⟩⟩⟩⟩ := (h106_ h732_)
  refine ⟨?_, ?_⟩
  · skip
    refine ⟨h3_, ?_⟩
    refine ⟨h4_, ?_⟩
    refine ⟨h5_, ?_⟩
    refine ⟨h6_, ?_⟩
    refine ⟨h7_, ?_⟩
    refine ⟨h8_, ?_⟩
    refine ⟨h9_, ?_⟩
    refine ⟨h10_, ?_⟩
    refine ⟨h11_, ?_⟩
    refine ⟨h12_, ?_⟩
    refine ⟨h13_, ?_⟩
    refine ⟨h14_, ?_⟩
    refine ⟨h15_, ?_⟩
    refine ⟨h16_, ?_⟩
    refine ⟨h17_, ?_⟩
    refine ⟨h18_, ?_⟩
    refine ⟨h19_, ?_⟩
    refine ⟨h20_, ?_⟩
    refine ⟨h36_, ?_⟩
    refine ⟨h22_, ?_⟩
    refine ⟨h23_, ?_⟩
    refine ⟨h24_, ?_⟩
    refine ⟨h25_, ?_⟩
    refine ⟨h26_, ?_⟩
    refine ⟨h27_, ?_⟩
    refine ⟨h37_, ?_⟩
    refine ⟨h38_, ?_⟩
    refine ⟨h39_, ?_⟩
    refine ⟨h40_, ?_⟩
    refine ⟨h41_, ?_⟩
    refine ⟨h42_, ?_⟩
    refine ⟨h43_, ?_⟩
    refine ⟨h44_, ?_⟩
    refine ⟨h45_, ?_⟩
    refine ⟨h30_, ?_⟩
    refine ⟨h31_, ?_⟩
    refine ⟨h32_, ?_⟩
    refine ⟨h46_, ?_⟩
    refine ⟨h47_, ?_⟩
    refine ⟨h28_, ?_⟩
    refine ⟨h29_, ?_⟩
    refine ⟨la_ways_282, ?_⟩
    refine ⟨la_ways_283, ?_⟩
    refine ⟨?_, ?_⟩
    · skip
      intro kv6
      intro h746_
      intro h747_
      refine ⟨?_, ?_⟩
      · skip
        have h748_ := (h26_ p1)
        have h749_ := (h26_ (S 1100025 p1))
        have h750_ := (h26_ (p1 + 1))
        have h751_ := (h26_ (S 1100023 p1))
        exact ((la_ways_287 h746_ h747_)).elim
      have h752_ := (h26_ p1)
      have h753_ := (h26_ (S 1100025 p1))
      have h754_ := (h26_ (p1 + 1))
      have h755_ := (h26_ (S 1100023 p1))
      exact ((la_ways_287 h746_ h747_)).elim
    refine ⟨h733_, ?_⟩
    refine ⟨h734_, ?_⟩
    refine ⟨(la_ways_530 h737_), ?_⟩
    refine ⟨h743_, ?_⟩
    refine ⟨h741_, ?_⟩
    refine ⟨h744_, ?_⟩
    refine ⟨h735_, ?_⟩
    exact h736_
  intro g596
  rintro ⟨h756_, ⟨h757_, ⟨h758_, ⟨h759_, ⟨h760_, ⟨h761_, ⟨h762_, ⟨h763_, ⟨h764_, h765_⟩⟩⟩⟩⟩⟩⟩⟩⟩
  refine ⟨h756_, ?_⟩
  refine ⟨h757_, ?_⟩
  refine ⟨h758_, ?_⟩
  refine ⟨h759_, ?_⟩
  refine ⟨h760_, ?_⟩
  refine ⟨h761_, ?_⟩
  exact h762_
set_option maxRecDepth 8000 in
set_option maxHeartbeats 2000000 in
theorem t_ways : ∀ (p1 : Int) (S : sv_S), sm_ok S → sv_R p1 → (29 ≤ (S 1071 0) ∧ (S 1071 0) ≤ 127 ∧ 31 ≤ (S 1008 0) ∧ (S 1008 0) ≤ 90 ∧ 1 ≤ (S 1032 0) ∧ (S 1032 0) ≤ 11 ∧ 0 ≤ (S 1055 0) ∧ (S 1055 0) ≤ 19 ∧ (S 1071 0) = 29 + 6 * ((S 1032 0) - 1) + 2 * (S 1055 0) ∧ 0 ≤ (S 1046 0) ∧ (S 1046 0) + 2 * (S 1032 0) ≤ 500 ∧ sm_PD (S 1046 0) (S 1032 0) (S 1071 0) (S 1008 0) ∧ 0 ≤ (S 1071 0) * ((S 1008 0) + 1) ∧ (S 1071 0) * ((S 1008 0) + 1) ≤ 11557 ∧ 31 ≤ (S 1007 0) ∧ (S 1007 0) ≤ 400 ∧ sm_LN (S 4) 400 (S 1007 0) ∧ (S 75 639) = 647340 ∧ sm_ST (S 71) (S 74) (S 75) (S 78) (S 79) (S 80) (S 27) (S 1100007) (S 1100023) (S 1100024) (S 1046 0) ((S 1046 0) + 2 * (S 1032 0)) (S 1127 0) ∧ 465000 ≤ (S 1127 0) ∧ (S 1127 0) + sm_hs (S 71) (S 1100007) ≤ 635000 ∧ sm_NH (S 1100007) ∧ sm_CT (S 26) (S 27) (S 28) (S 29) (S 1100007) (S 1100023) (S 1100024) (S 1100025) (S 21) (S 1046 0) (S 1032 0) (S 1008 0) (S 1055 0) ∧ (∀ k : Int, (S 1046 0) ≤ k → k < ((S 1046 0) + 2 * (S 1032 0)) → (S 1100007 k) = 1) ∧ sm_DR (S 72) (S 71) (S 1046 0) ∧ (∀ g : Int, 0 ≤ g → g < (S 1032 0) → 0 ≤ (S 30 g) ∧ (S 30 g) < (S 1046 0) ∧ (S 1100007 (S 30 g)) = 0 ∧ (S 1100023 (S 30 g)) = -1 ∧ 0 ≤ (S 33 g) ∧ (S 33 g) ≤ 100 ∧ 0 ≤ (S 20 g) ∧ (S 20 g) ≤ 8) ∧ sm_VN (S 32) (S 33) (S 1032 0) (S 1008 0) ∧ 0 ≤ p1 ∧ p1 < (S 1046 0) ∧ (S 71 p1) = 1) → sv_T sm_XS sm_cs sm_L sm_sh 23 (q_ways p1 S) 265 0 (lv_args 0 [.ref 0, sv_I p1]) [] S := by
  intro p1 S hok hp1 hpre
  have h := f_ways p1 S hok hp1 hpre
  have hM := sm_h265
  show sv_T sm_XS sm_cs sm_L sm_sh 23 (q_ways p1 S) 265 0 [(0, .ref 0), (1, sv_I p1)] [] S
  refine sv_aload_n hM dX12_ways_0 rfl rfl ?_
  refine sv_iload_n hM dX12_ways_1 rfl rfl ?_
  refine sv_putI sm_X hM dX12_ways_2 sm_fp_1188 (sm_a0 _) sm_q148 (Or.inl rfl) rfl rfl rfl rfl ?_
  have ok1 : sm_ok (sv_up S 1148 0 p1) := sm_upI hok sm_r1148 hp1
  have md2 : sv_mod [68, 69, 70, 81, 82, 83, 84, 85, 86, 71, 74, 75, 1127, 78, 79, 80, 72, 76, 77, 1143, 1144, 5, 1011, 1150, 1149, 1145, 1113, 1111, 1112, 91, 1147, 1100031, 1148, 73] S (sv_up S 1148 0 p1) := sv_mod.up sv_mod.rf (by decide)
  refine sv_aload_n hM dX12_ways_5 rfl rfl ?_
  refine sv_iconst (d := (0 : Int)) hM dX12_ways_6 rfl rfl ?_
  refine sv_putI sm_X hM dX12_ways_7 sm_fp_1208 (sm_a0 _) sm_q149 (Or.inl rfl) rfl rfl rfl rfl ?_
  have ok3 : sm_ok (sv_up (sv_up S 1148 0 p1) 1149 0 (0 : Int)) := sm_upI ok1 sm_r1149 (⟨by decide, by decide⟩ : sv_R (0 : Int))
  have md4 : sv_mod [68, 69, 70, 81, 82, 83, 84, 85, 86, 71, 74, 75, 1127, 78, 79, 80, 72, 76, 77, 1143, 1144, 5, 1011, 1150, 1149, 1145, 1113, 1111, 1112, 91, 1147, 1100031, 1148, 73] S (sv_up (sv_up S 1148 0 p1) 1149 0 (0 : Int)) := sv_mod.up md2 (by decide)
  refine sv_aload_n hM dX12_ways_10 rfl rfl ?_
  refine sv_iconst (d := (0 : Int)) hM dX12_ways_11 rfl rfl ?_
  refine sv_putI sm_X hM dX12_ways_12 sm_fp_1185 (sm_a0 _) sm_q150 (Or.inr rfl) rfl (sv_nz (⟨by decide, by decide⟩ : 0 ≤ (0 : Int) ∧ (0 : Int) ≤ 1)) (sv_fz (⟨by decide, by decide⟩ : 0 ≤ (0 : Int) ∧ (0 : Int) ≤ 1)) rfl ?_
  have ok5 : sm_ok (sv_up (sv_up (sv_up S 1148 0 p1) 1149 0 (0 : Int)) 1150 0 (0 : Int)) := sm_upZ ok3 sm_r1150 (⟨by decide, by decide⟩ : 0 ≤ (0 : Int) ∧ (0 : Int) ≤ 1)
  have md6 : sv_mod [68, 69, 70, 81, 82, 83, 84, 85, 86, 71, 74, 75, 1127, 78, 79, 80, 72, 76, 77, 1143, 1144, 5, 1011, 1150, 1149, 1145, 1113, 1111, 1112, 91, 1147, 1100031, 1148, 73] S (sv_up (sv_up (sv_up S 1148 0 p1) 1149 0 (0 : Int)) 1150 0 (0 : Int)) := sv_mod.up md4 (by decide)
  refine sv_aload_n hM dX12_ways_15 rfl rfl ?_
  refine sv_iconst (d := (0 : Int)) hM dX12_ways_16 rfl rfl ?_
  refine sv_putI sm_X hM dX12_ways_17 sm_fp_1178 (sm_a0 _) sm_q147 (Or.inl rfl) rfl rfl rfl rfl ?_
  have ok7 : sm_ok (sv_up (sv_up (sv_up (sv_up S 1148 0 p1) 1149 0 (0 : Int)) 1150 0 (0 : Int)) 1147 0 (0 : Int)) := sm_upI ok5 sm_r1147 (⟨by decide, by decide⟩ : sv_R (0 : Int))
  have md8 : sv_mod [68, 69, 70, 81, 82, 83, 84, 85, 86, 71, 74, 75, 1127, 78, 79, 80, 72, 76, 77, 1143, 1144, 5, 1011, 1150, 1149, 1145, 1113, 1111, 1112, 91, 1147, 1100031, 1148, 73] S (sv_up (sv_up (sv_up (sv_up S 1148 0 p1) 1149 0 (0 : Int)) 1150 0 (0 : Int)) 1147 0 (0 : Int)) := sv_mod.up md6 (by decide)
  refine sv_aload_n hM dX12_ways_20 rfl rfl ?_
  refine sv_iload_n hM dX12_ways_21 rfl rfl ?_
  obtain ⟨o9, h⟩ := h
  refine sv_callV hM dX12_ways_22 sm_iv_1211 (by decide) (sm_a0 _) rfl rfl (Nat.le_of_ble_eq_true rfl) sm_h231 (Nat.le_of_ble_eq_true rfl) (Nat.le_of_ble_eq_true rfl) (F' := 3) (Nat.le_of_ble_eq_true rfl) rfl (t_load p1 (sv_up (sv_up (sv_up (sv_up S 1148 0 p1) 1149 0 (0 : Int)) 1150 0 (0 : Int)) 1147 0 (0 : Int)) ok7 hp1 o9) (fun v S1 hq => ?_)
  obtain ⟨rfl, ok11, md12, hpo13⟩ := hq
  obtain ⟨g10, rfl⟩ : ∃ g, S1 = sv_sts (sv_up (sv_up (sv_up (sv_up S 1148 0 p1) 1149 0 (0 : Int)) 1150 0 (0 : Int)) 1147 0 (0 : Int)) [68, 69, 70, 81, 82, 83, 84, 85, 86, 74, 78, 79, 80, 76, 77, 1100031] g := ⟨_, md12.eq⟩
  show sv_T sm_XS sm_cs sm_L sm_sh 23 (q_ways p1 S) 265 25 [(0, .ref 0), (1, sv_I p1)] [] (sv_sts (sv_up (sv_up (sv_up (sv_up S 1148 0 p1) 1149 0 (0 : Int)) 1150 0 (0 : Int)) 1147 0 (0 : Int)) [68, 69, 70, 81, 82, 83, 84, 85, 86, 74, 78, 79, 80, 76, 77, 1100031] g10)
  have md14 : sv_mod [68, 69, 70, 81, 82, 83, 84, 85, 86, 71, 74, 75, 1127, 78, 79, 80, 72, 76, 77, 1143, 1144, 5, 1011, 1150, 1149, 1145, 1113, 1111, 1112, 91, 1147, 1100031, 1148, 73] S (sv_sts (sv_up (sv_up (sv_up (sv_up S 1148 0 p1) 1149 0 (0 : Int)) 1150 0 (0 : Int)) 1147 0 (0 : Int)) [68, 69, 70, 81, 82, 83, 84, 85, 86, 74, 78, 79, 80, 76, 77, 1100031] g10) := sv_mod.sts md8 (by decide)
  have h := h g10 hpo13
  have k15 : (sm_CT (S 26) (S 27) (S 28) (S 29) (S 1100007) (S 1100023) (S 1100024) (S 1100025) (S 21) (S 1046 0) (S 1032 0) (S 1008 0) (S 1055 0) → 0 ≤ p1 → p1 < (S 1046 0) → 0 ≤ (S 29 p1) ∧ (S 29 p1) < (S 1032 0) ∧ 0 ≤ (S 1100007 p1) ∧ (S 1100007 p1) ≤ 396 ∧ -1 ≤ (S 1100023 p1) ∧ (S 1100023 p1) < p1 ∧ 0 ≤ (S 26 p1) ∧ (S 26 p1) ≤ 30) := fun h h0 h1 => by have q := sm_ct_0 h _ h0 h1; exact ⟨q.2.2.1, q.2.2.2.1, q.2.2.2.2.1, q.2.2.2.2.2.1, q.2.2.2.2.2.2.2.1, q.2.2.2.2.2.2.2.2.1, q.1, q.2.1⟩
  have h := h k15
  have k16 : (sm_CT (S 26) (S 27) (S 28) (S 29) (S 1100007) (S 1100023) (S 1100024) (S 1100025) (S 21) (S 1046 0) (S 1032 0) (S 1008 0) (S 1055 0) → 0 ≤ p1 → p1 < (S 1046 0) → ((S 26 p1) = 0 → (0 ≤ (S 27 p1) ∧ (S 27 p1) ≤ 6 ∧ ((S 27 p1) = 6 → 0 ≤ (S 28 p1) ∧ (S 28 p1) < (S 1008 0))) ∧ (0 ≤ ((S 1100007 p1)) ∧ (0 ≤ (S 1100023 p1) → (S 1100007 (S 1100023 p1)) ≤ ((S 1100007 p1))) ∧ (0 ≤ (S 1100025 p1) → (S 1100007 (S 1100025 p1)) ≤ ((S 1100007 p1)))) ∧ (0 ≤ (p1 + 1) ∧ (p1 + 1) < (S 1046 0) ∧ (S 29 (p1 + 1)) = ((S 29 p1)) ∧ (S 1100007 (p1 + 1)) = ((S 1100007 p1) + 1) ∧ (S 1100023 (p1 + 1)) = ((S 1100023 p1)) ∧ (S 1100025 (p1 + 1)) = ((S 1100025 p1))))) := fun h h0 h1 => sm_ct_4 h _ h0 h1
  have h := h k16
  have k17 : (sm_CT (S 26) (S 27) (S 28) (S 29) (S 1100007) (S 1100023) (S 1100024) (S 1100025) (S 21) (S 1046 0) (S 1032 0) (S 1008 0) (S 1055 0) → 0 ≤ p1 → p1 < (S 1046 0) → (((S 26 p1) = 1 ∨ (S 26 p1) = 3 ∨ (S 26 p1) = 5) → (0 ≤ (S 27 p1) ∧ 0 ≤ (S 28 p1) ∧ (S 28 p1) < (S 1008 0)) ∧ (0 ≤ ((S 1100007 p1)) ∧ (0 ≤ (S 1100023 p1) → (S 1100007 (S 1100023 p1)) ≤ ((S 1100007 p1))) ∧ (0 ≤ (S 1100025 p1) → (S 1100007 (S 1100025 p1)) ≤ ((S 1100007 p1)))) ∧ (0 ≤ (p1 + 1) ∧ (p1 + 1) < (S 1046 0) ∧ (S 29 (p1 + 1)) = ((S 29 p1)) ∧ (S 1100007 (p1 + 1)) = ((S 1100007 p1) + 1) ∧ (S 1100023 (p1 + 1)) = ((S 1100023 p1)) ∧ (S 1100025 (p1 + 1)) = ((S 1100025 p1))))) := fun h h0 h1 => sm_ct_5 h _ h0 h1
  have h := h k17
  have k18 : (sm_CT (S 26) (S 27) (S 28) (S 29) (S 1100007) (S 1100023) (S 1100024) (S 1100025) (S 21) (S 1046 0) (S 1032 0) (S 1008 0) (S 1055 0) → 0 ≤ p1 → p1 < (S 1046 0) → (((S 26 p1) = 2 ∨ (S 26 p1) = 4) → (0 ≤ (S 27 p1) ∧ 0 ≤ (S 28 p1) ∧ (S 28 p1) < (S 1008 0)) ∧ (0 ≤ ((S 1100007 p1) - 1) ∧ (0 ≤ (S 1100023 p1) → (S 1100007 (S 1100023 p1)) ≤ ((S 1100007 p1) - 1)) ∧ (0 ≤ (S 1100025 p1) → (S 1100007 (S 1100025 p1)) ≤ ((S 1100007 p1) - 1))) ∧ (0 ≤ (p1 + 1) ∧ (p1 + 1) < (S 1046 0) ∧ (S 29 (p1 + 1)) = ((S 29 p1)) ∧ (S 1100007 (p1 + 1)) = ((S 1100007 p1)) ∧ (S 1100023 (p1 + 1)) = ((S 1100023 p1)) ∧ (S 1100025 (p1 + 1)) = ((S 1100025 p1))))) := fun h h0 h1 => sm_ct_6 h _ h0 h1
  have h := h k18
  have k19 : (sm_CT (S 26) (S 27) (S 28) (S 29) (S 1100007) (S 1100023) (S 1100024) (S 1100025) (S 21) (S 1046 0) (S 1032 0) (S 1008 0) (S 1055 0) → 0 ≤ p1 → p1 < (S 1046 0) → ((S 26 p1) = 6 → (0 ≤ ((S 1100007 p1)) ∧ (0 ≤ (S 1100023 p1) → (S 1100007 (S 1100023 p1)) ≤ ((S 1100007 p1))) ∧ (0 ≤ (S 1100025 p1) → (S 1100007 (S 1100025 p1)) ≤ ((S 1100007 p1)))) ∧ (0 ≤ (p1 + 1) ∧ (p1 + 1) < (S 1046 0) ∧ (S 29 (p1 + 1)) = ((S 29 p1)) ∧ (S 1100007 (p1 + 1)) = ((S 1100007 p1) + 1) ∧ (S 1100023 (p1 + 1)) = ((S 1100023 p1)) ∧ (S 1100025 (p1 + 1)) = ((S 1100025 p1))))) := fun h h0 h1 => sm_ct_7 h _ h0 h1
  have h := h k19
  have k20 : (sm_CT (S 26) (S 27) (S 28) (S 29) (S 1100007) (S 1100023) (S 1100024) (S 1100025) (S 21) (S 1046 0) (S 1032 0) (S 1008 0) (S 1055 0) → 0 ≤ p1 → p1 < (S 1046 0) → (((S 26 p1) = 7 ∨ (S 26 p1) = 8) → (0 ≤ (S 27 p1) ∧ (S 27 p1) < (S 1055 0)) ∧ (0 ≤ ((S 1100007 p1)) ∧ (0 ≤ (S 1100023 p1) → (S 1100007 (S 1100023 p1)) ≤ ((S 1100007 p1))) ∧ (0 ≤ (S 1100025 p1) → (S 1100007 (S 1100025 p1)) ≤ ((S 1100007 p1)))) ∧ (0 ≤ (p1 + 1) ∧ (p1 + 1) < (S 1046 0) ∧ (S 29 (p1 + 1)) = ((S 29 p1)) ∧ (S 1100007 (p1 + 1)) = ((S 1100007 p1) + 1) ∧ (S 1100023 (p1 + 1)) = ((S 1100023 p1)) ∧ (S 1100025 (p1 + 1)) = ((S 1100025 p1))))) := fun h h0 h1 => sm_ct_8 h _ h0 h1
  have h := h k20
  have k21 : (sm_CT (S 26) (S 27) (S 28) (S 29) (S 1100007) (S 1100023) (S 1100024) (S 1100025) (S 21) (S 1046 0) (S 1032 0) (S 1008 0) (S 1055 0) → 0 ≤ p1 → p1 < (S 1046 0) → ((S 26 p1) = 9 → (1 ≤ (S 27 p1) ∧ (S 27 p1) < (S 1032 0) ∧ (S 21 ((S 27 p1))) = (S 29 p1)) ∧ (0 ≤ ((S 1100007 p1)) ∧ (0 ≤ (S 1100023 p1) → (S 1100007 (S 1100023 p1)) ≤ ((S 1100007 p1))) ∧ (0 ≤ (S 1100025 p1) → (S 1100007 (S 1100025 p1)) ≤ ((S 1100007 p1)))) ∧ (0 ≤ (p1 + 1) ∧ (p1 + 1) < (S 1046 0) ∧ (S 29 (p1 + 1)) = ((S 29 p1)) ∧ (S 1100007 (p1 + 1)) = ((S 1100007 p1) + 1) ∧ (S 1100023 (p1 + 1)) = ((S 1100023 p1)) ∧ (S 1100025 (p1 + 1)) = ((S 1100025 p1))))) := fun h h0 h1 => sm_ct_9 h _ h0 h1
  have h := h k21
  have k22 : (sm_CT (S 26) (S 27) (S 28) (S 29) (S 1100007) (S 1100023) (S 1100024) (S 1100025) (S 21) (S 1046 0) (S 1032 0) (S 1008 0) (S 1055 0) → 0 ≤ p1 → p1 < (S 1046 0) → (((S 26 p1) = 10 ∨ (S 26 p1) = 12) → (0 ≤ ((S 1100007 p1) - 2) ∧ (0 ≤ (S 1100023 p1) → (S 1100007 (S 1100023 p1)) ≤ ((S 1100007 p1) - 2)) ∧ (0 ≤ (S 1100025 p1) → (S 1100007 (S 1100025 p1)) ≤ ((S 1100007 p1) - 2))) ∧ (0 ≤ (p1 + 1) ∧ (p1 + 1) < (S 1046 0) ∧ (S 29 (p1 + 1)) = ((S 29 p1)) ∧ (S 1100007 (p1 + 1)) = ((S 1100007 p1) - 1) ∧ (S 1100023 (p1 + 1)) = ((S 1100023 p1)) ∧ (S 1100025 (p1 + 1)) = ((S 1100025 p1))))) := fun h h0 h1 => sm_ct_10 h _ h0 h1
  have h := h k22
  have k23 : (sm_CT (S 26) (S 27) (S 28) (S 29) (S 1100007) (S 1100023) (S 1100024) (S 1100025) (S 21) (S 1046 0) (S 1032 0) (S 1008 0) (S 1055 0) → 0 ≤ p1 → p1 < (S 1046 0) → ((S 26 p1) = 11 → (0 ≤ ((S 1100007 p1) - 3) ∧ (0 ≤ (S 1100023 p1) → (S 1100007 (S 1100023 p1)) ≤ ((S 1100007 p1) - 3)) ∧ (0 ≤ (S 1100025 p1) → (S 1100007 (S 1100025 p1)) ≤ ((S 1100007 p1) - 3))) ∧ (0 ≤ (p1 + 1) ∧ (p1 + 1) < (S 1046 0) ∧ (S 29 (p1 + 1)) = ((S 29 p1)) ∧ (S 1100007 (p1 + 1)) = ((S 1100007 p1) - 2) ∧ (S 1100023 (p1 + 1)) = ((S 1100023 p1)) ∧ (S 1100025 (p1 + 1)) = ((S 1100025 p1))))) := fun h h0 h1 => sm_ct_11 h _ h0 h1
  have h := h k23
  have k24 : (sm_CT (S 26) (S 27) (S 28) (S 29) (S 1100007) (S 1100023) (S 1100024) (S 1100025) (S 21) (S 1046 0) (S 1032 0) (S 1008 0) (S 1055 0) → 0 ≤ p1 → p1 < (S 1046 0) → ((S 26 p1) = 13 → (0 ≤ (S 27 p1) ∧ (S 27 p1) ≤ 4) ∧ (0 ≤ ((S 1100007 p1) - 1) ∧ (0 ≤ (S 1100023 p1) → (S 1100007 (S 1100023 p1)) ≤ ((S 1100007 p1) - 1)) ∧ (0 ≤ (S 1100025 p1) → (S 1100007 (S 1100025 p1)) ≤ ((S 1100007 p1) - 1))) ∧ (0 ≤ (p1 + 1) ∧ (p1 + 1) < (S 1046 0) ∧ (S 29 (p1 + 1)) = ((S 29 p1)) ∧ (S 1100007 (p1 + 1)) = ((S 1100007 p1)) ∧ (S 1100023 (p1 + 1)) = ((S 1100023 p1)) ∧ (S 1100025 (p1 + 1)) = ((S 1100025 p1))))) := fun h h0 h1 => sm_ct_12 h _ h0 h1
  have h := h k24
  have k25 : (sm_CT (S 26) (S 27) (S 28) (S 29) (S 1100007) (S 1100023) (S 1100024) (S 1100025) (S 21) (S 1046 0) (S 1032 0) (S 1008 0) (S 1055 0) → 0 ≤ p1 → p1 < (S 1046 0) → ((S 26 p1) = 14 → (0 ≤ (S 27 p1) ∧ (S 27 p1) ≤ 20) ∧ (0 ≤ ((S 1100007 p1) - 2) ∧ (0 ≤ (S 1100023 p1) → (S 1100007 (S 1100023 p1)) ≤ ((S 1100007 p1) - 2)) ∧ (0 ≤ (S 1100025 p1) → (S 1100007 (S 1100025 p1)) ≤ ((S 1100007 p1) - 2))) ∧ (0 ≤ (p1 + 1) ∧ (p1 + 1) < (S 1046 0) ∧ (S 29 (p1 + 1)) = ((S 29 p1)) ∧ (S 1100007 (p1 + 1)) = ((S 1100007 p1) - 1) ∧ (S 1100023 (p1 + 1)) = ((S 1100023 p1)) ∧ (S 1100025 (p1 + 1)) = ((S 1100025 p1))))) := fun h h0 h1 => sm_ct_13 h _ h0 h1
  have h := h k25
  have k26 : (sm_CT (S 26) (S 27) (S 28) (S 29) (S 1100007) (S 1100023) (S 1100024) (S 1100025) (S 21) (S 1046 0) (S 1032 0) (S 1008 0) (S 1055 0) → 0 ≤ p1 → p1 < (S 1046 0) → ((S 26 p1) = 15 → (0 ≤ (S 27 p1) ∧ (S 27 p1) ≤ 8) ∧ (0 ≤ ((S 1100007 p1) - (S 27 p1) - 2) ∧ (0 ≤ (S 1100023 p1) → (S 1100007 (S 1100023 p1)) ≤ ((S 1100007 p1) - (S 27 p1) - 2)) ∧ (0 ≤ (S 1100025 p1) → (S 1100007 (S 1100025 p1)) ≤ ((S 1100007 p1) - (S 27 p1) - 2))) ∧ (0 ≤ (p1 + 1) ∧ (p1 + 1) < (S 1046 0) ∧ (S 29 (p1 + 1)) = ((S 29 p1)) ∧ (S 1100007 (p1 + 1)) = ((S 1100007 p1) - (S 27 p1) - 1) ∧ (S 1100023 (p1 + 1)) = ((S 1100023 p1)) ∧ (S 1100025 (p1 + 1)) = ((S 1100025 p1))))) := fun h h0 h1 => sm_ct_14 h _ h0 h1
  have h := h k26
  have k27 : (sm_CT (S 26) (S 27) (S 28) (S 29) (S 1100007) (S 1100023) (S 1100024) (S 1100025) (S 21) (S 1046 0) (S 1032 0) (S 1008 0) (S 1055 0) → 0 ≤ p1 → p1 < (S 1046 0) → ((S 26 p1) = 16 → (0 ≤ (S 27 p1) ∧ (S 27 p1) ≤ 8 ∧ 0 ≤ (S 28 p1) ∧ (S 28 p1) < (S 1055 0)) ∧ (0 ≤ ((S 1100007 p1) - (S 27 p1) - 1) ∧ (0 ≤ (S 1100023 p1) → (S 1100007 (S 1100023 p1)) ≤ ((S 1100007 p1) - (S 27 p1) - 1)) ∧ (0 ≤ (S 1100025 p1) → (S 1100007 (S 1100025 p1)) ≤ ((S 1100007 p1) - (S 27 p1) - 1))) ∧ (0 ≤ (p1 + 1) ∧ (p1 + 1) < (S 1046 0) ∧ (S 29 (p1 + 1)) = ((S 29 p1)) ∧ (S 1100007 (p1 + 1)) = ((S 1100007 p1) - (S 27 p1)) ∧ (S 1100023 (p1 + 1)) = ((S 1100023 p1)) ∧ (S 1100025 (p1 + 1)) = ((S 1100025 p1))))) := fun h h0 h1 => sm_ct_15 h _ h0 h1
  have h := h k27
  have k28 : (sm_CT (S 26) (S 27) (S 28) (S 29) (S 1100007) (S 1100023) (S 1100024) (S 1100025) (S 21) (S 1046 0) (S 1032 0) (S 1008 0) (S 1055 0) → 0 ≤ p1 → p1 < (S 1046 0) → ((S 26 p1) = 17 → 1 ≤ (S 1100007 p1) ∧ (0 ≤ (S 1100023 p1) → (S 1100007 ((S 1100023 p1))) ≤ (S 1100007 p1) - 1) ∧ ((0 ≤ (S 1100025 p1) ∧ (S 1100007 ((S 1100025 p1))) = (S 1100007 p1) ∧ (0 ≤ (p1 + 1) ∧ (p1 + 1) < (S 1046 0) ∧ (S 29 (p1 + 1)) = ((S 29 p1)) ∧ (S 1100007 (p1 + 1)) = ((S 1100007 p1) - 1) ∧ (S 1100023 (p1 + 1)) = ((S 1100023 p1)) ∧ (S 1100025 (p1 + 1)) = ((S 1100025 ((S 1100025 p1)))))) ∨ ((0 ≤ (S 1100025 p1) → (S 1100007 ((S 1100025 p1))) ≤ (S 1100007 p1) - 1) ∧ (0 ≤ (p1 + 1) ∧ (p1 + 1) < (S 1046 0) ∧ (S 29 (p1 + 1)) = ((S 29 p1)) ∧ (S 1100007 (p1 + 1)) = ((S 1100007 p1) - 1) ∧ (S 1100023 (p1 + 1)) = ((S 1100023 p1)) ∧ (S 1100025 (p1 + 1)) = ((S 1100025 p1))))))) := fun h h0 h1 => sm_ct_16 h _ h0 h1
  have h := h k28
  have k29 : (sm_CT (S 26) (S 27) (S 28) (S 29) (S 1100007) (S 1100023) (S 1100024) (S 1100025) (S 21) (S 1046 0) (S 1032 0) (S 1008 0) (S 1055 0) → 0 ≤ p1 → p1 < (S 1046 0) → ((S 26 p1) = 18 → (0 ≤ ((S 1100007 p1) - 1) ∧ (0 ≤ (S 1100023 p1) → (S 1100007 (S 1100023 p1)) ≤ ((S 1100007 p1) - 1)) ∧ (0 ≤ (S 1100025 p1) → (S 1100007 (S 1100025 p1)) ≤ ((S 1100007 p1) - 1))) ∧ (0 ≤ (p1 + 1) ∧ (p1 + 1) < (S 1046 0) ∧ (S 29 (p1 + 1)) = ((S 29 p1)) ∧ (S 1100007 (p1 + 1)) = ((S 1100007 p1) + 1) ∧ (S 1100023 (p1 + 1)) = ((S 1100023 p1)) ∧ (S 1100025 (p1 + 1)) = ((S 1100025 p1))))) := fun h h0 h1 => sm_ct_17 h _ h0 h1
  have h := h k29
  have k30 : (sm_CT (S 26) (S 27) (S 28) (S 29) (S 1100007) (S 1100023) (S 1100024) (S 1100025) (S 21) (S 1046 0) (S 1032 0) (S 1008 0) (S 1055 0) → 0 ≤ p1 → p1 < (S 1046 0) → ((S 26 p1) = 19 → (0 ≤ ((S 1100007 p1) - 2) ∧ (0 ≤ (S 1100023 p1) → (S 1100007 (S 1100023 p1)) ≤ ((S 1100007 p1) - 2)) ∧ (0 ≤ (S 1100025 p1) → (S 1100007 (S 1100025 p1)) ≤ ((S 1100007 p1) - 2))) ∧ (0 ≤ (p1 + 1) ∧ (p1 + 1) < (S 1046 0) ∧ (S 29 (p1 + 1)) = ((S 29 p1)) ∧ (S 1100007 (p1 + 1)) = ((S 1100007 p1) + 2) ∧ (S 1100023 (p1 + 1)) = ((S 1100023 p1)) ∧ (S 1100025 (p1 + 1)) = ((S 1100025 p1))))) := fun h h0 h1 => sm_ct_18 h _ h0 h1
  have h := h k30
  have k31 : (sm_CT (S 26) (S 27) (S 28) (S 29) (S 1100007) (S 1100023) (S 1100024) (S 1100025) (S 21) (S 1046 0) (S 1032 0) (S 1008 0) (S 1055 0) → 0 ≤ p1 → p1 < (S 1046 0) → ((S 26 p1) = 20 → (0 ≤ ((S 1100007 p1) - 3) ∧ (0 ≤ (S 1100023 p1) → (S 1100007 (S 1100023 p1)) ≤ ((S 1100007 p1) - 3)) ∧ (0 ≤ (S 1100025 p1) → (S 1100007 (S 1100025 p1)) ≤ ((S 1100007 p1) - 3))) ∧ (0 ≤ (p1 + 1) ∧ (p1 + 1) < (S 1046 0) ∧ (S 29 (p1 + 1)) = ((S 29 p1)) ∧ (S 1100007 (p1 + 1)) = ((S 1100007 p1) + 1) ∧ (S 1100023 (p1 + 1)) = ((S 1100023 p1)) ∧ (S 1100025 (p1 + 1)) = ((S 1100025 p1))))) := fun h h0 h1 => sm_ct_19 h _ h0 h1
  have h := h k31
  have k32 : (sm_CT (S 26) (S 27) (S 28) (S 29) (S 1100007) (S 1100023) (S 1100024) (S 1100025) (S 21) (S 1046 0) (S 1032 0) (S 1008 0) (S 1055 0) → 0 ≤ p1 → p1 < (S 1046 0) → ((S 26 p1) = 21 → (0 ≤ ((S 1100007 p1)) ∧ (0 ≤ (S 1100023 p1) → (S 1100007 (S 1100023 p1)) ≤ ((S 1100007 p1))) ∧ (0 ≤ (S 1100025 p1) → (S 1100007 (S 1100025 p1)) ≤ ((S 1100007 p1)))) ∧ (0 ≤ ((S 27 p1)) ∧ ((S 27 p1)) < (S 1046 0) ∧ (S 29 ((S 27 p1))) = ((S 29 p1)) ∧ (S 1100007 ((S 27 p1))) = ((S 1100007 p1)) ∧ (S 1100023 ((S 27 p1))) = ((S 1100023 p1)) ∧ (S 1100025 ((S 27 p1))) = ((S 1100025 p1))))) := fun h h0 h1 => sm_ct_20 h _ h0 h1
  have h := h k32
  have k33 : (sm_CT (S 26) (S 27) (S 28) (S 29) (S 1100007) (S 1100023) (S 1100024) (S 1100025) (S 21) (S 1046 0) (S 1032 0) (S 1008 0) (S 1055 0) → 0 ≤ p1 → p1 < (S 1046 0) → ((S 26 p1) = 22 → (0 ≤ ((S 1100007 p1) - 1) ∧ (0 ≤ (S 1100023 p1) → (S 1100007 (S 1100023 p1)) ≤ ((S 1100007 p1) - 1)) ∧ (0 ≤ (S 1100025 p1) → (S 1100007 (S 1100025 p1)) ≤ ((S 1100007 p1) - 1))) ∧ (0 ≤ (p1 + 1) ∧ (p1 + 1) < (S 1046 0) ∧ (S 29 (p1 + 1)) = ((S 29 p1)) ∧ (S 1100007 (p1 + 1)) = ((S 1100007 p1) - 1) ∧ (S 1100023 (p1 + 1)) = ((S 1100023 p1)) ∧ (S 1100025 (p1 + 1)) = ((S 1100025 p1))) ∧ (0 ≤ ((S 27 p1)) ∧ ((S 27 p1)) < (S 1046 0) ∧ (S 29 ((S 27 p1))) = ((S 29 p1)) ∧ (S 1100007 ((S 27 p1))) = ((S 1100007 p1) - 1) ∧ (S 1100023 ((S 27 p1))) = ((S 1100023 p1)) ∧ (S 1100025 ((S 27 p1))) = ((S 1100025 p1))))) := fun h h0 h1 => sm_ct_21 h _ h0 h1
  have h := h k33
  have k34 : (sm_CT (S 26) (S 27) (S 28) (S 29) (S 1100007) (S 1100023) (S 1100024) (S 1100025) (S 21) (S 1046 0) (S 1032 0) (S 1008 0) (S 1055 0) → 0 ≤ p1 → p1 < (S 1046 0) → (((S 26 p1) = 23 ∨ (S 26 p1) = 24) → (0 ≤ ((S 1100007 p1) - 1) ∧ (0 ≤ (S 1100023 p1) → (S 1100007 (S 1100023 p1)) ≤ ((S 1100007 p1) - 1)) ∧ (0 ≤ (S 1100025 p1) → (S 1100007 (S 1100025 p1)) ≤ ((S 1100007 p1) - 1))) ∧ (0 ≤ (p1 + 1) ∧ (p1 + 1) < (S 1046 0) ∧ (S 29 (p1 + 1)) = ((S 29 p1)) ∧ (S 1100007 (p1 + 1)) = ((S 1100007 p1) - 1) ∧ (S 1100023 (p1 + 1)) = ((S 1100023 p1)) ∧ (S 1100025 (p1 + 1)) = ((S 1100025 p1))) ∧ (0 ≤ ((S 27 p1)) ∧ ((S 27 p1)) < (S 1046 0) ∧ (S 29 ((S 27 p1))) = ((S 29 p1)) ∧ (S 1100007 ((S 27 p1))) = ((S 1100007 p1)) ∧ (S 1100023 ((S 27 p1))) = ((S 1100023 p1)) ∧ (S 1100025 ((S 27 p1))) = ((S 1100025 p1))))) := fun h h0 h1 => sm_ct_22 h _ h0 h1
  have h := h k34
  have k35 : (sm_CT (S 26) (S 27) (S 28) (S 29) (S 1100007) (S 1100023) (S 1100024) (S 1100025) (S 21) (S 1046 0) (S 1032 0) (S 1008 0) (S 1055 0) → 0 ≤ p1 → p1 < (S 1046 0) → (((S 26 p1) = 25 ∨ (S 26 p1) = 26) → (0 ≤ ((S 1100007 p1) - 1) ∧ (0 ≤ (S 1100023 p1) → (S 1100007 (S 1100023 p1)) ≤ ((S 1100007 p1) - 1)) ∧ (0 ≤ (S 1100025 p1) → (S 1100007 (S 1100025 p1)) ≤ ((S 1100007 p1) - 1))))) := fun h h0 h1 => sm_ct_23 h _ h0 h1
  have h := h k35
  have k36 : (sm_CT (S 26) (S 27) (S 28) (S 29) (S 1100007) (S 1100023) (S 1100024) (S 1100025) (S 21) (S 1046 0) (S 1032 0) (S 1008 0) (S 1055 0) → 0 ≤ p1 → p1 < (S 1046 0) → ((S 26 p1) = 27 → (S 1100024 p1) < 40 ∧ (0 ≤ ((S 1100007 p1)) ∧ (0 ≤ (S 1100023 p1) → (S 1100007 (S 1100023 p1)) ≤ ((S 1100007 p1))) ∧ (0 ≤ (S 1100025 p1) → (S 1100007 (S 1100025 p1)) ≤ ((S 1100007 p1)))) ∧ (0 ≤ (p1 + 1) ∧ (p1 + 1) < (S 1046 0) ∧ (S 29 (p1 + 1)) = ((S 29 p1)) ∧ (S 1100007 (p1 + 1)) = ((S 1100007 p1)) ∧ (S 1100023 (p1 + 1)) = p1 ∧ (S 1100025 (p1 + 1)) = ((S 1100025 p1))) ∧ (0 ≤ ((S 27 p1)) ∧ ((S 27 p1)) < (S 1046 0) ∧ (S 29 ((S 27 p1))) = ((S 29 p1)) ∧ (S 1100007 ((S 27 p1))) = ((S 1100007 p1) + 1) ∧ (S 1100023 ((S 27 p1))) = ((S 1100023 p1)) ∧ (S 1100025 ((S 27 p1))) = ((S 1100025 p1))))) := fun h h0 h1 => sm_ct_24 h _ h0 h1
  have h := h k36
  have k37 : (sm_CT (S 26) (S 27) (S 28) (S 29) (S 1100007) (S 1100023) (S 1100024) (S 1100025) (S 21) (S 1046 0) (S 1032 0) (S 1008 0) (S 1055 0) → 0 ≤ p1 → p1 < (S 1046 0) → ((S 26 p1) = 28 → 0 ≤ (S 1100023 p1) ∧ (0 ≤ ((S 1100007 p1)) ∧ (0 ≤ (S 1100023 p1) → (S 1100007 (S 1100023 p1)) ≤ ((S 1100007 p1))) ∧ (0 ≤ (S 1100025 p1) → (S 1100007 (S 1100025 p1)) ≤ ((S 1100007 p1)))) ∧ (0 ≤ (p1 + 1) ∧ (p1 + 1) < (S 1046 0) ∧ (S 29 (p1 + 1)) = ((S 29 p1)) ∧ (S 1100007 (p1 + 1)) = ((S 1100007 p1)) ∧ (S 1100023 (p1 + 1)) = ((S 1100023 ((S 1100023 p1)))) ∧ (S 1100025 (p1 + 1)) = ((S 1100025 p1))))) := fun h h0 h1 => sm_ct_25 h _ h0 h1
  have h := h k37
  have k38 : (sm_CT (S 26) (S 27) (S 28) (S 29) (S 1100007) (S 1100023) (S 1100024) (S 1100025) (S 21) (S 1046 0) (S 1032 0) (S 1008 0) (S 1055 0) → 0 ≤ p1 → p1 < (S 1046 0) → ((S 26 p1) = 29 → (0 ≤ ((S 1100007 p1) - 1) ∧ (0 ≤ (S 1100023 p1) → (S 1100007 (S 1100023 p1)) ≤ ((S 1100007 p1) - 1)) ∧ (0 ≤ (S 1100025 p1) → (S 1100007 (S 1100025 p1)) ≤ ((S 1100007 p1) - 1))) ∧ (0 ≤ (p1 + 1) ∧ (p1 + 1) < (S 1046 0) ∧ (S 29 (p1 + 1)) = ((S 29 p1)) ∧ (S 1100007 (p1 + 1)) = ((S 1100007 p1)) ∧ (S 1100023 (p1 + 1)) = ((S 1100023 p1)) ∧ (S 1100025 (p1 + 1)) = p1))) := fun h h0 h1 => sm_ct_26 h _ h0 h1
  have h := h k38
  have k39 : (sm_CT (S 26) (S 27) (S 28) (S 29) (S 1100007) (S 1100023) (S 1100024) (S 1100025) (S 21) (S 1046 0) (S 1032 0) (S 1008 0) (S 1055 0) → 0 ≤ p1 → p1 < (S 1046 0) → ((S 26 p1) = 30 → 0 ≤ (S 1100025 p1) ∧ (S 1100007 ((S 1100025 p1))) = (S 1100007 p1) ∧ 1 ≤ (S 1100007 p1) ∧ (0 ≤ (S 1100023 p1) → (S 1100007 ((S 1100023 p1))) ≤ (S 1100007 p1) - 1) ∧ (0 ≤ (p1 + 1) ∧ (p1 + 1) < (S 1046 0) ∧ (S 29 (p1 + 1)) = ((S 29 p1)) ∧ (S 1100007 (p1 + 1)) = ((S 1100007 p1) + 1) ∧ (S 1100023 (p1 + 1)) = ((S 1100023 p1)) ∧ (S 1100025 (p1 + 1)) = ((S 1100025 p1))) ∧ (0 ≤ ((S 27 p1)) ∧ ((S 27 p1)) < (S 1046 0) ∧ (S 29 ((S 27 p1))) = ((S 29 p1)) ∧ (S 1100007 ((S 27 p1))) = ((S 1100007 p1) - 1) ∧ (S 1100023 ((S 27 p1))) = ((S 1100023 p1)) ∧ (S 1100025 ((S 27 p1))) = ((S 1100025 ((S 1100025 p1))))))) := fun h h0 h1 => sm_ct_27 h _ h0 h1
  have h := h k39
  refine sv_aload_n hM dX12_ways_25 rfl rfl ?_
  refine sv_getA hM dX12_ways_26 sm_fl_92 (sm_a0 _) sm_k49 rfl ?_
  refine sv_iload_n hM dX12_ways_29 rfl rfl ?_
  obtain ⟨o40, h⟩ := h
  have k41 : sv_R (S 27 p1) := sm_okI ok11 sm_r27 p1
  have h := h k41
  refine sv_iald hM dX12_ways_30 (sm_a27 _) (by decide) o40.1 o40.2 rfl (x := (S 27 p1)) rfl ?_
  refine sv_istore_n hM dX12_ways_31 (by decide) rfl ?_
  show sv_T sm_XS sm_cs sm_L sm_sh 23 (q_ways p1 S) 265 32 [(0, .ref 0), (1, sv_I p1), (2, sv_I (S 27 p1))] [] (sv_sts (sv_up (sv_up (sv_up (sv_up S 1148 0 p1) 1149 0 (0 : Int)) 1150 0 (0 : Int)) 1147 0 (0 : Int)) [68, 69, 70, 81, 82, 83, 84, 85, 86, 74, 78, 79, 80, 76, 77, 1100031] g10)
  refine sv_aload_n hM dX12_ways_32 rfl rfl ?_
  refine sv_getA hM dX12_ways_33 sm_fl_95 (sm_a0 _) sm_k50 rfl ?_
  refine sv_iload_n hM dX12_ways_36 rfl rfl ?_
  have k42 : sv_R (S 28 p1) := sm_okI ok11 sm_r28 p1
  have h := h k42
  refine sv_iald hM dX12_ways_37 (sm_a28 _) (by decide) o40.1 o40.2 rfl (x := (S 28 p1)) rfl ?_
  refine sv_istore_n hM dX12_ways_38 (by decide) rfl ?_
  show sv_T sm_XS sm_cs sm_L sm_sh 23 (q_ways p1 S) 265 39 [(0, .ref 0), (1, sv_I p1), (2, sv_I (S 27 p1)), (3, sv_I (S 28 p1))] [] (sv_sts (sv_up (sv_up (sv_up (sv_up S 1148 0 p1) 1149 0 (0 : Int)) 1150 0 (0 : Int)) 1147 0 (0 : Int)) [68, 69, 70, 81, 82, 83, 84, 85, 86, 74, 78, 79, 80, 76, 77, 1100031] g10)
  refine sv_ldc_w (d := (647740 : Int)) hM dX12_ways_39 sm_ck_1218 rfl rfl ?_
  refine sv_istore hM dX12_ways_42 (by decide) rfl ?_
  show sv_T sm_XS sm_cs sm_L sm_sh 23 (q_ways p1 S) 265 44 [(0, .ref 0), (1, sv_I p1), (2, sv_I (S 27 p1)), (3, sv_I (S 28 p1)), (4, sv_I (647740 : Int))] [] (sv_sts (sv_up (sv_up (sv_up (sv_up S 1148 0 p1) 1149 0 (0 : Int)) 1150 0 (0 : Int)) 1147 0 (0 : Int)) [68, 69, 70, 81, 82, 83, 84, 85, 86, 74, 78, 79, 80, 76, 77, 1100031] g10)
  have J63 : ∀ g43 : sv_S, sm_ok (sv_sts (sv_sts (sv_up (sv_up (sv_up (sv_up S 1148 0 p1) 1149 0 (0 : Int)) 1150 0 (0 : Int)) 1147 0 (0 : Int)) [68, 69, 70, 81, 82, 83, 84, 85, 86, 74, 78, 79, 80, 76, 77, 1100031] g10) [68, 69, 70, 81, 82, 83, 84, 85, 86, 71, 74, 75, 1127, 78, 79, 80, 72, 76, 77, 1143, 1144, 5, 1011, 1150, 1149, 1145, 1113, 1111, 1112, 91, 1147, 1100031] g43) → (sm_ST (g43 71) (g43 74) (g43 75) (g43 78) (g43 79) (g43 80) (S 27) (S 1100007) (S 1100023) (S 1100024) (S 1046 0) ((S 1046 0) + 2 * (S 1032 0)) (g43 1127 0) ∧ 465000 ≤ (g43 1127 0) ∧ (g43 1127 0) + sm_hs (g43 71) (S 1100007) ≤ 635000 ∧ (g43 75 639) = 647340 ∧ (∀ k : Int, (S 71 k) = 1 → (g43 71 k) = 1) ∧ sm_DR (g43 72) (g43 71) (S 1046 0) ∧ (641 * (sm_cm (g43 71) + sm_pt (g43 68) (g43 69) (g43 70) + sm_pl (g43 81) (g43 82) (g43 83) (g43 84) (g43 85) (g43 86) + sm_ps (g43 76) (g43 77)) + sm_du (g43 72)) ≤ (641 * (sm_cm (S 71) + sm_pt (g10 68) (g10 69) (g10 70) + sm_pl (g10 81) (g10 82) (g10 83) (g10 84) (g10 85) (g10 86) + sm_ps (g10 76) (g10 77)) + sm_du (S 72))) → sv_T sm_XS sm_cs sm_L sm_sh 23 (q_ways p1 S) 265 665 [(0, .ref 0), (1, sv_I p1), (2, sv_I (S 27 p1)), (3, sv_I (S 28 p1)), (4, sv_I (647740 : Int))] [] (sv_sts (sv_sts (sv_up (sv_up (sv_up (sv_up S 1148 0 p1) 1149 0 (0 : Int)) 1150 0 (0 : Int)) 1147 0 (0 : Int)) [68, 69, 70, 81, 82, 83, 84, 85, 86, 74, 78, 79, 80, 76, 77, 1100031] g10) [68, 69, 70, 81, 82, 83, 84, 85, 86, 71, 74, 75, 1127, 78, 79, 80, 72, 76, 77, 1143, 1144, 5, 1011, 1150, 1149, 1145, 1113, 1111, 1112, 91, 1147, 1100031] g43) := by
    intro  g43 ok44 hin45
    have h := h.1 g43 hin45
    have md46 : sv_mod [68, 69, 70, 81, 82, 83, 84, 85, 86, 71, 74, 75, 1127, 78, 79, 80, 72, 76, 77, 1143, 1144, 5, 1011, 1150, 1149, 1145, 1113, 1111, 1112, 91, 1147, 1100031, 1148, 73] S (sv_sts (sv_sts (sv_up (sv_up (sv_up (sv_up S 1148 0 p1) 1149 0 (0 : Int)) 1150 0 (0 : Int)) 1147 0 (0 : Int)) [68, 69, 70, 81, 82, 83, 84, 85, 86, 74, 78, 79, 80, 76, 77, 1100031] g10) [68, 69, 70, 81, 82, 83, 84, 85, 86, 71, 74, 75, 1127, 78, 79, 80, 72, 76, 77, 1143, 1144, 5, 1011, 1150, 1149, 1145, 1113, 1111, 1112, 91, 1147, 1100031] g43) := sv_mod.sts md14 (by decide)
    have md47 : sv_mod [68, 69, 70, 81, 82, 83, 84, 85, 86, 71, 74, 75, 1127, 78, 79, 80, 72, 76, 77, 1143, 1144, 5, 1011, 1150, 1149, 1145, 1113, 1111, 1112, 91, 1147, 1100031] (sv_sts (sv_up (sv_up (sv_up (sv_up S 1148 0 p1) 1149 0 (0 : Int)) 1150 0 (0 : Int)) 1147 0 (0 : Int)) [68, 69, 70, 81, 82, 83, 84, 85, 86, 74, 78, 79, 80, 76, 77, 1100031] g10) (sv_sts (sv_sts (sv_up (sv_up (sv_up (sv_up S 1148 0 p1) 1149 0 (0 : Int)) 1150 0 (0 : Int)) 1147 0 (0 : Int)) [68, 69, 70, 81, 82, 83, 84, 85, 86, 74, 78, 79, 80, 76, 77, 1100031] g10) [68, 69, 70, 81, 82, 83, 84, 85, 86, 71, 74, 75, 1127, 78, 79, 80, 72, 76, 77, 1143, 1144, 5, 1011, 1150, 1149, 1145, 1113, 1111, 1112, 91, 1147, 1100031] g43) := sv_mod.sts sv_mod.rf (by decide)
    refine sv_aload_n hM dX12_ways_665 rfl rfl ?_
    refine sv_getA hM dX12_ways_666 sm_fl_232 (sm_a0 _) sm_k124 rfl ?_
    refine sv_iload_n hM dX12_ways_669 rfl rfl ?_
    refine sv_aload_n hM dX12_ways_670 rfl rfl ?_
    have k48 : sv_R (g43 1149 0) := sm_okI ok44 sm_r1149 0
    have h := h k48
    refine sv_getI hM dX12_ways_671 sm_fl_1208 (sm_a0 _) sm_k149 rfl (x := (g43 1149 0)) rfl ?_
    refine sv_aload_n hM dX12_ways_674 rfl rfl ?_
    have k49 : (0 ≤ (g43 1150 0) ∧ (g43 1150 0) ≤ 1) := sm_okZ ok44 sm_r1150 0
    have h := h k49
    refine sv_getI hM dX12_ways_675 sm_fl_1185 (sm_a0 _) sm_k150 rfl (x := (g43 1150 0)) rfl ?_
    refine sv_cond_ne hM dX12_ways_678 (sv_R01 k49) (t := 692) rfl rfl (fun hc => ?_) (fun hc => ?_)
    · have h := h.1 (hc)
      refine sv_iconst (d := (0 : Int)) hM dX12_ways_692 rfl rfl ?_
      refine sv_goto hM dX12_ways_693 (pc' := 697) rfl ?_
      refine sv_anyI hM dX12_ways_697 rfl rfl (fun r50 hr50 _ => ?_)
      have h := h r50 hr50
      obtain ⟨o51, h⟩ := h
      refine sv_iast sm_X hM dX12_ways_698 (sm_a73 _) (by decide) o51.1 o51.2 rfl ?_
      have ok52 : sm_ok (sv_up (sv_sts (sv_sts (sv_up (sv_up (sv_up (sv_up S 1148 0 p1) 1149 0 (0 : Int)) 1150 0 (0 : Int)) 1147 0 (0 : Int)) [68, 69, 70, 81, 82, 83, 84, 85, 86, 74, 78, 79, 80, 76, 77, 1100031] g10) [68, 69, 70, 81, 82, 83, 84, 85, 86, 71, 74, 75, 1127, 78, 79, 80, 72, 76, 77, 1143, 1144, 5, 1011, 1150, 1149, 1145, 1113, 1111, 1112, 91, 1147, 1100031] g43) 73 p1 r50) := sm_upI ok44 sm_r73 hr50
      have md53 : sv_mod [68, 69, 70, 81, 82, 83, 84, 85, 86, 71, 74, 75, 1127, 78, 79, 80, 72, 76, 77, 1143, 1144, 5, 1011, 1150, 1149, 1145, 1113, 1111, 1112, 91, 1147, 1100031, 1148, 73] S (sv_up (sv_sts (sv_sts (sv_up (sv_up (sv_up (sv_up S 1148 0 p1) 1149 0 (0 : Int)) 1150 0 (0 : Int)) 1147 0 (0 : Int)) [68, 69, 70, 81, 82, 83, 84, 85, 86, 74, 78, 79, 80, 76, 77, 1100031] g10) [68, 69, 70, 81, 82, 83, 84, 85, 86, 71, 74, 75, 1127, 78, 79, 80, 72, 76, 77, 1143, 1144, 5, 1011, 1150, 1149, 1145, 1113, 1111, 1112, 91, 1147, 1100031] g43) 73 p1 r50) := sv_mod.up md46 (by decide)
      exact sv_vret hM dX12_ways_699 rfl ⟨rfl, ok52, md53, h⟩
    · have h := h.2 (hc)
      refine sv_aload_n hM dX12_ways_681 rfl rfl ?_
      refine sv_getA hM dX12_ways_682 sm_fl_89 (sm_a0 _) sm_k48 rfl ?_
      refine sv_iload_n hM dX12_ways_685 rfl rfl ?_
      have k54 : sv_R (S 26 p1) := sm_okI ok44 sm_r26 p1
      have h := h k54
      refine sv_iald hM dX12_ways_686 (sm_a26 _) (by decide) o40.1 o40.2 rfl (x := (S 26 p1)) rfl ?_
      refine sv_bipush (d := (25 : Int)) hM dX12_ways_687 rfl rfl ?_
      refine sv_icmp_ne hM dX12_ways_689 k54 (⟨by decide, by decide⟩ : sv_R (25 : Int)) (t := 696) rfl rfl (fun hc => ?_) (fun hc => ?_)
      · have h := h.1 (hc)
        refine sv_iconst (d := (4 : Int)) hM dX12_ways_696 rfl rfl ?_
        refine sv_anyI hM dX12_ways_697 rfl rfl (fun r55 hr55 _ => ?_)
        have h := h r55 hr55
        obtain ⟨o56, h⟩ := h
        refine sv_iast sm_X hM dX12_ways_698 (sm_a73 _) (by decide) o56.1 o56.2 rfl ?_
        have ok57 : sm_ok (sv_up (sv_sts (sv_sts (sv_up (sv_up (sv_up (sv_up S 1148 0 p1) 1149 0 (0 : Int)) 1150 0 (0 : Int)) 1147 0 (0 : Int)) [68, 69, 70, 81, 82, 83, 84, 85, 86, 74, 78, 79, 80, 76, 77, 1100031] g10) [68, 69, 70, 81, 82, 83, 84, 85, 86, 71, 74, 75, 1127, 78, 79, 80, 72, 76, 77, 1143, 1144, 5, 1011, 1150, 1149, 1145, 1113, 1111, 1112, 91, 1147, 1100031] g43) 73 p1 r55) := sm_upI ok44 sm_r73 hr55
        have md58 : sv_mod [68, 69, 70, 81, 82, 83, 84, 85, 86, 71, 74, 75, 1127, 78, 79, 80, 72, 76, 77, 1143, 1144, 5, 1011, 1150, 1149, 1145, 1113, 1111, 1112, 91, 1147, 1100031, 1148, 73] S (sv_up (sv_sts (sv_sts (sv_up (sv_up (sv_up (sv_up S 1148 0 p1) 1149 0 (0 : Int)) 1150 0 (0 : Int)) 1147 0 (0 : Int)) [68, 69, 70, 81, 82, 83, 84, 85, 86, 74, 78, 79, 80, 76, 77, 1100031] g10) [68, 69, 70, 81, 82, 83, 84, 85, 86, 71, 74, 75, 1127, 78, 79, 80, 72, 76, 77, 1143, 1144, 5, 1011, 1150, 1149, 1145, 1113, 1111, 1112, 91, 1147, 1100031] g43) 73 p1 r55) := sv_mod.up md46 (by decide)
        exact sv_vret hM dX12_ways_699 rfl ⟨rfl, ok57, md58, h⟩
      · have h := h.2 (hc)
        refine sv_iconst (d := (0 : Int)) hM dX12_ways_692 rfl rfl ?_
        refine sv_goto hM dX12_ways_693 (pc' := 697) rfl ?_
        refine sv_anyI hM dX12_ways_697 rfl rfl (fun r59 hr59 _ => ?_)
        have h := h r59 hr59
        obtain ⟨o60, h⟩ := h
        refine sv_iast sm_X hM dX12_ways_698 (sm_a73 _) (by decide) o60.1 o60.2 rfl ?_
        have ok61 : sm_ok (sv_up (sv_sts (sv_sts (sv_up (sv_up (sv_up (sv_up S 1148 0 p1) 1149 0 (0 : Int)) 1150 0 (0 : Int)) 1147 0 (0 : Int)) [68, 69, 70, 81, 82, 83, 84, 85, 86, 74, 78, 79, 80, 76, 77, 1100031] g10) [68, 69, 70, 81, 82, 83, 84, 85, 86, 71, 74, 75, 1127, 78, 79, 80, 72, 76, 77, 1143, 1144, 5, 1011, 1150, 1149, 1145, 1113, 1111, 1112, 91, 1147, 1100031] g43) 73 p1 r59) := sm_upI ok44 sm_r73 hr59
        have md62 : sv_mod [68, 69, 70, 81, 82, 83, 84, 85, 86, 71, 74, 75, 1127, 78, 79, 80, 72, 76, 77, 1143, 1144, 5, 1011, 1150, 1149, 1145, 1113, 1111, 1112, 91, 1147, 1100031, 1148, 73] S (sv_up (sv_sts (sv_sts (sv_up (sv_up (sv_up (sv_up S 1148 0 p1) 1149 0 (0 : Int)) 1150 0 (0 : Int)) 1147 0 (0 : Int)) [68, 69, 70, 81, 82, 83, 84, 85, 86, 74, 78, 79, 80, 76, 77, 1100031] g10) [68, 69, 70, 81, 82, 83, 84, 85, 86, 71, 74, 75, 1127, 78, 79, 80, 72, 76, 77, 1143, 1144, 5, 1011, 1150, 1149, 1145, 1113, 1111, 1112, 91, 1147, 1100031] g43) 73 p1 r59) := sv_mod.up md46 (by decide)
        exact sv_vret hM dX12_ways_699 rfl ⟨rfl, ok61, md62, h⟩
  have h := h.2
  refine sv_aload_n hM dX12_ways_44 rfl rfl ?_
  refine sv_getA hM dX12_ways_45 sm_fl_89 (sm_a0 _) sm_k48 rfl ?_
  refine sv_iload_n hM dX12_ways_48 rfl rfl ?_
  have k64 : sv_R (S 26 p1) := sm_okI ok11 sm_r26 p1
  have h := h k64
  refine sv_iald hM dX12_ways_49 (sm_a26 _) (by decide) o40.1 o40.2 rfl (x := (S 26 p1)) rfl ?_
  have hS := h
  have J0 : ((S 26 p1) < (0 : Int) ∨ (16 : Int) < (S 26 p1)) → sv_T sm_XS sm_cs sm_L sm_sh 23 (q_ways p1 S) 265 654 [(0, .ref 0), (1, sv_I p1), (2, sv_I (S 27 p1)), (3, sv_I (S 28 p1)), (4, sv_I (647740 : Int))] [] (sv_sts (sv_up (sv_up (sv_up (sv_up S 1148 0 p1) 1149 0 (0 : Int)) 1150 0 (0 : Int)) 1147 0 (0 : Int)) [68, 69, 70, 81, 82, 83, 84, 85, 86, 74, 78, 79, 80, 76, 77, 1100031] g10) := by
    intro hc
    have h := hS.1 hc
    refine sv_aload_n hM dX12_ways_654 rfl rfl ?_
    refine sv_aload_n hM dX12_ways_655 rfl rfl ?_
    refine sv_getA hM dX12_ways_656 sm_fl_89 (sm_a0 _) sm_k48 rfl ?_
    refine sv_iload_n hM dX12_ways_659 rfl rfl ?_
    refine sv_iald hM dX12_ways_660 (sm_a26 _) (by decide) o40.1 o40.2 rfl (x := (S 26 p1)) rfl ?_
    refine sv_iload_n hM dX12_ways_661 rfl rfl ?_
    obtain ⟨o65, h⟩ := h
    refine sv_callV hM dX12_ways_662 sm_iv_1270 (by decide) (sm_a0 _) rfl rfl (Nat.le_of_ble_eq_true rfl) sm_h268 (Nat.le_of_ble_eq_true rfl) (Nat.le_of_ble_eq_true rfl) (F' := 6) (Nat.le_of_ble_eq_true rfl) rfl (t_waysOfOther (S 26 p1) (S 27 p1) (sv_sts (sv_up (sv_up (sv_up (sv_up S 1148 0 p1) 1149 0 (0 : Int)) 1150 0 (0 : Int)) 1147 0 (0 : Int)) [68, 69, 70, 81, 82, 83, 84, 85, 86, 74, 78, 79, 80, 76, 77, 1100031] g10) ok11 k64 k41 o65) (fun v S1 hq => ?_)
    obtain ⟨rfl, ok67, md68, hpo69⟩ := hq
    obtain ⟨g66, rfl⟩ : ∃ g, S1 = sv_sts (sv_sts (sv_up (sv_up (sv_up (sv_up S 1148 0 p1) 1149 0 (0 : Int)) 1150 0 (0 : Int)) 1147 0 (0 : Int)) [68, 69, 70, 81, 82, 83, 84, 85, 86, 74, 78, 79, 80, 76, 77, 1100031] g10) [68, 69, 70, 81, 82, 83, 84, 85, 86, 71, 74, 75, 1127, 78, 79, 80, 72, 76, 77, 1143, 1144, 5, 1011, 1150, 1149, 1145, 1113, 1111, 1112, 1100031] g := ⟨_, md68.eq⟩
    show sv_T sm_XS sm_cs sm_L sm_sh 23 (q_ways p1 S) 265 665 [(0, .ref 0), (1, sv_I p1), (2, sv_I (S 27 p1)), (3, sv_I (S 28 p1)), (4, sv_I (647740 : Int))] [] (sv_sts (sv_sts (sv_up (sv_up (sv_up (sv_up S 1148 0 p1) 1149 0 (0 : Int)) 1150 0 (0 : Int)) 1147 0 (0 : Int)) [68, 69, 70, 81, 82, 83, 84, 85, 86, 74, 78, 79, 80, 76, 77, 1100031] g10) [68, 69, 70, 81, 82, 83, 84, 85, 86, 71, 74, 75, 1127, 78, 79, 80, 72, 76, 77, 1143, 1144, 5, 1011, 1150, 1149, 1145, 1113, 1111, 1112, 1100031] g66)
    have md70 : sv_mod [68, 69, 70, 81, 82, 83, 84, 85, 86, 71, 74, 75, 1127, 78, 79, 80, 72, 76, 77, 1143, 1144, 5, 1011, 1150, 1149, 1145, 1113, 1111, 1112, 91, 1147, 1100031, 1148, 73] S (sv_sts (sv_sts (sv_up (sv_up (sv_up (sv_up S 1148 0 p1) 1149 0 (0 : Int)) 1150 0 (0 : Int)) 1147 0 (0 : Int)) [68, 69, 70, 81, 82, 83, 84, 85, 86, 74, 78, 79, 80, 76, 77, 1100031] g10) [68, 69, 70, 81, 82, 83, 84, 85, 86, 71, 74, 75, 1127, 78, 79, 80, 72, 76, 77, 1143, 1144, 5, 1011, 1150, 1149, 1145, 1113, 1111, 1112, 1100031] g66) := sv_mod.sts md14 (by decide)
    have md71 : sv_mod [68, 69, 70, 81, 82, 83, 84, 85, 86, 71, 74, 75, 1127, 78, 79, 80, 72, 76, 77, 1143, 1144, 5, 1011, 1150, 1149, 1145, 1113, 1111, 1112, 91, 1147, 1100031] (sv_sts (sv_up (sv_up (sv_up (sv_up S 1148 0 p1) 1149 0 (0 : Int)) 1150 0 (0 : Int)) 1147 0 (0 : Int)) [68, 69, 70, 81, 82, 83, 84, 85, 86, 74, 78, 79, 80, 76, 77, 1100031] g10) (sv_sts (sv_sts (sv_up (sv_up (sv_up (sv_up S 1148 0 p1) 1149 0 (0 : Int)) 1150 0 (0 : Int)) 1147 0 (0 : Int)) [68, 69, 70, 81, 82, 83, 84, 85, 86, 74, 78, 79, 80, 76, 77, 1100031] g10) [68, 69, 70, 81, 82, 83, 84, 85, 86, 71, 74, 75, 1127, 78, 79, 80, 72, 76, 77, 1143, 1144, 5, 1011, 1150, 1149, 1145, 1113, 1111, 1112, 1100031] g66) := sv_mod.sts (sv_mod.rf (l := [68, 69, 70, 81, 82, 83, 84, 85, 86, 71, 74, 75, 1127, 78, 79, 80, 72, 76, 77, 1143, 1144, 5, 1011, 1150, 1149, 1145, 1113, 1111, 1112, 91, 1147, 1100031]) (S := (sv_sts (sv_up (sv_up (sv_up (sv_up S 1148 0 p1) 1149 0 (0 : Int)) 1150 0 (0 : Int)) 1147 0 (0 : Int)) [68, 69, 70, 81, 82, 83, 84, 85, 86, 74, 78, 79, 80, 76, 77, 1100031] g10))) (by decide)
    have h := h g66 hpo69
    have eS := sv_mod.eq md71
    have hb := J63 (sv_sts (sv_sts (sv_up (sv_up (sv_up (sv_up S 1148 0 p1) 1149 0 (0 : Int)) 1150 0 (0 : Int)) 1147 0 (0 : Int)) [68, 69, 70, 81, 82, 83, 84, 85, 86, 74, 78, 79, 80, 76, 77, 1100031] g10) [68, 69, 70, 81, 82, 83, 84, 85, 86, 71, 74, 75, 1127, 78, 79, 80, 72, 76, 77, 1143, 1144, 5, 1011, 1150, 1149, 1145, 1113, 1111, 1112, 1100031] g66) (by rw [← eS]; exact ok67) h
    have hb : sv_T sm_XS sm_cs sm_L sm_sh 23 (q_ways p1 S) 265 665 [(0, .ref 0), (1, sv_I p1), (2, sv_I (S 27 p1)), (3, sv_I (S 28 p1)), (4, sv_I (647740 : Int))] [] (sv_sts (sv_sts (sv_up (sv_up (sv_up (sv_up S 1148 0 p1) 1149 0 (0 : Int)) 1150 0 (0 : Int)) 1147 0 (0 : Int)) [68, 69, 70, 81, 82, 83, 84, 85, 86, 74, 78, 79, 80, 76, 77, 1100031] g10) [68, 69, 70, 81, 82, 83, 84, 85, 86, 71, 74, 75, 1127, 78, 79, 80, 72, 76, 77, 1143, 1144, 5, 1011, 1150, 1149, 1145, 1113, 1111, 1112, 1100031] g66) := Eq.mpr (congrArg (fun Z => sv_T sm_XS sm_cs sm_L sm_sh 23 (q_ways p1 S) 265 665 [(0, .ref 0), (1, sv_I p1), (2, sv_I (S 27 p1)), (3, sv_I (S 28 p1)), (4, sv_I (647740 : Int))] [] Z) eS) hb
    exact sv_less (lv := [(0, .ref 0), (1, sv_I p1), (2, sv_I (S 27 p1)), (3, sv_I (S 28 p1)), (4, sv_I (647740 : Int))]) (sv_Sub_cons rfl (sv_Sub_cons rfl (sv_Sub_cons rfl (sv_Sub_cons rfl (sv_Sub_cons rfl sv_Sub_nil))))) hb
  have J1 : ((S 26 p1) = (0 : Int)) → sv_T sm_XS sm_cs sm_L sm_sh 23 (q_ways p1 S) 265 132 [(0, .ref 0), (1, sv_I p1), (2, sv_I (S 27 p1)), (3, sv_I (S 28 p1)), (4, sv_I (647740 : Int))] [] (sv_sts (sv_up (sv_up (sv_up (sv_up S 1148 0 p1) 1149 0 (0 : Int)) 1150 0 (0 : Int)) 1147 0 (0 : Int)) [68, 69, 70, 81, 82, 83, 84, 85, 86, 74, 78, 79, 80, 76, 77, 1100031] g10) := by
    intro hc
    have h := hS.2.1 hc
    refine sv_aload_n hM dX12_ways_132 rfl rfl ?_
    refine sv_iload hM dX12_ways_133 rfl rfl ?_
    obtain ⟨o72, h⟩ := h
    refine sv_callV hM dX12_ways_135 sm_iv_1066 (by decide) (sm_a0 _) rfl rfl (Nat.le_of_ble_eq_true rfl) sm_h206 (Nat.le_of_ble_eq_true rfl) (Nat.le_of_ble_eq_true rfl) (F' := 0) (Nat.le_of_ble_eq_true rfl) rfl (t_empty (647740 : Int) (sv_sts (sv_up (sv_up (sv_up (sv_up S 1148 0 p1) 1149 0 (0 : Int)) 1150 0 (0 : Int)) 1147 0 (0 : Int)) [68, 69, 70, 81, 82, 83, 84, 85, 86, 74, 78, 79, 80, 76, 77, 1100031] g10) ok11 (⟨by decide, by decide⟩ : sv_R (647740 : Int)) o72) (fun v S1 hq => ?_)
    obtain ⟨rfl, ok74, md75, hpo76⟩ := hq
    obtain ⟨g73, rfl⟩ : ∃ g, S1 = sv_sts (sv_sts (sv_up (sv_up (sv_up (sv_up S 1148 0 p1) 1149 0 (0 : Int)) 1150 0 (0 : Int)) 1147 0 (0 : Int)) [68, 69, 70, 81, 82, 83, 84, 85, 86, 74, 78, 79, 80, 76, 77, 1100031] g10) [68, 69, 70] g := ⟨_, md75.eq⟩
    show sv_T sm_XS sm_cs sm_L sm_sh 23 (q_ways p1 S) 265 138 [(0, .ref 0), (1, sv_I p1), (2, sv_I (S 27 p1)), (3, sv_I (S 28 p1)), (4, sv_I (647740 : Int))] [] (sv_sts (sv_sts (sv_up (sv_up (sv_up (sv_up S 1148 0 p1) 1149 0 (0 : Int)) 1150 0 (0 : Int)) 1147 0 (0 : Int)) [68, 69, 70, 81, 82, 83, 84, 85, 86, 74, 78, 79, 80, 76, 77, 1100031] g10) [68, 69, 70] g73)
    have md77 : sv_mod [68, 69, 70, 81, 82, 83, 84, 85, 86, 71, 74, 75, 1127, 78, 79, 80, 72, 76, 77, 1143, 1144, 5, 1011, 1150, 1149, 1145, 1113, 1111, 1112, 91, 1147, 1100031, 1148, 73] S (sv_sts (sv_sts (sv_up (sv_up (sv_up (sv_up S 1148 0 p1) 1149 0 (0 : Int)) 1150 0 (0 : Int)) 1147 0 (0 : Int)) [68, 69, 70, 81, 82, 83, 84, 85, 86, 74, 78, 79, 80, 76, 77, 1100031] g10) [68, 69, 70] g73) := sv_mod.sts md14 (by decide)
    have md78 : sv_mod [68, 69, 70, 81, 82, 83, 84, 85, 86, 71, 74, 75, 1127, 78, 79, 80, 72, 76, 77, 1143, 1144, 5, 1011, 1150, 1149, 1145, 1113, 1111, 1112, 91, 1147, 1100031] (sv_sts (sv_up (sv_up (sv_up (sv_up S 1148 0 p1) 1149 0 (0 : Int)) 1150 0 (0 : Int)) 1147 0 (0 : Int)) [68, 69, 70, 81, 82, 83, 84, 85, 86, 74, 78, 79, 80, 76, 77, 1100031] g10) (sv_sts (sv_sts (sv_up (sv_up (sv_up (sv_up S 1148 0 p1) 1149 0 (0 : Int)) 1150 0 (0 : Int)) 1147 0 (0 : Int)) [68, 69, 70, 81, 82, 83, 84, 85, 86, 74, 78, 79, 80, 76, 77, 1100031] g10) [68, 69, 70] g73) := sv_mod.sts (sv_mod.rf (l := [68, 69, 70, 81, 82, 83, 84, 85, 86, 71, 74, 75, 1127, 78, 79, 80, 72, 76, 77, 1143, 1144, 5, 1011, 1150, 1149, 1145, 1113, 1111, 1112, 91, 1147, 1100031]) (S := (sv_sts (sv_up (sv_up (sv_up (sv_up S 1148 0 p1) 1149 0 (0 : Int)) 1150 0 (0 : Int)) 1147 0 (0 : Int)) [68, 69, 70, 81, 82, 83, 84, 85, 86, 74, 78, 79, 80, 76, 77, 1100031] g10))) (by decide)
    have h := h g73 hpo76
    refine sv_aload_n hM dX12_ways_138 rfl rfl ?_
    refine sv_iload hM dX12_ways_139 rfl rfl ?_
    refine sv_iload_n hM dX12_ways_141 rfl rfl ?_
    refine sv_iload_n hM dX12_ways_142 rfl rfl ?_
    obtain ⟨o79, h⟩ := h
    refine sv_callV hM dX12_ways_143 sm_iv_1219 (by decide) (sm_a0 _) rfl rfl (Nat.le_of_ble_eq_true rfl) sm_h218 (Nat.le_of_ble_eq_true rfl) (Nat.le_of_ble_eq_true rfl) (F' := 3) (Nat.le_of_ble_eq_true rfl) rfl (t_addValue (647740 : Int) (S 27 p1) (S 28 p1) (sv_sts (sv_sts (sv_up (sv_up (sv_up (sv_up S 1148 0 p1) 1149 0 (0 : Int)) 1150 0 (0 : Int)) 1147 0 (0 : Int)) [68, 69, 70, 81, 82, 83, 84, 85, 86, 74, 78, 79, 80, 76, 77, 1100031] g10) [68, 69, 70] g73) ok74 (⟨by decide, by decide⟩ : sv_R (647740 : Int)) k41 k42 o79) (fun v S1 hq => ?_)
    obtain ⟨rfl, ok81, md82, hpo83⟩ := hq
    obtain ⟨g80, rfl⟩ : ∃ g, S1 = sv_sts (sv_sts (sv_sts (sv_up (sv_up (sv_up (sv_up S 1148 0 p1) 1149 0 (0 : Int)) 1150 0 (0 : Int)) 1147 0 (0 : Int)) [68, 69, 70, 81, 82, 83, 84, 85, 86, 74, 78, 79, 80, 76, 77, 1100031] g10) [68, 69, 70] g73) [68, 69, 70] g := ⟨_, md82.eq⟩
    show sv_T sm_XS sm_cs sm_L sm_sh 23 (q_ways p1 S) 265 146 [(0, .ref 0), (1, sv_I p1), (2, sv_I (S 27 p1)), (3, sv_I (S 28 p1)), (4, sv_I (647740 : Int))] [] (sv_sts (sv_sts (sv_sts (sv_up (sv_up (sv_up (sv_up S 1148 0 p1) 1149 0 (0 : Int)) 1150 0 (0 : Int)) 1147 0 (0 : Int)) [68, 69, 70, 81, 82, 83, 84, 85, 86, 74, 78, 79, 80, 76, 77, 1100031] g10) [68, 69, 70] g73) [68, 69, 70] g80)
    have md84 : sv_mod [68, 69, 70, 81, 82, 83, 84, 85, 86, 71, 74, 75, 1127, 78, 79, 80, 72, 76, 77, 1143, 1144, 5, 1011, 1150, 1149, 1145, 1113, 1111, 1112, 91, 1147, 1100031, 1148, 73] S (sv_sts (sv_sts (sv_sts (sv_up (sv_up (sv_up (sv_up S 1148 0 p1) 1149 0 (0 : Int)) 1150 0 (0 : Int)) 1147 0 (0 : Int)) [68, 69, 70, 81, 82, 83, 84, 85, 86, 74, 78, 79, 80, 76, 77, 1100031] g10) [68, 69, 70] g73) [68, 69, 70] g80) := sv_mod.sts md77 (by decide)
    have md85 : sv_mod [68, 69, 70, 81, 82, 83, 84, 85, 86, 71, 74, 75, 1127, 78, 79, 80, 72, 76, 77, 1143, 1144, 5, 1011, 1150, 1149, 1145, 1113, 1111, 1112, 91, 1147, 1100031] (sv_sts (sv_up (sv_up (sv_up (sv_up S 1148 0 p1) 1149 0 (0 : Int)) 1150 0 (0 : Int)) 1147 0 (0 : Int)) [68, 69, 70, 81, 82, 83, 84, 85, 86, 74, 78, 79, 80, 76, 77, 1100031] g10) (sv_sts (sv_sts (sv_sts (sv_up (sv_up (sv_up (sv_up S 1148 0 p1) 1149 0 (0 : Int)) 1150 0 (0 : Int)) 1147 0 (0 : Int)) [68, 69, 70, 81, 82, 83, 84, 85, 86, 74, 78, 79, 80, 76, 77, 1100031] g10) [68, 69, 70] g73) [68, 69, 70] g80) := sv_mod.sts md78 (by decide)
    have h := h g80 hpo83
    refine sv_aload_n hM dX12_ways_146 rfl rfl ?_
    refine sv_iload hM dX12_ways_147 rfl rfl ?_
    refine sv_aload_n hM dX12_ways_149 rfl rfl ?_
    obtain ⟨o86, h⟩ := h
    refine sv_callV hM dX12_ways_150 sm_iv_1201 (by decide) (sm_a0 _) rfl rfl (Nat.le_of_ble_eq_true rfl) sm_h230 (Nat.le_of_ble_eq_true rfl) (Nat.le_of_ble_eq_true rfl) (F' := 1) (Nat.le_of_ble_eq_true rfl) rfl (t_pushSet  (sv_sts (sv_sts (sv_sts (sv_up (sv_up (sv_up (sv_up S 1148 0 p1) 1149 0 (0 : Int)) 1150 0 (0 : Int)) 1147 0 (0 : Int)) [68, 69, 70, 81, 82, 83, 84, 85, 86, 74, 78, 79, 80, 76, 77, 1100031] g10) [68, 69, 70] g73) [68, 69, 70] g80) ok81 o86) (fun v S1 hq => ?_)
    obtain ⟨r91, rfl, hr91, ok88, md89, hpo90⟩ := hq
    obtain ⟨g87, rfl⟩ : ∃ g, S1 = sv_sts (sv_sts (sv_sts (sv_sts (sv_up (sv_up (sv_up (sv_up S 1148 0 p1) 1149 0 (0 : Int)) 1150 0 (0 : Int)) 1147 0 (0 : Int)) [68, 69, 70, 81, 82, 83, 84, 85, 86, 74, 78, 79, 80, 76, 77, 1100031] g10) [68, 69, 70] g73) [68, 69, 70] g80) [68, 69, 70, 74] g := ⟨_, md89.eq⟩
    show sv_T sm_XS sm_cs sm_L sm_sh 23 (q_ways p1 S) 265 153 [(0, .ref 0), (1, sv_I p1), (2, sv_I (S 27 p1)), (3, sv_I (S 28 p1)), (4, sv_I (647740 : Int))] [sv_I r91, sv_I (647740 : Int), .ref 0] (sv_sts (sv_sts (sv_sts (sv_sts (sv_up (sv_up (sv_up (sv_up S 1148 0 p1) 1149 0 (0 : Int)) 1150 0 (0 : Int)) 1147 0 (0 : Int)) [68, 69, 70, 81, 82, 83, 84, 85, 86, 74, 78, 79, 80, 76, 77, 1100031] g10) [68, 69, 70] g73) [68, 69, 70] g80) [68, 69, 70, 74] g87)
    have md92 : sv_mod [68, 69, 70, 81, 82, 83, 84, 85, 86, 71, 74, 75, 1127, 78, 79, 80, 72, 76, 77, 1143, 1144, 5, 1011, 1150, 1149, 1145, 1113, 1111, 1112, 91, 1147, 1100031, 1148, 73] S (sv_sts (sv_sts (sv_sts (sv_sts (sv_up (sv_up (sv_up (sv_up S 1148 0 p1) 1149 0 (0 : Int)) 1150 0 (0 : Int)) 1147 0 (0 : Int)) [68, 69, 70, 81, 82, 83, 84, 85, 86, 74, 78, 79, 80, 76, 77, 1100031] g10) [68, 69, 70] g73) [68, 69, 70] g80) [68, 69, 70, 74] g87) := sv_mod.sts md84 (by decide)
    have md93 : sv_mod [68, 69, 70, 81, 82, 83, 84, 85, 86, 71, 74, 75, 1127, 78, 79, 80, 72, 76, 77, 1143, 1144, 5, 1011, 1150, 1149, 1145, 1113, 1111, 1112, 91, 1147, 1100031] (sv_sts (sv_up (sv_up (sv_up (sv_up S 1148 0 p1) 1149 0 (0 : Int)) 1150 0 (0 : Int)) 1147 0 (0 : Int)) [68, 69, 70, 81, 82, 83, 84, 85, 86, 74, 78, 79, 80, 76, 77, 1100031] g10) (sv_sts (sv_sts (sv_sts (sv_sts (sv_up (sv_up (sv_up (sv_up S 1148 0 p1) 1149 0 (0 : Int)) 1150 0 (0 : Int)) 1147 0 (0 : Int)) [68, 69, 70, 81, 82, 83, 84, 85, 86, 74, 78, 79, 80, 76, 77, 1100031] g10) [68, 69, 70] g73) [68, 69, 70] g80) [68, 69, 70, 74] g87) := sv_mod.sts md85 (by decide)
    have h := h r91 hr91 g87 hpo90
    obtain ⟨o94, h⟩ := h
    refine sv_callV hM dX12_ways_153 sm_iv_1092 (by decide) (sm_a0 _) rfl rfl (Nat.le_of_ble_eq_true rfl) sm_h207 (Nat.le_of_ble_eq_true rfl) (Nat.le_of_ble_eq_true rfl) (F' := 0) (Nat.le_of_ble_eq_true rfl) rfl (t_copySet (647740 : Int) r91 (sv_sts (sv_sts (sv_sts (sv_sts (sv_up (sv_up (sv_up (sv_up S 1148 0 p1) 1149 0 (0 : Int)) 1150 0 (0 : Int)) 1147 0 (0 : Int)) [68, 69, 70, 81, 82, 83, 84, 85, 86, 74, 78, 79, 80, 76, 77, 1100031] g10) [68, 69, 70] g73) [68, 69, 70] g80) [68, 69, 70, 74] g87) ok88 (⟨by decide, by decide⟩ : sv_R (647740 : Int)) hr91 o94) (fun v S1 hq => ?_)
    obtain ⟨rfl, ok96, md97, hpo98⟩ := hq
    obtain ⟨g95, rfl⟩ : ∃ g, S1 = sv_sts (sv_sts (sv_sts (sv_sts (sv_sts (sv_up (sv_up (sv_up (sv_up S 1148 0 p1) 1149 0 (0 : Int)) 1150 0 (0 : Int)) 1147 0 (0 : Int)) [68, 69, 70, 81, 82, 83, 84, 85, 86, 74, 78, 79, 80, 76, 77, 1100031] g10) [68, 69, 70] g73) [68, 69, 70] g80) [68, 69, 70, 74] g87) [68, 69, 70] g := ⟨_, md97.eq⟩
    show sv_T sm_XS sm_cs sm_L sm_sh 23 (q_ways p1 S) 265 156 [(0, .ref 0), (1, sv_I p1), (2, sv_I (S 27 p1)), (3, sv_I (S 28 p1)), (4, sv_I (647740 : Int))] [] (sv_sts (sv_sts (sv_sts (sv_sts (sv_sts (sv_up (sv_up (sv_up (sv_up S 1148 0 p1) 1149 0 (0 : Int)) 1150 0 (0 : Int)) 1147 0 (0 : Int)) [68, 69, 70, 81, 82, 83, 84, 85, 86, 74, 78, 79, 80, 76, 77, 1100031] g10) [68, 69, 70] g73) [68, 69, 70] g80) [68, 69, 70, 74] g87) [68, 69, 70] g95)
    have md99 : sv_mod [68, 69, 70, 81, 82, 83, 84, 85, 86, 71, 74, 75, 1127, 78, 79, 80, 72, 76, 77, 1143, 1144, 5, 1011, 1150, 1149, 1145, 1113, 1111, 1112, 91, 1147, 1100031, 1148, 73] S (sv_sts (sv_sts (sv_sts (sv_sts (sv_sts (sv_up (sv_up (sv_up (sv_up S 1148 0 p1) 1149 0 (0 : Int)) 1150 0 (0 : Int)) 1147 0 (0 : Int)) [68, 69, 70, 81, 82, 83, 84, 85, 86, 74, 78, 79, 80, 76, 77, 1100031] g10) [68, 69, 70] g73) [68, 69, 70] g80) [68, 69, 70, 74] g87) [68, 69, 70] g95) := sv_mod.sts md92 (by decide)
    have md100 : sv_mod [68, 69, 70, 81, 82, 83, 84, 85, 86, 71, 74, 75, 1127, 78, 79, 80, 72, 76, 77, 1143, 1144, 5, 1011, 1150, 1149, 1145, 1113, 1111, 1112, 91, 1147, 1100031] (sv_sts (sv_up (sv_up (sv_up (sv_up S 1148 0 p1) 1149 0 (0 : Int)) 1150 0 (0 : Int)) 1147 0 (0 : Int)) [68, 69, 70, 81, 82, 83, 84, 85, 86, 74, 78, 79, 80, 76, 77, 1100031] g10) (sv_sts (sv_sts (sv_sts (sv_sts (sv_sts (sv_up (sv_up (sv_up (sv_up S 1148 0 p1) 1149 0 (0 : Int)) 1150 0 (0 : Int)) 1147 0 (0 : Int)) [68, 69, 70, 81, 82, 83, 84, 85, 86, 74, 78, 79, 80, 76, 77, 1100031] g10) [68, 69, 70] g73) [68, 69, 70] g80) [68, 69, 70, 74] g87) [68, 69, 70] g95) := sv_mod.sts md93 (by decide)
    have h := h g95 hpo98
    refine sv_aload_n hM dX12_ways_156 rfl rfl ?_
    obtain ⟨o101, h⟩ := h
    refine sv_callV hM dX12_ways_157 sm_iv_1222 (by decide) (sm_a0 _) rfl rfl (Nat.le_of_ble_eq_true rfl) sm_h258 (Nat.le_of_ble_eq_true rfl) (Nat.le_of_ble_eq_true rfl) (F' := 4) (Nat.le_of_ble_eq_true rfl) rfl (t_on  (sv_sts (sv_sts (sv_sts (sv_sts (sv_sts (sv_up (sv_up (sv_up (sv_up S 1148 0 p1) 1149 0 (0 : Int)) 1150 0 (0 : Int)) 1147 0 (0 : Int)) [68, 69, 70, 81, 82, 83, 84, 85, 86, 74, 78, 79, 80, 76, 77, 1100031] g10) [68, 69, 70] g73) [68, 69, 70] g80) [68, 69, 70, 74] g87) [68, 69, 70] g95) ok96 o101) (fun v S1 hq => ?_)
    obtain ⟨rfl, ok103, md104, hpo105⟩ := hq
    obtain ⟨g102, rfl⟩ : ∃ g, S1 = sv_sts (sv_sts (sv_sts (sv_sts (sv_sts (sv_sts (sv_up (sv_up (sv_up (sv_up S 1148 0 p1) 1149 0 (0 : Int)) 1150 0 (0 : Int)) 1147 0 (0 : Int)) [68, 69, 70, 81, 82, 83, 84, 85, 86, 74, 78, 79, 80, 76, 77, 1100031] g10) [68, 69, 70] g73) [68, 69, 70] g80) [68, 69, 70, 74] g87) [68, 69, 70] g95) [68, 69, 70, 81, 82, 83, 84, 85, 86, 71, 74, 75, 1127, 78, 79, 80, 72, 76, 77, 1150] g := ⟨_, md104.eq⟩
    show sv_T sm_XS sm_cs sm_L sm_sh 23 (q_ways p1 S) 265 160 [(0, .ref 0), (1, sv_I p1), (2, sv_I (S 27 p1)), (3, sv_I (S 28 p1)), (4, sv_I (647740 : Int))] [] (sv_sts (sv_sts (sv_sts (sv_sts (sv_sts (sv_sts (sv_up (sv_up (sv_up (sv_up S 1148 0 p1) 1149 0 (0 : Int)) 1150 0 (0 : Int)) 1147 0 (0 : Int)) [68, 69, 70, 81, 82, 83, 84, 85, 86, 74, 78, 79, 80, 76, 77, 1100031] g10) [68, 69, 70] g73) [68, 69, 70] g80) [68, 69, 70, 74] g87) [68, 69, 70] g95) [68, 69, 70, 81, 82, 83, 84, 85, 86, 71, 74, 75, 1127, 78, 79, 80, 72, 76, 77, 1150] g102)
    have md106 : sv_mod [68, 69, 70, 81, 82, 83, 84, 85, 86, 71, 74, 75, 1127, 78, 79, 80, 72, 76, 77, 1143, 1144, 5, 1011, 1150, 1149, 1145, 1113, 1111, 1112, 91, 1147, 1100031, 1148, 73] S (sv_sts (sv_sts (sv_sts (sv_sts (sv_sts (sv_sts (sv_up (sv_up (sv_up (sv_up S 1148 0 p1) 1149 0 (0 : Int)) 1150 0 (0 : Int)) 1147 0 (0 : Int)) [68, 69, 70, 81, 82, 83, 84, 85, 86, 74, 78, 79, 80, 76, 77, 1100031] g10) [68, 69, 70] g73) [68, 69, 70] g80) [68, 69, 70, 74] g87) [68, 69, 70] g95) [68, 69, 70, 81, 82, 83, 84, 85, 86, 71, 74, 75, 1127, 78, 79, 80, 72, 76, 77, 1150] g102) := sv_mod.sts md99 (by decide)
    have md107 : sv_mod [68, 69, 70, 81, 82, 83, 84, 85, 86, 71, 74, 75, 1127, 78, 79, 80, 72, 76, 77, 1143, 1144, 5, 1011, 1150, 1149, 1145, 1113, 1111, 1112, 91, 1147, 1100031] (sv_sts (sv_up (sv_up (sv_up (sv_up S 1148 0 p1) 1149 0 (0 : Int)) 1150 0 (0 : Int)) 1147 0 (0 : Int)) [68, 69, 70, 81, 82, 83, 84, 85, 86, 74, 78, 79, 80, 76, 77, 1100031] g10) (sv_sts (sv_sts (sv_sts (sv_sts (sv_sts (sv_sts (sv_up (sv_up (sv_up (sv_up S 1148 0 p1) 1149 0 (0 : Int)) 1150 0 (0 : Int)) 1147 0 (0 : Int)) [68, 69, 70, 81, 82, 83, 84, 85, 86, 74, 78, 79, 80, 76, 77, 1100031] g10) [68, 69, 70] g73) [68, 69, 70] g80) [68, 69, 70, 74] g87) [68, 69, 70] g95) [68, 69, 70, 81, 82, 83, 84, 85, 86, 71, 74, 75, 1127, 78, 79, 80, 72, 76, 77, 1150] g102) := sv_mod.sts md100 (by decide)
    have h := h g102 hpo105
    refine sv_goto hM dX12_ways_160 (pc' := 665) rfl ?_
    have eS := sv_mod.eq md107
    have hb := J63 (sv_sts (sv_sts (sv_sts (sv_sts (sv_sts (sv_sts (sv_up (sv_up (sv_up (sv_up S 1148 0 p1) 1149 0 (0 : Int)) 1150 0 (0 : Int)) 1147 0 (0 : Int)) [68, 69, 70, 81, 82, 83, 84, 85, 86, 74, 78, 79, 80, 76, 77, 1100031] g10) [68, 69, 70] g73) [68, 69, 70] g80) [68, 69, 70, 74] g87) [68, 69, 70] g95) [68, 69, 70, 81, 82, 83, 84, 85, 86, 71, 74, 75, 1127, 78, 79, 80, 72, 76, 77, 1150] g102) (by rw [← eS]; exact ok103) h
    have hb : sv_T sm_XS sm_cs sm_L sm_sh 23 (q_ways p1 S) 265 665 [(0, .ref 0), (1, sv_I p1), (2, sv_I (S 27 p1)), (3, sv_I (S 28 p1)), (4, sv_I (647740 : Int))] [] (sv_sts (sv_sts (sv_sts (sv_sts (sv_sts (sv_sts (sv_up (sv_up (sv_up (sv_up S 1148 0 p1) 1149 0 (0 : Int)) 1150 0 (0 : Int)) 1147 0 (0 : Int)) [68, 69, 70, 81, 82, 83, 84, 85, 86, 74, 78, 79, 80, 76, 77, 1100031] g10) [68, 69, 70] g73) [68, 69, 70] g80) [68, 69, 70, 74] g87) [68, 69, 70] g95) [68, 69, 70, 81, 82, 83, 84, 85, 86, 71, 74, 75, 1127, 78, 79, 80, 72, 76, 77, 1150] g102) := Eq.mpr (congrArg (fun Z => sv_T sm_XS sm_cs sm_L sm_sh 23 (q_ways p1 S) 265 665 [(0, .ref 0), (1, sv_I p1), (2, sv_I (S 27 p1)), (3, sv_I (S 28 p1)), (4, sv_I (647740 : Int))] [] Z) eS) hb
    exact sv_less (lv := [(0, .ref 0), (1, sv_I p1), (2, sv_I (S 27 p1)), (3, sv_I (S 28 p1)), (4, sv_I (647740 : Int))]) (sv_Sub_cons rfl (sv_Sub_cons rfl (sv_Sub_cons rfl (sv_Sub_cons rfl (sv_Sub_cons rfl sv_Sub_nil))))) hb
  have J2 : ((S 26 p1) = (1 : Int)) → sv_T sm_XS sm_cs sm_L sm_sh 23 (q_ways p1 S) 265 163 [(0, .ref 0), (1, sv_I p1), (2, sv_I (S 27 p1)), (3, sv_I (S 28 p1)), (4, sv_I (647740 : Int))] [] (sv_sts (sv_up (sv_up (sv_up (sv_up S 1148 0 p1) 1149 0 (0 : Int)) 1150 0 (0 : Int)) 1147 0 (0 : Int)) [68, 69, 70, 81, 82, 83, 84, 85, 86, 74, 78, 79, 80, 76, 77, 1100031] g10) := by
    intro hc
    have h := hS.2.2.1 hc
    refine sv_aload_n hM dX12_ways_163 rfl rfl ?_
    refine sv_iload_n hM dX12_ways_164 rfl rfl ?_
    refine sv_iload hM dX12_ways_165 rfl rfl ?_
    obtain ⟨o108, h⟩ := h
    refine sv_callV hM dX12_ways_167 sm_iv_1225 (by decide) (sm_a0 _) rfl rfl (Nat.le_of_ble_eq_true rfl) sm_h264 (Nat.le_of_ble_eq_true rfl) (Nat.le_of_ble_eq_true rfl) (F' := 2) (Nat.le_of_ble_eq_true rfl) rfl (t_scopesAt (S 27 p1) (647740 : Int) (sv_sts (sv_up (sv_up (sv_up (sv_up S 1148 0 p1) 1149 0 (0 : Int)) 1150 0 (0 : Int)) 1147 0 (0 : Int)) [68, 69, 70, 81, 82, 83, 84, 85, 86, 74, 78, 79, 80, 76, 77, 1100031] g10) ok11 k41 (⟨by decide, by decide⟩ : sv_R (647740 : Int)) o108) (fun v S1 hq => ?_)
    obtain ⟨rfl, ok110, md111, hpo112⟩ := hq
    obtain ⟨g109, rfl⟩ : ∃ g, S1 = sv_sts (sv_sts (sv_up (sv_up (sv_up (sv_up S 1148 0 p1) 1149 0 (0 : Int)) 1150 0 (0 : Int)) 1147 0 (0 : Int)) [68, 69, 70, 81, 82, 83, 84, 85, 86, 74, 78, 79, 80, 76, 77, 1100031] g10) [68, 69, 70] g := ⟨_, md111.eq⟩
    show sv_T sm_XS sm_cs sm_L sm_sh 23 (q_ways p1 S) 265 170 [(0, .ref 0), (1, sv_I p1), (2, sv_I (S 27 p1)), (3, sv_I (S 28 p1)), (4, sv_I (647740 : Int))] [] (sv_sts (sv_sts (sv_up (sv_up (sv_up (sv_up S 1148 0 p1) 1149 0 (0 : Int)) 1150 0 (0 : Int)) 1147 0 (0 : Int)) [68, 69, 70, 81, 82, 83, 84, 85, 86, 74, 78, 79, 80, 76, 77, 1100031] g10) [68, 69, 70] g109)
    have md113 : sv_mod [68, 69, 70, 81, 82, 83, 84, 85, 86, 71, 74, 75, 1127, 78, 79, 80, 72, 76, 77, 1143, 1144, 5, 1011, 1150, 1149, 1145, 1113, 1111, 1112, 91, 1147, 1100031, 1148, 73] S (sv_sts (sv_sts (sv_up (sv_up (sv_up (sv_up S 1148 0 p1) 1149 0 (0 : Int)) 1150 0 (0 : Int)) 1147 0 (0 : Int)) [68, 69, 70, 81, 82, 83, 84, 85, 86, 74, 78, 79, 80, 76, 77, 1100031] g10) [68, 69, 70] g109) := sv_mod.sts md14 (by decide)
    have md114 : sv_mod [68, 69, 70, 81, 82, 83, 84, 85, 86, 71, 74, 75, 1127, 78, 79, 80, 72, 76, 77, 1143, 1144, 5, 1011, 1150, 1149, 1145, 1113, 1111, 1112, 91, 1147, 1100031] (sv_sts (sv_up (sv_up (sv_up (sv_up S 1148 0 p1) 1149 0 (0 : Int)) 1150 0 (0 : Int)) 1147 0 (0 : Int)) [68, 69, 70, 81, 82, 83, 84, 85, 86, 74, 78, 79, 80, 76, 77, 1100031] g10) (sv_sts (sv_sts (sv_up (sv_up (sv_up (sv_up S 1148 0 p1) 1149 0 (0 : Int)) 1150 0 (0 : Int)) 1147 0 (0 : Int)) [68, 69, 70, 81, 82, 83, 84, 85, 86, 74, 78, 79, 80, 76, 77, 1100031] g10) [68, 69, 70] g109) := sv_mod.sts (sv_mod.rf (l := [68, 69, 70, 81, 82, 83, 84, 85, 86, 71, 74, 75, 1127, 78, 79, 80, 72, 76, 77, 1143, 1144, 5, 1011, 1150, 1149, 1145, 1113, 1111, 1112, 91, 1147, 1100031]) (S := (sv_sts (sv_up (sv_up (sv_up (sv_up S 1148 0 p1) 1149 0 (0 : Int)) 1150 0 (0 : Int)) 1147 0 (0 : Int)) [68, 69, 70, 81, 82, 83, 84, 85, 86, 74, 78, 79, 80, 76, 77, 1100031] g10))) (by decide)
    have h := h g109 hpo112
    refine sv_aload_n hM dX12_ways_170 rfl rfl ?_
    refine sv_callV hM dX12_ways_171 sm_iv_1135 (by decide) (sm_a0 _) rfl rfl (Nat.le_of_ble_eq_true rfl) sm_h244 (Nat.le_of_ble_eq_true rfl) (Nat.le_of_ble_eq_true rfl) (F' := 0) (Nat.le_of_ble_eq_true rfl) rfl (t_noKeys  (sv_sts (sv_sts (sv_up (sv_up (sv_up (sv_up S 1148 0 p1) 1149 0 (0 : Int)) 1150 0 (0 : Int)) 1147 0 (0 : Int)) [68, 69, 70, 81, 82, 83, 84, 85, 86, 74, 78, 79, 80, 76, 77, 1100031] g10) [68, 69, 70] g109) ok110) (fun v S1 hq => ?_)
    obtain ⟨rfl, ok116, md117, hpo118⟩ := hq
    obtain ⟨g115, rfl⟩ : ∃ g, S1 = sv_sts (sv_sts (sv_sts (sv_up (sv_up (sv_up (sv_up S 1148 0 p1) 1149 0 (0 : Int)) 1150 0 (0 : Int)) 1147 0 (0 : Int)) [68, 69, 70, 81, 82, 83, 84, 85, 86, 74, 78, 79, 80, 76, 77, 1100031] g10) [68, 69, 70] g109) [1143, 1144] g := ⟨_, md117.eq⟩
    show sv_T sm_XS sm_cs sm_L sm_sh 23 (q_ways p1 S) 265 174 [(0, .ref 0), (1, sv_I p1), (2, sv_I (S 27 p1)), (3, sv_I (S 28 p1)), (4, sv_I (647740 : Int))] [] (sv_sts (sv_sts (sv_sts (sv_up (sv_up (sv_up (sv_up S 1148 0 p1) 1149 0 (0 : Int)) 1150 0 (0 : Int)) 1147 0 (0 : Int)) [68, 69, 70, 81, 82, 83, 84, 85, 86, 74, 78, 79, 80, 76, 77, 1100031] g10) [68, 69, 70] g109) [1143, 1144] g115)
    have md119 : sv_mod [68, 69, 70, 81, 82, 83, 84, 85, 86, 71, 74, 75, 1127, 78, 79, 80, 72, 76, 77, 1143, 1144, 5, 1011, 1150, 1149, 1145, 1113, 1111, 1112, 91, 1147, 1100031, 1148, 73] S (sv_sts (sv_sts (sv_sts (sv_up (sv_up (sv_up (sv_up S 1148 0 p1) 1149 0 (0 : Int)) 1150 0 (0 : Int)) 1147 0 (0 : Int)) [68, 69, 70, 81, 82, 83, 84, 85, 86, 74, 78, 79, 80, 76, 77, 1100031] g10) [68, 69, 70] g109) [1143, 1144] g115) := sv_mod.sts md113 (by decide)
    have md120 : sv_mod [68, 69, 70, 81, 82, 83, 84, 85, 86, 71, 74, 75, 1127, 78, 79, 80, 72, 76, 77, 1143, 1144, 5, 1011, 1150, 1149, 1145, 1113, 1111, 1112, 91, 1147, 1100031] (sv_sts (sv_up (sv_up (sv_up (sv_up S 1148 0 p1) 1149 0 (0 : Int)) 1150 0 (0 : Int)) 1147 0 (0 : Int)) [68, 69, 70, 81, 82, 83, 84, 85, 86, 74, 78, 79, 80, 76, 77, 1100031] g10) (sv_sts (sv_sts (sv_sts (sv_up (sv_up (sv_up (sv_up S 1148 0 p1) 1149 0 (0 : Int)) 1150 0 (0 : Int)) 1147 0 (0 : Int)) [68, 69, 70, 81, 82, 83, 84, 85, 86, 74, 78, 79, 80, 76, 77, 1100031] g10) [68, 69, 70] g109) [1143, 1144] g115) := sv_mod.sts md114 (by decide)
    have h := h g115 hpo118
    refine sv_aload_n hM dX12_ways_174 rfl rfl ?_
    refine sv_iload_n hM dX12_ways_175 rfl rfl ?_
    obtain ⟨o121, h⟩ := h
    refine sv_callV hM dX12_ways_176 sm_iv_1138 (by decide) (sm_a0 _) rfl rfl (Nat.le_of_ble_eq_true rfl) sm_h241 (Nat.le_of_ble_eq_true rfl) (Nat.le_of_ble_eq_true rfl) (F' := 0) (Nat.le_of_ble_eq_true rfl) rfl (t_addKey (S 28 p1) (sv_sts (sv_sts (sv_sts (sv_up (sv_up (sv_up (sv_up S 1148 0 p1) 1149 0 (0 : Int)) 1150 0 (0 : Int)) 1147 0 (0 : Int)) [68, 69, 70, 81, 82, 83, 84, 85, 86, 74, 78, 79, 80, 76, 77, 1100031] g10) [68, 69, 70] g109) [1143, 1144] g115) ok116 k42 o121) (fun v S1 hq => ?_)
    obtain ⟨rfl, ok123, md124, hpo125⟩ := hq
    obtain ⟨g122, rfl⟩ : ∃ g, S1 = sv_sts (sv_sts (sv_sts (sv_sts (sv_up (sv_up (sv_up (sv_up S 1148 0 p1) 1149 0 (0 : Int)) 1150 0 (0 : Int)) 1147 0 (0 : Int)) [68, 69, 70, 81, 82, 83, 84, 85, 86, 74, 78, 79, 80, 76, 77, 1100031] g10) [68, 69, 70] g109) [1143, 1144] g115) [1143, 1144] g := ⟨_, md124.eq⟩
    show sv_T sm_XS sm_cs sm_L sm_sh 23 (q_ways p1 S) 265 179 [(0, .ref 0), (1, sv_I p1), (2, sv_I (S 27 p1)), (3, sv_I (S 28 p1)), (4, sv_I (647740 : Int))] [] (sv_sts (sv_sts (sv_sts (sv_sts (sv_up (sv_up (sv_up (sv_up S 1148 0 p1) 1149 0 (0 : Int)) 1150 0 (0 : Int)) 1147 0 (0 : Int)) [68, 69, 70, 81, 82, 83, 84, 85, 86, 74, 78, 79, 80, 76, 77, 1100031] g10) [68, 69, 70] g109) [1143, 1144] g115) [1143, 1144] g122)
    have md126 : sv_mod [68, 69, 70, 81, 82, 83, 84, 85, 86, 71, 74, 75, 1127, 78, 79, 80, 72, 76, 77, 1143, 1144, 5, 1011, 1150, 1149, 1145, 1113, 1111, 1112, 91, 1147, 1100031, 1148, 73] S (sv_sts (sv_sts (sv_sts (sv_sts (sv_up (sv_up (sv_up (sv_up S 1148 0 p1) 1149 0 (0 : Int)) 1150 0 (0 : Int)) 1147 0 (0 : Int)) [68, 69, 70, 81, 82, 83, 84, 85, 86, 74, 78, 79, 80, 76, 77, 1100031] g10) [68, 69, 70] g109) [1143, 1144] g115) [1143, 1144] g122) := sv_mod.sts md119 (by decide)
    have md127 : sv_mod [68, 69, 70, 81, 82, 83, 84, 85, 86, 71, 74, 75, 1127, 78, 79, 80, 72, 76, 77, 1143, 1144, 5, 1011, 1150, 1149, 1145, 1113, 1111, 1112, 91, 1147, 1100031] (sv_sts (sv_up (sv_up (sv_up (sv_up S 1148 0 p1) 1149 0 (0 : Int)) 1150 0 (0 : Int)) 1147 0 (0 : Int)) [68, 69, 70, 81, 82, 83, 84, 85, 86, 74, 78, 79, 80, 76, 77, 1100031] g10) (sv_sts (sv_sts (sv_sts (sv_sts (sv_up (sv_up (sv_up (sv_up S 1148 0 p1) 1149 0 (0 : Int)) 1150 0 (0 : Int)) 1147 0 (0 : Int)) [68, 69, 70, 81, 82, 83, 84, 85, 86, 74, 78, 79, 80, 76, 77, 1100031] g10) [68, 69, 70] g109) [1143, 1144] g115) [1143, 1144] g122) := sv_mod.sts md120 (by decide)
    have h := h g122 hpo125
    refine sv_aload_n hM dX12_ways_179 rfl rfl ?_
    refine sv_iload hM dX12_ways_180 rfl rfl ?_
    refine sv_iconst (d := (1 : Int)) hM dX12_ways_182 rfl rfl ?_
    refine sv_iadd hM dX12_ways_183 rfl ?_
    obtain ⟨o128, h⟩ := h
    obtain ⟨o129, h⟩ := h
    refine sv_callV hM dX12_ways_184 sm_iv_1066 (by decide) (sm_a0 _) rfl rfl (Nat.le_of_ble_eq_true rfl) sm_h206 (Nat.le_of_ble_eq_true rfl) (Nat.le_of_ble_eq_true rfl) (F' := 0) (Nat.le_of_ble_eq_true rfl) rfl (t_empty ((647740 : Int) + (1 : Int)) (sv_sts (sv_sts (sv_sts (sv_sts (sv_up (sv_up (sv_up (sv_up S 1148 0 p1) 1149 0 (0 : Int)) 1150 0 (0 : Int)) 1147 0 (0 : Int)) [68, 69, 70, 81, 82, 83, 84, 85, 86, 74, 78, 79, 80, 76, 77, 1100031] g10) [68, 69, 70] g109) [1143, 1144] g115) [1143, 1144] g122) ok123 o128 o129) (fun v S1 hq => ?_)
    obtain ⟨rfl, ok131, md132, hpo133⟩ := hq
    obtain ⟨g130, rfl⟩ : ∃ g, S1 = sv_sts (sv_sts (sv_sts (sv_sts (sv_sts (sv_up (sv_up (sv_up (sv_up S 1148 0 p1) 1149 0 (0 : Int)) 1150 0 (0 : Int)) 1147 0 (0 : Int)) [68, 69, 70, 81, 82, 83, 84, 85, 86, 74, 78, 79, 80, 76, 77, 1100031] g10) [68, 69, 70] g109) [1143, 1144] g115) [1143, 1144] g122) [68, 69, 70] g := ⟨_, md132.eq⟩
    show sv_T sm_XS sm_cs sm_L sm_sh 23 (q_ways p1 S) 265 187 [(0, .ref 0), (1, sv_I p1), (2, sv_I (S 27 p1)), (3, sv_I (S 28 p1)), (4, sv_I (647740 : Int))] [] (sv_sts (sv_sts (sv_sts (sv_sts (sv_sts (sv_up (sv_up (sv_up (sv_up S 1148 0 p1) 1149 0 (0 : Int)) 1150 0 (0 : Int)) 1147 0 (0 : Int)) [68, 69, 70, 81, 82, 83, 84, 85, 86, 74, 78, 79, 80, 76, 77, 1100031] g10) [68, 69, 70] g109) [1143, 1144] g115) [1143, 1144] g122) [68, 69, 70] g130)
    have md134 : sv_mod [68, 69, 70, 81, 82, 83, 84, 85, 86, 71, 74, 75, 1127, 78, 79, 80, 72, 76, 77, 1143, 1144, 5, 1011, 1150, 1149, 1145, 1113, 1111, 1112, 91, 1147, 1100031, 1148, 73] S (sv_sts (sv_sts (sv_sts (sv_sts (sv_sts (sv_up (sv_up (sv_up (sv_up S 1148 0 p1) 1149 0 (0 : Int)) 1150 0 (0 : Int)) 1147 0 (0 : Int)) [68, 69, 70, 81, 82, 83, 84, 85, 86, 74, 78, 79, 80, 76, 77, 1100031] g10) [68, 69, 70] g109) [1143, 1144] g115) [1143, 1144] g122) [68, 69, 70] g130) := sv_mod.sts md126 (by decide)
    have md135 : sv_mod [68, 69, 70, 81, 82, 83, 84, 85, 86, 71, 74, 75, 1127, 78, 79, 80, 72, 76, 77, 1143, 1144, 5, 1011, 1150, 1149, 1145, 1113, 1111, 1112, 91, 1147, 1100031] (sv_sts (sv_up (sv_up (sv_up (sv_up S 1148 0 p1) 1149 0 (0 : Int)) 1150 0 (0 : Int)) 1147 0 (0 : Int)) [68, 69, 70, 81, 82, 83, 84, 85, 86, 74, 78, 79, 80, 76, 77, 1100031] g10) (sv_sts (sv_sts (sv_sts (sv_sts (sv_sts (sv_up (sv_up (sv_up (sv_up S 1148 0 p1) 1149 0 (0 : Int)) 1150 0 (0 : Int)) 1147 0 (0 : Int)) [68, 69, 70, 81, 82, 83, 84, 85, 86, 74, 78, 79, 80, 76, 77, 1100031] g10) [68, 69, 70] g109) [1143, 1144] g115) [1143, 1144] g122) [68, 69, 70] g130) := sv_mod.sts md127 (by decide)
    have h := h g130 hpo133
    refine sv_iconst (d := (0 : Int)) hM dX12_ways_187 rfl rfl ?_
    refine sv_istore hM dX12_ways_188 (by decide) rfl ?_
    show sv_T sm_XS sm_cs sm_L sm_sh 23 (q_ways p1 S) 265 190 [(0, .ref 0), (1, sv_I p1), (2, sv_I (S 27 p1)), (3, sv_I (S 28 p1)), (4, sv_I (647740 : Int)), (5, sv_I (0 : Int))] [] (sv_sts (sv_sts (sv_sts (sv_sts (sv_sts (sv_up (sv_up (sv_up (sv_up S 1148 0 p1) 1149 0 (0 : Int)) 1150 0 (0 : Int)) 1147 0 (0 : Int)) [68, 69, 70, 81, 82, 83, 84, 85, 86, 74, 78, 79, 80, 76, 77, 1100031] g10) [68, 69, 70] g109) [1143, 1144] g115) [1143, 1144] g122) [68, 69, 70] g130)
    obtain ⟨hin139, h⟩ := h
    have hJ : ∀ a : Int × sv_S, (sv_R a.1 ∧ sm_ok (sv_sts (sv_sts (sv_sts (sv_sts (sv_sts (sv_sts (sv_up (sv_up (sv_up (sv_up S 1148 0 p1) 1149 0 (0 : Int)) 1150 0 (0 : Int)) 1147 0 (0 : Int)) [68, 69, 70, 81, 82, 83, 84, 85, 86, 74, 78, 79, 80, 76, 77, 1100031] g10) [68, 69, 70] g109) [1143, 1144] g115) [1143, 1144] g122) [68, 69, 70] g130) [68, 69, 70] a.2) ∧ (0 ≤ a.1 ∧ a.1 ≤ (S 1071 0) ∧ sm_pt (a.2 68) (a.2 69) (a.2 70) = sm_pt (g130 68) (g130 69) (g130 70))) → sv_T sm_XS sm_cs sm_L sm_sh 23 (q_ways p1 S) 265 190 [(0, .ref 0), (1, sv_I p1), (2, sv_I (S 27 p1)), (3, sv_I (S 28 p1)), (4, sv_I (647740 : Int)), (5, sv_I a.1)] [] (sv_sts (sv_sts (sv_sts (sv_sts (sv_sts (sv_sts (sv_up (sv_up (sv_up (sv_up S 1148 0 p1) 1149 0 (0 : Int)) 1150 0 (0 : Int)) 1147 0 (0 : Int)) [68, 69, 70, 81, 82, 83, 84, 85, 86, 74, 78, 79, 80, 76, 77, 1100031] g10) [68, 69, 70] g109) [1143, 1144] g115) [1143, 1144] g122) [68, 69, 70] g130) [68, 69, 70] a.2) := by
      refine sv_loop (α := Int × sv_S) (fun a => sv_R a.1 ∧ sm_ok (sv_sts (sv_sts (sv_sts (sv_sts (sv_sts (sv_sts (sv_up (sv_up (sv_up (sv_up S 1148 0 p1) 1149 0 (0 : Int)) 1150 0 (0 : Int)) 1147 0 (0 : Int)) [68, 69, 70, 81, 82, 83, 84, 85, 86, 74, 78, 79, 80, 76, 77, 1100031] g10) [68, 69, 70] g109) [1143, 1144] g115) [1143, 1144] g122) [68, 69, 70] g130) [68, 69, 70] a.2) ∧ (0 ≤ a.1 ∧ a.1 ≤ (S 1071 0) ∧ sm_pt (a.2 68) (a.2 69) (a.2 70) = sm_pt (g130 68) (g130 69) (g130 70))) (fun a => (S 1071 0) - a.1) (fun a => sv_T sm_XS sm_cs sm_L sm_sh 23 (q_ways p1 S) 265 190 [(0, .ref 0), (1, sv_I p1), (2, sv_I (S 27 p1)), (3, sv_I (S 28 p1)), (4, sv_I (647740 : Int)), (5, sv_I a.1)] [] (sv_sts (sv_sts (sv_sts (sv_sts (sv_sts (sv_sts (sv_up (sv_up (sv_up (sv_up S 1148 0 p1) 1149 0 (0 : Int)) 1150 0 (0 : Int)) 1147 0 (0 : Int)) [68, 69, 70, 81, 82, 83, 84, 85, 86, 74, 78, 79, 80, 76, 77, 1100031] g10) [68, 69, 70] g109) [1143, 1144] g115) [1143, 1144] g122) [68, 69, 70] g130) [68, 69, 70] a.2)) (fun a q => (h a.1 q.1 a.2 q.2.2).1) (fun a q ih138 => ?_)
      obtain ⟨l5_137, g136⟩ := a
      obtain ⟨hl5_137, ok140, hin139i⟩ := q
      have h := (h l5_137 hl5_137 g136 hin139i).2
      show sv_T sm_XS sm_cs sm_L sm_sh 23 (q_ways p1 S) 265 190 [(0, .ref 0), (1, sv_I p1), (2, sv_I (S 27 p1)), (3, sv_I (S 28 p1)), (4, sv_I (647740 : Int)), (5, sv_I l5_137)] [] (sv_sts (sv_sts (sv_sts (sv_sts (sv_sts (sv_sts (sv_up (sv_up (sv_up (sv_up S 1148 0 p1) 1149 0 (0 : Int)) 1150 0 (0 : Int)) 1147 0 (0 : Int)) [68, 69, 70, 81, 82, 83, 84, 85, 86, 74, 78, 79, 80, 76, 77, 1100031] g10) [68, 69, 70] g109) [1143, 1144] g115) [1143, 1144] g122) [68, 69, 70] g130) [68, 69, 70] g136)
      have md141 : sv_mod [68, 69, 70, 81, 82, 83, 84, 85, 86, 71, 74, 75, 1127, 78, 79, 80, 72, 76, 77, 1143, 1144, 5, 1011, 1150, 1149, 1145, 1113, 1111, 1112, 91, 1147, 1100031, 1148, 73] S (sv_sts (sv_sts (sv_sts (sv_sts (sv_sts (sv_sts (sv_up (sv_up (sv_up (sv_up S 1148 0 p1) 1149 0 (0 : Int)) 1150 0 (0 : Int)) 1147 0 (0 : Int)) [68, 69, 70, 81, 82, 83, 84, 85, 86, 74, 78, 79, 80, 76, 77, 1100031] g10) [68, 69, 70] g109) [1143, 1144] g115) [1143, 1144] g122) [68, 69, 70] g130) [68, 69, 70] g136) := sv_mod.sts md134 (by decide)
      have md142 : sv_mod [68, 69, 70, 81, 82, 83, 84, 85, 86, 71, 74, 75, 1127, 78, 79, 80, 72, 76, 77, 1143, 1144, 5, 1011, 1150, 1149, 1145, 1113, 1111, 1112, 91, 1147, 1100031] (sv_sts (sv_up (sv_up (sv_up (sv_up S 1148 0 p1) 1149 0 (0 : Int)) 1150 0 (0 : Int)) 1147 0 (0 : Int)) [68, 69, 70, 81, 82, 83, 84, 85, 86, 74, 78, 79, 80, 76, 77, 1100031] g10) (sv_sts (sv_sts (sv_sts (sv_sts (sv_sts (sv_sts (sv_up (sv_up (sv_up (sv_up S 1148 0 p1) 1149 0 (0 : Int)) 1150 0 (0 : Int)) 1147 0 (0 : Int)) [68, 69, 70, 81, 82, 83, 84, 85, 86, 74, 78, 79, 80, 76, 77, 1100031] g10) [68, 69, 70] g109) [1143, 1144] g115) [1143, 1144] g122) [68, 69, 70] g130) [68, 69, 70] g136) := sv_mod.sts md135 (by decide)
      have md143 : sv_mod [68, 69, 70] (sv_sts (sv_sts (sv_sts (sv_sts (sv_sts (sv_up (sv_up (sv_up (sv_up S 1148 0 p1) 1149 0 (0 : Int)) 1150 0 (0 : Int)) 1147 0 (0 : Int)) [68, 69, 70, 81, 82, 83, 84, 85, 86, 74, 78, 79, 80, 76, 77, 1100031] g10) [68, 69, 70] g109) [1143, 1144] g115) [1143, 1144] g122) [68, 69, 70] g130) (sv_sts (sv_sts (sv_sts (sv_sts (sv_sts (sv_sts (sv_up (sv_up (sv_up (sv_up S 1148 0 p1) 1149 0 (0 : Int)) 1150 0 (0 : Int)) 1147 0 (0 : Int)) [68, 69, 70, 81, 82, 83, 84, 85, 86, 74, 78, 79, 80, 76, 77, 1100031] g10) [68, 69, 70] g109) [1143, 1144] g115) [1143, 1144] g122) [68, 69, 70] g130) [68, 69, 70] g136) := sv_mod.sts sv_mod.rf (by decide)
      refine sv_iload hM dX12_ways_190 rfl rfl ?_
      refine sv_aload_n hM dX12_ways_192 rfl rfl ?_
      have k144 : sv_R (S 1071 0) := sm_okI ok140 sm_r1071 0
      have h := h k144
      refine sv_getI hM dX12_ways_193 sm_fl_765 (sm_a0 _) sm_k71 rfl (x := (S 1071 0)) rfl ?_
      refine sv_icmp_ge hM dX12_ways_196 hl5_137 k144 (t := 245) rfl rfl (fun hc => ?_) (fun hc => ?_)
      · have h := h.1 (hc)
        refine sv_aload_n hM dX12_ways_245 rfl rfl ?_
        refine sv_iload hM dX12_ways_246 rfl rfl ?_
        refine sv_iconst (d := (1 : Int)) hM dX12_ways_248 rfl rfl ?_
        refine sv_iadd hM dX12_ways_249 rfl ?_
        refine sv_aload_n hM dX12_ways_250 rfl rfl ?_
        obtain ⟨o145, h⟩ := h
        refine sv_callV hM dX12_ways_251 sm_iv_1201 (by decide) (sm_a0 _) rfl rfl (Nat.le_of_ble_eq_true rfl) sm_h230 (Nat.le_of_ble_eq_true rfl) (Nat.le_of_ble_eq_true rfl) (F' := 1) (Nat.le_of_ble_eq_true rfl) rfl (t_pushSet  (sv_sts (sv_sts (sv_sts (sv_sts (sv_sts (sv_sts (sv_up (sv_up (sv_up (sv_up S 1148 0 p1) 1149 0 (0 : Int)) 1150 0 (0 : Int)) 1147 0 (0 : Int)) [68, 69, 70, 81, 82, 83, 84, 85, 86, 74, 78, 79, 80, 76, 77, 1100031] g10) [68, 69, 70] g109) [1143, 1144] g115) [1143, 1144] g122) [68, 69, 70] g130) [68, 69, 70] g136) ok140 o145) (fun v S1 hq => ?_)
        obtain ⟨r150, rfl, hr150, ok147, md148, hpo149⟩ := hq
        obtain ⟨g146, rfl⟩ : ∃ g, S1 = sv_sts (sv_sts (sv_sts (sv_sts (sv_sts (sv_sts (sv_sts (sv_up (sv_up (sv_up (sv_up S 1148 0 p1) 1149 0 (0 : Int)) 1150 0 (0 : Int)) 1147 0 (0 : Int)) [68, 69, 70, 81, 82, 83, 84, 85, 86, 74, 78, 79, 80, 76, 77, 1100031] g10) [68, 69, 70] g109) [1143, 1144] g115) [1143, 1144] g122) [68, 69, 70] g130) [68, 69, 70] g136) [68, 69, 70, 74] g := ⟨_, md148.eq⟩
        show sv_T sm_XS sm_cs sm_L sm_sh 23 (q_ways p1 S) 265 254 [(0, .ref 0), (1, sv_I p1), (2, sv_I (S 27 p1)), (3, sv_I (S 28 p1)), (4, sv_I (647740 : Int)), (5, sv_I l5_137)] [sv_I r150, sv_I ((647740 : Int) + (1 : Int)), .ref 0] (sv_sts (sv_sts (sv_sts (sv_sts (sv_sts (sv_sts (sv_sts (sv_up (sv_up (sv_up (sv_up S 1148 0 p1) 1149 0 (0 : Int)) 1150 0 (0 : Int)) 1147 0 (0 : Int)) [68, 69, 70, 81, 82, 83, 84, 85, 86, 74, 78, 79, 80, 76, 77, 1100031] g10) [68, 69, 70] g109) [1143, 1144] g115) [1143, 1144] g122) [68, 69, 70] g130) [68, 69, 70] g136) [68, 69, 70, 74] g146)
        have md151 : sv_mod [68, 69, 70, 81, 82, 83, 84, 85, 86, 71, 74, 75, 1127, 78, 79, 80, 72, 76, 77, 1143, 1144, 5, 1011, 1150, 1149, 1145, 1113, 1111, 1112, 91, 1147, 1100031, 1148, 73] S (sv_sts (sv_sts (sv_sts (sv_sts (sv_sts (sv_sts (sv_sts (sv_up (sv_up (sv_up (sv_up S 1148 0 p1) 1149 0 (0 : Int)) 1150 0 (0 : Int)) 1147 0 (0 : Int)) [68, 69, 70, 81, 82, 83, 84, 85, 86, 74, 78, 79, 80, 76, 77, 1100031] g10) [68, 69, 70] g109) [1143, 1144] g115) [1143, 1144] g122) [68, 69, 70] g130) [68, 69, 70] g136) [68, 69, 70, 74] g146) := sv_mod.sts md141 (by decide)
        have md152 : sv_mod [68, 69, 70, 81, 82, 83, 84, 85, 86, 71, 74, 75, 1127, 78, 79, 80, 72, 76, 77, 1143, 1144, 5, 1011, 1150, 1149, 1145, 1113, 1111, 1112, 91, 1147, 1100031] (sv_sts (sv_up (sv_up (sv_up (sv_up S 1148 0 p1) 1149 0 (0 : Int)) 1150 0 (0 : Int)) 1147 0 (0 : Int)) [68, 69, 70, 81, 82, 83, 84, 85, 86, 74, 78, 79, 80, 76, 77, 1100031] g10) (sv_sts (sv_sts (sv_sts (sv_sts (sv_sts (sv_sts (sv_sts (sv_up (sv_up (sv_up (sv_up S 1148 0 p1) 1149 0 (0 : Int)) 1150 0 (0 : Int)) 1147 0 (0 : Int)) [68, 69, 70, 81, 82, 83, 84, 85, 86, 74, 78, 79, 80, 76, 77, 1100031] g10) [68, 69, 70] g109) [1143, 1144] g115) [1143, 1144] g122) [68, 69, 70] g130) [68, 69, 70] g136) [68, 69, 70, 74] g146) := sv_mod.sts md142 (by decide)
        have h := h r150 hr150 g146 hpo149
        obtain ⟨o153, h⟩ := h
        refine sv_callV hM dX12_ways_254 sm_iv_1092 (by decide) (sm_a0 _) rfl rfl (Nat.le_of_ble_eq_true rfl) sm_h207 (Nat.le_of_ble_eq_true rfl) (Nat.le_of_ble_eq_true rfl) (F' := 0) (Nat.le_of_ble_eq_true rfl) rfl (t_copySet ((647740 : Int) + (1 : Int)) r150 (sv_sts (sv_sts (sv_sts (sv_sts (sv_sts (sv_sts (sv_sts (sv_up (sv_up (sv_up (sv_up S 1148 0 p1) 1149 0 (0 : Int)) 1150 0 (0 : Int)) 1147 0 (0 : Int)) [68, 69, 70, 81, 82, 83, 84, 85, 86, 74, 78, 79, 80, 76, 77, 1100031] g10) [68, 69, 70] g109) [1143, 1144] g115) [1143, 1144] g122) [68, 69, 70] g130) [68, 69, 70] g136) [68, 69, 70, 74] g146) ok147 o128 hr150 o153) (fun v S1 hq => ?_)
        obtain ⟨rfl, ok155, md156, hpo157⟩ := hq
        obtain ⟨g154, rfl⟩ : ∃ g, S1 = sv_sts (sv_sts (sv_sts (sv_sts (sv_sts (sv_sts (sv_sts (sv_sts (sv_up (sv_up (sv_up (sv_up S 1148 0 p1) 1149 0 (0 : Int)) 1150 0 (0 : Int)) 1147 0 (0 : Int)) [68, 69, 70, 81, 82, 83, 84, 85, 86, 74, 78, 79, 80, 76, 77, 1100031] g10) [68, 69, 70] g109) [1143, 1144] g115) [1143, 1144] g122) [68, 69, 70] g130) [68, 69, 70] g136) [68, 69, 70, 74] g146) [68, 69, 70] g := ⟨_, md156.eq⟩
        show sv_T sm_XS sm_cs sm_L sm_sh 23 (q_ways p1 S) 265 257 [(0, .ref 0), (1, sv_I p1), (2, sv_I (S 27 p1)), (3, sv_I (S 28 p1)), (4, sv_I (647740 : Int)), (5, sv_I l5_137)] [] (sv_sts (sv_sts (sv_sts (sv_sts (sv_sts (sv_sts (sv_sts (sv_sts (sv_up (sv_up (sv_up (sv_up S 1148 0 p1) 1149 0 (0 : Int)) 1150 0 (0 : Int)) 1147 0 (0 : Int)) [68, 69, 70, 81, 82, 83, 84, 85, 86, 74, 78, 79, 80, 76, 77, 1100031] g10) [68, 69, 70] g109) [1143, 1144] g115) [1143, 1144] g122) [68, 69, 70] g130) [68, 69, 70] g136) [68, 69, 70, 74] g146) [68, 69, 70] g154)
        have md158 : sv_mod [68, 69, 70, 81, 82, 83, 84, 85, 86, 71, 74, 75, 1127, 78, 79, 80, 72, 76, 77, 1143, 1144, 5, 1011, 1150, 1149, 1145, 1113, 1111, 1112, 91, 1147, 1100031, 1148, 73] S (sv_sts (sv_sts (sv_sts (sv_sts (sv_sts (sv_sts (sv_sts (sv_sts (sv_up (sv_up (sv_up (sv_up S 1148 0 p1) 1149 0 (0 : Int)) 1150 0 (0 : Int)) 1147 0 (0 : Int)) [68, 69, 70, 81, 82, 83, 84, 85, 86, 74, 78, 79, 80, 76, 77, 1100031] g10) [68, 69, 70] g109) [1143, 1144] g115) [1143, 1144] g122) [68, 69, 70] g130) [68, 69, 70] g136) [68, 69, 70, 74] g146) [68, 69, 70] g154) := sv_mod.sts md151 (by decide)
        have md159 : sv_mod [68, 69, 70, 81, 82, 83, 84, 85, 86, 71, 74, 75, 1127, 78, 79, 80, 72, 76, 77, 1143, 1144, 5, 1011, 1150, 1149, 1145, 1113, 1111, 1112, 91, 1147, 1100031] (sv_sts (sv_up (sv_up (sv_up (sv_up S 1148 0 p1) 1149 0 (0 : Int)) 1150 0 (0 : Int)) 1147 0 (0 : Int)) [68, 69, 70, 81, 82, 83, 84, 85, 86, 74, 78, 79, 80, 76, 77, 1100031] g10) (sv_sts (sv_sts (sv_sts (sv_sts (sv_sts (sv_sts (sv_sts (sv_sts (sv_up (sv_up (sv_up (sv_up S 1148 0 p1) 1149 0 (0 : Int)) 1150 0 (0 : Int)) 1147 0 (0 : Int)) [68, 69, 70, 81, 82, 83, 84, 85, 86, 74, 78, 79, 80, 76, 77, 1100031] g10) [68, 69, 70] g109) [1143, 1144] g115) [1143, 1144] g122) [68, 69, 70] g130) [68, 69, 70] g136) [68, 69, 70, 74] g146) [68, 69, 70] g154) := sv_mod.sts md152 (by decide)
        have h := h g154 hpo157
        refine sv_aload_n hM dX12_ways_257 rfl rfl ?_
        refine sv_iload hM dX12_ways_258 rfl rfl ?_
        refine sv_iconst (d := (1 : Int)) hM dX12_ways_260 rfl rfl ?_
        refine sv_iadd hM dX12_ways_261 rfl ?_
        refine sv_callV hM dX12_ways_262 sm_iv_1231 (by decide) (sm_a0 _) rfl rfl (Nat.le_of_ble_eq_true rfl) sm_h211 (Nat.le_of_ble_eq_true rfl) (Nat.le_of_ble_eq_true rfl) (F' := 2) (Nat.le_of_ble_eq_true rfl) rfl (t_isEmpty ((647740 : Int) + (1 : Int)) (sv_sts (sv_sts (sv_sts (sv_sts (sv_sts (sv_sts (sv_sts (sv_sts (sv_up (sv_up (sv_up (sv_up S 1148 0 p1) 1149 0 (0 : Int)) 1150 0 (0 : Int)) 1147 0 (0 : Int)) [68, 69, 70, 81, 82, 83, 84, 85, 86, 74, 78, 79, 80, 76, 77, 1100031] g10) [68, 69, 70] g109) [1143, 1144] g115) [1143, 1144] g122) [68, 69, 70] g130) [68, 69, 70] g136) [68, 69, 70, 74] g146) [68, 69, 70] g154) ok155 o128 o129) (fun v S1 hq => ?_)
        obtain ⟨r164, rfl, hr164, ok161, md162, hpo163⟩ := hq
        obtain rfl : (sv_sts (sv_sts (sv_sts (sv_sts (sv_sts (sv_sts (sv_sts (sv_sts (sv_up (sv_up (sv_up (sv_up S 1148 0 p1) 1149 0 (0 : Int)) 1150 0 (0 : Int)) 1147 0 (0 : Int)) [68, 69, 70, 81, 82, 83, 84, 85, 86, 74, 78, 79, 80, 76, 77, 1100031] g10) [68, 69, 70] g109) [1143, 1144] g115) [1143, 1144] g122) [68, 69, 70] g130) [68, 69, 70] g136) [68, 69, 70, 74] g146) [68, 69, 70] g154) = S1 := (funext fun j => md162 j (by intro q; cases q)).symm
        show sv_T sm_XS sm_cs sm_L sm_sh 23 (q_ways p1 S) 265 265 [(0, .ref 0), (1, sv_I p1), (2, sv_I (S 27 p1)), (3, sv_I (S 28 p1)), (4, sv_I (647740 : Int)), (5, sv_I l5_137)] [sv_I r164] (sv_sts (sv_sts (sv_sts (sv_sts (sv_sts (sv_sts (sv_sts (sv_sts (sv_up (sv_up (sv_up (sv_up S 1148 0 p1) 1149 0 (0 : Int)) 1150 0 (0 : Int)) 1147 0 (0 : Int)) [68, 69, 70, 81, 82, 83, 84, 85, 86, 74, 78, 79, 80, 76, 77, 1100031] g10) [68, 69, 70] g109) [1143, 1144] g115) [1143, 1144] g122) [68, 69, 70] g130) [68, 69, 70] g136) [68, 69, 70, 74] g146) [68, 69, 70] g154)
        have h := h r164 hr164 hpo163
        refine sv_cond_ne hM dX12_ways_265 hr164 (t := 665) rfl rfl (fun hc => ?_) (fun hc => ?_)
        · have h := h.1 (hc)
          have eS := sv_mod.eq md159
          have hb := J63 (sv_sts (sv_sts (sv_sts (sv_sts (sv_sts (sv_sts (sv_sts (sv_sts (sv_up (sv_up (sv_up (sv_up S 1148 0 p1) 1149 0 (0 : Int)) 1150 0 (0 : Int)) 1147 0 (0 : Int)) [68, 69, 70, 81, 82, 83, 84, 85, 86, 74, 78, 79, 80, 76, 77, 1100031] g10) [68, 69, 70] g109) [1143, 1144] g115) [1143, 1144] g122) [68, 69, 70] g130) [68, 69, 70] g136) [68, 69, 70, 74] g146) [68, 69, 70] g154) (by rw [← eS]; exact ok161) h
          have hb : sv_T sm_XS sm_cs sm_L sm_sh 23 (q_ways p1 S) 265 665 [(0, .ref 0), (1, sv_I p1), (2, sv_I (S 27 p1)), (3, sv_I (S 28 p1)), (4, sv_I (647740 : Int))] [] (sv_sts (sv_sts (sv_sts (sv_sts (sv_sts (sv_sts (sv_sts (sv_sts (sv_up (sv_up (sv_up (sv_up S 1148 0 p1) 1149 0 (0 : Int)) 1150 0 (0 : Int)) 1147 0 (0 : Int)) [68, 69, 70, 81, 82, 83, 84, 85, 86, 74, 78, 79, 80, 76, 77, 1100031] g10) [68, 69, 70] g109) [1143, 1144] g115) [1143, 1144] g122) [68, 69, 70] g130) [68, 69, 70] g136) [68, 69, 70, 74] g146) [68, 69, 70] g154) := Eq.mpr (congrArg (fun Z => sv_T sm_XS sm_cs sm_L sm_sh 23 (q_ways p1 S) 265 665 [(0, .ref 0), (1, sv_I p1), (2, sv_I (S 27 p1)), (3, sv_I (S 28 p1)), (4, sv_I (647740 : Int))] [] Z) eS) hb
          exact sv_less (lv := [(0, .ref 0), (1, sv_I p1), (2, sv_I (S 27 p1)), (3, sv_I (S 28 p1)), (4, sv_I (647740 : Int))]) (sv_Sub_cons rfl (sv_Sub_cons rfl (sv_Sub_cons rfl (sv_Sub_cons rfl (sv_Sub_cons rfl sv_Sub_nil))))) hb
        · have h := h.2 (hc)
          refine sv_aload_n hM dX12_ways_268 rfl rfl ?_
          obtain ⟨o165, h⟩ := h
          refine sv_callV hM dX12_ways_269 sm_iv_1222 (by decide) (sm_a0 _) rfl rfl (Nat.le_of_ble_eq_true rfl) sm_h258 (Nat.le_of_ble_eq_true rfl) (Nat.le_of_ble_eq_true rfl) (F' := 4) (Nat.le_of_ble_eq_true rfl) rfl (t_on  (sv_sts (sv_sts (sv_sts (sv_sts (sv_sts (sv_sts (sv_sts (sv_sts (sv_up (sv_up (sv_up (sv_up S 1148 0 p1) 1149 0 (0 : Int)) 1150 0 (0 : Int)) 1147 0 (0 : Int)) [68, 69, 70, 81, 82, 83, 84, 85, 86, 74, 78, 79, 80, 76, 77, 1100031] g10) [68, 69, 70] g109) [1143, 1144] g115) [1143, 1144] g122) [68, 69, 70] g130) [68, 69, 70] g136) [68, 69, 70, 74] g146) [68, 69, 70] g154) ok161 o165) (fun v S1 hq => ?_)
          obtain ⟨rfl, ok167, md168, hpo169⟩ := hq
          obtain ⟨g166, rfl⟩ : ∃ g, S1 = sv_sts (sv_sts (sv_sts (sv_sts (sv_sts (sv_sts (sv_sts (sv_sts (sv_sts (sv_up (sv_up (sv_up (sv_up S 1148 0 p1) 1149 0 (0 : Int)) 1150 0 (0 : Int)) 1147 0 (0 : Int)) [68, 69, 70, 81, 82, 83, 84, 85, 86, 74, 78, 79, 80, 76, 77, 1100031] g10) [68, 69, 70] g109) [1143, 1144] g115) [1143, 1144] g122) [68, 69, 70] g130) [68, 69, 70] g136) [68, 69, 70, 74] g146) [68, 69, 70] g154) [68, 69, 70, 81, 82, 83, 84, 85, 86, 71, 74, 75, 1127, 78, 79, 80, 72, 76, 77, 1150] g := ⟨_, md168.eq⟩
          show sv_T sm_XS sm_cs sm_L sm_sh 23 (q_ways p1 S) 265 272 [(0, .ref 0), (1, sv_I p1), (2, sv_I (S 27 p1)), (3, sv_I (S 28 p1)), (4, sv_I (647740 : Int)), (5, sv_I l5_137)] [] (sv_sts (sv_sts (sv_sts (sv_sts (sv_sts (sv_sts (sv_sts (sv_sts (sv_sts (sv_up (sv_up (sv_up (sv_up S 1148 0 p1) 1149 0 (0 : Int)) 1150 0 (0 : Int)) 1147 0 (0 : Int)) [68, 69, 70, 81, 82, 83, 84, 85, 86, 74, 78, 79, 80, 76, 77, 1100031] g10) [68, 69, 70] g109) [1143, 1144] g115) [1143, 1144] g122) [68, 69, 70] g130) [68, 69, 70] g136) [68, 69, 70, 74] g146) [68, 69, 70] g154) [68, 69, 70, 81, 82, 83, 84, 85, 86, 71, 74, 75, 1127, 78, 79, 80, 72, 76, 77, 1150] g166)
          have md170 : sv_mod [68, 69, 70, 81, 82, 83, 84, 85, 86, 71, 74, 75, 1127, 78, 79, 80, 72, 76, 77, 1143, 1144, 5, 1011, 1150, 1149, 1145, 1113, 1111, 1112, 91, 1147, 1100031, 1148, 73] S (sv_sts (sv_sts (sv_sts (sv_sts (sv_sts (sv_sts (sv_sts (sv_sts (sv_sts (sv_up (sv_up (sv_up (sv_up S 1148 0 p1) 1149 0 (0 : Int)) 1150 0 (0 : Int)) 1147 0 (0 : Int)) [68, 69, 70, 81, 82, 83, 84, 85, 86, 74, 78, 79, 80, 76, 77, 1100031] g10) [68, 69, 70] g109) [1143, 1144] g115) [1143, 1144] g122) [68, 69, 70] g130) [68, 69, 70] g136) [68, 69, 70, 74] g146) [68, 69, 70] g154) [68, 69, 70, 81, 82, 83, 84, 85, 86, 71, 74, 75, 1127, 78, 79, 80, 72, 76, 77, 1150] g166) := sv_mod.sts md158 (by decide)
          have md171 : sv_mod [68, 69, 70, 81, 82, 83, 84, 85, 86, 71, 74, 75, 1127, 78, 79, 80, 72, 76, 77, 1143, 1144, 5, 1011, 1150, 1149, 1145, 1113, 1111, 1112, 91, 1147, 1100031] (sv_sts (sv_up (sv_up (sv_up (sv_up S 1148 0 p1) 1149 0 (0 : Int)) 1150 0 (0 : Int)) 1147 0 (0 : Int)) [68, 69, 70, 81, 82, 83, 84, 85, 86, 74, 78, 79, 80, 76, 77, 1100031] g10) (sv_sts (sv_sts (sv_sts (sv_sts (sv_sts (sv_sts (sv_sts (sv_sts (sv_sts (sv_up (sv_up (sv_up (sv_up S 1148 0 p1) 1149 0 (0 : Int)) 1150 0 (0 : Int)) 1147 0 (0 : Int)) [68, 69, 70, 81, 82, 83, 84, 85, 86, 74, 78, 79, 80, 76, 77, 1100031] g10) [68, 69, 70] g109) [1143, 1144] g115) [1143, 1144] g122) [68, 69, 70] g130) [68, 69, 70] g136) [68, 69, 70, 74] g146) [68, 69, 70] g154) [68, 69, 70, 81, 82, 83, 84, 85, 86, 71, 74, 75, 1127, 78, 79, 80, 72, 76, 77, 1150] g166) := sv_mod.sts md159 (by decide)
          have h := h g166 hpo169
          refine sv_goto hM dX12_ways_272 (pc' := 665) rfl ?_
          have eS := sv_mod.eq md171
          have hb := J63 (sv_sts (sv_sts (sv_sts (sv_sts (sv_sts (sv_sts (sv_sts (sv_sts (sv_sts (sv_up (sv_up (sv_up (sv_up S 1148 0 p1) 1149 0 (0 : Int)) 1150 0 (0 : Int)) 1147 0 (0 : Int)) [68, 69, 70, 81, 82, 83, 84, 85, 86, 74, 78, 79, 80, 76, 77, 1100031] g10) [68, 69, 70] g109) [1143, 1144] g115) [1143, 1144] g122) [68, 69, 70] g130) [68, 69, 70] g136) [68, 69, 70, 74] g146) [68, 69, 70] g154) [68, 69, 70, 81, 82, 83, 84, 85, 86, 71, 74, 75, 1127, 78, 79, 80, 72, 76, 77, 1150] g166) (by rw [← eS]; exact ok167) h
          have hb : sv_T sm_XS sm_cs sm_L sm_sh 23 (q_ways p1 S) 265 665 [(0, .ref 0), (1, sv_I p1), (2, sv_I (S 27 p1)), (3, sv_I (S 28 p1)), (4, sv_I (647740 : Int))] [] (sv_sts (sv_sts (sv_sts (sv_sts (sv_sts (sv_sts (sv_sts (sv_sts (sv_sts (sv_up (sv_up (sv_up (sv_up S 1148 0 p1) 1149 0 (0 : Int)) 1150 0 (0 : Int)) 1147 0 (0 : Int)) [68, 69, 70, 81, 82, 83, 84, 85, 86, 74, 78, 79, 80, 76, 77, 1100031] g10) [68, 69, 70] g109) [1143, 1144] g115) [1143, 1144] g122) [68, 69, 70] g130) [68, 69, 70] g136) [68, 69, 70, 74] g146) [68, 69, 70] g154) [68, 69, 70, 81, 82, 83, 84, 85, 86, 71, 74, 75, 1127, 78, 79, 80, 72, 76, 77, 1150] g166) := Eq.mpr (congrArg (fun Z => sv_T sm_XS sm_cs sm_L sm_sh 23 (q_ways p1 S) 265 665 [(0, .ref 0), (1, sv_I p1), (2, sv_I (S 27 p1)), (3, sv_I (S 28 p1)), (4, sv_I (647740 : Int))] [] Z) eS) hb
          exact sv_less (lv := [(0, .ref 0), (1, sv_I p1), (2, sv_I (S 27 p1)), (3, sv_I (S 28 p1)), (4, sv_I (647740 : Int))]) (sv_Sub_cons rfl (sv_Sub_cons rfl (sv_Sub_cons rfl (sv_Sub_cons rfl (sv_Sub_cons rfl sv_Sub_nil))))) hb
      · have h := h.2 (hc)
        refine sv_aload_n hM dX12_ways_199 rfl rfl ?_
        refine sv_getA hM dX12_ways_200 sm_fl_220 (sm_a0 _) sm_k117 rfl ?_
        refine sv_iload hM dX12_ways_203 rfl rfl ?_
        obtain ⟨o172, h⟩ := h
        have k173 : sv_RL (g136 69 (647740 : Int)) := sm_okJ ok140 sm_r69 (647740 : Int)
        have h := h k173
        refine sv_lald hM dX12_ways_205 (sm_a69 _) (by decide) o172.1 o172.2 rfl (x := (g136 69 (647740 : Int))) rfl ?_
        refine sv_aload_n hM dX12_ways_206 rfl rfl ?_
        refine sv_getA hM dX12_ways_207 sm_fl_223 (sm_a0 _) sm_k118 rfl ?_
        refine sv_iload hM dX12_ways_210 rfl rfl ?_
        have k174 : sv_RL (g136 70 (647740 : Int)) := sm_okJ ok140 sm_r70 (647740 : Int)
        have h := h k174
        refine sv_lald hM dX12_ways_212 (sm_a70 _) (by decide) o172.1 o172.2 rfl (x := (g136 70 (647740 : Int))) rfl ?_
        refine sv_iload hM dX12_ways_213 rfl rfl ?_
        obtain ⟨o175, h⟩ := h
        refine sv_callS hM dX12_ways_215 sm_iv_1125 (Nat.le_of_ble_eq_true rfl) rfl rfl (Nat.le_of_ble_eq_true rfl) sm_h217 (Nat.le_of_ble_eq_true rfl) (Nat.le_of_ble_eq_true rfl) (F' := 0) (Nat.le_of_ble_eq_true rfl) rfl (t_isIn (g136 69 (647740 : Int)) (g136 70 (647740 : Int)) l5_137 (sv_sts (sv_sts (sv_sts (sv_sts (sv_sts (sv_sts (sv_up (sv_up (sv_up (sv_up S 1148 0 p1) 1149 0 (0 : Int)) 1150 0 (0 : Int)) 1147 0 (0 : Int)) [68, 69, 70, 81, 82, 83, 84, 85, 86, 74, 78, 79, 80, 76, 77, 1100031] g10) [68, 69, 70] g109) [1143, 1144] g115) [1143, 1144] g122) [68, 69, 70] g130) [68, 69, 70] g136) ok140 k173 k174 hl5_137 o175) (fun v S1 hq => ?_)
        obtain ⟨r180, rfl, hr180, ok177, md178, hpo179⟩ := hq
        obtain rfl : (sv_sts (sv_sts (sv_sts (sv_sts (sv_sts (sv_sts (sv_up (sv_up (sv_up (sv_up S 1148 0 p1) 1149 0 (0 : Int)) 1150 0 (0 : Int)) 1147 0 (0 : Int)) [68, 69, 70, 81, 82, 83, 84, 85, 86, 74, 78, 79, 80, 76, 77, 1100031] g10) [68, 69, 70] g109) [1143, 1144] g115) [1143, 1144] g122) [68, 69, 70] g130) [68, 69, 70] g136) = S1 := (funext fun j => md178 j (by intro q; cases q)).symm
        show sv_T sm_XS sm_cs sm_L sm_sh 23 (q_ways p1 S) 265 218 [(0, .ref 0), (1, sv_I p1), (2, sv_I (S 27 p1)), (3, sv_I (S 28 p1)), (4, sv_I (647740 : Int)), (5, sv_I l5_137)] [sv_I r180] (sv_sts (sv_sts (sv_sts (sv_sts (sv_sts (sv_sts (sv_up (sv_up (sv_up (sv_up S 1148 0 p1) 1149 0 (0 : Int)) 1150 0 (0 : Int)) 1147 0 (0 : Int)) [68, 69, 70, 81, 82, 83, 84, 85, 86, 74, 78, 79, 80, 76, 77, 1100031] g10) [68, 69, 70] g109) [1143, 1144] g115) [1143, 1144] g122) [68, 69, 70] g130) [68, 69, 70] g136)
        have h := h r180 hr180 hpo179
        refine sv_cond_eq hM dX12_ways_218 hr180 (t := 239) rfl rfl (fun hc => ?_) (fun hc => ?_)
        · have h := h.1 (hc)
          refine sv_iinc (d := (1 : Int)) hM dX12_ways_239 rfl (by decide) rfl rfl ?_
          show sv_T sm_XS sm_cs sm_L sm_sh 23 (q_ways p1 S) 265 242 [(0, .ref 0), (1, sv_I p1), (2, sv_I (S 27 p1)), (3, sv_I (S 28 p1)), (4, sv_I (647740 : Int)), (5, sv_I (l5_137 + (1 : Int)))] [] (sv_sts (sv_sts (sv_sts (sv_sts (sv_sts (sv_sts (sv_up (sv_up (sv_up (sv_up S 1148 0 p1) 1149 0 (0 : Int)) 1150 0 (0 : Int)) 1147 0 (0 : Int)) [68, 69, 70, 81, 82, 83, 84, 85, 86, 74, 78, 79, 80, 76, 77, 1100031] g10) [68, 69, 70] g109) [1143, 1144] g115) [1143, 1144] g122) [68, 69, 70] g130) [68, 69, 70] g136)
          refine sv_goto hM dX12_ways_242 (pc' := 190) rfl ?_
          obtain ⟨o181, h⟩ := h
          have eS := sv_mod.eq md143
          have hb := ih138 ((l5_137 + (1 : Int)), (sv_sts (sv_sts (sv_sts (sv_sts (sv_sts (sv_sts (sv_up (sv_up (sv_up (sv_up S 1148 0 p1) 1149 0 (0 : Int)) 1150 0 (0 : Int)) 1147 0 (0 : Int)) [68, 69, 70, 81, 82, 83, 84, 85, 86, 74, 78, 79, 80, 76, 77, 1100031] g10) [68, 69, 70] g109) [1143, 1144] g115) [1143, 1144] g122) [68, 69, 70] g130) [68, 69, 70] g136)) ⟨o181, (by rw [← eS]; exact ok177), h.1⟩ h.2
          have hb : sv_T sm_XS sm_cs sm_L sm_sh 23 (q_ways p1 S) 265 190 [(0, .ref 0), (1, sv_I p1), (2, sv_I (S 27 p1)), (3, sv_I (S 28 p1)), (4, sv_I (647740 : Int)), (5, sv_I (l5_137 + (1 : Int)))] [] (sv_sts (sv_sts (sv_sts (sv_sts (sv_sts (sv_sts (sv_up (sv_up (sv_up (sv_up S 1148 0 p1) 1149 0 (0 : Int)) 1150 0 (0 : Int)) 1147 0 (0 : Int)) [68, 69, 70, 81, 82, 83, 84, 85, 86, 74, 78, 79, 80, 76, 77, 1100031] g10) [68, 69, 70] g109) [1143, 1144] g115) [1143, 1144] g122) [68, 69, 70] g130) [68, 69, 70] g136) := Eq.mpr (congrArg (fun Z => sv_T sm_XS sm_cs sm_L sm_sh 23 (q_ways p1 S) 265 190 [(0, .ref 0), (1, sv_I p1), (2, sv_I (S 27 p1)), (3, sv_I (S 28 p1)), (4, sv_I (647740 : Int)), (5, sv_I (l5_137 + (1 : Int)))] [] Z) eS) hb
          exact sv_less (lv := [(0, .ref 0), (1, sv_I p1), (2, sv_I (S 27 p1)), (3, sv_I (S 28 p1)), (4, sv_I (647740 : Int)), (5, sv_I (l5_137 + (1 : Int)))]) (sv_Sub_cons rfl (sv_Sub_cons rfl (sv_Sub_cons rfl (sv_Sub_cons rfl (sv_Sub_cons rfl (sv_Sub_cons rfl sv_Sub_nil)))))) hb
        · have h := h.2 (hc)
          refine sv_aload_n hM dX12_ways_221 rfl rfl ?_
          refine sv_aload_n hM dX12_ways_222 rfl rfl ?_
          refine sv_sipush (d := (639 : Int)) hM dX12_ways_223 rfl rfl ?_
          refine sv_iload hM dX12_ways_226 rfl rfl ?_
          refine sv_iload_n hM dX12_ways_228 rfl rfl ?_
          obtain ⟨o182, h⟩ := h
          refine sv_callV hM dX12_ways_229 sm_iv_1163 (by decide) (sm_a0 _) rfl rfl (Nat.le_of_ble_eq_true rfl) sm_h225 (Nat.le_of_ble_eq_true rfl) (Nat.le_of_ble_eq_true rfl) (F' := 1) (Nat.le_of_ble_eq_true rfl) rfl (t_field (639 : Int) l5_137 (S 28 p1) (sv_sts (sv_sts (sv_sts (sv_sts (sv_sts (sv_sts (sv_up (sv_up (sv_up (sv_up S 1148 0 p1) 1149 0 (0 : Int)) 1150 0 (0 : Int)) 1147 0 (0 : Int)) [68, 69, 70, 81, 82, 83, 84, 85, 86, 74, 78, 79, 80, 76, 77, 1100031] g10) [68, 69, 70] g109) [1143, 1144] g115) [1143, 1144] g122) [68, 69, 70] g130) [68, 69, 70] g136) ok177 (⟨by decide, by decide⟩ : sv_R (639 : Int)) hl5_137 k42 o182) (fun v S1 hq => ?_)
          obtain ⟨r187, rfl, hr187, ok184, md185, hpo186⟩ := hq
          obtain rfl : (sv_sts (sv_sts (sv_sts (sv_sts (sv_sts (sv_sts (sv_up (sv_up (sv_up (sv_up S 1148 0 p1) 1149 0 (0 : Int)) 1150 0 (0 : Int)) 1147 0 (0 : Int)) [68, 69, 70, 81, 82, 83, 84, 85, 86, 74, 78, 79, 80, 76, 77, 1100031] g10) [68, 69, 70] g109) [1143, 1144] g115) [1143, 1144] g122) [68, 69, 70] g130) [68, 69, 70] g136) = S1 := (funext fun j => md185 j (by intro q; cases q)).symm
          show sv_T sm_XS sm_cs sm_L sm_sh 23 (q_ways p1 S) 265 232 [(0, .ref 0), (1, sv_I p1), (2, sv_I (S 27 p1)), (3, sv_I (S 28 p1)), (4, sv_I (647740 : Int)), (5, sv_I l5_137)] [sv_I r187, .ref 0] (sv_sts (sv_sts (sv_sts (sv_sts (sv_sts (sv_sts (sv_up (sv_up (sv_up (sv_up S 1148 0 p1) 1149 0 (0 : Int)) 1150 0 (0 : Int)) 1147 0 (0 : Int)) [68, 69, 70, 81, 82, 83, 84, 85, 86, 74, 78, 79, 80, 76, 77, 1100031] g10) [68, 69, 70] g109) [1143, 1144] g115) [1143, 1144] g122) [68, 69, 70] g130) [68, 69, 70] g136)
          have h := h r187 hr187 hpo186
          refine sv_iload hM dX12_ways_232 rfl rfl ?_
          refine sv_iconst (d := (1 : Int)) hM dX12_ways_234 rfl rfl ?_
          refine sv_iadd hM dX12_ways_235 rfl ?_
          obtain ⟨o188, h⟩ := h
          refine sv_callV hM dX12_ways_236 sm_iv_1228 (by decide) (sm_a0 _) rfl rfl (Nat.le_of_ble_eq_true rfl) sm_h266 (Nat.le_of_ble_eq_true rfl) (Nat.le_of_ble_eq_true rfl) (F' := 2) (Nat.le_of_ble_eq_true rfl) rfl (t_joinPlain r187 ((647740 : Int) + (1 : Int)) (sv_sts (sv_sts (sv_sts (sv_sts (sv_sts (sv_sts (sv_up (sv_up (sv_up (sv_up S 1148 0 p1) 1149 0 (0 : Int)) 1150 0 (0 : Int)) 1147 0 (0 : Int)) [68, 69, 70, 81, 82, 83, 84, 85, 86, 74, 78, 79, 80, 76, 77, 1100031] g10) [68, 69, 70] g109) [1143, 1144] g115) [1143, 1144] g122) [68, 69, 70] g130) [68, 69, 70] g136) ok184 hr187 o128 o188) (fun v S1 hq => ?_)
          obtain ⟨rfl, ok190, md191, hpo192⟩ := hq
          obtain ⟨g189, rfl⟩ : ∃ g, S1 = sv_sts (sv_sts (sv_sts (sv_sts (sv_sts (sv_sts (sv_sts (sv_up (sv_up (sv_up (sv_up S 1148 0 p1) 1149 0 (0 : Int)) 1150 0 (0 : Int)) 1147 0 (0 : Int)) [68, 69, 70, 81, 82, 83, 84, 85, 86, 74, 78, 79, 80, 76, 77, 1100031] g10) [68, 69, 70] g109) [1143, 1144] g115) [1143, 1144] g122) [68, 69, 70] g130) [68, 69, 70] g136) [68, 69, 70] g := ⟨_, md191.eq⟩
          show sv_T sm_XS sm_cs sm_L sm_sh 23 (q_ways p1 S) 265 239 [(0, .ref 0), (1, sv_I p1), (2, sv_I (S 27 p1)), (3, sv_I (S 28 p1)), (4, sv_I (647740 : Int)), (5, sv_I l5_137)] [] (sv_sts (sv_sts (sv_sts (sv_sts (sv_sts (sv_sts (sv_sts (sv_up (sv_up (sv_up (sv_up S 1148 0 p1) 1149 0 (0 : Int)) 1150 0 (0 : Int)) 1147 0 (0 : Int)) [68, 69, 70, 81, 82, 83, 84, 85, 86, 74, 78, 79, 80, 76, 77, 1100031] g10) [68, 69, 70] g109) [1143, 1144] g115) [1143, 1144] g122) [68, 69, 70] g130) [68, 69, 70] g136) [68, 69, 70] g189)
          have md193 : sv_mod [68, 69, 70, 81, 82, 83, 84, 85, 86, 71, 74, 75, 1127, 78, 79, 80, 72, 76, 77, 1143, 1144, 5, 1011, 1150, 1149, 1145, 1113, 1111, 1112, 91, 1147, 1100031, 1148, 73] S (sv_sts (sv_sts (sv_sts (sv_sts (sv_sts (sv_sts (sv_sts (sv_up (sv_up (sv_up (sv_up S 1148 0 p1) 1149 0 (0 : Int)) 1150 0 (0 : Int)) 1147 0 (0 : Int)) [68, 69, 70, 81, 82, 83, 84, 85, 86, 74, 78, 79, 80, 76, 77, 1100031] g10) [68, 69, 70] g109) [1143, 1144] g115) [1143, 1144] g122) [68, 69, 70] g130) [68, 69, 70] g136) [68, 69, 70] g189) := sv_mod.sts md141 (by decide)
          have md194 : sv_mod [68, 69, 70, 81, 82, 83, 84, 85, 86, 71, 74, 75, 1127, 78, 79, 80, 72, 76, 77, 1143, 1144, 5, 1011, 1150, 1149, 1145, 1113, 1111, 1112, 91, 1147, 1100031] (sv_sts (sv_up (sv_up (sv_up (sv_up S 1148 0 p1) 1149 0 (0 : Int)) 1150 0 (0 : Int)) 1147 0 (0 : Int)) [68, 69, 70, 81, 82, 83, 84, 85, 86, 74, 78, 79, 80, 76, 77, 1100031] g10) (sv_sts (sv_sts (sv_sts (sv_sts (sv_sts (sv_sts (sv_sts (sv_up (sv_up (sv_up (sv_up S 1148 0 p1) 1149 0 (0 : Int)) 1150 0 (0 : Int)) 1147 0 (0 : Int)) [68, 69, 70, 81, 82, 83, 84, 85, 86, 74, 78, 79, 80, 76, 77, 1100031] g10) [68, 69, 70] g109) [1143, 1144] g115) [1143, 1144] g122) [68, 69, 70] g130) [68, 69, 70] g136) [68, 69, 70] g189) := sv_mod.sts md142 (by decide)
          have md195 : sv_mod [68, 69, 70] (sv_sts (sv_sts (sv_sts (sv_sts (sv_sts (sv_up (sv_up (sv_up (sv_up S 1148 0 p1) 1149 0 (0 : Int)) 1150 0 (0 : Int)) 1147 0 (0 : Int)) [68, 69, 70, 81, 82, 83, 84, 85, 86, 74, 78, 79, 80, 76, 77, 1100031] g10) [68, 69, 70] g109) [1143, 1144] g115) [1143, 1144] g122) [68, 69, 70] g130) (sv_sts (sv_sts (sv_sts (sv_sts (sv_sts (sv_sts (sv_sts (sv_up (sv_up (sv_up (sv_up S 1148 0 p1) 1149 0 (0 : Int)) 1150 0 (0 : Int)) 1147 0 (0 : Int)) [68, 69, 70, 81, 82, 83, 84, 85, 86, 74, 78, 79, 80, 76, 77, 1100031] g10) [68, 69, 70] g109) [1143, 1144] g115) [1143, 1144] g122) [68, 69, 70] g130) [68, 69, 70] g136) [68, 69, 70] g189) := sv_mod.sts md143 (by decide)
          have h := h g189 hpo192
          refine sv_iinc (d := (1 : Int)) hM dX12_ways_239 rfl (by decide) rfl rfl ?_
          show sv_T sm_XS sm_cs sm_L sm_sh 23 (q_ways p1 S) 265 242 [(0, .ref 0), (1, sv_I p1), (2, sv_I (S 27 p1)), (3, sv_I (S 28 p1)), (4, sv_I (647740 : Int)), (5, sv_I (l5_137 + (1 : Int)))] [] (sv_sts (sv_sts (sv_sts (sv_sts (sv_sts (sv_sts (sv_sts (sv_up (sv_up (sv_up (sv_up S 1148 0 p1) 1149 0 (0 : Int)) 1150 0 (0 : Int)) 1147 0 (0 : Int)) [68, 69, 70, 81, 82, 83, 84, 85, 86, 74, 78, 79, 80, 76, 77, 1100031] g10) [68, 69, 70] g109) [1143, 1144] g115) [1143, 1144] g122) [68, 69, 70] g130) [68, 69, 70] g136) [68, 69, 70] g189)
          refine sv_goto hM dX12_ways_242 (pc' := 190) rfl ?_
          obtain ⟨o196, h⟩ := h
          have eS := sv_mod.eq md195
          have hb := ih138 ((l5_137 + (1 : Int)), (sv_sts (sv_sts (sv_sts (sv_sts (sv_sts (sv_sts (sv_sts (sv_up (sv_up (sv_up (sv_up S 1148 0 p1) 1149 0 (0 : Int)) 1150 0 (0 : Int)) 1147 0 (0 : Int)) [68, 69, 70, 81, 82, 83, 84, 85, 86, 74, 78, 79, 80, 76, 77, 1100031] g10) [68, 69, 70] g109) [1143, 1144] g115) [1143, 1144] g122) [68, 69, 70] g130) [68, 69, 70] g136) [68, 69, 70] g189)) ⟨o196, (by rw [← eS]; exact ok190), h.1⟩ h.2
          have hb : sv_T sm_XS sm_cs sm_L sm_sh 23 (q_ways p1 S) 265 190 [(0, .ref 0), (1, sv_I p1), (2, sv_I (S 27 p1)), (3, sv_I (S 28 p1)), (4, sv_I (647740 : Int)), (5, sv_I (l5_137 + (1 : Int)))] [] (sv_sts (sv_sts (sv_sts (sv_sts (sv_sts (sv_sts (sv_sts (sv_up (sv_up (sv_up (sv_up S 1148 0 p1) 1149 0 (0 : Int)) 1150 0 (0 : Int)) 1147 0 (0 : Int)) [68, 69, 70, 81, 82, 83, 84, 85, 86, 74, 78, 79, 80, 76, 77, 1100031] g10) [68, 69, 70] g109) [1143, 1144] g115) [1143, 1144] g122) [68, 69, 70] g130) [68, 69, 70] g136) [68, 69, 70] g189) := Eq.mpr (congrArg (fun Z => sv_T sm_XS sm_cs sm_L sm_sh 23 (q_ways p1 S) 265 190 [(0, .ref 0), (1, sv_I p1), (2, sv_I (S 27 p1)), (3, sv_I (S 28 p1)), (4, sv_I (647740 : Int)), (5, sv_I (l5_137 + (1 : Int)))] [] Z) eS) hb
          exact sv_less (lv := [(0, .ref 0), (1, sv_I p1), (2, sv_I (S 27 p1)), (3, sv_I (S 28 p1)), (4, sv_I (647740 : Int)), (5, sv_I (l5_137 + (1 : Int)))]) (sv_Sub_cons rfl (sv_Sub_cons rfl (sv_Sub_cons rfl (sv_Sub_cons rfl (sv_Sub_cons rfl (sv_Sub_cons rfl sv_Sub_nil)))))) hb
    have eS := sv_mod.eq (sv_mod.rf (l := [68, 69, 70]) (S := (sv_sts (sv_sts (sv_sts (sv_sts (sv_sts (sv_up (sv_up (sv_up (sv_up S 1148 0 p1) 1149 0 (0 : Int)) 1150 0 (0 : Int)) 1147 0 (0 : Int)) [68, 69, 70, 81, 82, 83, 84, 85, 86, 74, 78, 79, 80, 76, 77, 1100031] g10) [68, 69, 70] g109) [1143, 1144] g115) [1143, 1144] g122) [68, 69, 70] g130)))
    have hb := hJ ((0 : Int), (sv_sts (sv_sts (sv_sts (sv_sts (sv_sts (sv_up (sv_up (sv_up (sv_up S 1148 0 p1) 1149 0 (0 : Int)) 1150 0 (0 : Int)) 1147 0 (0 : Int)) [68, 69, 70, 81, 82, 83, 84, 85, 86, 74, 78, 79, 80, 76, 77, 1100031] g10) [68, 69, 70] g109) [1143, 1144] g115) [1143, 1144] g122) [68, 69, 70] g130)) ⟨(⟨by decide, by decide⟩ : sv_R (0 : Int)), (by rw [← eS]; exact ok131), hin139⟩
    have hb : sv_T sm_XS sm_cs sm_L sm_sh 23 (q_ways p1 S) 265 190 [(0, .ref 0), (1, sv_I p1), (2, sv_I (S 27 p1)), (3, sv_I (S 28 p1)), (4, sv_I (647740 : Int)), (5, sv_I (0 : Int))] [] (sv_sts (sv_sts (sv_sts (sv_sts (sv_sts (sv_up (sv_up (sv_up (sv_up S 1148 0 p1) 1149 0 (0 : Int)) 1150 0 (0 : Int)) 1147 0 (0 : Int)) [68, 69, 70, 81, 82, 83, 84, 85, 86, 74, 78, 79, 80, 76, 77, 1100031] g10) [68, 69, 70] g109) [1143, 1144] g115) [1143, 1144] g122) [68, 69, 70] g130) := Eq.mpr (congrArg (fun Z => sv_T sm_XS sm_cs sm_L sm_sh 23 (q_ways p1 S) 265 190 [(0, .ref 0), (1, sv_I p1), (2, sv_I (S 27 p1)), (3, sv_I (S 28 p1)), (4, sv_I (647740 : Int)), (5, sv_I (0 : Int))] [] Z) eS) hb
    exact hb
  have J3 : ((S 26 p1) = (2 : Int)) → sv_T sm_XS sm_cs sm_L sm_sh 23 (q_ways p1 S) 265 275 [(0, .ref 0), (1, sv_I p1), (2, sv_I (S 27 p1)), (3, sv_I (S 28 p1)), (4, sv_I (647740 : Int))] [] (sv_sts (sv_up (sv_up (sv_up (sv_up S 1148 0 p1) 1149 0 (0 : Int)) 1150 0 (0 : Int)) 1147 0 (0 : Int)) [68, 69, 70, 81, 82, 83, 84, 85, 86, 74, 78, 79, 80, 76, 77, 1100031] g10) := by
    intro hc
    have h := hS.2.2.2.1 hc
    refine sv_aload_n hM dX12_ways_275 rfl rfl ?_
    refine sv_iload_n hM dX12_ways_276 rfl rfl ?_
    refine sv_iload hM dX12_ways_277 rfl rfl ?_
    obtain ⟨o197, h⟩ := h
    refine sv_callV hM dX12_ways_279 sm_iv_1225 (by decide) (sm_a0 _) rfl rfl (Nat.le_of_ble_eq_true rfl) sm_h264 (Nat.le_of_ble_eq_true rfl) (Nat.le_of_ble_eq_true rfl) (F' := 2) (Nat.le_of_ble_eq_true rfl) rfl (t_scopesAt (S 27 p1) (647740 : Int) (sv_sts (sv_up (sv_up (sv_up (sv_up S 1148 0 p1) 1149 0 (0 : Int)) 1150 0 (0 : Int)) 1147 0 (0 : Int)) [68, 69, 70, 81, 82, 83, 84, 85, 86, 74, 78, 79, 80, 76, 77, 1100031] g10) ok11 k41 (⟨by decide, by decide⟩ : sv_R (647740 : Int)) o197) (fun v S1 hq => ?_)
    obtain ⟨rfl, ok199, md200, hpo201⟩ := hq
    obtain ⟨g198, rfl⟩ : ∃ g, S1 = sv_sts (sv_sts (sv_up (sv_up (sv_up (sv_up S 1148 0 p1) 1149 0 (0 : Int)) 1150 0 (0 : Int)) 1147 0 (0 : Int)) [68, 69, 70, 81, 82, 83, 84, 85, 86, 74, 78, 79, 80, 76, 77, 1100031] g10) [68, 69, 70] g := ⟨_, md200.eq⟩
    show sv_T sm_XS sm_cs sm_L sm_sh 23 (q_ways p1 S) 265 282 [(0, .ref 0), (1, sv_I p1), (2, sv_I (S 27 p1)), (3, sv_I (S 28 p1)), (4, sv_I (647740 : Int))] [] (sv_sts (sv_sts (sv_up (sv_up (sv_up (sv_up S 1148 0 p1) 1149 0 (0 : Int)) 1150 0 (0 : Int)) 1147 0 (0 : Int)) [68, 69, 70, 81, 82, 83, 84, 85, 86, 74, 78, 79, 80, 76, 77, 1100031] g10) [68, 69, 70] g198)
    have md202 : sv_mod [68, 69, 70, 81, 82, 83, 84, 85, 86, 71, 74, 75, 1127, 78, 79, 80, 72, 76, 77, 1143, 1144, 5, 1011, 1150, 1149, 1145, 1113, 1111, 1112, 91, 1147, 1100031, 1148, 73] S (sv_sts (sv_sts (sv_up (sv_up (sv_up (sv_up S 1148 0 p1) 1149 0 (0 : Int)) 1150 0 (0 : Int)) 1147 0 (0 : Int)) [68, 69, 70, 81, 82, 83, 84, 85, 86, 74, 78, 79, 80, 76, 77, 1100031] g10) [68, 69, 70] g198) := sv_mod.sts md14 (by decide)
    have md203 : sv_mod [68, 69, 70, 81, 82, 83, 84, 85, 86, 71, 74, 75, 1127, 78, 79, 80, 72, 76, 77, 1143, 1144, 5, 1011, 1150, 1149, 1145, 1113, 1111, 1112, 91, 1147, 1100031] (sv_sts (sv_up (sv_up (sv_up (sv_up S 1148 0 p1) 1149 0 (0 : Int)) 1150 0 (0 : Int)) 1147 0 (0 : Int)) [68, 69, 70, 81, 82, 83, 84, 85, 86, 74, 78, 79, 80, 76, 77, 1100031] g10) (sv_sts (sv_sts (sv_up (sv_up (sv_up (sv_up S 1148 0 p1) 1149 0 (0 : Int)) 1150 0 (0 : Int)) 1147 0 (0 : Int)) [68, 69, 70, 81, 82, 83, 84, 85, 86, 74, 78, 79, 80, 76, 77, 1100031] g10) [68, 69, 70] g198) := sv_mod.sts (sv_mod.rf (l := [68, 69, 70, 81, 82, 83, 84, 85, 86, 71, 74, 75, 1127, 78, 79, 80, 72, 76, 77, 1143, 1144, 5, 1011, 1150, 1149, 1145, 1113, 1111, 1112, 91, 1147, 1100031]) (S := (sv_sts (sv_up (sv_up (sv_up (sv_up S 1148 0 p1) 1149 0 (0 : Int)) 1150 0 (0 : Int)) 1147 0 (0 : Int)) [68, 69, 70, 81, 82, 83, 84, 85, 86, 74, 78, 79, 80, 76, 77, 1100031] g10))) (by decide)
    have h := h g198 hpo201
    refine sv_aload_n hM dX12_ways_282 rfl rfl ?_
    refine sv_callV hM dX12_ways_283 sm_iv_1135 (by decide) (sm_a0 _) rfl rfl (Nat.le_of_ble_eq_true rfl) sm_h244 (Nat.le_of_ble_eq_true rfl) (Nat.le_of_ble_eq_true rfl) (F' := 0) (Nat.le_of_ble_eq_true rfl) rfl (t_noKeys  (sv_sts (sv_sts (sv_up (sv_up (sv_up (sv_up S 1148 0 p1) 1149 0 (0 : Int)) 1150 0 (0 : Int)) 1147 0 (0 : Int)) [68, 69, 70, 81, 82, 83, 84, 85, 86, 74, 78, 79, 80, 76, 77, 1100031] g10) [68, 69, 70] g198) ok199) (fun v S1 hq => ?_)
    obtain ⟨rfl, ok205, md206, hpo207⟩ := hq
    obtain ⟨g204, rfl⟩ : ∃ g, S1 = sv_sts (sv_sts (sv_sts (sv_up (sv_up (sv_up (sv_up S 1148 0 p1) 1149 0 (0 : Int)) 1150 0 (0 : Int)) 1147 0 (0 : Int)) [68, 69, 70, 81, 82, 83, 84, 85, 86, 74, 78, 79, 80, 76, 77, 1100031] g10) [68, 69, 70] g198) [1143, 1144] g := ⟨_, md206.eq⟩
    show sv_T sm_XS sm_cs sm_L sm_sh 23 (q_ways p1 S) 265 286 [(0, .ref 0), (1, sv_I p1), (2, sv_I (S 27 p1)), (3, sv_I (S 28 p1)), (4, sv_I (647740 : Int))] [] (sv_sts (sv_sts (sv_sts (sv_up (sv_up (sv_up (sv_up S 1148 0 p1) 1149 0 (0 : Int)) 1150 0 (0 : Int)) 1147 0 (0 : Int)) [68, 69, 70, 81, 82, 83, 84, 85, 86, 74, 78, 79, 80, 76, 77, 1100031] g10) [68, 69, 70] g198) [1143, 1144] g204)
    have md208 : sv_mod [68, 69, 70, 81, 82, 83, 84, 85, 86, 71, 74, 75, 1127, 78, 79, 80, 72, 76, 77, 1143, 1144, 5, 1011, 1150, 1149, 1145, 1113, 1111, 1112, 91, 1147, 1100031, 1148, 73] S (sv_sts (sv_sts (sv_sts (sv_up (sv_up (sv_up (sv_up S 1148 0 p1) 1149 0 (0 : Int)) 1150 0 (0 : Int)) 1147 0 (0 : Int)) [68, 69, 70, 81, 82, 83, 84, 85, 86, 74, 78, 79, 80, 76, 77, 1100031] g10) [68, 69, 70] g198) [1143, 1144] g204) := sv_mod.sts md202 (by decide)
    have md209 : sv_mod [68, 69, 70, 81, 82, 83, 84, 85, 86, 71, 74, 75, 1127, 78, 79, 80, 72, 76, 77, 1143, 1144, 5, 1011, 1150, 1149, 1145, 1113, 1111, 1112, 91, 1147, 1100031] (sv_sts (sv_up (sv_up (sv_up (sv_up S 1148 0 p1) 1149 0 (0 : Int)) 1150 0 (0 : Int)) 1147 0 (0 : Int)) [68, 69, 70, 81, 82, 83, 84, 85, 86, 74, 78, 79, 80, 76, 77, 1100031] g10) (sv_sts (sv_sts (sv_sts (sv_up (sv_up (sv_up (sv_up S 1148 0 p1) 1149 0 (0 : Int)) 1150 0 (0 : Int)) 1147 0 (0 : Int)) [68, 69, 70, 81, 82, 83, 84, 85, 86, 74, 78, 79, 80, 76, 77, 1100031] g10) [68, 69, 70] g198) [1143, 1144] g204) := sv_mod.sts md203 (by decide)
    have h := h g204 hpo207
    refine sv_aload_n hM dX12_ways_286 rfl rfl ?_
    refine sv_iload_n hM dX12_ways_287 rfl rfl ?_
    obtain ⟨o210, h⟩ := h
    refine sv_callV hM dX12_ways_288 sm_iv_1138 (by decide) (sm_a0 _) rfl rfl (Nat.le_of_ble_eq_true rfl) sm_h241 (Nat.le_of_ble_eq_true rfl) (Nat.le_of_ble_eq_true rfl) (F' := 0) (Nat.le_of_ble_eq_true rfl) rfl (t_addKey (S 28 p1) (sv_sts (sv_sts (sv_sts (sv_up (sv_up (sv_up (sv_up S 1148 0 p1) 1149 0 (0 : Int)) 1150 0 (0 : Int)) 1147 0 (0 : Int)) [68, 69, 70, 81, 82, 83, 84, 85, 86, 74, 78, 79, 80, 76, 77, 1100031] g10) [68, 69, 70] g198) [1143, 1144] g204) ok205 k42 o210) (fun v S1 hq => ?_)
    obtain ⟨rfl, ok212, md213, hpo214⟩ := hq
    obtain ⟨g211, rfl⟩ : ∃ g, S1 = sv_sts (sv_sts (sv_sts (sv_sts (sv_up (sv_up (sv_up (sv_up S 1148 0 p1) 1149 0 (0 : Int)) 1150 0 (0 : Int)) 1147 0 (0 : Int)) [68, 69, 70, 81, 82, 83, 84, 85, 86, 74, 78, 79, 80, 76, 77, 1100031] g10) [68, 69, 70] g198) [1143, 1144] g204) [1143, 1144] g := ⟨_, md213.eq⟩
    show sv_T sm_XS sm_cs sm_L sm_sh 23 (q_ways p1 S) 265 291 [(0, .ref 0), (1, sv_I p1), (2, sv_I (S 27 p1)), (3, sv_I (S 28 p1)), (4, sv_I (647740 : Int))] [] (sv_sts (sv_sts (sv_sts (sv_sts (sv_up (sv_up (sv_up (sv_up S 1148 0 p1) 1149 0 (0 : Int)) 1150 0 (0 : Int)) 1147 0 (0 : Int)) [68, 69, 70, 81, 82, 83, 84, 85, 86, 74, 78, 79, 80, 76, 77, 1100031] g10) [68, 69, 70] g198) [1143, 1144] g204) [1143, 1144] g211)
    have md215 : sv_mod [68, 69, 70, 81, 82, 83, 84, 85, 86, 71, 74, 75, 1127, 78, 79, 80, 72, 76, 77, 1143, 1144, 5, 1011, 1150, 1149, 1145, 1113, 1111, 1112, 91, 1147, 1100031, 1148, 73] S (sv_sts (sv_sts (sv_sts (sv_sts (sv_up (sv_up (sv_up (sv_up S 1148 0 p1) 1149 0 (0 : Int)) 1150 0 (0 : Int)) 1147 0 (0 : Int)) [68, 69, 70, 81, 82, 83, 84, 85, 86, 74, 78, 79, 80, 76, 77, 1100031] g10) [68, 69, 70] g198) [1143, 1144] g204) [1143, 1144] g211) := sv_mod.sts md208 (by decide)
    have md216 : sv_mod [68, 69, 70, 81, 82, 83, 84, 85, 86, 71, 74, 75, 1127, 78, 79, 80, 72, 76, 77, 1143, 1144, 5, 1011, 1150, 1149, 1145, 1113, 1111, 1112, 91, 1147, 1100031] (sv_sts (sv_up (sv_up (sv_up (sv_up S 1148 0 p1) 1149 0 (0 : Int)) 1150 0 (0 : Int)) 1147 0 (0 : Int)) [68, 69, 70, 81, 82, 83, 84, 85, 86, 74, 78, 79, 80, 76, 77, 1100031] g10) (sv_sts (sv_sts (sv_sts (sv_sts (sv_up (sv_up (sv_up (sv_up S 1148 0 p1) 1149 0 (0 : Int)) 1150 0 (0 : Int)) 1147 0 (0 : Int)) [68, 69, 70, 81, 82, 83, 84, 85, 86, 74, 78, 79, 80, 76, 77, 1100031] g10) [68, 69, 70] g198) [1143, 1144] g204) [1143, 1144] g211) := sv_mod.sts md209 (by decide)
    have h := h g211 hpo214
    refine sv_aload_n hM dX12_ways_291 rfl rfl ?_
    refine sv_aload_n hM dX12_ways_292 rfl rfl ?_
    refine sv_getA hM dX12_ways_293 sm_fl_220 (sm_a0 _) sm_k117 rfl ?_
    refine sv_iload hM dX12_ways_296 rfl rfl ?_
    obtain ⟨o217, h⟩ := h
    have k218 : sv_RL (g198 69 (647740 : Int)) := sm_okJ ok212 sm_r69 (647740 : Int)
    have h := h k218
    refine sv_lald hM dX12_ways_298 (sm_a69 _) (by decide) o217.1 o217.2 rfl (x := (g198 69 (647740 : Int))) rfl ?_
    refine sv_aload_n hM dX12_ways_299 rfl rfl ?_
    refine sv_getA hM dX12_ways_300 sm_fl_223 (sm_a0 _) sm_k118 rfl ?_
    refine sv_iload hM dX12_ways_303 rfl rfl ?_
    have k219 : sv_RL (g198 70 (647740 : Int)) := sm_okJ ok212 sm_r70 (647740 : Int)
    have h := h k219
    refine sv_lald hM dX12_ways_305 (sm_a70 _) (by decide) o217.1 o217.2 rfl (x := (g198 70 (647740 : Int))) rfl ?_
    refine sv_aload_n hM dX12_ways_306 rfl rfl ?_
    refine sv_iconst (d := (0 : Int)) hM dX12_ways_307 rfl rfl ?_
    obtain ⟨o220, h⟩ := h
    refine sv_callV hM dX12_ways_308 sm_iv_1195 (by decide) (sm_a0 _) rfl rfl (Nat.le_of_ble_eq_true rfl) sm_h229 (Nat.le_of_ble_eq_true rfl) (Nat.le_of_ble_eq_true rfl) (F' := 0) (Nat.le_of_ble_eq_true rfl) rfl (t_fromTop (0 : Int) (sv_sts (sv_sts (sv_sts (sv_sts (sv_up (sv_up (sv_up (sv_up S 1148 0 p1) 1149 0 (0 : Int)) 1150 0 (0 : Int)) 1147 0 (0 : Int)) [68, 69, 70, 81, 82, 83, 84, 85, 86, 74, 78, 79, 80, 76, 77, 1100031] g10) [68, 69, 70] g198) [1143, 1144] g204) [1143, 1144] g211) ok212 (⟨by decide, by decide⟩ : sv_R (0 : Int)) o220) (fun v S1 hq => ?_)
    obtain ⟨r225, rfl, hr225, ok222, md223, hpo224⟩ := hq
    obtain rfl : (sv_sts (sv_sts (sv_sts (sv_sts (sv_up (sv_up (sv_up (sv_up S 1148 0 p1) 1149 0 (0 : Int)) 1150 0 (0 : Int)) 1147 0 (0 : Int)) [68, 69, 70, 81, 82, 83, 84, 85, 86, 74, 78, 79, 80, 76, 77, 1100031] g10) [68, 69, 70] g198) [1143, 1144] g204) [1143, 1144] g211) = S1 := (funext fun j => md223 j (by intro q; cases q)).symm
    show sv_T sm_XS sm_cs sm_L sm_sh 23 (q_ways p1 S) 265 311 [(0, .ref 0), (1, sv_I p1), (2, sv_I (S 27 p1)), (3, sv_I (S 28 p1)), (4, sv_I (647740 : Int))] [sv_I r225, sv_L (g198 70 (647740 : Int)), sv_L (g198 69 (647740 : Int)), .ref 0] (sv_sts (sv_sts (sv_sts (sv_sts (sv_up (sv_up (sv_up (sv_up S 1148 0 p1) 1149 0 (0 : Int)) 1150 0 (0 : Int)) 1147 0 (0 : Int)) [68, 69, 70, 81, 82, 83, 84, 85, 86, 74, 78, 79, 80, 76, 77, 1100031] g10) [68, 69, 70] g198) [1143, 1144] g204) [1143, 1144] g211)
    have h := h r225 hr225 hpo224
    refine sv_iconst (d := (1 : Int)) hM dX12_ways_311 rfl rfl ?_
    refine sv_iconst (d := (0 : Int)) hM dX12_ways_312 rfl rfl ?_
    obtain ⟨o226, h⟩ := h
    refine sv_callV hM dX12_ways_313 sm_iv_1234 (by decide) (sm_a0 _) rfl rfl (Nat.le_of_ble_eq_true rfl) sm_h251 (Nat.le_of_ble_eq_true rfl) (Nat.le_of_ble_eq_true rfl) (F' := 5) (Nat.le_of_ble_eq_true rfl) rfl (t_writeTo (g198 69 (647740 : Int)) (g198 70 (647740 : Int)) r225 (1 : Int) (0 : Int) (sv_sts (sv_sts (sv_sts (sv_sts (sv_up (sv_up (sv_up (sv_up S 1148 0 p1) 1149 0 (0 : Int)) 1150 0 (0 : Int)) 1147 0 (0 : Int)) [68, 69, 70, 81, 82, 83, 84, 85, 86, 74, 78, 79, 80, 76, 77, 1100031] g10) [68, 69, 70] g198) [1143, 1144] g204) [1143, 1144] g211) ok222 k218 k219 hr225 (⟨by decide, by decide⟩ : 0 ≤ (1 : Int) ∧ (1 : Int) ≤ 1) (⟨by decide, by decide⟩ : 0 ≤ (0 : Int) ∧ (0 : Int) ≤ 1) o226) (fun v S1 hq => ?_)
    obtain ⟨rfl, ok228, md229, hpo230⟩ := hq
    obtain ⟨g227, rfl⟩ : ∃ g, S1 = sv_sts (sv_sts (sv_sts (sv_sts (sv_sts (sv_up (sv_up (sv_up (sv_up S 1148 0 p1) 1149 0 (0 : Int)) 1150 0 (0 : Int)) 1147 0 (0 : Int)) [68, 69, 70, 81, 82, 83, 84, 85, 86, 74, 78, 79, 80, 76, 77, 1100031] g10) [68, 69, 70] g198) [1143, 1144] g204) [1143, 1144] g211) [68, 69, 70] g := ⟨_, md229.eq⟩
    show sv_T sm_XS sm_cs sm_L sm_sh 23 (q_ways p1 S) 265 316 [(0, .ref 0), (1, sv_I p1), (2, sv_I (S 27 p1)), (3, sv_I (S 28 p1)), (4, sv_I (647740 : Int))] [] (sv_sts (sv_sts (sv_sts (sv_sts (sv_sts (sv_up (sv_up (sv_up (sv_up S 1148 0 p1) 1149 0 (0 : Int)) 1150 0 (0 : Int)) 1147 0 (0 : Int)) [68, 69, 70, 81, 82, 83, 84, 85, 86, 74, 78, 79, 80, 76, 77, 1100031] g10) [68, 69, 70] g198) [1143, 1144] g204) [1143, 1144] g211) [68, 69, 70] g227)
    have md231 : sv_mod [68, 69, 70, 81, 82, 83, 84, 85, 86, 71, 74, 75, 1127, 78, 79, 80, 72, 76, 77, 1143, 1144, 5, 1011, 1150, 1149, 1145, 1113, 1111, 1112, 91, 1147, 1100031, 1148, 73] S (sv_sts (sv_sts (sv_sts (sv_sts (sv_sts (sv_up (sv_up (sv_up (sv_up S 1148 0 p1) 1149 0 (0 : Int)) 1150 0 (0 : Int)) 1147 0 (0 : Int)) [68, 69, 70, 81, 82, 83, 84, 85, 86, 74, 78, 79, 80, 76, 77, 1100031] g10) [68, 69, 70] g198) [1143, 1144] g204) [1143, 1144] g211) [68, 69, 70] g227) := sv_mod.sts md215 (by decide)
    have md232 : sv_mod [68, 69, 70, 81, 82, 83, 84, 85, 86, 71, 74, 75, 1127, 78, 79, 80, 72, 76, 77, 1143, 1144, 5, 1011, 1150, 1149, 1145, 1113, 1111, 1112, 91, 1147, 1100031] (sv_sts (sv_up (sv_up (sv_up (sv_up S 1148 0 p1) 1149 0 (0 : Int)) 1150 0 (0 : Int)) 1147 0 (0 : Int)) [68, 69, 70, 81, 82, 83, 84, 85, 86, 74, 78, 79, 80, 76, 77, 1100031] g10) (sv_sts (sv_sts (sv_sts (sv_sts (sv_sts (sv_up (sv_up (sv_up (sv_up S 1148 0 p1) 1149 0 (0 : Int)) 1150 0 (0 : Int)) 1147 0 (0 : Int)) [68, 69, 70, 81, 82, 83, 84, 85, 86, 74, 78, 79, 80, 76, 77, 1100031] g10) [68, 69, 70] g198) [1143, 1144] g204) [1143, 1144] g211) [68, 69, 70] g227) := sv_mod.sts md216 (by decide)
    have h := h g227 hpo230
    refine sv_aload_n hM dX12_ways_316 rfl rfl ?_
    obtain ⟨o233, h⟩ := h
    refine sv_callV hM dX12_ways_317 sm_iv_1222 (by decide) (sm_a0 _) rfl rfl (Nat.le_of_ble_eq_true rfl) sm_h258 (Nat.le_of_ble_eq_true rfl) (Nat.le_of_ble_eq_true rfl) (F' := 4) (Nat.le_of_ble_eq_true rfl) rfl (t_on  (sv_sts (sv_sts (sv_sts (sv_sts (sv_sts (sv_up (sv_up (sv_up (sv_up S 1148 0 p1) 1149 0 (0 : Int)) 1150 0 (0 : Int)) 1147 0 (0 : Int)) [68, 69, 70, 81, 82, 83, 84, 85, 86, 74, 78, 79, 80, 76, 77, 1100031] g10) [68, 69, 70] g198) [1143, 1144] g204) [1143, 1144] g211) [68, 69, 70] g227) ok228 o233) (fun v S1 hq => ?_)
    obtain ⟨rfl, ok235, md236, hpo237⟩ := hq
    obtain ⟨g234, rfl⟩ : ∃ g, S1 = sv_sts (sv_sts (sv_sts (sv_sts (sv_sts (sv_sts (sv_up (sv_up (sv_up (sv_up S 1148 0 p1) 1149 0 (0 : Int)) 1150 0 (0 : Int)) 1147 0 (0 : Int)) [68, 69, 70, 81, 82, 83, 84, 85, 86, 74, 78, 79, 80, 76, 77, 1100031] g10) [68, 69, 70] g198) [1143, 1144] g204) [1143, 1144] g211) [68, 69, 70] g227) [68, 69, 70, 81, 82, 83, 84, 85, 86, 71, 74, 75, 1127, 78, 79, 80, 72, 76, 77, 1150] g := ⟨_, md236.eq⟩
    show sv_T sm_XS sm_cs sm_L sm_sh 23 (q_ways p1 S) 265 320 [(0, .ref 0), (1, sv_I p1), (2, sv_I (S 27 p1)), (3, sv_I (S 28 p1)), (4, sv_I (647740 : Int))] [] (sv_sts (sv_sts (sv_sts (sv_sts (sv_sts (sv_sts (sv_up (sv_up (sv_up (sv_up S 1148 0 p1) 1149 0 (0 : Int)) 1150 0 (0 : Int)) 1147 0 (0 : Int)) [68, 69, 70, 81, 82, 83, 84, 85, 86, 74, 78, 79, 80, 76, 77, 1100031] g10) [68, 69, 70] g198) [1143, 1144] g204) [1143, 1144] g211) [68, 69, 70] g227) [68, 69, 70, 81, 82, 83, 84, 85, 86, 71, 74, 75, 1127, 78, 79, 80, 72, 76, 77, 1150] g234)
    have md238 : sv_mod [68, 69, 70, 81, 82, 83, 84, 85, 86, 71, 74, 75, 1127, 78, 79, 80, 72, 76, 77, 1143, 1144, 5, 1011, 1150, 1149, 1145, 1113, 1111, 1112, 91, 1147, 1100031, 1148, 73] S (sv_sts (sv_sts (sv_sts (sv_sts (sv_sts (sv_sts (sv_up (sv_up (sv_up (sv_up S 1148 0 p1) 1149 0 (0 : Int)) 1150 0 (0 : Int)) 1147 0 (0 : Int)) [68, 69, 70, 81, 82, 83, 84, 85, 86, 74, 78, 79, 80, 76, 77, 1100031] g10) [68, 69, 70] g198) [1143, 1144] g204) [1143, 1144] g211) [68, 69, 70] g227) [68, 69, 70, 81, 82, 83, 84, 85, 86, 71, 74, 75, 1127, 78, 79, 80, 72, 76, 77, 1150] g234) := sv_mod.sts md231 (by decide)
    have md239 : sv_mod [68, 69, 70, 81, 82, 83, 84, 85, 86, 71, 74, 75, 1127, 78, 79, 80, 72, 76, 77, 1143, 1144, 5, 1011, 1150, 1149, 1145, 1113, 1111, 1112, 91, 1147, 1100031] (sv_sts (sv_up (sv_up (sv_up (sv_up S 1148 0 p1) 1149 0 (0 : Int)) 1150 0 (0 : Int)) 1147 0 (0 : Int)) [68, 69, 70, 81, 82, 83, 84, 85, 86, 74, 78, 79, 80, 76, 77, 1100031] g10) (sv_sts (sv_sts (sv_sts (sv_sts (sv_sts (sv_sts (sv_up (sv_up (sv_up (sv_up S 1148 0 p1) 1149 0 (0 : Int)) 1150 0 (0 : Int)) 1147 0 (0 : Int)) [68, 69, 70, 81, 82, 83, 84, 85, 86, 74, 78, 79, 80, 76, 77, 1100031] g10) [68, 69, 70] g198) [1143, 1144] g204) [1143, 1144] g211) [68, 69, 70] g227) [68, 69, 70, 81, 82, 83, 84, 85, 86, 71, 74, 75, 1127, 78, 79, 80, 72, 76, 77, 1150] g234) := sv_mod.sts md232 (by decide)
    have h := h g234 hpo237
    refine sv_goto hM dX12_ways_320 (pc' := 665) rfl ?_
    have eS := sv_mod.eq md239
    have hb := J63 (sv_sts (sv_sts (sv_sts (sv_sts (sv_sts (sv_sts (sv_up (sv_up (sv_up (sv_up S 1148 0 p1) 1149 0 (0 : Int)) 1150 0 (0 : Int)) 1147 0 (0 : Int)) [68, 69, 70, 81, 82, 83, 84, 85, 86, 74, 78, 79, 80, 76, 77, 1100031] g10) [68, 69, 70] g198) [1143, 1144] g204) [1143, 1144] g211) [68, 69, 70] g227) [68, 69, 70, 81, 82, 83, 84, 85, 86, 71, 74, 75, 1127, 78, 79, 80, 72, 76, 77, 1150] g234) (by rw [← eS]; exact ok235) h
    have hb : sv_T sm_XS sm_cs sm_L sm_sh 23 (q_ways p1 S) 265 665 [(0, .ref 0), (1, sv_I p1), (2, sv_I (S 27 p1)), (3, sv_I (S 28 p1)), (4, sv_I (647740 : Int))] [] (sv_sts (sv_sts (sv_sts (sv_sts (sv_sts (sv_sts (sv_up (sv_up (sv_up (sv_up S 1148 0 p1) 1149 0 (0 : Int)) 1150 0 (0 : Int)) 1147 0 (0 : Int)) [68, 69, 70, 81, 82, 83, 84, 85, 86, 74, 78, 79, 80, 76, 77, 1100031] g10) [68, 69, 70] g198) [1143, 1144] g204) [1143, 1144] g211) [68, 69, 70] g227) [68, 69, 70, 81, 82, 83, 84, 85, 86, 71, 74, 75, 1127, 78, 79, 80, 72, 76, 77, 1150] g234) := Eq.mpr (congrArg (fun Z => sv_T sm_XS sm_cs sm_L sm_sh 23 (q_ways p1 S) 265 665 [(0, .ref 0), (1, sv_I p1), (2, sv_I (S 27 p1)), (3, sv_I (S 28 p1)), (4, sv_I (647740 : Int))] [] Z) eS) hb
    exact sv_less (lv := [(0, .ref 0), (1, sv_I p1), (2, sv_I (S 27 p1)), (3, sv_I (S 28 p1)), (4, sv_I (647740 : Int))]) (sv_Sub_cons rfl (sv_Sub_cons rfl (sv_Sub_cons rfl (sv_Sub_cons rfl (sv_Sub_cons rfl sv_Sub_nil))))) hb
  have J4 : ((S 26 p1) = (3 : Int) ∨ (S 26 p1) = (5 : Int)) → sv_T sm_XS sm_cs sm_L sm_sh 23 (q_ways p1 S) 265 323 [(0, .ref 0), (1, sv_I p1), (2, sv_I (S 27 p1)), (3, sv_I (S 28 p1)), (4, sv_I (647740 : Int))] [] (sv_sts (sv_up (sv_up (sv_up (sv_up S 1148 0 p1) 1149 0 (0 : Int)) 1150 0 (0 : Int)) 1147 0 (0 : Int)) [68, 69, 70, 81, 82, 83, 84, 85, 86, 74, 78, 79, 80, 76, 77, 1100031] g10) := by
    intro hc
    have h := hS.2.2.2.2.1 hc
    refine sv_aload_n hM dX12_ways_323 rfl rfl ?_
    refine sv_iload_n hM dX12_ways_324 rfl rfl ?_
    refine sv_aload_n hM dX12_ways_325 rfl rfl ?_
    refine sv_getA hM dX12_ways_326 sm_fl_89 (sm_a0 _) sm_k48 rfl ?_
    refine sv_iload_n hM dX12_ways_329 rfl rfl ?_
    refine sv_iald hM dX12_ways_330 (sm_a26 _) (by decide) o40.1 o40.2 rfl (x := (S 26 p1)) rfl ?_
    refine sv_iconst (d := (3 : Int)) hM dX12_ways_331 rfl rfl ?_
    refine sv_icmp_ne hM dX12_ways_332 k64 (⟨by decide, by decide⟩ : sv_R (3 : Int)) (t := 339) rfl rfl (fun hc => ?_) (fun hc => ?_)
    · have h := h.1 (hc)
      refine sv_iconst (d := (0 : Int)) hM dX12_ways_339 rfl rfl ?_
      obtain ⟨o240, h⟩ := h
      refine sv_callV hM dX12_ways_340 sm_iv_1238 (by decide) (sm_a0 _) rfl rfl (Nat.le_of_ble_eq_true rfl) sm_h270 (Nat.le_of_ble_eq_true rfl) (Nat.le_of_ble_eq_true rfl) (F' := 9) (Nat.le_of_ble_eq_true rfl) rfl (t_waysOfGlobal (S 28 p1) (0 : Int) (sv_sts (sv_up (sv_up (sv_up (sv_up S 1148 0 p1) 1149 0 (0 : Int)) 1150 0 (0 : Int)) 1147 0 (0 : Int)) [68, 69, 70, 81, 82, 83, 84, 85, 86, 74, 78, 79, 80, 76, 77, 1100031] g10) ok11 k42 (⟨by decide, by decide⟩ : 0 ≤ (0 : Int) ∧ (0 : Int) ≤ 1) o240) (fun v S1 hq => ?_)
      obtain ⟨rfl, ok242, md243, hpo244⟩ := hq
      obtain ⟨g241, rfl⟩ : ∃ g, S1 = sv_sts (sv_sts (sv_up (sv_up (sv_up (sv_up S 1148 0 p1) 1149 0 (0 : Int)) 1150 0 (0 : Int)) 1147 0 (0 : Int)) [68, 69, 70, 81, 82, 83, 84, 85, 86, 74, 78, 79, 80, 76, 77, 1100031] g10) [68, 69, 70, 81, 82, 83, 84, 85, 86, 71, 74, 75, 1127, 78, 79, 80, 72, 76, 77, 1143, 1144, 5, 1011, 1150, 1149, 1145, 1113, 1111, 1112, 1100031] g := ⟨_, md243.eq⟩
      show sv_T sm_XS sm_cs sm_L sm_sh 23 (q_ways p1 S) 265 343 [(0, .ref 0), (1, sv_I p1), (2, sv_I (S 27 p1)), (3, sv_I (S 28 p1)), (4, sv_I (647740 : Int))] [] (sv_sts (sv_sts (sv_up (sv_up (sv_up (sv_up S 1148 0 p1) 1149 0 (0 : Int)) 1150 0 (0 : Int)) 1147 0 (0 : Int)) [68, 69, 70, 81, 82, 83, 84, 85, 86, 74, 78, 79, 80, 76, 77, 1100031] g10) [68, 69, 70, 81, 82, 83, 84, 85, 86, 71, 74, 75, 1127, 78, 79, 80, 72, 76, 77, 1143, 1144, 5, 1011, 1150, 1149, 1145, 1113, 1111, 1112, 1100031] g241)
      have md245 : sv_mod [68, 69, 70, 81, 82, 83, 84, 85, 86, 71, 74, 75, 1127, 78, 79, 80, 72, 76, 77, 1143, 1144, 5, 1011, 1150, 1149, 1145, 1113, 1111, 1112, 91, 1147, 1100031, 1148, 73] S (sv_sts (sv_sts (sv_up (sv_up (sv_up (sv_up S 1148 0 p1) 1149 0 (0 : Int)) 1150 0 (0 : Int)) 1147 0 (0 : Int)) [68, 69, 70, 81, 82, 83, 84, 85, 86, 74, 78, 79, 80, 76, 77, 1100031] g10) [68, 69, 70, 81, 82, 83, 84, 85, 86, 71, 74, 75, 1127, 78, 79, 80, 72, 76, 77, 1143, 1144, 5, 1011, 1150, 1149, 1145, 1113, 1111, 1112, 1100031] g241) := sv_mod.sts md14 (by decide)
      have md246 : sv_mod [68, 69, 70, 81, 82, 83, 84, 85, 86, 71, 74, 75, 1127, 78, 79, 80, 72, 76, 77, 1143, 1144, 5, 1011, 1150, 1149, 1145, 1113, 1111, 1112, 91, 1147, 1100031] (sv_sts (sv_up (sv_up (sv_up (sv_up S 1148 0 p1) 1149 0 (0 : Int)) 1150 0 (0 : Int)) 1147 0 (0 : Int)) [68, 69, 70, 81, 82, 83, 84, 85, 86, 74, 78, 79, 80, 76, 77, 1100031] g10) (sv_sts (sv_sts (sv_up (sv_up (sv_up (sv_up S 1148 0 p1) 1149 0 (0 : Int)) 1150 0 (0 : Int)) 1147 0 (0 : Int)) [68, 69, 70, 81, 82, 83, 84, 85, 86, 74, 78, 79, 80, 76, 77, 1100031] g10) [68, 69, 70, 81, 82, 83, 84, 85, 86, 71, 74, 75, 1127, 78, 79, 80, 72, 76, 77, 1143, 1144, 5, 1011, 1150, 1149, 1145, 1113, 1111, 1112, 1100031] g241) := sv_mod.sts (sv_mod.rf (l := [68, 69, 70, 81, 82, 83, 84, 85, 86, 71, 74, 75, 1127, 78, 79, 80, 72, 76, 77, 1143, 1144, 5, 1011, 1150, 1149, 1145, 1113, 1111, 1112, 91, 1147, 1100031]) (S := (sv_sts (sv_up (sv_up (sv_up (sv_up S 1148 0 p1) 1149 0 (0 : Int)) 1150 0 (0 : Int)) 1147 0 (0 : Int)) [68, 69, 70, 81, 82, 83, 84, 85, 86, 74, 78, 79, 80, 76, 77, 1100031] g10))) (by decide)
      have h := h g241 hpo244
      refine sv_goto hM dX12_ways_343 (pc' := 665) rfl ?_
      have eS := sv_mod.eq md246
      have hb := J63 (sv_sts (sv_sts (sv_up (sv_up (sv_up (sv_up S 1148 0 p1) 1149 0 (0 : Int)) 1150 0 (0 : Int)) 1147 0 (0 : Int)) [68, 69, 70, 81, 82, 83, 84, 85, 86, 74, 78, 79, 80, 76, 77, 1100031] g10) [68, 69, 70, 81, 82, 83, 84, 85, 86, 71, 74, 75, 1127, 78, 79, 80, 72, 76, 77, 1143, 1144, 5, 1011, 1150, 1149, 1145, 1113, 1111, 1112, 1100031] g241) (by rw [← eS]; exact ok242) h
      have hb : sv_T sm_XS sm_cs sm_L sm_sh 23 (q_ways p1 S) 265 665 [(0, .ref 0), (1, sv_I p1), (2, sv_I (S 27 p1)), (3, sv_I (S 28 p1)), (4, sv_I (647740 : Int))] [] (sv_sts (sv_sts (sv_up (sv_up (sv_up (sv_up S 1148 0 p1) 1149 0 (0 : Int)) 1150 0 (0 : Int)) 1147 0 (0 : Int)) [68, 69, 70, 81, 82, 83, 84, 85, 86, 74, 78, 79, 80, 76, 77, 1100031] g10) [68, 69, 70, 81, 82, 83, 84, 85, 86, 71, 74, 75, 1127, 78, 79, 80, 72, 76, 77, 1143, 1144, 5, 1011, 1150, 1149, 1145, 1113, 1111, 1112, 1100031] g241) := Eq.mpr (congrArg (fun Z => sv_T sm_XS sm_cs sm_L sm_sh 23 (q_ways p1 S) 265 665 [(0, .ref 0), (1, sv_I p1), (2, sv_I (S 27 p1)), (3, sv_I (S 28 p1)), (4, sv_I (647740 : Int))] [] Z) eS) hb
      exact sv_less (lv := [(0, .ref 0), (1, sv_I p1), (2, sv_I (S 27 p1)), (3, sv_I (S 28 p1)), (4, sv_I (647740 : Int))]) (sv_Sub_cons rfl (sv_Sub_cons rfl (sv_Sub_cons rfl (sv_Sub_cons rfl (sv_Sub_cons rfl sv_Sub_nil))))) hb
    · have h := h.2 (hc)
      refine sv_iconst (d := (1 : Int)) hM dX12_ways_335 rfl rfl ?_
      refine sv_goto hM dX12_ways_336 (pc' := 340) rfl ?_
      obtain ⟨o247, h⟩ := h
      refine sv_callV hM dX12_ways_340 sm_iv_1238 (by decide) (sm_a0 _) rfl rfl (Nat.le_of_ble_eq_true rfl) sm_h270 (Nat.le_of_ble_eq_true rfl) (Nat.le_of_ble_eq_true rfl) (F' := 9) (Nat.le_of_ble_eq_true rfl) rfl (t_waysOfGlobal (S 28 p1) (1 : Int) (sv_sts (sv_up (sv_up (sv_up (sv_up S 1148 0 p1) 1149 0 (0 : Int)) 1150 0 (0 : Int)) 1147 0 (0 : Int)) [68, 69, 70, 81, 82, 83, 84, 85, 86, 74, 78, 79, 80, 76, 77, 1100031] g10) ok11 k42 (⟨by decide, by decide⟩ : 0 ≤ (1 : Int) ∧ (1 : Int) ≤ 1) o247) (fun v S1 hq => ?_)
      obtain ⟨rfl, ok249, md250, hpo251⟩ := hq
      obtain ⟨g248, rfl⟩ : ∃ g, S1 = sv_sts (sv_sts (sv_up (sv_up (sv_up (sv_up S 1148 0 p1) 1149 0 (0 : Int)) 1150 0 (0 : Int)) 1147 0 (0 : Int)) [68, 69, 70, 81, 82, 83, 84, 85, 86, 74, 78, 79, 80, 76, 77, 1100031] g10) [68, 69, 70, 81, 82, 83, 84, 85, 86, 71, 74, 75, 1127, 78, 79, 80, 72, 76, 77, 1143, 1144, 5, 1011, 1150, 1149, 1145, 1113, 1111, 1112, 1100031] g := ⟨_, md250.eq⟩
      show sv_T sm_XS sm_cs sm_L sm_sh 23 (q_ways p1 S) 265 343 [(0, .ref 0), (1, sv_I p1), (2, sv_I (S 27 p1)), (3, sv_I (S 28 p1)), (4, sv_I (647740 : Int))] [] (sv_sts (sv_sts (sv_up (sv_up (sv_up (sv_up S 1148 0 p1) 1149 0 (0 : Int)) 1150 0 (0 : Int)) 1147 0 (0 : Int)) [68, 69, 70, 81, 82, 83, 84, 85, 86, 74, 78, 79, 80, 76, 77, 1100031] g10) [68, 69, 70, 81, 82, 83, 84, 85, 86, 71, 74, 75, 1127, 78, 79, 80, 72, 76, 77, 1143, 1144, 5, 1011, 1150, 1149, 1145, 1113, 1111, 1112, 1100031] g248)
      have md252 : sv_mod [68, 69, 70, 81, 82, 83, 84, 85, 86, 71, 74, 75, 1127, 78, 79, 80, 72, 76, 77, 1143, 1144, 5, 1011, 1150, 1149, 1145, 1113, 1111, 1112, 91, 1147, 1100031, 1148, 73] S (sv_sts (sv_sts (sv_up (sv_up (sv_up (sv_up S 1148 0 p1) 1149 0 (0 : Int)) 1150 0 (0 : Int)) 1147 0 (0 : Int)) [68, 69, 70, 81, 82, 83, 84, 85, 86, 74, 78, 79, 80, 76, 77, 1100031] g10) [68, 69, 70, 81, 82, 83, 84, 85, 86, 71, 74, 75, 1127, 78, 79, 80, 72, 76, 77, 1143, 1144, 5, 1011, 1150, 1149, 1145, 1113, 1111, 1112, 1100031] g248) := sv_mod.sts md14 (by decide)
      have md253 : sv_mod [68, 69, 70, 81, 82, 83, 84, 85, 86, 71, 74, 75, 1127, 78, 79, 80, 72, 76, 77, 1143, 1144, 5, 1011, 1150, 1149, 1145, 1113, 1111, 1112, 91, 1147, 1100031] (sv_sts (sv_up (sv_up (sv_up (sv_up S 1148 0 p1) 1149 0 (0 : Int)) 1150 0 (0 : Int)) 1147 0 (0 : Int)) [68, 69, 70, 81, 82, 83, 84, 85, 86, 74, 78, 79, 80, 76, 77, 1100031] g10) (sv_sts (sv_sts (sv_up (sv_up (sv_up (sv_up S 1148 0 p1) 1149 0 (0 : Int)) 1150 0 (0 : Int)) 1147 0 (0 : Int)) [68, 69, 70, 81, 82, 83, 84, 85, 86, 74, 78, 79, 80, 76, 77, 1100031] g10) [68, 69, 70, 81, 82, 83, 84, 85, 86, 71, 74, 75, 1127, 78, 79, 80, 72, 76, 77, 1143, 1144, 5, 1011, 1150, 1149, 1145, 1113, 1111, 1112, 1100031] g248) := sv_mod.sts (sv_mod.rf (l := [68, 69, 70, 81, 82, 83, 84, 85, 86, 71, 74, 75, 1127, 78, 79, 80, 72, 76, 77, 1143, 1144, 5, 1011, 1150, 1149, 1145, 1113, 1111, 1112, 91, 1147, 1100031]) (S := (sv_sts (sv_up (sv_up (sv_up (sv_up S 1148 0 p1) 1149 0 (0 : Int)) 1150 0 (0 : Int)) 1147 0 (0 : Int)) [68, 69, 70, 81, 82, 83, 84, 85, 86, 74, 78, 79, 80, 76, 77, 1100031] g10))) (by decide)
      have h := h g248 hpo251
      refine sv_goto hM dX12_ways_343 (pc' := 665) rfl ?_
      have eS := sv_mod.eq md253
      have hb := J63 (sv_sts (sv_sts (sv_up (sv_up (sv_up (sv_up S 1148 0 p1) 1149 0 (0 : Int)) 1150 0 (0 : Int)) 1147 0 (0 : Int)) [68, 69, 70, 81, 82, 83, 84, 85, 86, 74, 78, 79, 80, 76, 77, 1100031] g10) [68, 69, 70, 81, 82, 83, 84, 85, 86, 71, 74, 75, 1127, 78, 79, 80, 72, 76, 77, 1143, 1144, 5, 1011, 1150, 1149, 1145, 1113, 1111, 1112, 1100031] g248) (by rw [← eS]; exact ok249) h
      have hb : sv_T sm_XS sm_cs sm_L sm_sh 23 (q_ways p1 S) 265 665 [(0, .ref 0), (1, sv_I p1), (2, sv_I (S 27 p1)), (3, sv_I (S 28 p1)), (4, sv_I (647740 : Int))] [] (sv_sts (sv_sts (sv_up (sv_up (sv_up (sv_up S 1148 0 p1) 1149 0 (0 : Int)) 1150 0 (0 : Int)) 1147 0 (0 : Int)) [68, 69, 70, 81, 82, 83, 84, 85, 86, 74, 78, 79, 80, 76, 77, 1100031] g10) [68, 69, 70, 81, 82, 83, 84, 85, 86, 71, 74, 75, 1127, 78, 79, 80, 72, 76, 77, 1143, 1144, 5, 1011, 1150, 1149, 1145, 1113, 1111, 1112, 1100031] g248) := Eq.mpr (congrArg (fun Z => sv_T sm_XS sm_cs sm_L sm_sh 23 (q_ways p1 S) 265 665 [(0, .ref 0), (1, sv_I p1), (2, sv_I (S 27 p1)), (3, sv_I (S 28 p1)), (4, sv_I (647740 : Int))] [] Z) eS) hb
      exact sv_less (lv := [(0, .ref 0), (1, sv_I p1), (2, sv_I (S 27 p1)), (3, sv_I (S 28 p1)), (4, sv_I (647740 : Int))]) (sv_Sub_cons rfl (sv_Sub_cons rfl (sv_Sub_cons rfl (sv_Sub_cons rfl (sv_Sub_cons rfl sv_Sub_nil))))) hb
  have J5 : ((S 26 p1) = (4 : Int)) → sv_T sm_XS sm_cs sm_L sm_sh 23 (q_ways p1 S) 265 346 [(0, .ref 0), (1, sv_I p1), (2, sv_I (S 27 p1)), (3, sv_I (S 28 p1)), (4, sv_I (647740 : Int))] [] (sv_sts (sv_up (sv_up (sv_up (sv_up S 1148 0 p1) 1149 0 (0 : Int)) 1150 0 (0 : Int)) 1147 0 (0 : Int)) [68, 69, 70, 81, 82, 83, 84, 85, 86, 74, 78, 79, 80, 76, 77, 1100031] g10) := by
    intro hc
    have h := hS.2.2.2.2.2.1 hc
    refine sv_aload_n hM dX12_ways_346 rfl rfl ?_
    refine sv_callV hM dX12_ways_347 sm_iv_1135 (by decide) (sm_a0 _) rfl rfl (Nat.le_of_ble_eq_true rfl) sm_h244 (Nat.le_of_ble_eq_true rfl) (Nat.le_of_ble_eq_true rfl) (F' := 0) (Nat.le_of_ble_eq_true rfl) rfl (t_noKeys  (sv_sts (sv_up (sv_up (sv_up (sv_up S 1148 0 p1) 1149 0 (0 : Int)) 1150 0 (0 : Int)) 1147 0 (0 : Int)) [68, 69, 70, 81, 82, 83, 84, 85, 86, 74, 78, 79, 80, 76, 77, 1100031] g10) ok11) (fun v S1 hq => ?_)
    obtain ⟨rfl, ok255, md256, hpo257⟩ := hq
    obtain ⟨g254, rfl⟩ : ∃ g, S1 = sv_sts (sv_sts (sv_up (sv_up (sv_up (sv_up S 1148 0 p1) 1149 0 (0 : Int)) 1150 0 (0 : Int)) 1147 0 (0 : Int)) [68, 69, 70, 81, 82, 83, 84, 85, 86, 74, 78, 79, 80, 76, 77, 1100031] g10) [1143, 1144] g := ⟨_, md256.eq⟩
    show sv_T sm_XS sm_cs sm_L sm_sh 23 (q_ways p1 S) 265 350 [(0, .ref 0), (1, sv_I p1), (2, sv_I (S 27 p1)), (3, sv_I (S 28 p1)), (4, sv_I (647740 : Int))] [] (sv_sts (sv_sts (sv_up (sv_up (sv_up (sv_up S 1148 0 p1) 1149 0 (0 : Int)) 1150 0 (0 : Int)) 1147 0 (0 : Int)) [68, 69, 70, 81, 82, 83, 84, 85, 86, 74, 78, 79, 80, 76, 77, 1100031] g10) [1143, 1144] g254)
    have md258 : sv_mod [68, 69, 70, 81, 82, 83, 84, 85, 86, 71, 74, 75, 1127, 78, 79, 80, 72, 76, 77, 1143, 1144, 5, 1011, 1150, 1149, 1145, 1113, 1111, 1112, 91, 1147, 1100031, 1148, 73] S (sv_sts (sv_sts (sv_up (sv_up (sv_up (sv_up S 1148 0 p1) 1149 0 (0 : Int)) 1150 0 (0 : Int)) 1147 0 (0 : Int)) [68, 69, 70, 81, 82, 83, 84, 85, 86, 74, 78, 79, 80, 76, 77, 1100031] g10) [1143, 1144] g254) := sv_mod.sts md14 (by decide)
    have md259 : sv_mod [68, 69, 70, 81, 82, 83, 84, 85, 86, 71, 74, 75, 1127, 78, 79, 80, 72, 76, 77, 1143, 1144, 5, 1011, 1150, 1149, 1145, 1113, 1111, 1112, 91, 1147, 1100031] (sv_sts (sv_up (sv_up (sv_up (sv_up S 1148 0 p1) 1149 0 (0 : Int)) 1150 0 (0 : Int)) 1147 0 (0 : Int)) [68, 69, 70, 81, 82, 83, 84, 85, 86, 74, 78, 79, 80, 76, 77, 1100031] g10) (sv_sts (sv_sts (sv_up (sv_up (sv_up (sv_up S 1148 0 p1) 1149 0 (0 : Int)) 1150 0 (0 : Int)) 1147 0 (0 : Int)) [68, 69, 70, 81, 82, 83, 84, 85, 86, 74, 78, 79, 80, 76, 77, 1100031] g10) [1143, 1144] g254) := sv_mod.sts (sv_mod.rf (l := [68, 69, 70, 81, 82, 83, 84, 85, 86, 71, 74, 75, 1127, 78, 79, 80, 72, 76, 77, 1143, 1144, 5, 1011, 1150, 1149, 1145, 1113, 1111, 1112, 91, 1147, 1100031]) (S := (sv_sts (sv_up (sv_up (sv_up (sv_up S 1148 0 p1) 1149 0 (0 : Int)) 1150 0 (0 : Int)) 1147 0 (0 : Int)) [68, 69, 70, 81, 82, 83, 84, 85, 86, 74, 78, 79, 80, 76, 77, 1100031] g10))) (by decide)
    have h := h g254 hpo257
    refine sv_aload_n hM dX12_ways_350 rfl rfl ?_
    refine sv_iload_n hM dX12_ways_351 rfl rfl ?_
    obtain ⟨o260, h⟩ := h
    refine sv_callV hM dX12_ways_352 sm_iv_1138 (by decide) (sm_a0 _) rfl rfl (Nat.le_of_ble_eq_true rfl) sm_h241 (Nat.le_of_ble_eq_true rfl) (Nat.le_of_ble_eq_true rfl) (F' := 0) (Nat.le_of_ble_eq_true rfl) rfl (t_addKey (S 28 p1) (sv_sts (sv_sts (sv_up (sv_up (sv_up (sv_up S 1148 0 p1) 1149 0 (0 : Int)) 1150 0 (0 : Int)) 1147 0 (0 : Int)) [68, 69, 70, 81, 82, 83, 84, 85, 86, 74, 78, 79, 80, 76, 77, 1100031] g10) [1143, 1144] g254) ok255 k42 o260) (fun v S1 hq => ?_)
    obtain ⟨rfl, ok262, md263, hpo264⟩ := hq
    obtain ⟨g261, rfl⟩ : ∃ g, S1 = sv_sts (sv_sts (sv_sts (sv_up (sv_up (sv_up (sv_up S 1148 0 p1) 1149 0 (0 : Int)) 1150 0 (0 : Int)) 1147 0 (0 : Int)) [68, 69, 70, 81, 82, 83, 84, 85, 86, 74, 78, 79, 80, 76, 77, 1100031] g10) [1143, 1144] g254) [1143, 1144] g := ⟨_, md263.eq⟩
    show sv_T sm_XS sm_cs sm_L sm_sh 23 (q_ways p1 S) 265 355 [(0, .ref 0), (1, sv_I p1), (2, sv_I (S 27 p1)), (3, sv_I (S 28 p1)), (4, sv_I (647740 : Int))] [] (sv_sts (sv_sts (sv_sts (sv_up (sv_up (sv_up (sv_up S 1148 0 p1) 1149 0 (0 : Int)) 1150 0 (0 : Int)) 1147 0 (0 : Int)) [68, 69, 70, 81, 82, 83, 84, 85, 86, 74, 78, 79, 80, 76, 77, 1100031] g10) [1143, 1144] g254) [1143, 1144] g261)
    have md265 : sv_mod [68, 69, 70, 81, 82, 83, 84, 85, 86, 71, 74, 75, 1127, 78, 79, 80, 72, 76, 77, 1143, 1144, 5, 1011, 1150, 1149, 1145, 1113, 1111, 1112, 91, 1147, 1100031, 1148, 73] S (sv_sts (sv_sts (sv_sts (sv_up (sv_up (sv_up (sv_up S 1148 0 p1) 1149 0 (0 : Int)) 1150 0 (0 : Int)) 1147 0 (0 : Int)) [68, 69, 70, 81, 82, 83, 84, 85, 86, 74, 78, 79, 80, 76, 77, 1100031] g10) [1143, 1144] g254) [1143, 1144] g261) := sv_mod.sts md258 (by decide)
    have md266 : sv_mod [68, 69, 70, 81, 82, 83, 84, 85, 86, 71, 74, 75, 1127, 78, 79, 80, 72, 76, 77, 1143, 1144, 5, 1011, 1150, 1149, 1145, 1113, 1111, 1112, 91, 1147, 1100031] (sv_sts (sv_up (sv_up (sv_up (sv_up S 1148 0 p1) 1149 0 (0 : Int)) 1150 0 (0 : Int)) 1147 0 (0 : Int)) [68, 69, 70, 81, 82, 83, 84, 85, 86, 74, 78, 79, 80, 76, 77, 1100031] g10) (sv_sts (sv_sts (sv_sts (sv_up (sv_up (sv_up (sv_up S 1148 0 p1) 1149 0 (0 : Int)) 1150 0 (0 : Int)) 1147 0 (0 : Int)) [68, 69, 70, 81, 82, 83, 84, 85, 86, 74, 78, 79, 80, 76, 77, 1100031] g10) [1143, 1144] g254) [1143, 1144] g261) := sv_mod.sts md259 (by decide)
    have h := h g261 hpo264
    refine sv_aload_n hM dX12_ways_355 rfl rfl ?_
    refine sv_lconst (d := (1 : Int)) hM dX12_ways_356 rfl rfl ?_
    refine sv_lconst (d := (0 : Int)) hM dX12_ways_357 rfl rfl ?_
    refine sv_aload_n hM dX12_ways_358 rfl rfl ?_
    refine sv_iconst (d := (0 : Int)) hM dX12_ways_359 rfl rfl ?_
    obtain ⟨o267, h⟩ := h
    refine sv_callV hM dX12_ways_360 sm_iv_1195 (by decide) (sm_a0 _) rfl rfl (Nat.le_of_ble_eq_true rfl) sm_h229 (Nat.le_of_ble_eq_true rfl) (Nat.le_of_ble_eq_true rfl) (F' := 0) (Nat.le_of_ble_eq_true rfl) rfl (t_fromTop (0 : Int) (sv_sts (sv_sts (sv_sts (sv_up (sv_up (sv_up (sv_up S 1148 0 p1) 1149 0 (0 : Int)) 1150 0 (0 : Int)) 1147 0 (0 : Int)) [68, 69, 70, 81, 82, 83, 84, 85, 86, 74, 78, 79, 80, 76, 77, 1100031] g10) [1143, 1144] g254) [1143, 1144] g261) ok262 (⟨by decide, by decide⟩ : sv_R (0 : Int)) o267) (fun v S1 hq => ?_)
    obtain ⟨r272, rfl, hr272, ok269, md270, hpo271⟩ := hq
    obtain rfl : (sv_sts (sv_sts (sv_sts (sv_up (sv_up (sv_up (sv_up S 1148 0 p1) 1149 0 (0 : Int)) 1150 0 (0 : Int)) 1147 0 (0 : Int)) [68, 69, 70, 81, 82, 83, 84, 85, 86, 74, 78, 79, 80, 76, 77, 1100031] g10) [1143, 1144] g254) [1143, 1144] g261) = S1 := (funext fun j => md270 j (by intro q; cases q)).symm
    show sv_T sm_XS sm_cs sm_L sm_sh 23 (q_ways p1 S) 265 363 [(0, .ref 0), (1, sv_I p1), (2, sv_I (S 27 p1)), (3, sv_I (S 28 p1)), (4, sv_I (647740 : Int))] [sv_I r272, sv_L (0 : Int), sv_L (1 : Int), .ref 0] (sv_sts (sv_sts (sv_sts (sv_up (sv_up (sv_up (sv_up S 1148 0 p1) 1149 0 (0 : Int)) 1150 0 (0 : Int)) 1147 0 (0 : Int)) [68, 69, 70, 81, 82, 83, 84, 85, 86, 74, 78, 79, 80, 76, 77, 1100031] g10) [1143, 1144] g254) [1143, 1144] g261)
    have h := h r272 hr272 hpo271
    refine sv_iconst (d := (1 : Int)) hM dX12_ways_363 rfl rfl ?_
    refine sv_iconst (d := (0 : Int)) hM dX12_ways_364 rfl rfl ?_
    obtain ⟨o273, h⟩ := h
    refine sv_callV hM dX12_ways_365 sm_iv_1234 (by decide) (sm_a0 _) rfl rfl (Nat.le_of_ble_eq_true rfl) sm_h251 (Nat.le_of_ble_eq_true rfl) (Nat.le_of_ble_eq_true rfl) (F' := 5) (Nat.le_of_ble_eq_true rfl) rfl (t_writeTo (1 : Int) (0 : Int) r272 (1 : Int) (0 : Int) (sv_sts (sv_sts (sv_sts (sv_up (sv_up (sv_up (sv_up S 1148 0 p1) 1149 0 (0 : Int)) 1150 0 (0 : Int)) 1147 0 (0 : Int)) [68, 69, 70, 81, 82, 83, 84, 85, 86, 74, 78, 79, 80, 76, 77, 1100031] g10) [1143, 1144] g254) [1143, 1144] g261) ok269 (⟨by decide, by decide⟩ : sv_RL (1 : Int)) (⟨by decide, by decide⟩ : sv_RL (0 : Int)) hr272 (⟨by decide, by decide⟩ : 0 ≤ (1 : Int) ∧ (1 : Int) ≤ 1) (⟨by decide, by decide⟩ : 0 ≤ (0 : Int) ∧ (0 : Int) ≤ 1) o273) (fun v S1 hq => ?_)
    obtain ⟨rfl, ok275, md276, hpo277⟩ := hq
    obtain ⟨g274, rfl⟩ : ∃ g, S1 = sv_sts (sv_sts (sv_sts (sv_sts (sv_up (sv_up (sv_up (sv_up S 1148 0 p1) 1149 0 (0 : Int)) 1150 0 (0 : Int)) 1147 0 (0 : Int)) [68, 69, 70, 81, 82, 83, 84, 85, 86, 74, 78, 79, 80, 76, 77, 1100031] g10) [1143, 1144] g254) [1143, 1144] g261) [68, 69, 70] g := ⟨_, md276.eq⟩
    show sv_T sm_XS sm_cs sm_L sm_sh 23 (q_ways p1 S) 265 368 [(0, .ref 0), (1, sv_I p1), (2, sv_I (S 27 p1)), (3, sv_I (S 28 p1)), (4, sv_I (647740 : Int))] [] (sv_sts (sv_sts (sv_sts (sv_sts (sv_up (sv_up (sv_up (sv_up S 1148 0 p1) 1149 0 (0 : Int)) 1150 0 (0 : Int)) 1147 0 (0 : Int)) [68, 69, 70, 81, 82, 83, 84, 85, 86, 74, 78, 79, 80, 76, 77, 1100031] g10) [1143, 1144] g254) [1143, 1144] g261) [68, 69, 70] g274)
    have md278 : sv_mod [68, 69, 70, 81, 82, 83, 84, 85, 86, 71, 74, 75, 1127, 78, 79, 80, 72, 76, 77, 1143, 1144, 5, 1011, 1150, 1149, 1145, 1113, 1111, 1112, 91, 1147, 1100031, 1148, 73] S (sv_sts (sv_sts (sv_sts (sv_sts (sv_up (sv_up (sv_up (sv_up S 1148 0 p1) 1149 0 (0 : Int)) 1150 0 (0 : Int)) 1147 0 (0 : Int)) [68, 69, 70, 81, 82, 83, 84, 85, 86, 74, 78, 79, 80, 76, 77, 1100031] g10) [1143, 1144] g254) [1143, 1144] g261) [68, 69, 70] g274) := sv_mod.sts md265 (by decide)
    have md279 : sv_mod [68, 69, 70, 81, 82, 83, 84, 85, 86, 71, 74, 75, 1127, 78, 79, 80, 72, 76, 77, 1143, 1144, 5, 1011, 1150, 1149, 1145, 1113, 1111, 1112, 91, 1147, 1100031] (sv_sts (sv_up (sv_up (sv_up (sv_up S 1148 0 p1) 1149 0 (0 : Int)) 1150 0 (0 : Int)) 1147 0 (0 : Int)) [68, 69, 70, 81, 82, 83, 84, 85, 86, 74, 78, 79, 80, 76, 77, 1100031] g10) (sv_sts (sv_sts (sv_sts (sv_sts (sv_up (sv_up (sv_up (sv_up S 1148 0 p1) 1149 0 (0 : Int)) 1150 0 (0 : Int)) 1147 0 (0 : Int)) [68, 69, 70, 81, 82, 83, 84, 85, 86, 74, 78, 79, 80, 76, 77, 1100031] g10) [1143, 1144] g254) [1143, 1144] g261) [68, 69, 70] g274) := sv_mod.sts md266 (by decide)
    have h := h g274 hpo277
    refine sv_aload_n hM dX12_ways_368 rfl rfl ?_
    obtain ⟨o280, h⟩ := h
    refine sv_callV hM dX12_ways_369 sm_iv_1222 (by decide) (sm_a0 _) rfl rfl (Nat.le_of_ble_eq_true rfl) sm_h258 (Nat.le_of_ble_eq_true rfl) (Nat.le_of_ble_eq_true rfl) (F' := 4) (Nat.le_of_ble_eq_true rfl) rfl (t_on  (sv_sts (sv_sts (sv_sts (sv_sts (sv_up (sv_up (sv_up (sv_up S 1148 0 p1) 1149 0 (0 : Int)) 1150 0 (0 : Int)) 1147 0 (0 : Int)) [68, 69, 70, 81, 82, 83, 84, 85, 86, 74, 78, 79, 80, 76, 77, 1100031] g10) [1143, 1144] g254) [1143, 1144] g261) [68, 69, 70] g274) ok275 o280) (fun v S1 hq => ?_)
    obtain ⟨rfl, ok282, md283, hpo284⟩ := hq
    obtain ⟨g281, rfl⟩ : ∃ g, S1 = sv_sts (sv_sts (sv_sts (sv_sts (sv_sts (sv_up (sv_up (sv_up (sv_up S 1148 0 p1) 1149 0 (0 : Int)) 1150 0 (0 : Int)) 1147 0 (0 : Int)) [68, 69, 70, 81, 82, 83, 84, 85, 86, 74, 78, 79, 80, 76, 77, 1100031] g10) [1143, 1144] g254) [1143, 1144] g261) [68, 69, 70] g274) [68, 69, 70, 81, 82, 83, 84, 85, 86, 71, 74, 75, 1127, 78, 79, 80, 72, 76, 77, 1150] g := ⟨_, md283.eq⟩
    show sv_T sm_XS sm_cs sm_L sm_sh 23 (q_ways p1 S) 265 372 [(0, .ref 0), (1, sv_I p1), (2, sv_I (S 27 p1)), (3, sv_I (S 28 p1)), (4, sv_I (647740 : Int))] [] (sv_sts (sv_sts (sv_sts (sv_sts (sv_sts (sv_up (sv_up (sv_up (sv_up S 1148 0 p1) 1149 0 (0 : Int)) 1150 0 (0 : Int)) 1147 0 (0 : Int)) [68, 69, 70, 81, 82, 83, 84, 85, 86, 74, 78, 79, 80, 76, 77, 1100031] g10) [1143, 1144] g254) [1143, 1144] g261) [68, 69, 70] g274) [68, 69, 70, 81, 82, 83, 84, 85, 86, 71, 74, 75, 1127, 78, 79, 80, 72, 76, 77, 1150] g281)
    have md285 : sv_mod [68, 69, 70, 81, 82, 83, 84, 85, 86, 71, 74, 75, 1127, 78, 79, 80, 72, 76, 77, 1143, 1144, 5, 1011, 1150, 1149, 1145, 1113, 1111, 1112, 91, 1147, 1100031, 1148, 73] S (sv_sts (sv_sts (sv_sts (sv_sts (sv_sts (sv_up (sv_up (sv_up (sv_up S 1148 0 p1) 1149 0 (0 : Int)) 1150 0 (0 : Int)) 1147 0 (0 : Int)) [68, 69, 70, 81, 82, 83, 84, 85, 86, 74, 78, 79, 80, 76, 77, 1100031] g10) [1143, 1144] g254) [1143, 1144] g261) [68, 69, 70] g274) [68, 69, 70, 81, 82, 83, 84, 85, 86, 71, 74, 75, 1127, 78, 79, 80, 72, 76, 77, 1150] g281) := sv_mod.sts md278 (by decide)
    have md286 : sv_mod [68, 69, 70, 81, 82, 83, 84, 85, 86, 71, 74, 75, 1127, 78, 79, 80, 72, 76, 77, 1143, 1144, 5, 1011, 1150, 1149, 1145, 1113, 1111, 1112, 91, 1147, 1100031] (sv_sts (sv_up (sv_up (sv_up (sv_up S 1148 0 p1) 1149 0 (0 : Int)) 1150 0 (0 : Int)) 1147 0 (0 : Int)) [68, 69, 70, 81, 82, 83, 84, 85, 86, 74, 78, 79, 80, 76, 77, 1100031] g10) (sv_sts (sv_sts (sv_sts (sv_sts (sv_sts (sv_up (sv_up (sv_up (sv_up S 1148 0 p1) 1149 0 (0 : Int)) 1150 0 (0 : Int)) 1147 0 (0 : Int)) [68, 69, 70, 81, 82, 83, 84, 85, 86, 74, 78, 79, 80, 76, 77, 1100031] g10) [1143, 1144] g254) [1143, 1144] g261) [68, 69, 70] g274) [68, 69, 70, 81, 82, 83, 84, 85, 86, 71, 74, 75, 1127, 78, 79, 80, 72, 76, 77, 1150] g281) := sv_mod.sts md279 (by decide)
    have h := h g281 hpo284
    refine sv_goto hM dX12_ways_372 (pc' := 665) rfl ?_
    have eS := sv_mod.eq md286
    have hb := J63 (sv_sts (sv_sts (sv_sts (sv_sts (sv_sts (sv_up (sv_up (sv_up (sv_up S 1148 0 p1) 1149 0 (0 : Int)) 1150 0 (0 : Int)) 1147 0 (0 : Int)) [68, 69, 70, 81, 82, 83, 84, 85, 86, 74, 78, 79, 80, 76, 77, 1100031] g10) [1143, 1144] g254) [1143, 1144] g261) [68, 69, 70] g274) [68, 69, 70, 81, 82, 83, 84, 85, 86, 71, 74, 75, 1127, 78, 79, 80, 72, 76, 77, 1150] g281) (by rw [← eS]; exact ok282) h
    have hb : sv_T sm_XS sm_cs sm_L sm_sh 23 (q_ways p1 S) 265 665 [(0, .ref 0), (1, sv_I p1), (2, sv_I (S 27 p1)), (3, sv_I (S 28 p1)), (4, sv_I (647740 : Int))] [] (sv_sts (sv_sts (sv_sts (sv_sts (sv_sts (sv_up (sv_up (sv_up (sv_up S 1148 0 p1) 1149 0 (0 : Int)) 1150 0 (0 : Int)) 1147 0 (0 : Int)) [68, 69, 70, 81, 82, 83, 84, 85, 86, 74, 78, 79, 80, 76, 77, 1100031] g10) [1143, 1144] g254) [1143, 1144] g261) [68, 69, 70] g274) [68, 69, 70, 81, 82, 83, 84, 85, 86, 71, 74, 75, 1127, 78, 79, 80, 72, 76, 77, 1150] g281) := Eq.mpr (congrArg (fun Z => sv_T sm_XS sm_cs sm_L sm_sh 23 (q_ways p1 S) 265 665 [(0, .ref 0), (1, sv_I p1), (2, sv_I (S 27 p1)), (3, sv_I (S 28 p1)), (4, sv_I (647740 : Int))] [] Z) eS) hb
    exact sv_less (lv := [(0, .ref 0), (1, sv_I p1), (2, sv_I (S 27 p1)), (3, sv_I (S 28 p1)), (4, sv_I (647740 : Int))]) (sv_Sub_cons rfl (sv_Sub_cons rfl (sv_Sub_cons rfl (sv_Sub_cons rfl (sv_Sub_cons rfl sv_Sub_nil))))) hb
  have J6 : ((S 26 p1) = (6 : Int)) → sv_T sm_XS sm_cs sm_L sm_sh 23 (q_ways p1 S) 265 375 [(0, .ref 0), (1, sv_I p1), (2, sv_I (S 27 p1)), (3, sv_I (S 28 p1)), (4, sv_I (647740 : Int))] [] (sv_sts (sv_up (sv_up (sv_up (sv_up S 1148 0 p1) 1149 0 (0 : Int)) 1150 0 (0 : Int)) 1147 0 (0 : Int)) [68, 69, 70, 81, 82, 83, 84, 85, 86, 74, 78, 79, 80, 76, 77, 1100031] g10) := by
    intro hc
    have h := hS.2.2.2.2.2.2.1 hc
    refine sv_aload_n hM dX12_ways_375 rfl rfl ?_
    refine sv_aload_n hM dX12_ways_376 rfl rfl ?_
    refine sv_sipush (d := (639 : Int)) hM dX12_ways_377 rfl rfl ?_
    refine sv_callV hM dX12_ways_380 sm_iv_1098 (by decide) (sm_a0 _) rfl rfl (Nat.le_of_ble_eq_true rfl) sm_h227 (Nat.le_of_ble_eq_true rfl) (Nat.le_of_ble_eq_true rfl) (F' := 0) (Nat.le_of_ble_eq_true rfl) rfl (t_thisAt (639 : Int) (sv_sts (sv_up (sv_up (sv_up (sv_up S 1148 0 p1) 1149 0 (0 : Int)) 1150 0 (0 : Int)) 1147 0 (0 : Int)) [68, 69, 70, 81, 82, 83, 84, 85, 86, 74, 78, 79, 80, 76, 77, 1100031] g10) ok11 (⟨by decide, by decide⟩ : sv_R (639 : Int))) (fun v S1 hq => ?_)
    obtain ⟨rfl, hS1⟩ := hq
    obtain rfl : (sv_sts (sv_up (sv_up (sv_up (sv_up S 1148 0 p1) 1149 0 (0 : Int)) 1150 0 (0 : Int)) 1147 0 (0 : Int)) [68, 69, 70, 81, 82, 83, 84, 85, 86, 74, 78, 79, 80, 76, 77, 1100031] g10) = S1 := hS1.symm
    show sv_T sm_XS sm_cs sm_L sm_sh 23 (q_ways p1 S) 265 383 [(0, .ref 0), (1, sv_I p1), (2, sv_I (S 27 p1)), (3, sv_I (S 28 p1)), (4, sv_I (647740 : Int))] [sv_I (635000 + (639 : Int)), .ref 0] (sv_sts (sv_up (sv_up (sv_up (sv_up S 1148 0 p1) 1149 0 (0 : Int)) 1150 0 (0 : Int)) 1147 0 (0 : Int)) [68, 69, 70, 81, 82, 83, 84, 85, 86, 74, 78, 79, 80, 76, 77, 1100031] g10)
    refine sv_aload_n hM dX12_ways_383 rfl rfl ?_
    obtain ⟨o287, h⟩ := h
    refine sv_callV hM dX12_ways_384 sm_iv_1201 (by decide) (sm_a0 _) rfl rfl (Nat.le_of_ble_eq_true rfl) sm_h230 (Nat.le_of_ble_eq_true rfl) (Nat.le_of_ble_eq_true rfl) (F' := 1) (Nat.le_of_ble_eq_true rfl) rfl (t_pushSet  (sv_sts (sv_up (sv_up (sv_up (sv_up S 1148 0 p1) 1149 0 (0 : Int)) 1150 0 (0 : Int)) 1147 0 (0 : Int)) [68, 69, 70, 81, 82, 83, 84, 85, 86, 74, 78, 79, 80, 76, 77, 1100031] g10) ok11 o287) (fun v S1 hq => ?_)
    obtain ⟨r292, rfl, hr292, ok289, md290, hpo291⟩ := hq
    obtain ⟨g288, rfl⟩ : ∃ g, S1 = sv_sts (sv_sts (sv_up (sv_up (sv_up (sv_up S 1148 0 p1) 1149 0 (0 : Int)) 1150 0 (0 : Int)) 1147 0 (0 : Int)) [68, 69, 70, 81, 82, 83, 84, 85, 86, 74, 78, 79, 80, 76, 77, 1100031] g10) [68, 69, 70, 74] g := ⟨_, md290.eq⟩
    show sv_T sm_XS sm_cs sm_L sm_sh 23 (q_ways p1 S) 265 387 [(0, .ref 0), (1, sv_I p1), (2, sv_I (S 27 p1)), (3, sv_I (S 28 p1)), (4, sv_I (647740 : Int))] [sv_I r292, sv_I (635000 + (639 : Int)), .ref 0] (sv_sts (sv_sts (sv_up (sv_up (sv_up (sv_up S 1148 0 p1) 1149 0 (0 : Int)) 1150 0 (0 : Int)) 1147 0 (0 : Int)) [68, 69, 70, 81, 82, 83, 84, 85, 86, 74, 78, 79, 80, 76, 77, 1100031] g10) [68, 69, 70, 74] g288)
    have md293 : sv_mod [68, 69, 70, 81, 82, 83, 84, 85, 86, 71, 74, 75, 1127, 78, 79, 80, 72, 76, 77, 1143, 1144, 5, 1011, 1150, 1149, 1145, 1113, 1111, 1112, 91, 1147, 1100031, 1148, 73] S (sv_sts (sv_sts (sv_up (sv_up (sv_up (sv_up S 1148 0 p1) 1149 0 (0 : Int)) 1150 0 (0 : Int)) 1147 0 (0 : Int)) [68, 69, 70, 81, 82, 83, 84, 85, 86, 74, 78, 79, 80, 76, 77, 1100031] g10) [68, 69, 70, 74] g288) := sv_mod.sts md14 (by decide)
    have md294 : sv_mod [68, 69, 70, 81, 82, 83, 84, 85, 86, 71, 74, 75, 1127, 78, 79, 80, 72, 76, 77, 1143, 1144, 5, 1011, 1150, 1149, 1145, 1113, 1111, 1112, 91, 1147, 1100031] (sv_sts (sv_up (sv_up (sv_up (sv_up S 1148 0 p1) 1149 0 (0 : Int)) 1150 0 (0 : Int)) 1147 0 (0 : Int)) [68, 69, 70, 81, 82, 83, 84, 85, 86, 74, 78, 79, 80, 76, 77, 1100031] g10) (sv_sts (sv_sts (sv_up (sv_up (sv_up (sv_up S 1148 0 p1) 1149 0 (0 : Int)) 1150 0 (0 : Int)) 1147 0 (0 : Int)) [68, 69, 70, 81, 82, 83, 84, 85, 86, 74, 78, 79, 80, 76, 77, 1100031] g10) [68, 69, 70, 74] g288) := sv_mod.sts (sv_mod.rf (l := [68, 69, 70, 81, 82, 83, 84, 85, 86, 71, 74, 75, 1127, 78, 79, 80, 72, 76, 77, 1143, 1144, 5, 1011, 1150, 1149, 1145, 1113, 1111, 1112, 91, 1147, 1100031]) (S := (sv_sts (sv_up (sv_up (sv_up (sv_up S 1148 0 p1) 1149 0 (0 : Int)) 1150 0 (0 : Int)) 1147 0 (0 : Int)) [68, 69, 70, 81, 82, 83, 84, 85, 86, 74, 78, 79, 80, 76, 77, 1100031] g10))) (by decide)
    have h := h r292 hr292 g288 hpo291
    obtain ⟨o295, h⟩ := h
    obtain ⟨o296, h⟩ := h
    refine sv_callV hM dX12_ways_387 sm_iv_1092 (by decide) (sm_a0 _) rfl rfl (Nat.le_of_ble_eq_true rfl) sm_h207 (Nat.le_of_ble_eq_true rfl) (Nat.le_of_ble_eq_true rfl) (F' := 0) (Nat.le_of_ble_eq_true rfl) rfl (t_copySet (635000 + (639 : Int)) r292 (sv_sts (sv_sts (sv_up (sv_up (sv_up (sv_up S 1148 0 p1) 1149 0 (0 : Int)) 1150 0 (0 : Int)) 1147 0 (0 : Int)) [68, 69, 70, 81, 82, 83, 84, 85, 86, 74, 78, 79, 80, 76, 77, 1100031] g10) [68, 69, 70, 74] g288) ok289 o295 hr292 o296) (fun v S1 hq => ?_)
    obtain ⟨rfl, ok298, md299, hpo300⟩ := hq
    obtain ⟨g297, rfl⟩ : ∃ g, S1 = sv_sts (sv_sts (sv_sts (sv_up (sv_up (sv_up (sv_up S 1148 0 p1) 1149 0 (0 : Int)) 1150 0 (0 : Int)) 1147 0 (0 : Int)) [68, 69, 70, 81, 82, 83, 84, 85, 86, 74, 78, 79, 80, 76, 77, 1100031] g10) [68, 69, 70, 74] g288) [68, 69, 70] g := ⟨_, md299.eq⟩
    show sv_T sm_XS sm_cs sm_L sm_sh 23 (q_ways p1 S) 265 390 [(0, .ref 0), (1, sv_I p1), (2, sv_I (S 27 p1)), (3, sv_I (S 28 p1)), (4, sv_I (647740 : Int))] [] (sv_sts (sv_sts (sv_sts (sv_up (sv_up (sv_up (sv_up S 1148 0 p1) 1149 0 (0 : Int)) 1150 0 (0 : Int)) 1147 0 (0 : Int)) [68, 69, 70, 81, 82, 83, 84, 85, 86, 74, 78, 79, 80, 76, 77, 1100031] g10) [68, 69, 70, 74] g288) [68, 69, 70] g297)
    have md301 : sv_mod [68, 69, 70, 81, 82, 83, 84, 85, 86, 71, 74, 75, 1127, 78, 79, 80, 72, 76, 77, 1143, 1144, 5, 1011, 1150, 1149, 1145, 1113, 1111, 1112, 91, 1147, 1100031, 1148, 73] S (sv_sts (sv_sts (sv_sts (sv_up (sv_up (sv_up (sv_up S 1148 0 p1) 1149 0 (0 : Int)) 1150 0 (0 : Int)) 1147 0 (0 : Int)) [68, 69, 70, 81, 82, 83, 84, 85, 86, 74, 78, 79, 80, 76, 77, 1100031] g10) [68, 69, 70, 74] g288) [68, 69, 70] g297) := sv_mod.sts md293 (by decide)
    have md302 : sv_mod [68, 69, 70, 81, 82, 83, 84, 85, 86, 71, 74, 75, 1127, 78, 79, 80, 72, 76, 77, 1143, 1144, 5, 1011, 1150, 1149, 1145, 1113, 1111, 1112, 91, 1147, 1100031] (sv_sts (sv_up (sv_up (sv_up (sv_up S 1148 0 p1) 1149 0 (0 : Int)) 1150 0 (0 : Int)) 1147 0 (0 : Int)) [68, 69, 70, 81, 82, 83, 84, 85, 86, 74, 78, 79, 80, 76, 77, 1100031] g10) (sv_sts (sv_sts (sv_sts (sv_up (sv_up (sv_up (sv_up S 1148 0 p1) 1149 0 (0 : Int)) 1150 0 (0 : Int)) 1147 0 (0 : Int)) [68, 69, 70, 81, 82, 83, 84, 85, 86, 74, 78, 79, 80, 76, 77, 1100031] g10) [68, 69, 70, 74] g288) [68, 69, 70] g297) := sv_mod.sts md294 (by decide)
    have h := h g297 hpo300
    refine sv_aload_n hM dX12_ways_390 rfl rfl ?_
    obtain ⟨o303, h⟩ := h
    refine sv_callV hM dX12_ways_391 sm_iv_1222 (by decide) (sm_a0 _) rfl rfl (Nat.le_of_ble_eq_true rfl) sm_h258 (Nat.le_of_ble_eq_true rfl) (Nat.le_of_ble_eq_true rfl) (F' := 4) (Nat.le_of_ble_eq_true rfl) rfl (t_on  (sv_sts (sv_sts (sv_sts (sv_up (sv_up (sv_up (sv_up S 1148 0 p1) 1149 0 (0 : Int)) 1150 0 (0 : Int)) 1147 0 (0 : Int)) [68, 69, 70, 81, 82, 83, 84, 85, 86, 74, 78, 79, 80, 76, 77, 1100031] g10) [68, 69, 70, 74] g288) [68, 69, 70] g297) ok298 o303) (fun v S1 hq => ?_)
    obtain ⟨rfl, ok305, md306, hpo307⟩ := hq
    obtain ⟨g304, rfl⟩ : ∃ g, S1 = sv_sts (sv_sts (sv_sts (sv_sts (sv_up (sv_up (sv_up (sv_up S 1148 0 p1) 1149 0 (0 : Int)) 1150 0 (0 : Int)) 1147 0 (0 : Int)) [68, 69, 70, 81, 82, 83, 84, 85, 86, 74, 78, 79, 80, 76, 77, 1100031] g10) [68, 69, 70, 74] g288) [68, 69, 70] g297) [68, 69, 70, 81, 82, 83, 84, 85, 86, 71, 74, 75, 1127, 78, 79, 80, 72, 76, 77, 1150] g := ⟨_, md306.eq⟩
    show sv_T sm_XS sm_cs sm_L sm_sh 23 (q_ways p1 S) 265 394 [(0, .ref 0), (1, sv_I p1), (2, sv_I (S 27 p1)), (3, sv_I (S 28 p1)), (4, sv_I (647740 : Int))] [] (sv_sts (sv_sts (sv_sts (sv_sts (sv_up (sv_up (sv_up (sv_up S 1148 0 p1) 1149 0 (0 : Int)) 1150 0 (0 : Int)) 1147 0 (0 : Int)) [68, 69, 70, 81, 82, 83, 84, 85, 86, 74, 78, 79, 80, 76, 77, 1100031] g10) [68, 69, 70, 74] g288) [68, 69, 70] g297) [68, 69, 70, 81, 82, 83, 84, 85, 86, 71, 74, 75, 1127, 78, 79, 80, 72, 76, 77, 1150] g304)
    have md308 : sv_mod [68, 69, 70, 81, 82, 83, 84, 85, 86, 71, 74, 75, 1127, 78, 79, 80, 72, 76, 77, 1143, 1144, 5, 1011, 1150, 1149, 1145, 1113, 1111, 1112, 91, 1147, 1100031, 1148, 73] S (sv_sts (sv_sts (sv_sts (sv_sts (sv_up (sv_up (sv_up (sv_up S 1148 0 p1) 1149 0 (0 : Int)) 1150 0 (0 : Int)) 1147 0 (0 : Int)) [68, 69, 70, 81, 82, 83, 84, 85, 86, 74, 78, 79, 80, 76, 77, 1100031] g10) [68, 69, 70, 74] g288) [68, 69, 70] g297) [68, 69, 70, 81, 82, 83, 84, 85, 86, 71, 74, 75, 1127, 78, 79, 80, 72, 76, 77, 1150] g304) := sv_mod.sts md301 (by decide)
    have md309 : sv_mod [68, 69, 70, 81, 82, 83, 84, 85, 86, 71, 74, 75, 1127, 78, 79, 80, 72, 76, 77, 1143, 1144, 5, 1011, 1150, 1149, 1145, 1113, 1111, 1112, 91, 1147, 1100031] (sv_sts (sv_up (sv_up (sv_up (sv_up S 1148 0 p1) 1149 0 (0 : Int)) 1150 0 (0 : Int)) 1147 0 (0 : Int)) [68, 69, 70, 81, 82, 83, 84, 85, 86, 74, 78, 79, 80, 76, 77, 1100031] g10) (sv_sts (sv_sts (sv_sts (sv_sts (sv_up (sv_up (sv_up (sv_up S 1148 0 p1) 1149 0 (0 : Int)) 1150 0 (0 : Int)) 1147 0 (0 : Int)) [68, 69, 70, 81, 82, 83, 84, 85, 86, 74, 78, 79, 80, 76, 77, 1100031] g10) [68, 69, 70, 74] g288) [68, 69, 70] g297) [68, 69, 70, 81, 82, 83, 84, 85, 86, 71, 74, 75, 1127, 78, 79, 80, 72, 76, 77, 1150] g304) := sv_mod.sts md302 (by decide)
    have h := h g304 hpo307
    refine sv_goto hM dX12_ways_394 (pc' := 665) rfl ?_
    have eS := sv_mod.eq md309
    have hb := J63 (sv_sts (sv_sts (sv_sts (sv_sts (sv_up (sv_up (sv_up (sv_up S 1148 0 p1) 1149 0 (0 : Int)) 1150 0 (0 : Int)) 1147 0 (0 : Int)) [68, 69, 70, 81, 82, 83, 84, 85, 86, 74, 78, 79, 80, 76, 77, 1100031] g10) [68, 69, 70, 74] g288) [68, 69, 70] g297) [68, 69, 70, 81, 82, 83, 84, 85, 86, 71, 74, 75, 1127, 78, 79, 80, 72, 76, 77, 1150] g304) (by rw [← eS]; exact ok305) h
    have hb : sv_T sm_XS sm_cs sm_L sm_sh 23 (q_ways p1 S) 265 665 [(0, .ref 0), (1, sv_I p1), (2, sv_I (S 27 p1)), (3, sv_I (S 28 p1)), (4, sv_I (647740 : Int))] [] (sv_sts (sv_sts (sv_sts (sv_sts (sv_up (sv_up (sv_up (sv_up S 1148 0 p1) 1149 0 (0 : Int)) 1150 0 (0 : Int)) 1147 0 (0 : Int)) [68, 69, 70, 81, 82, 83, 84, 85, 86, 74, 78, 79, 80, 76, 77, 1100031] g10) [68, 69, 70, 74] g288) [68, 69, 70] g297) [68, 69, 70, 81, 82, 83, 84, 85, 86, 71, 74, 75, 1127, 78, 79, 80, 72, 76, 77, 1150] g304) := Eq.mpr (congrArg (fun Z => sv_T sm_XS sm_cs sm_L sm_sh 23 (q_ways p1 S) 265 665 [(0, .ref 0), (1, sv_I p1), (2, sv_I (S 27 p1)), (3, sv_I (S 28 p1)), (4, sv_I (647740 : Int))] [] Z) eS) hb
    exact sv_less (lv := [(0, .ref 0), (1, sv_I p1), (2, sv_I (S 27 p1)), (3, sv_I (S 28 p1)), (4, sv_I (647740 : Int))]) (sv_Sub_cons rfl (sv_Sub_cons rfl (sv_Sub_cons rfl (sv_Sub_cons rfl (sv_Sub_cons rfl sv_Sub_nil))))) hb
  have J7 : ((S 26 p1) = (7 : Int) ∨ (S 26 p1) = (8 : Int)) → sv_T sm_XS sm_cs sm_L sm_sh 23 (q_ways p1 S) 265 397 [(0, .ref 0), (1, sv_I p1), (2, sv_I (S 27 p1)), (3, sv_I (S 28 p1)), (4, sv_I (647740 : Int))] [] (sv_sts (sv_up (sv_up (sv_up (sv_up S 1148 0 p1) 1149 0 (0 : Int)) 1150 0 (0 : Int)) 1147 0 (0 : Int)) [68, 69, 70, 81, 82, 83, 84, 85, 86, 74, 78, 79, 80, 76, 77, 1100031] g10) := by
    intro hc
    have h := hS.2.2.2.2.2.2.2.1 hc
    refine sv_aload_n hM dX12_ways_397 rfl rfl ?_
    refine sv_iload_n hM dX12_ways_398 rfl rfl ?_
    obtain ⟨o310, h⟩ := h
    refine sv_callV hM dX12_ways_399 sm_iv_920 (by decide) (sm_a0 _) rfl rfl (Nat.le_of_ble_eq_true rfl) sm_h166 (Nat.le_of_ble_eq_true rfl) (Nat.le_of_ble_eq_true rfl) (F' := 0) (Nat.le_of_ble_eq_true rfl) rfl (t_siteLabel (S 27 p1) (sv_sts (sv_up (sv_up (sv_up (sv_up S 1148 0 p1) 1149 0 (0 : Int)) 1150 0 (0 : Int)) 1147 0 (0 : Int)) [68, 69, 70, 81, 82, 83, 84, 85, 86, 74, 78, 79, 80, 76, 77, 1100031] g10) ok11 k41 o310) (fun v S1 hq => ?_)
    obtain ⟨r315, rfl, hr315, ok312, md313, hpo314⟩ := hq
    obtain rfl : (sv_sts (sv_up (sv_up (sv_up (sv_up S 1148 0 p1) 1149 0 (0 : Int)) 1150 0 (0 : Int)) 1147 0 (0 : Int)) [68, 69, 70, 81, 82, 83, 84, 85, 86, 74, 78, 79, 80, 76, 77, 1100031] g10) = S1 := (funext fun j => md313 j (by intro q; cases q)).symm
    show sv_T sm_XS sm_cs sm_L sm_sh 23 (q_ways p1 S) 265 402 [(0, .ref 0), (1, sv_I p1), (2, sv_I (S 27 p1)), (3, sv_I (S 28 p1)), (4, sv_I (647740 : Int))] [sv_I r315] (sv_sts (sv_up (sv_up (sv_up (sv_up S 1148 0 p1) 1149 0 (0 : Int)) 1150 0 (0 : Int)) 1147 0 (0 : Int)) [68, 69, 70, 81, 82, 83, 84, 85, 86, 74, 78, 79, 80, 76, 77, 1100031] g10)
    have h := h r315 hr315 hpo314
    refine sv_istore hM dX12_ways_402 (by decide) rfl ?_
    show sv_T sm_XS sm_cs sm_L sm_sh 23 (q_ways p1 S) 265 404 [(0, .ref 0), (1, sv_I p1), (2, sv_I (S 27 p1)), (3, sv_I (S 28 p1)), (4, sv_I (647740 : Int)), (5, sv_I r315)] [] (sv_sts (sv_up (sv_up (sv_up (sv_up S 1148 0 p1) 1149 0 (0 : Int)) 1150 0 (0 : Int)) 1147 0 (0 : Int)) [68, 69, 70, 81, 82, 83, 84, 85, 86, 74, 78, 79, 80, 76, 77, 1100031] g10)
    refine sv_aload_n hM dX12_ways_404 rfl rfl ?_
    refine sv_iload hM dX12_ways_405 rfl rfl ?_
    refine sv_aload_n hM dX12_ways_407 rfl rfl ?_
    refine sv_getA hM dX12_ways_408 sm_fl_89 (sm_a0 _) sm_k48 rfl ?_
    refine sv_iload_n hM dX12_ways_411 rfl rfl ?_
    refine sv_iald hM dX12_ways_412 (sm_a26 _) (by decide) o40.1 o40.2 rfl (x := (S 26 p1)) rfl ?_
    refine sv_bipush (d := (7 : Int)) hM dX12_ways_413 rfl rfl ?_
    refine sv_icmp_ne hM dX12_ways_415 k64 (⟨by decide, by decide⟩ : sv_R (7 : Int)) (t := 422) rfl rfl (fun hc => ?_) (fun hc => ?_)
    · have h := h.1 (hc)
      refine sv_iconst (d := (3 : Int)) hM dX12_ways_422 rfl rfl ?_
      obtain ⟨o316, h⟩ := h
      refine sv_callV hM dX12_ways_423 sm_iv_1241 (by decide) (sm_a0 _) rfl rfl (Nat.le_of_ble_eq_true rfl) sm_h256 (Nat.le_of_ble_eq_true rfl) (Nat.le_of_ble_eq_true rfl) (F' := 3) (Nat.le_of_ble_eq_true rfl) rfl (t_make r315 (3 : Int) (sv_sts (sv_up (sv_up (sv_up (sv_up S 1148 0 p1) 1149 0 (0 : Int)) 1150 0 (0 : Int)) 1147 0 (0 : Int)) [68, 69, 70, 81, 82, 83, 84, 85, 86, 74, 78, 79, 80, 76, 77, 1100031] g10) ok312 hr315 (⟨by decide, by decide⟩ : sv_R (3 : Int)) o316) (fun v S1 hq => ?_)
      obtain ⟨rfl, ok318, md319, hpo320⟩ := hq
      obtain ⟨g317, rfl⟩ : ∃ g, S1 = sv_sts (sv_sts (sv_up (sv_up (sv_up (sv_up S 1148 0 p1) 1149 0 (0 : Int)) 1150 0 (0 : Int)) 1147 0 (0 : Int)) [68, 69, 70, 81, 82, 83, 84, 85, 86, 74, 78, 79, 80, 76, 77, 1100031] g10) [68, 69, 70, 81, 82, 83, 84, 85, 86, 76, 77] g := ⟨_, md319.eq⟩
      show sv_T sm_XS sm_cs sm_L sm_sh 23 (q_ways p1 S) 265 426 [(0, .ref 0), (1, sv_I p1), (2, sv_I (S 27 p1)), (3, sv_I (S 28 p1)), (4, sv_I (647740 : Int)), (5, sv_I r315)] [] (sv_sts (sv_sts (sv_up (sv_up (sv_up (sv_up S 1148 0 p1) 1149 0 (0 : Int)) 1150 0 (0 : Int)) 1147 0 (0 : Int)) [68, 69, 70, 81, 82, 83, 84, 85, 86, 74, 78, 79, 80, 76, 77, 1100031] g10) [68, 69, 70, 81, 82, 83, 84, 85, 86, 76, 77] g317)
      have md321 : sv_mod [68, 69, 70, 81, 82, 83, 84, 85, 86, 71, 74, 75, 1127, 78, 79, 80, 72, 76, 77, 1143, 1144, 5, 1011, 1150, 1149, 1145, 1113, 1111, 1112, 91, 1147, 1100031, 1148, 73] S (sv_sts (sv_sts (sv_up (sv_up (sv_up (sv_up S 1148 0 p1) 1149 0 (0 : Int)) 1150 0 (0 : Int)) 1147 0 (0 : Int)) [68, 69, 70, 81, 82, 83, 84, 85, 86, 74, 78, 79, 80, 76, 77, 1100031] g10) [68, 69, 70, 81, 82, 83, 84, 85, 86, 76, 77] g317) := sv_mod.sts md14 (by decide)
      have md322 : sv_mod [68, 69, 70, 81, 82, 83, 84, 85, 86, 71, 74, 75, 1127, 78, 79, 80, 72, 76, 77, 1143, 1144, 5, 1011, 1150, 1149, 1145, 1113, 1111, 1112, 91, 1147, 1100031] (sv_sts (sv_up (sv_up (sv_up (sv_up S 1148 0 p1) 1149 0 (0 : Int)) 1150 0 (0 : Int)) 1147 0 (0 : Int)) [68, 69, 70, 81, 82, 83, 84, 85, 86, 74, 78, 79, 80, 76, 77, 1100031] g10) (sv_sts (sv_sts (sv_up (sv_up (sv_up (sv_up S 1148 0 p1) 1149 0 (0 : Int)) 1150 0 (0 : Int)) 1147 0 (0 : Int)) [68, 69, 70, 81, 82, 83, 84, 85, 86, 74, 78, 79, 80, 76, 77, 1100031] g10) [68, 69, 70, 81, 82, 83, 84, 85, 86, 76, 77] g317) := sv_mod.sts (sv_mod.rf (l := [68, 69, 70, 81, 82, 83, 84, 85, 86, 71, 74, 75, 1127, 78, 79, 80, 72, 76, 77, 1143, 1144, 5, 1011, 1150, 1149, 1145, 1113, 1111, 1112, 91, 1147, 1100031]) (S := (sv_sts (sv_up (sv_up (sv_up (sv_up S 1148 0 p1) 1149 0 (0 : Int)) 1150 0 (0 : Int)) 1147 0 (0 : Int)) [68, 69, 70, 81, 82, 83, 84, 85, 86, 74, 78, 79, 80, 76, 77, 1100031] g10))) (by decide)
      have h := h g317 hpo320
      refine sv_aload_n hM dX12_ways_426 rfl rfl ?_
      refine sv_getA hM dX12_ways_427 sm_fl_89 (sm_a0 _) sm_k48 rfl ?_
      refine sv_iload_n hM dX12_ways_430 rfl rfl ?_
      refine sv_iald hM dX12_ways_431 (sm_a26 _) (by decide) o40.1 o40.2 rfl (x := (S 26 p1)) rfl ?_
      refine sv_bipush (d := (8 : Int)) hM dX12_ways_432 rfl rfl ?_
      refine sv_icmp_ne hM dX12_ways_434 k64 (⟨by decide, by decide⟩ : sv_R (8 : Int)) (t := 449) rfl rfl (fun hc => ?_) (fun hc => ?_)
      · have h := h.1 (hc)
        refine sv_aload_n hM dX12_ways_449 rfl rfl ?_
        refine sv_aload_n hM dX12_ways_450 rfl rfl ?_
        obtain ⟨o323, h⟩ := h
        refine sv_callV hM dX12_ways_451 sm_iv_1201 (by decide) (sm_a0 _) rfl rfl (Nat.le_of_ble_eq_true rfl) sm_h230 (Nat.le_of_ble_eq_true rfl) (Nat.le_of_ble_eq_true rfl) (F' := 1) (Nat.le_of_ble_eq_true rfl) rfl (t_pushSet  (sv_sts (sv_sts (sv_up (sv_up (sv_up (sv_up S 1148 0 p1) 1149 0 (0 : Int)) 1150 0 (0 : Int)) 1147 0 (0 : Int)) [68, 69, 70, 81, 82, 83, 84, 85, 86, 74, 78, 79, 80, 76, 77, 1100031] g10) [68, 69, 70, 81, 82, 83, 84, 85, 86, 76, 77] g317) ok318 o323) (fun v S1 hq => ?_)
        obtain ⟨r328, rfl, hr328, ok325, md326, hpo327⟩ := hq
        obtain ⟨g324, rfl⟩ : ∃ g, S1 = sv_sts (sv_sts (sv_sts (sv_up (sv_up (sv_up (sv_up S 1148 0 p1) 1149 0 (0 : Int)) 1150 0 (0 : Int)) 1147 0 (0 : Int)) [68, 69, 70, 81, 82, 83, 84, 85, 86, 74, 78, 79, 80, 76, 77, 1100031] g10) [68, 69, 70, 81, 82, 83, 84, 85, 86, 76, 77] g317) [68, 69, 70, 74] g := ⟨_, md326.eq⟩
        show sv_T sm_XS sm_cs sm_L sm_sh 23 (q_ways p1 S) 265 454 [(0, .ref 0), (1, sv_I p1), (2, sv_I (S 27 p1)), (3, sv_I (S 28 p1)), (4, sv_I (647740 : Int)), (5, sv_I r315)] [sv_I r328, .ref 0] (sv_sts (sv_sts (sv_sts (sv_up (sv_up (sv_up (sv_up S 1148 0 p1) 1149 0 (0 : Int)) 1150 0 (0 : Int)) 1147 0 (0 : Int)) [68, 69, 70, 81, 82, 83, 84, 85, 86, 74, 78, 79, 80, 76, 77, 1100031] g10) [68, 69, 70, 81, 82, 83, 84, 85, 86, 76, 77] g317) [68, 69, 70, 74] g324)
        have md329 : sv_mod [68, 69, 70, 81, 82, 83, 84, 85, 86, 71, 74, 75, 1127, 78, 79, 80, 72, 76, 77, 1143, 1144, 5, 1011, 1150, 1149, 1145, 1113, 1111, 1112, 91, 1147, 1100031, 1148, 73] S (sv_sts (sv_sts (sv_sts (sv_up (sv_up (sv_up (sv_up S 1148 0 p1) 1149 0 (0 : Int)) 1150 0 (0 : Int)) 1147 0 (0 : Int)) [68, 69, 70, 81, 82, 83, 84, 85, 86, 74, 78, 79, 80, 76, 77, 1100031] g10) [68, 69, 70, 81, 82, 83, 84, 85, 86, 76, 77] g317) [68, 69, 70, 74] g324) := sv_mod.sts md321 (by decide)
        have md330 : sv_mod [68, 69, 70, 81, 82, 83, 84, 85, 86, 71, 74, 75, 1127, 78, 79, 80, 72, 76, 77, 1143, 1144, 5, 1011, 1150, 1149, 1145, 1113, 1111, 1112, 91, 1147, 1100031] (sv_sts (sv_up (sv_up (sv_up (sv_up S 1148 0 p1) 1149 0 (0 : Int)) 1150 0 (0 : Int)) 1147 0 (0 : Int)) [68, 69, 70, 81, 82, 83, 84, 85, 86, 74, 78, 79, 80, 76, 77, 1100031] g10) (sv_sts (sv_sts (sv_sts (sv_up (sv_up (sv_up (sv_up S 1148 0 p1) 1149 0 (0 : Int)) 1150 0 (0 : Int)) 1147 0 (0 : Int)) [68, 69, 70, 81, 82, 83, 84, 85, 86, 74, 78, 79, 80, 76, 77, 1100031] g10) [68, 69, 70, 81, 82, 83, 84, 85, 86, 76, 77] g317) [68, 69, 70, 74] g324) := sv_mod.sts md322 (by decide)
        have h := h r328 hr328 g324 hpo327
        refine sv_iload hM dX12_ways_454 rfl rfl ?_
        obtain ⟨o331, h⟩ := h
        refine sv_callV hM dX12_ways_456 sm_iv_1081 (by decide) (sm_a0 _) rfl rfl (Nat.le_of_ble_eq_true rfl) sm_h216 (Nat.le_of_ble_eq_true rfl) (Nat.le_of_ble_eq_true rfl) (F' := 0) (Nat.le_of_ble_eq_true rfl) rfl (t_addLabel r328 r315 (sv_sts (sv_sts (sv_sts (sv_up (sv_up (sv_up (sv_up S 1148 0 p1) 1149 0 (0 : Int)) 1150 0 (0 : Int)) 1147 0 (0 : Int)) [68, 69, 70, 81, 82, 83, 84, 85, 86, 74, 78, 79, 80, 76, 77, 1100031] g10) [68, 69, 70, 81, 82, 83, 84, 85, 86, 76, 77] g317) [68, 69, 70, 74] g324) ok325 hr328 hr315 o331) (fun v S1 hq => ?_)
        obtain ⟨rfl, ok333, md334, hpo335⟩ := hq
        obtain ⟨g332, rfl⟩ : ∃ g, S1 = sv_sts (sv_sts (sv_sts (sv_sts (sv_up (sv_up (sv_up (sv_up S 1148 0 p1) 1149 0 (0 : Int)) 1150 0 (0 : Int)) 1147 0 (0 : Int)) [68, 69, 70, 81, 82, 83, 84, 85, 86, 74, 78, 79, 80, 76, 77, 1100031] g10) [68, 69, 70, 81, 82, 83, 84, 85, 86, 76, 77] g317) [68, 69, 70, 74] g324) [69, 70] g := ⟨_, md334.eq⟩
        show sv_T sm_XS sm_cs sm_L sm_sh 23 (q_ways p1 S) 265 459 [(0, .ref 0), (1, sv_I p1), (2, sv_I (S 27 p1)), (3, sv_I (S 28 p1)), (4, sv_I (647740 : Int)), (5, sv_I r315)] [] (sv_sts (sv_sts (sv_sts (sv_sts (sv_up (sv_up (sv_up (sv_up S 1148 0 p1) 1149 0 (0 : Int)) 1150 0 (0 : Int)) 1147 0 (0 : Int)) [68, 69, 70, 81, 82, 83, 84, 85, 86, 74, 78, 79, 80, 76, 77, 1100031] g10) [68, 69, 70, 81, 82, 83, 84, 85, 86, 76, 77] g317) [68, 69, 70, 74] g324) [69, 70] g332)
        have md336 : sv_mod [68, 69, 70, 81, 82, 83, 84, 85, 86, 71, 74, 75, 1127, 78, 79, 80, 72, 76, 77, 1143, 1144, 5, 1011, 1150, 1149, 1145, 1113, 1111, 1112, 91, 1147, 1100031, 1148, 73] S (sv_sts (sv_sts (sv_sts (sv_sts (sv_up (sv_up (sv_up (sv_up S 1148 0 p1) 1149 0 (0 : Int)) 1150 0 (0 : Int)) 1147 0 (0 : Int)) [68, 69, 70, 81, 82, 83, 84, 85, 86, 74, 78, 79, 80, 76, 77, 1100031] g10) [68, 69, 70, 81, 82, 83, 84, 85, 86, 76, 77] g317) [68, 69, 70, 74] g324) [69, 70] g332) := sv_mod.sts md329 (by decide)
        have md337 : sv_mod [68, 69, 70, 81, 82, 83, 84, 85, 86, 71, 74, 75, 1127, 78, 79, 80, 72, 76, 77, 1143, 1144, 5, 1011, 1150, 1149, 1145, 1113, 1111, 1112, 91, 1147, 1100031] (sv_sts (sv_up (sv_up (sv_up (sv_up S 1148 0 p1) 1149 0 (0 : Int)) 1150 0 (0 : Int)) 1147 0 (0 : Int)) [68, 69, 70, 81, 82, 83, 84, 85, 86, 74, 78, 79, 80, 76, 77, 1100031] g10) (sv_sts (sv_sts (sv_sts (sv_sts (sv_up (sv_up (sv_up (sv_up S 1148 0 p1) 1149 0 (0 : Int)) 1150 0 (0 : Int)) 1147 0 (0 : Int)) [68, 69, 70, 81, 82, 83, 84, 85, 86, 74, 78, 79, 80, 76, 77, 1100031] g10) [68, 69, 70, 81, 82, 83, 84, 85, 86, 76, 77] g317) [68, 69, 70, 74] g324) [69, 70] g332) := sv_mod.sts md330 (by decide)
        have h := h g332 hpo335
        refine sv_aload_n hM dX12_ways_459 rfl rfl ?_
        obtain ⟨o338, h⟩ := h
        refine sv_callV hM dX12_ways_460 sm_iv_1222 (by decide) (sm_a0 _) rfl rfl (Nat.le_of_ble_eq_true rfl) sm_h258 (Nat.le_of_ble_eq_true rfl) (Nat.le_of_ble_eq_true rfl) (F' := 4) (Nat.le_of_ble_eq_true rfl) rfl (t_on  (sv_sts (sv_sts (sv_sts (sv_sts (sv_up (sv_up (sv_up (sv_up S 1148 0 p1) 1149 0 (0 : Int)) 1150 0 (0 : Int)) 1147 0 (0 : Int)) [68, 69, 70, 81, 82, 83, 84, 85, 86, 74, 78, 79, 80, 76, 77, 1100031] g10) [68, 69, 70, 81, 82, 83, 84, 85, 86, 76, 77] g317) [68, 69, 70, 74] g324) [69, 70] g332) ok333 o338) (fun v S1 hq => ?_)
        obtain ⟨rfl, ok340, md341, hpo342⟩ := hq
        obtain ⟨g339, rfl⟩ : ∃ g, S1 = sv_sts (sv_sts (sv_sts (sv_sts (sv_sts (sv_up (sv_up (sv_up (sv_up S 1148 0 p1) 1149 0 (0 : Int)) 1150 0 (0 : Int)) 1147 0 (0 : Int)) [68, 69, 70, 81, 82, 83, 84, 85, 86, 74, 78, 79, 80, 76, 77, 1100031] g10) [68, 69, 70, 81, 82, 83, 84, 85, 86, 76, 77] g317) [68, 69, 70, 74] g324) [69, 70] g332) [68, 69, 70, 81, 82, 83, 84, 85, 86, 71, 74, 75, 1127, 78, 79, 80, 72, 76, 77, 1150] g := ⟨_, md341.eq⟩
        show sv_T sm_XS sm_cs sm_L sm_sh 23 (q_ways p1 S) 265 463 [(0, .ref 0), (1, sv_I p1), (2, sv_I (S 27 p1)), (3, sv_I (S 28 p1)), (4, sv_I (647740 : Int)), (5, sv_I r315)] [] (sv_sts (sv_sts (sv_sts (sv_sts (sv_sts (sv_up (sv_up (sv_up (sv_up S 1148 0 p1) 1149 0 (0 : Int)) 1150 0 (0 : Int)) 1147 0 (0 : Int)) [68, 69, 70, 81, 82, 83, 84, 85, 86, 74, 78, 79, 80, 76, 77, 1100031] g10) [68, 69, 70, 81, 82, 83, 84, 85, 86, 76, 77] g317) [68, 69, 70, 74] g324) [69, 70] g332) [68, 69, 70, 81, 82, 83, 84, 85, 86, 71, 74, 75, 1127, 78, 79, 80, 72, 76, 77, 1150] g339)
        have md343 : sv_mod [68, 69, 70, 81, 82, 83, 84, 85, 86, 71, 74, 75, 1127, 78, 79, 80, 72, 76, 77, 1143, 1144, 5, 1011, 1150, 1149, 1145, 1113, 1111, 1112, 91, 1147, 1100031, 1148, 73] S (sv_sts (sv_sts (sv_sts (sv_sts (sv_sts (sv_up (sv_up (sv_up (sv_up S 1148 0 p1) 1149 0 (0 : Int)) 1150 0 (0 : Int)) 1147 0 (0 : Int)) [68, 69, 70, 81, 82, 83, 84, 85, 86, 74, 78, 79, 80, 76, 77, 1100031] g10) [68, 69, 70, 81, 82, 83, 84, 85, 86, 76, 77] g317) [68, 69, 70, 74] g324) [69, 70] g332) [68, 69, 70, 81, 82, 83, 84, 85, 86, 71, 74, 75, 1127, 78, 79, 80, 72, 76, 77, 1150] g339) := sv_mod.sts md336 (by decide)
        have md344 : sv_mod [68, 69, 70, 81, 82, 83, 84, 85, 86, 71, 74, 75, 1127, 78, 79, 80, 72, 76, 77, 1143, 1144, 5, 1011, 1150, 1149, 1145, 1113, 1111, 1112, 91, 1147, 1100031] (sv_sts (sv_up (sv_up (sv_up (sv_up S 1148 0 p1) 1149 0 (0 : Int)) 1150 0 (0 : Int)) 1147 0 (0 : Int)) [68, 69, 70, 81, 82, 83, 84, 85, 86, 74, 78, 79, 80, 76, 77, 1100031] g10) (sv_sts (sv_sts (sv_sts (sv_sts (sv_sts (sv_up (sv_up (sv_up (sv_up S 1148 0 p1) 1149 0 (0 : Int)) 1150 0 (0 : Int)) 1147 0 (0 : Int)) [68, 69, 70, 81, 82, 83, 84, 85, 86, 74, 78, 79, 80, 76, 77, 1100031] g10) [68, 69, 70, 81, 82, 83, 84, 85, 86, 76, 77] g317) [68, 69, 70, 74] g324) [69, 70] g332) [68, 69, 70, 81, 82, 83, 84, 85, 86, 71, 74, 75, 1127, 78, 79, 80, 72, 76, 77, 1150] g339) := sv_mod.sts md337 (by decide)
        have h := h g339 hpo342
        refine sv_goto hM dX12_ways_463 (pc' := 665) rfl ?_
        have eS := sv_mod.eq md344
        have hb := J63 (sv_sts (sv_sts (sv_sts (sv_sts (sv_sts (sv_up (sv_up (sv_up (sv_up S 1148 0 p1) 1149 0 (0 : Int)) 1150 0 (0 : Int)) 1147 0 (0 : Int)) [68, 69, 70, 81, 82, 83, 84, 85, 86, 74, 78, 79, 80, 76, 77, 1100031] g10) [68, 69, 70, 81, 82, 83, 84, 85, 86, 76, 77] g317) [68, 69, 70, 74] g324) [69, 70] g332) [68, 69, 70, 81, 82, 83, 84, 85, 86, 71, 74, 75, 1127, 78, 79, 80, 72, 76, 77, 1150] g339) (by rw [← eS]; exact ok340) h
        have hb : sv_T sm_XS sm_cs sm_L sm_sh 23 (q_ways p1 S) 265 665 [(0, .ref 0), (1, sv_I p1), (2, sv_I (S 27 p1)), (3, sv_I (S 28 p1)), (4, sv_I (647740 : Int))] [] (sv_sts (sv_sts (sv_sts (sv_sts (sv_sts (sv_up (sv_up (sv_up (sv_up S 1148 0 p1) 1149 0 (0 : Int)) 1150 0 (0 : Int)) 1147 0 (0 : Int)) [68, 69, 70, 81, 82, 83, 84, 85, 86, 74, 78, 79, 80, 76, 77, 1100031] g10) [68, 69, 70, 81, 82, 83, 84, 85, 86, 76, 77] g317) [68, 69, 70, 74] g324) [69, 70] g332) [68, 69, 70, 81, 82, 83, 84, 85, 86, 71, 74, 75, 1127, 78, 79, 80, 72, 76, 77, 1150] g339) := Eq.mpr (congrArg (fun Z => sv_T sm_XS sm_cs sm_L sm_sh 23 (q_ways p1 S) 265 665 [(0, .ref 0), (1, sv_I p1), (2, sv_I (S 27 p1)), (3, sv_I (S 28 p1)), (4, sv_I (647740 : Int))] [] Z) eS) hb
        exact sv_less (lv := [(0, .ref 0), (1, sv_I p1), (2, sv_I (S 27 p1)), (3, sv_I (S 28 p1)), (4, sv_I (647740 : Int))]) (sv_Sub_cons rfl (sv_Sub_cons rfl (sv_Sub_cons rfl (sv_Sub_cons rfl (sv_Sub_cons rfl sv_Sub_nil))))) hb
      · have h := h.2 (hc)
        refine sv_aload_n hM dX12_ways_437 rfl rfl ?_
        refine sv_aload_n hM dX12_ways_438 rfl rfl ?_
        refine sv_iload hM dX12_ways_439 rfl rfl ?_
        refine sv_iconst (d := (0 : Int)) hM dX12_ways_441 rfl rfl ?_
        obtain ⟨o345, h⟩ := h
        refine sv_callV hM dX12_ways_442 sm_iv_1244 (by decide) (sm_a0 _) rfl rfl (Nat.le_of_ble_eq_true rfl) sm_h253 (Nat.le_of_ble_eq_true rfl) (Nat.le_of_ble_eq_true rfl) (F' := 2) (Nat.le_of_ble_eq_true rfl) rfl (t_fresh_ r315 (0 : Int) (sv_sts (sv_sts (sv_up (sv_up (sv_up (sv_up S 1148 0 p1) 1149 0 (0 : Int)) 1150 0 (0 : Int)) 1147 0 (0 : Int)) [68, 69, 70, 81, 82, 83, 84, 85, 86, 74, 78, 79, 80, 76, 77, 1100031] g10) [68, 69, 70, 81, 82, 83, 84, 85, 86, 76, 77] g317) ok318 hr315 (⟨by decide, by decide⟩ : sv_R (0 : Int)) o345) (fun v S1 hq => ?_)
        obtain ⟨r350, rfl, hr350, ok347, md348, hpo349⟩ := hq
        obtain ⟨g346, rfl⟩ : ∃ g, S1 = sv_sts (sv_sts (sv_sts (sv_up (sv_up (sv_up (sv_up S 1148 0 p1) 1149 0 (0 : Int)) 1150 0 (0 : Int)) 1147 0 (0 : Int)) [68, 69, 70, 81, 82, 83, 84, 85, 86, 74, 78, 79, 80, 76, 77, 1100031] g10) [68, 69, 70, 81, 82, 83, 84, 85, 86, 76, 77] g317) [68, 69, 70] g := ⟨_, md348.eq⟩
        show sv_T sm_XS sm_cs sm_L sm_sh 23 (q_ways p1 S) 265 445 [(0, .ref 0), (1, sv_I p1), (2, sv_I (S 27 p1)), (3, sv_I (S 28 p1)), (4, sv_I (647740 : Int)), (5, sv_I r315)] [sv_I r350, .ref 0] (sv_sts (sv_sts (sv_sts (sv_up (sv_up (sv_up (sv_up S 1148 0 p1) 1149 0 (0 : Int)) 1150 0 (0 : Int)) 1147 0 (0 : Int)) [68, 69, 70, 81, 82, 83, 84, 85, 86, 74, 78, 79, 80, 76, 77, 1100031] g10) [68, 69, 70, 81, 82, 83, 84, 85, 86, 76, 77] g317) [68, 69, 70] g346)
        have md351 : sv_mod [68, 69, 70, 81, 82, 83, 84, 85, 86, 71, 74, 75, 1127, 78, 79, 80, 72, 76, 77, 1143, 1144, 5, 1011, 1150, 1149, 1145, 1113, 1111, 1112, 91, 1147, 1100031, 1148, 73] S (sv_sts (sv_sts (sv_sts (sv_up (sv_up (sv_up (sv_up S 1148 0 p1) 1149 0 (0 : Int)) 1150 0 (0 : Int)) 1147 0 (0 : Int)) [68, 69, 70, 81, 82, 83, 84, 85, 86, 74, 78, 79, 80, 76, 77, 1100031] g10) [68, 69, 70, 81, 82, 83, 84, 85, 86, 76, 77] g317) [68, 69, 70] g346) := sv_mod.sts md321 (by decide)
        have md352 : sv_mod [68, 69, 70, 81, 82, 83, 84, 85, 86, 71, 74, 75, 1127, 78, 79, 80, 72, 76, 77, 1143, 1144, 5, 1011, 1150, 1149, 1145, 1113, 1111, 1112, 91, 1147, 1100031] (sv_sts (sv_up (sv_up (sv_up (sv_up S 1148 0 p1) 1149 0 (0 : Int)) 1150 0 (0 : Int)) 1147 0 (0 : Int)) [68, 69, 70, 81, 82, 83, 84, 85, 86, 74, 78, 79, 80, 76, 77, 1100031] g10) (sv_sts (sv_sts (sv_sts (sv_up (sv_up (sv_up (sv_up S 1148 0 p1) 1149 0 (0 : Int)) 1150 0 (0 : Int)) 1147 0 (0 : Int)) [68, 69, 70, 81, 82, 83, 84, 85, 86, 74, 78, 79, 80, 76, 77, 1100031] g10) [68, 69, 70, 81, 82, 83, 84, 85, 86, 76, 77] g317) [68, 69, 70] g346) := sv_mod.sts md322 (by decide)
        have h := h r350 hr350 g346 hpo349
        refine sv_iconst (d := (0 : Int)) hM dX12_ways_445 rfl rfl ?_
        obtain ⟨o353, h⟩ := h
        refine sv_callV hM dX12_ways_446 sm_iv_1075 (by decide) (sm_a0 _) rfl rfl (Nat.le_of_ble_eq_true rfl) sm_h214 (Nat.le_of_ble_eq_true rfl) (Nat.le_of_ble_eq_true rfl) (F' := 2) (Nat.le_of_ble_eq_true rfl) rfl (t_addNumber r350 (0 : Int) (sv_sts (sv_sts (sv_sts (sv_up (sv_up (sv_up (sv_up S 1148 0 p1) 1149 0 (0 : Int)) 1150 0 (0 : Int)) 1147 0 (0 : Int)) [68, 69, 70, 81, 82, 83, 84, 85, 86, 74, 78, 79, 80, 76, 77, 1100031] g10) [68, 69, 70, 81, 82, 83, 84, 85, 86, 76, 77] g317) [68, 69, 70] g346) ok347 hr350 (⟨by decide, by decide⟩ : sv_R (0 : Int)) o353) (fun v S1 hq => ?_)
        obtain ⟨rfl, ok355, md356, hpo357⟩ := hq
        obtain ⟨g354, rfl⟩ : ∃ g, S1 = sv_sts (sv_sts (sv_sts (sv_sts (sv_up (sv_up (sv_up (sv_up S 1148 0 p1) 1149 0 (0 : Int)) 1150 0 (0 : Int)) 1147 0 (0 : Int)) [68, 69, 70, 81, 82, 83, 84, 85, 86, 74, 78, 79, 80, 76, 77, 1100031] g10) [68, 69, 70, 81, 82, 83, 84, 85, 86, 76, 77] g317) [68, 69, 70] g346) [68, 69, 70] g := ⟨_, md356.eq⟩
        show sv_T sm_XS sm_cs sm_L sm_sh 23 (q_ways p1 S) 265 449 [(0, .ref 0), (1, sv_I p1), (2, sv_I (S 27 p1)), (3, sv_I (S 28 p1)), (4, sv_I (647740 : Int)), (5, sv_I r315)] [] (sv_sts (sv_sts (sv_sts (sv_sts (sv_up (sv_up (sv_up (sv_up S 1148 0 p1) 1149 0 (0 : Int)) 1150 0 (0 : Int)) 1147 0 (0 : Int)) [68, 69, 70, 81, 82, 83, 84, 85, 86, 74, 78, 79, 80, 76, 77, 1100031] g10) [68, 69, 70, 81, 82, 83, 84, 85, 86, 76, 77] g317) [68, 69, 70] g346) [68, 69, 70] g354)
        have md358 : sv_mod [68, 69, 70, 81, 82, 83, 84, 85, 86, 71, 74, 75, 1127, 78, 79, 80, 72, 76, 77, 1143, 1144, 5, 1011, 1150, 1149, 1145, 1113, 1111, 1112, 91, 1147, 1100031, 1148, 73] S (sv_sts (sv_sts (sv_sts (sv_sts (sv_up (sv_up (sv_up (sv_up S 1148 0 p1) 1149 0 (0 : Int)) 1150 0 (0 : Int)) 1147 0 (0 : Int)) [68, 69, 70, 81, 82, 83, 84, 85, 86, 74, 78, 79, 80, 76, 77, 1100031] g10) [68, 69, 70, 81, 82, 83, 84, 85, 86, 76, 77] g317) [68, 69, 70] g346) [68, 69, 70] g354) := sv_mod.sts md351 (by decide)
        have md359 : sv_mod [68, 69, 70, 81, 82, 83, 84, 85, 86, 71, 74, 75, 1127, 78, 79, 80, 72, 76, 77, 1143, 1144, 5, 1011, 1150, 1149, 1145, 1113, 1111, 1112, 91, 1147, 1100031] (sv_sts (sv_up (sv_up (sv_up (sv_up S 1148 0 p1) 1149 0 (0 : Int)) 1150 0 (0 : Int)) 1147 0 (0 : Int)) [68, 69, 70, 81, 82, 83, 84, 85, 86, 74, 78, 79, 80, 76, 77, 1100031] g10) (sv_sts (sv_sts (sv_sts (sv_sts (sv_up (sv_up (sv_up (sv_up S 1148 0 p1) 1149 0 (0 : Int)) 1150 0 (0 : Int)) 1147 0 (0 : Int)) [68, 69, 70, 81, 82, 83, 84, 85, 86, 74, 78, 79, 80, 76, 77, 1100031] g10) [68, 69, 70, 81, 82, 83, 84, 85, 86, 76, 77] g317) [68, 69, 70] g346) [68, 69, 70] g354) := sv_mod.sts md352 (by decide)
        have h := h g354 hpo357
        refine sv_aload_n hM dX12_ways_449 rfl rfl ?_
        refine sv_aload_n hM dX12_ways_450 rfl rfl ?_
        obtain ⟨o360, h⟩ := h
        refine sv_callV hM dX12_ways_451 sm_iv_1201 (by decide) (sm_a0 _) rfl rfl (Nat.le_of_ble_eq_true rfl) sm_h230 (Nat.le_of_ble_eq_true rfl) (Nat.le_of_ble_eq_true rfl) (F' := 1) (Nat.le_of_ble_eq_true rfl) rfl (t_pushSet  (sv_sts (sv_sts (sv_sts (sv_sts (sv_up (sv_up (sv_up (sv_up S 1148 0 p1) 1149 0 (0 : Int)) 1150 0 (0 : Int)) 1147 0 (0 : Int)) [68, 69, 70, 81, 82, 83, 84, 85, 86, 74, 78, 79, 80, 76, 77, 1100031] g10) [68, 69, 70, 81, 82, 83, 84, 85, 86, 76, 77] g317) [68, 69, 70] g346) [68, 69, 70] g354) ok355 o360) (fun v S1 hq => ?_)
        obtain ⟨r365, rfl, hr365, ok362, md363, hpo364⟩ := hq
        obtain ⟨g361, rfl⟩ : ∃ g, S1 = sv_sts (sv_sts (sv_sts (sv_sts (sv_sts (sv_up (sv_up (sv_up (sv_up S 1148 0 p1) 1149 0 (0 : Int)) 1150 0 (0 : Int)) 1147 0 (0 : Int)) [68, 69, 70, 81, 82, 83, 84, 85, 86, 74, 78, 79, 80, 76, 77, 1100031] g10) [68, 69, 70, 81, 82, 83, 84, 85, 86, 76, 77] g317) [68, 69, 70] g346) [68, 69, 70] g354) [68, 69, 70, 74] g := ⟨_, md363.eq⟩
        show sv_T sm_XS sm_cs sm_L sm_sh 23 (q_ways p1 S) 265 454 [(0, .ref 0), (1, sv_I p1), (2, sv_I (S 27 p1)), (3, sv_I (S 28 p1)), (4, sv_I (647740 : Int)), (5, sv_I r315)] [sv_I r365, .ref 0] (sv_sts (sv_sts (sv_sts (sv_sts (sv_sts (sv_up (sv_up (sv_up (sv_up S 1148 0 p1) 1149 0 (0 : Int)) 1150 0 (0 : Int)) 1147 0 (0 : Int)) [68, 69, 70, 81, 82, 83, 84, 85, 86, 74, 78, 79, 80, 76, 77, 1100031] g10) [68, 69, 70, 81, 82, 83, 84, 85, 86, 76, 77] g317) [68, 69, 70] g346) [68, 69, 70] g354) [68, 69, 70, 74] g361)
        have md366 : sv_mod [68, 69, 70, 81, 82, 83, 84, 85, 86, 71, 74, 75, 1127, 78, 79, 80, 72, 76, 77, 1143, 1144, 5, 1011, 1150, 1149, 1145, 1113, 1111, 1112, 91, 1147, 1100031, 1148, 73] S (sv_sts (sv_sts (sv_sts (sv_sts (sv_sts (sv_up (sv_up (sv_up (sv_up S 1148 0 p1) 1149 0 (0 : Int)) 1150 0 (0 : Int)) 1147 0 (0 : Int)) [68, 69, 70, 81, 82, 83, 84, 85, 86, 74, 78, 79, 80, 76, 77, 1100031] g10) [68, 69, 70, 81, 82, 83, 84, 85, 86, 76, 77] g317) [68, 69, 70] g346) [68, 69, 70] g354) [68, 69, 70, 74] g361) := sv_mod.sts md358 (by decide)
        have md367 : sv_mod [68, 69, 70, 81, 82, 83, 84, 85, 86, 71, 74, 75, 1127, 78, 79, 80, 72, 76, 77, 1143, 1144, 5, 1011, 1150, 1149, 1145, 1113, 1111, 1112, 91, 1147, 1100031] (sv_sts (sv_up (sv_up (sv_up (sv_up S 1148 0 p1) 1149 0 (0 : Int)) 1150 0 (0 : Int)) 1147 0 (0 : Int)) [68, 69, 70, 81, 82, 83, 84, 85, 86, 74, 78, 79, 80, 76, 77, 1100031] g10) (sv_sts (sv_sts (sv_sts (sv_sts (sv_sts (sv_up (sv_up (sv_up (sv_up S 1148 0 p1) 1149 0 (0 : Int)) 1150 0 (0 : Int)) 1147 0 (0 : Int)) [68, 69, 70, 81, 82, 83, 84, 85, 86, 74, 78, 79, 80, 76, 77, 1100031] g10) [68, 69, 70, 81, 82, 83, 84, 85, 86, 76, 77] g317) [68, 69, 70] g346) [68, 69, 70] g354) [68, 69, 70, 74] g361) := sv_mod.sts md359 (by decide)
        have h := h r365 hr365 g361 hpo364
        refine sv_iload hM dX12_ways_454 rfl rfl ?_
        obtain ⟨o368, h⟩ := h
        refine sv_callV hM dX12_ways_456 sm_iv_1081 (by decide) (sm_a0 _) rfl rfl (Nat.le_of_ble_eq_true rfl) sm_h216 (Nat.le_of_ble_eq_true rfl) (Nat.le_of_ble_eq_true rfl) (F' := 0) (Nat.le_of_ble_eq_true rfl) rfl (t_addLabel r365 r315 (sv_sts (sv_sts (sv_sts (sv_sts (sv_sts (sv_up (sv_up (sv_up (sv_up S 1148 0 p1) 1149 0 (0 : Int)) 1150 0 (0 : Int)) 1147 0 (0 : Int)) [68, 69, 70, 81, 82, 83, 84, 85, 86, 74, 78, 79, 80, 76, 77, 1100031] g10) [68, 69, 70, 81, 82, 83, 84, 85, 86, 76, 77] g317) [68, 69, 70] g346) [68, 69, 70] g354) [68, 69, 70, 74] g361) ok362 hr365 hr315 o368) (fun v S1 hq => ?_)
        obtain ⟨rfl, ok370, md371, hpo372⟩ := hq
        obtain ⟨g369, rfl⟩ : ∃ g, S1 = sv_sts (sv_sts (sv_sts (sv_sts (sv_sts (sv_sts (sv_up (sv_up (sv_up (sv_up S 1148 0 p1) 1149 0 (0 : Int)) 1150 0 (0 : Int)) 1147 0 (0 : Int)) [68, 69, 70, 81, 82, 83, 84, 85, 86, 74, 78, 79, 80, 76, 77, 1100031] g10) [68, 69, 70, 81, 82, 83, 84, 85, 86, 76, 77] g317) [68, 69, 70] g346) [68, 69, 70] g354) [68, 69, 70, 74] g361) [69, 70] g := ⟨_, md371.eq⟩
        show sv_T sm_XS sm_cs sm_L sm_sh 23 (q_ways p1 S) 265 459 [(0, .ref 0), (1, sv_I p1), (2, sv_I (S 27 p1)), (3, sv_I (S 28 p1)), (4, sv_I (647740 : Int)), (5, sv_I r315)] [] (sv_sts (sv_sts (sv_sts (sv_sts (sv_sts (sv_sts (sv_up (sv_up (sv_up (sv_up S 1148 0 p1) 1149 0 (0 : Int)) 1150 0 (0 : Int)) 1147 0 (0 : Int)) [68, 69, 70, 81, 82, 83, 84, 85, 86, 74, 78, 79, 80, 76, 77, 1100031] g10) [68, 69, 70, 81, 82, 83, 84, 85, 86, 76, 77] g317) [68, 69, 70] g346) [68, 69, 70] g354) [68, 69, 70, 74] g361) [69, 70] g369)
        have md373 : sv_mod [68, 69, 70, 81, 82, 83, 84, 85, 86, 71, 74, 75, 1127, 78, 79, 80, 72, 76, 77, 1143, 1144, 5, 1011, 1150, 1149, 1145, 1113, 1111, 1112, 91, 1147, 1100031, 1148, 73] S (sv_sts (sv_sts (sv_sts (sv_sts (sv_sts (sv_sts (sv_up (sv_up (sv_up (sv_up S 1148 0 p1) 1149 0 (0 : Int)) 1150 0 (0 : Int)) 1147 0 (0 : Int)) [68, 69, 70, 81, 82, 83, 84, 85, 86, 74, 78, 79, 80, 76, 77, 1100031] g10) [68, 69, 70, 81, 82, 83, 84, 85, 86, 76, 77] g317) [68, 69, 70] g346) [68, 69, 70] g354) [68, 69, 70, 74] g361) [69, 70] g369) := sv_mod.sts md366 (by decide)
        have md374 : sv_mod [68, 69, 70, 81, 82, 83, 84, 85, 86, 71, 74, 75, 1127, 78, 79, 80, 72, 76, 77, 1143, 1144, 5, 1011, 1150, 1149, 1145, 1113, 1111, 1112, 91, 1147, 1100031] (sv_sts (sv_up (sv_up (sv_up (sv_up S 1148 0 p1) 1149 0 (0 : Int)) 1150 0 (0 : Int)) 1147 0 (0 : Int)) [68, 69, 70, 81, 82, 83, 84, 85, 86, 74, 78, 79, 80, 76, 77, 1100031] g10) (sv_sts (sv_sts (sv_sts (sv_sts (sv_sts (sv_sts (sv_up (sv_up (sv_up (sv_up S 1148 0 p1) 1149 0 (0 : Int)) 1150 0 (0 : Int)) 1147 0 (0 : Int)) [68, 69, 70, 81, 82, 83, 84, 85, 86, 74, 78, 79, 80, 76, 77, 1100031] g10) [68, 69, 70, 81, 82, 83, 84, 85, 86, 76, 77] g317) [68, 69, 70] g346) [68, 69, 70] g354) [68, 69, 70, 74] g361) [69, 70] g369) := sv_mod.sts md367 (by decide)
        have h := h g369 hpo372
        refine sv_aload_n hM dX12_ways_459 rfl rfl ?_
        obtain ⟨o375, h⟩ := h
        refine sv_callV hM dX12_ways_460 sm_iv_1222 (by decide) (sm_a0 _) rfl rfl (Nat.le_of_ble_eq_true rfl) sm_h258 (Nat.le_of_ble_eq_true rfl) (Nat.le_of_ble_eq_true rfl) (F' := 4) (Nat.le_of_ble_eq_true rfl) rfl (t_on  (sv_sts (sv_sts (sv_sts (sv_sts (sv_sts (sv_sts (sv_up (sv_up (sv_up (sv_up S 1148 0 p1) 1149 0 (0 : Int)) 1150 0 (0 : Int)) 1147 0 (0 : Int)) [68, 69, 70, 81, 82, 83, 84, 85, 86, 74, 78, 79, 80, 76, 77, 1100031] g10) [68, 69, 70, 81, 82, 83, 84, 85, 86, 76, 77] g317) [68, 69, 70] g346) [68, 69, 70] g354) [68, 69, 70, 74] g361) [69, 70] g369) ok370 o375) (fun v S1 hq => ?_)
        obtain ⟨rfl, ok377, md378, hpo379⟩ := hq
        obtain ⟨g376, rfl⟩ : ∃ g, S1 = sv_sts (sv_sts (sv_sts (sv_sts (sv_sts (sv_sts (sv_sts (sv_up (sv_up (sv_up (sv_up S 1148 0 p1) 1149 0 (0 : Int)) 1150 0 (0 : Int)) 1147 0 (0 : Int)) [68, 69, 70, 81, 82, 83, 84, 85, 86, 74, 78, 79, 80, 76, 77, 1100031] g10) [68, 69, 70, 81, 82, 83, 84, 85, 86, 76, 77] g317) [68, 69, 70] g346) [68, 69, 70] g354) [68, 69, 70, 74] g361) [69, 70] g369) [68, 69, 70, 81, 82, 83, 84, 85, 86, 71, 74, 75, 1127, 78, 79, 80, 72, 76, 77, 1150] g := ⟨_, md378.eq⟩
        show sv_T sm_XS sm_cs sm_L sm_sh 23 (q_ways p1 S) 265 463 [(0, .ref 0), (1, sv_I p1), (2, sv_I (S 27 p1)), (3, sv_I (S 28 p1)), (4, sv_I (647740 : Int)), (5, sv_I r315)] [] (sv_sts (sv_sts (sv_sts (sv_sts (sv_sts (sv_sts (sv_sts (sv_up (sv_up (sv_up (sv_up S 1148 0 p1) 1149 0 (0 : Int)) 1150 0 (0 : Int)) 1147 0 (0 : Int)) [68, 69, 70, 81, 82, 83, 84, 85, 86, 74, 78, 79, 80, 76, 77, 1100031] g10) [68, 69, 70, 81, 82, 83, 84, 85, 86, 76, 77] g317) [68, 69, 70] g346) [68, 69, 70] g354) [68, 69, 70, 74] g361) [69, 70] g369) [68, 69, 70, 81, 82, 83, 84, 85, 86, 71, 74, 75, 1127, 78, 79, 80, 72, 76, 77, 1150] g376)
        have md380 : sv_mod [68, 69, 70, 81, 82, 83, 84, 85, 86, 71, 74, 75, 1127, 78, 79, 80, 72, 76, 77, 1143, 1144, 5, 1011, 1150, 1149, 1145, 1113, 1111, 1112, 91, 1147, 1100031, 1148, 73] S (sv_sts (sv_sts (sv_sts (sv_sts (sv_sts (sv_sts (sv_sts (sv_up (sv_up (sv_up (sv_up S 1148 0 p1) 1149 0 (0 : Int)) 1150 0 (0 : Int)) 1147 0 (0 : Int)) [68, 69, 70, 81, 82, 83, 84, 85, 86, 74, 78, 79, 80, 76, 77, 1100031] g10) [68, 69, 70, 81, 82, 83, 84, 85, 86, 76, 77] g317) [68, 69, 70] g346) [68, 69, 70] g354) [68, 69, 70, 74] g361) [69, 70] g369) [68, 69, 70, 81, 82, 83, 84, 85, 86, 71, 74, 75, 1127, 78, 79, 80, 72, 76, 77, 1150] g376) := sv_mod.sts md373 (by decide)
        have md381 : sv_mod [68, 69, 70, 81, 82, 83, 84, 85, 86, 71, 74, 75, 1127, 78, 79, 80, 72, 76, 77, 1143, 1144, 5, 1011, 1150, 1149, 1145, 1113, 1111, 1112, 91, 1147, 1100031] (sv_sts (sv_up (sv_up (sv_up (sv_up S 1148 0 p1) 1149 0 (0 : Int)) 1150 0 (0 : Int)) 1147 0 (0 : Int)) [68, 69, 70, 81, 82, 83, 84, 85, 86, 74, 78, 79, 80, 76, 77, 1100031] g10) (sv_sts (sv_sts (sv_sts (sv_sts (sv_sts (sv_sts (sv_sts (sv_up (sv_up (sv_up (sv_up S 1148 0 p1) 1149 0 (0 : Int)) 1150 0 (0 : Int)) 1147 0 (0 : Int)) [68, 69, 70, 81, 82, 83, 84, 85, 86, 74, 78, 79, 80, 76, 77, 1100031] g10) [68, 69, 70, 81, 82, 83, 84, 85, 86, 76, 77] g317) [68, 69, 70] g346) [68, 69, 70] g354) [68, 69, 70, 74] g361) [69, 70] g369) [68, 69, 70, 81, 82, 83, 84, 85, 86, 71, 74, 75, 1127, 78, 79, 80, 72, 76, 77, 1150] g376) := sv_mod.sts md374 (by decide)
        have h := h g376 hpo379
        refine sv_goto hM dX12_ways_463 (pc' := 665) rfl ?_
        have eS := sv_mod.eq md381
        have hb := J63 (sv_sts (sv_sts (sv_sts (sv_sts (sv_sts (sv_sts (sv_sts (sv_up (sv_up (sv_up (sv_up S 1148 0 p1) 1149 0 (0 : Int)) 1150 0 (0 : Int)) 1147 0 (0 : Int)) [68, 69, 70, 81, 82, 83, 84, 85, 86, 74, 78, 79, 80, 76, 77, 1100031] g10) [68, 69, 70, 81, 82, 83, 84, 85, 86, 76, 77] g317) [68, 69, 70] g346) [68, 69, 70] g354) [68, 69, 70, 74] g361) [69, 70] g369) [68, 69, 70, 81, 82, 83, 84, 85, 86, 71, 74, 75, 1127, 78, 79, 80, 72, 76, 77, 1150] g376) (by rw [← eS]; exact ok377) h
        have hb : sv_T sm_XS sm_cs sm_L sm_sh 23 (q_ways p1 S) 265 665 [(0, .ref 0), (1, sv_I p1), (2, sv_I (S 27 p1)), (3, sv_I (S 28 p1)), (4, sv_I (647740 : Int))] [] (sv_sts (sv_sts (sv_sts (sv_sts (sv_sts (sv_sts (sv_sts (sv_up (sv_up (sv_up (sv_up S 1148 0 p1) 1149 0 (0 : Int)) 1150 0 (0 : Int)) 1147 0 (0 : Int)) [68, 69, 70, 81, 82, 83, 84, 85, 86, 74, 78, 79, 80, 76, 77, 1100031] g10) [68, 69, 70, 81, 82, 83, 84, 85, 86, 76, 77] g317) [68, 69, 70] g346) [68, 69, 70] g354) [68, 69, 70, 74] g361) [69, 70] g369) [68, 69, 70, 81, 82, 83, 84, 85, 86, 71, 74, 75, 1127, 78, 79, 80, 72, 76, 77, 1150] g376) := Eq.mpr (congrArg (fun Z => sv_T sm_XS sm_cs sm_L sm_sh 23 (q_ways p1 S) 265 665 [(0, .ref 0), (1, sv_I p1), (2, sv_I (S 27 p1)), (3, sv_I (S 28 p1)), (4, sv_I (647740 : Int))] [] Z) eS) hb
        exact sv_less (lv := [(0, .ref 0), (1, sv_I p1), (2, sv_I (S 27 p1)), (3, sv_I (S 28 p1)), (4, sv_I (647740 : Int))]) (sv_Sub_cons rfl (sv_Sub_cons rfl (sv_Sub_cons rfl (sv_Sub_cons rfl (sv_Sub_cons rfl sv_Sub_nil))))) hb
    · have h := h.2 (hc)
      refine sv_iconst (d := (1 : Int)) hM dX12_ways_418 rfl rfl ?_
      refine sv_goto hM dX12_ways_419 (pc' := 423) rfl ?_
      obtain ⟨o382, h⟩ := h
      refine sv_callV hM dX12_ways_423 sm_iv_1241 (by decide) (sm_a0 _) rfl rfl (Nat.le_of_ble_eq_true rfl) sm_h256 (Nat.le_of_ble_eq_true rfl) (Nat.le_of_ble_eq_true rfl) (F' := 3) (Nat.le_of_ble_eq_true rfl) rfl (t_make r315 (1 : Int) (sv_sts (sv_up (sv_up (sv_up (sv_up S 1148 0 p1) 1149 0 (0 : Int)) 1150 0 (0 : Int)) 1147 0 (0 : Int)) [68, 69, 70, 81, 82, 83, 84, 85, 86, 74, 78, 79, 80, 76, 77, 1100031] g10) ok312 hr315 (⟨by decide, by decide⟩ : sv_R (1 : Int)) o382) (fun v S1 hq => ?_)
      obtain ⟨rfl, ok384, md385, hpo386⟩ := hq
      obtain ⟨g383, rfl⟩ : ∃ g, S1 = sv_sts (sv_sts (sv_up (sv_up (sv_up (sv_up S 1148 0 p1) 1149 0 (0 : Int)) 1150 0 (0 : Int)) 1147 0 (0 : Int)) [68, 69, 70, 81, 82, 83, 84, 85, 86, 74, 78, 79, 80, 76, 77, 1100031] g10) [68, 69, 70, 81, 82, 83, 84, 85, 86, 76, 77] g := ⟨_, md385.eq⟩
      show sv_T sm_XS sm_cs sm_L sm_sh 23 (q_ways p1 S) 265 426 [(0, .ref 0), (1, sv_I p1), (2, sv_I (S 27 p1)), (3, sv_I (S 28 p1)), (4, sv_I (647740 : Int)), (5, sv_I r315)] [] (sv_sts (sv_sts (sv_up (sv_up (sv_up (sv_up S 1148 0 p1) 1149 0 (0 : Int)) 1150 0 (0 : Int)) 1147 0 (0 : Int)) [68, 69, 70, 81, 82, 83, 84, 85, 86, 74, 78, 79, 80, 76, 77, 1100031] g10) [68, 69, 70, 81, 82, 83, 84, 85, 86, 76, 77] g383)
      have md387 : sv_mod [68, 69, 70, 81, 82, 83, 84, 85, 86, 71, 74, 75, 1127, 78, 79, 80, 72, 76, 77, 1143, 1144, 5, 1011, 1150, 1149, 1145, 1113, 1111, 1112, 91, 1147, 1100031, 1148, 73] S (sv_sts (sv_sts (sv_up (sv_up (sv_up (sv_up S 1148 0 p1) 1149 0 (0 : Int)) 1150 0 (0 : Int)) 1147 0 (0 : Int)) [68, 69, 70, 81, 82, 83, 84, 85, 86, 74, 78, 79, 80, 76, 77, 1100031] g10) [68, 69, 70, 81, 82, 83, 84, 85, 86, 76, 77] g383) := sv_mod.sts md14 (by decide)
      have md388 : sv_mod [68, 69, 70, 81, 82, 83, 84, 85, 86, 71, 74, 75, 1127, 78, 79, 80, 72, 76, 77, 1143, 1144, 5, 1011, 1150, 1149, 1145, 1113, 1111, 1112, 91, 1147, 1100031] (sv_sts (sv_up (sv_up (sv_up (sv_up S 1148 0 p1) 1149 0 (0 : Int)) 1150 0 (0 : Int)) 1147 0 (0 : Int)) [68, 69, 70, 81, 82, 83, 84, 85, 86, 74, 78, 79, 80, 76, 77, 1100031] g10) (sv_sts (sv_sts (sv_up (sv_up (sv_up (sv_up S 1148 0 p1) 1149 0 (0 : Int)) 1150 0 (0 : Int)) 1147 0 (0 : Int)) [68, 69, 70, 81, 82, 83, 84, 85, 86, 74, 78, 79, 80, 76, 77, 1100031] g10) [68, 69, 70, 81, 82, 83, 84, 85, 86, 76, 77] g383) := sv_mod.sts (sv_mod.rf (l := [68, 69, 70, 81, 82, 83, 84, 85, 86, 71, 74, 75, 1127, 78, 79, 80, 72, 76, 77, 1143, 1144, 5, 1011, 1150, 1149, 1145, 1113, 1111, 1112, 91, 1147, 1100031]) (S := (sv_sts (sv_up (sv_up (sv_up (sv_up S 1148 0 p1) 1149 0 (0 : Int)) 1150 0 (0 : Int)) 1147 0 (0 : Int)) [68, 69, 70, 81, 82, 83, 84, 85, 86, 74, 78, 79, 80, 76, 77, 1100031] g10))) (by decide)
      have h := h g383 hpo386
      refine sv_aload_n hM dX12_ways_426 rfl rfl ?_
      refine sv_getA hM dX12_ways_427 sm_fl_89 (sm_a0 _) sm_k48 rfl ?_
      refine sv_iload_n hM dX12_ways_430 rfl rfl ?_
      refine sv_iald hM dX12_ways_431 (sm_a26 _) (by decide) o40.1 o40.2 rfl (x := (S 26 p1)) rfl ?_
      refine sv_bipush (d := (8 : Int)) hM dX12_ways_432 rfl rfl ?_
      refine sv_icmp_ne hM dX12_ways_434 k64 (⟨by decide, by decide⟩ : sv_R (8 : Int)) (t := 449) rfl rfl (fun hc => ?_) (fun hc => ?_)
      · have h := h.1 (hc)
        refine sv_aload_n hM dX12_ways_449 rfl rfl ?_
        refine sv_aload_n hM dX12_ways_450 rfl rfl ?_
        obtain ⟨o389, h⟩ := h
        refine sv_callV hM dX12_ways_451 sm_iv_1201 (by decide) (sm_a0 _) rfl rfl (Nat.le_of_ble_eq_true rfl) sm_h230 (Nat.le_of_ble_eq_true rfl) (Nat.le_of_ble_eq_true rfl) (F' := 1) (Nat.le_of_ble_eq_true rfl) rfl (t_pushSet  (sv_sts (sv_sts (sv_up (sv_up (sv_up (sv_up S 1148 0 p1) 1149 0 (0 : Int)) 1150 0 (0 : Int)) 1147 0 (0 : Int)) [68, 69, 70, 81, 82, 83, 84, 85, 86, 74, 78, 79, 80, 76, 77, 1100031] g10) [68, 69, 70, 81, 82, 83, 84, 85, 86, 76, 77] g383) ok384 o389) (fun v S1 hq => ?_)
        obtain ⟨r394, rfl, hr394, ok391, md392, hpo393⟩ := hq
        obtain ⟨g390, rfl⟩ : ∃ g, S1 = sv_sts (sv_sts (sv_sts (sv_up (sv_up (sv_up (sv_up S 1148 0 p1) 1149 0 (0 : Int)) 1150 0 (0 : Int)) 1147 0 (0 : Int)) [68, 69, 70, 81, 82, 83, 84, 85, 86, 74, 78, 79, 80, 76, 77, 1100031] g10) [68, 69, 70, 81, 82, 83, 84, 85, 86, 76, 77] g383) [68, 69, 70, 74] g := ⟨_, md392.eq⟩
        show sv_T sm_XS sm_cs sm_L sm_sh 23 (q_ways p1 S) 265 454 [(0, .ref 0), (1, sv_I p1), (2, sv_I (S 27 p1)), (3, sv_I (S 28 p1)), (4, sv_I (647740 : Int)), (5, sv_I r315)] [sv_I r394, .ref 0] (sv_sts (sv_sts (sv_sts (sv_up (sv_up (sv_up (sv_up S 1148 0 p1) 1149 0 (0 : Int)) 1150 0 (0 : Int)) 1147 0 (0 : Int)) [68, 69, 70, 81, 82, 83, 84, 85, 86, 74, 78, 79, 80, 76, 77, 1100031] g10) [68, 69, 70, 81, 82, 83, 84, 85, 86, 76, 77] g383) [68, 69, 70, 74] g390)
        have md395 : sv_mod [68, 69, 70, 81, 82, 83, 84, 85, 86, 71, 74, 75, 1127, 78, 79, 80, 72, 76, 77, 1143, 1144, 5, 1011, 1150, 1149, 1145, 1113, 1111, 1112, 91, 1147, 1100031, 1148, 73] S (sv_sts (sv_sts (sv_sts (sv_up (sv_up (sv_up (sv_up S 1148 0 p1) 1149 0 (0 : Int)) 1150 0 (0 : Int)) 1147 0 (0 : Int)) [68, 69, 70, 81, 82, 83, 84, 85, 86, 74, 78, 79, 80, 76, 77, 1100031] g10) [68, 69, 70, 81, 82, 83, 84, 85, 86, 76, 77] g383) [68, 69, 70, 74] g390) := sv_mod.sts md387 (by decide)
        have md396 : sv_mod [68, 69, 70, 81, 82, 83, 84, 85, 86, 71, 74, 75, 1127, 78, 79, 80, 72, 76, 77, 1143, 1144, 5, 1011, 1150, 1149, 1145, 1113, 1111, 1112, 91, 1147, 1100031] (sv_sts (sv_up (sv_up (sv_up (sv_up S 1148 0 p1) 1149 0 (0 : Int)) 1150 0 (0 : Int)) 1147 0 (0 : Int)) [68, 69, 70, 81, 82, 83, 84, 85, 86, 74, 78, 79, 80, 76, 77, 1100031] g10) (sv_sts (sv_sts (sv_sts (sv_up (sv_up (sv_up (sv_up S 1148 0 p1) 1149 0 (0 : Int)) 1150 0 (0 : Int)) 1147 0 (0 : Int)) [68, 69, 70, 81, 82, 83, 84, 85, 86, 74, 78, 79, 80, 76, 77, 1100031] g10) [68, 69, 70, 81, 82, 83, 84, 85, 86, 76, 77] g383) [68, 69, 70, 74] g390) := sv_mod.sts md388 (by decide)
        have h := h r394 hr394 g390 hpo393
        refine sv_iload hM dX12_ways_454 rfl rfl ?_
        obtain ⟨o397, h⟩ := h
        refine sv_callV hM dX12_ways_456 sm_iv_1081 (by decide) (sm_a0 _) rfl rfl (Nat.le_of_ble_eq_true rfl) sm_h216 (Nat.le_of_ble_eq_true rfl) (Nat.le_of_ble_eq_true rfl) (F' := 0) (Nat.le_of_ble_eq_true rfl) rfl (t_addLabel r394 r315 (sv_sts (sv_sts (sv_sts (sv_up (sv_up (sv_up (sv_up S 1148 0 p1) 1149 0 (0 : Int)) 1150 0 (0 : Int)) 1147 0 (0 : Int)) [68, 69, 70, 81, 82, 83, 84, 85, 86, 74, 78, 79, 80, 76, 77, 1100031] g10) [68, 69, 70, 81, 82, 83, 84, 85, 86, 76, 77] g383) [68, 69, 70, 74] g390) ok391 hr394 hr315 o397) (fun v S1 hq => ?_)
        obtain ⟨rfl, ok399, md400, hpo401⟩ := hq
        obtain ⟨g398, rfl⟩ : ∃ g, S1 = sv_sts (sv_sts (sv_sts (sv_sts (sv_up (sv_up (sv_up (sv_up S 1148 0 p1) 1149 0 (0 : Int)) 1150 0 (0 : Int)) 1147 0 (0 : Int)) [68, 69, 70, 81, 82, 83, 84, 85, 86, 74, 78, 79, 80, 76, 77, 1100031] g10) [68, 69, 70, 81, 82, 83, 84, 85, 86, 76, 77] g383) [68, 69, 70, 74] g390) [69, 70] g := ⟨_, md400.eq⟩
        show sv_T sm_XS sm_cs sm_L sm_sh 23 (q_ways p1 S) 265 459 [(0, .ref 0), (1, sv_I p1), (2, sv_I (S 27 p1)), (3, sv_I (S 28 p1)), (4, sv_I (647740 : Int)), (5, sv_I r315)] [] (sv_sts (sv_sts (sv_sts (sv_sts (sv_up (sv_up (sv_up (sv_up S 1148 0 p1) 1149 0 (0 : Int)) 1150 0 (0 : Int)) 1147 0 (0 : Int)) [68, 69, 70, 81, 82, 83, 84, 85, 86, 74, 78, 79, 80, 76, 77, 1100031] g10) [68, 69, 70, 81, 82, 83, 84, 85, 86, 76, 77] g383) [68, 69, 70, 74] g390) [69, 70] g398)
        have md402 : sv_mod [68, 69, 70, 81, 82, 83, 84, 85, 86, 71, 74, 75, 1127, 78, 79, 80, 72, 76, 77, 1143, 1144, 5, 1011, 1150, 1149, 1145, 1113, 1111, 1112, 91, 1147, 1100031, 1148, 73] S (sv_sts (sv_sts (sv_sts (sv_sts (sv_up (sv_up (sv_up (sv_up S 1148 0 p1) 1149 0 (0 : Int)) 1150 0 (0 : Int)) 1147 0 (0 : Int)) [68, 69, 70, 81, 82, 83, 84, 85, 86, 74, 78, 79, 80, 76, 77, 1100031] g10) [68, 69, 70, 81, 82, 83, 84, 85, 86, 76, 77] g383) [68, 69, 70, 74] g390) [69, 70] g398) := sv_mod.sts md395 (by decide)
        have md403 : sv_mod [68, 69, 70, 81, 82, 83, 84, 85, 86, 71, 74, 75, 1127, 78, 79, 80, 72, 76, 77, 1143, 1144, 5, 1011, 1150, 1149, 1145, 1113, 1111, 1112, 91, 1147, 1100031] (sv_sts (sv_up (sv_up (sv_up (sv_up S 1148 0 p1) 1149 0 (0 : Int)) 1150 0 (0 : Int)) 1147 0 (0 : Int)) [68, 69, 70, 81, 82, 83, 84, 85, 86, 74, 78, 79, 80, 76, 77, 1100031] g10) (sv_sts (sv_sts (sv_sts (sv_sts (sv_up (sv_up (sv_up (sv_up S 1148 0 p1) 1149 0 (0 : Int)) 1150 0 (0 : Int)) 1147 0 (0 : Int)) [68, 69, 70, 81, 82, 83, 84, 85, 86, 74, 78, 79, 80, 76, 77, 1100031] g10) [68, 69, 70, 81, 82, 83, 84, 85, 86, 76, 77] g383) [68, 69, 70, 74] g390) [69, 70] g398) := sv_mod.sts md396 (by decide)
        have h := h g398 hpo401
        refine sv_aload_n hM dX12_ways_459 rfl rfl ?_
        obtain ⟨o404, h⟩ := h
        refine sv_callV hM dX12_ways_460 sm_iv_1222 (by decide) (sm_a0 _) rfl rfl (Nat.le_of_ble_eq_true rfl) sm_h258 (Nat.le_of_ble_eq_true rfl) (Nat.le_of_ble_eq_true rfl) (F' := 4) (Nat.le_of_ble_eq_true rfl) rfl (t_on  (sv_sts (sv_sts (sv_sts (sv_sts (sv_up (sv_up (sv_up (sv_up S 1148 0 p1) 1149 0 (0 : Int)) 1150 0 (0 : Int)) 1147 0 (0 : Int)) [68, 69, 70, 81, 82, 83, 84, 85, 86, 74, 78, 79, 80, 76, 77, 1100031] g10) [68, 69, 70, 81, 82, 83, 84, 85, 86, 76, 77] g383) [68, 69, 70, 74] g390) [69, 70] g398) ok399 o404) (fun v S1 hq => ?_)
        obtain ⟨rfl, ok406, md407, hpo408⟩ := hq
        obtain ⟨g405, rfl⟩ : ∃ g, S1 = sv_sts (sv_sts (sv_sts (sv_sts (sv_sts (sv_up (sv_up (sv_up (sv_up S 1148 0 p1) 1149 0 (0 : Int)) 1150 0 (0 : Int)) 1147 0 (0 : Int)) [68, 69, 70, 81, 82, 83, 84, 85, 86, 74, 78, 79, 80, 76, 77, 1100031] g10) [68, 69, 70, 81, 82, 83, 84, 85, 86, 76, 77] g383) [68, 69, 70, 74] g390) [69, 70] g398) [68, 69, 70, 81, 82, 83, 84, 85, 86, 71, 74, 75, 1127, 78, 79, 80, 72, 76, 77, 1150] g := ⟨_, md407.eq⟩
        show sv_T sm_XS sm_cs sm_L sm_sh 23 (q_ways p1 S) 265 463 [(0, .ref 0), (1, sv_I p1), (2, sv_I (S 27 p1)), (3, sv_I (S 28 p1)), (4, sv_I (647740 : Int)), (5, sv_I r315)] [] (sv_sts (sv_sts (sv_sts (sv_sts (sv_sts (sv_up (sv_up (sv_up (sv_up S 1148 0 p1) 1149 0 (0 : Int)) 1150 0 (0 : Int)) 1147 0 (0 : Int)) [68, 69, 70, 81, 82, 83, 84, 85, 86, 74, 78, 79, 80, 76, 77, 1100031] g10) [68, 69, 70, 81, 82, 83, 84, 85, 86, 76, 77] g383) [68, 69, 70, 74] g390) [69, 70] g398) [68, 69, 70, 81, 82, 83, 84, 85, 86, 71, 74, 75, 1127, 78, 79, 80, 72, 76, 77, 1150] g405)
        have md409 : sv_mod [68, 69, 70, 81, 82, 83, 84, 85, 86, 71, 74, 75, 1127, 78, 79, 80, 72, 76, 77, 1143, 1144, 5, 1011, 1150, 1149, 1145, 1113, 1111, 1112, 91, 1147, 1100031, 1148, 73] S (sv_sts (sv_sts (sv_sts (sv_sts (sv_sts (sv_up (sv_up (sv_up (sv_up S 1148 0 p1) 1149 0 (0 : Int)) 1150 0 (0 : Int)) 1147 0 (0 : Int)) [68, 69, 70, 81, 82, 83, 84, 85, 86, 74, 78, 79, 80, 76, 77, 1100031] g10) [68, 69, 70, 81, 82, 83, 84, 85, 86, 76, 77] g383) [68, 69, 70, 74] g390) [69, 70] g398) [68, 69, 70, 81, 82, 83, 84, 85, 86, 71, 74, 75, 1127, 78, 79, 80, 72, 76, 77, 1150] g405) := sv_mod.sts md402 (by decide)
        have md410 : sv_mod [68, 69, 70, 81, 82, 83, 84, 85, 86, 71, 74, 75, 1127, 78, 79, 80, 72, 76, 77, 1143, 1144, 5, 1011, 1150, 1149, 1145, 1113, 1111, 1112, 91, 1147, 1100031] (sv_sts (sv_up (sv_up (sv_up (sv_up S 1148 0 p1) 1149 0 (0 : Int)) 1150 0 (0 : Int)) 1147 0 (0 : Int)) [68, 69, 70, 81, 82, 83, 84, 85, 86, 74, 78, 79, 80, 76, 77, 1100031] g10) (sv_sts (sv_sts (sv_sts (sv_sts (sv_sts (sv_up (sv_up (sv_up (sv_up S 1148 0 p1) 1149 0 (0 : Int)) 1150 0 (0 : Int)) 1147 0 (0 : Int)) [68, 69, 70, 81, 82, 83, 84, 85, 86, 74, 78, 79, 80, 76, 77, 1100031] g10) [68, 69, 70, 81, 82, 83, 84, 85, 86, 76, 77] g383) [68, 69, 70, 74] g390) [69, 70] g398) [68, 69, 70, 81, 82, 83, 84, 85, 86, 71, 74, 75, 1127, 78, 79, 80, 72, 76, 77, 1150] g405) := sv_mod.sts md403 (by decide)
        have h := h g405 hpo408
        refine sv_goto hM dX12_ways_463 (pc' := 665) rfl ?_
        have eS := sv_mod.eq md410
        have hb := J63 (sv_sts (sv_sts (sv_sts (sv_sts (sv_sts (sv_up (sv_up (sv_up (sv_up S 1148 0 p1) 1149 0 (0 : Int)) 1150 0 (0 : Int)) 1147 0 (0 : Int)) [68, 69, 70, 81, 82, 83, 84, 85, 86, 74, 78, 79, 80, 76, 77, 1100031] g10) [68, 69, 70, 81, 82, 83, 84, 85, 86, 76, 77] g383) [68, 69, 70, 74] g390) [69, 70] g398) [68, 69, 70, 81, 82, 83, 84, 85, 86, 71, 74, 75, 1127, 78, 79, 80, 72, 76, 77, 1150] g405) (by rw [← eS]; exact ok406) h
        have hb : sv_T sm_XS sm_cs sm_L sm_sh 23 (q_ways p1 S) 265 665 [(0, .ref 0), (1, sv_I p1), (2, sv_I (S 27 p1)), (3, sv_I (S 28 p1)), (4, sv_I (647740 : Int))] [] (sv_sts (sv_sts (sv_sts (sv_sts (sv_sts (sv_up (sv_up (sv_up (sv_up S 1148 0 p1) 1149 0 (0 : Int)) 1150 0 (0 : Int)) 1147 0 (0 : Int)) [68, 69, 70, 81, 82, 83, 84, 85, 86, 74, 78, 79, 80, 76, 77, 1100031] g10) [68, 69, 70, 81, 82, 83, 84, 85, 86, 76, 77] g383) [68, 69, 70, 74] g390) [69, 70] g398) [68, 69, 70, 81, 82, 83, 84, 85, 86, 71, 74, 75, 1127, 78, 79, 80, 72, 76, 77, 1150] g405) := Eq.mpr (congrArg (fun Z => sv_T sm_XS sm_cs sm_L sm_sh 23 (q_ways p1 S) 265 665 [(0, .ref 0), (1, sv_I p1), (2, sv_I (S 27 p1)), (3, sv_I (S 28 p1)), (4, sv_I (647740 : Int))] [] Z) eS) hb
        exact sv_less (lv := [(0, .ref 0), (1, sv_I p1), (2, sv_I (S 27 p1)), (3, sv_I (S 28 p1)), (4, sv_I (647740 : Int))]) (sv_Sub_cons rfl (sv_Sub_cons rfl (sv_Sub_cons rfl (sv_Sub_cons rfl (sv_Sub_cons rfl sv_Sub_nil))))) hb
      · have h := h.2 (hc)
        refine sv_aload_n hM dX12_ways_437 rfl rfl ?_
        refine sv_aload_n hM dX12_ways_438 rfl rfl ?_
        refine sv_iload hM dX12_ways_439 rfl rfl ?_
        refine sv_iconst (d := (0 : Int)) hM dX12_ways_441 rfl rfl ?_
        obtain ⟨o411, h⟩ := h
        refine sv_callV hM dX12_ways_442 sm_iv_1244 (by decide) (sm_a0 _) rfl rfl (Nat.le_of_ble_eq_true rfl) sm_h253 (Nat.le_of_ble_eq_true rfl) (Nat.le_of_ble_eq_true rfl) (F' := 2) (Nat.le_of_ble_eq_true rfl) rfl (t_fresh_ r315 (0 : Int) (sv_sts (sv_sts (sv_up (sv_up (sv_up (sv_up S 1148 0 p1) 1149 0 (0 : Int)) 1150 0 (0 : Int)) 1147 0 (0 : Int)) [68, 69, 70, 81, 82, 83, 84, 85, 86, 74, 78, 79, 80, 76, 77, 1100031] g10) [68, 69, 70, 81, 82, 83, 84, 85, 86, 76, 77] g383) ok384 hr315 (⟨by decide, by decide⟩ : sv_R (0 : Int)) o411) (fun v S1 hq => ?_)
        obtain ⟨r416, rfl, hr416, ok413, md414, hpo415⟩ := hq
        obtain ⟨g412, rfl⟩ : ∃ g, S1 = sv_sts (sv_sts (sv_sts (sv_up (sv_up (sv_up (sv_up S 1148 0 p1) 1149 0 (0 : Int)) 1150 0 (0 : Int)) 1147 0 (0 : Int)) [68, 69, 70, 81, 82, 83, 84, 85, 86, 74, 78, 79, 80, 76, 77, 1100031] g10) [68, 69, 70, 81, 82, 83, 84, 85, 86, 76, 77] g383) [68, 69, 70] g := ⟨_, md414.eq⟩
        show sv_T sm_XS sm_cs sm_L sm_sh 23 (q_ways p1 S) 265 445 [(0, .ref 0), (1, sv_I p1), (2, sv_I (S 27 p1)), (3, sv_I (S 28 p1)), (4, sv_I (647740 : Int)), (5, sv_I r315)] [sv_I r416, .ref 0] (sv_sts (sv_sts (sv_sts (sv_up (sv_up (sv_up (sv_up S 1148 0 p1) 1149 0 (0 : Int)) 1150 0 (0 : Int)) 1147 0 (0 : Int)) [68, 69, 70, 81, 82, 83, 84, 85, 86, 74, 78, 79, 80, 76, 77, 1100031] g10) [68, 69, 70, 81, 82, 83, 84, 85, 86, 76, 77] g383) [68, 69, 70] g412)
        have md417 : sv_mod [68, 69, 70, 81, 82, 83, 84, 85, 86, 71, 74, 75, 1127, 78, 79, 80, 72, 76, 77, 1143, 1144, 5, 1011, 1150, 1149, 1145, 1113, 1111, 1112, 91, 1147, 1100031, 1148, 73] S (sv_sts (sv_sts (sv_sts (sv_up (sv_up (sv_up (sv_up S 1148 0 p1) 1149 0 (0 : Int)) 1150 0 (0 : Int)) 1147 0 (0 : Int)) [68, 69, 70, 81, 82, 83, 84, 85, 86, 74, 78, 79, 80, 76, 77, 1100031] g10) [68, 69, 70, 81, 82, 83, 84, 85, 86, 76, 77] g383) [68, 69, 70] g412) := sv_mod.sts md387 (by decide)
        have md418 : sv_mod [68, 69, 70, 81, 82, 83, 84, 85, 86, 71, 74, 75, 1127, 78, 79, 80, 72, 76, 77, 1143, 1144, 5, 1011, 1150, 1149, 1145, 1113, 1111, 1112, 91, 1147, 1100031] (sv_sts (sv_up (sv_up (sv_up (sv_up S 1148 0 p1) 1149 0 (0 : Int)) 1150 0 (0 : Int)) 1147 0 (0 : Int)) [68, 69, 70, 81, 82, 83, 84, 85, 86, 74, 78, 79, 80, 76, 77, 1100031] g10) (sv_sts (sv_sts (sv_sts (sv_up (sv_up (sv_up (sv_up S 1148 0 p1) 1149 0 (0 : Int)) 1150 0 (0 : Int)) 1147 0 (0 : Int)) [68, 69, 70, 81, 82, 83, 84, 85, 86, 74, 78, 79, 80, 76, 77, 1100031] g10) [68, 69, 70, 81, 82, 83, 84, 85, 86, 76, 77] g383) [68, 69, 70] g412) := sv_mod.sts md388 (by decide)
        have h := h r416 hr416 g412 hpo415
        refine sv_iconst (d := (0 : Int)) hM dX12_ways_445 rfl rfl ?_
        obtain ⟨o419, h⟩ := h
        refine sv_callV hM dX12_ways_446 sm_iv_1075 (by decide) (sm_a0 _) rfl rfl (Nat.le_of_ble_eq_true rfl) sm_h214 (Nat.le_of_ble_eq_true rfl) (Nat.le_of_ble_eq_true rfl) (F' := 2) (Nat.le_of_ble_eq_true rfl) rfl (t_addNumber r416 (0 : Int) (sv_sts (sv_sts (sv_sts (sv_up (sv_up (sv_up (sv_up S 1148 0 p1) 1149 0 (0 : Int)) 1150 0 (0 : Int)) 1147 0 (0 : Int)) [68, 69, 70, 81, 82, 83, 84, 85, 86, 74, 78, 79, 80, 76, 77, 1100031] g10) [68, 69, 70, 81, 82, 83, 84, 85, 86, 76, 77] g383) [68, 69, 70] g412) ok413 hr416 (⟨by decide, by decide⟩ : sv_R (0 : Int)) o419) (fun v S1 hq => ?_)
        obtain ⟨rfl, ok421, md422, hpo423⟩ := hq
        obtain ⟨g420, rfl⟩ : ∃ g, S1 = sv_sts (sv_sts (sv_sts (sv_sts (sv_up (sv_up (sv_up (sv_up S 1148 0 p1) 1149 0 (0 : Int)) 1150 0 (0 : Int)) 1147 0 (0 : Int)) [68, 69, 70, 81, 82, 83, 84, 85, 86, 74, 78, 79, 80, 76, 77, 1100031] g10) [68, 69, 70, 81, 82, 83, 84, 85, 86, 76, 77] g383) [68, 69, 70] g412) [68, 69, 70] g := ⟨_, md422.eq⟩
        show sv_T sm_XS sm_cs sm_L sm_sh 23 (q_ways p1 S) 265 449 [(0, .ref 0), (1, sv_I p1), (2, sv_I (S 27 p1)), (3, sv_I (S 28 p1)), (4, sv_I (647740 : Int)), (5, sv_I r315)] [] (sv_sts (sv_sts (sv_sts (sv_sts (sv_up (sv_up (sv_up (sv_up S 1148 0 p1) 1149 0 (0 : Int)) 1150 0 (0 : Int)) 1147 0 (0 : Int)) [68, 69, 70, 81, 82, 83, 84, 85, 86, 74, 78, 79, 80, 76, 77, 1100031] g10) [68, 69, 70, 81, 82, 83, 84, 85, 86, 76, 77] g383) [68, 69, 70] g412) [68, 69, 70] g420)
        have md424 : sv_mod [68, 69, 70, 81, 82, 83, 84, 85, 86, 71, 74, 75, 1127, 78, 79, 80, 72, 76, 77, 1143, 1144, 5, 1011, 1150, 1149, 1145, 1113, 1111, 1112, 91, 1147, 1100031, 1148, 73] S (sv_sts (sv_sts (sv_sts (sv_sts (sv_up (sv_up (sv_up (sv_up S 1148 0 p1) 1149 0 (0 : Int)) 1150 0 (0 : Int)) 1147 0 (0 : Int)) [68, 69, 70, 81, 82, 83, 84, 85, 86, 74, 78, 79, 80, 76, 77, 1100031] g10) [68, 69, 70, 81, 82, 83, 84, 85, 86, 76, 77] g383) [68, 69, 70] g412) [68, 69, 70] g420) := sv_mod.sts md417 (by decide)
        have md425 : sv_mod [68, 69, 70, 81, 82, 83, 84, 85, 86, 71, 74, 75, 1127, 78, 79, 80, 72, 76, 77, 1143, 1144, 5, 1011, 1150, 1149, 1145, 1113, 1111, 1112, 91, 1147, 1100031] (sv_sts (sv_up (sv_up (sv_up (sv_up S 1148 0 p1) 1149 0 (0 : Int)) 1150 0 (0 : Int)) 1147 0 (0 : Int)) [68, 69, 70, 81, 82, 83, 84, 85, 86, 74, 78, 79, 80, 76, 77, 1100031] g10) (sv_sts (sv_sts (sv_sts (sv_sts (sv_up (sv_up (sv_up (sv_up S 1148 0 p1) 1149 0 (0 : Int)) 1150 0 (0 : Int)) 1147 0 (0 : Int)) [68, 69, 70, 81, 82, 83, 84, 85, 86, 74, 78, 79, 80, 76, 77, 1100031] g10) [68, 69, 70, 81, 82, 83, 84, 85, 86, 76, 77] g383) [68, 69, 70] g412) [68, 69, 70] g420) := sv_mod.sts md418 (by decide)
        have h := h g420 hpo423
        refine sv_aload_n hM dX12_ways_449 rfl rfl ?_
        refine sv_aload_n hM dX12_ways_450 rfl rfl ?_
        obtain ⟨o426, h⟩ := h
        refine sv_callV hM dX12_ways_451 sm_iv_1201 (by decide) (sm_a0 _) rfl rfl (Nat.le_of_ble_eq_true rfl) sm_h230 (Nat.le_of_ble_eq_true rfl) (Nat.le_of_ble_eq_true rfl) (F' := 1) (Nat.le_of_ble_eq_true rfl) rfl (t_pushSet  (sv_sts (sv_sts (sv_sts (sv_sts (sv_up (sv_up (sv_up (sv_up S 1148 0 p1) 1149 0 (0 : Int)) 1150 0 (0 : Int)) 1147 0 (0 : Int)) [68, 69, 70, 81, 82, 83, 84, 85, 86, 74, 78, 79, 80, 76, 77, 1100031] g10) [68, 69, 70, 81, 82, 83, 84, 85, 86, 76, 77] g383) [68, 69, 70] g412) [68, 69, 70] g420) ok421 o426) (fun v S1 hq => ?_)
        obtain ⟨r431, rfl, hr431, ok428, md429, hpo430⟩ := hq
        obtain ⟨g427, rfl⟩ : ∃ g, S1 = sv_sts (sv_sts (sv_sts (sv_sts (sv_sts (sv_up (sv_up (sv_up (sv_up S 1148 0 p1) 1149 0 (0 : Int)) 1150 0 (0 : Int)) 1147 0 (0 : Int)) [68, 69, 70, 81, 82, 83, 84, 85, 86, 74, 78, 79, 80, 76, 77, 1100031] g10) [68, 69, 70, 81, 82, 83, 84, 85, 86, 76, 77] g383) [68, 69, 70] g412) [68, 69, 70] g420) [68, 69, 70, 74] g := ⟨_, md429.eq⟩
        show sv_T sm_XS sm_cs sm_L sm_sh 23 (q_ways p1 S) 265 454 [(0, .ref 0), (1, sv_I p1), (2, sv_I (S 27 p1)), (3, sv_I (S 28 p1)), (4, sv_I (647740 : Int)), (5, sv_I r315)] [sv_I r431, .ref 0] (sv_sts (sv_sts (sv_sts (sv_sts (sv_sts (sv_up (sv_up (sv_up (sv_up S 1148 0 p1) 1149 0 (0 : Int)) 1150 0 (0 : Int)) 1147 0 (0 : Int)) [68, 69, 70, 81, 82, 83, 84, 85, 86, 74, 78, 79, 80, 76, 77, 1100031] g10) [68, 69, 70, 81, 82, 83, 84, 85, 86, 76, 77] g383) [68, 69, 70] g412) [68, 69, 70] g420) [68, 69, 70, 74] g427)
        have md432 : sv_mod [68, 69, 70, 81, 82, 83, 84, 85, 86, 71, 74, 75, 1127, 78, 79, 80, 72, 76, 77, 1143, 1144, 5, 1011, 1150, 1149, 1145, 1113, 1111, 1112, 91, 1147, 1100031, 1148, 73] S (sv_sts (sv_sts (sv_sts (sv_sts (sv_sts (sv_up (sv_up (sv_up (sv_up S 1148 0 p1) 1149 0 (0 : Int)) 1150 0 (0 : Int)) 1147 0 (0 : Int)) [68, 69, 70, 81, 82, 83, 84, 85, 86, 74, 78, 79, 80, 76, 77, 1100031] g10) [68, 69, 70, 81, 82, 83, 84, 85, 86, 76, 77] g383) [68, 69, 70] g412) [68, 69, 70] g420) [68, 69, 70, 74] g427) := sv_mod.sts md424 (by decide)
        have md433 : sv_mod [68, 69, 70, 81, 82, 83, 84, 85, 86, 71, 74, 75, 1127, 78, 79, 80, 72, 76, 77, 1143, 1144, 5, 1011, 1150, 1149, 1145, 1113, 1111, 1112, 91, 1147, 1100031] (sv_sts (sv_up (sv_up (sv_up (sv_up S 1148 0 p1) 1149 0 (0 : Int)) 1150 0 (0 : Int)) 1147 0 (0 : Int)) [68, 69, 70, 81, 82, 83, 84, 85, 86, 74, 78, 79, 80, 76, 77, 1100031] g10) (sv_sts (sv_sts (sv_sts (sv_sts (sv_sts (sv_up (sv_up (sv_up (sv_up S 1148 0 p1) 1149 0 (0 : Int)) 1150 0 (0 : Int)) 1147 0 (0 : Int)) [68, 69, 70, 81, 82, 83, 84, 85, 86, 74, 78, 79, 80, 76, 77, 1100031] g10) [68, 69, 70, 81, 82, 83, 84, 85, 86, 76, 77] g383) [68, 69, 70] g412) [68, 69, 70] g420) [68, 69, 70, 74] g427) := sv_mod.sts md425 (by decide)
        have h := h r431 hr431 g427 hpo430
        refine sv_iload hM dX12_ways_454 rfl rfl ?_
        obtain ⟨o434, h⟩ := h
        refine sv_callV hM dX12_ways_456 sm_iv_1081 (by decide) (sm_a0 _) rfl rfl (Nat.le_of_ble_eq_true rfl) sm_h216 (Nat.le_of_ble_eq_true rfl) (Nat.le_of_ble_eq_true rfl) (F' := 0) (Nat.le_of_ble_eq_true rfl) rfl (t_addLabel r431 r315 (sv_sts (sv_sts (sv_sts (sv_sts (sv_sts (sv_up (sv_up (sv_up (sv_up S 1148 0 p1) 1149 0 (0 : Int)) 1150 0 (0 : Int)) 1147 0 (0 : Int)) [68, 69, 70, 81, 82, 83, 84, 85, 86, 74, 78, 79, 80, 76, 77, 1100031] g10) [68, 69, 70, 81, 82, 83, 84, 85, 86, 76, 77] g383) [68, 69, 70] g412) [68, 69, 70] g420) [68, 69, 70, 74] g427) ok428 hr431 hr315 o434) (fun v S1 hq => ?_)
        obtain ⟨rfl, ok436, md437, hpo438⟩ := hq
        obtain ⟨g435, rfl⟩ : ∃ g, S1 = sv_sts (sv_sts (sv_sts (sv_sts (sv_sts (sv_sts (sv_up (sv_up (sv_up (sv_up S 1148 0 p1) 1149 0 (0 : Int)) 1150 0 (0 : Int)) 1147 0 (0 : Int)) [68, 69, 70, 81, 82, 83, 84, 85, 86, 74, 78, 79, 80, 76, 77, 1100031] g10) [68, 69, 70, 81, 82, 83, 84, 85, 86, 76, 77] g383) [68, 69, 70] g412) [68, 69, 70] g420) [68, 69, 70, 74] g427) [69, 70] g := ⟨_, md437.eq⟩
        show sv_T sm_XS sm_cs sm_L sm_sh 23 (q_ways p1 S) 265 459 [(0, .ref 0), (1, sv_I p1), (2, sv_I (S 27 p1)), (3, sv_I (S 28 p1)), (4, sv_I (647740 : Int)), (5, sv_I r315)] [] (sv_sts (sv_sts (sv_sts (sv_sts (sv_sts (sv_sts (sv_up (sv_up (sv_up (sv_up S 1148 0 p1) 1149 0 (0 : Int)) 1150 0 (0 : Int)) 1147 0 (0 : Int)) [68, 69, 70, 81, 82, 83, 84, 85, 86, 74, 78, 79, 80, 76, 77, 1100031] g10) [68, 69, 70, 81, 82, 83, 84, 85, 86, 76, 77] g383) [68, 69, 70] g412) [68, 69, 70] g420) [68, 69, 70, 74] g427) [69, 70] g435)
        have md439 : sv_mod [68, 69, 70, 81, 82, 83, 84, 85, 86, 71, 74, 75, 1127, 78, 79, 80, 72, 76, 77, 1143, 1144, 5, 1011, 1150, 1149, 1145, 1113, 1111, 1112, 91, 1147, 1100031, 1148, 73] S (sv_sts (sv_sts (sv_sts (sv_sts (sv_sts (sv_sts (sv_up (sv_up (sv_up (sv_up S 1148 0 p1) 1149 0 (0 : Int)) 1150 0 (0 : Int)) 1147 0 (0 : Int)) [68, 69, 70, 81, 82, 83, 84, 85, 86, 74, 78, 79, 80, 76, 77, 1100031] g10) [68, 69, 70, 81, 82, 83, 84, 85, 86, 76, 77] g383) [68, 69, 70] g412) [68, 69, 70] g420) [68, 69, 70, 74] g427) [69, 70] g435) := sv_mod.sts md432 (by decide)
        have md440 : sv_mod [68, 69, 70, 81, 82, 83, 84, 85, 86, 71, 74, 75, 1127, 78, 79, 80, 72, 76, 77, 1143, 1144, 5, 1011, 1150, 1149, 1145, 1113, 1111, 1112, 91, 1147, 1100031] (sv_sts (sv_up (sv_up (sv_up (sv_up S 1148 0 p1) 1149 0 (0 : Int)) 1150 0 (0 : Int)) 1147 0 (0 : Int)) [68, 69, 70, 81, 82, 83, 84, 85, 86, 74, 78, 79, 80, 76, 77, 1100031] g10) (sv_sts (sv_sts (sv_sts (sv_sts (sv_sts (sv_sts (sv_up (sv_up (sv_up (sv_up S 1148 0 p1) 1149 0 (0 : Int)) 1150 0 (0 : Int)) 1147 0 (0 : Int)) [68, 69, 70, 81, 82, 83, 84, 85, 86, 74, 78, 79, 80, 76, 77, 1100031] g10) [68, 69, 70, 81, 82, 83, 84, 85, 86, 76, 77] g383) [68, 69, 70] g412) [68, 69, 70] g420) [68, 69, 70, 74] g427) [69, 70] g435) := sv_mod.sts md433 (by decide)
        have h := h g435 hpo438
        refine sv_aload_n hM dX12_ways_459 rfl rfl ?_
        obtain ⟨o441, h⟩ := h
        refine sv_callV hM dX12_ways_460 sm_iv_1222 (by decide) (sm_a0 _) rfl rfl (Nat.le_of_ble_eq_true rfl) sm_h258 (Nat.le_of_ble_eq_true rfl) (Nat.le_of_ble_eq_true rfl) (F' := 4) (Nat.le_of_ble_eq_true rfl) rfl (t_on  (sv_sts (sv_sts (sv_sts (sv_sts (sv_sts (sv_sts (sv_up (sv_up (sv_up (sv_up S 1148 0 p1) 1149 0 (0 : Int)) 1150 0 (0 : Int)) 1147 0 (0 : Int)) [68, 69, 70, 81, 82, 83, 84, 85, 86, 74, 78, 79, 80, 76, 77, 1100031] g10) [68, 69, 70, 81, 82, 83, 84, 85, 86, 76, 77] g383) [68, 69, 70] g412) [68, 69, 70] g420) [68, 69, 70, 74] g427) [69, 70] g435) ok436 o441) (fun v S1 hq => ?_)
        obtain ⟨rfl, ok443, md444, hpo445⟩ := hq
        obtain ⟨g442, rfl⟩ : ∃ g, S1 = sv_sts (sv_sts (sv_sts (sv_sts (sv_sts (sv_sts (sv_sts (sv_up (sv_up (sv_up (sv_up S 1148 0 p1) 1149 0 (0 : Int)) 1150 0 (0 : Int)) 1147 0 (0 : Int)) [68, 69, 70, 81, 82, 83, 84, 85, 86, 74, 78, 79, 80, 76, 77, 1100031] g10) [68, 69, 70, 81, 82, 83, 84, 85, 86, 76, 77] g383) [68, 69, 70] g412) [68, 69, 70] g420) [68, 69, 70, 74] g427) [69, 70] g435) [68, 69, 70, 81, 82, 83, 84, 85, 86, 71, 74, 75, 1127, 78, 79, 80, 72, 76, 77, 1150] g := ⟨_, md444.eq⟩
        show sv_T sm_XS sm_cs sm_L sm_sh 23 (q_ways p1 S) 265 463 [(0, .ref 0), (1, sv_I p1), (2, sv_I (S 27 p1)), (3, sv_I (S 28 p1)), (4, sv_I (647740 : Int)), (5, sv_I r315)] [] (sv_sts (sv_sts (sv_sts (sv_sts (sv_sts (sv_sts (sv_sts (sv_up (sv_up (sv_up (sv_up S 1148 0 p1) 1149 0 (0 : Int)) 1150 0 (0 : Int)) 1147 0 (0 : Int)) [68, 69, 70, 81, 82, 83, 84, 85, 86, 74, 78, 79, 80, 76, 77, 1100031] g10) [68, 69, 70, 81, 82, 83, 84, 85, 86, 76, 77] g383) [68, 69, 70] g412) [68, 69, 70] g420) [68, 69, 70, 74] g427) [69, 70] g435) [68, 69, 70, 81, 82, 83, 84, 85, 86, 71, 74, 75, 1127, 78, 79, 80, 72, 76, 77, 1150] g442)
        have md446 : sv_mod [68, 69, 70, 81, 82, 83, 84, 85, 86, 71, 74, 75, 1127, 78, 79, 80, 72, 76, 77, 1143, 1144, 5, 1011, 1150, 1149, 1145, 1113, 1111, 1112, 91, 1147, 1100031, 1148, 73] S (sv_sts (sv_sts (sv_sts (sv_sts (sv_sts (sv_sts (sv_sts (sv_up (sv_up (sv_up (sv_up S 1148 0 p1) 1149 0 (0 : Int)) 1150 0 (0 : Int)) 1147 0 (0 : Int)) [68, 69, 70, 81, 82, 83, 84, 85, 86, 74, 78, 79, 80, 76, 77, 1100031] g10) [68, 69, 70, 81, 82, 83, 84, 85, 86, 76, 77] g383) [68, 69, 70] g412) [68, 69, 70] g420) [68, 69, 70, 74] g427) [69, 70] g435) [68, 69, 70, 81, 82, 83, 84, 85, 86, 71, 74, 75, 1127, 78, 79, 80, 72, 76, 77, 1150] g442) := sv_mod.sts md439 (by decide)
        have md447 : sv_mod [68, 69, 70, 81, 82, 83, 84, 85, 86, 71, 74, 75, 1127, 78, 79, 80, 72, 76, 77, 1143, 1144, 5, 1011, 1150, 1149, 1145, 1113, 1111, 1112, 91, 1147, 1100031] (sv_sts (sv_up (sv_up (sv_up (sv_up S 1148 0 p1) 1149 0 (0 : Int)) 1150 0 (0 : Int)) 1147 0 (0 : Int)) [68, 69, 70, 81, 82, 83, 84, 85, 86, 74, 78, 79, 80, 76, 77, 1100031] g10) (sv_sts (sv_sts (sv_sts (sv_sts (sv_sts (sv_sts (sv_sts (sv_up (sv_up (sv_up (sv_up S 1148 0 p1) 1149 0 (0 : Int)) 1150 0 (0 : Int)) 1147 0 (0 : Int)) [68, 69, 70, 81, 82, 83, 84, 85, 86, 74, 78, 79, 80, 76, 77, 1100031] g10) [68, 69, 70, 81, 82, 83, 84, 85, 86, 76, 77] g383) [68, 69, 70] g412) [68, 69, 70] g420) [68, 69, 70, 74] g427) [69, 70] g435) [68, 69, 70, 81, 82, 83, 84, 85, 86, 71, 74, 75, 1127, 78, 79, 80, 72, 76, 77, 1150] g442) := sv_mod.sts md440 (by decide)
        have h := h g442 hpo445
        refine sv_goto hM dX12_ways_463 (pc' := 665) rfl ?_
        have eS := sv_mod.eq md447
        have hb := J63 (sv_sts (sv_sts (sv_sts (sv_sts (sv_sts (sv_sts (sv_sts (sv_up (sv_up (sv_up (sv_up S 1148 0 p1) 1149 0 (0 : Int)) 1150 0 (0 : Int)) 1147 0 (0 : Int)) [68, 69, 70, 81, 82, 83, 84, 85, 86, 74, 78, 79, 80, 76, 77, 1100031] g10) [68, 69, 70, 81, 82, 83, 84, 85, 86, 76, 77] g383) [68, 69, 70] g412) [68, 69, 70] g420) [68, 69, 70, 74] g427) [69, 70] g435) [68, 69, 70, 81, 82, 83, 84, 85, 86, 71, 74, 75, 1127, 78, 79, 80, 72, 76, 77, 1150] g442) (by rw [← eS]; exact ok443) h
        have hb : sv_T sm_XS sm_cs sm_L sm_sh 23 (q_ways p1 S) 265 665 [(0, .ref 0), (1, sv_I p1), (2, sv_I (S 27 p1)), (3, sv_I (S 28 p1)), (4, sv_I (647740 : Int))] [] (sv_sts (sv_sts (sv_sts (sv_sts (sv_sts (sv_sts (sv_sts (sv_up (sv_up (sv_up (sv_up S 1148 0 p1) 1149 0 (0 : Int)) 1150 0 (0 : Int)) 1147 0 (0 : Int)) [68, 69, 70, 81, 82, 83, 84, 85, 86, 74, 78, 79, 80, 76, 77, 1100031] g10) [68, 69, 70, 81, 82, 83, 84, 85, 86, 76, 77] g383) [68, 69, 70] g412) [68, 69, 70] g420) [68, 69, 70, 74] g427) [69, 70] g435) [68, 69, 70, 81, 82, 83, 84, 85, 86, 71, 74, 75, 1127, 78, 79, 80, 72, 76, 77, 1150] g442) := Eq.mpr (congrArg (fun Z => sv_T sm_XS sm_cs sm_L sm_sh 23 (q_ways p1 S) 265 665 [(0, .ref 0), (1, sv_I p1), (2, sv_I (S 27 p1)), (3, sv_I (S 28 p1)), (4, sv_I (647740 : Int))] [] Z) eS) hb
        exact sv_less (lv := [(0, .ref 0), (1, sv_I p1), (2, sv_I (S 27 p1)), (3, sv_I (S 28 p1)), (4, sv_I (647740 : Int))]) (sv_Sub_cons rfl (sv_Sub_cons rfl (sv_Sub_cons rfl (sv_Sub_cons rfl (sv_Sub_cons rfl sv_Sub_nil))))) hb
  have J8 : ((S 26 p1) = (9 : Int)) → sv_T sm_XS sm_cs sm_L sm_sh 23 (q_ways p1 S) 265 466 [(0, .ref 0), (1, sv_I p1), (2, sv_I (S 27 p1)), (3, sv_I (S 28 p1)), (4, sv_I (647740 : Int))] [] (sv_sts (sv_up (sv_up (sv_up (sv_up S 1148 0 p1) 1149 0 (0 : Int)) 1150 0 (0 : Int)) 1147 0 (0 : Int)) [68, 69, 70, 81, 82, 83, 84, 85, 86, 74, 78, 79, 80, 76, 77, 1100031] g10) := by
    intro hc
    have h := hS.2.2.2.2.2.2.2.2.1 hc
    refine sv_bipush (d := (29 : Int)) hM dX12_ways_466 rfl rfl ?_
    refine sv_bipush (d := (6 : Int)) hM dX12_ways_468 rfl rfl ?_
    refine sv_iload_n hM dX12_ways_470 rfl rfl ?_
    refine sv_iconst (d := (1 : Int)) hM dX12_ways_471 rfl rfl ?_
    refine sv_isub hM dX12_ways_472 rfl ?_
    refine sv_imul hM dX12_ways_473 rfl ?_
    refine sv_iadd hM dX12_ways_474 rfl ?_
    refine sv_iconst (d := (2 : Int)) hM dX12_ways_475 rfl rfl ?_
    refine sv_iadd hM dX12_ways_476 rfl ?_
    obtain ⟨x448, e449⟩ : ∃ x : Int, (((29 : Int) + ((6 : Int) * ((S 27 p1) - (1 : Int)))) + (2 : Int)) = x := ⟨_, rfl⟩
    have h := h x448 e449
    refine sv_nameI e449 ?_
    refine sv_istore hM dX12_ways_477 (by decide) rfl ?_
    show sv_T sm_XS sm_cs sm_L sm_sh 23 (q_ways p1 S) 265 479 [(0, .ref 0), (1, sv_I p1), (2, sv_I (S 27 p1)), (3, sv_I (S 28 p1)), (4, sv_I (647740 : Int)), (5, sv_I x448)] [] (sv_sts (sv_up (sv_up (sv_up (sv_up S 1148 0 p1) 1149 0 (0 : Int)) 1150 0 (0 : Int)) 1147 0 (0 : Int)) [68, 69, 70, 81, 82, 83, 84, 85, 86, 74, 78, 79, 80, 76, 77, 1100031] g10)
    refine sv_aload_n hM dX12_ways_479 rfl rfl ?_
    refine sv_iload hM dX12_ways_480 rfl rfl ?_
    refine sv_iconst (d := (2 : Int)) hM dX12_ways_482 rfl rfl ?_
    obtain ⟨o450, h⟩ := h
    obtain ⟨o451, h⟩ := h
    refine sv_callV hM dX12_ways_483 sm_iv_1241 (by decide) (sm_a0 _) rfl rfl (Nat.le_of_ble_eq_true rfl) sm_h256 (Nat.le_of_ble_eq_true rfl) (Nat.le_of_ble_eq_true rfl) (F' := 3) (Nat.le_of_ble_eq_true rfl) rfl (t_make x448 (2 : Int) (sv_sts (sv_up (sv_up (sv_up (sv_up S 1148 0 p1) 1149 0 (0 : Int)) 1150 0 (0 : Int)) 1147 0 (0 : Int)) [68, 69, 70, 81, 82, 83, 84, 85, 86, 74, 78, 79, 80, 76, 77, 1100031] g10) ok11 o450 (⟨by decide, by decide⟩ : sv_R (2 : Int)) o451) (fun v S1 hq => ?_)
    obtain ⟨rfl, ok453, md454, hpo455⟩ := hq
    obtain ⟨g452, rfl⟩ : ∃ g, S1 = sv_sts (sv_sts (sv_up (sv_up (sv_up (sv_up S 1148 0 p1) 1149 0 (0 : Int)) 1150 0 (0 : Int)) 1147 0 (0 : Int)) [68, 69, 70, 81, 82, 83, 84, 85, 86, 74, 78, 79, 80, 76, 77, 1100031] g10) [68, 69, 70, 81, 82, 83, 84, 85, 86, 76, 77] g := ⟨_, md454.eq⟩
    show sv_T sm_XS sm_cs sm_L sm_sh 23 (q_ways p1 S) 265 486 [(0, .ref 0), (1, sv_I p1), (2, sv_I (S 27 p1)), (3, sv_I (S 28 p1)), (4, sv_I (647740 : Int)), (5, sv_I x448)] [] (sv_sts (sv_sts (sv_up (sv_up (sv_up (sv_up S 1148 0 p1) 1149 0 (0 : Int)) 1150 0 (0 : Int)) 1147 0 (0 : Int)) [68, 69, 70, 81, 82, 83, 84, 85, 86, 74, 78, 79, 80, 76, 77, 1100031] g10) [68, 69, 70, 81, 82, 83, 84, 85, 86, 76, 77] g452)
    have md456 : sv_mod [68, 69, 70, 81, 82, 83, 84, 85, 86, 71, 74, 75, 1127, 78, 79, 80, 72, 76, 77, 1143, 1144, 5, 1011, 1150, 1149, 1145, 1113, 1111, 1112, 91, 1147, 1100031, 1148, 73] S (sv_sts (sv_sts (sv_up (sv_up (sv_up (sv_up S 1148 0 p1) 1149 0 (0 : Int)) 1150 0 (0 : Int)) 1147 0 (0 : Int)) [68, 69, 70, 81, 82, 83, 84, 85, 86, 74, 78, 79, 80, 76, 77, 1100031] g10) [68, 69, 70, 81, 82, 83, 84, 85, 86, 76, 77] g452) := sv_mod.sts md14 (by decide)
    have md457 : sv_mod [68, 69, 70, 81, 82, 83, 84, 85, 86, 71, 74, 75, 1127, 78, 79, 80, 72, 76, 77, 1143, 1144, 5, 1011, 1150, 1149, 1145, 1113, 1111, 1112, 91, 1147, 1100031] (sv_sts (sv_up (sv_up (sv_up (sv_up S 1148 0 p1) 1149 0 (0 : Int)) 1150 0 (0 : Int)) 1147 0 (0 : Int)) [68, 69, 70, 81, 82, 83, 84, 85, 86, 74, 78, 79, 80, 76, 77, 1100031] g10) (sv_sts (sv_sts (sv_up (sv_up (sv_up (sv_up S 1148 0 p1) 1149 0 (0 : Int)) 1150 0 (0 : Int)) 1147 0 (0 : Int)) [68, 69, 70, 81, 82, 83, 84, 85, 86, 74, 78, 79, 80, 76, 77, 1100031] g10) [68, 69, 70, 81, 82, 83, 84, 85, 86, 76, 77] g452) := sv_mod.sts (sv_mod.rf (l := [68, 69, 70, 81, 82, 83, 84, 85, 86, 71, 74, 75, 1127, 78, 79, 80, 72, 76, 77, 1143, 1144, 5, 1011, 1150, 1149, 1145, 1113, 1111, 1112, 91, 1147, 1100031]) (S := (sv_sts (sv_up (sv_up (sv_up (sv_up S 1148 0 p1) 1149 0 (0 : Int)) 1150 0 (0 : Int)) 1147 0 (0 : Int)) [68, 69, 70, 81, 82, 83, 84, 85, 86, 74, 78, 79, 80, 76, 77, 1100031] g10))) (by decide)
    have h := h g452 hpo455
    refine sv_aload_n hM dX12_ways_486 rfl rfl ?_
    refine sv_iload hM dX12_ways_487 rfl rfl ?_
    refine sv_iconst (d := (2 : Int)) hM dX12_ways_489 rfl rfl ?_
    refine sv_iadd hM dX12_ways_490 rfl ?_
    refine sv_iconst (d := (1 : Int)) hM dX12_ways_491 rfl rfl ?_
    obtain ⟨o458, h⟩ := h
    obtain ⟨o459, h⟩ := h
    refine sv_callV hM dX12_ways_492 sm_iv_1241 (by decide) (sm_a0 _) rfl rfl (Nat.le_of_ble_eq_true rfl) sm_h256 (Nat.le_of_ble_eq_true rfl) (Nat.le_of_ble_eq_true rfl) (F' := 3) (Nat.le_of_ble_eq_true rfl) rfl (t_make (x448 + (2 : Int)) (1 : Int) (sv_sts (sv_sts (sv_up (sv_up (sv_up (sv_up S 1148 0 p1) 1149 0 (0 : Int)) 1150 0 (0 : Int)) 1147 0 (0 : Int)) [68, 69, 70, 81, 82, 83, 84, 85, 86, 74, 78, 79, 80, 76, 77, 1100031] g10) [68, 69, 70, 81, 82, 83, 84, 85, 86, 76, 77] g452) ok453 o458 (⟨by decide, by decide⟩ : sv_R (1 : Int)) o459) (fun v S1 hq => ?_)
    obtain ⟨rfl, ok461, md462, hpo463⟩ := hq
    obtain ⟨g460, rfl⟩ : ∃ g, S1 = sv_sts (sv_sts (sv_sts (sv_up (sv_up (sv_up (sv_up S 1148 0 p1) 1149 0 (0 : Int)) 1150 0 (0 : Int)) 1147 0 (0 : Int)) [68, 69, 70, 81, 82, 83, 84, 85, 86, 74, 78, 79, 80, 76, 77, 1100031] g10) [68, 69, 70, 81, 82, 83, 84, 85, 86, 76, 77] g452) [68, 69, 70, 81, 82, 83, 84, 85, 86, 76, 77] g := ⟨_, md462.eq⟩
    show sv_T sm_XS sm_cs sm_L sm_sh 23 (q_ways p1 S) 265 495 [(0, .ref 0), (1, sv_I p1), (2, sv_I (S 27 p1)), (3, sv_I (S 28 p1)), (4, sv_I (647740 : Int)), (5, sv_I x448)] [] (sv_sts (sv_sts (sv_sts (sv_up (sv_up (sv_up (sv_up S 1148 0 p1) 1149 0 (0 : Int)) 1150 0 (0 : Int)) 1147 0 (0 : Int)) [68, 69, 70, 81, 82, 83, 84, 85, 86, 74, 78, 79, 80, 76, 77, 1100031] g10) [68, 69, 70, 81, 82, 83, 84, 85, 86, 76, 77] g452) [68, 69, 70, 81, 82, 83, 84, 85, 86, 76, 77] g460)
    have md464 : sv_mod [68, 69, 70, 81, 82, 83, 84, 85, 86, 71, 74, 75, 1127, 78, 79, 80, 72, 76, 77, 1143, 1144, 5, 1011, 1150, 1149, 1145, 1113, 1111, 1112, 91, 1147, 1100031, 1148, 73] S (sv_sts (sv_sts (sv_sts (sv_up (sv_up (sv_up (sv_up S 1148 0 p1) 1149 0 (0 : Int)) 1150 0 (0 : Int)) 1147 0 (0 : Int)) [68, 69, 70, 81, 82, 83, 84, 85, 86, 74, 78, 79, 80, 76, 77, 1100031] g10) [68, 69, 70, 81, 82, 83, 84, 85, 86, 76, 77] g452) [68, 69, 70, 81, 82, 83, 84, 85, 86, 76, 77] g460) := sv_mod.sts md456 (by decide)
    have md465 : sv_mod [68, 69, 70, 81, 82, 83, 84, 85, 86, 71, 74, 75, 1127, 78, 79, 80, 72, 76, 77, 1143, 1144, 5, 1011, 1150, 1149, 1145, 1113, 1111, 1112, 91, 1147, 1100031] (sv_sts (sv_up (sv_up (sv_up (sv_up S 1148 0 p1) 1149 0 (0 : Int)) 1150 0 (0 : Int)) 1147 0 (0 : Int)) [68, 69, 70, 81, 82, 83, 84, 85, 86, 74, 78, 79, 80, 76, 77, 1100031] g10) (sv_sts (sv_sts (sv_sts (sv_up (sv_up (sv_up (sv_up S 1148 0 p1) 1149 0 (0 : Int)) 1150 0 (0 : Int)) 1147 0 (0 : Int)) [68, 69, 70, 81, 82, 83, 84, 85, 86, 74, 78, 79, 80, 76, 77, 1100031] g10) [68, 69, 70, 81, 82, 83, 84, 85, 86, 76, 77] g452) [68, 69, 70, 81, 82, 83, 84, 85, 86, 76, 77] g460) := sv_mod.sts md457 (by decide)
    have h := h g460 hpo463
    refine sv_aload_n hM dX12_ways_495 rfl rfl ?_
    refine sv_getA hM dX12_ways_496 sm_fl_268 (sm_a0 _) sm_k137 rfl ?_
    refine sv_aload_n hM dX12_ways_499 rfl rfl ?_
    refine sv_sipush (d := (639 : Int)) hM dX12_ways_500 rfl rfl ?_
    refine sv_iload hM dX12_ways_503 rfl rfl ?_
    obtain ⟨o466, h⟩ := h
    refine sv_callV hM dX12_ways_505 sm_iv_1101 (by decide) (sm_a0 _) rfl rfl (Nat.le_of_ble_eq_true rfl) sm_h226 (Nat.le_of_ble_eq_true rfl) (Nat.le_of_ble_eq_true rfl) (F' := 1) (Nat.le_of_ble_eq_true rfl) rfl (t_of (639 : Int) x448 (sv_sts (sv_sts (sv_sts (sv_up (sv_up (sv_up (sv_up S 1148 0 p1) 1149 0 (0 : Int)) 1150 0 (0 : Int)) 1147 0 (0 : Int)) [68, 69, 70, 81, 82, 83, 84, 85, 86, 74, 78, 79, 80, 76, 77, 1100031] g10) [68, 69, 70, 81, 82, 83, 84, 85, 86, 76, 77] g452) [68, 69, 70, 81, 82, 83, 84, 85, 86, 76, 77] g460) ok461 (⟨by decide, by decide⟩ : sv_R (639 : Int)) o450 o466) (fun v S1 hq => ?_)
    obtain ⟨r471, rfl, hr471, ok468, md469, hpo470⟩ := hq
    obtain rfl : (sv_sts (sv_sts (sv_sts (sv_up (sv_up (sv_up (sv_up S 1148 0 p1) 1149 0 (0 : Int)) 1150 0 (0 : Int)) 1147 0 (0 : Int)) [68, 69, 70, 81, 82, 83, 84, 85, 86, 74, 78, 79, 80, 76, 77, 1100031] g10) [68, 69, 70, 81, 82, 83, 84, 85, 86, 76, 77] g452) [68, 69, 70, 81, 82, 83, 84, 85, 86, 76, 77] g460) = S1 := (funext fun j => md469 j (by intro q; cases q)).symm
    show sv_T sm_XS sm_cs sm_L sm_sh 23 (q_ways p1 S) 265 508 [(0, .ref 0), (1, sv_I p1), (2, sv_I (S 27 p1)), (3, sv_I (S 28 p1)), (4, sv_I (647740 : Int)), (5, sv_I x448)] [sv_I r471, .ref 85] (sv_sts (sv_sts (sv_sts (sv_up (sv_up (sv_up (sv_up S 1148 0 p1) 1149 0 (0 : Int)) 1150 0 (0 : Int)) 1147 0 (0 : Int)) [68, 69, 70, 81, 82, 83, 84, 85, 86, 74, 78, 79, 80, 76, 77, 1100031] g10) [68, 69, 70, 81, 82, 83, 84, 85, 86, 76, 77] g452) [68, 69, 70, 81, 82, 83, 84, 85, 86, 76, 77] g460)
    have h := h r471 hr471 hpo470
    refine sv_aload_n hM dX12_ways_508 rfl rfl ?_
    refine sv_getA hM dX12_ways_509 sm_fl_241 (sm_a0 _) sm_k128 rfl ?_
    refine sv_sipush (d := (639 : Int)) hM dX12_ways_512 rfl rfl ?_
    obtain ⟨o472, h⟩ := h
    have k473 : sv_RL (g460 76 (639 : Int)) := sm_okJ ok468 sm_r76 (639 : Int)
    have h := h k473
    refine sv_lald hM dX12_ways_515 (sm_a76 _) (by decide) o472.1 o472.2 rfl (x := (g460 76 (639 : Int))) rfl ?_
    obtain ⟨o474, h⟩ := h
    refine sv_last sm_X hM dX12_ways_516 (sm_a85 _) (by decide) o474.1 o474.2 rfl ?_
    have ok475 : sm_ok (sv_up (sv_sts (sv_sts (sv_sts (sv_up (sv_up (sv_up (sv_up S 1148 0 p1) 1149 0 (0 : Int)) 1150 0 (0 : Int)) 1147 0 (0 : Int)) [68, 69, 70, 81, 82, 83, 84, 85, 86, 74, 78, 79, 80, 76, 77, 1100031] g10) [68, 69, 70, 81, 82, 83, 84, 85, 86, 76, 77] g452) [68, 69, 70, 81, 82, 83, 84, 85, 86, 76, 77] g460) 85 r471 (g460 76 (639 : Int))) := sm_upJ ok468 sm_r85 k473
    have md476 : sv_mod [68, 69, 70, 81, 82, 83, 84, 85, 86, 71, 74, 75, 1127, 78, 79, 80, 72, 76, 77, 1143, 1144, 5, 1011, 1150, 1149, 1145, 1113, 1111, 1112, 91, 1147, 1100031, 1148, 73] S (sv_up (sv_sts (sv_sts (sv_sts (sv_up (sv_up (sv_up (sv_up S 1148 0 p1) 1149 0 (0 : Int)) 1150 0 (0 : Int)) 1147 0 (0 : Int)) [68, 69, 70, 81, 82, 83, 84, 85, 86, 74, 78, 79, 80, 76, 77, 1100031] g10) [68, 69, 70, 81, 82, 83, 84, 85, 86, 76, 77] g452) [68, 69, 70, 81, 82, 83, 84, 85, 86, 76, 77] g460) 85 r471 (g460 76 (639 : Int))) := sv_mod.up md464 (by decide)
    have md477 : sv_mod [68, 69, 70, 81, 82, 83, 84, 85, 86, 71, 74, 75, 1127, 78, 79, 80, 72, 76, 77, 1143, 1144, 5, 1011, 1150, 1149, 1145, 1113, 1111, 1112, 91, 1147, 1100031] (sv_sts (sv_up (sv_up (sv_up (sv_up S 1148 0 p1) 1149 0 (0 : Int)) 1150 0 (0 : Int)) 1147 0 (0 : Int)) [68, 69, 70, 81, 82, 83, 84, 85, 86, 74, 78, 79, 80, 76, 77, 1100031] g10) (sv_up (sv_sts (sv_sts (sv_sts (sv_up (sv_up (sv_up (sv_up S 1148 0 p1) 1149 0 (0 : Int)) 1150 0 (0 : Int)) 1147 0 (0 : Int)) [68, 69, 70, 81, 82, 83, 84, 85, 86, 74, 78, 79, 80, 76, 77, 1100031] g10) [68, 69, 70, 81, 82, 83, 84, 85, 86, 76, 77] g452) [68, 69, 70, 81, 82, 83, 84, 85, 86, 76, 77] g460) 85 r471 (g460 76 (639 : Int))) := sv_mod.up md465 (by decide)
    refine sv_aload_n hM dX12_ways_517 rfl rfl ?_
    refine sv_getA hM dX12_ways_518 sm_fl_271 (sm_a0 _) sm_k138 rfl ?_
    refine sv_aload_n hM dX12_ways_521 rfl rfl ?_
    refine sv_sipush (d := (639 : Int)) hM dX12_ways_522 rfl rfl ?_
    refine sv_iload hM dX12_ways_525 rfl rfl ?_
    refine sv_callV hM dX12_ways_527 sm_iv_1101 (by decide) (sm_a0 _) rfl rfl (Nat.le_of_ble_eq_true rfl) sm_h226 (Nat.le_of_ble_eq_true rfl) (Nat.le_of_ble_eq_true rfl) (F' := 1) (Nat.le_of_ble_eq_true rfl) rfl (t_of (639 : Int) x448 (sv_up (sv_sts (sv_sts (sv_sts (sv_up (sv_up (sv_up (sv_up S 1148 0 p1) 1149 0 (0 : Int)) 1150 0 (0 : Int)) 1147 0 (0 : Int)) [68, 69, 70, 81, 82, 83, 84, 85, 86, 74, 78, 79, 80, 76, 77, 1100031] g10) [68, 69, 70, 81, 82, 83, 84, 85, 86, 76, 77] g452) [68, 69, 70, 81, 82, 83, 84, 85, 86, 76, 77] g460) 85 r471 (g460 76 (639 : Int))) ok475 (⟨by decide, by decide⟩ : sv_R (639 : Int)) o450 o466) (fun v S1 hq => ?_)
    obtain ⟨r482, rfl, hr482, ok479, md480, hpo481⟩ := hq
    obtain rfl : (sv_up (sv_sts (sv_sts (sv_sts (sv_up (sv_up (sv_up (sv_up S 1148 0 p1) 1149 0 (0 : Int)) 1150 0 (0 : Int)) 1147 0 (0 : Int)) [68, 69, 70, 81, 82, 83, 84, 85, 86, 74, 78, 79, 80, 76, 77, 1100031] g10) [68, 69, 70, 81, 82, 83, 84, 85, 86, 76, 77] g452) [68, 69, 70, 81, 82, 83, 84, 85, 86, 76, 77] g460) 85 r471 (g460 76 (639 : Int))) = S1 := (funext fun j => md480 j (by intro q; cases q)).symm
    show sv_T sm_XS sm_cs sm_L sm_sh 23 (q_ways p1 S) 265 530 [(0, .ref 0), (1, sv_I p1), (2, sv_I (S 27 p1)), (3, sv_I (S 28 p1)), (4, sv_I (647740 : Int)), (5, sv_I x448)] [sv_I r482, .ref 86] (sv_up (sv_sts (sv_sts (sv_sts (sv_up (sv_up (sv_up (sv_up S 1148 0 p1) 1149 0 (0 : Int)) 1150 0 (0 : Int)) 1147 0 (0 : Int)) [68, 69, 70, 81, 82, 83, 84, 85, 86, 74, 78, 79, 80, 76, 77, 1100031] g10) [68, 69, 70, 81, 82, 83, 84, 85, 86, 76, 77] g452) [68, 69, 70, 81, 82, 83, 84, 85, 86, 76, 77] g460) 85 r471 (g460 76 (639 : Int)))
    have h := h r482 hr482 hpo481
    refine sv_aload_n hM dX12_ways_530 rfl rfl ?_
    refine sv_getA hM dX12_ways_531 sm_fl_244 (sm_a0 _) sm_k129 rfl ?_
    refine sv_sipush (d := (639 : Int)) hM dX12_ways_534 rfl rfl ?_
    have k483 : sv_RL (g460 77 (639 : Int)) := sm_okJ ok479 sm_r77 (639 : Int)
    have h := h k483
    refine sv_lald hM dX12_ways_537 (sm_a77 _) (by decide) o472.1 o472.2 rfl (x := (g460 77 (639 : Int))) rfl ?_
    obtain ⟨o484, h⟩ := h
    refine sv_last sm_X hM dX12_ways_538 (sm_a86 _) (by decide) o484.1 o484.2 rfl ?_
    have ok485 : sm_ok (sv_up (sv_up (sv_sts (sv_sts (sv_sts (sv_up (sv_up (sv_up (sv_up S 1148 0 p1) 1149 0 (0 : Int)) 1150 0 (0 : Int)) 1147 0 (0 : Int)) [68, 69, 70, 81, 82, 83, 84, 85, 86, 74, 78, 79, 80, 76, 77, 1100031] g10) [68, 69, 70, 81, 82, 83, 84, 85, 86, 76, 77] g452) [68, 69, 70, 81, 82, 83, 84, 85, 86, 76, 77] g460) 85 r471 (g460 76 (639 : Int))) 86 r482 (g460 77 (639 : Int))) := sm_upJ ok479 sm_r86 k483
    have md486 : sv_mod [68, 69, 70, 81, 82, 83, 84, 85, 86, 71, 74, 75, 1127, 78, 79, 80, 72, 76, 77, 1143, 1144, 5, 1011, 1150, 1149, 1145, 1113, 1111, 1112, 91, 1147, 1100031, 1148, 73] S (sv_up (sv_up (sv_sts (sv_sts (sv_sts (sv_up (sv_up (sv_up (sv_up S 1148 0 p1) 1149 0 (0 : Int)) 1150 0 (0 : Int)) 1147 0 (0 : Int)) [68, 69, 70, 81, 82, 83, 84, 85, 86, 74, 78, 79, 80, 76, 77, 1100031] g10) [68, 69, 70, 81, 82, 83, 84, 85, 86, 76, 77] g452) [68, 69, 70, 81, 82, 83, 84, 85, 86, 76, 77] g460) 85 r471 (g460 76 (639 : Int))) 86 r482 (g460 77 (639 : Int))) := sv_mod.up md476 (by decide)
    have md487 : sv_mod [68, 69, 70, 81, 82, 83, 84, 85, 86, 71, 74, 75, 1127, 78, 79, 80, 72, 76, 77, 1143, 1144, 5, 1011, 1150, 1149, 1145, 1113, 1111, 1112, 91, 1147, 1100031] (sv_sts (sv_up (sv_up (sv_up (sv_up S 1148 0 p1) 1149 0 (0 : Int)) 1150 0 (0 : Int)) 1147 0 (0 : Int)) [68, 69, 70, 81, 82, 83, 84, 85, 86, 74, 78, 79, 80, 76, 77, 1100031] g10) (sv_up (sv_up (sv_sts (sv_sts (sv_sts (sv_up (sv_up (sv_up (sv_up S 1148 0 p1) 1149 0 (0 : Int)) 1150 0 (0 : Int)) 1147 0 (0 : Int)) [68, 69, 70, 81, 82, 83, 84, 85, 86, 74, 78, 79, 80, 76, 77, 1100031] g10) [68, 69, 70, 81, 82, 83, 84, 85, 86, 76, 77] g452) [68, 69, 70, 81, 82, 83, 84, 85, 86, 76, 77] g460) 85 r471 (g460 76 (639 : Int))) 86 r482 (g460 77 (639 : Int))) := sv_mod.up md477 (by decide)
    refine sv_aload_n hM dX12_ways_539 rfl rfl ?_
    refine sv_aload_n hM dX12_ways_540 rfl rfl ?_
    refine sv_iload hM dX12_ways_541 rfl rfl ?_
    refine sv_iconst (d := (1 : Int)) hM dX12_ways_543 rfl rfl ?_
    obtain ⟨o488, h⟩ := h
    refine sv_callV hM dX12_ways_544 sm_iv_1244 (by decide) (sm_a0 _) rfl rfl (Nat.le_of_ble_eq_true rfl) sm_h253 (Nat.le_of_ble_eq_true rfl) (Nat.le_of_ble_eq_true rfl) (F' := 2) (Nat.le_of_ble_eq_true rfl) rfl (t_fresh_ x448 (1 : Int) (sv_up (sv_up (sv_sts (sv_sts (sv_sts (sv_up (sv_up (sv_up (sv_up S 1148 0 p1) 1149 0 (0 : Int)) 1150 0 (0 : Int)) 1147 0 (0 : Int)) [68, 69, 70, 81, 82, 83, 84, 85, 86, 74, 78, 79, 80, 76, 77, 1100031] g10) [68, 69, 70, 81, 82, 83, 84, 85, 86, 76, 77] g452) [68, 69, 70, 81, 82, 83, 84, 85, 86, 76, 77] g460) 85 r471 (g460 76 (639 : Int))) 86 r482 (g460 77 (639 : Int))) ok485 o450 (⟨by decide, by decide⟩ : sv_R (1 : Int)) o488) (fun v S1 hq => ?_)
    obtain ⟨r493, rfl, hr493, ok490, md491, hpo492⟩ := hq
    obtain ⟨g489, rfl⟩ : ∃ g, S1 = sv_sts (sv_up (sv_up (sv_sts (sv_sts (sv_sts (sv_up (sv_up (sv_up (sv_up S 1148 0 p1) 1149 0 (0 : Int)) 1150 0 (0 : Int)) 1147 0 (0 : Int)) [68, 69, 70, 81, 82, 83, 84, 85, 86, 74, 78, 79, 80, 76, 77, 1100031] g10) [68, 69, 70, 81, 82, 83, 84, 85, 86, 76, 77] g452) [68, 69, 70, 81, 82, 83, 84, 85, 86, 76, 77] g460) 85 r471 (g460 76 (639 : Int))) 86 r482 (g460 77 (639 : Int))) [68, 69, 70] g := ⟨_, md491.eq⟩
    show sv_T sm_XS sm_cs sm_L sm_sh 23 (q_ways p1 S) 265 547 [(0, .ref 0), (1, sv_I p1), (2, sv_I (S 27 p1)), (3, sv_I (S 28 p1)), (4, sv_I (647740 : Int)), (5, sv_I x448)] [sv_I r493, .ref 0] (sv_sts (sv_up (sv_up (sv_sts (sv_sts (sv_sts (sv_up (sv_up (sv_up (sv_up S 1148 0 p1) 1149 0 (0 : Int)) 1150 0 (0 : Int)) 1147 0 (0 : Int)) [68, 69, 70, 81, 82, 83, 84, 85, 86, 74, 78, 79, 80, 76, 77, 1100031] g10) [68, 69, 70, 81, 82, 83, 84, 85, 86, 76, 77] g452) [68, 69, 70, 81, 82, 83, 84, 85, 86, 76, 77] g460) 85 r471 (g460 76 (639 : Int))) 86 r482 (g460 77 (639 : Int))) [68, 69, 70] g489)
    have md494 : sv_mod [68, 69, 70, 81, 82, 83, 84, 85, 86, 71, 74, 75, 1127, 78, 79, 80, 72, 76, 77, 1143, 1144, 5, 1011, 1150, 1149, 1145, 1113, 1111, 1112, 91, 1147, 1100031, 1148, 73] S (sv_sts (sv_up (sv_up (sv_sts (sv_sts (sv_sts (sv_up (sv_up (sv_up (sv_up S 1148 0 p1) 1149 0 (0 : Int)) 1150 0 (0 : Int)) 1147 0 (0 : Int)) [68, 69, 70, 81, 82, 83, 84, 85, 86, 74, 78, 79, 80, 76, 77, 1100031] g10) [68, 69, 70, 81, 82, 83, 84, 85, 86, 76, 77] g452) [68, 69, 70, 81, 82, 83, 84, 85, 86, 76, 77] g460) 85 r471 (g460 76 (639 : Int))) 86 r482 (g460 77 (639 : Int))) [68, 69, 70] g489) := sv_mod.sts md486 (by decide)
    have md495 : sv_mod [68, 69, 70, 81, 82, 83, 84, 85, 86, 71, 74, 75, 1127, 78, 79, 80, 72, 76, 77, 1143, 1144, 5, 1011, 1150, 1149, 1145, 1113, 1111, 1112, 91, 1147, 1100031] (sv_sts (sv_up (sv_up (sv_up (sv_up S 1148 0 p1) 1149 0 (0 : Int)) 1150 0 (0 : Int)) 1147 0 (0 : Int)) [68, 69, 70, 81, 82, 83, 84, 85, 86, 74, 78, 79, 80, 76, 77, 1100031] g10) (sv_sts (sv_up (sv_up (sv_sts (sv_sts (sv_sts (sv_up (sv_up (sv_up (sv_up S 1148 0 p1) 1149 0 (0 : Int)) 1150 0 (0 : Int)) 1147 0 (0 : Int)) [68, 69, 70, 81, 82, 83, 84, 85, 86, 74, 78, 79, 80, 76, 77, 1100031] g10) [68, 69, 70, 81, 82, 83, 84, 85, 86, 76, 77] g452) [68, 69, 70, 81, 82, 83, 84, 85, 86, 76, 77] g460) 85 r471 (g460 76 (639 : Int))) 86 r482 (g460 77 (639 : Int))) [68, 69, 70] g489) := sv_mod.sts md487 (by decide)
    have h := h r493 hr493 g489 hpo492
    refine sv_iload hM dX12_ways_547 rfl rfl ?_
    refine sv_iconst (d := (2 : Int)) hM dX12_ways_549 rfl rfl ?_
    refine sv_iadd hM dX12_ways_550 rfl ?_
    obtain ⟨o496, h⟩ := h
    refine sv_callV hM dX12_ways_551 sm_iv_1081 (by decide) (sm_a0 _) rfl rfl (Nat.le_of_ble_eq_true rfl) sm_h216 (Nat.le_of_ble_eq_true rfl) (Nat.le_of_ble_eq_true rfl) (F' := 0) (Nat.le_of_ble_eq_true rfl) rfl (t_addLabel r493 (x448 + (2 : Int)) (sv_sts (sv_up (sv_up (sv_sts (sv_sts (sv_sts (sv_up (sv_up (sv_up (sv_up S 1148 0 p1) 1149 0 (0 : Int)) 1150 0 (0 : Int)) 1147 0 (0 : Int)) [68, 69, 70, 81, 82, 83, 84, 85, 86, 74, 78, 79, 80, 76, 77, 1100031] g10) [68, 69, 70, 81, 82, 83, 84, 85, 86, 76, 77] g452) [68, 69, 70, 81, 82, 83, 84, 85, 86, 76, 77] g460) 85 r471 (g460 76 (639 : Int))) 86 r482 (g460 77 (639 : Int))) [68, 69, 70] g489) ok490 hr493 o458 o496) (fun v S1 hq => ?_)
    obtain ⟨rfl, ok498, md499, hpo500⟩ := hq
    obtain ⟨g497, rfl⟩ : ∃ g, S1 = sv_sts (sv_sts (sv_up (sv_up (sv_sts (sv_sts (sv_sts (sv_up (sv_up (sv_up (sv_up S 1148 0 p1) 1149 0 (0 : Int)) 1150 0 (0 : Int)) 1147 0 (0 : Int)) [68, 69, 70, 81, 82, 83, 84, 85, 86, 74, 78, 79, 80, 76, 77, 1100031] g10) [68, 69, 70, 81, 82, 83, 84, 85, 86, 76, 77] g452) [68, 69, 70, 81, 82, 83, 84, 85, 86, 76, 77] g460) 85 r471 (g460 76 (639 : Int))) 86 r482 (g460 77 (639 : Int))) [68, 69, 70] g489) [69, 70] g := ⟨_, md499.eq⟩
    show sv_T sm_XS sm_cs sm_L sm_sh 23 (q_ways p1 S) 265 554 [(0, .ref 0), (1, sv_I p1), (2, sv_I (S 27 p1)), (3, sv_I (S 28 p1)), (4, sv_I (647740 : Int)), (5, sv_I x448)] [] (sv_sts (sv_sts (sv_up (sv_up (sv_sts (sv_sts (sv_sts (sv_up (sv_up (sv_up (sv_up S 1148 0 p1) 1149 0 (0 : Int)) 1150 0 (0 : Int)) 1147 0 (0 : Int)) [68, 69, 70, 81, 82, 83, 84, 85, 86, 74, 78, 79, 80, 76, 77, 1100031] g10) [68, 69, 70, 81, 82, 83, 84, 85, 86, 76, 77] g452) [68, 69, 70, 81, 82, 83, 84, 85, 86, 76, 77] g460) 85 r471 (g460 76 (639 : Int))) 86 r482 (g460 77 (639 : Int))) [68, 69, 70] g489) [69, 70] g497)
    have md501 : sv_mod [68, 69, 70, 81, 82, 83, 84, 85, 86, 71, 74, 75, 1127, 78, 79, 80, 72, 76, 77, 1143, 1144, 5, 1011, 1150, 1149, 1145, 1113, 1111, 1112, 91, 1147, 1100031, 1148, 73] S (sv_sts (sv_sts (sv_up (sv_up (sv_sts (sv_sts (sv_sts (sv_up (sv_up (sv_up (sv_up S 1148 0 p1) 1149 0 (0 : Int)) 1150 0 (0 : Int)) 1147 0 (0 : Int)) [68, 69, 70, 81, 82, 83, 84, 85, 86, 74, 78, 79, 80, 76, 77, 1100031] g10) [68, 69, 70, 81, 82, 83, 84, 85, 86, 76, 77] g452) [68, 69, 70, 81, 82, 83, 84, 85, 86, 76, 77] g460) 85 r471 (g460 76 (639 : Int))) 86 r482 (g460 77 (639 : Int))) [68, 69, 70] g489) [69, 70] g497) := sv_mod.sts md494 (by decide)
    have md502 : sv_mod [68, 69, 70, 81, 82, 83, 84, 85, 86, 71, 74, 75, 1127, 78, 79, 80, 72, 76, 77, 1143, 1144, 5, 1011, 1150, 1149, 1145, 1113, 1111, 1112, 91, 1147, 1100031] (sv_sts (sv_up (sv_up (sv_up (sv_up S 1148 0 p1) 1149 0 (0 : Int)) 1150 0 (0 : Int)) 1147 0 (0 : Int)) [68, 69, 70, 81, 82, 83, 84, 85, 86, 74, 78, 79, 80, 76, 77, 1100031] g10) (sv_sts (sv_sts (sv_up (sv_up (sv_sts (sv_sts (sv_sts (sv_up (sv_up (sv_up (sv_up S 1148 0 p1) 1149 0 (0 : Int)) 1150 0 (0 : Int)) 1147 0 (0 : Int)) [68, 69, 70, 81, 82, 83, 84, 85, 86, 74, 78, 79, 80, 76, 77, 1100031] g10) [68, 69, 70, 81, 82, 83, 84, 85, 86, 76, 77] g452) [68, 69, 70, 81, 82, 83, 84, 85, 86, 76, 77] g460) 85 r471 (g460 76 (639 : Int))) 86 r482 (g460 77 (639 : Int))) [68, 69, 70] g489) [69, 70] g497) := sv_mod.sts md495 (by decide)
    have h := h g497 hpo500
    refine sv_aload_n hM dX12_ways_554 rfl rfl ?_
    refine sv_aload_n hM dX12_ways_555 rfl rfl ?_
    refine sv_iload hM dX12_ways_556 rfl rfl ?_
    refine sv_iconst (d := (2 : Int)) hM dX12_ways_558 rfl rfl ?_
    refine sv_iadd hM dX12_ways_559 rfl ?_
    refine sv_iconst (d := (2 : Int)) hM dX12_ways_560 rfl rfl ?_
    obtain ⟨o503, h⟩ := h
    refine sv_callV hM dX12_ways_561 sm_iv_1244 (by decide) (sm_a0 _) rfl rfl (Nat.le_of_ble_eq_true rfl) sm_h253 (Nat.le_of_ble_eq_true rfl) (Nat.le_of_ble_eq_true rfl) (F' := 2) (Nat.le_of_ble_eq_true rfl) rfl (t_fresh_ (x448 + (2 : Int)) (2 : Int) (sv_sts (sv_sts (sv_up (sv_up (sv_sts (sv_sts (sv_sts (sv_up (sv_up (sv_up (sv_up S 1148 0 p1) 1149 0 (0 : Int)) 1150 0 (0 : Int)) 1147 0 (0 : Int)) [68, 69, 70, 81, 82, 83, 84, 85, 86, 74, 78, 79, 80, 76, 77, 1100031] g10) [68, 69, 70, 81, 82, 83, 84, 85, 86, 76, 77] g452) [68, 69, 70, 81, 82, 83, 84, 85, 86, 76, 77] g460) 85 r471 (g460 76 (639 : Int))) 86 r482 (g460 77 (639 : Int))) [68, 69, 70] g489) [69, 70] g497) ok498 o458 (⟨by decide, by decide⟩ : sv_R (2 : Int)) o503) (fun v S1 hq => ?_)
    obtain ⟨r508, rfl, hr508, ok505, md506, hpo507⟩ := hq
    obtain ⟨g504, rfl⟩ : ∃ g, S1 = sv_sts (sv_sts (sv_sts (sv_up (sv_up (sv_sts (sv_sts (sv_sts (sv_up (sv_up (sv_up (sv_up S 1148 0 p1) 1149 0 (0 : Int)) 1150 0 (0 : Int)) 1147 0 (0 : Int)) [68, 69, 70, 81, 82, 83, 84, 85, 86, 74, 78, 79, 80, 76, 77, 1100031] g10) [68, 69, 70, 81, 82, 83, 84, 85, 86, 76, 77] g452) [68, 69, 70, 81, 82, 83, 84, 85, 86, 76, 77] g460) 85 r471 (g460 76 (639 : Int))) 86 r482 (g460 77 (639 : Int))) [68, 69, 70] g489) [69, 70] g497) [68, 69, 70] g := ⟨_, md506.eq⟩
    show sv_T sm_XS sm_cs sm_L sm_sh 23 (q_ways p1 S) 265 564 [(0, .ref 0), (1, sv_I p1), (2, sv_I (S 27 p1)), (3, sv_I (S 28 p1)), (4, sv_I (647740 : Int)), (5, sv_I x448)] [sv_I r508, .ref 0] (sv_sts (sv_sts (sv_sts (sv_up (sv_up (sv_sts (sv_sts (sv_sts (sv_up (sv_up (sv_up (sv_up S 1148 0 p1) 1149 0 (0 : Int)) 1150 0 (0 : Int)) 1147 0 (0 : Int)) [68, 69, 70, 81, 82, 83, 84, 85, 86, 74, 78, 79, 80, 76, 77, 1100031] g10) [68, 69, 70, 81, 82, 83, 84, 85, 86, 76, 77] g452) [68, 69, 70, 81, 82, 83, 84, 85, 86, 76, 77] g460) 85 r471 (g460 76 (639 : Int))) 86 r482 (g460 77 (639 : Int))) [68, 69, 70] g489) [69, 70] g497) [68, 69, 70] g504)
    have md509 : sv_mod [68, 69, 70, 81, 82, 83, 84, 85, 86, 71, 74, 75, 1127, 78, 79, 80, 72, 76, 77, 1143, 1144, 5, 1011, 1150, 1149, 1145, 1113, 1111, 1112, 91, 1147, 1100031, 1148, 73] S (sv_sts (sv_sts (sv_sts (sv_up (sv_up (sv_sts (sv_sts (sv_sts (sv_up (sv_up (sv_up (sv_up S 1148 0 p1) 1149 0 (0 : Int)) 1150 0 (0 : Int)) 1147 0 (0 : Int)) [68, 69, 70, 81, 82, 83, 84, 85, 86, 74, 78, 79, 80, 76, 77, 1100031] g10) [68, 69, 70, 81, 82, 83, 84, 85, 86, 76, 77] g452) [68, 69, 70, 81, 82, 83, 84, 85, 86, 76, 77] g460) 85 r471 (g460 76 (639 : Int))) 86 r482 (g460 77 (639 : Int))) [68, 69, 70] g489) [69, 70] g497) [68, 69, 70] g504) := sv_mod.sts md501 (by decide)
    have md510 : sv_mod [68, 69, 70, 81, 82, 83, 84, 85, 86, 71, 74, 75, 1127, 78, 79, 80, 72, 76, 77, 1143, 1144, 5, 1011, 1150, 1149, 1145, 1113, 1111, 1112, 91, 1147, 1100031] (sv_sts (sv_up (sv_up (sv_up (sv_up S 1148 0 p1) 1149 0 (0 : Int)) 1150 0 (0 : Int)) 1147 0 (0 : Int)) [68, 69, 70, 81, 82, 83, 84, 85, 86, 74, 78, 79, 80, 76, 77, 1100031] g10) (sv_sts (sv_sts (sv_sts (sv_up (sv_up (sv_sts (sv_sts (sv_sts (sv_up (sv_up (sv_up (sv_up S 1148 0 p1) 1149 0 (0 : Int)) 1150 0 (0 : Int)) 1147 0 (0 : Int)) [68, 69, 70, 81, 82, 83, 84, 85, 86, 74, 78, 79, 80, 76, 77, 1100031] g10) [68, 69, 70, 81, 82, 83, 84, 85, 86, 76, 77] g452) [68, 69, 70, 81, 82, 83, 84, 85, 86, 76, 77] g460) 85 r471 (g460 76 (639 : Int))) 86 r482 (g460 77 (639 : Int))) [68, 69, 70] g489) [69, 70] g497) [68, 69, 70] g504) := sv_mod.sts md502 (by decide)
    have h := h r508 hr508 g504 hpo507
    refine sv_iload hM dX12_ways_564 rfl rfl ?_
    obtain ⟨o511, h⟩ := h
    refine sv_callV hM dX12_ways_566 sm_iv_1081 (by decide) (sm_a0 _) rfl rfl (Nat.le_of_ble_eq_true rfl) sm_h216 (Nat.le_of_ble_eq_true rfl) (Nat.le_of_ble_eq_true rfl) (F' := 0) (Nat.le_of_ble_eq_true rfl) rfl (t_addLabel r508 x448 (sv_sts (sv_sts (sv_sts (sv_up (sv_up (sv_sts (sv_sts (sv_sts (sv_up (sv_up (sv_up (sv_up S 1148 0 p1) 1149 0 (0 : Int)) 1150 0 (0 : Int)) 1147 0 (0 : Int)) [68, 69, 70, 81, 82, 83, 84, 85, 86, 74, 78, 79, 80, 76, 77, 1100031] g10) [68, 69, 70, 81, 82, 83, 84, 85, 86, 76, 77] g452) [68, 69, 70, 81, 82, 83, 84, 85, 86, 76, 77] g460) 85 r471 (g460 76 (639 : Int))) 86 r482 (g460 77 (639 : Int))) [68, 69, 70] g489) [69, 70] g497) [68, 69, 70] g504) ok505 hr508 o450 o511) (fun v S1 hq => ?_)
    obtain ⟨rfl, ok513, md514, hpo515⟩ := hq
    obtain ⟨g512, rfl⟩ : ∃ g, S1 = sv_sts (sv_sts (sv_sts (sv_sts (sv_up (sv_up (sv_sts (sv_sts (sv_sts (sv_up (sv_up (sv_up (sv_up S 1148 0 p1) 1149 0 (0 : Int)) 1150 0 (0 : Int)) 1147 0 (0 : Int)) [68, 69, 70, 81, 82, 83, 84, 85, 86, 74, 78, 79, 80, 76, 77, 1100031] g10) [68, 69, 70, 81, 82, 83, 84, 85, 86, 76, 77] g452) [68, 69, 70, 81, 82, 83, 84, 85, 86, 76, 77] g460) 85 r471 (g460 76 (639 : Int))) 86 r482 (g460 77 (639 : Int))) [68, 69, 70] g489) [69, 70] g497) [68, 69, 70] g504) [69, 70] g := ⟨_, md514.eq⟩
    show sv_T sm_XS sm_cs sm_L sm_sh 23 (q_ways p1 S) 265 569 [(0, .ref 0), (1, sv_I p1), (2, sv_I (S 27 p1)), (3, sv_I (S 28 p1)), (4, sv_I (647740 : Int)), (5, sv_I x448)] [] (sv_sts (sv_sts (sv_sts (sv_sts (sv_up (sv_up (sv_sts (sv_sts (sv_sts (sv_up (sv_up (sv_up (sv_up S 1148 0 p1) 1149 0 (0 : Int)) 1150 0 (0 : Int)) 1147 0 (0 : Int)) [68, 69, 70, 81, 82, 83, 84, 85, 86, 74, 78, 79, 80, 76, 77, 1100031] g10) [68, 69, 70, 81, 82, 83, 84, 85, 86, 76, 77] g452) [68, 69, 70, 81, 82, 83, 84, 85, 86, 76, 77] g460) 85 r471 (g460 76 (639 : Int))) 86 r482 (g460 77 (639 : Int))) [68, 69, 70] g489) [69, 70] g497) [68, 69, 70] g504) [69, 70] g512)
    have md516 : sv_mod [68, 69, 70, 81, 82, 83, 84, 85, 86, 71, 74, 75, 1127, 78, 79, 80, 72, 76, 77, 1143, 1144, 5, 1011, 1150, 1149, 1145, 1113, 1111, 1112, 91, 1147, 1100031, 1148, 73] S (sv_sts (sv_sts (sv_sts (sv_sts (sv_up (sv_up (sv_sts (sv_sts (sv_sts (sv_up (sv_up (sv_up (sv_up S 1148 0 p1) 1149 0 (0 : Int)) 1150 0 (0 : Int)) 1147 0 (0 : Int)) [68, 69, 70, 81, 82, 83, 84, 85, 86, 74, 78, 79, 80, 76, 77, 1100031] g10) [68, 69, 70, 81, 82, 83, 84, 85, 86, 76, 77] g452) [68, 69, 70, 81, 82, 83, 84, 85, 86, 76, 77] g460) 85 r471 (g460 76 (639 : Int))) 86 r482 (g460 77 (639 : Int))) [68, 69, 70] g489) [69, 70] g497) [68, 69, 70] g504) [69, 70] g512) := sv_mod.sts md509 (by decide)
    have md517 : sv_mod [68, 69, 70, 81, 82, 83, 84, 85, 86, 71, 74, 75, 1127, 78, 79, 80, 72, 76, 77, 1143, 1144, 5, 1011, 1150, 1149, 1145, 1113, 1111, 1112, 91, 1147, 1100031] (sv_sts (sv_up (sv_up (sv_up (sv_up S 1148 0 p1) 1149 0 (0 : Int)) 1150 0 (0 : Int)) 1147 0 (0 : Int)) [68, 69, 70, 81, 82, 83, 84, 85, 86, 74, 78, 79, 80, 76, 77, 1100031] g10) (sv_sts (sv_sts (sv_sts (sv_sts (sv_up (sv_up (sv_sts (sv_sts (sv_sts (sv_up (sv_up (sv_up (sv_up S 1148 0 p1) 1149 0 (0 : Int)) 1150 0 (0 : Int)) 1147 0 (0 : Int)) [68, 69, 70, 81, 82, 83, 84, 85, 86, 74, 78, 79, 80, 76, 77, 1100031] g10) [68, 69, 70, 81, 82, 83, 84, 85, 86, 76, 77] g452) [68, 69, 70, 81, 82, 83, 84, 85, 86, 76, 77] g460) 85 r471 (g460 76 (639 : Int))) 86 r482 (g460 77 (639 : Int))) [68, 69, 70] g489) [69, 70] g497) [68, 69, 70] g504) [69, 70] g512) := sv_mod.sts md510 (by decide)
    have h := h g512 hpo515
    refine sv_aload_n hM dX12_ways_569 rfl rfl ?_
    refine sv_aload_n hM dX12_ways_570 rfl rfl ?_
    obtain ⟨o518, h⟩ := h
    refine sv_callV hM dX12_ways_571 sm_iv_1201 (by decide) (sm_a0 _) rfl rfl (Nat.le_of_ble_eq_true rfl) sm_h230 (Nat.le_of_ble_eq_true rfl) (Nat.le_of_ble_eq_true rfl) (F' := 1) (Nat.le_of_ble_eq_true rfl) rfl (t_pushSet  (sv_sts (sv_sts (sv_sts (sv_sts (sv_up (sv_up (sv_sts (sv_sts (sv_sts (sv_up (sv_up (sv_up (sv_up S 1148 0 p1) 1149 0 (0 : Int)) 1150 0 (0 : Int)) 1147 0 (0 : Int)) [68, 69, 70, 81, 82, 83, 84, 85, 86, 74, 78, 79, 80, 76, 77, 1100031] g10) [68, 69, 70, 81, 82, 83, 84, 85, 86, 76, 77] g452) [68, 69, 70, 81, 82, 83, 84, 85, 86, 76, 77] g460) 85 r471 (g460 76 (639 : Int))) 86 r482 (g460 77 (639 : Int))) [68, 69, 70] g489) [69, 70] g497) [68, 69, 70] g504) [69, 70] g512) ok513 o518) (fun v S1 hq => ?_)
    obtain ⟨r523, rfl, hr523, ok520, md521, hpo522⟩ := hq
    obtain ⟨g519, rfl⟩ : ∃ g, S1 = sv_sts (sv_sts (sv_sts (sv_sts (sv_sts (sv_up (sv_up (sv_sts (sv_sts (sv_sts (sv_up (sv_up (sv_up (sv_up S 1148 0 p1) 1149 0 (0 : Int)) 1150 0 (0 : Int)) 1147 0 (0 : Int)) [68, 69, 70, 81, 82, 83, 84, 85, 86, 74, 78, 79, 80, 76, 77, 1100031] g10) [68, 69, 70, 81, 82, 83, 84, 85, 86, 76, 77] g452) [68, 69, 70, 81, 82, 83, 84, 85, 86, 76, 77] g460) 85 r471 (g460 76 (639 : Int))) 86 r482 (g460 77 (639 : Int))) [68, 69, 70] g489) [69, 70] g497) [68, 69, 70] g504) [69, 70] g512) [68, 69, 70, 74] g := ⟨_, md521.eq⟩
    show sv_T sm_XS sm_cs sm_L sm_sh 23 (q_ways p1 S) 265 574 [(0, .ref 0), (1, sv_I p1), (2, sv_I (S 27 p1)), (3, sv_I (S 28 p1)), (4, sv_I (647740 : Int)), (5, sv_I x448)] [sv_I r523, .ref 0] (sv_sts (sv_sts (sv_sts (sv_sts (sv_sts (sv_up (sv_up (sv_sts (sv_sts (sv_sts (sv_up (sv_up (sv_up (sv_up S 1148 0 p1) 1149 0 (0 : Int)) 1150 0 (0 : Int)) 1147 0 (0 : Int)) [68, 69, 70, 81, 82, 83, 84, 85, 86, 74, 78, 79, 80, 76, 77, 1100031] g10) [68, 69, 70, 81, 82, 83, 84, 85, 86, 76, 77] g452) [68, 69, 70, 81, 82, 83, 84, 85, 86, 76, 77] g460) 85 r471 (g460 76 (639 : Int))) 86 r482 (g460 77 (639 : Int))) [68, 69, 70] g489) [69, 70] g497) [68, 69, 70] g504) [69, 70] g512) [68, 69, 70, 74] g519)
    have md524 : sv_mod [68, 69, 70, 81, 82, 83, 84, 85, 86, 71, 74, 75, 1127, 78, 79, 80, 72, 76, 77, 1143, 1144, 5, 1011, 1150, 1149, 1145, 1113, 1111, 1112, 91, 1147, 1100031, 1148, 73] S (sv_sts (sv_sts (sv_sts (sv_sts (sv_sts (sv_up (sv_up (sv_sts (sv_sts (sv_sts (sv_up (sv_up (sv_up (sv_up S 1148 0 p1) 1149 0 (0 : Int)) 1150 0 (0 : Int)) 1147 0 (0 : Int)) [68, 69, 70, 81, 82, 83, 84, 85, 86, 74, 78, 79, 80, 76, 77, 1100031] g10) [68, 69, 70, 81, 82, 83, 84, 85, 86, 76, 77] g452) [68, 69, 70, 81, 82, 83, 84, 85, 86, 76, 77] g460) 85 r471 (g460 76 (639 : Int))) 86 r482 (g460 77 (639 : Int))) [68, 69, 70] g489) [69, 70] g497) [68, 69, 70] g504) [69, 70] g512) [68, 69, 70, 74] g519) := sv_mod.sts md516 (by decide)
    have md525 : sv_mod [68, 69, 70, 81, 82, 83, 84, 85, 86, 71, 74, 75, 1127, 78, 79, 80, 72, 76, 77, 1143, 1144, 5, 1011, 1150, 1149, 1145, 1113, 1111, 1112, 91, 1147, 1100031] (sv_sts (sv_up (sv_up (sv_up (sv_up S 1148 0 p1) 1149 0 (0 : Int)) 1150 0 (0 : Int)) 1147 0 (0 : Int)) [68, 69, 70, 81, 82, 83, 84, 85, 86, 74, 78, 79, 80, 76, 77, 1100031] g10) (sv_sts (sv_sts (sv_sts (sv_sts (sv_sts (sv_up (sv_up (sv_sts (sv_sts (sv_sts (sv_up (sv_up (sv_up (sv_up S 1148 0 p1) 1149 0 (0 : Int)) 1150 0 (0 : Int)) 1147 0 (0 : Int)) [68, 69, 70, 81, 82, 83, 84, 85, 86, 74, 78, 79, 80, 76, 77, 1100031] g10) [68, 69, 70, 81, 82, 83, 84, 85, 86, 76, 77] g452) [68, 69, 70, 81, 82, 83, 84, 85, 86, 76, 77] g460) 85 r471 (g460 76 (639 : Int))) 86 r482 (g460 77 (639 : Int))) [68, 69, 70] g489) [69, 70] g497) [68, 69, 70] g504) [69, 70] g512) [68, 69, 70, 74] g519) := sv_mod.sts md517 (by decide)
    have h := h r523 hr523 g519 hpo522
    refine sv_iload hM dX12_ways_574 rfl rfl ?_
    obtain ⟨o526, h⟩ := h
    refine sv_callV hM dX12_ways_576 sm_iv_1081 (by decide) (sm_a0 _) rfl rfl (Nat.le_of_ble_eq_true rfl) sm_h216 (Nat.le_of_ble_eq_true rfl) (Nat.le_of_ble_eq_true rfl) (F' := 0) (Nat.le_of_ble_eq_true rfl) rfl (t_addLabel r523 x448 (sv_sts (sv_sts (sv_sts (sv_sts (sv_sts (sv_up (sv_up (sv_sts (sv_sts (sv_sts (sv_up (sv_up (sv_up (sv_up S 1148 0 p1) 1149 0 (0 : Int)) 1150 0 (0 : Int)) 1147 0 (0 : Int)) [68, 69, 70, 81, 82, 83, 84, 85, 86, 74, 78, 79, 80, 76, 77, 1100031] g10) [68, 69, 70, 81, 82, 83, 84, 85, 86, 76, 77] g452) [68, 69, 70, 81, 82, 83, 84, 85, 86, 76, 77] g460) 85 r471 (g460 76 (639 : Int))) 86 r482 (g460 77 (639 : Int))) [68, 69, 70] g489) [69, 70] g497) [68, 69, 70] g504) [69, 70] g512) [68, 69, 70, 74] g519) ok520 hr523 o450 o526) (fun v S1 hq => ?_)
    obtain ⟨rfl, ok528, md529, hpo530⟩ := hq
    obtain ⟨g527, rfl⟩ : ∃ g, S1 = sv_sts (sv_sts (sv_sts (sv_sts (sv_sts (sv_sts (sv_up (sv_up (sv_sts (sv_sts (sv_sts (sv_up (sv_up (sv_up (sv_up S 1148 0 p1) 1149 0 (0 : Int)) 1150 0 (0 : Int)) 1147 0 (0 : Int)) [68, 69, 70, 81, 82, 83, 84, 85, 86, 74, 78, 79, 80, 76, 77, 1100031] g10) [68, 69, 70, 81, 82, 83, 84, 85, 86, 76, 77] g452) [68, 69, 70, 81, 82, 83, 84, 85, 86, 76, 77] g460) 85 r471 (g460 76 (639 : Int))) 86 r482 (g460 77 (639 : Int))) [68, 69, 70] g489) [69, 70] g497) [68, 69, 70] g504) [69, 70] g512) [68, 69, 70, 74] g519) [69, 70] g := ⟨_, md529.eq⟩
    show sv_T sm_XS sm_cs sm_L sm_sh 23 (q_ways p1 S) 265 579 [(0, .ref 0), (1, sv_I p1), (2, sv_I (S 27 p1)), (3, sv_I (S 28 p1)), (4, sv_I (647740 : Int)), (5, sv_I x448)] [] (sv_sts (sv_sts (sv_sts (sv_sts (sv_sts (sv_sts (sv_up (sv_up (sv_sts (sv_sts (sv_sts (sv_up (sv_up (sv_up (sv_up S 1148 0 p1) 1149 0 (0 : Int)) 1150 0 (0 : Int)) 1147 0 (0 : Int)) [68, 69, 70, 81, 82, 83, 84, 85, 86, 74, 78, 79, 80, 76, 77, 1100031] g10) [68, 69, 70, 81, 82, 83, 84, 85, 86, 76, 77] g452) [68, 69, 70, 81, 82, 83, 84, 85, 86, 76, 77] g460) 85 r471 (g460 76 (639 : Int))) 86 r482 (g460 77 (639 : Int))) [68, 69, 70] g489) [69, 70] g497) [68, 69, 70] g504) [69, 70] g512) [68, 69, 70, 74] g519) [69, 70] g527)
    have md531 : sv_mod [68, 69, 70, 81, 82, 83, 84, 85, 86, 71, 74, 75, 1127, 78, 79, 80, 72, 76, 77, 1143, 1144, 5, 1011, 1150, 1149, 1145, 1113, 1111, 1112, 91, 1147, 1100031, 1148, 73] S (sv_sts (sv_sts (sv_sts (sv_sts (sv_sts (sv_sts (sv_up (sv_up (sv_sts (sv_sts (sv_sts (sv_up (sv_up (sv_up (sv_up S 1148 0 p1) 1149 0 (0 : Int)) 1150 0 (0 : Int)) 1147 0 (0 : Int)) [68, 69, 70, 81, 82, 83, 84, 85, 86, 74, 78, 79, 80, 76, 77, 1100031] g10) [68, 69, 70, 81, 82, 83, 84, 85, 86, 76, 77] g452) [68, 69, 70, 81, 82, 83, 84, 85, 86, 76, 77] g460) 85 r471 (g460 76 (639 : Int))) 86 r482 (g460 77 (639 : Int))) [68, 69, 70] g489) [69, 70] g497) [68, 69, 70] g504) [69, 70] g512) [68, 69, 70, 74] g519) [69, 70] g527) := sv_mod.sts md524 (by decide)
    have md532 : sv_mod [68, 69, 70, 81, 82, 83, 84, 85, 86, 71, 74, 75, 1127, 78, 79, 80, 72, 76, 77, 1143, 1144, 5, 1011, 1150, 1149, 1145, 1113, 1111, 1112, 91, 1147, 1100031] (sv_sts (sv_up (sv_up (sv_up (sv_up S 1148 0 p1) 1149 0 (0 : Int)) 1150 0 (0 : Int)) 1147 0 (0 : Int)) [68, 69, 70, 81, 82, 83, 84, 85, 86, 74, 78, 79, 80, 76, 77, 1100031] g10) (sv_sts (sv_sts (sv_sts (sv_sts (sv_sts (sv_sts (sv_up (sv_up (sv_sts (sv_sts (sv_sts (sv_up (sv_up (sv_up (sv_up S 1148 0 p1) 1149 0 (0 : Int)) 1150 0 (0 : Int)) 1147 0 (0 : Int)) [68, 69, 70, 81, 82, 83, 84, 85, 86, 74, 78, 79, 80, 76, 77, 1100031] g10) [68, 69, 70, 81, 82, 83, 84, 85, 86, 76, 77] g452) [68, 69, 70, 81, 82, 83, 84, 85, 86, 76, 77] g460) 85 r471 (g460 76 (639 : Int))) 86 r482 (g460 77 (639 : Int))) [68, 69, 70] g489) [69, 70] g497) [68, 69, 70] g504) [69, 70] g512) [68, 69, 70, 74] g519) [69, 70] g527) := sv_mod.sts md525 (by decide)
    have h := h g527 hpo530
    refine sv_aload_n hM dX12_ways_579 rfl rfl ?_
    obtain ⟨o533, h⟩ := h
    refine sv_callV hM dX12_ways_580 sm_iv_1222 (by decide) (sm_a0 _) rfl rfl (Nat.le_of_ble_eq_true rfl) sm_h258 (Nat.le_of_ble_eq_true rfl) (Nat.le_of_ble_eq_true rfl) (F' := 4) (Nat.le_of_ble_eq_true rfl) rfl (t_on  (sv_sts (sv_sts (sv_sts (sv_sts (sv_sts (sv_sts (sv_up (sv_up (sv_sts (sv_sts (sv_sts (sv_up (sv_up (sv_up (sv_up S 1148 0 p1) 1149 0 (0 : Int)) 1150 0 (0 : Int)) 1147 0 (0 : Int)) [68, 69, 70, 81, 82, 83, 84, 85, 86, 74, 78, 79, 80, 76, 77, 1100031] g10) [68, 69, 70, 81, 82, 83, 84, 85, 86, 76, 77] g452) [68, 69, 70, 81, 82, 83, 84, 85, 86, 76, 77] g460) 85 r471 (g460 76 (639 : Int))) 86 r482 (g460 77 (639 : Int))) [68, 69, 70] g489) [69, 70] g497) [68, 69, 70] g504) [69, 70] g512) [68, 69, 70, 74] g519) [69, 70] g527) ok528 o533) (fun v S1 hq => ?_)
    obtain ⟨rfl, ok535, md536, hpo537⟩ := hq
    obtain ⟨g534, rfl⟩ : ∃ g, S1 = sv_sts (sv_sts (sv_sts (sv_sts (sv_sts (sv_sts (sv_sts (sv_up (sv_up (sv_sts (sv_sts (sv_sts (sv_up (sv_up (sv_up (sv_up S 1148 0 p1) 1149 0 (0 : Int)) 1150 0 (0 : Int)) 1147 0 (0 : Int)) [68, 69, 70, 81, 82, 83, 84, 85, 86, 74, 78, 79, 80, 76, 77, 1100031] g10) [68, 69, 70, 81, 82, 83, 84, 85, 86, 76, 77] g452) [68, 69, 70, 81, 82, 83, 84, 85, 86, 76, 77] g460) 85 r471 (g460 76 (639 : Int))) 86 r482 (g460 77 (639 : Int))) [68, 69, 70] g489) [69, 70] g497) [68, 69, 70] g504) [69, 70] g512) [68, 69, 70, 74] g519) [69, 70] g527) [68, 69, 70, 81, 82, 83, 84, 85, 86, 71, 74, 75, 1127, 78, 79, 80, 72, 76, 77, 1150] g := ⟨_, md536.eq⟩
    show sv_T sm_XS sm_cs sm_L sm_sh 23 (q_ways p1 S) 265 583 [(0, .ref 0), (1, sv_I p1), (2, sv_I (S 27 p1)), (3, sv_I (S 28 p1)), (4, sv_I (647740 : Int)), (5, sv_I x448)] [] (sv_sts (sv_sts (sv_sts (sv_sts (sv_sts (sv_sts (sv_sts (sv_up (sv_up (sv_sts (sv_sts (sv_sts (sv_up (sv_up (sv_up (sv_up S 1148 0 p1) 1149 0 (0 : Int)) 1150 0 (0 : Int)) 1147 0 (0 : Int)) [68, 69, 70, 81, 82, 83, 84, 85, 86, 74, 78, 79, 80, 76, 77, 1100031] g10) [68, 69, 70, 81, 82, 83, 84, 85, 86, 76, 77] g452) [68, 69, 70, 81, 82, 83, 84, 85, 86, 76, 77] g460) 85 r471 (g460 76 (639 : Int))) 86 r482 (g460 77 (639 : Int))) [68, 69, 70] g489) [69, 70] g497) [68, 69, 70] g504) [69, 70] g512) [68, 69, 70, 74] g519) [69, 70] g527) [68, 69, 70, 81, 82, 83, 84, 85, 86, 71, 74, 75, 1127, 78, 79, 80, 72, 76, 77, 1150] g534)
    have md538 : sv_mod [68, 69, 70, 81, 82, 83, 84, 85, 86, 71, 74, 75, 1127, 78, 79, 80, 72, 76, 77, 1143, 1144, 5, 1011, 1150, 1149, 1145, 1113, 1111, 1112, 91, 1147, 1100031, 1148, 73] S (sv_sts (sv_sts (sv_sts (sv_sts (sv_sts (sv_sts (sv_sts (sv_up (sv_up (sv_sts (sv_sts (sv_sts (sv_up (sv_up (sv_up (sv_up S 1148 0 p1) 1149 0 (0 : Int)) 1150 0 (0 : Int)) 1147 0 (0 : Int)) [68, 69, 70, 81, 82, 83, 84, 85, 86, 74, 78, 79, 80, 76, 77, 1100031] g10) [68, 69, 70, 81, 82, 83, 84, 85, 86, 76, 77] g452) [68, 69, 70, 81, 82, 83, 84, 85, 86, 76, 77] g460) 85 r471 (g460 76 (639 : Int))) 86 r482 (g460 77 (639 : Int))) [68, 69, 70] g489) [69, 70] g497) [68, 69, 70] g504) [69, 70] g512) [68, 69, 70, 74] g519) [69, 70] g527) [68, 69, 70, 81, 82, 83, 84, 85, 86, 71, 74, 75, 1127, 78, 79, 80, 72, 76, 77, 1150] g534) := sv_mod.sts md531 (by decide)
    have md539 : sv_mod [68, 69, 70, 81, 82, 83, 84, 85, 86, 71, 74, 75, 1127, 78, 79, 80, 72, 76, 77, 1143, 1144, 5, 1011, 1150, 1149, 1145, 1113, 1111, 1112, 91, 1147, 1100031] (sv_sts (sv_up (sv_up (sv_up (sv_up S 1148 0 p1) 1149 0 (0 : Int)) 1150 0 (0 : Int)) 1147 0 (0 : Int)) [68, 69, 70, 81, 82, 83, 84, 85, 86, 74, 78, 79, 80, 76, 77, 1100031] g10) (sv_sts (sv_sts (sv_sts (sv_sts (sv_sts (sv_sts (sv_sts (sv_up (sv_up (sv_sts (sv_sts (sv_sts (sv_up (sv_up (sv_up (sv_up S 1148 0 p1) 1149 0 (0 : Int)) 1150 0 (0 : Int)) 1147 0 (0 : Int)) [68, 69, 70, 81, 82, 83, 84, 85, 86, 74, 78, 79, 80, 76, 77, 1100031] g10) [68, 69, 70, 81, 82, 83, 84, 85, 86, 76, 77] g452) [68, 69, 70, 81, 82, 83, 84, 85, 86, 76, 77] g460) 85 r471 (g460 76 (639 : Int))) 86 r482 (g460 77 (639 : Int))) [68, 69, 70] g489) [69, 70] g497) [68, 69, 70] g504) [69, 70] g512) [68, 69, 70, 74] g519) [69, 70] g527) [68, 69, 70, 81, 82, 83, 84, 85, 86, 71, 74, 75, 1127, 78, 79, 80, 72, 76, 77, 1150] g534) := sv_mod.sts md532 (by decide)
    have h := h g534 hpo537
    refine sv_goto hM dX12_ways_583 (pc' := 665) rfl ?_
    have eS := sv_mod.eq md539
    have hb := J63 (sv_sts (sv_sts (sv_sts (sv_sts (sv_sts (sv_sts (sv_sts (sv_up (sv_up (sv_sts (sv_sts (sv_sts (sv_up (sv_up (sv_up (sv_up S 1148 0 p1) 1149 0 (0 : Int)) 1150 0 (0 : Int)) 1147 0 (0 : Int)) [68, 69, 70, 81, 82, 83, 84, 85, 86, 74, 78, 79, 80, 76, 77, 1100031] g10) [68, 69, 70, 81, 82, 83, 84, 85, 86, 76, 77] g452) [68, 69, 70, 81, 82, 83, 84, 85, 86, 76, 77] g460) 85 r471 (g460 76 (639 : Int))) 86 r482 (g460 77 (639 : Int))) [68, 69, 70] g489) [69, 70] g497) [68, 69, 70] g504) [69, 70] g512) [68, 69, 70, 74] g519) [69, 70] g527) [68, 69, 70, 81, 82, 83, 84, 85, 86, 71, 74, 75, 1127, 78, 79, 80, 72, 76, 77, 1150] g534) (by rw [← eS]; exact ok535) h
    have hb : sv_T sm_XS sm_cs sm_L sm_sh 23 (q_ways p1 S) 265 665 [(0, .ref 0), (1, sv_I p1), (2, sv_I (S 27 p1)), (3, sv_I (S 28 p1)), (4, sv_I (647740 : Int))] [] (sv_sts (sv_sts (sv_sts (sv_sts (sv_sts (sv_sts (sv_sts (sv_up (sv_up (sv_sts (sv_sts (sv_sts (sv_up (sv_up (sv_up (sv_up S 1148 0 p1) 1149 0 (0 : Int)) 1150 0 (0 : Int)) 1147 0 (0 : Int)) [68, 69, 70, 81, 82, 83, 84, 85, 86, 74, 78, 79, 80, 76, 77, 1100031] g10) [68, 69, 70, 81, 82, 83, 84, 85, 86, 76, 77] g452) [68, 69, 70, 81, 82, 83, 84, 85, 86, 76, 77] g460) 85 r471 (g460 76 (639 : Int))) 86 r482 (g460 77 (639 : Int))) [68, 69, 70] g489) [69, 70] g497) [68, 69, 70] g504) [69, 70] g512) [68, 69, 70, 74] g519) [69, 70] g527) [68, 69, 70, 81, 82, 83, 84, 85, 86, 71, 74, 75, 1127, 78, 79, 80, 72, 76, 77, 1150] g534) := Eq.mpr (congrArg (fun Z => sv_T sm_XS sm_cs sm_L sm_sh 23 (q_ways p1 S) 265 665 [(0, .ref 0), (1, sv_I p1), (2, sv_I (S 27 p1)), (3, sv_I (S 28 p1)), (4, sv_I (647740 : Int))] [] Z) eS) hb
    exact sv_less (lv := [(0, .ref 0), (1, sv_I p1), (2, sv_I (S 27 p1)), (3, sv_I (S 28 p1)), (4, sv_I (647740 : Int))]) (sv_Sub_cons rfl (sv_Sub_cons rfl (sv_Sub_cons rfl (sv_Sub_cons rfl (sv_Sub_cons rfl sv_Sub_nil))))) hb
  have J9 : ((S 26 p1) = (10 : Int)) → sv_T sm_XS sm_cs sm_L sm_sh 23 (q_ways p1 S) 265 586 [(0, .ref 0), (1, sv_I p1), (2, sv_I (S 27 p1)), (3, sv_I (S 28 p1)), (4, sv_I (647740 : Int))] [] (sv_sts (sv_up (sv_up (sv_up (sv_up S 1148 0 p1) 1149 0 (0 : Int)) 1150 0 (0 : Int)) 1147 0 (0 : Int)) [68, 69, 70, 81, 82, 83, 84, 85, 86, 74, 78, 79, 80, 76, 77, 1100031] g10) := by
    intro hc
    have h := hS.2.2.2.2.2.2.2.2.2.1 hc
    refine sv_aload_n hM dX12_ways_586 rfl rfl ?_
    obtain ⟨o540, h⟩ := h
    refine sv_callV hM dX12_ways_587 sm_iv_1246 (by decide) (sm_a0 _) rfl rfl (Nat.le_of_ble_eq_true rfl) sm_h274 (Nat.le_of_ble_eq_true rfl) (Nat.le_of_ble_eq_true rfl) (F' := 9) (Nat.le_of_ble_eq_true rfl) rfl (t_waysOfGet  (sv_sts (sv_up (sv_up (sv_up (sv_up S 1148 0 p1) 1149 0 (0 : Int)) 1150 0 (0 : Int)) 1147 0 (0 : Int)) [68, 69, 70, 81, 82, 83, 84, 85, 86, 74, 78, 79, 80, 76, 77, 1100031] g10) ok11 o540) (fun v S1 hq => ?_)
    obtain ⟨rfl, ok542, md543, hpo544⟩ := hq
    obtain ⟨g541, rfl⟩ : ∃ g, S1 = sv_sts (sv_sts (sv_up (sv_up (sv_up (sv_up S 1148 0 p1) 1149 0 (0 : Int)) 1150 0 (0 : Int)) 1147 0 (0 : Int)) [68, 69, 70, 81, 82, 83, 84, 85, 86, 74, 78, 79, 80, 76, 77, 1100031] g10) [68, 69, 70, 81, 82, 83, 84, 85, 86, 71, 74, 75, 1127, 78, 79, 80, 72, 76, 77, 1143, 1144, 5, 1011, 1150, 1149, 1145, 1113, 1111, 1112, 1100031] g := ⟨_, md543.eq⟩
    show sv_T sm_XS sm_cs sm_L sm_sh 23 (q_ways p1 S) 265 590 [(0, .ref 0), (1, sv_I p1), (2, sv_I (S 27 p1)), (3, sv_I (S 28 p1)), (4, sv_I (647740 : Int))] [] (sv_sts (sv_sts (sv_up (sv_up (sv_up (sv_up S 1148 0 p1) 1149 0 (0 : Int)) 1150 0 (0 : Int)) 1147 0 (0 : Int)) [68, 69, 70, 81, 82, 83, 84, 85, 86, 74, 78, 79, 80, 76, 77, 1100031] g10) [68, 69, 70, 81, 82, 83, 84, 85, 86, 71, 74, 75, 1127, 78, 79, 80, 72, 76, 77, 1143, 1144, 5, 1011, 1150, 1149, 1145, 1113, 1111, 1112, 1100031] g541)
    have md545 : sv_mod [68, 69, 70, 81, 82, 83, 84, 85, 86, 71, 74, 75, 1127, 78, 79, 80, 72, 76, 77, 1143, 1144, 5, 1011, 1150, 1149, 1145, 1113, 1111, 1112, 91, 1147, 1100031, 1148, 73] S (sv_sts (sv_sts (sv_up (sv_up (sv_up (sv_up S 1148 0 p1) 1149 0 (0 : Int)) 1150 0 (0 : Int)) 1147 0 (0 : Int)) [68, 69, 70, 81, 82, 83, 84, 85, 86, 74, 78, 79, 80, 76, 77, 1100031] g10) [68, 69, 70, 81, 82, 83, 84, 85, 86, 71, 74, 75, 1127, 78, 79, 80, 72, 76, 77, 1143, 1144, 5, 1011, 1150, 1149, 1145, 1113, 1111, 1112, 1100031] g541) := sv_mod.sts md14 (by decide)
    have md546 : sv_mod [68, 69, 70, 81, 82, 83, 84, 85, 86, 71, 74, 75, 1127, 78, 79, 80, 72, 76, 77, 1143, 1144, 5, 1011, 1150, 1149, 1145, 1113, 1111, 1112, 91, 1147, 1100031] (sv_sts (sv_up (sv_up (sv_up (sv_up S 1148 0 p1) 1149 0 (0 : Int)) 1150 0 (0 : Int)) 1147 0 (0 : Int)) [68, 69, 70, 81, 82, 83, 84, 85, 86, 74, 78, 79, 80, 76, 77, 1100031] g10) (sv_sts (sv_sts (sv_up (sv_up (sv_up (sv_up S 1148 0 p1) 1149 0 (0 : Int)) 1150 0 (0 : Int)) 1147 0 (0 : Int)) [68, 69, 70, 81, 82, 83, 84, 85, 86, 74, 78, 79, 80, 76, 77, 1100031] g10) [68, 69, 70, 81, 82, 83, 84, 85, 86, 71, 74, 75, 1127, 78, 79, 80, 72, 76, 77, 1143, 1144, 5, 1011, 1150, 1149, 1145, 1113, 1111, 1112, 1100031] g541) := sv_mod.sts (sv_mod.rf (l := [68, 69, 70, 81, 82, 83, 84, 85, 86, 71, 74, 75, 1127, 78, 79, 80, 72, 76, 77, 1143, 1144, 5, 1011, 1150, 1149, 1145, 1113, 1111, 1112, 91, 1147, 1100031]) (S := (sv_sts (sv_up (sv_up (sv_up (sv_up S 1148 0 p1) 1149 0 (0 : Int)) 1150 0 (0 : Int)) 1147 0 (0 : Int)) [68, 69, 70, 81, 82, 83, 84, 85, 86, 74, 78, 79, 80, 76, 77, 1100031] g10))) (by decide)
    have h := h g541 hpo544
    refine sv_goto hM dX12_ways_590 (pc' := 665) rfl ?_
    have eS := sv_mod.eq md546
    have hb := J63 (sv_sts (sv_sts (sv_up (sv_up (sv_up (sv_up S 1148 0 p1) 1149 0 (0 : Int)) 1150 0 (0 : Int)) 1147 0 (0 : Int)) [68, 69, 70, 81, 82, 83, 84, 85, 86, 74, 78, 79, 80, 76, 77, 1100031] g10) [68, 69, 70, 81, 82, 83, 84, 85, 86, 71, 74, 75, 1127, 78, 79, 80, 72, 76, 77, 1143, 1144, 5, 1011, 1150, 1149, 1145, 1113, 1111, 1112, 1100031] g541) (by rw [← eS]; exact ok542) h
    have hb : sv_T sm_XS sm_cs sm_L sm_sh 23 (q_ways p1 S) 265 665 [(0, .ref 0), (1, sv_I p1), (2, sv_I (S 27 p1)), (3, sv_I (S 28 p1)), (4, sv_I (647740 : Int))] [] (sv_sts (sv_sts (sv_up (sv_up (sv_up (sv_up S 1148 0 p1) 1149 0 (0 : Int)) 1150 0 (0 : Int)) 1147 0 (0 : Int)) [68, 69, 70, 81, 82, 83, 84, 85, 86, 74, 78, 79, 80, 76, 77, 1100031] g10) [68, 69, 70, 81, 82, 83, 84, 85, 86, 71, 74, 75, 1127, 78, 79, 80, 72, 76, 77, 1143, 1144, 5, 1011, 1150, 1149, 1145, 1113, 1111, 1112, 1100031] g541) := Eq.mpr (congrArg (fun Z => sv_T sm_XS sm_cs sm_L sm_sh 23 (q_ways p1 S) 265 665 [(0, .ref 0), (1, sv_I p1), (2, sv_I (S 27 p1)), (3, sv_I (S 28 p1)), (4, sv_I (647740 : Int))] [] Z) eS) hb
    exact sv_less (lv := [(0, .ref 0), (1, sv_I p1), (2, sv_I (S 27 p1)), (3, sv_I (S 28 p1)), (4, sv_I (647740 : Int))]) (sv_Sub_cons rfl (sv_Sub_cons rfl (sv_Sub_cons rfl (sv_Sub_cons rfl (sv_Sub_cons rfl sv_Sub_nil))))) hb
  have J10 : ((S 26 p1) = (11 : Int)) → sv_T sm_XS sm_cs sm_L sm_sh 23 (q_ways p1 S) 265 593 [(0, .ref 0), (1, sv_I p1), (2, sv_I (S 27 p1)), (3, sv_I (S 28 p1)), (4, sv_I (647740 : Int))] [] (sv_sts (sv_up (sv_up (sv_up (sv_up S 1148 0 p1) 1149 0 (0 : Int)) 1150 0 (0 : Int)) 1147 0 (0 : Int)) [68, 69, 70, 81, 82, 83, 84, 85, 86, 74, 78, 79, 80, 76, 77, 1100031] g10) := by
    intro hc
    have h := hS.2.2.2.2.2.2.2.2.2.2.1 hc
    refine sv_aload_n hM dX12_ways_593 rfl rfl ?_
    obtain ⟨o547, h⟩ := h
    refine sv_callV hM dX12_ways_594 sm_iv_1249 (by decide) (sm_a0 _) rfl rfl (Nat.le_of_ble_eq_true rfl) sm_h276 (Nat.le_of_ble_eq_true rfl) (Nat.le_of_ble_eq_true rfl) (F' := 9) (Nat.le_of_ble_eq_true rfl) rfl (t_waysOfPut  (sv_sts (sv_up (sv_up (sv_up (sv_up S 1148 0 p1) 1149 0 (0 : Int)) 1150 0 (0 : Int)) 1147 0 (0 : Int)) [68, 69, 70, 81, 82, 83, 84, 85, 86, 74, 78, 79, 80, 76, 77, 1100031] g10) ok11 o547) (fun v S1 hq => ?_)
    obtain ⟨rfl, ok549, md550, hpo551⟩ := hq
    obtain ⟨g548, rfl⟩ : ∃ g, S1 = sv_sts (sv_sts (sv_up (sv_up (sv_up (sv_up S 1148 0 p1) 1149 0 (0 : Int)) 1150 0 (0 : Int)) 1147 0 (0 : Int)) [68, 69, 70, 81, 82, 83, 84, 85, 86, 74, 78, 79, 80, 76, 77, 1100031] g10) [68, 69, 70, 81, 82, 83, 84, 85, 86, 71, 74, 75, 1127, 78, 79, 80, 72, 76, 77, 1143, 1144, 5, 1011, 1150, 1149, 1145, 1113, 1111, 1112, 1100031] g := ⟨_, md550.eq⟩
    show sv_T sm_XS sm_cs sm_L sm_sh 23 (q_ways p1 S) 265 597 [(0, .ref 0), (1, sv_I p1), (2, sv_I (S 27 p1)), (3, sv_I (S 28 p1)), (4, sv_I (647740 : Int))] [] (sv_sts (sv_sts (sv_up (sv_up (sv_up (sv_up S 1148 0 p1) 1149 0 (0 : Int)) 1150 0 (0 : Int)) 1147 0 (0 : Int)) [68, 69, 70, 81, 82, 83, 84, 85, 86, 74, 78, 79, 80, 76, 77, 1100031] g10) [68, 69, 70, 81, 82, 83, 84, 85, 86, 71, 74, 75, 1127, 78, 79, 80, 72, 76, 77, 1143, 1144, 5, 1011, 1150, 1149, 1145, 1113, 1111, 1112, 1100031] g548)
    have md552 : sv_mod [68, 69, 70, 81, 82, 83, 84, 85, 86, 71, 74, 75, 1127, 78, 79, 80, 72, 76, 77, 1143, 1144, 5, 1011, 1150, 1149, 1145, 1113, 1111, 1112, 91, 1147, 1100031, 1148, 73] S (sv_sts (sv_sts (sv_up (sv_up (sv_up (sv_up S 1148 0 p1) 1149 0 (0 : Int)) 1150 0 (0 : Int)) 1147 0 (0 : Int)) [68, 69, 70, 81, 82, 83, 84, 85, 86, 74, 78, 79, 80, 76, 77, 1100031] g10) [68, 69, 70, 81, 82, 83, 84, 85, 86, 71, 74, 75, 1127, 78, 79, 80, 72, 76, 77, 1143, 1144, 5, 1011, 1150, 1149, 1145, 1113, 1111, 1112, 1100031] g548) := sv_mod.sts md14 (by decide)
    have md553 : sv_mod [68, 69, 70, 81, 82, 83, 84, 85, 86, 71, 74, 75, 1127, 78, 79, 80, 72, 76, 77, 1143, 1144, 5, 1011, 1150, 1149, 1145, 1113, 1111, 1112, 91, 1147, 1100031] (sv_sts (sv_up (sv_up (sv_up (sv_up S 1148 0 p1) 1149 0 (0 : Int)) 1150 0 (0 : Int)) 1147 0 (0 : Int)) [68, 69, 70, 81, 82, 83, 84, 85, 86, 74, 78, 79, 80, 76, 77, 1100031] g10) (sv_sts (sv_sts (sv_up (sv_up (sv_up (sv_up S 1148 0 p1) 1149 0 (0 : Int)) 1150 0 (0 : Int)) 1147 0 (0 : Int)) [68, 69, 70, 81, 82, 83, 84, 85, 86, 74, 78, 79, 80, 76, 77, 1100031] g10) [68, 69, 70, 81, 82, 83, 84, 85, 86, 71, 74, 75, 1127, 78, 79, 80, 72, 76, 77, 1143, 1144, 5, 1011, 1150, 1149, 1145, 1113, 1111, 1112, 1100031] g548) := sv_mod.sts (sv_mod.rf (l := [68, 69, 70, 81, 82, 83, 84, 85, 86, 71, 74, 75, 1127, 78, 79, 80, 72, 76, 77, 1143, 1144, 5, 1011, 1150, 1149, 1145, 1113, 1111, 1112, 91, 1147, 1100031]) (S := (sv_sts (sv_up (sv_up (sv_up (sv_up S 1148 0 p1) 1149 0 (0 : Int)) 1150 0 (0 : Int)) 1147 0 (0 : Int)) [68, 69, 70, 81, 82, 83, 84, 85, 86, 74, 78, 79, 80, 76, 77, 1100031] g10))) (by decide)
    have h := h g548 hpo551
    refine sv_goto hM dX12_ways_597 (pc' := 665) rfl ?_
    have eS := sv_mod.eq md553
    have hb := J63 (sv_sts (sv_sts (sv_up (sv_up (sv_up (sv_up S 1148 0 p1) 1149 0 (0 : Int)) 1150 0 (0 : Int)) 1147 0 (0 : Int)) [68, 69, 70, 81, 82, 83, 84, 85, 86, 74, 78, 79, 80, 76, 77, 1100031] g10) [68, 69, 70, 81, 82, 83, 84, 85, 86, 71, 74, 75, 1127, 78, 79, 80, 72, 76, 77, 1143, 1144, 5, 1011, 1150, 1149, 1145, 1113, 1111, 1112, 1100031] g548) (by rw [← eS]; exact ok549) h
    have hb : sv_T sm_XS sm_cs sm_L sm_sh 23 (q_ways p1 S) 265 665 [(0, .ref 0), (1, sv_I p1), (2, sv_I (S 27 p1)), (3, sv_I (S 28 p1)), (4, sv_I (647740 : Int))] [] (sv_sts (sv_sts (sv_up (sv_up (sv_up (sv_up S 1148 0 p1) 1149 0 (0 : Int)) 1150 0 (0 : Int)) 1147 0 (0 : Int)) [68, 69, 70, 81, 82, 83, 84, 85, 86, 74, 78, 79, 80, 76, 77, 1100031] g10) [68, 69, 70, 81, 82, 83, 84, 85, 86, 71, 74, 75, 1127, 78, 79, 80, 72, 76, 77, 1143, 1144, 5, 1011, 1150, 1149, 1145, 1113, 1111, 1112, 1100031] g548) := Eq.mpr (congrArg (fun Z => sv_T sm_XS sm_cs sm_L sm_sh 23 (q_ways p1 S) 265 665 [(0, .ref 0), (1, sv_I p1), (2, sv_I (S 27 p1)), (3, sv_I (S 28 p1)), (4, sv_I (647740 : Int))] [] Z) eS) hb
    exact sv_less (lv := [(0, .ref 0), (1, sv_I p1), (2, sv_I (S 27 p1)), (3, sv_I (S 28 p1)), (4, sv_I (647740 : Int))]) (sv_Sub_cons rfl (sv_Sub_cons rfl (sv_Sub_cons rfl (sv_Sub_cons rfl (sv_Sub_cons rfl sv_Sub_nil))))) hb
  have J11 : ((S 26 p1) = (12 : Int)) → sv_T sm_XS sm_cs sm_L sm_sh 23 (q_ways p1 S) 265 600 [(0, .ref 0), (1, sv_I p1), (2, sv_I (S 27 p1)), (3, sv_I (S 28 p1)), (4, sv_I (647740 : Int))] [] (sv_sts (sv_up (sv_up (sv_up (sv_up S 1148 0 p1) 1149 0 (0 : Int)) 1150 0 (0 : Int)) 1147 0 (0 : Int)) [68, 69, 70, 81, 82, 83, 84, 85, 86, 74, 78, 79, 80, 76, 77, 1100031] g10) := by
    intro hc
    have h := hS.2.2.2.2.2.2.2.2.2.2.2.1 hc
    refine sv_aload_n hM dX12_ways_600 rfl rfl ?_
    obtain ⟨o554, h⟩ := h
    refine sv_callV hM dX12_ways_601 sm_iv_1252 (by decide) (sm_a0 _) rfl rfl (Nat.le_of_ble_eq_true rfl) sm_h277 (Nat.le_of_ble_eq_true rfl) (Nat.le_of_ble_eq_true rfl) (F' := 9) (Nat.le_of_ble_eq_true rfl) rfl (t_waysOfDelete  (sv_sts (sv_up (sv_up (sv_up (sv_up S 1148 0 p1) 1149 0 (0 : Int)) 1150 0 (0 : Int)) 1147 0 (0 : Int)) [68, 69, 70, 81, 82, 83, 84, 85, 86, 74, 78, 79, 80, 76, 77, 1100031] g10) ok11 o554) (fun v S1 hq => ?_)
    obtain ⟨rfl, ok556, md557, hpo558⟩ := hq
    obtain ⟨g555, rfl⟩ : ∃ g, S1 = sv_sts (sv_sts (sv_up (sv_up (sv_up (sv_up S 1148 0 p1) 1149 0 (0 : Int)) 1150 0 (0 : Int)) 1147 0 (0 : Int)) [68, 69, 70, 81, 82, 83, 84, 85, 86, 74, 78, 79, 80, 76, 77, 1100031] g10) [68, 69, 70, 81, 82, 83, 84, 85, 86, 71, 74, 75, 1127, 78, 79, 80, 72, 76, 77, 1143, 1144, 5, 1011, 1150, 1149, 1145, 1113, 1111, 1112, 1100031] g := ⟨_, md557.eq⟩
    show sv_T sm_XS sm_cs sm_L sm_sh 23 (q_ways p1 S) 265 604 [(0, .ref 0), (1, sv_I p1), (2, sv_I (S 27 p1)), (3, sv_I (S 28 p1)), (4, sv_I (647740 : Int))] [] (sv_sts (sv_sts (sv_up (sv_up (sv_up (sv_up S 1148 0 p1) 1149 0 (0 : Int)) 1150 0 (0 : Int)) 1147 0 (0 : Int)) [68, 69, 70, 81, 82, 83, 84, 85, 86, 74, 78, 79, 80, 76, 77, 1100031] g10) [68, 69, 70, 81, 82, 83, 84, 85, 86, 71, 74, 75, 1127, 78, 79, 80, 72, 76, 77, 1143, 1144, 5, 1011, 1150, 1149, 1145, 1113, 1111, 1112, 1100031] g555)
    have md559 : sv_mod [68, 69, 70, 81, 82, 83, 84, 85, 86, 71, 74, 75, 1127, 78, 79, 80, 72, 76, 77, 1143, 1144, 5, 1011, 1150, 1149, 1145, 1113, 1111, 1112, 91, 1147, 1100031, 1148, 73] S (sv_sts (sv_sts (sv_up (sv_up (sv_up (sv_up S 1148 0 p1) 1149 0 (0 : Int)) 1150 0 (0 : Int)) 1147 0 (0 : Int)) [68, 69, 70, 81, 82, 83, 84, 85, 86, 74, 78, 79, 80, 76, 77, 1100031] g10) [68, 69, 70, 81, 82, 83, 84, 85, 86, 71, 74, 75, 1127, 78, 79, 80, 72, 76, 77, 1143, 1144, 5, 1011, 1150, 1149, 1145, 1113, 1111, 1112, 1100031] g555) := sv_mod.sts md14 (by decide)
    have md560 : sv_mod [68, 69, 70, 81, 82, 83, 84, 85, 86, 71, 74, 75, 1127, 78, 79, 80, 72, 76, 77, 1143, 1144, 5, 1011, 1150, 1149, 1145, 1113, 1111, 1112, 91, 1147, 1100031] (sv_sts (sv_up (sv_up (sv_up (sv_up S 1148 0 p1) 1149 0 (0 : Int)) 1150 0 (0 : Int)) 1147 0 (0 : Int)) [68, 69, 70, 81, 82, 83, 84, 85, 86, 74, 78, 79, 80, 76, 77, 1100031] g10) (sv_sts (sv_sts (sv_up (sv_up (sv_up (sv_up S 1148 0 p1) 1149 0 (0 : Int)) 1150 0 (0 : Int)) 1147 0 (0 : Int)) [68, 69, 70, 81, 82, 83, 84, 85, 86, 74, 78, 79, 80, 76, 77, 1100031] g10) [68, 69, 70, 81, 82, 83, 84, 85, 86, 71, 74, 75, 1127, 78, 79, 80, 72, 76, 77, 1143, 1144, 5, 1011, 1150, 1149, 1145, 1113, 1111, 1112, 1100031] g555) := sv_mod.sts (sv_mod.rf (l := [68, 69, 70, 81, 82, 83, 84, 85, 86, 71, 74, 75, 1127, 78, 79, 80, 72, 76, 77, 1143, 1144, 5, 1011, 1150, 1149, 1145, 1113, 1111, 1112, 91, 1147, 1100031]) (S := (sv_sts (sv_up (sv_up (sv_up (sv_up S 1148 0 p1) 1149 0 (0 : Int)) 1150 0 (0 : Int)) 1147 0 (0 : Int)) [68, 69, 70, 81, 82, 83, 84, 85, 86, 74, 78, 79, 80, 76, 77, 1100031] g10))) (by decide)
    have h := h g555 hpo558
    refine sv_goto hM dX12_ways_604 (pc' := 665) rfl ?_
    have eS := sv_mod.eq md560
    have hb := J63 (sv_sts (sv_sts (sv_up (sv_up (sv_up (sv_up S 1148 0 p1) 1149 0 (0 : Int)) 1150 0 (0 : Int)) 1147 0 (0 : Int)) [68, 69, 70, 81, 82, 83, 84, 85, 86, 74, 78, 79, 80, 76, 77, 1100031] g10) [68, 69, 70, 81, 82, 83, 84, 85, 86, 71, 74, 75, 1127, 78, 79, 80, 72, 76, 77, 1143, 1144, 5, 1011, 1150, 1149, 1145, 1113, 1111, 1112, 1100031] g555) (by rw [← eS]; exact ok556) h
    have hb : sv_T sm_XS sm_cs sm_L sm_sh 23 (q_ways p1 S) 265 665 [(0, .ref 0), (1, sv_I p1), (2, sv_I (S 27 p1)), (3, sv_I (S 28 p1)), (4, sv_I (647740 : Int))] [] (sv_sts (sv_sts (sv_up (sv_up (sv_up (sv_up S 1148 0 p1) 1149 0 (0 : Int)) 1150 0 (0 : Int)) 1147 0 (0 : Int)) [68, 69, 70, 81, 82, 83, 84, 85, 86, 74, 78, 79, 80, 76, 77, 1100031] g10) [68, 69, 70, 81, 82, 83, 84, 85, 86, 71, 74, 75, 1127, 78, 79, 80, 72, 76, 77, 1143, 1144, 5, 1011, 1150, 1149, 1145, 1113, 1111, 1112, 1100031] g555) := Eq.mpr (congrArg (fun Z => sv_T sm_XS sm_cs sm_L sm_sh 23 (q_ways p1 S) 265 665 [(0, .ref 0), (1, sv_I p1), (2, sv_I (S 27 p1)), (3, sv_I (S 28 p1)), (4, sv_I (647740 : Int))] [] Z) eS) hb
    exact sv_less (lv := [(0, .ref 0), (1, sv_I p1), (2, sv_I (S 27 p1)), (3, sv_I (S 28 p1)), (4, sv_I (647740 : Int))]) (sv_Sub_cons rfl (sv_Sub_cons rfl (sv_Sub_cons rfl (sv_Sub_cons rfl (sv_Sub_cons rfl sv_Sub_nil))))) hb
  have J12 : ((S 26 p1) = (13 : Int)) → sv_T sm_XS sm_cs sm_L sm_sh 23 (q_ways p1 S) 265 607 [(0, .ref 0), (1, sv_I p1), (2, sv_I (S 27 p1)), (3, sv_I (S 28 p1)), (4, sv_I (647740 : Int))] [] (sv_sts (sv_up (sv_up (sv_up (sv_up S 1148 0 p1) 1149 0 (0 : Int)) 1150 0 (0 : Int)) 1147 0 (0 : Int)) [68, 69, 70, 81, 82, 83, 84, 85, 86, 74, 78, 79, 80, 76, 77, 1100031] g10) := by
    intro hc
    have h := hS.2.2.2.2.2.2.2.2.2.2.2.2.1 hc
    refine sv_aload_n hM dX12_ways_607 rfl rfl ?_
    refine sv_iload_n hM dX12_ways_608 rfl rfl ?_
    refine sv_aload_n hM dX12_ways_609 rfl rfl ?_
    refine sv_iconst (d := (0 : Int)) hM dX12_ways_610 rfl rfl ?_
    obtain ⟨o561, h⟩ := h
    refine sv_callV hM dX12_ways_611 sm_iv_1195 (by decide) (sm_a0 _) rfl rfl (Nat.le_of_ble_eq_true rfl) sm_h229 (Nat.le_of_ble_eq_true rfl) (Nat.le_of_ble_eq_true rfl) (F' := 0) (Nat.le_of_ble_eq_true rfl) rfl (t_fromTop (0 : Int) (sv_sts (sv_up (sv_up (sv_up (sv_up S 1148 0 p1) 1149 0 (0 : Int)) 1150 0 (0 : Int)) 1147 0 (0 : Int)) [68, 69, 70, 81, 82, 83, 84, 85, 86, 74, 78, 79, 80, 76, 77, 1100031] g10) ok11 (⟨by decide, by decide⟩ : sv_R (0 : Int)) o561) (fun v S1 hq => ?_)
    obtain ⟨r566, rfl, hr566, ok563, md564, hpo565⟩ := hq
    obtain rfl : (sv_sts (sv_up (sv_up (sv_up (sv_up S 1148 0 p1) 1149 0 (0 : Int)) 1150 0 (0 : Int)) 1147 0 (0 : Int)) [68, 69, 70, 81, 82, 83, 84, 85, 86, 74, 78, 79, 80, 76, 77, 1100031] g10) = S1 := (funext fun j => md564 j (by intro q; cases q)).symm
    show sv_T sm_XS sm_cs sm_L sm_sh 23 (q_ways p1 S) 265 614 [(0, .ref 0), (1, sv_I p1), (2, sv_I (S 27 p1)), (3, sv_I (S 28 p1)), (4, sv_I (647740 : Int))] [sv_I r566, sv_I (S 27 p1), .ref 0] (sv_sts (sv_up (sv_up (sv_up (sv_up S 1148 0 p1) 1149 0 (0 : Int)) 1150 0 (0 : Int)) 1147 0 (0 : Int)) [68, 69, 70, 81, 82, 83, 84, 85, 86, 74, 78, 79, 80, 76, 77, 1100031] g10)
    have h := h r566 hr566 hpo565
    refine sv_iload hM dX12_ways_614 rfl rfl ?_
    obtain ⟨o567, h⟩ := h
    refine sv_callV hM dX12_ways_616 sm_iv_1255 (by decide) (sm_a0 _) rfl rfl (Nat.le_of_ble_eq_true rfl) sm_h272 (Nat.le_of_ble_eq_true rfl) (Nat.le_of_ble_eq_true rfl) (F' := 4) (Nat.le_of_ble_eq_true rfl) rfl (t_unarySet (S 27 p1) r566 (647740 : Int) (sv_sts (sv_up (sv_up (sv_up (sv_up S 1148 0 p1) 1149 0 (0 : Int)) 1150 0 (0 : Int)) 1147 0 (0 : Int)) [68, 69, 70, 81, 82, 83, 84, 85, 86, 74, 78, 79, 80, 76, 77, 1100031] g10) ok563 k41 hr566 (⟨by decide, by decide⟩ : sv_R (647740 : Int)) o567) (fun v S1 hq => ?_)
    obtain ⟨rfl, ok569, md570, hpo571⟩ := hq
    obtain ⟨g568, rfl⟩ : ∃ g, S1 = sv_sts (sv_sts (sv_up (sv_up (sv_up (sv_up S 1148 0 p1) 1149 0 (0 : Int)) 1150 0 (0 : Int)) 1147 0 (0 : Int)) [68, 69, 70, 81, 82, 83, 84, 85, 86, 74, 78, 79, 80, 76, 77, 1100031] g10) [68, 69, 70, 1113, 1111, 1112] g := ⟨_, md570.eq⟩
    show sv_T sm_XS sm_cs sm_L sm_sh 23 (q_ways p1 S) 265 619 [(0, .ref 0), (1, sv_I p1), (2, sv_I (S 27 p1)), (3, sv_I (S 28 p1)), (4, sv_I (647740 : Int))] [] (sv_sts (sv_sts (sv_up (sv_up (sv_up (sv_up S 1148 0 p1) 1149 0 (0 : Int)) 1150 0 (0 : Int)) 1147 0 (0 : Int)) [68, 69, 70, 81, 82, 83, 84, 85, 86, 74, 78, 79, 80, 76, 77, 1100031] g10) [68, 69, 70, 1113, 1111, 1112] g568)
    have md572 : sv_mod [68, 69, 70, 81, 82, 83, 84, 85, 86, 71, 74, 75, 1127, 78, 79, 80, 72, 76, 77, 1143, 1144, 5, 1011, 1150, 1149, 1145, 1113, 1111, 1112, 91, 1147, 1100031, 1148, 73] S (sv_sts (sv_sts (sv_up (sv_up (sv_up (sv_up S 1148 0 p1) 1149 0 (0 : Int)) 1150 0 (0 : Int)) 1147 0 (0 : Int)) [68, 69, 70, 81, 82, 83, 84, 85, 86, 74, 78, 79, 80, 76, 77, 1100031] g10) [68, 69, 70, 1113, 1111, 1112] g568) := sv_mod.sts md14 (by decide)
    have md573 : sv_mod [68, 69, 70, 81, 82, 83, 84, 85, 86, 71, 74, 75, 1127, 78, 79, 80, 72, 76, 77, 1143, 1144, 5, 1011, 1150, 1149, 1145, 1113, 1111, 1112, 91, 1147, 1100031] (sv_sts (sv_up (sv_up (sv_up (sv_up S 1148 0 p1) 1149 0 (0 : Int)) 1150 0 (0 : Int)) 1147 0 (0 : Int)) [68, 69, 70, 81, 82, 83, 84, 85, 86, 74, 78, 79, 80, 76, 77, 1100031] g10) (sv_sts (sv_sts (sv_up (sv_up (sv_up (sv_up S 1148 0 p1) 1149 0 (0 : Int)) 1150 0 (0 : Int)) 1147 0 (0 : Int)) [68, 69, 70, 81, 82, 83, 84, 85, 86, 74, 78, 79, 80, 76, 77, 1100031] g10) [68, 69, 70, 1113, 1111, 1112] g568) := sv_mod.sts (sv_mod.rf (l := [68, 69, 70, 81, 82, 83, 84, 85, 86, 71, 74, 75, 1127, 78, 79, 80, 72, 76, 77, 1143, 1144, 5, 1011, 1150, 1149, 1145, 1113, 1111, 1112, 91, 1147, 1100031]) (S := (sv_sts (sv_up (sv_up (sv_up (sv_up S 1148 0 p1) 1149 0 (0 : Int)) 1150 0 (0 : Int)) 1147 0 (0 : Int)) [68, 69, 70, 81, 82, 83, 84, 85, 86, 74, 78, 79, 80, 76, 77, 1100031] g10))) (by decide)
    have h := h g568 hpo571
    refine sv_aload_n hM dX12_ways_619 rfl rfl ?_
    refine sv_iconst (d := (1 : Int)) hM dX12_ways_620 rfl rfl ?_
    refine sv_iload hM dX12_ways_621 rfl rfl ?_
    obtain ⟨o574, h⟩ := h
    refine sv_callV hM dX12_ways_623 sm_iv_1258 (by decide) (sm_a0 _) rfl rfl (Nat.le_of_ble_eq_true rfl) sm_h267 (Nat.le_of_ble_eq_true rfl) (Nat.le_of_ble_eq_true rfl) (F' := 5) (Nat.le_of_ble_eq_true rfl) rfl (t_replace (1 : Int) (647740 : Int) (sv_sts (sv_sts (sv_up (sv_up (sv_up (sv_up S 1148 0 p1) 1149 0 (0 : Int)) 1150 0 (0 : Int)) 1147 0 (0 : Int)) [68, 69, 70, 81, 82, 83, 84, 85, 86, 74, 78, 79, 80, 76, 77, 1100031] g10) [68, 69, 70, 1113, 1111, 1112] g568) ok569 (⟨by decide, by decide⟩ : sv_R (1 : Int)) (⟨by decide, by decide⟩ : sv_R (647740 : Int)) o574) (fun v S1 hq => ?_)
    obtain ⟨rfl, ok576, md577, hpo578⟩ := hq
    obtain ⟨g575, rfl⟩ : ∃ g, S1 = sv_sts (sv_sts (sv_sts (sv_up (sv_up (sv_up (sv_up S 1148 0 p1) 1149 0 (0 : Int)) 1150 0 (0 : Int)) 1147 0 (0 : Int)) [68, 69, 70, 81, 82, 83, 84, 85, 86, 74, 78, 79, 80, 76, 77, 1100031] g10) [68, 69, 70, 1113, 1111, 1112] g568) [68, 69, 70, 81, 82, 83, 84, 85, 86, 71, 74, 75, 1127, 78, 79, 80, 72, 76, 77, 1150] g := ⟨_, md577.eq⟩
    show sv_T sm_XS sm_cs sm_L sm_sh 23 (q_ways p1 S) 265 626 [(0, .ref 0), (1, sv_I p1), (2, sv_I (S 27 p1)), (3, sv_I (S 28 p1)), (4, sv_I (647740 : Int))] [] (sv_sts (sv_sts (sv_sts (sv_up (sv_up (sv_up (sv_up S 1148 0 p1) 1149 0 (0 : Int)) 1150 0 (0 : Int)) 1147 0 (0 : Int)) [68, 69, 70, 81, 82, 83, 84, 85, 86, 74, 78, 79, 80, 76, 77, 1100031] g10) [68, 69, 70, 1113, 1111, 1112] g568) [68, 69, 70, 81, 82, 83, 84, 85, 86, 71, 74, 75, 1127, 78, 79, 80, 72, 76, 77, 1150] g575)
    have md579 : sv_mod [68, 69, 70, 81, 82, 83, 84, 85, 86, 71, 74, 75, 1127, 78, 79, 80, 72, 76, 77, 1143, 1144, 5, 1011, 1150, 1149, 1145, 1113, 1111, 1112, 91, 1147, 1100031, 1148, 73] S (sv_sts (sv_sts (sv_sts (sv_up (sv_up (sv_up (sv_up S 1148 0 p1) 1149 0 (0 : Int)) 1150 0 (0 : Int)) 1147 0 (0 : Int)) [68, 69, 70, 81, 82, 83, 84, 85, 86, 74, 78, 79, 80, 76, 77, 1100031] g10) [68, 69, 70, 1113, 1111, 1112] g568) [68, 69, 70, 81, 82, 83, 84, 85, 86, 71, 74, 75, 1127, 78, 79, 80, 72, 76, 77, 1150] g575) := sv_mod.sts md572 (by decide)
    have md580 : sv_mod [68, 69, 70, 81, 82, 83, 84, 85, 86, 71, 74, 75, 1127, 78, 79, 80, 72, 76, 77, 1143, 1144, 5, 1011, 1150, 1149, 1145, 1113, 1111, 1112, 91, 1147, 1100031] (sv_sts (sv_up (sv_up (sv_up (sv_up S 1148 0 p1) 1149 0 (0 : Int)) 1150 0 (0 : Int)) 1147 0 (0 : Int)) [68, 69, 70, 81, 82, 83, 84, 85, 86, 74, 78, 79, 80, 76, 77, 1100031] g10) (sv_sts (sv_sts (sv_sts (sv_up (sv_up (sv_up (sv_up S 1148 0 p1) 1149 0 (0 : Int)) 1150 0 (0 : Int)) 1147 0 (0 : Int)) [68, 69, 70, 81, 82, 83, 84, 85, 86, 74, 78, 79, 80, 76, 77, 1100031] g10) [68, 69, 70, 1113, 1111, 1112] g568) [68, 69, 70, 81, 82, 83, 84, 85, 86, 71, 74, 75, 1127, 78, 79, 80, 72, 76, 77, 1150] g575) := sv_mod.sts md573 (by decide)
    have h := h g575 hpo578
    refine sv_goto hM dX12_ways_626 (pc' := 665) rfl ?_
    have eS := sv_mod.eq md580
    have hb := J63 (sv_sts (sv_sts (sv_sts (sv_up (sv_up (sv_up (sv_up S 1148 0 p1) 1149 0 (0 : Int)) 1150 0 (0 : Int)) 1147 0 (0 : Int)) [68, 69, 70, 81, 82, 83, 84, 85, 86, 74, 78, 79, 80, 76, 77, 1100031] g10) [68, 69, 70, 1113, 1111, 1112] g568) [68, 69, 70, 81, 82, 83, 84, 85, 86, 71, 74, 75, 1127, 78, 79, 80, 72, 76, 77, 1150] g575) (by rw [← eS]; exact ok576) h
    have hb : sv_T sm_XS sm_cs sm_L sm_sh 23 (q_ways p1 S) 265 665 [(0, .ref 0), (1, sv_I p1), (2, sv_I (S 27 p1)), (3, sv_I (S 28 p1)), (4, sv_I (647740 : Int))] [] (sv_sts (sv_sts (sv_sts (sv_up (sv_up (sv_up (sv_up S 1148 0 p1) 1149 0 (0 : Int)) 1150 0 (0 : Int)) 1147 0 (0 : Int)) [68, 69, 70, 81, 82, 83, 84, 85, 86, 74, 78, 79, 80, 76, 77, 1100031] g10) [68, 69, 70, 1113, 1111, 1112] g568) [68, 69, 70, 81, 82, 83, 84, 85, 86, 71, 74, 75, 1127, 78, 79, 80, 72, 76, 77, 1150] g575) := Eq.mpr (congrArg (fun Z => sv_T sm_XS sm_cs sm_L sm_sh 23 (q_ways p1 S) 265 665 [(0, .ref 0), (1, sv_I p1), (2, sv_I (S 27 p1)), (3, sv_I (S 28 p1)), (4, sv_I (647740 : Int))] [] Z) eS) hb
    exact sv_less (lv := [(0, .ref 0), (1, sv_I p1), (2, sv_I (S 27 p1)), (3, sv_I (S 28 p1)), (4, sv_I (647740 : Int))]) (sv_Sub_cons rfl (sv_Sub_cons rfl (sv_Sub_cons rfl (sv_Sub_cons rfl (sv_Sub_cons rfl sv_Sub_nil))))) hb
  have J13 : ((S 26 p1) = (14 : Int)) → sv_T sm_XS sm_cs sm_L sm_sh 23 (q_ways p1 S) 265 629 [(0, .ref 0), (1, sv_I p1), (2, sv_I (S 27 p1)), (3, sv_I (S 28 p1)), (4, sv_I (647740 : Int))] [] (sv_sts (sv_up (sv_up (sv_up (sv_up S 1148 0 p1) 1149 0 (0 : Int)) 1150 0 (0 : Int)) 1147 0 (0 : Int)) [68, 69, 70, 81, 82, 83, 84, 85, 86, 74, 78, 79, 80, 76, 77, 1100031] g10) := by
    intro hc
    have h := hS.2.2.2.2.2.2.2.2.2.2.2.2.2.1 hc
    refine sv_aload_n hM dX12_ways_629 rfl rfl ?_
    refine sv_iload_n hM dX12_ways_630 rfl rfl ?_
    obtain ⟨o581, h⟩ := h
    refine sv_callV hM dX12_ways_631 sm_iv_1261 (by decide) (sm_a0 _) rfl rfl (Nat.le_of_ble_eq_true rfl) sm_h278 (Nat.le_of_ble_eq_true rfl) (Nat.le_of_ble_eq_true rfl) (F' := 9) (Nat.le_of_ble_eq_true rfl) rfl (t_waysOfBinary (S 27 p1) (sv_sts (sv_up (sv_up (sv_up (sv_up S 1148 0 p1) 1149 0 (0 : Int)) 1150 0 (0 : Int)) 1147 0 (0 : Int)) [68, 69, 70, 81, 82, 83, 84, 85, 86, 74, 78, 79, 80, 76, 77, 1100031] g10) ok11 k41 o581) (fun v S1 hq => ?_)
    obtain ⟨rfl, ok583, md584, hpo585⟩ := hq
    obtain ⟨g582, rfl⟩ : ∃ g, S1 = sv_sts (sv_sts (sv_up (sv_up (sv_up (sv_up S 1148 0 p1) 1149 0 (0 : Int)) 1150 0 (0 : Int)) 1147 0 (0 : Int)) [68, 69, 70, 81, 82, 83, 84, 85, 86, 74, 78, 79, 80, 76, 77, 1100031] g10) [68, 69, 70, 81, 82, 83, 84, 85, 86, 71, 74, 75, 1127, 78, 79, 80, 72, 76, 77, 1143, 1144, 5, 1011, 1150, 1149, 1145, 1113, 1111, 1112, 1100031] g := ⟨_, md584.eq⟩
    show sv_T sm_XS sm_cs sm_L sm_sh 23 (q_ways p1 S) 265 634 [(0, .ref 0), (1, sv_I p1), (2, sv_I (S 27 p1)), (3, sv_I (S 28 p1)), (4, sv_I (647740 : Int))] [] (sv_sts (sv_sts (sv_up (sv_up (sv_up (sv_up S 1148 0 p1) 1149 0 (0 : Int)) 1150 0 (0 : Int)) 1147 0 (0 : Int)) [68, 69, 70, 81, 82, 83, 84, 85, 86, 74, 78, 79, 80, 76, 77, 1100031] g10) [68, 69, 70, 81, 82, 83, 84, 85, 86, 71, 74, 75, 1127, 78, 79, 80, 72, 76, 77, 1143, 1144, 5, 1011, 1150, 1149, 1145, 1113, 1111, 1112, 1100031] g582)
    have md586 : sv_mod [68, 69, 70, 81, 82, 83, 84, 85, 86, 71, 74, 75, 1127, 78, 79, 80, 72, 76, 77, 1143, 1144, 5, 1011, 1150, 1149, 1145, 1113, 1111, 1112, 91, 1147, 1100031, 1148, 73] S (sv_sts (sv_sts (sv_up (sv_up (sv_up (sv_up S 1148 0 p1) 1149 0 (0 : Int)) 1150 0 (0 : Int)) 1147 0 (0 : Int)) [68, 69, 70, 81, 82, 83, 84, 85, 86, 74, 78, 79, 80, 76, 77, 1100031] g10) [68, 69, 70, 81, 82, 83, 84, 85, 86, 71, 74, 75, 1127, 78, 79, 80, 72, 76, 77, 1143, 1144, 5, 1011, 1150, 1149, 1145, 1113, 1111, 1112, 1100031] g582) := sv_mod.sts md14 (by decide)
    have md587 : sv_mod [68, 69, 70, 81, 82, 83, 84, 85, 86, 71, 74, 75, 1127, 78, 79, 80, 72, 76, 77, 1143, 1144, 5, 1011, 1150, 1149, 1145, 1113, 1111, 1112, 91, 1147, 1100031] (sv_sts (sv_up (sv_up (sv_up (sv_up S 1148 0 p1) 1149 0 (0 : Int)) 1150 0 (0 : Int)) 1147 0 (0 : Int)) [68, 69, 70, 81, 82, 83, 84, 85, 86, 74, 78, 79, 80, 76, 77, 1100031] g10) (sv_sts (sv_sts (sv_up (sv_up (sv_up (sv_up S 1148 0 p1) 1149 0 (0 : Int)) 1150 0 (0 : Int)) 1147 0 (0 : Int)) [68, 69, 70, 81, 82, 83, 84, 85, 86, 74, 78, 79, 80, 76, 77, 1100031] g10) [68, 69, 70, 81, 82, 83, 84, 85, 86, 71, 74, 75, 1127, 78, 79, 80, 72, 76, 77, 1143, 1144, 5, 1011, 1150, 1149, 1145, 1113, 1111, 1112, 1100031] g582) := sv_mod.sts (sv_mod.rf (l := [68, 69, 70, 81, 82, 83, 84, 85, 86, 71, 74, 75, 1127, 78, 79, 80, 72, 76, 77, 1143, 1144, 5, 1011, 1150, 1149, 1145, 1113, 1111, 1112, 91, 1147, 1100031]) (S := (sv_sts (sv_up (sv_up (sv_up (sv_up S 1148 0 p1) 1149 0 (0 : Int)) 1150 0 (0 : Int)) 1147 0 (0 : Int)) [68, 69, 70, 81, 82, 83, 84, 85, 86, 74, 78, 79, 80, 76, 77, 1100031] g10))) (by decide)
    have h := h g582 hpo585
    refine sv_goto hM dX12_ways_634 (pc' := 665) rfl ?_
    have eS := sv_mod.eq md587
    have hb := J63 (sv_sts (sv_sts (sv_up (sv_up (sv_up (sv_up S 1148 0 p1) 1149 0 (0 : Int)) 1150 0 (0 : Int)) 1147 0 (0 : Int)) [68, 69, 70, 81, 82, 83, 84, 85, 86, 74, 78, 79, 80, 76, 77, 1100031] g10) [68, 69, 70, 81, 82, 83, 84, 85, 86, 71, 74, 75, 1127, 78, 79, 80, 72, 76, 77, 1143, 1144, 5, 1011, 1150, 1149, 1145, 1113, 1111, 1112, 1100031] g582) (by rw [← eS]; exact ok583) h
    have hb : sv_T sm_XS sm_cs sm_L sm_sh 23 (q_ways p1 S) 265 665 [(0, .ref 0), (1, sv_I p1), (2, sv_I (S 27 p1)), (3, sv_I (S 28 p1)), (4, sv_I (647740 : Int))] [] (sv_sts (sv_sts (sv_up (sv_up (sv_up (sv_up S 1148 0 p1) 1149 0 (0 : Int)) 1150 0 (0 : Int)) 1147 0 (0 : Int)) [68, 69, 70, 81, 82, 83, 84, 85, 86, 74, 78, 79, 80, 76, 77, 1100031] g10) [68, 69, 70, 81, 82, 83, 84, 85, 86, 71, 74, 75, 1127, 78, 79, 80, 72, 76, 77, 1143, 1144, 5, 1011, 1150, 1149, 1145, 1113, 1111, 1112, 1100031] g582) := Eq.mpr (congrArg (fun Z => sv_T sm_XS sm_cs sm_L sm_sh 23 (q_ways p1 S) 265 665 [(0, .ref 0), (1, sv_I p1), (2, sv_I (S 27 p1)), (3, sv_I (S 28 p1)), (4, sv_I (647740 : Int))] [] Z) eS) hb
    exact sv_less (lv := [(0, .ref 0), (1, sv_I p1), (2, sv_I (S 27 p1)), (3, sv_I (S 28 p1)), (4, sv_I (647740 : Int))]) (sv_Sub_cons rfl (sv_Sub_cons rfl (sv_Sub_cons rfl (sv_Sub_cons rfl (sv_Sub_cons rfl sv_Sub_nil))))) hb
  have J14 : ((S 26 p1) = (15 : Int)) → sv_T sm_XS sm_cs sm_L sm_sh 23 (q_ways p1 S) 265 637 [(0, .ref 0), (1, sv_I p1), (2, sv_I (S 27 p1)), (3, sv_I (S 28 p1)), (4, sv_I (647740 : Int))] [] (sv_sts (sv_up (sv_up (sv_up (sv_up S 1148 0 p1) 1149 0 (0 : Int)) 1150 0 (0 : Int)) 1147 0 (0 : Int)) [68, 69, 70, 81, 82, 83, 84, 85, 86, 74, 78, 79, 80, 76, 77, 1100031] g10) := by
    intro hc
    have h := hS.2.2.2.2.2.2.2.2.2.2.2.2.2.2.1 hc
    refine sv_aload_n hM dX12_ways_637 rfl rfl ?_
    refine sv_iload_n hM dX12_ways_638 rfl rfl ?_
    obtain ⟨o588, h⟩ := h
    refine sv_callV hM dX12_ways_639 sm_iv_1264 (by decide) (sm_a0 _) rfl rfl (Nat.le_of_ble_eq_true rfl) sm_h280 (Nat.le_of_ble_eq_true rfl) (Nat.le_of_ble_eq_true rfl) (F' := 22) (Nat.le_of_ble_eq_true rfl) rfl (t_waysOfCall (S 27 p1) (sv_sts (sv_up (sv_up (sv_up (sv_up S 1148 0 p1) 1149 0 (0 : Int)) 1150 0 (0 : Int)) 1147 0 (0 : Int)) [68, 69, 70, 81, 82, 83, 84, 85, 86, 74, 78, 79, 80, 76, 77, 1100031] g10) ok11 k41 o588) (fun v S1 hq => ?_)
    obtain ⟨rfl, ok590, md591, hpo592⟩ := hq
    obtain ⟨g589, rfl⟩ : ∃ g, S1 = sv_sts (sv_sts (sv_up (sv_up (sv_up (sv_up S 1148 0 p1) 1149 0 (0 : Int)) 1150 0 (0 : Int)) 1147 0 (0 : Int)) [68, 69, 70, 81, 82, 83, 84, 85, 86, 74, 78, 79, 80, 76, 77, 1100031] g10) [68, 69, 70, 81, 82, 83, 84, 85, 86, 71, 74, 75, 1127, 78, 79, 80, 72, 76, 77, 1143, 1144, 5, 1011, 1150, 1149, 1145, 1113, 1111, 1112, 91, 1147, 1100031] g := ⟨_, md591.eq⟩
    show sv_T sm_XS sm_cs sm_L sm_sh 23 (q_ways p1 S) 265 642 [(0, .ref 0), (1, sv_I p1), (2, sv_I (S 27 p1)), (3, sv_I (S 28 p1)), (4, sv_I (647740 : Int))] [] (sv_sts (sv_sts (sv_up (sv_up (sv_up (sv_up S 1148 0 p1) 1149 0 (0 : Int)) 1150 0 (0 : Int)) 1147 0 (0 : Int)) [68, 69, 70, 81, 82, 83, 84, 85, 86, 74, 78, 79, 80, 76, 77, 1100031] g10) [68, 69, 70, 81, 82, 83, 84, 85, 86, 71, 74, 75, 1127, 78, 79, 80, 72, 76, 77, 1143, 1144, 5, 1011, 1150, 1149, 1145, 1113, 1111, 1112, 91, 1147, 1100031] g589)
    have md593 : sv_mod [68, 69, 70, 81, 82, 83, 84, 85, 86, 71, 74, 75, 1127, 78, 79, 80, 72, 76, 77, 1143, 1144, 5, 1011, 1150, 1149, 1145, 1113, 1111, 1112, 91, 1147, 1100031, 1148, 73] S (sv_sts (sv_sts (sv_up (sv_up (sv_up (sv_up S 1148 0 p1) 1149 0 (0 : Int)) 1150 0 (0 : Int)) 1147 0 (0 : Int)) [68, 69, 70, 81, 82, 83, 84, 85, 86, 74, 78, 79, 80, 76, 77, 1100031] g10) [68, 69, 70, 81, 82, 83, 84, 85, 86, 71, 74, 75, 1127, 78, 79, 80, 72, 76, 77, 1143, 1144, 5, 1011, 1150, 1149, 1145, 1113, 1111, 1112, 91, 1147, 1100031] g589) := sv_mod.sts md14 (by decide)
    have md594 : sv_mod [68, 69, 70, 81, 82, 83, 84, 85, 86, 71, 74, 75, 1127, 78, 79, 80, 72, 76, 77, 1143, 1144, 5, 1011, 1150, 1149, 1145, 1113, 1111, 1112, 91, 1147, 1100031] (sv_sts (sv_up (sv_up (sv_up (sv_up S 1148 0 p1) 1149 0 (0 : Int)) 1150 0 (0 : Int)) 1147 0 (0 : Int)) [68, 69, 70, 81, 82, 83, 84, 85, 86, 74, 78, 79, 80, 76, 77, 1100031] g10) (sv_sts (sv_sts (sv_up (sv_up (sv_up (sv_up S 1148 0 p1) 1149 0 (0 : Int)) 1150 0 (0 : Int)) 1147 0 (0 : Int)) [68, 69, 70, 81, 82, 83, 84, 85, 86, 74, 78, 79, 80, 76, 77, 1100031] g10) [68, 69, 70, 81, 82, 83, 84, 85, 86, 71, 74, 75, 1127, 78, 79, 80, 72, 76, 77, 1143, 1144, 5, 1011, 1150, 1149, 1145, 1113, 1111, 1112, 91, 1147, 1100031] g589) := sv_mod.sts (sv_mod.rf (l := [68, 69, 70, 81, 82, 83, 84, 85, 86, 71, 74, 75, 1127, 78, 79, 80, 72, 76, 77, 1143, 1144, 5, 1011, 1150, 1149, 1145, 1113, 1111, 1112, 91, 1147, 1100031]) (S := (sv_sts (sv_up (sv_up (sv_up (sv_up S 1148 0 p1) 1149 0 (0 : Int)) 1150 0 (0 : Int)) 1147 0 (0 : Int)) [68, 69, 70, 81, 82, 83, 84, 85, 86, 74, 78, 79, 80, 76, 77, 1100031] g10))) (by decide)
    have h := h g589 hpo592
    refine sv_goto hM dX12_ways_642 (pc' := 665) rfl ?_
    have eS := sv_mod.eq md594
    have hb := J63 (sv_sts (sv_sts (sv_up (sv_up (sv_up (sv_up S 1148 0 p1) 1149 0 (0 : Int)) 1150 0 (0 : Int)) 1147 0 (0 : Int)) [68, 69, 70, 81, 82, 83, 84, 85, 86, 74, 78, 79, 80, 76, 77, 1100031] g10) [68, 69, 70, 81, 82, 83, 84, 85, 86, 71, 74, 75, 1127, 78, 79, 80, 72, 76, 77, 1143, 1144, 5, 1011, 1150, 1149, 1145, 1113, 1111, 1112, 91, 1147, 1100031] g589) (by rw [← eS]; exact ok590) h
    have hb : sv_T sm_XS sm_cs sm_L sm_sh 23 (q_ways p1 S) 265 665 [(0, .ref 0), (1, sv_I p1), (2, sv_I (S 27 p1)), (3, sv_I (S 28 p1)), (4, sv_I (647740 : Int))] [] (sv_sts (sv_sts (sv_up (sv_up (sv_up (sv_up S 1148 0 p1) 1149 0 (0 : Int)) 1150 0 (0 : Int)) 1147 0 (0 : Int)) [68, 69, 70, 81, 82, 83, 84, 85, 86, 74, 78, 79, 80, 76, 77, 1100031] g10) [68, 69, 70, 81, 82, 83, 84, 85, 86, 71, 74, 75, 1127, 78, 79, 80, 72, 76, 77, 1143, 1144, 5, 1011, 1150, 1149, 1145, 1113, 1111, 1112, 91, 1147, 1100031] g589) := Eq.mpr (congrArg (fun Z => sv_T sm_XS sm_cs sm_L sm_sh 23 (q_ways p1 S) 265 665 [(0, .ref 0), (1, sv_I p1), (2, sv_I (S 27 p1)), (3, sv_I (S 28 p1)), (4, sv_I (647740 : Int))] [] Z) eS) hb
    exact sv_less (lv := [(0, .ref 0), (1, sv_I p1), (2, sv_I (S 27 p1)), (3, sv_I (S 28 p1)), (4, sv_I (647740 : Int))]) (sv_Sub_cons rfl (sv_Sub_cons rfl (sv_Sub_cons rfl (sv_Sub_cons rfl (sv_Sub_cons rfl sv_Sub_nil))))) hb
  have J15 : ((S 26 p1) = (16 : Int)) → sv_T sm_XS sm_cs sm_L sm_sh 23 (q_ways p1 S) 265 645 [(0, .ref 0), (1, sv_I p1), (2, sv_I (S 27 p1)), (3, sv_I (S 28 p1)), (4, sv_I (647740 : Int))] [] (sv_sts (sv_up (sv_up (sv_up (sv_up S 1148 0 p1) 1149 0 (0 : Int)) 1150 0 (0 : Int)) 1147 0 (0 : Int)) [68, 69, 70, 81, 82, 83, 84, 85, 86, 74, 78, 79, 80, 76, 77, 1100031] g10) := by
    intro hc
    have h := hS.2.2.2.2.2.2.2.2.2.2.2.2.2.2.2 hc
    refine sv_aload_n hM dX12_ways_645 rfl rfl ?_
    refine sv_iload_n hM dX12_ways_646 rfl rfl ?_
    refine sv_iload_n hM dX12_ways_647 rfl rfl ?_
    obtain ⟨o595, h⟩ := h
    refine sv_callV hM dX12_ways_648 sm_iv_1267 (by decide) (sm_a0 _) rfl rfl (Nat.le_of_ble_eq_true rfl) sm_h282 (Nat.le_of_ble_eq_true rfl) (Nat.le_of_ble_eq_true rfl) (F' := 10) (Nat.le_of_ble_eq_true rfl) rfl (t_waysOfNew (S 27 p1) (S 28 p1) (sv_sts (sv_up (sv_up (sv_up (sv_up S 1148 0 p1) 1149 0 (0 : Int)) 1150 0 (0 : Int)) 1147 0 (0 : Int)) [68, 69, 70, 81, 82, 83, 84, 85, 86, 74, 78, 79, 80, 76, 77, 1100031] g10) ok11 k41 k42 o595) (fun v S1 hq => ?_)
    obtain ⟨rfl, ok597, md598, hpo599⟩ := hq
    obtain ⟨g596, rfl⟩ : ∃ g, S1 = sv_sts (sv_sts (sv_up (sv_up (sv_up (sv_up S 1148 0 p1) 1149 0 (0 : Int)) 1150 0 (0 : Int)) 1147 0 (0 : Int)) [68, 69, 70, 81, 82, 83, 84, 85, 86, 74, 78, 79, 80, 76, 77, 1100031] g10) [68, 69, 70, 81, 82, 83, 84, 85, 86, 71, 74, 75, 1127, 78, 79, 80, 72, 76, 77, 1143, 1144, 5, 1011, 1150, 1149, 1145, 1113, 1111, 1112, 91, 1147, 1100031] g := ⟨_, md598.eq⟩
    show sv_T sm_XS sm_cs sm_L sm_sh 23 (q_ways p1 S) 265 651 [(0, .ref 0), (1, sv_I p1), (2, sv_I (S 27 p1)), (3, sv_I (S 28 p1)), (4, sv_I (647740 : Int))] [] (sv_sts (sv_sts (sv_up (sv_up (sv_up (sv_up S 1148 0 p1) 1149 0 (0 : Int)) 1150 0 (0 : Int)) 1147 0 (0 : Int)) [68, 69, 70, 81, 82, 83, 84, 85, 86, 74, 78, 79, 80, 76, 77, 1100031] g10) [68, 69, 70, 81, 82, 83, 84, 85, 86, 71, 74, 75, 1127, 78, 79, 80, 72, 76, 77, 1143, 1144, 5, 1011, 1150, 1149, 1145, 1113, 1111, 1112, 91, 1147, 1100031] g596)
    have md600 : sv_mod [68, 69, 70, 81, 82, 83, 84, 85, 86, 71, 74, 75, 1127, 78, 79, 80, 72, 76, 77, 1143, 1144, 5, 1011, 1150, 1149, 1145, 1113, 1111, 1112, 91, 1147, 1100031, 1148, 73] S (sv_sts (sv_sts (sv_up (sv_up (sv_up (sv_up S 1148 0 p1) 1149 0 (0 : Int)) 1150 0 (0 : Int)) 1147 0 (0 : Int)) [68, 69, 70, 81, 82, 83, 84, 85, 86, 74, 78, 79, 80, 76, 77, 1100031] g10) [68, 69, 70, 81, 82, 83, 84, 85, 86, 71, 74, 75, 1127, 78, 79, 80, 72, 76, 77, 1143, 1144, 5, 1011, 1150, 1149, 1145, 1113, 1111, 1112, 91, 1147, 1100031] g596) := sv_mod.sts md14 (by decide)
    have md601 : sv_mod [68, 69, 70, 81, 82, 83, 84, 85, 86, 71, 74, 75, 1127, 78, 79, 80, 72, 76, 77, 1143, 1144, 5, 1011, 1150, 1149, 1145, 1113, 1111, 1112, 91, 1147, 1100031] (sv_sts (sv_up (sv_up (sv_up (sv_up S 1148 0 p1) 1149 0 (0 : Int)) 1150 0 (0 : Int)) 1147 0 (0 : Int)) [68, 69, 70, 81, 82, 83, 84, 85, 86, 74, 78, 79, 80, 76, 77, 1100031] g10) (sv_sts (sv_sts (sv_up (sv_up (sv_up (sv_up S 1148 0 p1) 1149 0 (0 : Int)) 1150 0 (0 : Int)) 1147 0 (0 : Int)) [68, 69, 70, 81, 82, 83, 84, 85, 86, 74, 78, 79, 80, 76, 77, 1100031] g10) [68, 69, 70, 81, 82, 83, 84, 85, 86, 71, 74, 75, 1127, 78, 79, 80, 72, 76, 77, 1143, 1144, 5, 1011, 1150, 1149, 1145, 1113, 1111, 1112, 91, 1147, 1100031] g596) := sv_mod.sts (sv_mod.rf (l := [68, 69, 70, 81, 82, 83, 84, 85, 86, 71, 74, 75, 1127, 78, 79, 80, 72, 76, 77, 1143, 1144, 5, 1011, 1150, 1149, 1145, 1113, 1111, 1112, 91, 1147, 1100031]) (S := (sv_sts (sv_up (sv_up (sv_up (sv_up S 1148 0 p1) 1149 0 (0 : Int)) 1150 0 (0 : Int)) 1147 0 (0 : Int)) [68, 69, 70, 81, 82, 83, 84, 85, 86, 74, 78, 79, 80, 76, 77, 1100031] g10))) (by decide)
    have h := h g596 hpo599
    refine sv_goto hM dX12_ways_651 (pc' := 665) rfl ?_
    have eS := sv_mod.eq md601
    have hb := J63 (sv_sts (sv_sts (sv_up (sv_up (sv_up (sv_up S 1148 0 p1) 1149 0 (0 : Int)) 1150 0 (0 : Int)) 1147 0 (0 : Int)) [68, 69, 70, 81, 82, 83, 84, 85, 86, 74, 78, 79, 80, 76, 77, 1100031] g10) [68, 69, 70, 81, 82, 83, 84, 85, 86, 71, 74, 75, 1127, 78, 79, 80, 72, 76, 77, 1143, 1144, 5, 1011, 1150, 1149, 1145, 1113, 1111, 1112, 91, 1147, 1100031] g596) (by rw [← eS]; exact ok597) h
    have hb : sv_T sm_XS sm_cs sm_L sm_sh 23 (q_ways p1 S) 265 665 [(0, .ref 0), (1, sv_I p1), (2, sv_I (S 27 p1)), (3, sv_I (S 28 p1)), (4, sv_I (647740 : Int))] [] (sv_sts (sv_sts (sv_up (sv_up (sv_up (sv_up S 1148 0 p1) 1149 0 (0 : Int)) 1150 0 (0 : Int)) 1147 0 (0 : Int)) [68, 69, 70, 81, 82, 83, 84, 85, 86, 74, 78, 79, 80, 76, 77, 1100031] g10) [68, 69, 70, 81, 82, 83, 84, 85, 86, 71, 74, 75, 1127, 78, 79, 80, 72, 76, 77, 1143, 1144, 5, 1011, 1150, 1149, 1145, 1113, 1111, 1112, 91, 1147, 1100031] g596) := Eq.mpr (congrArg (fun Z => sv_T sm_XS sm_cs sm_L sm_sh 23 (q_ways p1 S) 265 665 [(0, .ref 0), (1, sv_I p1), (2, sv_I (S 27 p1)), (3, sv_I (S 28 p1)), (4, sv_I (647740 : Int))] [] Z) eS) hb
    exact sv_less (lv := [(0, .ref 0), (1, sv_I p1), (2, sv_I (S 27 p1)), (3, sv_I (S 28 p1)), (4, sv_I (647740 : Int))]) (sv_Sub_cons rfl (sv_Sub_cons rfl (sv_Sub_cons rfl (sv_Sub_cons rfl (sv_Sub_cons rfl sv_Sub_nil))))) hb
  refine sv_tsw hM dX12_ways_50 k64 (t := 654) rfl (fun hc => J0 (by rcases hc with hc | hc; exact Or.inl hc; exact Or.inr hc)) (fun hc => ?_)
  have hv : (S 26 p1) = (0 : Int) ∨ (S 26 p1) = (1 : Int) ∨ (S 26 p1) = (2 : Int) ∨ (S 26 p1) = (3 : Int) ∨ (S 26 p1) = (4 : Int) ∨ (S 26 p1) = (5 : Int) ∨ (S 26 p1) = (6 : Int) ∨ (S 26 p1) = (7 : Int) ∨ (S 26 p1) = (8 : Int) ∨ (S 26 p1) = (9 : Int) ∨ (S 26 p1) = (10 : Int) ∨ (S 26 p1) = (11 : Int) ∨ (S 26 p1) = (12 : Int) ∨ (S 26 p1) = (13 : Int) ∨ (S 26 p1) = (14 : Int) ∨ (S 26 p1) = (15 : Int) ∨ (S 26 p1) = (16 : Int) := by omega
  rcases hv with hv | hv | hv | hv | hv | hv | hv | hv | hv | hv | hv | hv | hv | hv | hv | hv | hv
  · exact ⟨82, 132, by rw [hv]; rfl, rfl, J1 (by omega)⟩
  · exact ⟨113, 163, by rw [hv]; rfl, rfl, J2 (by omega)⟩
  · exact ⟨225, 275, by rw [hv]; rfl, rfl, J3 (by omega)⟩
  · exact ⟨273, 323, by rw [hv]; rfl, rfl, J4 (by omega)⟩
  · exact ⟨296, 346, by rw [hv]; rfl, rfl, J5 (by omega)⟩
  · exact ⟨273, 323, by rw [hv]; rfl, rfl, J4 (by omega)⟩
  · exact ⟨325, 375, by rw [hv]; rfl, rfl, J6 (by omega)⟩
  · exact ⟨347, 397, by rw [hv]; rfl, rfl, J7 (by omega)⟩
  · exact ⟨347, 397, by rw [hv]; rfl, rfl, J7 (by omega)⟩
  · exact ⟨416, 466, by rw [hv]; rfl, rfl, J8 (by omega)⟩
  · exact ⟨536, 586, by rw [hv]; rfl, rfl, J9 (by omega)⟩
  · exact ⟨543, 593, by rw [hv]; rfl, rfl, J10 (by omega)⟩
  · exact ⟨550, 600, by rw [hv]; rfl, rfl, J11 (by omega)⟩
  · exact ⟨557, 607, by rw [hv]; rfl, rfl, J12 (by omega)⟩
  · exact ⟨579, 629, by rw [hv]; rfl, rfl, J13 (by omega)⟩
  · exact ⟨587, 637, by rw [hv]; rfl, rfl, J14 (by omega)⟩
  · exact ⟨595, 645, by rw [hv]; rfl, rfl, J15 (by omega)⟩
