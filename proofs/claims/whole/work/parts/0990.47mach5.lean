theorem dX12_stepOther_0 : decode cX12_stepOther 0 = .ok (.iload_n 1, 1) := by decide +kernel
theorem dX12_stepOther_1 : decode cX12_stepOther 1 = .ok (.bipush 21, 2) := by decide +kernel
theorem dX12_stepOther_3 : decode cX12_stepOther 3 = .ok (.if_icmp .eq 15, 3) := by decide +kernel
theorem dX12_stepOther_6 : decode cX12_stepOther 6 = .ok (.iload_n 1, 1) := by decide +kernel
theorem dX12_stepOther_7 : decode cX12_stepOther 7 = .ok (.bipush 27, 2) := by decide +kernel
theorem dX12_stepOther_9 : decode cX12_stepOther 9 = .ok (.if_icmp .eq 9, 3) := by decide +kernel
theorem dX12_stepOther_12 : decode cX12_stepOther 12 = .ok (.iload_n 1, 1) := by decide +kernel
theorem dX12_stepOther_13 : decode cX12_stepOther 13 = .ok (.bipush 28, 2) := by decide +kernel
theorem dX12_stepOther_15 : decode cX12_stepOther 15 = .ok (.if_icmp .ne 7, 3) := by decide +kernel
theorem dX12_stepOther_18 : decode cX12_stepOther 18 = .ok (.iconst 0, 1) := by decide +kernel
theorem dX12_stepOther_19 : decode cX12_stepOther 19 = .ok (.goto 8, 3) := by decide +kernel
theorem dX12_stepOther_22 : decode cX12_stepOther 22 = .ok (.aload_n 0, 1) := by decide +kernel
theorem dX12_stepOther_23 : decode cX12_stepOther 23 = .ok (.iconst 0, 1) := by decide +kernel
theorem dX12_stepOther_24 : decode cX12_stepOther 24 = .ok (.invokevirtual 910, 3) := by decide +kernel
theorem dX12_stepOther_27 : decode cX12_stepOther 27 = .ok (.istore_n 3, 1) := by decide +kernel
theorem dX12_stepOther_28 : decode cX12_stepOther 28 = .ok (.iload_n 1, 1) := by decide +kernel
theorem dX12_stepOther_29 : decode cX12_stepOther 29 = .ok (.bipush 21, 2) := by decide +kernel
theorem dX12_stepOther_31 : decode cX12_stepOther 31 = .ok (.if_icmp .eq 15, 3) := by decide +kernel
theorem dX12_stepOther_34 : decode cX12_stepOther 34 = .ok (.iload_n 1, 1) := by decide +kernel
theorem dX12_stepOther_35 : decode cX12_stepOther 35 = .ok (.bipush 27, 2) := by decide +kernel
theorem dX12_stepOther_37 : decode cX12_stepOther 37 = .ok (.if_icmp .eq 9, 3) := by decide +kernel
theorem dX12_stepOther_40 : decode cX12_stepOther 40 = .ok (.iload_n 1, 1) := by decide +kernel
theorem dX12_stepOther_41 : decode cX12_stepOther 41 = .ok (.bipush 28, 2) := by decide +kernel
theorem dX12_stepOther_43 : decode cX12_stepOther 43 = .ok (.if_icmp .ne 7, 3) := by decide +kernel
theorem dX12_stepOther_46 : decode cX12_stepOther 46 = .ok (.iconst 0, 1) := by decide +kernel
theorem dX12_stepOther_47 : decode cX12_stepOther 47 = .ok (.goto 8, 3) := by decide +kernel
theorem dX12_stepOther_50 : decode cX12_stepOther 50 = .ok (.aload_n 0, 1) := by decide +kernel
theorem dX12_stepOther_51 : decode cX12_stepOther 51 = .ok (.iconst 0, 1) := by decide +kernel
theorem dX12_stepOther_52 : decode cX12_stepOther 52 = .ok (.invokevirtual 913, 3) := by decide +kernel
theorem dX12_stepOther_55 : decode cX12_stepOther 55 = .ok (.istore 4, 2) := by decide +kernel
theorem dX12_stepOther_57 : decode cX12_stepOther 57 = .ok (.aload_n 0, 1) := by decide +kernel
theorem dX12_stepOther_58 : decode cX12_stepOther 58 = .ok (.getfield 872, 3) := by decide +kernel
theorem dX12_stepOther_61 : decode cX12_stepOther 61 = .ok (.iconst 1, 1) := by decide +kernel
theorem dX12_stepOther_62 : decode cX12_stepOther 62 = .ok (.isub, 1) := by decide +kernel
theorem dX12_stepOther_63 : decode cX12_stepOther 63 = .ok (.istore 5, 2) := by decide +kernel
theorem dX12_stepOther_65 : decode cX12_stepOther 65 = .ok (.iload_n 1, 1) := by decide +kernel
theorem dX12_stepOther_66 : decode cX12_stepOther 66 = .ok (.tableswitch 388 17 29 #[66, 78, 92, 128, 142, 153, 191, 191, 235, 245, 255, 317, 335], 66) := by decide +kernel
theorem dX12_stepOther_132 : decode cX12_stepOther 132 = .ok (.aload_n 0, 1) := by decide +kernel
theorem dX12_stepOther_133 : decode cX12_stepOther 133 = .ok (.iconst 1, 1) := by decide +kernel
theorem dX12_stepOther_134 : decode cX12_stepOther 134 = .ok (.invokevirtual 882, 3) := by decide +kernel
theorem dX12_stepOther_137 : decode cX12_stepOther 137 = .ok (.aload_n 0, 1) := by decide +kernel
theorem dX12_stepOther_138 : decode cX12_stepOther 138 = .ok (.invokevirtual 888, 3) := by decide +kernel
theorem dX12_stepOther_141 : decode cX12_stepOther 141 = .ok (.goto 318, 3) := by decide +kernel
theorem dX12_stepOther_144 : decode cX12_stepOther 144 = .ok (.aload_n 0, 1) := by decide +kernel
theorem dX12_stepOther_145 : decode cX12_stepOther 145 = .ok (.iload_n 3, 1) := by decide +kernel
theorem dX12_stepOther_146 : decode cX12_stepOther 146 = .ok (.iload 4, 2) := by decide +kernel
theorem dX12_stepOther_148 : decode cX12_stepOther 148 = .ok (.invokevirtual 885, 3) := by decide +kernel
theorem dX12_stepOther_151 : decode cX12_stepOther 151 = .ok (.aload_n 0, 1) := by decide +kernel
theorem dX12_stepOther_152 : decode cX12_stepOther 152 = .ok (.invokevirtual 888, 3) := by decide +kernel
theorem dX12_stepOther_155 : decode cX12_stepOther 155 = .ok (.goto 304, 3) := by decide +kernel
theorem dX12_stepOther_158 : decode cX12_stepOther 158 = .ok (.aload_n 0, 1) := by decide +kernel
theorem dX12_stepOther_159 : decode cX12_stepOther 159 = .ok (.iconst 1, 1) := by decide +kernel
theorem dX12_stepOther_160 : decode cX12_stepOther 160 = .ok (.invokevirtual 910, 3) := by decide +kernel
theorem dX12_stepOther_163 : decode cX12_stepOther 163 = .ok (.istore 6, 2) := by decide +kernel
theorem dX12_stepOther_165 : decode cX12_stepOther 165 = .ok (.aload_n 0, 1) := by decide +kernel
theorem dX12_stepOther_166 : decode cX12_stepOther 166 = .ok (.iconst 1, 1) := by decide +kernel
theorem dX12_stepOther_167 : decode cX12_stepOther 167 = .ok (.invokevirtual 913, 3) := by decide +kernel
theorem dX12_stepOther_170 : decode cX12_stepOther 170 = .ok (.istore 7, 2) := by decide +kernel
theorem dX12_stepOther_172 : decode cX12_stepOther 172 = .ok (.aload_n 0, 1) := by decide +kernel
theorem dX12_stepOther_173 : decode cX12_stepOther 173 = .ok (.iload 6, 2) := by decide +kernel
theorem dX12_stepOther_175 : decode cX12_stepOther 175 = .ok (.iload 7, 2) := by decide +kernel
theorem dX12_stepOther_177 : decode cX12_stepOther 177 = .ok (.invokevirtual 885, 3) := by decide +kernel
theorem dX12_stepOther_180 : decode cX12_stepOther 180 = .ok (.aload_n 0, 1) := by decide +kernel
theorem dX12_stepOther_181 : decode cX12_stepOther 181 = .ok (.iload_n 3, 1) := by decide +kernel
theorem dX12_stepOther_182 : decode cX12_stepOther 182 = .ok (.iload 4, 2) := by decide +kernel
theorem dX12_stepOther_184 : decode cX12_stepOther 184 = .ok (.invokevirtual 885, 3) := by decide +kernel
theorem dX12_stepOther_187 : decode cX12_stepOther 187 = .ok (.aload_n 0, 1) := by decide +kernel
theorem dX12_stepOther_188 : decode cX12_stepOther 188 = .ok (.invokevirtual 888, 3) := by decide +kernel
theorem dX12_stepOther_191 : decode cX12_stepOther 191 = .ok (.goto 268, 3) := by decide +kernel
theorem dX12_stepOther_194 : decode cX12_stepOther 194 = .ok (.aload_n 0, 1) := by decide +kernel
theorem dX12_stepOther_195 : decode cX12_stepOther 195 = .ok (.iload_n 3, 1) := by decide +kernel
theorem dX12_stepOther_196 : decode cX12_stepOther 196 = .ok (.iload 4, 2) := by decide +kernel
theorem dX12_stepOther_198 : decode cX12_stepOther 198 = .ok (.invokevirtual 954, 3) := by decide +kernel
theorem dX12_stepOther_201 : decode cX12_stepOther 201 = .ok (.aload_n 0, 1) := by decide +kernel
theorem dX12_stepOther_202 : decode cX12_stepOther 202 = .ok (.invokevirtual 888, 3) := by decide +kernel
theorem dX12_stepOther_205 : decode cX12_stepOther 205 = .ok (.goto 254, 3) := by decide +kernel
theorem dX12_stepOther_208 : decode cX12_stepOther 208 = .ok (.aload_n 0, 1) := by decide +kernel
theorem dX12_stepOther_209 : decode cX12_stepOther 209 = .ok (.getfield 182, 3) := by decide +kernel
theorem dX12_stepOther_212 : decode cX12_stepOther 212 = .ok (.iload 5, 2) := by decide +kernel
theorem dX12_stepOther_214 : decode cX12_stepOther 214 = .ok (.iload_n 2, 1) := by decide +kernel
theorem dX12_stepOther_215 : decode cX12_stepOther 215 = .ok (.iastore, 1) := by decide +kernel
theorem dX12_stepOther_216 : decode cX12_stepOther 216 = .ok (.goto 243, 3) := by decide +kernel
theorem dX12_stepOther_219 : decode cX12_stepOther 219 = .ok (.aload_n 0, 1) := by decide +kernel
theorem dX12_stepOther_220 : decode cX12_stepOther 220 = .ok (.iconst 1, 1) := by decide +kernel
theorem dX12_stepOther_221 : decode cX12_stepOther 221 = .ok (.invokevirtual 882, 3) := by decide +kernel
theorem dX12_stepOther_224 : decode cX12_stepOther 224 = .ok (.aload_n 0, 1) := by decide +kernel
theorem dX12_stepOther_225 : decode cX12_stepOther 225 = .ok (.getfield 182, 3) := by decide +kernel
theorem dX12_stepOther_228 : decode cX12_stepOther 228 = .ok (.iload 5, 2) := by decide +kernel
theorem dX12_stepOther_230 : decode cX12_stepOther 230 = .ok (.aload_n 0, 1) := by decide +kernel
theorem dX12_stepOther_231 : decode cX12_stepOther 231 = .ok (.iload_n 3, 1) := by decide +kernel
theorem dX12_stepOther_232 : decode cX12_stepOther 232 = .ok (.iload 4, 2) := by decide +kernel
theorem dX12_stepOther_234 : decode cX12_stepOther 234 = .ok (.invokevirtual 824, 3) := by decide +kernel
theorem dX12_stepOther_237 : decode cX12_stepOther 237 = .ok (.ifCond .eq 15, 3) := by decide +kernel
theorem dX12_stepOther_240 : decode cX12_stepOther 240 = .ok (.aload_n 0, 1) := by decide +kernel
theorem dX12_stepOther_241 : decode cX12_stepOther 241 = .ok (.getfield 182, 3) := by decide +kernel
theorem dX12_stepOther_244 : decode cX12_stepOther 244 = .ok (.iload 5, 2) := by decide +kernel
theorem dX12_stepOther_246 : decode cX12_stepOther 246 = .ok (.iaload, 1) := by decide +kernel
theorem dX12_stepOther_247 : decode cX12_stepOther 247 = .ok (.iconst 1, 1) := by decide +kernel
theorem dX12_stepOther_248 : decode cX12_stepOther 248 = .ok (.iadd, 1) := by decide +kernel
theorem dX12_stepOther_249 : decode cX12_stepOther 249 = .ok (.goto 4, 3) := by decide +kernel
theorem dX12_stepOther_252 : decode cX12_stepOther 252 = .ok (.iload_n 2, 1) := by decide +kernel
theorem dX12_stepOther_253 : decode cX12_stepOther 253 = .ok (.iastore, 1) := by decide +kernel
theorem dX12_stepOther_254 : decode cX12_stepOther 254 = .ok (.goto 205, 3) := by decide +kernel
theorem dX12_stepOther_257 : decode cX12_stepOther 257 = .ok (.aload_n 0, 1) := by decide +kernel
theorem dX12_stepOther_258 : decode cX12_stepOther 258 = .ok (.iload_n 3, 1) := by decide +kernel
theorem dX12_stepOther_259 : decode cX12_stepOther 259 = .ok (.iload 4, 2) := by decide +kernel
theorem dX12_stepOther_261 : decode cX12_stepOther 261 = .ok (.invokevirtual 824, 3) := by decide +kernel
theorem dX12_stepOther_264 : decode cX12_stepOther 264 = .ok (.iload_n 1, 1) := by decide +kernel
theorem dX12_stepOther_265 : decode cX12_stepOther 265 = .ok (.bipush 23, 2) := by decide +kernel
theorem dX12_stepOther_267 : decode cX12_stepOther 267 = .ok (.if_icmp .ne 7, 3) := by decide +kernel
theorem dX12_stepOther_270 : decode cX12_stepOther 270 = .ok (.iconst 1, 1) := by decide +kernel
theorem dX12_stepOther_271 : decode cX12_stepOther 271 = .ok (.goto 4, 3) := by decide +kernel
theorem dX12_stepOther_274 : decode cX12_stepOther 274 = .ok (.iconst 0, 1) := by decide +kernel
theorem dX12_stepOther_275 : decode cX12_stepOther 275 = .ok (.if_icmp .ne 15, 3) := by decide +kernel
theorem dX12_stepOther_278 : decode cX12_stepOther 278 = .ok (.aload_n 0, 1) := by decide +kernel
theorem dX12_stepOther_279 : decode cX12_stepOther 279 = .ok (.iconst 1, 1) := by decide +kernel
theorem dX12_stepOther_280 : decode cX12_stepOther 280 = .ok (.invokevirtual 882, 3) := by decide +kernel
theorem dX12_stepOther_283 : decode cX12_stepOther 283 = .ok (.aload_n 0, 1) := by decide +kernel
theorem dX12_stepOther_284 : decode cX12_stepOther 284 = .ok (.invokevirtual 888, 3) := by decide +kernel
theorem dX12_stepOther_287 : decode cX12_stepOther 287 = .ok (.goto 172, 3) := by decide +kernel
theorem dX12_stepOther_290 : decode cX12_stepOther 290 = .ok (.aload_n 0, 1) := by decide +kernel
theorem dX12_stepOther_291 : decode cX12_stepOther 291 = .ok (.getfield 182, 3) := by decide +kernel
theorem dX12_stepOther_294 : decode cX12_stepOther 294 = .ok (.iload 5, 2) := by decide +kernel
theorem dX12_stepOther_296 : decode cX12_stepOther 296 = .ok (.iload_n 2, 1) := by decide +kernel
theorem dX12_stepOther_297 : decode cX12_stepOther 297 = .ok (.iastore, 1) := by decide +kernel
theorem dX12_stepOther_298 : decode cX12_stepOther 298 = .ok (.goto 161, 3) := by decide +kernel
theorem dX12_stepOther_301 : decode cX12_stepOther 301 = .ok (.aload_n 0, 1) := by decide +kernel
theorem dX12_stepOther_302 : decode cX12_stepOther 302 = .ok (.iload_n 3, 1) := by decide +kernel
theorem dX12_stepOther_303 : decode cX12_stepOther 303 = .ok (.iload 4, 2) := by decide +kernel
theorem dX12_stepOther_305 : decode cX12_stepOther 305 = .ok (.invokevirtual 957, 3) := by decide +kernel
theorem dX12_stepOther_308 : decode cX12_stepOther 308 = .ok (.goto 151, 3) := by decide +kernel
theorem dX12_stepOther_311 : decode cX12_stepOther 311 = .ok (.aload_n 0, 1) := by decide +kernel
theorem dX12_stepOther_312 : decode cX12_stepOther 312 = .ok (.iload_n 3, 1) := by decide +kernel
theorem dX12_stepOther_313 : decode cX12_stepOther 313 = .ok (.iload 4, 2) := by decide +kernel
theorem dX12_stepOther_315 : decode cX12_stepOther 315 = .ok (.invokevirtual 897, 3) := by decide +kernel
theorem dX12_stepOther_318 : decode cX12_stepOther 318 = .ok (.goto 141, 3) := by decide +kernel
theorem dX12_stepOther_321 : decode cX12_stepOther 321 = .ok (.aload_n 0, 1) := by decide +kernel
theorem dX12_stepOther_322 : decode cX12_stepOther 322 = .ok (.getfield 194, 3) := by decide +kernel
theorem dX12_stepOther_325 : decode cX12_stepOther 325 = .ok (.bipush 40, 2) := by decide +kernel
theorem dX12_stepOther_327 : decode cX12_stepOther 327 = .ok (.iload 5, 2) := by decide +kernel
theorem dX12_stepOther_329 : decode cX12_stepOther 329 = .ok (.imul, 1) := by decide +kernel
theorem dX12_stepOther_330 : decode cX12_stepOther 330 = .ok (.aload_n 0, 1) := by decide +kernel
theorem dX12_stepOther_331 : decode cX12_stepOther 331 = .ok (.getfield 191, 3) := by decide +kernel
theorem dX12_stepOther_334 : decode cX12_stepOther 334 = .ok (.iload 5, 2) := by decide +kernel
theorem dX12_stepOther_336 : decode cX12_stepOther 336 = .ok (.iaload, 1) := by decide +kernel
theorem dX12_stepOther_337 : decode cX12_stepOther 337 = .ok (.iadd, 1) := by decide +kernel
theorem dX12_stepOther_338 : decode cX12_stepOther 338 = .ok (.iload_n 2, 1) := by decide +kernel
theorem dX12_stepOther_339 : decode cX12_stepOther 339 = .ok (.iastore, 1) := by decide +kernel
theorem dX12_stepOther_340 : decode cX12_stepOther 340 = .ok (.aload_n 0, 1) := by decide +kernel
theorem dX12_stepOther_341 : decode cX12_stepOther 341 = .ok (.getfield 197, 3) := by decide +kernel
theorem dX12_stepOther_344 : decode cX12_stepOther 344 = .ok (.bipush 40, 2) := by decide +kernel
theorem dX12_stepOther_346 : decode cX12_stepOther 346 = .ok (.iload 5, 2) := by decide +kernel
theorem dX12_stepOther_348 : decode cX12_stepOther 348 = .ok (.imul, 1) := by decide +kernel
theorem dX12_stepOther_349 : decode cX12_stepOther 349 = .ok (.aload_n 0, 1) := by decide +kernel
theorem dX12_stepOther_350 : decode cX12_stepOther 350 = .ok (.getfield 191, 3) := by decide +kernel
theorem dX12_stepOther_353 : decode cX12_stepOther 353 = .ok (.iload 5, 2) := by decide +kernel
theorem dX12_stepOther_355 : decode cX12_stepOther 355 = .ok (.iaload, 1) := by decide +kernel
theorem dX12_stepOther_356 : decode cX12_stepOther 356 = .ok (.iadd, 1) := by decide +kernel
theorem dX12_stepOther_357 : decode cX12_stepOther 357 = .ok (.aload_n 0, 1) := by decide +kernel
theorem dX12_stepOther_358 : decode cX12_stepOther 358 = .ok (.getfield 185, 3) := by decide +kernel
theorem dX12_stepOther_361 : decode cX12_stepOther 361 = .ok (.iload 5, 2) := by decide +kernel
theorem dX12_stepOther_363 : decode cX12_stepOther 363 = .ok (.iaload, 1) := by decide +kernel
theorem dX12_stepOther_364 : decode cX12_stepOther 364 = .ok (.iastore, 1) := by decide +kernel
theorem dX12_stepOther_365 : decode cX12_stepOther 365 = .ok (.aload_n 0, 1) := by decide +kernel
theorem dX12_stepOther_366 : decode cX12_stepOther 366 = .ok (.getfield 191, 3) := by decide +kernel
theorem dX12_stepOther_369 : decode cX12_stepOther 369 = .ok (.iload 5, 2) := by decide +kernel
theorem dX12_stepOther_371 : decode cX12_stepOther 371 = .ok (.dup2, 1) := by decide +kernel
theorem dX12_stepOther_372 : decode cX12_stepOther 372 = .ok (.iaload, 1) := by decide +kernel
theorem dX12_stepOther_373 : decode cX12_stepOther 373 = .ok (.iconst 1, 1) := by decide +kernel
theorem dX12_stepOther_374 : decode cX12_stepOther 374 = .ok (.iadd, 1) := by decide +kernel
theorem dX12_stepOther_375 : decode cX12_stepOther 375 = .ok (.iastore, 1) := by decide +kernel
theorem dX12_stepOther_376 : decode cX12_stepOther 376 = .ok (.aload_n 0, 1) := by decide +kernel
theorem dX12_stepOther_377 : decode cX12_stepOther 377 = .ok (.invokevirtual 888, 3) := by decide +kernel
theorem dX12_stepOther_380 : decode cX12_stepOther 380 = .ok (.goto 79, 3) := by decide +kernel
theorem dX12_stepOther_383 : decode cX12_stepOther 383 = .ok (.aload_n 0, 1) := by decide +kernel
theorem dX12_stepOther_384 : decode cX12_stepOther 384 = .ok (.getfield 191, 3) := by decide +kernel
theorem dX12_stepOther_387 : decode cX12_stepOther 387 = .ok (.iload 5, 2) := by decide +kernel
theorem dX12_stepOther_389 : decode cX12_stepOther 389 = .ok (.dup2, 1) := by decide +kernel
theorem dX12_stepOther_390 : decode cX12_stepOther 390 = .ok (.iaload, 1) := by decide +kernel
theorem dX12_stepOther_391 : decode cX12_stepOther 391 = .ok (.iconst 1, 1) := by decide +kernel
theorem dX12_stepOther_392 : decode cX12_stepOther 392 = .ok (.isub, 1) := by decide +kernel
theorem dX12_stepOther_393 : decode cX12_stepOther 393 = .ok (.iastore, 1) := by decide +kernel
theorem dX12_stepOther_394 : decode cX12_stepOther 394 = .ok (.aload_n 0, 1) := by decide +kernel
theorem dX12_stepOther_395 : decode cX12_stepOther 395 = .ok (.invokevirtual 888, 3) := by decide +kernel
theorem dX12_stepOther_398 : decode cX12_stepOther 398 = .ok (.goto 61, 3) := by decide +kernel
theorem dX12_stepOther_401 : decode cX12_stepOther 401 = .ok (.aload_n 0, 1) := by decide +kernel
theorem dX12_stepOther_402 : decode cX12_stepOther 402 = .ok (.iconst 1, 1) := by decide +kernel
theorem dX12_stepOther_403 : decode cX12_stepOther 403 = .ok (.invokevirtual 882, 3) := by decide +kernel
theorem dX12_stepOther_406 : decode cX12_stepOther 406 = .ok (.aload_n 0, 1) := by decide +kernel
theorem dX12_stepOther_407 : decode cX12_stepOther 407 = .ok (.getfield 206, 3) := by decide +kernel
theorem dX12_stepOther_410 : decode cX12_stepOther 410 = .ok (.aload_n 0, 1) := by decide +kernel
theorem dX12_stepOther_411 : decode cX12_stepOther 411 = .ok (.invokevirtual 879, 3) := by decide +kernel
theorem dX12_stepOther_414 : decode cX12_stepOther 414 = .ok (.iconst 0, 1) := by decide +kernel
theorem dX12_stepOther_415 : decode cX12_stepOther 415 = .ok (.iastore, 1) := by decide +kernel
theorem dX12_stepOther_416 : decode cX12_stepOther 416 = .ok (.aload_n 0, 1) := by decide +kernel
theorem dX12_stepOther_417 : decode cX12_stepOther 417 = .ok (.getfield 209, 3) := by decide +kernel
theorem dX12_stepOther_420 : decode cX12_stepOther 420 = .ok (.aload_n 0, 1) := by decide +kernel
theorem dX12_stepOther_421 : decode cX12_stepOther 421 = .ok (.invokevirtual 879, 3) := by decide +kernel
theorem dX12_stepOther_424 : decode cX12_stepOther 424 = .ok (.aload_n 0, 1) := by decide +kernel
theorem dX12_stepOther_425 : decode cX12_stepOther 425 = .ok (.getfield 855, 3) := by decide +kernel
theorem dX12_stepOther_428 : decode cX12_stepOther 428 = .ok (.iastore, 1) := by decide +kernel
theorem dX12_stepOther_429 : decode cX12_stepOther 429 = .ok (.aload_n 0, 1) := by decide +kernel
theorem dX12_stepOther_430 : decode cX12_stepOther 430 = .ok (.bipush 8, 2) := by decide +kernel
theorem dX12_stepOther_432 : decode cX12_stepOther 432 = .ok (.iload_n 3, 1) := by decide +kernel
theorem dX12_stepOther_433 : decode cX12_stepOther 433 = .ok (.bipush 7, 2) := by decide +kernel
theorem dX12_stepOther_435 : decode cX12_stepOther 435 = .ok (.if_icmp .ne 8, 3) := by decide +kernel
theorem dX12_stepOther_438 : decode cX12_stepOther 438 = .ok (.iload 4, 2) := by decide +kernel
theorem dX12_stepOther_440 : decode cX12_stepOther 440 = .ok (.goto 4, 3) := by decide +kernel
theorem dX12_stepOther_443 : decode cX12_stepOther 443 = .ok (.iconst (-1), 1) := by decide +kernel
theorem dX12_stepOther_444 : decode cX12_stepOther 444 = .ok (.invokevirtual 885, 3) := by decide +kernel
theorem dX12_stepOther_447 : decode cX12_stepOther 447 = .ok (.aload_n 0, 1) := by decide +kernel
theorem dX12_stepOther_448 : decode cX12_stepOther 448 = .ok (.invokevirtual 888, 3) := by decide +kernel
theorem dX12_stepOther_451 : decode cX12_stepOther 451 = .ok (.goto 8, 3) := by decide +kernel
theorem dX12_stepOther_454 : decode cX12_stepOther 454 = .ok (.aload_n 0, 1) := by decide +kernel
theorem dX12_stepOther_455 : decode cX12_stepOther 455 = .ok (.iload_n 2, 1) := by decide +kernel
theorem dX12_stepOther_456 : decode cX12_stepOther 456 = .ok (.invokevirtual 960, 3) := by decide +kernel
theorem dX12_stepOther_459 : decode cX12_stepOther 459 = .ok (.return_, 1) := by decide +kernel

def q_stepOther (p1 : Int) (p2 : Int) (S : sv_S) : Option Value → sv_S → Prop := fun v S' => v = none ∧ sm_ok S' ∧ sv_mod [1092, 60, 58, 57, 63, 64, 1073, 1109, 1110, 65, 66, 61, 62] S S' ∧ (sm_PL (S' 1100020) (S' 51) (S' 52) (S' 46) (S' 47) (S' 1076 0) (S' 1086 0) ∧ sm_FR (S' 1100020) (S' 52) (S' 1100021) (S' 1100022) (3000 - (S' 1084 0)) (S' 1085 0) ∧ sm_PV (S' 1100020) (S' 48) (S' 49) (S' 50) (S' 44) (S' 1076 0) (S' 1007 0) ∧ sm_AL (S' 1100020) (S' 48) (S' 49) (S' 50) (S' 44) (S' 1076 0) (S' 1100032 0) ∧ sm_SV (S' 1100020) (S' 48) (S' 1100029) (S' 32) (S' 33) (S' 1076 0) (S' 1032 0) ∧ 0 ≤ (S' 1076 0) ∧ (S' 1076 0) ≤ 300 ∧ 0 ≤ (S' 1084 0) ∧ (S' 1084 0) ≤ 3000 ∧ 0 ≤ (S' 1086 0) ∧ sm_SC (S' 1100029) (S' 44) (S' 45) (S' 43) (S' 21) (S' 1076 0) (S' 1032 0) ∧ sm_PO (S' 42) (S' 1076 0) ∧ ((S' 1075 0) = 0 → (S' 1100032 0) = -1 ∧ sm_FO (S' 44) (S' 45) (S' 1076 0)) ∧ 23 ≤ (S' 1076 0) ∧ 31 ≤ (S' 1007 0) ∧ (S' 1007 0) ≤ 400 ∧ sm_LN (S' 4) 400 (S' 1007 0) ∧ (S' 1008 0) ≤ (S' 1007 0) ∧ ((S 1075 0) = 1 → (S' 1075 0) = 1) ∧ 0 ≤ (S' 1092 0) ∧ (S' 1092 0) ≤ 24 ∧ ((S' 1075 0) = 0 → (S' 1073 0) = 1 → 1 ≤ (S' 1092 0) ∧ (S' 1092 0) ≤ 24 ∧ 0 ≤ (S' 57 ((S' 1092 0) - 1)) ∧ (S' 57 ((S' 1092 0) - 1)) < (S' 1046 0) ∧ (S' 29 (S' 57 ((S' 1092 0) - 1))) = (S' 53 ((S' 1092 0) - 1)) ∧ 0 ≤ (S' 53 ((S' 1092 0) - 1)) ∧ (S' 53 ((S' 1092 0) - 1)) < (S' 1032 0) ∧ (S' 60 ((S' 1092 0) - 1)) = sm_dp (S' 1100024) (S' 1100023 (S' 57 ((S' 1092 0) - 1))) ∧ sm_TC (S' 61) (S' 62) (S' 27) (S' 1100007) (S' 1100023) (S' 1100024) (40 * ((S' 1092 0) - 1)) (S' 1100023 (S' 57 ((S' 1092 0) - 1))) ∧ sm_LK (S' 1100029) (S' 1076 0) (S' 54 ((S' 1092 0) - 1)) (S' 53 ((S' 1092 0) - 1)) ∧ sm_VO (S' 44) (S' 1076 0) (S' 1007 0) ((S' 55 ((S' 1092 0) - 1))) ((S' 56 ((S' 1092 0) - 1))) ∧ sm_FW (S' 44) (S' 1076 0) (S' 59 ((S' 1092 0) - 1)) ∧ sm_FL (S' 53) (S' 54) (S' 55) (S' 56) (S' 57) (S' 58) (S' 59) (S' 60) (S' 61) (S' 62) (S' 63) (S' 64) (S' 27) (S' 29) (S' 1100007) (S' 1100023) (S' 1100024) (S' 1100025) (S' 26) (S' 1100029) (S' 44) (S' 1046 0) (S' 1032 0) (S' 1076 0) (S' 1007 0) (((S' 1092 0) - 1)) ∧ (S' 58 ((S' 1092 0) - 1)) = (S' 1100007 (S' 57 ((S' 1092 0) - 1))) ∧ sm_SK (S' 63) (S' 64) (S' 44) (S' 1100007) (S' 1100025) (S' 1076 0) (S' 1007 0) (400 * ((S' 1092 0) - 1)) ((S' 58 ((S' 1092 0) - 1))) ((S' 1100025 (S' 57 ((S' 1092 0) - 1))))))
theorem la_stepOther_0 {x0 : Int} (h0 : 17 ≤ x0) : ¬ x0 < 17 := by omega
theorem la_stepOther_1 {x0 : Int} (h0 : 29 < x0) : ¬ x0 = 21 := by omega
theorem la_stepOther_2 {x0 : Int} (h0 : 29 < x0) : ¬ (x0 = 21 ∨ x0 = 27 ∨ x0 = 28) := by omega
theorem la_stepOther_3 {x0 : Int} (h0 : 29 < x0) : ¬ x0 = 27 := by omega
theorem la_stepOther_4 {x0 : Int} (h0 : 29 < x0) : ¬ x0 = 28 := by omega
theorem la_stepOther_5 {x0 x1 : Int} (h0 : x0 = x1) (h1 : x1 ≤ 30) (h2 : 29 < x0) : x1 = 30 := by omega
theorem la_stepOther_6 {x0 x1 : Int} (h0 : x0 = x1) (h1 : 0 ≤ x1) : 0 ≤ x0 := by omega
theorem la_stepOther_7 {x0 x1 x2 : Int} (h0 : x0 = x1) : 0 ≤ x2 → x0 ≤ x1 := by omega
theorem la_stepOther_8 {x0 x1 : Int} : 400 * (x0 - 1) + x1 - 1 - 0 = 400 * (x0 - 1) + x1 - 1 := by omega
theorem la_stepOther_9 {x0 x1 x2 x3 : Int} (h0 : x0 = x1) (h1 : x2 = x1) (h2 : x3 ≤ x0) (h3 : x3 = x2) : x3 = x0 := by omega
theorem la_stepOther_10 {x0 x1 x2 : Int} (h0 : x0 = x1) (h1 : x2 = x1 + 1) : x2 = x0 + 1 := by omega
theorem la_stepOther_11 {x0 x1 x2 : Int} (h0 : x0 = x1) (h1 : x2 = x1) : x2 = x0 := by omega
theorem la_stepOther_12 {x0 x1 x2 : Int} (h0 : x0 = x1) (h1 : x1 < x2) : x0 < x2 := by omega
theorem la_stepOther_13 {x0 x1 x2 : Int} (h0 : x0 = x1) (h1 : x2 = x0) : x2 = x1 := by omega
theorem la_stepOther_14 {x0 x1 x2 x3 : Int} (h0 : x0 = x1) (h1 : x2 = x1 - 1) (h2 : x3 = x2) : x3 = x0 - 1 := by omega
theorem la_stepOther_15 {x0 x1 x2 x3 : Int} (h0 : x0 = x1) (h1 : x2 = x1) (h2 : x3 = x0) : x3 = x2 := by omega
theorem la_stepOther_16 {x0 : Int} (h0 : x0 = 0) : ¬ x0 = 1 := by omega
theorem la_stepOther_17 {x0 : Int} (h0 : x0 = 17) : ¬ x0 = 21 := by omega
theorem la_stepOther_18 {x0 : Int} (h0 : x0 = 17) : ¬ (x0 = 21 ∨ x0 = 27 ∨ x0 = 28) := by omega
theorem la_stepOther_19 {x0 : Int} (h0 : x0 = 17) : ¬ x0 = 27 := by omega
theorem la_stepOther_20 {x0 : Int} (h0 : x0 = 17) : ¬ x0 = 28 := by omega
theorem la_stepOther_21 {x0 x1 : Int} (h0 : 17 ≤ x0) (h1 : x0 = x1) (h2 : x0 = 17) : x1 = 17 := by omega
theorem la_stepOther_22 {x0 x1 : Int} (h0 : 1 ≤ x0) (h1 : x0 ≤ 24) (h2 : x1 ≤ 396) (h3 : 1 ≤ x1) : 1 ≤ x0 ∧ x0 ≤ 24 ∧ 0 ≤ x1 ∧ x1 ≤ 400 ∧ (0 : Int) ≤ 1 ∧ 1 ≤ x1 := by omega
theorem la_stepOther_23 {x0 x1 x2 x3 : Int} (h0 : x0 ≤ 600) (h1 : 1 ≤ x1) (h2 : x1 ≤ 24) (h3 : 0 ≤ x2) (h4 : x3 = x2) (h5 : x2 + 1 < x0) : 1 ≤ x1 ∧ x1 ≤ 24 ∧ 0 ≤ x3 ∧ x3 ≤ 600 := by omega
theorem la_stepOther_24 {x0 : Int} (h0 : x0 = 0) : x0 = 1 → x0 = 1 := by omega
theorem la_stepOther_25 {x0 : Int} (h0 : 1 ≤ x0) : 0 ≤ x0 := by omega
theorem la_stepOther_26 {x0 x1 x2 : Int} (h0 : 0 ≤ x0) (h1 : x1 = x0) (h2 : x2 = x1 + 1) : 0 ≤ x2 := by omega
theorem la_stepOther_27 {x0 x1 x2 x3 : Int} (h0 : x0 = x1) (h1 : x1 + 1 < x2) (h2 : x3 = x0 + 1) : x3 < x2 := by omega
theorem la_stepOther_28 {x0 : Int} : ¬ ¬ x0 - 1 = x0 - 1 := by omega
theorem la_stepOther_29 {x0 x1 x2 : Int} (h0 : x0 = x1) (h1 : x2 = x0 + 1) : x2 = x1 + 1 := by omega
theorem la_stepOther_30 {x0 x1 x2 x3 : Int} (h0 : x0 = x1) (h1 : x2 = x0) (h2 : x3 = x2) : x3 = x1 := by omega
theorem la_stepOther_31 {x0 x1 x2 : Int} (h0 : x0 = x1) (h1 : x2 = x1) : x0 = x2 := by omega
theorem la_stepOther_32 {x0 x1 x2 : Int} (h0 : x0 = x1) (h1 : x2 = x0) : x1 = x2 := by omega
theorem la_stepOther_33 {x0 x1 x2 x3 x4 : Int} (h0 : x0 = x1) (h1 : x2 = x1 - 1) (h2 : x3 = x0 - 1) (h3 : x4 = x2) : x3 = x4 := by omega
theorem la_stepOther_34 {x0 : Int} : x0 - 1 ≤ x0 - 1 := by omega
theorem la_stepOther_35 {x0 x1 : Int} (h0 : x0 = x1 - 1) : x0 = x1 - 1 - 1 + 1 := by omega
theorem la_stepOther_36 {x0 : Int} : x0 ≤ x0 := by omega
theorem la_stepOther_37 {x0 x1 : Int} (h0 : x0 = x1 - 1) : x0 ≤ x1 - 1 := by omega
theorem la_stepOther_38 {x0 : Int} (h0 : x0 = 18) : ¬ x0 = 21 := by omega
theorem la_stepOther_39 {x0 : Int} (h0 : x0 = 18) : ¬ (x0 = 21 ∨ x0 = 27 ∨ x0 = 28) := by omega
theorem la_stepOther_40 {x0 : Int} (h0 : x0 = 18) : ¬ x0 = 27 := by omega
theorem la_stepOther_41 {x0 : Int} (h0 : x0 = 18) : ¬ x0 = 28 := by omega
theorem la_stepOther_42 {x0 x1 : Int} (h0 : x0 = x1) (h1 : x0 = 18) : x1 = 18 := by omega
theorem la_stepOther_43 {x0 : Int} (h0 : 1 ≤ x0) : 0 ≤ x0 - 1 := by omega
theorem la_stepOther_44 {x0 : Int} : x0 - 1 < x0 := by omega
theorem la_stepOther_45 {x0 x1 : Int} (h0 : 1 ≤ x0) (h1 : x0 ≤ 24) (h2 : x1 ≤ 396) (h3 : 1 ≤ x1) : 1 ≤ x0 ∧ x0 ≤ 24 ∧ 0 ≤ x1 ∧ x1 ≤ 400 ∧ x1 < 400 := by omega
theorem la_stepOther_46 {x0 x1 : Int} : ¬ 400 * (x0 - 1) + (x1 - 1) = 400 * (x0 - 1) + x1 := by omega
theorem la_stepOther_47 {x0 x1 : Int} : ¬ 400 * (x0 - 1) + x1 - 1 - 0 = 400 * (x0 - 1) + x1 := by omega
theorem la_stepOther_48 {x0 x1 : Int} : ¬ ¬ 400 * (x0 - 1) + x1 = 400 * (x0 - 1) + x1 := by omega
theorem la_stepOther_49 {x0 x1 : Int} : 400 * (x0 - 1) + x1 - 1 - 0 = 400 * (x0 - 1) + (x1 - 1) := by omega
theorem la_stepOther_50 {x0 x1 : Int} (h0 : 1 ≤ x0) : 400 * (x1 - 1) ≤ 400 * (x1 - 1) + x0 := by omega
theorem la_stepOther_51 {x0 x1 x2 x3 x4 : Int} (h0 : x0 = x1) (h1 : x2 = x1 + 1) (h2 : x3 = x0 + 1) (h3 : x4 = x2) : x3 = x4 := by omega
theorem la_stepOther_52 {x0 x1 x2 x3 : Int} (h0 : x0 = x1) (h1 : x2 = x1) (h2 : x3 = x2) : x3 = x0 := by omega
theorem la_stepOther_53 {x0 x1 x2 x3 : Int} (h0 : x0 = x1) (h1 : x2 = x0) (h2 : x1 = x3) : x2 = x3 := by omega
theorem la_stepOther_54 {x0 x1 x2 x3 x4 x5 x6 x7 : Int} (h0 : 0 ≤ x0 → x1 = 29) (h1 : x2 = x3) (h2 : x0 = x4) (h3 : 0 ≤ x4 → x5 = 29 ∧ x6 ≤ x3) (h4 : x7 = x6) : 0 ≤ x0 → x1 = 29 ∧ x7 ≤ x2 := by omega
theorem la_stepOther_55 {x0 : Int} (h0 : x0 = 19) : ¬ x0 = 21 := by omega
theorem la_stepOther_56 {x0 : Int} (h0 : x0 = 19) : ¬ (x0 = 21 ∨ x0 = 27 ∨ x0 = 28) := by omega
theorem la_stepOther_57 {x0 : Int} (h0 : x0 = 19) : ¬ x0 = 27 := by omega
theorem la_stepOther_58 {x0 : Int} (h0 : x0 = 19) : ¬ x0 = 28 := by omega
theorem la_stepOther_59 {x0 x1 : Int} (h0 : x0 = x1) (h1 : x0 = 19) : x1 = 19 := by omega
theorem la_stepOther_60 {x0 x1 : Int} (h0 : x0 = x1) (h1 : 0 ≤ x1 - 2) : 0 ≤ x0 - 1 := by omega
theorem la_stepOther_61 {x0 x1 : Int} (h0 : x0 = x1) (h1 : 0 ≤ x1 - 2) : 0 ≤ x0 - 2 := by omega
theorem la_stepOther_62 {x0 : Int} : x0 - 2 < x0 := by omega
theorem la_stepOther_63 {x0 x1 x2 : Int} (h0 : 1 ≤ x0) (h1 : x0 ≤ 24) (h2 : x1 = x2) (h3 : x1 ≤ 396) (h4 : 0 ≤ x2 - 2) : 1 ≤ x0 ∧ x0 ≤ 24 ∧ 0 ≤ x1 ∧ x1 ≤ 400 ∧ (0 : Int) ≤ 1 ∧ 1 < x1 := by omega
theorem la_stepOther_64 {x0 x1 x2 : Int} (h0 : 1 ≤ x0) (h1 : x0 ≤ 24) (h2 : x1 = x2) (h3 : x1 ≤ 396) (h4 : 0 ≤ x2 - 2) : 1 ≤ x0 ∧ x0 ≤ 24 ∧ 0 ≤ x1 ∧ x1 ≤ 400 ∧ x1 < 400 := by omega
theorem la_stepOther_65 {x0 x1 x2 x3 : Int} (h0 : 1 ≤ x0) (h1 : x0 ≤ 24) (h2 : x1 = x2) (h3 : x1 ≤ 396) (h4 : 0 ≤ x2 - 2) (h5 : x3 = x1 + 1) : 1 ≤ x0 ∧ x0 ≤ 24 ∧ 0 ≤ x3 ∧ x3 ≤ 400 ∧ x3 < 400 := by omega
theorem la_stepOther_66 {x0 x1 : Int} : ¬ 400 * (x0 - 1) + (x1 - 2) = 400 * (x0 - 1) + x1 := by omega
theorem la_stepOther_67 {x0 x1 : Int} : ¬ 400 * (x0 - 1) + x1 - 1 - 1 = 400 * (x0 - 1) + x1 := by omega
theorem la_stepOther_68 {x0 x1 x2 : Int} (h0 : x0 = x1 + 1) : ¬ 400 * (x2 - 1) + x1 = 400 * (x2 - 1) + x0 := by omega
theorem la_stepOther_69 {x0 x1 x2 : Int} (h0 : x0 = x1 + 1) : ¬ 400 * (x2 - 1) + (x1 - 1) = 400 * (x2 - 1) + x0 := by omega
theorem la_stepOther_70 {x0 x1 x2 : Int} (h0 : x0 = x1 + 1) : ¬ 400 * (x2 - 1) + x1 - 1 - 0 = 400 * (x2 - 1) + x0 := by omega
theorem la_stepOther_71 {x0 x1 x2 : Int} (h0 : x0 = x1 + 1) : ¬ 400 * (x2 - 1) + (x1 - 2) = 400 * (x2 - 1) + x0 := by omega
theorem la_stepOther_72 {x0 x1 x2 : Int} (h0 : x0 = x1 + 1) : ¬ 400 * (x2 - 1) + x1 - 1 - 1 = 400 * (x2 - 1) + x0 := by omega
theorem la_stepOther_73 {x0 x1 : Int} : 400 * (x0 - 1) + x1 - 1 - 1 = 400 * (x0 - 1) + (x1 - 2) := by omega
theorem la_stepOther_74 {x0 x1 x2 x3 : Int} (h0 : x0 = x1) (h1 : 0 ≤ x1 - 2) (h2 : x2 = x0 + 1) : 400 * (x3 - 1) ≤ 400 * (x3 - 1) + x2 := by omega
theorem la_stepOther_75 {x0 x1 x2 : Int} (h0 : x0 = x1) (h1 : 0 ≤ x1 - 2) : 400 * (x2 - 1) ≤ 400 * (x2 - 1) + x0 := by omega
theorem la_stepOther_76 {x0 x1 x2 x3 x4 x5 : Int} (h0 : x0 = x1) (h1 : x2 = x1 + 2) (h2 : x3 = x0 + 1) (h3 : x4 = x3 + 1) (h4 : x5 = x2) : x4 = x5 := by omega
theorem la_stepOther_77 {x0 x1 x2 : Int} (h0 : x0 = x1 + 1) : 400 * (x2 - 1) + x1 ≤ 400 * (x2 - 1) + x0 := by omega
theorem la_stepOther_78 {x0 x1 x2 : Int} (h0 : x0 = x1 + 1) (h1 : x2 = x0 + 1) : x2 = x1 + 2 := by omega
theorem la_stepOther_79 {x0 x1 x2 x3 x4 : Int} (h0 : x0 = x1) (h1 : x2 = x1) (h2 : x3 = x2) (h3 : x0 = x4) : x3 = x4 := by omega
theorem la_stepOther_80 {x0 x1 x2 : Int} (h0 : x0 = x1 + 1) : 400 * (x2 - 1) + (x1 + 1) = 400 * (x2 - 1) + x0 := by omega
theorem la_stepOther_81 {x0 x1 x2 : Int} (h0 : x0 = x1) (h1 : x1 = x2) : x0 = x2 := by omega
theorem la_stepOther_82 {x0 x1 x2 : Int} (h0 : x0 = x1) (h1 : 0 ≤ x2) (h2 : x1 = x2) : 0 ≤ x0 := by omega
theorem la_stepOther_83 {x0 x1 x2 : Int} (h0 : x0 = x1) (h1 : x2 ≤ 7) (h2 : x1 = x2) : x0 ≤ 7 := by omega
theorem la_stepOther_84 {x0 x1 x2 x3 x4 x5 x6 x7 : Int} (h0 : 0 ≤ x0 → x1 = 29) (h1 : x2 = x3) (h2 : x0 = x4) (h3 : 0 ≤ x4 → x5 = 29 ∧ x6 ≤ x3) (h4 : x7 = x6) : 0 ≤ x0 → x1 = 29 ∧ x7 ≤ x2 + 1 := by omega
theorem la_stepOther_85 {x0 x1 x2 : Int} (h0 : x0 = x1 + 1) (h1 : x2 = x0 + 1) : x2 = x1 + 1 + 1 := by omega
theorem la_stepOther_86 {x0 : Int} (h0 : x0 = 20) : ¬ x0 = 21 := by omega
theorem la_stepOther_87 {x0 : Int} (h0 : x0 = 20) : ¬ (x0 = 21 ∨ x0 = 27 ∨ x0 = 28) := by omega
theorem la_stepOther_88 {x0 : Int} (h0 : x0 = 20) : ¬ x0 = 27 := by omega
theorem la_stepOther_89 {x0 : Int} (h0 : x0 = 20) : ¬ x0 = 28 := by omega
theorem la_stepOther_90 {x0 x1 : Int} (h0 : x0 = x1) (h1 : x0 = 20) : x1 = 20 := by omega
theorem la_stepOther_91 {x0 x1 : Int} (h0 : x0 = x1) (h1 : 0 ≤ x1 - 3) : 0 ≤ x0 - 1 := by omega
theorem la_stepOther_92 {x0 x1 : Int} (h0 : x0 = x1) (h1 : 0 ≤ x1 - 3) : 0 ≤ x0 - 2 := by omega
theorem la_stepOther_93 {x0 x1 : Int} (h0 : x0 = x1) (h1 : 0 ≤ x1 - 3) : 0 ≤ x0 - 3 := by omega
theorem la_stepOther_94 {x0 : Int} : x0 - 3 < x0 := by omega
theorem la_stepOther_95 {x0 x1 x2 : Int} (h0 : 1 ≤ x0) (h1 : x0 ≤ 24) (h2 : x1 = x2) (h3 : x1 ≤ 396) (h4 : 0 ≤ x2 - 3) : 1 ≤ x0 ∧ x0 ≤ 24 ∧ 0 ≤ x1 ∧ x1 ≤ 400 ∧ 3 ≤ x1 ∧ x1 < 400 := by omega
theorem la_stepOther_96 {x0 x1 : Int} : 400 * (x0 - 1) + x1 - 2 = 400 * (x0 - 1) + (x1 - 2) := by omega
theorem la_stepOther_97 {x0 x1 : Int} : 400 * (x0 - 1) + x1 - 3 = 400 * (x0 - 1) + (x1 - 3) := by omega
theorem la_stepOther_98 {x0 x1 x2 : Int} (h0 : x0 = x1) (h1 : 0 ≤ x1 - 3) : 400 * (x2 - 1) ≤ 400 * (x2 - 1) + x0 - 3 := by omega
theorem la_stepOther_99 {x0 x1 : Int} (h0 : x0 = x1 + 1) : x0 - 2 ≤ x1 := by omega
theorem la_stepOther_100 {x0 x1 : Int} (h0 : x0 = x1 + 1) : x0 - 3 ≤ x1 := by omega
theorem la_stepOther_101 {x0 x1 : Int} (h0 : x0 = x1 + 1) : x0 - 4 ≤ x1 := by omega
theorem la_stepOther_102 {x0 x1 x2 : Int} (h0 : x0 = x1 + 1) : 400 * (x2 - 1) + (x0 - 4) ≤ 400 * (x2 - 1) + x1 - 3 := by omega
theorem la_stepOther_103 {x0 x1 x2 : Int} (h0 : x0 = x1 + 1) : 400 * (x2 - 1) + (x0 - 4) = 400 * (x2 - 1) + x1 - 3 := by omega
theorem la_stepOther_104 {x0 x1 x2 x3 x4 x5 x6 x7 : Int} (h0 : 0 ≤ x0 → x1 = 29) (h1 : x2 = x3) (h2 : x0 = x4) (h3 : 0 ≤ x4 → x5 ≤ x3 - 3) (h4 : x6 = x2 + 1) (h5 : x7 = x5) : 0 ≤ x0 → x1 = 29 ∧ x7 ≤ x6 - 4 := by omega
theorem la_stepOther_105 {x0 x1 x2 : Int} (h0 : x0 = x1 + 1) : 400 * (x2 - 1) + (x0 - 4 + 1) = 400 * (x2 - 1) + x1 - 2 := by omega
theorem la_stepOther_106 {x0 x1 : Int} (h0 : 0 ≤ x0) (h1 : x1 = x0) : 0 ≤ x1 := by omega
theorem la_stepOther_107 {x0 x1 : Int} (h0 : x0 ≤ 7) (h1 : x1 = x0) : x1 ≤ 7 := by omega
theorem la_stepOther_108 {x0 x1 x2 x3 x4 x5 x6 x7 : Int} (h0 : 0 ≤ x0 → x1 = 29) (h1 : x2 = x3) (h2 : x0 = x4) (h3 : 0 ≤ x4 → x5 ≤ x3 - 3) (h4 : x6 = x2 + 1) (h5 : x7 = x5) : 0 ≤ x0 → x1 = 29 ∧ x7 ≤ x6 - 4 + 1 := by omega
theorem la_stepOther_109 {x0 x1 x2 : Int} (h0 : x0 = x1 + 1) : 400 * (x2 - 1) + (x0 - 4 + 1 + 1) = 400 * (x2 - 1) + x1 - 1 := by omega
theorem la_stepOther_110 {x0 x1 x2 x3 x4 x5 x6 x7 : Int} (h0 : 0 ≤ x0 → x1 = 29) (h1 : x2 = x3) (h2 : x0 = x4) (h3 : 0 ≤ x4 → x5 ≤ x3 - 3) (h4 : x6 = x2 + 1) (h5 : x7 = x5) : 0 ≤ x0 → x1 = 29 ∧ x7 ≤ x6 - 4 + 1 + 1 := by omega
theorem la_stepOther_111 {x0 x1 x2 : Int} (h0 : x0 = x1 + 1) : 400 * (x2 - 1) + (x0 - 4 + 1 + 1 + 1) = 400 * (x2 - 1) + x1 := by omega
theorem la_stepOther_112 {x0 x1 x2 x3 x4 x5 x6 x7 x8 : Int} (h0 : 0 ≤ x0 → x1 = 29) (h1 : x2 = x3) (h2 : x0 = x4) (h3 : 0 ≤ x4 → x5 = 29 ∧ x6 ≤ x3) (h4 : x7 = x2 + 1) (h5 : x8 = x6) : 0 ≤ x0 → x1 = 29 ∧ x8 ≤ x7 - 4 + 1 + 1 + 1 := by omega
theorem la_stepOther_113 {x0 : Int} : x0 = x0 - 4 + 1 + 1 + 1 + 1 := by omega
theorem la_stepOther_114 {x0 x1 : Int} (h0 : x0 = x1) (h1 : x0 = 21) : x1 = 21 := by omega
theorem la_stepOther_115 {x0 : Int} (h0 : 1 ≤ x0) (h1 : x0 ≤ 24) : 0 ≤ x0 - 1 ∧ x0 - 1 < 24 := by omega
theorem la_stepOther_116 {x0 : Int} : x0 - 1 = x0 - 1 := by omega
theorem la_stepOther_117 {x0 x1 x2 : Int} (h0 : x0 = x1) (h1 : 0 ≤ x1) (h2 : x2 = x0) : 0 ≤ x2 := by omega
theorem la_stepOther_118 {x0 x1 x2 x3 : Int} (h0 : x0 = x1) (h1 : x1 < x2) (h2 : x3 = x0) : x3 < x2 := by omega
theorem la_stepOther_119 {x0 x1 x2 x3 : Int} (h0 : x0 = x1) (h1 : x2 = x1) (h2 : x3 = x2) : x0 = x3 := by omega
theorem la_stepOther_120 {x0 : Int} : x0 = x0 - 1 + 1 := by omega
theorem la_stepOther_121 {x0 : Int} (h0 : x0 = 22) : ¬ x0 = 21 := by omega
theorem la_stepOther_122 {x0 : Int} (h0 : x0 = 22) : ¬ (x0 = 21 ∨ x0 = 27 ∨ x0 = 28) := by omega
theorem la_stepOther_123 {x0 : Int} (h0 : x0 = 22) : ¬ x0 = 27 := by omega
theorem la_stepOther_124 {x0 : Int} (h0 : x0 = 22) : ¬ x0 = 28 := by omega
theorem la_stepOther_125 {x0 x1 : Int} (h0 : x0 = x1) (h1 : x0 = 22) : x1 = 22 := by omega
theorem la_stepOther_126 {x0 x1 x2 : Int} (h0 : x0 = x1) (h1 : x0 = 6) (h2 : x1 = x2) : x2 = 6 := by omega
theorem la_stepOther_127 {x0 x1 x2 : Int} (h0 : x0 = x1) (h1 : x0 = 6) (h2 : x1 = x2) : ¬ x2 = 7 := by omega
theorem la_stepOther_128 {x0 x1 x2 : Int} (h0 : x0 = x1) (h1 : x1 = x2) (h2 : 0 ≤ x2) : 0 ≤ x0 := by omega
theorem la_stepOther_129 {x0 x1 x2 x3 : Int} (h0 : x0 ≤ 400) (h1 : x1 = x2) (h2 : x2 = x3) (h3 : x3 < x0) : x1 < 400 := by omega
theorem la_stepOther_130 {x0 x1 : Int} (h0 : x0 = x1 - 1) : x0 ≤ x1 := by omega
theorem la_stepOther_131 {x0 : Int} (h0 : x0 = 1) : 0 ≤ x0 := by omega
theorem la_stepOther_132 {x0 : Int} (h0 : 0 ≤ x0) (h1 : ¬ x0 = 0) : 0 < x0 := by omega
theorem la_stepOther_133 {x0 x1 x2 : Int} (h0 : x0 ≤ 600) (h1 : 0 ≤ x1) (h2 : x2 = x1) (h3 : x1 + 1 < x0) : sv_R (x2 + 1) := by omega
theorem la_stepOther_134 {x0 x1 : Int} (h0 : x0 = x1) (h1 : 0 ≤ x1 - 1) : 0 ≤ x0 - 1 := by omega
theorem la_stepOther_135 {x0 : Int} (h0 : x0 = 24) : 23 ≤ x0 := by omega
theorem la_stepOther_136 {x0 : Int} (h0 : 23 ≤ x0) (h1 : ¬ x0 = 23) : 23 < x0 := by omega
theorem la_stepOther_137 {x0 : Int} (h0 : x0 = 24) : ¬ x0 = 21 := by omega
theorem la_stepOther_138 {x0 : Int} (h0 : x0 = 24) : ¬ x0 = 27 := by omega
theorem la_stepOther_139 {x0 : Int} (h0 : x0 = 24) : ¬ x0 = 28 := by omega
theorem la_stepOther_140 {x0 : Int} (h0 : ¬ ¬ x0 = 0) : ¬ x0 = 1 := by omega
theorem la_stepOther_141 {x0 : Int} (h0 : ¬ ¬ x0 = 23) : ¬ x0 = 21 := by omega
theorem la_stepOther_142 {x0 : Int} (h0 : ¬ ¬ x0 = 23) : ¬ x0 = 24 := by omega
theorem la_stepOther_143 {x0 : Int} (h0 : ¬ ¬ x0 = 23) : ¬ x0 = 27 := by omega
theorem la_stepOther_144 {x0 : Int} (h0 : ¬ ¬ x0 = 23) : ¬ x0 = 28 := by omega
theorem la_stepOther_145 {x0 : Int} (h0 : x0 = 0) : x0 ≤ 1 := by omega
theorem la_stepOther_146 {x0 : Int} (h0 : x0 ≤ 1) (h1 : ¬ x0 = 1) : x0 < 1 := by omega
theorem la_stepOther_147 {x0 : Int} (h0 : ¬ ¬ x0 = 1) : ¬ x0 = 0 := by omega
theorem la_stepOther_148 {x0 : Int} (h0 : x0 = 25) : ¬ x0 = 21 := by omega
theorem la_stepOther_149 {x0 : Int} (h0 : x0 = 25) : ¬ (x0 = 21 ∨ x0 = 27 ∨ x0 = 28) := by omega
theorem la_stepOther_150 {x0 : Int} (h0 : x0 = 25) : ¬ x0 = 27 := by omega
theorem la_stepOther_151 {x0 : Int} (h0 : x0 = 25) : ¬ x0 = 28 := by omega
theorem la_stepOther_152 {x0 x1 : Int} (h0 : x0 = x1) (h1 : x0 = 25) : x1 = 25 ∨ x1 = 26 := by omega
theorem la_stepOther_153 {x0 : Int} (h0 : x0 = 1) : ¬ x0 = 2 := by omega
theorem la_stepOther_154 {x0 : Int} (h0 : x0 = 26) : ¬ x0 = 21 := by omega
theorem la_stepOther_155 {x0 : Int} (h0 : x0 = 26) : ¬ (x0 = 21 ∨ x0 = 27 ∨ x0 = 28) := by omega
theorem la_stepOther_156 {x0 : Int} (h0 : x0 = 26) : ¬ x0 = 27 := by omega
theorem la_stepOther_157 {x0 : Int} (h0 : x0 = 26) : ¬ x0 = 28 := by omega
theorem la_stepOther_158 {x0 x1 : Int} (h0 : x0 = x1) (h1 : x0 = 26) : x1 = 25 ∨ x1 = 26 := by omega
theorem la_stepOther_159 {x0 x1 x2 : Int} (h0 : x0 < x1) (h1 : x2 = x0) : x2 < x1 := by omega
theorem la_stepOther_160 {x0 x1 : Int} (h0 : x0 = x1) : x1 = x0 := by omega
theorem la_stepOther_161 {x0 x1 : Int} (h0 : 0 ≤ x0) (h1 : x0 = x1) : 0 ≤ x1 := by omega
theorem la_stepOther_162 {x0 x1 x2 x3 : Int} (h0 : x0 = x1) (h1 : x2 ≤ x1 - 1) (h2 : x3 = x2) : x3 ≤ x0 := by omega
theorem la_stepOther_163 {x0 x1 : Int} (h0 : x0 ≤ 24) (h1 : x1 ≤ x0) : x1 ≤ 24 := by omega
theorem la_stepOther_164 {x0 : Int} (h0 : x0 = 1) : ¬ x0 = 3 := by omega
theorem la_stepOther_165 {x0 : Int} (h0 : x0 = 27) : ¬ x0 = 21 := by omega
theorem la_stepOther_166 {x0 x1 : Int} (h0 : x0 = x1) (h1 : x0 = 27) : x1 = 27 := by omega
theorem la_stepOther_167 {x0 x1 x2 x3 : Int} (h0 : 1 ≤ x0) (h1 : x0 ≤ 24) (h2 : x1 = x2) (h3 : x3 < 40) (h4 : x3 = x2) (h5 : 0 ≤ x3) : 0 ≤ 40 * (x0 - 1) + x1 ∧ 40 * (x0 - 1) + x1 < 960 := by omega
theorem la_stepOther_168 {x0 x1 : Int} (h0 : (-1) ≤ x0) (h1 : x0 < x1) : (-1) ≤ x0 ∧ x0 < x1 := by omega
theorem la_stepOther_169 {x0 x1 x2 x3 : Int} (h0 : x0 = x1) (h1 : x2 = x1) : 40 * (x3 - 1) + x0 = 40 * (x3 - 1) + x2 := by omega
theorem la_stepOther_170 {x0 x1 x2 : Int} (h0 : x0 = x1) (h1 : x2 < 40) (h2 : x2 = x1) (h3 : 0 ≤ x2) : sv_R (x0 + 1) := by omega
theorem la_stepOther_171 {x0 x1 x2 x3 x4 x5 : Int} (h0 : x0 = x1) (h1 : x2 = x1) (h2 : x3 = x2 + 1) (h3 : x4 = x0 + 1) (h4 : x3 = x5) : x4 = x5 := by omega
theorem la_stepOther_172 {x0 x1 x2 x3 : Int} (h0 : x0 = x1) (h1 : x2 = x1) (h2 : 0 ≤ x2) : 40 * (x3 - 1) ≤ 40 * (x3 - 1) + x0 := by omega
theorem la_stepOther_173 {x0 : Int} (h0 : x0 = 28) : ¬ x0 = 21 := by omega
theorem la_stepOther_174 {x0 : Int} (h0 : x0 = 28) : ¬ x0 = 27 := by omega
theorem la_stepOther_175 {x0 x1 : Int} (h0 : x0 = x1) (h1 : x0 = 28) : x1 = 28 := by omega
theorem la_stepOther_176 {x0 x1 x2 : Int} (h0 : x0 < x1) (h1 : x1 + 1 < x2) : x0 < x2 := by omega
theorem la_stepOther_177 {x0 x1 x2 : Int} (h0 : x0 = x1) (h1 : 0 ≤ x2) (h2 : x2 < 40) (h3 : x1 = x2 + 1) : sv_R (x0 - 1) := by omega
theorem la_stepOther_178 {x0 x1 x2 x3 x4 : Int} (h0 : x0 ≤ 600) (h1 : 1 ≤ x1) (h2 : x1 ≤ 24) (h3 : x2 = x3) (h4 : x4 < x3) (h5 : 0 ≤ x4) (h6 : x3 + 1 < x0) : 1 ≤ x1 ∧ x1 ≤ 24 ∧ 0 ≤ x2 ∧ x2 ≤ 600 := by omega
theorem la_stepOther_179 {x0 x1 x2 x3 x4 x5 : Int} (h0 : x0 = x1) (h1 : x1 = x2 + 1) (h2 : x2 = x3) (h3 : x4 = x0 - 1) (h4 : x5 = x3) : x4 = x5 := by omega
theorem la_stepOther_180 {x0 : Int} (h0 : x0 = 29) : ¬ x0 = 21 := by omega
theorem la_stepOther_181 {x0 : Int} (h0 : x0 = 29) : ¬ (x0 = 21 ∨ x0 = 27 ∨ x0 = 28) := by omega
theorem la_stepOther_182 {x0 : Int} (h0 : x0 = 29) : ¬ x0 = 27 := by omega
theorem la_stepOther_183 {x0 : Int} (h0 : x0 = 29) : ¬ x0 = 28 := by omega
theorem la_stepOther_184 {x0 x1 : Int} (h0 : x0 = x1) (h1 : x0 = 29) : x1 = 29 := by omega
theorem la_stepOther_185 {x0 x1 x2 : Int} (h0 : 1 ≤ x0) (h1 : x0 ≤ 24) (h2 : x1 ≤ 396) (h3 : 1 ≤ x1) (h4 : x2 = x1 - 1) : 1 ≤ x0 ∧ x0 ≤ 24 ∧ 0 ≤ x2 ∧ x2 ≤ 400 := by omega
theorem la_stepOther_186 {x0 x1 x2 : Int} (h0 : 1 ≤ x0) (h1 : x0 ≤ 24) (h2 : x1 ≤ 396) (h3 : 1 ≤ x1) (h4 : x2 = x1 - 1) : 0 ≤ 400 * (x0 - 1) + x2 ∧ 400 * (x0 - 1) + x2 < 9600 := by omega
theorem la_stepOther_187 {x0 x1 x2 : Int} (h0 : 1 ≤ x0) (h1 : x0 ≤ 24) (h2 : x1 ≤ 396) (h3 : 1 ≤ x1) (h4 : x2 = x1 - 1) : 1 ≤ x0 ∧ x0 ≤ 24 ∧ 0 ≤ x2 ∧ x2 ≤ 400 ∧ x2 < 400 := by omega
theorem la_stepOther_188 {x0 x1 x2 : Int} (h0 : x0 = x1 - 1) : ¬ ¬ 400 * (x2 - 1) + (x1 - 1) = 400 * (x2 - 1) + x0 := by omega
theorem la_stepOther_189 {x0 x1 x2 : Int} (h0 : x0 = x1 - 1) : ¬ ¬ 400 * (x2 - 1) + x1 - 1 - 0 = 400 * (x2 - 1) + x0 := by omega
theorem la_stepOther_190 {x0 : Int} (h0 : x0 ≤ 7) (h1 : ¬ x0 = 7) : x0 < 7 := by omega
theorem la_stepOther_191 {x0 x1 x2 : Int} (h0 : x0 = x1) (h1 : x1 = x2) (h2 : x0 < 7) : ¬ x2 = 7 := by omega
theorem la_stepOther_192 {x0 x1 x2 : Int} (h0 : 1 ≤ x0) (h1 : x1 = x0 - 1) : 400 * (x2 - 1) ≤ 400 * (x2 - 1) + x1 := by omega
theorem la_stepOther_193 {x0 x1 x2 x3 x4 x5 : Int} (h0 : x0 = x1) (h1 : x2 = x1) (h2 : x3 = x0 - 1) (h3 : x4 = x3 + 1) (h4 : x5 = x2) : x4 = x5 := by omega
theorem la_stepOther_194 {x0 x1 x2 : Int} (h0 : x0 = x1 - 1) (h1 : x2 = x0 + 1) : x2 = x1 - 1 + 1 := by omega
theorem la_stepOther_195 {x0 : Int} : x0 - 1 ≤ x0 := by omega
theorem la_stepOther_196 {x0 x1 x2 : Int} (h0 : x0 = x1 - 1) : 400 * (x2 - 1) + (x1 - 1) ≤ 400 * (x2 - 1) + x0 := by omega
theorem la_stepOther_197 {x0 x1 x2 : Int} (h0 : x0 = x1 - 1) : 400 * (x2 - 1) + (x1 - 1) = 400 * (x2 - 1) + x0 := by omega
theorem la_stepOther_198 : (8 : Int) = 8 := by omega
theorem la_stepOther_199 {x0 : Int} (h0 : 23 ≤ x0) : ((-1) : Int) ≤ (-1) ∧ (-1) < x0 := by omega
theorem la_stepOther_200 {x0 x1 : Int} (h0 : x0 = x1) : x1 = x0 - 1 + 1 := by omega
theorem la_stepOther_201 {x0 x1 x2 : Int} (h0 : x0 = x1) (h1 : ¬ ¬ x0 = 7) (h2 : x1 = x2) : ¬ x2 = 6 := by omega
theorem la_stepOther_202 {x0 x1 x2 : Int} (h0 : x0 = x1) (h1 : x2 ≤ 7) (h2 : ¬ ¬ x0 = 7) (h3 : x1 = x2) : x2 = 7 := by omega
theorem la_stepOther_203 {x0 x1 x2 x3 : Int} (h0 : x0 = x1) (h1 : x1 = x2) (h2 : 0 ≤ x2) (h3 : x2 < x3) : (-1) ≤ x0 ∧ x0 < x3 := by omega
theorem la_stepOther_204 {x0 x1 : Int} : x0 = 21 → (x0 = 21 ∨ x0 = 27 ∨ x0 = 28) ∨ 0 = x1 := by omega
theorem la_stepOther_205 {x0 x1 : Int} : x0 = 27 → (x0 = 21 ∨ x0 = 27 ∨ x0 = 28) ∨ 0 = x1 := by omega
theorem la_stepOther_206 {x0 x1 x2 x3 : Int} (h0 : 1 ≤ x0) (h1 : x0 ≤ 24) (h2 : 0 ≤ x1) (h3 : x1 ≤ 396) (h4 : ¬ x2 = 27) (h5 : x2 = 28 ∨ 1 ≤ x1) : ¬ x2 = 28 → (1 ≤ x0 ∧ x0 ≤ 24 ∧ 0 ≤ x1 ∧ x1 ≤ 400 ∧ (0 : Int) ≤ 0 ∧ 0 < x1) ∧ ((x2 = 21 ∨ x2 = 27 ∨ x2 = 28) ∨ x3 = x3) := by omega
theorem la_stepOther_207 {x0 : Int} (h0 : ¬ ¬ x0 = 28) : 21 ≤ x0 := by omega
theorem la_stepOther_208 {x0 : Int} (h0 : 21 ≤ x0) (h1 : ¬ x0 = 21) : 21 < x0 := by omega
theorem la_stepOther_209 {x0 : Int} (h0 : ¬ ¬ x0 = 28) : 27 ≤ x0 := by omega
theorem la_stepOther_210 {x0 : Int} (h0 : 27 ≤ x0) (h1 : ¬ x0 = 27) : 27 < x0 := by omega
theorem la_stepOther_211 {x0 : Int} (h0 : ¬ ¬ x0 = 28) : x0 = 28 := by omega
theorem la_stepOther_212 {x0 x1 : Int} (h0 : ¬ ¬ x0 = 28) : (x0 = 21 ∨ x0 = 27 ∨ x0 = 28) ∨ 0 = x1 := by omega
set_option maxHeartbeats 8000000 in
theorem f_stepOther : ∀ (p1 : Int) (p2 : Int) (S : sv_S), sm_ok S → sv_R p1 → sv_R p2 → ((S 1075 0) = 0 ∧ (S 1073 0) = 1 ∧ sm_PL (S 1100020) (S 51) (S 52) (S 46) (S 47) (S 1076 0) (S 1086 0) ∧ sm_FR (S 1100020) (S 52) (S 1100021) (S 1100022) (3000 - (S 1084 0)) (S 1085 0) ∧ sm_PV (S 1100020) (S 48) (S 49) (S 50) (S 44) (S 1076 0) (S 1007 0) ∧ sm_AL (S 1100020) (S 48) (S 49) (S 50) (S 44) (S 1076 0) (S 1100032 0) ∧ sm_SV (S 1100020) (S 48) (S 1100029) (S 32) (S 33) (S 1076 0) (S 1032 0) ∧ 0 ≤ (S 1076 0) ∧ (S 1076 0) ≤ 300 ∧ 0 ≤ (S 1084 0) ∧ (S 1084 0) ≤ 3000 ∧ 0 ≤ (S 1086 0) ∧ sm_SC (S 1100029) (S 44) (S 45) (S 43) (S 21) (S 1076 0) (S 1032 0) ∧ sm_PO (S 42) (S 1076 0) ∧ (S 1100032 0) = -1 ∧ sm_FO (S 44) (S 45) (S 1076 0) ∧ 23 ≤ (S 1076 0) ∧ 31 ≤ (S 1007 0) ∧ (S 1007 0) ≤ 400 ∧ sm_LN (S 4) 400 (S 1007 0) ∧ sm_CT (S 26) (S 27) (S 28) (S 29) (S 1100007) (S 1100023) (S 1100024) (S 1100025) (S 21) (S 1046 0) (S 1032 0) (S 1008 0) (S 1055 0) ∧ sm_LS (S 26) (S 1100007) (S 1100025) (S 1046 0) ∧ sm_CL (S 1100007) (S 1100023) (S 1100025) (S 1046 0) ∧ 1 ≤ (S 1032 0) ∧ (S 1032 0) ≤ 11 ∧ 0 ≤ (S 1046 0) ∧ (S 1046 0) ≤ 600 ∧ 31 ≤ (S 1008 0) ∧ (S 1008 0) ≤ (S 1007 0) ∧ 0 ≤ (S 1055 0) ∧ (S 1055 0) ≤ 19 ∧ 1 ≤ (S 1092 0) ∧ (S 1092 0) ≤ 24 ∧ 0 ≤ (S 1100033 0) ∧ (S 1100033 0) < (S 1046 0) ∧ (S 29 (S 1100033 0)) = (S 53 ((S 1092 0) - 1)) ∧ 0 ≤ (S 53 ((S 1092 0) - 1)) ∧ (S 53 ((S 1092 0) - 1)) < (S 1032 0) ∧ (S 60 ((S 1092 0) - 1)) = sm_dp (S 1100024) (S 1100023 (S 1100033 0)) ∧ sm_TC (S 61) (S 62) (S 27) (S 1100007) (S 1100023) (S 1100024) (40 * ((S 1092 0) - 1)) (S 1100023 (S 1100033 0)) ∧ sm_LK (S 1100029) (S 1076 0) (S 54 ((S 1092 0) - 1)) (S 53 ((S 1092 0) - 1)) ∧ sm_VO (S 44) (S 1076 0) (S 1007 0) ((S 55 ((S 1092 0) - 1))) ((S 56 ((S 1092 0) - 1))) ∧ sm_FW (S 44) (S 1076 0) (S 59 ((S 1092 0) - 1)) ∧ sm_FL (S 53) (S 54) (S 55) (S 56) (S 57) (S 58) (S 59) (S 60) (S 61) (S 62) (S 63) (S 64) (S 27) (S 29) (S 1100007) (S 1100023) (S 1100024) (S 1100025) (S 26) (S 1100029) (S 44) (S 1046 0) (S 1032 0) (S 1076 0) (S 1007 0) (((S 1092 0) - 1)) ∧ (S 57 ((S 1092 0) - 1)) = (S 1100033 0) ∧ 0 ≤ (S 58 ((S 1092 0) - 1)) ∧ (S 58 ((S 1092 0) - 1)) ≤ 400 ∧ sm_SK (S 63) (S 64) (S 44) (S 1100007) (S 1100025) (S 1076 0) (S 1007 0) (400 * ((S 1092 0) - 1)) ((S 58 ((S 1092 0) - 1))) ((S 1100034 0)) ∧ -1 ≤ (S 1100034 0) ∧ (S 1100034 0) < (S 1046 0) ∧ (0 ≤ (S 1100034 0) → (S 26 (S 1100034 0)) = 29) ∧ (S 58 ((S 1092 0) - 1)) = (S 1100007 (S 1100033 0)) ∧ (S 1100034 0) = (S 1100025 (S 1100033 0)) ∧ (0 ≤ (S 1100023 (S 1100033 0)) → (S 1100007 (S 1100023 (S 1100033 0))) ≤ (S 58 ((S 1092 0) - 1))) ∧ (S 58 ((S 1092 0) - 1)) ≤ 396 ∧ 17 ≤ p1 ∧ p1 ≤ 30 ∧ p1 = (S 26 (S 1100033 0)) ∧ p2 = (S 27 (S 1100033 0)) ∧ (p1 = 21 ∨ p1 = 27 ∨ p1 = 28 ∨ 1 ≤ (S 58 ((S 1092 0) - 1)))) → ((sm_CT (S 26) (S 27) (S 28) (S 29) (S 1100007) (S 1100023) (S 1100024) (S 1100025) (S 21) (S 1046 0) (S 1032 0) (S 1008 0) (S 1055 0) → 0 ≤ (S 1100033 0) → (S 1100033 0) < (S 1046 0) → (0 ≤ (S 1100025 (S 1100033 0)) → (S 26 (S 1100025 (S 1100033 0))) = 29 ∧ (S 1100007 (S 1100025 (S 1100033 0))) ≤ (S 1100007 (S 1100033 0))) ∧ (0 ≤ (S 1100007 (S 1100033 0)) ∧ (S 1100007 (S 1100033 0)) ≤ 396 ∧ -1 ≤ (S 1100023 (S 1100033 0)) ∧ (S 1100023 (S 1100033 0)) < (S 1100033 0) ∧ -1 ≤ (S 1100025 (S 1100033 0)) ∧ (S 1100025 (S 1100033 0)) < (S 1100033 0) ∧ 0 ≤ (S 26 (S 1100033 0)) ∧ (S 26 (S 1100033 0)) ≤ 30)) → (((S 1100034 0) = (S 1100025 (S 1100033 0)) → (S 58 ((S 1092 0) - 1)) = (S 1100007 (S 1100033 0)) → (0 ≤ (S 1100025 (S 1100033 0)) → (S 1100007 (S 1100025 (S 1100033 0))) ≤ (S 1100007 (S 1100033 0))) → (0 ≤ (S 1100034 0) → (S 1100007 (S 1100034 0)) ≤ (S 58 ((S 1092 0) - 1)))) → ((∀ s3 : Int, sv_R s3 → ((p1 = 21 ∨ p1 = 27 ∨ p1 = 28) ∨ s3 = (S 63 ((400 * ((S 1092 0) - 1) + (S 58 ((S 1092 0) - 1))) - 1 - 0))) → ((∀ s5 : Int, sv_R s5 → ((p1 = 21 ∨ p1 = 27 ∨ p1 = 28) ∨ s5 = (S 64 ((400 * ((S 1092 0) - 1) + (S 58 ((S 1092 0) - 1))) - 1 - 0))) → (sv_R (S 1092 0) → (((p1 < (17 : Int) ∨ (29 : Int) < p1) → ((sm_CT (S 26) (S 27) (S 28) (S 29) (S 1100007) (S 1100023) (S 1100024) (S 1100025) (S 21) (S 1046 0) (S 1032 0) (S 1008 0) (S 1055 0) → 0 ≤ (S 1100033 0) → (S 1100033 0) < (S 1046 0) → ((S 26 (S 1100033 0)) = 30 → 0 ≤ (S 1100025 (S 1100033 0)) ∧ (S 1100007 ((S 1100025 (S 1100033 0)))) = (S 1100007 (S 1100033 0)) ∧ 1 ≤ (S 1100007 (S 1100033 0)) ∧ (0 ≤ (S 1100023 (S 1100033 0)) → (S 1100007 ((S 1100023 (S 1100033 0)))) ≤ (S 1100007 (S 1100033 0)) - 1) ∧ (0 ≤ ((S 1100033 0) + 1) ∧ ((S 1100033 0) + 1) < (S 1046 0) ∧ (S 29 ((S 1100033 0) + 1)) = ((S 29 (S 1100033 0))) ∧ (S 1100007 ((S 1100033 0) + 1)) = ((S 1100007 (S 1100033 0)) + 1) ∧ (S 1100023 ((S 1100033 0) + 1)) = ((S 1100023 (S 1100033 0))) ∧ (S 1100025 ((S 1100033 0) + 1)) = ((S 1100025 (S 1100033 0)))) ∧ (0 ≤ ((S 27 (S 1100033 0))) ∧ ((S 27 (S 1100033 0))) < (S 1046 0) ∧ (S 29 ((S 27 (S 1100033 0)))) = ((S 29 (S 1100033 0))) ∧ (S 1100007 ((S 27 (S 1100033 0)))) = ((S 1100007 (S 1100033 0)) - 1) ∧ (S 1100023 ((S 27 (S 1100033 0)))) = ((S 1100023 (S 1100033 0))) ∧ (S 1100025 ((S 27 (S 1100033 0)))) = ((S 1100025 ((S 1100025 (S 1100033 0)))))))) → ((sm_SK (S 63) (S 64) (S 44) (S 1100007) (S 1100025) (S 1076 0) (S 1007 0) (400 * ((S 1092 0) - 1)) ((S 58 ((S 1092 0) - 1))) ((S 1100034 0)) → sm_LS (S 26) (S 1100007) (S 1100025) (S 1046 0) → 0 ≤ (S 1100034 0) → (S 1100034 0) < (S 1046 0) → (S 26 (S 1100034 0)) = 29 → (S 1100007 (S 1100034 0)) = (S 58 ((S 1092 0) - 1)) → (S 63 (400 * ((S 1092 0) - 1) + (S 58 ((S 1092 0) - 1)) - 1)) = 8 ∧ -1 ≤ (S 64 (400 * ((S 1092 0) - 1) + (S 58 ((S 1092 0) - 1)) - 1)) ∧ (S 64 (400 * ((S 1092 0) - 1) + (S 58 ((S 1092 0) - 1)) - 1)) < (S 1076 0)) → ((sm_CT (S 26) (S 27) (S 28) (S 29) (S 1100007) (S 1100023) (S 1100024) (S 1100025) (S 21) (S 1046 0) (S 1032 0) (S 1008 0) (S 1055 0) → 0 ≤ (S 1100033 0) → (S 1100033 0) < (S 1046 0) → (0 ≤ (S 1100025 (S 1100033 0)) → (S 26 ((S 1100025 (S 1100033 0)))) = 29 ∧ (S 29 ((S 1100025 (S 1100033 0)))) = (S 29 (S 1100033 0)) ∧ (S 1100007 ((S 1100025 (S 1100033 0)))) ≤ (S 1100007 (S 1100033 0)) ∧ 1 ≤ (S 1100007 ((S 1100025 (S 1100033 0)))))) → ((S 1075 0) = 0 ∧ (S 1073 0) = 1 ∧ sm_PL (S 1100020) (S 51) (S 52) (S 46) (S 47) (S 1076 0) (S 1086 0) ∧ sm_FR (S 1100020) (S 52) (S 1100021) (S 1100022) (3000 - (S 1084 0)) (S 1085 0) ∧ sm_PV (S 1100020) (S 48) (S 49) (S 50) (S 44) (S 1076 0) (S 1007 0) ∧ sm_AL (S 1100020) (S 48) (S 49) (S 50) (S 44) (S 1076 0) (S 1100032 0) ∧ sm_SV (S 1100020) (S 48) (S 1100029) (S 32) (S 33) (S 1076 0) (S 1032 0) ∧ 0 ≤ (S 1076 0) ∧ (S 1076 0) ≤ 300 ∧ 0 ≤ (S 1084 0) ∧ (S 1084 0) ≤ 3000 ∧ 0 ≤ (S 1086 0) ∧ sm_SC (S 1100029) (S 44) (S 45) (S 43) (S 21) (S 1076 0) (S 1032 0) ∧ sm_PO (S 42) (S 1076 0) ∧ (S 1100032 0) = -1 ∧ sm_FO (S 44) (S 45) (S 1076 0) ∧ 23 ≤ (S 1076 0) ∧ 31 ≤ (S 1007 0) ∧ (S 1007 0) ≤ 400 ∧ sm_LN (S 4) 400 (S 1007 0) ∧ sm_CT (S 26) (S 27) (S 28) (S 29) (S 1100007) (S 1100023) (S 1100024) (S 1100025) (S 21) (S 1046 0) (S 1032 0) (S 1008 0) (S 1055 0) ∧ sm_LS (S 26) (S 1100007) (S 1100025) (S 1046 0) ∧ sm_CL (S 1100007) (S 1100023) (S 1100025) (S 1046 0) ∧ 1 ≤ (S 1032 0) ∧ (S 1032 0) ≤ 11 ∧ 0 ≤ (S 1046 0) ∧ (S 1046 0) ≤ 600 ∧ 31 ≤ (S 1008 0) ∧ (S 1008 0) ≤ (S 1007 0) ∧ 0 ≤ (S 1055 0) ∧ (S 1055 0) ≤ 19 ∧ 1 ≤ (S 1092 0) ∧ (S 1092 0) ≤ 24 ∧ 0 ≤ (S 1100033 0) ∧ (S 1100033 0) < (S 1046 0) ∧ (S 29 (S 1100033 0)) = (S 53 ((S 1092 0) - 1)) ∧ 0 ≤ (S 53 ((S 1092 0) - 1)) ∧ (S 53 ((S 1092 0) - 1)) < (S 1032 0) ∧ (S 60 ((S 1092 0) - 1)) = sm_dp (S 1100024) (S 1100023 (S 1100033 0)) ∧ sm_TC (S 61) (S 62) (S 27) (S 1100007) (S 1100023) (S 1100024) (40 * ((S 1092 0) - 1)) (S 1100023 (S 1100033 0)) ∧ sm_LK (S 1100029) (S 1076 0) (S 54 ((S 1092 0) - 1)) (S 53 ((S 1092 0) - 1)) ∧ sm_VO (S 44) (S 1076 0) (S 1007 0) ((S 55 ((S 1092 0) - 1))) ((S 56 ((S 1092 0) - 1))) ∧ sm_FW (S 44) (S 1076 0) (S 59 ((S 1092 0) - 1)) ∧ sm_FL (S 53) (S 54) (S 55) (S 56) (S 57) (S 58) (S 59) (S 60) (S 61) (S 62) (S 63) (S 64) (S 27) (S 29) (S 1100007) (S 1100023) (S 1100024) (S 1100025) (S 26) (S 1100029) (S 44) (S 1046 0) (S 1032 0) (S 1076 0) (S 1007 0) (((S 1092 0) - 1)) ∧ (S 57 ((S 1092 0) - 1)) = (S 1100033 0) ∧ 0 ≤ (S 58 ((S 1092 0) - 1)) ∧ (S 58 ((S 1092 0) - 1)) ≤ 400 ∧ sm_SK (S 63) (S 64) (S 44) (S 1100007) (S 1100025) (S 1076 0) (S 1007 0) (400 * ((S 1092 0) - 1)) ((S 58 ((S 1092 0) - 1))) ((S 1100034 0)) ∧ -1 ≤ (S 1100034 0) ∧ (S 1100034 0) < (S 1046 0) ∧ (0 ≤ (S 1100034 0) → (S 26 (S 1100034 0)) = 29) ∧ (S 58 ((S 1092 0) - 1)) = (S 1100007 (S 1100033 0)) ∧ (S 1100034 0) = (S 1100025 (S 1100033 0)) ∧ (0 ≤ (S 1100023 (S 1100033 0)) → (S 1100007 (S 1100023 (S 1100033 0))) ≤ (S 58 ((S 1092 0) - 1))) ∧ (S 58 ((S 1092 0) - 1)) ≤ 396 ∧ 0 ≤ (S 1100034 0) ∧ 1 ≤ (S 58 ((S 1092 0) - 1)) ∧ (S 1100007 (S 1100034 0)) = (S 58 ((S 1092 0) - 1)) ∧ (S 1100033 0) + 1 < (S 1046 0) ∧ (S 29 ((S 1100033 0) + 1)) = (S 29 (S 1100033 0)) ∧ (S 1100007 ((S 1100033 0) + 1)) = (S 58 ((S 1092 0) - 1)) + 1 ∧ (S 1100023 ((S 1100033 0) + 1)) = (S 1100023 (S 1100033 0)) ∧ (S 1100025 ((S 1100033 0) + 1)) = (S 1100034 0) ∧ 0 ≤ p2 ∧ p2 < (S 1046 0) ∧ (S 29 p2) = (S 29 (S 1100033 0)) ∧ (S 1100007 p2) = (S 58 ((S 1092 0) - 1)) - 1 ∧ (S 1100023 p2) = (S 1100023 (S 1100033 0)) ∧ (S 1100025 p2) = (S 1100025 (S 1100034 0))) ∧ (∀ g12 : sv_S, (sm_PL (S 1100020) (S 51) (S 52) (S 46) (S 47) (S 1076 0) (S 1086 0) ∧ sm_FR (S 1100020) (S 52) (S 1100021) (S 1100022) (3000 - (S 1084 0)) (S 1085 0) ∧ sm_PV (S 1100020) (S 48) (S 49) (S 50) (S 44) (S 1076 0) (S 1007 0) ∧ sm_AL (S 1100020) (S 48) (S 49) (S 50) (S 44) (S 1076 0) (S 1100032 0) ∧ sm_SV (S 1100020) (S 48) (S 1100029) (S 32) (S 33) (S 1076 0) (S 1032 0) ∧ 0 ≤ (S 1076 0) ∧ (S 1076 0) ≤ 300 ∧ 0 ≤ (S 1084 0) ∧ (S 1084 0) ≤ 3000 ∧ 0 ≤ (S 1086 0) ∧ sm_SC (S 1100029) (S 44) (S 45) (S 43) (S 21) (S 1076 0) (S 1032 0) ∧ sm_PO (S 42) (S 1076 0) ∧ ((S 1075 0) = 0 → (S 1100032 0) = -1 ∧ sm_FO (S 44) (S 45) (S 1076 0)) ∧ 23 ≤ (S 1076 0) ∧ 31 ≤ (S 1007 0) ∧ (S 1007 0) ≤ 400 ∧ sm_LN (S 4) 400 (S 1007 0) ∧ (S 1008 0) ≤ (S 1007 0) ∧ ((S 1075 0) = 1 → (S 1075 0) = 1) ∧ 0 ≤ (S 1092 0) ∧ (S 1092 0) ≤ 24 ∧ ((S 1075 0) = 0 → (S 1073 0) = 1 → 1 ≤ (S 1092 0) ∧ (S 1092 0) ≤ 24 ∧ 0 ≤ (g12 57 ((S 1092 0) - 1)) ∧ (g12 57 ((S 1092 0) - 1)) < (S 1046 0) ∧ (S 29 (g12 57 ((S 1092 0) - 1))) = (S 53 ((S 1092 0) - 1)) ∧ 0 ≤ (S 53 ((S 1092 0) - 1)) ∧ (S 53 ((S 1092 0) - 1)) < (S 1032 0) ∧ (S 60 ((S 1092 0) - 1)) = sm_dp (S 1100024) (S 1100023 (g12 57 ((S 1092 0) - 1))) ∧ sm_TC (S 61) (S 62) (S 27) (S 1100007) (S 1100023) (S 1100024) (40 * ((S 1092 0) - 1)) (S 1100023 (g12 57 ((S 1092 0) - 1))) ∧ sm_LK (S 1100029) (S 1076 0) (S 54 ((S 1092 0) - 1)) (S 53 ((S 1092 0) - 1)) ∧ sm_VO (S 44) (S 1076 0) (S 1007 0) ((S 55 ((S 1092 0) - 1))) ((S 56 ((S 1092 0) - 1))) ∧ sm_FW (S 44) (S 1076 0) (S 59 ((S 1092 0) - 1)) ∧ sm_FL (S 53) (S 54) (S 55) (S 56) (g12 57) (g12 58) (S 59) (S 60) (S 61) (S 62) (g12 63) (g12 64) (S 27) (S 29) (S 1100007) (S 1100023) (S 1100024) (S 1100025) (S 26) (S 1100029) (S 44) (S 1046 0) (S 1032 0) (S 1076 0) (S 1007 0) (((S 1092 0) - 1)) ∧ (g12 58 ((S 1092 0) - 1)) = (S 1100007 (g12 57 ((S 1092 0) - 1))) ∧ sm_SK (g12 63) (g12 64) (S 44) (S 1100007) (S 1100025) (S 1076 0) (S 1007 0) (400 * ((S 1092 0) - 1)) ((g12 58 ((S 1092 0) - 1))) ((S 1100025 (g12 57 ((S 1092 0) - 1)))))) → (sm_PL (S 1100020) (S 51) (S 52) (S 46) (S 47) (S 1076 0) (S 1086 0) ∧ sm_FR (S 1100020) (S 52) (S 1100021) (S 1100022) (3000 - (S 1084 0)) (S 1085 0) ∧ sm_PV (S 1100020) (S 48) (S 49) (S 50) (S 44) (S 1076 0) (S 1007 0) ∧ sm_AL (S 1100020) (S 48) (S 49) (S 50) (S 44) (S 1076 0) (S 1100032 0) ∧ sm_SV (S 1100020) (S 48) (S 1100029) (S 32) (S 33) (S 1076 0) (S 1032 0) ∧ 0 ≤ (S 1076 0) ∧ (S 1076 0) ≤ 300 ∧ 0 ≤ (S 1084 0) ∧ (S 1084 0) ≤ 3000 ∧ 0 ≤ (S 1086 0) ∧ sm_SC (S 1100029) (S 44) (S 45) (S 43) (S 21) (S 1076 0) (S 1032 0) ∧ sm_PO (S 42) (S 1076 0) ∧ ((S 1075 0) = 0 → (S 1100032 0) = -1 ∧ sm_FO (S 44) (S 45) (S 1076 0)) ∧ 23 ≤ (S 1076 0) ∧ 31 ≤ (S 1007 0) ∧ (S 1007 0) ≤ 400 ∧ sm_LN (S 4) 400 (S 1007 0) ∧ (S 1008 0) ≤ (S 1007 0) ∧ ((S 1075 0) = 1 → (S 1075 0) = 1) ∧ 0 ≤ (S 1092 0) ∧ (S 1092 0) ≤ 24 ∧ ((S 1075 0) = 0 → (S 1073 0) = 1 → 1 ≤ (S 1092 0) ∧ (S 1092 0) ≤ 24 ∧ 0 ≤ (g12 57 ((S 1092 0) - 1)) ∧ (g12 57 ((S 1092 0) - 1)) < (S 1046 0) ∧ (S 29 (g12 57 ((S 1092 0) - 1))) = (S 53 ((S 1092 0) - 1)) ∧ 0 ≤ (S 53 ((S 1092 0) - 1)) ∧ (S 53 ((S 1092 0) - 1)) < (S 1032 0) ∧ (S 60 ((S 1092 0) - 1)) = sm_dp (S 1100024) (S 1100023 (g12 57 ((S 1092 0) - 1))) ∧ sm_TC (S 61) (S 62) (S 27) (S 1100007) (S 1100023) (S 1100024) (40 * ((S 1092 0) - 1)) (S 1100023 (g12 57 ((S 1092 0) - 1))) ∧ sm_LK (S 1100029) (S 1076 0) (S 54 ((S 1092 0) - 1)) (S 53 ((S 1092 0) - 1)) ∧ sm_VO (S 44) (S 1076 0) (S 1007 0) ((S 55 ((S 1092 0) - 1))) ((S 56 ((S 1092 0) - 1))) ∧ sm_FW (S 44) (S 1076 0) (S 59 ((S 1092 0) - 1)) ∧ sm_FL (S 53) (S 54) (S 55) (S 56) (g12 57) (g12 58) (S 59) (S 60) (S 61) (S 62) (g12 63) (g12 64) (S 27) (S 29) (S 1100007) (S 1100023) (S 1100024) (S 1100025) (S 26) (S 1100029) (S 44) (S 1046 0) (S 1032 0) (S 1076 0) (S 1007 0) (((S 1092 0) - 1)) ∧ (g12 58 ((S 1092 0) - 1)) = (S 1100007 (g12 57 ((S 1092 0) - 1))) ∧ sm_SK (g12 63) (g12 64) (S 44) (S 1100007) (S 1100025) (S 1076 0) (S 1007 0) (400 * ((S 1092 0) - 1)) ((g12 58 ((S 1092 0) - 1))) ((S 1100025 (g12 57 ((S 1092 0) - 1))))))))))) ∧ ((p1 = (17 : Int)) → ((sm_CT (S 26) (S 27) (S 28) (S 29) (S 1100007) (S 1100023) (S 1100024) (S 1100025) (S 21) (S 1046 0) (S 1032 0) (S 1008 0) (S 1055 0) → sm_LS (S 26) (S 1100007) (S 1100025) (S 1046 0) → sm_SK (S 63) (S 64) (S 44) (S 1100007) (S 1100025) (S 1076 0) (S 1007 0) (400 * ((S 1092 0) - 1)) ((S 58 ((S 1092 0) - 1))) ((S 1100034 0)) → 0 ≤ (S 1100033 0) → (S 1100033 0) < (S 1046 0) → (S 26 (S 1100033 0)) = 17 → (S 1100034 0) = (S 1100025 (S 1100033 0)) → (S 58 ((S 1092 0) - 1)) = (S 1100007 (S 1100033 0)) → sm_SK (S 63) (S 64) (S 44) (S 1100007) (S 1100025) (S 1076 0) (S 1007 0) (400 * ((S 1092 0) - 1)) ((S 58 ((S 1092 0) - 1)) - 1) ((S 1100025 ((S 1100033 0) + 1))) ∧ (S 1100033 0) + 1 < (S 1046 0) ∧ (S 29 ((S 1100033 0) + 1)) = (S 29 (S 1100033 0)) ∧ (S 1100007 ((S 1100033 0) + 1)) = (S 1100007 (S 1100033 0)) - 1 ∧ (S 1100023 ((S 1100033 0) + 1)) = (S 1100023 (S 1100033 0)) ∧ 1 ≤ (S 1100007 (S 1100033 0)) ∧ -1 ≤ (S 1100025 ((S 1100033 0) + 1))) → (1 ≤ (S 1092 0) ∧ (S 1092 0) ≤ 24 ∧ 0 ≤ (S 58 ((S 1092 0) - 1)) ∧ (S 58 ((S 1092 0) - 1)) ≤ 400 ∧ 0 ≤ (1 : Int) ∧ (1 : Int) ≤ (S 58 ((S 1092 0) - 1))) ∧ (∀ g19 : sv_S, ((g19 58 ((S 1092 0) - 1)) = (S 58 ((S 1092 0) - 1)) - (1 : Int) ∧ (∀ k : Int, ¬ k = (S 1092 0) - 1 → (g19 58 k) = (S 58 k))) → (1 ≤ (S 1092 0) ∧ (S 1092 0) ≤ 24 ∧ 0 ≤ (S 57 ((S 1092 0) - 1)) ∧ (S 57 ((S 1092 0) - 1)) ≤ 600) ∧ (∀ g25 : sv_S, ((g25 57 ((S 1092 0) - 1)) = (S 57 ((S 1092 0) - 1)) + 1 ∧ (∀ k : Int, ¬ k = (S 1092 0) - 1 → (g25 57 k) = (S 57 k))) → (sm_PL (S 1100020) (S 51) (S 52) (S 46) (S 47) (S 1076 0) (S 1086 0) ∧ sm_FR (S 1100020) (S 52) (S 1100021) (S 1100022) (3000 - (S 1084 0)) (S 1085 0) ∧ sm_PV (S 1100020) (S 48) (S 49) (S 50) (S 44) (S 1076 0) (S 1007 0) ∧ sm_AL (S 1100020) (S 48) (S 49) (S 50) (S 44) (S 1076 0) (S 1100032 0) ∧ sm_SV (S 1100020) (S 48) (S 1100029) (S 32) (S 33) (S 1076 0) (S 1032 0) ∧ 0 ≤ (S 1076 0) ∧ (S 1076 0) ≤ 300 ∧ 0 ≤ (S 1084 0) ∧ (S 1084 0) ≤ 3000 ∧ 0 ≤ (S 1086 0) ∧ sm_SC (S 1100029) (S 44) (S 45) (S 43) (S 21) (S 1076 0) (S 1032 0) ∧ sm_PO (S 42) (S 1076 0) ∧ ((S 1075 0) = 0 → (S 1100032 0) = -1 ∧ sm_FO (S 44) (S 45) (S 1076 0)) ∧ 23 ≤ (S 1076 0) ∧ 31 ≤ (S 1007 0) ∧ (S 1007 0) ≤ 400 ∧ sm_LN (S 4) 400 (S 1007 0) ∧ (S 1008 0) ≤ (S 1007 0) ∧ ((S 1075 0) = 1 → (S 1075 0) = 1) ∧ 0 ≤ (S 1092 0) ∧ (S 1092 0) ≤ 24 ∧ ((S 1075 0) = 0 → (S 1073 0) = 1 → 1 ≤ (S 1092 0) ∧ (S 1092 0) ≤ 24 ∧ 0 ≤ (g25 57 ((S 1092 0) - 1)) ∧ (g25 57 ((S 1092 0) - 1)) < (S 1046 0) ∧ (S 29 (g25 57 ((S 1092 0) - 1))) = (S 53 ((S 1092 0) - 1)) ∧ 0 ≤ (S 53 ((S 1092 0) - 1)) ∧ (S 53 ((S 1092 0) - 1)) < (S 1032 0) ∧ (S 60 ((S 1092 0) - 1)) = sm_dp (S 1100024) (S 1100023 (g25 57 ((S 1092 0) - 1))) ∧ sm_TC (S 61) (S 62) (S 27) (S 1100007) (S 1100023) (S 1100024) (40 * ((S 1092 0) - 1)) (S 1100023 (g25 57 ((S 1092 0) - 1))) ∧ sm_LK (S 1100029) (S 1076 0) (S 54 ((S 1092 0) - 1)) (S 53 ((S 1092 0) - 1)) ∧ sm_VO (S 44) (S 1076 0) (S 1007 0) ((S 55 ((S 1092 0) - 1))) ((S 56 ((S 1092 0) - 1))) ∧ sm_FW (S 44) (S 1076 0) (S 59 ((S 1092 0) - 1)) ∧ sm_FL (S 53) (S 54) (S 55) (S 56) (g25 57) (g19 58) (S 59) (S 60) (S 61) (S 62) (S 63) (S 64) (S 27) (S 29) (S 1100007) (S 1100023) (S 1100024) (S 1100025) (S 26) (S 1100029) (S 44) (S 1046 0) (S 1032 0) (S 1076 0) (S 1007 0) (((S 1092 0) - 1)) ∧ (g19 58 ((S 1092 0) - 1)) = (S 1100007 (g25 57 ((S 1092 0) - 1))) ∧ sm_SK (S 63) (S 64) (S 44) (S 1100007) (S 1100025) (S 1076 0) (S 1007 0) (400 * ((S 1092 0) - 1)) ((g19 58 ((S 1092 0) - 1))) ((S 1100025 (g25 57 ((S 1092 0) - 1)))))))))) ∧ ((p1 = (18 : Int)) → ((sm_CT (S 26) (S 27) (S 28) (S 29) (S 1100007) (S 1100023) (S 1100024) (S 1100025) (S 21) (S 1046 0) (S 1032 0) (S 1008 0) (S 1055 0) → 0 ≤ (S 1100033 0) → (S 1100033 0) < (S 1046 0) → ((S 26 (S 1100033 0)) = 18 → (0 ≤ ((S 1100007 (S 1100033 0)) - 1) ∧ (0 ≤ (S 1100023 (S 1100033 0)) → (S 1100007 (S 1100023 (S 1100033 0))) ≤ ((S 1100007 (S 1100033 0)) - 1)) ∧ (0 ≤ (S 1100025 (S 1100033 0)) → (S 1100007 (S 1100025 (S 1100033 0))) ≤ ((S 1100007 (S 1100033 0)) - 1))) ∧ (0 ≤ ((S 1100033 0) + 1) ∧ ((S 1100033 0) + 1) < (S 1046 0) ∧ (S 29 ((S 1100033 0) + 1)) = ((S 29 (S 1100033 0))) ∧ (S 1100007 ((S 1100033 0) + 1)) = ((S 1100007 (S 1100033 0)) + 1) ∧ (S 1100023 ((S 1100033 0) + 1)) = ((S 1100023 (S 1100033 0))) ∧ (S 1100025 ((S 1100033 0) + 1)) = ((S 1100025 (S 1100033 0)))))) → (((S 1100034 0) = (S 1100025 (S 1100033 0)) → (S 58 ((S 1092 0) - 1)) = (S 1100007 (S 1100033 0)) → (0 ≤ (S 1100025 (S 1100033 0)) → (S 1100007 (S 1100025 (S 1100033 0))) ≤ (S 1100007 (S 1100033 0)) - 1) → (0 ≤ (S 1100034 0) → (S 1100007 (S 1100034 0)) ≤ (S 58 ((S 1092 0) - 1)) - 1)) → ((sm_SK (S 63) (S 64) (S 44) (S 1100007) (S 1100025) (S 1076 0) (S 1007 0) (400 * ((S 1092 0) - 1)) ((S 58 ((S 1092 0) - 1))) ((S 1100034 0)) → sm_LS (S 26) (S 1100007) (S 1100025) (S 1046 0) → 0 ≤ (S 58 ((S 1092 0) - 1)) - 1 → (S 58 ((S 1092 0) - 1)) - 1 < (S 58 ((S 1092 0) - 1)) → (S 1100034 0) < (S 1046 0) → (S 1100034 0) = (S 1100025 (S 1100033 0)) → (S 58 ((S 1092 0) - 1)) = (S 1100007 (S 1100033 0)) → (0 ≤ (S 1100034 0) → (S 26 (S 1100034 0)) = 29) → (0 ≤ (S 1100025 (S 1100033 0)) → (S 1100007 (S 1100025 (S 1100033 0))) ≤ (S 1100007 (S 1100033 0)) - 1) → sm_VO (S 44) (S 1076 0) (S 1007 0) ((S 63 (400 * ((S 1092 0) - 1) + ((S 58 ((S 1092 0) - 1)) - 1)))) ((S 64 (400 * ((S 1092 0) - 1) + ((S 58 ((S 1092 0) - 1)) - 1))))) → (1 ≤ (S 1092 0) ∧ (S 1092 0) ≤ 24 ∧ 0 ≤ (S 58 ((S 1092 0) - 1)) ∧ (S 58 ((S 1092 0) - 1)) ≤ 400 ∧ (S 58 ((S 1092 0) - 1)) < 400) ∧ (∀ g34 : sv_S, ((g34 58 ((S 1092 0) - 1)) = (S 58 ((S 1092 0) - 1)) + 1 ∧ (g34 63 (400 * ((S 1092 0) - 1) + (S 58 ((S 1092 0) - 1)))) = s3 ∧ (g34 64 (400 * ((S 1092 0) - 1) + (S 58 ((S 1092 0) - 1)))) = s5 ∧ (∀ k : Int, ¬ k = (S 1092 0) - 1 → (g34 58 k) = (S 58 k)) ∧ (∀ k : Int, ¬ k = (400 * ((S 1092 0) - 1) + (S 58 ((S 1092 0) - 1))) → (g34 63 k) = (S 63 k)) ∧ (∀ k : Int, ¬ k = (400 * ((S 1092 0) - 1) + (S 58 ((S 1092 0) - 1))) → (g34 64 k) = (S 64 k))) → (1 ≤ (S 1092 0) ∧ (S 1092 0) ≤ 24 ∧ 0 ≤ (S 57 ((S 1092 0) - 1)) ∧ (S 57 ((S 1092 0) - 1)) ≤ 600) ∧ (∀ g40 : sv_S, ((g40 57 ((S 1092 0) - 1)) = (S 57 ((S 1092 0) - 1)) + 1 ∧ (∀ k : Int, ¬ k = (S 1092 0) - 1 → (g40 57 k) = (S 57 k))) → (sm_PL (S 1100020) (S 51) (S 52) (S 46) (S 47) (S 1076 0) (S 1086 0) ∧ sm_FR (S 1100020) (S 52) (S 1100021) (S 1100022) (3000 - (S 1084 0)) (S 1085 0) ∧ sm_PV (S 1100020) (S 48) (S 49) (S 50) (S 44) (S 1076 0) (S 1007 0) ∧ sm_AL (S 1100020) (S 48) (S 49) (S 50) (S 44) (S 1076 0) (S 1100032 0) ∧ sm_SV (S 1100020) (S 48) (S 1100029) (S 32) (S 33) (S 1076 0) (S 1032 0) ∧ 0 ≤ (S 1076 0) ∧ (S 1076 0) ≤ 300 ∧ 0 ≤ (S 1084 0) ∧ (S 1084 0) ≤ 3000 ∧ 0 ≤ (S 1086 0) ∧ sm_SC (S 1100029) (S 44) (S 45) (S 43) (S 21) (S 1076 0) (S 1032 0) ∧ sm_PO (S 42) (S 1076 0) ∧ ((S 1075 0) = 0 → (S 1100032 0) = -1 ∧ sm_FO (S 44) (S 45) (S 1076 0)) ∧ 23 ≤ (S 1076 0) ∧ 31 ≤ (S 1007 0) ∧ (S 1007 0) ≤ 400 ∧ sm_LN (S 4) 400 (S 1007 0) ∧ (S 1008 0) ≤ (S 1007 0) ∧ ((S 1075 0) = 1 → (S 1075 0) = 1) ∧ 0 ≤ (S 1092 0) ∧ (S 1092 0) ≤ 24 ∧ ((S 1075 0) = 0 → (S 1073 0) = 1 → 1 ≤ (S 1092 0) ∧ (S 1092 0) ≤ 24 ∧ 0 ≤ (g40 57 ((S 1092 0) - 1)) ∧ (g40 57 ((S 1092 0) - 1)) < (S 1046 0) ∧ (S 29 (g40 57 ((S 1092 0) - 1))) = (S 53 ((S 1092 0) - 1)) ∧ 0 ≤ (S 53 ((S 1092 0) - 1)) ∧ (S 53 ((S 1092 0) - 1)) < (S 1032 0) ∧ (S 60 ((S 1092 0) - 1)) = sm_dp (S 1100024) (S 1100023 (g40 57 ((S 1092 0) - 1))) ∧ sm_TC (S 61) (S 62) (S 27) (S 1100007) (S 1100023) (S 1100024) (40 * ((S 1092 0) - 1)) (S 1100023 (g40 57 ((S 1092 0) - 1))) ∧ sm_LK (S 1100029) (S 1076 0) (S 54 ((S 1092 0) - 1)) (S 53 ((S 1092 0) - 1)) ∧ sm_VO (S 44) (S 1076 0) (S 1007 0) ((S 55 ((S 1092 0) - 1))) ((S 56 ((S 1092 0) - 1))) ∧ sm_FW (S 44) (S 1076 0) (S 59 ((S 1092 0) - 1)) ∧ sm_FL (S 53) (S 54) (S 55) (S 56) (g40 57) (g34 58) (S 59) (S 60) (S 61) (S 62) (g34 63) (g34 64) (S 27) (S 29) (S 1100007) (S 1100023) (S 1100024) (S 1100025) (S 26) (S 1100029) (S 44) (S 1046 0) (S 1032 0) (S 1076 0) (S 1007 0) (((S 1092 0) - 1)) ∧ (g34 58 ((S 1092 0) - 1)) = (S 1100007 (g40 57 ((S 1092 0) - 1))) ∧ sm_SK (g34 63) (g34 64) (S 44) (S 1100007) (S 1100025) (S 1076 0) (S 1007 0) (400 * ((S 1092 0) - 1)) ((g34 58 ((S 1092 0) - 1))) ((S 1100025 (g40 57 ((S 1092 0) - 1)))))))))))) ∧ ((p1 = (19 : Int)) → ((sm_CT (S 26) (S 27) (S 28) (S 29) (S 1100007) (S 1100023) (S 1100024) (S 1100025) (S 21) (S 1046 0) (S 1032 0) (S 1008 0) (S 1055 0) → 0 ≤ (S 1100033 0) → (S 1100033 0) < (S 1046 0) → ((S 26 (S 1100033 0)) = 19 → (0 ≤ ((S 1100007 (S 1100033 0)) - 2) ∧ (0 ≤ (S 1100023 (S 1100033 0)) → (S 1100007 (S 1100023 (S 1100033 0))) ≤ ((S 1100007 (S 1100033 0)) - 2)) ∧ (0 ≤ (S 1100025 (S 1100033 0)) → (S 1100007 (S 1100025 (S 1100033 0))) ≤ ((S 1100007 (S 1100033 0)) - 2))) ∧ (0 ≤ ((S 1100033 0) + 1) ∧ ((S 1100033 0) + 1) < (S 1046 0) ∧ (S 29 ((S 1100033 0) + 1)) = ((S 29 (S 1100033 0))) ∧ (S 1100007 ((S 1100033 0) + 1)) = ((S 1100007 (S 1100033 0)) + 2) ∧ (S 1100023 ((S 1100033 0) + 1)) = ((S 1100023 (S 1100033 0))) ∧ (S 1100025 ((S 1100033 0) + 1)) = ((S 1100025 (S 1100033 0)))))) → (((S 1100034 0) = (S 1100025 (S 1100033 0)) → (S 58 ((S 1092 0) - 1)) = (S 1100007 (S 1100033 0)) → (0 ≤ (S 1100025 (S 1100033 0)) → (S 1100007 (S 1100025 (S 1100033 0))) ≤ (S 1100007 (S 1100033 0)) - 2) → (0 ≤ (S 1100034 0) → (S 1100007 (S 1100034 0)) ≤ (S 58 ((S 1092 0) - 1)) - 2)) → ((sm_SK (S 63) (S 64) (S 44) (S 1100007) (S 1100025) (S 1076 0) (S 1007 0) (400 * ((S 1092 0) - 1)) ((S 58 ((S 1092 0) - 1))) ((S 1100034 0)) → sm_LS (S 26) (S 1100007) (S 1100025) (S 1046 0) → 0 ≤ (S 58 ((S 1092 0) - 1)) - 1 → (S 58 ((S 1092 0) - 1)) - 1 < (S 58 ((S 1092 0) - 1)) → (S 1100034 0) < (S 1046 0) → (S 1100034 0) = (S 1100025 (S 1100033 0)) → (S 58 ((S 1092 0) - 1)) = (S 1100007 (S 1100033 0)) → (0 ≤ (S 1100034 0) → (S 26 (S 1100034 0)) = 29) → (0 ≤ (S 1100025 (S 1100033 0)) → (S 1100007 (S 1100025 (S 1100033 0))) ≤ (S 1100007 (S 1100033 0)) - 2) → sm_VO (S 44) (S 1076 0) (S 1007 0) ((S 63 (400 * ((S 1092 0) - 1) + ((S 58 ((S 1092 0) - 1)) - 1)))) ((S 64 (400 * ((S 1092 0) - 1) + ((S 58 ((S 1092 0) - 1)) - 1))))) → ((sm_SK (S 63) (S 64) (S 44) (S 1100007) (S 1100025) (S 1076 0) (S 1007 0) (400 * ((S 1092 0) - 1)) ((S 58 ((S 1092 0) - 1))) ((S 1100034 0)) → sm_LS (S 26) (S 1100007) (S 1100025) (S 1046 0) → 0 ≤ (S 58 ((S 1092 0) - 1)) - 2 → (S 58 ((S 1092 0) - 1)) - 2 < (S 58 ((S 1092 0) - 1)) → (S 1100034 0) < (S 1046 0) → (S 1100034 0) = (S 1100025 (S 1100033 0)) → (S 58 ((S 1092 0) - 1)) = (S 1100007 (S 1100033 0)) → (0 ≤ (S 1100034 0) → (S 26 (S 1100034 0)) = 29) → (0 ≤ (S 1100025 (S 1100033 0)) → (S 1100007 (S 1100025 (S 1100033 0))) ≤ (S 1100007 (S 1100033 0)) - 2) → sm_VO (S 44) (S 1076 0) (S 1007 0) ((S 63 (400 * ((S 1092 0) - 1) + ((S 58 ((S 1092 0) - 1)) - 2)))) ((S 64 (400 * ((S 1092 0) - 1) + ((S 58 ((S 1092 0) - 1)) - 2))))) → (1 ≤ (S 1092 0) ∧ (S 1092 0) ≤ 24 ∧ 0 ≤ (S 58 ((S 1092 0) - 1)) ∧ (S 58 ((S 1092 0) - 1)) ≤ 400 ∧ 0 ≤ (1 : Int) ∧ (1 : Int) < (S 58 ((S 1092 0) - 1))) ∧ (∀ x50 : Int, ((S 63 ((400 * ((S 1092 0) - 1) + (S 58 ((S 1092 0) - 1))) - 1 - (1 : Int)))) = x50 → (∀ x52 : Int, ((S 64 ((400 * ((S 1092 0) - 1) + (S 58 ((S 1092 0) - 1))) - 1 - (1 : Int)))) = x52 → (1 ≤ (S 1092 0) ∧ (S 1092 0) ≤ 24 ∧ 0 ≤ (S 58 ((S 1092 0) - 1)) ∧ (S 58 ((S 1092 0) - 1)) ≤ 400 ∧ (S 58 ((S 1092 0) - 1)) < 400) ∧ (∀ g55 : sv_S, ((g55 58 ((S 1092 0) - 1)) = (S 58 ((S 1092 0) - 1)) + 1 ∧ (g55 63 (400 * ((S 1092 0) - 1) + (S 58 ((S 1092 0) - 1)))) = x50 ∧ (g55 64 (400 * ((S 1092 0) - 1) + (S 58 ((S 1092 0) - 1)))) = x52 ∧ (∀ k : Int, ¬ k = (S 1092 0) - 1 → (g55 58 k) = (S 58 k)) ∧ (∀ k : Int, ¬ k = (400 * ((S 1092 0) - 1) + (S 58 ((S 1092 0) - 1))) → (g55 63 k) = (S 63 k)) ∧ (∀ k : Int, ¬ k = (400 * ((S 1092 0) - 1) + (S 58 ((S 1092 0) - 1))) → (g55 64 k) = (S 64 k))) → (1 ≤ (S 1092 0) ∧ (S 1092 0) ≤ 24 ∧ 0 ≤ (g55 58 ((S 1092 0) - 1)) ∧ (g55 58 ((S 1092 0) - 1)) ≤ 400 ∧ (g55 58 ((S 1092 0) - 1)) < 400) ∧ (∀ g61 : sv_S, ((g61 58 ((S 1092 0) - 1)) = (g55 58 ((S 1092 0) - 1)) + 1 ∧ (g61 63 (400 * ((S 1092 0) - 1) + (g55 58 ((S 1092 0) - 1)))) = s3 ∧ (g61 64 (400 * ((S 1092 0) - 1) + (g55 58 ((S 1092 0) - 1)))) = s5 ∧ (∀ k : Int, ¬ k = (S 1092 0) - 1 → (g61 58 k) = (g55 58 k)) ∧ (∀ k : Int, ¬ k = (400 * ((S 1092 0) - 1) + (g55 58 ((S 1092 0) - 1))) → (g61 63 k) = (g55 63 k)) ∧ (∀ k : Int, ¬ k = (400 * ((S 1092 0) - 1) + (g55 58 ((S 1092 0) - 1))) → (g61 64 k) = (g55 64 k))) → (1 ≤ (S 1092 0) ∧ (S 1092 0) ≤ 24 ∧ 0 ≤ (S 57 ((S 1092 0) - 1)) ∧ (S 57 ((S 1092 0) - 1)) ≤ 600) ∧ (∀ g67 : sv_S, ((g67 57 ((S 1092 0) - 1)) = (S 57 ((S 1092 0) - 1)) + 1 ∧ (∀ k : Int, ¬ k = (S 1092 0) - 1 → (g67 57 k) = (S 57 k))) → (sm_PL (S 1100020) (S 51) (S 52) (S 46) (S 47) (S 1076 0) (S 1086 0) ∧ sm_FR (S 1100020) (S 52) (S 1100021) (S 1100022) (3000 - (S 1084 0)) (S 1085 0) ∧ sm_PV (S 1100020) (S 48) (S 49) (S 50) (S 44) (S 1076 0) (S 1007 0) ∧ sm_AL (S 1100020) (S 48) (S 49) (S 50) (S 44) (S 1076 0) (S 1100032 0) ∧ sm_SV (S 1100020) (S 48) (S 1100029) (S 32) (S 33) (S 1076 0) (S 1032 0) ∧ 0 ≤ (S 1076 0) ∧ (S 1076 0) ≤ 300 ∧ 0 ≤ (S 1084 0) ∧ (S 1084 0) ≤ 3000 ∧ 0 ≤ (S 1086 0) ∧ sm_SC (S 1100029) (S 44) (S 45) (S 43) (S 21) (S 1076 0) (S 1032 0) ∧ sm_PO (S 42) (S 1076 0) ∧ ((S 1075 0) = 0 → (S 1100032 0) = -1 ∧ sm_FO (S 44) (S 45) (S 1076 0)) ∧ 23 ≤ (S 1076 0) ∧ 31 ≤ (S 1007 0) ∧ (S 1007 0) ≤ 400 ∧ sm_LN (S 4) 400 (S 1007 0) ∧ (S 1008 0) ≤ (S 1007 0) ∧ ((S 1075 0) = 1 → (S 1075 0) = 1) ∧ 0 ≤ (S 1092 0) ∧ (S 1092 0) ≤ 24 ∧ ((S 1075 0) = 0 → (S 1073 0) = 1 → 1 ≤ (S 1092 0) ∧ (S 1092 0) ≤ 24 ∧ 0 ≤ (g67 57 ((S 1092 0) - 1)) ∧ (g67 57 ((S 1092 0) - 1)) < (S 1046 0) ∧ (S 29 (g67 57 ((S 1092 0) - 1))) = (S 53 ((S 1092 0) - 1)) ∧ 0 ≤ (S 53 ((S 1092 0) - 1)) ∧ (S 53 ((S 1092 0) - 1)) < (S 1032 0) ∧ (S 60 ((S 1092 0) - 1)) = sm_dp (S 1100024) (S 1100023 (g67 57 ((S 1092 0) - 1))) ∧ sm_TC (S 61) (S 62) (S 27) (S 1100007) (S 1100023) (S 1100024) (40 * ((S 1092 0) - 1)) (S 1100023 (g67 57 ((S 1092 0) - 1))) ∧ sm_LK (S 1100029) (S 1076 0) (S 54 ((S 1092 0) - 1)) (S 53 ((S 1092 0) - 1)) ∧ sm_VO (S 44) (S 1076 0) (S 1007 0) ((S 55 ((S 1092 0) - 1))) ((S 56 ((S 1092 0) - 1))) ∧ sm_FW (S 44) (S 1076 0) (S 59 ((S 1092 0) - 1)) ∧ sm_FL (S 53) (S 54) (S 55) (S 56) (g67 57) (g61 58) (S 59) (S 60) (S 61) (S 62) (g61 63) (g61 64) (S 27) (S 29) (S 1100007) (S 1100023) (S 1100024) (S 1100025) (S 26) (S 1100029) (S 44) (S 1046 0) (S 1032 0) (S 1076 0) (S 1007 0) (((S 1092 0) - 1)) ∧ (g61 58 ((S 1092 0) - 1)) = (S 1100007 (g67 57 ((S 1092 0) - 1))) ∧ sm_SK (g61 63) (g61 64) (S 44) (S 1100007) (S 1100025) (S 1076 0) (S 1007 0) (400 * ((S 1092 0) - 1)) ((g61 58 ((S 1092 0) - 1))) ((S 1100025 (g67 57 ((S 1092 0) - 1)))))))))))))))) ∧ ((p1 = (20 : Int)) → ((sm_CT (S 26) (S 27) (S 28) (S 29) (S 1100007) (S 1100023) (S 1100024) (S 1100025) (S 21) (S 1046 0) (S 1032 0) (S 1008 0) (S 1055 0) → 0 ≤ (S 1100033 0) → (S 1100033 0) < (S 1046 0) → ((S 26 (S 1100033 0)) = 20 → (0 ≤ ((S 1100007 (S 1100033 0)) - 3) ∧ (0 ≤ (S 1100023 (S 1100033 0)) → (S 1100007 (S 1100023 (S 1100033 0))) ≤ ((S 1100007 (S 1100033 0)) - 3)) ∧ (0 ≤ (S 1100025 (S 1100033 0)) → (S 1100007 (S 1100025 (S 1100033 0))) ≤ ((S 1100007 (S 1100033 0)) - 3))) ∧ (0 ≤ ((S 1100033 0) + 1) ∧ ((S 1100033 0) + 1) < (S 1046 0) ∧ (S 29 ((S 1100033 0) + 1)) = ((S 29 (S 1100033 0))) ∧ (S 1100007 ((S 1100033 0) + 1)) = ((S 1100007 (S 1100033 0)) + 1) ∧ (S 1100023 ((S 1100033 0) + 1)) = ((S 1100023 (S 1100033 0))) ∧ (S 1100025 ((S 1100033 0) + 1)) = ((S 1100025 (S 1100033 0)))))) → (((S 1100034 0) = (S 1100025 (S 1100033 0)) → (S 58 ((S 1092 0) - 1)) = (S 1100007 (S 1100033 0)) → (0 ≤ (S 1100025 (S 1100033 0)) → (S 1100007 (S 1100025 (S 1100033 0))) ≤ (S 1100007 (S 1100033 0)) - 3) → (0 ≤ (S 1100034 0) → (S 1100007 (S 1100034 0)) ≤ (S 58 ((S 1092 0) - 1)) - 3)) → ((sm_SK (S 63) (S 64) (S 44) (S 1100007) (S 1100025) (S 1076 0) (S 1007 0) (400 * ((S 1092 0) - 1)) ((S 58 ((S 1092 0) - 1))) ((S 1100034 0)) → sm_LS (S 26) (S 1100007) (S 1100025) (S 1046 0) → 0 ≤ (S 58 ((S 1092 0) - 1)) - 1 → (S 58 ((S 1092 0) - 1)) - 1 < (S 58 ((S 1092 0) - 1)) → (S 1100034 0) < (S 1046 0) → (S 1100034 0) = (S 1100025 (S 1100033 0)) → (S 58 ((S 1092 0) - 1)) = (S 1100007 (S 1100033 0)) → (0 ≤ (S 1100034 0) → (S 26 (S 1100034 0)) = 29) → (0 ≤ (S 1100025 (S 1100033 0)) → (S 1100007 (S 1100025 (S 1100033 0))) ≤ (S 1100007 (S 1100033 0)) - 3) → sm_VO (S 44) (S 1076 0) (S 1007 0) ((S 63 (400 * ((S 1092 0) - 1) + ((S 58 ((S 1092 0) - 1)) - 1)))) ((S 64 (400 * ((S 1092 0) - 1) + ((S 58 ((S 1092 0) - 1)) - 1))))) → ((sm_SK (S 63) (S 64) (S 44) (S 1100007) (S 1100025) (S 1076 0) (S 1007 0) (400 * ((S 1092 0) - 1)) ((S 58 ((S 1092 0) - 1))) ((S 1100034 0)) → sm_LS (S 26) (S 1100007) (S 1100025) (S 1046 0) → 0 ≤ (S 58 ((S 1092 0) - 1)) - 2 → (S 58 ((S 1092 0) - 1)) - 2 < (S 58 ((S 1092 0) - 1)) → (S 1100034 0) < (S 1046 0) → (S 1100034 0) = (S 1100025 (S 1100033 0)) → (S 58 ((S 1092 0) - 1)) = (S 1100007 (S 1100033 0)) → (0 ≤ (S 1100034 0) → (S 26 (S 1100034 0)) = 29) → (0 ≤ (S 1100025 (S 1100033 0)) → (S 1100007 (S 1100025 (S 1100033 0))) ≤ (S 1100007 (S 1100033 0)) - 3) → sm_VO (S 44) (S 1076 0) (S 1007 0) ((S 63 (400 * ((S 1092 0) - 1) + ((S 58 ((S 1092 0) - 1)) - 2)))) ((S 64 (400 * ((S 1092 0) - 1) + ((S 58 ((S 1092 0) - 1)) - 2))))) → ((sm_SK (S 63) (S 64) (S 44) (S 1100007) (S 1100025) (S 1076 0) (S 1007 0) (400 * ((S 1092 0) - 1)) ((S 58 ((S 1092 0) - 1))) ((S 1100034 0)) → sm_LS (S 26) (S 1100007) (S 1100025) (S 1046 0) → 0 ≤ (S 58 ((S 1092 0) - 1)) - 3 → (S 58 ((S 1092 0) - 1)) - 3 < (S 58 ((S 1092 0) - 1)) → (S 1100034 0) < (S 1046 0) → (S 1100034 0) = (S 1100025 (S 1100033 0)) → (S 58 ((S 1092 0) - 1)) = (S 1100007 (S 1100033 0)) → (0 ≤ (S 1100034 0) → (S 26 (S 1100034 0)) = 29) → (0 ≤ (S 1100025 (S 1100033 0)) → (S 1100007 (S 1100025 (S 1100033 0))) ≤ (S 1100007 (S 1100033 0)) - 3) → sm_VO (S 44) (S 1076 0) (S 1007 0) ((S 63 (400 * ((S 1092 0) - 1) + ((S 58 ((S 1092 0) - 1)) - 3)))) ((S 64 (400 * ((S 1092 0) - 1) + ((S 58 ((S 1092 0) - 1)) - 3))))) → (1 ≤ (S 1092 0) ∧ (S 1092 0) ≤ 24 ∧ 0 ≤ (S 58 ((S 1092 0) - 1)) ∧ (S 58 ((S 1092 0) - 1)) ≤ 400 ∧ 3 ≤ (S 58 ((S 1092 0) - 1)) ∧ (S 58 ((S 1092 0) - 1)) < 400) ∧ (∀ g78 : sv_S, ((g78 58 ((S 1092 0) - 1)) = (S 58 ((S 1092 0) - 1)) + 1 ∧ (∀ k : Int, ¬ k = (S 1092 0) - 1 → (g78 58 k) = (S 58 k)) ∧ sm_F1 (S 63) (g78 63) ((400 * ((S 1092 0) - 1) + (S 58 ((S 1092 0) - 1))) - 3) ∧ (g78 63 (400 * ((S 1092 0) - 1) + (S 58 ((S 1092 0) - 1)))) = s3 ∧ (g78 63 ((400 * ((S 1092 0) - 1) + (S 58 ((S 1092 0) - 1))) - 1)) = (S 63 ((400 * ((S 1092 0) - 1) + (S 58 ((S 1092 0) - 1))) - 2)) ∧ (g78 63 ((400 * ((S 1092 0) - 1) + (S 58 ((S 1092 0) - 1))) - 2)) = (S 63 ((400 * ((S 1092 0) - 1) + (S 58 ((S 1092 0) - 1))) - 3)) ∧ (g78 63 ((400 * ((S 1092 0) - 1) + (S 58 ((S 1092 0) - 1))) - 3)) = s3 ∧ sm_F1 (S 64) (g78 64) ((400 * ((S 1092 0) - 1) + (S 58 ((S 1092 0) - 1))) - 3) ∧ (g78 64 (400 * ((S 1092 0) - 1) + (S 58 ((S 1092 0) - 1)))) = s5 ∧ (g78 64 ((400 * ((S 1092 0) - 1) + (S 58 ((S 1092 0) - 1))) - 1)) = (S 64 ((400 * ((S 1092 0) - 1) + (S 58 ((S 1092 0) - 1))) - 2)) ∧ (g78 64 ((400 * ((S 1092 0) - 1) + (S 58 ((S 1092 0) - 1))) - 2)) = (S 64 ((400 * ((S 1092 0) - 1) + (S 58 ((S 1092 0) - 1))) - 3)) ∧ (g78 64 ((400 * ((S 1092 0) - 1) + (S 58 ((S 1092 0) - 1))) - 3)) = s5) → (1 ≤ (S 1092 0) ∧ (S 1092 0) ≤ 24 ∧ 0 ≤ (S 57 ((S 1092 0) - 1)) ∧ (S 57 ((S 1092 0) - 1)) ≤ 600) ∧ (∀ g84 : sv_S, ((g84 57 ((S 1092 0) - 1)) = (S 57 ((S 1092 0) - 1)) + 1 ∧ (∀ k : Int, ¬ k = (S 1092 0) - 1 → (g84 57 k) = (S 57 k))) → (sm_PL (S 1100020) (S 51) (S 52) (S 46) (S 47) (S 1076 0) (S 1086 0) ∧ sm_FR (S 1100020) (S 52) (S 1100021) (S 1100022) (3000 - (S 1084 0)) (S 1085 0) ∧ sm_PV (S 1100020) (S 48) (S 49) (S 50) (S 44) (S 1076 0) (S 1007 0) ∧ sm_AL (S 1100020) (S 48) (S 49) (S 50) (S 44) (S 1076 0) (S 1100032 0) ∧ sm_SV (S 1100020) (S 48) (S 1100029) (S 32) (S 33) (S 1076 0) (S 1032 0) ∧ 0 ≤ (S 1076 0) ∧ (S 1076 0) ≤ 300 ∧ 0 ≤ (S 1084 0) ∧ (S 1084 0) ≤ 3000 ∧ 0 ≤ (S 1086 0) ∧ sm_SC (S 1100029) (S 44) (S 45) (S 43) (S 21) (S 1076 0) (S 1032 0) ∧ sm_PO (S 42) (S 1076 0) ∧ ((S 1075 0) = 0 → (S 1100032 0) = -1 ∧ sm_FO (S 44) (S 45) (S 1076 0)) ∧ 23 ≤ (S 1076 0) ∧ 31 ≤ (S 1007 0) ∧ (S 1007 0) ≤ 400 ∧ sm_LN (S 4) 400 (S 1007 0) ∧ (S 1008 0) ≤ (S 1007 0) ∧ ((S 1075 0) = 1 → (S 1075 0) = 1) ∧ 0 ≤ (S 1092 0) ∧ (S 1092 0) ≤ 24 ∧ ((S 1075 0) = 0 → (S 1073 0) = 1 → 1 ≤ (S 1092 0) ∧ (S 1092 0) ≤ 24 ∧ 0 ≤ (g84 57 ((S 1092 0) - 1)) ∧ (g84 57 ((S 1092 0) - 1)) < (S 1046 0) ∧ (S 29 (g84 57 ((S 1092 0) - 1))) = (S 53 ((S 1092 0) - 1)) ∧ 0 ≤ (S 53 ((S 1092 0) - 1)) ∧ (S 53 ((S 1092 0) - 1)) < (S 1032 0) ∧ (S 60 ((S 1092 0) - 1)) = sm_dp (S 1100024) (S 1100023 (g84 57 ((S 1092 0) - 1))) ∧ sm_TC (S 61) (S 62) (S 27) (S 1100007) (S 1100023) (S 1100024) (40 * ((S 1092 0) - 1)) (S 1100023 (g84 57 ((S 1092 0) - 1))) ∧ sm_LK (S 1100029) (S 1076 0) (S 54 ((S 1092 0) - 1)) (S 53 ((S 1092 0) - 1)) ∧ sm_VO (S 44) (S 1076 0) (S 1007 0) ((S 55 ((S 1092 0) - 1))) ((S 56 ((S 1092 0) - 1))) ∧ sm_FW (S 44) (S 1076 0) (S 59 ((S 1092 0) - 1)) ∧ sm_FL (S 53) (S 54) (S 55) (S 56) (g84 57) (g78 58) (S 59) (S 60) (S 61) (S 62) (g78 63) (g78 64) (S 27) (S 29) (S 1100007) (S 1100023) (S 1100024) (S 1100025) (S 26) (S 1100029) (S 44) (S 1046 0) (S 1032 0) (S 1076 0) (S 1007 0) (((S 1092 0) - 1)) ∧ (g78 58 ((S 1092 0) - 1)) = (S 1100007 (g84 57 ((S 1092 0) - 1))) ∧ sm_SK (g78 63) (g78 64) (S 44) (S 1100007) (S 1100025) (S 1076 0) (S 1007 0) (400 * ((S 1092 0) - 1)) ((g78 58 ((S 1092 0) - 1))) ((S 1100025 (g84 57 ((S 1092 0) - 1)))))))))))))) ∧ ((p1 = (21 : Int)) → ((sm_CT (S 26) (S 27) (S 28) (S 29) (S 1100007) (S 1100023) (S 1100024) (S 1100025) (S 21) (S 1046 0) (S 1032 0) (S 1008 0) (S 1055 0) → 0 ≤ (S 1100033 0) → (S 1100033 0) < (S 1046 0) → ((S 26 (S 1100033 0)) = 21 → (0 ≤ ((S 1100007 (S 1100033 0))) ∧ (0 ≤ (S 1100023 (S 1100033 0)) → (S 1100007 (S 1100023 (S 1100033 0))) ≤ ((S 1100007 (S 1100033 0)))) ∧ (0 ≤ (S 1100025 (S 1100033 0)) → (S 1100007 (S 1100025 (S 1100033 0))) ≤ ((S 1100007 (S 1100033 0))))) ∧ (0 ≤ ((S 27 (S 1100033 0))) ∧ ((S 27 (S 1100033 0))) < (S 1046 0) ∧ (S 29 ((S 27 (S 1100033 0)))) = ((S 29 (S 1100033 0))) ∧ (S 1100007 ((S 27 (S 1100033 0)))) = ((S 1100007 (S 1100033 0))) ∧ (S 1100023 ((S 27 (S 1100033 0)))) = ((S 1100023 (S 1100033 0))) ∧ (S 1100025 ((S 27 (S 1100033 0)))) = ((S 1100025 (S 1100033 0)))))) → (0 ≤ ((S 1092 0) - (1 : Int)) ∧ ((S 1092 0) - (1 : Int)) < 24) ∧ (sm_PL (S 1100020) (S 51) (S 52) (S 46) (S 47) (S 1076 0) (S 1086 0) ∧ sm_FR (S 1100020) (S 52) (S 1100021) (S 1100022) (3000 - (S 1084 0)) (S 1085 0) ∧ sm_PV (S 1100020) (S 48) (S 49) (S 50) (S 44) (S 1076 0) (S 1007 0) ∧ sm_AL (S 1100020) (S 48) (S 49) (S 50) (S 44) (S 1076 0) (S 1100032 0) ∧ sm_SV (S 1100020) (S 48) (S 1100029) (S 32) (S 33) (S 1076 0) (S 1032 0) ∧ 0 ≤ (S 1076 0) ∧ (S 1076 0) ≤ 300 ∧ 0 ≤ (S 1084 0) ∧ (S 1084 0) ≤ 3000 ∧ 0 ≤ (S 1086 0) ∧ sm_SC (S 1100029) (S 44) (S 45) (S 43) (S 21) (S 1076 0) (S 1032 0) ∧ sm_PO (S 42) (S 1076 0) ∧ ((S 1075 0) = 0 → (S 1100032 0) = -1 ∧ sm_FO (S 44) (S 45) (S 1076 0)) ∧ 23 ≤ (S 1076 0) ∧ 31 ≤ (S 1007 0) ∧ (S 1007 0) ≤ 400 ∧ sm_LN (S 4) 400 (S 1007 0) ∧ (S 1008 0) ≤ (S 1007 0) ∧ ((S 1075 0) = 1 → (S 1075 0) = 1) ∧ 0 ≤ (S 1092 0) ∧ (S 1092 0) ≤ 24 ∧ ((S 1075 0) = 0 → (S 1073 0) = 1 → 1 ≤ (S 1092 0) ∧ (S 1092 0) ≤ 24 ∧ 0 ≤ (if ((S 1092 0) - 1) = ((S 1092 0) - (1 : Int)) then p2 else (S 57 ((S 1092 0) - 1))) ∧ (if ((S 1092 0) - 1) = ((S 1092 0) - (1 : Int)) then p2 else (S 57 ((S 1092 0) - 1))) < (S 1046 0) ∧ (S 29 (if ((S 1092 0) - 1) = ((S 1092 0) - (1 : Int)) then p2 else (S 57 ((S 1092 0) - 1)))) = (S 53 ((S 1092 0) - 1)) ∧ 0 ≤ (S 53 ((S 1092 0) - 1)) ∧ (S 53 ((S 1092 0) - 1)) < (S 1032 0) ∧ (S 60 ((S 1092 0) - 1)) = sm_dp (S 1100024) (S 1100023 (if ((S 1092 0) - 1) = ((S 1092 0) - (1 : Int)) then p2 else (S 57 ((S 1092 0) - 1)))) ∧ sm_TC (S 61) (S 62) (S 27) (S 1100007) (S 1100023) (S 1100024) (40 * ((S 1092 0) - 1)) (S 1100023 (if ((S 1092 0) - 1) = ((S 1092 0) - (1 : Int)) then p2 else (S 57 ((S 1092 0) - 1)))) ∧ sm_LK (S 1100029) (S 1076 0) (S 54 ((S 1092 0) - 1)) (S 53 ((S 1092 0) - 1)) ∧ sm_VO (S 44) (S 1076 0) (S 1007 0) ((S 55 ((S 1092 0) - 1))) ((S 56 ((S 1092 0) - 1))) ∧ sm_FW (S 44) (S 1076 0) (S 59 ((S 1092 0) - 1)) ∧ sm_FL (S 53) (S 54) (S 55) (S 56) (fun i' : Int => if i' = ((S 1092 0) - (1 : Int)) then p2 else (S 57) i') (S 58) (S 59) (S 60) (S 61) (S 62) (S 63) (S 64) (S 27) (S 29) (S 1100007) (S 1100023) (S 1100024) (S 1100025) (S 26) (S 1100029) (S 44) (S 1046 0) (S 1032 0) (S 1076 0) (S 1007 0) (((S 1092 0) - 1)) ∧ (S 58 ((S 1092 0) - 1)) = (S 1100007 (if ((S 1092 0) - 1) = ((S 1092 0) - (1 : Int)) then p2 else (S 57 ((S 1092 0) - 1)))) ∧ sm_SK (S 63) (S 64) (S 44) (S 1100007) (S 1100025) (S 1076 0) (S 1007 0) (400 * ((S 1092 0) - 1)) ((S 58 ((S 1092 0) - 1))) ((S 1100025 (if ((S 1092 0) - 1) = ((S 1092 0) - (1 : Int)) then p2 else (S 57 ((S 1092 0) - 1))))))))) ∧ ((p1 = (22 : Int)) → ((sm_CT (S 26) (S 27) (S 28) (S 29) (S 1100007) (S 1100023) (S 1100024) (S 1100025) (S 21) (S 1046 0) (S 1032 0) (S 1008 0) (S 1055 0) → 0 ≤ (S 1100033 0) → (S 1100033 0) < (S 1046 0) → ((S 26 (S 1100033 0)) = 22 → (0 ≤ ((S 1100007 (S 1100033 0)) - 1) ∧ (0 ≤ (S 1100023 (S 1100033 0)) → (S 1100007 (S 1100023 (S 1100033 0))) ≤ ((S 1100007 (S 1100033 0)) - 1)) ∧ (0 ≤ (S 1100025 (S 1100033 0)) → (S 1100007 (S 1100025 (S 1100033 0))) ≤ ((S 1100007 (S 1100033 0)) - 1))) ∧ (0 ≤ ((S 1100033 0) + 1) ∧ ((S 1100033 0) + 1) < (S 1046 0) ∧ (S 29 ((S 1100033 0) + 1)) = ((S 29 (S 1100033 0))) ∧ (S 1100007 ((S 1100033 0) + 1)) = ((S 1100007 (S 1100033 0)) - 1) ∧ (S 1100023 ((S 1100033 0) + 1)) = ((S 1100023 (S 1100033 0))) ∧ (S 1100025 ((S 1100033 0) + 1)) = ((S 1100025 (S 1100033 0)))) ∧ (0 ≤ ((S 27 (S 1100033 0))) ∧ ((S 27 (S 1100033 0))) < (S 1046 0) ∧ (S 29 ((S 27 (S 1100033 0)))) = ((S 29 (S 1100033 0))) ∧ (S 1100007 ((S 27 (S 1100033 0)))) = ((S 1100007 (S 1100033 0)) - 1) ∧ (S 1100023 ((S 27 (S 1100033 0)))) = ((S 1100023 (S 1100033 0))) ∧ (S 1100025 ((S 27 (S 1100033 0)))) = ((S 1100025 (S 1100033 0)))))) → (((S 1100034 0) = (S 1100025 (S 1100033 0)) → (S 58 ((S 1092 0) - 1)) = (S 1100007 (S 1100033 0)) → (0 ≤ (S 1100025 (S 1100033 0)) → (S 1100007 (S 1100025 (S 1100033 0))) ≤ (S 1100007 (S 1100033 0)) - 1) → (0 ≤ (S 1100034 0) → (S 1100007 (S 1100034 0)) ≤ (S 58 ((S 1092 0) - 1)) - 1)) → ((sm_SK (S 63) (S 64) (S 44) (S 1100007) (S 1100025) (S 1076 0) (S 1007 0) (400 * ((S 1092 0) - 1)) ((S 58 ((S 1092 0) - 1))) ((S 1100034 0)) → sm_LS (S 26) (S 1100007) (S 1100025) (S 1046 0) → 0 ≤ (S 58 ((S 1092 0) - 1)) - 1 → (S 58 ((S 1092 0) - 1)) - 1 < (S 58 ((S 1092 0) - 1)) → (S 1100034 0) < (S 1046 0) → (S 1100034 0) = (S 1100025 (S 1100033 0)) → (S 58 ((S 1092 0) - 1)) = (S 1100007 (S 1100033 0)) → (0 ≤ (S 1100034 0) → (S 26 (S 1100034 0)) = 29) → (0 ≤ (S 1100025 (S 1100033 0)) → (S 1100007 (S 1100025 (S 1100033 0))) ≤ (S 1100007 (S 1100033 0)) - 1) → sm_VO (S 44) (S 1076 0) (S 1007 0) ((S 63 (400 * ((S 1092 0) - 1) + ((S 58 ((S 1092 0) - 1)) - 1)))) ((S 64 (400 * ((S 1092 0) - 1) + ((S 58 ((S 1092 0) - 1)) - 1))))) → (1 ≤ (S 1092 0) ∧ (S 1092 0) ≤ 24 ∧ 0 ≤ (S 58 ((S 1092 0) - 1)) ∧ (S 58 ((S 1092 0) - 1)) ≤ 400 ∧ 0 ≤ (1 : Int) ∧ (1 : Int) ≤ (S 58 ((S 1092 0) - 1))) ∧ (∀ g97 : sv_S, ((g97 58 ((S 1092 0) - 1)) = (S 58 ((S 1092 0) - 1)) - (1 : Int) ∧ (∀ k : Int, ¬ k = (S 1092 0) - 1 → (g97 58 k) = (S 58 k))) → (31 ≤ (S 1007 0) ∧ (S 1007 0) ≤ 400 ∧ sm_LN (S 4) 400 (S 1007 0) ∧ (s3 = 6 → 0 ≤ s5 ∧ s5 < 400)) ∧ (∀ r107 : Int, sv_R r107 → (r107 = 0 ∨ r107 = 1) → (((r107 = (0 : Int)) → (0 ≤ ((S 1092 0) - (1 : Int)) ∧ ((S 1092 0) - (1 : Int)) < 24) ∧ (sm_PL (S 1100020) (S 51) (S 52) (S 46) (S 47) (S 1076 0) (S 1086 0) ∧ sm_FR (S 1100020) (S 52) (S 1100021) (S 1100022) (3000 - (S 1084 0)) (S 1085 0) ∧ sm_PV (S 1100020) (S 48) (S 49) (S 50) (S 44) (S 1076 0) (S 1007 0) ∧ sm_AL (S 1100020) (S 48) (S 49) (S 50) (S 44) (S 1076 0) (S 1100032 0) ∧ sm_SV (S 1100020) (S 48) (S 1100029) (S 32) (S 33) (S 1076 0) (S 1032 0) ∧ 0 ≤ (S 1076 0) ∧ (S 1076 0) ≤ 300 ∧ 0 ≤ (S 1084 0) ∧ (S 1084 0) ≤ 3000 ∧ 0 ≤ (S 1086 0) ∧ sm_SC (S 1100029) (S 44) (S 45) (S 43) (S 21) (S 1076 0) (S 1032 0) ∧ sm_PO (S 42) (S 1076 0) ∧ ((S 1075 0) = 0 → (S 1100032 0) = -1 ∧ sm_FO (S 44) (S 45) (S 1076 0)) ∧ 23 ≤ (S 1076 0) ∧ 31 ≤ (S 1007 0) ∧ (S 1007 0) ≤ 400 ∧ sm_LN (S 4) 400 (S 1007 0) ∧ (S 1008 0) ≤ (S 1007 0) ∧ ((S 1075 0) = 1 → (S 1075 0) = 1) ∧ 0 ≤ (S 1092 0) ∧ (S 1092 0) ≤ 24 ∧ ((S 1075 0) = 0 → (S 1073 0) = 1 → 1 ≤ (S 1092 0) ∧ (S 1092 0) ≤ 24 ∧ 0 ≤ (if ((S 1092 0) - 1) = ((S 1092 0) - (1 : Int)) then p2 else (S 57 ((S 1092 0) - 1))) ∧ (if ((S 1092 0) - 1) = ((S 1092 0) - (1 : Int)) then p2 else (S 57 ((S 1092 0) - 1))) < (S 1046 0) ∧ (S 29 (if ((S 1092 0) - 1) = ((S 1092 0) - (1 : Int)) then p2 else (S 57 ((S 1092 0) - 1)))) = (S 53 ((S 1092 0) - 1)) ∧ 0 ≤ (S 53 ((S 1092 0) - 1)) ∧ (S 53 ((S 1092 0) - 1)) < (S 1032 0) ∧ (S 60 ((S 1092 0) - 1)) = sm_dp (S 1100024) (S 1100023 (if ((S 1092 0) - 1) = ((S 1092 0) - (1 : Int)) then p2 else (S 57 ((S 1092 0) - 1)))) ∧ sm_TC (S 61) (S 62) (S 27) (S 1100007) (S 1100023) (S 1100024) (40 * ((S 1092 0) - 1)) (S 1100023 (if ((S 1092 0) - 1) = ((S 1092 0) - (1 : Int)) then p2 else (S 57 ((S 1092 0) - 1)))) ∧ sm_LK (S 1100029) (S 1076 0) (S 54 ((S 1092 0) - 1)) (S 53 ((S 1092 0) - 1)) ∧ sm_VO (S 44) (S 1076 0) (S 1007 0) ((S 55 ((S 1092 0) - 1))) ((S 56 ((S 1092 0) - 1))) ∧ sm_FW (S 44) (S 1076 0) (S 59 ((S 1092 0) - 1)) ∧ sm_FL (S 53) (S 54) (S 55) (S 56) (fun i' : Int => if i' = ((S 1092 0) - (1 : Int)) then p2 else (S 57) i') (g97 58) (S 59) (S 60) (S 61) (S 62) (S 63) (S 64) (S 27) (S 29) (S 1100007) (S 1100023) (S 1100024) (S 1100025) (S 26) (S 1100029) (S 44) (S 1046 0) (S 1032 0) (S 1076 0) (S 1007 0) (((S 1092 0) - 1)) ∧ (g97 58 ((S 1092 0) - 1)) = (S 1100007 (if ((S 1092 0) - 1) = ((S 1092 0) - (1 : Int)) then p2 else (S 57 ((S 1092 0) - 1)))) ∧ sm_SK (S 63) (S 64) (S 44) (S 1100007) (S 1100025) (S 1076 0) (S 1007 0) (400 * ((S 1092 0) - 1)) ((g97 58 ((S 1092 0) - 1))) ((S 1100025 (if ((S 1092 0) - 1) = ((S 1092 0) - (1 : Int)) then p2 else (S 57 ((S 1092 0) - 1)))))))) ∧ ((¬ (r107 = (0 : Int))) → (0 ≤ ((S 1092 0) - (1 : Int)) ∧ ((S 1092 0) - (1 : Int)) < 24) ∧ (sv_R (S 57 ((S 1092 0) - (1 : Int))) → (sv_R ((S 57 ((S 1092 0) - (1 : Int))) + (1 : Int))) ∧ (sm_PL (S 1100020) (S 51) (S 52) (S 46) (S 47) (S 1076 0) (S 1086 0) ∧ sm_FR (S 1100020) (S 52) (S 1100021) (S 1100022) (3000 - (S 1084 0)) (S 1085 0) ∧ sm_PV (S 1100020) (S 48) (S 49) (S 50) (S 44) (S 1076 0) (S 1007 0) ∧ sm_AL (S 1100020) (S 48) (S 49) (S 50) (S 44) (S 1076 0) (S 1100032 0) ∧ sm_SV (S 1100020) (S 48) (S 1100029) (S 32) (S 33) (S 1076 0) (S 1032 0) ∧ 0 ≤ (S 1076 0) ∧ (S 1076 0) ≤ 300 ∧ 0 ≤ (S 1084 0) ∧ (S 1084 0) ≤ 3000 ∧ 0 ≤ (S 1086 0) ∧ sm_SC (S 1100029) (S 44) (S 45) (S 43) (S 21) (S 1076 0) (S 1032 0) ∧ sm_PO (S 42) (S 1076 0) ∧ ((S 1075 0) = 0 → (S 1100032 0) = -1 ∧ sm_FO (S 44) (S 45) (S 1076 0)) ∧ 23 ≤ (S 1076 0) ∧ 31 ≤ (S 1007 0) ∧ (S 1007 0) ≤ 400 ∧ sm_LN (S 4) 400 (S 1007 0) ∧ (S 1008 0) ≤ (S 1007 0) ∧ ((S 1075 0) = 1 → (S 1075 0) = 1) ∧ 0 ≤ (S 1092 0) ∧ (S 1092 0) ≤ 24 ∧ ((S 1075 0) = 0 → (S 1073 0) = 1 → 1 ≤ (S 1092 0) ∧ (S 1092 0) ≤ 24 ∧ 0 ≤ (if ((S 1092 0) - 1) = ((S 1092 0) - (1 : Int)) then ((S 57 ((S 1092 0) - (1 : Int))) + (1 : Int)) else (S 57 ((S 1092 0) - 1))) ∧ (if ((S 1092 0) - 1) = ((S 1092 0) - (1 : Int)) then ((S 57 ((S 1092 0) - (1 : Int))) + (1 : Int)) else (S 57 ((S 1092 0) - 1))) < (S 1046 0) ∧ (S 29 (if ((S 1092 0) - 1) = ((S 1092 0) - (1 : Int)) then ((S 57 ((S 1092 0) - (1 : Int))) + (1 : Int)) else (S 57 ((S 1092 0) - 1)))) = (S 53 ((S 1092 0) - 1)) ∧ 0 ≤ (S 53 ((S 1092 0) - 1)) ∧ (S 53 ((S 1092 0) - 1)) < (S 1032 0) ∧ (S 60 ((S 1092 0) - 1)) = sm_dp (S 1100024) (S 1100023 (if ((S 1092 0) - 1) = ((S 1092 0) - (1 : Int)) then ((S 57 ((S 1092 0) - (1 : Int))) + (1 : Int)) else (S 57 ((S 1092 0) - 1)))) ∧ sm_TC (S 61) (S 62) (S 27) (S 1100007) (S 1100023) (S 1100024) (40 * ((S 1092 0) - 1)) (S 1100023 (if ((S 1092 0) - 1) = ((S 1092 0) - (1 : Int)) then ((S 57 ((S 1092 0) - (1 : Int))) + (1 : Int)) else (S 57 ((S 1092 0) - 1)))) ∧ sm_LK (S 1100029) (S 1076 0) (S 54 ((S 1092 0) - 1)) (S 53 ((S 1092 0) - 1)) ∧ sm_VO (S 44) (S 1076 0) (S 1007 0) ((S 55 ((S 1092 0) - 1))) ((S 56 ((S 1092 0) - 1))) ∧ sm_FW (S 44) (S 1076 0) (S 59 ((S 1092 0) - 1)) ∧ sm_FL (S 53) (S 54) (S 55) (S 56) (fun i' : Int => if i' = ((S 1092 0) - (1 : Int)) then ((S 57 ((S 1092 0) - (1 : Int))) + (1 : Int)) else (S 57) i') (g97 58) (S 59) (S 60) (S 61) (S 62) (S 63) (S 64) (S 27) (S 29) (S 1100007) (S 1100023) (S 1100024) (S 1100025) (S 26) (S 1100029) (S 44) (S 1046 0) (S 1032 0) (S 1076 0) (S 1007 0) (((S 1092 0) - 1)) ∧ (g97 58 ((S 1092 0) - 1)) = (S 1100007 (if ((S 1092 0) - 1) = ((S 1092 0) - (1 : Int)) then ((S 57 ((S 1092 0) - (1 : Int))) + (1 : Int)) else (S 57 ((S 1092 0) - 1)))) ∧ sm_SK (S 63) (S 64) (S 44) (S 1100007) (S 1100025) (S 1076 0) (S 1007 0) (400 * ((S 1092 0) - 1)) ((g97 58 ((S 1092 0) - 1))) ((S 1100025 (if ((S 1092 0) - 1) = ((S 1092 0) - (1 : Int)) then ((S 57 ((S 1092 0) - (1 : Int))) + (1 : Int)) else (S 57 ((S 1092 0) - 1)))))))))))))))) ∧ ((p1 = (23 : Int) ∨ p1 = (24 : Int)) → ((((p1 = 21 ∨ p1 = 27 ∨ p1 = 28) ∨ s3 = (S 63 ((400 * ((S 1092 0) - 1) + (S 58 ((S 1092 0) - 1))) - 1 - 0))) → (p1 = 23 ∨ p1 = 24) → s3 = (S 63 ((400 * ((S 1092 0) - 1) + (S 58 ((S 1092 0) - 1))) - 1 - 0))) → ((((p1 = 21 ∨ p1 = 27 ∨ p1 = 28) ∨ s5 = (S 64 ((400 * ((S 1092 0) - 1) + (S 58 ((S 1092 0) - 1))) - 1 - 0))) → (p1 = 23 ∨ p1 = 24) → s5 = (S 64 ((400 * ((S 1092 0) - 1) + (S 58 ((S 1092 0) - 1))) - 1 - 0))) → ((sm_CT (S 26) (S 27) (S 28) (S 29) (S 1100007) (S 1100023) (S 1100024) (S 1100025) (S 21) (S 1046 0) (S 1032 0) (S 1008 0) (S 1055 0) → 0 ≤ (S 1100033 0) → (S 1100033 0) < (S 1046 0) → ((p1 = 23 ∨ p1 = 24) → p1 = (S 26 (S 1100033 0)) → (0 ≤ ((S 1100007 (S 1100033 0)) - 1) ∧ (0 ≤ (S 1100023 (S 1100033 0)) → (S 1100007 (S 1100023 (S 1100033 0))) ≤ ((S 1100007 (S 1100033 0)) - 1)) ∧ (0 ≤ (S 1100025 (S 1100033 0)) → (S 1100007 (S 1100025 (S 1100033 0))) ≤ ((S 1100007 (S 1100033 0)) - 1))) ∧ (0 ≤ ((S 1100033 0) + 1) ∧ ((S 1100033 0) + 1) < (S 1046 0) ∧ (S 29 ((S 1100033 0) + 1)) = ((S 29 (S 1100033 0))) ∧ (S 1100007 ((S 1100033 0) + 1)) = ((S 1100007 (S 1100033 0)) - 1) ∧ (S 1100023 ((S 1100033 0) + 1)) = ((S 1100023 (S 1100033 0))) ∧ (S 1100025 ((S 1100033 0) + 1)) = ((S 1100025 (S 1100033 0)))) ∧ (0 ≤ ((S 27 (S 1100033 0))) ∧ ((S 27 (S 1100033 0))) < (S 1046 0) ∧ (S 29 ((S 27 (S 1100033 0)))) = ((S 29 (S 1100033 0))) ∧ (S 1100007 ((S 27 (S 1100033 0)))) = ((S 1100007 (S 1100033 0))) ∧ (S 1100023 ((S 27 (S 1100033 0)))) = ((S 1100023 (S 1100033 0))) ∧ (S 1100025 ((S 27 (S 1100033 0)))) = ((S 1100025 (S 1100033 0)))))) → (((S 1100034 0) = (S 1100025 (S 1100033 0)) → (S 58 ((S 1092 0) - 1)) = (S 1100007 (S 1100033 0)) → (0 ≤ (S 1100025 (S 1100033 0)) → (S 1100007 (S 1100025 (S 1100033 0))) ≤ (S 1100007 (S 1100033 0)) - 1) → (0 ≤ (S 1100034 0) → (S 1100007 (S 1100034 0)) ≤ (S 58 ((S 1092 0) - 1)) - 1)) → ((sm_SK (S 63) (S 64) (S 44) (S 1100007) (S 1100025) (S 1076 0) (S 1007 0) (400 * ((S 1092 0) - 1)) ((S 58 ((S 1092 0) - 1))) ((S 1100034 0)) → sm_LS (S 26) (S 1100007) (S 1100025) (S 1046 0) → 0 ≤ (S 58 ((S 1092 0) - 1)) - 1 → (S 58 ((S 1092 0) - 1)) - 1 < (S 58 ((S 1092 0) - 1)) → (S 1100034 0) < (S 1046 0) → (S 1100034 0) = (S 1100025 (S 1100033 0)) → (S 58 ((S 1092 0) - 1)) = (S 1100007 (S 1100033 0)) → (0 ≤ (S 1100034 0) → (S 26 (S 1100034 0)) = 29) → (0 ≤ (S 1100025 (S 1100033 0)) → (S 1100007 (S 1100025 (S 1100033 0))) ≤ (S 1100007 (S 1100033 0)) - 1) → sm_VO (S 44) (S 1076 0) (S 1007 0) ((S 63 (400 * ((S 1092 0) - 1) + ((S 58 ((S 1092 0) - 1)) - 1)))) ((S 64 (400 * ((S 1092 0) - 1) + ((S 58 ((S 1092 0) - 1)) - 1))))) → (31 ≤ (S 1007 0) ∧ (S 1007 0) ≤ 400 ∧ sm_LN (S 4) 400 (S 1007 0) ∧ (s3 = 6 → 0 ≤ s5 ∧ s5 < 400)) ∧ (∀ r126 : Int, sv_R r126 → (r126 = 0 ∨ r126 = 1) → (((¬ p1 = (23 : Int)) → (((¬ r126 = (0 : Int)) → (0 ≤ ((S 1092 0) - (1 : Int)) ∧ ((S 1092 0) - (1 : Int)) < 24) ∧ (sm_PL (S 1100020) (S 51) (S 52) (S 46) (S 47) (S 1076 0) (S 1086 0) ∧ sm_FR (S 1100020) (S 52) (S 1100021) (S 1100022) (3000 - (S 1084 0)) (S 1085 0) ∧ sm_PV (S 1100020) (S 48) (S 49) (S 50) (S 44) (S 1076 0) (S 1007 0) ∧ sm_AL (S 1100020) (S 48) (S 49) (S 50) (S 44) (S 1076 0) (S 1100032 0) ∧ sm_SV (S 1100020) (S 48) (S 1100029) (S 32) (S 33) (S 1076 0) (S 1032 0) ∧ 0 ≤ (S 1076 0) ∧ (S 1076 0) ≤ 300 ∧ 0 ≤ (S 1084 0) ∧ (S 1084 0) ≤ 3000 ∧ 0 ≤ (S 1086 0) ∧ sm_SC (S 1100029) (S 44) (S 45) (S 43) (S 21) (S 1076 0) (S 1032 0) ∧ sm_PO (S 42) (S 1076 0) ∧ ((S 1075 0) = 0 → (S 1100032 0) = -1 ∧ sm_FO (S 44) (S 45) (S 1076 0)) ∧ 23 ≤ (S 1076 0) ∧ 31 ≤ (S 1007 0) ∧ (S 1007 0) ≤ 400 ∧ sm_LN (S 4) 400 (S 1007 0) ∧ (S 1008 0) ≤ (S 1007 0) ∧ ((S 1075 0) = 1 → (S 1075 0) = 1) ∧ 0 ≤ (S 1092 0) ∧ (S 1092 0) ≤ 24 ∧ ((S 1075 0) = 0 → (S 1073 0) = 1 → 1 ≤ (S 1092 0) ∧ (S 1092 0) ≤ 24 ∧ 0 ≤ (if ((S 1092 0) - 1) = ((S 1092 0) - (1 : Int)) then p2 else (S 57 ((S 1092 0) - 1))) ∧ (if ((S 1092 0) - 1) = ((S 1092 0) - (1 : Int)) then p2 else (S 57 ((S 1092 0) - 1))) < (S 1046 0) ∧ (S 29 (if ((S 1092 0) - 1) = ((S 1092 0) - (1 : Int)) then p2 else (S 57 ((S 1092 0) - 1)))) = (S 53 ((S 1092 0) - 1)) ∧ 0 ≤ (S 53 ((S 1092 0) - 1)) ∧ (S 53 ((S 1092 0) - 1)) < (S 1032 0) ∧ (S 60 ((S 1092 0) - 1)) = sm_dp (S 1100024) (S 1100023 (if ((S 1092 0) - 1) = ((S 1092 0) - (1 : Int)) then p2 else (S 57 ((S 1092 0) - 1)))) ∧ sm_TC (S 61) (S 62) (S 27) (S 1100007) (S 1100023) (S 1100024) (40 * ((S 1092 0) - 1)) (S 1100023 (if ((S 1092 0) - 1) = ((S 1092 0) - (1 : Int)) then p2 else (S 57 ((S 1092 0) - 1)))) ∧ sm_LK (S 1100029) (S 1076 0) (S 54 ((S 1092 0) - 1)) (S 53 ((S 1092 0) - 1)) ∧ sm_VO (S 44) (S 1076 0) (S 1007 0) ((S 55 ((S 1092 0) - 1))) ((S 56 ((S 1092 0) - 1))) ∧ sm_FW (S 44) (S 1076 0) (S 59 ((S 1092 0) - 1)) ∧ sm_FL (S 53) (S 54) (S 55) (S 56) (fun i' : Int => if i' = ((S 1092 0) - (1 : Int)) then p2 else (S 57) i') (S 58) (S 59) (S 60) (S 61) (S 62) (S 63) (S 64) (S 27) (S 29) (S 1100007) (S 1100023) (S 1100024) (S 1100025) (S 26) (S 1100029) (S 44) (S 1046 0) (S 1032 0) (S 1076 0) (S 1007 0) (((S 1092 0) - 1)) ∧ (S 58 ((S 1092 0) - 1)) = (S 1100007 (if ((S 1092 0) - 1) = ((S 1092 0) - (1 : Int)) then p2 else (S 57 ((S 1092 0) - 1)))) ∧ sm_SK (S 63) (S 64) (S 44) (S 1100007) (S 1100025) (S 1076 0) (S 1007 0) (400 * ((S 1092 0) - 1)) ((S 58 ((S 1092 0) - 1))) ((S 1100025 (if ((S 1092 0) - 1) = ((S 1092 0) - (1 : Int)) then p2 else (S 57 ((S 1092 0) - 1)))))))) ∧ ((¬ (¬ r126 = (0 : Int))) → (1 ≤ (S 1092 0) ∧ (S 1092 0) ≤ 24 ∧ 0 ≤ (S 58 ((S 1092 0) - 1)) ∧ (S 58 ((S 1092 0) - 1)) ≤ 400 ∧ 0 ≤ (1 : Int) ∧ (1 : Int) ≤ (S 58 ((S 1092 0) - 1))) ∧ (∀ g131 : sv_S, ((g131 58 ((S 1092 0) - 1)) = (S 58 ((S 1092 0) - 1)) - (1 : Int) ∧ (∀ k : Int, ¬ k = (S 1092 0) - 1 → (g131 58 k) = (S 58 k))) → (1 ≤ (S 1092 0) ∧ (S 1092 0) ≤ 24 ∧ 0 ≤ (S 57 ((S 1092 0) - 1)) ∧ (S 57 ((S 1092 0) - 1)) ≤ 600) ∧ (∀ g137 : sv_S, ((g137 57 ((S 1092 0) - 1)) = (S 57 ((S 1092 0) - 1)) + 1 ∧ (∀ k : Int, ¬ k = (S 1092 0) - 1 → (g137 57 k) = (S 57 k))) → (sm_PL (S 1100020) (S 51) (S 52) (S 46) (S 47) (S 1076 0) (S 1086 0) ∧ sm_FR (S 1100020) (S 52) (S 1100021) (S 1100022) (3000 - (S 1084 0)) (S 1085 0) ∧ sm_PV (S 1100020) (S 48) (S 49) (S 50) (S 44) (S 1076 0) (S 1007 0) ∧ sm_AL (S 1100020) (S 48) (S 49) (S 50) (S 44) (S 1076 0) (S 1100032 0) ∧ sm_SV (S 1100020) (S 48) (S 1100029) (S 32) (S 33) (S 1076 0) (S 1032 0) ∧ 0 ≤ (S 1076 0) ∧ (S 1076 0) ≤ 300 ∧ 0 ≤ (S 1084 0) ∧ (S 1084 0) ≤ 3000 ∧ 0 ≤ (S 1086 0) ∧ sm_SC (S 1100029) (S 44) (S 45) (S 43) (S 21) (S 1076 0) (S 1032 0) ∧ sm_PO (S 42) (S 1076 0) ∧ ((S 1075 0) = 0 → (S 1100032 0) = -1 ∧ sm_FO (S 44) (S 45) (S 1076 0)) ∧ 23 ≤ (S 1076 0) ∧ 31 ≤ (S 1007 0) ∧ (S 1007 0) ≤ 400 ∧ sm_LN (S 4) 400 (S 1007 0) ∧ (S 1008 0) ≤ (S 1007 0) ∧ ((S 1075 0) = 1 → (S 1075 0) = 1) ∧ 0 ≤ (S 1092 0) ∧ (S 1092 0) ≤ 24 ∧ ((S 1075 0) = 0 → (S 1073 0) = 1 → 1 ≤ (S 1092 0) ∧ (S 1092 0) ≤ 24 ∧ 0 ≤ (g137 57 ((S 1092 0) - 1)) ∧ (g137 57 ((S 1092 0) - 1)) < (S 1046 0) ∧ (S 29 (g137 57 ((S 1092 0) - 1))) = (S 53 ((S 1092 0) - 1)) ∧ 0 ≤ (S 53 ((S 1092 0) - 1)) ∧ (S 53 ((S 1092 0) - 1)) < (S 1032 0) ∧ (S 60 ((S 1092 0) - 1)) = sm_dp (S 1100024) (S 1100023 (g137 57 ((S 1092 0) - 1))) ∧ sm_TC (S 61) (S 62) (S 27) (S 1100007) (S 1100023) (S 1100024) (40 * ((S 1092 0) - 1)) (S 1100023 (g137 57 ((S 1092 0) - 1))) ∧ sm_LK (S 1100029) (S 1076 0) (S 54 ((S 1092 0) - 1)) (S 53 ((S 1092 0) - 1)) ∧ sm_VO (S 44) (S 1076 0) (S 1007 0) ((S 55 ((S 1092 0) - 1))) ((S 56 ((S 1092 0) - 1))) ∧ sm_FW (S 44) (S 1076 0) (S 59 ((S 1092 0) - 1)) ∧ sm_FL (S 53) (S 54) (S 55) (S 56) (g137 57) (g131 58) (S 59) (S 60) (S 61) (S 62) (S 63) (S 64) (S 27) (S 29) (S 1100007) (S 1100023) (S 1100024) (S 1100025) (S 26) (S 1100029) (S 44) (S 1046 0) (S 1032 0) (S 1076 0) (S 1007 0) (((S 1092 0) - 1)) ∧ (g131 58 ((S 1092 0) - 1)) = (S 1100007 (g137 57 ((S 1092 0) - 1))) ∧ sm_SK (S 63) (S 64) (S 44) (S 1100007) (S 1100025) (S 1076 0) (S 1007 0) (400 * ((S 1092 0) - 1)) ((g131 58 ((S 1092 0) - 1))) ((S 1100025 (g137 57 ((S 1092 0) - 1))))))))))) ∧ ((¬ (¬ p1 = (23 : Int))) → (((¬ r126 = (1 : Int)) → (0 ≤ ((S 1092 0) - (1 : Int)) ∧ ((S 1092 0) - (1 : Int)) < 24) ∧ (sm_PL (S 1100020) (S 51) (S 52) (S 46) (S 47) (S 1076 0) (S 1086 0) ∧ sm_FR (S 1100020) (S 52) (S 1100021) (S 1100022) (3000 - (S 1084 0)) (S 1085 0) ∧ sm_PV (S 1100020) (S 48) (S 49) (S 50) (S 44) (S 1076 0) (S 1007 0) ∧ sm_AL (S 1100020) (S 48) (S 49) (S 50) (S 44) (S 1076 0) (S 1100032 0) ∧ sm_SV (S 1100020) (S 48) (S 1100029) (S 32) (S 33) (S 1076 0) (S 1032 0) ∧ 0 ≤ (S 1076 0) ∧ (S 1076 0) ≤ 300 ∧ 0 ≤ (S 1084 0) ∧ (S 1084 0) ≤ 3000 ∧ 0 ≤ (S 1086 0) ∧ sm_SC (S 1100029) (S 44) (S 45) (S 43) (S 21) (S 1076 0) (S 1032 0) ∧ sm_PO (S 42) (S 1076 0) ∧ ((S 1075 0) = 0 → (S 1100032 0) = -1 ∧ sm_FO (S 44) (S 45) (S 1076 0)) ∧ 23 ≤ (S 1076 0) ∧ 31 ≤ (S 1007 0) ∧ (S 1007 0) ≤ 400 ∧ sm_LN (S 4) 400 (S 1007 0) ∧ (S 1008 0) ≤ (S 1007 0) ∧ ((S 1075 0) = 1 → (S 1075 0) = 1) ∧ 0 ≤ (S 1092 0) ∧ (S 1092 0) ≤ 24 ∧ ((S 1075 0) = 0 → (S 1073 0) = 1 → 1 ≤ (S 1092 0) ∧ (S 1092 0) ≤ 24 ∧ 0 ≤ (if ((S 1092 0) - 1) = ((S 1092 0) - (1 : Int)) then p2 else (S 57 ((S 1092 0) - 1))) ∧ (if ((S 1092 0) - 1) = ((S 1092 0) - (1 : Int)) then p2 else (S 57 ((S 1092 0) - 1))) < (S 1046 0) ∧ (S 29 (if ((S 1092 0) - 1) = ((S 1092 0) - (1 : Int)) then p2 else (S 57 ((S 1092 0) - 1)))) = (S 53 ((S 1092 0) - 1)) ∧ 0 ≤ (S 53 ((S 1092 0) - 1)) ∧ (S 53 ((S 1092 0) - 1)) < (S 1032 0) ∧ (S 60 ((S 1092 0) - 1)) = sm_dp (S 1100024) (S 1100023 (if ((S 1092 0) - 1) = ((S 1092 0) - (1 : Int)) then p2 else (S 57 ((S 1092 0) - 1)))) ∧ sm_TC (S 61) (S 62) (S 27) (S 1100007) (S 1100023) (S 1100024) (40 * ((S 1092 0) - 1)) (S 1100023 (if ((S 1092 0) - 1) = ((S 1092 0) - (1 : Int)) then p2 else (S 57 ((S 1092 0) - 1)))) ∧ sm_LK (S 1100029) (S 1076 0) (S 54 ((S 1092 0) - 1)) (S 53 ((S 1092 0) - 1)) ∧ sm_VO (S 44) (S 1076 0) (S 1007 0) ((S 55 ((S 1092 0) - 1))) ((S 56 ((S 1092 0) - 1))) ∧ sm_FW (S 44) (S 1076 0) (S 59 ((S 1092 0) - 1)) ∧ sm_FL (S 53) (S 54) (S 55) (S 56) (fun i' : Int => if i' = ((S 1092 0) - (1 : Int)) then p2 else (S 57) i') (S 58) (S 59) (S 60) (S 61) (S 62) (S 63) (S 64) (S 27) (S 29) (S 1100007) (S 1100023) (S 1100024) (S 1100025) (S 26) (S 1100029) (S 44) (S 1046 0) (S 1032 0) (S 1076 0) (S 1007 0) (((S 1092 0) - 1)) ∧ (S 58 ((S 1092 0) - 1)) = (S 1100007 (if ((S 1092 0) - 1) = ((S 1092 0) - (1 : Int)) then p2 else (S 57 ((S 1092 0) - 1)))) ∧ sm_SK (S 63) (S 64) (S 44) (S 1100007) (S 1100025) (S 1076 0) (S 1007 0) (400 * ((S 1092 0) - 1)) ((S 58 ((S 1092 0) - 1))) ((S 1100025 (if ((S 1092 0) - 1) = ((S 1092 0) - (1 : Int)) then p2 else (S 57 ((S 1092 0) - 1)))))))) ∧ ((¬ (¬ r126 = (1 : Int))) → (1 ≤ (S 1092 0) ∧ (S 1092 0) ≤ 24 ∧ 0 ≤ (S 58 ((S 1092 0) - 1)) ∧ (S 58 ((S 1092 0) - 1)) ≤ 400 ∧ 0 ≤ (1 : Int) ∧ (1 : Int) ≤ (S 58 ((S 1092 0) - 1))) ∧ (∀ g146 : sv_S, ((g146 58 ((S 1092 0) - 1)) = (S 58 ((S 1092 0) - 1)) - (1 : Int) ∧ (∀ k : Int, ¬ k = (S 1092 0) - 1 → (g146 58 k) = (S 58 k))) → (1 ≤ (S 1092 0) ∧ (S 1092 0) ≤ 24 ∧ 0 ≤ (S 57 ((S 1092 0) - 1)) ∧ (S 57 ((S 1092 0) - 1)) ≤ 600) ∧ (∀ g152 : sv_S, ((g152 57 ((S 1092 0) - 1)) = (S 57 ((S 1092 0) - 1)) + 1 ∧ (∀ k : Int, ¬ k = (S 1092 0) - 1 → (g152 57 k) = (S 57 k))) → (sm_PL (S 1100020) (S 51) (S 52) (S 46) (S 47) (S 1076 0) (S 1086 0) ∧ sm_FR (S 1100020) (S 52) (S 1100021) (S 1100022) (3000 - (S 1084 0)) (S 1085 0) ∧ sm_PV (S 1100020) (S 48) (S 49) (S 50) (S 44) (S 1076 0) (S 1007 0) ∧ sm_AL (S 1100020) (S 48) (S 49) (S 50) (S 44) (S 1076 0) (S 1100032 0) ∧ sm_SV (S 1100020) (S 48) (S 1100029) (S 32) (S 33) (S 1076 0) (S 1032 0) ∧ 0 ≤ (S 1076 0) ∧ (S 1076 0) ≤ 300 ∧ 0 ≤ (S 1084 0) ∧ (S 1084 0) ≤ 3000 ∧ 0 ≤ (S 1086 0) ∧ sm_SC (S 1100029) (S 44) (S 45) (S 43) (S 21) (S 1076 0) (S 1032 0) ∧ sm_PO (S 42) (S 1076 0) ∧ ((S 1075 0) = 0 → (S 1100032 0) = -1 ∧ sm_FO (S 44) (S 45) (S 1076 0)) ∧ 23 ≤ (S 1076 0) ∧ 31 ≤ (S 1007 0) ∧ (S 1007 0) ≤ 400 ∧ sm_LN (S 4) 400 (S 1007 0) ∧ (S 1008 0) ≤ (S 1007 0) ∧ ((S 1075 0) = 1 → (S 1075 0) = 1) ∧ 0 ≤ (S 1092 0) ∧ (S 1092 0) ≤ 24 ∧ ((S 1075 0) = 0 → (S 1073 0) = 1 → 1 ≤ (S 1092 0) ∧ (S 1092 0) ≤ 24 ∧ 0 ≤ (g152 57 ((S 1092 0) - 1)) ∧ (g152 57 ((S 1092 0) - 1)) < (S 1046 0) ∧ (S 29 (g152 57 ((S 1092 0) - 1))) = (S 53 ((S 1092 0) - 1)) ∧ 0 ≤ (S 53 ((S 1092 0) - 1)) ∧ (S 53 ((S 1092 0) - 1)) < (S 1032 0) ∧ (S 60 ((S 1092 0) - 1)) = sm_dp (S 1100024) (S 1100023 (g152 57 ((S 1092 0) - 1))) ∧ sm_TC (S 61) (S 62) (S 27) (S 1100007) (S 1100023) (S 1100024) (40 * ((S 1092 0) - 1)) (S 1100023 (g152 57 ((S 1092 0) - 1))) ∧ sm_LK (S 1100029) (S 1076 0) (S 54 ((S 1092 0) - 1)) (S 53 ((S 1092 0) - 1)) ∧ sm_VO (S 44) (S 1076 0) (S 1007 0) ((S 55 ((S 1092 0) - 1))) ((S 56 ((S 1092 0) - 1))) ∧ sm_FW (S 44) (S 1076 0) (S 59 ((S 1092 0) - 1)) ∧ sm_FL (S 53) (S 54) (S 55) (S 56) (g152 57) (g146 58) (S 59) (S 60) (S 61) (S 62) (S 63) (S 64) (S 27) (S 29) (S 1100007) (S 1100023) (S 1100024) (S 1100025) (S 26) (S 1100029) (S 44) (S 1046 0) (S 1032 0) (S 1076 0) (S 1007 0) (((S 1092 0) - 1)) ∧ (g146 58 ((S 1092 0) - 1)) = (S 1100007 (g152 57 ((S 1092 0) - 1))) ∧ sm_SK (S 63) (S 64) (S 44) (S 1100007) (S 1100025) (S 1076 0) (S 1007 0) (400 * ((S 1092 0) - 1)) ((g146 58 ((S 1092 0) - 1))) ((S 1100025 (g152 57 ((S 1092 0) - 1))))))))))))))))))) ∧ ((p1 = (25 : Int)) → ((sm_CT (S 26) (S 27) (S 28) (S 29) (S 1100007) (S 1100023) (S 1100024) (S 1100025) (S 21) (S 1046 0) (S 1032 0) (S 1008 0) (S 1055 0) → 0 ≤ (S 1100033 0) → (S 1100033 0) < (S 1046 0) → (((S 26 (S 1100033 0)) = 25 ∨ (S 26 (S 1100033 0)) = 26) → (0 ≤ ((S 1100007 (S 1100033 0)) - 1) ∧ (0 ≤ (S 1100023 (S 1100033 0)) → (S 1100007 (S 1100023 (S 1100033 0))) ≤ ((S 1100007 (S 1100033 0)) - 1)) ∧ (0 ≤ (S 1100025 (S 1100033 0)) → (S 1100007 (S 1100025 (S 1100033 0))) ≤ ((S 1100007 (S 1100033 0)) - 1))))) → (((S 1100034 0) = (S 1100025 (S 1100033 0)) → (S 58 ((S 1092 0) - 1)) = (S 1100007 (S 1100033 0)) → (0 ≤ (S 1100025 (S 1100033 0)) → (S 1100007 (S 1100025 (S 1100033 0))) ≤ (S 1100007 (S 1100033 0)) - 1) → (0 ≤ (S 1100034 0) → (S 1100007 (S 1100034 0)) ≤ (S 58 ((S 1092 0) - 1)) - 1)) → ((sm_SK (S 63) (S 64) (S 44) (S 1100007) (S 1100025) (S 1076 0) (S 1007 0) (400 * ((S 1092 0) - 1)) ((S 58 ((S 1092 0) - 1))) ((S 1100034 0)) → sm_LS (S 26) (S 1100007) (S 1100025) (S 1046 0) → 0 ≤ (S 58 ((S 1092 0) - 1)) - 1 → (S 58 ((S 1092 0) - 1)) - 1 < (S 58 ((S 1092 0) - 1)) → (S 1100034 0) < (S 1046 0) → (S 1100034 0) = (S 1100025 (S 1100033 0)) → (S 58 ((S 1092 0) - 1)) = (S 1100007 (S 1100033 0)) → (0 ≤ (S 1100034 0) → (S 26 (S 1100034 0)) = 29) → (0 ≤ (S 1100025 (S 1100033 0)) → (S 1100007 (S 1100025 (S 1100033 0))) ≤ (S 1100007 (S 1100033 0)) - 1) → sm_VO (S 44) (S 1076 0) (S 1007 0) ((S 63 (400 * ((S 1092 0) - 1) + ((S 58 ((S 1092 0) - 1)) - 1)))) ((S 64 (400 * ((S 1092 0) - 1) + ((S 58 ((S 1092 0) - 1)) - 1))))) → ((S 1075 0) = 0 ∧ (S 1073 0) = 1 ∧ sm_PL (S 1100020) (S 51) (S 52) (S 46) (S 47) (S 1076 0) (S 1086 0) ∧ sm_FR (S 1100020) (S 52) (S 1100021) (S 1100022) (3000 - (S 1084 0)) (S 1085 0) ∧ sm_PV (S 1100020) (S 48) (S 49) (S 50) (S 44) (S 1076 0) (S 1007 0) ∧ sm_AL (S 1100020) (S 48) (S 49) (S 50) (S 44) (S 1076 0) (S 1100032 0) ∧ sm_SV (S 1100020) (S 48) (S 1100029) (S 32) (S 33) (S 1076 0) (S 1032 0) ∧ 0 ≤ (S 1076 0) ∧ (S 1076 0) ≤ 300 ∧ 0 ≤ (S 1084 0) ∧ (S 1084 0) ≤ 3000 ∧ 0 ≤ (S 1086 0) ∧ sm_SC (S 1100029) (S 44) (S 45) (S 43) (S 21) (S 1076 0) (S 1032 0) ∧ sm_PO (S 42) (S 1076 0) ∧ (S 1100032 0) = -1 ∧ sm_FO (S 44) (S 45) (S 1076 0) ∧ 23 ≤ (S 1076 0) ∧ 31 ≤ (S 1007 0) ∧ (S 1007 0) ≤ 400 ∧ sm_LN (S 4) 400 (S 1007 0) ∧ sm_CT (S 26) (S 27) (S 28) (S 29) (S 1100007) (S 1100023) (S 1100024) (S 1100025) (S 21) (S 1046 0) (S 1032 0) (S 1008 0) (S 1055 0) ∧ sm_LS (S 26) (S 1100007) (S 1100025) (S 1046 0) ∧ sm_CL (S 1100007) (S 1100023) (S 1100025) (S 1046 0) ∧ 1 ≤ (S 1032 0) ∧ (S 1032 0) ≤ 11 ∧ 0 ≤ (S 1046 0) ∧ (S 1046 0) ≤ 600 ∧ 31 ≤ (S 1008 0) ∧ (S 1008 0) ≤ (S 1007 0) ∧ 0 ≤ (S 1055 0) ∧ (S 1055 0) ≤ 19 ∧ 1 ≤ (S 1092 0) ∧ (S 1092 0) ≤ 24 ∧ 0 ≤ (S 1100033 0) ∧ (S 1100033 0) < (S 1046 0) ∧ (S 29 (S 1100033 0)) = (S 53 ((S 1092 0) - 1)) ∧ 0 ≤ (S 53 ((S 1092 0) - 1)) ∧ (S 53 ((S 1092 0) - 1)) < (S 1032 0) ∧ (S 60 ((S 1092 0) - 1)) = sm_dp (S 1100024) (S 1100023 (S 1100033 0)) ∧ sm_TC (S 61) (S 62) (S 27) (S 1100007) (S 1100023) (S 1100024) (40 * ((S 1092 0) - 1)) (S 1100023 (S 1100033 0)) ∧ sm_LK (S 1100029) (S 1076 0) (S 54 ((S 1092 0) - 1)) (S 53 ((S 1092 0) - 1)) ∧ sm_VO (S 44) (S 1076 0) (S 1007 0) ((S 55 ((S 1092 0) - 1))) ((S 56 ((S 1092 0) - 1))) ∧ sm_FW (S 44) (S 1076 0) (S 59 ((S 1092 0) - 1)) ∧ sm_FL (S 53) (S 54) (S 55) (S 56) (S 57) (S 58) (S 59) (S 60) (S 61) (S 62) (S 63) (S 64) (S 27) (S 29) (S 1100007) (S 1100023) (S 1100024) (S 1100025) (S 26) (S 1100029) (S 44) (S 1046 0) (S 1032 0) (S 1076 0) (S 1007 0) (((S 1092 0) - 1)) ∧ (S 57 ((S 1092 0) - 1)) = (S 1100033 0) ∧ 0 ≤ (S 58 ((S 1092 0) - 1)) ∧ (S 58 ((S 1092 0) - 1)) ≤ 400 ∧ sm_SK (S 63) (S 64) (S 44) (S 1100007) (S 1100025) (S 1076 0) (S 1007 0) (400 * ((S 1092 0) - 1)) ((S 58 ((S 1092 0) - 1))) ((S 1100034 0)) ∧ -1 ≤ (S 1100034 0) ∧ (S 1100034 0) < (S 1046 0) ∧ (0 ≤ (S 1100034 0) → (S 26 (S 1100034 0)) = 29) ∧ (S 58 ((S 1092 0) - 1)) = (S 1100007 (S 1100033 0)) ∧ (S 1100034 0) = (S 1100025 (S 1100033 0)) ∧ (0 ≤ (S 1100023 (S 1100033 0)) → (S 1100007 (S 1100023 (S 1100033 0))) ≤ (S 58 ((S 1092 0) - 1))) ∧ (S 58 ((S 1092 0) - 1)) ≤ 396 ∧ sm_VO (S 44) (S 1076 0) (S 1007 0) (s3) (s5)) ∧ (∀ g161 : sv_S, (sm_PL (S 1100020) (S 51) (S 52) (S 46) (S 47) (S 1076 0) (S 1086 0) ∧ sm_FR (S 1100020) (S 52) (S 1100021) (S 1100022) (3000 - (S 1084 0)) (S 1085 0) ∧ sm_PV (S 1100020) (S 48) (S 49) (S 50) (S 44) (S 1076 0) (S 1007 0) ∧ sm_AL (S 1100020) (S 48) (S 49) (S 50) (S 44) (S 1076 0) (S 1100032 0) ∧ sm_SV (S 1100020) (S 48) (S 1100029) (S 32) (S 33) (S 1076 0) (S 1032 0) ∧ 0 ≤ (S 1076 0) ∧ (S 1076 0) ≤ 300 ∧ 0 ≤ (S 1084 0) ∧ (S 1084 0) ≤ 3000 ∧ 0 ≤ (S 1086 0) ∧ sm_SC (S 1100029) (S 44) (S 45) (S 43) (S 21) (S 1076 0) (S 1032 0) ∧ sm_PO (S 42) (S 1076 0) ∧ ((S 1075 0) = 0 → (S 1100032 0) = -1 ∧ sm_FO (S 44) (S 45) (S 1076 0)) ∧ 23 ≤ (S 1076 0) ∧ 31 ≤ (S 1007 0) ∧ (S 1007 0) ≤ 400 ∧ sm_LN (S 4) 400 (S 1007 0) ∧ (S 1008 0) ≤ (S 1007 0) ∧ ((S 1075 0) = 1 → (S 1075 0) = 1) ∧ 0 ≤ (g161 1092 0) ∧ (g161 1092 0) ≤ 24 ∧ ((S 1075 0) = 0 → (g161 1073 0) = 1 → 1 ≤ (g161 1092 0) ∧ (g161 1092 0) ≤ 24 ∧ 0 ≤ (S 57 ((g161 1092 0) - 1)) ∧ (S 57 ((g161 1092 0) - 1)) < (S 1046 0) ∧ (S 29 (S 57 ((g161 1092 0) - 1))) = (S 53 ((g161 1092 0) - 1)) ∧ 0 ≤ (S 53 ((g161 1092 0) - 1)) ∧ (S 53 ((g161 1092 0) - 1)) < (S 1032 0) ∧ (S 60 ((g161 1092 0) - 1)) = sm_dp (S 1100024) (S 1100023 (S 57 ((g161 1092 0) - 1))) ∧ sm_TC (S 61) (S 62) (S 27) (S 1100007) (S 1100023) (S 1100024) (40 * ((g161 1092 0) - 1)) (S 1100023 (S 57 ((g161 1092 0) - 1))) ∧ sm_LK (S 1100029) (S 1076 0) (S 54 ((g161 1092 0) - 1)) (S 53 ((g161 1092 0) - 1)) ∧ sm_VO (S 44) (S 1076 0) (S 1007 0) ((S 55 ((g161 1092 0) - 1))) ((S 56 ((g161 1092 0) - 1))) ∧ sm_FW (S 44) (S 1076 0) (S 59 ((g161 1092 0) - 1)) ∧ sm_FL (S 53) (S 54) (S 55) (S 56) (S 57) (g161 58) (S 59) (S 60) (S 61) (S 62) (g161 63) (g161 64) (S 27) (S 29) (S 1100007) (S 1100023) (S 1100024) (S 1100025) (S 26) (S 1100029) (S 44) (S 1046 0) (S 1032 0) (S 1076 0) (S 1007 0) (((g161 1092 0) - 1)) ∧ (g161 58 ((g161 1092 0) - 1)) = (S 1100007 (S 57 ((g161 1092 0) - 1))) ∧ sm_SK (g161 63) (g161 64) (S 44) (S 1100007) (S 1100025) (S 1076 0) (S 1007 0) (400 * ((g161 1092 0) - 1)) ((g161 58 ((g161 1092 0) - 1))) ((S 1100025 (S 57 ((g161 1092 0) - 1))))) ∧ ((g161 1073 0) = 1 ∨ (g161 1073 0) = 2)) → (sm_PL (S 1100020) (S 51) (S 52) (S 46) (S 47) (S 1076 0) (S 1086 0) ∧ sm_FR (S 1100020) (S 52) (S 1100021) (S 1100022) (3000 - (S 1084 0)) (S 1085 0) ∧ sm_PV (S 1100020) (S 48) (S 49) (S 50) (S 44) (S 1076 0) (S 1007 0) ∧ sm_AL (S 1100020) (S 48) (S 49) (S 50) (S 44) (S 1076 0) (S 1100032 0) ∧ sm_SV (S 1100020) (S 48) (S 1100029) (S 32) (S 33) (S 1076 0) (S 1032 0) ∧ 0 ≤ (S 1076 0) ∧ (S 1076 0) ≤ 300 ∧ 0 ≤ (S 1084 0) ∧ (S 1084 0) ≤ 3000 ∧ 0 ≤ (S 1086 0) ∧ sm_SC (S 1100029) (S 44) (S 45) (S 43) (S 21) (S 1076 0) (S 1032 0) ∧ sm_PO (S 42) (S 1076 0) ∧ ((S 1075 0) = 0 → (S 1100032 0) = -1 ∧ sm_FO (S 44) (S 45) (S 1076 0)) ∧ 23 ≤ (S 1076 0) ∧ 31 ≤ (S 1007 0) ∧ (S 1007 0) ≤ 400 ∧ sm_LN (S 4) 400 (S 1007 0) ∧ (S 1008 0) ≤ (S 1007 0) ∧ ((S 1075 0) = 1 → (S 1075 0) = 1) ∧ 0 ≤ (g161 1092 0) ∧ (g161 1092 0) ≤ 24 ∧ ((S 1075 0) = 0 → (g161 1073 0) = 1 → 1 ≤ (g161 1092 0) ∧ (g161 1092 0) ≤ 24 ∧ 0 ≤ (S 57 ((g161 1092 0) - 1)) ∧ (S 57 ((g161 1092 0) - 1)) < (S 1046 0) ∧ (S 29 (S 57 ((g161 1092 0) - 1))) = (S 53 ((g161 1092 0) - 1)) ∧ 0 ≤ (S 53 ((g161 1092 0) - 1)) ∧ (S 53 ((g161 1092 0) - 1)) < (S 1032 0) ∧ (S 60 ((g161 1092 0) - 1)) = sm_dp (S 1100024) (S 1100023 (S 57 ((g161 1092 0) - 1))) ∧ sm_TC (S 61) (S 62) (S 27) (S 1100007) (S 1100023) (S 1100024) (40 * ((g161 1092 0) - 1)) (S 1100023 (S 57 ((g161 1092 0) - 1))) ∧ sm_LK (S 1100029) (S 1076 0) (S 54 ((g161 1092 0) - 1)) (S 53 ((g161 1092 0) - 1)) ∧ sm_VO (S 44) (S 1076 0) (S 1007 0) ((S 55 ((g161 1092 0) - 1))) ((S 56 ((g161 1092 0) - 1))) ∧ sm_FW (S 44) (S 1076 0) (S 59 ((g161 1092 0) - 1)) ∧ sm_FL (S 53) (S 54) (S 55) (S 56) (S 57) (g161 58) (S 59) (S 60) (S 61) (S 62) (g161 63) (g161 64) (S 27) (S 29) (S 1100007) (S 1100023) (S 1100024) (S 1100025) (S 26) (S 1100029) (S 44) (S 1046 0) (S 1032 0) (S 1076 0) (S 1007 0) (((g161 1092 0) - 1)) ∧ (g161 58 ((g161 1092 0) - 1)) = (S 1100007 (S 57 ((g161 1092 0) - 1))) ∧ sm_SK (g161 63) (g161 64) (S 44) (S 1100007) (S 1100025) (S 1076 0) (S 1007 0) (400 * ((g161 1092 0) - 1)) ((g161 58 ((g161 1092 0) - 1))) ((S 1100025 (S 57 ((g161 1092 0) - 1))))))))))) ∧ ((p1 = (26 : Int)) → ((sm_CT (S 26) (S 27) (S 28) (S 29) (S 1100007) (S 1100023) (S 1100024) (S 1100025) (S 21) (S 1046 0) (S 1032 0) (S 1008 0) (S 1055 0) → 0 ≤ (S 1100033 0) → (S 1100033 0) < (S 1046 0) → (((S 26 (S 1100033 0)) = 25 ∨ (S 26 (S 1100033 0)) = 26) → (0 ≤ ((S 1100007 (S 1100033 0)) - 1) ∧ (0 ≤ (S 1100023 (S 1100033 0)) → (S 1100007 (S 1100023 (S 1100033 0))) ≤ ((S 1100007 (S 1100033 0)) - 1)) ∧ (0 ≤ (S 1100025 (S 1100033 0)) → (S 1100007 (S 1100025 (S 1100033 0))) ≤ ((S 1100007 (S 1100033 0)) - 1))))) → (((S 1100034 0) = (S 1100025 (S 1100033 0)) → (S 58 ((S 1092 0) - 1)) = (S 1100007 (S 1100033 0)) → (0 ≤ (S 1100025 (S 1100033 0)) → (S 1100007 (S 1100025 (S 1100033 0))) ≤ (S 1100007 (S 1100033 0)) - 1) → (0 ≤ (S 1100034 0) → (S 1100007 (S 1100034 0)) ≤ (S 58 ((S 1092 0) - 1)) - 1)) → ((sm_SK (S 63) (S 64) (S 44) (S 1100007) (S 1100025) (S 1076 0) (S 1007 0) (400 * ((S 1092 0) - 1)) ((S 58 ((S 1092 0) - 1))) ((S 1100034 0)) → sm_LS (S 26) (S 1100007) (S 1100025) (S 1046 0) → 0 ≤ (S 58 ((S 1092 0) - 1)) - 1 → (S 58 ((S 1092 0) - 1)) - 1 < (S 58 ((S 1092 0) - 1)) → (S 1100034 0) < (S 1046 0) → (S 1100034 0) = (S 1100025 (S 1100033 0)) → (S 58 ((S 1092 0) - 1)) = (S 1100007 (S 1100033 0)) → (0 ≤ (S 1100034 0) → (S 26 (S 1100034 0)) = 29) → (0 ≤ (S 1100025 (S 1100033 0)) → (S 1100007 (S 1100025 (S 1100033 0))) ≤ (S 1100007 (S 1100033 0)) - 1) → sm_VO (S 44) (S 1076 0) (S 1007 0) ((S 63 (400 * ((S 1092 0) - 1) + ((S 58 ((S 1092 0) - 1)) - 1)))) ((S 64 (400 * ((S 1092 0) - 1) + ((S 58 ((S 1092 0) - 1)) - 1))))) → ((S 1075 0) = 0 → 31 ≤ (S 1007 0) ∧ (S 1007 0) ≤ 400 ∧ sm_LN (S 4) 400 (S 1007 0) ∧ sm_CT (S 26) (S 27) (S 28) (S 29) (S 1100007) (S 1100023) (S 1100024) (S 1100025) (S 21) (S 1046 0) (S 1032 0) (S 1008 0) (S 1055 0) ∧ sm_LS (S 26) (S 1100007) (S 1100025) (S 1046 0) ∧ sm_CL (S 1100007) (S 1100023) (S 1100025) (S 1046 0) ∧ 1 ≤ (S 1032 0) ∧ (S 1032 0) ≤ 11 ∧ 0 ≤ (S 1046 0) ∧ (S 1046 0) ≤ 600 ∧ 31 ≤ (S 1008 0) ∧ (S 1008 0) ≤ (S 1007 0) ∧ 0 ≤ (S 1055 0) ∧ (S 1055 0) ≤ 19 ∧ 1 ≤ (S 1092 0) ∧ (S 1092 0) ≤ 24 ∧ 0 ≤ (S 57 ((S 1092 0) - 1)) ∧ (S 57 ((S 1092 0) - 1)) < (S 1046 0) ∧ (S 29 (S 57 ((S 1092 0) - 1))) = (S 53 ((S 1092 0) - 1)) ∧ 0 ≤ (S 53 ((S 1092 0) - 1)) ∧ (S 53 ((S 1092 0) - 1)) < (S 1032 0) ∧ (S 60 ((S 1092 0) - 1)) = sm_dp (S 1100024) (S 1100023 (S 57 ((S 1092 0) - 1))) ∧ sm_TC (S 61) (S 62) (S 27) (S 1100007) (S 1100023) (S 1100024) (40 * ((S 1092 0) - 1)) (S 1100023 (S 57 ((S 1092 0) - 1))) ∧ sm_LK (S 1100029) (S 1076 0) (S 54 ((S 1092 0) - 1)) (S 53 ((S 1092 0) - 1)) ∧ sm_VO (S 44) (S 1076 0) (S 1007 0) ((S 55 ((S 1092 0) - 1))) ((S 56 ((S 1092 0) - 1))) ∧ sm_FW (S 44) (S 1076 0) (S 59 ((S 1092 0) - 1)) ∧ sm_FL (S 53) (S 54) (S 55) (S 56) (S 57) (S 58) (S 59) (S 60) (S 61) (S 62) (S 63) (S 64) (S 27) (S 29) (S 1100007) (S 1100023) (S 1100024) (S 1100025) (S 26) (S 1100029) (S 44) (S 1046 0) (S 1032 0) (S 1076 0) (S 1007 0) (((S 1092 0) - 1)) ∧ (S 58 ((S 1092 0) - 1)) = (S 1100007 (S 57 ((S 1092 0) - 1))) ∧ sm_SK (S 63) (S 64) (S 44) (S 1100007) (S 1100025) (S 1076 0) (S 1007 0) (400 * ((S 1092 0) - 1)) ((S 58 ((S 1092 0) - 1))) ((S 1100025 (S 57 ((S 1092 0) - 1)))) ∧ sm_VO (S 44) (S 1076 0) (S 1007 0) (s3) (s5) ∧ (0 ≤ (S 1100023 (S 57 ((S 1092 0) - 1))) → (S 1100007 (S 1100023 (S 57 ((S 1092 0) - 1)))) ≤ (S 58 ((S 1092 0) - 1)))) ∧ (∀ g170 : sv_S, (((S 1075 0) = 0 → (g170 1073 0) = 1 → (S 1073 0) = 1 ∧ 1 ≤ (g170 1092 0) ∧ (g170 1092 0) ≤ 24 ∧ 0 ≤ (g170 57 ((g170 1092 0) - 1)) ∧ (g170 57 ((g170 1092 0) - 1)) < (S 1046 0) ∧ (S 29 (g170 57 ((g170 1092 0) - 1))) = (S 53 ((g170 1092 0) - 1)) ∧ 0 ≤ (S 53 ((g170 1092 0) - 1)) ∧ (S 53 ((g170 1092 0) - 1)) < (S 1032 0) ∧ (g170 60 ((g170 1092 0) - 1)) = sm_dp (S 1100024) (S 1100023 (g170 57 ((g170 1092 0) - 1))) ∧ sm_TC (S 61) (S 62) (S 27) (S 1100007) (S 1100023) (S 1100024) (40 * ((g170 1092 0) - 1)) (S 1100023 (g170 57 ((g170 1092 0) - 1))) ∧ sm_LK (S 1100029) (S 1076 0) (S 54 ((g170 1092 0) - 1)) (S 53 ((g170 1092 0) - 1)) ∧ sm_VO (S 44) (S 1076 0) (S 1007 0) ((S 55 ((g170 1092 0) - 1))) ((S 56 ((g170 1092 0) - 1))) ∧ sm_FW (S 44) (S 1076 0) (S 59 ((g170 1092 0) - 1)) ∧ sm_FL (S 53) (S 54) (S 55) (S 56) (g170 57) (g170 58) (S 59) (g170 60) (S 61) (S 62) (g170 63) (g170 64) (S 27) (S 29) (S 1100007) (S 1100023) (S 1100024) (S 1100025) (S 26) (S 1100029) (S 44) (S 1046 0) (S 1032 0) (S 1076 0) (S 1007 0) (((g170 1092 0) - 1)) ∧ (g170 58 ((g170 1092 0) - 1)) = (S 1100007 (g170 57 ((g170 1092 0) - 1))) ∧ sm_SK (g170 63) (g170 64) (S 44) (S 1100007) (S 1100025) (S 1076 0) (S 1007 0) (400 * ((g170 1092 0) - 1)) ((g170 58 ((g170 1092 0) - 1))) ((S 1100025 (g170 57 ((g170 1092 0) - 1))))) ∧ ((g170 1073 0) = (S 1073 0) ∨ (g170 1073 0) = 3) ∧ (g170 1092 0) ≤ (S 1092 0) ∧ (0 ≤ (S 1092 0) → 0 ≤ (g170 1092 0))) → (sm_PL (S 1100020) (S 51) (S 52) (S 46) (S 47) (S 1076 0) (S 1086 0) ∧ sm_FR (S 1100020) (S 52) (S 1100021) (S 1100022) (3000 - (S 1084 0)) (S 1085 0) ∧ sm_PV (S 1100020) (S 48) (S 49) (S 50) (S 44) (S 1076 0) (S 1007 0) ∧ sm_AL (S 1100020) (S 48) (S 49) (S 50) (S 44) (S 1076 0) (S 1100032 0) ∧ sm_SV (S 1100020) (S 48) (S 1100029) (S 32) (S 33) (S 1076 0) (S 1032 0) ∧ 0 ≤ (S 1076 0) ∧ (S 1076 0) ≤ 300 ∧ 0 ≤ (S 1084 0) ∧ (S 1084 0) ≤ 3000 ∧ 0 ≤ (S 1086 0) ∧ sm_SC (S 1100029) (S 44) (S 45) (S 43) (S 21) (S 1076 0) (S 1032 0) ∧ sm_PO (S 42) (S 1076 0) ∧ ((S 1075 0) = 0 → (S 1100032 0) = -1 ∧ sm_FO (S 44) (S 45) (S 1076 0)) ∧ 23 ≤ (S 1076 0) ∧ 31 ≤ (S 1007 0) ∧ (S 1007 0) ≤ 400 ∧ sm_LN (S 4) 400 (S 1007 0) ∧ (S 1008 0) ≤ (S 1007 0) ∧ ((S 1075 0) = 1 → (S 1075 0) = 1) ∧ 0 ≤ (g170 1092 0) ∧ (g170 1092 0) ≤ 24 ∧ ((S 1075 0) = 0 → (g170 1073 0) = 1 → 1 ≤ (g170 1092 0) ∧ (g170 1092 0) ≤ 24 ∧ 0 ≤ (g170 57 ((g170 1092 0) - 1)) ∧ (g170 57 ((g170 1092 0) - 1)) < (S 1046 0) ∧ (S 29 (g170 57 ((g170 1092 0) - 1))) = (S 53 ((g170 1092 0) - 1)) ∧ 0 ≤ (S 53 ((g170 1092 0) - 1)) ∧ (S 53 ((g170 1092 0) - 1)) < (S 1032 0) ∧ (g170 60 ((g170 1092 0) - 1)) = sm_dp (S 1100024) (S 1100023 (g170 57 ((g170 1092 0) - 1))) ∧ sm_TC (S 61) (S 62) (S 27) (S 1100007) (S 1100023) (S 1100024) (40 * ((g170 1092 0) - 1)) (S 1100023 (g170 57 ((g170 1092 0) - 1))) ∧ sm_LK (S 1100029) (S 1076 0) (S 54 ((g170 1092 0) - 1)) (S 53 ((g170 1092 0) - 1)) ∧ sm_VO (S 44) (S 1076 0) (S 1007 0) ((S 55 ((g170 1092 0) - 1))) ((S 56 ((g170 1092 0) - 1))) ∧ sm_FW (S 44) (S 1076 0) (S 59 ((g170 1092 0) - 1)) ∧ sm_FL (S 53) (S 54) (S 55) (S 56) (g170 57) (g170 58) (S 59) (g170 60) (S 61) (S 62) (g170 63) (g170 64) (S 27) (S 29) (S 1100007) (S 1100023) (S 1100024) (S 1100025) (S 26) (S 1100029) (S 44) (S 1046 0) (S 1032 0) (S 1076 0) (S 1007 0) (((g170 1092 0) - 1)) ∧ (g170 58 ((g170 1092 0) - 1)) = (S 1100007 (g170 57 ((g170 1092 0) - 1))) ∧ sm_SK (g170 63) (g170 64) (S 44) (S 1100007) (S 1100025) (S 1076 0) (S 1007 0) (400 * ((g170 1092 0) - 1)) ((g170 58 ((g170 1092 0) - 1))) ((S 1100025 (g170 57 ((g170 1092 0) - 1))))))))))) ∧ ((p1 = (27 : Int)) → ((sm_CT (S 26) (S 27) (S 28) (S 29) (S 1100007) (S 1100023) (S 1100024) (S 1100025) (S 21) (S 1046 0) (S 1032 0) (S 1008 0) (S 1055 0) → 0 ≤ (S 1100033 0) → (S 1100033 0) < (S 1046 0) → ((S 26 (S 1100033 0)) = 27 → (S 1100024 (S 1100033 0)) < 40 ∧ (0 ≤ ((S 1100007 (S 1100033 0))) ∧ (0 ≤ (S 1100023 (S 1100033 0)) → (S 1100007 (S 1100023 (S 1100033 0))) ≤ ((S 1100007 (S 1100033 0)))) ∧ (0 ≤ (S 1100025 (S 1100033 0)) → (S 1100007 (S 1100025 (S 1100033 0))) ≤ ((S 1100007 (S 1100033 0))))) ∧ (0 ≤ ((S 1100033 0) + 1) ∧ ((S 1100033 0) + 1) < (S 1046 0) ∧ (S 29 ((S 1100033 0) + 1)) = ((S 29 (S 1100033 0))) ∧ (S 1100007 ((S 1100033 0) + 1)) = ((S 1100007 (S 1100033 0))) ∧ (S 1100023 ((S 1100033 0) + 1)) = (S 1100033 0) ∧ (S 1100025 ((S 1100033 0) + 1)) = ((S 1100025 (S 1100033 0)))) ∧ (0 ≤ ((S 27 (S 1100033 0))) ∧ ((S 27 (S 1100033 0))) < (S 1046 0) ∧ (S 29 ((S 27 (S 1100033 0)))) = ((S 29 (S 1100033 0))) ∧ (S 1100007 ((S 27 (S 1100033 0)))) = ((S 1100007 (S 1100033 0)) + 1) ∧ (S 1100023 ((S 27 (S 1100033 0)))) = ((S 1100023 (S 1100033 0))) ∧ (S 1100025 ((S 27 (S 1100033 0)))) = ((S 1100025 (S 1100033 0)))))) → ((sm_CT (S 26) (S 27) (S 28) (S 29) (S 1100007) (S 1100023) (S 1100024) (S 1100025) (S 21) (S 1046 0) (S 1032 0) (S 1008 0) (S 1055 0) → 0 ≤ (S 1100033 0) → (S 1100033 0) < (S 1046 0) → (S 1100024 (S 1100033 0)) = sm_dp (S 1100024) (S 1100023 (S 1100033 0))) → ((sm_CT (S 26) (S 27) (S 28) (S 29) (S 1100007) (S 1100023) (S 1100024) (S 1100025) (S 21) (S 1046 0) (S 1032 0) (S 1008 0) (S 1055 0) → 0 ≤ (S 1100033 0) → (S 1100033 0) < (S 1046 0) → 0 ≤ (S 1100024 (S 1100033 0)) ∧ (S 1100024 (S 1100033 0)) ≤ 40) → ((0 ≤ (S 1100033 0) → sm_dp (S 1100024) (S 1100033 0) = (S 1100024 (S 1100033 0)) + 1) → (0 ≤ ((S 1092 0) - (1 : Int)) ∧ ((S 1092 0) - (1 : Int)) < 24) ∧ (sv_R (S 60 ((S 1092 0) - (1 : Int))) → (0 ≤ (((40 : Int) * ((S 1092 0) - (1 : Int))) + (S 60 ((S 1092 0) - (1 : Int)))) ∧ (((40 : Int) * ((S 1092 0) - (1 : Int))) + (S 60 ((S 1092 0) - (1 : Int)))) < 960) ∧ (sv_R (S 58 ((S 1092 0) - (1 : Int))) → ((sm_TC (S 61) (S 62) (S 27) (S 1100007) (S 1100023) (S 1100024) (40 * ((S 1092 0) - 1)) (S 1100023 (S 1100033 0)) → 0 ≤ (S 1100033 0) → -1 ≤ (S 1100023 (S 1100033 0)) ∧ (S 1100023 (S 1100033 0)) < (S 1100033 0) → (S 1100024 (S 1100033 0)) = sm_dp (S 1100024) (S 1100023 (S 1100033 0)) → p2 = (S 27 (S 1100033 0)) → (S 58 ((S 1092 0) - 1)) = (S 1100007 (S 1100033 0)) → 40 * ((S 1092 0) - 1) + (S 60 ((S 1092 0) - 1)) = 40 * ((S 1092 0) - 1) + (S 1100024 (S 1100033 0)) → sm_TC (fun i' : Int => if i' = (((40 : Int) * ((S 1092 0) - (1 : Int))) + (S 60 ((S 1092 0) - (1 : Int)))) then p2 else (S 61) i') (fun i' : Int => if i' = (((40 : Int) * ((S 1092 0) - (1 : Int))) + (S 60 ((S 1092 0) - (1 : Int)))) then (S 58 ((S 1092 0) - (1 : Int))) else (S 62) i') (S 27) (S 1100007) (S 1100023) (S 1100024) (40 * ((S 1092 0) - 1)) (S 1100033 0)) → (sv_R ((S 60 ((S 1092 0) - (1 : Int))) + (1 : Int))) ∧ (1 ≤ (S 1092 0) ∧ (S 1092 0) ≤ 24 ∧ 0 ≤ (S 57 ((S 1092 0) - 1)) ∧ (S 57 ((S 1092 0) - 1)) ≤ 600) ∧ (∀ g192 : sv_S, ((g192 57 ((S 1092 0) - 1)) = (S 57 ((S 1092 0) - 1)) + 1 ∧ (∀ k : Int, ¬ k = (S 1092 0) - 1 → (g192 57 k) = (S 57 k))) → (sm_PL (S 1100020) (S 51) (S 52) (S 46) (S 47) (S 1076 0) (S 1086 0) ∧ sm_FR (S 1100020) (S 52) (S 1100021) (S 1100022) (3000 - (S 1084 0)) (S 1085 0) ∧ sm_PV (S 1100020) (S 48) (S 49) (S 50) (S 44) (S 1076 0) (S 1007 0) ∧ sm_AL (S 1100020) (S 48) (S 49) (S 50) (S 44) (S 1076 0) (S 1100032 0) ∧ sm_SV (S 1100020) (S 48) (S 1100029) (S 32) (S 33) (S 1076 0) (S 1032 0) ∧ 0 ≤ (S 1076 0) ∧ (S 1076 0) ≤ 300 ∧ 0 ≤ (S 1084 0) ∧ (S 1084 0) ≤ 3000 ∧ 0 ≤ (S 1086 0) ∧ sm_SC (S 1100029) (S 44) (S 45) (S 43) (S 21) (S 1076 0) (S 1032 0) ∧ sm_PO (S 42) (S 1076 0) ∧ ((S 1075 0) = 0 → (S 1100032 0) = -1 ∧ sm_FO (S 44) (S 45) (S 1076 0)) ∧ 23 ≤ (S 1076 0) ∧ 31 ≤ (S 1007 0) ∧ (S 1007 0) ≤ 400 ∧ sm_LN (S 4) 400 (S 1007 0) ∧ (S 1008 0) ≤ (S 1007 0) ∧ ((S 1075 0) = 1 → (S 1075 0) = 1) ∧ 0 ≤ (S 1092 0) ∧ (S 1092 0) ≤ 24 ∧ ((S 1075 0) = 0 → (S 1073 0) = 1 → 1 ≤ (S 1092 0) ∧ (S 1092 0) ≤ 24 ∧ 0 ≤ (g192 57 ((S 1092 0) - 1)) ∧ (g192 57 ((S 1092 0) - 1)) < (S 1046 0) ∧ (S 29 (g192 57 ((S 1092 0) - 1))) = (S 53 ((S 1092 0) - 1)) ∧ 0 ≤ (S 53 ((S 1092 0) - 1)) ∧ (S 53 ((S 1092 0) - 1)) < (S 1032 0) ∧ (if ((S 1092 0) - 1) = ((S 1092 0) - (1 : Int)) then ((S 60 ((S 1092 0) - (1 : Int))) + (1 : Int)) else (S 60 ((S 1092 0) - 1))) = sm_dp (S 1100024) (S 1100023 (g192 57 ((S 1092 0) - 1))) ∧ sm_TC (fun i' : Int => if i' = (((40 : Int) * ((S 1092 0) - (1 : Int))) + (S 60 ((S 1092 0) - (1 : Int)))) then p2 else (S 61) i') (fun i' : Int => if i' = (((40 : Int) * ((S 1092 0) - (1 : Int))) + (S 60 ((S 1092 0) - (1 : Int)))) then (S 58 ((S 1092 0) - (1 : Int))) else (S 62) i') (S 27) (S 1100007) (S 1100023) (S 1100024) (40 * ((S 1092 0) - 1)) (S 1100023 (g192 57 ((S 1092 0) - 1))) ∧ sm_LK (S 1100029) (S 1076 0) (S 54 ((S 1092 0) - 1)) (S 53 ((S 1092 0) - 1)) ∧ sm_VO (S 44) (S 1076 0) (S 1007 0) ((S 55 ((S 1092 0) - 1))) ((S 56 ((S 1092 0) - 1))) ∧ sm_FW (S 44) (S 1076 0) (S 59 ((S 1092 0) - 1)) ∧ sm_FL (S 53) (S 54) (S 55) (S 56) (g192 57) (S 58) (S 59) (fun i' : Int => if i' = ((S 1092 0) - (1 : Int)) then ((S 60 ((S 1092 0) - (1 : Int))) + (1 : Int)) else (S 60) i') (fun i' : Int => if i' = (((40 : Int) * ((S 1092 0) - (1 : Int))) + (S 60 ((S 1092 0) - (1 : Int)))) then p2 else (S 61) i') (fun i' : Int => if i' = (((40 : Int) * ((S 1092 0) - (1 : Int))) + (S 60 ((S 1092 0) - (1 : Int)))) then (S 58 ((S 1092 0) - (1 : Int))) else (S 62) i') (S 63) (S 64) (S 27) (S 29) (S 1100007) (S 1100023) (S 1100024) (S 1100025) (S 26) (S 1100029) (S 44) (S 1046 0) (S 1032 0) (S 1076 0) (S 1007 0) (((S 1092 0) - 1)) ∧ (S 58 ((S 1092 0) - 1)) = (S 1100007 (g192 57 ((S 1092 0) - 1))) ∧ sm_SK (S 63) (S 64) (S 44) (S 1100007) (S 1100025) (S 1076 0) (S 1007 0) (400 * ((S 1092 0) - 1)) ((S 58 ((S 1092 0) - 1))) ((S 1100025 (g192 57 ((S 1092 0) - 1))))))))))))))) ∧ ((p1 = (28 : Int)) → ((sm_CT (S 26) (S 27) (S 28) (S 29) (S 1100007) (S 1100023) (S 1100024) (S 1100025) (S 21) (S 1046 0) (S 1032 0) (S 1008 0) (S 1055 0) → 0 ≤ (S 1100033 0) → (S 1100033 0) < (S 1046 0) → ((S 26 (S 1100033 0)) = 28 → 0 ≤ (S 1100023 (S 1100033 0)) ∧ (0 ≤ ((S 1100007 (S 1100033 0))) ∧ (0 ≤ (S 1100023 (S 1100033 0)) → (S 1100007 (S 1100023 (S 1100033 0))) ≤ ((S 1100007 (S 1100033 0)))) ∧ (0 ≤ (S 1100025 (S 1100033 0)) → (S 1100007 (S 1100025 (S 1100033 0))) ≤ ((S 1100007 (S 1100033 0))))) ∧ (0 ≤ ((S 1100033 0) + 1) ∧ ((S 1100033 0) + 1) < (S 1046 0) ∧ (S 29 ((S 1100033 0) + 1)) = ((S 29 (S 1100033 0))) ∧ (S 1100007 ((S 1100033 0) + 1)) = ((S 1100007 (S 1100033 0))) ∧ (S 1100023 ((S 1100033 0) + 1)) = ((S 1100023 ((S 1100023 (S 1100033 0))))) ∧ (S 1100025 ((S 1100033 0) + 1)) = ((S 1100025 (S 1100033 0)))))) → ((sm_CT (S 26) (S 27) (S 28) (S 29) (S 1100007) (S 1100023) (S 1100024) (S 1100025) (S 21) (S 1046 0) (S 1032 0) (S 1008 0) (S 1055 0) → 0 ≤ (S 1100033 0) → (S 1100033 0) < (S 1046 0) → (0 ≤ (S 1100023 (S 1100033 0)) → (S 26 ((S 1100023 (S 1100033 0)))) = 27 ∧ (S 29 ((S 1100023 (S 1100033 0)))) = (S 29 (S 1100033 0)) ∧ (S 1100024 (S 1100033 0)) = (S 1100024 ((S 1100023 (S 1100033 0)))) + 1)) → ((sm_CT (S 26) (S 27) (S 28) (S 29) (S 1100007) (S 1100023) (S 1100024) (S 1100025) (S 21) (S 1046 0) (S 1032 0) (S 1008 0) (S 1055 0) → sm_TC (S 61) (S 62) (S 27) (S 1100007) (S 1100023) (S 1100024) (40 * ((S 1092 0) - 1)) (S 1100023 (S 1100033 0)) → 0 ≤ (S 1100023 (S 1100033 0)) → (S 1100023 (S 1100033 0)) < (S 1046 0) → (S 26 (S 1100023 (S 1100033 0))) = 27 → (0 ≤ (S 1100024 (S 1100023 (S 1100033 0))) ∧ (S 1100024 (S 1100023 (S 1100033 0))) < 40 ∧ sm_dp (S 1100024) (S 1100023 (S 1100033 0)) = (S 1100024 (S 1100023 (S 1100033 0))) + 1 ∧ (S 1100024 (S 1100023 (S 1100033 0))) = sm_dp (S 1100024) (S 1100023 (S 1100023 (S 1100033 0))) ∧ -1 ≤ (S 1100023 (S 1100023 (S 1100033 0))) ∧ (S 1100023 (S 1100023 (S 1100033 0))) < (S 1100023 (S 1100033 0))) ∧ ((S 61 (40 * ((S 1092 0) - 1) + (S 1100024 (S 1100023 (S 1100033 0))))) = (S 27 (S 1100023 (S 1100033 0))) ∧ (S 62 (40 * ((S 1092 0) - 1) + (S 1100024 (S 1100023 (S 1100033 0))))) = (S 1100007 (S 1100023 (S 1100033 0))) ∧ 0 ≤ (S 1100007 (S 1100023 (S 1100033 0))) ∧ (S 1100007 (S 1100023 (S 1100033 0))) ≤ 396) ∧ (0 ≤ (S 27 (S 1100023 (S 1100033 0))) ∧ (S 27 (S 1100023 (S 1100033 0))) < (S 1046 0) ∧ (S 29 (S 27 (S 1100023 (S 1100033 0)))) = (S 29 (S 1100023 (S 1100033 0))) ∧ (S 1100007 (S 27 (S 1100023 (S 1100033 0)))) = (S 1100007 (S 1100023 (S 1100033 0))) + 1 ∧ (S 1100023 (S 27 (S 1100023 (S 1100033 0)))) = (S 1100023 (S 1100023 (S 1100033 0))) ∧ (S 1100025 (S 27 (S 1100023 (S 1100033 0)))) = (S 1100025 (S 1100023 (S 1100033 0)))) ∧ sm_TC (S 61) (S 62) (S 27) (S 1100007) (S 1100023) (S 1100024) (40 * ((S 1092 0) - 1)) (S 1100023 (S 1100023 (S 1100033 0))) ∧ (-1 ≤ (S 1100025 (S 1100023 (S 1100033 0))) ∧ (S 1100025 (S 1100023 (S 1100033 0))) < (S 1100023 (S 1100033 0)) ∧ (0 ≤ (S 1100025 (S 1100023 (S 1100033 0))) → (S 26 (S 1100025 (S 1100023 (S 1100033 0)))) = 29 ∧ (S 1100007 (S 1100025 (S 1100023 (S 1100033 0)))) ≤ (S 1100007 (S 1100023 (S 1100033 0)))))) → (0 ≤ ((S 1092 0) - (1 : Int)) ∧ ((S 1092 0) - (1 : Int)) < 24) ∧ (sv_R (S 60 ((S 1092 0) - (1 : Int))) → (sv_R ((S 60 ((S 1092 0) - (1 : Int))) - (1 : Int))) ∧ (1 ≤ (S 1092 0) ∧ (S 1092 0) ≤ 24 ∧ 0 ≤ (S 57 ((S 1092 0) - 1)) ∧ (S 57 ((S 1092 0) - 1)) ≤ 600) ∧ (∀ g206 : sv_S, ((g206 57 ((S 1092 0) - 1)) = (S 57 ((S 1092 0) - 1)) + 1 ∧ (∀ k : Int, ¬ k = (S 1092 0) - 1 → (g206 57 k) = (S 57 k))) → (sm_PL (S 1100020) (S 51) (S 52) (S 46) (S 47) (S 1076 0) (S 1086 0) ∧ sm_FR (S 1100020) (S 52) (S 1100021) (S 1100022) (3000 - (S 1084 0)) (S 1085 0) ∧ sm_PV (S 1100020) (S 48) (S 49) (S 50) (S 44) (S 1076 0) (S 1007 0) ∧ sm_AL (S 1100020) (S 48) (S 49) (S 50) (S 44) (S 1076 0) (S 1100032 0) ∧ sm_SV (S 1100020) (S 48) (S 1100029) (S 32) (S 33) (S 1076 0) (S 1032 0) ∧ 0 ≤ (S 1076 0) ∧ (S 1076 0) ≤ 300 ∧ 0 ≤ (S 1084 0) ∧ (S 1084 0) ≤ 3000 ∧ 0 ≤ (S 1086 0) ∧ sm_SC (S 1100029) (S 44) (S 45) (S 43) (S 21) (S 1076 0) (S 1032 0) ∧ sm_PO (S 42) (S 1076 0) ∧ ((S 1075 0) = 0 → (S 1100032 0) = -1 ∧ sm_FO (S 44) (S 45) (S 1076 0)) ∧ 23 ≤ (S 1076 0) ∧ 31 ≤ (S 1007 0) ∧ (S 1007 0) ≤ 400 ∧ sm_LN (S 4) 400 (S 1007 0) ∧ (S 1008 0) ≤ (S 1007 0) ∧ ((S 1075 0) = 1 → (S 1075 0) = 1) ∧ 0 ≤ (S 1092 0) ∧ (S 1092 0) ≤ 24 ∧ ((S 1075 0) = 0 → (S 1073 0) = 1 → 1 ≤ (S 1092 0) ∧ (S 1092 0) ≤ 24 ∧ 0 ≤ (g206 57 ((S 1092 0) - 1)) ∧ (g206 57 ((S 1092 0) - 1)) < (S 1046 0) ∧ (S 29 (g206 57 ((S 1092 0) - 1))) = (S 53 ((S 1092 0) - 1)) ∧ 0 ≤ (S 53 ((S 1092 0) - 1)) ∧ (S 53 ((S 1092 0) - 1)) < (S 1032 0) ∧ (if ((S 1092 0) - 1) = ((S 1092 0) - (1 : Int)) then ((S 60 ((S 1092 0) - (1 : Int))) - (1 : Int)) else (S 60 ((S 1092 0) - 1))) = sm_dp (S 1100024) (S 1100023 (g206 57 ((S 1092 0) - 1))) ∧ sm_TC (S 61) (S 62) (S 27) (S 1100007) (S 1100023) (S 1100024) (40 * ((S 1092 0) - 1)) (S 1100023 (g206 57 ((S 1092 0) - 1))) ∧ sm_LK (S 1100029) (S 1076 0) (S 54 ((S 1092 0) - 1)) (S 53 ((S 1092 0) - 1)) ∧ sm_VO (S 44) (S 1076 0) (S 1007 0) ((S 55 ((S 1092 0) - 1))) ((S 56 ((S 1092 0) - 1))) ∧ sm_FW (S 44) (S 1076 0) (S 59 ((S 1092 0) - 1)) ∧ sm_FL (S 53) (S 54) (S 55) (S 56) (g206 57) (S 58) (S 59) (fun i' : Int => if i' = ((S 1092 0) - (1 : Int)) then ((S 60 ((S 1092 0) - (1 : Int))) - (1 : Int)) else (S 60) i') (S 61) (S 62) (S 63) (S 64) (S 27) (S 29) (S 1100007) (S 1100023) (S 1100024) (S 1100025) (S 26) (S 1100029) (S 44) (S 1046 0) (S 1032 0) (S 1076 0) (S 1007 0) (((S 1092 0) - 1)) ∧ (S 58 ((S 1092 0) - 1)) = (S 1100007 (g206 57 ((S 1092 0) - 1))) ∧ sm_SK (S 63) (S 64) (S 44) (S 1100007) (S 1100025) (S 1076 0) (S 1007 0) (400 * ((S 1092 0) - 1)) ((S 58 ((S 1092 0) - 1))) ((S 1100025 (g206 57 ((S 1092 0) - 1)))))))))))) ∧ ((p1 = (29 : Int)) → ((sm_CT (S 26) (S 27) (S 28) (S 29) (S 1100007) (S 1100023) (S 1100024) (S 1100025) (S 21) (S 1046 0) (S 1032 0) (S 1008 0) (S 1055 0) → 0 ≤ (S 1100033 0) → (S 1100033 0) < (S 1046 0) → ((S 26 (S 1100033 0)) = 29 → (0 ≤ ((S 1100007 (S 1100033 0)) - 1) ∧ (0 ≤ (S 1100023 (S 1100033 0)) → (S 1100007 (S 1100023 (S 1100033 0))) ≤ ((S 1100007 (S 1100033 0)) - 1)) ∧ (0 ≤ (S 1100025 (S 1100033 0)) → (S 1100007 (S 1100025 (S 1100033 0))) ≤ ((S 1100007 (S 1100033 0)) - 1))) ∧ (0 ≤ ((S 1100033 0) + 1) ∧ ((S 1100033 0) + 1) < (S 1046 0) ∧ (S 29 ((S 1100033 0) + 1)) = ((S 29 (S 1100033 0))) ∧ (S 1100007 ((S 1100033 0) + 1)) = ((S 1100007 (S 1100033 0))) ∧ (S 1100023 ((S 1100033 0) + 1)) = ((S 1100023 (S 1100033 0))) ∧ (S 1100025 ((S 1100033 0) + 1)) = (S 1100033 0)))) → (((S 1100034 0) = (S 1100025 (S 1100033 0)) → (S 58 ((S 1092 0) - 1)) = (S 1100007 (S 1100033 0)) → (0 ≤ (S 1100025 (S 1100033 0)) → (S 1100007 (S 1100025 (S 1100033 0))) ≤ (S 1100007 (S 1100033 0)) - 1) → (0 ≤ (S 1100034 0) → (S 1100007 (S 1100034 0)) ≤ (S 58 ((S 1092 0) - 1)) - 1)) → ((sm_SK (S 63) (S 64) (S 44) (S 1100007) (S 1100025) (S 1076 0) (S 1007 0) (400 * ((S 1092 0) - 1)) ((S 58 ((S 1092 0) - 1))) ((S 1100034 0)) → sm_LS (S 26) (S 1100007) (S 1100025) (S 1046 0) → 0 ≤ (S 58 ((S 1092 0) - 1)) - 1 → (S 58 ((S 1092 0) - 1)) - 1 < (S 58 ((S 1092 0) - 1)) → (S 1100034 0) < (S 1046 0) → (S 1100034 0) = (S 1100025 (S 1100033 0)) → (S 58 ((S 1092 0) - 1)) = (S 1100007 (S 1100033 0)) → (0 ≤ (S 1100034 0) → (S 26 (S 1100034 0)) = 29) → (0 ≤ (S 1100025 (S 1100033 0)) → (S 1100007 (S 1100025 (S 1100033 0))) ≤ (S 1100007 (S 1100033 0)) - 1) → sm_VO (S 44) (S 1076 0) (S 1007 0) ((S 63 (400 * ((S 1092 0) - 1) + ((S 58 ((S 1092 0) - 1)) - 1)))) ((S 64 (400 * ((S 1092 0) - 1) + ((S 58 ((S 1092 0) - 1)) - 1))))) → (1 ≤ (S 1092 0) ∧ (S 1092 0) ≤ 24 ∧ 0 ≤ (S 58 ((S 1092 0) - 1)) ∧ (S 58 ((S 1092 0) - 1)) ≤ 400 ∧ 0 ≤ (1 : Int) ∧ (1 : Int) ≤ (S 58 ((S 1092 0) - 1))) ∧ (∀ g215 : sv_S, ((g215 58 ((S 1092 0) - 1)) = (S 58 ((S 1092 0) - 1)) - (1 : Int) ∧ (∀ k : Int, ¬ k = (S 1092 0) - 1 → (g215 58 k) = (S 58 k))) → (1 ≤ (S 1092 0) ∧ (S 1092 0) ≤ 24 ∧ 0 ≤ (g215 58 ((S 1092 0) - 1)) ∧ (g215 58 ((S 1092 0) - 1)) ≤ 400) ∧ (0 ≤ ((400 * ((S 1092 0) - 1) + (g215 58 ((S 1092 0) - 1)))) ∧ ((400 * ((S 1092 0) - 1) + (g215 58 ((S 1092 0) - 1)))) < 9600) ∧ (sv_R (S 1086 0) → (((¬ s3 = (7 : Int)) → (1 ≤ (S 1092 0) ∧ (S 1092 0) ≤ 24 ∧ 0 ≤ (g215 58 ((S 1092 0) - 1)) ∧ (g215 58 ((S 1092 0) - 1)) ≤ 400 ∧ (g215 58 ((S 1092 0) - 1)) < 400) ∧ (∀ g228 : sv_S, ((g228 58 ((S 1092 0) - 1)) = (g215 58 ((S 1092 0) - 1)) + 1 ∧ (g228 63 (400 * ((S 1092 0) - 1) + (g215 58 ((S 1092 0) - 1)))) = (8 : Int) ∧ (g228 64 (400 * ((S 1092 0) - 1) + (g215 58 ((S 1092 0) - 1)))) = (-1 : Int) ∧ (∀ k : Int, ¬ k = (S 1092 0) - 1 → (g228 58 k) = (g215 58 k)) ∧ (∀ k : Int, ¬ k = (400 * ((S 1092 0) - 1) + (g215 58 ((S 1092 0) - 1))) → (g228 63 k) = (S 63 k)) ∧ (∀ k : Int, ¬ k = (400 * ((S 1092 0) - 1) + (g215 58 ((S 1092 0) - 1))) → (g228 64 k) = (S 64 k))) → (1 ≤ (S 1092 0) ∧ (S 1092 0) ≤ 24 ∧ 0 ≤ (S 57 ((S 1092 0) - 1)) ∧ (S 57 ((S 1092 0) - 1)) ≤ 600) ∧ (∀ g234 : sv_S, ((g234 57 ((S 1092 0) - 1)) = (S 57 ((S 1092 0) - 1)) + 1 ∧ (∀ k : Int, ¬ k = (S 1092 0) - 1 → (g234 57 k) = (S 57 k))) → (sm_PL (S 1100020) (S 51) (S 52) (S 46) (S 47) (S 1076 0) (S 1086 0) ∧ sm_FR (S 1100020) (S 52) (S 1100021) (S 1100022) (3000 - (S 1084 0)) (S 1085 0) ∧ sm_PV (S 1100020) (S 48) (S 49) (S 50) (S 44) (S 1076 0) (S 1007 0) ∧ sm_AL (S 1100020) (S 48) (S 49) (S 50) (S 44) (S 1076 0) (S 1100032 0) ∧ sm_SV (S 1100020) (S 48) (S 1100029) (S 32) (S 33) (S 1076 0) (S 1032 0) ∧ 0 ≤ (S 1076 0) ∧ (S 1076 0) ≤ 300 ∧ 0 ≤ (S 1084 0) ∧ (S 1084 0) ≤ 3000 ∧ 0 ≤ (S 1086 0) ∧ sm_SC (S 1100029) (S 44) (S 45) (S 43) (S 21) (S 1076 0) (S 1032 0) ∧ sm_PO (S 42) (S 1076 0) ∧ ((S 1075 0) = 0 → (S 1100032 0) = -1 ∧ sm_FO (S 44) (S 45) (S 1076 0)) ∧ 23 ≤ (S 1076 0) ∧ 31 ≤ (S 1007 0) ∧ (S 1007 0) ≤ 400 ∧ sm_LN (S 4) 400 (S 1007 0) ∧ (S 1008 0) ≤ (S 1007 0) ∧ ((S 1075 0) = 1 → (S 1075 0) = 1) ∧ 0 ≤ (S 1092 0) ∧ (S 1092 0) ≤ 24 ∧ ((S 1075 0) = 0 → (S 1073 0) = 1 → 1 ≤ (S 1092 0) ∧ (S 1092 0) ≤ 24 ∧ 0 ≤ (g234 57 ((S 1092 0) - 1)) ∧ (g234 57 ((S 1092 0) - 1)) < (S 1046 0) ∧ (S 29 (g234 57 ((S 1092 0) - 1))) = (S 53 ((S 1092 0) - 1)) ∧ 0 ≤ (S 53 ((S 1092 0) - 1)) ∧ (S 53 ((S 1092 0) - 1)) < (S 1032 0) ∧ (S 60 ((S 1092 0) - 1)) = sm_dp (S 1100024) (S 1100023 (g234 57 ((S 1092 0) - 1))) ∧ sm_TC (S 61) (S 62) (S 27) (S 1100007) (S 1100023) (S 1100024) (40 * ((S 1092 0) - 1)) (S 1100023 (g234 57 ((S 1092 0) - 1))) ∧ sm_LK (S 1100029) (S 1076 0) (S 54 ((S 1092 0) - 1)) (S 53 ((S 1092 0) - 1)) ∧ sm_VO (S 44) (S 1076 0) (S 1007 0) ((S 55 ((S 1092 0) - 1))) ((S 56 ((S 1092 0) - 1))) ∧ sm_FW (S 44) (S 1076 0) (S 59 ((S 1092 0) - 1)) ∧ sm_FL (S 53) (S 54) (S 55) (S 56) (g234 57) (g228 58) (S 59) (S 60) (S 61) (S 62) (g228 63) (g228 64) (S 27) (S 29) (S 1100007) (S 1100023) (S 1100024) (S 1100025) (S 26) (S 1100029) (S 44) (S 1046 0) (S 1032 0) (S 1076 0) (S 1007 0) (((S 1092 0) - 1)) ∧ (g228 58 ((S 1092 0) - 1)) = (S 1100007 (g234 57 ((S 1092 0) - 1))) ∧ sm_SK (g228 63) (g228 64) (S 44) (S 1100007) (S 1100025) (S 1076 0) (S 1007 0) (400 * ((S 1092 0) - 1)) ((g228 58 ((S 1092 0) - 1))) ((S 1100025 (g234 57 ((S 1092 0) - 1))))))))) ∧ ((¬ (¬ s3 = (7 : Int))) → (1 ≤ (S 1092 0) ∧ (S 1092 0) ≤ 24 ∧ 0 ≤ (g215 58 ((S 1092 0) - 1)) ∧ (g215 58 ((S 1092 0) - 1)) ≤ 400 ∧ (g215 58 ((S 1092 0) - 1)) < 400) ∧ (∀ g240 : sv_S, ((g240 58 ((S 1092 0) - 1)) = (g215 58 ((S 1092 0) - 1)) + 1 ∧ (g240 63 (400 * ((S 1092 0) - 1) + (g215 58 ((S 1092 0) - 1)))) = (8 : Int) ∧ (g240 64 (400 * ((S 1092 0) - 1) + (g215 58 ((S 1092 0) - 1)))) = s5 ∧ (∀ k : Int, ¬ k = (S 1092 0) - 1 → (g240 58 k) = (g215 58 k)) ∧ (∀ k : Int, ¬ k = (400 * ((S 1092 0) - 1) + (g215 58 ((S 1092 0) - 1))) → (g240 63 k) = (S 63 k)) ∧ (∀ k : Int, ¬ k = (400 * ((S 1092 0) - 1) + (g215 58 ((S 1092 0) - 1))) → (g240 64 k) = (S 64 k))) → (1 ≤ (S 1092 0) ∧ (S 1092 0) ≤ 24 ∧ 0 ≤ (S 57 ((S 1092 0) - 1)) ∧ (S 57 ((S 1092 0) - 1)) ≤ 600) ∧ (∀ g246 : sv_S, ((g246 57 ((S 1092 0) - 1)) = (S 57 ((S 1092 0) - 1)) + 1 ∧ (∀ k : Int, ¬ k = (S 1092 0) - 1 → (g246 57 k) = (S 57 k))) → (sm_PL (S 1100020) (S 51) (S 52) (S 46) (S 47) (S 1076 0) (S 1086 0) ∧ sm_FR (S 1100020) (S 52) (S 1100021) (S 1100022) (3000 - (S 1084 0)) (S 1085 0) ∧ sm_PV (S 1100020) (S 48) (S 49) (S 50) (S 44) (S 1076 0) (S 1007 0) ∧ sm_AL (S 1100020) (S 48) (S 49) (S 50) (S 44) (S 1076 0) (S 1100032 0) ∧ sm_SV (S 1100020) (S 48) (S 1100029) (S 32) (S 33) (S 1076 0) (S 1032 0) ∧ 0 ≤ (S 1076 0) ∧ (S 1076 0) ≤ 300 ∧ 0 ≤ (S 1084 0) ∧ (S 1084 0) ≤ 3000 ∧ 0 ≤ (S 1086 0) ∧ sm_SC (S 1100029) (S 44) (S 45) (S 43) (S 21) (S 1076 0) (S 1032 0) ∧ sm_PO (S 42) (S 1076 0) ∧ ((S 1075 0) = 0 → (S 1100032 0) = -1 ∧ sm_FO (S 44) (S 45) (S 1076 0)) ∧ 23 ≤ (S 1076 0) ∧ 31 ≤ (S 1007 0) ∧ (S 1007 0) ≤ 400 ∧ sm_LN (S 4) 400 (S 1007 0) ∧ (S 1008 0) ≤ (S 1007 0) ∧ ((S 1075 0) = 1 → (S 1075 0) = 1) ∧ 0 ≤ (S 1092 0) ∧ (S 1092 0) ≤ 24 ∧ ((S 1075 0) = 0 → (S 1073 0) = 1 → 1 ≤ (S 1092 0) ∧ (S 1092 0) ≤ 24 ∧ 0 ≤ (g246 57 ((S 1092 0) - 1)) ∧ (g246 57 ((S 1092 0) - 1)) < (S 1046 0) ∧ (S 29 (g246 57 ((S 1092 0) - 1))) = (S 53 ((S 1092 0) - 1)) ∧ 0 ≤ (S 53 ((S 1092 0) - 1)) ∧ (S 53 ((S 1092 0) - 1)) < (S 1032 0) ∧ (S 60 ((S 1092 0) - 1)) = sm_dp (S 1100024) (S 1100023 (g246 57 ((S 1092 0) - 1))) ∧ sm_TC (S 61) (S 62) (S 27) (S 1100007) (S 1100023) (S 1100024) (40 * ((S 1092 0) - 1)) (S 1100023 (g246 57 ((S 1092 0) - 1))) ∧ sm_LK (S 1100029) (S 1076 0) (S 54 ((S 1092 0) - 1)) (S 53 ((S 1092 0) - 1)) ∧ sm_VO (S 44) (S 1076 0) (S 1007 0) ((S 55 ((S 1092 0) - 1))) ((S 56 ((S 1092 0) - 1))) ∧ sm_FW (S 44) (S 1076 0) (S 59 ((S 1092 0) - 1)) ∧ sm_FL (S 53) (S 54) (S 55) (S 56) (g246 57) (g240 58) (S 59) (S 60) (S 61) (S 62) (g240 63) (g240 64) (S 27) (S 29) (S 1100007) (S 1100023) (S 1100024) (S 1100025) (S 26) (S 1100029) (S 44) (S 1046 0) (S 1032 0) (S 1076 0) (S 1007 0) (((S 1092 0) - 1)) ∧ (g240 58 ((S 1092 0) - 1)) = (S 1100007 (g246 57 ((S 1092 0) - 1))) ∧ sm_SK (g240 63) (g240 64) (S 44) (S 1100007) (S 1100025) (S 1076 0) (S 1007 0) (400 * ((S 1092 0) - 1)) ((g240 58 ((S 1092 0) - 1))) ((S 1100025 (g246 57 ((S 1092 0) - 1))))))))))))))))))) ∧ (((p1 = (21 : Int)) → ((p1 = 21 ∨ p1 = 27 ∨ p1 = 28) ∨ (0 : Int) = (S 64 ((400 * ((S 1092 0) - 1) + (S 58 ((S 1092 0) - 1))) - 1 - 0)))) ∧ ((¬ (p1 = (21 : Int))) → (((p1 = (27 : Int)) → ((p1 = 21 ∨ p1 = 27 ∨ p1 = 28) ∨ (0 : Int) = (S 64 ((400 * ((S 1092 0) - 1) + (S 58 ((S 1092 0) - 1))) - 1 - 0)))) ∧ ((¬ (p1 = (27 : Int))) → (((¬ p1 = (28 : Int)) → (1 ≤ (S 1092 0) ∧ (S 1092 0) ≤ 24 ∧ 0 ≤ (S 58 ((S 1092 0) - 1)) ∧ (S 58 ((S 1092 0) - 1)) ≤ 400 ∧ 0 ≤ (0 : Int) ∧ (0 : Int) < (S 58 ((S 1092 0) - 1))) ∧ ((p1 = 21 ∨ p1 = 27 ∨ p1 = 28) ∨ ((S 64 ((400 * ((S 1092 0) - 1) + (S 58 ((S 1092 0) - 1))) - 1 - (0 : Int)))) = (S 64 ((400 * ((S 1092 0) - 1) + (S 58 ((S 1092 0) - 1))) - 1 - 0)))) ∧ ((¬ (¬ p1 = (28 : Int))) → ((p1 = 21 ∨ p1 = 27 ∨ p1 = 28) ∨ (0 : Int) = (S 64 ((400 * ((S 1092 0) - 1) + (S 58 ((S 1092 0) - 1))) - 1 - 0))))))))))) ∧ ((sm_CT (S 26) (S 27) (S 28) (S 29) (S 1100007) (S 1100023) (S 1100024) (S 1100025) (S 21) (S 1046 0) (S 1032 0) (S 1008 0) (S 1055 0) → 0 ≤ (S 1100033 0) → (S 1100033 0) < (S 1046 0) → (0 ≤ (S 1100025 (S 1100033 0)) → (S 26 (S 1100025 (S 1100033 0))) = 29 ∧ (S 1100007 (S 1100025 (S 1100033 0))) ≤ (S 1100007 (S 1100033 0))) ∧ (0 ≤ (S 1100007 (S 1100033 0)) ∧ (S 1100007 (S 1100033 0)) ≤ 396 ∧ -1 ≤ (S 1100023 (S 1100033 0)) ∧ (S 1100023 (S 1100033 0)) < (S 1100033 0) ∧ -1 ≤ (S 1100025 (S 1100033 0)) ∧ (S 1100025 (S 1100033 0)) < (S 1100033 0) ∧ 0 ≤ (S 26 (S 1100033 0)) ∧ (S 26 (S 1100033 0)) ≤ 30)) → (((S 1100034 0) = (S 1100025 (S 1100033 0)) → (S 58 ((S 1092 0) - 1)) = (S 1100007 (S 1100033 0)) → (0 ≤ (S 1100025 (S 1100033 0)) → (S 1100007 (S 1100025 (S 1100033 0))) ≤ (S 1100007 (S 1100033 0))) → (0 ≤ (S 1100034 0) → (S 1100007 (S 1100034 0)) ≤ (S 58 ((S 1092 0) - 1)))) → (((p1 = (21 : Int)) → ((p1 = 21 ∨ p1 = 27 ∨ p1 = 28) ∨ (0 : Int) = (S 63 ((400 * ((S 1092 0) - 1) + (S 58 ((S 1092 0) - 1))) - 1 - 0)))) ∧ ((¬ (p1 = (21 : Int))) → (((p1 = (27 : Int)) → ((p1 = 21 ∨ p1 = 27 ∨ p1 = 28) ∨ (0 : Int) = (S 63 ((400 * ((S 1092 0) - 1) + (S 58 ((S 1092 0) - 1))) - 1 - 0)))) ∧ ((¬ (p1 = (27 : Int))) → (((¬ p1 = (28 : Int)) → (1 ≤ (S 1092 0) ∧ (S 1092 0) ≤ 24 ∧ 0 ≤ (S 58 ((S 1092 0) - 1)) ∧ (S 58 ((S 1092 0) - 1)) ≤ 400 ∧ 0 ≤ (0 : Int) ∧ (0 : Int) < (S 58 ((S 1092 0) - 1))) ∧ ((p1 = 21 ∨ p1 = 27 ∨ p1 = 28) ∨ ((S 63 ((400 * ((S 1092 0) - 1) + (S 58 ((S 1092 0) - 1))) - 1 - (0 : Int)))) = (S 63 ((400 * ((S 1092 0) - 1) + (S 58 ((S 1092 0) - 1))) - 1 - 0)))) ∧ ((¬ (¬ p1 = (28 : Int))) → ((p1 = 21 ∨ p1 = 27 ∨ p1 = 28) ∨ (0 : Int) = (S 63 ((400 * ((S 1092 0) - 1) + (S 58 ((S 1092 0) - 1))) - 1 - 0)))))))))))))) := by
  intro p1
  intro p2
  intro S
  intro h1_
  intro h2_
  intro h3_
  rintro ⟨h4_, ⟨h5_, ⟨h6_, ⟨h7_, ⟨h8_, ⟨h9_, ⟨h10_, ⟨h11_, ⟨h12_, ⟨h13_, ⟨h14_, ⟨h15_, ⟨h16_, ⟨h17_, ⟨h18_, ⟨h19_, ⟨h20_, ⟨h21_, ⟨h22_, ⟨h23_, ⟨h24_, ⟨h25_, ⟨h26_, ⟨h27_, ⟨h28_, ⟨h29_, ⟨h30_, ⟨h31_, ⟨h32_, ⟨h33_, ⟨h34_, ⟨h35_, ⟨h36_, ⟨h37_, ⟨h38_, ⟨h39_, ⟨h40_, ⟨h41_, ⟨h42_, ⟨h43_, ⟨h44_, ⟨h45_, ⟨h46_, ⟨h47_, ⟨h48_, ⟨h49_, ⟨h50_, ⟨h51_, ⟨h52_, ⟨h53_, ⟨h54_, ⟨h55_, ⟨h56_, ⟨h57_, ⟨h58_, ⟨h59_, ⟨h60_, ⟨h61_, ⟨h62_, h63_⟩⟩⟩⟩⟩⟩⟩⟩⟩⟩⟩⟩⟩⟩⟩⟩⟩⟩⟩⟩⟩⟩⟩⟩⟩⟩⟩⟩⟩⟩⟩⟩⟩⟩⟩⟩⟩⟩⟩⟩⟩⟩⟩⟩⟩⟩⟩⟩⟩⟩⟩⟩⟩⟩⟩⟩⟩⟩⟩
  intro h64_
  have h65_ := (h64_ h24_)
  have h66_ := (h65_ h37_)
  obtain ⟨h67_, ⟨h68_, ⟨h69_, ⟨h70_, ⟨h71_, ⟨h72_, ⟨h73_, ⟨h74_, h75_⟩⟩⟩⟩⟩⟩⟩⟩ := (h66_ h38_)
  intro h76_
  have h77_ := (h76_ h56_)
  have h78_ := (h77_ h55_)
  refine ⟨?_, ?_⟩
  · skip
    intro s3
    intro h79_
    intro h80_
    refine ⟨?_, ?_⟩
    · skip
      intro s5
      intro h81_
      intro h82_
      intro h83_
      refine ⟨?_, ?_⟩
      · skip
        intro h84_
        have h85_ := (h84_.resolve_left (la_stepOther_0 h59_))
        have h86_ := (h63_.resolve_left (la_stepOther_1 h85_))
        have h87_ := (h80_.resolve_left (la_stepOther_2 h85_))
        have h88_ := (h82_.resolve_left (la_stepOther_2 h85_))
        have h89_ := (h86_.resolve_left (la_stepOther_3 h85_))
        have h90_ := (h89_.resolve_left (la_stepOther_4 h85_))
        intro h91_
        have h92_ := (h91_ h24_)
        have h93_ := (h92_ h37_)
        have h94_ := (h93_ h38_)
        obtain ⟨h95_, ⟨h96_, ⟨h97_, ⟨h98_, ⟨⟨h99_, ⟨h100_, ⟨h101_, ⟨h102_, ⟨h103_, h104_⟩⟩⟩⟩⟩, ⟨h105_, ⟨h106_, ⟨h107_, ⟨h108_, ⟨h109_, h110_⟩⟩⟩⟩⟩⟩⟩⟩⟩⟩ := (h94_ (la_stepOther_5 h61_ h75_ h85_))
        have h111_ := (h54_ (la_stepOther_6 h56_ h95_))
        obtain ⟨h112_, h113_⟩ := (h67_ h95_)
        have h114_ := (h78_ (la_stepOther_7 h96_))
        have h115_ := (h114_ (la_stepOther_6 h56_ h95_))
        intro h116_
        have h117_ := (h116_ h51_)
        have h118_ := (h117_ h25_)
        have h119_ := (h118_ (la_stepOther_6 h56_ h95_))
        have h120_ := (h119_ h53_)
        have h121_ := (h120_ h111_)
        intro h122_
        have h123_ := (h122_ h24_)
        have h124_ := (h123_ h37_)
        have h125_ := (h124_ h38_)
        obtain ⟨h126_, ⟨h127_, ⟨h128_, h129_⟩⟩⟩ := (h125_ h95_)
        refine ⟨?_, ?_⟩
        · skip
          refine ⟨h4_, ?_⟩
          refine ⟨h5_, ?_⟩
          refine ⟨h6_, ?_⟩
          refine ⟨h7_, ?_⟩
          refine ⟨h8_, ?_⟩
          refine ⟨h9_, ?_⟩
          refine ⟨h10_, ?_⟩
          refine ⟨h11_, ?_⟩
          refine ⟨h12_, ?_⟩
          refine ⟨h13_, ?_⟩
          refine ⟨h14_, ?_⟩
          refine ⟨h15_, ?_⟩
          refine ⟨h16_, ?_⟩
          refine ⟨h17_, ?_⟩
          refine ⟨h18_, ?_⟩
          refine ⟨h19_, ?_⟩
          refine ⟨h20_, ?_⟩
          refine ⟨h21_, ?_⟩
          refine ⟨h22_, ?_⟩
          refine ⟨h23_, ?_⟩
          refine ⟨h24_, ?_⟩
          refine ⟨h25_, ?_⟩
          refine ⟨h26_, ?_⟩
          refine ⟨h27_, ?_⟩
          refine ⟨h28_, ?_⟩
          refine ⟨h29_, ?_⟩
          refine ⟨h30_, ?_⟩
          refine ⟨h31_, ?_⟩
          refine ⟨h32_, ?_⟩
          refine ⟨h33_, ?_⟩
          refine ⟨h34_, ?_⟩
          refine ⟨h35_, ?_⟩
          refine ⟨h36_, ?_⟩
          refine ⟨h37_, ?_⟩
          refine ⟨h38_, ?_⟩
          refine ⟨h39_, ?_⟩
          refine ⟨h40_, ?_⟩
          refine ⟨h41_, ?_⟩
          refine ⟨h42_, ?_⟩
          refine ⟨h43_, ?_⟩
          refine ⟨h44_, ?_⟩
          refine ⟨h45_, ?_⟩
          refine ⟨h46_, ?_⟩
          refine ⟨h47_, ?_⟩
          refine ⟨h48_, ?_⟩
          refine ⟨h49_, ?_⟩
          refine ⟨h50_, ?_⟩
          refine ⟨h51_, ?_⟩
          refine ⟨h52_, ?_⟩
          refine ⟨h53_, ?_⟩
          refine ⟨h54_, ?_⟩
          refine ⟨h55_, ?_⟩
          refine ⟨h56_, ?_⟩
          refine ⟨h57_, ?_⟩
          refine ⟨h58_, ?_⟩
          refine ⟨(la_stepOther_6 h56_ h95_), ?_⟩
          refine ⟨h90_, ?_⟩
          refine ⟨?_, ?_⟩
          · skip
            have e130_ : S 1100007 (S 1100034 0) = S 1100007 (S 1100025 (S 1100033 0)) := congrArg ((S 1100007)) h56_
            have e131_ : S 26 (S 1100034 0) = S 26 (S 1100025 (S 1100033 0)) := congrArg ((S 26)) h56_
            have e132_ : S 63 (400 * (S 1092 0 - 1) + S 58 (S 1092 0 - 1) - 1 - 0) = S 63 (400 * (S 1092 0 - 1) + S 58 (S 1092 0 - 1) - 1) := congrArg ((S 63)) la_stepOther_8
            have e133_ : S 64 (400 * (S 1092 0 - 1) + S 58 (S 1092 0 - 1) - 1 - 0) = S 64 (400 * (S 1092 0 - 1) + S 58 (S 1092 0 - 1) - 1) := congrArg ((S 64)) la_stepOther_8
            obtain ⟨h134_, ⟨h135_, h136_⟩⟩ := (h121_ (la_stepOther_9 h55_ h96_ h115_ e130_))
            exact (la_stepOther_9 h55_ h96_ h115_ e130_)
          refine ⟨h100_, ?_⟩
          refine ⟨h101_, ?_⟩
          refine ⟨(la_stepOther_10 h55_ h102_), ?_⟩
          refine ⟨h103_, ?_⟩
          refine ⟨(la_stepOther_11 h56_ h104_), ?_⟩
          refine ⟨(la_stepOther_6 h62_ h105_), ?_⟩
          refine ⟨(la_stepOther_12 h62_ h106_), ?_⟩
          refine ⟨?_, ?_⟩
          · skip
            have e137_ : S 1100007 (S 1100034 0) = S 1100007 (S 1100025 (S 1100033 0)) := congrArg ((S 1100007)) h56_
            have e138_ : S 26 (S 1100034 0) = S 26 (S 1100025 (S 1100033 0)) := congrArg ((S 26)) h56_
            have e139_ : S 29 p2 = S 29 (S 27 (S 1100033 0)) := congrArg ((S 29)) h62_
            have e140_ : S 63 (400 * (S 1092 0 - 1) + S 58 (S 1092 0 - 1) - 1 - 0) = S 63 (400 * (S 1092 0 - 1) + S 58 (S 1092 0 - 1) - 1) := congrArg ((S 63)) la_stepOther_8
            have e141_ : S 64 (400 * (S 1092 0 - 1) + S 58 (S 1092 0 - 1) - 1 - 0) = S 64 (400 * (S 1092 0 - 1) + S 58 (S 1092 0 - 1) - 1) := congrArg ((S 64)) la_stepOther_8
            obtain ⟨h142_, ⟨h143_, h144_⟩⟩ := (h121_ (la_stepOther_9 h55_ h96_ h115_ e137_))
            exact (la_stepOther_13 h107_ e139_)
          refine ⟨?_, ?_⟩
          · skip
            have e145_ : S 1100007 (S 1100034 0) = S 1100007 (S 1100025 (S 1100033 0)) := congrArg ((S 1100007)) h56_
            have e146_ : S 1100007 p2 = S 1100007 (S 27 (S 1100033 0)) := congrArg ((S 1100007)) h62_
            have e147_ : S 26 (S 1100034 0) = S 26 (S 1100025 (S 1100033 0)) := congrArg ((S 26)) h56_
            have e148_ : S 63 (400 * (S 1092 0 - 1) + S 58 (S 1092 0 - 1) - 1 - 0) = S 63 (400 * (S 1092 0 - 1) + S 58 (S 1092 0 - 1) - 1) := congrArg ((S 63)) la_stepOther_8
            have e149_ : S 64 (400 * (S 1092 0 - 1) + S 58 (S 1092 0 - 1) - 1 - 0) = S 64 (400 * (S 1092 0 - 1) + S 58 (S 1092 0 - 1) - 1) := congrArg ((S 64)) la_stepOther_8
            obtain ⟨h150_, ⟨h151_, h152_⟩⟩ := (h121_ (la_stepOther_9 h55_ h96_ h115_ e145_))
            exact (la_stepOther_14 h55_ h108_ e146_)
          refine ⟨?_, ?_⟩
          · skip
            have e153_ : S 1100007 (S 1100034 0) = S 1100007 (S 1100025 (S 1100033 0)) := congrArg ((S 1100007)) h56_
            have e154_ : S 1100023 p2 = S 1100023 (S 27 (S 1100033 0)) := congrArg ((S 1100023)) h62_
            have e155_ : S 26 (S 1100034 0) = S 26 (S 1100025 (S 1100033 0)) := congrArg ((S 26)) h56_
            have e156_ : S 63 (400 * (S 1092 0 - 1) + S 58 (S 1092 0 - 1) - 1 - 0) = S 63 (400 * (S 1092 0 - 1) + S 58 (S 1092 0 - 1) - 1) := congrArg ((S 63)) la_stepOther_8
            have e157_ : S 64 (400 * (S 1092 0 - 1) + S 58 (S 1092 0 - 1) - 1 - 0) = S 64 (400 * (S 1092 0 - 1) + S 58 (S 1092 0 - 1) - 1) := congrArg ((S 64)) la_stepOther_8
            obtain ⟨h158_, ⟨h159_, h160_⟩⟩ := (h121_ (la_stepOther_9 h55_ h96_ h115_ e153_))
            exact (la_stepOther_13 h109_ e154_)
          have e161_ : S 1100007 (S 1100034 0) = S 1100007 (S 1100025 (S 1100033 0)) := congrArg ((S 1100007)) h56_
          have e162_ : S 1100025 (S 1100034 0) = S 1100025 (S 1100025 (S 1100033 0)) := congrArg ((S 1100025)) h56_
          have e163_ : S 1100025 p2 = S 1100025 (S 27 (S 1100033 0)) := congrArg ((S 1100025)) h62_
          have e164_ : S 26 (S 1100034 0) = S 26 (S 1100025 (S 1100033 0)) := congrArg ((S 26)) h56_
          have e165_ : S 63 (400 * (S 1092 0 - 1) + S 58 (S 1092 0 - 1) - 1 - 0) = S 63 (400 * (S 1092 0 - 1) + S 58 (S 1092 0 - 1) - 1) := congrArg ((S 63)) la_stepOther_8
          have e166_ : S 64 (400 * (S 1092 0 - 1) + S 58 (S 1092 0 - 1) - 1 - 0) = S 64 (400 * (S 1092 0 - 1) + S 58 (S 1092 0 - 1) - 1) := congrArg ((S 64)) la_stepOther_8
          obtain ⟨h167_, ⟨h168_, h169_⟩⟩ := (h121_ (la_stepOther_9 h55_ h96_ h115_ e161_))
          exact (la_stepOther_15 h110_ e162_ e163_)
        intro g12
        rintro ⟨h170_, ⟨h171_, ⟨h172_, ⟨h173_, ⟨h174_, ⟨h175_, ⟨h176_, ⟨h177_, ⟨h178_, ⟨h179_, ⟨h180_, ⟨h181_, ⟨h182_, ⟨h183_, ⟨h184_, ⟨h185_, ⟨h186_, ⟨h187_, ⟨h188_, ⟨h189_, ⟨h190_, h191_⟩⟩⟩⟩⟩⟩⟩⟩⟩⟩⟩⟩⟩⟩⟩⟩⟩⟩⟩⟩⟩
        obtain ⟨h192_, h193_⟩ := (h182_ h4_)
        have h194_ := (h191_ h4_)
        obtain ⟨h195_, ⟨h196_, ⟨h197_, ⟨h198_, ⟨h199_, ⟨h200_, ⟨h201_, ⟨h202_, ⟨h203_, ⟨h204_, ⟨h205_, ⟨h206_, ⟨h207_, ⟨h208_, h209_⟩⟩⟩⟩⟩⟩⟩⟩⟩⟩⟩⟩⟩⟩ := (h194_ h5_)
        refine ⟨h6_, ?_⟩
        refine ⟨h7_, ?_⟩
        refine ⟨h8_, ?_⟩
        refine ⟨h9_, ?_⟩
        refine ⟨h10_, ?_⟩
        refine ⟨h11_, ?_⟩
        refine ⟨h12_, ?_⟩
        refine ⟨h13_, ?_⟩
        refine ⟨h14_, ?_⟩
        refine ⟨h15_, ?_⟩
        refine ⟨h16_, ?_⟩
        refine ⟨h17_, ?_⟩
        refine ⟨h182_, ?_⟩
        refine ⟨h20_, ?_⟩
        refine ⟨h21_, ?_⟩
        refine ⟨h22_, ?_⟩
        refine ⟨h23_, ?_⟩
        refine ⟨h32_, ?_⟩
        refine ⟨h188_, ?_⟩
        refine ⟨h189_, ?_⟩
        refine ⟨h36_, ?_⟩
        intro h210_
        intro h211_
        refine ⟨h35_, ?_⟩
        refine ⟨h36_, ?_⟩
        refine ⟨h197_, ?_⟩
        refine ⟨h198_, ?_⟩
        refine ⟨h199_, ?_⟩
        refine ⟨h40_, ?_⟩
        refine ⟨h41_, ?_⟩
        refine ⟨h202_, ?_⟩
        refine ⟨h203_, ?_⟩
        refine ⟨h44_, ?_⟩
        refine ⟨h45_, ?_⟩
        refine ⟨h46_, ?_⟩
        refine ⟨h207_, ?_⟩
        refine ⟨h208_, ?_⟩
        exact h209_
      refine ⟨?_, ?_⟩
      · skip
        intro h212_
        have h213_ := (h63_.resolve_left (la_stepOther_17 h212_))
        have h214_ := (h80_.resolve_left (la_stepOther_18 h212_))
        have h215_ := (h82_.resolve_left (la_stepOther_18 h212_))
        have h216_ := (h213_.resolve_left (la_stepOther_19 h212_))
        have h217_ := (h216_.resolve_left (la_stepOther_20 h212_))
        intro h218_
        have h219_ := (h218_ h24_)
        have h220_ := (h219_ h25_)
        have h221_ := (h220_ h51_)
        have h222_ := (h221_ h37_)
        have h223_ := (h222_ h38_)
        have h224_ := (h223_ (la_stepOther_21 h59_ h61_ h212_))
        have h225_ := (h224_ h56_)
        obtain ⟨h226_, ⟨h227_, ⟨h228_, ⟨h229_, ⟨h230_, ⟨h231_, h232_⟩⟩⟩⟩⟩⟩ := (h225_ h55_)
        refine ⟨(la_stepOther_22 h35_ h36_ h58_ h217_), ?_⟩
        intro g19
        rintro ⟨h233_, h234_⟩
        refine ⟨(la_stepOther_23 h30_ h35_ h36_ h37_ h48_ h227_), ?_⟩
        intro g25
        rintro ⟨h235_, h236_⟩
        refine ⟨h6_, ?_⟩
        refine ⟨h7_, ?_⟩
        refine ⟨h8_, ?_⟩
        refine ⟨h9_, ?_⟩
        refine ⟨h10_, ?_⟩
        refine ⟨h11_, ?_⟩
        refine ⟨h12_, ?_⟩
        refine ⟨h13_, ?_⟩
        refine ⟨h14_, ?_⟩
        refine ⟨h15_, ?_⟩
        refine ⟨h16_, ?_⟩
        refine ⟨h17_, ?_⟩
        refine ⟨?_, ?_⟩
        · skip
          intro h237_
          refine ⟨h18_, ?_⟩
          exact h19_
        refine ⟨h20_, ?_⟩
        refine ⟨h21_, ?_⟩
        refine ⟨h22_, ?_⟩
        refine ⟨h23_, ?_⟩
        refine ⟨h32_, ?_⟩
        refine ⟨(la_stepOther_24 h4_), ?_⟩
        refine ⟨(la_stepOther_25 h35_), ?_⟩
        refine ⟨h36_, ?_⟩
        intro h238_
        intro h239_
        refine ⟨h35_, ?_⟩
        refine ⟨h36_, ?_⟩
        refine ⟨(la_stepOther_26 h37_ h48_ h235_), ?_⟩
        refine ⟨(la_stepOther_27 h48_ h227_ h235_), ?_⟩
        refine ⟨?_, ?_⟩
        · skip
          have h240_ := (h234_ (S 1092 0 - 1))
          have h241_ := (h236_ (S 1092 0 - 1))
          have e242_ : S 1100007 (S 1100034 0) = S 1100007 (S 1100025 (S 1100033 0)) := congrArg ((S 1100007)) h56_
          have e243_ : S 26 (S 1100034 0) = S 26 (S 1100025 (S 1100033 0)) := congrArg ((S 26)) h56_
          have e244_ : S 29 (g25 57 (S 1092 0 - 1)) = S 29 (S 1100033 0 + 1) := congrArg ((S 29)) (la_stepOther_29 h48_ h235_)
          exact (la_stepOther_30 h39_ h228_ e244_)
        refine ⟨h40_, ?_⟩
        refine ⟨h41_, ?_⟩
        refine ⟨?_, ?_⟩
        · skip
          have h245_ := (h234_ (S 1092 0 - 1))
          have h246_ := (h236_ (S 1092 0 - 1))
          have e247_ : S 1100007 (S 1100034 0) = S 1100007 (S 1100025 (S 1100033 0)) := congrArg ((S 1100007)) h56_
          have e248_ : S 1100023 (g25 57 (S 1092 0 - 1)) = S 1100023 (S 1100033 0 + 1) := congrArg ((S 1100023)) (la_stepOther_29 h48_ h235_)
          have e249_ : S 26 (S 1100034 0) = S 26 (S 1100025 (S 1100033 0)) := congrArg ((S 26)) h56_
          have e250_ : sm_dp (S 1100024) (S 1100023 (g25 57 (S 1092 0 - 1))) = sm_dp (S 1100024) (S 1100023 (S 1100033 0)) := congrArg ((sm_dp (S 1100024))) (la_stepOther_13 h230_ e248_)
          exact (la_stepOther_31 h42_ e250_)
        refine ⟨?_, ?_⟩
        · skip
          have h251_ := (h234_ (S 1092 0 - 1))
          have h252_ := (h236_ (S 1092 0 - 1))
          have e253_ : S 1100007 (S 1100034 0) = S 1100007 (S 1100025 (S 1100033 0)) := congrArg ((S 1100007)) h56_
          have e254_ : S 1100023 (g25 57 (S 1092 0 - 1)) = S 1100023 (S 1100033 0 + 1) := congrArg ((S 1100023)) (la_stepOther_29 h48_ h235_)
          have e255_ : S 26 (S 1100034 0) = S 26 (S 1100025 (S 1100033 0)) := congrArg ((S 26)) h56_
          exact (sm_TC_t h43_ (la_stepOther_32 h230_ e254_))
        refine ⟨h44_, ?_⟩
        refine ⟨h45_, ?_⟩
        refine ⟨h46_, ?_⟩
        refine ⟨(sm_FL_F h47_ sm_F1_rf sm_F1_rf sm_F1_rf sm_F1_rf (sm_F1_le (sm_F1_ne h236_ (Int.le_refl _)) (Int.le_refl _)) (sm_F1_le (sm_F1_ne h234_ (Int.le_refl _)) (Int.le_refl _)) sm_F1_rf sm_F1_rf sm_F1_rf sm_F1_rf sm_F1_rf sm_F1_rf (Int.le_refl _) (Int.le_refl _) sm_F1_rf sm_F1_rf (sm_FL_dp h47_ h24_)), ?_⟩
        refine ⟨?_, ?_⟩
        · skip
          have h256_ := (h234_ (S 1092 0 - 1))
          have h257_ := (h236_ (S 1092 0 - 1))
          have e258_ : S 1100007 (S 1100034 0) = S 1100007 (S 1100025 (S 1100033 0)) := congrArg ((S 1100007)) h56_
          have e259_ : S 1100007 (g25 57 (S 1092 0 - 1)) = S 1100007 (S 1100033 0 + 1) := congrArg ((S 1100007)) (la_stepOther_29 h48_ h235_)
          have e260_ : S 26 (S 1100034 0) = S 26 (S 1100025 (S 1100033 0)) := congrArg ((S 26)) h56_
          exact (la_stepOther_33 h55_ h229_ h233_ e259_)
        have h261_ := (h234_ (S 1092 0 - 1))
        have h262_ := (h236_ (S 1092 0 - 1))
        have e263_ : S 1100007 (S 1100034 0) = S 1100007 (S 1100025 (S 1100033 0)) := congrArg ((S 1100007)) h56_
        have e264_ : S 1100025 (g25 57 (S 1092 0 - 1)) = S 1100025 (S 1100033 0 + 1) := congrArg ((S 1100025)) (la_stepOther_29 h48_ h235_)
        have e265_ : S 26 (S 1100034 0) = S 26 (S 1100025 (S 1100033 0)) := congrArg ((S 26)) h56_
        exact (sm_SK_q (sm_SK_pop h226_ (la_stepOther_37 h233_)) e264_ rfl rfl)
      refine ⟨?_, ?_⟩
      · skip
        intro h266_
        have h267_ := (h63_.resolve_left (la_stepOther_38 h266_))
        have h268_ := (h80_.resolve_left (la_stepOther_39 h266_))
        have h269_ := (h82_.resolve_left (la_stepOther_39 h266_))
        have h270_ := (h267_.resolve_left (la_stepOther_40 h266_))
        have h271_ := (h270_.resolve_left (la_stepOther_41 h266_))
        intro h272_
        have h273_ := (h272_ h24_)
        have h274_ := (h273_ h37_)
        have h275_ := (h274_ h38_)
        obtain ⟨⟨h276_, ⟨h277_, h278_⟩⟩, ⟨h279_, ⟨h280_, ⟨h281_, ⟨h282_, ⟨h283_, h284_⟩⟩⟩⟩⟩⟩ := (h275_ (la_stepOther_42 h61_ h266_))
        intro h285_
        have h286_ := (h285_ h56_)
        have h287_ := (h286_ h55_)
        have h288_ := (h287_ h278_)
        intro h289_
        have h290_ := (h289_ h51_)
        have h291_ := (h290_ h25_)
        have h292_ := (h291_ (la_stepOther_43 h271_))
        have h293_ := (h292_ la_stepOther_44)
        have h294_ := (h293_ h53_)
        have h295_ := (h294_ h56_)
        have h296_ := (h295_ h55_)
        have h297_ := (h296_ h54_)
        have h298_ := (h297_ h278_)
        refine ⟨(la_stepOther_45 h35_ h36_ h58_ h271_), ?_⟩
        intro g34
        rintro ⟨h299_, ⟨h300_, ⟨h301_, ⟨h302_, ⟨h303_, h304_⟩⟩⟩⟩⟩
        refine ⟨(la_stepOther_23 h30_ h35_ h36_ h37_ h48_ h280_), ?_⟩
        intro g40
        rintro ⟨h305_, h306_⟩
        refine ⟨h6_, ?_⟩
        refine ⟨h7_, ?_⟩
        refine ⟨h8_, ?_⟩
        refine ⟨h9_, ?_⟩
        refine ⟨h10_, ?_⟩
        refine ⟨h11_, ?_⟩
        refine ⟨h12_, ?_⟩
        refine ⟨h13_, ?_⟩
        refine ⟨h14_, ?_⟩
        refine ⟨h15_, ?_⟩
        refine ⟨h16_, ?_⟩
        refine ⟨h17_, ?_⟩
        refine ⟨?_, ?_⟩
        · skip
          intro h307_
          refine ⟨h18_, ?_⟩
          exact h19_
        refine ⟨h20_, ?_⟩
        refine ⟨h21_, ?_⟩
        refine ⟨h22_, ?_⟩
        refine ⟨h23_, ?_⟩
        refine ⟨h32_, ?_⟩
        refine ⟨(la_stepOther_24 h4_), ?_⟩
        refine ⟨(la_stepOther_25 h35_), ?_⟩
        refine ⟨h36_, ?_⟩
        intro h308_
        intro h309_
        refine ⟨h35_, ?_⟩
        refine ⟨h36_, ?_⟩
        refine ⟨(la_stepOther_26 h37_ h48_ h305_), ?_⟩
        refine ⟨(la_stepOther_27 h48_ h280_ h305_), ?_⟩
        refine ⟨?_, ?_⟩
        · skip
          have h310_ := (h302_ (S 1092 0 - 1))
          have h311_ := ((h303_ (400 * (S 1092 0 - 1) + (S 58 (S 1092 0 - 1) - 1))) la_stepOther_46)
          have h312_ := ((h303_ (400 * (S 1092 0 - 1) + S 58 (S 1092 0 - 1) - 1 - 0)) la_stepOther_47)
          have h313_ := (h303_ (400 * (S 1092 0 - 1) + S 58 (S 1092 0 - 1)))
          have h314_ := ((h304_ (400 * (S 1092 0 - 1) + (S 58 (S 1092 0 - 1) - 1))) la_stepOther_46)
          have h315_ := ((h304_ (400 * (S 1092 0 - 1) + S 58 (S 1092 0 - 1) - 1 - 0)) la_stepOther_47)
          have h316_ := (h304_ (400 * (S 1092 0 - 1) + S 58 (S 1092 0 - 1)))
          have h317_ := (h306_ (S 1092 0 - 1))
          have e318_ : S 1100007 (S 1100034 0) = S 1100007 (S 1100025 (S 1100033 0)) := congrArg ((S 1100007)) h56_
          have e319_ : S 26 (S 1100034 0) = S 26 (S 1100025 (S 1100033 0)) := congrArg ((S 26)) h56_
          have e320_ : S 29 (g40 57 (S 1092 0 - 1)) = S 29 (S 1100033 0 + 1) := congrArg ((S 29)) (la_stepOther_29 h48_ h305_)
          have e321_ : S 63 (400 * (S 1092 0 - 1) + S 58 (S 1092 0 - 1) - 1 - 0) = S 63 (400 * (S 1092 0 - 1) + (S 58 (S 1092 0 - 1) - 1)) := congrArg ((S 63)) la_stepOther_49
          have e322_ : S 64 (400 * (S 1092 0 - 1) + S 58 (S 1092 0 - 1) - 1 - 0) = S 64 (400 * (S 1092 0 - 1) + (S 58 (S 1092 0 - 1) - 1)) := congrArg ((S 64)) la_stepOther_49
          have e323_ : g34 63 (400 * (S 1092 0 - 1) + S 58 (S 1092 0 - 1) - 1 - 0) = g34 63 (400 * (S 1092 0 - 1) + (S 58 (S 1092 0 - 1) - 1)) := congrArg ((g34 63)) la_stepOther_49
          have e324_ : g34 64 (400 * (S 1092 0 - 1) + S 58 (S 1092 0 - 1) - 1 - 0) = g34 64 (400 * (S 1092 0 - 1) + (S 58 (S 1092 0 - 1) - 1)) := congrArg ((g34 64)) la_stepOther_49
          exact (la_stepOther_30 h39_ h281_ e320_)
        refine ⟨h40_, ?_⟩
        refine ⟨h41_, ?_⟩
        refine ⟨?_, ?_⟩
        · skip
          have h325_ := (h302_ (S 1092 0 - 1))
          have h326_ := ((h303_ (400 * (S 1092 0 - 1) + (S 58 (S 1092 0 - 1) - 1))) la_stepOther_46)
          have h327_ := ((h303_ (400 * (S 1092 0 - 1) + S 58 (S 1092 0 - 1) - 1 - 0)) la_stepOther_47)
          have h328_ := (h303_ (400 * (S 1092 0 - 1) + S 58 (S 1092 0 - 1)))
          have h329_ := ((h304_ (400 * (S 1092 0 - 1) + (S 58 (S 1092 0 - 1) - 1))) la_stepOther_46)
          have h330_ := ((h304_ (400 * (S 1092 0 - 1) + S 58 (S 1092 0 - 1) - 1 - 0)) la_stepOther_47)
          have h331_ := (h304_ (400 * (S 1092 0 - 1) + S 58 (S 1092 0 - 1)))
          have h332_ := (h306_ (S 1092 0 - 1))
          have e333_ : S 1100007 (S 1100034 0) = S 1100007 (S 1100025 (S 1100033 0)) := congrArg ((S 1100007)) h56_
          have e334_ : S 1100023 (g40 57 (S 1092 0 - 1)) = S 1100023 (S 1100033 0 + 1) := congrArg ((S 1100023)) (la_stepOther_29 h48_ h305_)
          have e335_ : S 26 (S 1100034 0) = S 26 (S 1100025 (S 1100033 0)) := congrArg ((S 26)) h56_
          have e336_ : S 63 (400 * (S 1092 0 - 1) + S 58 (S 1092 0 - 1) - 1 - 0) = S 63 (400 * (S 1092 0 - 1) + (S 58 (S 1092 0 - 1) - 1)) := congrArg ((S 63)) la_stepOther_49
          have e337_ : S 64 (400 * (S 1092 0 - 1) + S 58 (S 1092 0 - 1) - 1 - 0) = S 64 (400 * (S 1092 0 - 1) + (S 58 (S 1092 0 - 1) - 1)) := congrArg ((S 64)) la_stepOther_49
          have e338_ : g34 63 (400 * (S 1092 0 - 1) + S 58 (S 1092 0 - 1) - 1 - 0) = g34 63 (400 * (S 1092 0 - 1) + (S 58 (S 1092 0 - 1) - 1)) := congrArg ((g34 63)) la_stepOther_49
          have e339_ : g34 64 (400 * (S 1092 0 - 1) + S 58 (S 1092 0 - 1) - 1 - 0) = g34 64 (400 * (S 1092 0 - 1) + (S 58 (S 1092 0 - 1) - 1)) := congrArg ((g34 64)) la_stepOther_49
          have e340_ : sm_dp (S 1100024) (S 1100023 (g40 57 (S 1092 0 - 1))) = sm_dp (S 1100024) (S 1100023 (S 1100033 0)) := congrArg ((sm_dp (S 1100024))) (la_stepOther_13 h283_ e334_)
          exact (la_stepOther_31 h42_ e340_)
        refine ⟨?_, ?_⟩
        · skip
          have h341_ := (h302_ (S 1092 0 - 1))
          have h342_ := ((h303_ (400 * (S 1092 0 - 1) + (S 58 (S 1092 0 - 1) - 1))) la_stepOther_46)
          have h343_ := ((h303_ (400 * (S 1092 0 - 1) + S 58 (S 1092 0 - 1) - 1 - 0)) la_stepOther_47)
          have h344_ := (h303_ (400 * (S 1092 0 - 1) + S 58 (S 1092 0 - 1)))
          have h345_ := ((h304_ (400 * (S 1092 0 - 1) + (S 58 (S 1092 0 - 1) - 1))) la_stepOther_46)
          have h346_ := ((h304_ (400 * (S 1092 0 - 1) + S 58 (S 1092 0 - 1) - 1 - 0)) la_stepOther_47)
          have h347_ := (h304_ (400 * (S 1092 0 - 1) + S 58 (S 1092 0 - 1)))
          have h348_ := (h306_ (S 1092 0 - 1))
          have e349_ : S 1100007 (S 1100034 0) = S 1100007 (S 1100025 (S 1100033 0)) := congrArg ((S 1100007)) h56_
          have e350_ : S 1100023 (g40 57 (S 1092 0 - 1)) = S 1100023 (S 1100033 0 + 1) := congrArg ((S 1100023)) (la_stepOther_29 h48_ h305_)
          have e351_ : S 26 (S 1100034 0) = S 26 (S 1100025 (S 1100033 0)) := congrArg ((S 26)) h56_
          have e352_ : S 63 (400 * (S 1092 0 - 1) + S 58 (S 1092 0 - 1) - 1 - 0) = S 63 (400 * (S 1092 0 - 1) + (S 58 (S 1092 0 - 1) - 1)) := congrArg ((S 63)) la_stepOther_49
          have e353_ : S 64 (400 * (S 1092 0 - 1) + S 58 (S 1092 0 - 1) - 1 - 0) = S 64 (400 * (S 1092 0 - 1) + (S 58 (S 1092 0 - 1) - 1)) := congrArg ((S 64)) la_stepOther_49
          have e354_ : g34 63 (400 * (S 1092 0 - 1) + S 58 (S 1092 0 - 1) - 1 - 0) = g34 63 (400 * (S 1092 0 - 1) + (S 58 (S 1092 0 - 1) - 1)) := congrArg ((g34 63)) la_stepOther_49
          have e355_ : g34 64 (400 * (S 1092 0 - 1) + S 58 (S 1092 0 - 1) - 1 - 0) = g34 64 (400 * (S 1092 0 - 1) + (S 58 (S 1092 0 - 1) - 1)) := congrArg ((g34 64)) la_stepOther_49
          exact (sm_TC_t h43_ (la_stepOther_32 h283_ e350_))
        refine ⟨h44_, ?_⟩
        refine ⟨h45_, ?_⟩
        refine ⟨h46_, ?_⟩
        refine ⟨(sm_FL_F h47_ sm_F1_rf sm_F1_rf sm_F1_rf sm_F1_rf (sm_F1_le (sm_F1_ne h306_ (Int.le_refl _)) (Int.le_refl _)) (sm_F1_le (sm_F1_ne h302_ (Int.le_refl _)) (Int.le_refl _)) sm_F1_rf sm_F1_rf sm_F1_rf sm_F1_rf (sm_F1_le (sm_F1_ne h303_ (Int.le_refl _)) (la_stepOther_50 h271_)) (sm_F1_le (sm_F1_ne h304_ (Int.le_refl _)) (la_stepOther_50 h271_)) (Int.le_refl _) (Int.le_refl _) sm_F1_rf sm_F1_rf (sm_FL_dp h47_ h24_)), ?_⟩
        refine ⟨?_, ?_⟩
        · skip
          have h356_ := (h302_ (S 1092 0 - 1))
          have h357_ := ((h303_ (400 * (S 1092 0 - 1) + (S 58 (S 1092 0 - 1) - 1))) la_stepOther_46)
          have h358_ := ((h303_ (400 * (S 1092 0 - 1) + S 58 (S 1092 0 - 1) - 1 - 0)) la_stepOther_47)
          have h359_ := (h303_ (400 * (S 1092 0 - 1) + S 58 (S 1092 0 - 1)))
          have h360_ := ((h304_ (400 * (S 1092 0 - 1) + (S 58 (S 1092 0 - 1) - 1))) la_stepOther_46)
          have h361_ := ((h304_ (400 * (S 1092 0 - 1) + S 58 (S 1092 0 - 1) - 1 - 0)) la_stepOther_47)
          have h362_ := (h304_ (400 * (S 1092 0 - 1) + S 58 (S 1092 0 - 1)))
          have h363_ := (h306_ (S 1092 0 - 1))
          have e364_ : S 1100007 (S 1100034 0) = S 1100007 (S 1100025 (S 1100033 0)) := congrArg ((S 1100007)) h56_
          have e365_ : S 1100007 (g40 57 (S 1092 0 - 1)) = S 1100007 (S 1100033 0 + 1) := congrArg ((S 1100007)) (la_stepOther_29 h48_ h305_)
          have e366_ : S 26 (S 1100034 0) = S 26 (S 1100025 (S 1100033 0)) := congrArg ((S 26)) h56_
          have e367_ : S 63 (400 * (S 1092 0 - 1) + S 58 (S 1092 0 - 1) - 1 - 0) = S 63 (400 * (S 1092 0 - 1) + (S 58 (S 1092 0 - 1) - 1)) := congrArg ((S 63)) la_stepOther_49
          have e368_ : S 64 (400 * (S 1092 0 - 1) + S 58 (S 1092 0 - 1) - 1 - 0) = S 64 (400 * (S 1092 0 - 1) + (S 58 (S 1092 0 - 1) - 1)) := congrArg ((S 64)) la_stepOther_49
          have e369_ : g34 63 (400 * (S 1092 0 - 1) + S 58 (S 1092 0 - 1) - 1 - 0) = g34 63 (400 * (S 1092 0 - 1) + (S 58 (S 1092 0 - 1) - 1)) := congrArg ((g34 63)) la_stepOther_49
          have e370_ : g34 64 (400 * (S 1092 0 - 1) + S 58 (S 1092 0 - 1) - 1 - 0) = g34 64 (400 * (S 1092 0 - 1) + (S 58 (S 1092 0 - 1) - 1)) := congrArg ((g34 64)) la_stepOther_49
          exact (la_stepOther_51 h55_ h282_ h299_ e365_)
        have h371_ := (h302_ (S 1092 0 - 1))
        have h372_ := ((h303_ (400 * (S 1092 0 - 1) + (S 58 (S 1092 0 - 1) - 1))) la_stepOther_46)
        have h373_ := ((h303_ (400 * (S 1092 0 - 1) + S 58 (S 1092 0 - 1) - 1 - 0)) la_stepOther_47)
        have h374_ := (h303_ (400 * (S 1092 0 - 1) + S 58 (S 1092 0 - 1)))
        have h375_ := ((h304_ (400 * (S 1092 0 - 1) + (S 58 (S 1092 0 - 1) - 1))) la_stepOther_46)
        have h376_ := ((h304_ (400 * (S 1092 0 - 1) + S 58 (S 1092 0 - 1) - 1 - 0)) la_stepOther_47)
        have h377_ := (h304_ (400 * (S 1092 0 - 1) + S 58 (S 1092 0 - 1)))
        have h378_ := (h306_ (S 1092 0 - 1))
        have e379_ : S 1100007 (S 1100034 0) = S 1100007 (S 1100025 (S 1100033 0)) := congrArg ((S 1100007)) h56_
        have e380_ : S 1100025 (g40 57 (S 1092 0 - 1)) = S 1100025 (S 1100033 0 + 1) := congrArg ((S 1100025)) (la_stepOther_29 h48_ h305_)
        have e381_ : S 26 (S 1100034 0) = S 26 (S 1100025 (S 1100033 0)) := congrArg ((S 26)) h56_
        have e382_ : S 63 (400 * (S 1092 0 - 1) + S 58 (S 1092 0 - 1) - 1 - 0) = S 63 (400 * (S 1092 0 - 1) + (S 58 (S 1092 0 - 1) - 1)) := congrArg ((S 63)) la_stepOther_49
        have e383_ : S 64 (400 * (S 1092 0 - 1) + S 58 (S 1092 0 - 1) - 1 - 0) = S 64 (400 * (S 1092 0 - 1) + (S 58 (S 1092 0 - 1) - 1)) := congrArg ((S 64)) la_stepOther_49
        have e384_ : g34 63 (400 * (S 1092 0 - 1) + S 58 (S 1092 0 - 1) - 1 - 0) = g34 63 (400 * (S 1092 0 - 1) + (S 58 (S 1092 0 - 1) - 1)) := congrArg ((g34 63)) la_stepOther_49
        have e385_ : g34 64 (400 * (S 1092 0 - 1) + S 58 (S 1092 0 - 1) - 1 - 0) = g34 64 (400 * (S 1092 0 - 1) + (S 58 (S 1092 0 - 1) - 1)) := congrArg ((g34 64)) la_stepOther_49
        exact (sm_SK_q (sm_SK_q (sm_SK_push (sm_SK_F h51_ (sm_F1_le (sm_F1_ne h303_ (Int.le_refl _)) (Int.le_refl _)) (sm_F1_le (sm_F1_ne h304_ (Int.le_refl _)) (Int.le_refl _)) (Int.le_refl _) (Int.le_refl _)) h25_ h53_ (la_stepOther_54 h54_ h55_ h56_ h67_ e379_) rfl (sm_VO_eq h298_ (la_stepOther_53 h268_ h300_ e382_) (la_stepOther_53 h269_ h301_ e383_)) rfl) rfl h299_ rfl) (la_stepOther_52 h56_ h284_ e380_) rfl rfl)
      refine ⟨?_, ?_⟩
      · skip
        intro h386_
        have h387_ := (h63_.resolve_left (la_stepOther_55 h386_))
        have h388_ := (h80_.resolve_left (la_stepOther_56 h386_))
        have h389_ := (h82_.resolve_left (la_stepOther_56 h386_))
        have h390_ := (h387_.resolve_left (la_stepOther_57 h386_))
        have h391_ := (h390_.resolve_left (la_stepOther_58 h386_))
        intro h392_
        have h393_ := (h392_ h24_)
        have h394_ := (h393_ h37_)
        have h395_ := (h394_ h38_)
        obtain ⟨⟨h396_, ⟨h397_, h398_⟩⟩, ⟨h399_, ⟨h400_, ⟨h401_, ⟨h402_, ⟨h403_, h404_⟩⟩⟩⟩⟩⟩ := (h395_ (la_stepOther_59 h61_ h386_))
        intro h405_
        have h406_ := (h405_ h56_)
        have h407_ := (h406_ h55_)
        have h408_ := (h407_ h398_)
        intro h409_
        have h410_ := (h409_ h51_)
        have h411_ := (h410_ h25_)
        have h412_ := (h411_ (la_stepOther_60 h55_ h396_))
        have h413_ := (h412_ la_stepOther_44)
        have h414_ := (h413_ h53_)
        have h415_ := (h414_ h56_)
        have h416_ := (h415_ h55_)
        have h417_ := (h416_ h54_)
        have h418_ := (h417_ h398_)
        intro h419_
        have h420_ := (h419_ h51_)
        have h421_ := (h420_ h25_)
        have h422_ := (h421_ (la_stepOther_61 h55_ h396_))
        have h423_ := (h422_ la_stepOther_62)
        have h424_ := (h423_ h53_)
        have h425_ := (h424_ h56_)
        have h426_ := (h425_ h55_)
        have h427_ := (h426_ h54_)
        have h428_ := (h427_ h398_)
        refine ⟨(la_stepOther_63 h35_ h36_ h55_ h58_ h396_), ?_⟩
        intro x50
        intro h429_
        intro x52
        intro h430_
        refine ⟨(la_stepOther_64 h35_ h36_ h55_ h58_ h396_), ?_⟩
        intro g55
        rintro ⟨h431_, ⟨h432_, ⟨h433_, ⟨h434_, ⟨h435_, h436_⟩⟩⟩⟩⟩
        refine ⟨(la_stepOther_65 h35_ h36_ h55_ h58_ h396_ h431_), ?_⟩
        intro g61
        rintro ⟨h437_, ⟨h438_, ⟨h439_, ⟨h440_, ⟨h441_, h442_⟩⟩⟩⟩⟩
        refine ⟨(la_stepOther_23 h30_ h35_ h36_ h37_ h48_ h400_), ?_⟩
        intro g67
        rintro ⟨h443_, h444_⟩
        refine ⟨h6_, ?_⟩
        refine ⟨h7_, ?_⟩
        refine ⟨h8_, ?_⟩
        refine ⟨h9_, ?_⟩
        refine ⟨h10_, ?_⟩
        refine ⟨h11_, ?_⟩
        refine ⟨h12_, ?_⟩
        refine ⟨h13_, ?_⟩
        refine ⟨h14_, ?_⟩
        refine ⟨h15_, ?_⟩
        refine ⟨h16_, ?_⟩
        refine ⟨h17_, ?_⟩
        refine ⟨?_, ?_⟩
        · skip
          intro h445_
          refine ⟨h18_, ?_⟩
          exact h19_
        refine ⟨h20_, ?_⟩
        refine ⟨h21_, ?_⟩
        refine ⟨h22_, ?_⟩
        refine ⟨h23_, ?_⟩
        refine ⟨h32_, ?_⟩
        refine ⟨(la_stepOther_24 h4_), ?_⟩
        refine ⟨(la_stepOther_25 h35_), ?_⟩
        refine ⟨h36_, ?_⟩
        intro h446_
        intro h447_
        refine ⟨h35_, ?_⟩
        refine ⟨h36_, ?_⟩
        refine ⟨(la_stepOther_26 h37_ h48_ h443_), ?_⟩
        refine ⟨(la_stepOther_27 h48_ h400_ h443_), ?_⟩
        refine ⟨?_, ?_⟩
        · skip
          have h448_ := (h434_ (S 1092 0 - 1))
          have h449_ := ((h435_ (400 * (S 1092 0 - 1) + (S 58 (S 1092 0 - 1) - 1))) la_stepOther_46)
          have h450_ := ((h435_ (400 * (S 1092 0 - 1) + S 58 (S 1092 0 - 1) - 1 - 0)) la_stepOther_47)
          have h451_ := ((h435_ (400 * (S 1092 0 - 1) + (S 58 (S 1092 0 - 1) - 2))) la_stepOther_66)
          have h452_ := (h435_ (400 * (S 1092 0 - 1) + S 58 (S 1092 0 - 1)))
          have h453_ := ((h435_ (400 * (S 1092 0 - 1) + S 58 (S 1092 0 - 1) - 1 - 1)) la_stepOther_67)
          have h454_ := ((h436_ (400 * (S 1092 0 - 1) + (S 58 (S 1092 0 - 1) - 1))) la_stepOther_46)
          have h455_ := ((h436_ (400 * (S 1092 0 - 1) + S 58 (S 1092 0 - 1) - 1 - 0)) la_stepOther_47)
          have h456_ := ((h436_ (400 * (S 1092 0 - 1) + (S 58 (S 1092 0 - 1) - 2))) la_stepOther_66)
          have h457_ := (h436_ (400 * (S 1092 0 - 1) + S 58 (S 1092 0 - 1)))
          have h458_ := ((h436_ (400 * (S 1092 0 - 1) + S 58 (S 1092 0 - 1) - 1 - 1)) la_stepOther_67)
          have h459_ := (h440_ (S 1092 0 - 1))
          have h460_ := (h441_ (400 * (S 1092 0 - 1) + g55 58 (S 1092 0 - 1)))
          have h461_ := ((h441_ (400 * (S 1092 0 - 1) + S 58 (S 1092 0 - 1))) (la_stepOther_68 h431_))
          have h462_ := (h442_ (400 * (S 1092 0 - 1) + g55 58 (S 1092 0 - 1)))
          have h463_ := ((h442_ (400 * (S 1092 0 - 1) + S 58 (S 1092 0 - 1))) (la_stepOther_68 h431_))
          have h464_ := (h444_ (S 1092 0 - 1))
          have h465_ := ((h441_ (400 * (S 1092 0 - 1) + (S 58 (S 1092 0 - 1) - 1))) (la_stepOther_69 h431_))
          have h466_ := ((h441_ (400 * (S 1092 0 - 1) + S 58 (S 1092 0 - 1) - 1 - 0)) (la_stepOther_70 h431_))
          have h467_ := ((h441_ (400 * (S 1092 0 - 1) + (S 58 (S 1092 0 - 1) - 2))) (la_stepOther_71 h431_))
          have h468_ := ((h441_ (400 * (S 1092 0 - 1) + S 58 (S 1092 0 - 1) - 1 - 1)) (la_stepOther_72 h431_))
          have h469_ := ((h442_ (400 * (S 1092 0 - 1) + (S 58 (S 1092 0 - 1) - 1))) (la_stepOther_69 h431_))
          have h470_ := ((h442_ (400 * (S 1092 0 - 1) + S 58 (S 1092 0 - 1) - 1 - 0)) (la_stepOther_70 h431_))
          have h471_ := ((h442_ (400 * (S 1092 0 - 1) + (S 58 (S 1092 0 - 1) - 2))) (la_stepOther_71 h431_))
          have h472_ := ((h442_ (400 * (S 1092 0 - 1) + S 58 (S 1092 0 - 1) - 1 - 1)) (la_stepOther_72 h431_))
          have e473_ : S 1100007 (S 1100034 0) = S 1100007 (S 1100025 (S 1100033 0)) := congrArg ((S 1100007)) h56_
          have e474_ : S 26 (S 1100034 0) = S 26 (S 1100025 (S 1100033 0)) := congrArg ((S 26)) h56_
          have e475_ : S 29 (g67 57 (S 1092 0 - 1)) = S 29 (S 1100033 0 + 1) := congrArg ((S 29)) (la_stepOther_29 h48_ h443_)
          have e476_ : S 63 (400 * (S 1092 0 - 1) + S 58 (S 1092 0 - 1) - 1 - 0) = S 63 (400 * (S 1092 0 - 1) + (S 58 (S 1092 0 - 1) - 1)) := congrArg ((S 63)) la_stepOther_49
          have e477_ : S 63 (400 * (S 1092 0 - 1) + S 58 (S 1092 0 - 1) - 1 - 1) = S 63 (400 * (S 1092 0 - 1) + (S 58 (S 1092 0 - 1) - 2)) := congrArg ((S 63)) la_stepOther_73
          have e478_ : S 64 (400 * (S 1092 0 - 1) + S 58 (S 1092 0 - 1) - 1 - 0) = S 64 (400 * (S 1092 0 - 1) + (S 58 (S 1092 0 - 1) - 1)) := congrArg ((S 64)) la_stepOther_49
          have e479_ : S 64 (400 * (S 1092 0 - 1) + S 58 (S 1092 0 - 1) - 1 - 1) = S 64 (400 * (S 1092 0 - 1) + (S 58 (S 1092 0 - 1) - 2)) := congrArg ((S 64)) la_stepOther_73
          have e480_ : g55 63 (400 * (S 1092 0 - 1) + S 58 (S 1092 0 - 1) - 1 - 0) = g55 63 (400 * (S 1092 0 - 1) + (S 58 (S 1092 0 - 1) - 1)) := congrArg ((g55 63)) la_stepOther_49
          have e481_ : g55 63 (400 * (S 1092 0 - 1) + S 58 (S 1092 0 - 1) - 1 - 1) = g55 63 (400 * (S 1092 0 - 1) + (S 58 (S 1092 0 - 1) - 2)) := congrArg ((g55 63)) la_stepOther_73
          have e482_ : g55 64 (400 * (S 1092 0 - 1) + S 58 (S 1092 0 - 1) - 1 - 0) = g55 64 (400 * (S 1092 0 - 1) + (S 58 (S 1092 0 - 1) - 1)) := congrArg ((g55 64)) la_stepOther_49
          have e483_ : g55 64 (400 * (S 1092 0 - 1) + S 58 (S 1092 0 - 1) - 1 - 1) = g55 64 (400 * (S 1092 0 - 1) + (S 58 (S 1092 0 - 1) - 2)) := congrArg ((g55 64)) la_stepOther_73
          exact (la_stepOther_30 h39_ h401_ e475_)
        refine ⟨h40_, ?_⟩
        refine ⟨h41_, ?_⟩
        refine ⟨?_, ?_⟩
        · skip
          have h484_ := (h434_ (S 1092 0 - 1))
          have h485_ := ((h435_ (400 * (S 1092 0 - 1) + (S 58 (S 1092 0 - 1) - 1))) la_stepOther_46)
          have h486_ := ((h435_ (400 * (S 1092 0 - 1) + S 58 (S 1092 0 - 1) - 1 - 0)) la_stepOther_47)
          have h487_ := ((h435_ (400 * (S 1092 0 - 1) + (S 58 (S 1092 0 - 1) - 2))) la_stepOther_66)
          have h488_ := (h435_ (400 * (S 1092 0 - 1) + S 58 (S 1092 0 - 1)))
          have h489_ := ((h435_ (400 * (S 1092 0 - 1) + S 58 (S 1092 0 - 1) - 1 - 1)) la_stepOther_67)
          have h490_ := ((h436_ (400 * (S 1092 0 - 1) + (S 58 (S 1092 0 - 1) - 1))) la_stepOther_46)
          have h491_ := ((h436_ (400 * (S 1092 0 - 1) + S 58 (S 1092 0 - 1) - 1 - 0)) la_stepOther_47)
          have h492_ := ((h436_ (400 * (S 1092 0 - 1) + (S 58 (S 1092 0 - 1) - 2))) la_stepOther_66)
          have h493_ := (h436_ (400 * (S 1092 0 - 1) + S 58 (S 1092 0 - 1)))
          have h494_ := ((h436_ (400 * (S 1092 0 - 1) + S 58 (S 1092 0 - 1) - 1 - 1)) la_stepOther_67)
          have h495_ := (h440_ (S 1092 0 - 1))
          have h496_ := (h441_ (400 * (S 1092 0 - 1) + g55 58 (S 1092 0 - 1)))
          have h497_ := ((h441_ (400 * (S 1092 0 - 1) + S 58 (S 1092 0 - 1))) (la_stepOther_68 h431_))
          have h498_ := (h442_ (400 * (S 1092 0 - 1) + g55 58 (S 1092 0 - 1)))
          have h499_ := ((h442_ (400 * (S 1092 0 - 1) + S 58 (S 1092 0 - 1))) (la_stepOther_68 h431_))
          have h500_ := (h444_ (S 1092 0 - 1))
          have h501_ := ((h441_ (400 * (S 1092 0 - 1) + (S 58 (S 1092 0 - 1) - 1))) (la_stepOther_69 h431_))
          have h502_ := ((h441_ (400 * (S 1092 0 - 1) + S 58 (S 1092 0 - 1) - 1 - 0)) (la_stepOther_70 h431_))
          have h503_ := ((h441_ (400 * (S 1092 0 - 1) + (S 58 (S 1092 0 - 1) - 2))) (la_stepOther_71 h431_))
          have h504_ := ((h441_ (400 * (S 1092 0 - 1) + S 58 (S 1092 0 - 1) - 1 - 1)) (la_stepOther_72 h431_))
          have h505_ := ((h442_ (400 * (S 1092 0 - 1) + (S 58 (S 1092 0 - 1) - 1))) (la_stepOther_69 h431_))
          have h506_ := ((h442_ (400 * (S 1092 0 - 1) + S 58 (S 1092 0 - 1) - 1 - 0)) (la_stepOther_70 h431_))
          have h507_ := ((h442_ (400 * (S 1092 0 - 1) + (S 58 (S 1092 0 - 1) - 2))) (la_stepOther_71 h431_))
          have h508_ := ((h442_ (400 * (S 1092 0 - 1) + S 58 (S 1092 0 - 1) - 1 - 1)) (la_stepOther_72 h431_))
          have e509_ : S 1100007 (S 1100034 0) = S 1100007 (S 1100025 (S 1100033 0)) := congrArg ((S 1100007)) h56_
          have e510_ : S 1100023 (g67 57 (S 1092 0 - 1)) = S 1100023 (S 1100033 0 + 1) := congrArg ((S 1100023)) (la_stepOther_29 h48_ h443_)
          have e511_ : S 26 (S 1100034 0) = S 26 (S 1100025 (S 1100033 0)) := congrArg ((S 26)) h56_
          have e512_ : S 63 (400 * (S 1092 0 - 1) + S 58 (S 1092 0 - 1) - 1 - 0) = S 63 (400 * (S 1092 0 - 1) + (S 58 (S 1092 0 - 1) - 1)) := congrArg ((S 63)) la_stepOther_49
          have e513_ : S 63 (400 * (S 1092 0 - 1) + S 58 (S 1092 0 - 1) - 1 - 1) = S 63 (400 * (S 1092 0 - 1) + (S 58 (S 1092 0 - 1) - 2)) := congrArg ((S 63)) la_stepOther_73
          have e514_ : S 64 (400 * (S 1092 0 - 1) + S 58 (S 1092 0 - 1) - 1 - 0) = S 64 (400 * (S 1092 0 - 1) + (S 58 (S 1092 0 - 1) - 1)) := congrArg ((S 64)) la_stepOther_49
          have e515_ : S 64 (400 * (S 1092 0 - 1) + S 58 (S 1092 0 - 1) - 1 - 1) = S 64 (400 * (S 1092 0 - 1) + (S 58 (S 1092 0 - 1) - 2)) := congrArg ((S 64)) la_stepOther_73
          have e516_ : g55 63 (400 * (S 1092 0 - 1) + S 58 (S 1092 0 - 1) - 1 - 0) = g55 63 (400 * (S 1092 0 - 1) + (S 58 (S 1092 0 - 1) - 1)) := congrArg ((g55 63)) la_stepOther_49
          have e517_ : g55 63 (400 * (S 1092 0 - 1) + S 58 (S 1092 0 - 1) - 1 - 1) = g55 63 (400 * (S 1092 0 - 1) + (S 58 (S 1092 0 - 1) - 2)) := congrArg ((g55 63)) la_stepOther_73
          have e518_ : g55 64 (400 * (S 1092 0 - 1) + S 58 (S 1092 0 - 1) - 1 - 0) = g55 64 (400 * (S 1092 0 - 1) + (S 58 (S 1092 0 - 1) - 1)) := congrArg ((g55 64)) la_stepOther_49
          have e519_ : g55 64 (400 * (S 1092 0 - 1) + S 58 (S 1092 0 - 1) - 1 - 1) = g55 64 (400 * (S 1092 0 - 1) + (S 58 (S 1092 0 - 1) - 2)) := congrArg ((g55 64)) la_stepOther_73
          have e520_ : sm_dp (S 1100024) (S 1100023 (g67 57 (S 1092 0 - 1))) = sm_dp (S 1100024) (S 1100023 (S 1100033 0)) := congrArg ((sm_dp (S 1100024))) (la_stepOther_13 h403_ e510_)
          exact (la_stepOther_31 h42_ e520_)
        refine ⟨?_, ?_⟩
        · skip
          have h521_ := (h434_ (S 1092 0 - 1))
          have h522_ := ((h435_ (400 * (S 1092 0 - 1) + (S 58 (S 1092 0 - 1) - 1))) la_stepOther_46)
          have h523_ := ((h435_ (400 * (S 1092 0 - 1) + S 58 (S 1092 0 - 1) - 1 - 0)) la_stepOther_47)
          have h524_ := ((h435_ (400 * (S 1092 0 - 1) + (S 58 (S 1092 0 - 1) - 2))) la_stepOther_66)
          have h525_ := (h435_ (400 * (S 1092 0 - 1) + S 58 (S 1092 0 - 1)))
          have h526_ := ((h435_ (400 * (S 1092 0 - 1) + S 58 (S 1092 0 - 1) - 1 - 1)) la_stepOther_67)
          have h527_ := ((h436_ (400 * (S 1092 0 - 1) + (S 58 (S 1092 0 - 1) - 1))) la_stepOther_46)
          have h528_ := ((h436_ (400 * (S 1092 0 - 1) + S 58 (S 1092 0 - 1) - 1 - 0)) la_stepOther_47)
          have h529_ := ((h436_ (400 * (S 1092 0 - 1) + (S 58 (S 1092 0 - 1) - 2))) la_stepOther_66)
          have h530_ := (h436_ (400 * (S 1092 0 - 1) + S 58 (S 1092 0 - 1)))
          have h531_ := ((h436_ (400 * (S 1092 0 - 1) + S 58 (S 1092 0 - 1) - 1 - 1)) la_stepOther_67)
          have h532_ := (h440_ (S 1092 0 - 1))
          have h533_ := (h441_ (400 * (S 1092 0 - 1) + g55 58 (S 1092 0 - 1)))
          have h534_ := ((h441_ (400 * (S 1092 0 - 1) + S 58 (S 1092 0 - 1))) (la_stepOther_68 h431_))
          have h535_ := (h442_ (400 * (S 1092 0 - 1) + g55 58 (S 1092 0 - 1)))
          have h536_ := ((h442_ (400 * (S 1092 0 - 1) + S 58 (S 1092 0 - 1))) (la_stepOther_68 h431_))
          have h537_ := (h444_ (S 1092 0 - 1))
          have h538_ := ((h441_ (400 * (S 1092 0 - 1) + (S 58 (S 1092 0 - 1) - 1))) (la_stepOther_69 h431_))
          have h539_ := ((h441_ (400 * (S 1092 0 - 1) + S 58 (S 1092 0 - 1) - 1 - 0)) (la_stepOther_70 h431_))
          have h540_ := ((h441_ (400 * (S 1092 0 - 1) + (S 58 (S 1092 0 - 1) - 2))) (la_stepOther_71 h431_))
          have h541_ := ((h441_ (400 * (S 1092 0 - 1) + S 58 (S 1092 0 - 1) - 1 - 1)) (la_stepOther_72 h431_))
          have h542_ := ((h442_ (400 * (S 1092 0 - 1) + (S 58 (S 1092 0 - 1) - 1))) (la_stepOther_69 h431_))
          have h543_ := ((h442_ (400 * (S 1092 0 - 1) + S 58 (S 1092 0 - 1) - 1 - 0)) (la_stepOther_70 h431_))
          have h544_ := ((h442_ (400 * (S 1092 0 - 1) + (S 58 (S 1092 0 - 1) - 2))) (la_stepOther_71 h431_))
          have h545_ := ((h442_ (400 * (S 1092 0 - 1) + S 58 (S 1092 0 - 1) - 1 - 1)) (la_stepOther_72 h431_))
          have e546_ : S 1100007 (S 1100034 0) = S 1100007 (S 1100025 (S 1100033 0)) := congrArg ((S 1100007)) h56_
          have e547_ : S 1100023 (g67 57 (S 1092 0 - 1)) = S 1100023 (S 1100033 0 + 1) := congrArg ((S 1100023)) (la_stepOther_29 h48_ h443_)
          have e548_ : S 26 (S 1100034 0) = S 26 (S 1100025 (S 1100033 0)) := congrArg ((S 26)) h56_
          have e549_ : S 63 (400 * (S 1092 0 - 1) + S 58 (S 1092 0 - 1) - 1 - 0) = S 63 (400 * (S 1092 0 - 1) + (S 58 (S 1092 0 - 1) - 1)) := congrArg ((S 63)) la_stepOther_49
          have e550_ : S 63 (400 * (S 1092 0 - 1) + S 58 (S 1092 0 - 1) - 1 - 1) = S 63 (400 * (S 1092 0 - 1) + (S 58 (S 1092 0 - 1) - 2)) := congrArg ((S 63)) la_stepOther_73
          have e551_ : S 64 (400 * (S 1092 0 - 1) + S 58 (S 1092 0 - 1) - 1 - 0) = S 64 (400 * (S 1092 0 - 1) + (S 58 (S 1092 0 - 1) - 1)) := congrArg ((S 64)) la_stepOther_49
          have e552_ : S 64 (400 * (S 1092 0 - 1) + S 58 (S 1092 0 - 1) - 1 - 1) = S 64 (400 * (S 1092 0 - 1) + (S 58 (S 1092 0 - 1) - 2)) := congrArg ((S 64)) la_stepOther_73
          have e553_ : g55 63 (400 * (S 1092 0 - 1) + S 58 (S 1092 0 - 1) - 1 - 0) = g55 63 (400 * (S 1092 0 - 1) + (S 58 (S 1092 0 - 1) - 1)) := congrArg ((g55 63)) la_stepOther_49
          have e554_ : g55 63 (400 * (S 1092 0 - 1) + S 58 (S 1092 0 - 1) - 1 - 1) = g55 63 (400 * (S 1092 0 - 1) + (S 58 (S 1092 0 - 1) - 2)) := congrArg ((g55 63)) la_stepOther_73
          have e555_ : g55 64 (400 * (S 1092 0 - 1) + S 58 (S 1092 0 - 1) - 1 - 0) = g55 64 (400 * (S 1092 0 - 1) + (S 58 (S 1092 0 - 1) - 1)) := congrArg ((g55 64)) la_stepOther_49
          have e556_ : g55 64 (400 * (S 1092 0 - 1) + S 58 (S 1092 0 - 1) - 1 - 1) = g55 64 (400 * (S 1092 0 - 1) + (S 58 (S 1092 0 - 1) - 2)) := congrArg ((g55 64)) la_stepOther_73
          exact (sm_TC_t h43_ (la_stepOther_32 h403_ e547_))
        refine ⟨h44_, ?_⟩
        refine ⟨h45_, ?_⟩
        refine ⟨h46_, ?_⟩
        refine ⟨(sm_FL_F h47_ sm_F1_rf sm_F1_rf sm_F1_rf sm_F1_rf (sm_F1_le (sm_F1_ne h444_ (Int.le_refl _)) (Int.le_refl _)) (sm_F1_tr (sm_F1_le (sm_F1_ne h434_ (Int.le_refl _)) (Int.le_refl _)) (sm_F1_ne h440_ (Int.le_refl _)) (Int.le_refl _)) sm_F1_rf sm_F1_rf sm_F1_rf sm_F1_rf (sm_F1_tr (sm_F1_le (sm_F1_ne h435_ (Int.le_refl _)) (la_stepOther_75 h55_ h396_)) (sm_F1_ne h441_ (Int.le_refl _)) (la_stepOther_74 h55_ h396_ h431_)) (sm_F1_tr (sm_F1_le (sm_F1_ne h436_ (Int.le_refl _)) (la_stepOther_75 h55_ h396_)) (sm_F1_ne h442_ (Int.le_refl _)) (la_stepOther_74 h55_ h396_ h431_)) (Int.le_refl _) (Int.le_refl _) sm_F1_rf sm_F1_rf (sm_FL_dp h47_ h24_)), ?_⟩
        refine ⟨?_, ?_⟩
        · skip
          have h557_ := (h434_ (S 1092 0 - 1))
          have h558_ := ((h435_ (400 * (S 1092 0 - 1) + (S 58 (S 1092 0 - 1) - 1))) la_stepOther_46)
          have h559_ := ((h435_ (400 * (S 1092 0 - 1) + S 58 (S 1092 0 - 1) - 1 - 0)) la_stepOther_47)
          have h560_ := ((h435_ (400 * (S 1092 0 - 1) + (S 58 (S 1092 0 - 1) - 2))) la_stepOther_66)
          have h561_ := (h435_ (400 * (S 1092 0 - 1) + S 58 (S 1092 0 - 1)))
          have h562_ := ((h435_ (400 * (S 1092 0 - 1) + S 58 (S 1092 0 - 1) - 1 - 1)) la_stepOther_67)
          have h563_ := ((h436_ (400 * (S 1092 0 - 1) + (S 58 (S 1092 0 - 1) - 1))) la_stepOther_46)
          have h564_ := ((h436_ (400 * (S 1092 0 - 1) + S 58 (S 1092 0 - 1) - 1 - 0)) la_stepOther_47)
          have h565_ := ((h436_ (400 * (S 1092 0 - 1) + (S 58 (S 1092 0 - 1) - 2))) la_stepOther_66)
          have h566_ := (h436_ (400 * (S 1092 0 - 1) + S 58 (S 1092 0 - 1)))
          have h567_ := ((h436_ (400 * (S 1092 0 - 1) + S 58 (S 1092 0 - 1) - 1 - 1)) la_stepOther_67)
          have h568_ := (h440_ (S 1092 0 - 1))
          have h569_ := (h441_ (400 * (S 1092 0 - 1) + g55 58 (S 1092 0 - 1)))
          have h570_ := ((h441_ (400 * (S 1092 0 - 1) + S 58 (S 1092 0 - 1))) (la_stepOther_68 h431_))
          have h571_ := (h442_ (400 * (S 1092 0 - 1) + g55 58 (S 1092 0 - 1)))
          have h572_ := ((h442_ (400 * (S 1092 0 - 1) + S 58 (S 1092 0 - 1))) (la_stepOther_68 h431_))
          have h573_ := (h444_ (S 1092 0 - 1))
          have h574_ := ((h441_ (400 * (S 1092 0 - 1) + (S 58 (S 1092 0 - 1) - 1))) (la_stepOther_69 h431_))
          have h575_ := ((h441_ (400 * (S 1092 0 - 1) + S 58 (S 1092 0 - 1) - 1 - 0)) (la_stepOther_70 h431_))
          have h576_ := ((h441_ (400 * (S 1092 0 - 1) + (S 58 (S 1092 0 - 1) - 2))) (la_stepOther_71 h431_))
          have h577_ := ((h441_ (400 * (S 1092 0 - 1) + S 58 (S 1092 0 - 1) - 1 - 1)) (la_stepOther_72 h431_))
          have h578_ := ((h442_ (400 * (S 1092 0 - 1) + (S 58 (S 1092 0 - 1) - 1))) (la_stepOther_69 h431_))
          have h579_ := ((h442_ (400 * (S 1092 0 - 1) + S 58 (S 1092 0 - 1) - 1 - 0)) (la_stepOther_70 h431_))
          have h580_ := ((h442_ (400 * (S 1092 0 - 1) + (S 58 (S 1092 0 - 1) - 2))) (la_stepOther_71 h431_))
          have h581_ := ((h442_ (400 * (S 1092 0 - 1) + S 58 (S 1092 0 - 1) - 1 - 1)) (la_stepOther_72 h431_))
          have e582_ : S 1100007 (S 1100034 0) = S 1100007 (S 1100025 (S 1100033 0)) := congrArg ((S 1100007)) h56_
          have e583_ : S 1100007 (g67 57 (S 1092 0 - 1)) = S 1100007 (S 1100033 0 + 1) := congrArg ((S 1100007)) (la_stepOther_29 h48_ h443_)
          have e584_ : S 26 (S 1100034 0) = S 26 (S 1100025 (S 1100033 0)) := congrArg ((S 26)) h56_
          have e585_ : S 63 (400 * (S 1092 0 - 1) + S 58 (S 1092 0 - 1) - 1 - 0) = S 63 (400 * (S 1092 0 - 1) + (S 58 (S 1092 0 - 1) - 1)) := congrArg ((S 63)) la_stepOther_49
          have e586_ : S 63 (400 * (S 1092 0 - 1) + S 58 (S 1092 0 - 1) - 1 - 1) = S 63 (400 * (S 1092 0 - 1) + (S 58 (S 1092 0 - 1) - 2)) := congrArg ((S 63)) la_stepOther_73
          have e587_ : S 64 (400 * (S 1092 0 - 1) + S 58 (S 1092 0 - 1) - 1 - 0) = S 64 (400 * (S 1092 0 - 1) + (S 58 (S 1092 0 - 1) - 1)) := congrArg ((S 64)) la_stepOther_49
          have e588_ : S 64 (400 * (S 1092 0 - 1) + S 58 (S 1092 0 - 1) - 1 - 1) = S 64 (400 * (S 1092 0 - 1) + (S 58 (S 1092 0 - 1) - 2)) := congrArg ((S 64)) la_stepOther_73
          have e589_ : g55 63 (400 * (S 1092 0 - 1) + S 58 (S 1092 0 - 1) - 1 - 0) = g55 63 (400 * (S 1092 0 - 1) + (S 58 (S 1092 0 - 1) - 1)) := congrArg ((g55 63)) la_stepOther_49
          have e590_ : g55 63 (400 * (S 1092 0 - 1) + S 58 (S 1092 0 - 1) - 1 - 1) = g55 63 (400 * (S 1092 0 - 1) + (S 58 (S 1092 0 - 1) - 2)) := congrArg ((g55 63)) la_stepOther_73
          have e591_ : g55 64 (400 * (S 1092 0 - 1) + S 58 (S 1092 0 - 1) - 1 - 0) = g55 64 (400 * (S 1092 0 - 1) + (S 58 (S 1092 0 - 1) - 1)) := congrArg ((g55 64)) la_stepOther_49
          have e592_ : g55 64 (400 * (S 1092 0 - 1) + S 58 (S 1092 0 - 1) - 1 - 1) = g55 64 (400 * (S 1092 0 - 1) + (S 58 (S 1092 0 - 1) - 2)) := congrArg ((g55 64)) la_stepOther_73
          exact (la_stepOther_76 h55_ h402_ h431_ h437_ e583_)
        have h593_ := (h434_ (S 1092 0 - 1))
        have h594_ := ((h435_ (400 * (S 1092 0 - 1) + (S 58 (S 1092 0 - 1) - 1))) la_stepOther_46)
        have h595_ := ((h435_ (400 * (S 1092 0 - 1) + S 58 (S 1092 0 - 1) - 1 - 0)) la_stepOther_47)
        have h596_ := ((h435_ (400 * (S 1092 0 - 1) + (S 58 (S 1092 0 - 1) - 2))) la_stepOther_66)
        have h597_ := (h435_ (400 * (S 1092 0 - 1) + S 58 (S 1092 0 - 1)))
        have h598_ := ((h435_ (400 * (S 1092 0 - 1) + S 58 (S 1092 0 - 1) - 1 - 1)) la_stepOther_67)
        have h599_ := ((h436_ (400 * (S 1092 0 - 1) + (S 58 (S 1092 0 - 1) - 1))) la_stepOther_46)
        have h600_ := ((h436_ (400 * (S 1092 0 - 1) + S 58 (S 1092 0 - 1) - 1 - 0)) la_stepOther_47)
        have h601_ := ((h436_ (400 * (S 1092 0 - 1) + (S 58 (S 1092 0 - 1) - 2))) la_stepOther_66)
        have h602_ := (h436_ (400 * (S 1092 0 - 1) + S 58 (S 1092 0 - 1)))
        have h603_ := ((h436_ (400 * (S 1092 0 - 1) + S 58 (S 1092 0 - 1) - 1 - 1)) la_stepOther_67)
        have h604_ := (h440_ (S 1092 0 - 1))
        have h605_ := (h441_ (400 * (S 1092 0 - 1) + g55 58 (S 1092 0 - 1)))
        have h606_ := ((h441_ (400 * (S 1092 0 - 1) + S 58 (S 1092 0 - 1))) (la_stepOther_68 h431_))
        have h607_ := (h442_ (400 * (S 1092 0 - 1) + g55 58 (S 1092 0 - 1)))
        have h608_ := ((h442_ (400 * (S 1092 0 - 1) + S 58 (S 1092 0 - 1))) (la_stepOther_68 h431_))
        have h609_ := (h444_ (S 1092 0 - 1))
        have h610_ := ((h441_ (400 * (S 1092 0 - 1) + (S 58 (S 1092 0 - 1) - 1))) (la_stepOther_69 h431_))
        have h611_ := ((h441_ (400 * (S 1092 0 - 1) + S 58 (S 1092 0 - 1) - 1 - 0)) (la_stepOther_70 h431_))
        have h612_ := ((h441_ (400 * (S 1092 0 - 1) + (S 58 (S 1092 0 - 1) - 2))) (la_stepOther_71 h431_))
        have h613_ := ((h441_ (400 * (S 1092 0 - 1) + S 58 (S 1092 0 - 1) - 1 - 1)) (la_stepOther_72 h431_))
        have h614_ := ((h442_ (400 * (S 1092 0 - 1) + (S 58 (S 1092 0 - 1) - 1))) (la_stepOther_69 h431_))
        have h615_ := ((h442_ (400 * (S 1092 0 - 1) + S 58 (S 1092 0 - 1) - 1 - 0)) (la_stepOther_70 h431_))
        have h616_ := ((h442_ (400 * (S 1092 0 - 1) + (S 58 (S 1092 0 - 1) - 2))) (la_stepOther_71 h431_))
        have h617_ := ((h442_ (400 * (S 1092 0 - 1) + S 58 (S 1092 0 - 1) - 1 - 1)) (la_stepOther_72 h431_))
        have e618_ : S 1100007 (S 1100034 0) = S 1100007 (S 1100025 (S 1100033 0)) := congrArg ((S 1100007)) h56_
        have e619_ : S 1100025 (g67 57 (S 1092 0 - 1)) = S 1100025 (S 1100033 0 + 1) := congrArg ((S 1100025)) (la_stepOther_29 h48_ h443_)
        have e620_ : S 26 (S 1100034 0) = S 26 (S 1100025 (S 1100033 0)) := congrArg ((S 26)) h56_
        have e621_ : S 63 (400 * (S 1092 0 - 1) + S 58 (S 1092 0 - 1) - 1 - 0) = S 63 (400 * (S 1092 0 - 1) + (S 58 (S 1092 0 - 1) - 1)) := congrArg ((S 63)) la_stepOther_49
        have e622_ : S 63 (400 * (S 1092 0 - 1) + S 58 (S 1092 0 - 1) - 1 - 1) = S 63 (400 * (S 1092 0 - 1) + (S 58 (S 1092 0 - 1) - 2)) := congrArg ((S 63)) la_stepOther_73
        have e623_ : S 64 (400 * (S 1092 0 - 1) + S 58 (S 1092 0 - 1) - 1 - 0) = S 64 (400 * (S 1092 0 - 1) + (S 58 (S 1092 0 - 1) - 1)) := congrArg ((S 64)) la_stepOther_49
        have e624_ : S 64 (400 * (S 1092 0 - 1) + S 58 (S 1092 0 - 1) - 1 - 1) = S 64 (400 * (S 1092 0 - 1) + (S 58 (S 1092 0 - 1) - 2)) := congrArg ((S 64)) la_stepOther_73
        have e625_ : g55 63 (400 * (S 1092 0 - 1) + S 58 (S 1092 0 - 1) - 1 - 0) = g55 63 (400 * (S 1092 0 - 1) + (S 58 (S 1092 0 - 1) - 1)) := congrArg ((g55 63)) la_stepOther_49
        have e626_ : g55 63 (400 * (S 1092 0 - 1) + S 58 (S 1092 0 - 1) - 1 - 1) = g55 63 (400 * (S 1092 0 - 1) + (S 58 (S 1092 0 - 1) - 2)) := congrArg ((g55 63)) la_stepOther_73
        have e627_ : g55 64 (400 * (S 1092 0 - 1) + S 58 (S 1092 0 - 1) - 1 - 0) = g55 64 (400 * (S 1092 0 - 1) + (S 58 (S 1092 0 - 1) - 1)) := congrArg ((g55 64)) la_stepOther_49
        have e628_ : g55 64 (400 * (S 1092 0 - 1) + S 58 (S 1092 0 - 1) - 1 - 1) = g55 64 (400 * (S 1092 0 - 1) + (S 58 (S 1092 0 - 1) - 2)) := congrArg ((g55 64)) la_stepOther_73
        exact (sm_SK_q (sm_SK_q (sm_SK_push (sm_SK_push (sm_SK_F h51_ (sm_F1_tr (sm_F1_le (sm_F1_ne h435_ (Int.le_refl _)) (Int.le_refl _)) (sm_F1_ne h441_ (Int.le_refl _)) (la_stepOther_77 h431_)) (sm_F1_tr (sm_F1_le (sm_F1_ne h436_ (Int.le_refl _)) (Int.le_refl _)) (sm_F1_ne h442_ (Int.le_refl _)) (la_stepOther_77 h431_)) (Int.le_refl _) (Int.le_refl _)) h25_ h53_ (la_stepOther_54 h54_ h55_ h56_ h67_ e618_) rfl (sm_VO_eq h428_ (la_stepOther_79 h429_ h432_ h606_ e622_) (la_stepOther_79 h430_ h433_ h608_ e624_)) rfl) h25_ h53_ (la_stepOther_84 h54_ h55_ h56_ h67_ e618_) rfl (sm_VO_eq (sm_VO_eq h418_ (la_stepOther_81 h388_ e621_) (la_stepOther_81 h389_ e623_)) ((congrArg (g61 63) (la_stepOther_80 h431_)).trans h438_) ((congrArg (g61 64) (la_stepOther_80 h431_)).trans h439_)) rfl) rfl (la_stepOther_85 h431_ h437_) rfl) (la_stepOther_52 h56_ h404_ e619_) rfl rfl)
      refine ⟨?_, ?_⟩
      · skip
        intro h629_
        have h630_ := (h63_.resolve_left (la_stepOther_86 h629_))
        have h631_ := (h80_.resolve_left (la_stepOther_87 h629_))
        have h632_ := (h82_.resolve_left (la_stepOther_87 h629_))
        have h633_ := (h630_.resolve_left (la_stepOther_88 h629_))
        have h634_ := (h633_.resolve_left (la_stepOther_89 h629_))
        intro h635_
        have h636_ := (h635_ h24_)
        have h637_ := (h636_ h37_)
        have h638_ := (h637_ h38_)
        obtain ⟨⟨h639_, ⟨h640_, h641_⟩⟩, ⟨h642_, ⟨h643_, ⟨h644_, ⟨h645_, ⟨h646_, h647_⟩⟩⟩⟩⟩⟩ := (h638_ (la_stepOther_90 h61_ h629_))
        intro h648_
        have h649_ := (h648_ h56_)
        have h650_ := (h649_ h55_)
        have h651_ := (h650_ h641_)
        intro h652_
        have h653_ := (h652_ h51_)
        have h654_ := (h653_ h25_)
        have h655_ := (h654_ (la_stepOther_91 h55_ h639_))
        have h656_ := (h655_ la_stepOther_44)
        have h657_ := (h656_ h53_)
        have h658_ := (h657_ h56_)
        have h659_ := (h658_ h55_)
        have h660_ := (h659_ h54_)
        have h661_ := (h660_ h641_)
        intro h662_
        have h663_ := (h662_ h51_)
        have h664_ := (h663_ h25_)
        have h665_ := (h664_ (la_stepOther_92 h55_ h639_))
        have h666_ := (h665_ la_stepOther_62)
        have h667_ := (h666_ h53_)
        have h668_ := (h667_ h56_)
        have h669_ := (h668_ h55_)
        have h670_ := (h669_ h54_)
        have h671_ := (h670_ h641_)
        intro h672_
        have h673_ := (h672_ h51_)
        have h674_ := (h673_ h25_)
        have h675_ := (h674_ (la_stepOther_93 h55_ h639_))
        have h676_ := (h675_ la_stepOther_94)
        have h677_ := (h676_ h53_)
        have h678_ := (h677_ h56_)
        have h679_ := (h678_ h55_)
        have h680_ := (h679_ h54_)
        have h681_ := (h680_ h641_)
        refine ⟨(la_stepOther_95 h35_ h36_ h55_ h58_ h639_), ?_⟩
        intro g78
        rintro ⟨h682_, ⟨h683_, ⟨h684_, ⟨h685_, ⟨h686_, ⟨h687_, ⟨h688_, ⟨h689_, ⟨h690_, ⟨h691_, ⟨h692_, h693_⟩⟩⟩⟩⟩⟩⟩⟩⟩⟩⟩
        refine ⟨(la_stepOther_23 h30_ h35_ h36_ h37_ h48_ h643_), ?_⟩
        intro g84
        rintro ⟨h694_, h695_⟩
        refine ⟨h6_, ?_⟩
        refine ⟨h7_, ?_⟩
        refine ⟨h8_, ?_⟩
        refine ⟨h9_, ?_⟩
        refine ⟨h10_, ?_⟩
        refine ⟨h11_, ?_⟩
        refine ⟨h12_, ?_⟩
        refine ⟨h13_, ?_⟩
        refine ⟨h14_, ?_⟩
        refine ⟨h15_, ?_⟩
        refine ⟨h16_, ?_⟩
        refine ⟨h17_, ?_⟩
        refine ⟨?_, ?_⟩
        · skip
          intro h696_
          refine ⟨h18_, ?_⟩
          exact h19_
        refine ⟨h20_, ?_⟩
        refine ⟨h21_, ?_⟩
        refine ⟨h22_, ?_⟩
        refine ⟨h23_, ?_⟩
        refine ⟨h32_, ?_⟩
        refine ⟨(la_stepOther_24 h4_), ?_⟩
        refine ⟨(la_stepOther_25 h35_), ?_⟩
        refine ⟨h36_, ?_⟩
        intro h697_
        intro h698_
        refine ⟨h35_, ?_⟩
        refine ⟨h36_, ?_⟩
        refine ⟨(la_stepOther_26 h37_ h48_ h694_), ?_⟩
        refine ⟨(la_stepOther_27 h48_ h643_ h694_), ?_⟩
        refine ⟨?_, ?_⟩
        · skip
          have h699_ := (h683_ (S 1092 0 - 1))
          have h700_ := (h695_ (S 1092 0 - 1))
          have e701_ : S 1100007 (S 1100034 0) = S 1100007 (S 1100025 (S 1100033 0)) := congrArg ((S 1100007)) h56_
          have e702_ : S 26 (S 1100034 0) = S 26 (S 1100025 (S 1100033 0)) := congrArg ((S 26)) h56_
          have e703_ : S 29 (g84 57 (S 1092 0 - 1)) = S 29 (S 1100033 0 + 1) := congrArg ((S 29)) (la_stepOther_29 h48_ h694_)
          have e704_ : S 63 (400 * (S 1092 0 - 1) + S 58 (S 1092 0 - 1) - 2) = S 63 (400 * (S 1092 0 - 1) + (S 58 (S 1092 0 - 1) - 2)) := congrArg ((S 63)) la_stepOther_96
          have e705_ : S 63 (400 * (S 1092 0 - 1) + S 58 (S 1092 0 - 1) - 3) = S 63 (400 * (S 1092 0 - 1) + (S 58 (S 1092 0 - 1) - 3)) := congrArg ((S 63)) la_stepOther_97
          have e706_ : S 63 (400 * (S 1092 0 - 1) + S 58 (S 1092 0 - 1) - 1 - 0) = S 63 (400 * (S 1092 0 - 1) + (S 58 (S 1092 0 - 1) - 1)) := congrArg ((S 63)) la_stepOther_49
          have e707_ : S 64 (400 * (S 1092 0 - 1) + S 58 (S 1092 0 - 1) - 2) = S 64 (400 * (S 1092 0 - 1) + (S 58 (S 1092 0 - 1) - 2)) := congrArg ((S 64)) la_stepOther_96
          have e708_ : S 64 (400 * (S 1092 0 - 1) + S 58 (S 1092 0 - 1) - 3) = S 64 (400 * (S 1092 0 - 1) + (S 58 (S 1092 0 - 1) - 3)) := congrArg ((S 64)) la_stepOther_97
          have e709_ : S 64 (400 * (S 1092 0 - 1) + S 58 (S 1092 0 - 1) - 1 - 0) = S 64 (400 * (S 1092 0 - 1) + (S 58 (S 1092 0 - 1) - 1)) := congrArg ((S 64)) la_stepOther_49
          exact (la_stepOther_30 h39_ h644_ e703_)
        refine ⟨h40_, ?_⟩
        refine ⟨h41_, ?_⟩
        refine ⟨?_, ?_⟩
        · skip
          have h710_ := (h683_ (S 1092 0 - 1))
          have h711_ := (h695_ (S 1092 0 - 1))
          have e712_ : S 1100007 (S 1100034 0) = S 1100007 (S 1100025 (S 1100033 0)) := congrArg ((S 1100007)) h56_
          have e713_ : S 1100023 (g84 57 (S 1092 0 - 1)) = S 1100023 (S 1100033 0 + 1) := congrArg ((S 1100023)) (la_stepOther_29 h48_ h694_)
          have e714_ : S 26 (S 1100034 0) = S 26 (S 1100025 (S 1100033 0)) := congrArg ((S 26)) h56_
          have e715_ : S 63 (400 * (S 1092 0 - 1) + S 58 (S 1092 0 - 1) - 2) = S 63 (400 * (S 1092 0 - 1) + (S 58 (S 1092 0 - 1) - 2)) := congrArg ((S 63)) la_stepOther_96
          have e716_ : S 63 (400 * (S 1092 0 - 1) + S 58 (S 1092 0 - 1) - 3) = S 63 (400 * (S 1092 0 - 1) + (S 58 (S 1092 0 - 1) - 3)) := congrArg ((S 63)) la_stepOther_97
          have e717_ : S 63 (400 * (S 1092 0 - 1) + S 58 (S 1092 0 - 1) - 1 - 0) = S 63 (400 * (S 1092 0 - 1) + (S 58 (S 1092 0 - 1) - 1)) := congrArg ((S 63)) la_stepOther_49
          have e718_ : S 64 (400 * (S 1092 0 - 1) + S 58 (S 1092 0 - 1) - 2) = S 64 (400 * (S 1092 0 - 1) + (S 58 (S 1092 0 - 1) - 2)) := congrArg ((S 64)) la_stepOther_96
          have e719_ : S 64 (400 * (S 1092 0 - 1) + S 58 (S 1092 0 - 1) - 3) = S 64 (400 * (S 1092 0 - 1) + (S 58 (S 1092 0 - 1) - 3)) := congrArg ((S 64)) la_stepOther_97
          have e720_ : S 64 (400 * (S 1092 0 - 1) + S 58 (S 1092 0 - 1) - 1 - 0) = S 64 (400 * (S 1092 0 - 1) + (S 58 (S 1092 0 - 1) - 1)) := congrArg ((S 64)) la_stepOther_49
          have e721_ : sm_dp (S 1100024) (S 1100023 (g84 57 (S 1092 0 - 1))) = sm_dp (S 1100024) (S 1100023 (S 1100033 0)) := congrArg ((sm_dp (S 1100024))) (la_stepOther_13 h646_ e713_)
          exact (la_stepOther_31 h42_ e721_)
        refine ⟨?_, ?_⟩
        · skip
          have h722_ := (h683_ (S 1092 0 - 1))
          have h723_ := (h695_ (S 1092 0 - 1))
          have e724_ : S 1100007 (S 1100034 0) = S 1100007 (S 1100025 (S 1100033 0)) := congrArg ((S 1100007)) h56_
          have e725_ : S 1100023 (g84 57 (S 1092 0 - 1)) = S 1100023 (S 1100033 0 + 1) := congrArg ((S 1100023)) (la_stepOther_29 h48_ h694_)
          have e726_ : S 26 (S 1100034 0) = S 26 (S 1100025 (S 1100033 0)) := congrArg ((S 26)) h56_
          have e727_ : S 63 (400 * (S 1092 0 - 1) + S 58 (S 1092 0 - 1) - 2) = S 63 (400 * (S 1092 0 - 1) + (S 58 (S 1092 0 - 1) - 2)) := congrArg ((S 63)) la_stepOther_96
          have e728_ : S 63 (400 * (S 1092 0 - 1) + S 58 (S 1092 0 - 1) - 3) = S 63 (400 * (S 1092 0 - 1) + (S 58 (S 1092 0 - 1) - 3)) := congrArg ((S 63)) la_stepOther_97
          have e729_ : S 63 (400 * (S 1092 0 - 1) + S 58 (S 1092 0 - 1) - 1 - 0) = S 63 (400 * (S 1092 0 - 1) + (S 58 (S 1092 0 - 1) - 1)) := congrArg ((S 63)) la_stepOther_49
          have e730_ : S 64 (400 * (S 1092 0 - 1) + S 58 (S 1092 0 - 1) - 2) = S 64 (400 * (S 1092 0 - 1) + (S 58 (S 1092 0 - 1) - 2)) := congrArg ((S 64)) la_stepOther_96
          have e731_ : S 64 (400 * (S 1092 0 - 1) + S 58 (S 1092 0 - 1) - 3) = S 64 (400 * (S 1092 0 - 1) + (S 58 (S 1092 0 - 1) - 3)) := congrArg ((S 64)) la_stepOther_97
          have e732_ : S 64 (400 * (S 1092 0 - 1) + S 58 (S 1092 0 - 1) - 1 - 0) = S 64 (400 * (S 1092 0 - 1) + (S 58 (S 1092 0 - 1) - 1)) := congrArg ((S 64)) la_stepOther_49
          exact (sm_TC_t h43_ (la_stepOther_32 h646_ e725_))
        refine ⟨h44_, ?_⟩
        refine ⟨h45_, ?_⟩
        refine ⟨h46_, ?_⟩
        refine ⟨(sm_FL_F h47_ sm_F1_rf sm_F1_rf sm_F1_rf sm_F1_rf (sm_F1_le (sm_F1_ne h695_ (Int.le_refl _)) (Int.le_refl _)) (sm_F1_le (sm_F1_ne h683_ (Int.le_refl _)) (Int.le_refl _)) sm_F1_rf sm_F1_rf sm_F1_rf sm_F1_rf (sm_F1_le h684_ (la_stepOther_98 h55_ h639_)) (sm_F1_le h689_ (la_stepOther_98 h55_ h639_)) (Int.le_refl _) (Int.le_refl _) sm_F1_rf sm_F1_rf (sm_FL_dp h47_ h24_)), ?_⟩
        refine ⟨?_, ?_⟩
        · skip
          have h733_ := (h683_ (S 1092 0 - 1))
          have h734_ := (h695_ (S 1092 0 - 1))
          have e735_ : S 1100007 (S 1100034 0) = S 1100007 (S 1100025 (S 1100033 0)) := congrArg ((S 1100007)) h56_
          have e736_ : S 1100007 (g84 57 (S 1092 0 - 1)) = S 1100007 (S 1100033 0 + 1) := congrArg ((S 1100007)) (la_stepOther_29 h48_ h694_)
          have e737_ : S 26 (S 1100034 0) = S 26 (S 1100025 (S 1100033 0)) := congrArg ((S 26)) h56_
          have e738_ : S 63 (400 * (S 1092 0 - 1) + S 58 (S 1092 0 - 1) - 2) = S 63 (400 * (S 1092 0 - 1) + (S 58 (S 1092 0 - 1) - 2)) := congrArg ((S 63)) la_stepOther_96
          have e739_ : S 63 (400 * (S 1092 0 - 1) + S 58 (S 1092 0 - 1) - 3) = S 63 (400 * (S 1092 0 - 1) + (S 58 (S 1092 0 - 1) - 3)) := congrArg ((S 63)) la_stepOther_97
          have e740_ : S 63 (400 * (S 1092 0 - 1) + S 58 (S 1092 0 - 1) - 1 - 0) = S 63 (400 * (S 1092 0 - 1) + (S 58 (S 1092 0 - 1) - 1)) := congrArg ((S 63)) la_stepOther_49
          have e741_ : S 64 (400 * (S 1092 0 - 1) + S 58 (S 1092 0 - 1) - 2) = S 64 (400 * (S 1092 0 - 1) + (S 58 (S 1092 0 - 1) - 2)) := congrArg ((S 64)) la_stepOther_96
          have e742_ : S 64 (400 * (S 1092 0 - 1) + S 58 (S 1092 0 - 1) - 3) = S 64 (400 * (S 1092 0 - 1) + (S 58 (S 1092 0 - 1) - 3)) := congrArg ((S 64)) la_stepOther_97
          have e743_ : S 64 (400 * (S 1092 0 - 1) + S 58 (S 1092 0 - 1) - 1 - 0) = S 64 (400 * (S 1092 0 - 1) + (S 58 (S 1092 0 - 1) - 1)) := congrArg ((S 64)) la_stepOther_49
          exact (la_stepOther_51 h55_ h645_ h682_ e736_)
        have h744_ := (h683_ (S 1092 0 - 1))
        have h745_ := (h695_ (S 1092 0 - 1))
        have e746_ : S 1100007 (S 1100034 0) = S 1100007 (S 1100025 (S 1100033 0)) := congrArg ((S 1100007)) h56_
        have e747_ : S 1100025 (g84 57 (S 1092 0 - 1)) = S 1100025 (S 1100033 0 + 1) := congrArg ((S 1100025)) (la_stepOther_29 h48_ h694_)
        have e748_ : S 26 (S 1100034 0) = S 26 (S 1100025 (S 1100033 0)) := congrArg ((S 26)) h56_
        have e749_ : S 63 (400 * (S 1092 0 - 1) + S 58 (S 1092 0 - 1) - 2) = S 63 (400 * (S 1092 0 - 1) + (S 58 (S 1092 0 - 1) - 2)) := congrArg ((S 63)) la_stepOther_96
        have e750_ : S 63 (400 * (S 1092 0 - 1) + S 58 (S 1092 0 - 1) - 3) = S 63 (400 * (S 1092 0 - 1) + (S 58 (S 1092 0 - 1) - 3)) := congrArg ((S 63)) la_stepOther_97
        have e751_ : S 63 (400 * (S 1092 0 - 1) + S 58 (S 1092 0 - 1) - 1 - 0) = S 63 (400 * (S 1092 0 - 1) + (S 58 (S 1092 0 - 1) - 1)) := congrArg ((S 63)) la_stepOther_49
        have e752_ : S 64 (400 * (S 1092 0 - 1) + S 58 (S 1092 0 - 1) - 2) = S 64 (400 * (S 1092 0 - 1) + (S 58 (S 1092 0 - 1) - 2)) := congrArg ((S 64)) la_stepOther_96
        have e753_ : S 64 (400 * (S 1092 0 - 1) + S 58 (S 1092 0 - 1) - 3) = S 64 (400 * (S 1092 0 - 1) + (S 58 (S 1092 0 - 1) - 3)) := congrArg ((S 64)) la_stepOther_97
        have e754_ : S 64 (400 * (S 1092 0 - 1) + S 58 (S 1092 0 - 1) - 1 - 0) = S 64 (400 * (S 1092 0 - 1) + (S 58 (S 1092 0 - 1) - 1)) := congrArg ((S 64)) la_stepOther_49
        exact (sm_SK_q (sm_SK_q (sm_SK_push (sm_SK_push (sm_SK_push (sm_SK_push (sm_SK_F (sm_SK_pop h51_ (la_stepOther_101 h682_)) (sm_F1_le h684_ (la_stepOther_102 h682_)) (sm_F1_le h689_ (la_stepOther_102 h682_)) (Int.le_refl _) (Int.le_refl _)) h25_ h53_ (la_stepOther_104 h54_ h55_ h56_ h641_ h682_ e746_) rfl (sm_VO_eq (sm_VO_eq h661_ (la_stepOther_81 h631_ e751_) (la_stepOther_81 h632_ e754_)) ((congrArg (g78 63) (la_stepOther_103 h682_)).trans h688_) ((congrArg (g78 64) (la_stepOther_103 h682_)).trans h693_)) rfl) h25_ h53_ (la_stepOther_108 h54_ h55_ h56_ h641_ h682_ e746_) rfl (sm_VO_eq (sm_VO_eq h681_ e750_ e753_) ((congrArg (g78 63) (la_stepOther_105 h682_)).trans h687_) ((congrArg (g78 64) (la_stepOther_105 h682_)).trans h692_)) rfl) h25_ h53_ (la_stepOther_110 h54_ h55_ h56_ h641_ h682_ e746_) rfl (sm_VO_eq (sm_VO_eq h671_ e749_ e752_) ((congrArg (g78 63) (la_stepOther_109 h682_)).trans h686_) ((congrArg (g78 64) (la_stepOther_109 h682_)).trans h691_)) rfl) h25_ h53_ (la_stepOther_112 h54_ h55_ h56_ h67_ h682_ e746_) rfl (sm_VO_eq (sm_VO_eq h661_ (la_stepOther_81 h631_ e751_) (la_stepOther_81 h632_ e754_)) ((congrArg (g78 63) (la_stepOther_111 h682_)).trans h685_) ((congrArg (g78 64) (la_stepOther_111 h682_)).trans h690_)) rfl) rfl la_stepOther_113 rfl) (la_stepOther_52 h56_ h647_ e747_) rfl rfl)
      refine ⟨?_, ?_⟩
      · skip
        intro h755_
        intro h756_
        have h757_ := (h756_ h24_)
        have h758_ := (h757_ h37_)
        have h759_ := (h758_ h38_)
        obtain ⟨⟨h760_, ⟨h761_, h762_⟩⟩, ⟨h763_, ⟨h764_, ⟨h765_, ⟨h766_, ⟨h767_, h768_⟩⟩⟩⟩⟩⟩ := (h759_ (la_stepOther_114 h61_ h755_))
        have h769_ := (h78_ h762_)
        refine ⟨(la_stepOther_115 h35_ h36_), ?_⟩
        refine ⟨h6_, ?_⟩
        refine ⟨h7_, ?_⟩
        refine ⟨h8_, ?_⟩
        refine ⟨h9_, ?_⟩
        refine ⟨h10_, ?_⟩
        refine ⟨h11_, ?_⟩
        refine ⟨h12_, ?_⟩
        refine ⟨h13_, ?_⟩
        refine ⟨h14_, ?_⟩
        refine ⟨h15_, ?_⟩
        refine ⟨h16_, ?_⟩
        refine ⟨h17_, ?_⟩
        refine ⟨?_, ?_⟩
        · skip
          intro h770_
          refine ⟨h18_, ?_⟩
          exact h19_
        refine ⟨h20_, ?_⟩
        refine ⟨h21_, ?_⟩
        refine ⟨h22_, ?_⟩
        refine ⟨h23_, ?_⟩
        refine ⟨h32_, ?_⟩
        refine ⟨(la_stepOther_24 h4_), ?_⟩
        refine ⟨(la_stepOther_25 h35_), ?_⟩
        refine ⟨h36_, ?_⟩
        intro h771_
        intro h772_
        refine ⟨h35_, ?_⟩
        refine ⟨h36_, ?_⟩
        refine ⟨?_, ?_⟩
        · skip
          have e773_ : (if S 1092 0 - 1 = S 1092 0 - 1 then p2 else S 57 (S 1092 0 - 1) : Int) = p2 := if_pos la_stepOther_116
          have e774_ : S 1100007 (S 1100034 0) = S 1100007 (S 1100025 (S 1100033 0)) := congrArg ((S 1100007)) h56_
          have e775_ : S 26 (S 1100034 0) = S 26 (S 1100025 (S 1100033 0)) := congrArg ((S 26)) h56_
          exact (la_stepOther_117 h62_ h763_ e773_)
        refine ⟨?_, ?_⟩
        · skip
          have e776_ : (if S 1092 0 - 1 = S 1092 0 - 1 then p2 else S 57 (S 1092 0 - 1) : Int) = p2 := if_pos la_stepOther_116
          have e777_ : S 1100007 (S 1100034 0) = S 1100007 (S 1100025 (S 1100033 0)) := congrArg ((S 1100007)) h56_
          have e778_ : S 26 (S 1100034 0) = S 26 (S 1100025 (S 1100033 0)) := congrArg ((S 26)) h56_
          exact (la_stepOther_118 h62_ h764_ e776_)
        refine ⟨?_, ?_⟩
        · skip
          have e779_ : (if S 1092 0 - 1 = S 1092 0 - 1 then p2 else S 57 (S 1092 0 - 1) : Int) = p2 := if_pos la_stepOther_116
          have e780_ : S 1100007 (S 1100034 0) = S 1100007 (S 1100025 (S 1100033 0)) := congrArg ((S 1100007)) h56_
          have e781_ : S 26 (S 1100034 0) = S 26 (S 1100025 (S 1100033 0)) := congrArg ((S 26)) h56_
          have e782_ : S 29 (if S 1092 0 - 1 = S 1092 0 - 1 then p2 else S 57 (S 1092 0 - 1)) = S 29 (S 27 (S 1100033 0)) := congrArg ((S 29)) (la_stepOther_13 h62_ e779_)
          exact (la_stepOther_30 h39_ h765_ e782_)
        refine ⟨h40_, ?_⟩
        refine ⟨h41_, ?_⟩
        refine ⟨?_, ?_⟩
        · skip
          have e783_ : (if S 1092 0 - 1 = S 1092 0 - 1 then p2 else S 57 (S 1092 0 - 1) : Int) = p2 := if_pos la_stepOther_116
          have e784_ : S 1100007 (S 1100034 0) = S 1100007 (S 1100025 (S 1100033 0)) := congrArg ((S 1100007)) h56_
          have e785_ : S 1100023 (if S 1092 0 - 1 = S 1092 0 - 1 then p2 else S 57 (S 1092 0 - 1)) = S 1100023 (S 27 (S 1100033 0)) := congrArg ((S 1100023)) (la_stepOther_13 h62_ e783_)
          have e786_ : S 26 (S 1100034 0) = S 26 (S 1100025 (S 1100033 0)) := congrArg ((S 26)) h56_
          have e787_ : sm_dp (S 1100024) (S 1100023 (if S 1092 0 - 1 = S 1092 0 - 1 then p2 else S 57 (S 1092 0 - 1))) = sm_dp (S 1100024) (S 1100023 (S 1100033 0)) := congrArg ((sm_dp (S 1100024))) (la_stepOther_13 h767_ e785_)
          exact (la_stepOther_31 h42_ e787_)
        refine ⟨?_, ?_⟩
        · skip
          have e788_ : (if S 1092 0 - 1 = S 1092 0 - 1 then p2 else S 57 (S 1092 0 - 1) : Int) = p2 := if_pos la_stepOther_116
          have e789_ : S 1100007 (S 1100034 0) = S 1100007 (S 1100025 (S 1100033 0)) := congrArg ((S 1100007)) h56_
          have e790_ : S 1100023 (if S 1092 0 - 1 = S 1092 0 - 1 then p2 else S 57 (S 1092 0 - 1)) = S 1100023 (S 27 (S 1100033 0)) := congrArg ((S 1100023)) (la_stepOther_13 h62_ e788_)
          have e791_ : S 26 (S 1100034 0) = S 26 (S 1100025 (S 1100033 0)) := congrArg ((S 26)) h56_
          exact (sm_TC_t h43_ (la_stepOther_32 h767_ e790_))
        refine ⟨h44_, ?_⟩
        refine ⟨h45_, ?_⟩
        refine ⟨h46_, ?_⟩
        refine ⟨(sm_FL_F h47_ sm_F1_rf sm_F1_rf sm_F1_rf sm_F1_rf (sm_F1_up sm_F1_rf (Int.le_refl _)) sm_F1_rf sm_F1_rf sm_F1_rf sm_F1_rf sm_F1_rf sm_F1_rf sm_F1_rf (Int.le_refl _) (Int.le_refl _) sm_F1_rf sm_F1_rf (sm_FL_dp h47_ h24_)), ?_⟩
        refine ⟨?_, ?_⟩
        · skip
          have e792_ : (if S 1092 0 - 1 = S 1092 0 - 1 then p2 else S 57 (S 1092 0 - 1) : Int) = p2 := if_pos la_stepOther_116
          have e793_ : S 1100007 (S 1100034 0) = S 1100007 (S 1100025 (S 1100033 0)) := congrArg ((S 1100007)) h56_
          have e794_ : S 1100007 (if S 1092 0 - 1 = S 1092 0 - 1 then p2 else S 57 (S 1092 0 - 1)) = S 1100007 (S 27 (S 1100033 0)) := congrArg ((S 1100007)) (la_stepOther_13 h62_ e792_)
          have e795_ : S 26 (S 1100034 0) = S 26 (S 1100025 (S 1100033 0)) := congrArg ((S 26)) h56_
          exact (la_stepOther_119 h55_ h766_ e794_)
        have e796_ : (if S 1092 0 - 1 = S 1092 0 - 1 then p2 else S 57 (S 1092 0 - 1) : Int) = p2 := if_pos la_stepOther_116
        have e797_ : S 1100007 (S 1100034 0) = S 1100007 (S 1100025 (S 1100033 0)) := congrArg ((S 1100007)) h56_
        have e798_ : S 1100025 (if S 1092 0 - 1 = S 1092 0 - 1 then p2 else S 57 (S 1092 0 - 1)) = S 1100025 (S 27 (S 1100033 0)) := congrArg ((S 1100025)) (la_stepOther_13 h62_ e796_)
        have e799_ : S 26 (S 1100034 0) = S 26 (S 1100025 (S 1100033 0)) := congrArg ((S 26)) h56_
        exact (sm_SK_q h51_ (la_stepOther_52 h56_ h768_ e798_) rfl rfl)
      refine ⟨?_, ?_⟩
      · skip
        intro h800_
        have h801_ := (h63_.resolve_left (la_stepOther_121 h800_))
        have h802_ := (h80_.resolve_left (la_stepOther_122 h800_))
        have h803_ := (h82_.resolve_left (la_stepOther_122 h800_))
        have h804_ := (h801_.resolve_left (la_stepOther_123 h800_))
        have h805_ := (h804_.resolve_left (la_stepOther_124 h800_))
        intro h806_
        have h807_ := (h806_ h24_)
        have h808_ := (h807_ h37_)
        have h809_ := (h808_ h38_)
        obtain ⟨⟨h810_, ⟨h811_, h812_⟩⟩, ⟨⟨h813_, ⟨h814_, ⟨h815_, ⟨h816_, ⟨h817_, h818_⟩⟩⟩⟩⟩, ⟨h819_, ⟨h820_, ⟨h821_, ⟨h822_, ⟨h823_, h824_⟩⟩⟩⟩⟩⟩⟩ := (h809_ (la_stepOther_125 h61_ h800_))
        intro h825_
        have h826_ := (h825_ h56_)
        have h827_ := (h826_ h55_)
        have h828_ := (h827_ h812_)
        intro h829_
        have h830_ := (h829_ h51_)
        have h831_ := (h830_ h25_)
        have h832_ := (h831_ (la_stepOther_43 h805_))
        have h833_ := (h832_ la_stepOther_44)
        have h834_ := (h833_ h53_)
        have h835_ := (h834_ h56_)
        have h836_ := (h835_ h55_)
        have h837_ := (h836_ h54_)
        have h838_ := (h837_ h812_)
        refine ⟨(la_stepOther_22 h35_ h36_ h58_ h805_), ?_⟩
        intro g97
        rintro ⟨h839_, h840_⟩
        refine ⟨?_, ?_⟩
        · skip
          refine ⟨h21_, ?_⟩
          refine ⟨h22_, ?_⟩
          refine ⟨h23_, ?_⟩
          intro h841_
          refine ⟨?_, ?_⟩
          · skip
            have h842_ := (h840_ (S 1092 0 - 1))
            have e843_ : S 1100007 (S 1100034 0) = S 1100007 (S 1100025 (S 1100033 0)) := congrArg ((S 1100007)) h56_
            have e844_ : S 26 (S 1100034 0) = S 26 (S 1100025 (S 1100033 0)) := congrArg ((S 26)) h56_
            have e845_ : S 63 (400 * (S 1092 0 - 1) + S 58 (S 1092 0 - 1) - 1 - 0) = S 63 (400 * (S 1092 0 - 1) + (S 58 (S 1092 0 - 1) - 1)) := congrArg ((S 63)) la_stepOther_49
            have e846_ : S 64 (400 * (S 1092 0 - 1) + S 58 (S 1092 0 - 1) - 1 - 0) = S 64 (400 * (S 1092 0 - 1) + (S 58 (S 1092 0 - 1) - 1)) := congrArg ((S 64)) la_stepOther_49
            obtain ⟨h847_, h848_⟩ := ((sm_VO_e h838_).2.2.1 (la_stepOther_126 h802_ h841_ e845_))
            exact (la_stepOther_128 h803_ e846_ h847_)
          have h849_ := (h840_ (S 1092 0 - 1))
          have e850_ : S 1100007 (S 1100034 0) = S 1100007 (S 1100025 (S 1100033 0)) := congrArg ((S 1100007)) h56_
          have e851_ : S 26 (S 1100034 0) = S 26 (S 1100025 (S 1100033 0)) := congrArg ((S 26)) h56_
          have e852_ : S 63 (400 * (S 1092 0 - 1) + S 58 (S 1092 0 - 1) - 1 - 0) = S 63 (400 * (S 1092 0 - 1) + (S 58 (S 1092 0 - 1) - 1)) := congrArg ((S 63)) la_stepOther_49
          have e853_ : S 64 (400 * (S 1092 0 - 1) + S 58 (S 1092 0 - 1) - 1 - 0) = S 64 (400 * (S 1092 0 - 1) + (S 58 (S 1092 0 - 1) - 1)) := congrArg ((S 64)) la_stepOther_49
          obtain ⟨h854_, h855_⟩ := ((sm_VO_e h838_).2.2.1 (la_stepOther_126 h802_ h841_ e852_))
          exact (la_stepOther_129 h22_ h803_ e853_ h855_)
        intro r107
        intro h856_
        intro h857_
        refine ⟨?_, ?_⟩
        · skip
          intro h858_
          have h859_ := (h857_.resolve_right (la_stepOther_16 h858_))
          refine ⟨(la_stepOther_115 h35_ h36_), ?_⟩
          refine ⟨h6_, ?_⟩
          refine ⟨h7_, ?_⟩
          refine ⟨h8_, ?_⟩
          refine ⟨h9_, ?_⟩
          refine ⟨h10_, ?_⟩
          refine ⟨h11_, ?_⟩
          refine ⟨h12_, ?_⟩
          refine ⟨h13_, ?_⟩
          refine ⟨h14_, ?_⟩
          refine ⟨h15_, ?_⟩
          refine ⟨h16_, ?_⟩
          refine ⟨h17_, ?_⟩
          refine ⟨?_, ?_⟩
          · skip
            intro h860_
            refine ⟨h18_, ?_⟩
            exact h19_
          refine ⟨h20_, ?_⟩
          refine ⟨h21_, ?_⟩
          refine ⟨h22_, ?_⟩
          refine ⟨h23_, ?_⟩
          refine ⟨h32_, ?_⟩
          refine ⟨(la_stepOther_24 h4_), ?_⟩
          refine ⟨(la_stepOther_25 h35_), ?_⟩
          refine ⟨h36_, ?_⟩
          intro h861_
          intro h862_
          refine ⟨h35_, ?_⟩
          refine ⟨h36_, ?_⟩
          refine ⟨?_, ?_⟩
          · skip
            have h863_ := (h840_ (S 1092 0 - 1))
            have e864_ : (if S 1092 0 - 1 = S 1092 0 - 1 then p2 else S 57 (S 1092 0 - 1) : Int) = p2 := if_pos la_stepOther_116
            have e865_ : S 1100007 (S 1100034 0) = S 1100007 (S 1100025 (S 1100033 0)) := congrArg ((S 1100007)) h56_
            have e866_ : S 26 (S 1100034 0) = S 26 (S 1100025 (S 1100033 0)) := congrArg ((S 26)) h56_
            have e867_ : S 63 (400 * (S 1092 0 - 1) + S 58 (S 1092 0 - 1) - 1 - 0) = S 63 (400 * (S 1092 0 - 1) + (S 58 (S 1092 0 - 1) - 1)) := congrArg ((S 63)) la_stepOther_49
            have e868_ : S 64 (400 * (S 1092 0 - 1) + S 58 (S 1092 0 - 1) - 1 - 0) = S 64 (400 * (S 1092 0 - 1) + (S 58 (S 1092 0 - 1) - 1)) := congrArg ((S 64)) la_stepOther_49
            exact (la_stepOther_117 h62_ h819_ e864_)
          refine ⟨?_, ?_⟩
          · skip
            have h869_ := (h840_ (S 1092 0 - 1))
            have e870_ : (if S 1092 0 - 1 = S 1092 0 - 1 then p2 else S 57 (S 1092 0 - 1) : Int) = p2 := if_pos la_stepOther_116
            have e871_ : S 1100007 (S 1100034 0) = S 1100007 (S 1100025 (S 1100033 0)) := congrArg ((S 1100007)) h56_
            have e872_ : S 26 (S 1100034 0) = S 26 (S 1100025 (S 1100033 0)) := congrArg ((S 26)) h56_
            have e873_ : S 63 (400 * (S 1092 0 - 1) + S 58 (S 1092 0 - 1) - 1 - 0) = S 63 (400 * (S 1092 0 - 1) + (S 58 (S 1092 0 - 1) - 1)) := congrArg ((S 63)) la_stepOther_49
            have e874_ : S 64 (400 * (S 1092 0 - 1) + S 58 (S 1092 0 - 1) - 1 - 0) = S 64 (400 * (S 1092 0 - 1) + (S 58 (S 1092 0 - 1) - 1)) := congrArg ((S 64)) la_stepOther_49
            exact (la_stepOther_118 h62_ h820_ e870_)
          refine ⟨?_, ?_⟩
          · skip
            have h875_ := (h840_ (S 1092 0 - 1))
            have e876_ : (if S 1092 0 - 1 = S 1092 0 - 1 then p2 else S 57 (S 1092 0 - 1) : Int) = p2 := if_pos la_stepOther_116
            have e877_ : S 1100007 (S 1100034 0) = S 1100007 (S 1100025 (S 1100033 0)) := congrArg ((S 1100007)) h56_
            have e878_ : S 26 (S 1100034 0) = S 26 (S 1100025 (S 1100033 0)) := congrArg ((S 26)) h56_
            have e879_ : S 29 (if S 1092 0 - 1 = S 1092 0 - 1 then p2 else S 57 (S 1092 0 - 1)) = S 29 (S 27 (S 1100033 0)) := congrArg ((S 29)) (la_stepOther_13 h62_ e876_)
            have e880_ : S 63 (400 * (S 1092 0 - 1) + S 58 (S 1092 0 - 1) - 1 - 0) = S 63 (400 * (S 1092 0 - 1) + (S 58 (S 1092 0 - 1) - 1)) := congrArg ((S 63)) la_stepOther_49
            have e881_ : S 64 (400 * (S 1092 0 - 1) + S 58 (S 1092 0 - 1) - 1 - 0) = S 64 (400 * (S 1092 0 - 1) + (S 58 (S 1092 0 - 1) - 1)) := congrArg ((S 64)) la_stepOther_49
            exact (la_stepOther_30 h39_ h821_ e879_)
          refine ⟨h40_, ?_⟩
          refine ⟨h41_, ?_⟩
          refine ⟨?_, ?_⟩
          · skip
            have h882_ := (h840_ (S 1092 0 - 1))
            have e883_ : (if S 1092 0 - 1 = S 1092 0 - 1 then p2 else S 57 (S 1092 0 - 1) : Int) = p2 := if_pos la_stepOther_116
            have e884_ : S 1100007 (S 1100034 0) = S 1100007 (S 1100025 (S 1100033 0)) := congrArg ((S 1100007)) h56_
            have e885_ : S 1100023 (if S 1092 0 - 1 = S 1092 0 - 1 then p2 else S 57 (S 1092 0 - 1)) = S 1100023 (S 27 (S 1100033 0)) := congrArg ((S 1100023)) (la_stepOther_13 h62_ e883_)
            have e886_ : S 26 (S 1100034 0) = S 26 (S 1100025 (S 1100033 0)) := congrArg ((S 26)) h56_
            have e887_ : S 63 (400 * (S 1092 0 - 1) + S 58 (S 1092 0 - 1) - 1 - 0) = S 63 (400 * (S 1092 0 - 1) + (S 58 (S 1092 0 - 1) - 1)) := congrArg ((S 63)) la_stepOther_49
            have e888_ : S 64 (400 * (S 1092 0 - 1) + S 58 (S 1092 0 - 1) - 1 - 0) = S 64 (400 * (S 1092 0 - 1) + (S 58 (S 1092 0 - 1) - 1)) := congrArg ((S 64)) la_stepOther_49
            have e889_ : sm_dp (S 1100024) (S 1100023 (if S 1092 0 - 1 = S 1092 0 - 1 then p2 else S 57 (S 1092 0 - 1))) = sm_dp (S 1100024) (S 1100023 (S 1100033 0)) := congrArg ((sm_dp (S 1100024))) (la_stepOther_13 h823_ e885_)
            exact (la_stepOther_31 h42_ e889_)
          refine ⟨?_, ?_⟩
          · skip
            have h890_ := (h840_ (S 1092 0 - 1))
            have e891_ : (if S 1092 0 - 1 = S 1092 0 - 1 then p2 else S 57 (S 1092 0 - 1) : Int) = p2 := if_pos la_stepOther_116
            have e892_ : S 1100007 (S 1100034 0) = S 1100007 (S 1100025 (S 1100033 0)) := congrArg ((S 1100007)) h56_
            have e893_ : S 1100023 (if S 1092 0 - 1 = S 1092 0 - 1 then p2 else S 57 (S 1092 0 - 1)) = S 1100023 (S 27 (S 1100033 0)) := congrArg ((S 1100023)) (la_stepOther_13 h62_ e891_)
            have e894_ : S 26 (S 1100034 0) = S 26 (S 1100025 (S 1100033 0)) := congrArg ((S 26)) h56_
            have e895_ : S 63 (400 * (S 1092 0 - 1) + S 58 (S 1092 0 - 1) - 1 - 0) = S 63 (400 * (S 1092 0 - 1) + (S 58 (S 1092 0 - 1) - 1)) := congrArg ((S 63)) la_stepOther_49
            have e896_ : S 64 (400 * (S 1092 0 - 1) + S 58 (S 1092 0 - 1) - 1 - 0) = S 64 (400 * (S 1092 0 - 1) + (S 58 (S 1092 0 - 1) - 1)) := congrArg ((S 64)) la_stepOther_49
            exact (sm_TC_t h43_ (la_stepOther_32 h823_ e893_))
          refine ⟨h44_, ?_⟩
          refine ⟨h45_, ?_⟩
          refine ⟨h46_, ?_⟩
          refine ⟨(sm_FL_F h47_ sm_F1_rf sm_F1_rf sm_F1_rf sm_F1_rf (sm_F1_up sm_F1_rf (Int.le_refl _)) (sm_F1_le (sm_F1_ne h840_ (Int.le_refl _)) (Int.le_refl _)) sm_F1_rf sm_F1_rf sm_F1_rf sm_F1_rf sm_F1_rf sm_F1_rf (Int.le_refl _) (Int.le_refl _) sm_F1_rf sm_F1_rf (sm_FL_dp h47_ h24_)), ?_⟩
          refine ⟨?_, ?_⟩
          · skip
            have h897_ := (h840_ (S 1092 0 - 1))
            have e898_ : (if S 1092 0 - 1 = S 1092 0 - 1 then p2 else S 57 (S 1092 0 - 1) : Int) = p2 := if_pos la_stepOther_116
            have e899_ : S 1100007 (S 1100034 0) = S 1100007 (S 1100025 (S 1100033 0)) := congrArg ((S 1100007)) h56_
            have e900_ : S 1100007 (if S 1092 0 - 1 = S 1092 0 - 1 then p2 else S 57 (S 1092 0 - 1)) = S 1100007 (S 27 (S 1100033 0)) := congrArg ((S 1100007)) (la_stepOther_13 h62_ e898_)
            have e901_ : S 26 (S 1100034 0) = S 26 (S 1100025 (S 1100033 0)) := congrArg ((S 26)) h56_
            have e902_ : S 63 (400 * (S 1092 0 - 1) + S 58 (S 1092 0 - 1) - 1 - 0) = S 63 (400 * (S 1092 0 - 1) + (S 58 (S 1092 0 - 1) - 1)) := congrArg ((S 63)) la_stepOther_49
            have e903_ : S 64 (400 * (S 1092 0 - 1) + S 58 (S 1092 0 - 1) - 1 - 0) = S 64 (400 * (S 1092 0 - 1) + (S 58 (S 1092 0 - 1) - 1)) := congrArg ((S 64)) la_stepOther_49
            exact (la_stepOther_33 h55_ h822_ h839_ e900_)
          have h904_ := (h840_ (S 1092 0 - 1))
          have e905_ : (if S 1092 0 - 1 = S 1092 0 - 1 then p2 else S 57 (S 1092 0 - 1) : Int) = p2 := if_pos la_stepOther_116
          have e906_ : S 1100007 (S 1100034 0) = S 1100007 (S 1100025 (S 1100033 0)) := congrArg ((S 1100007)) h56_
          have e907_ : S 1100025 (if S 1092 0 - 1 = S 1092 0 - 1 then p2 else S 57 (S 1092 0 - 1)) = S 1100025 (S 27 (S 1100033 0)) := congrArg ((S 1100025)) (la_stepOther_13 h62_ e905_)
          have e908_ : S 26 (S 1100034 0) = S 26 (S 1100025 (S 1100033 0)) := congrArg ((S 26)) h56_
          have e909_ : S 63 (400 * (S 1092 0 - 1) + S 58 (S 1092 0 - 1) - 1 - 0) = S 63 (400 * (S 1092 0 - 1) + (S 58 (S 1092 0 - 1) - 1)) := congrArg ((S 63)) la_stepOther_49
          have e910_ : S 64 (400 * (S 1092 0 - 1) + S 58 (S 1092 0 - 1) - 1 - 0) = S 64 (400 * (S 1092 0 - 1) + (S 58 (S 1092 0 - 1) - 1)) := congrArg ((S 64)) la_stepOther_49
          exact (sm_SK_q (sm_SK_pop h51_ (la_stepOther_130 h839_)) (la_stepOther_52 h56_ h824_ e907_) rfl rfl)
        intro h911_
        have h912_ := (h857_.resolve_left h911_)
        refine ⟨(la_stepOther_115 h35_ h36_), ?_⟩
        intro h913_
        refine ⟨(la_stepOther_133 h30_ h37_ h48_ h814_), ?_⟩
        refine ⟨h6_, ?_⟩
        refine ⟨h7_, ?_⟩
        refine ⟨h8_, ?_⟩
        refine ⟨h9_, ?_⟩
        refine ⟨h10_, ?_⟩
        refine ⟨h11_, ?_⟩
        refine ⟨h12_, ?_⟩
        refine ⟨h13_, ?_⟩
        refine ⟨h14_, ?_⟩
        refine ⟨h15_, ?_⟩
        refine ⟨h16_, ?_⟩
        refine ⟨h17_, ?_⟩
        refine ⟨?_, ?_⟩
        · skip
          intro h914_
          refine ⟨h18_, ?_⟩
          exact h19_
        refine ⟨h20_, ?_⟩
        refine ⟨h21_, ?_⟩
        refine ⟨h22_, ?_⟩
        refine ⟨h23_, ?_⟩
        refine ⟨h32_, ?_⟩
        refine ⟨(la_stepOther_24 h4_), ?_⟩
        refine ⟨(la_stepOther_25 h35_), ?_⟩
        refine ⟨h36_, ?_⟩
        intro h915_
        intro h916_
        refine ⟨h35_, ?_⟩
        refine ⟨h36_, ?_⟩
        refine ⟨?_, ?_⟩
        · skip
          have h917_ := (h840_ (S 1092 0 - 1))
          have e918_ : (if S 1092 0 - 1 = S 1092 0 - 1 then S 57 (S 1092 0 - 1) + 1 else S 57 (S 1092 0 - 1) : Int) = S 57 (S 1092 0 - 1) + 1 := if_pos la_stepOther_116
          have e919_ : S 1100007 (S 1100034 0) = S 1100007 (S 1100025 (S 1100033 0)) := congrArg ((S 1100007)) h56_
          have e920_ : S 26 (S 1100034 0) = S 26 (S 1100025 (S 1100033 0)) := congrArg ((S 26)) h56_
          have e921_ : S 63 (400 * (S 1092 0 - 1) + S 58 (S 1092 0 - 1) - 1 - 0) = S 63 (400 * (S 1092 0 - 1) + (S 58 (S 1092 0 - 1) - 1)) := congrArg ((S 63)) la_stepOther_49
          have e922_ : S 64 (400 * (S 1092 0 - 1) + S 58 (S 1092 0 - 1) - 1 - 0) = S 64 (400 * (S 1092 0 - 1) + (S 58 (S 1092 0 - 1) - 1)) := congrArg ((S 64)) la_stepOther_49
          exact (la_stepOther_26 h37_ h48_ e918_)
        refine ⟨?_, ?_⟩
        · skip
          have h923_ := (h840_ (S 1092 0 - 1))
          have e924_ : (if S 1092 0 - 1 = S 1092 0 - 1 then S 57 (S 1092 0 - 1) + 1 else S 57 (S 1092 0 - 1) : Int) = S 57 (S 1092 0 - 1) + 1 := if_pos la_stepOther_116
          have e925_ : S 1100007 (S 1100034 0) = S 1100007 (S 1100025 (S 1100033 0)) := congrArg ((S 1100007)) h56_
          have e926_ : S 26 (S 1100034 0) = S 26 (S 1100025 (S 1100033 0)) := congrArg ((S 26)) h56_
          have e927_ : S 63 (400 * (S 1092 0 - 1) + S 58 (S 1092 0 - 1) - 1 - 0) = S 63 (400 * (S 1092 0 - 1) + (S 58 (S 1092 0 - 1) - 1)) := congrArg ((S 63)) la_stepOther_49
          have e928_ : S 64 (400 * (S 1092 0 - 1) + S 58 (S 1092 0 - 1) - 1 - 0) = S 64 (400 * (S 1092 0 - 1) + (S 58 (S 1092 0 - 1) - 1)) := congrArg ((S 64)) la_stepOther_49
          exact (la_stepOther_27 h48_ h814_ e924_)
        refine ⟨?_, ?_⟩
        · skip
          have h929_ := (h840_ (S 1092 0 - 1))
          have e930_ : (if S 1092 0 - 1 = S 1092 0 - 1 then S 57 (S 1092 0 - 1) + 1 else S 57 (S 1092 0 - 1) : Int) = S 57 (S 1092 0 - 1) + 1 := if_pos la_stepOther_116
          have e931_ : S 1100007 (S 1100034 0) = S 1100007 (S 1100025 (S 1100033 0)) := congrArg ((S 1100007)) h56_
          have e932_ : S 26 (S 1100034 0) = S 26 (S 1100025 (S 1100033 0)) := congrArg ((S 26)) h56_
          have e933_ : S 29 (if S 1092 0 - 1 = S 1092 0 - 1 then S 57 (S 1092 0 - 1) + 1 else S 57 (S 1092 0 - 1)) = S 29 (S 1100033 0 + 1) := congrArg ((S 29)) (la_stepOther_29 h48_ e930_)
          have e934_ : S 63 (400 * (S 1092 0 - 1) + S 58 (S 1092 0 - 1) - 1 - 0) = S 63 (400 * (S 1092 0 - 1) + (S 58 (S 1092 0 - 1) - 1)) := congrArg ((S 63)) la_stepOther_49
          have e935_ : S 64 (400 * (S 1092 0 - 1) + S 58 (S 1092 0 - 1) - 1 - 0) = S 64 (400 * (S 1092 0 - 1) + (S 58 (S 1092 0 - 1) - 1)) := congrArg ((S 64)) la_stepOther_49
          exact (la_stepOther_30 h39_ h815_ e933_)
        refine ⟨h40_, ?_⟩
        refine ⟨h41_, ?_⟩
        refine ⟨?_, ?_⟩
        · skip
          have h936_ := (h840_ (S 1092 0 - 1))
          have e937_ : (if S 1092 0 - 1 = S 1092 0 - 1 then S 57 (S 1092 0 - 1) + 1 else S 57 (S 1092 0 - 1) : Int) = S 57 (S 1092 0 - 1) + 1 := if_pos la_stepOther_116
          have e938_ : S 1100007 (S 1100034 0) = S 1100007 (S 1100025 (S 1100033 0)) := congrArg ((S 1100007)) h56_
          have e939_ : S 1100023 (if S 1092 0 - 1 = S 1092 0 - 1 then S 57 (S 1092 0 - 1) + 1 else S 57 (S 1092 0 - 1)) = S 1100023 (S 1100033 0 + 1) := congrArg ((S 1100023)) (la_stepOther_29 h48_ e937_)
          have e940_ : S 26 (S 1100034 0) = S 26 (S 1100025 (S 1100033 0)) := congrArg ((S 26)) h56_
          have e941_ : S 63 (400 * (S 1092 0 - 1) + S 58 (S 1092 0 - 1) - 1 - 0) = S 63 (400 * (S 1092 0 - 1) + (S 58 (S 1092 0 - 1) - 1)) := congrArg ((S 63)) la_stepOther_49
          have e942_ : S 64 (400 * (S 1092 0 - 1) + S 58 (S 1092 0 - 1) - 1 - 0) = S 64 (400 * (S 1092 0 - 1) + (S 58 (S 1092 0 - 1) - 1)) := congrArg ((S 64)) la_stepOther_49
          have e943_ : sm_dp (S 1100024) (S 1100023 (if S 1092 0 - 1 = S 1092 0 - 1 then S 57 (S 1092 0 - 1) + 1 else S 57 (S 1092 0 - 1))) = sm_dp (S 1100024) (S 1100023 (S 1100033 0)) := congrArg ((sm_dp (S 1100024))) (la_stepOther_13 h817_ e939_)
          exact (la_stepOther_31 h42_ e943_)
        refine ⟨?_, ?_⟩
        · skip
          have h944_ := (h840_ (S 1092 0 - 1))
          have e945_ : (if S 1092 0 - 1 = S 1092 0 - 1 then S 57 (S 1092 0 - 1) + 1 else S 57 (S 1092 0 - 1) : Int) = S 57 (S 1092 0 - 1) + 1 := if_pos la_stepOther_116
          have e946_ : S 1100007 (S 1100034 0) = S 1100007 (S 1100025 (S 1100033 0)) := congrArg ((S 1100007)) h56_
          have e947_ : S 1100023 (if S 1092 0 - 1 = S 1092 0 - 1 then S 57 (S 1092 0 - 1) + 1 else S 57 (S 1092 0 - 1)) = S 1100023 (S 1100033 0 + 1) := congrArg ((S 1100023)) (la_stepOther_29 h48_ e945_)
          have e948_ : S 26 (S 1100034 0) = S 26 (S 1100025 (S 1100033 0)) := congrArg ((S 26)) h56_
          have e949_ : S 63 (400 * (S 1092 0 - 1) + S 58 (S 1092 0 - 1) - 1 - 0) = S 63 (400 * (S 1092 0 - 1) + (S 58 (S 1092 0 - 1) - 1)) := congrArg ((S 63)) la_stepOther_49
          have e950_ : S 64 (400 * (S 1092 0 - 1) + S 58 (S 1092 0 - 1) - 1 - 0) = S 64 (400 * (S 1092 0 - 1) + (S 58 (S 1092 0 - 1) - 1)) := congrArg ((S 64)) la_stepOther_49
          exact (sm_TC_t h43_ (la_stepOther_32 h817_ e947_))
        refine ⟨h44_, ?_⟩
        refine ⟨h45_, ?_⟩
        refine ⟨h46_, ?_⟩
        refine ⟨(sm_FL_F h47_ sm_F1_rf sm_F1_rf sm_F1_rf sm_F1_rf (sm_F1_up sm_F1_rf (Int.le_refl _)) (sm_F1_le (sm_F1_ne h840_ (Int.le_refl _)) (Int.le_refl _)) sm_F1_rf sm_F1_rf sm_F1_rf sm_F1_rf sm_F1_rf sm_F1_rf (Int.le_refl _) (Int.le_refl _) sm_F1_rf sm_F1_rf (sm_FL_dp h47_ h24_)), ?_⟩
        refine ⟨?_, ?_⟩
        · skip
          have h951_ := (h840_ (S 1092 0 - 1))
          have e952_ : (if S 1092 0 - 1 = S 1092 0 - 1 then S 57 (S 1092 0 - 1) + 1 else S 57 (S 1092 0 - 1) : Int) = S 57 (S 1092 0 - 1) + 1 := if_pos la_stepOther_116
          have e953_ : S 1100007 (S 1100034 0) = S 1100007 (S 1100025 (S 1100033 0)) := congrArg ((S 1100007)) h56_
          have e954_ : S 1100007 (if S 1092 0 - 1 = S 1092 0 - 1 then S 57 (S 1092 0 - 1) + 1 else S 57 (S 1092 0 - 1)) = S 1100007 (S 1100033 0 + 1) := congrArg ((S 1100007)) (la_stepOther_29 h48_ e952_)
          have e955_ : S 26 (S 1100034 0) = S 26 (S 1100025 (S 1100033 0)) := congrArg ((S 26)) h56_
          have e956_ : S 63 (400 * (S 1092 0 - 1) + S 58 (S 1092 0 - 1) - 1 - 0) = S 63 (400 * (S 1092 0 - 1) + (S 58 (S 1092 0 - 1) - 1)) := congrArg ((S 63)) la_stepOther_49
          have e957_ : S 64 (400 * (S 1092 0 - 1) + S 58 (S 1092 0 - 1) - 1 - 0) = S 64 (400 * (S 1092 0 - 1) + (S 58 (S 1092 0 - 1) - 1)) := congrArg ((S 64)) la_stepOther_49
          exact (la_stepOther_33 h55_ h816_ h839_ e954_)
        have h958_ := (h840_ (S 1092 0 - 1))
        have e959_ : (if S 1092 0 - 1 = S 1092 0 - 1 then S 57 (S 1092 0 - 1) + 1 else S 57 (S 1092 0 - 1) : Int) = S 57 (S 1092 0 - 1) + 1 := if_pos la_stepOther_116
        have e960_ : S 1100007 (S 1100034 0) = S 1100007 (S 1100025 (S 1100033 0)) := congrArg ((S 1100007)) h56_
        have e961_ : S 1100025 (if S 1092 0 - 1 = S 1092 0 - 1 then S 57 (S 1092 0 - 1) + 1 else S 57 (S 1092 0 - 1)) = S 1100025 (S 1100033 0 + 1) := congrArg ((S 1100025)) (la_stepOther_29 h48_ e959_)
        have e962_ : S 26 (S 1100034 0) = S 26 (S 1100025 (S 1100033 0)) := congrArg ((S 26)) h56_
        have e963_ : S 63 (400 * (S 1092 0 - 1) + S 58 (S 1092 0 - 1) - 1 - 0) = S 63 (400 * (S 1092 0 - 1) + (S 58 (S 1092 0 - 1) - 1)) := congrArg ((S 63)) la_stepOther_49
        have e964_ : S 64 (400 * (S 1092 0 - 1) + S 58 (S 1092 0 - 1) - 1 - 0) = S 64 (400 * (S 1092 0 - 1) + (S 58 (S 1092 0 - 1) - 1)) := congrArg ((S 64)) la_stepOther_49
        exact (sm_SK_q (sm_SK_pop h51_ (la_stepOther_130 h839_)) (la_stepOther_52 h56_ h818_ e961_) rfl rfl)
      refine ⟨?_, ?_⟩
      · skip
        intro h965_
        intro h966_
        have h967_ := (h966_ h80_)
        have h968_ := (h967_ h965_)
        intro h969_
        have h970_ := (h969_ h82_)
        have h971_ := (h970_ h965_)
        intro h972_
        have h973_ := (h972_ h24_)
        have h974_ := (h973_ h37_)
        have h975_ := (h974_ h38_)
        have h976_ := (h975_ h965_)
        obtain ⟨⟨h977_, ⟨h978_, h979_⟩⟩, ⟨⟨h980_, ⟨h981_, ⟨h982_, ⟨h983_, ⟨h984_, h985_⟩⟩⟩⟩⟩, ⟨h986_, ⟨h987_, ⟨h988_, ⟨h989_, ⟨h990_, h991_⟩⟩⟩⟩⟩⟩⟩ := (h976_ h61_)
        intro h992_
        have h993_ := (h992_ h56_)
        have h994_ := (h993_ h55_)
        have h995_ := (h994_ h979_)
        intro h996_
        have h997_ := (h996_ h51_)
        have h998_ := (h997_ h25_)
        have h999_ := (h998_ (la_stepOther_134 h55_ h977_))
        have h1000_ := (h999_ la_stepOther_44)
        have h1001_ := (h1000_ h53_)
        have h1002_ := (h1001_ h56_)
        have h1003_ := (h1002_ h55_)
        have h1004_ := (h1003_ h54_)
        have h1005_ := (h1004_ h979_)
        refine ⟨?_, ?_⟩
        · skip
          refine ⟨h21_, ?_⟩
          refine ⟨h22_, ?_⟩
          refine ⟨h23_, ?_⟩
          intro h1006_
          refine ⟨?_, ?_⟩
          · skip
            have e1007_ : S 1100007 (S 1100034 0) = S 1100007 (S 1100025 (S 1100033 0)) := congrArg ((S 1100007)) h56_
            have e1008_ : S 26 (S 1100034 0) = S 26 (S 1100025 (S 1100033 0)) := congrArg ((S 26)) h56_
            have e1009_ : S 63 (400 * (S 1092 0 - 1) + S 58 (S 1092 0 - 1) - 1 - 0) = S 63 (400 * (S 1092 0 - 1) + (S 58 (S 1092 0 - 1) - 1)) := congrArg ((S 63)) la_stepOther_49
            have e1010_ : S 64 (400 * (S 1092 0 - 1) + S 58 (S 1092 0 - 1) - 1 - 0) = S 64 (400 * (S 1092 0 - 1) + (S 58 (S 1092 0 - 1) - 1)) := congrArg ((S 64)) la_stepOther_49
            obtain ⟨h1011_, h1012_⟩ := ((sm_VO_e h1005_).2.2.1 (la_stepOther_126 h968_ h1006_ e1009_))
            exact (la_stepOther_128 h971_ e1010_ h1011_)
          have e1013_ : S 1100007 (S 1100034 0) = S 1100007 (S 1100025 (S 1100033 0)) := congrArg ((S 1100007)) h56_
          have e1014_ : S 26 (S 1100034 0) = S 26 (S 1100025 (S 1100033 0)) := congrArg ((S 26)) h56_
          have e1015_ : S 63 (400 * (S 1092 0 - 1) + S 58 (S 1092 0 - 1) - 1 - 0) = S 63 (400 * (S 1092 0 - 1) + (S 58 (S 1092 0 - 1) - 1)) := congrArg ((S 63)) la_stepOther_49
          have e1016_ : S 64 (400 * (S 1092 0 - 1) + S 58 (S 1092 0 - 1) - 1 - 0) = S 64 (400 * (S 1092 0 - 1) + (S 58 (S 1092 0 - 1) - 1)) := congrArg ((S 64)) la_stepOther_49
          obtain ⟨h1017_, h1018_⟩ := ((sm_VO_e h1005_).2.2.1 (la_stepOther_126 h968_ h1006_ e1015_))
          exact (la_stepOther_129 h22_ h971_ e1016_ h1018_)
        intro r126
        intro h1019_
        intro h1020_
        refine ⟨?_, ?_⟩
        · skip
          intro h1021_
          have h1022_ := (h965_.resolve_left h1021_)
          have h1023_ := (h63_.resolve_left (la_stepOther_137 h1022_))
          have h1024_ := (h1023_.resolve_left (la_stepOther_138 h1022_))
          have h1025_ := (h1024_.resolve_left (la_stepOther_139 h1022_))
          refine ⟨?_, ?_⟩
          · skip
            intro h1026_
            have h1027_ := (h1020_.resolve_left h1026_)
            refine ⟨(la_stepOther_115 h35_ h36_), ?_⟩
            refine ⟨h6_, ?_⟩
            refine ⟨h7_, ?_⟩
            refine ⟨h8_, ?_⟩
            refine ⟨h9_, ?_⟩
            refine ⟨h10_, ?_⟩
            refine ⟨h11_, ?_⟩
            refine ⟨h12_, ?_⟩
            refine ⟨h13_, ?_⟩
            refine ⟨h14_, ?_⟩
            refine ⟨h15_, ?_⟩
            refine ⟨h16_, ?_⟩
            refine ⟨h17_, ?_⟩
            refine ⟨?_, ?_⟩
            · skip
              intro h1028_
              refine ⟨h18_, ?_⟩
              exact h19_
            refine ⟨h20_, ?_⟩
            refine ⟨h21_, ?_⟩
            refine ⟨h22_, ?_⟩
            refine ⟨h23_, ?_⟩
            refine ⟨h32_, ?_⟩
            refine ⟨(la_stepOther_24 h4_), ?_⟩
            refine ⟨(la_stepOther_25 h35_), ?_⟩
            refine ⟨h36_, ?_⟩
            intro h1029_
            intro h1030_
            refine ⟨h35_, ?_⟩
            refine ⟨h36_, ?_⟩
            refine ⟨?_, ?_⟩
            · skip
              have e1031_ : (if S 1092 0 - 1 = S 1092 0 - 1 then p2 else S 57 (S 1092 0 - 1) : Int) = p2 := if_pos la_stepOther_116
              have e1032_ : S 1100007 (S 1100034 0) = S 1100007 (S 1100025 (S 1100033 0)) := congrArg ((S 1100007)) h56_
              have e1033_ : S 26 (S 1100034 0) = S 26 (S 1100025 (S 1100033 0)) := congrArg ((S 26)) h56_
              have e1034_ : S 63 (400 * (S 1092 0 - 1) + S 58 (S 1092 0 - 1) - 1 - 0) = S 63 (400 * (S 1092 0 - 1) + (S 58 (S 1092 0 - 1) - 1)) := congrArg ((S 63)) la_stepOther_49
              have e1035_ : S 64 (400 * (S 1092 0 - 1) + S 58 (S 1092 0 - 1) - 1 - 0) = S 64 (400 * (S 1092 0 - 1) + (S 58 (S 1092 0 - 1) - 1)) := congrArg ((S 64)) la_stepOther_49
              exact (la_stepOther_117 h62_ h986_ e1031_)
            refine ⟨?_, ?_⟩
            · skip
              have e1036_ : (if S 1092 0 - 1 = S 1092 0 - 1 then p2 else S 57 (S 1092 0 - 1) : Int) = p2 := if_pos la_stepOther_116
              have e1037_ : S 1100007 (S 1100034 0) = S 1100007 (S 1100025 (S 1100033 0)) := congrArg ((S 1100007)) h56_
              have e1038_ : S 26 (S 1100034 0) = S 26 (S 1100025 (S 1100033 0)) := congrArg ((S 26)) h56_
              have e1039_ : S 63 (400 * (S 1092 0 - 1) + S 58 (S 1092 0 - 1) - 1 - 0) = S 63 (400 * (S 1092 0 - 1) + (S 58 (S 1092 0 - 1) - 1)) := congrArg ((S 63)) la_stepOther_49
              have e1040_ : S 64 (400 * (S 1092 0 - 1) + S 58 (S 1092 0 - 1) - 1 - 0) = S 64 (400 * (S 1092 0 - 1) + (S 58 (S 1092 0 - 1) - 1)) := congrArg ((S 64)) la_stepOther_49
              exact (la_stepOther_118 h62_ h987_ e1036_)
            refine ⟨?_, ?_⟩
            · skip
              have e1041_ : (if S 1092 0 - 1 = S 1092 0 - 1 then p2 else S 57 (S 1092 0 - 1) : Int) = p2 := if_pos la_stepOther_116
              have e1042_ : S 1100007 (S 1100034 0) = S 1100007 (S 1100025 (S 1100033 0)) := congrArg ((S 1100007)) h56_
              have e1043_ : S 26 (S 1100034 0) = S 26 (S 1100025 (S 1100033 0)) := congrArg ((S 26)) h56_
              have e1044_ : S 29 (if S 1092 0 - 1 = S 1092 0 - 1 then p2 else S 57 (S 1092 0 - 1)) = S 29 (S 27 (S 1100033 0)) := congrArg ((S 29)) (la_stepOther_13 h62_ e1041_)
              have e1045_ : S 63 (400 * (S 1092 0 - 1) + S 58 (S 1092 0 - 1) - 1 - 0) = S 63 (400 * (S 1092 0 - 1) + (S 58 (S 1092 0 - 1) - 1)) := congrArg ((S 63)) la_stepOther_49
              have e1046_ : S 64 (400 * (S 1092 0 - 1) + S 58 (S 1092 0 - 1) - 1 - 0) = S 64 (400 * (S 1092 0 - 1) + (S 58 (S 1092 0 - 1) - 1)) := congrArg ((S 64)) la_stepOther_49
              exact (la_stepOther_30 h39_ h988_ e1044_)
            refine ⟨h40_, ?_⟩
            refine ⟨h41_, ?_⟩
            refine ⟨?_, ?_⟩
            · skip
              have e1047_ : (if S 1092 0 - 1 = S 1092 0 - 1 then p2 else S 57 (S 1092 0 - 1) : Int) = p2 := if_pos la_stepOther_116
              have e1048_ : S 1100007 (S 1100034 0) = S 1100007 (S 1100025 (S 1100033 0)) := congrArg ((S 1100007)) h56_
              have e1049_ : S 1100023 (if S 1092 0 - 1 = S 1092 0 - 1 then p2 else S 57 (S 1092 0 - 1)) = S 1100023 (S 27 (S 1100033 0)) := congrArg ((S 1100023)) (la_stepOther_13 h62_ e1047_)
              have e1050_ : S 26 (S 1100034 0) = S 26 (S 1100025 (S 1100033 0)) := congrArg ((S 26)) h56_
              have e1051_ : S 63 (400 * (S 1092 0 - 1) + S 58 (S 1092 0 - 1) - 1 - 0) = S 63 (400 * (S 1092 0 - 1) + (S 58 (S 1092 0 - 1) - 1)) := congrArg ((S 63)) la_stepOther_49
              have e1052_ : S 64 (400 * (S 1092 0 - 1) + S 58 (S 1092 0 - 1) - 1 - 0) = S 64 (400 * (S 1092 0 - 1) + (S 58 (S 1092 0 - 1) - 1)) := congrArg ((S 64)) la_stepOther_49
              have e1053_ : sm_dp (S 1100024) (S 1100023 (if S 1092 0 - 1 = S 1092 0 - 1 then p2 else S 57 (S 1092 0 - 1))) = sm_dp (S 1100024) (S 1100023 (S 1100033 0)) := congrArg ((sm_dp (S 1100024))) (la_stepOther_13 h990_ e1049_)
              exact (la_stepOther_31 h42_ e1053_)
            refine ⟨?_, ?_⟩
            · skip
              have e1054_ : (if S 1092 0 - 1 = S 1092 0 - 1 then p2 else S 57 (S 1092 0 - 1) : Int) = p2 := if_pos la_stepOther_116
              have e1055_ : S 1100007 (S 1100034 0) = S 1100007 (S 1100025 (S 1100033 0)) := congrArg ((S 1100007)) h56_
              have e1056_ : S 1100023 (if S 1092 0 - 1 = S 1092 0 - 1 then p2 else S 57 (S 1092 0 - 1)) = S 1100023 (S 27 (S 1100033 0)) := congrArg ((S 1100023)) (la_stepOther_13 h62_ e1054_)
              have e1057_ : S 26 (S 1100034 0) = S 26 (S 1100025 (S 1100033 0)) := congrArg ((S 26)) h56_
              have e1058_ : S 63 (400 * (S 1092 0 - 1) + S 58 (S 1092 0 - 1) - 1 - 0) = S 63 (400 * (S 1092 0 - 1) + (S 58 (S 1092 0 - 1) - 1)) := congrArg ((S 63)) la_stepOther_49
              have e1059_ : S 64 (400 * (S 1092 0 - 1) + S 58 (S 1092 0 - 1) - 1 - 0) = S 64 (400 * (S 1092 0 - 1) + (S 58 (S 1092 0 - 1) - 1)) := congrArg ((S 64)) la_stepOther_49
              exact (sm_TC_t h43_ (la_stepOther_32 h990_ e1056_))
            refine ⟨h44_, ?_⟩
            refine ⟨h45_, ?_⟩
            refine ⟨h46_, ?_⟩
            refine ⟨(sm_FL_F h47_ sm_F1_rf sm_F1_rf sm_F1_rf sm_F1_rf (sm_F1_up sm_F1_rf (Int.le_refl _)) sm_F1_rf sm_F1_rf sm_F1_rf sm_F1_rf sm_F1_rf sm_F1_rf sm_F1_rf (Int.le_refl _) (Int.le_refl _) sm_F1_rf sm_F1_rf (sm_FL_dp h47_ h24_)), ?_⟩
            refine ⟨?_, ?_⟩
            · skip
              have e1060_ : (if S 1092 0 - 1 = S 1092 0 - 1 then p2 else S 57 (S 1092 0 - 1) : Int) = p2 := if_pos la_stepOther_116
              have e1061_ : S 1100007 (S 1100034 0) = S 1100007 (S 1100025 (S 1100033 0)) := congrArg ((S 1100007)) h56_
              have e1062_ : S 1100007 (if S 1092 0 - 1 = S 1092 0 - 1 then p2 else S 57 (S 1092 0 - 1)) = S 1100007 (S 27 (S 1100033 0)) := congrArg ((S 1100007)) (la_stepOther_13 h62_ e1060_)
              have e1063_ : S 26 (S 1100034 0) = S 26 (S 1100025 (S 1100033 0)) := congrArg ((S 26)) h56_
              have e1064_ : S 63 (400 * (S 1092 0 - 1) + S 58 (S 1092 0 - 1) - 1 - 0) = S 63 (400 * (S 1092 0 - 1) + (S 58 (S 1092 0 - 1) - 1)) := congrArg ((S 63)) la_stepOther_49
              have e1065_ : S 64 (400 * (S 1092 0 - 1) + S 58 (S 1092 0 - 1) - 1 - 0) = S 64 (400 * (S 1092 0 - 1) + (S 58 (S 1092 0 - 1) - 1)) := congrArg ((S 64)) la_stepOther_49
              exact (la_stepOther_119 h55_ h989_ e1062_)
            have e1066_ : (if S 1092 0 - 1 = S 1092 0 - 1 then p2 else S 57 (S 1092 0 - 1) : Int) = p2 := if_pos la_stepOther_116
            have e1067_ : S 1100007 (S 1100034 0) = S 1100007 (S 1100025 (S 1100033 0)) := congrArg ((S 1100007)) h56_
            have e1068_ : S 1100025 (if S 1092 0 - 1 = S 1092 0 - 1 then p2 else S 57 (S 1092 0 - 1)) = S 1100025 (S 27 (S 1100033 0)) := congrArg ((S 1100025)) (la_stepOther_13 h62_ e1066_)
            have e1069_ : S 26 (S 1100034 0) = S 26 (S 1100025 (S 1100033 0)) := congrArg ((S 26)) h56_
            have e1070_ : S 63 (400 * (S 1092 0 - 1) + S 58 (S 1092 0 - 1) - 1 - 0) = S 63 (400 * (S 1092 0 - 1) + (S 58 (S 1092 0 - 1) - 1)) := congrArg ((S 63)) la_stepOther_49
            have e1071_ : S 64 (400 * (S 1092 0 - 1) + S 58 (S 1092 0 - 1) - 1 - 0) = S 64 (400 * (S 1092 0 - 1) + (S 58 (S 1092 0 - 1) - 1)) := congrArg ((S 64)) la_stepOther_49
            exact (sm_SK_q h51_ (la_stepOther_52 h56_ h991_ e1068_) rfl rfl)
          intro h1072_
          have h1073_ := (h1020_.resolve_right (la_stepOther_140 h1072_))
          refine ⟨(la_stepOther_22 h35_ h36_ h58_ h1025_), ?_⟩
          intro g131
          rintro ⟨h1074_, h1075_⟩
          refine ⟨(la_stepOther_23 h30_ h35_ h36_ h37_ h48_ h981_), ?_⟩
          intro g137
          rintro ⟨h1076_, h1077_⟩
          refine ⟨h6_, ?_⟩
          refine ⟨h7_, ?_⟩
          refine ⟨h8_, ?_⟩
          refine ⟨h9_, ?_⟩
          refine ⟨h10_, ?_⟩
          refine ⟨h11_, ?_⟩
          refine ⟨h12_, ?_⟩
          refine ⟨h13_, ?_⟩
          refine ⟨h14_, ?_⟩
          refine ⟨h15_, ?_⟩
          refine ⟨h16_, ?_⟩
          refine ⟨h17_, ?_⟩
          refine ⟨?_, ?_⟩
          · skip
            intro h1078_
            refine ⟨h18_, ?_⟩
            exact h19_
          refine ⟨h20_, ?_⟩
          refine ⟨h21_, ?_⟩
          refine ⟨h22_, ?_⟩
          refine ⟨h23_, ?_⟩
          refine ⟨h32_, ?_⟩
          refine ⟨(la_stepOther_24 h4_), ?_⟩
          refine ⟨(la_stepOther_25 h35_), ?_⟩
          refine ⟨h36_, ?_⟩
          intro h1079_
          intro h1080_
          refine ⟨h35_, ?_⟩
          refine ⟨h36_, ?_⟩
          refine ⟨(la_stepOther_26 h37_ h48_ h1076_), ?_⟩
          refine ⟨(la_stepOther_27 h48_ h981_ h1076_), ?_⟩
          refine ⟨?_, ?_⟩
          · skip
            have h1081_ := (h1075_ (S 1092 0 - 1))
            have h1082_ := (h1077_ (S 1092 0 - 1))
            have e1083_ : S 1100007 (S 1100034 0) = S 1100007 (S 1100025 (S 1100033 0)) := congrArg ((S 1100007)) h56_
            have e1084_ : S 26 (S 1100034 0) = S 26 (S 1100025 (S 1100033 0)) := congrArg ((S 26)) h56_
            have e1085_ : S 29 (g137 57 (S 1092 0 - 1)) = S 29 (S 1100033 0 + 1) := congrArg ((S 29)) (la_stepOther_29 h48_ h1076_)
            have e1086_ : S 63 (400 * (S 1092 0 - 1) + S 58 (S 1092 0 - 1) - 1 - 0) = S 63 (400 * (S 1092 0 - 1) + (S 58 (S 1092 0 - 1) - 1)) := congrArg ((S 63)) la_stepOther_49
            have e1087_ : S 64 (400 * (S 1092 0 - 1) + S 58 (S 1092 0 - 1) - 1 - 0) = S 64 (400 * (S 1092 0 - 1) + (S 58 (S 1092 0 - 1) - 1)) := congrArg ((S 64)) la_stepOther_49
            exact (la_stepOther_30 h39_ h982_ e1085_)
          refine ⟨h40_, ?_⟩
          refine ⟨h41_, ?_⟩
          refine ⟨?_, ?_⟩
          · skip
            have h1088_ := (h1075_ (S 1092 0 - 1))
            have h1089_ := (h1077_ (S 1092 0 - 1))
            have e1090_ : S 1100007 (S 1100034 0) = S 1100007 (S 1100025 (S 1100033 0)) := congrArg ((S 1100007)) h56_
            have e1091_ : S 1100023 (g137 57 (S 1092 0 - 1)) = S 1100023 (S 1100033 0 + 1) := congrArg ((S 1100023)) (la_stepOther_29 h48_ h1076_)
            have e1092_ : S 26 (S 1100034 0) = S 26 (S 1100025 (S 1100033 0)) := congrArg ((S 26)) h56_
            have e1093_ : S 63 (400 * (S 1092 0 - 1) + S 58 (S 1092 0 - 1) - 1 - 0) = S 63 (400 * (S 1092 0 - 1) + (S 58 (S 1092 0 - 1) - 1)) := congrArg ((S 63)) la_stepOther_49
            have e1094_ : S 64 (400 * (S 1092 0 - 1) + S 58 (S 1092 0 - 1) - 1 - 0) = S 64 (400 * (S 1092 0 - 1) + (S 58 (S 1092 0 - 1) - 1)) := congrArg ((S 64)) la_stepOther_49
            have e1095_ : sm_dp (S 1100024) (S 1100023 (g137 57 (S 1092 0 - 1))) = sm_dp (S 1100024) (S 1100023 (S 1100033 0)) := congrArg ((sm_dp (S 1100024))) (la_stepOther_13 h984_ e1091_)
            exact (la_stepOther_31 h42_ e1095_)
          refine ⟨?_, ?_⟩
          · skip
            have h1096_ := (h1075_ (S 1092 0 - 1))
            have h1097_ := (h1077_ (S 1092 0 - 1))
            have e1098_ : S 1100007 (S 1100034 0) = S 1100007 (S 1100025 (S 1100033 0)) := congrArg ((S 1100007)) h56_
            have e1099_ : S 1100023 (g137 57 (S 1092 0 - 1)) = S 1100023 (S 1100033 0 + 1) := congrArg ((S 1100023)) (la_stepOther_29 h48_ h1076_)
            have e1100_ : S 26 (S 1100034 0) = S 26 (S 1100025 (S 1100033 0)) := congrArg ((S 26)) h56_
            have e1101_ : S 63 (400 * (S 1092 0 - 1) + S 58 (S 1092 0 - 1) - 1 - 0) = S 63 (400 * (S 1092 0 - 1) + (S 58 (S 1092 0 - 1) - 1)) := congrArg ((S 63)) la_stepOther_49
            have e1102_ : S 64 (400 * (S 1092 0 - 1) + S 58 (S 1092 0 - 1) - 1 - 0) = S 64 (400 * (S 1092 0 - 1) + (S 58 (S 1092 0 - 1) - 1)) := congrArg ((S 64)) la_stepOther_49
            exact (sm_TC_t h43_ (la_stepOther_32 h984_ e1099_))
          refine ⟨h44_, ?_⟩
          refine ⟨h45_, ?_⟩
          refine ⟨h46_, ?_⟩
          refine ⟨(sm_FL_F h47_ sm_F1_rf sm_F1_rf sm_F1_rf sm_F1_rf (sm_F1_le (sm_F1_ne h1077_ (Int.le_refl _)) (Int.le_refl _)) (sm_F1_le (sm_F1_ne h1075_ (Int.le_refl _)) (Int.le_refl _)) sm_F1_rf sm_F1_rf sm_F1_rf sm_F1_rf sm_F1_rf sm_F1_rf (Int.le_refl _) (Int.le_refl _) sm_F1_rf sm_F1_rf (sm_FL_dp h47_ h24_)), ?_⟩
          refine ⟨?_, ?_⟩
          · skip
            have h1103_ := (h1075_ (S 1092 0 - 1))
            have h1104_ := (h1077_ (S 1092 0 - 1))
            have e1105_ : S 1100007 (S 1100034 0) = S 1100007 (S 1100025 (S 1100033 0)) := congrArg ((S 1100007)) h56_
            have e1106_ : S 1100007 (g137 57 (S 1092 0 - 1)) = S 1100007 (S 1100033 0 + 1) := congrArg ((S 1100007)) (la_stepOther_29 h48_ h1076_)
            have e1107_ : S 26 (S 1100034 0) = S 26 (S 1100025 (S 1100033 0)) := congrArg ((S 26)) h56_
            have e1108_ : S 63 (400 * (S 1092 0 - 1) + S 58 (S 1092 0 - 1) - 1 - 0) = S 63 (400 * (S 1092 0 - 1) + (S 58 (S 1092 0 - 1) - 1)) := congrArg ((S 63)) la_stepOther_49
            have e1109_ : S 64 (400 * (S 1092 0 - 1) + S 58 (S 1092 0 - 1) - 1 - 0) = S 64 (400 * (S 1092 0 - 1) + (S 58 (S 1092 0 - 1) - 1)) := congrArg ((S 64)) la_stepOther_49
            exact (la_stepOther_33 h55_ h983_ h1074_ e1106_)
          have h1110_ := (h1075_ (S 1092 0 - 1))
          have h1111_ := (h1077_ (S 1092 0 - 1))
          have e1112_ : S 1100007 (S 1100034 0) = S 1100007 (S 1100025 (S 1100033 0)) := congrArg ((S 1100007)) h56_
          have e1113_ : S 1100025 (g137 57 (S 1092 0 - 1)) = S 1100025 (S 1100033 0 + 1) := congrArg ((S 1100025)) (la_stepOther_29 h48_ h1076_)
          have e1114_ : S 26 (S 1100034 0) = S 26 (S 1100025 (S 1100033 0)) := congrArg ((S 26)) h56_
          have e1115_ : S 63 (400 * (S 1092 0 - 1) + S 58 (S 1092 0 - 1) - 1 - 0) = S 63 (400 * (S 1092 0 - 1) + (S 58 (S 1092 0 - 1) - 1)) := congrArg ((S 63)) la_stepOther_49
          have e1116_ : S 64 (400 * (S 1092 0 - 1) + S 58 (S 1092 0 - 1) - 1 - 0) = S 64 (400 * (S 1092 0 - 1) + (S 58 (S 1092 0 - 1) - 1)) := congrArg ((S 64)) la_stepOther_49
          exact (sm_SK_q (sm_SK_pop h51_ (la_stepOther_130 h1074_)) (la_stepOther_52 h56_ h985_ e1113_) rfl rfl)
        intro h1117_
        have h1118_ := (h63_.resolve_left (la_stepOther_141 h1117_))
        have h1119_ := (h965_.resolve_right (la_stepOther_142 h1117_))
        have h1120_ := (h1118_.resolve_left (la_stepOther_143 h1117_))
        have h1121_ := (h1120_.resolve_left (la_stepOther_144 h1117_))
        refine ⟨?_, ?_⟩
        · skip
          intro h1122_
          have h1123_ := (h1020_.resolve_right h1122_)
          refine ⟨(la_stepOther_115 h35_ h36_), ?_⟩
          refine ⟨h6_, ?_⟩
          refine ⟨h7_, ?_⟩
          refine ⟨h8_, ?_⟩
          refine ⟨h9_, ?_⟩
          refine ⟨h10_, ?_⟩
          refine ⟨h11_, ?_⟩
          refine ⟨h12_, ?_⟩
          refine ⟨h13_, ?_⟩
          refine ⟨h14_, ?_⟩
          refine ⟨h15_, ?_⟩
          refine ⟨h16_, ?_⟩
          refine ⟨h17_, ?_⟩
          refine ⟨?_, ?_⟩
          · skip
            intro h1124_
            refine ⟨h18_, ?_⟩
            exact h19_
          refine ⟨h20_, ?_⟩
          refine ⟨h21_, ?_⟩
          refine ⟨h22_, ?_⟩
          refine ⟨h23_, ?_⟩
          refine ⟨h32_, ?_⟩
          refine ⟨(la_stepOther_24 h4_), ?_⟩
          refine ⟨(la_stepOther_25 h35_), ?_⟩
          refine ⟨h36_, ?_⟩
          intro h1125_
          intro h1126_
          refine ⟨h35_, ?_⟩
          refine ⟨h36_, ?_⟩
          refine ⟨?_, ?_⟩
          · skip
            have e1127_ : (if S 1092 0 - 1 = S 1092 0 - 1 then p2 else S 57 (S 1092 0 - 1) : Int) = p2 := if_pos la_stepOther_116
            have e1128_ : S 1100007 (S 1100034 0) = S 1100007 (S 1100025 (S 1100033 0)) := congrArg ((S 1100007)) h56_
            have e1129_ : S 26 (S 1100034 0) = S 26 (S 1100025 (S 1100033 0)) := congrArg ((S 26)) h56_
            have e1130_ : S 63 (400 * (S 1092 0 - 1) + S 58 (S 1092 0 - 1) - 1 - 0) = S 63 (400 * (S 1092 0 - 1) + (S 58 (S 1092 0 - 1) - 1)) := congrArg ((S 63)) la_stepOther_49
            have e1131_ : S 64 (400 * (S 1092 0 - 1) + S 58 (S 1092 0 - 1) - 1 - 0) = S 64 (400 * (S 1092 0 - 1) + (S 58 (S 1092 0 - 1) - 1)) := congrArg ((S 64)) la_stepOther_49
            exact (la_stepOther_117 h62_ h986_ e1127_)
          refine ⟨?_, ?_⟩
          · skip
            have e1132_ : (if S 1092 0 - 1 = S 1092 0 - 1 then p2 else S 57 (S 1092 0 - 1) : Int) = p2 := if_pos la_stepOther_116
            have e1133_ : S 1100007 (S 1100034 0) = S 1100007 (S 1100025 (S 1100033 0)) := congrArg ((S 1100007)) h56_
            have e1134_ : S 26 (S 1100034 0) = S 26 (S 1100025 (S 1100033 0)) := congrArg ((S 26)) h56_
            have e1135_ : S 63 (400 * (S 1092 0 - 1) + S 58 (S 1092 0 - 1) - 1 - 0) = S 63 (400 * (S 1092 0 - 1) + (S 58 (S 1092 0 - 1) - 1)) := congrArg ((S 63)) la_stepOther_49
            have e1136_ : S 64 (400 * (S 1092 0 - 1) + S 58 (S 1092 0 - 1) - 1 - 0) = S 64 (400 * (S 1092 0 - 1) + (S 58 (S 1092 0 - 1) - 1)) := congrArg ((S 64)) la_stepOther_49
            exact (la_stepOther_118 h62_ h987_ e1132_)
          refine ⟨?_, ?_⟩
          · skip
            have e1137_ : (if S 1092 0 - 1 = S 1092 0 - 1 then p2 else S 57 (S 1092 0 - 1) : Int) = p2 := if_pos la_stepOther_116
            have e1138_ : S 1100007 (S 1100034 0) = S 1100007 (S 1100025 (S 1100033 0)) := congrArg ((S 1100007)) h56_
            have e1139_ : S 26 (S 1100034 0) = S 26 (S 1100025 (S 1100033 0)) := congrArg ((S 26)) h56_
            have e1140_ : S 29 (if S 1092 0 - 1 = S 1092 0 - 1 then p2 else S 57 (S 1092 0 - 1)) = S 29 (S 27 (S 1100033 0)) := congrArg ((S 29)) (la_stepOther_13 h62_ e1137_)
            have e1141_ : S 63 (400 * (S 1092 0 - 1) + S 58 (S 1092 0 - 1) - 1 - 0) = S 63 (400 * (S 1092 0 - 1) + (S 58 (S 1092 0 - 1) - 1)) := congrArg ((S 63)) la_stepOther_49
            have e1142_ : S 64 (400 * (S 1092 0 - 1) + S 58 (S 1092 0 - 1) - 1 - 0) = S 64 (400 * (S 1092 0 - 1) + (S 58 (S 1092 0 - 1) - 1)) := congrArg ((S 64)) la_stepOther_49
            exact (la_stepOther_30 h39_ h988_ e1140_)
          refine ⟨h40_, ?_⟩
          refine ⟨h41_, ?_⟩
          refine ⟨?_, ?_⟩
          · skip
            have e1143_ : (if S 1092 0 - 1 = S 1092 0 - 1 then p2 else S 57 (S 1092 0 - 1) : Int) = p2 := if_pos la_stepOther_116
            have e1144_ : S 1100007 (S 1100034 0) = S 1100007 (S 1100025 (S 1100033 0)) := congrArg ((S 1100007)) h56_
            have e1145_ : S 1100023 (if S 1092 0 - 1 = S 1092 0 - 1 then p2 else S 57 (S 1092 0 - 1)) = S 1100023 (S 27 (S 1100033 0)) := congrArg ((S 1100023)) (la_stepOther_13 h62_ e1143_)
            have e1146_ : S 26 (S 1100034 0) = S 26 (S 1100025 (S 1100033 0)) := congrArg ((S 26)) h56_
            have e1147_ : S 63 (400 * (S 1092 0 - 1) + S 58 (S 1092 0 - 1) - 1 - 0) = S 63 (400 * (S 1092 0 - 1) + (S 58 (S 1092 0 - 1) - 1)) := congrArg ((S 63)) la_stepOther_49
            have e1148_ : S 64 (400 * (S 1092 0 - 1) + S 58 (S 1092 0 - 1) - 1 - 0) = S 64 (400 * (S 1092 0 - 1) + (S 58 (S 1092 0 - 1) - 1)) := congrArg ((S 64)) la_stepOther_49
            have e1149_ : sm_dp (S 1100024) (S 1100023 (if S 1092 0 - 1 = S 1092 0 - 1 then p2 else S 57 (S 1092 0 - 1))) = sm_dp (S 1100024) (S 1100023 (S 1100033 0)) := congrArg ((sm_dp (S 1100024))) (la_stepOther_13 h990_ e1145_)
            exact (la_stepOther_31 h42_ e1149_)
          refine ⟨?_, ?_⟩
          · skip
            have e1150_ : (if S 1092 0 - 1 = S 1092 0 - 1 then p2 else S 57 (S 1092 0 - 1) : Int) = p2 := if_pos la_stepOther_116
            have e1151_ : S 1100007 (S 1100034 0) = S 1100007 (S 1100025 (S 1100033 0)) := congrArg ((S 1100007)) h56_
            have e1152_ : S 1100023 (if S 1092 0 - 1 = S 1092 0 - 1 then p2 else S 57 (S 1092 0 - 1)) = S 1100023 (S 27 (S 1100033 0)) := congrArg ((S 1100023)) (la_stepOther_13 h62_ e1150_)
            have e1153_ : S 26 (S 1100034 0) = S 26 (S 1100025 (S 1100033 0)) := congrArg ((S 26)) h56_
            have e1154_ : S 63 (400 * (S 1092 0 - 1) + S 58 (S 1092 0 - 1) - 1 - 0) = S 63 (400 * (S 1092 0 - 1) + (S 58 (S 1092 0 - 1) - 1)) := congrArg ((S 63)) la_stepOther_49
            have e1155_ : S 64 (400 * (S 1092 0 - 1) + S 58 (S 1092 0 - 1) - 1 - 0) = S 64 (400 * (S 1092 0 - 1) + (S 58 (S 1092 0 - 1) - 1)) := congrArg ((S 64)) la_stepOther_49
            exact (sm_TC_t h43_ (la_stepOther_32 h990_ e1152_))
          refine ⟨h44_, ?_⟩
          refine ⟨h45_, ?_⟩
          refine ⟨h46_, ?_⟩
          refine ⟨(sm_FL_F h47_ sm_F1_rf sm_F1_rf sm_F1_rf sm_F1_rf (sm_F1_up sm_F1_rf (Int.le_refl _)) sm_F1_rf sm_F1_rf sm_F1_rf sm_F1_rf sm_F1_rf sm_F1_rf sm_F1_rf (Int.le_refl _) (Int.le_refl _) sm_F1_rf sm_F1_rf (sm_FL_dp h47_ h24_)), ?_⟩
          refine ⟨?_, ?_⟩
          · skip
            have e1156_ : (if S 1092 0 - 1 = S 1092 0 - 1 then p2 else S 57 (S 1092 0 - 1) : Int) = p2 := if_pos la_stepOther_116
            have e1157_ : S 1100007 (S 1100034 0) = S 1100007 (S 1100025 (S 1100033 0)) := congrArg ((S 1100007)) h56_
            have e1158_ : S 1100007 (if S 1092 0 - 1 = S 1092 0 - 1 then p2 else S 57 (S 1092 0 - 1)) = S 1100007 (S 27 (S 1100033 0)) := congrArg ((S 1100007)) (la_stepOther_13 h62_ e1156_)
            have e1159_ : S 26 (S 1100034 0) = S 26 (S 1100025 (S 1100033 0)) := congrArg ((S 26)) h56_
            have e1160_ : S 63 (400 * (S 1092 0 - 1) + S 58 (S 1092 0 - 1) - 1 - 0) = S 63 (400 * (S 1092 0 - 1) + (S 58 (S 1092 0 - 1) - 1)) := congrArg ((S 63)) la_stepOther_49
            have e1161_ : S 64 (400 * (S 1092 0 - 1) + S 58 (S 1092 0 - 1) - 1 - 0) = S 64 (400 * (S 1092 0 - 1) + (S 58 (S 1092 0 - 1) - 1)) := congrArg ((S 64)) la_stepOther_49
            exact (la_stepOther_119 h55_ h989_ e1158_)
          have e1162_ : (if S 1092 0 - 1 = S 1092 0 - 1 then p2 else S 57 (S 1092 0 - 1) : Int) = p2 := if_pos la_stepOther_116
          have e1163_ : S 1100007 (S 1100034 0) = S 1100007 (S 1100025 (S 1100033 0)) := congrArg ((S 1100007)) h56_
          have e1164_ : S 1100025 (if S 1092 0 - 1 = S 1092 0 - 1 then p2 else S 57 (S 1092 0 - 1)) = S 1100025 (S 27 (S 1100033 0)) := congrArg ((S 1100025)) (la_stepOther_13 h62_ e1162_)
          have e1165_ : S 26 (S 1100034 0) = S 26 (S 1100025 (S 1100033 0)) := congrArg ((S 26)) h56_
          have e1166_ : S 63 (400 * (S 1092 0 - 1) + S 58 (S 1092 0 - 1) - 1 - 0) = S 63 (400 * (S 1092 0 - 1) + (S 58 (S 1092 0 - 1) - 1)) := congrArg ((S 63)) la_stepOther_49
          have e1167_ : S 64 (400 * (S 1092 0 - 1) + S 58 (S 1092 0 - 1) - 1 - 0) = S 64 (400 * (S 1092 0 - 1) + (S 58 (S 1092 0 - 1) - 1)) := congrArg ((S 64)) la_stepOther_49
          exact (sm_SK_q h51_ (la_stepOther_52 h56_ h991_ e1164_) rfl rfl)
        intro h1168_
        have h1169_ := (h1020_.resolve_left (la_stepOther_147 h1168_))
        refine ⟨(la_stepOther_22 h35_ h36_ h58_ h1121_), ?_⟩
        intro g146
        rintro ⟨h1170_, h1171_⟩
        refine ⟨(la_stepOther_23 h30_ h35_ h36_ h37_ h48_ h981_), ?_⟩
        intro g152
        rintro ⟨h1172_, h1173_⟩
        refine ⟨h6_, ?_⟩
        refine ⟨h7_, ?_⟩
        refine ⟨h8_, ?_⟩
        refine ⟨h9_, ?_⟩
        refine ⟨h10_, ?_⟩
        refine ⟨h11_, ?_⟩
        refine ⟨h12_, ?_⟩
        refine ⟨h13_, ?_⟩
        refine ⟨h14_, ?_⟩
        refine ⟨h15_, ?_⟩
        refine ⟨h16_, ?_⟩
        refine ⟨h17_, ?_⟩
        refine ⟨?_, ?_⟩
        · skip
          intro h1174_
          refine ⟨h18_, ?_⟩
          exact h19_
        refine ⟨h20_, ?_⟩
        refine ⟨h21_, ?_⟩
        refine ⟨h22_, ?_⟩
        refine ⟨h23_, ?_⟩
        refine ⟨h32_, ?_⟩
        refine ⟨(la_stepOther_24 h4_), ?_⟩
        refine ⟨(la_stepOther_25 h35_), ?_⟩
        refine ⟨h36_, ?_⟩
        intro h1175_
        intro h1176_
        refine ⟨h35_, ?_⟩
        refine ⟨h36_, ?_⟩
        refine ⟨(la_stepOther_26 h37_ h48_ h1172_), ?_⟩
        refine ⟨(la_stepOther_27 h48_ h981_ h1172_), ?_⟩
        refine ⟨?_, ?_⟩
        · skip
          have h1177_ := (h1171_ (S 1092 0 - 1))
          have h1178_ := (h1173_ (S 1092 0 - 1))
          have e1179_ : S 1100007 (S 1100034 0) = S 1100007 (S 1100025 (S 1100033 0)) := congrArg ((S 1100007)) h56_
          have e1180_ : S 26 (S 1100034 0) = S 26 (S 1100025 (S 1100033 0)) := congrArg ((S 26)) h56_
          have e1181_ : S 29 (g152 57 (S 1092 0 - 1)) = S 29 (S 1100033 0 + 1) := congrArg ((S 29)) (la_stepOther_29 h48_ h1172_)
          have e1182_ : S 63 (400 * (S 1092 0 - 1) + S 58 (S 1092 0 - 1) - 1 - 0) = S 63 (400 * (S 1092 0 - 1) + (S 58 (S 1092 0 - 1) - 1)) := congrArg ((S 63)) la_stepOther_49
          have e1183_ : S 64 (400 * (S 1092 0 - 1) + S 58 (S 1092 0 - 1) - 1 - 0) = S 64 (400 * (S 1092 0 - 1) + (S 58 (S 1092 0 - 1) - 1)) := congrArg ((S 64)) la_stepOther_49
          exact (la_stepOther_30 h39_ h982_ e1181_)
        refine ⟨h40_, ?_⟩
        refine ⟨h41_, ?_⟩
        refine ⟨?_, ?_⟩
        · skip
          have h1184_ := (h1171_ (S 1092 0 - 1))
          have h1185_ := (h1173_ (S 1092 0 - 1))
          have e1186_ : S 1100007 (S 1100034 0) = S 1100007 (S 1100025 (S 1100033 0)) := congrArg ((S 1100007)) h56_
          have e1187_ : S 1100023 (g152 57 (S 1092 0 - 1)) = S 1100023 (S 1100033 0 + 1) := congrArg ((S 1100023)) (la_stepOther_29 h48_ h1172_)
          have e1188_ : S 26 (S 1100034 0) = S 26 (S 1100025 (S 1100033 0)) := congrArg ((S 26)) h56_
          have e1189_ : S 63 (400 * (S 1092 0 - 1) + S 58 (S 1092 0 - 1) - 1 - 0) = S 63 (400 * (S 1092 0 - 1) + (S 58 (S 1092 0 - 1) - 1)) := congrArg ((S 63)) la_stepOther_49
          have e1190_ : S 64 (400 * (S 1092 0 - 1) + S 58 (S 1092 0 - 1) - 1 - 0) = S 64 (400 * (S 1092 0 - 1) + (S 58 (S 1092 0 - 1) - 1)) := congrArg ((S 64)) la_stepOther_49
          have e1191_ : sm_dp (S 1100024) (S 1100023 (g152 57 (S 1092 0 - 1))) = sm_dp (S 1100024) (S 1100023 (S 1100033 0)) := congrArg ((sm_dp (S 1100024))) (la_stepOther_13 h984_ e1187_)
          exact (la_stepOther_31 h42_ e1191_)
        refine ⟨?_, ?_⟩
        · skip
          have h1192_ := (h1171_ (S 1092 0 - 1))
          have h1193_ := (h1173_ (S 1092 0 - 1))
          have e1194_ : S 1100007 (S 1100034 0) = S 1100007 (S 1100025 (S 1100033 0)) := congrArg ((S 1100007)) h56_
          have e1195_ : S 1100023 (g152 57 (S 1092 0 - 1)) = S 1100023 (S 1100033 0 + 1) := congrArg ((S 1100023)) (la_stepOther_29 h48_ h1172_)
          have e1196_ : S 26 (S 1100034 0) = S 26 (S 1100025 (S 1100033 0)) := congrArg ((S 26)) h56_
          have e1197_ : S 63 (400 * (S 1092 0 - 1) + S 58 (S 1092 0 - 1) - 1 - 0) = S 63 (400 * (S 1092 0 - 1) + (S 58 (S 1092 0 - 1) - 1)) := congrArg ((S 63)) la_stepOther_49
          have e1198_ : S 64 (400 * (S 1092 0 - 1) + S 58 (S 1092 0 - 1) - 1 - 0) = S 64 (400 * (S 1092 0 - 1) + (S 58 (S 1092 0 - 1) - 1)) := congrArg ((S 64)) la_stepOther_49
          exact (sm_TC_t h43_ (la_stepOther_32 h984_ e1195_))
        refine ⟨h44_, ?_⟩
        refine ⟨h45_, ?_⟩
        refine ⟨h46_, ?_⟩
        refine ⟨(sm_FL_F h47_ sm_F1_rf sm_F1_rf sm_F1_rf sm_F1_rf (sm_F1_le (sm_F1_ne h1173_ (Int.le_refl _)) (Int.le_refl _)) (sm_F1_le (sm_F1_ne h1171_ (Int.le_refl _)) (Int.le_refl _)) sm_F1_rf sm_F1_rf sm_F1_rf sm_F1_rf sm_F1_rf sm_F1_rf (Int.le_refl _) (Int.le_refl _) sm_F1_rf sm_F1_rf (sm_FL_dp h47_ h24_)), ?_⟩
        refine ⟨?_, ?_⟩
        · skip
          have h1199_ := (h1171_ (S 1092 0 - 1))
          have h1200_ := (h1173_ (S 1092 0 - 1))
          have e1201_ : S 1100007 (S 1100034 0) = S 1100007 (S 1100025 (S 1100033 0)) := congrArg ((S 1100007)) h56_
          have e1202_ : S 1100007 (g152 57 (S 1092 0 - 1)) = S 1100007 (S 1100033 0 + 1) := congrArg ((S 1100007)) (la_stepOther_29 h48_ h1172_)
          have e1203_ : S 26 (S 1100034 0) = S 26 (S 1100025 (S 1100033 0)) := congrArg ((S 26)) h56_
          have e1204_ : S 63 (400 * (S 1092 0 - 1) + S 58 (S 1092 0 - 1) - 1 - 0) = S 63 (400 * (S 1092 0 - 1) + (S 58 (S 1092 0 - 1) - 1)) := congrArg ((S 63)) la_stepOther_49
          have e1205_ : S 64 (400 * (S 1092 0 - 1) + S 58 (S 1092 0 - 1) - 1 - 0) = S 64 (400 * (S 1092 0 - 1) + (S 58 (S 1092 0 - 1) - 1)) := congrArg ((S 64)) la_stepOther_49
          exact (la_stepOther_33 h55_ h983_ h1170_ e1202_)
        have h1206_ := (h1171_ (S 1092 0 - 1))
        have h1207_ := (h1173_ (S 1092 0 - 1))
        have e1208_ : S 1100007 (S 1100034 0) = S 1100007 (S 1100025 (S 1100033 0)) := congrArg ((S 1100007)) h56_
        have e1209_ : S 1100025 (g152 57 (S 1092 0 - 1)) = S 1100025 (S 1100033 0 + 1) := congrArg ((S 1100025)) (la_stepOther_29 h48_ h1172_)
        have e1210_ : S 26 (S 1100034 0) = S 26 (S 1100025 (S 1100033 0)) := congrArg ((S 26)) h56_
        have e1211_ : S 63 (400 * (S 1092 0 - 1) + S 58 (S 1092 0 - 1) - 1 - 0) = S 63 (400 * (S 1092 0 - 1) + (S 58 (S 1092 0 - 1) - 1)) := congrArg ((S 63)) la_stepOther_49
        have e1212_ : S 64 (400 * (S 1092 0 - 1) + S 58 (S 1092 0 - 1) - 1 - 0) = S 64 (400 * (S 1092 0 - 1) + (S 58 (S 1092 0 - 1) - 1)) := congrArg ((S 64)) la_stepOther_49
        exact (sm_SK_q (sm_SK_pop h51_ (la_stepOther_130 h1170_)) (la_stepOther_52 h56_ h985_ e1209_) rfl rfl)
      refine ⟨?_, ?_⟩
      · skip
        intro h1213_
        have h1214_ := (h63_.resolve_left (la_stepOther_148 h1213_))
        have h1215_ := (h80_.resolve_left (la_stepOther_149 h1213_))
        have h1216_ := (h82_.resolve_left (la_stepOther_149 h1213_))
        have h1217_ := (h1214_.resolve_left (la_stepOther_150 h1213_))
        have h1218_ := (h1217_.resolve_left (la_stepOther_151 h1213_))
        intro h1219_
        have h1220_ := (h1219_ h24_)
        have h1221_ := (h1220_ h37_)
        have h1222_ := (h1221_ h38_)
        obtain ⟨h1223_, ⟨h1224_, h1225_⟩⟩ := (h1222_ (la_stepOther_152 h61_ h1213_))
        intro h1226_
        have h1227_ := (h1226_ h56_)
        have h1228_ := (h1227_ h55_)
        have h1229_ := (h1228_ h1225_)
        intro h1230_
        have h1231_ := (h1230_ h51_)
        have h1232_ := (h1231_ h25_)
        have h1233_ := (h1232_ (la_stepOther_43 h1218_))
        have h1234_ := (h1233_ la_stepOther_44)
        have h1235_ := (h1234_ h53_)
        have h1236_ := (h1235_ h56_)
        have h1237_ := (h1236_ h55_)
        have h1238_ := (h1237_ h54_)
        have h1239_ := (h1238_ h1225_)
        refine ⟨?_, ?_⟩
        · skip
          refine ⟨h4_, ?_⟩
          refine ⟨h5_, ?_⟩
          refine ⟨h6_, ?_⟩
          refine ⟨h7_, ?_⟩
          refine ⟨h8_, ?_⟩
          refine ⟨h9_, ?_⟩
          refine ⟨h10_, ?_⟩
          refine ⟨h11_, ?_⟩
          refine ⟨h12_, ?_⟩
          refine ⟨h13_, ?_⟩
          refine ⟨h14_, ?_⟩
          refine ⟨h15_, ?_⟩
          refine ⟨h16_, ?_⟩
          refine ⟨h17_, ?_⟩
          refine ⟨h18_, ?_⟩
          refine ⟨h19_, ?_⟩
          refine ⟨h20_, ?_⟩
          refine ⟨h21_, ?_⟩
          refine ⟨h22_, ?_⟩
          refine ⟨h23_, ?_⟩
          refine ⟨h24_, ?_⟩
          refine ⟨h25_, ?_⟩
          refine ⟨h26_, ?_⟩
          refine ⟨h27_, ?_⟩
          refine ⟨h28_, ?_⟩
          refine ⟨h29_, ?_⟩
          refine ⟨h30_, ?_⟩
          refine ⟨h31_, ?_⟩
          refine ⟨h32_, ?_⟩
          refine ⟨h33_, ?_⟩
          refine ⟨h34_, ?_⟩
          refine ⟨h35_, ?_⟩
          refine ⟨h36_, ?_⟩
          refine ⟨h37_, ?_⟩
          refine ⟨h38_, ?_⟩
          refine ⟨h39_, ?_⟩
          refine ⟨h40_, ?_⟩
          refine ⟨h41_, ?_⟩
          refine ⟨h42_, ?_⟩
          refine ⟨h43_, ?_⟩
          refine ⟨h44_, ?_⟩
          refine ⟨h45_, ?_⟩
          refine ⟨h46_, ?_⟩
          refine ⟨h47_, ?_⟩
          refine ⟨h48_, ?_⟩
          refine ⟨h49_, ?_⟩
          refine ⟨h50_, ?_⟩
          refine ⟨h51_, ?_⟩
          refine ⟨h52_, ?_⟩
          refine ⟨h53_, ?_⟩
          refine ⟨h54_, ?_⟩
          refine ⟨h55_, ?_⟩
          refine ⟨h56_, ?_⟩
          refine ⟨h57_, ?_⟩
          refine ⟨h58_, ?_⟩
          have e1240_ : S 1100007 (S 1100034 0) = S 1100007 (S 1100025 (S 1100033 0)) := congrArg ((S 1100007)) h56_
          have e1241_ : S 26 (S 1100034 0) = S 26 (S 1100025 (S 1100033 0)) := congrArg ((S 26)) h56_
          have e1242_ : S 63 (400 * (S 1092 0 - 1) + S 58 (S 1092 0 - 1) - 1 - 0) = S 63 (400 * (S 1092 0 - 1) + (S 58 (S 1092 0 - 1) - 1)) := congrArg ((S 63)) la_stepOther_49
          have e1243_ : S 64 (400 * (S 1092 0 - 1) + S 58 (S 1092 0 - 1) - 1 - 0) = S 64 (400 * (S 1092 0 - 1) + (S 58 (S 1092 0 - 1) - 1)) := congrArg ((S 64)) la_stepOther_49
          exact (sm_VO_eq h1239_ (la_stepOther_81 h1215_ e1242_) (la_stepOther_81 h1216_ e1243_))
        intro g161
        rintro ⟨h1244_, ⟨h1245_, ⟨h1246_, ⟨h1247_, ⟨h1248_, ⟨h1249_, ⟨h1250_, ⟨h1251_, ⟨h1252_, ⟨h1253_, ⟨h1254_, ⟨h1255_, ⟨h1256_, ⟨h1257_, ⟨h1258_, ⟨h1259_, ⟨h1260_, ⟨h1261_, ⟨h1262_, ⟨h1263_, ⟨h1264_, ⟨h1265_, h1266_⟩⟩⟩⟩⟩⟩⟩⟩⟩⟩⟩⟩⟩⟩⟩⟩⟩⟩⟩⟩⟩⟩
        obtain ⟨h1267_, h1268_⟩ := (h1256_ h4_)
        have h1269_ := (h1265_ h4_)
        refine ⟨h6_, ?_⟩
        refine ⟨h7_, ?_⟩
        refine ⟨h8_, ?_⟩
        refine ⟨h9_, ?_⟩
        refine ⟨h10_, ?_⟩
        refine ⟨h11_, ?_⟩
        refine ⟨h12_, ?_⟩
        refine ⟨h13_, ?_⟩
        refine ⟨h14_, ?_⟩
        refine ⟨h15_, ?_⟩
        refine ⟨h16_, ?_⟩
        refine ⟨h17_, ?_⟩
        refine ⟨h1256_, ?_⟩
        refine ⟨h20_, ?_⟩
        refine ⟨h21_, ?_⟩
        refine ⟨h22_, ?_⟩
        refine ⟨h23_, ?_⟩
        refine ⟨h32_, ?_⟩
        refine ⟨h1262_, ?_⟩
        refine ⟨h1263_, ?_⟩
        refine ⟨h1264_, ?_⟩
        intro h1270_
        intro h1271_
        have h1272_ := (h1266_.resolve_right (la_stepOther_153 h1271_))
        obtain ⟨h1273_, ⟨h1274_, ⟨h1275_, ⟨h1276_, ⟨h1277_, ⟨h1278_, ⟨h1279_, ⟨h1280_, ⟨h1281_, ⟨h1282_, ⟨h1283_, ⟨h1284_, ⟨h1285_, ⟨h1286_, h1287_⟩⟩⟩⟩⟩⟩⟩⟩⟩⟩⟩⟩⟩⟩ := (h1269_ h1271_)
        refine ⟨h1273_, ?_⟩
        refine ⟨h1264_, ?_⟩
        refine ⟨h1275_, ?_⟩
        refine ⟨h1276_, ?_⟩
        refine ⟨h1277_, ?_⟩
        refine ⟨h1278_, ?_⟩
        refine ⟨h1279_, ?_⟩
        refine ⟨h1280_, ?_⟩
        refine ⟨h1281_, ?_⟩
        refine ⟨h1282_, ?_⟩
        refine ⟨h1283_, ?_⟩
        refine ⟨h1284_, ?_⟩
        refine ⟨h1285_, ?_⟩
        refine ⟨h1286_, ?_⟩
        exact h1287_
      refine ⟨?_, ?_⟩
      · skip
        intro h1288_
        have h1289_ := (h63_.resolve_left (la_stepOther_154 h1288_))
        have h1290_ := (h80_.resolve_left (la_stepOther_155 h1288_))
        have h1291_ := (h82_.resolve_left (la_stepOther_155 h1288_))
        have h1292_ := (h1289_.resolve_left (la_stepOther_156 h1288_))
        have h1293_ := (h1292_.resolve_left (la_stepOther_157 h1288_))
        intro h1294_
        have h1295_ := (h1294_ h24_)
        have h1296_ := (h1295_ h37_)
        have h1297_ := (h1296_ h38_)
        obtain ⟨h1298_, ⟨h1299_, h1300_⟩⟩ := (h1297_ (la_stepOther_158 h61_ h1288_))
        intro h1301_
        have h1302_ := (h1301_ h56_)
        have h1303_ := (h1302_ h55_)
        have h1304_ := (h1303_ h1300_)
        intro h1305_
        have h1306_ := (h1305_ h51_)
        have h1307_ := (h1306_ h25_)
        have h1308_ := (h1307_ (la_stepOther_43 h1293_))
        have h1309_ := (h1308_ la_stepOther_44)
        have h1310_ := (h1309_ h53_)
        have h1311_ := (h1310_ h56_)
        have h1312_ := (h1311_ h55_)
        have h1313_ := (h1312_ h54_)
        have h1314_ := (h1313_ h1300_)
        refine ⟨?_, ?_⟩
        · skip
          intro h1315_
          refine ⟨h21_, ?_⟩
          refine ⟨h22_, ?_⟩
          refine ⟨h23_, ?_⟩
          refine ⟨h24_, ?_⟩
          refine ⟨h25_, ?_⟩
          refine ⟨h26_, ?_⟩
          refine ⟨h27_, ?_⟩
          refine ⟨h28_, ?_⟩
          refine ⟨h29_, ?_⟩
          refine ⟨h30_, ?_⟩
          refine ⟨h31_, ?_⟩
          refine ⟨h32_, ?_⟩
          refine ⟨h33_, ?_⟩
          refine ⟨h34_, ?_⟩
          refine ⟨h35_, ?_⟩
          refine ⟨h36_, ?_⟩
          refine ⟨(la_stepOther_106 h37_ h48_), ?_⟩
          refine ⟨(la_stepOther_159 h38_ h48_), ?_⟩
          refine ⟨?_, ?_⟩
          · skip
            have e1316_ : S 1100007 (S 1100034 0) = S 1100007 (S 1100025 (S 1100033 0)) := congrArg ((S 1100007)) h56_
            have e1317_ : S 26 (S 1100034 0) = S 26 (S 1100025 (S 1100033 0)) := congrArg ((S 26)) h56_
            have e1318_ : S 29 (S 57 (S 1092 0 - 1)) = S 29 (S 1100033 0) := congrArg ((S 29)) h48_
            have e1319_ : S 63 (400 * (S 1092 0 - 1) + S 58 (S 1092 0 - 1) - 1 - 0) = S 63 (400 * (S 1092 0 - 1) + (S 58 (S 1092 0 - 1) - 1)) := congrArg ((S 63)) la_stepOther_49
            have e1320_ : S 64 (400 * (S 1092 0 - 1) + S 58 (S 1092 0 - 1) - 1 - 0) = S 64 (400 * (S 1092 0 - 1) + (S 58 (S 1092 0 - 1) - 1)) := congrArg ((S 64)) la_stepOther_49
            exact (la_stepOther_13 h39_ e1318_)
          refine ⟨h40_, ?_⟩
          refine ⟨h41_, ?_⟩
          refine ⟨?_, ?_⟩
          · skip
            have e1321_ : S 1100007 (S 1100034 0) = S 1100007 (S 1100025 (S 1100033 0)) := congrArg ((S 1100007)) h56_
            have e1322_ : S 1100023 (S 57 (S 1092 0 - 1)) = S 1100023 (S 1100033 0) := congrArg ((S 1100023)) h48_
            have e1323_ : S 26 (S 1100034 0) = S 26 (S 1100025 (S 1100033 0)) := congrArg ((S 26)) h56_
            have e1324_ : S 63 (400 * (S 1092 0 - 1) + S 58 (S 1092 0 - 1) - 1 - 0) = S 63 (400 * (S 1092 0 - 1) + (S 58 (S 1092 0 - 1) - 1)) := congrArg ((S 63)) la_stepOther_49
            have e1325_ : S 64 (400 * (S 1092 0 - 1) + S 58 (S 1092 0 - 1) - 1 - 0) = S 64 (400 * (S 1092 0 - 1) + (S 58 (S 1092 0 - 1) - 1)) := congrArg ((S 64)) la_stepOther_49
            have e1326_ : sm_dp (S 1100024) (S 1100023 (S 57 (S 1092 0 - 1))) = sm_dp (S 1100024) (S 1100023 (S 1100033 0)) := congrArg ((sm_dp (S 1100024))) e1322_
            exact (la_stepOther_31 h42_ e1326_)
          refine ⟨?_, ?_⟩
          · skip
            have e1327_ : S 1100007 (S 1100034 0) = S 1100007 (S 1100025 (S 1100033 0)) := congrArg ((S 1100007)) h56_
            have e1328_ : S 1100023 (S 57 (S 1092 0 - 1)) = S 1100023 (S 1100033 0) := congrArg ((S 1100023)) h48_
            have e1329_ : S 26 (S 1100034 0) = S 26 (S 1100025 (S 1100033 0)) := congrArg ((S 26)) h56_
            have e1330_ : S 63 (400 * (S 1092 0 - 1) + S 58 (S 1092 0 - 1) - 1 - 0) = S 63 (400 * (S 1092 0 - 1) + (S 58 (S 1092 0 - 1) - 1)) := congrArg ((S 63)) la_stepOther_49
            have e1331_ : S 64 (400 * (S 1092 0 - 1) + S 58 (S 1092 0 - 1) - 1 - 0) = S 64 (400 * (S 1092 0 - 1) + (S 58 (S 1092 0 - 1) - 1)) := congrArg ((S 64)) la_stepOther_49
            exact (sm_TC_t h43_ (la_stepOther_160 e1328_))
          refine ⟨h44_, ?_⟩
          refine ⟨h45_, ?_⟩
          refine ⟨h46_, ?_⟩
          refine ⟨h47_, ?_⟩
          refine ⟨?_, ?_⟩
          · skip
            have e1332_ : S 1100007 (S 1100034 0) = S 1100007 (S 1100025 (S 1100033 0)) := congrArg ((S 1100007)) h56_
            have e1333_ : S 1100007 (S 57 (S 1092 0 - 1)) = S 1100007 (S 1100033 0) := congrArg ((S 1100007)) h48_
            have e1334_ : S 26 (S 1100034 0) = S 26 (S 1100025 (S 1100033 0)) := congrArg ((S 26)) h56_
            have e1335_ : S 63 (400 * (S 1092 0 - 1) + S 58 (S 1092 0 - 1) - 1 - 0) = S 63 (400 * (S 1092 0 - 1) + (S 58 (S 1092 0 - 1) - 1)) := congrArg ((S 63)) la_stepOther_49
            have e1336_ : S 64 (400 * (S 1092 0 - 1) + S 58 (S 1092 0 - 1) - 1 - 0) = S 64 (400 * (S 1092 0 - 1) + (S 58 (S 1092 0 - 1) - 1)) := congrArg ((S 64)) la_stepOther_49
            exact (la_stepOther_31 h55_ e1333_)
          refine ⟨?_, ?_⟩
          · skip
            have e1337_ : S 1100007 (S 1100034 0) = S 1100007 (S 1100025 (S 1100033 0)) := congrArg ((S 1100007)) h56_
            have e1338_ : S 1100025 (S 57 (S 1092 0 - 1)) = S 1100025 (S 1100033 0) := congrArg ((S 1100025)) h48_
            have e1339_ : S 26 (S 1100034 0) = S 26 (S 1100025 (S 1100033 0)) := congrArg ((S 26)) h56_
            have e1340_ : S 63 (400 * (S 1092 0 - 1) + S 58 (S 1092 0 - 1) - 1 - 0) = S 63 (400 * (S 1092 0 - 1) + (S 58 (S 1092 0 - 1) - 1)) := congrArg ((S 63)) la_stepOther_49
            have e1341_ : S 64 (400 * (S 1092 0 - 1) + S 58 (S 1092 0 - 1) - 1 - 0) = S 64 (400 * (S 1092 0 - 1) + (S 58 (S 1092 0 - 1) - 1)) := congrArg ((S 64)) la_stepOther_49
            exact (sm_SK_q h51_ (la_stepOther_11 h56_ e1338_) rfl rfl)
          refine ⟨?_, ?_⟩
          · skip
            have e1342_ : S 1100007 (S 1100034 0) = S 1100007 (S 1100025 (S 1100033 0)) := congrArg ((S 1100007)) h56_
            have e1343_ : S 26 (S 1100034 0) = S 26 (S 1100025 (S 1100033 0)) := congrArg ((S 26)) h56_
            have e1344_ : S 63 (400 * (S 1092 0 - 1) + S 58 (S 1092 0 - 1) - 1 - 0) = S 63 (400 * (S 1092 0 - 1) + (S 58 (S 1092 0 - 1) - 1)) := congrArg ((S 63)) la_stepOther_49
            have e1345_ : S 64 (400 * (S 1092 0 - 1) + S 58 (S 1092 0 - 1) - 1 - 0) = S 64 (400 * (S 1092 0 - 1) + (S 58 (S 1092 0 - 1) - 1)) := congrArg ((S 64)) la_stepOther_49
            exact (sm_VO_eq h1314_ (la_stepOther_81 h1290_ e1344_) (la_stepOther_81 h1291_ e1345_))
          intro h1346_
          have e1347_ : S 1100007 (S 1100034 0) = S 1100007 (S 1100025 (S 1100033 0)) := congrArg ((S 1100007)) h56_
          have e1348_ : S 1100023 (S 57 (S 1092 0 - 1)) = S 1100023 (S 1100033 0) := congrArg ((S 1100023)) h48_
          have e1349_ : S 26 (S 1100034 0) = S 26 (S 1100025 (S 1100033 0)) := congrArg ((S 26)) h56_
          have e1350_ : S 63 (400 * (S 1092 0 - 1) + S 58 (S 1092 0 - 1) - 1 - 0) = S 63 (400 * (S 1092 0 - 1) + (S 58 (S 1092 0 - 1) - 1)) := congrArg ((S 63)) la_stepOther_49
          have e1351_ : S 64 (400 * (S 1092 0 - 1) + S 58 (S 1092 0 - 1) - 1 - 0) = S 64 (400 * (S 1092 0 - 1) + (S 58 (S 1092 0 - 1) - 1)) := congrArg ((S 64)) la_stepOther_49
          have h1352_ := (h57_ (la_stepOther_161 h1346_ e1348_))
          have h1353_ := (h1299_ (la_stepOther_161 h1346_ e1348_))
          have e1354_ : S 1100007 (S 1100023 (S 57 (S 1092 0 - 1))) = S 1100007 (S 1100023 (S 1100033 0)) := congrArg ((S 1100007)) e1348_
          exact (la_stepOther_162 h55_ h1353_ e1354_)
        intro g170
        rintro ⟨h1355_, ⟨h1356_, ⟨h1357_, h1358_⟩⟩⟩
        have h1359_ := (h1358_ (la_stepOther_25 h35_))
        have h1360_ := (h1355_ h4_)
        refine ⟨h6_, ?_⟩
        refine ⟨h7_, ?_⟩
        refine ⟨h8_, ?_⟩
        refine ⟨h9_, ?_⟩
        refine ⟨h10_, ?_⟩
        refine ⟨h11_, ?_⟩
        refine ⟨h12_, ?_⟩
        refine ⟨h13_, ?_⟩
        refine ⟨h14_, ?_⟩
        refine ⟨h15_, ?_⟩
        refine ⟨h16_, ?_⟩
        refine ⟨h17_, ?_⟩
        refine ⟨?_, ?_⟩
        · skip
          intro h1361_
          refine ⟨h18_, ?_⟩
          exact h19_
        refine ⟨h20_, ?_⟩
        refine ⟨h21_, ?_⟩
        refine ⟨h22_, ?_⟩
        refine ⟨h23_, ?_⟩
        refine ⟨h32_, ?_⟩
        refine ⟨(la_stepOther_24 h4_), ?_⟩
        refine ⟨h1359_, ?_⟩
        refine ⟨(la_stepOther_163 h36_ h1357_), ?_⟩
        intro h1362_
        intro h1363_
        have h1364_ := (h1356_.resolve_right (la_stepOther_164 h1363_))
        obtain ⟨h1365_, ⟨h1366_, ⟨h1367_, ⟨h1368_, ⟨h1369_, ⟨h1370_, ⟨h1371_, ⟨h1372_, ⟨h1373_, ⟨h1374_, ⟨h1375_, ⟨h1376_, ⟨h1377_, ⟨h1378_, ⟨h1379_, h1380_⟩⟩⟩⟩⟩⟩⟩⟩⟩⟩⟩⟩⟩⟩⟩ := (h1360_ h1363_)
        refine ⟨h1366_, ?_⟩
        refine ⟨h1367_, ?_⟩
        refine ⟨h1368_, ?_⟩
        refine ⟨h1369_, ?_⟩
        refine ⟨h1370_, ?_⟩
        refine ⟨h1371_, ?_⟩
        refine ⟨h1372_, ?_⟩
        refine ⟨h1373_, ?_⟩
        refine ⟨h1374_, ?_⟩
        refine ⟨h1375_, ?_⟩
        refine ⟨h1376_, ?_⟩
        refine ⟨h1377_, ?_⟩
        refine ⟨h1378_, ?_⟩
        refine ⟨h1379_, ?_⟩
        exact h1380_
      refine ⟨?_, ?_⟩
      · skip
        intro h1381_
        have h1382_ := (h63_.resolve_left (la_stepOther_165 h1381_))
        intro h1383_
        have h1384_ := (h1383_ h24_)
        have h1385_ := (h1384_ h37_)
        have h1386_ := (h1385_ h38_)
        obtain ⟨h1387_, ⟨⟨h1388_, ⟨h1389_, h1390_⟩⟩, ⟨⟨h1391_, ⟨h1392_, ⟨h1393_, ⟨h1394_, ⟨h1395_, h1396_⟩⟩⟩⟩⟩, ⟨h1397_, ⟨h1398_, ⟨h1399_, ⟨h1400_, ⟨h1401_, h1402_⟩⟩⟩⟩⟩⟩⟩⟩ := (h1386_ (la_stepOther_166 h61_ h1381_))
        have h1403_ := (h78_ h1390_)
        intro h1404_
        have h1405_ := (h1404_ h24_)
        have h1406_ := (h1405_ h37_)
        have h1407_ := (h1406_ h38_)
        intro h1408_
        have h1409_ := (h1408_ h24_)
        have h1410_ := (h1409_ h37_)
        obtain ⟨h1411_, h1412_⟩ := (h1410_ h38_)
        intro h1413_
        have h1414_ := (h1413_ h37_)
        refine ⟨(la_stepOther_115 h35_ h36_), ?_⟩
        intro h1415_
        refine ⟨(la_stepOther_167 h35_ h36_ h42_ h1387_ h1407_ h1411_), ?_⟩
        intro h1416_
        intro h1417_
        have h1418_ := (h1417_ h43_)
        have h1419_ := (h1418_ h37_)
        have h1420_ := (h1419_ (la_stepOther_168 h70_ h71_))
        have h1421_ := (h1420_ h1407_)
        have h1422_ := (h1421_ h62_)
        have h1423_ := (h1422_ h55_)
        have h1424_ := (h1423_ (la_stepOther_169 h42_ h1407_))
        refine ⟨(la_stepOther_170 h42_ h1387_ h1407_ h1411_), ?_⟩
        refine ⟨(la_stepOther_23 h30_ h35_ h36_ h37_ h48_ h1392_), ?_⟩
        intro g192
        rintro ⟨h1425_, h1426_⟩
        refine ⟨h6_, ?_⟩
        refine ⟨h7_, ?_⟩
        refine ⟨h8_, ?_⟩
        refine ⟨h9_, ?_⟩
        refine ⟨h10_, ?_⟩
        refine ⟨h11_, ?_⟩
        refine ⟨h12_, ?_⟩
        refine ⟨h13_, ?_⟩
        refine ⟨h14_, ?_⟩
        refine ⟨h15_, ?_⟩
        refine ⟨h16_, ?_⟩
        refine ⟨h17_, ?_⟩
        refine ⟨?_, ?_⟩
        · skip
          intro h1427_
          refine ⟨h18_, ?_⟩
          exact h19_
        refine ⟨h20_, ?_⟩
        refine ⟨h21_, ?_⟩
        refine ⟨h22_, ?_⟩
        refine ⟨h23_, ?_⟩
        refine ⟨h32_, ?_⟩
        refine ⟨(la_stepOther_24 h4_), ?_⟩
        refine ⟨(la_stepOther_25 h35_), ?_⟩
        refine ⟨h36_, ?_⟩
        intro h1428_
        intro h1429_
        refine ⟨h35_, ?_⟩
        refine ⟨h36_, ?_⟩
        refine ⟨(la_stepOther_26 h37_ h48_ h1425_), ?_⟩
        refine ⟨(la_stepOther_27 h48_ h1392_ h1425_), ?_⟩
        refine ⟨?_, ?_⟩
        · skip
          have h1430_ := (h1426_ (S 1092 0 - 1))
          have e1431_ : S 1100007 (S 1100034 0) = S 1100007 (S 1100025 (S 1100033 0)) := congrArg ((S 1100007)) h56_
          have e1432_ : S 26 (S 1100034 0) = S 26 (S 1100025 (S 1100033 0)) := congrArg ((S 26)) h56_
          have e1433_ : S 29 (g192 57 (S 1092 0 - 1)) = S 29 (S 1100033 0 + 1) := congrArg ((S 29)) (la_stepOther_29 h48_ h1425_)
          exact (la_stepOther_30 h39_ h1393_ e1433_)
        refine ⟨h40_, ?_⟩
        refine ⟨h41_, ?_⟩
        refine ⟨?_, ?_⟩
        · skip
          have h1434_ := (h1426_ (S 1092 0 - 1))
          have e1435_ : (if S 1092 0 - 1 = S 1092 0 - 1 then S 60 (S 1092 0 - 1) + 1 else S 60 (S 1092 0 - 1) : Int) = S 60 (S 1092 0 - 1) + 1 := if_pos la_stepOther_116
          have e1436_ : S 1100007 (S 1100034 0) = S 1100007 (S 1100025 (S 1100033 0)) := congrArg ((S 1100007)) h56_
          have e1437_ : S 1100023 (g192 57 (S 1092 0 - 1)) = S 1100023 (S 1100033 0 + 1) := congrArg ((S 1100023)) (la_stepOther_29 h48_ h1425_)
          have e1438_ : S 26 (S 1100034 0) = S 26 (S 1100025 (S 1100033 0)) := congrArg ((S 26)) h56_
          have e1439_ : sm_dp (S 1100024) (S 1100033 0) = sm_dp (S 1100024) (S 1100023 (g192 57 (S 1092 0 - 1))) := congrArg ((sm_dp (S 1100024))) (la_stepOther_32 h1395_ e1437_)
          exact (la_stepOther_171 h42_ h1407_ h1414_ e1435_ e1439_)
        refine ⟨?_, ?_⟩
        · skip
          have h1440_ := (h1426_ (S 1092 0 - 1))
          have e1441_ : S 1100007 (S 1100034 0) = S 1100007 (S 1100025 (S 1100033 0)) := congrArg ((S 1100007)) h56_
          have e1442_ : S 1100023 (g192 57 (S 1092 0 - 1)) = S 1100023 (S 1100033 0 + 1) := congrArg ((S 1100023)) (la_stepOther_29 h48_ h1425_)
          have e1443_ : S 26 (S 1100034 0) = S 26 (S 1100025 (S 1100033 0)) := congrArg ((S 26)) h56_
          exact (sm_TC_t h1424_ (la_stepOther_32 h1395_ e1442_))
        refine ⟨h44_, ?_⟩
        refine ⟨h45_, ?_⟩
        refine ⟨h46_, ?_⟩
        refine ⟨(sm_FL_F h47_ sm_F1_rf sm_F1_rf sm_F1_rf sm_F1_rf (sm_F1_le (sm_F1_ne h1426_ (Int.le_refl _)) (Int.le_refl _)) sm_F1_rf sm_F1_rf (sm_F1_up sm_F1_rf (Int.le_refl _)) (sm_F1_up sm_F1_rf (la_stepOther_172 h42_ h1407_ h1411_)) (sm_F1_up sm_F1_rf (la_stepOther_172 h42_ h1407_ h1411_)) sm_F1_rf sm_F1_rf (Int.le_refl _) (Int.le_refl _) sm_F1_rf sm_F1_rf (sm_FL_dp h47_ h24_)), ?_⟩
        refine ⟨?_, ?_⟩
        · skip
          have h1444_ := (h1426_ (S 1092 0 - 1))
          have e1445_ : S 1100007 (S 1100034 0) = S 1100007 (S 1100025 (S 1100033 0)) := congrArg ((S 1100007)) h56_
          have e1446_ : S 1100007 (g192 57 (S 1092 0 - 1)) = S 1100007 (S 1100033 0 + 1) := congrArg ((S 1100007)) (la_stepOther_29 h48_ h1425_)
          have e1447_ : S 26 (S 1100034 0) = S 26 (S 1100025 (S 1100033 0)) := congrArg ((S 26)) h56_
          exact (la_stepOther_119 h55_ h1394_ e1446_)
        have h1448_ := (h1426_ (S 1092 0 - 1))
        have e1449_ : S 1100007 (S 1100034 0) = S 1100007 (S 1100025 (S 1100033 0)) := congrArg ((S 1100007)) h56_
        have e1450_ : S 1100025 (g192 57 (S 1092 0 - 1)) = S 1100025 (S 1100033 0 + 1) := congrArg ((S 1100025)) (la_stepOther_29 h48_ h1425_)
        have e1451_ : S 26 (S 1100034 0) = S 26 (S 1100025 (S 1100033 0)) := congrArg ((S 26)) h56_
        exact (sm_SK_q h51_ (la_stepOther_52 h56_ h1396_ e1450_) rfl rfl)
      refine ⟨?_, ?_⟩
      · skip
        intro h1452_
        have h1453_ := (h63_.resolve_left (la_stepOther_173 h1452_))
        have h1454_ := (h1453_.resolve_left (la_stepOther_174 h1452_))
        intro h1455_
        have h1456_ := (h1455_ h24_)
        have h1457_ := (h1456_ h37_)
        have h1458_ := (h1457_ h38_)
        obtain ⟨h1459_, ⟨⟨h1460_, ⟨h1461_, h1462_⟩⟩, ⟨h1463_, ⟨h1464_, ⟨h1465_, ⟨h1466_, ⟨h1467_, h1468_⟩⟩⟩⟩⟩⟩⟩ := (h1458_ (la_stepOther_175 h61_ h1452_))
        have h1469_ := (h57_ h1459_)
        have h1470_ := (h78_ h1462_)
        have h1471_ := (h1461_ h1459_)
        intro h1472_
        have h1473_ := (h1472_ h24_)
        have h1474_ := (h1473_ h37_)
        have h1475_ := (h1474_ h38_)
        obtain ⟨h1476_, ⟨h1477_, h1478_⟩⟩ := (h1475_ h1459_)
        intro h1479_
        have h1480_ := (h1479_ h24_)
        have h1481_ := (h1480_ h43_)
        have h1482_ := (h1481_ h1459_)
        have h1483_ := (h1482_ (la_stepOther_176 h71_ h1464_))
        obtain ⟨⟨h1484_, ⟨h1485_, ⟨h1486_, ⟨h1487_, ⟨h1488_, h1489_⟩⟩⟩⟩⟩, ⟨⟨h1490_, ⟨h1491_, ⟨h1492_, h1493_⟩⟩⟩, ⟨⟨h1494_, ⟨h1495_, ⟨h1496_, ⟨h1497_, ⟨h1498_, h1499_⟩⟩⟩⟩⟩, ⟨h1500_, ⟨h1501_, ⟨h1502_, h1503_⟩⟩⟩⟩⟩⟩ := (h1483_ h1476_)
        refine ⟨(la_stepOther_115 h35_ h36_), ?_⟩
        intro h1504_
        refine ⟨(la_stepOther_177 h42_ h1484_ h1485_ h1486_), ?_⟩
        refine ⟨(la_stepOther_178 h30_ h35_ h36_ h48_ h71_ h1459_ h1464_), ?_⟩
        intro g206
        rintro ⟨h1505_, h1506_⟩
        refine ⟨h6_, ?_⟩
        refine ⟨h7_, ?_⟩
        refine ⟨h8_, ?_⟩
        refine ⟨h9_, ?_⟩
        refine ⟨h10_, ?_⟩
        refine ⟨h11_, ?_⟩
        refine ⟨h12_, ?_⟩
        refine ⟨h13_, ?_⟩
        refine ⟨h14_, ?_⟩
        refine ⟨h15_, ?_⟩
        refine ⟨h16_, ?_⟩
        refine ⟨h17_, ?_⟩
        refine ⟨?_, ?_⟩
        · skip
          intro h1507_
          refine ⟨h18_, ?_⟩
          exact h19_
        refine ⟨h20_, ?_⟩
        refine ⟨h21_, ?_⟩
        refine ⟨h22_, ?_⟩
        refine ⟨h23_, ?_⟩
        refine ⟨h32_, ?_⟩
        refine ⟨(la_stepOther_24 h4_), ?_⟩
        refine ⟨(la_stepOther_25 h35_), ?_⟩
        refine ⟨h36_, ?_⟩
        intro h1508_
        intro h1509_
        refine ⟨h35_, ?_⟩
        refine ⟨h36_, ?_⟩
        refine ⟨(la_stepOther_26 h37_ h48_ h1505_), ?_⟩
        refine ⟨(la_stepOther_27 h48_ h1464_ h1505_), ?_⟩
        refine ⟨?_, ?_⟩
        · skip
          have h1510_ := (h1506_ (S 1092 0 - 1))
          have e1511_ : S 1100007 (S 1100034 0) = S 1100007 (S 1100025 (S 1100033 0)) := congrArg ((S 1100007)) h56_
          have e1512_ : S 26 (S 1100034 0) = S 26 (S 1100025 (S 1100033 0)) := congrArg ((S 26)) h56_
          have e1513_ : S 29 (g206 57 (S 1092 0 - 1)) = S 29 (S 1100033 0 + 1) := congrArg ((S 29)) (la_stepOther_29 h48_ h1505_)
          exact (la_stepOther_30 h39_ h1465_ e1513_)
        refine ⟨h40_, ?_⟩
        refine ⟨h41_, ?_⟩
        refine ⟨?_, ?_⟩
        · skip
          have h1514_ := (h1506_ (S 1092 0 - 1))
          have e1515_ : (if S 1092 0 - 1 = S 1092 0 - 1 then S 60 (S 1092 0 - 1) - 1 else S 60 (S 1092 0 - 1) : Int) = S 60 (S 1092 0 - 1) - 1 := if_pos la_stepOther_116
          have e1516_ : S 1100007 (S 1100034 0) = S 1100007 (S 1100025 (S 1100033 0)) := congrArg ((S 1100007)) h56_
          have e1517_ : S 1100023 (g206 57 (S 1092 0 - 1)) = S 1100023 (S 1100033 0 + 1) := congrArg ((S 1100023)) (la_stepOther_29 h48_ h1505_)
          have e1518_ : S 26 (S 1100034 0) = S 26 (S 1100025 (S 1100033 0)) := congrArg ((S 26)) h56_
          have e1519_ : sm_dp (S 1100024) (S 1100023 (g206 57 (S 1092 0 - 1))) = sm_dp (S 1100024) (S 1100023 (S 1100023 (S 1100033 0))) := congrArg ((sm_dp (S 1100024))) (la_stepOther_13 h1467_ e1517_)
          exact (la_stepOther_179 h42_ h1486_ h1487_ e1515_ e1519_)
        refine ⟨?_, ?_⟩
        · skip
          have h1520_ := (h1506_ (S 1092 0 - 1))
          have e1521_ : S 1100007 (S 1100034 0) = S 1100007 (S 1100025 (S 1100033 0)) := congrArg ((S 1100007)) h56_
          have e1522_ : S 1100023 (g206 57 (S 1092 0 - 1)) = S 1100023 (S 1100033 0 + 1) := congrArg ((S 1100023)) (la_stepOther_29 h48_ h1505_)
          have e1523_ : S 26 (S 1100034 0) = S 26 (S 1100025 (S 1100033 0)) := congrArg ((S 26)) h56_
          exact (sm_TC_t h1500_ (la_stepOther_32 h1467_ e1522_))
        refine ⟨h44_, ?_⟩
        refine ⟨h45_, ?_⟩
        refine ⟨h46_, ?_⟩
        refine ⟨(sm_FL_F h47_ sm_F1_rf sm_F1_rf sm_F1_rf sm_F1_rf (sm_F1_le (sm_F1_ne h1506_ (Int.le_refl _)) (Int.le_refl _)) sm_F1_rf sm_F1_rf (sm_F1_up sm_F1_rf (Int.le_refl _)) sm_F1_rf sm_F1_rf sm_F1_rf sm_F1_rf (Int.le_refl _) (Int.le_refl _) sm_F1_rf sm_F1_rf (sm_FL_dp h47_ h24_)), ?_⟩
        refine ⟨?_, ?_⟩
        · skip
          have h1524_ := (h1506_ (S 1092 0 - 1))
          have e1525_ : S 1100007 (S 1100034 0) = S 1100007 (S 1100025 (S 1100033 0)) := congrArg ((S 1100007)) h56_
          have e1526_ : S 1100007 (g206 57 (S 1092 0 - 1)) = S 1100007 (S 1100033 0 + 1) := congrArg ((S 1100007)) (la_stepOther_29 h48_ h1505_)
          have e1527_ : S 26 (S 1100034 0) = S 26 (S 1100025 (S 1100033 0)) := congrArg ((S 26)) h56_
          exact (la_stepOther_119 h55_ h1466_ e1526_)
        have h1528_ := (h1506_ (S 1092 0 - 1))
        have e1529_ : S 1100007 (S 1100034 0) = S 1100007 (S 1100025 (S 1100033 0)) := congrArg ((S 1100007)) h56_
        have e1530_ : S 1100025 (g206 57 (S 1092 0 - 1)) = S 1100025 (S 1100033 0 + 1) := congrArg ((S 1100025)) (la_stepOther_29 h48_ h1505_)
        have e1531_ : S 26 (S 1100034 0) = S 26 (S 1100025 (S 1100033 0)) := congrArg ((S 26)) h56_
        exact (sm_SK_q h51_ (la_stepOther_52 h56_ h1468_ e1530_) rfl rfl)
      intro h1532_
      have h1533_ := (h63_.resolve_left (la_stepOther_180 h1532_))
      have h1534_ := (h80_.resolve_left (la_stepOther_181 h1532_))
      have h1535_ := (h82_.resolve_left (la_stepOther_181 h1532_))
      have h1536_ := (h1533_.resolve_left (la_stepOther_182 h1532_))
      have h1537_ := (h1536_.resolve_left (la_stepOther_183 h1532_))
      intro h1538_
      have h1539_ := (h1538_ h24_)
      have h1540_ := (h1539_ h37_)
      have h1541_ := (h1540_ h38_)
      obtain ⟨⟨h1542_, ⟨h1543_, h1544_⟩⟩, ⟨h1545_, ⟨h1546_, ⟨h1547_, ⟨h1548_, ⟨h1549_, h1550_⟩⟩⟩⟩⟩⟩ := (h1541_ (la_stepOther_184 h61_ h1532_))
      intro h1551_
      have h1552_ := (h1551_ h56_)
      have h1553_ := (h1552_ h55_)
      have h1554_ := (h1553_ h1544_)
      intro h1555_
      have h1556_ := (h1555_ h51_)
      have h1557_ := (h1556_ h25_)
      have h1558_ := (h1557_ (la_stepOther_43 h1537_))
      have h1559_ := (h1558_ la_stepOther_44)
      have h1560_ := (h1559_ h53_)
      have h1561_ := (h1560_ h56_)
      have h1562_ := (h1561_ h55_)
      have h1563_ := (h1562_ h54_)
      have h1564_ := (h1563_ h1544_)
      refine ⟨(la_stepOther_22 h35_ h36_ h58_ h1537_), ?_⟩
      intro g215
      rintro ⟨h1565_, h1566_⟩
      refine ⟨(la_stepOther_185 h35_ h36_ h58_ h1537_ h1565_), ?_⟩
      refine ⟨(la_stepOther_186 h35_ h36_ h58_ h1537_ h1565_), ?_⟩
      intro h1567_
      refine ⟨?_, ?_⟩
      · skip
        intro h1568_
        refine ⟨(la_stepOther_187 h35_ h36_ h58_ h1537_ h1565_), ?_⟩
        intro g228
        rintro ⟨h1569_, ⟨h1570_, ⟨h1571_, ⟨h1572_, ⟨h1573_, h1574_⟩⟩⟩⟩⟩
        refine ⟨(la_stepOther_23 h30_ h35_ h36_ h37_ h48_ h1546_), ?_⟩
        intro g234
        rintro ⟨h1575_, h1576_⟩
        refine ⟨h6_, ?_⟩
        refine ⟨h7_, ?_⟩
        refine ⟨h8_, ?_⟩
        refine ⟨h9_, ?_⟩
        refine ⟨h10_, ?_⟩
        refine ⟨h11_, ?_⟩
        refine ⟨h12_, ?_⟩
        refine ⟨h13_, ?_⟩
        refine ⟨h14_, ?_⟩
        refine ⟨h15_, ?_⟩
        refine ⟨h16_, ?_⟩
        refine ⟨h17_, ?_⟩
        refine ⟨?_, ?_⟩
        · skip
          intro h1577_
          refine ⟨h18_, ?_⟩
          exact h19_
        refine ⟨h20_, ?_⟩
        refine ⟨h21_, ?_⟩
        refine ⟨h22_, ?_⟩
        refine ⟨h23_, ?_⟩
        refine ⟨h32_, ?_⟩
        refine ⟨(la_stepOther_24 h4_), ?_⟩
        refine ⟨(la_stepOther_25 h35_), ?_⟩
        refine ⟨h36_, ?_⟩
        intro h1578_
        intro h1579_
        refine ⟨h35_, ?_⟩
        refine ⟨h36_, ?_⟩
        refine ⟨(la_stepOther_26 h37_ h48_ h1575_), ?_⟩
        refine ⟨(la_stepOther_27 h48_ h1546_ h1575_), ?_⟩
        refine ⟨?_, ?_⟩
        · skip
          have h1580_ := (h1566_ (S 1092 0 - 1))
          have h1581_ := (h1572_ (S 1092 0 - 1))
          have h1582_ := (h1573_ (400 * (S 1092 0 - 1) + (S 58 (S 1092 0 - 1) - 1)))
          have h1583_ := (h1573_ (400 * (S 1092 0 - 1) + g215 58 (S 1092 0 - 1)))
          have h1584_ := (h1573_ (400 * (S 1092 0 - 1) + S 58 (S 1092 0 - 1) - 1 - 0))
          have h1585_ := (h1574_ (400 * (S 1092 0 - 1) + (S 58 (S 1092 0 - 1) - 1)))
          have h1586_ := (h1574_ (400 * (S 1092 0 - 1) + g215 58 (S 1092 0 - 1)))
          have h1587_ := (h1574_ (400 * (S 1092 0 - 1) + S 58 (S 1092 0 - 1) - 1 - 0))
          have h1588_ := (h1576_ (S 1092 0 - 1))
          have e1589_ : S 1100007 (S 1100034 0) = S 1100007 (S 1100025 (S 1100033 0)) := congrArg ((S 1100007)) h56_
          have e1590_ : S 26 (S 1100034 0) = S 26 (S 1100025 (S 1100033 0)) := congrArg ((S 26)) h56_
          have e1591_ : S 29 (g234 57 (S 1092 0 - 1)) = S 29 (S 1100033 0 + 1) := congrArg ((S 29)) (la_stepOther_29 h48_ h1575_)
          have e1592_ : S 63 (400 * (S 1092 0 - 1) + S 58 (S 1092 0 - 1) - 1 - 0) = S 63 (400 * (S 1092 0 - 1) + (S 58 (S 1092 0 - 1) - 1)) := congrArg ((S 63)) la_stepOther_49
          have e1593_ : S 64 (400 * (S 1092 0 - 1) + S 58 (S 1092 0 - 1) - 1 - 0) = S 64 (400 * (S 1092 0 - 1) + (S 58 (S 1092 0 - 1) - 1)) := congrArg ((S 64)) la_stepOther_49
          exact (la_stepOther_30 h39_ h1547_ e1591_)
        refine ⟨h40_, ?_⟩
        refine ⟨h41_, ?_⟩
        refine ⟨?_, ?_⟩
        · skip
          have h1594_ := (h1566_ (S 1092 0 - 1))
          have h1595_ := (h1572_ (S 1092 0 - 1))
          have h1596_ := (h1573_ (400 * (S 1092 0 - 1) + (S 58 (S 1092 0 - 1) - 1)))
          have h1597_ := (h1573_ (400 * (S 1092 0 - 1) + g215 58 (S 1092 0 - 1)))
          have h1598_ := (h1573_ (400 * (S 1092 0 - 1) + S 58 (S 1092 0 - 1) - 1 - 0))
          have h1599_ := (h1574_ (400 * (S 1092 0 - 1) + (S 58 (S 1092 0 - 1) - 1)))
          have h1600_ := (h1574_ (400 * (S 1092 0 - 1) + g215 58 (S 1092 0 - 1)))
          have h1601_ := (h1574_ (400 * (S 1092 0 - 1) + S 58 (S 1092 0 - 1) - 1 - 0))
          have h1602_ := (h1576_ (S 1092 0 - 1))
          have e1603_ : S 1100007 (S 1100034 0) = S 1100007 (S 1100025 (S 1100033 0)) := congrArg ((S 1100007)) h56_
          have e1604_ : S 1100023 (g234 57 (S 1092 0 - 1)) = S 1100023 (S 1100033 0 + 1) := congrArg ((S 1100023)) (la_stepOther_29 h48_ h1575_)
          have e1605_ : S 26 (S 1100034 0) = S 26 (S 1100025 (S 1100033 0)) := congrArg ((S 26)) h56_
          have e1606_ : S 63 (400 * (S 1092 0 - 1) + S 58 (S 1092 0 - 1) - 1 - 0) = S 63 (400 * (S 1092 0 - 1) + (S 58 (S 1092 0 - 1) - 1)) := congrArg ((S 63)) la_stepOther_49
          have e1607_ : S 64 (400 * (S 1092 0 - 1) + S 58 (S 1092 0 - 1) - 1 - 0) = S 64 (400 * (S 1092 0 - 1) + (S 58 (S 1092 0 - 1) - 1)) := congrArg ((S 64)) la_stepOther_49
          have e1608_ : sm_dp (S 1100024) (S 1100023 (g234 57 (S 1092 0 - 1))) = sm_dp (S 1100024) (S 1100023 (S 1100033 0)) := congrArg ((sm_dp (S 1100024))) (la_stepOther_13 h1549_ e1604_)
          exact (la_stepOther_31 h42_ e1608_)
        refine ⟨?_, ?_⟩
        · skip
          have h1609_ := (h1566_ (S 1092 0 - 1))
          have h1610_ := (h1572_ (S 1092 0 - 1))
          have h1611_ := (h1573_ (400 * (S 1092 0 - 1) + (S 58 (S 1092 0 - 1) - 1)))
          have h1612_ := (h1573_ (400 * (S 1092 0 - 1) + g215 58 (S 1092 0 - 1)))
          have h1613_ := (h1573_ (400 * (S 1092 0 - 1) + S 58 (S 1092 0 - 1) - 1 - 0))
          have h1614_ := (h1574_ (400 * (S 1092 0 - 1) + (S 58 (S 1092 0 - 1) - 1)))
          have h1615_ := (h1574_ (400 * (S 1092 0 - 1) + g215 58 (S 1092 0 - 1)))
          have h1616_ := (h1574_ (400 * (S 1092 0 - 1) + S 58 (S 1092 0 - 1) - 1 - 0))
          have h1617_ := (h1576_ (S 1092 0 - 1))
          have e1618_ : S 1100007 (S 1100034 0) = S 1100007 (S 1100025 (S 1100033 0)) := congrArg ((S 1100007)) h56_
          have e1619_ : S 1100023 (g234 57 (S 1092 0 - 1)) = S 1100023 (S 1100033 0 + 1) := congrArg ((S 1100023)) (la_stepOther_29 h48_ h1575_)
          have e1620_ : S 26 (S 1100034 0) = S 26 (S 1100025 (S 1100033 0)) := congrArg ((S 26)) h56_
          have e1621_ : S 63 (400 * (S 1092 0 - 1) + S 58 (S 1092 0 - 1) - 1 - 0) = S 63 (400 * (S 1092 0 - 1) + (S 58 (S 1092 0 - 1) - 1)) := congrArg ((S 63)) la_stepOther_49
          have e1622_ : S 64 (400 * (S 1092 0 - 1) + S 58 (S 1092 0 - 1) - 1 - 0) = S 64 (400 * (S 1092 0 - 1) + (S 58 (S 1092 0 - 1) - 1)) := congrArg ((S 64)) la_stepOther_49
          exact (sm_TC_t h43_ (la_stepOther_32 h1549_ e1619_))
        refine ⟨h44_, ?_⟩
        refine ⟨h45_, ?_⟩
        refine ⟨h46_, ?_⟩
        refine ⟨(sm_FL_F h47_ sm_F1_rf sm_F1_rf sm_F1_rf sm_F1_rf (sm_F1_le (sm_F1_ne h1576_ (Int.le_refl _)) (Int.le_refl _)) (sm_F1_tr (sm_F1_le (sm_F1_ne h1566_ (Int.le_refl _)) (Int.le_refl _)) (sm_F1_ne h1572_ (Int.le_refl _)) (Int.le_refl _)) sm_F1_rf sm_F1_rf sm_F1_rf sm_F1_rf (sm_F1_le (sm_F1_ne h1573_ (Int.le_refl _)) (la_stepOther_192 h1537_ h1565_)) (sm_F1_le (sm_F1_ne h1574_ (Int.le_refl _)) (la_stepOther_192 h1537_ h1565_)) (Int.le_refl _) (Int.le_refl _) sm_F1_rf sm_F1_rf (sm_FL_dp h47_ h24_)), ?_⟩
        refine ⟨?_, ?_⟩
        · skip
          have h1623_ := (h1566_ (S 1092 0 - 1))
          have h1624_ := (h1572_ (S 1092 0 - 1))
          have h1625_ := (h1573_ (400 * (S 1092 0 - 1) + (S 58 (S 1092 0 - 1) - 1)))
          have h1626_ := (h1573_ (400 * (S 1092 0 - 1) + g215 58 (S 1092 0 - 1)))
          have h1627_ := (h1573_ (400 * (S 1092 0 - 1) + S 58 (S 1092 0 - 1) - 1 - 0))
          have h1628_ := (h1574_ (400 * (S 1092 0 - 1) + (S 58 (S 1092 0 - 1) - 1)))
          have h1629_ := (h1574_ (400 * (S 1092 0 - 1) + g215 58 (S 1092 0 - 1)))
          have h1630_ := (h1574_ (400 * (S 1092 0 - 1) + S 58 (S 1092 0 - 1) - 1 - 0))
          have h1631_ := (h1576_ (S 1092 0 - 1))
          have e1632_ : S 1100007 (S 1100034 0) = S 1100007 (S 1100025 (S 1100033 0)) := congrArg ((S 1100007)) h56_
          have e1633_ : S 1100007 (g234 57 (S 1092 0 - 1)) = S 1100007 (S 1100033 0 + 1) := congrArg ((S 1100007)) (la_stepOther_29 h48_ h1575_)
          have e1634_ : S 26 (S 1100034 0) = S 26 (S 1100025 (S 1100033 0)) := congrArg ((S 26)) h56_
          have e1635_ : S 63 (400 * (S 1092 0 - 1) + S 58 (S 1092 0 - 1) - 1 - 0) = S 63 (400 * (S 1092 0 - 1) + (S 58 (S 1092 0 - 1) - 1)) := congrArg ((S 63)) la_stepOther_49
          have e1636_ : S 64 (400 * (S 1092 0 - 1) + S 58 (S 1092 0 - 1) - 1 - 0) = S 64 (400 * (S 1092 0 - 1) + (S 58 (S 1092 0 - 1) - 1)) := congrArg ((S 64)) la_stepOther_49
          exact (la_stepOther_193 h55_ h1548_ h1565_ h1569_ e1633_)
        have h1637_ := (h1566_ (S 1092 0 - 1))
        have h1638_ := (h1572_ (S 1092 0 - 1))
        have h1639_ := (h1573_ (400 * (S 1092 0 - 1) + (S 58 (S 1092 0 - 1) - 1)))
        have h1640_ := (h1573_ (400 * (S 1092 0 - 1) + g215 58 (S 1092 0 - 1)))
        have h1641_ := (h1573_ (400 * (S 1092 0 - 1) + S 58 (S 1092 0 - 1) - 1 - 0))
        have h1642_ := (h1574_ (400 * (S 1092 0 - 1) + (S 58 (S 1092 0 - 1) - 1)))
        have h1643_ := (h1574_ (400 * (S 1092 0 - 1) + g215 58 (S 1092 0 - 1)))
        have h1644_ := (h1574_ (400 * (S 1092 0 - 1) + S 58 (S 1092 0 - 1) - 1 - 0))
        have h1645_ := (h1576_ (S 1092 0 - 1))
        have e1646_ : S 1100007 (S 1100034 0) = S 1100007 (S 1100025 (S 1100033 0)) := congrArg ((S 1100007)) h56_
        have e1647_ : S 1100025 (g234 57 (S 1092 0 - 1)) = S 1100025 (S 1100033 0 + 1) := congrArg ((S 1100025)) (la_stepOther_29 h48_ h1575_)
        have e1648_ : S 26 (S 1100034 0) = S 26 (S 1100025 (S 1100033 0)) := congrArg ((S 26)) h56_
        have e1649_ : S 63 (400 * (S 1092 0 - 1) + S 58 (S 1092 0 - 1) - 1 - 0) = S 63 (400 * (S 1092 0 - 1) + (S 58 (S 1092 0 - 1) - 1)) := congrArg ((S 63)) la_stepOther_49
        have e1650_ : S 64 (400 * (S 1092 0 - 1) + S 58 (S 1092 0 - 1) - 1 - 0) = S 64 (400 * (S 1092 0 - 1) + (S 58 (S 1092 0 - 1) - 1)) := congrArg ((S 64)) la_stepOther_49
        exact (sm_SK_q (sm_SK_q (sm_SK_names (sm_SK_F (sm_SK_pop h51_ la_stepOther_195) (sm_F1_le (sm_F1_ne h1573_ (Int.le_refl _)) (la_stepOther_196 h1565_)) (sm_F1_le (sm_F1_ne h1574_ (Int.le_refl _)) (la_stepOther_196 h1565_)) (Int.le_refl _) (Int.le_refl _)) h25_ h37_ h38_ (la_stepOther_184 h61_ h1532_) (la_stepOther_160 h56_) (la_stepOther_200 h55_) rfl ⟨(((congrArg (g228 63) (la_stepOther_197 h1565_)).trans h1570_)).trans la_stepOther_198, by rw [((congrArg (g228 64) (la_stepOther_197 h1565_)).trans h1571_)]; exact (la_stepOther_199 h20_).1, by rw [((congrArg (g228 64) (la_stepOther_197 h1565_)).trans h1571_)]; exact (la_stepOther_199 h20_).2⟩ rfl) rfl (la_stepOther_194 h1565_ h1569_) rfl) (la_stepOther_13 h1550_ e1647_) rfl rfl)
      intro h1651_
      refine ⟨(la_stepOther_187 h35_ h36_ h58_ h1537_ h1565_), ?_⟩
      intro g240
      rintro ⟨h1652_, ⟨h1653_, ⟨h1654_, ⟨h1655_, ⟨h1656_, h1657_⟩⟩⟩⟩⟩
      refine ⟨(la_stepOther_23 h30_ h35_ h36_ h37_ h48_ h1546_), ?_⟩
      intro g246
      rintro ⟨h1658_, h1659_⟩
      refine ⟨h6_, ?_⟩
      refine ⟨h7_, ?_⟩
      refine ⟨h8_, ?_⟩
      refine ⟨h9_, ?_⟩
      refine ⟨h10_, ?_⟩
      refine ⟨h11_, ?_⟩
      refine ⟨h12_, ?_⟩
      refine ⟨h13_, ?_⟩
      refine ⟨h14_, ?_⟩
      refine ⟨h15_, ?_⟩
      refine ⟨h16_, ?_⟩
      refine ⟨h17_, ?_⟩
      refine ⟨?_, ?_⟩
      · skip
        intro h1660_
        refine ⟨h18_, ?_⟩
        exact h19_
      refine ⟨h20_, ?_⟩
      refine ⟨h21_, ?_⟩
      refine ⟨h22_, ?_⟩
      refine ⟨h23_, ?_⟩
      refine ⟨h32_, ?_⟩
      refine ⟨(la_stepOther_24 h4_), ?_⟩
      refine ⟨(la_stepOther_25 h35_), ?_⟩
      refine ⟨h36_, ?_⟩
      intro h1661_
      intro h1662_
      refine ⟨h35_, ?_⟩
      refine ⟨h36_, ?_⟩
      refine ⟨(la_stepOther_26 h37_ h48_ h1658_), ?_⟩
      refine ⟨(la_stepOther_27 h48_ h1546_ h1658_), ?_⟩
      refine ⟨?_, ?_⟩
      · skip
        have h1663_ := (h1566_ (S 1092 0 - 1))
        have h1664_ := (h1655_ (S 1092 0 - 1))
        have h1665_ := (h1656_ (400 * (S 1092 0 - 1) + (S 58 (S 1092 0 - 1) - 1)))
        have h1666_ := (h1656_ (400 * (S 1092 0 - 1) + g215 58 (S 1092 0 - 1)))
        have h1667_ := (h1656_ (400 * (S 1092 0 - 1) + S 58 (S 1092 0 - 1) - 1 - 0))
        have h1668_ := (h1657_ (400 * (S 1092 0 - 1) + (S 58 (S 1092 0 - 1) - 1)))
        have h1669_ := (h1657_ (400 * (S 1092 0 - 1) + g215 58 (S 1092 0 - 1)))
        have h1670_ := (h1657_ (400 * (S 1092 0 - 1) + S 58 (S 1092 0 - 1) - 1 - 0))
        have h1671_ := (h1659_ (S 1092 0 - 1))
        have e1672_ : S 1100007 (S 1100034 0) = S 1100007 (S 1100025 (S 1100033 0)) := congrArg ((S 1100007)) h56_
        have e1673_ : S 26 (S 1100034 0) = S 26 (S 1100025 (S 1100033 0)) := congrArg ((S 26)) h56_
        have e1674_ : S 29 (g246 57 (S 1092 0 - 1)) = S 29 (S 1100033 0 + 1) := congrArg ((S 29)) (la_stepOther_29 h48_ h1658_)
        have e1675_ : S 63 (400 * (S 1092 0 - 1) + S 58 (S 1092 0 - 1) - 1 - 0) = S 63 (400 * (S 1092 0 - 1) + (S 58 (S 1092 0 - 1) - 1)) := congrArg ((S 63)) la_stepOther_49
        have e1676_ : S 64 (400 * (S 1092 0 - 1) + S 58 (S 1092 0 - 1) - 1 - 0) = S 64 (400 * (S 1092 0 - 1) + (S 58 (S 1092 0 - 1) - 1)) := congrArg ((S 64)) la_stepOther_49
        obtain ⟨h1677_, ⟨h1678_, h1679_⟩⟩ := ((sm_VO_e h1564_).2.2.2 (la_stepOther_202 h1534_ (sm_VO_e h1564_).2.1 h1651_ e1675_))
        exact (la_stepOther_30 h39_ h1547_ e1674_)
      refine ⟨h40_, ?_⟩
      refine ⟨h41_, ?_⟩
      refine ⟨?_, ?_⟩
      · skip
        have h1680_ := (h1566_ (S 1092 0 - 1))
        have h1681_ := (h1655_ (S 1092 0 - 1))
        have h1682_ := (h1656_ (400 * (S 1092 0 - 1) + (S 58 (S 1092 0 - 1) - 1)))
        have h1683_ := (h1656_ (400 * (S 1092 0 - 1) + g215 58 (S 1092 0 - 1)))
        have h1684_ := (h1656_ (400 * (S 1092 0 - 1) + S 58 (S 1092 0 - 1) - 1 - 0))
        have h1685_ := (h1657_ (400 * (S 1092 0 - 1) + (S 58 (S 1092 0 - 1) - 1)))
        have h1686_ := (h1657_ (400 * (S 1092 0 - 1) + g215 58 (S 1092 0 - 1)))
        have h1687_ := (h1657_ (400 * (S 1092 0 - 1) + S 58 (S 1092 0 - 1) - 1 - 0))
        have h1688_ := (h1659_ (S 1092 0 - 1))
        have e1689_ : S 1100007 (S 1100034 0) = S 1100007 (S 1100025 (S 1100033 0)) := congrArg ((S 1100007)) h56_
        have e1690_ : S 1100023 (g246 57 (S 1092 0 - 1)) = S 1100023 (S 1100033 0 + 1) := congrArg ((S 1100023)) (la_stepOther_29 h48_ h1658_)
        have e1691_ : S 26 (S 1100034 0) = S 26 (S 1100025 (S 1100033 0)) := congrArg ((S 26)) h56_
        have e1692_ : S 63 (400 * (S 1092 0 - 1) + S 58 (S 1092 0 - 1) - 1 - 0) = S 63 (400 * (S 1092 0 - 1) + (S 58 (S 1092 0 - 1) - 1)) := congrArg ((S 63)) la_stepOther_49
        have e1693_ : S 64 (400 * (S 1092 0 - 1) + S 58 (S 1092 0 - 1) - 1 - 0) = S 64 (400 * (S 1092 0 - 1) + (S 58 (S 1092 0 - 1) - 1)) := congrArg ((S 64)) la_stepOther_49
        have e1694_ : sm_dp (S 1100024) (S 1100023 (g246 57 (S 1092 0 - 1))) = sm_dp (S 1100024) (S 1100023 (S 1100033 0)) := congrArg ((sm_dp (S 1100024))) (la_stepOther_13 h1549_ e1690_)
        obtain ⟨h1695_, ⟨h1696_, h1697_⟩⟩ := ((sm_VO_e h1564_).2.2.2 (la_stepOther_202 h1534_ (sm_VO_e h1564_).2.1 h1651_ e1692_))
        exact (la_stepOther_31 h42_ e1694_)
      refine ⟨?_, ?_⟩
      · skip
        have h1698_ := (h1566_ (S 1092 0 - 1))
        have h1699_ := (h1655_ (S 1092 0 - 1))
        have h1700_ := (h1656_ (400 * (S 1092 0 - 1) + (S 58 (S 1092 0 - 1) - 1)))
        have h1701_ := (h1656_ (400 * (S 1092 0 - 1) + g215 58 (S 1092 0 - 1)))
        have h1702_ := (h1656_ (400 * (S 1092 0 - 1) + S 58 (S 1092 0 - 1) - 1 - 0))
        have h1703_ := (h1657_ (400 * (S 1092 0 - 1) + (S 58 (S 1092 0 - 1) - 1)))
        have h1704_ := (h1657_ (400 * (S 1092 0 - 1) + g215 58 (S 1092 0 - 1)))
        have h1705_ := (h1657_ (400 * (S 1092 0 - 1) + S 58 (S 1092 0 - 1) - 1 - 0))
        have h1706_ := (h1659_ (S 1092 0 - 1))
        have e1707_ : S 1100007 (S 1100034 0) = S 1100007 (S 1100025 (S 1100033 0)) := congrArg ((S 1100007)) h56_
        have e1708_ : S 1100023 (g246 57 (S 1092 0 - 1)) = S 1100023 (S 1100033 0 + 1) := congrArg ((S 1100023)) (la_stepOther_29 h48_ h1658_)
        have e1709_ : S 26 (S 1100034 0) = S 26 (S 1100025 (S 1100033 0)) := congrArg ((S 26)) h56_
        have e1710_ : S 63 (400 * (S 1092 0 - 1) + S 58 (S 1092 0 - 1) - 1 - 0) = S 63 (400 * (S 1092 0 - 1) + (S 58 (S 1092 0 - 1) - 1)) := congrArg ((S 63)) la_stepOther_49
        have e1711_ : S 64 (400 * (S 1092 0 - 1) + S 58 (S 1092 0 - 1) - 1 - 0) = S 64 (400 * (S 1092 0 - 1) + (S 58 (S 1092 0 - 1) - 1)) := congrArg ((S 64)) la_stepOther_49
        obtain ⟨h1712_, ⟨h1713_, h1714_⟩⟩ := ((sm_VO_e h1564_).2.2.2 (la_stepOther_202 h1534_ (sm_VO_e h1564_).2.1 h1651_ e1710_))
        exact (sm_TC_t h43_ (la_stepOther_32 h1549_ e1708_))
      refine ⟨h44_, ?_⟩
      refine ⟨h45_, ?_⟩
      refine ⟨h46_, ?_⟩
      refine ⟨(sm_FL_F h47_ sm_F1_rf sm_F1_rf sm_F1_rf sm_F1_rf (sm_F1_le (sm_F1_ne h1659_ (Int.le_refl _)) (Int.le_refl _)) (sm_F1_tr (sm_F1_le (sm_F1_ne h1566_ (Int.le_refl _)) (Int.le_refl _)) (sm_F1_ne h1655_ (Int.le_refl _)) (Int.le_refl _)) sm_F1_rf sm_F1_rf sm_F1_rf sm_F1_rf (sm_F1_le (sm_F1_ne h1656_ (Int.le_refl _)) (la_stepOther_192 h1537_ h1565_)) (sm_F1_le (sm_F1_ne h1657_ (Int.le_refl _)) (la_stepOther_192 h1537_ h1565_)) (Int.le_refl _) (Int.le_refl _) sm_F1_rf sm_F1_rf (sm_FL_dp h47_ h24_)), ?_⟩
      refine ⟨?_, ?_⟩
      · skip
        have h1715_ := (h1566_ (S 1092 0 - 1))
        have h1716_ := (h1655_ (S 1092 0 - 1))
        have h1717_ := (h1656_ (400 * (S 1092 0 - 1) + (S 58 (S 1092 0 - 1) - 1)))
        have h1718_ := (h1656_ (400 * (S 1092 0 - 1) + g215 58 (S 1092 0 - 1)))
        have h1719_ := (h1656_ (400 * (S 1092 0 - 1) + S 58 (S 1092 0 - 1) - 1 - 0))
        have h1720_ := (h1657_ (400 * (S 1092 0 - 1) + (S 58 (S 1092 0 - 1) - 1)))
        have h1721_ := (h1657_ (400 * (S 1092 0 - 1) + g215 58 (S 1092 0 - 1)))
        have h1722_ := (h1657_ (400 * (S 1092 0 - 1) + S 58 (S 1092 0 - 1) - 1 - 0))
        have h1723_ := (h1659_ (S 1092 0 - 1))
        have e1724_ : S 1100007 (S 1100034 0) = S 1100007 (S 1100025 (S 1100033 0)) := congrArg ((S 1100007)) h56_
        have e1725_ : S 1100007 (g246 57 (S 1092 0 - 1)) = S 1100007 (S 1100033 0 + 1) := congrArg ((S 1100007)) (la_stepOther_29 h48_ h1658_)
        have e1726_ : S 26 (S 1100034 0) = S 26 (S 1100025 (S 1100033 0)) := congrArg ((S 26)) h56_
        have e1727_ : S 63 (400 * (S 1092 0 - 1) + S 58 (S 1092 0 - 1) - 1 - 0) = S 63 (400 * (S 1092 0 - 1) + (S 58 (S 1092 0 - 1) - 1)) := congrArg ((S 63)) la_stepOther_49
        have e1728_ : S 64 (400 * (S 1092 0 - 1) + S 58 (S 1092 0 - 1) - 1 - 0) = S 64 (400 * (S 1092 0 - 1) + (S 58 (S 1092 0 - 1) - 1)) := congrArg ((S 64)) la_stepOther_49
        obtain ⟨h1729_, ⟨h1730_, h1731_⟩⟩ := ((sm_VO_e h1564_).2.2.2 (la_stepOther_202 h1534_ (sm_VO_e h1564_).2.1 h1651_ e1727_))
        exact (la_stepOther_193 h55_ h1548_ h1565_ h1652_ e1725_)
      have h1732_ := (h1566_ (S 1092 0 - 1))
      have h1733_ := (h1655_ (S 1092 0 - 1))
      have h1734_ := (h1656_ (400 * (S 1092 0 - 1) + (S 58 (S 1092 0 - 1) - 1)))
      have h1735_ := (h1656_ (400 * (S 1092 0 - 1) + g215 58 (S 1092 0 - 1)))
      have h1736_ := (h1656_ (400 * (S 1092 0 - 1) + S 58 (S 1092 0 - 1) - 1 - 0))
      have h1737_ := (h1657_ (400 * (S 1092 0 - 1) + (S 58 (S 1092 0 - 1) - 1)))
      have h1738_ := (h1657_ (400 * (S 1092 0 - 1) + g215 58 (S 1092 0 - 1)))
      have h1739_ := (h1657_ (400 * (S 1092 0 - 1) + S 58 (S 1092 0 - 1) - 1 - 0))
      have h1740_ := (h1659_ (S 1092 0 - 1))
      have e1741_ : S 1100007 (S 1100034 0) = S 1100007 (S 1100025 (S 1100033 0)) := congrArg ((S 1100007)) h56_
      have e1742_ : S 1100025 (g246 57 (S 1092 0 - 1)) = S 1100025 (S 1100033 0 + 1) := congrArg ((S 1100025)) (la_stepOther_29 h48_ h1658_)
      have e1743_ : S 26 (S 1100034 0) = S 26 (S 1100025 (S 1100033 0)) := congrArg ((S 26)) h56_
      have e1744_ : S 63 (400 * (S 1092 0 - 1) + S 58 (S 1092 0 - 1) - 1 - 0) = S 63 (400 * (S 1092 0 - 1) + (S 58 (S 1092 0 - 1) - 1)) := congrArg ((S 63)) la_stepOther_49
      have e1745_ : S 64 (400 * (S 1092 0 - 1) + S 58 (S 1092 0 - 1) - 1 - 0) = S 64 (400 * (S 1092 0 - 1) + (S 58 (S 1092 0 - 1) - 1)) := congrArg ((S 64)) la_stepOther_49
      obtain ⟨h1746_, ⟨h1747_, h1748_⟩⟩ := ((sm_VO_e h1564_).2.2.2 (la_stepOther_202 h1534_ (sm_VO_e h1564_).2.1 h1651_ e1744_))
      exact (sm_SK_q (sm_SK_q (sm_SK_names (sm_SK_F (sm_SK_pop h51_ la_stepOther_195) (sm_F1_le (sm_F1_ne h1656_ (Int.le_refl _)) (la_stepOther_196 h1565_)) (sm_F1_le (sm_F1_ne h1657_ (Int.le_refl _)) (la_stepOther_196 h1565_)) (Int.le_refl _) (Int.le_refl _)) h25_ h37_ h38_ (la_stepOther_184 h61_ h1532_) (la_stepOther_160 h56_) (la_stepOther_200 h55_) rfl ⟨(((congrArg (g240 63) (la_stepOther_197 h1565_)).trans h1653_)).trans la_stepOther_198, by rw [((congrArg (g240 64) (la_stepOther_197 h1565_)).trans h1654_)]; exact (la_stepOther_203 h1535_ e1745_ h1746_ h1747_).1, by rw [((congrArg (g240 64) (la_stepOther_197 h1565_)).trans h1654_)]; exact (la_stepOther_203 h1535_ e1745_ h1746_ h1747_).2⟩ rfl) rfl (la_stepOther_194 h1565_ h1652_) rfl) (la_stepOther_13 h1550_ e1742_) rfl rfl)
    refine ⟨la_stepOther_204, ?_⟩
    intro h1749_
    have h1750_ := (h63_.resolve_left h1749_)
    refine ⟨la_stepOther_205, ?_⟩
    intro h1751_
    have h1752_ := (h1750_.resolve_left h1751_)
    refine ⟨(la_stepOther_206 h35_ h36_ h49_ h58_ h1751_ h1752_), ?_⟩
    intro h1753_
    exact (la_stepOther_212 h1753_)
  intro h1754_
  intro h1755_
  refine ⟨la_stepOther_204, ?_⟩
  intro h1756_
  have h1757_ := (h63_.resolve_left h1756_)
  refine ⟨la_stepOther_205, ?_⟩
  intro h1758_
  have h1759_ := (h1757_.resolve_left h1758_)
  refine ⟨(la_stepOther_206 h35_ h36_ h49_ h58_ h1758_ h1759_), ?_⟩
  intro h1760_
  exact (la_stepOther_212 h1760_)
set_option maxRecDepth 8000 in
set_option maxHeartbeats 2000000 in
theorem t_stepOther : ∀ (p1 : Int) (p2 : Int) (S : sv_S), sm_ok S → sv_R p1 → sv_R p2 → ((S 1075 0) = 0 ∧ (S 1073 0) = 1 ∧ sm_PL (S 1100020) (S 51) (S 52) (S 46) (S 47) (S 1076 0) (S 1086 0) ∧ sm_FR (S 1100020) (S 52) (S 1100021) (S 1100022) (3000 - (S 1084 0)) (S 1085 0) ∧ sm_PV (S 1100020) (S 48) (S 49) (S 50) (S 44) (S 1076 0) (S 1007 0) ∧ sm_AL (S 1100020) (S 48) (S 49) (S 50) (S 44) (S 1076 0) (S 1100032 0) ∧ sm_SV (S 1100020) (S 48) (S 1100029) (S 32) (S 33) (S 1076 0) (S 1032 0) ∧ 0 ≤ (S 1076 0) ∧ (S 1076 0) ≤ 300 ∧ 0 ≤ (S 1084 0) ∧ (S 1084 0) ≤ 3000 ∧ 0 ≤ (S 1086 0) ∧ sm_SC (S 1100029) (S 44) (S 45) (S 43) (S 21) (S 1076 0) (S 1032 0) ∧ sm_PO (S 42) (S 1076 0) ∧ (S 1100032 0) = -1 ∧ sm_FO (S 44) (S 45) (S 1076 0) ∧ 23 ≤ (S 1076 0) ∧ 31 ≤ (S 1007 0) ∧ (S 1007 0) ≤ 400 ∧ sm_LN (S 4) 400 (S 1007 0) ∧ sm_CT (S 26) (S 27) (S 28) (S 29) (S 1100007) (S 1100023) (S 1100024) (S 1100025) (S 21) (S 1046 0) (S 1032 0) (S 1008 0) (S 1055 0) ∧ sm_LS (S 26) (S 1100007) (S 1100025) (S 1046 0) ∧ sm_CL (S 1100007) (S 1100023) (S 1100025) (S 1046 0) ∧ 1 ≤ (S 1032 0) ∧ (S 1032 0) ≤ 11 ∧ 0 ≤ (S 1046 0) ∧ (S 1046 0) ≤ 600 ∧ 31 ≤ (S 1008 0) ∧ (S 1008 0) ≤ (S 1007 0) ∧ 0 ≤ (S 1055 0) ∧ (S 1055 0) ≤ 19 ∧ 1 ≤ (S 1092 0) ∧ (S 1092 0) ≤ 24 ∧ 0 ≤ (S 1100033 0) ∧ (S 1100033 0) < (S 1046 0) ∧ (S 29 (S 1100033 0)) = (S 53 ((S 1092 0) - 1)) ∧ 0 ≤ (S 53 ((S 1092 0) - 1)) ∧ (S 53 ((S 1092 0) - 1)) < (S 1032 0) ∧ (S 60 ((S 1092 0) - 1)) = sm_dp (S 1100024) (S 1100023 (S 1100033 0)) ∧ sm_TC (S 61) (S 62) (S 27) (S 1100007) (S 1100023) (S 1100024) (40 * ((S 1092 0) - 1)) (S 1100023 (S 1100033 0)) ∧ sm_LK (S 1100029) (S 1076 0) (S 54 ((S 1092 0) - 1)) (S 53 ((S 1092 0) - 1)) ∧ sm_VO (S 44) (S 1076 0) (S 1007 0) ((S 55 ((S 1092 0) - 1))) ((S 56 ((S 1092 0) - 1))) ∧ sm_FW (S 44) (S 1076 0) (S 59 ((S 1092 0) - 1)) ∧ sm_FL (S 53) (S 54) (S 55) (S 56) (S 57) (S 58) (S 59) (S 60) (S 61) (S 62) (S 63) (S 64) (S 27) (S 29) (S 1100007) (S 1100023) (S 1100024) (S 1100025) (S 26) (S 1100029) (S 44) (S 1046 0) (S 1032 0) (S 1076 0) (S 1007 0) (((S 1092 0) - 1)) ∧ (S 57 ((S 1092 0) - 1)) = (S 1100033 0) ∧ 0 ≤ (S 58 ((S 1092 0) - 1)) ∧ (S 58 ((S 1092 0) - 1)) ≤ 400 ∧ sm_SK (S 63) (S 64) (S 44) (S 1100007) (S 1100025) (S 1076 0) (S 1007 0) (400 * ((S 1092 0) - 1)) ((S 58 ((S 1092 0) - 1))) ((S 1100034 0)) ∧ -1 ≤ (S 1100034 0) ∧ (S 1100034 0) < (S 1046 0) ∧ (0 ≤ (S 1100034 0) → (S 26 (S 1100034 0)) = 29) ∧ (S 58 ((S 1092 0) - 1)) = (S 1100007 (S 1100033 0)) ∧ (S 1100034 0) = (S 1100025 (S 1100033 0)) ∧ (0 ≤ (S 1100023 (S 1100033 0)) → (S 1100007 (S 1100023 (S 1100033 0))) ≤ (S 58 ((S 1092 0) - 1))) ∧ (S 58 ((S 1092 0) - 1)) ≤ 396 ∧ 17 ≤ p1 ∧ p1 ≤ 30 ∧ p1 = (S 26 (S 1100033 0)) ∧ p2 = (S 27 (S 1100033 0)) ∧ (p1 = 21 ∨ p1 = 27 ∨ p1 = 28 ∨ 1 ≤ (S 58 ((S 1092 0) - 1)))) → sv_T sm_XS sm_cs sm_L sm_sh 3 (q_stepOther p1 p2 S) 161 0 (lv_args 0 [.ref 0, sv_I p1, sv_I p2]) [] S := by
  intro p1 p2 S hok hp1 hp2 hpre
  have h := f_stepOther p1 p2 S hok hp1 hp2 hpre
  have hM := sm_h161
  show sv_T sm_XS sm_cs sm_L sm_sh 3 (q_stepOther p1 p2 S) 161 0 [(0, .ref 0), (1, sv_I p1), (2, sv_I p2)] [] S
  have k1 : (sm_CT (S 26) (S 27) (S 28) (S 29) (S 1100007) (S 1100023) (S 1100024) (S 1100025) (S 21) (S 1046 0) (S 1032 0) (S 1008 0) (S 1055 0) → 0 ≤ (S 1100033 0) → (S 1100033 0) < (S 1046 0) → (0 ≤ (S 1100025 (S 1100033 0)) → (S 26 (S 1100025 (S 1100033 0))) = 29 ∧ (S 1100007 (S 1100025 (S 1100033 0))) ≤ (S 1100007 (S 1100033 0))) ∧ (0 ≤ (S 1100007 (S 1100033 0)) ∧ (S 1100007 (S 1100033 0)) ≤ 396 ∧ -1 ≤ (S 1100023 (S 1100033 0)) ∧ (S 1100023 (S 1100033 0)) < (S 1100033 0) ∧ -1 ≤ (S 1100025 (S 1100033 0)) ∧ (S 1100025 (S 1100033 0)) < (S 1100033 0) ∧ 0 ≤ (S 26 (S 1100033 0)) ∧ (S 26 (S 1100033 0)) ≤ 30)) := fun h a b => by have q := sm_ct_0 h _ a b; have w := sm_ct_3 h _ a b; exact ⟨fun z => ⟨(w z).1, (w z).2.2.1⟩, by omega⟩
  have h := h k1
  have k2 : ((S 1100034 0) = (S 1100025 (S 1100033 0)) → (S 58 ((S 1092 0) - 1)) = (S 1100007 (S 1100033 0)) → (0 ≤ (S 1100025 (S 1100033 0)) → (S 1100007 (S 1100025 (S 1100033 0))) ≤ (S 1100007 (S 1100033 0))) → (0 ≤ (S 1100034 0) → (S 1100007 (S 1100034 0)) ≤ (S 58 ((S 1092 0) - 1)))) := fun q f j z => by rw [q] at z ⊢; have := j z; omega
  have h := h k2
  have J253 : ∀ s3 : Int, sv_R s3 → ((p1 = 21 ∨ p1 = 27 ∨ p1 = 28) ∨ s3 = (S 63 ((400 * ((S 1092 0) - 1) + (S 58 ((S 1092 0) - 1))) - 1 - 0))) → sv_T sm_XS sm_cs sm_L sm_sh 3 (q_stepOther p1 p2 S) 161 27 [(0, .ref 0), (1, sv_I p1), (2, sv_I p2)] [sv_I s3] S := by
    intro s3 hs3 hin4
    have h := h.1 s3 hs3 hin4
    refine sv_istore_n hM dX12_stepOther_27 (by decide) rfl ?_
    show sv_T sm_XS sm_cs sm_L sm_sh 3 (q_stepOther p1 p2 S) 161 28 [(0, .ref 0), (1, sv_I p1), (2, sv_I p2), (3, sv_I s3)] [] S
    have J251 : ∀ s5 : Int, sv_R s5 → ((p1 = 21 ∨ p1 = 27 ∨ p1 = 28) ∨ s5 = (S 64 ((400 * ((S 1092 0) - 1) + (S 58 ((S 1092 0) - 1))) - 1 - 0))) → sv_T sm_XS sm_cs sm_L sm_sh 3 (q_stepOther p1 p2 S) 161 55 [(0, .ref 0), (1, sv_I p1), (2, sv_I p2), (3, sv_I s3)] [sv_I s5] S := by
      intro s5 hs5 hin6
      have h := h.1 s5 hs5 hin6
      refine sv_istore hM dX12_stepOther_55 (by decide) rfl ?_
      show sv_T sm_XS sm_cs sm_L sm_sh 3 (q_stepOther p1 p2 S) 161 57 [(0, .ref 0), (1, sv_I p1), (2, sv_I p2), (3, sv_I s3), (4, sv_I s5)] [] S
      refine sv_aload_n hM dX12_stepOther_57 rfl rfl ?_
      have k7 : sv_R (S 1092 0) := sm_okI hok sm_r1092 0
      have h := h k7
      refine sv_getI hM dX12_stepOther_58 sm_fl_872 (sm_a0 _) sm_k92 rfl (x := (S 1092 0)) rfl ?_
      refine sv_iconst (d := (1 : Int)) hM dX12_stepOther_61 rfl rfl ?_
      refine sv_isub hM dX12_stepOther_62 rfl ?_
      refine sv_istore hM dX12_stepOther_63 (by decide) rfl ?_
      show sv_T sm_XS sm_cs sm_L sm_sh 3 (q_stepOther p1 p2 S) 161 65 [(0, .ref 0), (1, sv_I p1), (2, sv_I p2), (3, sv_I s3), (4, sv_I s5), (5, sv_I ((S 1092 0) - (1 : Int)))] [] S
      refine sv_iload_n hM dX12_stepOther_65 rfl rfl ?_
      have hS := h
      have J0 : (p1 < (17 : Int) ∨ (29 : Int) < p1) → sv_T sm_XS sm_cs sm_L sm_sh 3 (q_stepOther p1 p2 S) 161 454 [(0, .ref 0), (1, sv_I p1), (2, sv_I p2), (3, sv_I s3), (4, sv_I s5), (5, sv_I ((S 1092 0) - (1 : Int)))] [] S := by
        intro hc
        have h := hS.1 hc
        have k8 : (sm_CT (S 26) (S 27) (S 28) (S 29) (S 1100007) (S 1100023) (S 1100024) (S 1100025) (S 21) (S 1046 0) (S 1032 0) (S 1008 0) (S 1055 0) → 0 ≤ (S 1100033 0) → (S 1100033 0) < (S 1046 0) → ((S 26 (S 1100033 0)) = 30 → 0 ≤ (S 1100025 (S 1100033 0)) ∧ (S 1100007 ((S 1100025 (S 1100033 0)))) = (S 1100007 (S 1100033 0)) ∧ 1 ≤ (S 1100007 (S 1100033 0)) ∧ (0 ≤ (S 1100023 (S 1100033 0)) → (S 1100007 ((S 1100023 (S 1100033 0)))) ≤ (S 1100007 (S 1100033 0)) - 1) ∧ (0 ≤ ((S 1100033 0) + 1) ∧ ((S 1100033 0) + 1) < (S 1046 0) ∧ (S 29 ((S 1100033 0) + 1)) = ((S 29 (S 1100033 0))) ∧ (S 1100007 ((S 1100033 0) + 1)) = ((S 1100007 (S 1100033 0)) + 1) ∧ (S 1100023 ((S 1100033 0) + 1)) = ((S 1100023 (S 1100033 0))) ∧ (S 1100025 ((S 1100033 0) + 1)) = ((S 1100025 (S 1100033 0)))) ∧ (0 ≤ ((S 27 (S 1100033 0))) ∧ ((S 27 (S 1100033 0))) < (S 1046 0) ∧ (S 29 ((S 27 (S 1100033 0)))) = ((S 29 (S 1100033 0))) ∧ (S 1100007 ((S 27 (S 1100033 0)))) = ((S 1100007 (S 1100033 0)) - 1) ∧ (S 1100023 ((S 27 (S 1100033 0)))) = ((S 1100023 (S 1100033 0))) ∧ (S 1100025 ((S 27 (S 1100033 0)))) = ((S 1100025 ((S 1100025 (S 1100033 0)))))))) := fun h h0 h1 => sm_ct_27 h _ h0 h1
        have h := h k8
        have k9 : (sm_SK (S 63) (S 64) (S 44) (S 1100007) (S 1100025) (S 1076 0) (S 1007 0) (400 * ((S 1092 0) - 1)) ((S 58 ((S 1092 0) - 1))) ((S 1100034 0)) → sm_LS (S 26) (S 1100007) (S 1100025) (S 1046 0) → 0 ≤ (S 1100034 0) → (S 1100034 0) < (S 1046 0) → (S 26 (S 1100034 0)) = 29 → (S 1100007 (S 1100034 0)) = (S 58 ((S 1092 0) - 1)) → (S 63 (400 * ((S 1092 0) - 1) + (S 58 ((S 1092 0) - 1)) - 1)) = 8 ∧ -1 ≤ (S 64 (400 * ((S 1092 0) - 1) + (S 58 ((S 1092 0) - 1)) - 1)) ∧ (S 64 (400 * ((S 1092 0) - 1) + (S 58 ((S 1092 0) - 1)) - 1)) < (S 1076 0)) := fun h l a b e g => sm_SK_list h l a b e g
        have h := h k9
        have k10 : (sm_CT (S 26) (S 27) (S 28) (S 29) (S 1100007) (S 1100023) (S 1100024) (S 1100025) (S 21) (S 1046 0) (S 1032 0) (S 1008 0) (S 1055 0) → 0 ≤ (S 1100033 0) → (S 1100033 0) < (S 1046 0) → (0 ≤ (S 1100025 (S 1100033 0)) → (S 26 ((S 1100025 (S 1100033 0)))) = 29 ∧ (S 29 ((S 1100025 (S 1100033 0)))) = (S 29 (S 1100033 0)) ∧ (S 1100007 ((S 1100025 (S 1100033 0)))) ≤ (S 1100007 (S 1100033 0)) ∧ 1 ≤ (S 1100007 ((S 1100025 (S 1100033 0)))))) := fun h h0 h1 => sm_ct_3 h _ h0 h1
        have h := h k10
        refine sv_aload_n hM dX12_stepOther_454 rfl rfl ?_
        refine sv_iload_n hM dX12_stepOther_455 rfl rfl ?_
        obtain ⟨o11, h⟩ := h
        refine sv_callV hM dX12_stepOther_456 sm_iv_960 (by decide) (sm_a0 _) rfl rfl (Nat.le_of_ble_eq_true rfl) sm_h164 (Nat.le_of_ble_eq_true rfl) (Nat.le_of_ble_eq_true rfl) (F' := 2) (Nat.le_of_ble_eq_true rfl) rfl (t_goNext p2 S hok hp2 o11) (fun v S1 hq => ?_)
        obtain ⟨rfl, ok13, md14, hpo15⟩ := hq
        obtain ⟨g12, rfl⟩ : ∃ g, S1 = sv_sts S [58, 57, 63, 64, 65] g := ⟨_, md14.eq⟩
        show sv_T sm_XS sm_cs sm_L sm_sh 3 (q_stepOther p1 p2 S) 161 459 [(0, .ref 0), (1, sv_I p1), (2, sv_I p2), (3, sv_I s3), (4, sv_I s5), (5, sv_I ((S 1092 0) - (1 : Int)))] [] (sv_sts S [58, 57, 63, 64, 65] g12)
        have md16 : sv_mod [1092, 60, 58, 57, 63, 64, 1073, 1109, 1110, 65, 66, 61, 62] S (sv_sts S [58, 57, 63, 64, 65] g12) := sv_mod.sts sv_mod.rf (by decide)
        have h := h g12 hpo15
        exact sv_vret hM dX12_stepOther_459 rfl ⟨rfl, ok13, md16, h⟩
      have J1 : (p1 = (17 : Int)) → sv_T sm_XS sm_cs sm_L sm_sh 3 (q_stepOther p1 p2 S) 161 132 [(0, .ref 0), (1, sv_I p1), (2, sv_I p2), (3, sv_I s3), (4, sv_I s5), (5, sv_I ((S 1092 0) - (1 : Int)))] [] S := by
        intro hc
        have h := hS.2.1 hc
        have k17 : (sm_CT (S 26) (S 27) (S 28) (S 29) (S 1100007) (S 1100023) (S 1100024) (S 1100025) (S 21) (S 1046 0) (S 1032 0) (S 1008 0) (S 1055 0) → sm_LS (S 26) (S 1100007) (S 1100025) (S 1046 0) → sm_SK (S 63) (S 64) (S 44) (S 1100007) (S 1100025) (S 1076 0) (S 1007 0) (400 * ((S 1092 0) - 1)) ((S 58 ((S 1092 0) - 1))) ((S 1100034 0)) → 0 ≤ (S 1100033 0) → (S 1100033 0) < (S 1046 0) → (S 26 (S 1100033 0)) = 17 → (S 1100034 0) = (S 1100025 (S 1100033 0)) → (S 58 ((S 1092 0) - 1)) = (S 1100007 (S 1100033 0)) → sm_SK (S 63) (S 64) (S 44) (S 1100007) (S 1100025) (S 1076 0) (S 1007 0) (400 * ((S 1092 0) - 1)) ((S 58 ((S 1092 0) - 1)) - 1) ((S 1100025 ((S 1100033 0) + 1))) ∧ (S 1100033 0) + 1 < (S 1046 0) ∧ (S 29 ((S 1100033 0) + 1)) = (S 29 (S 1100033 0)) ∧ (S 1100007 ((S 1100033 0) + 1)) = (S 1100007 (S 1100033 0)) - 1 ∧ (S 1100023 ((S 1100033 0) + 1)) = (S 1100023 (S 1100033 0)) ∧ 1 ≤ (S 1100007 (S 1100033 0)) ∧ -1 ≤ (S 1100025 ((S 1100033 0) + 1))) := fun c l w a b d e f => sm_SK_d17 c l w a b d e f
        have h := h k17
        refine sv_aload_n hM dX12_stepOther_132 rfl rfl ?_
        refine sv_iconst (d := (1 : Int)) hM dX12_stepOther_133 rfl rfl ?_
        obtain ⟨o18, h⟩ := h
        refine sv_callV hM dX12_stepOther_134 sm_iv_882 (by decide) (sm_a0 _) rfl rfl (Nat.le_of_ble_eq_true rfl) sm_h153 (Nat.le_of_ble_eq_true rfl) (Nat.le_of_ble_eq_true rfl) (F' := 0) (Nat.le_of_ble_eq_true rfl) rfl (t_drop (1 : Int) S hok (⟨by decide, by decide⟩ : sv_R (1 : Int)) o18) (fun v S1 hq => ?_)
        obtain ⟨rfl, ok20, md21, hpo22⟩ := hq
        obtain ⟨g19, rfl⟩ : ∃ g, S1 = sv_sts S [58] g := ⟨_, md21.eq⟩
        show sv_T sm_XS sm_cs sm_L sm_sh 3 (q_stepOther p1 p2 S) 161 137 [(0, .ref 0), (1, sv_I p1), (2, sv_I p2), (3, sv_I s3), (4, sv_I s5), (5, sv_I ((S 1092 0) - (1 : Int)))] [] (sv_sts S [58] g19)
        have md23 : sv_mod [1092, 60, 58, 57, 63, 64, 1073, 1109, 1110, 65, 66, 61, 62] S (sv_sts S [58] g19) := sv_mod.sts sv_mod.rf (by decide)
        have h := h g19 hpo22
        refine sv_aload_n hM dX12_stepOther_137 rfl rfl ?_
        obtain ⟨o24, h⟩ := h
        refine sv_callV hM dX12_stepOther_138 sm_iv_888 (by decide) (sm_a0 _) rfl rfl (Nat.le_of_ble_eq_true rfl) sm_h154 (Nat.le_of_ble_eq_true rfl) (Nat.le_of_ble_eq_true rfl) (F' := 0) (Nat.le_of_ble_eq_true rfl) rfl (t_goOn  (sv_sts S [58] g19) ok20 o24) (fun v S1 hq => ?_)
        obtain ⟨rfl, ok26, md27, hpo28⟩ := hq
        obtain ⟨g25, rfl⟩ : ∃ g, S1 = sv_sts (sv_sts S [58] g19) [57] g := ⟨_, md27.eq⟩
        show sv_T sm_XS sm_cs sm_L sm_sh 3 (q_stepOther p1 p2 S) 161 141 [(0, .ref 0), (1, sv_I p1), (2, sv_I p2), (3, sv_I s3), (4, sv_I s5), (5, sv_I ((S 1092 0) - (1 : Int)))] [] (sv_sts (sv_sts S [58] g19) [57] g25)
        have md29 : sv_mod [1092, 60, 58, 57, 63, 64, 1073, 1109, 1110, 65, 66, 61, 62] S (sv_sts (sv_sts S [58] g19) [57] g25) := sv_mod.sts md23 (by decide)
        have h := h g25 hpo28
        refine sv_goto hM dX12_stepOther_141 (pc' := 459) rfl ?_
        exact sv_vret hM dX12_stepOther_459 rfl ⟨rfl, ok26, md29, h⟩
      have J2 : (p1 = (18 : Int)) → sv_T sm_XS sm_cs sm_L sm_sh 3 (q_stepOther p1 p2 S) 161 144 [(0, .ref 0), (1, sv_I p1), (2, sv_I p2), (3, sv_I s3), (4, sv_I s5), (5, sv_I ((S 1092 0) - (1 : Int)))] [] S := by
        intro hc
        have h := hS.2.2.1 hc
        have k30 : (sm_CT (S 26) (S 27) (S 28) (S 29) (S 1100007) (S 1100023) (S 1100024) (S 1100025) (S 21) (S 1046 0) (S 1032 0) (S 1008 0) (S 1055 0) → 0 ≤ (S 1100033 0) → (S 1100033 0) < (S 1046 0) → ((S 26 (S 1100033 0)) = 18 → (0 ≤ ((S 1100007 (S 1100033 0)) - 1) ∧ (0 ≤ (S 1100023 (S 1100033 0)) → (S 1100007 (S 1100023 (S 1100033 0))) ≤ ((S 1100007 (S 1100033 0)) - 1)) ∧ (0 ≤ (S 1100025 (S 1100033 0)) → (S 1100007 (S 1100025 (S 1100033 0))) ≤ ((S 1100007 (S 1100033 0)) - 1))) ∧ (0 ≤ ((S 1100033 0) + 1) ∧ ((S 1100033 0) + 1) < (S 1046 0) ∧ (S 29 ((S 1100033 0) + 1)) = ((S 29 (S 1100033 0))) ∧ (S 1100007 ((S 1100033 0) + 1)) = ((S 1100007 (S 1100033 0)) + 1) ∧ (S 1100023 ((S 1100033 0) + 1)) = ((S 1100023 (S 1100033 0))) ∧ (S 1100025 ((S 1100033 0) + 1)) = ((S 1100025 (S 1100033 0)))))) := fun h h0 h1 => sm_ct_17 h _ h0 h1
        have h := h k30
        have k31 : ((S 1100034 0) = (S 1100025 (S 1100033 0)) → (S 58 ((S 1092 0) - 1)) = (S 1100007 (S 1100033 0)) → (0 ≤ (S 1100025 (S 1100033 0)) → (S 1100007 (S 1100025 (S 1100033 0))) ≤ (S 1100007 (S 1100033 0)) - 1) → (0 ≤ (S 1100034 0) → (S 1100007 (S 1100034 0)) ≤ (S 58 ((S 1092 0) - 1)) - 1)) := fun q f j z => by rw [q] at z ⊢; have := j z; omega
        have h := h k31
        have k32 : (sm_SK (S 63) (S 64) (S 44) (S 1100007) (S 1100025) (S 1076 0) (S 1007 0) (400 * ((S 1092 0) - 1)) ((S 58 ((S 1092 0) - 1))) ((S 1100034 0)) → sm_LS (S 26) (S 1100007) (S 1100025) (S 1046 0) → 0 ≤ (S 58 ((S 1092 0) - 1)) - 1 → (S 58 ((S 1092 0) - 1)) - 1 < (S 58 ((S 1092 0) - 1)) → (S 1100034 0) < (S 1046 0) → (S 1100034 0) = (S 1100025 (S 1100033 0)) → (S 58 ((S 1092 0) - 1)) = (S 1100007 (S 1100033 0)) → (0 ≤ (S 1100034 0) → (S 26 (S 1100034 0)) = 29) → (0 ≤ (S 1100025 (S 1100033 0)) → (S 1100007 (S 1100025 (S 1100033 0))) ≤ (S 1100007 (S 1100033 0)) - 1) → sm_VO (S 44) (S 1076 0) (S 1007 0) ((S 63 (400 * ((S 1092 0) - 1) + ((S 58 ((S 1092 0) - 1)) - 1)))) ((S 64 (400 * ((S 1092 0) - 1) + ((S 58 ((S 1092 0) - 1)) - 1))))) := fun h a b e g q f i j => sm_SK_at h a _ b e g (fun z => ⟨i z, by rw [q]; have := j (by omega); omega⟩)
        have h := h k32
        refine sv_aload_n hM dX12_stepOther_144 rfl rfl ?_
        refine sv_iload_n hM dX12_stepOther_145 rfl rfl ?_
        refine sv_iload hM dX12_stepOther_146 rfl rfl ?_
        obtain ⟨o33, h⟩ := h
        refine sv_callV hM dX12_stepOther_148 sm_iv_885 (by decide) (sm_a0 _) rfl rfl (Nat.le_of_ble_eq_true rfl) sm_h152 (Nat.le_of_ble_eq_true rfl) (Nat.le_of_ble_eq_true rfl) (F' := 1) (Nat.le_of_ble_eq_true rfl) rfl (t_push s3 s5 S hok hs3 hs5 o33) (fun v S1 hq => ?_)
        obtain ⟨rfl, ok35, md36, hpo37⟩ := hq
        obtain ⟨g34, rfl⟩ : ∃ g, S1 = sv_sts S [63, 64, 58] g := ⟨_, md36.eq⟩
        show sv_T sm_XS sm_cs sm_L sm_sh 3 (q_stepOther p1 p2 S) 161 151 [(0, .ref 0), (1, sv_I p1), (2, sv_I p2), (3, sv_I s3), (4, sv_I s5), (5, sv_I ((S 1092 0) - (1 : Int)))] [] (sv_sts S [63, 64, 58] g34)
        have md38 : sv_mod [1092, 60, 58, 57, 63, 64, 1073, 1109, 1110, 65, 66, 61, 62] S (sv_sts S [63, 64, 58] g34) := sv_mod.sts sv_mod.rf (by decide)
        have h := h g34 hpo37
        refine sv_aload_n hM dX12_stepOther_151 rfl rfl ?_
        obtain ⟨o39, h⟩ := h
        refine sv_callV hM dX12_stepOther_152 sm_iv_888 (by decide) (sm_a0 _) rfl rfl (Nat.le_of_ble_eq_true rfl) sm_h154 (Nat.le_of_ble_eq_true rfl) (Nat.le_of_ble_eq_true rfl) (F' := 0) (Nat.le_of_ble_eq_true rfl) rfl (t_goOn  (sv_sts S [63, 64, 58] g34) ok35 o39) (fun v S1 hq => ?_)
        obtain ⟨rfl, ok41, md42, hpo43⟩ := hq
        obtain ⟨g40, rfl⟩ : ∃ g, S1 = sv_sts (sv_sts S [63, 64, 58] g34) [57] g := ⟨_, md42.eq⟩
        show sv_T sm_XS sm_cs sm_L sm_sh 3 (q_stepOther p1 p2 S) 161 155 [(0, .ref 0), (1, sv_I p1), (2, sv_I p2), (3, sv_I s3), (4, sv_I s5), (5, sv_I ((S 1092 0) - (1 : Int)))] [] (sv_sts (sv_sts S [63, 64, 58] g34) [57] g40)
        have md44 : sv_mod [1092, 60, 58, 57, 63, 64, 1073, 1109, 1110, 65, 66, 61, 62] S (sv_sts (sv_sts S [63, 64, 58] g34) [57] g40) := sv_mod.sts md38 (by decide)
        have h := h g40 hpo43
        refine sv_goto hM dX12_stepOther_155 (pc' := 459) rfl ?_
        exact sv_vret hM dX12_stepOther_459 rfl ⟨rfl, ok41, md44, h⟩
      have J3 : (p1 = (19 : Int)) → sv_T sm_XS sm_cs sm_L sm_sh 3 (q_stepOther p1 p2 S) 161 158 [(0, .ref 0), (1, sv_I p1), (2, sv_I p2), (3, sv_I s3), (4, sv_I s5), (5, sv_I ((S 1092 0) - (1 : Int)))] [] S := by
        intro hc
        have h := hS.2.2.2.1 hc
        have k45 : (sm_CT (S 26) (S 27) (S 28) (S 29) (S 1100007) (S 1100023) (S 1100024) (S 1100025) (S 21) (S 1046 0) (S 1032 0) (S 1008 0) (S 1055 0) → 0 ≤ (S 1100033 0) → (S 1100033 0) < (S 1046 0) → ((S 26 (S 1100033 0)) = 19 → (0 ≤ ((S 1100007 (S 1100033 0)) - 2) ∧ (0 ≤ (S 1100023 (S 1100033 0)) → (S 1100007 (S 1100023 (S 1100033 0))) ≤ ((S 1100007 (S 1100033 0)) - 2)) ∧ (0 ≤ (S 1100025 (S 1100033 0)) → (S 1100007 (S 1100025 (S 1100033 0))) ≤ ((S 1100007 (S 1100033 0)) - 2))) ∧ (0 ≤ ((S 1100033 0) + 1) ∧ ((S 1100033 0) + 1) < (S 1046 0) ∧ (S 29 ((S 1100033 0) + 1)) = ((S 29 (S 1100033 0))) ∧ (S 1100007 ((S 1100033 0) + 1)) = ((S 1100007 (S 1100033 0)) + 2) ∧ (S 1100023 ((S 1100033 0) + 1)) = ((S 1100023 (S 1100033 0))) ∧ (S 1100025 ((S 1100033 0) + 1)) = ((S 1100025 (S 1100033 0)))))) := fun h h0 h1 => sm_ct_18 h _ h0 h1
        have h := h k45
        have k46 : ((S 1100034 0) = (S 1100025 (S 1100033 0)) → (S 58 ((S 1092 0) - 1)) = (S 1100007 (S 1100033 0)) → (0 ≤ (S 1100025 (S 1100033 0)) → (S 1100007 (S 1100025 (S 1100033 0))) ≤ (S 1100007 (S 1100033 0)) - 2) → (0 ≤ (S 1100034 0) → (S 1100007 (S 1100034 0)) ≤ (S 58 ((S 1092 0) - 1)) - 2)) := fun q f j z => by rw [q] at z ⊢; have := j z; omega
        have h := h k46
        have k47 : (sm_SK (S 63) (S 64) (S 44) (S 1100007) (S 1100025) (S 1076 0) (S 1007 0) (400 * ((S 1092 0) - 1)) ((S 58 ((S 1092 0) - 1))) ((S 1100034 0)) → sm_LS (S 26) (S 1100007) (S 1100025) (S 1046 0) → 0 ≤ (S 58 ((S 1092 0) - 1)) - 1 → (S 58 ((S 1092 0) - 1)) - 1 < (S 58 ((S 1092 0) - 1)) → (S 1100034 0) < (S 1046 0) → (S 1100034 0) = (S 1100025 (S 1100033 0)) → (S 58 ((S 1092 0) - 1)) = (S 1100007 (S 1100033 0)) → (0 ≤ (S 1100034 0) → (S 26 (S 1100034 0)) = 29) → (0 ≤ (S 1100025 (S 1100033 0)) → (S 1100007 (S 1100025 (S 1100033 0))) ≤ (S 1100007 (S 1100033 0)) - 2) → sm_VO (S 44) (S 1076 0) (S 1007 0) ((S 63 (400 * ((S 1092 0) - 1) + ((S 58 ((S 1092 0) - 1)) - 1)))) ((S 64 (400 * ((S 1092 0) - 1) + ((S 58 ((S 1092 0) - 1)) - 1))))) := fun h a b e g q f i j => sm_SK_at h a _ b e g (fun z => ⟨i z, by rw [q]; have := j (by omega); omega⟩)
        have h := h k47
        have k48 : (sm_SK (S 63) (S 64) (S 44) (S 1100007) (S 1100025) (S 1076 0) (S 1007 0) (400 * ((S 1092 0) - 1)) ((S 58 ((S 1092 0) - 1))) ((S 1100034 0)) → sm_LS (S 26) (S 1100007) (S 1100025) (S 1046 0) → 0 ≤ (S 58 ((S 1092 0) - 1)) - 2 → (S 58 ((S 1092 0) - 1)) - 2 < (S 58 ((S 1092 0) - 1)) → (S 1100034 0) < (S 1046 0) → (S 1100034 0) = (S 1100025 (S 1100033 0)) → (S 58 ((S 1092 0) - 1)) = (S 1100007 (S 1100033 0)) → (0 ≤ (S 1100034 0) → (S 26 (S 1100034 0)) = 29) → (0 ≤ (S 1100025 (S 1100033 0)) → (S 1100007 (S 1100025 (S 1100033 0))) ≤ (S 1100007 (S 1100033 0)) - 2) → sm_VO (S 44) (S 1076 0) (S 1007 0) ((S 63 (400 * ((S 1092 0) - 1) + ((S 58 ((S 1092 0) - 1)) - 2)))) ((S 64 (400 * ((S 1092 0) - 1) + ((S 58 ((S 1092 0) - 1)) - 2))))) := fun h a b e g q f i j => sm_SK_at h a _ b e g (fun z => ⟨i z, by rw [q]; have := j (by omega); omega⟩)
        have h := h k48
        refine sv_aload_n hM dX12_stepOther_158 rfl rfl ?_
        refine sv_iconst (d := (1 : Int)) hM dX12_stepOther_159 rfl rfl ?_
        obtain ⟨o49, h⟩ := h
        refine sv_callV hM dX12_stepOther_160 sm_iv_910 (by decide) (sm_a0 _) rfl rfl (Nat.le_of_ble_eq_true rfl) sm_h150 (Nat.le_of_ble_eq_true rfl) (Nat.le_of_ble_eq_true rfl) (F' := 1) (Nat.le_of_ble_eq_true rfl) rfl (t_sortAt (1 : Int) S hok (⟨by decide, by decide⟩ : sv_R (1 : Int)) o49) (fun v S1 hq => ?_)
        obtain ⟨rfl, hS1⟩ := hq
        obtain rfl : S = S1 := hS1.symm
        show sv_T sm_XS sm_cs sm_L sm_sh 3 (q_stepOther p1 p2 S) 161 163 [(0, .ref 0), (1, sv_I p1), (2, sv_I p2), (3, sv_I s3), (4, sv_I s5), (5, sv_I ((S 1092 0) - (1 : Int)))] [sv_I ((S 63 ((400 * ((S 1092 0) - 1) + (S 58 ((S 1092 0) - 1))) - 1 - (1 : Int))))] S
        obtain ⟨x50, e51⟩ : ∃ x : Int, ((S 63 ((400 * ((S 1092 0) - 1) + (S 58 ((S 1092 0) - 1))) - 1 - (1 : Int)))) = x := ⟨_, rfl⟩
        have h := h x50 e51
        have e51r : sv_R x50 := e51 ▸ (sm_okI hok sm_r63 _)
        refine sv_nameI e51 ?_
        refine sv_istore hM dX12_stepOther_163 (by decide) rfl ?_
        show sv_T sm_XS sm_cs sm_L sm_sh 3 (q_stepOther p1 p2 S) 161 165 [(0, .ref 0), (1, sv_I p1), (2, sv_I p2), (3, sv_I s3), (4, sv_I s5), (5, sv_I ((S 1092 0) - (1 : Int))), (6, sv_I x50)] [] S
        refine sv_aload_n hM dX12_stepOther_165 rfl rfl ?_
        refine sv_iconst (d := (1 : Int)) hM dX12_stepOther_166 rfl rfl ?_
        refine sv_callV hM dX12_stepOther_167 sm_iv_913 (by decide) (sm_a0 _) rfl rfl (Nat.le_of_ble_eq_true rfl) sm_h151 (Nat.le_of_ble_eq_true rfl) (Nat.le_of_ble_eq_true rfl) (F' := 1) (Nat.le_of_ble_eq_true rfl) rfl (t_valueAt (1 : Int) S hok (⟨by decide, by decide⟩ : sv_R (1 : Int)) o49) (fun v S1 hq => ?_)
        obtain ⟨rfl, hS1⟩ := hq
        obtain rfl : S = S1 := hS1.symm
        show sv_T sm_XS sm_cs sm_L sm_sh 3 (q_stepOther p1 p2 S) 161 170 [(0, .ref 0), (1, sv_I p1), (2, sv_I p2), (3, sv_I s3), (4, sv_I s5), (5, sv_I ((S 1092 0) - (1 : Int))), (6, sv_I x50)] [sv_I ((S 64 ((400 * ((S 1092 0) - 1) + (S 58 ((S 1092 0) - 1))) - 1 - (1 : Int))))] S
        obtain ⟨x52, e53⟩ : ∃ x : Int, ((S 64 ((400 * ((S 1092 0) - 1) + (S 58 ((S 1092 0) - 1))) - 1 - (1 : Int)))) = x := ⟨_, rfl⟩
        have h := h x52 e53
        have e53r : sv_R x52 := e53 ▸ (sm_okI hok sm_r64 _)
        refine sv_nameI e53 ?_
        refine sv_istore hM dX12_stepOther_170 (by decide) rfl ?_
        show sv_T sm_XS sm_cs sm_L sm_sh 3 (q_stepOther p1 p2 S) 161 172 [(0, .ref 0), (1, sv_I p1), (2, sv_I p2), (3, sv_I s3), (4, sv_I s5), (5, sv_I ((S 1092 0) - (1 : Int))), (6, sv_I x50), (7, sv_I x52)] [] S
        refine sv_aload_n hM dX12_stepOther_172 rfl rfl ?_
        refine sv_iload hM dX12_stepOther_173 rfl rfl ?_
        refine sv_iload hM dX12_stepOther_175 rfl rfl ?_
        obtain ⟨o54, h⟩ := h
        refine sv_callV hM dX12_stepOther_177 sm_iv_885 (by decide) (sm_a0 _) rfl rfl (Nat.le_of_ble_eq_true rfl) sm_h152 (Nat.le_of_ble_eq_true rfl) (Nat.le_of_ble_eq_true rfl) (F' := 1) (Nat.le_of_ble_eq_true rfl) rfl (t_push x50 x52 S hok e51r e53r o54) (fun v S1 hq => ?_)
        obtain ⟨rfl, ok56, md57, hpo58⟩ := hq
        obtain ⟨g55, rfl⟩ : ∃ g, S1 = sv_sts S [63, 64, 58] g := ⟨_, md57.eq⟩
        show sv_T sm_XS sm_cs sm_L sm_sh 3 (q_stepOther p1 p2 S) 161 180 [(0, .ref 0), (1, sv_I p1), (2, sv_I p2), (3, sv_I s3), (4, sv_I s5), (5, sv_I ((S 1092 0) - (1 : Int))), (6, sv_I x50), (7, sv_I x52)] [] (sv_sts S [63, 64, 58] g55)
        have md59 : sv_mod [1092, 60, 58, 57, 63, 64, 1073, 1109, 1110, 65, 66, 61, 62] S (sv_sts S [63, 64, 58] g55) := sv_mod.sts sv_mod.rf (by decide)
        have h := h g55 hpo58
        refine sv_aload_n hM dX12_stepOther_180 rfl rfl ?_
        refine sv_iload_n hM dX12_stepOther_181 rfl rfl ?_
        refine sv_iload hM dX12_stepOther_182 rfl rfl ?_
        obtain ⟨o60, h⟩ := h
        refine sv_callV hM dX12_stepOther_184 sm_iv_885 (by decide) (sm_a0 _) rfl rfl (Nat.le_of_ble_eq_true rfl) sm_h152 (Nat.le_of_ble_eq_true rfl) (Nat.le_of_ble_eq_true rfl) (F' := 1) (Nat.le_of_ble_eq_true rfl) rfl (t_push s3 s5 (sv_sts S [63, 64, 58] g55) ok56 hs3 hs5 o60) (fun v S1 hq => ?_)
        obtain ⟨rfl, ok62, md63, hpo64⟩ := hq
        obtain ⟨g61, rfl⟩ : ∃ g, S1 = sv_sts (sv_sts S [63, 64, 58] g55) [63, 64, 58] g := ⟨_, md63.eq⟩
        show sv_T sm_XS sm_cs sm_L sm_sh 3 (q_stepOther p1 p2 S) 161 187 [(0, .ref 0), (1, sv_I p1), (2, sv_I p2), (3, sv_I s3), (4, sv_I s5), (5, sv_I ((S 1092 0) - (1 : Int))), (6, sv_I x50), (7, sv_I x52)] [] (sv_sts (sv_sts S [63, 64, 58] g55) [63, 64, 58] g61)
        have md65 : sv_mod [1092, 60, 58, 57, 63, 64, 1073, 1109, 1110, 65, 66, 61, 62] S (sv_sts (sv_sts S [63, 64, 58] g55) [63, 64, 58] g61) := sv_mod.sts md59 (by decide)
        have h := h g61 hpo64
        refine sv_aload_n hM dX12_stepOther_187 rfl rfl ?_
        obtain ⟨o66, h⟩ := h
        refine sv_callV hM dX12_stepOther_188 sm_iv_888 (by decide) (sm_a0 _) rfl rfl (Nat.le_of_ble_eq_true rfl) sm_h154 (Nat.le_of_ble_eq_true rfl) (Nat.le_of_ble_eq_true rfl) (F' := 0) (Nat.le_of_ble_eq_true rfl) rfl (t_goOn  (sv_sts (sv_sts S [63, 64, 58] g55) [63, 64, 58] g61) ok62 o66) (fun v S1 hq => ?_)
        obtain ⟨rfl, ok68, md69, hpo70⟩ := hq
        obtain ⟨g67, rfl⟩ : ∃ g, S1 = sv_sts (sv_sts (sv_sts S [63, 64, 58] g55) [63, 64, 58] g61) [57] g := ⟨_, md69.eq⟩
        show sv_T sm_XS sm_cs sm_L sm_sh 3 (q_stepOther p1 p2 S) 161 191 [(0, .ref 0), (1, sv_I p1), (2, sv_I p2), (3, sv_I s3), (4, sv_I s5), (5, sv_I ((S 1092 0) - (1 : Int))), (6, sv_I x50), (7, sv_I x52)] [] (sv_sts (sv_sts (sv_sts S [63, 64, 58] g55) [63, 64, 58] g61) [57] g67)
        have md71 : sv_mod [1092, 60, 58, 57, 63, 64, 1073, 1109, 1110, 65, 66, 61, 62] S (sv_sts (sv_sts (sv_sts S [63, 64, 58] g55) [63, 64, 58] g61) [57] g67) := sv_mod.sts md65 (by decide)
        have h := h g67 hpo70
        refine sv_goto hM dX12_stepOther_191 (pc' := 459) rfl ?_
        exact sv_vret hM dX12_stepOther_459 rfl ⟨rfl, ok68, md71, h⟩
      have J4 : (p1 = (20 : Int)) → sv_T sm_XS sm_cs sm_L sm_sh 3 (q_stepOther p1 p2 S) 161 194 [(0, .ref 0), (1, sv_I p1), (2, sv_I p2), (3, sv_I s3), (4, sv_I s5), (5, sv_I ((S 1092 0) - (1 : Int)))] [] S := by
        intro hc
        have h := hS.2.2.2.2.1 hc
        have k72 : (sm_CT (S 26) (S 27) (S 28) (S 29) (S 1100007) (S 1100023) (S 1100024) (S 1100025) (S 21) (S 1046 0) (S 1032 0) (S 1008 0) (S 1055 0) → 0 ≤ (S 1100033 0) → (S 1100033 0) < (S 1046 0) → ((S 26 (S 1100033 0)) = 20 → (0 ≤ ((S 1100007 (S 1100033 0)) - 3) ∧ (0 ≤ (S 1100023 (S 1100033 0)) → (S 1100007 (S 1100023 (S 1100033 0))) ≤ ((S 1100007 (S 1100033 0)) - 3)) ∧ (0 ≤ (S 1100025 (S 1100033 0)) → (S 1100007 (S 1100025 (S 1100033 0))) ≤ ((S 1100007 (S 1100033 0)) - 3))) ∧ (0 ≤ ((S 1100033 0) + 1) ∧ ((S 1100033 0) + 1) < (S 1046 0) ∧ (S 29 ((S 1100033 0) + 1)) = ((S 29 (S 1100033 0))) ∧ (S 1100007 ((S 1100033 0) + 1)) = ((S 1100007 (S 1100033 0)) + 1) ∧ (S 1100023 ((S 1100033 0) + 1)) = ((S 1100023 (S 1100033 0))) ∧ (S 1100025 ((S 1100033 0) + 1)) = ((S 1100025 (S 1100033 0)))))) := fun h h0 h1 => sm_ct_19 h _ h0 h1
        have h := h k72
        have k73 : ((S 1100034 0) = (S 1100025 (S 1100033 0)) → (S 58 ((S 1092 0) - 1)) = (S 1100007 (S 1100033 0)) → (0 ≤ (S 1100025 (S 1100033 0)) → (S 1100007 (S 1100025 (S 1100033 0))) ≤ (S 1100007 (S 1100033 0)) - 3) → (0 ≤ (S 1100034 0) → (S 1100007 (S 1100034 0)) ≤ (S 58 ((S 1092 0) - 1)) - 3)) := fun q f j z => by rw [q] at z ⊢; have := j z; omega
        have h := h k73
        have k74 : (sm_SK (S 63) (S 64) (S 44) (S 1100007) (S 1100025) (S 1076 0) (S 1007 0) (400 * ((S 1092 0) - 1)) ((S 58 ((S 1092 0) - 1))) ((S 1100034 0)) → sm_LS (S 26) (S 1100007) (S 1100025) (S 1046 0) → 0 ≤ (S 58 ((S 1092 0) - 1)) - 1 → (S 58 ((S 1092 0) - 1)) - 1 < (S 58 ((S 1092 0) - 1)) → (S 1100034 0) < (S 1046 0) → (S 1100034 0) = (S 1100025 (S 1100033 0)) → (S 58 ((S 1092 0) - 1)) = (S 1100007 (S 1100033 0)) → (0 ≤ (S 1100034 0) → (S 26 (S 1100034 0)) = 29) → (0 ≤ (S 1100025 (S 1100033 0)) → (S 1100007 (S 1100025 (S 1100033 0))) ≤ (S 1100007 (S 1100033 0)) - 3) → sm_VO (S 44) (S 1076 0) (S 1007 0) ((S 63 (400 * ((S 1092 0) - 1) + ((S 58 ((S 1092 0) - 1)) - 1)))) ((S 64 (400 * ((S 1092 0) - 1) + ((S 58 ((S 1092 0) - 1)) - 1))))) := fun h a b e g q f i j => sm_SK_at h a _ b e g (fun z => ⟨i z, by rw [q]; have := j (by omega); omega⟩)
        have h := h k74
        have k75 : (sm_SK (S 63) (S 64) (S 44) (S 1100007) (S 1100025) (S 1076 0) (S 1007 0) (400 * ((S 1092 0) - 1)) ((S 58 ((S 1092 0) - 1))) ((S 1100034 0)) → sm_LS (S 26) (S 1100007) (S 1100025) (S 1046 0) → 0 ≤ (S 58 ((S 1092 0) - 1)) - 2 → (S 58 ((S 1092 0) - 1)) - 2 < (S 58 ((S 1092 0) - 1)) → (S 1100034 0) < (S 1046 0) → (S 1100034 0) = (S 1100025 (S 1100033 0)) → (S 58 ((S 1092 0) - 1)) = (S 1100007 (S 1100033 0)) → (0 ≤ (S 1100034 0) → (S 26 (S 1100034 0)) = 29) → (0 ≤ (S 1100025 (S 1100033 0)) → (S 1100007 (S 1100025 (S 1100033 0))) ≤ (S 1100007 (S 1100033 0)) - 3) → sm_VO (S 44) (S 1076 0) (S 1007 0) ((S 63 (400 * ((S 1092 0) - 1) + ((S 58 ((S 1092 0) - 1)) - 2)))) ((S 64 (400 * ((S 1092 0) - 1) + ((S 58 ((S 1092 0) - 1)) - 2))))) := fun h a b e g q f i j => sm_SK_at h a _ b e g (fun z => ⟨i z, by rw [q]; have := j (by omega); omega⟩)
        have h := h k75
        have k76 : (sm_SK (S 63) (S 64) (S 44) (S 1100007) (S 1100025) (S 1076 0) (S 1007 0) (400 * ((S 1092 0) - 1)) ((S 58 ((S 1092 0) - 1))) ((S 1100034 0)) → sm_LS (S 26) (S 1100007) (S 1100025) (S 1046 0) → 0 ≤ (S 58 ((S 1092 0) - 1)) - 3 → (S 58 ((S 1092 0) - 1)) - 3 < (S 58 ((S 1092 0) - 1)) → (S 1100034 0) < (S 1046 0) → (S 1100034 0) = (S 1100025 (S 1100033 0)) → (S 58 ((S 1092 0) - 1)) = (S 1100007 (S 1100033 0)) → (0 ≤ (S 1100034 0) → (S 26 (S 1100034 0)) = 29) → (0 ≤ (S 1100025 (S 1100033 0)) → (S 1100007 (S 1100025 (S 1100033 0))) ≤ (S 1100007 (S 1100033 0)) - 3) → sm_VO (S 44) (S 1076 0) (S 1007 0) ((S 63 (400 * ((S 1092 0) - 1) + ((S 58 ((S 1092 0) - 1)) - 3)))) ((S 64 (400 * ((S 1092 0) - 1) + ((S 58 ((S 1092 0) - 1)) - 3))))) := fun h a b e g q f i j => sm_SK_at h a _ b e g (fun z => ⟨i z, by rw [q]; have := j (by omega); omega⟩)
        have h := h k76
        refine sv_aload_n hM dX12_stepOther_194 rfl rfl ?_
        refine sv_iload_n hM dX12_stepOther_195 rfl rfl ?_
        refine sv_iload hM dX12_stepOther_196 rfl rfl ?_
        obtain ⟨o77, h⟩ := h
        refine sv_callV hM dX12_stepOther_198 sm_iv_954 (by decide) (sm_a0 _) rfl rfl (Nat.le_of_ble_eq_true rfl) sm_h162 (Nat.le_of_ble_eq_true rfl) (Nat.le_of_ble_eq_true rfl) (F' := 2) (Nat.le_of_ble_eq_true rfl) rfl (t_under s3 s5 S hok hs3 hs5 o77) (fun v S1 hq => ?_)
        obtain ⟨rfl, ok79, md80, hpo81⟩ := hq
        obtain ⟨g78, rfl⟩ : ∃ g, S1 = sv_sts S [63, 64, 58] g := ⟨_, md80.eq⟩
        show sv_T sm_XS sm_cs sm_L sm_sh 3 (q_stepOther p1 p2 S) 161 201 [(0, .ref 0), (1, sv_I p1), (2, sv_I p2), (3, sv_I s3), (4, sv_I s5), (5, sv_I ((S 1092 0) - (1 : Int)))] [] (sv_sts S [63, 64, 58] g78)
        have md82 : sv_mod [1092, 60, 58, 57, 63, 64, 1073, 1109, 1110, 65, 66, 61, 62] S (sv_sts S [63, 64, 58] g78) := sv_mod.sts sv_mod.rf (by decide)
        have h := h g78 hpo81
        refine sv_aload_n hM dX12_stepOther_201 rfl rfl ?_
        obtain ⟨o83, h⟩ := h
        refine sv_callV hM dX12_stepOther_202 sm_iv_888 (by decide) (sm_a0 _) rfl rfl (Nat.le_of_ble_eq_true rfl) sm_h154 (Nat.le_of_ble_eq_true rfl) (Nat.le_of_ble_eq_true rfl) (F' := 0) (Nat.le_of_ble_eq_true rfl) rfl (t_goOn  (sv_sts S [63, 64, 58] g78) ok79 o83) (fun v S1 hq => ?_)
        obtain ⟨rfl, ok85, md86, hpo87⟩ := hq
        obtain ⟨g84, rfl⟩ : ∃ g, S1 = sv_sts (sv_sts S [63, 64, 58] g78) [57] g := ⟨_, md86.eq⟩
        show sv_T sm_XS sm_cs sm_L sm_sh 3 (q_stepOther p1 p2 S) 161 205 [(0, .ref 0), (1, sv_I p1), (2, sv_I p2), (3, sv_I s3), (4, sv_I s5), (5, sv_I ((S 1092 0) - (1 : Int)))] [] (sv_sts (sv_sts S [63, 64, 58] g78) [57] g84)
        have md88 : sv_mod [1092, 60, 58, 57, 63, 64, 1073, 1109, 1110, 65, 66, 61, 62] S (sv_sts (sv_sts S [63, 64, 58] g78) [57] g84) := sv_mod.sts md82 (by decide)
        have h := h g84 hpo87
        refine sv_goto hM dX12_stepOther_205 (pc' := 459) rfl ?_
        exact sv_vret hM dX12_stepOther_459 rfl ⟨rfl, ok85, md88, h⟩
      have J5 : (p1 = (21 : Int)) → sv_T sm_XS sm_cs sm_L sm_sh 3 (q_stepOther p1 p2 S) 161 208 [(0, .ref 0), (1, sv_I p1), (2, sv_I p2), (3, sv_I s3), (4, sv_I s5), (5, sv_I ((S 1092 0) - (1 : Int)))] [] S := by
        intro hc
        have h := hS.2.2.2.2.2.1 hc
        have k89 : (sm_CT (S 26) (S 27) (S 28) (S 29) (S 1100007) (S 1100023) (S 1100024) (S 1100025) (S 21) (S 1046 0) (S 1032 0) (S 1008 0) (S 1055 0) → 0 ≤ (S 1100033 0) → (S 1100033 0) < (S 1046 0) → ((S 26 (S 1100033 0)) = 21 → (0 ≤ ((S 1100007 (S 1100033 0))) ∧ (0 ≤ (S 1100023 (S 1100033 0)) → (S 1100007 (S 1100023 (S 1100033 0))) ≤ ((S 1100007 (S 1100033 0)))) ∧ (0 ≤ (S 1100025 (S 1100033 0)) → (S 1100007 (S 1100025 (S 1100033 0))) ≤ ((S 1100007 (S 1100033 0))))) ∧ (0 ≤ ((S 27 (S 1100033 0))) ∧ ((S 27 (S 1100033 0))) < (S 1046 0) ∧ (S 29 ((S 27 (S 1100033 0)))) = ((S 29 (S 1100033 0))) ∧ (S 1100007 ((S 27 (S 1100033 0)))) = ((S 1100007 (S 1100033 0))) ∧ (S 1100023 ((S 27 (S 1100033 0)))) = ((S 1100023 (S 1100033 0))) ∧ (S 1100025 ((S 27 (S 1100033 0)))) = ((S 1100025 (S 1100033 0)))))) := fun h h0 h1 => sm_ct_20 h _ h0 h1
        have h := h k89
        refine sv_aload_n hM dX12_stepOther_208 rfl rfl ?_
        refine sv_getA hM dX12_stepOther_209 sm_fl_182 (sm_a0 _) sm_k97 rfl ?_
        refine sv_iload hM dX12_stepOther_212 rfl rfl ?_
        refine sv_iload_n hM dX12_stepOther_214 rfl rfl ?_
        obtain ⟨o90, h⟩ := h
        refine sv_iast sm_X hM dX12_stepOther_215 (sm_a57 _) (by decide) o90.1 o90.2 rfl ?_
        have ok91 : sm_ok (sv_up S 57 ((S 1092 0) - (1 : Int)) p2) := sm_upI hok sm_r57 hp2
        have md92 : sv_mod [1092, 60, 58, 57, 63, 64, 1073, 1109, 1110, 65, 66, 61, 62] S (sv_up S 57 ((S 1092 0) - (1 : Int)) p2) := sv_mod.up sv_mod.rf (by decide)
        refine sv_goto hM dX12_stepOther_216 (pc' := 459) rfl ?_
        exact sv_vret hM dX12_stepOther_459 rfl ⟨rfl, ok91, md92, h⟩
      have J6 : (p1 = (22 : Int)) → sv_T sm_XS sm_cs sm_L sm_sh 3 (q_stepOther p1 p2 S) 161 219 [(0, .ref 0), (1, sv_I p1), (2, sv_I p2), (3, sv_I s3), (4, sv_I s5), (5, sv_I ((S 1092 0) - (1 : Int)))] [] S := by
        intro hc
        have h := hS.2.2.2.2.2.2.1 hc
        have k93 : (sm_CT (S 26) (S 27) (S 28) (S 29) (S 1100007) (S 1100023) (S 1100024) (S 1100025) (S 21) (S 1046 0) (S 1032 0) (S 1008 0) (S 1055 0) → 0 ≤ (S 1100033 0) → (S 1100033 0) < (S 1046 0) → ((S 26 (S 1100033 0)) = 22 → (0 ≤ ((S 1100007 (S 1100033 0)) - 1) ∧ (0 ≤ (S 1100023 (S 1100033 0)) → (S 1100007 (S 1100023 (S 1100033 0))) ≤ ((S 1100007 (S 1100033 0)) - 1)) ∧ (0 ≤ (S 1100025 (S 1100033 0)) → (S 1100007 (S 1100025 (S 1100033 0))) ≤ ((S 1100007 (S 1100033 0)) - 1))) ∧ (0 ≤ ((S 1100033 0) + 1) ∧ ((S 1100033 0) + 1) < (S 1046 0) ∧ (S 29 ((S 1100033 0) + 1)) = ((S 29 (S 1100033 0))) ∧ (S 1100007 ((S 1100033 0) + 1)) = ((S 1100007 (S 1100033 0)) - 1) ∧ (S 1100023 ((S 1100033 0) + 1)) = ((S 1100023 (S 1100033 0))) ∧ (S 1100025 ((S 1100033 0) + 1)) = ((S 1100025 (S 1100033 0)))) ∧ (0 ≤ ((S 27 (S 1100033 0))) ∧ ((S 27 (S 1100033 0))) < (S 1046 0) ∧ (S 29 ((S 27 (S 1100033 0)))) = ((S 29 (S 1100033 0))) ∧ (S 1100007 ((S 27 (S 1100033 0)))) = ((S 1100007 (S 1100033 0)) - 1) ∧ (S 1100023 ((S 27 (S 1100033 0)))) = ((S 1100023 (S 1100033 0))) ∧ (S 1100025 ((S 27 (S 1100033 0)))) = ((S 1100025 (S 1100033 0)))))) := fun h h0 h1 => sm_ct_21 h _ h0 h1
        have h := h k93
        have k94 : ((S 1100034 0) = (S 1100025 (S 1100033 0)) → (S 58 ((S 1092 0) - 1)) = (S 1100007 (S 1100033 0)) → (0 ≤ (S 1100025 (S 1100033 0)) → (S 1100007 (S 1100025 (S 1100033 0))) ≤ (S 1100007 (S 1100033 0)) - 1) → (0 ≤ (S 1100034 0) → (S 1100007 (S 1100034 0)) ≤ (S 58 ((S 1092 0) - 1)) - 1)) := fun q f j z => by rw [q] at z ⊢; have := j z; omega
        have h := h k94
        have k95 : (sm_SK (S 63) (S 64) (S 44) (S 1100007) (S 1100025) (S 1076 0) (S 1007 0) (400 * ((S 1092 0) - 1)) ((S 58 ((S 1092 0) - 1))) ((S 1100034 0)) → sm_LS (S 26) (S 1100007) (S 1100025) (S 1046 0) → 0 ≤ (S 58 ((S 1092 0) - 1)) - 1 → (S 58 ((S 1092 0) - 1)) - 1 < (S 58 ((S 1092 0) - 1)) → (S 1100034 0) < (S 1046 0) → (S 1100034 0) = (S 1100025 (S 1100033 0)) → (S 58 ((S 1092 0) - 1)) = (S 1100007 (S 1100033 0)) → (0 ≤ (S 1100034 0) → (S 26 (S 1100034 0)) = 29) → (0 ≤ (S 1100025 (S 1100033 0)) → (S 1100007 (S 1100025 (S 1100033 0))) ≤ (S 1100007 (S 1100033 0)) - 1) → sm_VO (S 44) (S 1076 0) (S 1007 0) ((S 63 (400 * ((S 1092 0) - 1) + ((S 58 ((S 1092 0) - 1)) - 1)))) ((S 64 (400 * ((S 1092 0) - 1) + ((S 58 ((S 1092 0) - 1)) - 1))))) := fun h a b e g q f i j => sm_SK_at h a _ b e g (fun z => ⟨i z, by rw [q]; have := j (by omega); omega⟩)
        have h := h k95
        refine sv_aload_n hM dX12_stepOther_219 rfl rfl ?_
        refine sv_iconst (d := (1 : Int)) hM dX12_stepOther_220 rfl rfl ?_
        obtain ⟨o96, h⟩ := h
        refine sv_callV hM dX12_stepOther_221 sm_iv_882 (by decide) (sm_a0 _) rfl rfl (Nat.le_of_ble_eq_true rfl) sm_h153 (Nat.le_of_ble_eq_true rfl) (Nat.le_of_ble_eq_true rfl) (F' := 0) (Nat.le_of_ble_eq_true rfl) rfl (t_drop (1 : Int) S hok (⟨by decide, by decide⟩ : sv_R (1 : Int)) o96) (fun v S1 hq => ?_)
        obtain ⟨rfl, ok98, md99, hpo100⟩ := hq
        obtain ⟨g97, rfl⟩ : ∃ g, S1 = sv_sts S [58] g := ⟨_, md99.eq⟩
        show sv_T sm_XS sm_cs sm_L sm_sh 3 (q_stepOther p1 p2 S) 161 224 [(0, .ref 0), (1, sv_I p1), (2, sv_I p2), (3, sv_I s3), (4, sv_I s5), (5, sv_I ((S 1092 0) - (1 : Int)))] [] (sv_sts S [58] g97)
        have md101 : sv_mod [1092, 60, 58, 57, 63, 64, 1073, 1109, 1110, 65, 66, 61, 62] S (sv_sts S [58] g97) := sv_mod.sts sv_mod.rf (by decide)
        have h := h g97 hpo100
        refine sv_aload_n hM dX12_stepOther_224 rfl rfl ?_
        refine sv_getA hM dX12_stepOther_225 sm_fl_182 (sm_a0 _) sm_k97 rfl ?_
        refine sv_iload hM dX12_stepOther_228 rfl rfl ?_
        refine sv_aload_n hM dX12_stepOther_230 rfl rfl ?_
        refine sv_iload_n hM dX12_stepOther_231 rfl rfl ?_
        refine sv_iload hM dX12_stepOther_232 rfl rfl ?_
        obtain ⟨o102, h⟩ := h
        refine sv_callV hM dX12_stepOther_234 sm_iv_824 (by decide) (sm_a0 _) rfl rfl (Nat.le_of_ble_eq_true rfl) sm_h129 (Nat.le_of_ble_eq_true rfl) (Nat.le_of_ble_eq_true rfl) (F' := 0) (Nat.le_of_ble_eq_true rfl) rfl (t_isTrue s3 s5 (sv_sts S [58] g97) ok98 hs3 hs5 o102) (fun v S1 hq => ?_)
        obtain ⟨r107, rfl, hr107, ok104, md105, hpo106⟩ := hq
        obtain rfl : (sv_sts S [58] g97) = S1 := (funext fun j => md105 j (by intro q; cases q)).symm
        show sv_T sm_XS sm_cs sm_L sm_sh 3 (q_stepOther p1 p2 S) 161 237 [(0, .ref 0), (1, sv_I p1), (2, sv_I p2), (3, sv_I s3), (4, sv_I s5), (5, sv_I ((S 1092 0) - (1 : Int)))] [sv_I r107, sv_I ((S 1092 0) - (1 : Int)), .ref 57] (sv_sts S [58] g97)
        have h := h r107 hr107 hpo106
        refine sv_cond_eq hM dX12_stepOther_237 hr107 (t := 252) rfl rfl (fun hc => ?_) (fun hc => ?_)
        · have h := h.1 (hc)
          refine sv_iload_n hM dX12_stepOther_252 rfl rfl ?_
          obtain ⟨o108, h⟩ := h
          refine sv_iast sm_X hM dX12_stepOther_253 (sm_a57 _) (by decide) o108.1 o108.2 rfl ?_
          have ok109 : sm_ok (sv_up (sv_sts S [58] g97) 57 ((S 1092 0) - (1 : Int)) p2) := sm_upI ok104 sm_r57 hp2
          have md110 : sv_mod [1092, 60, 58, 57, 63, 64, 1073, 1109, 1110, 65, 66, 61, 62] S (sv_up (sv_sts S [58] g97) 57 ((S 1092 0) - (1 : Int)) p2) := sv_mod.up md101 (by decide)
          refine sv_goto hM dX12_stepOther_254 (pc' := 459) rfl ?_
          exact sv_vret hM dX12_stepOther_459 rfl ⟨rfl, ok109, md110, h⟩
        · have h := h.2 (hc)
          refine sv_aload_n hM dX12_stepOther_240 rfl rfl ?_
          refine sv_getA hM dX12_stepOther_241 sm_fl_182 (sm_a0 _) sm_k97 rfl ?_
          refine sv_iload hM dX12_stepOther_244 rfl rfl ?_
          obtain ⟨o111, h⟩ := h
          have k112 : sv_R (S 57 ((S 1092 0) - (1 : Int))) := sm_okI ok104 sm_r57 ((S 1092 0) - (1 : Int))
          have h := h k112
          refine sv_iald hM dX12_stepOther_246 (sm_a57 _) (by decide) o111.1 o111.2 rfl (x := (S 57 ((S 1092 0) - (1 : Int)))) rfl ?_
          refine sv_iconst (d := (1 : Int)) hM dX12_stepOther_247 rfl rfl ?_
          refine sv_iadd hM dX12_stepOther_248 rfl ?_
          refine sv_goto hM dX12_stepOther_249 (pc' := 253) rfl ?_
          obtain ⟨o113, h⟩ := h
          refine sv_iast sm_X hM dX12_stepOther_253 (sm_a57 _) (by decide) o111.1 o111.2 rfl ?_
          have ok114 : sm_ok (sv_up (sv_sts S [58] g97) 57 ((S 1092 0) - (1 : Int)) ((S 57 ((S 1092 0) - (1 : Int))) + (1 : Int))) := sm_upI ok104 sm_r57 o113
          have md115 : sv_mod [1092, 60, 58, 57, 63, 64, 1073, 1109, 1110, 65, 66, 61, 62] S (sv_up (sv_sts S [58] g97) 57 ((S 1092 0) - (1 : Int)) ((S 57 ((S 1092 0) - (1 : Int))) + (1 : Int))) := sv_mod.up md101 (by decide)
          refine sv_goto hM dX12_stepOther_254 (pc' := 459) rfl ?_
          exact sv_vret hM dX12_stepOther_459 rfl ⟨rfl, ok114, md115, h⟩
      have J7 : (p1 = (23 : Int) ∨ p1 = (24 : Int)) → sv_T sm_XS sm_cs sm_L sm_sh 3 (q_stepOther p1 p2 S) 161 257 [(0, .ref 0), (1, sv_I p1), (2, sv_I p2), (3, sv_I s3), (4, sv_I s5), (5, sv_I ((S 1092 0) - (1 : Int)))] [] S := by
        intro hc
        have h := hS.2.2.2.2.2.2.2.1 hc
        have k116 : (((p1 = 21 ∨ p1 = 27 ∨ p1 = 28) ∨ s3 = (S 63 ((400 * ((S 1092 0) - 1) + (S 58 ((S 1092 0) - 1))) - 1 - 0))) → (p1 = 23 ∨ p1 = 24) → s3 = (S 63 ((400 * ((S 1092 0) - 1) + (S 58 ((S 1092 0) - 1))) - 1 - 0))) := fun a b => a.elim (fun q => absurd b (by omega)) id
        have h := h k116
        have k117 : (((p1 = 21 ∨ p1 = 27 ∨ p1 = 28) ∨ s5 = (S 64 ((400 * ((S 1092 0) - 1) + (S 58 ((S 1092 0) - 1))) - 1 - 0))) → (p1 = 23 ∨ p1 = 24) → s5 = (S 64 ((400 * ((S 1092 0) - 1) + (S 58 ((S 1092 0) - 1))) - 1 - 0))) := fun a b => a.elim (fun q => absurd b (by omega)) id
        have h := h k117
        have k118 : (sm_CT (S 26) (S 27) (S 28) (S 29) (S 1100007) (S 1100023) (S 1100024) (S 1100025) (S 21) (S 1046 0) (S 1032 0) (S 1008 0) (S 1055 0) → 0 ≤ (S 1100033 0) → (S 1100033 0) < (S 1046 0) → ((p1 = 23 ∨ p1 = 24) → p1 = (S 26 (S 1100033 0)) → (0 ≤ ((S 1100007 (S 1100033 0)) - 1) ∧ (0 ≤ (S 1100023 (S 1100033 0)) → (S 1100007 (S 1100023 (S 1100033 0))) ≤ ((S 1100007 (S 1100033 0)) - 1)) ∧ (0 ≤ (S 1100025 (S 1100033 0)) → (S 1100007 (S 1100025 (S 1100033 0))) ≤ ((S 1100007 (S 1100033 0)) - 1))) ∧ (0 ≤ ((S 1100033 0) + 1) ∧ ((S 1100033 0) + 1) < (S 1046 0) ∧ (S 29 ((S 1100033 0) + 1)) = ((S 29 (S 1100033 0))) ∧ (S 1100007 ((S 1100033 0) + 1)) = ((S 1100007 (S 1100033 0)) - 1) ∧ (S 1100023 ((S 1100033 0) + 1)) = ((S 1100023 (S 1100033 0))) ∧ (S 1100025 ((S 1100033 0) + 1)) = ((S 1100025 (S 1100033 0)))) ∧ (0 ≤ ((S 27 (S 1100033 0))) ∧ ((S 27 (S 1100033 0))) < (S 1046 0) ∧ (S 29 ((S 27 (S 1100033 0)))) = ((S 29 (S 1100033 0))) ∧ (S 1100007 ((S 27 (S 1100033 0)))) = ((S 1100007 (S 1100033 0))) ∧ (S 1100023 ((S 27 (S 1100033 0)))) = ((S 1100023 (S 1100033 0))) ∧ (S 1100025 ((S 27 (S 1100033 0)))) = ((S 1100025 (S 1100033 0)))))) := fun h a b w e => sm_ct_22 h _ a b (e ▸ w)
        have h := h k118
        have k119 : ((S 1100034 0) = (S 1100025 (S 1100033 0)) → (S 58 ((S 1092 0) - 1)) = (S 1100007 (S 1100033 0)) → (0 ≤ (S 1100025 (S 1100033 0)) → (S 1100007 (S 1100025 (S 1100033 0))) ≤ (S 1100007 (S 1100033 0)) - 1) → (0 ≤ (S 1100034 0) → (S 1100007 (S 1100034 0)) ≤ (S 58 ((S 1092 0) - 1)) - 1)) := fun q f j z => by rw [q] at z ⊢; have := j z; omega
        have h := h k119
        have k120 : (sm_SK (S 63) (S 64) (S 44) (S 1100007) (S 1100025) (S 1076 0) (S 1007 0) (400 * ((S 1092 0) - 1)) ((S 58 ((S 1092 0) - 1))) ((S 1100034 0)) → sm_LS (S 26) (S 1100007) (S 1100025) (S 1046 0) → 0 ≤ (S 58 ((S 1092 0) - 1)) - 1 → (S 58 ((S 1092 0) - 1)) - 1 < (S 58 ((S 1092 0) - 1)) → (S 1100034 0) < (S 1046 0) → (S 1100034 0) = (S 1100025 (S 1100033 0)) → (S 58 ((S 1092 0) - 1)) = (S 1100007 (S 1100033 0)) → (0 ≤ (S 1100034 0) → (S 26 (S 1100034 0)) = 29) → (0 ≤ (S 1100025 (S 1100033 0)) → (S 1100007 (S 1100025 (S 1100033 0))) ≤ (S 1100007 (S 1100033 0)) - 1) → sm_VO (S 44) (S 1076 0) (S 1007 0) ((S 63 (400 * ((S 1092 0) - 1) + ((S 58 ((S 1092 0) - 1)) - 1)))) ((S 64 (400 * ((S 1092 0) - 1) + ((S 58 ((S 1092 0) - 1)) - 1))))) := fun h a b e g q f i j => sm_SK_at h a _ b e g (fun z => ⟨i z, by rw [q]; have := j (by omega); omega⟩)
        have h := h k120
        refine sv_aload_n hM dX12_stepOther_257 rfl rfl ?_
        refine sv_iload_n hM dX12_stepOther_258 rfl rfl ?_
        refine sv_iload hM dX12_stepOther_259 rfl rfl ?_
        obtain ⟨o121, h⟩ := h
        refine sv_callV hM dX12_stepOther_261 sm_iv_824 (by decide) (sm_a0 _) rfl rfl (Nat.le_of_ble_eq_true rfl) sm_h129 (Nat.le_of_ble_eq_true rfl) (Nat.le_of_ble_eq_true rfl) (F' := 0) (Nat.le_of_ble_eq_true rfl) rfl (t_isTrue s3 s5 S hok hs3 hs5 o121) (fun v S1 hq => ?_)
        obtain ⟨r126, rfl, hr126, ok123, md124, hpo125⟩ := hq
        obtain rfl : S = S1 := (funext fun j => md124 j (by intro q; cases q)).symm
        show sv_T sm_XS sm_cs sm_L sm_sh 3 (q_stepOther p1 p2 S) 161 264 [(0, .ref 0), (1, sv_I p1), (2, sv_I p2), (3, sv_I s3), (4, sv_I s5), (5, sv_I ((S 1092 0) - (1 : Int)))] [sv_I r126] S
        have h := h r126 hr126 hpo125
        refine sv_iload_n hM dX12_stepOther_264 rfl rfl ?_
        refine sv_bipush (d := (23 : Int)) hM dX12_stepOther_265 rfl rfl ?_
        refine sv_icmp_ne hM dX12_stepOther_267 hp1 (⟨by decide, by decide⟩ : sv_R (23 : Int)) (t := 274) rfl rfl (fun hc => ?_) (fun hc => ?_)
        · have h := h.1 (hc)
          refine sv_iconst (d := (0 : Int)) hM dX12_stepOther_274 rfl rfl ?_
          refine sv_icmp_ne hM dX12_stepOther_275 hr126 (⟨by decide, by decide⟩ : sv_R (0 : Int)) (t := 290) rfl rfl (fun hc => ?_) (fun hc => ?_)
          · have h := h.1 (hc)
            refine sv_aload_n hM dX12_stepOther_290 rfl rfl ?_
            refine sv_getA hM dX12_stepOther_291 sm_fl_182 (sm_a0 _) sm_k97 rfl ?_
            refine sv_iload hM dX12_stepOther_294 rfl rfl ?_
            refine sv_iload_n hM dX12_stepOther_296 rfl rfl ?_
            obtain ⟨o127, h⟩ := h
            refine sv_iast sm_X hM dX12_stepOther_297 (sm_a57 _) (by decide) o127.1 o127.2 rfl ?_
            have ok128 : sm_ok (sv_up S 57 ((S 1092 0) - (1 : Int)) p2) := sm_upI ok123 sm_r57 hp2
            have md129 : sv_mod [1092, 60, 58, 57, 63, 64, 1073, 1109, 1110, 65, 66, 61, 62] S (sv_up S 57 ((S 1092 0) - (1 : Int)) p2) := sv_mod.up sv_mod.rf (by decide)
            refine sv_goto hM dX12_stepOther_298 (pc' := 459) rfl ?_
            exact sv_vret hM dX12_stepOther_459 rfl ⟨rfl, ok128, md129, h⟩
          · have h := h.2 (hc)
            refine sv_aload_n hM dX12_stepOther_278 rfl rfl ?_
            refine sv_iconst (d := (1 : Int)) hM dX12_stepOther_279 rfl rfl ?_
            obtain ⟨o130, h⟩ := h
            refine sv_callV hM dX12_stepOther_280 sm_iv_882 (by decide) (sm_a0 _) rfl rfl (Nat.le_of_ble_eq_true rfl) sm_h153 (Nat.le_of_ble_eq_true rfl) (Nat.le_of_ble_eq_true rfl) (F' := 0) (Nat.le_of_ble_eq_true rfl) rfl (t_drop (1 : Int) S ok123 (⟨by decide, by decide⟩ : sv_R (1 : Int)) o130) (fun v S1 hq => ?_)
            obtain ⟨rfl, ok132, md133, hpo134⟩ := hq
            obtain ⟨g131, rfl⟩ : ∃ g, S1 = sv_sts S [58] g := ⟨_, md133.eq⟩
            show sv_T sm_XS sm_cs sm_L sm_sh 3 (q_stepOther p1 p2 S) 161 283 [(0, .ref 0), (1, sv_I p1), (2, sv_I p2), (3, sv_I s3), (4, sv_I s5), (5, sv_I ((S 1092 0) - (1 : Int)))] [] (sv_sts S [58] g131)
            have md135 : sv_mod [1092, 60, 58, 57, 63, 64, 1073, 1109, 1110, 65, 66, 61, 62] S (sv_sts S [58] g131) := sv_mod.sts sv_mod.rf (by decide)
            have h := h g131 hpo134
            refine sv_aload_n hM dX12_stepOther_283 rfl rfl ?_
            obtain ⟨o136, h⟩ := h
            refine sv_callV hM dX12_stepOther_284 sm_iv_888 (by decide) (sm_a0 _) rfl rfl (Nat.le_of_ble_eq_true rfl) sm_h154 (Nat.le_of_ble_eq_true rfl) (Nat.le_of_ble_eq_true rfl) (F' := 0) (Nat.le_of_ble_eq_true rfl) rfl (t_goOn  (sv_sts S [58] g131) ok132 o136) (fun v S1 hq => ?_)
            obtain ⟨rfl, ok138, md139, hpo140⟩ := hq
            obtain ⟨g137, rfl⟩ : ∃ g, S1 = sv_sts (sv_sts S [58] g131) [57] g := ⟨_, md139.eq⟩
            show sv_T sm_XS sm_cs sm_L sm_sh 3 (q_stepOther p1 p2 S) 161 287 [(0, .ref 0), (1, sv_I p1), (2, sv_I p2), (3, sv_I s3), (4, sv_I s5), (5, sv_I ((S 1092 0) - (1 : Int)))] [] (sv_sts (sv_sts S [58] g131) [57] g137)
            have md141 : sv_mod [1092, 60, 58, 57, 63, 64, 1073, 1109, 1110, 65, 66, 61, 62] S (sv_sts (sv_sts S [58] g131) [57] g137) := sv_mod.sts md135 (by decide)
            have h := h g137 hpo140
            refine sv_goto hM dX12_stepOther_287 (pc' := 459) rfl ?_
            exact sv_vret hM dX12_stepOther_459 rfl ⟨rfl, ok138, md141, h⟩
        · have h := h.2 (hc)
          refine sv_iconst (d := (1 : Int)) hM dX12_stepOther_270 rfl rfl ?_
          refine sv_goto hM dX12_stepOther_271 (pc' := 275) rfl ?_
          refine sv_icmp_ne hM dX12_stepOther_275 hr126 (⟨by decide, by decide⟩ : sv_R (1 : Int)) (t := 290) rfl rfl (fun hc => ?_) (fun hc => ?_)
          · have h := h.1 (hc)
            refine sv_aload_n hM dX12_stepOther_290 rfl rfl ?_
            refine sv_getA hM dX12_stepOther_291 sm_fl_182 (sm_a0 _) sm_k97 rfl ?_
            refine sv_iload hM dX12_stepOther_294 rfl rfl ?_
            refine sv_iload_n hM dX12_stepOther_296 rfl rfl ?_
            obtain ⟨o142, h⟩ := h
            refine sv_iast sm_X hM dX12_stepOther_297 (sm_a57 _) (by decide) o142.1 o142.2 rfl ?_
            have ok143 : sm_ok (sv_up S 57 ((S 1092 0) - (1 : Int)) p2) := sm_upI ok123 sm_r57 hp2
            have md144 : sv_mod [1092, 60, 58, 57, 63, 64, 1073, 1109, 1110, 65, 66, 61, 62] S (sv_up S 57 ((S 1092 0) - (1 : Int)) p2) := sv_mod.up sv_mod.rf (by decide)
            refine sv_goto hM dX12_stepOther_298 (pc' := 459) rfl ?_
            exact sv_vret hM dX12_stepOther_459 rfl ⟨rfl, ok143, md144, h⟩
          · have h := h.2 (hc)
            refine sv_aload_n hM dX12_stepOther_278 rfl rfl ?_
            refine sv_iconst (d := (1 : Int)) hM dX12_stepOther_279 rfl rfl ?_
            obtain ⟨o145, h⟩ := h
            refine sv_callV hM dX12_stepOther_280 sm_iv_882 (by decide) (sm_a0 _) rfl rfl (Nat.le_of_ble_eq_true rfl) sm_h153 (Nat.le_of_ble_eq_true rfl) (Nat.le_of_ble_eq_true rfl) (F' := 0) (Nat.le_of_ble_eq_true rfl) rfl (t_drop (1 : Int) S ok123 (⟨by decide, by decide⟩ : sv_R (1 : Int)) o145) (fun v S1 hq => ?_)
            obtain ⟨rfl, ok147, md148, hpo149⟩ := hq
            obtain ⟨g146, rfl⟩ : ∃ g, S1 = sv_sts S [58] g := ⟨_, md148.eq⟩
            show sv_T sm_XS sm_cs sm_L sm_sh 3 (q_stepOther p1 p2 S) 161 283 [(0, .ref 0), (1, sv_I p1), (2, sv_I p2), (3, sv_I s3), (4, sv_I s5), (5, sv_I ((S 1092 0) - (1 : Int)))] [] (sv_sts S [58] g146)
            have md150 : sv_mod [1092, 60, 58, 57, 63, 64, 1073, 1109, 1110, 65, 66, 61, 62] S (sv_sts S [58] g146) := sv_mod.sts sv_mod.rf (by decide)
            have h := h g146 hpo149
            refine sv_aload_n hM dX12_stepOther_283 rfl rfl ?_
            obtain ⟨o151, h⟩ := h
            refine sv_callV hM dX12_stepOther_284 sm_iv_888 (by decide) (sm_a0 _) rfl rfl (Nat.le_of_ble_eq_true rfl) sm_h154 (Nat.le_of_ble_eq_true rfl) (Nat.le_of_ble_eq_true rfl) (F' := 0) (Nat.le_of_ble_eq_true rfl) rfl (t_goOn  (sv_sts S [58] g146) ok147 o151) (fun v S1 hq => ?_)
            obtain ⟨rfl, ok153, md154, hpo155⟩ := hq
            obtain ⟨g152, rfl⟩ : ∃ g, S1 = sv_sts (sv_sts S [58] g146) [57] g := ⟨_, md154.eq⟩
            show sv_T sm_XS sm_cs sm_L sm_sh 3 (q_stepOther p1 p2 S) 161 287 [(0, .ref 0), (1, sv_I p1), (2, sv_I p2), (3, sv_I s3), (4, sv_I s5), (5, sv_I ((S 1092 0) - (1 : Int)))] [] (sv_sts (sv_sts S [58] g146) [57] g152)
            have md156 : sv_mod [1092, 60, 58, 57, 63, 64, 1073, 1109, 1110, 65, 66, 61, 62] S (sv_sts (sv_sts S [58] g146) [57] g152) := sv_mod.sts md150 (by decide)
            have h := h g152 hpo155
            refine sv_goto hM dX12_stepOther_287 (pc' := 459) rfl ?_
            exact sv_vret hM dX12_stepOther_459 rfl ⟨rfl, ok153, md156, h⟩
      have J8 : (p1 = (25 : Int)) → sv_T sm_XS sm_cs sm_L sm_sh 3 (q_stepOther p1 p2 S) 161 301 [(0, .ref 0), (1, sv_I p1), (2, sv_I p2), (3, sv_I s3), (4, sv_I s5), (5, sv_I ((S 1092 0) - (1 : Int)))] [] S := by
        intro hc
        have h := hS.2.2.2.2.2.2.2.2.1 hc
        have k157 : (sm_CT (S 26) (S 27) (S 28) (S 29) (S 1100007) (S 1100023) (S 1100024) (S 1100025) (S 21) (S 1046 0) (S 1032 0) (S 1008 0) (S 1055 0) → 0 ≤ (S 1100033 0) → (S 1100033 0) < (S 1046 0) → (((S 26 (S 1100033 0)) = 25 ∨ (S 26 (S 1100033 0)) = 26) → (0 ≤ ((S 1100007 (S 1100033 0)) - 1) ∧ (0 ≤ (S 1100023 (S 1100033 0)) → (S 1100007 (S 1100023 (S 1100033 0))) ≤ ((S 1100007 (S 1100033 0)) - 1)) ∧ (0 ≤ (S 1100025 (S 1100033 0)) → (S 1100007 (S 1100025 (S 1100033 0))) ≤ ((S 1100007 (S 1100033 0)) - 1))))) := fun h h0 h1 => sm_ct_23 h _ h0 h1
        have h := h k157
        have k158 : ((S 1100034 0) = (S 1100025 (S 1100033 0)) → (S 58 ((S 1092 0) - 1)) = (S 1100007 (S 1100033 0)) → (0 ≤ (S 1100025 (S 1100033 0)) → (S 1100007 (S 1100025 (S 1100033 0))) ≤ (S 1100007 (S 1100033 0)) - 1) → (0 ≤ (S 1100034 0) → (S 1100007 (S 1100034 0)) ≤ (S 58 ((S 1092 0) - 1)) - 1)) := fun q f j z => by rw [q] at z ⊢; have := j z; omega
        have h := h k158
        have k159 : (sm_SK (S 63) (S 64) (S 44) (S 1100007) (S 1100025) (S 1076 0) (S 1007 0) (400 * ((S 1092 0) - 1)) ((S 58 ((S 1092 0) - 1))) ((S 1100034 0)) → sm_LS (S 26) (S 1100007) (S 1100025) (S 1046 0) → 0 ≤ (S 58 ((S 1092 0) - 1)) - 1 → (S 58 ((S 1092 0) - 1)) - 1 < (S 58 ((S 1092 0) - 1)) → (S 1100034 0) < (S 1046 0) → (S 1100034 0) = (S 1100025 (S 1100033 0)) → (S 58 ((S 1092 0) - 1)) = (S 1100007 (S 1100033 0)) → (0 ≤ (S 1100034 0) → (S 26 (S 1100034 0)) = 29) → (0 ≤ (S 1100025 (S 1100033 0)) → (S 1100007 (S 1100025 (S 1100033 0))) ≤ (S 1100007 (S 1100033 0)) - 1) → sm_VO (S 44) (S 1076 0) (S 1007 0) ((S 63 (400 * ((S 1092 0) - 1) + ((S 58 ((S 1092 0) - 1)) - 1)))) ((S 64 (400 * ((S 1092 0) - 1) + ((S 58 ((S 1092 0) - 1)) - 1))))) := fun h a b e g q f i j => sm_SK_at h a _ b e g (fun z => ⟨i z, by rw [q]; have := j (by omega); omega⟩)
        have h := h k159
        refine sv_aload_n hM dX12_stepOther_301 rfl rfl ?_
        refine sv_iload_n hM dX12_stepOther_302 rfl rfl ?_
        refine sv_iload hM dX12_stepOther_303 rfl rfl ?_
        obtain ⟨o160, h⟩ := h
        refine sv_callV hM dX12_stepOther_305 sm_iv_957 (by decide) (sm_a0 _) rfl rfl (Nat.le_of_ble_eq_true rfl) sm_h184 (Nat.le_of_ble_eq_true rfl) (Nat.le_of_ble_eq_true rfl) (F' := 2) (Nat.le_of_ble_eq_true rfl) rfl (t_goBack s3 s5 S hok hs3 hs5 o160) (fun v S1 hq => ?_)
        obtain ⟨rfl, ok162, md163, hpo164⟩ := hq
        obtain ⟨g161, rfl⟩ : ∃ g, S1 = sv_sts S [1092, 1073, 58, 63, 64] g := ⟨_, md163.eq⟩
        show sv_T sm_XS sm_cs sm_L sm_sh 3 (q_stepOther p1 p2 S) 161 308 [(0, .ref 0), (1, sv_I p1), (2, sv_I p2), (3, sv_I s3), (4, sv_I s5), (5, sv_I ((S 1092 0) - (1 : Int)))] [] (sv_sts S [1092, 1073, 58, 63, 64] g161)
        have md165 : sv_mod [1092, 60, 58, 57, 63, 64, 1073, 1109, 1110, 65, 66, 61, 62] S (sv_sts S [1092, 1073, 58, 63, 64] g161) := sv_mod.sts sv_mod.rf (by decide)
        have h := h g161 hpo164
        refine sv_goto hM dX12_stepOther_308 (pc' := 459) rfl ?_
        exact sv_vret hM dX12_stepOther_459 rfl ⟨rfl, ok162, md165, h⟩
      have J9 : (p1 = (26 : Int)) → sv_T sm_XS sm_cs sm_L sm_sh 3 (q_stepOther p1 p2 S) 161 311 [(0, .ref 0), (1, sv_I p1), (2, sv_I p2), (3, sv_I s3), (4, sv_I s5), (5, sv_I ((S 1092 0) - (1 : Int)))] [] S := by
        intro hc
        have h := hS.2.2.2.2.2.2.2.2.2.1 hc
        have k166 : (sm_CT (S 26) (S 27) (S 28) (S 29) (S 1100007) (S 1100023) (S 1100024) (S 1100025) (S 21) (S 1046 0) (S 1032 0) (S 1008 0) (S 1055 0) → 0 ≤ (S 1100033 0) → (S 1100033 0) < (S 1046 0) → (((S 26 (S 1100033 0)) = 25 ∨ (S 26 (S 1100033 0)) = 26) → (0 ≤ ((S 1100007 (S 1100033 0)) - 1) ∧ (0 ≤ (S 1100023 (S 1100033 0)) → (S 1100007 (S 1100023 (S 1100033 0))) ≤ ((S 1100007 (S 1100033 0)) - 1)) ∧ (0 ≤ (S 1100025 (S 1100033 0)) → (S 1100007 (S 1100025 (S 1100033 0))) ≤ ((S 1100007 (S 1100033 0)) - 1))))) := fun h h0 h1 => sm_ct_23 h _ h0 h1
        have h := h k166
        have k167 : ((S 1100034 0) = (S 1100025 (S 1100033 0)) → (S 58 ((S 1092 0) - 1)) = (S 1100007 (S 1100033 0)) → (0 ≤ (S 1100025 (S 1100033 0)) → (S 1100007 (S 1100025 (S 1100033 0))) ≤ (S 1100007 (S 1100033 0)) - 1) → (0 ≤ (S 1100034 0) → (S 1100007 (S 1100034 0)) ≤ (S 58 ((S 1092 0) - 1)) - 1)) := fun q f j z => by rw [q] at z ⊢; have := j z; omega
        have h := h k167
        have k168 : (sm_SK (S 63) (S 64) (S 44) (S 1100007) (S 1100025) (S 1076 0) (S 1007 0) (400 * ((S 1092 0) - 1)) ((S 58 ((S 1092 0) - 1))) ((S 1100034 0)) → sm_LS (S 26) (S 1100007) (S 1100025) (S 1046 0) → 0 ≤ (S 58 ((S 1092 0) - 1)) - 1 → (S 58 ((S 1092 0) - 1)) - 1 < (S 58 ((S 1092 0) - 1)) → (S 1100034 0) < (S 1046 0) → (S 1100034 0) = (S 1100025 (S 1100033 0)) → (S 58 ((S 1092 0) - 1)) = (S 1100007 (S 1100033 0)) → (0 ≤ (S 1100034 0) → (S 26 (S 1100034 0)) = 29) → (0 ≤ (S 1100025 (S 1100033 0)) → (S 1100007 (S 1100025 (S 1100033 0))) ≤ (S 1100007 (S 1100033 0)) - 1) → sm_VO (S 44) (S 1076 0) (S 1007 0) ((S 63 (400 * ((S 1092 0) - 1) + ((S 58 ((S 1092 0) - 1)) - 1)))) ((S 64 (400 * ((S 1092 0) - 1) + ((S 58 ((S 1092 0) - 1)) - 1))))) := fun h a b e g q f i j => sm_SK_at h a _ b e g (fun z => ⟨i z, by rw [q]; have := j (by omega); omega⟩)
        have h := h k168
        refine sv_aload_n hM dX12_stepOther_311 rfl rfl ?_
        refine sv_iload_n hM dX12_stepOther_312 rfl rfl ?_
        refine sv_iload hM dX12_stepOther_313 rfl rfl ?_
        obtain ⟨o169, h⟩ := h
        refine sv_callV hM dX12_stepOther_315 sm_iv_897 (by decide) (sm_a0 _) rfl rfl (Nat.le_of_ble_eq_true rfl) sm_h156 (Nat.le_of_ble_eq_true rfl) (Nat.le_of_ble_eq_true rfl) (F' := 2) (Nat.le_of_ble_eq_true rfl) rfl (t_toss_ s3 s5 S hok hs3 hs5 o169) (fun v S1 hq => ?_)
        obtain ⟨rfl, ok171, md172, hpo173⟩ := hq
        obtain ⟨g170, rfl⟩ : ∃ g, S1 = sv_sts S [1092, 60, 58, 57, 63, 64, 1073, 1109, 1110] g := ⟨_, md172.eq⟩
        show sv_T sm_XS sm_cs sm_L sm_sh 3 (q_stepOther p1 p2 S) 161 318 [(0, .ref 0), (1, sv_I p1), (2, sv_I p2), (3, sv_I s3), (4, sv_I s5), (5, sv_I ((S 1092 0) - (1 : Int)))] [] (sv_sts S [1092, 60, 58, 57, 63, 64, 1073, 1109, 1110] g170)
        have md174 : sv_mod [1092, 60, 58, 57, 63, 64, 1073, 1109, 1110, 65, 66, 61, 62] S (sv_sts S [1092, 60, 58, 57, 63, 64, 1073, 1109, 1110] g170) := sv_mod.sts sv_mod.rf (by decide)
        have h := h g170 hpo173
        refine sv_goto hM dX12_stepOther_318 (pc' := 459) rfl ?_
        exact sv_vret hM dX12_stepOther_459 rfl ⟨rfl, ok171, md174, h⟩
      have J10 : (p1 = (27 : Int)) → sv_T sm_XS sm_cs sm_L sm_sh 3 (q_stepOther p1 p2 S) 161 321 [(0, .ref 0), (1, sv_I p1), (2, sv_I p2), (3, sv_I s3), (4, sv_I s5), (5, sv_I ((S 1092 0) - (1 : Int)))] [] S := by
        intro hc
        have h := hS.2.2.2.2.2.2.2.2.2.2.1 hc
        have k175 : (sm_CT (S 26) (S 27) (S 28) (S 29) (S 1100007) (S 1100023) (S 1100024) (S 1100025) (S 21) (S 1046 0) (S 1032 0) (S 1008 0) (S 1055 0) → 0 ≤ (S 1100033 0) → (S 1100033 0) < (S 1046 0) → ((S 26 (S 1100033 0)) = 27 → (S 1100024 (S 1100033 0)) < 40 ∧ (0 ≤ ((S 1100007 (S 1100033 0))) ∧ (0 ≤ (S 1100023 (S 1100033 0)) → (S 1100007 (S 1100023 (S 1100033 0))) ≤ ((S 1100007 (S 1100033 0)))) ∧ (0 ≤ (S 1100025 (S 1100033 0)) → (S 1100007 (S 1100025 (S 1100033 0))) ≤ ((S 1100007 (S 1100033 0))))) ∧ (0 ≤ ((S 1100033 0) + 1) ∧ ((S 1100033 0) + 1) < (S 1046 0) ∧ (S 29 ((S 1100033 0) + 1)) = ((S 29 (S 1100033 0))) ∧ (S 1100007 ((S 1100033 0) + 1)) = ((S 1100007 (S 1100033 0))) ∧ (S 1100023 ((S 1100033 0) + 1)) = (S 1100033 0) ∧ (S 1100025 ((S 1100033 0) + 1)) = ((S 1100025 (S 1100033 0)))) ∧ (0 ≤ ((S 27 (S 1100033 0))) ∧ ((S 27 (S 1100033 0))) < (S 1046 0) ∧ (S 29 ((S 27 (S 1100033 0)))) = ((S 29 (S 1100033 0))) ∧ (S 1100007 ((S 27 (S 1100033 0)))) = ((S 1100007 (S 1100033 0)) + 1) ∧ (S 1100023 ((S 27 (S 1100033 0)))) = ((S 1100023 (S 1100033 0))) ∧ (S 1100025 ((S 27 (S 1100033 0)))) = ((S 1100025 (S 1100033 0)))))) := fun h h0 h1 => sm_ct_24 h _ h0 h1
        have h := h k175
        have k176 : (sm_CT (S 26) (S 27) (S 28) (S 29) (S 1100007) (S 1100023) (S 1100024) (S 1100025) (S 21) (S 1046 0) (S 1032 0) (S 1008 0) (S 1055 0) → 0 ≤ (S 1100033 0) → (S 1100033 0) < (S 1046 0) → (S 1100024 (S 1100033 0)) = sm_dp (S 1100024) (S 1100023 (S 1100033 0))) := fun h a b => sm_dp_k h _ a b
        have h := h k176
        have k177 : (sm_CT (S 26) (S 27) (S 28) (S 29) (S 1100007) (S 1100023) (S 1100024) (S 1100025) (S 21) (S 1046 0) (S 1032 0) (S 1008 0) (S 1055 0) → 0 ≤ (S 1100033 0) → (S 1100033 0) < (S 1046 0) → 0 ≤ (S 1100024 (S 1100033 0)) ∧ (S 1100024 (S 1100033 0)) ≤ 40) := fun h a b => by have q := sm_ct_0 h _ a b; omega
        have h := h k177
        have k178 : (0 ≤ (S 1100033 0) → sm_dp (S 1100024) (S 1100033 0) = (S 1100024 (S 1100033 0)) + 1) := sm_dp_s
        have h := h k178
        refine sv_aload_n hM dX12_stepOther_321 rfl rfl ?_
        refine sv_getA hM dX12_stepOther_322 sm_fl_194 (sm_a0 _) sm_k101 rfl ?_
        refine sv_bipush (d := (40 : Int)) hM dX12_stepOther_325 rfl rfl ?_
        refine sv_iload hM dX12_stepOther_327 rfl rfl ?_
        refine sv_imul hM dX12_stepOther_329 rfl ?_
        refine sv_aload_n hM dX12_stepOther_330 rfl rfl ?_
        refine sv_getA hM dX12_stepOther_331 sm_fl_191 (sm_a0 _) sm_k100 rfl ?_
        refine sv_iload hM dX12_stepOther_334 rfl rfl ?_
        obtain ⟨o179, h⟩ := h
        have k180 : sv_R (S 60 ((S 1092 0) - (1 : Int))) := sm_okI hok sm_r60 ((S 1092 0) - (1 : Int))
        have h := h k180
        refine sv_iald hM dX12_stepOther_336 (sm_a60 _) (by decide) o179.1 o179.2 rfl (x := (S 60 ((S 1092 0) - (1 : Int)))) rfl ?_
        refine sv_iadd hM dX12_stepOther_337 rfl ?_
        refine sv_iload_n hM dX12_stepOther_338 rfl rfl ?_
        obtain ⟨o181, h⟩ := h
        refine sv_iast sm_X hM dX12_stepOther_339 (sm_a61 _) (by decide) o181.1 o181.2 rfl ?_
        have ok182 : sm_ok (sv_up S 61 (((40 : Int) * ((S 1092 0) - (1 : Int))) + (S 60 ((S 1092 0) - (1 : Int)))) p2) := sm_upI hok sm_r61 hp2
        have md183 : sv_mod [1092, 60, 58, 57, 63, 64, 1073, 1109, 1110, 65, 66, 61, 62] S (sv_up S 61 (((40 : Int) * ((S 1092 0) - (1 : Int))) + (S 60 ((S 1092 0) - (1 : Int)))) p2) := sv_mod.up sv_mod.rf (by decide)
        refine sv_aload_n hM dX12_stepOther_340 rfl rfl ?_
        refine sv_getA hM dX12_stepOther_341 sm_fl_197 (sm_a0 _) sm_k102 rfl ?_
        refine sv_bipush (d := (40 : Int)) hM dX12_stepOther_344 rfl rfl ?_
        refine sv_iload hM dX12_stepOther_346 rfl rfl ?_
        refine sv_imul hM dX12_stepOther_348 rfl ?_
        refine sv_aload_n hM dX12_stepOther_349 rfl rfl ?_
        refine sv_getA hM dX12_stepOther_350 sm_fl_191 (sm_a0 _) sm_k100 rfl ?_
        refine sv_iload hM dX12_stepOther_353 rfl rfl ?_
        refine sv_iald hM dX12_stepOther_355 (sm_a60 _) (by decide) o179.1 o179.2 rfl (x := (S 60 ((S 1092 0) - (1 : Int)))) rfl ?_
        refine sv_iadd hM dX12_stepOther_356 rfl ?_
        refine sv_aload_n hM dX12_stepOther_357 rfl rfl ?_
        refine sv_getA hM dX12_stepOther_358 sm_fl_185 (sm_a0 _) sm_k98 rfl ?_
        refine sv_iload hM dX12_stepOther_361 rfl rfl ?_
        have k184 : sv_R (S 58 ((S 1092 0) - (1 : Int))) := sm_okI ok182 sm_r58 ((S 1092 0) - (1 : Int))
        have h := h k184
        refine sv_iald hM dX12_stepOther_363 (sm_a58 _) (by decide) o179.1 o179.2 rfl (x := (S 58 ((S 1092 0) - (1 : Int)))) rfl ?_
        refine sv_iast sm_X hM dX12_stepOther_364 (sm_a62 _) (by decide) o181.1 o181.2 rfl ?_
        have ok185 : sm_ok (sv_up (sv_up S 61 (((40 : Int) * ((S 1092 0) - (1 : Int))) + (S 60 ((S 1092 0) - (1 : Int)))) p2) 62 (((40 : Int) * ((S 1092 0) - (1 : Int))) + (S 60 ((S 1092 0) - (1 : Int)))) (S 58 ((S 1092 0) - (1 : Int)))) := sm_upI ok182 sm_r62 k184
        have md186 : sv_mod [1092, 60, 58, 57, 63, 64, 1073, 1109, 1110, 65, 66, 61, 62] S (sv_up (sv_up S 61 (((40 : Int) * ((S 1092 0) - (1 : Int))) + (S 60 ((S 1092 0) - (1 : Int)))) p2) 62 (((40 : Int) * ((S 1092 0) - (1 : Int))) + (S 60 ((S 1092 0) - (1 : Int)))) (S 58 ((S 1092 0) - (1 : Int)))) := sv_mod.up md183 (by decide)
        have k187 : (sm_TC (S 61) (S 62) (S 27) (S 1100007) (S 1100023) (S 1100024) (40 * ((S 1092 0) - 1)) (S 1100023 (S 1100033 0)) → 0 ≤ (S 1100033 0) → -1 ≤ (S 1100023 (S 1100033 0)) ∧ (S 1100023 (S 1100033 0)) < (S 1100033 0) → (S 1100024 (S 1100033 0)) = sm_dp (S 1100024) (S 1100023 (S 1100033 0)) → p2 = (S 27 (S 1100033 0)) → (S 58 ((S 1092 0) - 1)) = (S 1100007 (S 1100033 0)) → 40 * ((S 1092 0) - 1) + (S 60 ((S 1092 0) - 1)) = 40 * ((S 1092 0) - 1) + (S 1100024 (S 1100033 0)) → sm_TC (fun i' : Int => if i' = (((40 : Int) * ((S 1092 0) - (1 : Int))) + (S 60 ((S 1092 0) - (1 : Int)))) then p2 else (S 61) i') (fun i' : Int => if i' = (((40 : Int) * ((S 1092 0) - (1 : Int))) + (S 60 ((S 1092 0) - (1 : Int)))) then (S 58 ((S 1092 0) - (1 : Int))) else (S 62) i') (S 27) (S 1100007) (S 1100023) (S 1100024) (40 * ((S 1092 0) - 1)) (S 1100033 0)) := fun h a b c d e f => sm_TC_push h a b c d e f f
        have h := h k187
        refine sv_aload_n hM dX12_stepOther_365 rfl rfl ?_
        refine sv_getA hM dX12_stepOther_366 sm_fl_191 (sm_a0 _) sm_k100 rfl ?_
        refine sv_iload hM dX12_stepOther_369 rfl rfl ?_
        refine sv_dup2 hM dX12_stepOther_371 rfl ?_
        refine sv_iald hM dX12_stepOther_372 (sm_a60 _) (by decide) o179.1 o179.2 rfl (x := (S 60 ((S 1092 0) - (1 : Int)))) rfl ?_
        refine sv_iconst (d := (1 : Int)) hM dX12_stepOther_373 rfl rfl ?_
        refine sv_iadd hM dX12_stepOther_374 rfl ?_
        obtain ⟨o188, h⟩ := h
        refine sv_iast sm_X hM dX12_stepOther_375 (sm_a60 _) (by decide) o179.1 o179.2 rfl ?_
        have ok189 : sm_ok (sv_up (sv_up (sv_up S 61 (((40 : Int) * ((S 1092 0) - (1 : Int))) + (S 60 ((S 1092 0) - (1 : Int)))) p2) 62 (((40 : Int) * ((S 1092 0) - (1 : Int))) + (S 60 ((S 1092 0) - (1 : Int)))) (S 58 ((S 1092 0) - (1 : Int)))) 60 ((S 1092 0) - (1 : Int)) ((S 60 ((S 1092 0) - (1 : Int))) + (1 : Int))) := sm_upI ok185 sm_r60 o188
        have md190 : sv_mod [1092, 60, 58, 57, 63, 64, 1073, 1109, 1110, 65, 66, 61, 62] S (sv_up (sv_up (sv_up S 61 (((40 : Int) * ((S 1092 0) - (1 : Int))) + (S 60 ((S 1092 0) - (1 : Int)))) p2) 62 (((40 : Int) * ((S 1092 0) - (1 : Int))) + (S 60 ((S 1092 0) - (1 : Int)))) (S 58 ((S 1092 0) - (1 : Int)))) 60 ((S 1092 0) - (1 : Int)) ((S 60 ((S 1092 0) - (1 : Int))) + (1 : Int))) := sv_mod.up md186 (by decide)
        refine sv_aload_n hM dX12_stepOther_376 rfl rfl ?_
        obtain ⟨o191, h⟩ := h
        refine sv_callV hM dX12_stepOther_377 sm_iv_888 (by decide) (sm_a0 _) rfl rfl (Nat.le_of_ble_eq_true rfl) sm_h154 (Nat.le_of_ble_eq_true rfl) (Nat.le_of_ble_eq_true rfl) (F' := 0) (Nat.le_of_ble_eq_true rfl) rfl (t_goOn  (sv_up (sv_up (sv_up S 61 (((40 : Int) * ((S 1092 0) - (1 : Int))) + (S 60 ((S 1092 0) - (1 : Int)))) p2) 62 (((40 : Int) * ((S 1092 0) - (1 : Int))) + (S 60 ((S 1092 0) - (1 : Int)))) (S 58 ((S 1092 0) - (1 : Int)))) 60 ((S 1092 0) - (1 : Int)) ((S 60 ((S 1092 0) - (1 : Int))) + (1 : Int))) ok189 o191) (fun v S1 hq => ?_)
        obtain ⟨rfl, ok193, md194, hpo195⟩ := hq
        obtain ⟨g192, rfl⟩ : ∃ g, S1 = sv_sts (sv_up (sv_up (sv_up S 61 (((40 : Int) * ((S 1092 0) - (1 : Int))) + (S 60 ((S 1092 0) - (1 : Int)))) p2) 62 (((40 : Int) * ((S 1092 0) - (1 : Int))) + (S 60 ((S 1092 0) - (1 : Int)))) (S 58 ((S 1092 0) - (1 : Int)))) 60 ((S 1092 0) - (1 : Int)) ((S 60 ((S 1092 0) - (1 : Int))) + (1 : Int))) [57] g := ⟨_, md194.eq⟩
        show sv_T sm_XS sm_cs sm_L sm_sh 3 (q_stepOther p1 p2 S) 161 380 [(0, .ref 0), (1, sv_I p1), (2, sv_I p2), (3, sv_I s3), (4, sv_I s5), (5, sv_I ((S 1092 0) - (1 : Int)))] [] (sv_sts (sv_up (sv_up (sv_up S 61 (((40 : Int) * ((S 1092 0) - (1 : Int))) + (S 60 ((S 1092 0) - (1 : Int)))) p2) 62 (((40 : Int) * ((S 1092 0) - (1 : Int))) + (S 60 ((S 1092 0) - (1 : Int)))) (S 58 ((S 1092 0) - (1 : Int)))) 60 ((S 1092 0) - (1 : Int)) ((S 60 ((S 1092 0) - (1 : Int))) + (1 : Int))) [57] g192)
        have md196 : sv_mod [1092, 60, 58, 57, 63, 64, 1073, 1109, 1110, 65, 66, 61, 62] S (sv_sts (sv_up (sv_up (sv_up S 61 (((40 : Int) * ((S 1092 0) - (1 : Int))) + (S 60 ((S 1092 0) - (1 : Int)))) p2) 62 (((40 : Int) * ((S 1092 0) - (1 : Int))) + (S 60 ((S 1092 0) - (1 : Int)))) (S 58 ((S 1092 0) - (1 : Int)))) 60 ((S 1092 0) - (1 : Int)) ((S 60 ((S 1092 0) - (1 : Int))) + (1 : Int))) [57] g192) := sv_mod.sts md190 (by decide)
        have h := h g192 hpo195
        refine sv_goto hM dX12_stepOther_380 (pc' := 459) rfl ?_
        exact sv_vret hM dX12_stepOther_459 rfl ⟨rfl, ok193, md196, h⟩
      have J11 : (p1 = (28 : Int)) → sv_T sm_XS sm_cs sm_L sm_sh 3 (q_stepOther p1 p2 S) 161 383 [(0, .ref 0), (1, sv_I p1), (2, sv_I p2), (3, sv_I s3), (4, sv_I s5), (5, sv_I ((S 1092 0) - (1 : Int)))] [] S := by
        intro hc
        have h := hS.2.2.2.2.2.2.2.2.2.2.2.1 hc
        have k197 : (sm_CT (S 26) (S 27) (S 28) (S 29) (S 1100007) (S 1100023) (S 1100024) (S 1100025) (S 21) (S 1046 0) (S 1032 0) (S 1008 0) (S 1055 0) → 0 ≤ (S 1100033 0) → (S 1100033 0) < (S 1046 0) → ((S 26 (S 1100033 0)) = 28 → 0 ≤ (S 1100023 (S 1100033 0)) ∧ (0 ≤ ((S 1100007 (S 1100033 0))) ∧ (0 ≤ (S 1100023 (S 1100033 0)) → (S 1100007 (S 1100023 (S 1100033 0))) ≤ ((S 1100007 (S 1100033 0)))) ∧ (0 ≤ (S 1100025 (S 1100033 0)) → (S 1100007 (S 1100025 (S 1100033 0))) ≤ ((S 1100007 (S 1100033 0))))) ∧ (0 ≤ ((S 1100033 0) + 1) ∧ ((S 1100033 0) + 1) < (S 1046 0) ∧ (S 29 ((S 1100033 0) + 1)) = ((S 29 (S 1100033 0))) ∧ (S 1100007 ((S 1100033 0) + 1)) = ((S 1100007 (S 1100033 0))) ∧ (S 1100023 ((S 1100033 0) + 1)) = ((S 1100023 ((S 1100023 (S 1100033 0))))) ∧ (S 1100025 ((S 1100033 0) + 1)) = ((S 1100025 (S 1100033 0)))))) := fun h h0 h1 => sm_ct_25 h _ h0 h1
        have h := h k197
        have k198 : (sm_CT (S 26) (S 27) (S 28) (S 29) (S 1100007) (S 1100023) (S 1100024) (S 1100025) (S 21) (S 1046 0) (S 1032 0) (S 1008 0) (S 1055 0) → 0 ≤ (S 1100033 0) → (S 1100033 0) < (S 1046 0) → (0 ≤ (S 1100023 (S 1100033 0)) → (S 26 ((S 1100023 (S 1100033 0)))) = 27 ∧ (S 29 ((S 1100023 (S 1100033 0)))) = (S 29 (S 1100033 0)) ∧ (S 1100024 (S 1100033 0)) = (S 1100024 ((S 1100023 (S 1100033 0)))) + 1)) := fun h h0 h1 => sm_ct_1 h _ h0 h1
        have h := h k198
        have k199 : (sm_CT (S 26) (S 27) (S 28) (S 29) (S 1100007) (S 1100023) (S 1100024) (S 1100025) (S 21) (S 1046 0) (S 1032 0) (S 1008 0) (S 1055 0) → sm_TC (S 61) (S 62) (S 27) (S 1100007) (S 1100023) (S 1100024) (40 * ((S 1092 0) - 1)) (S 1100023 (S 1100033 0)) → 0 ≤ (S 1100023 (S 1100033 0)) → (S 1100023 (S 1100033 0)) < (S 1046 0) → (S 26 (S 1100023 (S 1100033 0))) = 27 → (0 ≤ (S 1100024 (S 1100023 (S 1100033 0))) ∧ (S 1100024 (S 1100023 (S 1100033 0))) < 40 ∧ sm_dp (S 1100024) (S 1100023 (S 1100033 0)) = (S 1100024 (S 1100023 (S 1100033 0))) + 1 ∧ (S 1100024 (S 1100023 (S 1100033 0))) = sm_dp (S 1100024) (S 1100023 (S 1100023 (S 1100033 0))) ∧ -1 ≤ (S 1100023 (S 1100023 (S 1100033 0))) ∧ (S 1100023 (S 1100023 (S 1100033 0))) < (S 1100023 (S 1100033 0))) ∧ ((S 61 (40 * ((S 1092 0) - 1) + (S 1100024 (S 1100023 (S 1100033 0))))) = (S 27 (S 1100023 (S 1100033 0))) ∧ (S 62 (40 * ((S 1092 0) - 1) + (S 1100024 (S 1100023 (S 1100033 0))))) = (S 1100007 (S 1100023 (S 1100033 0))) ∧ 0 ≤ (S 1100007 (S 1100023 (S 1100033 0))) ∧ (S 1100007 (S 1100023 (S 1100033 0))) ≤ 396) ∧ (0 ≤ (S 27 (S 1100023 (S 1100033 0))) ∧ (S 27 (S 1100023 (S 1100033 0))) < (S 1046 0) ∧ (S 29 (S 27 (S 1100023 (S 1100033 0)))) = (S 29 (S 1100023 (S 1100033 0))) ∧ (S 1100007 (S 27 (S 1100023 (S 1100033 0)))) = (S 1100007 (S 1100023 (S 1100033 0))) + 1 ∧ (S 1100023 (S 27 (S 1100023 (S 1100033 0)))) = (S 1100023 (S 1100023 (S 1100033 0))) ∧ (S 1100025 (S 27 (S 1100023 (S 1100033 0)))) = (S 1100025 (S 1100023 (S 1100033 0)))) ∧ sm_TC (S 61) (S 62) (S 27) (S 1100007) (S 1100023) (S 1100024) (40 * ((S 1092 0) - 1)) (S 1100023 (S 1100023 (S 1100033 0))) ∧ (-1 ≤ (S 1100025 (S 1100023 (S 1100033 0))) ∧ (S 1100025 (S 1100023 (S 1100033 0))) < (S 1100023 (S 1100033 0)) ∧ (0 ≤ (S 1100025 (S 1100023 (S 1100033 0))) → (S 26 (S 1100025 (S 1100023 (S 1100033 0)))) = 29 ∧ (S 1100007 (S 1100025 (S 1100023 (S 1100033 0)))) ≤ (S 1100007 (S 1100023 (S 1100033 0)))))) := fun c q a b d => sm_TC_hand c q a b d
        have h := h k199
        refine sv_aload_n hM dX12_stepOther_383 rfl rfl ?_
        refine sv_getA hM dX12_stepOther_384 sm_fl_191 (sm_a0 _) sm_k100 rfl ?_
        refine sv_iload hM dX12_stepOther_387 rfl rfl ?_
        refine sv_dup2 hM dX12_stepOther_389 rfl ?_
        obtain ⟨o200, h⟩ := h
        have k201 : sv_R (S 60 ((S 1092 0) - (1 : Int))) := sm_okI hok sm_r60 ((S 1092 0) - (1 : Int))
        have h := h k201
        refine sv_iald hM dX12_stepOther_390 (sm_a60 _) (by decide) o200.1 o200.2 rfl (x := (S 60 ((S 1092 0) - (1 : Int)))) rfl ?_
        refine sv_iconst (d := (1 : Int)) hM dX12_stepOther_391 rfl rfl ?_
        refine sv_isub hM dX12_stepOther_392 rfl ?_
        obtain ⟨o202, h⟩ := h
        refine sv_iast sm_X hM dX12_stepOther_393 (sm_a60 _) (by decide) o200.1 o200.2 rfl ?_
        have ok203 : sm_ok (sv_up S 60 ((S 1092 0) - (1 : Int)) ((S 60 ((S 1092 0) - (1 : Int))) - (1 : Int))) := sm_upI hok sm_r60 o202
        have md204 : sv_mod [1092, 60, 58, 57, 63, 64, 1073, 1109, 1110, 65, 66, 61, 62] S (sv_up S 60 ((S 1092 0) - (1 : Int)) ((S 60 ((S 1092 0) - (1 : Int))) - (1 : Int))) := sv_mod.up sv_mod.rf (by decide)
        refine sv_aload_n hM dX12_stepOther_394 rfl rfl ?_
        obtain ⟨o205, h⟩ := h
        refine sv_callV hM dX12_stepOther_395 sm_iv_888 (by decide) (sm_a0 _) rfl rfl (Nat.le_of_ble_eq_true rfl) sm_h154 (Nat.le_of_ble_eq_true rfl) (Nat.le_of_ble_eq_true rfl) (F' := 0) (Nat.le_of_ble_eq_true rfl) rfl (t_goOn  (sv_up S 60 ((S 1092 0) - (1 : Int)) ((S 60 ((S 1092 0) - (1 : Int))) - (1 : Int))) ok203 o205) (fun v S1 hq => ?_)
        obtain ⟨rfl, ok207, md208, hpo209⟩ := hq
        obtain ⟨g206, rfl⟩ : ∃ g, S1 = sv_sts (sv_up S 60 ((S 1092 0) - (1 : Int)) ((S 60 ((S 1092 0) - (1 : Int))) - (1 : Int))) [57] g := ⟨_, md208.eq⟩
        show sv_T sm_XS sm_cs sm_L sm_sh 3 (q_stepOther p1 p2 S) 161 398 [(0, .ref 0), (1, sv_I p1), (2, sv_I p2), (3, sv_I s3), (4, sv_I s5), (5, sv_I ((S 1092 0) - (1 : Int)))] [] (sv_sts (sv_up S 60 ((S 1092 0) - (1 : Int)) ((S 60 ((S 1092 0) - (1 : Int))) - (1 : Int))) [57] g206)
        have md210 : sv_mod [1092, 60, 58, 57, 63, 64, 1073, 1109, 1110, 65, 66, 61, 62] S (sv_sts (sv_up S 60 ((S 1092 0) - (1 : Int)) ((S 60 ((S 1092 0) - (1 : Int))) - (1 : Int))) [57] g206) := sv_mod.sts md204 (by decide)
        have h := h g206 hpo209
        refine sv_goto hM dX12_stepOther_398 (pc' := 459) rfl ?_
        exact sv_vret hM dX12_stepOther_459 rfl ⟨rfl, ok207, md210, h⟩
      have J12 : (p1 = (29 : Int)) → sv_T sm_XS sm_cs sm_L sm_sh 3 (q_stepOther p1 p2 S) 161 401 [(0, .ref 0), (1, sv_I p1), (2, sv_I p2), (3, sv_I s3), (4, sv_I s5), (5, sv_I ((S 1092 0) - (1 : Int)))] [] S := by
        intro hc
        have h := hS.2.2.2.2.2.2.2.2.2.2.2.2 hc
        have k211 : (sm_CT (S 26) (S 27) (S 28) (S 29) (S 1100007) (S 1100023) (S 1100024) (S 1100025) (S 21) (S 1046 0) (S 1032 0) (S 1008 0) (S 1055 0) → 0 ≤ (S 1100033 0) → (S 1100033 0) < (S 1046 0) → ((S 26 (S 1100033 0)) = 29 → (0 ≤ ((S 1100007 (S 1100033 0)) - 1) ∧ (0 ≤ (S 1100023 (S 1100033 0)) → (S 1100007 (S 1100023 (S 1100033 0))) ≤ ((S 1100007 (S 1100033 0)) - 1)) ∧ (0 ≤ (S 1100025 (S 1100033 0)) → (S 1100007 (S 1100025 (S 1100033 0))) ≤ ((S 1100007 (S 1100033 0)) - 1))) ∧ (0 ≤ ((S 1100033 0) + 1) ∧ ((S 1100033 0) + 1) < (S 1046 0) ∧ (S 29 ((S 1100033 0) + 1)) = ((S 29 (S 1100033 0))) ∧ (S 1100007 ((S 1100033 0) + 1)) = ((S 1100007 (S 1100033 0))) ∧ (S 1100023 ((S 1100033 0) + 1)) = ((S 1100023 (S 1100033 0))) ∧ (S 1100025 ((S 1100033 0) + 1)) = (S 1100033 0)))) := fun h h0 h1 => sm_ct_26 h _ h0 h1
        have h := h k211
        have k212 : ((S 1100034 0) = (S 1100025 (S 1100033 0)) → (S 58 ((S 1092 0) - 1)) = (S 1100007 (S 1100033 0)) → (0 ≤ (S 1100025 (S 1100033 0)) → (S 1100007 (S 1100025 (S 1100033 0))) ≤ (S 1100007 (S 1100033 0)) - 1) → (0 ≤ (S 1100034 0) → (S 1100007 (S 1100034 0)) ≤ (S 58 ((S 1092 0) - 1)) - 1)) := fun q f j z => by rw [q] at z ⊢; have := j z; omega
        have h := h k212
        have k213 : (sm_SK (S 63) (S 64) (S 44) (S 1100007) (S 1100025) (S 1076 0) (S 1007 0) (400 * ((S 1092 0) - 1)) ((S 58 ((S 1092 0) - 1))) ((S 1100034 0)) → sm_LS (S 26) (S 1100007) (S 1100025) (S 1046 0) → 0 ≤ (S 58 ((S 1092 0) - 1)) - 1 → (S 58 ((S 1092 0) - 1)) - 1 < (S 58 ((S 1092 0) - 1)) → (S 1100034 0) < (S 1046 0) → (S 1100034 0) = (S 1100025 (S 1100033 0)) → (S 58 ((S 1092 0) - 1)) = (S 1100007 (S 1100033 0)) → (0 ≤ (S 1100034 0) → (S 26 (S 1100034 0)) = 29) → (0 ≤ (S 1100025 (S 1100033 0)) → (S 1100007 (S 1100025 (S 1100033 0))) ≤ (S 1100007 (S 1100033 0)) - 1) → sm_VO (S 44) (S 1076 0) (S 1007 0) ((S 63 (400 * ((S 1092 0) - 1) + ((S 58 ((S 1092 0) - 1)) - 1)))) ((S 64 (400 * ((S 1092 0) - 1) + ((S 58 ((S 1092 0) - 1)) - 1))))) := fun h a b e g q f i j => sm_SK_at h a _ b e g (fun z => ⟨i z, by rw [q]; have := j (by omega); omega⟩)
        have h := h k213
        refine sv_aload_n hM dX12_stepOther_401 rfl rfl ?_
        refine sv_iconst (d := (1 : Int)) hM dX12_stepOther_402 rfl rfl ?_
        obtain ⟨o214, h⟩ := h
        refine sv_callV hM dX12_stepOther_403 sm_iv_882 (by decide) (sm_a0 _) rfl rfl (Nat.le_of_ble_eq_true rfl) sm_h153 (Nat.le_of_ble_eq_true rfl) (Nat.le_of_ble_eq_true rfl) (F' := 0) (Nat.le_of_ble_eq_true rfl) rfl (t_drop (1 : Int) S hok (⟨by decide, by decide⟩ : sv_R (1 : Int)) o214) (fun v S1 hq => ?_)
        obtain ⟨rfl, ok216, md217, hpo218⟩ := hq
        obtain ⟨g215, rfl⟩ : ∃ g, S1 = sv_sts S [58] g := ⟨_, md217.eq⟩
        show sv_T sm_XS sm_cs sm_L sm_sh 3 (q_stepOther p1 p2 S) 161 406 [(0, .ref 0), (1, sv_I p1), (2, sv_I p2), (3, sv_I s3), (4, sv_I s5), (5, sv_I ((S 1092 0) - (1 : Int)))] [] (sv_sts S [58] g215)
        have md219 : sv_mod [1092, 60, 58, 57, 63, 64, 1073, 1109, 1110, 65, 66, 61, 62] S (sv_sts S [58] g215) := sv_mod.sts sv_mod.rf (by decide)
        have h := h g215 hpo218
        refine sv_aload_n hM dX12_stepOther_406 rfl rfl ?_
        refine sv_getA hM dX12_stepOther_407 sm_fl_206 (sm_a0 _) sm_k105 rfl ?_
        refine sv_aload_n hM dX12_stepOther_410 rfl rfl ?_
        obtain ⟨o220, h⟩ := h
        refine sv_callV hM dX12_stepOther_411 sm_iv_879 (by decide) (sm_a0 _) rfl rfl (Nat.le_of_ble_eq_true rfl) sm_h149 (Nat.le_of_ble_eq_true rfl) (Nat.le_of_ble_eq_true rfl) (F' := 0) (Nat.le_of_ble_eq_true rfl) rfl (t_top  (sv_sts S [58] g215) ok216 o220) (fun v S1 hq => ?_)
        obtain ⟨rfl, hS1⟩ := hq
        obtain rfl : (sv_sts S [58] g215) = S1 := hS1.symm
        show sv_T sm_XS sm_cs sm_L sm_sh 3 (q_stepOther p1 p2 S) 161 414 [(0, .ref 0), (1, sv_I p1), (2, sv_I p2), (3, sv_I s3), (4, sv_I s5), (5, sv_I ((S 1092 0) - (1 : Int)))] [sv_I ((400 * ((S 1092 0) - 1) + (g215 58 ((S 1092 0) - 1)))), .ref 65] (sv_sts S [58] g215)
        refine sv_iconst (d := (0 : Int)) hM dX12_stepOther_414 rfl rfl ?_
        obtain ⟨o221, h⟩ := h
        refine sv_iast sm_X hM dX12_stepOther_415 (sm_a65 _) (by decide) o221.1 o221.2 rfl ?_
        have ok222 : sm_ok (sv_up (sv_sts S [58] g215) 65 ((400 * ((S 1092 0) - 1) + (g215 58 ((S 1092 0) - 1)))) (0 : Int)) := sm_upI ok216 sm_r65 (⟨by decide, by decide⟩ : sv_R (0 : Int))
        have md223 : sv_mod [1092, 60, 58, 57, 63, 64, 1073, 1109, 1110, 65, 66, 61, 62] S (sv_up (sv_sts S [58] g215) 65 ((400 * ((S 1092 0) - 1) + (g215 58 ((S 1092 0) - 1)))) (0 : Int)) := sv_mod.up md219 (by decide)
        refine sv_aload_n hM dX12_stepOther_416 rfl rfl ?_
        refine sv_getA hM dX12_stepOther_417 sm_fl_209 (sm_a0 _) sm_k106 rfl ?_
        refine sv_aload_n hM dX12_stepOther_420 rfl rfl ?_
        refine sv_callV hM dX12_stepOther_421 sm_iv_879 (by decide) (sm_a0 _) rfl rfl (Nat.le_of_ble_eq_true rfl) sm_h149 (Nat.le_of_ble_eq_true rfl) (Nat.le_of_ble_eq_true rfl) (F' := 0) (Nat.le_of_ble_eq_true rfl) rfl (t_top  (sv_up (sv_sts S [58] g215) 65 ((400 * ((S 1092 0) - 1) + (g215 58 ((S 1092 0) - 1)))) (0 : Int)) ok222 o220) (fun v S1 hq => ?_)
        obtain ⟨rfl, hS1⟩ := hq
        obtain rfl : (sv_up (sv_sts S [58] g215) 65 ((400 * ((S 1092 0) - 1) + (g215 58 ((S 1092 0) - 1)))) (0 : Int)) = S1 := hS1.symm
        show sv_T sm_XS sm_cs sm_L sm_sh 3 (q_stepOther p1 p2 S) 161 424 [(0, .ref 0), (1, sv_I p1), (2, sv_I p2), (3, sv_I s3), (4, sv_I s5), (5, sv_I ((S 1092 0) - (1 : Int)))] [sv_I ((400 * ((S 1092 0) - 1) + (g215 58 ((S 1092 0) - 1)))), .ref 66] (sv_up (sv_sts S [58] g215) 65 ((400 * ((S 1092 0) - 1) + (g215 58 ((S 1092 0) - 1)))) (0 : Int))
        refine sv_aload_n hM dX12_stepOther_424 rfl rfl ?_
        have k224 : sv_R (S 1086 0) := sm_okI ok222 sm_r1086 0
        have h := h k224
        refine sv_getI hM dX12_stepOther_425 sm_fl_855 (sm_a0 _) sm_k86 rfl (x := (S 1086 0)) rfl ?_
        refine sv_iast sm_X hM dX12_stepOther_428 (sm_a66 _) (by decide) o221.1 o221.2 rfl ?_
        have ok225 : sm_ok (sv_up (sv_up (sv_sts S [58] g215) 65 ((400 * ((S 1092 0) - 1) + (g215 58 ((S 1092 0) - 1)))) (0 : Int)) 66 ((400 * ((S 1092 0) - 1) + (g215 58 ((S 1092 0) - 1)))) (S 1086 0)) := sm_upI ok222 sm_r66 k224
        have md226 : sv_mod [1092, 60, 58, 57, 63, 64, 1073, 1109, 1110, 65, 66, 61, 62] S (sv_up (sv_up (sv_sts S [58] g215) 65 ((400 * ((S 1092 0) - 1) + (g215 58 ((S 1092 0) - 1)))) (0 : Int)) 66 ((400 * ((S 1092 0) - 1) + (g215 58 ((S 1092 0) - 1)))) (S 1086 0)) := sv_mod.up md223 (by decide)
        refine sv_aload_n hM dX12_stepOther_429 rfl rfl ?_
        refine sv_bipush (d := (8 : Int)) hM dX12_stepOther_430 rfl rfl ?_
        refine sv_iload_n hM dX12_stepOther_432 rfl rfl ?_
        refine sv_bipush (d := (7 : Int)) hM dX12_stepOther_433 rfl rfl ?_
        refine sv_icmp_ne hM dX12_stepOther_435 hs3 (⟨by decide, by decide⟩ : sv_R (7 : Int)) (t := 443) rfl rfl (fun hc => ?_) (fun hc => ?_)
        · have h := h.1 (hc)
          refine sv_iconst (d := (-1 : Int)) hM dX12_stepOther_443 rfl rfl ?_
          obtain ⟨o227, h⟩ := h
          refine sv_callV hM dX12_stepOther_444 sm_iv_885 (by decide) (sm_a0 _) rfl rfl (Nat.le_of_ble_eq_true rfl) sm_h152 (Nat.le_of_ble_eq_true rfl) (Nat.le_of_ble_eq_true rfl) (F' := 1) (Nat.le_of_ble_eq_true rfl) rfl (t_push (8 : Int) (-1 : Int) (sv_up (sv_up (sv_sts S [58] g215) 65 ((400 * ((S 1092 0) - 1) + (g215 58 ((S 1092 0) - 1)))) (0 : Int)) 66 ((400 * ((S 1092 0) - 1) + (g215 58 ((S 1092 0) - 1)))) (S 1086 0)) ok225 (⟨by decide, by decide⟩ : sv_R (8 : Int)) (⟨by decide, by decide⟩ : sv_R (-1 : Int)) o227) (fun v S1 hq => ?_)
          obtain ⟨rfl, ok229, md230, hpo231⟩ := hq
          obtain ⟨g228, rfl⟩ : ∃ g, S1 = sv_sts (sv_up (sv_up (sv_sts S [58] g215) 65 ((400 * ((S 1092 0) - 1) + (g215 58 ((S 1092 0) - 1)))) (0 : Int)) 66 ((400 * ((S 1092 0) - 1) + (g215 58 ((S 1092 0) - 1)))) (S 1086 0)) [63, 64, 58] g := ⟨_, md230.eq⟩
          show sv_T sm_XS sm_cs sm_L sm_sh 3 (q_stepOther p1 p2 S) 161 447 [(0, .ref 0), (1, sv_I p1), (2, sv_I p2), (3, sv_I s3), (4, sv_I s5), (5, sv_I ((S 1092 0) - (1 : Int)))] [] (sv_sts (sv_up (sv_up (sv_sts S [58] g215) 65 ((400 * ((S 1092 0) - 1) + (g215 58 ((S 1092 0) - 1)))) (0 : Int)) 66 ((400 * ((S 1092 0) - 1) + (g215 58 ((S 1092 0) - 1)))) (S 1086 0)) [63, 64, 58] g228)
          have md232 : sv_mod [1092, 60, 58, 57, 63, 64, 1073, 1109, 1110, 65, 66, 61, 62] S (sv_sts (sv_up (sv_up (sv_sts S [58] g215) 65 ((400 * ((S 1092 0) - 1) + (g215 58 ((S 1092 0) - 1)))) (0 : Int)) 66 ((400 * ((S 1092 0) - 1) + (g215 58 ((S 1092 0) - 1)))) (S 1086 0)) [63, 64, 58] g228) := sv_mod.sts md226 (by decide)
          have h := h g228 hpo231
          refine sv_aload_n hM dX12_stepOther_447 rfl rfl ?_
          obtain ⟨o233, h⟩ := h
          refine sv_callV hM dX12_stepOther_448 sm_iv_888 (by decide) (sm_a0 _) rfl rfl (Nat.le_of_ble_eq_true rfl) sm_h154 (Nat.le_of_ble_eq_true rfl) (Nat.le_of_ble_eq_true rfl) (F' := 0) (Nat.le_of_ble_eq_true rfl) rfl (t_goOn  (sv_sts (sv_up (sv_up (sv_sts S [58] g215) 65 ((400 * ((S 1092 0) - 1) + (g215 58 ((S 1092 0) - 1)))) (0 : Int)) 66 ((400 * ((S 1092 0) - 1) + (g215 58 ((S 1092 0) - 1)))) (S 1086 0)) [63, 64, 58] g228) ok229 o233) (fun v S1 hq => ?_)
          obtain ⟨rfl, ok235, md236, hpo237⟩ := hq
          obtain ⟨g234, rfl⟩ : ∃ g, S1 = sv_sts (sv_sts (sv_up (sv_up (sv_sts S [58] g215) 65 ((400 * ((S 1092 0) - 1) + (g215 58 ((S 1092 0) - 1)))) (0 : Int)) 66 ((400 * ((S 1092 0) - 1) + (g215 58 ((S 1092 0) - 1)))) (S 1086 0)) [63, 64, 58] g228) [57] g := ⟨_, md236.eq⟩
          show sv_T sm_XS sm_cs sm_L sm_sh 3 (q_stepOther p1 p2 S) 161 451 [(0, .ref 0), (1, sv_I p1), (2, sv_I p2), (3, sv_I s3), (4, sv_I s5), (5, sv_I ((S 1092 0) - (1 : Int)))] [] (sv_sts (sv_sts (sv_up (sv_up (sv_sts S [58] g215) 65 ((400 * ((S 1092 0) - 1) + (g215 58 ((S 1092 0) - 1)))) (0 : Int)) 66 ((400 * ((S 1092 0) - 1) + (g215 58 ((S 1092 0) - 1)))) (S 1086 0)) [63, 64, 58] g228) [57] g234)
          have md238 : sv_mod [1092, 60, 58, 57, 63, 64, 1073, 1109, 1110, 65, 66, 61, 62] S (sv_sts (sv_sts (sv_up (sv_up (sv_sts S [58] g215) 65 ((400 * ((S 1092 0) - 1) + (g215 58 ((S 1092 0) - 1)))) (0 : Int)) 66 ((400 * ((S 1092 0) - 1) + (g215 58 ((S 1092 0) - 1)))) (S 1086 0)) [63, 64, 58] g228) [57] g234) := sv_mod.sts md232 (by decide)
          have h := h g234 hpo237
          refine sv_goto hM dX12_stepOther_451 (pc' := 459) rfl ?_
          exact sv_vret hM dX12_stepOther_459 rfl ⟨rfl, ok235, md238, h⟩
        · have h := h.2 (hc)
          refine sv_iload hM dX12_stepOther_438 rfl rfl ?_
          refine sv_goto hM dX12_stepOther_440 (pc' := 444) rfl ?_
          obtain ⟨o239, h⟩ := h
          refine sv_callV hM dX12_stepOther_444 sm_iv_885 (by decide) (sm_a0 _) rfl rfl (Nat.le_of_ble_eq_true rfl) sm_h152 (Nat.le_of_ble_eq_true rfl) (Nat.le_of_ble_eq_true rfl) (F' := 1) (Nat.le_of_ble_eq_true rfl) rfl (t_push (8 : Int) s5 (sv_up (sv_up (sv_sts S [58] g215) 65 ((400 * ((S 1092 0) - 1) + (g215 58 ((S 1092 0) - 1)))) (0 : Int)) 66 ((400 * ((S 1092 0) - 1) + (g215 58 ((S 1092 0) - 1)))) (S 1086 0)) ok225 (⟨by decide, by decide⟩ : sv_R (8 : Int)) hs5 o239) (fun v S1 hq => ?_)
          obtain ⟨rfl, ok241, md242, hpo243⟩ := hq
          obtain ⟨g240, rfl⟩ : ∃ g, S1 = sv_sts (sv_up (sv_up (sv_sts S [58] g215) 65 ((400 * ((S 1092 0) - 1) + (g215 58 ((S 1092 0) - 1)))) (0 : Int)) 66 ((400 * ((S 1092 0) - 1) + (g215 58 ((S 1092 0) - 1)))) (S 1086 0)) [63, 64, 58] g := ⟨_, md242.eq⟩
          show sv_T sm_XS sm_cs sm_L sm_sh 3 (q_stepOther p1 p2 S) 161 447 [(0, .ref 0), (1, sv_I p1), (2, sv_I p2), (3, sv_I s3), (4, sv_I s5), (5, sv_I ((S 1092 0) - (1 : Int)))] [] (sv_sts (sv_up (sv_up (sv_sts S [58] g215) 65 ((400 * ((S 1092 0) - 1) + (g215 58 ((S 1092 0) - 1)))) (0 : Int)) 66 ((400 * ((S 1092 0) - 1) + (g215 58 ((S 1092 0) - 1)))) (S 1086 0)) [63, 64, 58] g240)
          have md244 : sv_mod [1092, 60, 58, 57, 63, 64, 1073, 1109, 1110, 65, 66, 61, 62] S (sv_sts (sv_up (sv_up (sv_sts S [58] g215) 65 ((400 * ((S 1092 0) - 1) + (g215 58 ((S 1092 0) - 1)))) (0 : Int)) 66 ((400 * ((S 1092 0) - 1) + (g215 58 ((S 1092 0) - 1)))) (S 1086 0)) [63, 64, 58] g240) := sv_mod.sts md226 (by decide)
          have h := h g240 hpo243
          refine sv_aload_n hM dX12_stepOther_447 rfl rfl ?_
          obtain ⟨o245, h⟩ := h
          refine sv_callV hM dX12_stepOther_448 sm_iv_888 (by decide) (sm_a0 _) rfl rfl (Nat.le_of_ble_eq_true rfl) sm_h154 (Nat.le_of_ble_eq_true rfl) (Nat.le_of_ble_eq_true rfl) (F' := 0) (Nat.le_of_ble_eq_true rfl) rfl (t_goOn  (sv_sts (sv_up (sv_up (sv_sts S [58] g215) 65 ((400 * ((S 1092 0) - 1) + (g215 58 ((S 1092 0) - 1)))) (0 : Int)) 66 ((400 * ((S 1092 0) - 1) + (g215 58 ((S 1092 0) - 1)))) (S 1086 0)) [63, 64, 58] g240) ok241 o245) (fun v S1 hq => ?_)
          obtain ⟨rfl, ok247, md248, hpo249⟩ := hq
          obtain ⟨g246, rfl⟩ : ∃ g, S1 = sv_sts (sv_sts (sv_up (sv_up (sv_sts S [58] g215) 65 ((400 * ((S 1092 0) - 1) + (g215 58 ((S 1092 0) - 1)))) (0 : Int)) 66 ((400 * ((S 1092 0) - 1) + (g215 58 ((S 1092 0) - 1)))) (S 1086 0)) [63, 64, 58] g240) [57] g := ⟨_, md248.eq⟩
          show sv_T sm_XS sm_cs sm_L sm_sh 3 (q_stepOther p1 p2 S) 161 451 [(0, .ref 0), (1, sv_I p1), (2, sv_I p2), (3, sv_I s3), (4, sv_I s5), (5, sv_I ((S 1092 0) - (1 : Int)))] [] (sv_sts (sv_sts (sv_up (sv_up (sv_sts S [58] g215) 65 ((400 * ((S 1092 0) - 1) + (g215 58 ((S 1092 0) - 1)))) (0 : Int)) 66 ((400 * ((S 1092 0) - 1) + (g215 58 ((S 1092 0) - 1)))) (S 1086 0)) [63, 64, 58] g240) [57] g246)
          have md250 : sv_mod [1092, 60, 58, 57, 63, 64, 1073, 1109, 1110, 65, 66, 61, 62] S (sv_sts (sv_sts (sv_up (sv_up (sv_sts S [58] g215) 65 ((400 * ((S 1092 0) - 1) + (g215 58 ((S 1092 0) - 1)))) (0 : Int)) 66 ((400 * ((S 1092 0) - 1) + (g215 58 ((S 1092 0) - 1)))) (S 1086 0)) [63, 64, 58] g240) [57] g246) := sv_mod.sts md244 (by decide)
          have h := h g246 hpo249
          refine sv_goto hM dX12_stepOther_451 (pc' := 459) rfl ?_
          exact sv_vret hM dX12_stepOther_459 rfl ⟨rfl, ok247, md250, h⟩
      refine sv_tsw hM dX12_stepOther_66 hp1 (t := 454) rfl (fun hc => J0 (by rcases hc with hc | hc; exact Or.inl hc; exact Or.inr hc)) (fun hc => ?_)
      have hv : p1 = (17 : Int) ∨ p1 = (18 : Int) ∨ p1 = (19 : Int) ∨ p1 = (20 : Int) ∨ p1 = (21 : Int) ∨ p1 = (22 : Int) ∨ p1 = (23 : Int) ∨ p1 = (24 : Int) ∨ p1 = (25 : Int) ∨ p1 = (26 : Int) ∨ p1 = (27 : Int) ∨ p1 = (28 : Int) ∨ p1 = (29 : Int) := by omega
      rcases hv with hv | hv | hv | hv | hv | hv | hv | hv | hv | hv | hv | hv | hv
      · exact ⟨66, 132, by rw [hv]; rfl, rfl, J1 (by omega)⟩
      · exact ⟨78, 144, by rw [hv]; rfl, rfl, J2 (by omega)⟩
      · exact ⟨92, 158, by rw [hv]; rfl, rfl, J3 (by omega)⟩
      · exact ⟨128, 194, by rw [hv]; rfl, rfl, J4 (by omega)⟩
      · exact ⟨142, 208, by rw [hv]; rfl, rfl, J5 (by omega)⟩
      · exact ⟨153, 219, by rw [hv]; rfl, rfl, J6 (by omega)⟩
      · exact ⟨191, 257, by rw [hv]; rfl, rfl, J7 (by omega)⟩
      · exact ⟨191, 257, by rw [hv]; rfl, rfl, J7 (by omega)⟩
      · exact ⟨235, 301, by rw [hv]; rfl, rfl, J8 (by omega)⟩
      · exact ⟨245, 311, by rw [hv]; rfl, rfl, J9 (by omega)⟩
      · exact ⟨255, 321, by rw [hv]; rfl, rfl, J10 (by omega)⟩
      · exact ⟨317, 383, by rw [hv]; rfl, rfl, J11 (by omega)⟩
      · exact ⟨335, 401, by rw [hv]; rfl, rfl, J12 (by omega)⟩
    have h := h.2
    refine sv_iload_n hM dX12_stepOther_28 rfl rfl ?_
    refine sv_bipush (d := (21 : Int)) hM dX12_stepOther_29 rfl rfl ?_
    refine sv_icmp_eq hM dX12_stepOther_31 hp1 (⟨by decide, by decide⟩ : sv_R (21 : Int)) (t := 46) rfl rfl (fun hc => ?_) (fun hc => ?_)
    · have h := h.1 (hc)
      refine sv_iconst (d := (0 : Int)) hM dX12_stepOther_46 rfl rfl ?_
      refine sv_goto hM dX12_stepOther_47 (pc' := 55) rfl ?_
      have hb := J251 (0 : Int) (⟨by decide, by decide⟩ : sv_R (0 : Int)) h
      exact sv_less (lv := [(0, .ref 0), (1, sv_I p1), (2, sv_I p2), (3, sv_I s3)]) (sv_Sub_cons rfl (sv_Sub_cons rfl (sv_Sub_cons rfl (sv_Sub_cons rfl sv_Sub_nil)))) hb
    · have h := h.2 (hc)
      refine sv_iload_n hM dX12_stepOther_34 rfl rfl ?_
      refine sv_bipush (d := (27 : Int)) hM dX12_stepOther_35 rfl rfl ?_
      refine sv_icmp_eq hM dX12_stepOther_37 hp1 (⟨by decide, by decide⟩ : sv_R (27 : Int)) (t := 46) rfl rfl (fun hc => ?_) (fun hc => ?_)
      · have h := h.1 (hc)
        refine sv_iconst (d := (0 : Int)) hM dX12_stepOther_46 rfl rfl ?_
        refine sv_goto hM dX12_stepOther_47 (pc' := 55) rfl ?_
        have hb := J251 (0 : Int) (⟨by decide, by decide⟩ : sv_R (0 : Int)) h
        exact sv_less (lv := [(0, .ref 0), (1, sv_I p1), (2, sv_I p2), (3, sv_I s3)]) (sv_Sub_cons rfl (sv_Sub_cons rfl (sv_Sub_cons rfl (sv_Sub_cons rfl sv_Sub_nil)))) hb
      · have h := h.2 (hc)
        refine sv_iload_n hM dX12_stepOther_40 rfl rfl ?_
        refine sv_bipush (d := (28 : Int)) hM dX12_stepOther_41 rfl rfl ?_
        refine sv_icmp_ne hM dX12_stepOther_43 hp1 (⟨by decide, by decide⟩ : sv_R (28 : Int)) (t := 50) rfl rfl (fun hc => ?_) (fun hc => ?_)
        · have h := h.1 (hc)
          refine sv_aload_n hM dX12_stepOther_50 rfl rfl ?_
          refine sv_iconst (d := (0 : Int)) hM dX12_stepOther_51 rfl rfl ?_
          obtain ⟨o252, h⟩ := h
          refine sv_callV hM dX12_stepOther_52 sm_iv_913 (by decide) (sm_a0 _) rfl rfl (Nat.le_of_ble_eq_true rfl) sm_h151 (Nat.le_of_ble_eq_true rfl) (Nat.le_of_ble_eq_true rfl) (F' := 1) (Nat.le_of_ble_eq_true rfl) rfl (t_valueAt (0 : Int) S hok (⟨by decide, by decide⟩ : sv_R (0 : Int)) o252) (fun v S1 hq => ?_)
          obtain ⟨rfl, hS1⟩ := hq
          obtain rfl : S = S1 := hS1.symm
          show sv_T sm_XS sm_cs sm_L sm_sh 3 (q_stepOther p1 p2 S) 161 55 [(0, .ref 0), (1, sv_I p1), (2, sv_I p2), (3, sv_I s3)] [sv_I ((S 64 ((400 * ((S 1092 0) - 1) + (S 58 ((S 1092 0) - 1))) - 1 - (0 : Int))))] S
          have hb := J251 ((S 64 ((400 * ((S 1092 0) - 1) + (S 58 ((S 1092 0) - 1))) - 1 - (0 : Int)))) (sm_okI hok sm_r64 _) h
          exact sv_less (lv := [(0, .ref 0), (1, sv_I p1), (2, sv_I p2), (3, sv_I s3)]) (sv_Sub_cons rfl (sv_Sub_cons rfl (sv_Sub_cons rfl (sv_Sub_cons rfl sv_Sub_nil)))) hb
        · have h := h.2 (hc)
          refine sv_iconst (d := (0 : Int)) hM dX12_stepOther_46 rfl rfl ?_
          refine sv_goto hM dX12_stepOther_47 (pc' := 55) rfl ?_
          have hb := J251 (0 : Int) (⟨by decide, by decide⟩ : sv_R (0 : Int)) h
          exact sv_less (lv := [(0, .ref 0), (1, sv_I p1), (2, sv_I p2), (3, sv_I s3)]) (sv_Sub_cons rfl (sv_Sub_cons rfl (sv_Sub_cons rfl (sv_Sub_cons rfl sv_Sub_nil)))) hb
  have h := h.2
  have k254 : (sm_CT (S 26) (S 27) (S 28) (S 29) (S 1100007) (S 1100023) (S 1100024) (S 1100025) (S 21) (S 1046 0) (S 1032 0) (S 1008 0) (S 1055 0) → 0 ≤ (S 1100033 0) → (S 1100033 0) < (S 1046 0) → (0 ≤ (S 1100025 (S 1100033 0)) → (S 26 (S 1100025 (S 1100033 0))) = 29 ∧ (S 1100007 (S 1100025 (S 1100033 0))) ≤ (S 1100007 (S 1100033 0))) ∧ (0 ≤ (S 1100007 (S 1100033 0)) ∧ (S 1100007 (S 1100033 0)) ≤ 396 ∧ -1 ≤ (S 1100023 (S 1100033 0)) ∧ (S 1100023 (S 1100033 0)) < (S 1100033 0) ∧ -1 ≤ (S 1100025 (S 1100033 0)) ∧ (S 1100025 (S 1100033 0)) < (S 1100033 0) ∧ 0 ≤ (S 26 (S 1100033 0)) ∧ (S 26 (S 1100033 0)) ≤ 30)) := fun h a b => by have q := sm_ct_0 h _ a b; have w := sm_ct_3 h _ a b; exact ⟨fun z => ⟨(w z).1, (w z).2.2.1⟩, by omega⟩
  have h := h k254
  have k255 : ((S 1100034 0) = (S 1100025 (S 1100033 0)) → (S 58 ((S 1092 0) - 1)) = (S 1100007 (S 1100033 0)) → (0 ≤ (S 1100025 (S 1100033 0)) → (S 1100007 (S 1100025 (S 1100033 0))) ≤ (S 1100007 (S 1100033 0))) → (0 ≤ (S 1100034 0) → (S 1100007 (S 1100034 0)) ≤ (S 58 ((S 1092 0) - 1)))) := fun q f j z => by rw [q] at z ⊢; have := j z; omega
  have h := h k255
  refine sv_iload_n hM dX12_stepOther_0 rfl rfl ?_
  refine sv_bipush (d := (21 : Int)) hM dX12_stepOther_1 rfl rfl ?_
  refine sv_icmp_eq hM dX12_stepOther_3 hp1 (⟨by decide, by decide⟩ : sv_R (21 : Int)) (t := 18) rfl rfl (fun hc => ?_) (fun hc => ?_)
  · have h := h.1 (hc)
    refine sv_iconst (d := (0 : Int)) hM dX12_stepOther_18 rfl rfl ?_
    refine sv_goto hM dX12_stepOther_19 (pc' := 27) rfl ?_
    have hb := J253 (0 : Int) (⟨by decide, by decide⟩ : sv_R (0 : Int)) h
    exact sv_less (lv := [(0, .ref 0), (1, sv_I p1), (2, sv_I p2)]) (sv_Sub_cons rfl (sv_Sub_cons rfl (sv_Sub_cons rfl sv_Sub_nil))) hb
  · have h := h.2 (hc)
    refine sv_iload_n hM dX12_stepOther_6 rfl rfl ?_
    refine sv_bipush (d := (27 : Int)) hM dX12_stepOther_7 rfl rfl ?_
    refine sv_icmp_eq hM dX12_stepOther_9 hp1 (⟨by decide, by decide⟩ : sv_R (27 : Int)) (t := 18) rfl rfl (fun hc => ?_) (fun hc => ?_)
    · have h := h.1 (hc)
      refine sv_iconst (d := (0 : Int)) hM dX12_stepOther_18 rfl rfl ?_
      refine sv_goto hM dX12_stepOther_19 (pc' := 27) rfl ?_
      have hb := J253 (0 : Int) (⟨by decide, by decide⟩ : sv_R (0 : Int)) h
      exact sv_less (lv := [(0, .ref 0), (1, sv_I p1), (2, sv_I p2)]) (sv_Sub_cons rfl (sv_Sub_cons rfl (sv_Sub_cons rfl sv_Sub_nil))) hb
    · have h := h.2 (hc)
      refine sv_iload_n hM dX12_stepOther_12 rfl rfl ?_
      refine sv_bipush (d := (28 : Int)) hM dX12_stepOther_13 rfl rfl ?_
      refine sv_icmp_ne hM dX12_stepOther_15 hp1 (⟨by decide, by decide⟩ : sv_R (28 : Int)) (t := 22) rfl rfl (fun hc => ?_) (fun hc => ?_)
      · have h := h.1 (hc)
        refine sv_aload_n hM dX12_stepOther_22 rfl rfl ?_
        refine sv_iconst (d := (0 : Int)) hM dX12_stepOther_23 rfl rfl ?_
        obtain ⟨o256, h⟩ := h
        refine sv_callV hM dX12_stepOther_24 sm_iv_910 (by decide) (sm_a0 _) rfl rfl (Nat.le_of_ble_eq_true rfl) sm_h150 (Nat.le_of_ble_eq_true rfl) (Nat.le_of_ble_eq_true rfl) (F' := 1) (Nat.le_of_ble_eq_true rfl) rfl (t_sortAt (0 : Int) S hok (⟨by decide, by decide⟩ : sv_R (0 : Int)) o256) (fun v S1 hq => ?_)
        obtain ⟨rfl, hS1⟩ := hq
        obtain rfl : S = S1 := hS1.symm
        show sv_T sm_XS sm_cs sm_L sm_sh 3 (q_stepOther p1 p2 S) 161 27 [(0, .ref 0), (1, sv_I p1), (2, sv_I p2)] [sv_I ((S 63 ((400 * ((S 1092 0) - 1) + (S 58 ((S 1092 0) - 1))) - 1 - (0 : Int))))] S
        have hb := J253 ((S 63 ((400 * ((S 1092 0) - 1) + (S 58 ((S 1092 0) - 1))) - 1 - (0 : Int)))) (sm_okI hok sm_r63 _) h
        exact sv_less (lv := [(0, .ref 0), (1, sv_I p1), (2, sv_I p2)]) (sv_Sub_cons rfl (sv_Sub_cons rfl (sv_Sub_cons rfl sv_Sub_nil))) hb
      · have h := h.2 (hc)
        refine sv_iconst (d := (0 : Int)) hM dX12_stepOther_18 rfl rfl ?_
        refine sv_goto hM dX12_stepOther_19 (pc' := 27) rfl ?_
        have hb := J253 (0 : Int) (⟨by decide, by decide⟩ : sv_R (0 : Int)) h
        exact sv_less (lv := [(0, .ref 0), (1, sv_I p1), (2, sv_I p2)]) (sv_Sub_cons rfl (sv_Sub_cons rfl (sv_Sub_cons rfl sv_Sub_nil))) hb
