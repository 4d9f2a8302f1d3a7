theorem dX12_stepOther_0 : decode cX12_stepOther 0 = .ok (.iload_n 1, 1) := by decide +kernel
theorem dX12_stepOther_1 : decode cX12_stepOther 1 = .ok (.bipush 21, 2) := by decide +kernel
theorem dX12_stepOther_3 : decode cX12_stepOther 3 = .ok (.if_icmp .eq 15, 3) := by decide +kernel
theorem dX12_stepOther_6 : decode cX12_stepOther 6 = .ok (.iload_n 1, 1) := by decide +kernel
theorem dX12_stepOther_7 : decode cX12_stepOther 7 = .ok (.bipush 27, 2) := by decide +kernel
theorem dX12_stepOther_9 : decode cX12_stepOther 9 = .ok (.if_icmp .eq 9, 3) := by decide +kernel
theorem dX12_stepOther_12 : decode cX12_stepOther 12 = .ok (.iload_n 1, 1) := by decide +kernel
theorem dX12_stepOther_13 : decode cX12_stepOther 13 = .ok (.bipush 28, 2) := by decide +kernel
theorem dX12_stepOther_15 : decode cX12_stepOther 15 = .ok (.if_icmp .ne 7, 3) := by decide +kernel
theorem dX12_stepOther_18 : decode cX12_stepOther 18 = .ok (.iconst 0, 1) := by decide +kernel
theorem dX12_stepOther_19 : decode cX12_stepOther 19 = .ok (.goto 8, 3) := by decide +kernel
theorem dX12_stepOther_22 : decode cX12_stepOther 22 = .ok (.aload_n 0, 1) := by decide +kernel
theorem dX12_stepOther_23 : decode cX12_stepOther 23 = .ok (.iconst 0, 1) := by decide +kernel
theorem dX12_stepOther_24 : decode cX12_stepOther 24 = .ok (.invokevirtual 910, 3) := by decide +kernel
theorem dX12_stepOther_27 : decode cX12_stepOther 27 = .ok (.istore_n 3, 1) := by decide +kernel
theorem dX12_stepOther_28 : decode cX12_stepOther 28 = .ok (.iload_n 1, 1) := by decide +kernel
theorem dX12_stepOther_29 : decode cX12_stepOther 29 = .ok (.bipush 21, 2) := by decide +kernel
theorem dX12_stepOther_31 : decode cX12_stepOther 31 = .ok (.if_icmp .eq 15, 3) := by decide +kernel
theorem dX12_stepOther_34 : decode cX12_stepOther 34 = .ok (.iload_n 1, 1) := by decide +kernel
theorem dX12_stepOther_35 : decode cX12_stepOther 35 = .ok (.bipush 27, 2) := by decide +kernel
theorem dX12_stepOther_37 : decode cX12_stepOther 37 = .ok (.if_icmp .eq 9, 3) := by decide +kernel
theorem dX12_stepOther_40 : decode cX12_stepOther 40 = .ok (.iload_n 1, 1) := by decide +kernel
theorem dX12_stepOther_41 : decode cX12_stepOther 41 = .ok (.bipush 28, 2) := by decide +kernel
theorem dX12_stepOther_43 : decode cX12_stepOther 43 = .ok (.if_icmp .ne 7, 3) := by decide +kernel
theorem dX12_stepOther_46 : decode cX12_stepOther 46 = .ok (.iconst 0, 1) := by decide +kernel
theorem dX12_stepOther_47 : decode cX12_stepOther 47 = .ok (.goto 8, 3) := by decide +kernel
theorem dX12_stepOther_50 : decode cX12_stepOther 50 = .ok (.aload_n 0, 1) := by decide +kernel
theorem dX12_stepOther_51 : decode cX12_stepOther 51 = .ok (.iconst 0, 1) := by decide +kernel
theorem dX12_stepOther_52 : decode cX12_stepOther 52 = .ok (.invokevirtual 913, 3) := by decide +kernel
theorem dX12_stepOther_55 : decode cX12_stepOther 55 = .ok (.istore 4, 2) := by decide +kernel
theorem dX12_stepOther_57 : decode cX12_stepOther 57 = .ok (.aload_n 0, 1) := by decide +kernel
theorem dX12_stepOther_58 : decode cX12_stepOther 58 = .ok (.getfield 872, 3) := by decide +kernel
theorem dX12_stepOther_61 : decode cX12_stepOther 61 = .ok (.iconst 1, 1) := by decide +kernel
theorem dX12_stepOther_62 : decode cX12_stepOther 62 = .ok (.isub, 1) := by decide +kernel
theorem dX12_stepOther_63 : decode cX12_stepOther 63 = .ok (.istore 5, 2) := by decide +kernel
theorem dX12_stepOther_65 : decode cX12_stepOther 65 = .ok (.iload_n 1, 1) := by decide +kernel
theorem dX12_stepOther_66 : decode cX12_stepOther 66 = .ok (.tableswitch 388 17 29 #[66, 78, 92, 128, 142, 153, 191, 191, 235, 245, 255, 317, 335], 66) := by decide +kernel
theorem dX12_stepOther_132 : decode cX12_stepOther 132 = .ok (.aload_n 0, 1) := by decide +kernel
theorem dX12_stepOther_133 : decode cX12_stepOther 133 = .ok (.iconst 1, 1) := by decide +kernel
theorem dX12_stepOther_134 : decode cX12_stepOther 134 = .ok (.invokevirtual 882, 3) := by decide +kernel
theorem dX12_stepOther_137 : decode cX12_stepOther 137 = .ok (.aload_n 0, 1) := by decide +kernel
theorem dX12_stepOther_138 : decode cX12_stepOther 138 = .ok (.invokevirtual 888, 3) := by decide +kernel
theorem dX12_stepOther_141 : decode cX12_stepOther 141 = .ok (.goto 318, 3) := by decide +kernel
theorem dX12_stepOther_144 : decode cX12_stepOther 144 = .ok (.aload_n 0, 1) := by decide +kernel
theorem dX12_stepOther_145 : decode cX12_stepOther 145 = .ok (.iload_n 3, 1) := by decide +kernel
theorem dX12_stepOther_146 : decode cX12_stepOther 146 = .ok (.iload 4, 2) := by decide +kernel
theorem dX12_stepOther_148 : decode cX12_stepOther 148 = .ok (.invokevirtual 885, 3) := by decide +kernel
theorem dX12_stepOther_151 : decode cX12_stepOther 151 = .ok (.aload_n 0, 1) := by decide +kernel
theorem dX12_stepOther_152 : decode cX12_stepOther 152 = .ok (.invokevirtual 888, 3) := by decide +kernel
theorem dX12_stepOther_155 : decode cX12_stepOther 155 = .ok (.goto 304, 3) := by decide +kernel
theorem dX12_stepOther_158 : decode cX12_stepOther 158 = .ok (.aload_n 0, 1) := by decide +kernel
theorem dX12_stepOther_159 : decode cX12_stepOther 159 = .ok (.iconst 1, 1) := by decide +kernel
theorem dX12_stepOther_160 : decode cX12_stepOther 160 = .ok (.invokevirtual 910, 3) := by decide +kernel
theorem dX12_stepOther_163 : decode cX12_stepOther 163 = .ok (.istore 6, 2) := by decide +kernel
theorem dX12_stepOther_165 : decode cX12_stepOther 165 = .ok (.aload_n 0, 1) := by decide +kernel
theorem dX12_stepOther_166 : decode cX12_stepOther 166 = .ok (.iconst 1, 1) := by decide +kernel
theorem dX12_stepOther_167 : decode cX12_stepOther 167 = .ok (.invokevirtual 913, 3) := by decide +kernel
theorem dX12_stepOther_170 : decode cX12_stepOther 170 = .ok (.istore 7, 2) := by decide +kernel
theorem dX12_stepOther_172 : decode cX12_stepOther 172 = .ok (.aload_n 0, 1) := by decide +kernel
theorem dX12_stepOther_173 : decode cX12_stepOther 173 = .ok (.iload 6, 2) := by decide +kernel
theorem dX12_stepOther_175 : decode cX12_stepOther 175 = .ok (.iload 7, 2) := by decide +kernel
theorem dX12_stepOther_177 : decode cX12_stepOther 177 = .ok (.invokevirtual 885, 3) := by decide +kernel
theorem dX12_stepOther_180 : decode cX12_stepOther 180 = .ok (.aload_n 0, 1) := by decide +kernel
theorem dX12_stepOther_181 : decode cX12_stepOther 181 = .ok (.iload_n 3, 1) := by decide +kernel
theorem dX12_stepOther_182 : decode cX12_stepOther 182 = .ok (.iload 4, 2) := by decide +kernel
theorem dX12_stepOther_184 : decode cX12_stepOther 184 = .ok (.invokevirtual 885, 3) := by decide +kernel
theorem dX12_stepOther_187 : decode cX12_stepOther 187 = .ok (.aload_n 0, 1) := by decide +kernel
theorem dX12_stepOther_188 : decode cX12_stepOther 188 = .ok (.invokevirtual 888, 3) := by decide +kernel
theorem dX12_stepOther_191 : decode cX12_stepOther 191 = .ok (.goto 268, 3) := by decide +kernel
theorem dX12_stepOther_194 : decode cX12_stepOther 194 = .ok (.aload_n 0, 1) := by decide +kernel
theorem dX12_stepOther_195 : decode cX12_stepOther 195 = .ok (.iload_n 3, 1) := by decide +kernel
theorem dX12_stepOther_196 : decode cX12_stepOther 196 = .ok (.iload 4, 2) := by decide +kernel
theorem dX12_stepOther_198 : decode cX12_stepOther 198 = .ok (.invokevirtual 954, 3) := by decide +kernel
theorem dX12_stepOther_201 : decode cX12_stepOther 201 = .ok (.aload_n 0, 1) := by decide +kernel
theorem dX12_stepOther_202 : decode cX12_stepOther 202 = .ok (.invokevirtual 888, 3) := by decide +kernel
theorem dX12_stepOther_205 : decode cX12_stepOther 205 = .ok (.goto 254, 3) := by decide +kernel
theorem dX12_stepOther_208 : decode cX12_stepOther 208 = .ok (.aload_n 0, 1) := by decide +kernel
theorem dX12_stepOther_209 : decode cX12_stepOther 209 = .ok (.getfield 182, 3) := by decide +kernel
theorem dX12_stepOther_212 : decode cX12_stepOther 212 = .ok (.iload 5, 2) := by decide +kernel
theorem dX12_stepOther_214 : decode cX12_stepOther 214 = .ok (.iload_n 2, 1) := by decide +kernel
theorem dX12_stepOther_215 : decode cX12_stepOther 215 = .ok (.iastore, 1) := by decide +kernel
theorem dX12_stepOther_216 : decode cX12_stepOther 216 = .ok (.goto 243, 3) := by decide +kernel
theorem dX12_stepOther_219 : decode cX12_stepOther 219 = .ok (.aload_n 0, 1) := by decide +kernel
theorem dX12_stepOther_220 : decode cX12_stepOther 220 = .ok (.iconst 1, 1) := by decide +kernel
theorem dX12_stepOther_221 : decode cX12_stepOther 221 = .ok (.invokevirtual 882, 3) := by decide +kernel
theorem dX12_stepOther_224 : decode cX12_stepOther 224 = .ok (.aload_n 0, 1) := by decide +kernel
theorem dX12_stepOther_225 : decode cX12_stepOther 225 = .ok (.getfield 182, 3) := by decide +kernel
theorem dX12_stepOther_228 : decode cX12_stepOther 228 = .ok (.iload 5, 2) := by decide +kernel
theorem dX12_stepOther_230 : decode cX12_stepOther 230 = .ok (.aload_n 0, 1) := by decide +kernel
theorem dX12_stepOther_231 : decode cX12_stepOther 231 = .ok (.iload_n 3, 1) := by decide +kernel
theorem dX12_stepOther_232 : decode cX12_stepOther 232 = .ok (.iload 4, 2) := by decide +kernel
theorem dX12_stepOther_234 : decode cX12_stepOther 234 = .ok (.invokevirtual 824, 3) := by decide +kernel
theorem dX12_stepOther_237 : decode cX12_stepOther 237 = .ok (.ifCond .eq 15, 3) := by decide +kernel
theorem dX12_stepOther_240 : decode cX12_stepOther 240 = .ok (.aload_n 0, 1) := by decide +kernel
theorem dX12_stepOther_241 : decode cX12_stepOther 241 = .ok (.getfield 182, 3) := by decide +kernel
theorem dX12_stepOther_244 : decode cX12_stepOther 244 = .ok (.iload 5, 2) := by decide +kernel
theorem dX12_stepOther_246 : decode cX12_stepOther 246 = .ok (.iaload, 1) := by decide +kernel
theorem dX12_stepOther_247 : decode cX12_stepOther 247 = .ok (.iconst 1, 1) := by decide +kernel
theorem dX12_stepOther_248 : decode cX12_stepOther 248 = .ok (.iadd, 1) := by decide +kernel
theorem dX12_stepOther_249 : decode cX12_stepOther 249 = .ok (.goto 4, 3) := by decide +kernel
theorem dX12_stepOther_252 : decode cX12_stepOther 252 = .ok (.iload_n 2, 1) := by decide +kernel
theorem dX12_stepOther_253 : decode cX12_stepOther 253 = .ok (.iastore, 1) := by decide +kernel
theorem dX12_stepOther_254 : decode cX12_stepOther 254 = .ok (.goto 205, 3) := by decide +kernel
theorem dX12_stepOther_257 : decode cX12_stepOther 257 = .ok (.aload_n 0, 1) := by decide +kernel
theorem dX12_stepOther_258 : decode cX12_stepOther 258 = .ok (.iload_n 3, 1) := by decide +kernel
theorem dX12_stepOther_259 : decode cX12_stepOther 259 = .ok (.iload 4, 2) := by decide +kernel
theorem dX12_stepOther_261 : decode cX12_stepOther 261 = .ok (.invokevirtual 824, 3) := by decide +kernel
theorem dX12_stepOther_264 : decode cX12_stepOther 264 = .ok (.iload_n 1, 1) := by decide +kernel
theorem dX12_stepOther_265 : decode cX12_stepOther 265 = .ok (.bipush 23, 2) := by decide +kernel
theorem dX12_stepOther_267 : decode cX12_stepOther 267 = .ok (.if_icmp .ne 7, 3) := by decide +kernel
theorem dX12_stepOther_270 : decode cX12_stepOther 270 = .ok (.iconst 1, 1) := by decide +kernel
theorem dX12_stepOther_271 : decode cX12_stepOther 271 = .ok (.goto 4, 3) := by decide +kernel
theorem dX12_stepOther_274 : decode cX12_stepOther 274 = .ok (.iconst 0, 1) := by decide +kernel
theorem dX12_stepOther_275 : decode cX12_stepOther 275 = .ok (.if_icmp .ne 15, 3) := by decide +kernel
theorem dX12_stepOther_278 : decode cX12_stepOther 278 = .ok (.aload_n 0, 1) := by decide +kernel
theorem dX12_stepOther_279 : decode cX12_stepOther 279 = .ok (.iconst 1, 1) := by decide +kernel
theorem dX12_stepOther_280 : decode cX12_stepOther 280 = .ok (.invokevirtual 882, 3) := by decide +kernel
theorem dX12_stepOther_283 : decode cX12_stepOther 283 = .ok (.aload_n 0, 1) := by decide +kernel
theorem dX12_stepOther_284 : decode cX12_stepOther 284 = .ok (.invokevirtual 888, 3) := by decide +kernel
theorem dX12_stepOther_287 : decode cX12_stepOther 287 = .ok (.goto 172, 3) := by decide +kernel
theorem dX12_stepOther_290 : decode cX12_stepOther 290 = .ok (.aload_n 0, 1) := by decide +kernel
theorem dX12_stepOther_291 : decode cX12_stepOther 291 = .ok (.getfield 182, 3) := by decide +kernel
theorem dX12_stepOther_294 : decode cX12_stepOther 294 = .ok (.iload 5, 2) := by decide +kernel
theorem dX12_stepOther_296 : decode cX12_stepOther 296 = .ok (.iload_n 2, 1) := by decide +kernel
theorem dX12_stepOther_297 : decode cX12_stepOther 297 = .ok (.iastore, 1) := by decide +kernel
theorem dX12_stepOther_298 : decode cX12_stepOther 298 = .ok (.goto 161, 3) := by decide +kernel
theorem dX12_stepOther_301 : decode cX12_stepOther 301 = .ok (.aload_n 0, 1) := by decide +kernel
theorem dX12_stepOther_302 : decode cX12_stepOther 302 = .ok (.iload_n 3, 1) := by decide +kernel
theorem dX12_stepOther_303 : decode cX12_stepOther 303 = .ok (.iload 4, 2) := by decide +kernel
theorem dX12_stepOther_305 : decode cX12_stepOther 305 = .ok (.invokevirtual 957, 3) := by decide +kernel
theorem dX12_stepOther_308 : decode cX12_stepOther 308 = .ok (.goto 151, 3) := by decide +kernel
theorem dX12_stepOther_311 : decode cX12_stepOther 311 = .ok (.aload_n 0, 1) := by decide +kernel
theorem dX12_stepOther_312 : decode cX12_stepOther 312 = .ok (.iload_n 3, 1) := by decide +kernel
theorem dX12_stepOther_313 : decode cX12_stepOther 313 = .ok (.iload 4, 2) := by decide +kernel
theorem dX12_stepOther_315 : decode cX12_stepOther 315 = .ok (.invokevirtual 897, 3) := by decide +kernel
theorem dX12_stepOther_318 : decode cX12_stepOther 318 = .ok (.goto 141, 3) := by decide +kernel
theorem dX12_stepOther_321 : decode cX12_stepOther 321 = .ok (.aload_n 0, 1) := by decide +kernel
theorem dX12_stepOther_322 : decode cX12_stepOther 322 = .ok (.getfield 194, 3) := by decide +kernel
theorem dX12_stepOther_325 : decode cX12_stepOther 325 = .ok (.bipush 40, 2) := by decide +kernel
theorem dX12_stepOther_327 : decode cX12_stepOther 327 = .ok (.iload 5, 2) := by decide +kernel
theorem dX12_stepOther_329 : decode cX12_stepOther 329 = .ok (.imul, 1) := by decide +kernel
theorem dX12_stepOther_330 : decode cX12_stepOther 330 = .ok (.aload_n 0, 1) := by decide +kernel
theorem dX12_stepOther_331 : decode cX12_stepOther 331 = .ok (.getfield 191, 3) := by decide +kernel
theorem dX12_stepOther_334 : decode cX12_stepOther 334 = .ok (.iload 5, 2) := by decide +kernel
theorem dX12_stepOther_336 : decode cX12_stepOther 336 = .ok (.iaload, 1) := by decide +kernel
theorem dX12_stepOther_337 : decode cX12_stepOther 337 = .ok (.iadd, 1) := by decide +kernel
theorem dX12_stepOther_338 : decode cX12_stepOther 338 = .ok (.iload_n 2, 1) := by decide +kernel
theorem dX12_stepOther_339 : decode cX12_stepOther 339 = .ok (.iastore, 1) := by decide +kernel
theorem dX12_stepOther_340 : decode cX12_stepOther 340 = .ok (.aload_n 0, 1) := by decide +kernel
theorem dX12_stepOther_341 : decode cX12_stepOther 341 = .ok (.getfield 197, 3) := by decide +kernel
theorem dX12_stepOther_344 : decode cX12_stepOther 344 = .ok (.bipush 40, 2) := by decide +kernel
theorem dX12_stepOther_346 : decode cX12_stepOther 346 = .ok (.iload 5, 2) := by decide +kernel
theorem dX12_stepOther_348 : decode cX12_stepOther 348 = .ok (.imul, 1) := by decide +kernel
theorem dX12_stepOther_349 : decode cX12_stepOther 349 = .ok (.aload_n 0, 1) := by decide +kernel
theorem dX12_stepOther_350 : decode cX12_stepOther 350 = .ok (.getfield 191, 3) := by decide +kernel
theorem dX12_stepOther_353 : decode cX12_stepOther 353 = .ok (.iload 5, 2) := by decide +kernel
theorem dX12_stepOther_355 : decode cX12_stepOther 355 = .ok (.iaload, 1) := by decide +kernel
theorem dX12_stepOther_356 : decode cX12_stepOther 356 = .ok (.iadd, 1) := by decide +kernel
theorem dX12_stepOther_357 : decode cX12_stepOther 357 = .ok (.aload_n 0, 1) := by decide +kernel
theorem dX12_stepOther_358 : decode cX12_stepOther 358 = .ok (.getfield 185, 3) := by decide +kernel
theorem dX12_stepOther_361 : decode cX12_stepOther 361 = .ok (.iload 5, 2) := by decide +kernel
theorem dX12_stepOther_363 : decode cX12_stepOther 363 = .ok (.iaload, 1) := by decide +kernel
theorem dX12_stepOther_364 : decode cX12_stepOther 364 = .ok (.iastore, 1) := by decide +kernel
theorem dX12_stepOther_365 : decode cX12_stepOther 365 = .ok (.aload_n 0, 1) := by decide +kernel
theorem dX12_stepOther_366 : decode cX12_stepOther 366 = .ok (.getfield 191, 3) := by decide +kernel
theorem dX12_stepOther_369 : decode cX12_stepOther 369 = .ok (.iload 5, 2) := by decide +kernel
theorem dX12_stepOther_371 : decode cX12_stepOther 371 = .ok (.dup2, 1) := by decide +kernel
theorem dX12_stepOther_372 : decode cX12_stepOther 372 = .ok (.iaload, 1) := by decide +kernel
theorem dX12_stepOther_373 : decode cX12_stepOther 373 = .ok (.iconst 1, 1) := by decide +kernel
theorem dX12_stepOther_374 : decode cX12_stepOther 374 = .ok (.iadd, 1) := by decide +kernel
theorem dX12_stepOther_375 : decode cX12_stepOther 375 = .ok (.iastore, 1) := by decide +kernel
theorem dX12_stepOther_376 : decode cX12_stepOther 376 = .ok (.aload_n 0, 1) := by decide +kernel
theorem dX12_stepOther_377 : decode cX12_stepOther 377 = .ok (.invokevirtual 888, 3) := by decide +kernel
theorem dX12_stepOther_380 : decode cX12_stepOther 380 = .ok (.goto 79, 3) := by decide +kernel
theorem dX12_stepOther_383 : decode cX12_stepOther 383 = .ok (.aload_n 0, 1) := by decide +kernel
theorem dX12_stepOther_384 : decode cX12_stepOther 384 = .ok (.getfield 191, 3) := by decide +kernel
theorem dX12_stepOther_387 : decode cX12_stepOther 387 = .ok (.iload 5, 2) := by decide +kernel
theorem dX12_stepOther_389 : decode cX12_stepOther 389 = .ok (.dup2, 1) := by decide +kernel
theorem dX12_stepOther_390 : decode cX12_stepOther 390 = .ok (.iaload, 1) := by decide +kernel
theorem dX12_stepOther_391 : decode cX12_stepOther 391 = .ok (.iconst 1, 1) := by decide +kernel
theorem dX12_stepOther_392 : decode cX12_stepOther 392 = .ok (.isub, 1) := by decide +kernel
theorem dX12_stepOther_393 : decode cX12_stepOther 393 = .ok (.iastore, 1) := by decide +kernel
theorem dX12_stepOther_394 : decode cX12_stepOther 394 = .ok (.aload_n 0, 1) := by decide +kernel
theorem dX12_stepOther_395 : decode cX12_stepOther 395 = .ok (.invokevirtual 888, 3) := by decide +kernel
theorem dX12_stepOther_398 : decode cX12_stepOther 398 = .ok (.goto 61, 3) := by decide +kernel
theorem dX12_stepOther_401 : decode cX12_stepOther 401 = .ok (.aload_n 0, 1) := by decide +kernel
theorem dX12_stepOther_402 : decode cX12_stepOther 402 = .ok (.iconst 1, 1) := by decide +kernel
theorem dX12_stepOther_403 : decode cX12_stepOther 403 = .ok (.invokevirtual 882, 3) := by decide +kernel
theorem dX12_stepOther_406 : decode cX12_stepOther 406 = .ok (.aload_n 0, 1) := by decide +kernel
theorem dX12_stepOther_407 : decode cX12_stepOther 407 = .ok (.getfield 206, 3) := by decide +kernel
theorem dX12_stepOther_410 : decode cX12_stepOther 410 = .ok (.aload_n 0, 1) := by decide +kernel
theorem dX12_stepOther_411 : decode cX12_stepOther 411 = .ok (.invokevirtual 879, 3) := by decide +kernel
theorem dX12_stepOther_414 : decode cX12_stepOther 414 = .ok (.iconst 0, 1) := by decide +kernel
theorem dX12_stepOther_415 : decode cX12_stepOther 415 = .ok (.iastore, 1) := by decide +kernel
theorem dX12_stepOther_416 : decode cX12_stepOther 416 = .ok (.aload_n 0, 1) := by decide +kernel
theorem dX12_stepOther_417 : decode cX12_stepOther 417 = .ok (.getfield 209, 3) := by decide +kernel
theorem dX12_stepOther_420 : decode cX12_stepOther 420 = .ok (.aload_n 0, 1) := by decide +kernel
theorem dX12_stepOther_421 : decode cX12_stepOther 421 = .ok (.invokevirtual 879, 3) := by decide +kernel
theorem dX12_stepOther_424 : decode cX12_stepOther 424 = .ok (.aload_n 0, 1) := by decide +kernel
theorem dX12_stepOther_425 : decode cX12_stepOther 425 = .ok (.getfield 855, 3) := by decide +kernel
theorem dX12_stepOther_428 : decode cX12_stepOther 428 = .ok (.iastore, 1) := by decide +kernel
theorem dX12_stepOther_429 : decode cX12_stepOther 429 = .ok (.aload_n 0, 1) := by decide +kernel
theorem dX12_stepOther_430 : decode cX12_stepOther 430 = .ok (.bipush 8, 2) := by decide +kernel
theorem dX12_stepOther_432 : decode cX12_stepOther 432 = .ok (.iload_n 3, 1) := by decide +kernel
theorem dX12_stepOther_433 : decode cX12_stepOther 433 = .ok (.bipush 7, 2) := by decide +kernel
theorem dX12_stepOther_435 : decode cX12_stepOther 435 = .ok (.if_icmp .ne 8, 3) := by decide +kernel
theorem dX12_stepOther_438 : decode cX12_stepOther 438 = .ok (.iload 4, 2) := by decide +kernel
theorem dX12_stepOther_440 : decode cX12_stepOther 440 = .ok (.goto 4, 3) := by decide +kernel
theorem dX12_stepOther_443 : decode cX12_stepOther 443 = .ok (.iconst (-1), 1) := by decide +kernel
theorem dX12_stepOther_444 : decode cX12_stepOther 444 = .ok (.invokevirtual 885, 3) := by decide +kernel
theorem dX12_stepOther_447 : decode cX12_stepOther 447 = .ok (.aload_n 0, 1) := by decide +kernel
theorem dX12_stepOther_448 : decode cX12_stepOther 448 = .ok (.invokevirtual 888, 3) := by decide +kernel
theorem dX12_stepOther_451 : decode cX12_stepOther 451 = .ok (.goto 8, 3) := by decide +kernel
theorem dX12_stepOther_454 : decode cX12_stepOther 454 = .ok (.aload_n 0, 1) := by decide +kernel
theorem dX12_stepOther_455 : decode cX12_stepOther 455 = .ok (.iload_n 2, 1) := by decide +kernel
theorem dX12_stepOther_456 : decode cX12_stepOther 456 = .ok (.invokevirtual 960, 3) := by decide +kernel
theorem dX12_stepOther_459 : decode cX12_stepOther 459 = .ok (.return_, 1) := by decide +kernel

def q_stepOther (p1 : Int) (p2 : Int) (S : sv_S) : Option Value → sv_S → Prop := fun v S' => v = none ∧ sm_ok S' ∧ sv_mod [1092, 60, 58, 57, 63, 64, 1073, 1109, 1110, 65, 66, 61, 62] S S' ∧ (sm_PL (S' 1100020) (S' 51) (S' 52) (S' 46) (S' 47) (S' 1076 0) (S' 1086 0) ∧ sm_FR (S' 1100020) (S' 52) (S' 1100021) (S' 1100022) (3000 - (S' 1084 0)) (S' 1085 0) ∧ sm_PV (S' 1100020) (S' 48) (S' 49) (S' 50) (S' 44) (S' 1076 0) (S' 1007 0) ∧ sm_AL (S' 1100020) (S' 48) (S' 49) (S' 50) (S' 44) (S' 1076 0) (S' 1100032 0) ∧ sm_SV (S' 1100020) (S' 48) (S' 1100029) (S' 32) (S' 33) (S' 1076 0) (S' 1032 0) ∧ 0 ≤ (S' 1076 0) ∧ (S' 1076 0) ≤ 300 ∧ 0 ≤ (S' 1084 0) ∧ (S' 1084 0) ≤ 3000 ∧ 0 ≤ (S' 1086 0) ∧ sm_SC (S' 1100029) (S' 44) (S' 45) (S' 43) (S' 21) (S' 1076 0) (S' 1032 0) ∧ sm_PO (S' 42) (S' 1076 0) ∧ ((S' 1075 0) = 0 → (S' 1100032 0) = -1) ∧ 23 ≤ (S' 1076 0) ∧ 31 ≤ (S' 1007 0) ∧ (S' 1007 0) ≤ 400 ∧ sm_LN (S' 4) 400 ∧ (S' 1008 0) ≤ (S' 1007 0) ∧ ((S 1075 0) = 1 → (S' 1075 0) = 1) ∧ 0 ≤ (S' 1092 0) ∧ (S' 1092 0) ≤ 24 ∧ ((S' 1075 0) = 0 → (S' 1073 0) = 1 → 1 ≤ (S' 1092 0) ∧ (S' 1092 0) ≤ 24 ∧ 0 ≤ (S' 57 ((S' 1092 0) - 1)) ∧ (S' 57 ((S' 1092 0) - 1)) < (S' 1046 0) ∧ (S' 29 (S' 57 ((S' 1092 0) - 1))) = (S' 53 ((S' 1092 0) - 1)) ∧ 0 ≤ (S' 53 ((S' 1092 0) - 1)) ∧ (S' 53 ((S' 1092 0) - 1)) < (S' 1032 0) ∧ (S' 60 ((S' 1092 0) - 1)) = sm_dp (S' 1100024) (S' 1100023 (S' 57 ((S' 1092 0) - 1))) ∧ sm_TC (S' 61) (S' 62) (S' 27) (S' 1100007) (S' 1100023) (S' 1100024) (40 * ((S' 1092 0) - 1)) (S' 1100023 (S' 57 ((S' 1092 0) - 1))) ∧ sm_LK (S' 1100029) (S' 1076 0) (S' 54 ((S' 1092 0) - 1)) (S' 53 ((S' 1092 0) - 1)) ∧ sm_VO (S' 44) (S' 1076 0) (S' 1007 0) ((S' 55 ((S' 1092 0) - 1))) ((S' 56 ((S' 1092 0) - 1))) ∧ sm_FW (S' 44) (S' 1076 0) (S' 59 ((S' 1092 0) - 1)) ∧ sm_FL (S' 53) (S' 54) (S' 55) (S' 56) (S' 57) (S' 58) (S' 59) (S' 60) (S' 61) (S' 62) (S' 63) (S' 64) (S' 27) (S' 29) (S' 1100007) (S' 1100023) (S' 1100024) (S' 1100025) (S' 26) (S' 1100029) (S' 44) (S' 1046 0) (S' 1032 0) (S' 1076 0) (S' 1007 0) (((S' 1092 0) - 1)) ∧ (S' 58 ((S' 1092 0) - 1)) = (S' 1100007 (S' 57 ((S' 1092 0) - 1))) ∧ sm_SK (S' 63) (S' 64) (S' 44) (S' 1100007) (S' 1100025) (S' 1076 0) (S' 1007 0) (400 * ((S' 1092 0) - 1)) ((S' 58 ((S' 1092 0) - 1))) ((S' 1100025 (S' 57 ((S' 1092 0) - 1))))))
theorem la_stepOther_0 {x0 : Int} (h0 : 17 ≤ x0) : ¬ x0 < 17 := by omega
theorem la_stepOther_1 {x0 : Int} (h0 : 29 < x0) : ¬ x0 = 21 := by omega
theorem la_stepOther_2 {x0 : Int} (h0 : 29 < x0) : ¬ (x0 = 21 ∨ x0 = 27 ∨ x0 = 28) := by omega
theorem la_stepOther_3 {x0 : Int} (h0 : 29 < x0) : ¬ x0 = 27 := by omega
theorem la_stepOther_4 {x0 : Int} (h0 : 29 < x0) : ¬ x0 = 28 := by omega
theorem la_stepOther_5 {x0 x1 : Int} (h0 : x0 = x1) (h1 : x1 ≤ 30) (h2 : 29 < x0) : x1 = 30 := by omega
theorem la_stepOther_6 {x0 x1 : Int} (h0 : x0 = x1) (h1 : 0 ≤ x1) : 0 ≤ x0 := by omega
theorem la_stepOther_7 {x0 x1 x2 : Int} (h0 : x0 = x1) : 0 ≤ x2 → x0 ≤ x1 := by omega
theorem la_stepOther_8 {x0 x1 : Int} : 400 * (x0 - 1) + x1 - 1 - 0 = 400 * (x0 - 1) + x1 - 1 := by omega
theorem la_stepOther_9 {x0 x1 x2 x3 : Int} (h0 : x0 = x1) (h1 : x2 = x1) (h2 : x3 ≤ x0) (h3 : x3 = x2) : x3 = x0 := by omega
theorem la_stepOther_10 {x0 x1 x2 : Int} (h0 : x0 = x1) (h1 : x2 = x1 + 1) : x2 = x0 + 1 := by omega
theorem la_stepOther_11 {x0 x1 x2 : Int} (h0 : x0 = x1) (h1 : x2 = x1) : x2 = x0 := by omega
theorem la_stepOther_12 {x0 x1 x2 : Int} (h0 : x0 = x1) (h1 : x1 < x2) : x0 < x2 := by omega
theorem la_stepOther_13 {x0 x1 x2 : Int} (h0 : x0 = x1) (h1 : x2 = x0) : x2 = x1 := by omega
theorem la_stepOther_14 {x0 x1 x2 x3 : Int} (h0 : x0 = x1) (h1 : x2 = x1 - 1) (h2 : x3 = x2) : x3 = x0 - 1 := by omega
theorem la_stepOther_15 {x0 x1 x2 x3 : Int} (h0 : x0 = x1) (h1 : x2 = x1) (h2 : x3 = x0) : x3 = x2 := by omega
theorem la_stepOther_16 {x0 : Int} (h0 : x0 = 0) : ¬ x0 = 1 := by omega
theorem la_stepOther_17 {x0 : Int} (h0 : x0 = 17) : ¬ x0 = 21 := by omega
theorem la_stepOther_18 {x0 : Int} (h0 : x0 = 17) : ¬ (x0 = 21 ∨ x0 = 27 ∨ x0 = 28) := by omega
theorem la_stepOther_19 {x0 : Int} (h0 : x0 = 17) : ¬ x0 = 27 := by omega
theorem la_stepOther_20 {x0 : Int} (h0 : x0 = 17) : ¬ x0 = 28 := by omega
theorem la_stepOther_21 {x0 x1 : Int} (h0 : 17 ≤ x0) (h1 : x0 = x1) (h2 : x0 = 17) : x1 = 17 := by omega
theorem la_stepOther_22 {x0 x1 : Int} (h0 : 1 ≤ x0) (h1 : x0 ≤ 24) (h2 : x1 ≤ 396) (h3 : 1 ≤ x1) : 1 ≤ x0 ∧ x0 ≤ 24 ∧ 0 ≤ x1 ∧ x1 ≤ 400 ∧ (0 : Int) ≤ 1 ∧ 1 ≤ x1 := by omega
theorem la_stepOther_23 {x0 x1 x2 x3 : Int} (h0 : x0 ≤ 600) (h1 : 1 ≤ x1) (h2 : x1 ≤ 24) (h3 : 0 ≤ x2) (h4 : x3 = x2) (h5 : x2 + 1 < x0) : 1 ≤ x1 ∧ x1 ≤ 24 ∧ 0 ≤ x3 ∧ x3 ≤ 600 := by omega
theorem la_stepOther_24 {x0 x1 : Int} (h0 : x0 = (-1)) : x1 = 0 → x0 = (-1) := by omega
theorem la_stepOther_25 {x0 : Int} (h0 : x0 = 0) : x0 = 1 → x0 = 1 := by omega
theorem la_stepOther_26 {x0 : Int} (h0 : 1 ≤ x0) : 0 ≤ x0 := by omega
theorem la_stepOther_27 {x0 x1 x2 : Int} (h0 : 0 ≤ x0) (h1 : x1 = x0) (h2 : x2 = x1 + 1) : 0 ≤ x2 := by omega
theorem la_stepOther_28 {x0 x1 x2 x3 : Int} (h0 : x0 = x1) (h1 : x1 + 1 < x2) (h2 : x3 = x0 + 1) : x3 < x2 := by omega
theorem la_stepOther_29 {x0 : Int} : ¬ ¬ x0 - 1 = x0 - 1 := by omega
theorem la_stepOther_30 {x0 x1 x2 : Int} (h0 : x0 = x1) (h1 : x2 = x0 + 1) : x2 = x1 + 1 := by omega
theorem la_stepOther_31 {x0 x1 x2 x3 : Int} (h0 : x0 = x1) (h1 : x2 = x0) (h2 : x3 = x2) : x3 = x1 := by omega
theorem la_stepOther_32 {x0 x1 x2 : Int} (h0 : x0 = x1) (h1 : x2 = x1) : x0 = x2 := by omega
theorem la_stepOther_33 {x0 x1 x2 : Int} (h0 : x0 = x1) (h1 : x2 = x0) : x1 = x2 := by omega
theorem la_stepOther_34 {x0 x1 x2 x3 x4 : Int} (h0 : x0 = x1) (h1 : x2 = x1 - 1) (h2 : x3 = x0 - 1) (h3 : x4 = x2) : x3 = x4 := by omega
theorem la_stepOther_35 {x0 : Int} : x0 - 1 ≤ x0 - 1 := by omega
theorem la_stepOther_36 {x0 x1 : Int} (h0 : x0 = x1 - 1) : x0 = x1 - 1 - 1 + 1 := by omega
theorem la_stepOther_37 {x0 : Int} : x0 ≤ x0 := by omega
theorem la_stepOther_38 {x0 x1 : Int} (h0 : x0 = x1 - 1) : x0 ≤ x1 - 1 := by omega
theorem la_stepOther_39 {x0 : Int} (h0 : x0 = 18) : ¬ x0 = 21 := by omega
theorem la_stepOther_40 {x0 : Int} (h0 : x0 = 18) : ¬ (x0 = 21 ∨ x0 = 27 ∨ x0 = 28) := by omega
theorem la_stepOther_41 {x0 : Int} (h0 : x0 = 18) : ¬ x0 = 27 := by omega
theorem la_stepOther_42 {x0 : Int} (h0 : x0 = 18) : ¬ x0 = 28 := by omega
theorem la_stepOther_43 {x0 x1 : Int} (h0 : x0 = x1) (h1 : x0 = 18) : x1 = 18 := by omega
theorem la_stepOther_44 {x0 : Int} (h0 : 1 ≤ x0) : 0 ≤ x0 - 1 := by omega
theorem la_stepOther_45 {x0 : Int} : x0 - 1 < x0 := by omega
theorem la_stepOther_46 {x0 x1 : Int} (h0 : 1 ≤ x0) (h1 : x0 ≤ 24) (h2 : x1 ≤ 396) (h3 : 1 ≤ x1) : 1 ≤ x0 ∧ x0 ≤ 24 ∧ 0 ≤ x1 ∧ x1 ≤ 400 ∧ x1 < 400 := by omega
theorem la_stepOther_47 {x0 x1 : Int} : ¬ 400 * (x0 - 1) + (x1 - 1) = 400 * (x0 - 1) + x1 := by omega
theorem la_stepOther_48 {x0 x1 : Int} : ¬ 400 * (x0 - 1) + x1 - 1 - 0 = 400 * (x0 - 1) + x1 := by omega
theorem la_stepOther_49 {x0 x1 : Int} : ¬ ¬ 400 * (x0 - 1) + x1 = 400 * (x0 - 1) + x1 := by omega
theorem la_stepOther_50 {x0 x1 : Int} : 400 * (x0 - 1) + x1 - 1 - 0 = 400 * (x0 - 1) + (x1 - 1) := by omega
theorem la_stepOther_51 {x0 x1 : Int} (h0 : 1 ≤ x0) : 400 * (x1 - 1) ≤ 400 * (x1 - 1) + x0 := by omega
theorem la_stepOther_52 {x0 x1 x2 x3 x4 : Int} (h0 : x0 = x1) (h1 : x2 = x1 + 1) (h2 : x3 = x0 + 1) (h3 : x4 = x2) : x3 = x4 := by omega
theorem la_stepOther_53 {x0 x1 x2 x3 : Int} (h0 : x0 = x1) (h1 : x2 = x1) (h2 : x3 = x2) : x3 = x0 := by omega
theorem la_stepOther_54 {x0 x1 x2 x3 : Int} (h0 : x0 = x1) (h1 : x2 = x0) (h2 : x1 = x3) : x2 = x3 := by omega
theorem la_stepOther_55 {x0 x1 x2 x3 x4 x5 x6 x7 : Int} (h0 : 0 ≤ x0 → x1 = 29) (h1 : x2 = x3) (h2 : x0 = x4) (h3 : 0 ≤ x4 → x5 = 29 ∧ x6 ≤ x3) (h4 : x7 = x6) : 0 ≤ x0 → x1 = 29 ∧ x7 ≤ x2 := by omega
theorem la_stepOther_56 {x0 : Int} (h0 : x0 = 19) : ¬ x0 = 21 := by omega
theorem la_stepOther_57 {x0 : Int} (h0 : x0 = 19) : ¬ (x0 = 21 ∨ x0 = 27 ∨ x0 = 28) := by omega
theorem la_stepOther_58 {x0 : Int} (h0 : x0 = 19) : ¬ x0 = 27 := by omega
theorem la_stepOther_59 {x0 : Int} (h0 : x0 = 19) : ¬ x0 = 28 := by omega
theorem la_stepOther_60 {x0 x1 : Int} (h0 : x0 = x1) (h1 : x0 = 19) : x1 = 19 := by omega
theorem la_stepOther_61 {x0 x1 : Int} (h0 : x0 = x1) (h1 : 0 ≤ x1 - 2) : 0 ≤ x0 - 1 := by omega
theorem la_stepOther_62 {x0 x1 : Int} (h0 : x0 = x1) (h1 : 0 ≤ x1 - 2) : 0 ≤ x0 - 2 := by omega
theorem la_stepOther_63 {x0 : Int} : x0 - 2 < x0 := by omega
theorem la_stepOther_64 {x0 x1 x2 : Int} (h0 : 1 ≤ x0) (h1 : x0 ≤ 24) (h2 : x1 = x2) (h3 : x1 ≤ 396) (h4 : 0 ≤ x2 - 2) : 1 ≤ x0 ∧ x0 ≤ 24 ∧ 0 ≤ x1 ∧ x1 ≤ 400 ∧ (0 : Int) ≤ 1 ∧ 1 < x1 := by omega
theorem la_stepOther_65 {x0 x1 x2 : Int} (h0 : 1 ≤ x0) (h1 : x0 ≤ 24) (h2 : x1 = x2) (h3 : x1 ≤ 396) (h4 : 0 ≤ x2 - 2) : 1 ≤ x0 ∧ x0 ≤ 24 ∧ 0 ≤ x1 ∧ x1 ≤ 400 ∧ x1 < 400 := by omega
theorem la_stepOther_66 {x0 x1 x2 x3 : Int} (h0 : 1 ≤ x0) (h1 : x0 ≤ 24) (h2 : x1 = x2) (h3 : x1 ≤ 396) (h4 : 0 ≤ x2 - 2) (h5 : x3 = x1 + 1) : 1 ≤ x0 ∧ x0 ≤ 24 ∧ 0 ≤ x3 ∧ x3 ≤ 400 ∧ x3 < 400 := by omega
theorem la_stepOther_67 {x0 x1 : Int} : ¬ 400 * (x0 - 1) + x1 - 1 - 1 = 400 * (x0 - 1) + x1 := by omega
theorem la_stepOther_68 {x0 x1 : Int} : ¬ 400 * (x0 - 1) + (x1 - 2) = 400 * (x0 - 1) + x1 := by omega
theorem la_stepOther_69 {x0 x1 x2 : Int} (h0 : x0 = x1 + 1) : ¬ 400 * (x2 - 1) + x1 = 400 * (x2 - 1) + x0 := by omega
theorem la_stepOther_70 {x0 x1 x2 : Int} (h0 : x0 = x1 + 1) : ¬ 400 * (x2 - 1) + x1 - 1 - 1 = 400 * (x2 - 1) + x0 := by omega
theorem la_stepOther_71 {x0 x1 x2 : Int} (h0 : x0 = x1 + 1) : ¬ 400 * (x2 - 1) + (x1 - 2) = 400 * (x2 - 1) + x0 := by omega
theorem la_stepOther_72 {x0 x1 x2 : Int} (h0 : x0 = x1 + 1) : ¬ 400 * (x2 - 1) + (x1 - 1) = 400 * (x2 - 1) + x0 := by omega
theorem la_stepOther_73 {x0 x1 x2 : Int} (h0 : x0 = x1 + 1) : ¬ 400 * (x2 - 1) + x1 - 1 - 0 = 400 * (x2 - 1) + x0 := by omega
theorem la_stepOther_74 {x0 x1 : Int} : 400 * (x0 - 1) + x1 - 1 - 1 = 400 * (x0 - 1) + (x1 - 2) := by omega
theorem la_stepOther_75 {x0 x1 x2 x3 : Int} (h0 : x0 = x1) (h1 : 0 ≤ x1 - 2) (h2 : x2 = x0 + 1) : 400 * (x3 - 1) ≤ 400 * (x3 - 1) + x2 := by omega
theorem la_stepOther_76 {x0 x1 x2 : Int} (h0 : x0 = x1) (h1 : 0 ≤ x1 - 2) : 400 * (x2 - 1) ≤ 400 * (x2 - 1) + x0 := by omega
theorem la_stepOther_77 {x0 x1 x2 x3 x4 x5 : Int} (h0 : x0 = x1) (h1 : x2 = x1 + 2) (h2 : x3 = x0 + 1) (h3 : x4 = x3 + 1) (h4 : x5 = x2) : x4 = x5 := by omega
theorem la_stepOther_78 {x0 x1 x2 : Int} (h0 : x0 = x1 + 1) : 400 * (x2 - 1) + x1 ≤ 400 * (x2 - 1) + x0 := by omega
theorem la_stepOther_79 {x0 x1 x2 : Int} (h0 : x0 = x1 + 1) (h1 : x2 = x0 + 1) : x2 = x1 + 2 := by omega
theorem la_stepOther_80 {x0 x1 x2 x3 x4 : Int} (h0 : x0 = x1) (h1 : x2 = x1) (h2 : x3 = x2) (h3 : x0 = x4) : x3 = x4 := by omega
theorem la_stepOther_81 {x0 x1 x2 : Int} (h0 : x0 = x1 + 1) : 400 * (x2 - 1) + (x1 + 1) = 400 * (x2 - 1) + x0 := by omega
theorem la_stepOther_82 {x0 x1 x2 : Int} (h0 : x0 = x1) (h1 : x1 = x2) : x0 = x2 := by omega
theorem la_stepOther_83 {x0 x1 x2 : Int} (h0 : x0 = x1) (h1 : 0 ≤ x2) (h2 : x1 = x2) : 0 ≤ x0 := by omega
theorem la_stepOther_84 {x0 x1 x2 : Int} (h0 : x0 = x1) (h1 : x2 ≤ 7) (h2 : x1 = x2) : x0 ≤ 7 := by omega
theorem la_stepOther_85 {x0 x1 x2 x3 x4 x5 x6 x7 : Int} (h0 : 0 ≤ x0 → x1 = 29) (h1 : x2 = x3) (h2 : x0 = x4) (h3 : 0 ≤ x4 → x5 = 29 ∧ x6 ≤ x3) (h4 : x7 = x6) : 0 ≤ x0 → x1 = 29 ∧ x7 ≤ x2 + 1 := by omega
theorem la_stepOther_86 {x0 x1 x2 : Int} (h0 : x0 = x1 + 1) (h1 : x2 = x0 + 1) : x2 = x1 + 1 + 1 := by omega
theorem la_stepOther_87 {x0 : Int} (h0 : x0 = 20) : ¬ x0 = 21 := by omega
theorem la_stepOther_88 {x0 : Int} (h0 : x0 = 20) : ¬ (x0 = 21 ∨ x0 = 27 ∨ x0 = 28) := by omega
theorem la_stepOther_89 {x0 : Int} (h0 : x0 = 20) : ¬ x0 = 27 := by omega
theorem la_stepOther_90 {x0 : Int} (h0 : x0 = 20) : ¬ x0 = 28 := by omega
theorem la_stepOther_91 {x0 x1 : Int} (h0 : x0 = x1) (h1 : x0 = 20) : x1 = 20 := by omega
theorem la_stepOther_92 {x0 x1 : Int} (h0 : x0 = x1) (h1 : 0 ≤ x1 - 3) : 0 ≤ x0 - 1 := by omega
theorem la_stepOther_93 {x0 x1 : Int} (h0 : x0 = x1) (h1 : 0 ≤ x1 - 3) : 0 ≤ x0 - 2 := by omega
theorem la_stepOther_94 {x0 x1 : Int} (h0 : x0 = x1) (h1 : 0 ≤ x1 - 3) : 0 ≤ x0 - 3 := by omega
theorem la_stepOther_95 {x0 : Int} : x0 - 3 < x0 := by omega
theorem la_stepOther_96 {x0 x1 x2 : Int} (h0 : 1 ≤ x0) (h1 : x0 ≤ 24) (h2 : x1 = x2) (h3 : x1 ≤ 396) (h4 : 0 ≤ x2 - 3) : 1 ≤ x0 ∧ x0 ≤ 24 ∧ 0 ≤ x1 ∧ x1 ≤ 400 ∧ 3 ≤ x1 ∧ x1 < 400 := by omega
theorem la_stepOther_97 {x0 x1 : Int} : 400 * (x0 - 1) + x1 - 2 = 400 * (x0 - 1) + (x1 - 2) := by omega
theorem la_stepOther_98 {x0 x1 : Int} : 400 * (x0 - 1) + x1 - 3 = 400 * (x0 - 1) + (x1 - 3) := by omega
theorem la_stepOther_99 {x0 x1 x2 : Int} (h0 : x0 = x1) (h1 : 0 ≤ x1 - 3) : 400 * (x2 - 1) ≤ 400 * (x2 - 1) + x0 - 3 := by omega
theorem la_stepOther_100 {x0 x1 : Int} (h0 : x0 = x1 + 1) : x0 - 2 ≤ x1 := by omega
theorem la_stepOther_101 {x0 x1 : Int} (h0 : x0 = x1 + 1) : x0 - 3 ≤ x1 := by omega
theorem la_stepOther_102 {x0 x1 : Int} (h0 : x0 = x1 + 1) : x0 - 4 ≤ x1 := by omega
theorem la_stepOther_103 {x0 x1 x2 : Int} (h0 : x0 = x1 + 1) : 400 * (x2 - 1) + (x0 - 4) ≤ 400 * (x2 - 1) + x1 - 3 := by omega
theorem la_stepOther_104 {x0 x1 x2 : Int} (h0 : x0 = x1 + 1) : 400 * (x2 - 1) + (x0 - 4) = 400 * (x2 - 1) + x1 - 3 := by omega
theorem la_stepOther_105 {x0 x1 x2 x3 x4 x5 x6 x7 : Int} (h0 : 0 ≤ x0 → x1 = 29) (h1 : x2 = x3) (h2 : x0 = x4) (h3 : 0 ≤ x4 → x5 ≤ x3 - 3) (h4 : x6 = x2 + 1) (h5 : x7 = x5) : 0 ≤ x0 → x1 = 29 ∧ x7 ≤ x6 - 4 := by omega
theorem la_stepOther_106 {x0 x1 x2 : Int} (h0 : x0 = x1 + 1) : 400 * (x2 - 1) + (x0 - 4 + 1) = 400 * (x2 - 1) + x1 - 2 := by omega
theorem la_stepOther_107 {x0 x1 : Int} (h0 : 0 ≤ x0) (h1 : x1 = x0) : 0 ≤ x1 := by omega
theorem la_stepOther_108 {x0 x1 : Int} (h0 : x0 ≤ 7) (h1 : x1 = x0) : x1 ≤ 7 := by omega
theorem la_stepOther_109 {x0 x1 x2 x3 x4 x5 x6 x7 : Int} (h0 : 0 ≤ x0 → x1 = 29) (h1 : x2 = x3) (h2 : x0 = x4) (h3 : 0 ≤ x4 → x5 ≤ x3 - 3) (h4 : x6 = x2 + 1) (h5 : x7 = x5) : 0 ≤ x0 → x1 = 29 ∧ x7 ≤ x6 - 4 + 1 := by omega
theorem la_stepOther_110 {x0 x1 x2 : Int} (h0 : x0 = x1 + 1) : 400 * (x2 - 1) + (x0 - 4 + 1 + 1) = 400 * (x2 - 1) + x1 - 1 := by omega
theorem la_stepOther_111 {x0 x1 x2 x3 x4 x5 x6 x7 : Int} (h0 : 0 ≤ x0 → x1 = 29) (h1 : x2 = x3) (h2 : x0 = x4) (h3 : 0 ≤ x4 → x5 ≤ x3 - 3) (h4 : x6 = x2 + 1) (h5 : x7 = x5) : 0 ≤ x0 → x1 = 29 ∧ x7 ≤ x6 - 4 + 1 + 1 := by omega
theorem la_stepOther_112 {x0 x1 x2 : Int} (h0 : x0 = x1 + 1) : 400 * (x2 - 1) + (x0 - 4 + 1 + 1 + 1) = 400 * (x2 - 1) + x1 := by omega
theorem la_stepOther_113 {x0 x1 x2 x3 x4 x5 x6 x7 x8 : Int} (h0 : 0 ≤ x0 → x1 = 29) (h1 : x2 = x3) (h2 : x0 = x4) (h3 : 0 ≤ x4 → x5 = 29 ∧ x6 ≤ x3) (h4 : x7 = x2 + 1) (h5 : x8 = x6) : 0 ≤ x0 → x1 = 29 ∧ x8 ≤ x7 - 4 + 1 + 1 + 1 := by omega
theorem la_stepOther_114 {x0 : Int} : x0 = x0 - 4 + 1 + 1 + 1 + 1 := by omega
theorem la_stepOther_115 {x0 x1 : Int} (h0 : x0 = x1) (h1 : x0 = 21) : x1 = 21 := by omega
theorem la_stepOther_116 {x0 : Int} (h0 : 1 ≤ x0) (h1 : x0 ≤ 24) : 0 ≤ x0 - 1 ∧ x0 - 1 < 24 := by omega
theorem la_stepOther_117 {x0 : Int} : x0 - 1 = x0 - 1 := by omega
theorem la_stepOther_118 {x0 x1 x2 : Int} (h0 : x0 = x1) (h1 : 0 ≤ x1) (h2 : x2 = x0) : 0 ≤ x2 := by omega
theorem la_stepOther_119 {x0 x1 x2 x3 : Int} (h0 : x0 = x1) (h1 : x1 < x2) (h2 : x3 = x0) : x3 < x2 := by omega
theorem la_stepOther_120 {x0 x1 x2 x3 : Int} (h0 : x0 = x1) (h1 : x2 = x1) (h2 : x3 = x2) : x0 = x3 := by omega
theorem la_stepOther_121 {x0 : Int} : x0 = x0 - 1 + 1 := by omega
theorem la_stepOther_122 {x0 : Int} (h0 : x0 = 22) : ¬ x0 = 21 := by omega
theorem la_stepOther_123 {x0 : Int} (h0 : x0 = 22) : ¬ (x0 = 21 ∨ x0 = 27 ∨ x0 = 28) := by omega
theorem la_stepOther_124 {x0 : Int} (h0 : x0 = 22) : ¬ x0 = 27 := by omega
theorem la_stepOther_125 {x0 : Int} (h0 : x0 = 22) : ¬ x0 = 28 := by omega
theorem la_stepOther_126 {x0 x1 : Int} (h0 : x0 = x1) (h1 : x0 = 22) : x1 = 22 := by omega
theorem la_stepOther_127 {x0 x1 x2 : Int} (h0 : x0 = x1) (h1 : x0 = 6) (h2 : x1 = x2) : x2 = 6 := by omega
theorem la_stepOther_128 {x0 x1 x2 : Int} (h0 : x0 = x1) (h1 : x0 = 6) (h2 : x1 = x2) : ¬ x2 = 7 := by omega
theorem la_stepOther_129 {x0 x1 x2 : Int} (h0 : x0 = x1) (h1 : x1 = x2) (h2 : 0 ≤ x2) : 0 ≤ x0 := by omega
theorem la_stepOther_130 {x0 x1 x2 x3 : Int} (h0 : x0 ≤ 400) (h1 : x1 = x2) (h2 : x2 = x3) (h3 : x3 < x0) : x1 < 400 := by omega
theorem la_stepOther_131 {x0 x1 : Int} (h0 : x0 = x1 - 1) : x0 ≤ x1 := by omega
theorem la_stepOther_132 {x0 : Int} (h0 : x0 = 1) : 0 ≤ x0 := by omega
theorem la_stepOther_133 {x0 : Int} (h0 : 0 ≤ x0) (h1 : ¬ x0 = 0) : 0 < x0 := by omega
theorem la_stepOther_134 {x0 x1 x2 : Int} (h0 : x0 ≤ 600) (h1 : 0 ≤ x1) (h2 : x2 = x1) (h3 : x1 + 1 < x0) : sv_R (x2 + 1) := by omega
theorem la_stepOther_135 {x0 x1 : Int} (h0 : x0 = x1) (h1 : 0 ≤ x1 - 1) : 0 ≤ x0 - 1 := by omega
theorem la_stepOther_136 {x0 : Int} (h0 : x0 = 24) : 23 ≤ x0 := by omega
theorem la_stepOther_137 {x0 : Int} (h0 : 23 ≤ x0) (h1 : ¬ x0 = 23) : 23 < x0 := by omega
theorem la_stepOther_138 {x0 : Int} (h0 : x0 = 24) : ¬ x0 = 21 := by omega
theorem la_stepOther_139 {x0 : Int} (h0 : x0 = 24) : ¬ x0 = 27 := by omega
theorem la_stepOther_140 {x0 : Int} (h0 : x0 = 24) : ¬ x0 = 28 := by omega
theorem la_stepOther_141 {x0 : Int} (h0 : ¬ ¬ x0 = 0) : ¬ x0 = 1 := by omega
theorem la_stepOther_142 {x0 : Int} (h0 : ¬ ¬ x0 = 23) : ¬ x0 = 21 := by omega
theorem la_stepOther_143 {x0 : Int} (h0 : ¬ ¬ x0 = 23) : ¬ x0 = 24 := by omega
theorem la_stepOther_144 {x0 : Int} (h0 : ¬ ¬ x0 = 23) : ¬ x0 = 27 := by omega
theorem la_stepOther_145 {x0 : Int} (h0 : ¬ ¬ x0 = 23) : ¬ x0 = 28 := by omega
theorem la_stepOther_146 {x0 : Int} (h0 : x0 = 0) : x0 ≤ 1 := by omega
theorem la_stepOther_147 {x0 : Int} (h0 : x0 ≤ 1) (h1 : ¬ x0 = 1) : x0 < 1 := by omega
theorem la_stepOther_148 {x0 : Int} (h0 : ¬ ¬ x0 = 1) : ¬ x0 = 0 := by omega
theorem la_stepOther_149 {x0 : Int} (h0 : x0 = 25) : ¬ x0 = 21 := by omega
theorem la_stepOther_150 {x0 : Int} (h0 : x0 = 25) : ¬ (x0 = 21 ∨ x0 = 27 ∨ x0 = 28) := by omega
theorem la_stepOther_151 {x0 : Int} (h0 : x0 = 25) : ¬ x0 = 27 := by omega
theorem la_stepOther_152 {x0 : Int} (h0 : x0 = 25) : ¬ x0 = 28 := by omega
theorem la_stepOther_153 {x0 x1 : Int} (h0 : x0 = x1) (h1 : x0 = 25) : x1 = 25 ∨ x1 = 26 := by omega
theorem la_stepOther_154 {x0 : Int} (h0 : x0 = 1) : ¬ x0 = 2 := by omega
theorem la_stepOther_155 {x0 : Int} (h0 : x0 = 26) : ¬ x0 = 21 := by omega
theorem la_stepOther_156 {x0 : Int} (h0 : x0 = 26) : ¬ (x0 = 21 ∨ x0 = 27 ∨ x0 = 28) := by omega
theorem la_stepOther_157 {x0 : Int} (h0 : x0 = 26) : ¬ x0 = 27 := by omega
theorem la_stepOther_158 {x0 : Int} (h0 : x0 = 26) : ¬ x0 = 28 := by omega
theorem la_stepOther_159 {x0 x1 : Int} (h0 : x0 = x1) (h1 : x0 = 26) : x1 = 25 ∨ x1 = 26 := by omega
theorem la_stepOther_160 {x0 x1 x2 : Int} (h0 : x0 < x1) (h1 : x2 = x0) : x2 < x1 := by omega
theorem la_stepOther_161 {x0 x1 : Int} (h0 : x0 = x1) : x1 = x0 := by omega
theorem la_stepOther_162 {x0 x1 : Int} (h0 : 0 ≤ x0) (h1 : x0 = x1) : 0 ≤ x1 := by omega
theorem la_stepOther_163 {x0 x1 x2 x3 : Int} (h0 : x0 = x1) (h1 : x2 ≤ x1 - 1) (h2 : x3 = x2) : x3 ≤ x0 := by omega
theorem la_stepOther_164 {x0 x1 : Int} (h0 : x0 ≤ 24) (h1 : x1 ≤ x0) : x1 ≤ 24 := by omega
theorem la_stepOther_165 {x0 : Int} (h0 : x0 = 1) : ¬ x0 = 3 := by omega
theorem la_stepOther_166 {x0 : Int} (h0 : x0 = 27) : ¬ x0 = 21 := by omega
theorem la_stepOther_167 {x0 x1 : Int} (h0 : x0 = x1) (h1 : x0 = 27) : x1 = 27 := by omega
theorem la_stepOther_168 {x0 x1 x2 x3 : Int} (h0 : 1 ≤ x0) (h1 : x0 ≤ 24) (h2 : x1 = x2) (h3 : x3 < 40) (h4 : x3 = x2) (h5 : 0 ≤ x3) : 0 ≤ 40 * (x0 - 1) + x1 ∧ 40 * (x0 - 1) + x1 < 960 := by omega
theorem la_stepOther_169 {x0 x1 : Int} (h0 : (-1) ≤ x0) (h1 : x0 < x1) : (-1) ≤ x0 ∧ x0 < x1 := by omega
theorem la_stepOther_170 {x0 x1 x2 x3 : Int} (h0 : x0 = x1) (h1 : x2 = x1) : 40 * (x3 - 1) + x0 = 40 * (x3 - 1) + x2 := by omega
theorem la_stepOther_171 {x0 x1 x2 : Int} (h0 : x0 = x1) (h1 : x2 < 40) (h2 : x2 = x1) (h3 : 0 ≤ x2) : sv_R (x0 + 1) := by omega
theorem la_stepOther_172 {x0 x1 x2 x3 x4 x5 : Int} (h0 : x0 = x1) (h1 : x2 = x1) (h2 : x3 = x2 + 1) (h3 : x4 = x0 + 1) (h4 : x3 = x5) : x4 = x5 := by omega
theorem la_stepOther_173 {x0 x1 x2 x3 : Int} (h0 : x0 = x1) (h1 : x2 = x1) (h2 : 0 ≤ x2) : 40 * (x3 - 1) ≤ 40 * (x3 - 1) + x0 := by omega
theorem la_stepOther_174 {x0 : Int} (h0 : x0 = 28) : ¬ x0 = 21 := by omega
theorem la_stepOther_175 {x0 : Int} (h0 : x0 = 28) : ¬ x0 = 27 := by omega
theorem la_stepOther_176 {x0 x1 : Int} (h0 : x0 = x1) (h1 : x0 = 28) : x1 = 28 := by omega
theorem la_stepOther_177 {x0 x1 x2 : Int} (h0 : x0 < x1) (h1 : x1 + 1 < x2) : x0 < x2 := by omega
theorem la_stepOther_178 {x0 x1 x2 : Int} (h0 : x0 = x1) (h1 : 0 ≤ x2) (h2 : x2 < 40) (h3 : x1 = x2 + 1) : sv_R (x0 - 1) := by omega
theorem la_stepOther_179 {x0 x1 x2 x3 x4 : Int} (h0 : x0 ≤ 600) (h1 : 1 ≤ x1) (h2 : x1 ≤ 24) (h3 : x2 = x3) (h4 : x4 < x3) (h5 : 0 ≤ x4) (h6 : x3 + 1 < x0) : 1 ≤ x1 ∧ x1 ≤ 24 ∧ 0 ≤ x2 ∧ x2 ≤ 600 := by omega
theorem la_stepOther_180 {x0 x1 x2 x3 x4 x5 : Int} (h0 : x0 = x1) (h1 : x1 = x2 + 1) (h2 : x2 = x3) (h3 : x4 = x0 - 1) (h4 : x5 = x3) : x4 = x5 := by omega
theorem la_stepOther_181 {x0 : Int} (h0 : x0 = 29) : ¬ x0 = 21 := by omega
theorem la_stepOther_182 {x0 : Int} (h0 : x0 = 29) : ¬ (x0 = 21 ∨ x0 = 27 ∨ x0 = 28) := by omega
theorem la_stepOther_183 {x0 : Int} (h0 : x0 = 29) : ¬ x0 = 27 := by omega
theorem la_stepOther_184 {x0 : Int} (h0 : x0 = 29) : ¬ x0 = 28 := by omega
theorem la_stepOther_185 {x0 x1 : Int} (h0 : x0 = x1) (h1 : x0 = 29) : x1 = 29 := by omega
theorem la_stepOther_186 {x0 x1 x2 : Int} (h0 : 1 ≤ x0) (h1 : x0 ≤ 24) (h2 : x1 ≤ 396) (h3 : 1 ≤ x1) (h4 : x2 = x1 - 1) : 1 ≤ x0 ∧ x0 ≤ 24 ∧ 0 ≤ x2 ∧ x2 ≤ 400 := by omega
theorem la_stepOther_187 {x0 x1 x2 : Int} (h0 : 1 ≤ x0) (h1 : x0 ≤ 24) (h2 : x1 ≤ 396) (h3 : 1 ≤ x1) (h4 : x2 = x1 - 1) : 0 ≤ 400 * (x0 - 1) + x2 ∧ 400 * (x0 - 1) + x2 < 9600 := by omega
theorem la_stepOther_188 {x0 x1 x2 : Int} (h0 : 1 ≤ x0) (h1 : x0 ≤ 24) (h2 : x1 ≤ 396) (h3 : 1 ≤ x1) (h4 : x2 = x1 - 1) : 1 ≤ x0 ∧ x0 ≤ 24 ∧ 0 ≤ x2 ∧ x2 ≤ 400 ∧ x2 < 400 := by omega
theorem la_stepOther_189 {x0 x1 x2 : Int} (h0 : x0 = x1 - 1) : ¬ ¬ 400 * (x2 - 1) + (x1 - 1) = 400 * (x2 - 1) + x0 := by omega
theorem la_stepOther_190 {x0 x1 x2 : Int} (h0 : x0 = x1 - 1) : ¬ ¬ 400 * (x2 - 1) + x1 - 1 - 0 = 400 * (x2 - 1) + x0 := by omega
theorem la_stepOther_191 {x0 : Int} (h0 : x0 ≤ 7) (h1 : ¬ x0 = 7) : x0 < 7 := by omega
theorem la_stepOther_192 {x0 x1 x2 : Int} (h0 : x0 = x1) (h1 : x1 = x2) (h2 : x0 < 7) : ¬ x2 = 7 := by omega
theorem la_stepOther_193 {x0 x1 x2 : Int} (h0 : 1 ≤ x0) (h1 : x1 = x0 - 1) : 400 * (x2 - 1) ≤ 400 * (x2 - 1) + x1 := by omega
theorem la_stepOther_194 {x0 x1 x2 x3 x4 x5 : Int} (h0 : x0 = x1) (h1 : x2 = x1) (h2 : x3 = x0 - 1) (h3 : x4 = x3 + 1) (h4 : x5 = x2) : x4 = x5 := by omega
theorem la_stepOther_195 {x0 x1 x2 : Int} (h0 : x0 = x1 - 1) (h1 : x2 = x0 + 1) : x2 = x1 - 1 + 1 := by omega
theorem la_stepOther_196 {x0 : Int} : x0 - 1 ≤ x0 := by omega
theorem la_stepOther_197 {x0 x1 x2 : Int} (h0 : x0 = x1 - 1) : 400 * (x2 - 1) + (x1 - 1) ≤ 400 * (x2 - 1) + x0 := by omega
theorem la_stepOther_198 {x0 x1 x2 : Int} (h0 : x0 = x1 - 1) : 400 * (x2 - 1) + (x1 - 1) = 400 * (x2 - 1) + x0 := by omega
theorem la_stepOther_199 : (8 : Int) = 8 := by omega
theorem la_stepOther_200 {x0 : Int} (h0 : 23 ≤ x0) : ((-1) : Int) ≤ (-1) ∧ (-1) < x0 := by omega
theorem la_stepOther_201 {x0 x1 : Int} (h0 : x0 = x1) : x1 = x0 - 1 + 1 := by omega
theorem la_stepOther_202 {x0 x1 x2 : Int} (h0 : x0 = x1) (h1 : ¬ ¬ x0 = 7) (h2 : x1 = x2) : ¬ x2 = 6 := by omega
theorem la_stepOther_203 {x0 x1 x2 : Int} (h0 : x0 = x1) (h1 : x2 ≤ 7) (h2 : ¬ ¬ x0 = 7) (h3 : x1 = x2) : x2 = 7 := by omega
theorem la_stepOther_204 {x0 x1 x2 x3 : Int} (h0 : x0 = x1) (h1 : x1 = x2) (h2 : 0 ≤ x2) (h3 : x2 < x3) : (-1) ≤ x0 ∧ x0 < x3 := by omega
theorem la_stepOther_205 {x0 x1 : Int} : x0 = 21 → (x0 = 21 ∨ x0 = 27 ∨ x0 = 28) ∨ 0 = x1 := by omega
theorem la_stepOther_206 {x0 x1 : Int} : x0 = 27 → (x0 = 21 ∨ x0 = 27 ∨ x0 = 28) ∨ 0 = x1 := by omega
theorem la_stepOther_207 {x0 x1 x2 x3 : Int} (h0 : 1 ≤ x0) (h1 : x0 ≤ 24) (h2 : 0 ≤ x1) (h3 : x1 ≤ 396) (h4 : ¬ x2 = 27) (h5 : x2 = 28 ∨ 1 ≤ x1) : ¬ x2 = 28 → (1 ≤ x0 ∧ x0 ≤ 24 ∧ 0 ≤ x1 ∧ x1 ≤ 400 ∧ (0 : Int) ≤ 0 ∧ 0 < x1) ∧ ((x2 = 21 ∨ x2 = 27 ∨ x2 = 28) ∨ x3 = x3) := by omega
theorem la_stepOther_208 {x0 : Int} (h0 : ¬ ¬ x0 = 28) : 21 ≤ x0 := by omega
theorem la_stepOther_209 {x0 : Int} (h0 : 21 ≤ x0) (h1 : ¬ x0 = 21) : 21 < x0 := by omega
theorem la_stepOther_210 {x0 : Int} (h0 : ¬ ¬ x0 = 28) : 27 ≤ x0 := by omega
theorem la_stepOther_211 {x0 : Int} (h0 : 27 ≤ x0) (h1 : ¬ x0 = 27) : 27 < x0 := by omega
theorem la_stepOther_212 {x0 : Int} (h0 : ¬ ¬ x0 = 28) : x0 = 28 := by omega
theorem la_stepOther_213 {x0 x1 : Int} (h0 : ¬ ¬ x0 = 28) : (x0 = 21 ∨ x0 = 27 ∨ x0 = 28) ∨ 0 = x1 := by omega
set_option maxHeartbeats 8000000 in
theorem f_stepOther : ∀ (p1 : Int) (p2 : Int) (S : sv_S), sm_ok S → sv_R p1 → sv_R p2 → ((S 1075 0) = 0 ∧ (S 1073 0) = 1 ∧ sm_PL (S 1100020) (S 51) (S 52) (S 46) (S 47) (S 1076 0) (S 1086 0) ∧ sm_FR (S 1100020) (S 52) (S 1100021) (S 1100022) (3000 - (S 1084 0)) (S 1085 0) ∧ sm_PV (S 1100020) (S 48) (S 49) (S 50) (S 44) (S 1076 0) (S 1007 0) ∧ sm_AL (S 1100020) (S 48) (S 49) (S 50) (S 44) (S 1076 0) (S 1100032 0) ∧ sm_SV (S 1100020) (S 48) (S 1100029) (S 32) (S 33) (S 1076 0) (S 1032 0) ∧ 0 ≤ (S 1076 0) ∧ (S 1076 0) ≤ 300 ∧ 0 ≤ (S 1084 0) ∧ (S 1084 0) ≤ 3000 ∧ 0 ≤ (S 1086 0) ∧ sm_SC (S 1100029) (S 44) (S 45) (S 43) (S 21) (S 1076 0) (S 1032 0) ∧ sm_PO (S 42) (S 1076 0) ∧ (S 1100032 0) = -1 ∧ 23 ≤ (S 1076 0) ∧ 31 ≤ (S 1007 0) ∧ (S 1007 0) ≤ 400 ∧ sm_LN (S 4) 400 ∧ sm_CT (S 26) (S 27) (S 28) (S 29) (S 1100007) (S 1100023) (S 1100024) (S 1100025) (S 21) (S 1046 0) (S 1032 0) (S 1008 0) (S 1055 0) ∧ sm_LS (S 26) (S 1100007) (S 1100025) (S 1046 0) ∧ sm_CL (S 1100007) (S 1100023) (S 1100025) (S 1046 0) ∧ 1 ≤ (S 1032 0) ∧ (S 1032 0) ≤ 11 ∧ 0 ≤ (S 1046 0) ∧ (S 1046 0) ≤ 600 ∧ 31 ≤ (S 1008 0) ∧ (S 1008 0) ≤ (S 1007 0) ∧ 0 ≤ (S 1055 0) ∧ (S 1055 0) ≤ 19 ∧ 1 ≤ (S 1092 0) ∧ (S 1092 0) ≤ 24 ∧ 0 ≤ (S 1100033 0) ∧ (S 1100033 0) < (S 1046 0) ∧ (S 29 (S 1100033 0)) = (S 53 ((S 1092 0) - 1)) ∧ 0 ≤ (S 53 ((S 1092 0) - 1)) ∧ (S 53 ((S 1092 0) - 1)) < (S 1032 0) ∧ (S 60 ((S 1092 0) - 1)) = sm_dp (S 1100024) (S 1100023 (S 1100033 0)) ∧ sm_TC (S 61) (S 62) (S 27) (S 1100007) (S 1100023) (S 1100024) (40 * ((S 1092 0) - 1)) (S 1100023 (S 1100033 0)) ∧ sm_LK (S 1100029) (S 1076 0) (S 54 ((S 1092 0) - 1)) (S 53 ((S 1092 0) - 1)) ∧ sm_VO (S 44) (S 1076 0) (S 1007 0) ((S 55 ((S 1092 0) - 1))) ((S 56 ((S 1092 0) - 1))) ∧ sm_FW (S 44) (S 1076 0) (S 59 ((S 1092 0) - 1)) ∧ sm_FL (S 53) (S 54) (S 55) (S 56) (S 57) (S 58) (S 59) (S 60) (S 61) (S 62) (S 63) (S 64) (S 27) (S 29) (S 1100007) (S 1100023) (S 1100024) (S 1100025) (S 26) (S 1100029) (S 44) (S 1046 0) (S 1032 0) (S 1076 0) (S 1007 0) (((S 1092 0) - 1)) ∧ (S 57 ((S 1092 0) - 1)) = (S 1100033 0) ∧ 0 ≤ (S 58 ((S 1092 0) - 1)) ∧ (S 58 ((S 1092 0) - 1)) ≤ 400 ∧ sm_SK (S 63) (S 64) (S 44) (S 1100007) (S 1100025) (S 1076 0) (S 1007 0) (400 * ((S 1092 0) - 1)) ((S 58 ((S 1092 0) - 1))) ((S 1100034 0)) ∧ -1 ≤ (S 1100034 0) ∧ (S 1100034 0) < (S 1046 0) ∧ (0 ≤ (S 1100034 0) → (S 26 (S 1100034 0)) = 29) ∧ (S 58 ((S 1092 0) - 1)) = (S 1100007 (S 1100033 0)) ∧ (S 1100034 0) = (S 1100025 (S 1100033 0)) ∧ (0 ≤ (S 1100023 (S 1100033 0)) → (S 1100007 (S 1100023 (S 1100033 0))) ≤ (S 58 ((S 1092 0) - 1))) ∧ (S 58 ((S 1092 0) - 1)) ≤ 396 ∧ 17 ≤ p1 ∧ p1 ≤ 30 ∧ p1 = (S 26 (S 1100033 0)) ∧ p2 = (S 27 (S 1100033 0)) ∧ (p1 = 21 ∨ p1 = 27 ∨ p1 = 28 ∨ 1 ≤ (S 58 ((S 1092 0) - 1)))) → ((sm_CT (S 26) (S 27) (S 28) (S 29) (S 1100007) (S 1100023) (S 1100024) (S 1100025) (S 21) (S 1046 0) (S 1032 0) (S 1008 0) (S 1055 0) → 0 ≤ (S 1100033 0) → (S 1100033 0) < (S 1046 0) → (0 ≤ (S 1100025 (S 1100033 0)) → (S 26 (S 1100025 (S 1100033 0))) = 29 ∧ (S 1100007 (S 1100025 (S 1100033 0))) ≤ (S 1100007 (S 1100033 0))) ∧ (0 ≤ (S 1100007 (S 1100033 0)) ∧ (S 1100007 (S 1100033 0)) ≤ 396 ∧ -1 ≤ (S 1100023 (S 1100033 0)) ∧ (S 1100023 (S 1100033 0)) < (S 1100033 0) ∧ -1 ≤ (S 1100025 (S 1100033 0)) ∧ (S 1100025 (S 1100033 0)) < (S 1100033 0) ∧ 0 ≤ (S 26 (S 1100033 0)) ∧ (S 26 (S 1100033 0)) ≤ 30)) → (((S 1100034 0) = (S 1100025 (S 1100033 0)) → (S 58 ((S 1092 0) - 1)) = (S 1100007 (S 1100033 0)) → (0 ≤ (S 1100025 (S 1100033 0)) → (S 1100007 (S 1100025 (S 1100033 0))) ≤ (S 1100007 (S 1100033 0))) → (0 ≤ (S 1100034 0) → (S 1100007 (S 1100034 0)) ≤ (S 58 ((S 1092 0) - 1)))) → ((∀ s3 : Int, sv_R s3 → ((p1 = 21 ∨ p1 = 27 ∨ p1 = 28) ∨ s3 = (S 63 ((400 * ((S 1092 0) - 1) + (S 58 ((S 1092 0) - 1))) - 1 - 0))) → ((∀ s5 : Int, sv_R s5 → ((p1 = 21 ∨ p1 = 27 ∨ p1 = 28) ∨ s5 = (S 64 ((400 * ((S 1092 0) - 1) + (S 58 ((S 1092 0) - 1))) - 1 - 0))) → (sv_R (S 1092 0) → (((p1 < (17 : Int) ∨ (29 : Int) < p1) → ((sm_CT (S 26) (S 27) (S 28) (S 29) (S 1100007) (S 1100023) (S 1100024) (S 1100025) (S 21) (S 1046 0) (S 1032 0) (S 1008 0) (S 1055 0) → 0 ≤ (S 1100033 0) → (S 1100033 0) < (S 1046 0) → ((S 26 (S 1100033 0)) = 30 → 0 ≤ (S 1100025 (S 1100033 0)) ∧ (S 1100007 ((S 1100025 (S 1100033 0)))) = (S 1100007 (S 1100033 0)) ∧ 1 ≤ (S 1100007 (S 1100033 0)) ∧ (0 ≤ (S 1100023 (S 1100033 0)) → (S 1100007 ((S 1100023 (S 1100033 0)))) ≤ (S 1100007 (S 1100033 0)) - 1) ∧ (0 ≤ ((S 1100033 0) + 1) ∧ ((S 1100033 0) + 1) < (S 1046 0) ∧ (S 29 ((S 1100033 0) + 1)) = ((S 29 (S 1100033 0))) ∧ (S 1100007 ((S 1100033 0) + 1)) = ((S 1100007 (S 1100033 0)) + 1) ∧ (S 1100023 ((S 1100033 0) + 1)) = ((S 1100023 (S 1100033 0))) ∧ (S 1100025 ((S 1100033 0) + 1)) = ((S 1100025 (S 1100033 0)))) ∧ (0 ≤ ((S 27 (S 1100033 0))) ∧ ((S 27 (S 1100033 0))) < (S 1046 0) ∧ (S 29 ((S 27 (S 1100033 0)))) = ((S 29 (S 1100033 0))) ∧ (S 1100007 ((S 27 (S 1100033 0)))) = ((S 1100007 (S 1100033 0)) - 1) ∧ (S 1100023 ((S 27 (S 1100033 0)))) = ((S 1100023 (S 1100033 0))) ∧ (S 1100025 ((S 27 (S 1100033 0)))) = ((S 1100025 ((S 1100025 (S 1100033 0)))))))) → ((sm_SK (S 63) (S 64) (S 44) (S 1100007) (S 1100025) (S 1076 0) (S 1007 0) (400 * ((S 1092 0) - 1)) ((S 58 ((S 1092 0) - 1))) ((S 1100034 0)) → sm_LS (S 26) (S 1100007) (S 1100025) (S 1046 0) → 0 ≤ (S 1100034 0) → (S 1100034 0) < (S 1046 0) → (S 26 (S 1100034 0)) = 29 → (S 1100007 (S 1100034 0)) = (S 58 ((S 1092 0) - 1)) → (S 63 (400 * ((S 1092 0) - 1) + (S 58 ((S 1092 0) - 1)) - 1)) = 8 ∧ -1 ≤ (S 64 (400 * ((S 1092 0) - 1) + (S 58 ((S 1092 0) - 1)) - 1)) ∧ (S 64 (400 * ((S 1092 0) - 1) + (S 58 ((S 1092 0) - 1)) - 1)) < (S 1076 0)) → ((sm_CT (S 26) (S 27) (S 28) (S 29) (S 1100007) (S 1100023) (S 1100024) (S 1100025) (S 21) (S 1046 0) (S 1032 0) (S 1008 0) (S 1055 0) → 0 ≤ (S 1100033 0) → (S 1100033 0) < (S 1046 0) → (0 ≤ (S 1100025 (S 1100033 0)) → (S 26 ((S 1100025 (S 1100033 0)))) = 29 ∧ (S 29 ((S 1100025 (S 1100033 0)))) = (S 29 (S 1100033 0)) ∧ (S 1100007 ((S 1100025 (S 1100033 0)))) ≤ (S 1100007 (S 1100033 0)) ∧ 1 ≤ (S 1100007 ((S 1100025 (S 1100033 0)))))) → ((S 1075 0) = 0 ∧ (S 1073 0) = 1 ∧ sm_PL (S 1100020) (S 51) (S 52) (S 46) (S 47) (S 1076 0) (S 1086 0) ∧ sm_FR (S 1100020) (S 52) (S 1100021) (S 1100022) (3000 - (S 1084 0)) (S 1085 0) ∧ sm_PV (S 1100020) (S 48) (S 49) (S 50) (S 44) (S 1076 0) (S 1007 0) ∧ sm_AL (S 1100020) (S 48) (S 49) (S 50) (S 44) (S 1076 0) (S 1100032 0) ∧ sm_SV (S 1100020) (S 48) (S 1100029) (S 32) (S 33) (S 1076 0) (S 1032 0) ∧ 0 ≤ (S 1076 0) ∧ (S 1076 0) ≤ 300 ∧ 0 ≤ (S 1084 0) ∧ (S 1084 0) ≤ 3000 ∧ 0 ≤ (S 1086 0) ∧ sm_SC (S 1100029) (S 44) (S 45) (S 43) (S 21) (S 1076 0) (S 1032 0) ∧ sm_PO (S 42) (S 1076 0) ∧ (S 1100032 0) = -1 ∧ 23 ≤ (S 1076 0) ∧ 31 ≤ (S 1007 0) ∧ (S 1007 0) ≤ 400 ∧ sm_LN (S 4) 400 ∧ sm_CT (S 26) (S 27) (S 28) (S 29) (S 1100007) (S 1100023) (S 1100024) (S 1100025) (S 21) (S 1046 0) (S 1032 0) (S 1008 0) (S 1055 0) ∧ sm_LS (S 26) (S 1100007) (S 1100025) (S 1046 0) ∧ sm_CL (S 1100007) (S 1100023) (S 1100025) (S 1046 0) ∧ 1 ≤ (S 1032 0) ∧ (S 1032 0) ≤ 11 ∧ 0 ≤ (S 1046 0) ∧ (S 1046 0) ≤ 600 ∧ 31 ≤ (S 1008 0) ∧ (S 1008 0) ≤ (S 1007 0) ∧ 0 ≤ (S 1055 0) ∧ (S 1055 0) ≤ 19 ∧ 1 ≤ (S 1092 0) ∧ (S 1092 0) ≤ 24 ∧ 0 ≤ (S 1100033 0) ∧ (S 1100033 0) < (S 1046 0) ∧ (S 29 (S 1100033 0)) = (S 53 ((S 1092 0) - 1)) ∧ 0 ≤ (S 53 ((S 1092 0) - 1)) ∧ (S 53 ((S 1092 0) - 1)) < (S 1032 0) ∧ (S 60 ((S 1092 0) - 1)) = sm_dp (S 1100024) (S 1100023 (S 1100033 0)) ∧ sm_TC (S 61) (S 62) (S 27) (S 1100007) (S 1100023) (S 1100024) (40 * ((S 1092 0) - 1)) (S 1100023 (S 1100033 0)) ∧ sm_LK (S 1100029) (S 1076 0) (S 54 ((S 1092 0) - 1)) (S 53 ((S 1092 0) - 1)) ∧ sm_VO (S 44) (S 1076 0) (S 1007 0) ((S 55 ((S 1092 0) - 1))) ((S 56 ((S 1092 0) - 1))) ∧ sm_FW (S 44) (S 1076 0) (S 59 ((S 1092 0) - 1)) ∧ sm_FL (S 53) (S 54) (S 55) (S 56) (S 57) (S 58) (S 59) (S 60) (S 61) (S 62) (S 63) (S 64) (S 27) (S 29) (S 1100007) (S 1100023) (S 1100024) (S 1100025) (S 26) (S 1100029) (S 44) (S 1046 0) (S 1032 0) (S 1076 0) (S 1007 0) (((S 1092 0) - 1)) ∧ (S 57 ((S 1092 0) - 1)) = (S 1100033 0) ∧ 0 ≤ (S 58 ((S 1092 0) - 1)) ∧ (S 58 ((S 1092 0) - 1)) ≤ 400 ∧ sm_SK (S 63) (S 64) (S 44) (S 1100007) (S 1100025) (S 1076 0) (S 1007 0) (400 * ((S 1092 0) - 1)) ((S 58 ((S 1092 0) - 1))) ((S 1100034 0)) ∧ -1 ≤ (S 1100034 0) ∧ (S 1100034 0) < (S 1046 0) ∧ (0 ≤ (S 1100034 0) → (S 26 (S 1100034 0)) = 29) ∧ (S 58 ((S 1092 0) - 1)) = (S 1100007 (S 1100033 0)) ∧ (S 1100034 0) = (S 1100025 (S 1100033 0)) ∧ (0 ≤ (S 1100023 (S 1100033 0)) → (S 1100007 (S 1100023 (S 1100033 0))) ≤ (S 58 ((S 1092 0) - 1))) ∧ (S 58 ((S 1092 0) - 1)) ≤ 396 ∧ 0 ≤ (S 1100034 0) ∧ 1 ≤ (S 58 ((S 1092 0) - 1)) ∧ (S 1100007 (S 1100034 0)) = (S 58 ((S 1092 0) - 1)) ∧ (S 1100033 0) + 1 < (S 1046 0) ∧ (S 29 ((S 1100033 0) + 1)) = (S 29 (S 1100033 0)) ∧ (S 1100007 ((S 1100033 0) + 1)) = (S 58 ((S 1092 0) - 1)) + 1 ∧ (S 1100023 ((S 1100033 0) + 1)) = (S 1100023 (S 1100033 0)) ∧ (S 1100025 ((S 1100033 0) + 1)) = (S 1100034 0) ∧ 0 ≤ p2 ∧ p2 < (S 1046 0) ∧ (S 29 p2) = (S 29 (S 1100033 0)) ∧ (S 1100007 p2) = (S 58 ((S 1092 0) - 1)) - 1 ∧ (S 1100023 p2) = (S 1100023 (S 1100033 0)) ∧ (S 1100025 p2) = (S 1100025 (S 1100034 0))) ∧ (∀ g12 : sv_S, (sm_PL (S 1100020) (S 51) (S 52) (S 46) (S 47) (S 1076 0) (S 1086 0) ∧ sm_FR (S 1100020) (S 52) (S 1100021) (S 1100022) (3000 - (S 1084 0)) (S 1085 0) ∧ sm_PV (S 1100020) (S 48) (S 49) (S 50) (S 44) (S 1076 0) (S 1007 0) ∧ sm_AL (S 1100020) (S 48) (S 49) (S 50) (S 44) (S 1076 0) (S 1100032 0) ∧ sm_SV (S 1100020) (S 48) (S 1100029) (S 32) (S 33) (S 1076 0) (S 1032 0) ∧ 0 ≤ (S 1076 0) ∧ (S 1076 0) ≤ 300 ∧ 0 ≤ (S 1084 0) ∧ (S 1084 0) ≤ 3000 ∧ 0 ≤ (S 1086 0) ∧ sm_SC (S 1100029) (S 44) (S 45) (S 43) (S 21) (S 1076 0) (S 1032 0) ∧ sm_PO (S 42) (S 1076 0) ∧ ((S 1075 0) = 0 → (S 1100032 0) = -1) ∧ 23 ≤ (S 1076 0) ∧ 31 ≤ (S 1007 0) ∧ (S 1007 0) ≤ 400 ∧ sm_LN (S 4) 400 ∧ (S 1008 0) ≤ (S 1007 0) ∧ ((S 1075 0) = 1 → (S 1075 0) = 1) ∧ 0 ≤ (S 1092 0) ∧ (S 1092 0) ≤ 24 ∧ ((S 1075 0) = 0 → (S 1073 0) = 1 → 1 ≤ (S 1092 0) ∧ (S 1092 0) ≤ 24 ∧ 0 ≤ (g12 57 ((S 1092 0) - 1)) ∧ (g12 57 ((S 1092 0) - 1)) < (S 1046 0) ∧ (S 29 (g12 57 ((S 1092 0) - 1))) = (S 53 ((S 1092 0) - 1)) ∧ 0 ≤ (S 53 ((S 1092 0) - 1)) ∧ (S 53 ((S 1092 0) - 1)) < (S 1032 0) ∧ (S 60 ((S 1092 0) - 1)) = sm_dp (S 1100024) (S 1100023 (g12 57 ((S 1092 0) - 1))) ∧ sm_TC (S 61) (S 62) (S 27) (S 1100007) (S 1100023) (S 1100024) (40 * ((S 1092 0) - 1)) (S 1100023 (g12 57 ((S 1092 0) - 1))) ∧ sm_LK (S 1100029) (S 1076 0) (S 54 ((S 1092 0) - 1)) (S 53 ((S 1092 0) - 1)) ∧ sm_VO (S 44) (S 1076 0) (S 1007 0) ((S 55 ((S 1092 0) - 1))) ((S 56 ((S 1092 0) - 1))) ∧ sm_FW (S 44) (S 1076 0) (S 59 ((S 1092 0) - 1)) ∧ sm_FL (S 53) (S 54) (S 55) (S 56) (g12 57) (g12 58) (S 59) (S 60) (S 61) (S 62) (g12 63) (g12 64) (S 27) (S 29) (S 1100007) (S 1100023) (S 1100024) (S 1100025) (S 26) (S 1100029) (S 44) (S 1046 0) (S 1032 0) (S 1076 0) (S 1007 0) (((S 1092 0) - 1)) ∧ (g12 58 ((S 1092 0) - 1)) = (S 1100007 (g12 57 ((S 1092 0) - 1))) ∧ sm_SK (g12 63) (g12 64) (S 44) (S 1100007) (S 1100025) (S 1076 0) (S 1007 0) (400 * ((S 1092 0) - 1)) ((g12 58 ((S 1092 0) - 1))) ((S 1100025 (g12 57 ((S 1092 0) - 1)))))) → (sm_PL (S 1100020) (S 51) (S 52) (S 46) (S 47) (S 1076 0) (S 1086 0) ∧ sm_FR (S 1100020) (S 52) (S 1100021) (S 1100022) (3000 - (S 1084 0)) (S 1085 0) ∧ sm_PV (S 1100020) (S 48) (S 49) (S 50) (S 44) (S 1076 0) (S 1007 0) ∧ sm_AL (S 1100020) (S 48) (S 49) (S 50) (S 44) (S 1076 0) (S 1100032 0) ∧ sm_SV (S 1100020) (S 48) (S 1100029) (S 32) (S 33) (S 1076 0) (S 1032 0) ∧ 0 ≤ (S 1076 0) ∧ (S 1076 0) ≤ 300 ∧ 0 ≤ (S 1084 0) ∧ (S 1084 0) ≤ 3000 ∧ 0 ≤ (S 1086 0) ∧ sm_SC (S 1100029) (S 44) (S 45) (S 43) (S 21) (S 1076 0) (S 1032 0) ∧ sm_PO (S 42) (S 1076 0) ∧ ((S 1075 0) = 0 → (S 1100032 0) = -1) ∧ 23 ≤ (S 1076 0) ∧ 31 ≤ (S 1007 0) ∧ (S 1007 0) ≤ 400 ∧ sm_LN (S 4) 400 ∧ (S 1008 0) ≤ (S 1007 0) ∧ ((S 1075 0) = 1 → (S 1075 0) = 1) ∧ 0 ≤ (S 1092 0) ∧ (S 1092 0) ≤ 24 ∧ ((S 1075 0) = 0 → (S 1073 0) = 1 → 1 ≤ (S 1092 0) ∧ (S 1092 0) ≤ 24 ∧ 0 ≤ (g12 57 ((S 1092 0) - 1)) ∧ (g12 57 ((S 1092 0) - 1)) < (S 1046 0) ∧ (S 29 (g12 57 ((S 1092 0) - 1))) = (S 53 ((S 1092 0) - 1)) ∧ 0 ≤ (S 53 ((S 1092 0) - 1)) ∧ (S 53 ((S 1092 0) - 1)) < (S 1032 0) ∧ (S 60 ((S 1092 0) - 1)) = sm_dp (S 1100024) (S 1100023 (g12 57 ((S 1092 0) - 1))) ∧ sm_TC (S 61) (S 62) (S 27) (S 1100007) (S 1100023) (S 1100024) (40 * ((S 1092 0) - 1)) (S 1100023 (g12 57 ((S 1092 0) - 1))) ∧ sm_LK (S 1100029) (S 1076 0) (S 54 ((S 1092 0) - 1)) (S 53 ((S 1092 0) - 1)) ∧ sm_VO (S 44) (S 1076 0) (S 1007 0) ((S 55 ((S 1092 0) - 1))) ((S 56 ((S 1092 0) - 1))) ∧ sm_FW (S 44) (S 1076 0) (S 59 ((S 1092 0) - 1)) ∧ sm_FL (S 53) (S 54) (S 55) (S 56) (g12 57) (g12 58) (S 59) (S 60) (S 61) (S 62) (g12 63) (g12 64) (S 27) (S 29) (S 1100007) (S 1100023) (S 1100024) (S 1100025) (S 26) (S 1100029) (S 44) (S 1046 0) (S 1032 0) (S 1076 0) (S 1007 0) (((S 1092 0) - 1)) ∧ (g12 58 ((S 1092 0) - 1)) = (S 1100007 (g12 57 ((S 1092 0) - 1))) ∧ sm_SK (g12 63) (g12 64) (S 44) (S 1100007) (S 1100025) (S 1076 0) (S 1007 0) (400 * ((S 1092 0) - 1)) ((g12 58 ((S 1092 0) - 1))) ((S 1100025 (g12 57 ((S 1092 0) - 1))))))))))) ∧ ((p1 = (17 : Int)) → ((sm_CT (S 26) (S 27) (S 28) (S 29) (S 1100007) (S 1100023) (S 1100024) (S 1100025) (S 21) (S 1046 0) (S 1032 0) (S 1008 0) (S 1055 0) → sm_LS (S 26) (S 1100007) (S 1100025) (S 1046 0) → sm_SK (S 63) (S 64) (S 44) (S 1100007) (S 1100025) (S 1076 0) (S 1007 0) (400 * ((S 1092 0) - 1)) ((S 58 ((S 1092 0) - 1))) ((S 1100034 0)) → 0 ≤ (S 1100033 0) → (S 1100033 0) < (S 1046 0) → (S 26 (S 1100033 0)) = 17 → (S 1100034 0) = (S 1100025 (S 1100033 0)) → (S 58 ((S 1092 0) - 1)) = (S 1100007 (S 1100033 0)) → sm_SK (S 63) (S 64) (S 44) (S 1100007) (S 1100025) (S 1076 0) (S 1007 0) (400 * ((S 1092 0) - 1)) ((S 58 ((S 1092 0) - 1)) - 1) ((S 1100025 ((S 1100033 0) + 1))) ∧ (S 1100033 0) + 1 < (S 1046 0) ∧ (S 29 ((S 1100033 0) + 1)) = (S 29 (S 1100033 0)) ∧ (S 1100007 ((S 1100033 0) + 1)) = (S 1100007 (S 1100033 0)) - 1 ∧ (S 1100023 ((S 1100033 0) + 1)) = (S 1100023 (S 1100033 0)) ∧ 1 ≤ (S 1100007 (S 1100033 0)) ∧ -1 ≤ (S 1100025 ((S 1100033 0) + 1))) → (1 ≤ (S 1092 0) ∧ (S 1092 0) ≤ 24 ∧ 0 ≤ (S 58 ((S 1092 0) - 1)) ∧ (S 58 ((S 1092 0) - 1)) ≤ 400 ∧ 0 ≤ (1 : Int) ∧ (1 : Int) ≤ (S 58 ((S 1092 0) - 1))) ∧ (∀ g19 : sv_S, ((g19 58 ((S 1092 0) - 1)) = (S 58 ((S 1092 0) - 1)) - (1 : Int) ∧ (∀ k : Int, ¬ k = (S 1092 0) - 1 → (g19 58 k) = (S 58 k))) → (1 ≤ (S 1092 0) ∧ (S 1092 0) ≤ 24 ∧ 0 ≤ (S 57 ((S 1092 0) - 1)) ∧ (S 57 ((S 1092 0) - 1)) ≤ 600) ∧ (∀ g25 : sv_S, ((g25 57 ((S 1092 0) - 1)) = (S 57 ((S 1092 0) - 1)) + 1 ∧ (∀ k : Int, ¬ k = (S 1092 0) - 1 → (g25 57 k) = (S 57 k))) → (sm_PL (S 1100020) (S 51) (S 52) (S 46) (S 47) (S 1076 0) (S 1086 0) ∧ sm_FR (S 1100020) (S 52) (S 1100021) (S 1100022) (3000 - (S 1084 0)) (S 1085 0) ∧ sm_PV (S 1100020) (S 48) (S 49) (S 50) (S 44) (S 1076 0) (S 1007 0) ∧ sm_AL (S 1100020) (S 48) (S 49) (S 50) (S 44) (S 1076 0) (S 1100032 0) ∧ sm_SV (S 1100020) (S 48) (S 1100029) (S 32) (S 33) (S 1076 0) (S 1032 0) ∧ 0 ≤ (S 1076 0) ∧ (S 1076 0) ≤ 300 ∧ 0 ≤ (S 1084 0) ∧ (S 1084 0) ≤ 3000 ∧ 0 ≤ (S 1086 0) ∧ sm_SC (S 1100029) (S 44) (S 45) (S 43) (S 21) (S 1076 0) (S 1032 0) ∧ sm_PO (S 42) (S 1076 0) ∧ ((S 1075 0) = 0 → (S 1100032 0) = -1) ∧ 23 ≤ (S 1076 0) ∧ 31 ≤ (S 1007 0) ∧ (S 1007 0) ≤ 400 ∧ sm_LN (S 4) 400 ∧ (S 1008 0) ≤ (S 1007 0) ∧ ((S 1075 0) = 1 → (S 1075 0) = 1) ∧ 0 ≤ (S 1092 0) ∧ (S 1092 0) ≤ 24 ∧ ((S 1075 0) = 0 → (S 1073 0) = 1 → 1 ≤ (S 1092 0) ∧ (S 1092 0) ≤ 24 ∧ 0 ≤ (g25 57 ((S 1092 0) - 1)) ∧ (g25 57 ((S 1092 0) - 1)) < (S 1046 0) ∧ (S 29 (g25 57 ((S 1092 0) - 1))) = (S 53 ((S 1092 0) - 1)) ∧ 0 ≤ (S 53 ((S 1092 0) - 1)) ∧ (S 53 ((S 1092 0) - 1)) < (S 1032 0) ∧ (S 60 ((S 1092 0) - 1)) = sm_dp (S 1100024) (S 1100023 (g25 57 ((S 1092 0) - 1))) ∧ sm_TC (S 61) (S 62) (S 27) (S 1100007) (S 1100023) (S 1100024) (40 * ((S 1092 0) - 1)) (S 1100023 (g25 57 ((S 1092 0) - 1))) ∧ sm_LK (S 1100029) (S 1076 0) (S 54 ((S 1092 0) - 1)) (S 53 ((S 1092 0) - 1)) ∧ sm_VO (S 44) (S 1076 0) (S 1007 0) ((S 55 ((S 1092 0) - 1))) ((S 56 ((S 1092 0) - 1))) ∧ sm_FW (S 44) (S 1076 0) (S 59 ((S 1092 0) - 1)) ∧ sm_FL (S 53) (S 54) (S 55) (S 56) (g25 57) (g19 58) (S 59) (S 60) (S 61) (S 62) (S 63) (S 64) (S 27) (S 29) (S 1100007) (S 1100023) (S 1100024) (S 1100025) (S 26) (S 1100029) (S 44) (S 1046 0) (S 1032 0) (S 1076 0) (S 1007 0) (((S 1092 0) - 1)) ∧ (g19 58 ((S 1092 0) - 1)) = (S 1100007 (g25 57 ((S 1092 0) - 1))) ∧ sm_SK (S 63) (S 64) (S 44) (S 1100007) (S 1100025) (S 1076 0) (S 1007 0) (400 * ((S 1092 0) - 1)) ((g19 58 ((S 1092 0) - 1))) ((S 1100025 (g25 57 ((S 1092 0) - 1)))))))))) ∧ ((p1 = (18 : Int)) → ((sm_CT (S 26) (S 27) (S 28) (S 29) (S 1100007) (S 1100023) (S 1100024) (S 1100025) (S 21) (S 1046 0) (S 1032 0) (S 1008 0) (S 1055 0) → 0 ≤ (S 1100033 0) → (S 1100033 0) < (S 1046 0) → ((S 26 (S 1100033 0)) = 18 → (0 ≤ ((S 1100007 (S 1100033 0)) - 1) ∧ (0 ≤ (S 1100023 (S 1100033 0)) → (S 1100007 (S 1100023 (S 1100033 0))) ≤ ((S 1100007 (S 1100033 0)) - 1)) ∧ (0 ≤ (S 1100025 (S 1100033 0)) → (S 1100007 (S 1100025 (S 1100033 0))) ≤ ((S 1100007 (S 1100033 0)) - 1))) ∧ (0 ≤ ((S 1100033 0) + 1) ∧ ((S 1100033 0) + 1) < (S 1046 0) ∧ (S 29 ((S 1100033 0) + 1)) = ((S 29 (S 1100033 0))) ∧ (S 1100007 ((S 1100033 0) + 1)) = ((S 1100007 (S 1100033 0)) + 1) ∧ (S 1100023 ((S 1100033 0) + 1)) = ((S 1100023 (S 1100033 0))) ∧ (S 1100025 ((S 1100033 0) + 1)) = ((S 1100025 (S 1100033 0)))))) → (((S 1100034 0) = (S 1100025 (S 1100033 0)) → (S 58 ((S 1092 0) - 1)) = (S 1100007 (S 1100033 0)) → (0 ≤ (S 1100025 (S 1100033 0)) → (S 1100007 (S 1100025 (S 1100033 0))) ≤ (S 1100007 (S 1100033 0)) - 1) → (0 ≤ (S 1100034 0) → (S 1100007 (S 1100034 0)) ≤ (S 58 ((S 1092 0) - 1)) - 1)) → ((sm_SK (S 63) (S 64) (S 44) (S 1100007) (S 1100025) (S 1076 0) (S 1007 0) (400 * ((S 1092 0) - 1)) ((S 58 ((S 1092 0) - 1))) ((S 1100034 0)) → sm_LS (S 26) (S 1100007) (S 1100025) (S 1046 0) → 0 ≤ (S 58 ((S 1092 0) - 1)) - 1 → (S 58 ((S 1092 0) - 1)) - 1 < (S 58 ((S 1092 0) - 1)) → (S 1100034 0) < (S 1046 0) → (S 1100034 0) = (S 1100025 (S 1100033 0)) → (S 58 ((S 1092 0) - 1)) = (S 1100007 (S 1100033 0)) → (0 ≤ (S 1100034 0) → (S 26 (S 1100034 0)) = 29) → (0 ≤ (S 1100025 (S 1100033 0)) → (S 1100007 (S 1100025 (S 1100033 0))) ≤ (S 1100007 (S 1100033 0)) - 1) → sm_VO (S 44) (S 1076 0) (S 1007 0) ((S 63 (400 * ((S 1092 0) - 1) + ((S 58 ((S 1092 0) - 1)) - 1)))) ((S 64 (400 * ((S 1092 0) - 1) + ((S 58 ((S 1092 0) - 1)) - 1))))) → (1 ≤ (S 1092 0) ∧ (S 1092 0) ≤ 24 ∧ 0 ≤ (S 58 ((S 1092 0) - 1)) ∧ (S 58 ((S 1092 0) - 1)) ≤ 400 ∧ (S 58 ((S 1092 0) - 1)) < 400) ∧ (∀ g34 : sv_S, ((g34 58 ((S 1092 0) - 1)) = (S 58 ((S 1092 0) - 1)) + 1 ∧ (g34 63 (400 * ((S 1092 0) - 1) + (S 58 ((S 1092 0) - 1)))) = s3 ∧ (g34 64 (400 * ((S 1092 0) - 1) + (S 58 ((S 1092 0) - 1)))) = s5 ∧ (∀ k : Int, ¬ k = (S 1092 0) - 1 → (g34 58 k) = (S 58 k)) ∧ (∀ k : Int, ¬ k = (400 * ((S 1092 0) - 1) + (S 58 ((S 1092 0) - 1))) → (g34 63 k) = (S 63 k)) ∧ (∀ k : Int, ¬ k = (400 * ((S 1092 0) - 1) + (S 58 ((S 1092 0) - 1))) → (g34 64 k) = (S 64 k))) → (1 ≤ (S 1092 0) ∧ (S 1092 0) ≤ 24 ∧ 0 ≤ (S 57 ((S 1092 0) - 1)) ∧ (S 57 ((S 1092 0) - 1)) ≤ 600) ∧ (∀ g40 : sv_S, ((g40 57 ((S 1092 0) - 1)) = (S 57 ((S 1092 0) - 1)) + 1 ∧ (∀ k : Int, ¬ k = (S 1092 0) - 1 → (g40 57 k) = (S 57 k))) → (sm_PL (S 1100020) (S 51) (S 52) (S 46) (S 47) (S 1076 0) (S 1086 0) ∧ sm_FR (S 1100020) (S 52) (S 1100021) (S 1100022) (3000 - (S 1084 0)) (S 1085 0) ∧ sm_PV (S 1100020) (S 48) (S 49) (S 50) (S 44) (S 1076 0) (S 1007 0) ∧ sm_AL (S 1100020) (S 48) (S 49) (S 50) (S 44) (S 1076 0) (S 1100032 0) ∧ sm_SV (S 1100020) (S 48) (S 1100029) (S 32) (S 33) (S 1076 0) (S 1032 0) ∧ 0 ≤ (S 1076 0) ∧ (S 1076 0) ≤ 300 ∧ 0 ≤ (S 1084 0) ∧ (S 1084 0) ≤ 3000 ∧ 0 ≤ (S 1086 0) ∧ sm_SC (S 1100029) (S 44) (S 45) (S 43) (S 21) (S 1076 0) (S 1032 0) ∧ sm_PO (S 42) (S 1076 0) ∧ ((S 1075 0) = 0 → (S 1100032 0) = -1) ∧ 23 ≤ (S 1076 0) ∧ 31 ≤ (S 1007 0) ∧ (S 1007 0) ≤ 400 ∧ sm_LN (S 4) 400 ∧ (S 1008 0) ≤ (S 1007 0) ∧ ((S 1075 0) = 1 → (S 1075 0) = 1) ∧ 0 ≤ (S 1092 0) ∧ (S 1092 0) ≤ 24 ∧ ((S 1075 0) = 0 → (S 1073 0) = 1 → 1 ≤ (S 1092 0) ∧ (S 1092 0) ≤ 24 ∧ 0 ≤ (g40 57 ((S 1092 0) - 1)) ∧ (g40 57 ((S 1092 0) - 1)) < (S 1046 0) ∧ (S 29 (g40 57 ((S 1092 0) - 1))) = (S 53 ((S 1092 0) - 1)) ∧ 0 ≤ (S 53 ((S 1092 0) - 1)) ∧ (S 53 ((S 1092 0) - 1)) < (S 1032 0) ∧ (S 60 ((S 1092 0) - 1)) = sm_dp (S 1100024) (S 1100023 (g40 57 ((S 1092 0) - 1))) ∧ sm_TC (S 61) (S 62) (S 27) (S 1100007) (S 1100023) (S 1100024) (40 * ((S 1092 0) - 1)) (S 1100023 (g40 57 ((S 1092 0) - 1))) ∧ sm_LK (S 1100029) (S 1076 0) (S 54 ((S 1092 0) - 1)) (S 53 ((S 1092 0) - 1)) ∧ sm_VO (S 44) (S 1076 0) (S 1007 0) ((S 55 ((S 1092 0) - 1))) ((S 56 ((S 1092 0) - 1))) ∧ sm_FW (S 44) (S 1076 0) (S 59 ((S 1092 0) - 1)) ∧ sm_FL (S 53) (S 54) (S 55) (S 56) (g40 57) (g34 58) (S 59) (S 60) (S 61) (S 62) (g34 63) (g34 64) (S 27) (S 29) (S 1100007) (S 1100023) (S 1100024) (S 1100025) (S 26) (S 1100029) (S 44) (S 1046 0) (S 1032 0) (S 1076 0) (S 1007 0) (((S 1092 0) - 1)) ∧ (g34 58 ((S 1092 0) - 1)) = (S 1100007 (g40 57 ((S 1092 0) - 1))) ∧ sm_SK (g34 63) (g34 64) (S 44) (S 1100007) (S 1100025) (S 1076 0) (S 1007 0) (400 * ((S 1092 0) - 1)) ((g34 58 ((S 1092 0) - 1))) ((S 1100025 (g40 57 ((S 1092 0) - 1)))))))))))) ∧ ((p1 = (19 : Int)) → ((sm_CT (S 26) (S 27) (S 28) (S 29) (S 1100007) (S 1100023) (S 1100024) (S 1100025) (S 21) (S 1046 0) (S 1032 0) (S 1008 0) (S 1055 0) → 0 ≤ (S 1100033 0) → (S 1100033 0) < (S 1046 0) → ((S 26 (S 1100033 0)) = 19 → (0 ≤ ((S 1100007 (S 1100033 0)) - 2) ∧ (0 ≤ (S 1100023 (S 1100033 0)) → (S 1100007 (S 1100023 (S 1100033 0))) ≤ ((S 1100007 (S 1100033 0)) - 2)) ∧ (0 ≤ (S 1100025 (S 1100033 0)) → (S 1100007 (S 1100025 (S 1100033 0))) ≤ ((S 1100007 (S 1100033 0)) - 2))) ∧ (0 ≤ ((S 1100033 0) + 1) ∧ ((S 1100033 0) + 1) < (S 1046 0) ∧ (S 29 ((S 1100033 0) + 1)) = ((S 29 (S 1100033 0))) ∧ (S 1100007 ((S 1100033 0) + 1)) = ((S 1100007 (S 1100033 0)) + 2) ∧ (S 1100023 ((S 1100033 0) + 1)) = ((S 1100023 (S 1100033 0))) ∧ (S 1100025 ((S 1100033 0) + 1)) = ((S 1100025 (S 1100033 0)))))) → (((S 1100034 0) = (S 1100025 (S 1100033 0)) → (S 58 ((S 1092 0) - 1)) = (S 1100007 (S 1100033 0)) → (0 ≤ (S 1100025 (S 1100033 0)) → (S 1100007 (S 1100025 (S 1100033 0))) ≤ (S 1100007 (S 1100033 0)) - 2) → (0 ≤ (S 1100034 0) → (S 1100007 (S 1100034 0)) ≤ (S 58 ((S 1092 0) - 1)) - 2)) → ((sm_SK (S 63) (S 64) (S 44) (S 1100007) (S 1100025) (S 1076 0) (S 1007 0) (400 * ((S 1092 0) - 1)) ((S 58 ((S 1092 0) - 1))) ((S 1100034 0)) → sm_LS (S 26) (S 1100007) (S 1100025) (S 1046 0) → 0 ≤ (S 58 ((S 1092 0) - 1)) - 1 → (S 58 ((S 1092 0) - 1)) - 1 < (S 58 ((S 1092 0) - 1)) → (S 1100034 0) < (S 1046 0) → (S 1100034 0) = (S 1100025 (S 1100033 0)) → (S 58 ((S 1092 0) - 1)) = (S 1100007 (S 1100033 0)) → (0 ≤ (S 1100034 0) → (S 26 (S 1100034 0)) = 29) → (0 ≤ (S 1100025 (S 1100033 0)) → (S 1100007 (S 1100025 (S 1100033 0))) ≤ (S 1100007 (S 1100033 0)) - 2) → sm_VO (S 44) (S 1076 0) (S 1007 0) ((S 63 (400 * ((S 1092 0) - 1) + ((S 58 ((S 1092 0) - 1)) - 1)))) ((S 64 (400 * ((S 1092 0) - 1) + ((S 58 ((S 1092 0) - 1)) - 1))))) → ((sm_SK (S 63) (S 64) (S 44) (S 1100007) (S 1100025) (S 1076 0) (S 1007 0) (400 * ((S 1092 0) - 1)) ((S 58 ((S 1092 0) - 1))) ((S 1100034 0)) → sm_LS (S 26) (S 1100007) (S 1100025) (S 1046 0) → 0 ≤ (S 58 ((S 1092 0) - 1)) - 2 → (S 58 ((S 1092 0) - 1)) - 2 < (S 58 ((S 1092 0) - 1)) → (S 1100034 0) < (S 1046 0) → (S 1100034 0) = (S 1100025 (S 1100033 0)) → (S 58 ((S 1092 0) - 1)) = (S 1100007 (S 1100033 0)) → (0 ≤ (S 1100034 0) → (S 26 (S 1100034 0)) = 29) → (0 ≤ (S 1100025 (S 1100033 0)) → (S 1100007 (S 1100025 (S 1100033 0))) ≤ (S 1100007 (S 1100033 0)) - 2) → sm_VO (S 44) (S 1076 0) (S 1007 0) ((S 63 (400 * ((S 1092 0) - 1) + ((S 58 ((S 1092 0) - 1)) - 2)))) ((S 64 (400 * ((S 1092 0) - 1) + ((S 58 ((S 1092 0) - 1)) - 2))))) → (1 ≤ (S 1092 0) ∧ (S 1092 0) ≤ 24 ∧ 0 ≤ (S 58 ((S 1092 0) - 1)) ∧ (S 58 ((S 1092 0) - 1)) ≤ 400 ∧ 0 ≤ (1 : Int) ∧ (1 : Int) < (S 58 ((S 1092 0) - 1))) ∧ (∀ x50 : Int, ((S 63 ((400 * ((S 1092 0) - 1) + (S 58 ((S 1092 0) - 1))) - 1 - (1 : Int)))) = x50 → (∀ x52 : Int, ((S 64 ((400 * ((S 1092 0) - 1) + (S 58 ((S 1092 0) - 1))) - 1 - (1 : Int)))) = x52 → (1 ≤ (S 1092 0) ∧ (S 1092 0) ≤ 24 ∧ 0 ≤ (S 58 ((S 1092 0) - 1)) ∧ (S 58 ((S 1092 0) - 1)) ≤ 400 ∧ (S 58 ((S 1092 0) - 1)) < 400) ∧ (∀ g55 : sv_S, ((g55 58 ((S 1092 0) - 1)) = (S 58 ((S 1092 0) - 1)) + 1 ∧ (g55 63 (400 * ((S 1092 0) - 1) + (S 58 ((S 1092 0) - 1)))) = x50 ∧ (g55 64 (400 * ((S 1092 0) - 1) + (S 58 ((S 1092 0) - 1)))) = x52 ∧ (∀ k : Int, ¬ k = (S 1092 0) - 1 → (g55 58 k) = (S 58 k)) ∧ (∀ k : Int, ¬ k = (400 * ((S 1092 0) - 1) + (S 58 ((S 1092 0) - 1))) → (g55 63 k) = (S 63 k)) ∧ (∀ k : Int, ¬ k = (400 * ((S 1092 0) - 1) + (S 58 ((S 1092 0) - 1))) → (g55 64 k) = (S 64 k))) → (1 ≤ (S 1092 0) ∧ (S 1092 0) ≤ 24 ∧ 0 ≤ (g55 58 ((S 1092 0) - 1)) ∧ (g55 58 ((S 1092 0) - 1)) ≤ 400 ∧ (g55 58 ((S 1092 0) - 1)) < 400) ∧ (∀ g61 : sv_S, ((g61 58 ((S 1092 0) - 1)) = (g55 58 ((S 1092 0) - 1)) + 1 ∧ (g61 63 (400 * ((S 1092 0) - 1) + (g55 58 ((S 1092 0) - 1)))) = s3 ∧ (g61 64 (400 * ((S 1092 0) - 1) + (g55 58 ((S 1092 0) - 1)))) = s5 ∧ (∀ k : Int, ¬ k = (S 1092 0) - 1 → (g61 58 k) = (g55 58 k)) ∧ (∀ k : Int, ¬ k = (400 * ((S 1092 0) - 1) + (g55 58 ((S 1092 0) - 1))) → (g61 63 k) = (g55 63 k)) ∧ (∀ k : Int, ¬ k = (400 * ((S 1092 0) - 1) + (g55 58 ((S 1092 0) - 1))) → (g61 64 k) = (g55 64 k))) → (1 ≤ (S 1092 0) ∧ (S 1092 0) ≤ 24 ∧ 0 ≤ (S 57 ((S 1092 0) - 1)) ∧ (S 57 ((S 1092 0) - 1)) ≤ 600) ∧ (∀ g67 : sv_S, ((g67 57 ((S 1092 0) - 1)) = (S 57 ((S 1092 0) - 1)) + 1 ∧ (∀ k : Int, ¬ k = (S 1092 0) - 1 → (g67 57 k) = (S 57 k))) → (sm_PL (S 1100020) (S 51) (S 52) (S 46) (S 47) (S 1076 0) (S 1086 0) ∧ sm_FR (S 1100020) (S 52) (S 1100021) (S 1100022) (3000 - (S 1084 0)) (S 1085 0) ∧ sm_PV (S 1100020) (S 48) (S 49) (S 50) (S 44) (S 1076 0) (S 1007 0) ∧ sm_AL (S 1100020) (S 48) (S 49) (S 50) (S 44) (S 1076 0) (S 1100032 0) ∧ sm_SV (S 1100020) (S 48) (S 1100029) (S 32) (S 33) (S 1076 0) (S 1032 0) ∧ 0 ≤ (S 1076 0) ∧ (S 1076 0) ≤ 300 ∧ 0 ≤ (S 1084 0) ∧ (S 1084 0) ≤ 3000 ∧ 0 ≤ (S 1086 0) ∧ sm_SC (S 1100029) (S 44) (S 45) (S 43) (S 21) (S 1076 0) (S 1032 0) ∧ sm_PO (S 42) (S 1076 0) ∧ ((S 1075 0) = 0 → (S 1100032 0) = -1) ∧ 23 ≤ (S 1076 0) ∧ 31 ≤ (S 1007 0) ∧ (S 1007 0) ≤ 400 ∧ sm_LN (S 4) 400 ∧ (S 1008 0) ≤ (S 1007 0) ∧ ((S 1075 0) = 1 → (S 1075 0) = 1) ∧ 0 ≤ (S 1092 0) ∧ (S 1092 0) ≤ 24 ∧ ((S 1075 0) = 0 → (S 1073 0) = 1 → 1 ≤ (S 1092 0) ∧ (S 1092 0) ≤ 24 ∧ 0 ≤ (g67 57 ((S 1092 0) - 1)) ∧ (g67 57 ((S 1092 0) - 1)) < (S 1046 0) ∧ (S 29 (g67 57 ((S 1092 0) - 1))) = (S 53 ((S 1092 0) - 1)) ∧ 0 ≤ (S 53 ((S 1092 0) - 1)) ∧ (S 53 ((S 1092 0) - 1)) < (S 1032 0) ∧ (S 60 ((S 1092 0) - 1)) = sm_dp (S 1100024) (S 1100023 (g67 57 ((S 1092 0) - 1))) ∧ sm_TC (S 61) (S 62) (S 27) (S 1100007) (S 1100023) (S 1100024) (40 * ((S 1092 0) - 1)) (S 1100023 (g67 57 ((S 1092 0) - 1))) ∧ sm_LK (S 1100029) (S 1076 0) (S 54 ((S 1092 0) - 1)) (S 53 ((S 1092 0) - 1)) ∧ sm_VO (S 44) (S 1076 0) (S 1007 0) ((S 55 ((S 1092 0) - 1))) ((S 56 ((S 1092 0) - 1))) ∧ sm_FW (S 44) (S 1076 0) (S 59 ((S 1092 0) - 1)) ∧ sm_FL (S 53) (S 54) (S 55) (S 56) (g67 57) (g61 58) (S 59) (S 60) (S 61) (S 62) (g61 63) (g61 64) (S 27) (S 29) (S 1100007) (S 1100023) (S 1100024) (S 1100025) (S 26) (S 1100029) (S 44) (S 1046 0) (S 1032 0) (S 1076 0) (S 1007 0) (((S 1092 0) - 1)) ∧ (g61 58 ((S 1092 0) - 1)) = (S 1100007 (g67 57 ((S 1092 0) - 1))) ∧ sm_SK (g61 63) (g61 64) (S 44) (S 1100007) (S 1100025) (S 1076 0) (S 1007 0) (400 * ((S 1092 0) - 1)) ((g61 58 ((S 1092 0) - 1))) ((S 1100025 (g67 57 ((S 1092 0) - 1)))))))))))))))) ∧ ((p1 = (20 : Int)) → ((sm_CT (S 26) (S 27) (S 28) (S 29) (S 1100007) (S 1100023) (S 1100024) (S 1100025) (S 21) (S 1046 0) (S 1032 0) (S 1008 0) (S 1055 0) → 0 ≤ (S 1100033 0) → (S 1100033 0) < (S 1046 0) → ((S 26 (S 1100033 0)) = 20 → (0 ≤ ((S 1100007 (S 1100033 0)) - 3) ∧ (0 ≤ (S 1100023 (S 1100033 0)) → (S 1100007 (S 1100023 (S 1100033 0))) ≤ ((S 1100007 (S 1100033 0)) - 3)) ∧ (0 ≤ (S 1100025 (S 1100033 0)) → (S 1100007 (S 1100025 (S 1100033 0))) ≤ ((S 1100007 (S 1100033 0)) - 3))) ∧ (0 ≤ ((S 1100033 0) + 1) ∧ ((S 1100033 0) + 1) < (S 1046 0) ∧ (S 29 ((S 1100033 0) + 1)) = ((S 29 (S 1100033 0))) ∧ (S 1100007 ((S 1100033 0) + 1)) = ((S 1100007 (S 1100033 0)) + 1) ∧ (S 1100023 ((S 1100033 0) + 1)) = ((S 1100023 (S 1100033 0))) ∧ (S 1100025 ((S 1100033 0) + 1)) = ((S 1100025 (S 1100033 0)))))) → (((S 1100034 0) = (S 1100025 (S 1100033 0)) → (S 58 ((S 1092 0) - 1)) = (S 1100007 (S 1100033 0)) → (0 ≤ (S 1100025 (S 1100033 0)) → (S 1100007 (S 1100025 (S 1100033 0))) ≤ (S 1100007 (S 1100033 0)) - 3) → (0 ≤ (S 1100034 0) → (S 1100007 (S 1100034 0)) ≤ (S 58 ((S 1092 0) - 1)) - 3)) → ((sm_SK (S 63) (S 64) (S 44) (S 1100007) (S 1100025) (S 1076 0) (S 1007 0) (400 * ((S 1092 0) - 1)) ((S 58 ((S 1092 0) - 1))) ((S 1100034 0)) → sm_LS (S 26) (S 1100007) (S 1100025) (S 1046 0) → 0 ≤ (S 58 ((S 1092 0) - 1)) - 1 → (S 58 ((S 1092 0) - 1)) - 1 < (S 58 ((S 1092 0) - 1)) → (S 1100034 0) < (S 1046 0) → (S 1100034 0) = (S 1100025 (S 1100033 0)) → (S 58 ((S 1092 0) - 1)) = (S 1100007 (S 1100033 0)) → (0 ≤ (S 1100034 0) → (S 26 (S 1100034 0)) = 29) → (0 ≤ (S 1100025 (S 1100033 0)) → (S 1100007 (S 1100025 (S 1100033 0))) ≤ (S 1100007 (S 1100033 0)) - 3) → sm_VO (S 44) (S 1076 0) (S 1007 0) ((S 63 (400 * ((S 1092 0) - 1) + ((S 58 ((S 1092 0) - 1)) - 1)))) ((S 64 (400 * ((S 1092 0) - 1) + ((S 58 ((S 1092 0) - 1)) - 1))))) → ((sm_SK (S 63) (S 64) (S 44) (S 1100007) (S 1100025) (S 1076 0) (S 1007 0) (400 * ((S 1092 0) - 1)) ((S 58 ((S 1092 0) - 1))) ((S 1100034 0)) → sm_LS (S 26) (S 1100007) (S 1100025) (S 1046 0) → 0 ≤ (S 58 ((S 1092 0) - 1)) - 2 → (S 58 ((S 1092 0) - 1)) - 2 < (S 58 ((S 1092 0) - 1)) → (S 1100034 0) < (S 1046 0) → (S 1100034 0) = (S 1100025 (S 1100033 0)) → (S 58 ((S 1092 0) - 1)) = (S 1100007 (S 1100033 0)) → (0 ≤ (S 1100034 0) → (S 26 (S 1100034 0)) = 29) → (0 ≤ (S 1100025 (S 1100033 0)) → (S 1100007 (S 1100025 (S 1100033 0))) ≤ (S 1100007 (S 1100033 0)) - 3) → sm_VO (S 44) (S 1076 0) (S 1007 0) ((S 63 (400 * ((S 1092 0) - 1) + ((S 58 ((S 1092 0) - 1)) - 2)))) ((S 64 (400 * ((S 1092 0) - 1) + ((S 58 ((S 1092 0) - 1)) - 2))))) → ((sm_SK (S 63) (S 64) (S 44) (S 1100007) (S 1100025) (S 1076 0) (S 1007 0) (400 * ((S 1092 0) - 1)) ((S 58 ((S 1092 0) - 1))) ((S 1100034 0)) → sm_LS (S 26) (S 1100007) (S 1100025) (S 1046 0) → 0 ≤ (S 58 ((S 1092 0) - 1)) - 3 → (S 58 ((S 1092 0) - 1)) - 3 < (S 58 ((S 1092 0) - 1)) → (S 1100034 0) < (S 1046 0) → (S 1100034 0) = (S 1100025 (S 1100033 0)) → (S 58 ((S 1092 0) - 1)) = (S 1100007 (S 1100033 0)) → (0 ≤ (S 1100034 0) → (S 26 (S 1100034 0)) = 29) → (0 ≤ (S 1100025 (S 1100033 0)) → (S 1100007 (S 1100025 (S 1100033 0))) ≤ (S 1100007 (S 1100033 0)) - 3) → sm_VO (S 44) (S 1076 0) (S 1007 0) ((S 63 (400 * ((S 1092 0) - 1) + ((S 58 ((S 1092 0) - 1)) - 3)))) ((S 64 (400 * ((S 1092 0) - 1) + ((S 58 ((S 1092 0) - 1)) - 3))))) → (1 ≤ (S 1092 0) ∧ (S 1092 0) ≤ 24 ∧ 0 ≤ (S 58 ((S 1092 0) - 1)) ∧ (S 58 ((S 1092 0) - 1)) ≤ 400 ∧ 3 ≤ (S 58 ((S 1092 0) - 1)) ∧ (S 58 ((S 1092 0) - 1)) < 400) ∧ (∀ g78 : sv_S, ((g78 58 ((S 1092 0) - 1)) = (S 58 ((S 1092 0) - 1)) + 1 ∧ (∀ k : Int, ¬ k = (S 1092 0) - 1 → (g78 58 k) = (S 58 k)) ∧ sm_F1 (S 63) (g78 63) ((400 * ((S 1092 0) - 1) + (S 58 ((S 1092 0) - 1))) - 3) ∧ (g78 63 (400 * ((S 1092 0) - 1) + (S 58 ((S 1092 0) - 1)))) = s3 ∧ (g78 63 ((400 * ((S 1092 0) - 1) + (S 58 ((S 1092 0) - 1))) - 1)) = (S 63 ((400 * ((S 1092 0) - 1) + (S 58 ((S 1092 0) - 1))) - 2)) ∧ (g78 63 ((400 * ((S 1092 0) - 1) + (S 58 ((S 1092 0) - 1))) - 2)) = (S 63 ((400 * ((S 1092 0) - 1) + (S 58 ((S 1092 0) - 1))) - 3)) ∧ (g78 63 ((400 * ((S 1092 0) - 1) + (S 58 ((S 1092 0) - 1))) - 3)) = s3 ∧ sm_F1 (S 64) (g78 64) ((400 * ((S 1092 0) - 1) + (S 58 ((S 1092 0) - 1))) - 3) ∧ (g78 64 (400 * ((S 1092 0) - 1) + (S 58 ((S 1092 0) - 1)))) = s5 ∧ (g78 64 ((400 * ((S 1092 0) - 1) + (S 58 ((S 1092 0) - 1))) - 1)) = (S 64 ((400 * ((S 1092 0) - 1) + (S 58 ((S 1092 0) - 1))) - 2)) ∧ (g78 64 ((400 * ((S 1092 0) - 1) + (S 58 ((S 1092 0) - 1))) - 2)) = (S 64 ((400 * ((S 1092 0) - 1) + (S 58 ((S 1092 0) - 1))) - 3)) ∧ (g78 64 ((400 * ((S 1092 0) - 1) + (S 58 ((S 1092 0) - 1))) - 3)) = s5) → (1 ≤ (S 1092 0) ∧ (S 1092 0) ≤ 24 ∧ 0 ≤ (S 57 ((S 1092 0) - 1)) ∧ (S 57 ((S 1092 0) - 1)) ≤ 600) ∧ (∀ g84 : sv_S, ((g84 57 ((S 1092 0) - 1)) = (S 57 ((S 1092 0) - 1)) + 1 ∧ (∀ k : Int, ¬ k = (S 1092 0) - 1 → (g84 57 k) = (S 57 k))) → (sm_PL (S 1100020) (S 51) (S 52) (S 46) (S 47) (S 1076 0) (S 1086 0) ∧ sm_FR (S 1100020) (S 52) (S 1100021) (S 1100022) (3000 - (S 1084 0)) (S 1085 0) ∧ sm_PV (S 1100020) (S 48) (S 49) (S 50) (S 44) (S 1076 0) (S 1007 0) ∧ sm_AL (S 1100020) (S 48) (S 49) (S 50) (S 44) (S 1076 0) (S 1100032 0) ∧ sm_SV (S 1100020) (S 48) (S 1100029) (S 32) (S 33) (S 1076 0) (S 1032 0) ∧ 0 ≤ (S 1076 0) ∧ (S 1076 0) ≤ 300 ∧ 0 ≤ (S 1084 0) ∧ (S 1084 0) ≤ 3000 ∧ 0 ≤ (S 1086 0) ∧ sm_SC (S 1100029) (S 44) (S 45) (S 43) (S 21) (S 1076 0) (S 1032 0) ∧ sm_PO (S 42) (S 1076 0) ∧ ((S 1075 0) = 0 → (S 1100032 0) = -1) ∧ 23 ≤ (S 1076 0) ∧ 31 ≤ (S 1007 0) ∧ (S 1007 0) ≤ 400 ∧ sm_LN (S 4) 400 ∧ (S 1008 0) ≤ (S 1007 0) ∧ ((S 1075 0) = 1 → (S 1075 0) = 1) ∧ 0 ≤ (S 1092 0) ∧ (S 1092 0) ≤ 24 ∧ ((S 1075 0) = 0 → (S 1073 0) = 1 → 1 ≤ (S 1092 0) ∧ (S 1092 0) ≤ 24 ∧ 0 ≤ (g84 57 ((S 1092 0) - 1)) ∧ (g84 57 ((S 1092 0) - 1)) < (S 1046 0) ∧ (S 29 (g84 57 ((S 1092 0) - 1))) = (S 53 ((S 1092 0) - 1)) ∧ 0 ≤ (S 53 ((S 1092 0) - 1)) ∧ (S 53 ((S 1092 0) - 1)) < (S 1032 0) ∧ (S 60 ((S 1092 0) - 1)) = sm_dp (S 1100024) (S 1100023 (g84 57 ((S 1092 0) - 1))) ∧ sm_TC (S 61) (S 62) (S 27) (S 1100007) (S 1100023) (S 1100024) (40 * ((S 1092 0) - 1)) (S 1100023 (g84 57 ((S 1092 0) - 1))) ∧ sm_LK (S 1100029) (S 1076 0) (S 54 ((S 1092 0) - 1)) (S 53 ((S 1092 0) - 1)) ∧ sm_VO (S 44) (S 1076 0) (S 1007 0) ((S 55 ((S 1092 0) - 1))) ((S 56 ((S 1092 0) - 1))) ∧ sm_FW (S 44) (S 1076 0) (S 59 ((S 1092 0) - 1)) ∧ sm_FL (S 53) (S 54) (S 55) (S 56) (g84 57) (g78 58) (S 59) (S 60) (S 61) (S 62) (g78 63) (g78 64) (S 27) (S 29) (S 1100007) (S 1100023) (S 1100024) (S 1100025) (S 26) (S 1100029) (S 44) (S 1046 0) (S 1032 0) (S 1076 0) (S 1007 0) (((S 1092 0) - 1)) ∧ (g78 58 ((S 1092 0) - 1)) = (S 1100007 (g84 57 ((S 1092 0) - 1))) ∧ sm_SK (g78 63) (g78 64) (S 44) (S 1100007) (S 1100025) (S 1076 0) (S 1007 0) (400 * ((S 1092 0) - 1)) ((g78 58 ((S 1092 0) - 1))) ((S 1100025 (g84 57 ((S 1092 0) - 1)))))))))))))) ∧ ((p1 = (21 : Int)) → ((sm_CT (S 26) (S 27) (S 28) (S 29) (S 1100007) (S 1100023) (S 1100024) (S 1100025) (S 21) (S 1046 0) (S 1032 0) (S 1008 0) (S 1055 0) → 0 ≤ (S 1100033 0) → (S 1100033 0) < (S 1046 0) → ((S 26 (S 1100033 0)) = 21 → (0 ≤ ((S 1100007 (S 1100033 0))) ∧ (0 ≤ (S 1100023 (S 1100033 0)) → (S 1100007 (S 1100023 (S 1100033 0))) ≤ ((S 1100007 (S 1100033 0)))) ∧ (0 ≤ (S 1100025 (S 1100033 0)) → (S 1100007 (S 1100025 (S 1100033 0))) ≤ ((S 1100007 (S 1100033 0))))) ∧ (0 ≤ ((S 27 (S 1100033 0))) ∧ ((S 27 (S 1100033 0))) < (S 1046 0) ∧ (S 29 ((S 27 (S 1100033 0)))) = ((S 29 (S 1100033 0))) ∧ (S 1100007 ((S 27 (S 1100033 0)))) = ((S 1100007 (S 1100033 0))) ∧ (S 1100023 ((S 27 (S 1100033 0)))) = ((S 1100023 (S 1100033 0))) ∧ (S 1100025 ((S 27 (S 1100033 0)))) = ((S 1100025 (S 1100033 0)))))) → (0 ≤ ((S 1092 0) - (1 : Int)) ∧ ((S 1092 0) - (1 : Int)) < 24) ∧ (sm_PL (S 1100020) (S 51) (S 52) (S 46) (S 47) (S 1076 0) (S 1086 0) ∧ sm_FR (S 1100020) (S 52) (S 1100021) (S 1100022) (3000 - (S 1084 0)) (S 1085 0) ∧ sm_PV (S 1100020) (S 48) (S 49) (S 50) (S 44) (S 1076 0) (S 1007 0) ∧ sm_AL (S 1100020) (S 48) (S 49) (S 50) (S 44) (S 1076 0) (S 1100032 0) ∧ sm_SV (S 1100020) (S 48) (S 1100029) (S 32) (S 33) (S 1076 0) (S 1032 0) ∧ 0 ≤ (S 1076 0) ∧ (S 1076 0) ≤ 300 ∧ 0 ≤ (S 1084 0) ∧ (S 1084 0) ≤ 3000 ∧ 0 ≤ (S 1086 0) ∧ sm_SC (S 1100029) (S 44) (S 45) (S 43) (S 21) (S 1076 0) (S 1032 0) ∧ sm_PO (S 42) (S 1076 0) ∧ ((S 1075 0) = 0 → (S 1100032 0) = -1) ∧ 23 ≤ (S 1076 0) ∧ 31 ≤ (S 1007 0) ∧ (S 1007 0) ≤ 400 ∧ sm_LN (S 4) 400 ∧ (S 1008 0) ≤ (S 1007 0) ∧ ((S 1075 0) = 1 → (S 1075 0) = 1) ∧ 0 ≤ (S 1092 0) ∧ (S 1092 0) ≤ 24 ∧ ((S 1075 0) = 0 → (S 1073 0) = 1 → 1 ≤ (S 1092 0) ∧ (S 1092 0) ≤ 24 ∧ 0 ≤ (if ((S 1092 0) - 1) = ((S 1092 0) - (1 : Int)) then p2 else (S 57 ((S 1092 0) - 1))) ∧ (if ((S 1092 0) - 1) = ((S 1092 0) - (1 : Int)) then p2 else (S 57 ((S 1092 0) - 1))) < (S 1046 0) ∧ (S 29 (if ((S 1092 0) - 1) = ((S 1092 0) - (1 : Int)) then p2 else (S 57 ((S 1092 0) - 1)))) = (S 53 ((S 1092 0) - 1)) ∧ 0 ≤ (S 53 ((S 1092 0) - 1)) ∧ (S 53 ((S 1092 0) - 1)) < (S 1032 0) ∧ (S 60 ((S 1092 0) - 1)) = sm_dp (S 1100024) (S 1100023 (if ((S 1092 0) - 1) = ((S 1092 0) - (1 : Int)) then p2 else (S 57 ((S 1092 0) - 1)))) ∧ sm_TC (S 61) (S 62) (S 27) (S 1100007) (S 1100023) (S 1100024) (40 * ((S 1092 0) - 1)) (S 1100023 (if ((S 1092 0) - 1) = ((S 1092 0) - (1 : Int)) then p2 else (S 57 ((S 1092 0) - 1)))) ∧ sm_LK (S 1100029) (S 1076 0) (S 54 ((S 1092 0) - 1)) (S 53 ((S 1092 0) - 1)) ∧ sm_VO (S 44) (S 1076 0) (S 1007 0) ((S 55 ((S 1092 0) - 1))) ((S 56 ((S 1092 0) - 1))) ∧ sm_FW (S 44) (S 1076 0) (S 59 ((S 1092 0) - 1)) ∧ sm_FL (S 53) (S 54) (S 55) (S 56) (fun i' : Int => if i' = ((S 1092 0) - (1 : Int)) then p2 else (S 57) i') (S 58) (S 59) (S 60) (S 61) (S 62) (S 63) (S 64) (S 27) (S 29) (S 1100007) (S 1100023) (S 1100024) (S 1100025) (S 26) (S 1100029) (S 44) (S 1046 0) (S 1032 0) (S 1076 0) (S 1007 0) (((S 1092 0) - 1)) ∧ (S 58 ((S 1092 0) - 1)) = (S 1100007 (if ((S 1092 0) - 1) = ((S 1092 0) - (1 : Int)) then p2 else (S 57 ((S 1092 0) - 1)))) ∧ sm_SK (S 63) (S 64) (S 44) (S 1100007) (S 1100025) (S 1076 0) (S 1007 0) (400 * ((S 1092 0) - 1)) ((S 58 ((S 1092 0) - 1))) ((S 1100025 (if ((S 1092 0) - 1) = ((S 1092 0) - (1 : Int)) then p2 else (S 57 ((S 1092 0) - 1))))))))) ∧ ((p1 = (22 : Int)) → ((sm_CT (S 26) (S 27) (S 28) (S 29) (S 1100007) (S 1100023) (S 1100024) (S 1100025) (S 21) (S 1046 0) (S 1032 0) (S 1008 0) (S 1055 0) → 0 ≤ (S 1100033 0) → (S 1100033 0) < (S 1046 0) → ((S 26 (S 1100033 0)) = 22 → (0 ≤ ((S 1100007 (S 1100033 0)) - 1) ∧ (0 ≤ (S 1100023 (S 1100033 0)) → (S 1100007 (S 1100023 (S 1100033 0))) ≤ ((S 1100007 (S 1100033 0)) - 1)) ∧ (0 ≤ (S 1100025 (S 1100033 0)) → (S 1100007 (S 1100025 (S 1100033 0))) ≤ ((S 1100007 (S 1100033 0)) - 1))) ∧ (0 ≤ ((S 1100033 0) + 1) ∧ ((S 1100033 0) + 1) < (S 1046 0) ∧ (S 29 ((S 1100033 0) + 1)) = ((S 29 (S 1100033 0))) ∧ (S 1100007 ((S 1100033 0) + 1)) = ((S 1100007 (S 1100033 0)) - 1) ∧ (S 1100023 ((S 1100033 0) + 1)) = ((S 1100023 (S 1100033 0))) ∧ (S 1100025 ((S 1100033 0) + 1)) = ((S 1100025 (S 1100033 0)))) ∧ (0 ≤ ((S 27 (S 1100033 0))) ∧ ((S 27 (S 1100033 0))) < (S 1046 0) ∧ (S 29 ((S 27 (S 1100033 0)))) = ((S 29 (S 1100033 0))) ∧ (S 1100007 ((S 27 (S 1100033 0)))) = ((S 1100007 (S 1100033 0)) - 1) ∧ (S 1100023 ((S 27 (S 1100033 0)))) = ((S 1100023 (S 1100033 0))) ∧ (S 1100025 ((S 27 (S 1100033 0)))) = ((S 1100025 (S 1100033 0)))))) → (((S 1100034 0) = (S 1100025 (S 1100033 0)) → (S 58 ((S 1092 0) - 1)) = (S 1100007 (S 1100033 0)) → (0 ≤ (S 1100025 (S 1100033 0)) → (S 1100007 (S 1100025 (S 1100033 0))) ≤ (S 1100007 (S 1100033 0)) - 1) → (0 ≤ (S 1100034 0) → (S 1100007 (S 1100034 0)) ≤ (S 58 ((S 1092 0) - 1)) - 1)) → ((sm_SK (S 63) (S 64) (S 44) (S 1100007) (S 1100025) (S 1076 0) (S 1007 0) (400 * ((S 1092 0) - 1)) ((S 58 ((S 1092 0) - 1))) ((S 1100034 0)) → sm_LS (S 26) (S 1100007) (S 1100025) (S 1046 0) → 0 ≤ (S 58 ((S 1092 0) - 1)) - 1 → (S 58 ((S 1092 0) - 1)) - 1 < (S 58 ((S 1092 0) - 1)) → (S 1100034 0) < (S 1046 0) → (S 1100034 0) = (S 1100025 (S 1100033 0)) → (S 58 ((S 1092 0) - 1)) = (S 1100007 (S 1100033 0)) → (0 ≤ (S 1100034 0) → (S 26 (S 1100034 0)) = 29) → (0 ≤ (S 1100025 (S 1100033 0)) → (S 1100007 (S 1100025 (S 1100033 0))) ≤ (S 1100007 (S 1100033 0)) - 1) → sm_VO (S 44) (S 1076 0) (S 1007 0) ((S 63 (400 * ((S 1092 0) - 1) + ((S 58 ((S 1092 0) - 1)) - 1)))) ((S 64 (400 * ((S 1092 0) - 1) + ((S 58 ((S 1092 0) - 1)) - 1))))) → (1 ≤ (S 1092 0) ∧ (S 1092 0) ≤ 24 ∧ 0 ≤ (S 58 ((S 1092 0) - 1)) ∧ (S 58 ((S 1092 0) - 1)) ≤ 400 ∧ 0 ≤ (1 : Int) ∧ (1 : Int) ≤ (S 58 ((S 1092 0) - 1))) ∧ (∀ g97 : sv_S, ((g97 58 ((S 1092 0) - 1)) = (S 58 ((S 1092 0) - 1)) - (1 : Int) ∧ (∀ k : Int, ¬ k = (S 1092 0) - 1 → (g97 58 k) = (S 58 k))) → (31 ≤ (S 1007 0) ∧ (S 1007 0) ≤ 400 ∧ sm_LN (S 4) 400 ∧ (s3 = 6 → 0 ≤ s5 ∧ s5 < 400)) ∧ (∀ r107 : Int, sv_R r107 → (r107 = 0 ∨ r107 = 1) → (((r107 = (0 : Int)) → (0 ≤ ((S 1092 0) - (1 : Int)) ∧ ((S 1092 0) - (1 : Int)) < 24) ∧ (sm_PL (S 1100020) (S 51) (S 52) (S 46) (S 47) (S 1076 0) (S 1086 0) ∧ sm_FR (S 1100020) (S 52) (S 1100021) (S 1100022) (3000 - (S 1084 0)) (S 1085 0) ∧ sm_PV (S 1100020) (S 48) (S 49) (S 50) (S 44) (S 1076 0) (S 1007 0) ∧ sm_AL (S 1100020) (S 48) (S 49) (S 50) (S 44) (S 1076 0) (S 1100032 0) ∧ sm_SV (S 1100020) (S 48) (S 1100029) (S 32) (S 33) (S 1076 0) (S 1032 0) ∧ 0 ≤ (S 1076 0) ∧ (S 1076 0) ≤ 300 ∧ 0 ≤ (S 1084 0) ∧ (S 1084 0) ≤ 3000 ∧ 0 ≤ (S 1086 0) ∧ sm_SC (S 1100029) (S 44) (S 45) (S 43) (S 21) (S 1076 0) (S 1032 0) ∧ sm_PO (S 42) (S 1076 0) ∧ ((S 1075 0) = 0 → (S 1100032 0) = -1) ∧ 23 ≤ (S 1076 0) ∧ 31 ≤ (S 1007 0) ∧ (S 1007 0) ≤ 400 ∧ sm_LN (S 4) 400 ∧ (S 1008 0) ≤ (S 1007 0) ∧ ((S 1075 0) = 1 → (S 1075 0) = 1) ∧ 0 ≤ (S 1092 0) ∧ (S 1092 0) ≤ 24 ∧ ((S 1075 0) = 0 → (S 1073 0) = 1 → 1 ≤ (S 1092 0) ∧ (S 1092 0) ≤ 24 ∧ 0 ≤ (if ((S 1092 0) - 1) = ((S 1092 0) - (1 : Int)) then p2 else (S 57 ((S 1092 0) - 1))) ∧ (if ((S 1092 0) - 1) = ((S 1092 0) - (1 : Int)) then p2 else (S 57 ((S 1092 0) - 1))) < (S 1046 0) ∧ (S 29 (if ((S 1092 0) - 1) = ((S 1092 0) - (1 : Int)) then p2 else (S 57 ((S 1092 0) - 1)))) = (S 53 ((S 1092 0) - 1)) ∧ 0 ≤ (S 53 ((S 1092 0) - 1)) ∧ (S 53 ((S 1092 0) - 1)) < (S 1032 0) ∧ (S 60 ((S 1092 0) - 1)) = sm_dp (S 1100024) (S 1100023 (if ((S 1092 0) - 1) = ((S 1092 0) - (1 : Int)) then p2 else (S 57 ((S 1092 0) - 1)))) ∧ sm_TC (S 61) (S 62) (S 27) (S 1100007) (S 1100023) (S 1100024) (40 * ((S 1092 0) - 1)) (S 1100023 (if ((S 1092 0) - 1) = ((S 1092 0) - (1 : Int)) then p2 else (S 57 ((S 1092 0) - 1)))) ∧ sm_LK (S 1100029) (S 1076 0) (S 54 ((S 1092 0) - 1)) (S 53 ((S 1092 0) - 1)) ∧ sm_VO (S 44) (S 1076 0) (S 1007 0) ((S 55 ((S 1092 0) - 1))) ((S 56 ((S 1092 0) - 1))) ∧ sm_FW (S 44) (S 1076 0) (S 59 ((S 1092 0) - 1)) ∧ sm_FL (S 53) (S 54) (S 55) (S 56) (fun i' : Int => if i' = ((S 1092 0) - (1 : Int)) then p2 else (S 57) i') (g97 58) (S 59) (S 60) (S 61) (S 62) (S 63) (S 64) (S 27) (S 29) (S 1100007) (S 1100023) (S 1100024) (S 1100025) (S 26) (S 1100029) (S 44) (S 1046 0) (S 1032 0) (S 1076 0) (S 1007 0) (((S 1092 0) - 1)) ∧ (g97 58 ((S 1092 0) - 1)) = (S 1100007 (if ((S 1092 0) - 1) = ((S 1092 0) - (1 : Int)) then p2 else (S 57 ((S 1092 0) - 1)))) ∧ sm_SK (S 63) (S 64) (S 44) (S 1100007) (S 1100025) (S 1076 0) (S 1007 0) (400 * ((S 1092 0) - 1)) ((g97 58 ((S 1092 0) - 1))) ((S 1100025 (if ((S 1092 0) - 1) = ((S 1092 0) - (1 : Int)) then p2 else (S 57 ((S 1092 0) - 1)))))))) ∧ ((¬ (r107 = (0 : Int))) → (0 ≤ ((S 1092 0) - (1 : Int)) ∧ ((S 1092 0) - (1 : Int)) < 24) ∧ (sv_R (S 57 ((S 1092 0) - (1 : Int))) → (sv_R ((S 57 ((S 1092 0) - (1 : Int))) + (1 : Int))) ∧ (sm_PL (S 1100020) (S 51) (S 52) (S 46) (S 47) (S 1076 0) (S 1086 0) ∧ sm_FR (S 1100020) (S 52) (S 1100021) (S 1100022) (3000 - (S 1084 0)) (S 1085 0) ∧ sm_PV (S 1100020) (S 48) (S 49) (S 50) (S 44) (S 1076 0) (S 1007 0) ∧ sm_AL (S 1100020) (S 48) (S 49) (S 50) (S 44) (S 1076 0) (S 1100032 0) ∧ sm_SV (S 1100020) (S 48) (S 1100029) (S 32) (S 33) (S 1076 0) (S 1032 0) ∧ 0 ≤ (S 1076 0) ∧ (S 1076 0) ≤ 300 ∧ 0 ≤ (S 1084 0) ∧ (S 1084 0) ≤ 3000 ∧ 0 ≤ (S 1086 0) ∧ sm_SC (S 1100029) (S 44) (S 45) (S 43) (S 21) (S 1076 0) (S 1032 0) ∧ sm_PO (S 42) (S 1076 0) ∧ ((S 1075 0) = 0 → (S 1100032 0) = -1) ∧ 23 ≤ (S 1076 0) ∧ 31 ≤ (S 1007 0) ∧ (S 1007 0) ≤ 400 ∧ sm_LN (S 4) 400 ∧ (S 1008 0) ≤ (S 1007 0) ∧ ((S 1075 0) = 1 → (S 1075 0) = 1) ∧ 0 ≤ (S 1092 0) ∧ (S 1092 0) ≤ 24 ∧ ((S 1075 0) = 0 → (S 1073 0) = 1 → 1 ≤ (S 1092 0) ∧ (S 1092 0) ≤ 24 ∧ 0 ≤ (if ((S 1092 0) - 1) = ((S 1092 0) - (1 : Int)) then ((S 57 ((S 1092 0) - (1 : Int))) + (1 : Int)) else (S 57 ((S 1092 0) - 1))) ∧ (if ((S 1092 0) - 1) = ((S 1092 0) - (1 : Int)) then ((S 57 ((S 1092 0) - (1 : Int))) + (1 : Int)) else (S 57 ((S 1092 0) - 1))) < (S 1046 0) ∧ (S 29 (if ((S 1092 0) - 1) = ((S 1092 0) - (1 : Int)) then ((S 57 ((S 1092 0) - (1 : Int))) + (1 : Int)) else (S 57 ((S 1092 0) - 1)))) = (S 53 ((S 1092 0) - 1)) ∧ 0 ≤ (S 53 ((S 1092 0) - 1)) ∧ (S 53 ((S 1092 0) - 1)) < (S 1032 0) ∧ (S 60 ((S 1092 0) - 1)) = sm_dp (S 1100024) (S 1100023 (if ((S 1092 0) - 1) = ((S 1092 0) - (1 : Int)) then ((S 57 ((S 1092 0) - (1 : Int))) + (1 : Int)) else (S 57 ((S 1092 0) - 1)))) ∧ sm_TC (S 61) (S 62) (S 27) (S 1100007) (S 1100023) (S 1100024) (40 * ((S 1092 0) - 1)) (S 1100023 (if ((S 1092 0) - 1) = ((S 1092 0) - (1 : Int)) then ((S 57 ((S 1092 0) - (1 : Int))) + (1 : Int)) else (S 57 ((S 1092 0) - 1)))) ∧ sm_LK (S 1100029) (S 1076 0) (S 54 ((S 1092 0) - 1)) (S 53 ((S 1092 0) - 1)) ∧ sm_VO (S 44) (S 1076 0) (S 1007 0) ((S 55 ((S 1092 0) - 1))) ((S 56 ((S 1092 0) - 1))) ∧ sm_FW (S 44) (S 1076 0) (S 59 ((S 1092 0) - 1)) ∧ sm_FL (S 53) (S 54) (S 55) (S 56) (fun i' : Int => if i' = ((S 1092 0) - (1 : Int)) then ((S 57 ((S 1092 0) - (1 : Int))) + (1 : Int)) else (S 57) i') (g97 58) (S 59) (S 60) (S 61) (S 62) (S 63) (S 64) (S 27) (S 29) (S 1100007) (S 1100023) (S 1100024) (S 1100025) (S 26) (S 1100029) (S 44) (S 1046 0) (S 1032 0) (S 1076 0) (S 1007 0) (((S 1092 0) - 1)) ∧ (g97 58 ((S 1092 0) - 1)) = (S 1100007 (if ((S 1092 0) - 1) = ((S 1092 0) - (1 : Int)) then ((S 57 ((S 1092 0) - (1 : Int))) + (1 : Int)) else (S 57 ((S 1092 0) - 1)))) ∧ sm_SK (S 63) (S 64) (S 44) (S 1100007) (S 1100025) (S 1076 0) (S 1007 0) (400 * ((S 1092 0) - 1)) ((g97 58 ((S 1092 0) - 1))) ((S 1100025 (if ((S 1092 0) - 1) = ((S 1092 0) - (1 : Int)) then ((S 57 ((S 1092 0) - (1 : Int))) + (1 : Int)) else (S 57 ((S 1092 0) - 1)))))))))))))))) ∧ ((p1 = (23 : Int) ∨ p1 = (24 : Int)) → ((((p1 = 21 ∨ p1 = 27 ∨ p1 = 28) ∨ s3 = (S 63 ((400 * ((S 1092 0) - 1) + (S 58 ((S 1092 0) - 1))) - 1 - 0))) → (p1 = 23 ∨ p1 = 24) → s3 = (S 63 ((400 * ((S 1092 0) - 1) + (S 58 ((S 1092 0) - 1))) - 1 - 0))) → ((((p1 = 21 ∨ p1 = 27 ∨ p1 = 28) ∨ s5 = (S 64 ((400 * ((S 1092 0) - 1) + (S 58 ((S 1092 0) - 1))) - 1 - 0))) → (p1 = 23 ∨ p1 = 24) → s5 = (S 64 ((400 * ((S 1092 0) - 1) + (S 58 ((S 1092 0) - 1))) - 1 - 0))) → ((sm_CT (S 26) (S 27) (S 28) (S 29) (S 1100007) (S 1100023) (S 1100024) (S 1100025) (S 21) (S 1046 0) (S 1032 0) (S 1008 0) (S 1055 0) → 0 ≤ (S 1100033 0) → (S 1100033 0) < (S 1046 0) → ((p1 = 23 ∨ p1 = 24) → p1 = (S 26 (S 1100033 0)) → (0 ≤ ((S 1100007 (S 1100033 0)) - 1) ∧ (0 ≤ (S 1100023 (S 1100033 0)) → (S 1100007 (S 1100023 (S 1100033 0))) ≤ ((S 1100007 (S 1100033 0)) - 1)) ∧ (0 ≤ (S 1100025 (S 1100033 0)) → (S 1100007 (S 1100025 (S 1100033 0))) ≤ ((S 1100007 (S 1100033 0)) - 1))) ∧ (0 ≤ ((S 1100033 0) + 1) ∧ ((S 1100033 0) + 1) < (S 1046 0) ∧ (S 29 ((S 1100033 0) + 1)) = ((S 29 (S 1100033 0))) ∧ (S 1100007 ((S 1100033 0) + 1)) = ((S 1100007 (S 1100033 0)) - 1) ∧ (S 1100023 ((S 1100033 0) + 1)) = ((S 1100023 (S 1100033 0))) ∧ (S 1100025 ((S 1100033 0) + 1)) = ((S 1100025 (S 1100033 0)))) ∧ (0 ≤ ((S 27 (S 1100033 0))) ∧ ((S 27 (S 1100033 0))) < (S 1046 0) ∧ (S 29 ((S 27 (S 1100033 0)))) = ((S 29 (S 1100033 0))) ∧ (S 1100007 ((S 27 (S 1100033 0)))) = ((S 1100007 (S 1100033 0))) ∧ (S 1100023 ((S 27 (S 1100033 0)))) = ((S 1100023 (S 1100033 0))) ∧ (S 1100025 ((S 27 (S 1100033 0)))) = ((S 1100025 (S 1100033 0)))))) → (((S 1100034 0) = (S 1100025 (S 1100033 0)) → (S 58 ((S 1092 0) - 1)) = (S 1100007 (S 1100033 0)) → (0 ≤ (S 1100025 (S 1100033 0)) → (S 1100007 (S 1100025 (S 1100033 0))) ≤ (S 1100007 (S 1100033 0)) - 1) → (0 ≤ (S 1100034 0) → (S 1100007 (S 1100034 0)) ≤ (S 58 ((S 1092 0) - 1)) - 1)) → ((sm_SK (S 63) (S 64) (S 44) (S 1100007) (S 1100025) (S 1076 0) (S 1007 0) (400 * ((S 1092 0) - 1)) ((S 58 ((S 1092 0) - 1))) ((S 1100034 0)) → sm_LS (S 26) (S 1100007) (S 1100025) (S 1046 0) → 0 ≤ (S 58 ((S 1092 0) - 1)) - 1 → (S 58 ((S 1092 0) - 1)) - 1 < (S 58 ((S 1092 0) - 1)) → (S 1100034 0) < (S 1046 0) → (S 1100034 0) = (S 1100025 (S 1100033 0)) → (S 58 ((S 1092 0) - 1)) = (S 1100007 (S 1100033 0)) → (0 ≤ (S 1100034 0) → (S 26 (S 1100034 0)) = 29) → (0 ≤ (S 1100025 (S 1100033 0)) → (S 1100007 (S 1100025 (S 1100033 0))) ≤ (S 1100007 (S 1100033 0)) - 1) → sm_VO (S 44) (S 1076 0) (S 1007 0) ((S 63 (400 * ((S 1092 0) - 1) + ((S 58 ((S 1092 0) - 1)) - 1)))) ((S 64 (400 * ((S 1092 0) - 1) + ((S 58 ((S 1092 0) - 1)) - 1))))) → (31 ≤ (S 1007 0) ∧ (S 1007 0) ≤ 400 ∧ sm_LN (S 4) 400 ∧ (s3 = 6 → 0 ≤ s5 ∧ s5 < 400)) ∧ (∀ r126 : Int, sv_R r126 → (r126 = 0 ∨ r126 = 1) → (((¬ p1 = (23 : Int)) → (((¬ r126 = (0 : Int)) → (0 ≤ ((S 1092 0) - (1 : Int)) ∧ ((S 1092 0) - (1 : Int)) < 24) ∧ (sm_PL (S 1100020) (S 51) (S 52) (S 46) (S 47) (S 1076 0) (S 1086 0) ∧ sm_FR (S 1100020) (S 52) (S 1100021) (S 1100022) (3000 - (S 1084 0)) (S 1085 0) ∧ sm_PV (S 1100020) (S 48) (S 49) (S 50) (S 44) (S 1076 0) (S 1007 0) ∧ sm_AL (S 1100020) (S 48) (S 49) (S 50) (S 44) (S 1076 0) (S 1100032 0) ∧ sm_SV (S 1100020) (S 48) (S 1100029) (S 32) (S 33) (S 1076 0) (S 1032 0) ∧ 0 ≤ (S 1076 0) ∧ (S 1076 0) ≤ 300 ∧ 0 ≤ (S 1084 0) ∧ (S 1084 0) ≤ 3000 ∧ 0 ≤ (S 1086 0) ∧ sm_SC (S 1100029) (S 44) (S 45) (S 43) (S 21) (S 1076 0) (S 1032 0) ∧ sm_PO (S 42) (S 1076 0) ∧ ((S 1075 0) = 0 → (S 1100032 0) = -1) ∧ 23 ≤ (S 1076 0) ∧ 31 ≤ (S 1007 0) ∧ (S 1007 0) ≤ 400 ∧ sm_LN (S 4) 400 ∧ (S 1008 0) ≤ (S 1007 0) ∧ ((S 1075 0) = 1 → (S 1075 0) = 1) ∧ 0 ≤ (S 1092 0) ∧ (S 1092 0) ≤ 24 ∧ ((S 1075 0) = 0 → (S 1073 0) = 1 → 1 ≤ (S 1092 0) ∧ (S 1092 0) ≤ 24 ∧ 0 ≤ (if ((S 1092 0) - 1) = ((S 1092 0) - (1 : Int)) then p2 else (S 57 ((S 1092 0) - 1))) ∧ (if ((S 1092 0) - 1) = ((S 1092 0) - (1 : Int)) then p2 else (S 57 ((S 1092 0) - 1))) < (S 1046 0) ∧ (S 29 (if ((S 1092 0) - 1) = ((S 1092 0) - (1 : Int)) then p2 else (S 57 ((S 1092 0) - 1)))) = (S 53 ((S 1092 0) - 1)) ∧ 0 ≤ (S 53 ((S 1092 0) - 1)) ∧ (S 53 ((S 1092 0) - 1)) < (S 1032 0) ∧ (S 60 ((S 1092 0) - 1)) = sm_dp (S 1100024) (S 1100023 (if ((S 1092 0) - 1) = ((S 1092 0) - (1 : Int)) then p2 else (S 57 ((S 1092 0) - 1)))) ∧ sm_TC (S 61) (S 62) (S 27) (S 1100007) (S 1100023) (S 1100024) (40 * ((S 1092 0) - 1)) (S 1100023 (if ((S 1092 0) - 1) = ((S 1092 0) - (1 : Int)) then p2 else (S 57 ((S 1092 0) - 1)))) ∧ sm_LK (S 1100029) (S 1076 0) (S 54 ((S 1092 0) - 1)) (S 53 ((S 1092 0) - 1)) ∧ sm_VO (S 44) (S 1076 0) (S 1007 0) ((S 55 ((S 1092 0) - 1))) ((S 56 ((S 1092 0) - 1))) ∧ sm_FW (S 44) (S 1076 0) (S 59 ((S 1092 0) - 1)) ∧ sm_FL (S 53) (S 54) (S 55) (S 56) (fun i' : Int => if i' = ((S 1092 0) - (1 : Int)) then p2 else (S 57) i') (S 58) (S 59) (S 60) (S 61) (S 62) (S 63) (S 64) (S 27) (S 29) (S 1100007) (S 1100023) (S 1100024) (S 1100025) (S 26) (S 1100029) (S 44) (S 1046 0) (S 1032 0) (S 1076 0) (S 1007 0) (((S 1092 0) - 1)) ∧ (S 58 ((S 1092 0) - 1)) = (S 1100007 (if ((S 1092 0) - 1) = ((S 1092 0) - (1 : Int)) then p2 else (S 57 ((S 1092 0) - 1)))) ∧ sm_SK (S 63) (S 64) (S 44) (S 1100007) (S 1100025) (S 1076 0) (S 1007 0) (400 * ((S 1092 0) - 1)) ((S 58 ((S 1092 0) - 1))) ((S 1100025 (if ((S 1092 0) - 1) = ((S 1092 0) - (1 : Int)) then p2 else (S 57 ((S 1092 0) - 1)))))))) ∧ ((¬ (¬ r126 = (0 : Int))) → (1 ≤ (S 1092 0) ∧ (S 1092 0) ≤ 24 ∧ 0 ≤ (S 58 ((S 1092 0) - 1)) ∧ (S 58 ((S 1092 0) - 1)) ≤ 400 ∧ 0 ≤ (1 : Int) ∧ (1 : Int) ≤ (S 58 ((S 1092 0) - 1))) ∧ (∀ g131 : sv_S, ((g131 58 ((S 1092 0) - 1)) = (S 58 ((S 1092 0) - 1)) - (1 : Int) ∧ (∀ k : Int, ¬ k = (S 1092 0) - 1 → (g131 58 k) = (S 58 k))) → (1 ≤ (S 1092 0) ∧ (S 1092 0) ≤ 24 ∧ 0 ≤ (S 57 ((S 1092 0) - 1)) ∧ (S 57 ((S 1092 0) - 1)) ≤ 600) ∧ (∀ g137 : sv_S, ((g137 57 ((S 1092 0) - 1)) = (S 57 ((S 1092 0) - 1)) + 1 ∧ (∀ k : Int, ¬ k = (S 1092 0) - 1 → (g137 57 k) = (S 57 k))) → (sm_PL (S 1100020) (S 51) (S 52) (S 46) (S 47) (S 1076 0) (S 1086 0) ∧ sm_FR (S 1100020) (S 52) (S 1100021) (S 1100022) (3000 - (S 1084 0)) (S 1085 0) ∧ sm_PV (S 1100020) (S 48) (S 49) (S 50) (S 44) (S 1076 0) (S 1007 0) ∧ sm_AL (S 1100020) (S 48) (S 49) (S 50) (S 44) (S 1076 0) (S 1100032 0) ∧ sm_SV (S 1100020) (S 48) (S 1100029) (S 32) (S 33) (S 1076 0) (S 1032 0) ∧ 0 ≤ (S 1076 0) ∧ (S 1076 0) ≤ 300 ∧ 0 ≤ (S 1084 0) ∧ (S 1084 0) ≤ 3000 ∧ 0 ≤ (S 1086 0) ∧ sm_SC (S 1100029) (S 44) (S 45) (S 43) (S 21) (S 1076 0) (S 1032 0) ∧ sm_PO (S 42) (S 1076 0) ∧ ((S 1075 0) = 0 → (S 1100032 0) = -1) ∧ 23 ≤ (S 1076 0) ∧ 31 ≤ (S 1007 0) ∧ (S 1007 0) ≤ 400 ∧ sm_LN (S 4) 400 ∧ (S 1008 0) ≤ (S 1007 0) ∧ ((S 1075 0) = 1 → (S 1075 0) = 1) ∧ 0 ≤ (S 1092 0) ∧ (S 1092 0) ≤ 24 ∧ ((S 1075 0) = 0 → (S 1073 0) = 1 → 1 ≤ (S 1092 0) ∧ (S 1092 0) ≤ 24 ∧ 0 ≤ (g137 57 ((S 1092 0) - 1)) ∧ (g137 57 ((S 1092 0) - 1)) < (S 1046 0) ∧ (S 29 (g137 57 ((S 1092 0) - 1))) = (S 53 ((S 1092 0) - 1)) ∧ 0 ≤ (S 53 ((S 1092 0) - 1)) ∧ (S 53 ((S 1092 0) - 1)) < (S 1032 0) ∧ (S 60 ((S 1092 0) - 1)) = sm_dp (S 1100024) (S 1100023 (g137 57 ((S 1092 0) - 1))) ∧ sm_TC (S 61) (S 62) (S 27) (S 1100007) (S 1100023) (S 1100024) (40 * ((S 1092 0) - 1)) (S 1100023 (g137 57 ((S 1092 0) - 1))) ∧ sm_LK (S 1100029) (S 1076 0) (S 54 ((S 1092 0) - 1)) (S 53 ((S 1092 0) - 1)) ∧ sm_VO (S 44) (S 1076 0) (S 1007 0) ((S 55 ((S 1092 0) - 1))) ((S 56 ((S 1092 0) - 1))) ∧ sm_FW (S 44) (S 1076 0) (S 59 ((S 1092 0) - 1)) ∧ sm_FL (S 53) (S 54) (S 55) (S 56) (g137 57) (g131 58) (S 59) (S 60) (S 61) (S 62) (S 63) (S 64) (S 27) (S 29) (S 1100007) (S 1100023) (S 1100024) (S 1100025) (S 26) (S 1100029) (S 44) (S 1046 0) (S 1032 0) (S 1076 0) (S 1007 0) (((S 1092 0) - 1)) ∧ (g131 58 ((S 1092 0) - 1)) = (S 1100007 (g137 57 ((S 1092 0) - 1))) ∧ sm_SK (S 63) (S 64) (S 44) (S 1100007) (S 1100025) (S 1076 0) (S 1007 0) (400 * ((S 1092 0) - 1)) ((g131 58 ((S 1092 0) - 1))) ((S 1100025 (g137 57 ((S 1092 0) - 1))))))))))) ∧ ((¬ (¬ p1 = (23 : Int))) → (((¬ r126 = (1 : Int)) → (0 ≤ ((S 1092 0) - (1 : Int)) ∧ ((S 1092 0) - (1 : Int)) < 24) ∧ (sm_PL (S 1100020) (S 51) (S 52) (S 46) (S 47) (S 1076 0) (S 1086 0) ∧ sm_FR (S 1100020) (S 52) (S 1100021) (S 1100022) (3000 - (S 1084 0)) (S 1085 0) ∧ sm_PV (S 1100020) (S 48) (S 49) (S 50) (S 44) (S 1076 0) (S 1007 0) ∧ sm_AL (S 1100020) (S 48) (S 49) (S 50) (S 44) (S 1076 0) (S 1100032 0) ∧ sm_SV (S 1100020) (S 48) (S 1100029) (S 32) (S 33) (S 1076 0) (S 1032 0) ∧ 0 ≤ (S 1076 0) ∧ (S 1076 0) ≤ 300 ∧ 0 ≤ (S 1084 0) ∧ (S 1084 0) ≤ 3000 ∧ 0 ≤ (S 1086 0) ∧ sm_SC (S 1100029) (S 44) (S 45) (S 43) (S 21) (S 1076 0) (S 1032 0) ∧ sm_PO (S 42) (S 1076 0) ∧ ((S 1075 0) = 0 → (S 1100032 0) = -1) ∧ 23 ≤ (S 1076 0) ∧ 31 ≤ (S 1007 0) ∧ (S 1007 0) ≤ 400 ∧ sm_LN (S 4) 400 ∧ (S 1008 0) ≤ (S 1007 0) ∧ ((S 1075 0) = 1 → (S 1075 0) = 1) ∧ 0 ≤ (S 1092 0) ∧ (S 1092 0) ≤ 24 ∧ ((S 1075 0) = 0 → (S 1073 0) = 1 → 1 ≤ (S 1092 0) ∧ (S 1092 0) ≤ 24 ∧ 0 ≤ (if ((S 1092 0) - 1) = ((S 1092 0) - (1 : Int)) then p2 else (S 57 ((S 1092 0) - 1))) ∧ (if ((S 1092 0) - 1) = ((S 1092 0) - (1 : Int)) then p2 else (S 57 ((S 1092 0) - 1))) < (S 1046 0) ∧ (S 29 (if ((S 1092 0) - 1) = ((S 1092 0) - (1 : Int)) then p2 else (S 57 ((S 1092 0) - 1)))) = (S 53 ((S 1092 0) - 1)) ∧ 0 ≤ (S 53 ((S 1092 0) - 1)) ∧ (S 53 ((S 1092 0) - 1)) < (S 1032 0) ∧ (S 60 ((S 1092 0) - 1)) = sm_dp (S 1100024) (S 1100023 (if ((S 1092 0) - 1) = ((S 1092 0) - (1 : Int)) then p2 else (S 57 ((S 1092 0) - 1)))) ∧ sm_TC (S 61) (S 62) (S 27) (S 1100007) (S 1100023) (S 1100024) (40 * ((S 1092 0) - 1)) (S 1100023 (if ((S 1092 0) - 1) = ((S 1092 0) - (1 : Int)) then p2 else (S 57 ((S 1092 0) - 1)))) ∧ sm_LK (S 1100029) (S 1076 0) (S 54 ((S 1092 0) - 1)) (S 53 ((S 1092 0) - 1)) ∧ sm_VO (S 44) (S 1076 0) (S 1007 0) ((S 55 ((S 1092 0) - 1))) ((S 56 ((S 1092 0) - 1))) ∧ sm_FW (S 44) (S 1076 0) (S 59 ((S 1092 0) - 1)) ∧ sm_FL (S 53) (S 54) (S 55) (S 56) (fun i' : Int => if i' = ((S 1092 0) - (1 : Int)) then p2 else (S 57) i') (S 58) (S 59) (S 60) (S 61) (S 62) (S 63) (S 64) (S 27) (S 29) (S 1100007) (S 1100023) (S 1100024) (S 1100025) (S 26) (S 1100029) (S 44) (S 1046 0) (S 1032 0) (S 1076 0) (S 1007 0) (((S 1092 0) - 1)) ∧ (S 58 ((S 1092 0) - 1)) = (S 1100007 (if ((S 1092 0) - 1) = ((S 1092 0) - (1 : Int)) then p2 else (S 57 ((S 1092 0) - 1)))) ∧ sm_SK (S 63) (S 64) (S 44) (S 1100007) (S 1100025) (S 1076 0) (S 1007 0) (400 * ((S 1092 0) - 1)) ((S 58 ((S 1092 0) - 1))) ((S 1100025 (if ((S 1092 0) - 1) = ((S 1092 0) - (1 : Int)) then p2 else (S 57 ((S 1092 0) - 1)))))))) ∧ ((¬ (¬ r126 = (1 : Int))) → (1 ≤ (S 1092 0) ∧ (S 1092 0) ≤ 24 ∧ 0 ≤ (S 58 ((S 1092 0) - 1)) ∧ (S 58 ((S 1092 0) - 1)) ≤ 400 ∧ 0 ≤ (1 : Int) ∧ (1 : Int) ≤ (S 58 ((S 1092 0) - 1))) ∧ (∀ g146 : sv_S, ((g146 58 ((S 1092 0) - 1)) = (S 58 ((S 1092 0) - 1)) - (1 : Int) ∧ (∀ k : Int, ¬ k = (S 1092 0) - 1 → (g146 58 k) = (S 58 k))) → (1 ≤ (S 1092 0) ∧ (S 1092 0) ≤ 24 ∧ 0 ≤ (S 57 ((S 1092 0) - 1)) ∧ (S 57 ((S 1092 0) - 1)) ≤ 600) ∧ (∀ g152 : sv_S, ((g152 57 ((S 1092 0) - 1)) = (S 57 ((S 1092 0) - 1)) + 1 ∧ (∀ k : Int, ¬ k = (S 1092 0) - 1 → (g152 57 k) = (S 57 k))) → (sm_PL (S 1100020) (S 51) (S 52) (S 46) (S 47) (S 1076 0) (S 1086 0) ∧ sm_FR (S 1100020) (S 52) (S 1100021) (S 1100022) (3000 - (S 1084 0)) (S 1085 0) ∧ sm_PV (S 1100020) (S 48) (S 49) (S 50) (S 44) (S 1076 0) (S 1007 0) ∧ sm_AL (S 1100020) (S 48) (S 49) (S 50) (S 44) (S 1076 0) (S 1100032 0) ∧ sm_SV (S 1100020) (S 48) (S 1100029) (S 32) (S 33) (S 1076 0) (S 1032 0) ∧ 0 ≤ (S 1076 0) ∧ (S 1076 0) ≤ 300 ∧ 0 ≤ (S 1084 0) ∧ (S 1084 0) ≤ 3000 ∧ 0 ≤ (S 1086 0) ∧ sm_SC (S 1100029) (S 44) (S 45) (S 43) (S 21) (S 1076 0) (S 1032 0) ∧ sm_PO (S 42) (S 1076 0) ∧ ((S 1075 0) = 0 → (S 1100032 0) = -1) ∧ 23 ≤ (S 1076 0) ∧ 31 ≤ (S 1007 0) ∧ (S 1007 0) ≤ 400 ∧ sm_LN (S 4) 400 ∧ (S 1008 0) ≤ (S 1007 0) ∧ ((S 1075 0) = 1 → (S 1075 0) = 1) ∧ 0 ≤ (S 1092 0) ∧ (S 1092 0) ≤ 24 ∧ ((S 1075 0) = 0 → (S 1073 0) = 1 → 1 ≤ (S 1092 0) ∧ (S 1092 0) ≤ 24 ∧ 0 ≤ (g152 57 ((S 1092 0) - 1)) ∧ (g152 57 ((S 1092 0) - 1)) < (S 1046 0) ∧ (S 29 (g152 57 ((S 1092 0) - 1))) = (S 53 ((S 1092 0) - 1)) ∧ 0 ≤ (S 53 ((S 1092 0) - 1)) ∧ (S 53 ((S 1092 0) - 1)) < (S 1032 0) ∧ (S 60 ((S 1092 0) - 1)) = sm_dp (S 1100024) (S 1100023 (g152 57 ((S 1092 0) - 1))) ∧ sm_TC (S 61) (S 62) (S 27) (S 1100007) (S 1100023) (S 1100024) (40 * ((S 1092 0) - 1)) (S 1100023 (g152 57 ((S 1092 0) - 1))) ∧ sm_LK (S 1100029) (S 1076 0) (S 54 ((S 1092 0) - 1)) (S 53 ((S 1092 0) - 1)) ∧ sm_VO (S 44) (S 1076 0) (S 1007 0) ((S 55 ((S 1092 0) - 1))) ((S 56 ((S 1092 0) - 1))) ∧ sm_FW (S 44) (S 1076 0) (S 59 ((S 1092 0) - 1)) ∧ sm_FL (S 53) (S 54) (S 55) (S 56) (g152 57) (g146 58) (S 59) (S 60) (S 61) (S 62) (S 63) (S 64) (S 27) (S 29) (S 1100007) (S 1100023) (S 1100024) (S 1100025) (S 26) (S 1100029) (S 44) (S 1046 0) (S 1032 0) (S 1076 0) (S 1007 0) (((S 1092 0) - 1)) ∧ (g146 58 ((S 1092 0) - 1)) = (S 1100007 (g152 57 ((S 1092 0) - 1))) ∧ sm_SK (S 63) (S 64) (S 44) (S 1100007) (S 1100025) (S 1076 0) (S 1007 0) (400 * ((S 1092 0) - 1)) ((g146 58 ((S 1092 0) - 1))) ((S 1100025 (g152 57 ((S 1092 0) - 1))))))))))))))))))) ∧ ((p1 = (25 : Int)) → ((sm_CT (S 26) (S 27) (S 28) (S 29) (S 1100007) (S 1100023) (S 1100024) (S 1100025) (S 21) (S 1046 0) (S 1032 0) (S 1008 0) (S 1055 0) → 0 ≤ (S 1100033 0) → (S 1100033 0) < (S 1046 0) → (((S 26 (S 1100033 0)) = 25 ∨ (S 26 (S 1100033 0)) = 26) → (0 ≤ ((S 1100007 (S 1100033 0)) - 1) ∧ (0 ≤ (S 1100023 (S 1100033 0)) → (S 1100007 (S 1100023 (S 1100033 0))) ≤ ((S 1100007 (S 1100033 0)) - 1)) ∧ (0 ≤ (S 1100025 (S 1100033 0)) → (S 1100007 (S 1100025 (S 1100033 0))) ≤ ((S 1100007 (S 1100033 0)) - 1))))) → (((S 1100034 0) = (S 1100025 (S 1100033 0)) → (S 58 ((S 1092 0) - 1)) = (S 1100007 (S 1100033 0)) → (0 ≤ (S 1100025 (S 1100033 0)) → (S 1100007 (S 1100025 (S 1100033 0))) ≤ (S 1100007 (S 1100033 0)) - 1) → (0 ≤ (S 1100034 0) → (S 1100007 (S 1100034 0)) ≤ (S 58 ((S 1092 0) - 1)) - 1)) → ((sm_SK (S 63) (S 64) (S 44) (S 1100007) (S 1100025) (S 1076 0) (S 1007 0) (400 * ((S 1092 0) - 1)) ((S 58 ((S 1092 0) - 1))) ((S 1100034 0)) → sm_LS (S 26) (S 1100007) (S 1100025) (S 1046 0) → 0 ≤ (S 58 ((S 1092 0) - 1)) - 1 → (S 58 ((S 1092 0) - 1)) - 1 < (S 58 ((S 1092 0) - 1)) → (S 1100034 0) < (S 1046 0) → (S 1100034 0) = (S 1100025 (S 1100033 0)) → (S 58 ((S 1092 0) - 1)) = (S 1100007 (S 1100033 0)) → (0 ≤ (S 1100034 0) → (S 26 (S 1100034 0)) = 29) → (0 ≤ (S 1100025 (S 1100033 0)) → (S 1100007 (S 1100025 (S 1100033 0))) ≤ (S 1100007 (S 1100033 0)) - 1) → sm_VO (S 44) (S 1076 0) (S 1007 0) ((S 63 (400 * ((S 1092 0) - 1) + ((S 58 ((S 1092 0) - 1)) - 1)))) ((S 64 (400 * ((S 1092 0) - 1) + ((S 58 ((S 1092 0) - 1)) - 1))))) → ((S 1075 0) = 0 ∧ (S 1073 0) = 1 ∧ sm_PL (S 1100020) (S 51) (S 52) (S 46) (S 47) (S 1076 0) (S 1086 0) ∧ sm_FR (S 1100020) (S 52) (S 1100021) (S 1100022) (3000 - (S 1084 0)) (S 1085 0) ∧ sm_PV (S 1100020) (S 48) (S 49) (S 50) (S 44) (S 1076 0) (S 1007 0) ∧ sm_AL (S 1100020) (S 48) (S 49) (S 50) (S 44) (S 1076 0) (S 1100032 0) ∧ sm_SV (S 1100020) (S 48) (S 1100029) (S 32) (S 33) (S 1076 0) (S 1032 0) ∧ 0 ≤ (S 1076 0) ∧ (S 1076 0) ≤ 300 ∧ 0 ≤ (S 1084 0) ∧ (S 1084 0) ≤ 3000 ∧ 0 ≤ (S 1086 0) ∧ sm_SC (S 1100029) (S 44) (S 45) (S 43) (S 21) (S 1076 0) (S 1032 0) ∧ sm_PO (S 42) (S 1076 0) ∧ (S 1100032 0) = -1 ∧ 23 ≤ (S 1076 0) ∧ 31 ≤ (S 1007 0) ∧ (S 1007 0) ≤ 400 ∧ sm_LN (S 4) 400 ∧ sm_CT (S 26) (S 27) (S 28) (S 29) (S 1100007) (S 1100023) (S 1100024) (S 1100025) (S 21) (S 1046 0) (S 1032 0) (S 1008 0) (S 1055 0) ∧ sm_LS (S 26) (S 1100007) (S 1100025) (S 1046 0) ∧ sm_CL (S 1100007) (S 1100023) (S 1100025) (S 1046 0) ∧ 1 ≤ (S 1032 0) ∧ (S 1032 0) ≤ 11 ∧ 0 ≤ (S 1046 0) ∧ (S 1046 0) ≤ 600 ∧ 31 ≤ (S 1008 0) ∧ (S 1008 0) ≤ (S 1007 0) ∧ 0 ≤ (S 1055 0) ∧ (S 1055 0) ≤ 19 ∧ 1 ≤ (S 1092 0) ∧ (S 1092 0) ≤ 24 ∧ 0 ≤ (S 1100033 0) ∧ (S 1100033 0) < (S 1046 0) ∧ (S 29 (S 1100033 0)) = (S 53 ((S 1092 0) - 1)) ∧ 0 ≤ (S 53 ((S 1092 0) - 1)) ∧ (S 53 ((S 1092 0) - 1)) < (S 1032 0) ∧ (S 60 ((S 1092 0) - 1)) = sm_dp (S 1100024) (S 1100023 (S 1100033 0)) ∧ sm_TC (S 61) (S 62) (S 27) (S 1100007) (S 1100023) (S 1100024) (40 * ((S 1092 0) - 1)) (S 1100023 (S 1100033 0)) ∧ sm_LK (S 1100029) (S 1076 0) (S 54 ((S 1092 0) - 1)) (S 53 ((S 1092 0) - 1)) ∧ sm_VO (S 44) (S 1076 0) (S 1007 0) ((S 55 ((S 1092 0) - 1))) ((S 56 ((S 1092 0) - 1))) ∧ sm_FW (S 44) (S 1076 0) (S 59 ((S 1092 0) - 1)) ∧ sm_FL (S 53) (S 54) (S 55) (S 56) (S 57) (S 58) (S 59) (S 60) (S 61) (S 62) (S 63) (S 64) (S 27) (S 29) (S 1100007) (S 1100023) (S 1100024) (S 1100025) (S 26) (S 1100029) (S 44) (S 1046 0) (S 1032 0) (S 1076 0) (S 1007 0) (((S 1092 0) - 1)) ∧ (S 57 ((S 1092 0) - 1)) = (S 1100033 0) ∧ 0 ≤ (S 58 ((S 1092 0) - 1)) ∧ (S 58 ((S 1092 0) - 1)) ≤ 400 ∧ sm_SK (S 63) (S 64) (S 44) (S 1100007) (S 1100025) (S 1076 0) (S 1007 0) (400 * ((S 1092 0) - 1)) ((S 58 ((S 1092 0) - 1))) ((S 1100034 0)) ∧ -1 ≤ (S 1100034 0) ∧ (S 1100034 0) < (S 1046 0) ∧ (0 ≤ (S 1100034 0) → (S 26 (S 1100034 0)) = 29) ∧ (S 58 ((S 1092 0) - 1)) = (S 1100007 (S 1100033 0)) ∧ (S 1100034 0) = (S 1100025 (S 1100033 0)) ∧ (0 ≤ (S 1100023 (S 1100033 0)) → (S 1100007 (S 1100023 (S 1100033 0))) ≤ (S 58 ((S 1092 0) - 1))) ∧ (S 58 ((S 1092 0) - 1)) ≤ 396 ∧ sm_VO (S 44) (S 1076 0) (S 1007 0) (s3) (s5)) ∧ (∀ g161 : sv_S, (sm_PL (S 1100020) (S 51) (S 52) (S 46) (S 47) (S 1076 0) (S 1086 0) ∧ sm_FR (S 1100020) (S 52) (S 1100021) (S 1100022) (3000 - (S 1084 0)) (S 1085 0) ∧ sm_PV (S 1100020) (S 48) (S 49) (S 50) (S 44) (S 1076 0) (S 1007 0) ∧ sm_AL (S 1100020) (S 48) (S 49) (S 50) (S 44) (S 1076 0) (S 1100032 0) ∧ sm_SV (S 1100020) (S 48) (S 1100029) (S 32) (S 33) (S 1076 0) (S 1032 0) ∧ 0 ≤ (S 1076 0) ∧ (S 1076 0) ≤ 300 ∧ 0 ≤ (S 1084 0) ∧ (S 1084 0) ≤ 3000 ∧ 0 ≤ (S 1086 0) ∧ sm_SC (S 1100029) (S 44) (S 45) (S 43) (S 21) (S 1076 0) (S 1032 0) ∧ sm_PO (S 42) (S 1076 0) ∧ ((S 1075 0) = 0 → (S 1100032 0) = -1) ∧ 23 ≤ (S 1076 0) ∧ 31 ≤ (S 1007 0) ∧ (S 1007 0) ≤ 400 ∧ sm_LN (S 4) 400 ∧ (S 1008 0) ≤ (S 1007 0) ∧ ((S 1075 0) = 1 → (S 1075 0) = 1) ∧ 0 ≤ (g161 1092 0) ∧ (g161 1092 0) ≤ 24 ∧ ((S 1075 0) = 0 → (g161 1073 0) = 1 → 1 ≤ (g161 1092 0) ∧ (g161 1092 0) ≤ 24 ∧ 0 ≤ (S 57 ((g161 1092 0) - 1)) ∧ (S 57 ((g161 1092 0) - 1)) < (S 1046 0) ∧ (S 29 (S 57 ((g161 1092 0) - 1))) = (S 53 ((g161 1092 0) - 1)) ∧ 0 ≤ (S 53 ((g161 1092 0) - 1)) ∧ (S 53 ((g161 1092 0) - 1)) < (S 1032 0) ∧ (S 60 ((g161 1092 0) - 1)) = sm_dp (S 1100024) (S 1100023 (S 57 ((g161 1092 0) - 1))) ∧ sm_TC (S 61) (S 62) (S 27) (S 1100007) (S 1100023) (S 1100024) (40 * ((g161 1092 0) - 1)) (S 1100023 (S 57 ((g161 1092 0) - 1))) ∧ sm_LK (S 1100029) (S 1076 0) (S 54 ((g161 1092 0) - 1)) (S 53 ((g161 1092 0) - 1)) ∧ sm_VO (S 44) (S 1076 0) (S 1007 0) ((S 55 ((g161 1092 0) - 1))) ((S 56 ((g161 1092 0) - 1))) ∧ sm_FW (S 44) (S 1076 0) (S 59 ((g161 1092 0) - 1)) ∧ sm_FL (S 53) (S 54) (S 55) (S 56) (S 57) (g161 58) (S 59) (S 60) (S 61) (S 62) (g161 63) (g161 64) (S 27) (S 29) (S 1100007) (S 1100023) (S 1100024) (S 1100025) (S 26) (S 1100029) (S 44) (S 1046 0) (S 1032 0) (S 1076 0) (S 1007 0) (((g161 1092 0) - 1)) ∧ (g161 58 ((g161 1092 0) - 1)) = (S 1100007 (S 57 ((g161 1092 0) - 1))) ∧ sm_SK (g161 63) (g161 64) (S 44) (S 1100007) (S 1100025) (S 1076 0) (S 1007 0) (400 * ((g161 1092 0) - 1)) ((g161 58 ((g161 1092 0) - 1))) ((S 1100025 (S 57 ((g161 1092 0) - 1))))) ∧ ((g161 1073 0) = 1 ∨ (g161 1073 0) = 2)) → (sm_PL (S 1100020) (S 51) (S 52) (S 46) (S 47) (S 1076 0) (S 1086 0) ∧ sm_FR (S 1100020) (S 52) (S 1100021) (S 1100022) (3000 - (S 1084 0)) (S 1085 0) ∧ sm_PV (S 1100020) (S 48) (S 49) (S 50) (S 44) (S 1076 0) (S 1007 0) ∧ sm_AL (S 1100020) (S 48) (S 49) (S 50) (S 44) (S 1076 0) (S 1100032 0) ∧ sm_SV (S 1100020) (S 48) (S 1100029) (S 32) (S 33) (S 1076 0) (S 1032 0) ∧ 0 ≤ (S 1076 0) ∧ (S 1076 0) ≤ 300 ∧ 0 ≤ (S 1084 0) ∧ (S 1084 0) ≤ 3000 ∧ 0 ≤ (S 1086 0) ∧ sm_SC (S 1100029) (S 44) (S 45) (S 43) (S 21) (S 1076 0) (S 1032 0) ∧ sm_PO (S 42) (S 1076 0) ∧ ((S 1075 0) = 0 → (S 1100032 0) = -1) ∧ 23 ≤ (S 1076 0) ∧ 31 ≤ (S 1007 0) ∧ (S 1007 0) ≤ 400 ∧ sm_LN (S 4) 400 ∧ (S 1008 0) ≤ (S 1007 0) ∧ ((S 1075 0) = 1 → (S 1075 0) = 1) ∧ 0 ≤ (g161 1092 0) ∧ (g161 1092 0) ≤ 24 ∧ ((S 1075 0) = 0 → (g161 1073 0) = 1 → 1 ≤ (g161 1092 0) ∧ (g161 1092 0) ≤ 24 ∧ 0 ≤ (S 57 ((g161 1092 0) - 1)) ∧ (S 57 ((g161 1092 0) - 1)) < (S 1046 0) ∧ (S 29 (S 57 ((g161 1092 0) - 1))) = (S 53 ((g161 1092 0) - 1)) ∧ 0 ≤ (S 53 ((g161 1092 0) - 1)) ∧ (S 53 ((g161 1092 0) - 1)) < (S 1032 0) ∧ (S 60 ((g161 1092 0) - 1)) = sm_dp (S 1100024) (S 1100023 (S 57 ((g161 1092 0) - 1))) ∧ sm_TC (S 61) (S 62) (S 27) (S 1100007) (S 1100023) (S 1100024) (40 * ((g161 1092 0) - 1)) (S 1100023 (S 57 ((g161 1092 0) - 1))) ∧ sm_LK (S 1100029) (S 1076 0) (S 54 ((g161 1092 0) - 1)) (S 53 ((g161 1092 0) - 1)) ∧ sm_VO (S 44) (S 1076 0) (S 1007 0) ((S 55 ((g161 1092 0) - 1))) ((S 56 ((g161 1092 0) - 1))) ∧ sm_FW (S 44) (S 1076 0) (S 59 ((g161 1092 0) - 1)) ∧ sm_FL (S 53) (S 54) (S 55) (S 56) (S 57) (g161 58) (S 59) (S 60) (S 61) (S 62) (g161 63) (g161 64) (S 27) (S 29) (S 1100007) (S 1100023) (S 1100024) (S 1100025) (S 26) (S 1100029) (S 44) (S 1046 0) (S 1032 0) (S 1076 0) (S 1007 0) (((g161 1092 0) - 1)) ∧ (g161 58 ((g161 1092 0) - 1)) = (S 1100007 (S 57 ((g161 1092 0) - 1))) ∧ sm_SK (g161 63) (g161 64) (S 44) (S 1100007) (S 1100025) (S 1076 0) (S 1007 0) (400 * ((g161 1092 0) - 1)) ((g161 58 ((g161 1092 0) - 1))) ((S 1100025 (S 57 ((g161 1092 0) - 1))))))))))) ∧ ((p1 = (26 : Int)) → ((sm_CT (S 26) (S 27) (S 28) (S 29) (S 1100007) (S 1100023) (S 1100024) (S 1100025) (S 21) (S 1046 0) (S 1032 0) (S 1008 0) (S 1055 0) → 0 ≤ (S 1100033 0) → (S 1100033 0) < (S 1046 0) → (((S 26 (S 1100033 0)) = 25 ∨ (S 26 (S 1100033 0)) = 26) → (0 ≤ ((S 1100007 (S 1100033 0)) - 1) ∧ (0 ≤ (S 1100023 (S 1100033 0)) → (S 1100007 (S 1100023 (S 1100033 0))) ≤ ((S 1100007 (S 1100033 0)) - 1)) ∧ (0 ≤ (S 1100025 (S 1100033 0)) → (S 1100007 (S 1100025 (S 1100033 0))) ≤ ((S 1100007 (S 1100033 0)) - 1))))) → (((S 1100034 0) = (S 1100025 (S 1100033 0)) → (S 58 ((S 1092 0) - 1)) = (S 1100007 (S 1100033 0)) → (0 ≤ (S 1100025 (S 1100033 0)) → (S 1100007 (S 1100025 (S 1100033 0))) ≤ (S 1100007 (S 1100033 0)) - 1) → (0 ≤ (S 1100034 0) → (S 1100007 (S 1100034 0)) ≤ (S 58 ((S 1092 0) - 1)) - 1)) → ((sm_SK (S 63) (S 64) (S 44) (S 1100007) (S 1100025) (S 1076 0) (S 1007 0) (400 * ((S 1092 0) - 1)) ((S 58 ((S 1092 0) - 1))) ((S 1100034 0)) → sm_LS (S 26) (S 1100007) (S 1100025) (S 1046 0) → 0 ≤ (S 58 ((S 1092 0) - 1)) - 1 → (S 58 ((S 1092 0) - 1)) - 1 < (S 58 ((S 1092 0) - 1)) → (S 1100034 0) < (S 1046 0) → (S 1100034 0) = (S 1100025 (S 1100033 0)) → (S 58 ((S 1092 0) - 1)) = (S 1100007 (S 1100033 0)) → (0 ≤ (S 1100034 0) → (S 26 (S 1100034 0)) = 29) → (0 ≤ (S 1100025 (S 1100033 0)) → (S 1100007 (S 1100025 (S 1100033 0))) ≤ (S 1100007 (S 1100033 0)) - 1) → sm_VO (S 44) (S 1076 0) (S 1007 0) ((S 63 (400 * ((S 1092 0) - 1) + ((S 58 ((S 1092 0) - 1)) - 1)))) ((S 64 (400 * ((S 1092 0) - 1) + ((S 58 ((S 1092 0) - 1)) - 1))))) → ((S 1075 0) = 0 → 31 ≤ (S 1007 0) ∧ (S 1007 0) ≤ 400 ∧ sm_LN (S 4) 400 ∧ sm_CT (S 26) (S 27) (S 28) (S 29) (S 1100007) (S 1100023) (S 1100024) (S 1100025) (S 21) (S 1046 0) (S 1032 0) (S 1008 0) (S 1055 0) ∧ sm_LS (S 26) (S 1100007) (S 1100025) (S 1046 0) ∧ sm_CL (S 1100007) (S 1100023) (S 1100025) (S 1046 0) ∧ 1 ≤ (S 1032 0) ∧ (S 1032 0) ≤ 11 ∧ 0 ≤ (S 1046 0) ∧ (S 1046 0) ≤ 600 ∧ 31 ≤ (S 1008 0) ∧ (S 1008 0) ≤ (S 1007 0) ∧ 0 ≤ (S 1055 0) ∧ (S 1055 0) ≤ 19 ∧ 1 ≤ (S 1092 0) ∧ (S 1092 0) ≤ 24 ∧ 0 ≤ (S 57 ((S 1092 0) - 1)) ∧ (S 57 ((S 1092 0) - 1)) < (S 1046 0) ∧ (S 29 (S 57 ((S 1092 0) - 1))) = (S 53 ((S 1092 0) - 1)) ∧ 0 ≤ (S 53 ((S 1092 0) - 1)) ∧ (S 53 ((S 1092 0) - 1)) < (S 1032 0) ∧ (S 60 ((S 1092 0) - 1)) = sm_dp (S 1100024) (S 1100023 (S 57 ((S 1092 0) - 1))) ∧ sm_TC (S 61) (S 62) (S 27) (S 1100007) (S 1100023) (S 1100024) (40 * ((S 1092 0) - 1)) (S 1100023 (S 57 ((S 1092 0) - 1))) ∧ sm_LK (S 1100029) (S 1076 0) (S 54 ((S 1092 0) - 1)) (S 53 ((S 1092 0) - 1)) ∧ sm_VO (S 44) (S 1076 0) (S 1007 0) ((S 55 ((S 1092 0) - 1))) ((S 56 ((S 1092 0) - 1))) ∧ sm_FW (S 44) (S 1076 0) (S 59 ((S 1092 0) - 1)) ∧ sm_FL (S 53) (S 54) (S 55) (S 56) (S 57) (S 58) (S 59) (S 60) (S 61) (S 62) (S 63) (S 64) (S 27) (S 29) (S 1100007) (S 1100023) (S 1100024) (S 1100025) (S 26) (S 1100029) (S 44) (S 1046 0) (S 1032 0) (S 1076 0) (S 1007 0) (((S 1092 0) - 1)) ∧ (S 58 ((S 1092 0) - 1)) = (S 1100007 (S 57 ((S 1092 0) - 1))) ∧ sm_SK (S 63) (S 64) (S 44) (S 1100007) (S 1100025) (S 1076 0) (S 1007 0) (400 * ((S 1092 0) - 1)) ((S 58 ((S 1092 0) - 1))) ((S 1100025 (S 57 ((S 1092 0) - 1)))) ∧ sm_VO (S 44) (S 1076 0) (S 1007 0) (s3) (s5) ∧ (0 ≤ (S 1100023 (S 57 ((S 1092 0) - 1))) → (S 1100007 (S 1100023 (S 57 ((S 1092 0) - 1)))) ≤ (S 58 ((S 1092 0) - 1)))) ∧ (∀ g170 : sv_S, (((S 1075 0) = 0 → (g170 1073 0) = 1 → (S 1073 0) = 1 ∧ 1 ≤ (g170 1092 0) ∧ (g170 1092 0) ≤ 24 ∧ 0 ≤ (g170 57 ((g170 1092 0) - 1)) ∧ (g170 57 ((g170 1092 0) - 1)) < (S 1046 0) ∧ (S 29 (g170 57 ((g170 1092 0) - 1))) = (S 53 ((g170 1092 0) - 1)) ∧ 0 ≤ (S 53 ((g170 1092 0) - 1)) ∧ (S 53 ((g170 1092 0) - 1)) < (S 1032 0) ∧ (g170 60 ((g170 1092 0) - 1)) = sm_dp (S 1100024) (S 1100023 (g170 57 ((g170 1092 0) - 1))) ∧ sm_TC (S 61) (S 62) (S 27) (S 1100007) (S 1100023) (S 1100024) (40 * ((g170 1092 0) - 1)) (S 1100023 (g170 57 ((g170 1092 0) - 1))) ∧ sm_LK (S 1100029) (S 1076 0) (S 54 ((g170 1092 0) - 1)) (S 53 ((g170 1092 0) - 1)) ∧ sm_VO (S 44) (S 1076 0) (S 1007 0) ((S 55 ((g170 1092 0) - 1))) ((S 56 ((g170 1092 0) - 1))) ∧ sm_FW (S 44) (S 1076 0) (S 59 ((g170 1092 0) - 1)) ∧ sm_FL (S 53) (S 54) (S 55) (S 56) (g170 57) (g170 58) (S 59) (g170 60) (S 61) (S 62) (g170 63) (g170 64) (S 27) (S 29) (S 1100007) (S 1100023) (S 1100024) (S 1100025) (S 26) (S 1100029) (S 44) (S 1046 0) (S 1032 0) (S 1076 0) (S 1007 0) (((g170 1092 0) - 1)) ∧ (g170 58 ((g170 1092 0) - 1)) = (S 1100007 (g170 57 ((g170 1092 0) - 1))) ∧ sm_SK (g170 63) (g170 64) (S 44) (S 1100007) (S 1100025) (S 1076 0) (S 1007 0) (400 * ((g170 1092 0) - 1)) ((g170 58 ((g170 1092 0) - 1))) ((S 1100025 (g170 57 ((g170 1092 0) - 1))))) ∧ ((g170 1073 0) = (S 1073 0) ∨ (g170 1073 0) = 3) ∧ (g170 1092 0) ≤ (S 1092 0) ∧ (0 ≤ (S 1092 0) → 0 ≤ (g170 1092 0))) → (sm_PL (S 1100020) (S 51) (S 52) (S 46) (S 47) (S 1076 0) (S 1086 0) ∧ sm_FR (S 1100020) (S 52) (S 1100021) (S 1100022) (3000 - (S 1084 0)) (S 1085 0) ∧ sm_PV (S 1100020) (S 48) (S 49) (S 50) (S 44) (S 1076 0) (S 1007 0) ∧ sm_AL (S 1100020) (S 48) (S 49) (S 50) (S 44) (S 1076 0) (S 1100032 0) ∧ sm_SV (S 1100020) (S 48) (S 1100029) (S 32) (S 33) (S 1076 0) (S 1032 0) ∧ 0 ≤ (S 1076 0) ∧ (S 1076 0) ≤ 300 ∧ 0 ≤ (S 1084 0) ∧ (S 1084 0) ≤ 3000 ∧ 0 ≤ (S 1086 0) ∧ sm_SC (S 1100029) (S 44) (S 45) (S 43) (S 21) (S 1076 0) (S 1032 0) ∧ sm_PO (S 42) (S 1076 0) ∧ ((S 1075 0) = 0 → (S 1100032 0) = -1) ∧ 23 ≤ (S 1076 0) ∧ 31 ≤ (S 1007 0) ∧ (S 1007 0) ≤ 400 ∧ sm_LN (S 4) 400 ∧ (S 1008 0) ≤ (S 1007 0) ∧ ((S 1075 0) = 1 → (S 1075 0) = 1) ∧ 0 ≤ (g170 1092 0) ∧ (g170 1092 0) ≤ 24 ∧ ((S 1075 0) = 0 → (g170 1073 0) = 1 → 1 ≤ (g170 1092 0) ∧ (g170 1092 0) ≤ 24 ∧ 0 ≤ (g170 57 ((g170 1092 0) - 1)) ∧ (g170 57 ((g170 1092 0) - 1)) < (S 1046 0) ∧ (S 29 (g170 57 ((g170 1092 0) - 1))) = (S 53 ((g170 1092 0) - 1)) ∧ 0 ≤ (S 53 ((g170 1092 0) - 1)) ∧ (S 53 ((g170 1092 0) - 1)) < (S 1032 0) ∧ (g170 60 ((g170 1092 0) - 1)) = sm_dp (S 1100024) (S 1100023 (g170 57 ((g170 1092 0) - 1))) ∧ sm_TC (S 61) (S 62) (S 27) (S 1100007) (S 1100023) (S 1100024) (40 * ((g170 1092 0) - 1)) (S 1100023 (g170 57 ((g170 1092 0) - 1))) ∧ sm_LK (S 1100029) (S 1076 0) (S 54 ((g170 1092 0) - 1)) (S 53 ((g170 1092 0) - 1)) ∧ sm_VO (S 44) (S 1076 0) (S 1007 0) ((S 55 ((g170 1092 0) - 1))) ((S 56 ((g170 1092 0) - 1))) ∧ sm_FW (S 44) (S 1076 0) (S 59 ((g170 1092 0) - 1)) ∧ sm_FL (S 53) (S 54) (S 55) (S 56) (g170 57) (g170 58) (S 59) (g170 60) (S 61) (S 62) (g170 63) (g170 64) (S 27) (S 29) (S 1100007) (S 1100023) (S 1100024) (S 1100025) (S 26) (S 1100029) (S 44) (S 1046 0) (S 1032 0) (S 1076 0) (S 1007 0) (((g170 1092 0) - 1)) ∧ (g170 58 ((g170 1092 0) - 1)) = (S 1100007 (g170 57 ((g170 1092 0) - 1))) ∧ sm_SK (g170 63) (g170 64) (S 44) (S 1100007) (S 1100025) (S 1076 0) (S 1007 0) (400 * ((g170 1092 0) - 1)) ((g170 58 ((g170 1092 0) - 1))) ((S 1100025 (g170 57 ((g170 1092 0) - 1))))))))))) ∧ ((p1 = (27 : Int)) → ((sm_CT (S 26) (S 27) (S 28) (S 29) (S 1100007) (S 1100023) (S 1100024) (S 1100025) (S 21) (S 1046 0) (S 1032 0) (S 1008 0) (S 1055 0) → 0 ≤ (S 1100033 0) → (S 1100033 0) < (S 1046 0) → ((S 26 (S 1100033 0)) = 27 → (S 1100024 (S 1100033 0)) < 40 ∧ (0 ≤ ((S 1100007 (S 1100033 0))) ∧ (0 ≤ (S 1100023 (S 1100033 0)) → (S 1100007 (S 1100023 (S 1100033 0))) ≤ ((S 1100007 (S 1100033 0)))) ∧ (0 ≤ (S 1100025 (S 1100033 0)) → (S 1100007 (S 1100025 (S 1100033 0))) ≤ ((S 1100007 (S 1100033 0))))) ∧ (0 ≤ ((S 1100033 0) + 1) ∧ ((S 1100033 0) + 1) < (S 1046 0) ∧ (S 29 ((S 1100033 0) + 1)) = ((S 29 (S 1100033 0))) ∧ (S 1100007 ((S 1100033 0) + 1)) = ((S 1100007 (S 1100033 0))) ∧ (S 1100023 ((S 1100033 0) + 1)) = (S 1100033 0) ∧ (S 1100025 ((S 1100033 0) + 1)) = ((S 1100025 (S 1100033 0)))) ∧ (0 ≤ ((S 27 (S 1100033 0))) ∧ ((S 27 (S 1100033 0))) < (S 1046 0) ∧ (S 29 ((S 27 (S 1100033 0)))) = ((S 29 (S 1100033 0))) ∧ (S 1100007 ((S 27 (S 1100033 0)))) = ((S 1100007 (S 1100033 0)) + 1) ∧ (S 1100023 ((S 27 (S 1100033 0)))) = ((S 1100023 (S 1100033 0))) ∧ (S 1100025 ((S 27 (S 1100033 0)))) = ((S 1100025 (S 1100033 0)))))) → ((sm_CT (S 26) (S 27) (S 28) (S 29) (S 1100007) (S 1100023) (S 1100024) (S 1100025) (S 21) (S 1046 0) (S 1032 0) (S 1008 0) (S 1055 0) → 0 ≤ (S 1100033 0) → (S 1100033 0) < (S 1046 0) → (S 1100024 (S 1100033 0)) = sm_dp (S 1100024) (S 1100023 (S 1100033 0))) → ((sm_CT (S 26) (S 27) (S 28) (S 29) (S 1100007) (S 1100023) (S 1100024) (S 1100025) (S 21) (S 1046 0) (S 1032 0) (S 1008 0) (S 1055 0) → 0 ≤ (S 1100033 0) → (S 1100033 0) < (S 1046 0) → 0 ≤ (S 1100024 (S 1100033 0)) ∧ (S 1100024 (S 1100033 0)) ≤ 40) → ((0 ≤ (S 1100033 0) → sm_dp (S 1100024) (S 1100033 0) = (S 1100024 (S 1100033 0)) + 1) → (0 ≤ ((S 1092 0) - (1 : Int)) ∧ ((S 1092 0) - (1 : Int)) < 24) ∧ (sv_R (S 60 ((S 1092 0) - (1 : Int))) → (0 ≤ (((40 : Int) * ((S 1092 0) - (1 : Int))) + (S 60 ((S 1092 0) - (1 : Int)))) ∧ (((40 : Int) * ((S 1092 0) - (1 : Int))) + (S 60 ((S 1092 0) - (1 : Int)))) < 960) ∧ (sv_R (S 58 ((S 1092 0) - (1 : Int))) → ((sm_TC (S 61) (S 62) (S 27) (S 1100007) (S 1100023) (S 1100024) (40 * ((S 1092 0) - 1)) (S 1100023 (S 1100033 0)) → 0 ≤ (S 1100033 0) → -1 ≤ (S 1100023 (S 1100033 0)) ∧ (S 1100023 (S 1100033 0)) < (S 1100033 0) → (S 1100024 (S 1100033 0)) = sm_dp (S 1100024) (S 1100023 (S 1100033 0)) → p2 = (S 27 (S 1100033 0)) → (S 58 ((S 1092 0) - 1)) = (S 1100007 (S 1100033 0)) → 40 * ((S 1092 0) - 1) + (S 60 ((S 1092 0) - 1)) = 40 * ((S 1092 0) - 1) + (S 1100024 (S 1100033 0)) → sm_TC (fun i' : Int => if i' = (((40 : Int) * ((S 1092 0) - (1 : Int))) + (S 60 ((S 1092 0) - (1 : Int)))) then p2 else (S 61) i') (fun i' : Int => if i' = (((40 : Int) * ((S 1092 0) - (1 : Int))) + (S 60 ((S 1092 0) - (1 : Int)))) then (S 58 ((S 1092 0) - (1 : Int))) else (S 62) i') (S 27) (S 1100007) (S 1100023) (S 1100024) (40 * ((S 1092 0) - 1)) (S 1100033 0)) → (sv_R ((S 60 ((S 1092 0) - (1 : Int))) + (1 : Int))) ∧ (1 ≤ (S 1092 0) ∧ (S 1092 0) ≤ 24 ∧ 0 ≤ (S 57 ((S 1092 0) - 1)) ∧ (S 57 ((S 1092 0) - 1)) ≤ 600) ∧ (∀ g192 : sv_S, ((g192 57 ((S 1092 0) - 1)) = (S 57 ((S 1092 0) - 1)) + 1 ∧ (∀ k : Int, ¬ k = (S 1092 0) - 1 → (g192 57 k) = (S 57 k))) → (sm_PL (S 1100020) (S 51) (S 52) (S 46) (S 47) (S 1076 0) (S 1086 0) ∧ sm_FR (S 1100020) (S 52) (S 1100021) (S 1100022) (3000 - (S 1084 0)) (S 1085 0) ∧ sm_PV (S 1100020) (S 48) (S 49) (S 50) (S 44) (S 1076 0) (S 1007 0) ∧ sm_AL (S 1100020) (S 48) (S 49) (S 50) (S 44) (S 1076 0) (S 1100032 0) ∧ sm_SV (S 1100020) (S 48) (S 1100029) (S 32) (S 33) (S 1076 0) (S 1032 0) ∧ 0 ≤ (S 1076 0) ∧ (S 1076 0) ≤ 300 ∧ 0 ≤ (S 1084 0) ∧ (S 1084 0) ≤ 3000 ∧ 0 ≤ (S 1086 0) ∧ sm_SC (S 1100029) (S 44) (S 45) (S 43) (S 21) (S 1076 0) (S 1032 0) ∧ sm_PO (S 42) (S 1076 0) ∧ ((S 1075 0) = 0 → (S 1100032 0) = -1) ∧ 23 ≤ (S 1076 0) ∧ 31 ≤ (S 1007 0) ∧ (S 1007 0) ≤ 400 ∧ sm_LN (S 4) 400 ∧ (S 1008 0) ≤ (S 1007 0) ∧ ((S 1075 0) = 1 → (S 1075 0) = 1) ∧ 0 ≤ (S 1092 0) ∧ (S 1092 0) ≤ 24 ∧ ((S 1075 0) = 0 → (S 1073 0) = 1 → 1 ≤ (S 1092 0) ∧ (S 1092 0) ≤ 24 ∧ 0 ≤ (g192 57 ((S 1092 0) - 1)) ∧ (g192 57 ((S 1092 0) - 1)) < (S 1046 0) ∧ (S 29 (g192 57 ((S 1092 0) - 1))) = (S 53 ((S 1092 0) - 1)) ∧ 0 ≤ (S 53 ((S 1092 0) - 1)) ∧ (S 53 ((S 1092 0) - 1)) < (S 1032 0) ∧ (if ((S 1092 0) - 1) = ((S 1092 0) - (1 : Int)) then ((S 60 ((S 1092 0) - (1 : Int))) + (1 : Int)) else (S 60 ((S 1092 0) - 1))) = sm_dp (S 1100024) (S 1100023 (g192 57 ((S 1092 0) - 1))) ∧ sm_TC (fun i' : Int => if i' = (((40 : Int) * ((S 1092 0) - (1 : Int))) + (S 60 ((S 1092 0) - (1 : Int)))) then p2 else (S 61) i') (fun i' : Int => if i' = (((40 : Int) * ((S 1092 0) - (1 : Int))) + (S 60 ((S 1092 0) - (1 : Int)))) then (S 58 ((S 1092 0) - (1 : Int))) else (S 62) i') (S 27) (S 1100007) (S 1100023) (S 1100024) (40 * ((S 1092 0) - 1)) (S 1100023 (g192 57 ((S 1092 0) - 1))) ∧ sm_LK (S 1100029) (S 1076 0) (S 54 ((S 1092 0) - 1)) (S 53 ((S 1092 0) - 1)) ∧ sm_VO (S 44) (S 1076 0) (S 1007 0) ((S 55 ((S 1092 0) - 1))) ((S 56 ((S 1092 0) - 1))) ∧ sm_FW (S 44) (S 1076 0) (S 59 ((S 1092 0) - 1)) ∧ sm_FL (S 53) (S 54) (S 55) (S 56) (g192 57) (S 58) (S 59) (fun i' : Int => if i' = ((S 1092 0) - (1 : Int)) then ((S 60 ((S 1092 0) - (1 : Int))) + (1 : Int)) else (S 60) i') (fun i' : Int => if i' = (((40 : Int) * ((S 1092 0) - (1 : Int))) + (S 60 ((S 1092 0) - (1 : Int)))) then p2 else (S 61) i') (fun i' : Int => if i' = (((40 : Int) * ((S 1092 0) - (1 : Int))) + (S 60 ((S 1092 0) - (1 : Int)))) then (S 58 ((S 1092 0) - (1 : Int))) else (S 62) i') (S 63) (S 64) (S 27) (S 29) (S 1100007) (S 1100023) (S 1100024) (S 1100025) (S 26) (S 1100029) (S 44) (S 1046 0) (S 1032 0) (S 1076 0) (S 1007 0) (((S 1092 0) - 1)) ∧ (S 58 ((S 1092 0) - 1)) = (S 1100007 (g192 57 ((S 1092 0) - 1))) ∧ sm_SK (S 63) (S 64) (S 44) (S 1100007) (S 1100025) (S 1076 0) (S 1007 0) (400 * ((S 1092 0) - 1)) ((S 58 ((S 1092 0) - 1))) ((S 1100025 (g192 57 ((S 1092 0) - 1))))))))))))))) ∧ ((p1 = (28 : Int)) → ((sm_CT (S 26) (S 27) (S 28) (S 29) (S 1100007) (S 1100023) (S 1100024) (S 1100025) (S 21) (S 1046 0) (S 1032 0) (S 1008 0) (S 1055 0) → 0 ≤ (S 1100033 0) → (S 1100033 0) < (S 1046 0) → ((S 26 (S 1100033 0)) = 28 → 0 ≤ (S 1100023 (S 1100033 0)) ∧ (0 ≤ ((S 1100007 (S 1100033 0))) ∧ (0 ≤ (S 1100023 (S 1100033 0)) → (S 1100007 (S 1100023 (S 1100033 0))) ≤ ((S 1100007 (S 1100033 0)))) ∧ (0 ≤ (S 1100025 (S 1100033 0)) → (S 1100007 (S 1100025 (S 1100033 0))) ≤ ((S 1100007 (S 1100033 0))))) ∧ (0 ≤ ((S 1100033 0) + 1) ∧ ((S 1100033 0) + 1) < (S 1046 0) ∧ (S 29 ((S 1100033 0) + 1)) = ((S 29 (S 1100033 0))) ∧ (S 1100007 ((S 1100033 0) + 1)) = ((S 1100007 (S 1100033 0))) ∧ (S 1100023 ((S 1100033 0) + 1)) = ((S 1100023 ((S 1100023 (S 1100033 0))))) ∧ (S 1100025 ((S 1100033 0) + 1)) = ((S 1100025 (S 1100033 0)))))) → ((sm_CT (S 26) (S 27) (S 28) (S 29) (S 1100007) (S 1100023) (S 1100024) (S 1100025) (S 21) (S 1046 0) (S 1032 0) (S 1008 0) (S 1055 0) → 0 ≤ (S 1100033 0) → (S 1100033 0) < (S 1046 0) → (0 ≤ (S 1100023 (S 1100033 0)) → (S 26 ((S 1100023 (S 1100033 0)))) = 27 ∧ (S 29 ((S 1100023 (S 1100033 0)))) = (S 29 (S 1100033 0)) ∧ (S 1100024 (S 1100033 0)) = (S 1100024 ((S 1100023 (S 1100033 0)))) + 1)) → ((sm_CT (S 26) (S 27) (S 28) (S 29) (S 1100007) (S 1100023) (S 1100024) (S 1100025) (S 21) (S 1046 0) (S 1032 0) (S 1008 0) (S 1055 0) → sm_TC (S 61) (S 62) (S 27) (S 1100007) (S 1100023) (S 1100024) (40 * ((S 1092 0) - 1)) (S 1100023 (S 1100033 0)) → 0 ≤ (S 1100023 (S 1100033 0)) → (S 1100023 (S 1100033 0)) < (S 1046 0) → (S 26 (S 1100023 (S 1100033 0))) = 27 → (0 ≤ (S 1100024 (S 1100023 (S 1100033 0))) ∧ (S 1100024 (S 1100023 (S 1100033 0))) < 40 ∧ sm_dp (S 1100024) (S 1100023 (S 1100033 0)) = (S 1100024 (S 1100023 (S 1100033 0))) + 1 ∧ (S 1100024 (S 1100023 (S 1100033 0))) = sm_dp (S 1100024) (S 1100023 (S 1100023 (S 1100033 0))) ∧ -1 ≤ (S 1100023 (S 1100023 (S 1100033 0))) ∧ (S 1100023 (S 1100023 (S 1100033 0))) < (S 1100023 (S 1100033 0))) ∧ ((S 61 (40 * ((S 1092 0) - 1) + (S 1100024 (S 1100023 (S 1100033 0))))) = (S 27 (S 1100023 (S 1100033 0))) ∧ (S 62 (40 * ((S 1092 0) - 1) + (S 1100024 (S 1100023 (S 1100033 0))))) = (S 1100007 (S 1100023 (S 1100033 0))) ∧ 0 ≤ (S 1100007 (S 1100023 (S 1100033 0))) ∧ (S 1100007 (S 1100023 (S 1100033 0))) ≤ 396) ∧ (0 ≤ (S 27 (S 1100023 (S 1100033 0))) ∧ (S 27 (S 1100023 (S 1100033 0))) < (S 1046 0) ∧ (S 29 (S 27 (S 1100023 (S 1100033 0)))) = (S 29 (S 1100023 (S 1100033 0))) ∧ (S 1100007 (S 27 (S 1100023 (S 1100033 0)))) = (S 1100007 (S 1100023 (S 1100033 0))) + 1 ∧ (S 1100023 (S 27 (S 1100023 (S 1100033 0)))) = (S 1100023 (S 1100023 (S 1100033 0))) ∧ (S 1100025 (S 27 (S 1100023 (S 1100033 0)))) = (S 1100025 (S 1100023 (S 1100033 0)))) ∧ sm_TC (S 61) (S 62) (S 27) (S 1100007) (S 1100023) (S 1100024) (40 * ((S 1092 0) - 1)) (S 1100023 (S 1100023 (S 1100033 0))) ∧ (-1 ≤ (S 1100025 (S 1100023 (S 1100033 0))) ∧ (S 1100025 (S 1100023 (S 1100033 0))) < (S 1100023 (S 1100033 0)) ∧ (0 ≤ (S 1100025 (S 1100023 (S 1100033 0))) → (S 26 (S 1100025 (S 1100023 (S 1100033 0)))) = 29 ∧ (S 1100007 (S 1100025 (S 1100023 (S 1100033 0)))) ≤ (S 1100007 (S 1100023 (S 1100033 0)))))) → (0 ≤ ((S 1092 0) - (1 : Int)) ∧ ((S 1092 0) - (1 : Int)) < 24) ∧ (sv_R (S 60 ((S 1092 0) - (1 : Int))) → (sv_R ((S 60 ((S 1092 0) - (1 : Int))) - (1 : Int))) ∧ (1 ≤ (S 1092 0) ∧ (S 1092 0) ≤ 24 ∧ 0 ≤ (S 57 ((S 1092 0) - 1)) ∧ (S 57 ((S 1092 0) - 1)) ≤ 600) ∧ (∀ g206 : sv_S, ((g206 57 ((S 1092 0) - 1)) = (S 57 ((S 1092 0) - 1)) + 1 ∧ (∀ k : Int, ¬ k = (S 1092 0) - 1 → (g206 57 k) = (S 57 k))) → (sm_PL (S 1100020) (S 51) (S 52) (S 46) (S 47) (S 1076 0) (S 1086 0) ∧ sm_FR (S 1100020) (S 52) (S 1100021) (S 1100022) (3000 - (S 1084 0)) (S 1085 0) ∧ sm_PV (S 1100020) (S 48) (S 49) (S 50) (S 44) (S 1076 0) (S 1007 0) ∧ sm_AL (S 1100020) (S 48) (S 49) (S 50) (S 44) (S 1076 0) (S 1100032 0) ∧ sm_SV (S 1100020) (S 48) (S 1100029) (S 32) (S 33) (S 1076 0) (S 1032 0) ∧ 0 ≤ (S 1076 0) ∧ (S 1076 0) ≤ 300 ∧ 0 ≤ (S 1084 0) ∧ (S 1084 0) ≤ 3000 ∧ 0 ≤ (S 1086 0) ∧ sm_SC (S 1100029) (S 44) (S 45) (S 43) (S 21) (S 1076 0) (S 1032 0) ∧ sm_PO (S 42) (S 1076 0) ∧ ((S 1075 0) = 0 → (S 1100032 0) = -1) ∧ 23 ≤ (S 1076 0) ∧ 31 ≤ (S 1007 0) ∧ (S 1007 0) ≤ 400 ∧ sm_LN (S 4) 400 ∧ (S 1008 0) ≤ (S 1007 0) ∧ ((S 1075 0) = 1 → (S 1075 0) = 1) ∧ 0 ≤ (S 1092 0) ∧ (S 1092 0) ≤ 24 ∧ ((S 1075 0) = 0 → (S 1073 0) = 1 → 1 ≤ (S 1092 0) ∧ (S 1092 0) ≤ 24 ∧ 0 ≤ (g206 57 ((S 1092 0) - 1)) ∧ (g206 57 ((S 1092 0) - 1)) < (S 1046 0) ∧ (S 29 (g206 57 ((S 1092 0) - 1))) = (S 53 ((S 1092 0) - 1)) ∧ 0 ≤ (S 53 ((S 1092 0) - 1)) ∧ (S 53 ((S 1092 0) - 1)) < (S 1032 0) ∧ (if ((S 1092 0) - 1) = ((S 1092 0) - (1 : Int)) then ((S 60 ((S 1092 0) - (1 : Int))) - (1 : Int)) else (S 60 ((S 1092 0) - 1))) = sm_dp (S 1100024) (S 1100023 (g206 57 ((S 1092 0) - 1))) ∧ sm_TC (S 61) (S 62) (S 27) (S 1100007) (S 1100023) (S 1100024) (40 * ((S 1092 0) - 1)) (S 1100023 (g206 57 ((S 1092 0) - 1))) ∧ sm_LK (S 1100029) (S 1076 0) (S 54 ((S 1092 0) - 1)) (S 53 ((S 1092 0) - 1)) ∧ sm_VO (S 44) (S 1076 0) (S 1007 0) ((S 55 ((S 1092 0) - 1))) ((S 56 ((S 1092 0) - 1))) ∧ sm_FW (S 44) (S 1076 0) (S 59 ((S 1092 0) - 1)) ∧ sm_FL (S 53) (S 54) (S 55) (S 56) (g206 57) (S 58) (S 59) (fun i' : Int => if i' = ((S 1092 0) - (1 : Int)) then ((S 60 ((S 1092 0) - (1 : Int))) - (1 : Int)) else (S 60) i') (S 61) (S 62) (S 63) (S 64) (S 27) (S 29) (S 1100007) (S 1100023) (S 1100024) (S 1100025) (S 26) (S 1100029) (S 44) (S 1046 0) (S 1032 0) (S 1076 0) (S 1007 0) (((S 1092 0) - 1)) ∧ (S 58 ((S 1092 0) - 1)) = (S 1100007 (g206 57 ((S 1092 0) - 1))) ∧ sm_SK (S 63) (S 64) (S 44) (S 1100007) (S 1100025) (S 1076 0) (S 1007 0) (400 * ((S 1092 0) - 1)) ((S 58 ((S 1092 0) - 1))) ((S 1100025 (g206 57 ((S 1092 0) - 1)))))))))))) ∧ ((p1 = (29 : Int)) → ((sm_CT (S 26) (S 27) (S 28) (S 29) (S 1100007) (S 1100023) (S 1100024) (S 1100025) (S 21) (S 1046 0) (S 1032 0) (S 1008 0) (S 1055 0) → 0 ≤ (S 1100033 0) → (S 1100033 0) < (S 1046 0) → ((S 26 (S 1100033 0)) = 29 → (0 ≤ ((S 1100007 (S 1100033 0)) - 1) ∧ (0 ≤ (S 1100023 (S 1100033 0)) → (S 1100007 (S 1100023 (S 1100033 0))) ≤ ((S 1100007 (S 1100033 0)) - 1)) ∧ (0 ≤ (S 1100025 (S 1100033 0)) → (S 1100007 (S 1100025 (S 1100033 0))) ≤ ((S 1100007 (S 1100033 0)) - 1))) ∧ (0 ≤ ((S 1100033 0) + 1) ∧ ((S 1100033 0) + 1) < (S 1046 0) ∧ (S 29 ((S 1100033 0) + 1)) = ((S 29 (S 1100033 0))) ∧ (S 1100007 ((S 1100033 0) + 1)) = ((S 1100007 (S 1100033 0))) ∧ (S 1100023 ((S 1100033 0) + 1)) = ((S 1100023 (S 1100033 0))) ∧ (S 1100025 ((S 1100033 0) + 1)) = (S 1100033 0)))) → (((S 1100034 0) = (S 1100025 (S 1100033 0)) → (S 58 ((S 1092 0) - 1)) = (S 1100007 (S 1100033 0)) → (0 ≤ (S 1100025 (S 1100033 0)) → (S 1100007 (S 1100025 (S 1100033 0))) ≤ (S 1100007 (S 1100033 0)) - 1) → (0 ≤ (S 1100034 0) → (S 1100007 (S 1100034 0)) ≤ (S 58 ((S 1092 0) - 1)) - 1)) → ((sm_SK (S 63) (S 64) (S 44) (S 1100007) (S 1100025) (S 1076 0) (S 1007 0) (400 * ((S 1092 0) - 1)) ((S 58 ((S 1092 0) - 1))) ((S 1100034 0)) → sm_LS (S 26) (S 1100007) (S 1100025) (S 1046 0) → 0 ≤ (S 58 ((S 1092 0) - 1)) - 1 → (S 58 ((S 1092 0) - 1)) - 1 < (S 58 ((S 1092 0) - 1)) → (S 1100034 0) < (S 1046 0) → (S 1100034 0) = (S 1100025 (S 1100033 0)) → (S 58 ((S 1092 0) - 1)) = (S 1100007 (S 1100033 0)) → (0 ≤ (S 1100034 0) → (S 26 (S 1100034 0)) = 29) → (0 ≤ (S 1100025 (S 1100033 0)) → (S 1100007 (S 1100025 (S 1100033 0))) ≤ (S 1100007 (S 1100033 0)) - 1) → sm_VO (S 44) (S 1076 0) (S 1007 0) ((S 63 (400 * ((S 1092 0) - 1) + ((S 58 ((S 1092 0) - 1)) - 1)))) ((S 64 (400 * ((S 1092 0) - 1) + ((S 58 ((S 1092 0) - 1)) - 1))))) → (1 ≤ (S 1092 0) ∧ (S 1092 0) ≤ 24 ∧ 0 ≤ (S 58 ((S 1092 0) - 1)) ∧ (S 58 ((S 1092 0) - 1)) ≤ 400 ∧ 0 ≤ (1 : Int) ∧ (1 : Int) ≤ (S 58 ((S 1092 0) - 1))) ∧ (∀ g215 : sv_S, ((g215 58 ((S 1092 0) - 1)) = (S 58 ((S 1092 0) - 1)) - (1 : Int) ∧ (∀ k : Int, ¬ k = (S 1092 0) - 1 → (g215 58 k) = (S 58 k))) → (1 ≤ (S 1092 0) ∧ (S 1092 0) ≤ 24 ∧ 0 ≤ (g215 58 ((S 1092 0) - 1)) ∧ (g215 58 ((S 1092 0) - 1)) ≤ 400) ∧ (0 ≤ ((400 * ((S 1092 0) - 1) + (g215 58 ((S 1092 0) - 1)))) ∧ ((400 * ((S 1092 0) - 1) + (g215 58 ((S 1092 0) - 1)))) < 9600) ∧ (sv_R (S 1086 0) → (((¬ s3 = (7 : Int)) → (1 ≤ (S 1092 0) ∧ (S 1092 0) ≤ 24 ∧ 0 ≤ (g215 58 ((S 1092 0) - 1)) ∧ (g215 58 ((S 1092 0) - 1)) ≤ 400 ∧ (g215 58 ((S 1092 0) - 1)) < 400) ∧ (∀ g228 : sv_S, ((g228 58 ((S 1092 0) - 1)) = (g215 58 ((S 1092 0) - 1)) + 1 ∧ (g228 63 (400 * ((S 1092 0) - 1) + (g215 58 ((S 1092 0) - 1)))) = (8 : Int) ∧ (g228 64 (400 * ((S 1092 0) - 1) + (g215 58 ((S 1092 0) - 1)))) = (-1 : Int) ∧ (∀ k : Int, ¬ k = (S 1092 0) - 1 → (g228 58 k) = (g215 58 k)) ∧ (∀ k : Int, ¬ k = (400 * ((S 1092 0) - 1) + (g215 58 ((S 1092 0) - 1))) → (g228 63 k) = (S 63 k)) ∧ (∀ k : Int, ¬ k = (400 * ((S 1092 0) - 1) + (g215 58 ((S 1092 0) - 1))) → (g228 64 k) = (S 64 k))) → (1 ≤ (S 1092 0) ∧ (S 1092 0) ≤ 24 ∧ 0 ≤ (S 57 ((S 1092 0) - 1)) ∧ (S 57 ((S 1092 0) - 1)) ≤ 600) ∧ (∀ g234 : sv_S, ((g234 57 ((S 1092 0) - 1)) = (S 57 ((S 1092 0) - 1)) + 1 ∧ (∀ k : Int, ¬ k = (S 1092 0) - 1 → (g234 57 k) = (S 57 k))) → (sm_PL (S 1100020) (S 51) (S 52) (S 46) (S 47) (S 1076 0) (S 1086 0) ∧ sm_FR (S 1100020) (S 52) (S 1100021) (S 1100022) (3000 - (S 1084 0)) (S 1085 0) ∧ sm_PV (S 1100020) (S 48) (S 49) (S 50) (S 44) (S 1076 0) (S 1007 0) ∧ sm_AL (S 1100020) (S 48) (S 49) (S 50) (S 44) (S 1076 0) (S 1100032 0) ∧ sm_SV (S 1100020) (S 48) (S 1100029) (S 32) (S 33) (S 1076 0) (S 1032 0) ∧ 0 ≤ (S 1076 0) ∧ (S 1076 0) ≤ 300 ∧ 0 ≤ (S 1084 0) ∧ (S 1084 0) ≤ 3000 ∧ 0 ≤ (S 1086 0) ∧ sm_SC (S 1100029) (S 44) (S 45) (S 43) (S 21) (S 1076 0) (S 1032 0) ∧ sm_PO (S 42) (S 1076 0) ∧ ((S 1075 0) = 0 → (S 1100032 0) = -1) ∧ 23 ≤ (S 1076 0) ∧ 31 ≤ (S 1007 0) ∧ (S 1007 0) ≤ 400 ∧ sm_LN (S 4) 400 ∧ (S 1008 0) ≤ (S 1007 0) ∧ ((S 1075 0) = 1 → (S 1075 0) = 1) ∧ 0 ≤ (S 1092 0) ∧ (S 1092 0) ≤ 24 ∧ ((S 1075 0) = 0 → (S 1073 0) = 1 → 1 ≤ (S 1092 0) ∧ (S 1092 0) ≤ 24 ∧ 0 ≤ (g234 57 ((S 1092 0) - 1)) ∧ (g234 57 ((S 1092 0) - 1)) < (S 1046 0) ∧ (S 29 (g234 57 ((S 1092 0) - 1))) = (S 53 ((S 1092 0) - 1)) ∧ 0 ≤ (S 53 ((S 1092 0) - 1)) ∧ (S 53 ((S 1092 0) - 1)) < (S 1032 0) ∧ (S 60 ((S 1092 0) - 1)) = sm_dp (S 1100024) (S 1100023 (g234 57 ((S 1092 0) - 1))) ∧ sm_TC (S 61) (S 62) (S 27) (S 1100007) (S 1100023) (S 1100024) (40 * ((S 1092 0) - 1)) (S 1100023 (g234 57 ((S 1092 0) - 1))) ∧ sm_LK (S 1100029) (S 1076 0) (S 54 ((S 1092 0) - 1)) (S 53 ((S 1092 0) - 1)) ∧ sm_VO (S 44) (S 1076 0) (S 1007 0) ((S 55 ((S 1092 0) - 1))) ((S 56 ((S 1092 0) - 1))) ∧ sm_FW (S 44) (S 1076 0) (S 59 ((S 1092 0) - 1)) ∧ sm_FL (S 53) (S 54) (S 55) (S 56) (g234 57) (g228 58) (S 59) (S 60) (S 61) (S 62) (g228 63) (g228 64) (S 27) (S 29) (S 1100007) (S 1100023) (S 1100024) (S 1100025) (S 26) (S 1100029) (S 44) (S 1046 0) (S 1032 0) (S 1076 0) (S 1007 0) (((S 1092 0) - 1)) ∧ (g228 58 ((S 1092 0) - 1)) = (S 1100007 (g234 57 ((S 1092 0) - 1))) ∧ sm_SK (g228 63) (g228 64) (S 44) (S 1100007) (S 1100025) (S 1076 0) (S 1007 0) (400 * ((S 1092 0) - 1)) ((g228 58 ((S 1092 0) - 1))) ((S 1100025 (g234 57 ((S 1092 0) - 1))))))))) ∧ ((¬ (¬ s3 = (7 : Int))) → (1 ≤ (S 1092 0) ∧ (S 1092 0) ≤ 24 ∧ 0 ≤ (g215 58 ((S 1092 0) - 1)) ∧ (g215 58 ((S 1092 0) - 1)) ≤ 400 ∧ (g215 58 ((S 1092 0) - 1)) < 400) ∧ (∀ g240 : sv_S, ((g240 58 ((S 1092 0) - 1)) = (g215 58 ((S 1092 0) - 1)) + 1 ∧ (g240 63 (400 * ((S 1092 0) - 1) + (g215 58 ((S 1092 0) - 1)))) = (8 : Int) ∧ (g240 64 (400 * ((S 1092 0) - 1) + (g215 58 ((S 1092 0) - 1)))) = s5 ∧ (∀ k : Int, ¬ k = (S 1092 0) - 1 → (g240 58 k) = (g215 58 k)) ∧ (∀ k : Int, ¬ k = (400 * ((S 1092 0) - 1) + (g215 58 ((S 1092 0) - 1))) → (g240 63 k) = (S 63 k)) ∧ (∀ k : Int, ¬ k = (400 * ((S 1092 0) - 1) + (g215 58 ((S 1092 0) - 1))) → (g240 64 k) = (S 64 k))) → (1 ≤ (S 1092 0) ∧ (S 1092 0) ≤ 24 ∧ 0 ≤ (S 57 ((S 1092 0) - 1)) ∧ (S 57 ((S 1092 0) - 1)) ≤ 600) ∧ (∀ g246 : sv_S, ((g246 57 ((S 1092 0) - 1)) = (S 57 ((S 1092 0) - 1)) + 1 ∧ (∀ k : Int, ¬ k = (S 1092 0) - 1 → (g246 57 k) = (S 57 k))) → (sm_PL (S 1100020) (S 51) (S 52) (S 46) (S 47) (S 1076 0) (S 1086 0) ∧ sm_FR (S 1100020) (S 52) (S 1100021) (S 1100022) (3000 - (S 1084 0)) (S 1085 0) ∧ sm_PV (S 1100020) (S 48) (S 49) (S 50) (S 44) (S 1076 0) (S 1007 0) ∧ sm_AL (S 1100020) (S 48) (S 49) (S 50) (S 44) (S 1076 0) (S 1100032 0) ∧ sm_SV (S 1100020) (S 48) (S 1100029) (S 32) (S 33) (S 1076 0) (S 1032 0) ∧ 0 ≤ (S 1076 0) ∧ (S 1076 0) ≤ 300 ∧ 0 ≤ (S 1084 0) ∧ (S 1084 0) ≤ 3000 ∧ 0 ≤ (S 1086 0) ∧ sm_SC (S 1100029) (S 44) (S 45) (S 43) (S 21) (S 1076 0) (S 1032 0) ∧ sm_PO (S 42) (S 1076 0) ∧ ((S 1075 0) = 0 → (S 1100032 0) = -1) ∧ 23 ≤ (S 1076 0) ∧ 31 ≤ (S 1007 0) ∧ (S 1007 0) ≤ 400 ∧ sm_LN (S 4) 400 ∧ (S 1008 0) ≤ (S 1007 0) ∧ ((S 1075 0) = 1 → (S 1075 0) = 1) ∧ 0 ≤ (S 1092 0) ∧ (S 1092 0) ≤ 24 ∧ ((S 1075 0) = 0 → (S 1073 0) = 1 → 1 ≤ (S 1092 0) ∧ (S 1092 0) ≤ 24 ∧ 0 ≤ (g246 57 ((S 1092 0) - 1)) ∧ (g246 57 ((S 1092 0) - 1)) < (S 1046 0) ∧ (S 29 (g246 57 ((S 1092 0) - 1))) = (S 53 ((S 1092 0) - 1)) ∧ 0 ≤ (S 53 ((S 1092 0) - 1)) ∧ (S 53 ((S 1092 0) - 1)) < (S 1032 0) ∧ (S 60 ((S 1092 0) - 1)) = sm_dp (S 1100024) (S 1100023 (g246 57 ((S 1092 0) - 1))) ∧ sm_TC (S 61) (S 62) (S 27) (S 1100007) (S 1100023) (S 1100024) (40 * ((S 1092 0) - 1)) (S 1100023 (g246 57 ((S 1092 0) - 1))) ∧ sm_LK (S 1100029) (S 1076 0) (S 54 ((S 1092 0) - 1)) (S 53 ((S 1092 0) - 1)) ∧ sm_VO (S 44) (S 1076 0) (S 1007 0) ((S 55 ((S 1092 0) - 1))) ((S 56 ((S 1092 0) - 1))) ∧ sm_FW (S 44) (S 1076 0) (S 59 ((S 1092 0) - 1)) ∧ sm_FL (S 53) (S 54) (S 55) (S 56) (g246 57) (g240 58) (S 59) (S 60) (S 61) (S 62) (g240 63) (g240 64) (S 27) (S 29) (S 1100007) (S 1100023) (S 1100024) (S 1100025) (S 26) (S 1100029) (S 44) (S 1046 0) (S 1032 0) (S 1076 0) (S 1007 0) (((S 1092 0) - 1)) ∧ (g240 58 ((S 1092 0) - 1)) = (S 1100007 (g246 57 ((S 1092 0) - 1))) ∧ sm_SK (g240 63) (g240 64) (S 44) (S 1100007) (S 1100025) (S 1076 0) (S 1007 0) (400 * ((S 1092 0) - 1)) ((g240 58 ((S 1092 0) - 1))) ((S 1100025 (g246 57 ((S 1092 0) - 1))))))))))))))))))) ∧ (((p1 = (21 : Int)) → ((p1 = 21 ∨ p1 = 27 ∨ p1 = 28) ∨ (0 : Int) = (S 64 ((400 * ((S 1092 0) - 1) + (S 58 ((S 1092 0) - 1))) - 1 - 0)))) ∧ ((¬ (p1 = (21 : Int))) → (((p1 = (27 : Int)) → ((p1 = 21 ∨ p1 = 27 ∨ p1 = 28) ∨ (0 : Int) = (S 64 ((400 * ((S 1092 0) - 1) + (S 58 ((S 1092 0) - 1))) - 1 - 0)))) ∧ ((¬ (p1 = (27 : Int))) → (((¬ p1 = (28 : Int)) → (1 ≤ (S 1092 0) ∧ (S 1092 0) ≤ 24 ∧ 0 ≤ (S 58 ((S 1092 0) - 1)) ∧ (S 58 ((S 1092 0) - 1)) ≤ 400 ∧ 0 ≤ (0 : Int) ∧ (0 : Int) < (S 58 ((S 1092 0) - 1))) ∧ ((p1 = 21 ∨ p1 = 27 ∨ p1 = 28) ∨ ((S 64 ((400 * ((S 1092 0) - 1) + (S 58 ((S 1092 0) - 1))) - 1 - (0 : Int)))) = (S 64 ((400 * ((S 1092 0) - 1) + (S 58 ((S 1092 0) - 1))) - 1 - 0)))) ∧ ((¬ (¬ p1 = (28 : Int))) → ((p1 = 21 ∨ p1 = 27 ∨ p1 = 28) ∨ (0 : Int) = (S 64 ((400 * ((S 1092 0) - 1) + (S 58 ((S 1092 0) - 1))) - 1 - 0))))))))))) ∧ ((sm_CT (S 26) (S 27) (S 28) (S 29) (S 1100007) (S 1100023) (S 1100024) (S 1100025) (S 21) (S 1046 0) (S 1032 0) (S 1008 0) (S 1055 0) → 0 ≤ (S 1100033 0) → (S 1100033 0) < (S 1046 0) → (0 ≤ (S 1100025 (S 1100033 0)) → (S 26 (S 1100025 (S 1100033 0))) = 29 ∧ (S 1100007 (S 1100025 (S 1100033 0))) ≤ (S 1100007 (S 1100033 0))) ∧ (0 ≤ (S 1100007 (S 1100033 0)) ∧ (S 1100007 (S 1100033 0)) ≤ 396 ∧ -1 ≤ (S 1100023 (S 1100033 0)) ∧ (S 1100023 (S 1100033 0)) < (S 1100033 0) ∧ -1 ≤ (S 1100025 (S 1100033 0)) ∧ (S 1100025 (S 1100033 0)) < (S 1100033 0) ∧ 0 ≤ (S 26 (S 1100033 0)) ∧ (S 26 (S 1100033 0)) ≤ 30)) → (((S 1100034 0) = (S 1100025 (S 1100033 0)) → (S 58 ((S 1092 0) - 1)) = (S 1100007 (S 1100033 0)) → (0 ≤ (S 1100025 (S 1100033 0)) → (S 1100007 (S 1100025 (S 1100033 0))) ≤ (S 1100007 (S 1100033 0))) → (0 ≤ (S 1100034 0) → (S 1100007 (S 1100034 0)) ≤ (S 58 ((S 1092 0) - 1)))) → (((p1 = (21 : Int)) → ((p1 = 21 ∨ p1 = 27 ∨ p1 = 28) ∨ (0 : Int) = (S 63 ((400 * ((S 1092 0) - 1) + (S 58 ((S 1092 0) - 1))) - 1 - 0)))) ∧ ((¬ (p1 = (21 : Int))) → (((p1 = (27 : Int)) → ((p1 = 21 ∨ p1 = 27 ∨ p1 = 28) ∨ (0 : Int) = (S 63 ((400 * ((S 1092 0) - 1) + (S 58 ((S 1092 0) - 1))) - 1 - 0)))) ∧ ((¬ (p1 = (27 : Int))) → (((¬ p1 = (28 : Int)) → (1 ≤ (S 1092 0) ∧ (S 1092 0) ≤ 24 ∧ 0 ≤ (S 58 ((S 1092 0) - 1)) ∧ (S 58 ((S 1092 0) - 1)) ≤ 400 ∧ 0 ≤ (0 : Int) ∧ (0 : Int) < (S 58 ((S 1092 0) - 1))) ∧ ((p1 = 21 ∨ p1 = 27 ∨ p1 = 28) ∨ ((S 63 ((400 * ((S 1092 0) - 1) + (S 58 ((S 1092 0) - 1))) - 1 - (0 : Int)))) = (S 63 ((400 * ((S 1092 0) - 1) + (S 58 ((S 1092 0) - 1))) - 1 - 0)))) ∧ ((¬ (¬ p1 = (28 : Int))) → ((p1 = 21 ∨ p1 = 27 ∨ p1 = 28) ∨ (0 : Int) = (S 63 ((400 * ((S 1092 0) - 1) + (S 58 ((S 1092 0) - 1))) - 1 - 0)))))))))))))) := by
  intro p1
  intro p2
  intro S
  intro h1_
  intro h2_
  intro h3_
  rintro ⟨h4_, ⟨h5_, ⟨h6_, ⟨h7_, ⟨h8_, ⟨h9_, ⟨h10_, ⟨h11_, ⟨h12_, ⟨h13_, ⟨h14_, ⟨h15_, ⟨h16_, ⟨h17_, ⟨h18_, ⟨h19_, ⟨h20_, ⟨h21_, ⟨h22_, ⟨h23_, ⟨h24_, ⟨h25_, ⟨h26_, ⟨h27_, ⟨h28_, ⟨h29_, ⟨h30_, ⟨h31_, ⟨h32_, ⟨h33_, ⟨h34_, ⟨h35_, ⟨h36_, ⟨h37_, ⟨h38_, ⟨h39_, ⟨h40_, ⟨h41_, ⟨h42_, ⟨h43_, ⟨h44_, ⟨h45_, ⟨h46_, ⟨h47_, ⟨h48_, ⟨h49_, ⟨h50_, ⟨h51_, ⟨h52_, ⟨h53_, ⟨h54_, ⟨h55_, ⟨h56_, ⟨h57_, ⟨h58_, ⟨h59_, ⟨h60_, ⟨h61_, h62_⟩⟩⟩⟩⟩⟩⟩⟩⟩⟩⟩⟩⟩⟩⟩⟩⟩⟩⟩⟩⟩⟩⟩⟩⟩⟩⟩⟩⟩⟩⟩⟩⟩⟩⟩⟩⟩⟩⟩⟩⟩⟩⟩⟩⟩⟩⟩⟩⟩⟩⟩⟩⟩⟩⟩⟩⟩⟩
  intro h63_
  have h64_ := (h63_ h23_)
  have h65_ := (h64_ h36_)
  obtain ⟨h66_, ⟨h67_, ⟨h68_, ⟨h69_, ⟨h70_, ⟨h71_, ⟨h72_, ⟨h73_, h74_⟩⟩⟩⟩⟩⟩⟩⟩ := (h65_ h37_)
  intro h75_
  have h76_ := (h75_ h55_)
  have h77_ := (h76_ h54_)
  refine ⟨?_, ?_⟩
  · skip
    intro s3
    intro h78_
    intro h79_
    refine ⟨?_, ?_⟩
    · skip
      intro s5
      intro h80_
      intro h81_
      intro h82_
      refine ⟨?_, ?_⟩
      · skip
        intro h83_
        have h84_ := (h83_.resolve_left (la_stepOther_0 h58_))
        have h85_ := (h62_.resolve_left (la_stepOther_1 h84_))
        have h86_ := (h79_.resolve_left (la_stepOther_2 h84_))
        have h87_ := (h81_.resolve_left (la_stepOther_2 h84_))
        have h88_ := (h85_.resolve_left (la_stepOther_3 h84_))
        have h89_ := (h88_.resolve_left (la_stepOther_4 h84_))
        intro h90_
        have h91_ := (h90_ h23_)
        have h92_ := (h91_ h36_)
        have h93_ := (h92_ h37_)
        obtain ⟨h94_, ⟨h95_, ⟨h96_, ⟨h97_, ⟨⟨h98_, ⟨h99_, ⟨h100_, ⟨h101_, ⟨h102_, h103_⟩⟩⟩⟩⟩, ⟨h104_, ⟨h105_, ⟨h106_, ⟨h107_, ⟨h108_, h109_⟩⟩⟩⟩⟩⟩⟩⟩⟩⟩ := (h93_ (la_stepOther_5 h60_ h74_ h84_))
        have h110_ := (h53_ (la_stepOther_6 h55_ h94_))
        obtain ⟨h111_, h112_⟩ := (h66_ h94_)
        have h113_ := (h77_ (la_stepOther_7 h95_))
        have h114_ := (h113_ (la_stepOther_6 h55_ h94_))
        intro h115_
        have h116_ := (h115_ h50_)
        have h117_ := (h116_ h24_)
        have h118_ := (h117_ (la_stepOther_6 h55_ h94_))
        have h119_ := (h118_ h52_)
        have h120_ := (h119_ h110_)
        intro h121_
        have h122_ := (h121_ h23_)
        have h123_ := (h122_ h36_)
        have h124_ := (h123_ h37_)
        obtain ⟨h125_, ⟨h126_, ⟨h127_, h128_⟩⟩⟩ := (h124_ h94_)
        refine ⟨?_, ?_⟩
        · skip
          refine ⟨h4_, ?_⟩
          refine ⟨h5_, ?_⟩
          refine ⟨h6_, ?_⟩
          refine ⟨h7_, ?_⟩
          refine ⟨h8_, ?_⟩
          refine ⟨h9_, ?_⟩
          refine ⟨h10_, ?_⟩
          refine ⟨h11_, ?_⟩
          refine ⟨h12_, ?_⟩
          refine ⟨h13_, ?_⟩
          refine ⟨h14_, ?_⟩
          refine ⟨h15_, ?_⟩
          refine ⟨h16_, ?_⟩
          refine ⟨h17_, ?_⟩
          refine ⟨h18_, ?_⟩
          refine ⟨h19_, ?_⟩
          refine ⟨h20_, ?_⟩
          refine ⟨h21_, ?_⟩
          refine ⟨h22_, ?_⟩
          refine ⟨h23_, ?_⟩
          refine ⟨h24_, ?_⟩
          refine ⟨h25_, ?_⟩
          refine ⟨h26_, ?_⟩
          refine ⟨h27_, ?_⟩
          refine ⟨h28_, ?_⟩
          refine ⟨h29_, ?_⟩
          refine ⟨h30_, ?_⟩
          refine ⟨h31_, ?_⟩
          refine ⟨h32_, ?_⟩
          refine ⟨h33_, ?_⟩
          refine ⟨h34_, ?_⟩
          refine ⟨h35_, ?_⟩
          refine ⟨h36_, ?_⟩
          refine ⟨h37_, ?_⟩
          refine ⟨h38_, ?_⟩
          refine ⟨h39_, ?_⟩
          refine ⟨h40_, ?_⟩
          refine ⟨h41_, ?_⟩
          refine ⟨h42_, ?_⟩
          refine ⟨h43_, ?_⟩
          refine ⟨h44_, ?_⟩
          refine ⟨h45_, ?_⟩
          refine ⟨h46_, ?_⟩
          refine ⟨h47_, ?_⟩
          refine ⟨h48_, ?_⟩
          refine ⟨h49_, ?_⟩
          refine ⟨h50_, ?_⟩
          refine ⟨h51_, ?_⟩
          refine ⟨h52_, ?_⟩
          refine ⟨h53_, ?_⟩
          refine ⟨h54_, ?_⟩
          refine ⟨h55_, ?_⟩
          refine ⟨h56_, ?_⟩
          refine ⟨h57_, ?_⟩
          refine ⟨(la_stepOther_6 h55_ h94_), ?_⟩
          refine ⟨h89_, ?_⟩
          refine ⟨?_, ?_⟩
          · skip
            have e129_ : S 1100007 (S 1100034 0) = S 1100007 (S 1100025 (S 1100033 0)) := congrArg ((S 1100007)) h55_
            have e130_ : S 26 (S 1100034 0) = S 26 (S 1100025 (S 1100033 0)) := congrArg ((S 26)) h55_
            have e131_ : S 63 (400 * (S 1092 0 - 1) + S 58 (S 1092 0 - 1) - 1 - 0) = S 63 (400 * (S 1092 0 - 1) + S 58 (S 1092 0 - 1) - 1) := congrArg ((S 63)) la_stepOther_8
            have e132_ : S 64 (400 * (S 1092 0 - 1) + S 58 (S 1092 0 - 1) - 1 - 0) = S 64 (400 * (S 1092 0 - 1) + S 58 (S 1092 0 - 1) - 1) := congrArg ((S 64)) la_stepOther_8
            obtain ⟨h133_, ⟨h134_, h135_⟩⟩ := (h120_ (la_stepOther_9 h54_ h95_ h114_ e129_))
            exact (la_stepOther_9 h54_ h95_ h114_ e129_)
          refine ⟨h99_, ?_⟩
          refine ⟨h100_, ?_⟩
          refine ⟨(la_stepOther_10 h54_ h101_), ?_⟩
          refine ⟨h102_, ?_⟩
          refine ⟨(la_stepOther_11 h55_ h103_), ?_⟩
          refine ⟨(la_stepOther_6 h61_ h104_), ?_⟩
          refine ⟨(la_stepOther_12 h61_ h105_), ?_⟩
          refine ⟨?_, ?_⟩
          · skip
            have e136_ : S 1100007 (S 1100034 0) = S 1100007 (S 1100025 (S 1100033 0)) := congrArg ((S 1100007)) h55_
            have e137_ : S 26 (S 1100034 0) = S 26 (S 1100025 (S 1100033 0)) := congrArg ((S 26)) h55_
            have e138_ : S 29 p2 = S 29 (S 27 (S 1100033 0)) := congrArg ((S 29)) h61_
            have e139_ : S 63 (400 * (S 1092 0 - 1) + S 58 (S 1092 0 - 1) - 1 - 0) = S 63 (400 * (S 1092 0 - 1) + S 58 (S 1092 0 - 1) - 1) := congrArg ((S 63)) la_stepOther_8
            have e140_ : S 64 (400 * (S 1092 0 - 1) + S 58 (S 1092 0 - 1) - 1 - 0) = S 64 (400 * (S 1092 0 - 1) + S 58 (S 1092 0 - 1) - 1) := congrArg ((S 64)) la_stepOther_8
            obtain ⟨h141_, ⟨h142_, h143_⟩⟩ := (h120_ (la_stepOther_9 h54_ h95_ h114_ e136_))
            exact (la_stepOther_13 h106_ e138_)
          refine ⟨?_, ?_⟩
          · skip
            have e144_ : S 1100007 (S 1100034 0) = S 1100007 (S 1100025 (S 1100033 0)) := congrArg ((S 1100007)) h55_
            have e145_ : S 1100007 p2 = S 1100007 (S 27 (S 1100033 0)) := congrArg ((S 1100007)) h61_
            have e146_ : S 26 (S 1100034 0) = S 26 (S 1100025 (S 1100033 0)) := congrArg ((S 26)) h55_
            have e147_ : S 63 (400 * (S 1092 0 - 1) + S 58 (S 1092 0 - 1) - 1 - 0) = S 63 (400 * (S 1092 0 - 1) + S 58 (S 1092 0 - 1) - 1) := congrArg ((S 63)) la_stepOther_8
            have e148_ : S 64 (400 * (S 1092 0 - 1) + S 58 (S 1092 0 - 1) - 1 - 0) = S 64 (400 * (S 1092 0 - 1) + S 58 (S 1092 0 - 1) - 1) := congrArg ((S 64)) la_stepOther_8
            obtain ⟨h149_, ⟨h150_, h151_⟩⟩ := (h120_ (la_stepOther_9 h54_ h95_ h114_ e144_))
            exact (la_stepOther_14 h54_ h107_ e145_)
          refine ⟨?_, ?_⟩
          · skip
            have e152_ : S 1100007 (S 1100034 0) = S 1100007 (S 1100025 (S 1100033 0)) := congrArg ((S 1100007)) h55_
            have e153_ : S 1100023 p2 = S 1100023 (S 27 (S 1100033 0)) := congrArg ((S 1100023)) h61_
            have e154_ : S 26 (S 1100034 0) = S 26 (S 1100025 (S 1100033 0)) := congrArg ((S 26)) h55_
            have e155_ : S 63 (400 * (S 1092 0 - 1) + S 58 (S 1092 0 - 1) - 1 - 0) = S 63 (400 * (S 1092 0 - 1) + S 58 (S 1092 0 - 1) - 1) := congrArg ((S 63)) la_stepOther_8
            have e156_ : S 64 (400 * (S 1092 0 - 1) + S 58 (S 1092 0 - 1) - 1 - 0) = S 64 (400 * (S 1092 0 - 1) + S 58 (S 1092 0 - 1) - 1) := congrArg ((S 64)) la_stepOther_8
            obtain ⟨h157_, ⟨h158_, h159_⟩⟩ := (h120_ (la_stepOther_9 h54_ h95_ h114_ e152_))
            exact (la_stepOther_13 h108_ e153_)
          have e160_ : S 1100007 (S 1100034 0) = S 1100007 (S 1100025 (S 1100033 0)) := congrArg ((S 1100007)) h55_
          have e161_ : S 1100025 (S 1100034 0) = S 1100025 (S 1100025 (S 1100033 0)) := congrArg ((S 1100025)) h55_
          have e162_ : S 1100025 p2 = S 1100025 (S 27 (S 1100033 0)) := congrArg ((S 1100025)) h61_
          have e163_ : S 26 (S 1100034 0) = S 26 (S 1100025 (S 1100033 0)) := congrArg ((S 26)) h55_
          have e164_ : S 63 (400 * (S 1092 0 - 1) + S 58 (S 1092 0 - 1) - 1 - 0) = S 63 (400 * (S 1092 0 - 1) + S 58 (S 1092 0 - 1) - 1) := congrArg ((S 63)) la_stepOther_8
          have e165_ : S 64 (400 * (S 1092 0 - 1) + S 58 (S 1092 0 - 1) - 1 - 0) = S 64 (400 * (S 1092 0 - 1) + S 58 (S 1092 0 - 1) - 1) := congrArg ((S 64)) la_stepOther_8
          obtain ⟨h166_, ⟨h167_, h168_⟩⟩ := (h120_ (la_stepOther_9 h54_ h95_ h114_ e160_))
          exact (la_stepOther_15 h109_ e161_ e162_)
        intro g12
        rintro ⟨h169_, ⟨h170_, ⟨h171_, ⟨h172_, ⟨h173_, ⟨h174_, ⟨h175_, ⟨h176_, ⟨h177_, ⟨h178_, ⟨h179_, ⟨h180_, ⟨h181_, ⟨h182_, ⟨h183_, ⟨h184_, ⟨h185_, ⟨h186_, ⟨h187_, ⟨h188_, ⟨h189_, h190_⟩⟩⟩⟩⟩⟩⟩⟩⟩⟩⟩⟩⟩⟩⟩⟩⟩⟩⟩⟩⟩
        have h191_ := (h181_ h4_)
        have h192_ := (h190_ h4_)
        obtain ⟨h193_, ⟨h194_, ⟨h195_, ⟨h196_, ⟨h197_, ⟨h198_, ⟨h199_, ⟨h200_, ⟨h201_, ⟨h202_, ⟨h203_, ⟨h204_, ⟨h205_, ⟨h206_, h207_⟩⟩⟩⟩⟩⟩⟩⟩⟩⟩⟩⟩⟩⟩ := (h192_ h5_)
        refine ⟨h6_, ?_⟩
        refine ⟨h7_, ?_⟩
        refine ⟨h8_, ?_⟩
        refine ⟨h9_, ?_⟩
        refine ⟨h10_, ?_⟩
        refine ⟨h11_, ?_⟩
        refine ⟨h12_, ?_⟩
        refine ⟨h13_, ?_⟩
        refine ⟨h14_, ?_⟩
        refine ⟨h15_, ?_⟩
        refine ⟨h16_, ?_⟩
        refine ⟨h17_, ?_⟩
        refine ⟨h181_, ?_⟩
        refine ⟨h19_, ?_⟩
        refine ⟨h20_, ?_⟩
        refine ⟨h21_, ?_⟩
        refine ⟨h22_, ?_⟩
        refine ⟨h31_, ?_⟩
        refine ⟨h187_, ?_⟩
        refine ⟨h188_, ?_⟩
        refine ⟨h35_, ?_⟩
        intro h208_
        intro h209_
        refine ⟨h34_, ?_⟩
        refine ⟨h35_, ?_⟩
        refine ⟨h195_, ?_⟩
        refine ⟨h196_, ?_⟩
        refine ⟨h197_, ?_⟩
        refine ⟨h39_, ?_⟩
        refine ⟨h40_, ?_⟩
        refine ⟨h200_, ?_⟩
        refine ⟨h201_, ?_⟩
        refine ⟨h43_, ?_⟩
        refine ⟨h44_, ?_⟩
        refine ⟨h45_, ?_⟩
        refine ⟨h205_, ?_⟩
        refine ⟨h206_, ?_⟩
        exact h207_
      refine ⟨?_, ?_⟩
      · skip
        intro h210_
        have h211_ := (h62_.resolve_left (la_stepOther_17 h210_))
        have h212_ := (h79_.resolve_left (la_stepOther_18 h210_))
        have h213_ := (h81_.resolve_left (la_stepOther_18 h210_))
        have h214_ := (h211_.resolve_left (la_stepOther_19 h210_))
        have h215_ := (h214_.resolve_left (la_stepOther_20 h210_))
        intro h216_
        have h217_ := (h216_ h23_)
        have h218_ := (h217_ h24_)
        have h219_ := (h218_ h50_)
        have h220_ := (h219_ h36_)
        have h221_ := (h220_ h37_)
        have h222_ := (h221_ (la_stepOther_21 h58_ h60_ h210_))
        have h223_ := (h222_ h55_)
        obtain ⟨h224_, ⟨h225_, ⟨h226_, ⟨h227_, ⟨h228_, ⟨h229_, h230_⟩⟩⟩⟩⟩⟩ := (h223_ h54_)
        refine ⟨(la_stepOther_22 h34_ h35_ h57_ h215_), ?_⟩
        intro g19
        rintro ⟨h231_, h232_⟩
        refine ⟨(la_stepOther_23 h29_ h34_ h35_ h36_ h47_ h225_), ?_⟩
        intro g25
        rintro ⟨h233_, h234_⟩
        refine ⟨h6_, ?_⟩
        refine ⟨h7_, ?_⟩
        refine ⟨h8_, ?_⟩
        refine ⟨h9_, ?_⟩
        refine ⟨h10_, ?_⟩
        refine ⟨h11_, ?_⟩
        refine ⟨h12_, ?_⟩
        refine ⟨h13_, ?_⟩
        refine ⟨h14_, ?_⟩
        refine ⟨h15_, ?_⟩
        refine ⟨h16_, ?_⟩
        refine ⟨h17_, ?_⟩
        refine ⟨(la_stepOther_24 h18_), ?_⟩
        refine ⟨h19_, ?_⟩
        refine ⟨h20_, ?_⟩
        refine ⟨h21_, ?_⟩
        refine ⟨h22_, ?_⟩
        refine ⟨h31_, ?_⟩
        refine ⟨(la_stepOther_25 h4_), ?_⟩
        refine ⟨(la_stepOther_26 h34_), ?_⟩
        refine ⟨h35_, ?_⟩
        intro h235_
        intro h236_
        refine ⟨h34_, ?_⟩
        refine ⟨h35_, ?_⟩
        refine ⟨(la_stepOther_27 h36_ h47_ h233_), ?_⟩
        refine ⟨(la_stepOther_28 h47_ h225_ h233_), ?_⟩
        refine ⟨?_, ?_⟩
        · skip
          have h237_ := (h232_ (S 1092 0 - 1))
          have h238_ := (h234_ (S 1092 0 - 1))
          have e239_ : S 1100007 (S 1100034 0) = S 1100007 (S 1100025 (S 1100033 0)) := congrArg ((S 1100007)) h55_
          have e240_ : S 26 (S 1100034 0) = S 26 (S 1100025 (S 1100033 0)) := congrArg ((S 26)) h55_
          have e241_ : S 29 (g25 57 (S 1092 0 - 1)) = S 29 (S 1100033 0 + 1) := congrArg ((S 29)) (la_stepOther_30 h47_ h233_)
          exact (la_stepOther_31 h38_ h226_ e241_)
        refine ⟨h39_, ?_⟩
        refine ⟨h40_, ?_⟩
        refine ⟨?_, ?_⟩
        · skip
          have h242_ := (h232_ (S 1092 0 - 1))
          have h243_ := (h234_ (S 1092 0 - 1))
          have e244_ : S 1100007 (S 1100034 0) = S 1100007 (S 1100025 (S 1100033 0)) := congrArg ((S 1100007)) h55_
          have e245_ : S 1100023 (g25 57 (S 1092 0 - 1)) = S 1100023 (S 1100033 0 + 1) := congrArg ((S 1100023)) (la_stepOther_30 h47_ h233_)
          have e246_ : S 26 (S 1100034 0) = S 26 (S 1100025 (S 1100033 0)) := congrArg ((S 26)) h55_
          have e247_ : sm_dp (S 1100024) (S 1100023 (g25 57 (S 1092 0 - 1))) = sm_dp (S 1100024) (S 1100023 (S 1100033 0)) := congrArg ((sm_dp (S 1100024))) (la_stepOther_13 h228_ e245_)
          exact (la_stepOther_32 h41_ e247_)
        refine ⟨?_, ?_⟩
        · skip
          have h248_ := (h232_ (S 1092 0 - 1))
          have h249_ := (h234_ (S 1092 0 - 1))
          have e250_ : S 1100007 (S 1100034 0) = S 1100007 (S 1100025 (S 1100033 0)) := congrArg ((S 1100007)) h55_
          have e251_ : S 1100023 (g25 57 (S 1092 0 - 1)) = S 1100023 (S 1100033 0 + 1) := congrArg ((S 1100023)) (la_stepOther_30 h47_ h233_)
          have e252_ : S 26 (S 1100034 0) = S 26 (S 1100025 (S 1100033 0)) := congrArg ((S 26)) h55_
          exact (sm_TC_t h42_ (la_stepOther_33 h228_ e251_))
        refine ⟨h43_, ?_⟩
        refine ⟨h44_, ?_⟩
        refine ⟨h45_, ?_⟩
        refine ⟨(sm_FL_F h46_ sm_F1_rf sm_F1_rf sm_F1_rf sm_F1_rf (sm_F1_le (sm_F1_ne h234_ (Int.le_refl _)) (Int.le_refl _)) (sm_F1_le (sm_F1_ne h232_ (Int.le_refl _)) (Int.le_refl _)) sm_F1_rf sm_F1_rf sm_F1_rf sm_F1_rf sm_F1_rf sm_F1_rf (Int.le_refl _) (Int.le_refl _) sm_F1_rf sm_F1_rf (sm_FL_dp h46_ h23_)), ?_⟩
        refine ⟨?_, ?_⟩
        · skip
          have h253_ := (h232_ (S 1092 0 - 1))
          have h254_ := (h234_ (S 1092 0 - 1))
          have e255_ : S 1100007 (S 1100034 0) = S 1100007 (S 1100025 (S 1100033 0)) := congrArg ((S 1100007)) h55_
          have e256_ : S 1100007 (g25 57 (S 1092 0 - 1)) = S 1100007 (S 1100033 0 + 1) := congrArg ((S 1100007)) (la_stepOther_30 h47_ h233_)
          have e257_ : S 26 (S 1100034 0) = S 26 (S 1100025 (S 1100033 0)) := congrArg ((S 26)) h55_
          exact (la_stepOther_34 h54_ h227_ h231_ e256_)
        have h258_ := (h232_ (S 1092 0 - 1))
        have h259_ := (h234_ (S 1092 0 - 1))
        have e260_ : S 1100007 (S 1100034 0) = S 1100007 (S 1100025 (S 1100033 0)) := congrArg ((S 1100007)) h55_
        have e261_ : S 1100025 (g25 57 (S 1092 0 - 1)) = S 1100025 (S 1100033 0 + 1) := congrArg ((S 1100025)) (la_stepOther_30 h47_ h233_)
        have e262_ : S 26 (S 1100034 0) = S 26 (S 1100025 (S 1100033 0)) := congrArg ((S 26)) h55_
        exact (sm_SK_q (sm_SK_pop h224_ (la_stepOther_38 h231_)) e261_ rfl rfl)
      refine ⟨?_, ?_⟩
      · skip
        intro h263_
        have h264_ := (h62_.resolve_left (la_stepOther_39 h263_))
        have h265_ := (h79_.resolve_left (la_stepOther_40 h263_))
        have h266_ := (h81_.resolve_left (la_stepOther_40 h263_))
        have h267_ := (h264_.resolve_left (la_stepOther_41 h263_))
        have h268_ := (h267_.resolve_left (la_stepOther_42 h263_))
        intro h269_
        have h270_ := (h269_ h23_)
        have h271_ := (h270_ h36_)
        have h272_ := (h271_ h37_)
        obtain ⟨⟨h273_, ⟨h274_, h275_⟩⟩, ⟨h276_, ⟨h277_, ⟨h278_, ⟨h279_, ⟨h280_, h281_⟩⟩⟩⟩⟩⟩ := (h272_ (la_stepOther_43 h60_ h263_))
        intro h282_
        have h283_ := (h282_ h55_)
        have h284_ := (h283_ h54_)
        have h285_ := (h284_ h275_)
        intro h286_
        have h287_ := (h286_ h50_)
        have h288_ := (h287_ h24_)
        have h289_ := (h288_ (la_stepOther_44 h268_))
        have h290_ := (h289_ la_stepOther_45)
        have h291_ := (h290_ h52_)
        have h292_ := (h291_ h55_)
        have h293_ := (h292_ h54_)
        have h294_ := (h293_ h53_)
        have h295_ := (h294_ h275_)
        refine ⟨(la_stepOther_46 h34_ h35_ h57_ h268_), ?_⟩
        intro g34
        rintro ⟨h296_, ⟨h297_, ⟨h298_, ⟨h299_, ⟨h300_, h301_⟩⟩⟩⟩⟩
        refine ⟨(la_stepOther_23 h29_ h34_ h35_ h36_ h47_ h277_), ?_⟩
        intro g40
        rintro ⟨h302_, h303_⟩
        refine ⟨h6_, ?_⟩
        refine ⟨h7_, ?_⟩
        refine ⟨h8_, ?_⟩
        refine ⟨h9_, ?_⟩
        refine ⟨h10_, ?_⟩
        refine ⟨h11_, ?_⟩
        refine ⟨h12_, ?_⟩
        refine ⟨h13_, ?_⟩
        refine ⟨h14_, ?_⟩
        refine ⟨h15_, ?_⟩
        refine ⟨h16_, ?_⟩
        refine ⟨h17_, ?_⟩
        refine ⟨(la_stepOther_24 h18_), ?_⟩
        refine ⟨h19_, ?_⟩
        refine ⟨h20_, ?_⟩
        refine ⟨h21_, ?_⟩
        refine ⟨h22_, ?_⟩
        refine ⟨h31_, ?_⟩
        refine ⟨(la_stepOther_25 h4_), ?_⟩
        refine ⟨(la_stepOther_26 h34_), ?_⟩
        refine ⟨h35_, ?_⟩
        intro h304_
        intro h305_
        refine ⟨h34_, ?_⟩
        refine ⟨h35_, ?_⟩
        refine ⟨(la_stepOther_27 h36_ h47_ h302_), ?_⟩
        refine ⟨(la_stepOther_28 h47_ h277_ h302_), ?_⟩
        refine ⟨?_, ?_⟩
        · skip
          have h306_ := (h299_ (S 1092 0 - 1))
          have h307_ := ((h300_ (400 * (S 1092 0 - 1) + (S 58 (S 1092 0 - 1) - 1))) la_stepOther_47)
          have h308_ := (h300_ (400 * (S 1092 0 - 1) + S 58 (S 1092 0 - 1)))
          have h309_ := ((h300_ (400 * (S 1092 0 - 1) + S 58 (S 1092 0 - 1) - 1 - 0)) la_stepOther_48)
          have h310_ := ((h301_ (400 * (S 1092 0 - 1) + (S 58 (S 1092 0 - 1) - 1))) la_stepOther_47)
          have h311_ := (h301_ (400 * (S 1092 0 - 1) + S 58 (S 1092 0 - 1)))
          have h312_ := ((h301_ (400 * (S 1092 0 - 1) + S 58 (S 1092 0 - 1) - 1 - 0)) la_stepOther_48)
          have h313_ := (h303_ (S 1092 0 - 1))
          have e314_ : S 1100007 (S 1100034 0) = S 1100007 (S 1100025 (S 1100033 0)) := congrArg ((S 1100007)) h55_
          have e315_ : S 26 (S 1100034 0) = S 26 (S 1100025 (S 1100033 0)) := congrArg ((S 26)) h55_
          have e316_ : S 29 (g40 57 (S 1092 0 - 1)) = S 29 (S 1100033 0 + 1) := congrArg ((S 29)) (la_stepOther_30 h47_ h302_)
          have e317_ : S 63 (400 * (S 1092 0 - 1) + S 58 (S 1092 0 - 1) - 1 - 0) = S 63 (400 * (S 1092 0 - 1) + (S 58 (S 1092 0 - 1) - 1)) := congrArg ((S 63)) la_stepOther_50
          have e318_ : S 64 (400 * (S 1092 0 - 1) + S 58 (S 1092 0 - 1) - 1 - 0) = S 64 (400 * (S 1092 0 - 1) + (S 58 (S 1092 0 - 1) - 1)) := congrArg ((S 64)) la_stepOther_50
          have e319_ : g34 63 (400 * (S 1092 0 - 1) + S 58 (S 1092 0 - 1) - 1 - 0) = g34 63 (400 * (S 1092 0 - 1) + (S 58 (S 1092 0 - 1) - 1)) := congrArg ((g34 63)) la_stepOther_50
          have e320_ : g34 64 (400 * (S 1092 0 - 1) + S 58 (S 1092 0 - 1) - 1 - 0) = g34 64 (400 * (S 1092 0 - 1) + (S 58 (S 1092 0 - 1) - 1)) := congrArg ((g34 64)) la_stepOther_50
          exact (la_stepOther_31 h38_ h278_ e316_)
        refine ⟨h39_, ?_⟩
        refine ⟨h40_, ?_⟩
        refine ⟨?_, ?_⟩
        · skip
          have h321_ := (h299_ (S 1092 0 - 1))
          have h322_ := ((h300_ (400 * (S 1092 0 - 1) + (S 58 (S 1092 0 - 1) - 1))) la_stepOther_47)
          have h323_ := (h300_ (400 * (S 1092 0 - 1) + S 58 (S 1092 0 - 1)))
          have h324_ := ((h300_ (400 * (S 1092 0 - 1) + S 58 (S 1092 0 - 1) - 1 - 0)) la_stepOther_48)
          have h325_ := ((h301_ (400 * (S 1092 0 - 1) + (S 58 (S 1092 0 - 1) - 1))) la_stepOther_47)
          have h326_ := (h301_ (400 * (S 1092 0 - 1) + S 58 (S 1092 0 - 1)))
          have h327_ := ((h301_ (400 * (S 1092 0 - 1) + S 58 (S 1092 0 - 1) - 1 - 0)) la_stepOther_48)
          have h328_ := (h303_ (S 1092 0 - 1))
          have e329_ : S 1100007 (S 1100034 0) = S 1100007 (S 1100025 (S 1100033 0)) := congrArg ((S 1100007)) h55_
          have e330_ : S 1100023 (g40 57 (S 1092 0 - 1)) = S 1100023 (S 1100033 0 + 1) := congrArg ((S 1100023)) (la_stepOther_30 h47_ h302_)
          have e331_ : S 26 (S 1100034 0) = S 26 (S 1100025 (S 1100033 0)) := congrArg ((S 26)) h55_
          have e332_ : S 63 (400 * (S 1092 0 - 1) + S 58 (S 1092 0 - 1) - 1 - 0) = S 63 (400 * (S 1092 0 - 1) + (S 58 (S 1092 0 - 1) - 1)) := congrArg ((S 63)) la_stepOther_50
          have e333_ : S 64 (400 * (S 1092 0 - 1) + S 58 (S 1092 0 - 1) - 1 - 0) = S 64 (400 * (S 1092 0 - 1) + (S 58 (S 1092 0 - 1) - 1)) := congrArg ((S 64)) la_stepOther_50
          have e334_ : g34 63 (400 * (S 1092 0 - 1) + S 58 (S 1092 0 - 1) - 1 - 0) = g34 63 (400 * (S 1092 0 - 1) + (S 58 (S 1092 0 - 1) - 1)) := congrArg ((g34 63)) la_stepOther_50
          have e335_ : g34 64 (400 * (S 1092 0 - 1) + S 58 (S 1092 0 - 1) - 1 - 0) = g34 64 (400 * (S 1092 0 - 1) + (S 58 (S 1092 0 - 1) - 1)) := congrArg ((g34 64)) la_stepOther_50
          have e336_ : sm_dp (S 1100024) (S 1100023 (g40 57 (S 1092 0 - 1))) = sm_dp (S 1100024) (S 1100023 (S 1100033 0)) := congrArg ((sm_dp (S 1100024))) (la_stepOther_13 h280_ e330_)
          exact (la_stepOther_32 h41_ e336_)
        refine ⟨?_, ?_⟩
        · skip
          have h337_ := (h299_ (S 1092 0 - 1))
          have h338_ := ((h300_ (400 * (S 1092 0 - 1) + (S 58 (S 1092 0 - 1) - 1))) la_stepOther_47)
          have h339_ := (h300_ (400 * (S 1092 0 - 1) + S 58 (S 1092 0 - 1)))
          have h340_ := ((h300_ (400 * (S 1092 0 - 1) + S 58 (S 1092 0 - 1) - 1 - 0)) la_stepOther_48)
          have h341_ := ((h301_ (400 * (S 1092 0 - 1) + (S 58 (S 1092 0 - 1) - 1))) la_stepOther_47)
          have h342_ := (h301_ (400 * (S 1092 0 - 1) + S 58 (S 1092 0 - 1)))
          have h343_ := ((h301_ (400 * (S 1092 0 - 1) + S 58 (S 1092 0 - 1) - 1 - 0)) la_stepOther_48)
          have h344_ := (h303_ (S 1092 0 - 1))
          have e345_ : S 1100007 (S 1100034 0) = S 1100007 (S 1100025 (S 1100033 0)) := congrArg ((S 1100007)) h55_
          have e346_ : S 1100023 (g40 57 (S 1092 0 - 1)) = S 1100023 (S 1100033 0 + 1) := congrArg ((S 1100023)) (la_stepOther_30 h47_ h302_)
          have e347_ : S 26 (S 1100034 0) = S 26 (S 1100025 (S 1100033 0)) := congrArg ((S 26)) h55_
          have e348_ : S 63 (400 * (S 1092 0 - 1) + S 58 (S 1092 0 - 1) - 1 - 0) = S 63 (400 * (S 1092 0 - 1) + (S 58 (S 1092 0 - 1) - 1)) := congrArg ((S 63)) la_stepOther_50
          have e349_ : S 64 (400 * (S 1092 0 - 1) + S 58 (S 1092 0 - 1) - 1 - 0) = S 64 (400 * (S 1092 0 - 1) + (S 58 (S 1092 0 - 1) - 1)) := congrArg ((S 64)) la_stepOther_50
          have e350_ : g34 63 (400 * (S 1092 0 - 1) + S 58 (S 1092 0 - 1) - 1 - 0) = g34 63 (400 * (S 1092 0 - 1) + (S 58 (S 1092 0 - 1) - 1)) := congrArg ((g34 63)) la_stepOther_50
          have e351_ : g34 64 (400 * (S 1092 0 - 1) + S 58 (S 1092 0 - 1) - 1 - 0) = g34 64 (400 * (S 1092 0 - 1) + (S 58 (S 1092 0 - 1) - 1)) := congrArg ((g34 64)) la_stepOther_50
          exact (sm_TC_t h42_ (la_stepOther_33 h280_ e346_))
        refine ⟨h43_, ?_⟩
        refine ⟨h44_, ?_⟩
        refine ⟨h45_, ?_⟩
        refine ⟨(sm_FL_F h46_ sm_F1_rf sm_F1_rf sm_F1_rf sm_F1_rf (sm_F1_le (sm_F1_ne h303_ (Int.le_refl _)) (Int.le_refl _)) (sm_F1_le (sm_F1_ne h299_ (Int.le_refl _)) (Int.le_refl _)) sm_F1_rf sm_F1_rf sm_F1_rf sm_F1_rf (sm_F1_le (sm_F1_ne h300_ (Int.le_refl _)) (la_stepOther_51 h268_)) (sm_F1_le (sm_F1_ne h301_ (Int.le_refl _)) (la_stepOther_51 h268_)) (Int.le_refl _) (Int.le_refl _) sm_F1_rf sm_F1_rf (sm_FL_dp h46_ h23_)), ?_⟩
        refine ⟨?_, ?_⟩
        · skip
          have h352_ := (h299_ (S 1092 0 - 1))
          have h353_ := ((h300_ (400 * (S 1092 0 - 1) + (S 58 (S 1092 0 - 1) - 1))) la_stepOther_47)
          have h354_ := (h300_ (400 * (S 1092 0 - 1) + S 58 (S 1092 0 - 1)))
          have h355_ := ((h300_ (400 * (S 1092 0 - 1) + S 58 (S 1092 0 - 1) - 1 - 0)) la_stepOther_48)
          have h356_ := ((h301_ (400 * (S 1092 0 - 1) + (S 58 (S 1092 0 - 1) - 1))) la_stepOther_47)
          have h357_ := (h301_ (400 * (S 1092 0 - 1) + S 58 (S 1092 0 - 1)))
          have h358_ := ((h301_ (400 * (S 1092 0 - 1) + S 58 (S 1092 0 - 1) - 1 - 0)) la_stepOther_48)
          have h359_ := (h303_ (S 1092 0 - 1))
          have e360_ : S 1100007 (S 1100034 0) = S 1100007 (S 1100025 (S 1100033 0)) := congrArg ((S 1100007)) h55_
          have e361_ : S 1100007 (g40 57 (S 1092 0 - 1)) = S 1100007 (S 1100033 0 + 1) := congrArg ((S 1100007)) (la_stepOther_30 h47_ h302_)
          have e362_ : S 26 (S 1100034 0) = S 26 (S 1100025 (S 1100033 0)) := congrArg ((S 26)) h55_
          have e363_ : S 63 (400 * (S 1092 0 - 1) + S 58 (S 1092 0 - 1) - 1 - 0) = S 63 (400 * (S 1092 0 - 1) + (S 58 (S 1092 0 - 1) - 1)) := congrArg ((S 63)) la_stepOther_50
          have e364_ : S 64 (400 * (S 1092 0 - 1) + S 58 (S 1092 0 - 1) - 1 - 0) = S 64 (400 * (S 1092 0 - 1) + (S 58 (S 1092 0 - 1) - 1)) := congrArg ((S 64)) la_stepOther_50
          have e365_ : g34 63 (400 * (S 1092 0 - 1) + S 58 (S 1092 0 - 1) - 1 - 0) = g34 63 (400 * (S 1092 0 - 1) + (S 58 (S 1092 0 - 1) - 1)) := congrArg ((g34 63)) la_stepOther_50
          have e366_ : g34 64 (400 * (S 1092 0 - 1) + S 58 (S 1092 0 - 1) - 1 - 0) = g34 64 (400 * (S 1092 0 - 1) + (S 58 (S 1092 0 - 1) - 1)) := congrArg ((g34 64)) la_stepOther_50
          exact (la_stepOther_52 h54_ h279_ h296_ e361_)
        have h367_ := (h299_ (S 1092 0 - 1))
        have h368_ := ((h300_ (400 * (S 1092 0 - 1) + (S 58 (S 1092 0 - 1) - 1))) la_stepOther_47)
        have h369_ := (h300_ (400 * (S 1092 0 - 1) + S 58 (S 1092 0 - 1)))
        have h370_ := ((h300_ (400 * (S 1092 0 - 1) + S 58 (S 1092 0 - 1) - 1 - 0)) la_stepOther_48)
        have h371_ := ((h301_ (400 * (S 1092 0 - 1) + (S 58 (S 1092 0 - 1) - 1))) la_stepOther_47)
        have h372_ := (h301_ (400 * (S 1092 0 - 1) + S 58 (S 1092 0 - 1)))
        have h373_ := ((h301_ (400 * (S 1092 0 - 1) + S 58 (S 1092 0 - 1) - 1 - 0)) la_stepOther_48)
        have h374_ := (h303_ (S 1092 0 - 1))
        have e375_ : S 1100007 (S 1100034 0) = S 1100007 (S 1100025 (S 1100033 0)) := congrArg ((S 1100007)) h55_
        have e376_ : S 1100025 (g40 57 (S 1092 0 - 1)) = S 1100025 (S 1100033 0 + 1) := congrArg ((S 1100025)) (la_stepOther_30 h47_ h302_)
        have e377_ : S 26 (S 1100034 0) = S 26 (S 1100025 (S 1100033 0)) := congrArg ((S 26)) h55_
        have e378_ : S 63 (400 * (S 1092 0 - 1) + S 58 (S 1092 0 - 1) - 1 - 0) = S 63 (400 * (S 1092 0 - 1) + (S 58 (S 1092 0 - 1) - 1)) := congrArg ((S 63)) la_stepOther_50
        have e379_ : S 64 (400 * (S 1092 0 - 1) + S 58 (S 1092 0 - 1) - 1 - 0) = S 64 (400 * (S 1092 0 - 1) + (S 58 (S 1092 0 - 1) - 1)) := congrArg ((S 64)) la_stepOther_50
        have e380_ : g34 63 (400 * (S 1092 0 - 1) + S 58 (S 1092 0 - 1) - 1 - 0) = g34 63 (400 * (S 1092 0 - 1) + (S 58 (S 1092 0 - 1) - 1)) := congrArg ((g34 63)) la_stepOther_50
        have e381_ : g34 64 (400 * (S 1092 0 - 1) + S 58 (S 1092 0 - 1) - 1 - 0) = g34 64 (400 * (S 1092 0 - 1) + (S 58 (S 1092 0 - 1) - 1)) := congrArg ((g34 64)) la_stepOther_50
        exact (sm_SK_q (sm_SK_q (sm_SK_push (sm_SK_F h50_ (sm_F1_le (sm_F1_ne h300_ (Int.le_refl _)) (Int.le_refl _)) (sm_F1_le (sm_F1_ne h301_ (Int.le_refl _)) (Int.le_refl _)) (Int.le_refl _) (Int.le_refl _)) h24_ h52_ (la_stepOther_55 h53_ h54_ h55_ h66_ e375_) rfl (sm_VO_eq h295_ (la_stepOther_54 h265_ h297_ e378_) (la_stepOther_54 h266_ h298_ e379_)) rfl) rfl h296_ rfl) (la_stepOther_53 h55_ h281_ e376_) rfl rfl)
      refine ⟨?_, ?_⟩
      · skip
        intro h382_
        have h383_ := (h62_.resolve_left (la_stepOther_56 h382_))
        have h384_ := (h79_.resolve_left (la_stepOther_57 h382_))
        have h385_ := (h81_.resolve_left (la_stepOther_57 h382_))
        have h386_ := (h383_.resolve_left (la_stepOther_58 h382_))
        have h387_ := (h386_.resolve_left (la_stepOther_59 h382_))
        intro h388_
        have h389_ := (h388_ h23_)
        have h390_ := (h389_ h36_)
        have h391_ := (h390_ h37_)
        obtain ⟨⟨h392_, ⟨h393_, h394_⟩⟩, ⟨h395_, ⟨h396_, ⟨h397_, ⟨h398_, ⟨h399_, h400_⟩⟩⟩⟩⟩⟩ := (h391_ (la_stepOther_60 h60_ h382_))
        intro h401_
        have h402_ := (h401_ h55_)
        have h403_ := (h402_ h54_)
        have h404_ := (h403_ h394_)
        intro h405_
        have h406_ := (h405_ h50_)
        have h407_ := (h406_ h24_)
        have h408_ := (h407_ (la_stepOther_61 h54_ h392_))
        have h409_ := (h408_ la_stepOther_45)
        have h410_ := (h409_ h52_)
        have h411_ := (h410_ h55_)
        have h412_ := (h411_ h54_)
        have h413_ := (h412_ h53_)
        have h414_ := (h413_ h394_)
        intro h415_
        have h416_ := (h415_ h50_)
        have h417_ := (h416_ h24_)
        have h418_ := (h417_ (la_stepOther_62 h54_ h392_))
        have h419_ := (h418_ la_stepOther_63)
        have h420_ := (h419_ h52_)
        have h421_ := (h420_ h55_)
        have h422_ := (h421_ h54_)
        have h423_ := (h422_ h53_)
        have h424_ := (h423_ h394_)
        refine ⟨(la_stepOther_64 h34_ h35_ h54_ h57_ h392_), ?_⟩
        intro x50
        intro h425_
        intro x52
        intro h426_
        refine ⟨(la_stepOther_65 h34_ h35_ h54_ h57_ h392_), ?_⟩
        intro g55
        rintro ⟨h427_, ⟨h428_, ⟨h429_, ⟨h430_, ⟨h431_, h432_⟩⟩⟩⟩⟩
        refine ⟨(la_stepOther_66 h34_ h35_ h54_ h57_ h392_ h427_), ?_⟩
        intro g61
        rintro ⟨h433_, ⟨h434_, ⟨h435_, ⟨h436_, ⟨h437_, h438_⟩⟩⟩⟩⟩
        refine ⟨(la_stepOther_23 h29_ h34_ h35_ h36_ h47_ h396_), ?_⟩
        intro g67
        rintro ⟨h439_, h440_⟩
        refine ⟨h6_, ?_⟩
        refine ⟨h7_, ?_⟩
        refine ⟨h8_, ?_⟩
        refine ⟨h9_, ?_⟩
        refine ⟨h10_, ?_⟩
        refine ⟨h11_, ?_⟩
        refine ⟨h12_, ?_⟩
        refine ⟨h13_, ?_⟩
        refine ⟨h14_, ?_⟩
        refine ⟨h15_, ?_⟩
        refine ⟨h16_, ?_⟩
        refine ⟨h17_, ?_⟩
        refine ⟨(la_stepOther_24 h18_), ?_⟩
        refine ⟨h19_, ?_⟩
        refine ⟨h20_, ?_⟩
        refine ⟨h21_, ?_⟩
        refine ⟨h22_, ?_⟩
        refine ⟨h31_, ?_⟩
        refine ⟨(la_stepOther_25 h4_), ?_⟩
        refine ⟨(la_stepOther_26 h34_), ?_⟩
        refine ⟨h35_, ?_⟩
        intro h441_
        intro h442_
        refine ⟨h34_, ?_⟩
        refine ⟨h35_, ?_⟩
        refine ⟨(la_stepOther_27 h36_ h47_ h439_), ?_⟩
        refine ⟨(la_stepOther_28 h47_ h396_ h439_), ?_⟩
        refine ⟨?_, ?_⟩
        · skip
          have h443_ := (h430_ (S 1092 0 - 1))
          have h444_ := ((h431_ (400 * (S 1092 0 - 1) + S 58 (S 1092 0 - 1) - 1 - 1)) la_stepOther_67)
          have h445_ := ((h431_ (400 * (S 1092 0 - 1) + (S 58 (S 1092 0 - 1) - 2))) la_stepOther_68)
          have h446_ := ((h431_ (400 * (S 1092 0 - 1) + (S 58 (S 1092 0 - 1) - 1))) la_stepOther_47)
          have h447_ := ((h431_ (400 * (S 1092 0 - 1) + S 58 (S 1092 0 - 1) - 1 - 0)) la_stepOther_48)
          have h448_ := (h431_ (400 * (S 1092 0 - 1) + S 58 (S 1092 0 - 1)))
          have h449_ := ((h432_ (400 * (S 1092 0 - 1) + S 58 (S 1092 0 - 1) - 1 - 1)) la_stepOther_67)
          have h450_ := ((h432_ (400 * (S 1092 0 - 1) + (S 58 (S 1092 0 - 1) - 2))) la_stepOther_68)
          have h451_ := ((h432_ (400 * (S 1092 0 - 1) + (S 58 (S 1092 0 - 1) - 1))) la_stepOther_47)
          have h452_ := ((h432_ (400 * (S 1092 0 - 1) + S 58 (S 1092 0 - 1) - 1 - 0)) la_stepOther_48)
          have h453_ := (h432_ (400 * (S 1092 0 - 1) + S 58 (S 1092 0 - 1)))
          have h454_ := (h436_ (S 1092 0 - 1))
          have h455_ := (h437_ (400 * (S 1092 0 - 1) + g55 58 (S 1092 0 - 1)))
          have h456_ := ((h437_ (400 * (S 1092 0 - 1) + S 58 (S 1092 0 - 1))) (la_stepOther_69 h427_))
          have h457_ := (h438_ (400 * (S 1092 0 - 1) + g55 58 (S 1092 0 - 1)))
          have h458_ := ((h438_ (400 * (S 1092 0 - 1) + S 58 (S 1092 0 - 1))) (la_stepOther_69 h427_))
          have h459_ := (h440_ (S 1092 0 - 1))
          have h460_ := ((h437_ (400 * (S 1092 0 - 1) + S 58 (S 1092 0 - 1) - 1 - 1)) (la_stepOther_70 h427_))
          have h461_ := ((h437_ (400 * (S 1092 0 - 1) + (S 58 (S 1092 0 - 1) - 2))) (la_stepOther_71 h427_))
          have h462_ := ((h437_ (400 * (S 1092 0 - 1) + (S 58 (S 1092 0 - 1) - 1))) (la_stepOther_72 h427_))
          have h463_ := ((h437_ (400 * (S 1092 0 - 1) + S 58 (S 1092 0 - 1) - 1 - 0)) (la_stepOther_73 h427_))
          have h464_ := ((h438_ (400 * (S 1092 0 - 1) + S 58 (S 1092 0 - 1) - 1 - 1)) (la_stepOther_70 h427_))
          have h465_ := ((h438_ (400 * (S 1092 0 - 1) + (S 58 (S 1092 0 - 1) - 2))) (la_stepOther_71 h427_))
          have h466_ := ((h438_ (400 * (S 1092 0 - 1) + (S 58 (S 1092 0 - 1) - 1))) (la_stepOther_72 h427_))
          have h467_ := ((h438_ (400 * (S 1092 0 - 1) + S 58 (S 1092 0 - 1) - 1 - 0)) (la_stepOther_73 h427_))
          have e468_ : S 1100007 (S 1100034 0) = S 1100007 (S 1100025 (S 1100033 0)) := congrArg ((S 1100007)) h55_
          have e469_ : S 26 (S 1100034 0) = S 26 (S 1100025 (S 1100033 0)) := congrArg ((S 26)) h55_
          have e470_ : S 29 (g67 57 (S 1092 0 - 1)) = S 29 (S 1100033 0 + 1) := congrArg ((S 29)) (la_stepOther_30 h47_ h439_)
          have e471_ : S 63 (400 * (S 1092 0 - 1) + S 58 (S 1092 0 - 1) - 1 - 0) = S 63 (400 * (S 1092 0 - 1) + (S 58 (S 1092 0 - 1) - 1)) := congrArg ((S 63)) la_stepOther_50
          have e472_ : S 63 (400 * (S 1092 0 - 1) + S 58 (S 1092 0 - 1) - 1 - 1) = S 63 (400 * (S 1092 0 - 1) + (S 58 (S 1092 0 - 1) - 2)) := congrArg ((S 63)) la_stepOther_74
          have e473_ : S 64 (400 * (S 1092 0 - 1) + S 58 (S 1092 0 - 1) - 1 - 0) = S 64 (400 * (S 1092 0 - 1) + (S 58 (S 1092 0 - 1) - 1)) := congrArg ((S 64)) la_stepOther_50
          have e474_ : S 64 (400 * (S 1092 0 - 1) + S 58 (S 1092 0 - 1) - 1 - 1) = S 64 (400 * (S 1092 0 - 1) + (S 58 (S 1092 0 - 1) - 2)) := congrArg ((S 64)) la_stepOther_74
          have e475_ : g55 63 (400 * (S 1092 0 - 1) + S 58 (S 1092 0 - 1) - 1 - 0) = g55 63 (400 * (S 1092 0 - 1) + (S 58 (S 1092 0 - 1) - 1)) := congrArg ((g55 63)) la_stepOther_50
          have e476_ : g55 63 (400 * (S 1092 0 - 1) + S 58 (S 1092 0 - 1) - 1 - 1) = g55 63 (400 * (S 1092 0 - 1) + (S 58 (S 1092 0 - 1) - 2)) := congrArg ((g55 63)) la_stepOther_74
          have e477_ : g55 64 (400 * (S 1092 0 - 1) + S 58 (S 1092 0 - 1) - 1 - 0) = g55 64 (400 * (S 1092 0 - 1) + (S 58 (S 1092 0 - 1) - 1)) := congrArg ((g55 64)) la_stepOther_50
          have e478_ : g55 64 (400 * (S 1092 0 - 1) + S 58 (S 1092 0 - 1) - 1 - 1) = g55 64 (400 * (S 1092 0 - 1) + (S 58 (S 1092 0 - 1) - 2)) := congrArg ((g55 64)) la_stepOther_74
          exact (la_stepOther_31 h38_ h397_ e470_)
        refine ⟨h39_, ?_⟩
        refine ⟨h40_, ?_⟩
        refine ⟨?_, ?_⟩
        · skip
          have h479_ := (h430_ (S 1092 0 - 1))
          have h480_ := ((h431_ (400 * (S 1092 0 - 1) + S 58 (S 1092 0 - 1) - 1 - 1)) la_stepOther_67)
          have h481_ := ((h431_ (400 * (S 1092 0 - 1) + (S 58 (S 1092 0 - 1) - 2))) la_stepOther_68)
          have h482_ := ((h431_ (400 * (S 1092 0 - 1) + (S 58 (S 1092 0 - 1) - 1))) la_stepOther_47)
          have h483_ := ((h431_ (400 * (S 1092 0 - 1) + S 58 (S 1092 0 - 1) - 1 - 0)) la_stepOther_48)
          have h484_ := (h431_ (400 * (S 1092 0 - 1) + S 58 (S 1092 0 - 1)))
          have h485_ := ((h432_ (400 * (S 1092 0 - 1) + S 58 (S 1092 0 - 1) - 1 - 1)) la_stepOther_67)
          have h486_ := ((h432_ (400 * (S 1092 0 - 1) + (S 58 (S 1092 0 - 1) - 2))) la_stepOther_68)
          have h487_ := ((h432_ (400 * (S 1092 0 - 1) + (S 58 (S 1092 0 - 1) - 1))) la_stepOther_47)
          have h488_ := ((h432_ (400 * (S 1092 0 - 1) + S 58 (S 1092 0 - 1) - 1 - 0)) la_stepOther_48)
          have h489_ := (h432_ (400 * (S 1092 0 - 1) + S 58 (S 1092 0 - 1)))
          have h490_ := (h436_ (S 1092 0 - 1))
          have h491_ := (h437_ (400 * (S 1092 0 - 1) + g55 58 (S 1092 0 - 1)))
          have h492_ := ((h437_ (400 * (S 1092 0 - 1) + S 58 (S 1092 0 - 1))) (la_stepOther_69 h427_))
          have h493_ := (h438_ (400 * (S 1092 0 - 1) + g55 58 (S 1092 0 - 1)))
          have h494_ := ((h438_ (400 * (S 1092 0 - 1) + S 58 (S 1092 0 - 1))) (la_stepOther_69 h427_))
          have h495_ := (h440_ (S 1092 0 - 1))
          have h496_ := ((h437_ (400 * (S 1092 0 - 1) + S 58 (S 1092 0 - 1) - 1 - 1)) (la_stepOther_70 h427_))
          have h497_ := ((h437_ (400 * (S 1092 0 - 1) + (S 58 (S 1092 0 - 1) - 2))) (la_stepOther_71 h427_))
          have h498_ := ((h437_ (400 * (S 1092 0 - 1) + (S 58 (S 1092 0 - 1) - 1))) (la_stepOther_72 h427_))
          have h499_ := ((h437_ (400 * (S 1092 0 - 1) + S 58 (S 1092 0 - 1) - 1 - 0)) (la_stepOther_73 h427_))
          have h500_ := ((h438_ (400 * (S 1092 0 - 1) + S 58 (S 1092 0 - 1) - 1 - 1)) (la_stepOther_70 h427_))
          have h501_ := ((h438_ (400 * (S 1092 0 - 1) + (S 58 (S 1092 0 - 1) - 2))) (la_stepOther_71 h427_))
          have h502_ := ((h438_ (400 * (S 1092 0 - 1) + (S 58 (S 1092 0 - 1) - 1))) (la_stepOther_72 h427_))
          have h503_ := ((h438_ (400 * (S 1092 0 - 1) + S 58 (S 1092 0 - 1) - 1 - 0)) (la_stepOther_73 h427_))
          have e504_ : S 1100007 (S 1100034 0) = S 1100007 (S 1100025 (S 1100033 0)) := congrArg ((S 1100007)) h55_
          have e505_ : S 1100023 (g67 57 (S 1092 0 - 1)) = S 1100023 (S 1100033 0 + 1) := congrArg ((S 1100023)) (la_stepOther_30 h47_ h439_)
          have e506_ : S 26 (S 1100034 0) = S 26 (S 1100025 (S 1100033 0)) := congrArg ((S 26)) h55_
          have e507_ : S 63 (400 * (S 1092 0 - 1) + S 58 (S 1092 0 - 1) - 1 - 0) = S 63 (400 * (S 1092 0 - 1) + (S 58 (S 1092 0 - 1) - 1)) := congrArg ((S 63)) la_stepOther_50
          have e508_ : S 63 (400 * (S 1092 0 - 1) + S 58 (S 1092 0 - 1) - 1 - 1) = S 63 (400 * (S 1092 0 - 1) + (S 58 (S 1092 0 - 1) - 2)) := congrArg ((S 63)) la_stepOther_74
          have e509_ : S 64 (400 * (S 1092 0 - 1) + S 58 (S 1092 0 - 1) - 1 - 0) = S 64 (400 * (S 1092 0 - 1) + (S 58 (S 1092 0 - 1) - 1)) := congrArg ((S 64)) la_stepOther_50
          have e510_ : S 64 (400 * (S 1092 0 - 1) + S 58 (S 1092 0 - 1) - 1 - 1) = S 64 (400 * (S 1092 0 - 1) + (S 58 (S 1092 0 - 1) - 2)) := congrArg ((S 64)) la_stepOther_74
          have e511_ : g55 63 (400 * (S 1092 0 - 1) + S 58 (S 1092 0 - 1) - 1 - 0) = g55 63 (400 * (S 1092 0 - 1) + (S 58 (S 1092 0 - 1) - 1)) := congrArg ((g55 63)) la_stepOther_50
          have e512_ : g55 63 (400 * (S 1092 0 - 1) + S 58 (S 1092 0 - 1) - 1 - 1) = g55 63 (400 * (S 1092 0 - 1) + (S 58 (S 1092 0 - 1) - 2)) := congrArg ((g55 63)) la_stepOther_74
          have e513_ : g55 64 (400 * (S 1092 0 - 1) + S 58 (S 1092 0 - 1) - 1 - 0) = g55 64 (400 * (S 1092 0 - 1) + (S 58 (S 1092 0 - 1) - 1)) := congrArg ((g55 64)) la_stepOther_50
          have e514_ : g55 64 (400 * (S 1092 0 - 1) + S 58 (S 1092 0 - 1) - 1 - 1) = g55 64 (400 * (S 1092 0 - 1) + (S 58 (S 1092 0 - 1) - 2)) := congrArg ((g55 64)) la_stepOther_74
          have e515_ : sm_dp (S 1100024) (S 1100023 (g67 57 (S 1092 0 - 1))) = sm_dp (S 1100024) (S 1100023 (S 1100033 0)) := congrArg ((sm_dp (S 1100024))) (la_stepOther_13 h399_ e505_)
          exact (la_stepOther_32 h41_ e515_)
        refine ⟨?_, ?_⟩
        · skip
          have h516_ := (h430_ (S 1092 0 - 1))
          have h517_ := ((h431_ (400 * (S 1092 0 - 1) + S 58 (S 1092 0 - 1) - 1 - 1)) la_stepOther_67)
          have h518_ := ((h431_ (400 * (S 1092 0 - 1) + (S 58 (S 1092 0 - 1) - 2))) la_stepOther_68)
          have h519_ := ((h431_ (400 * (S 1092 0 - 1) + (S 58 (S 1092 0 - 1) - 1))) la_stepOther_47)
          have h520_ := ((h431_ (400 * (S 1092 0 - 1) + S 58 (S 1092 0 - 1) - 1 - 0)) la_stepOther_48)
          have h521_ := (h431_ (400 * (S 1092 0 - 1) + S 58 (S 1092 0 - 1)))
          have h522_ := ((h432_ (400 * (S 1092 0 - 1) + S 58 (S 1092 0 - 1) - 1 - 1)) la_stepOther_67)
          have h523_ := ((h432_ (400 * (S 1092 0 - 1) + (S 58 (S 1092 0 - 1) - 2))) la_stepOther_68)
          have h524_ := ((h432_ (400 * (S 1092 0 - 1) + (S 58 (S 1092 0 - 1) - 1))) la_stepOther_47)
          have h525_ := ((h432_ (400 * (S 1092 0 - 1) + S 58 (S 1092 0 - 1) - 1 - 0)) la_stepOther_48)
          have h526_ := (h432_ (400 * (S 1092 0 - 1) + S 58 (S 1092 0 - 1)))
          have h527_ := (h436_ (S 1092 0 - 1))
          have h528_ := (h437_ (400 * (S 1092 0 - 1) + g55 58 (S 1092 0 - 1)))
          have h529_ := ((h437_ (400 * (S 1092 0 - 1) + S 58 (S 1092 0 - 1))) (la_stepOther_69 h427_))
          have h530_ := (h438_ (400 * (S 1092 0 - 1) + g55 58 (S 1092 0 - 1)))
          have h531_ := ((h438_ (400 * (S 1092 0 - 1) + S 58 (S 1092 0 - 1))) (la_stepOther_69 h427_))
          have h532_ := (h440_ (S 1092 0 - 1))
          have h533_ := ((h437_ (400 * (S 1092 0 - 1) + S 58 (S 1092 0 - 1) - 1 - 1)) (la_stepOther_70 h427_))
          have h534_ := ((h437_ (400 * (S 1092 0 - 1) + (S 58 (S 1092 0 - 1) - 2))) (la_stepOther_71 h427_))
          have h535_ := ((h437_ (400 * (S 1092 0 - 1) + (S 58 (S 1092 0 - 1) - 1))) (la_stepOther_72 h427_))
          have h536_ := ((h437_ (400 * (S 1092 0 - 1) + S 58 (S 1092 0 - 1) - 1 - 0)) (la_stepOther_73 h427_))
          have h537_ := ((h438_ (400 * (S 1092 0 - 1) + S 58 (S 1092 0 - 1) - 1 - 1)) (la_stepOther_70 h427_))
          have h538_ := ((h438_ (400 * (S 1092 0 - 1) + (S 58 (S 1092 0 - 1) - 2))) (la_stepOther_71 h427_))
          have h539_ := ((h438_ (400 * (S 1092 0 - 1) + (S 58 (S 1092 0 - 1) - 1))) (la_stepOther_72 h427_))
          have h540_ := ((h438_ (400 * (S 1092 0 - 1) + S 58 (S 1092 0 - 1) - 1 - 0)) (la_stepOther_73 h427_))
          have e541_ : S 1100007 (S 1100034 0) = S 1100007 (S 1100025 (S 1100033 0)) := congrArg ((S 1100007)) h55_
          have e542_ : S 1100023 (g67 57 (S 1092 0 - 1)) = S 1100023 (S 1100033 0 + 1) := congrArg ((S 1100023)) (la_stepOther_30 h47_ h439_)
          have e543_ : S 26 (S 1100034 0) = S 26 (S 1100025 (S 1100033 0)) := congrArg ((S 26)) h55_
          have e544_ : S 63 (400 * (S 1092 0 - 1) + S 58 (S 1092 0 - 1) - 1 - 0) = S 63 (400 * (S 1092 0 - 1) + (S 58 (S 1092 0 - 1) - 1)) := congrArg ((S 63)) la_stepOther_50
          have e545_ : S 63 (400 * (S 1092 0 - 1) + S 58 (S 1092 0 - 1) - 1 - 1) = S 63 (400 * (S 1092 0 - 1) + (S 58 (S 1092 0 - 1) - 2)) := congrArg ((S 63)) la_stepOther_74
          have e546_ : S 64 (400 * (S 1092 0 - 1) + S 58 (S 1092 0 - 1) - 1 - 0) = S 64 (400 * (S 1092 0 - 1) + (S 58 (S 1092 0 - 1) - 1)) := congrArg ((S 64)) la_stepOther_50
          have e547_ : S 64 (400 * (S 1092 0 - 1) + S 58 (S 1092 0 - 1) - 1 - 1) = S 64 (400 * (S 1092 0 - 1) + (S 58 (S 1092 0 - 1) - 2)) := congrArg ((S 64)) la_stepOther_74
          have e548_ : g55 63 (400 * (S 1092 0 - 1) + S 58 (S 1092 0 - 1) - 1 - 0) = g55 63 (400 * (S 1092 0 - 1) + (S 58 (S 1092 0 - 1) - 1)) := congrArg ((g55 63)) la_stepOther_50
          have e549_ : g55 63 (400 * (S 1092 0 - 1) + S 58 (S 1092 0 - 1) - 1 - 1) = g55 63 (400 * (S 1092 0 - 1) + (S 58 (S 1092 0 - 1) - 2)) := congrArg ((g55 63)) la_stepOther_74
          have e550_ : g55 64 (400 * (S 1092 0 - 1) + S 58 (S 1092 0 - 1) - 1 - 0) = g55 64 (400 * (S 1092 0 - 1) + (S 58 (S 1092 0 - 1) - 1)) := congrArg ((g55 64)) la_stepOther_50
          have e551_ : g55 64 (400 * (S 1092 0 - 1) + S 58 (S 1092 0 - 1) - 1 - 1) = g55 64 (400 * (S 1092 0 - 1) + (S 58 (S 1092 0 - 1) - 2)) := congrArg ((g55 64)) la_stepOther_74
          exact (sm_TC_t h42_ (la_stepOther_33 h399_ e542_))
        refine ⟨h43_, ?_⟩
        refine ⟨h44_, ?_⟩
        refine ⟨h45_, ?_⟩
        refine ⟨(sm_FL_F h46_ sm_F1_rf sm_F1_rf sm_F1_rf sm_F1_rf (sm_F1_le (sm_F1_ne h440_ (Int.le_refl _)) (Int.le_refl _)) (sm_F1_tr (sm_F1_le (sm_F1_ne h430_ (Int.le_refl _)) (Int.le_refl _)) (sm_F1_ne h436_ (Int.le_refl _)) (Int.le_refl _)) sm_F1_rf sm_F1_rf sm_F1_rf sm_F1_rf (sm_F1_tr (sm_F1_le (sm_F1_ne h431_ (Int.le_refl _)) (la_stepOther_76 h54_ h392_)) (sm_F1_ne h437_ (Int.le_refl _)) (la_stepOther_75 h54_ h392_ h427_)) (sm_F1_tr (sm_F1_le (sm_F1_ne h432_ (Int.le_refl _)) (la_stepOther_76 h54_ h392_)) (sm_F1_ne h438_ (Int.le_refl _)) (la_stepOther_75 h54_ h392_ h427_)) (Int.le_refl _) (Int.le_refl _) sm_F1_rf sm_F1_rf (sm_FL_dp h46_ h23_)), ?_⟩
        refine ⟨?_, ?_⟩
        · skip
          have h552_ := (h430_ (S 1092 0 - 1))
          have h553_ := ((h431_ (400 * (S 1092 0 - 1) + S 58 (S 1092 0 - 1) - 1 - 1)) la_stepOther_67)
          have h554_ := ((h431_ (400 * (S 1092 0 - 1) + (S 58 (S 1092 0 - 1) - 2))) la_stepOther_68)
          have h555_ := ((h431_ (400 * (S 1092 0 - 1) + (S 58 (S 1092 0 - 1) - 1))) la_stepOther_47)
          have h556_ := ((h431_ (400 * (S 1092 0 - 1) + S 58 (S 1092 0 - 1) - 1 - 0)) la_stepOther_48)
          have h557_ := (h431_ (400 * (S 1092 0 - 1) + S 58 (S 1092 0 - 1)))
          have h558_ := ((h432_ (400 * (S 1092 0 - 1) + S 58 (S 1092 0 - 1) - 1 - 1)) la_stepOther_67)
          have h559_ := ((h432_ (400 * (S 1092 0 - 1) + (S 58 (S 1092 0 - 1) - 2))) la_stepOther_68)
          have h560_ := ((h432_ (400 * (S 1092 0 - 1) + (S 58 (S 1092 0 - 1) - 1))) la_stepOther_47)
          have h561_ := ((h432_ (400 * (S 1092 0 - 1) + S 58 (S 1092 0 - 1) - 1 - 0)) la_stepOther_48)
          have h562_ := (h432_ (400 * (S 1092 0 - 1) + S 58 (S 1092 0 - 1)))
          have h563_ := (h436_ (S 1092 0 - 1))
          have h564_ := (h437_ (400 * (S 1092 0 - 1) + g55 58 (S 1092 0 - 1)))
          have h565_ := ((h437_ (400 * (S 1092 0 - 1) + S 58 (S 1092 0 - 1))) (la_stepOther_69 h427_))
          have h566_ := (h438_ (400 * (S 1092 0 - 1) + g55 58 (S 1092 0 - 1)))
          have h567_ := ((h438_ (400 * (S 1092 0 - 1) + S 58 (S 1092 0 - 1))) (la_stepOther_69 h427_))
          have h568_ := (h440_ (S 1092 0 - 1))
          have h569_ := ((h437_ (400 * (S 1092 0 - 1) + S 58 (S 1092 0 - 1) - 1 - 1)) (la_stepOther_70 h427_))
          have h570_ := ((h437_ (400 * (S 1092 0 - 1) + (S 58 (S 1092 0 - 1) - 2))) (la_stepOther_71 h427_))
          have h571_ := ((h437_ (400 * (S 1092 0 - 1) + (S 58 (S 1092 0 - 1) - 1))) (la_stepOther_72 h427_))
          have h572_ := ((h437_ (400 * (S 1092 0 - 1) + S 58 (S 1092 0 - 1) - 1 - 0)) (la_stepOther_73 h427_))
          have h573_ := ((h438_ (400 * (S 1092 0 - 1) + S 58 (S 1092 0 - 1) - 1 - 1)) (la_stepOther_70 h427_))
          have h574_ := ((h438_ (400 * (S 1092 0 - 1) + (S 58 (S 1092 0 - 1) - 2))) (la_stepOther_71 h427_))
          have h575_ := ((h438_ (400 * (S 1092 0 - 1) + (S 58 (S 1092 0 - 1) - 1))) (la_stepOther_72 h427_))
          have h576_ := ((h438_ (400 * (S 1092 0 - 1) + S 58 (S 1092 0 - 1) - 1 - 0)) (la_stepOther_73 h427_))
          have e577_ : S 1100007 (S 1100034 0) = S 1100007 (S 1100025 (S 1100033 0)) := congrArg ((S 1100007)) h55_
          have e578_ : S 1100007 (g67 57 (S 1092 0 - 1)) = S 1100007 (S 1100033 0 + 1) := congrArg ((S 1100007)) (la_stepOther_30 h47_ h439_)
          have e579_ : S 26 (S 1100034 0) = S 26 (S 1100025 (S 1100033 0)) := congrArg ((S 26)) h55_
          have e580_ : S 63 (400 * (S 1092 0 - 1) + S 58 (S 1092 0 - 1) - 1 - 0) = S 63 (400 * (S 1092 0 - 1) + (S 58 (S 1092 0 - 1) - 1)) := congrArg ((S 63)) la_stepOther_50
          have e581_ : S 63 (400 * (S 1092 0 - 1) + S 58 (S 1092 0 - 1) - 1 - 1) = S 63 (400 * (S 1092 0 - 1) + (S 58 (S 1092 0 - 1) - 2)) := congrArg ((S 63)) la_stepOther_74
          have e582_ : S 64 (400 * (S 1092 0 - 1) + S 58 (S 1092 0 - 1) - 1 - 0) = S 64 (400 * (S 1092 0 - 1) + (S 58 (S 1092 0 - 1) - 1)) := congrArg ((S 64)) la_stepOther_50
          have e583_ : S 64 (400 * (S 1092 0 - 1) + S 58 (S 1092 0 - 1) - 1 - 1) = S 64 (400 * (S 1092 0 - 1) + (S 58 (S 1092 0 - 1) - 2)) := congrArg ((S 64)) la_stepOther_74
          have e584_ : g55 63 (400 * (S 1092 0 - 1) + S 58 (S 1092 0 - 1) - 1 - 0) = g55 63 (400 * (S 1092 0 - 1) + (S 58 (S 1092 0 - 1) - 1)) := congrArg ((g55 63)) la_stepOther_50
          have e585_ : g55 63 (400 * (S 1092 0 - 1) + S 58 (S 1092 0 - 1) - 1 - 1) = g55 63 (400 * (S 1092 0 - 1) + (S 58 (S 1092 0 - 1) - 2)) := congrArg ((g55 63)) la_stepOther_74
          have e586_ : g55 64 (400 * (S 1092 0 - 1) + S 58 (S 1092 0 - 1) - 1 - 0) = g55 64 (400 * (S 1092 0 - 1) + (S 58 (S 1092 0 - 1) - 1)) := congrArg ((g55 64)) la_stepOther_50
          have e587_ : g55 64 (400 * (S 1092 0 - 1) + S 58 (S 1092 0 - 1) - 1 - 1) = g55 64 (400 * (S 1092 0 - 1) + (S 58 (S 1092 0 - 1) - 2)) := congrArg ((g55 64)) la_stepOther_74
          exact (la_stepOther_77 h54_ h398_ h427_ h433_ e578_)
        have h588_ := (h430_ (S 1092 0 - 1))
        have h589_ := ((h431_ (400 * (S 1092 0 - 1) + S 58 (S 1092 0 - 1) - 1 - 1)) la_stepOther_67)
        have h590_ := ((h431_ (400 * (S 1092 0 - 1) + (S 58 (S 1092 0 - 1) - 2))) la_stepOther_68)
        have h591_ := ((h431_ (400 * (S 1092 0 - 1) + (S 58 (S 1092 0 - 1) - 1))) la_stepOther_47)
        have h592_ := ((h431_ (400 * (S 1092 0 - 1) + S 58 (S 1092 0 - 1) - 1 - 0)) la_stepOther_48)
        have h593_ := (h431_ (400 * (S 1092 0 - 1) + S 58 (S 1092 0 - 1)))
        have h594_ := ((h432_ (400 * (S 1092 0 - 1) + S 58 (S 1092 0 - 1) - 1 - 1)) la_stepOther_67)
        have h595_ := ((h432_ (400 * (S 1092 0 - 1) + (S 58 (S 1092 0 - 1) - 2))) la_stepOther_68)
        have h596_ := ((h432_ (400 * (S 1092 0 - 1) + (S 58 (S 1092 0 - 1) - 1))) la_stepOther_47)
        have h597_ := ((h432_ (400 * (S 1092 0 - 1) + S 58 (S 1092 0 - 1) - 1 - 0)) la_stepOther_48)
        have h598_ := (h432_ (400 * (S 1092 0 - 1) + S 58 (S 1092 0 - 1)))
        have h599_ := (h436_ (S 1092 0 - 1))
        have h600_ := (h437_ (400 * (S 1092 0 - 1) + g55 58 (S 1092 0 - 1)))
        have h601_ := ((h437_ (400 * (S 1092 0 - 1) + S 58 (S 1092 0 - 1))) (la_stepOther_69 h427_))
        have h602_ := (h438_ (400 * (S 1092 0 - 1) + g55 58 (S 1092 0 - 1)))
        have h603_ := ((h438_ (400 * (S 1092 0 - 1) + S 58 (S 1092 0 - 1))) (la_stepOther_69 h427_))
        have h604_ := (h440_ (S 1092 0 - 1))
        have h605_ := ((h437_ (400 * (S 1092 0 - 1) + S 58 (S 1092 0 - 1) - 1 - 1)) (la_stepOther_70 h427_))
        have h606_ := ((h437_ (400 * (S 1092 0 - 1) + (S 58 (S 1092 0 - 1) - 2))) (la_stepOther_71 h427_))
        have h607_ := ((h437_ (400 * (S 1092 0 - 1) + (S 58 (S 1092 0 - 1) - 1))) (la_stepOther_72 h427_))
        have h608_ := ((h437_ (400 * (S 1092 0 - 1) + S 58 (S 1092 0 - 1) - 1 - 0)) (la_stepOther_73 h427_))
        have h609_ := ((h438_ (400 * (S 1092 0 - 1) + S 58 (S 1092 0 - 1) - 1 - 1)) (la_stepOther_70 h427_))
        have h610_ := ((h438_ (400 * (S 1092 0 - 1) + (S 58 (S 1092 0 - 1) - 2))) (la_stepOther_71 h427_))
        have h611_ := ((h438_ (400 * (S 1092 0 - 1) + (S 58 (S 1092 0 - 1) - 1))) (la_stepOther_72 h427_))
        have h612_ := ((h438_ (400 * (S 1092 0 - 1) + S 58 (S 1092 0 - 1) - 1 - 0)) (la_stepOther_73 h427_))
        have e613_ : S 1100007 (S 1100034 0) = S 1100007 (S 1100025 (S 1100033 0)) := congrArg ((S 1100007)) h55_
        have e614_ : S 1100025 (g67 57 (S 1092 0 - 1)) = S 1100025 (S 1100033 0 + 1) := congrArg ((S 1100025)) (la_stepOther_30 h47_ h439_)
        have e615_ : S 26 (S 1100034 0) = S 26 (S 1100025 (S 1100033 0)) := congrArg ((S 26)) h55_
        have e616_ : S 63 (400 * (S 1092 0 - 1) + S 58 (S 1092 0 - 1) - 1 - 0) = S 63 (400 * (S 1092 0 - 1) + (S 58 (S 1092 0 - 1) - 1)) := congrArg ((S 63)) la_stepOther_50
        have e617_ : S 63 (400 * (S 1092 0 - 1) + S 58 (S 1092 0 - 1) - 1 - 1) = S 63 (400 * (S 1092 0 - 1) + (S 58 (S 1092 0 - 1) - 2)) := congrArg ((S 63)) la_stepOther_74
        have e618_ : S 64 (400 * (S 1092 0 - 1) + S 58 (S 1092 0 - 1) - 1 - 0) = S 64 (400 * (S 1092 0 - 1) + (S 58 (S 1092 0 - 1) - 1)) := congrArg ((S 64)) la_stepOther_50
        have e619_ : S 64 (400 * (S 1092 0 - 1) + S 58 (S 1092 0 - 1) - 1 - 1) = S 64 (400 * (S 1092 0 - 1) + (S 58 (S 1092 0 - 1) - 2)) := congrArg ((S 64)) la_stepOther_74
        have e620_ : g55 63 (400 * (S 1092 0 - 1) + S 58 (S 1092 0 - 1) - 1 - 0) = g55 63 (400 * (S 1092 0 - 1) + (S 58 (S 1092 0 - 1) - 1)) := congrArg ((g55 63)) la_stepOther_50
        have e621_ : g55 63 (400 * (S 1092 0 - 1) + S 58 (S 1092 0 - 1) - 1 - 1) = g55 63 (400 * (S 1092 0 - 1) + (S 58 (S 1092 0 - 1) - 2)) := congrArg ((g55 63)) la_stepOther_74
        have e622_ : g55 64 (400 * (S 1092 0 - 1) + S 58 (S 1092 0 - 1) - 1 - 0) = g55 64 (400 * (S 1092 0 - 1) + (S 58 (S 1092 0 - 1) - 1)) := congrArg ((g55 64)) la_stepOther_50
        have e623_ : g55 64 (400 * (S 1092 0 - 1) + S 58 (S 1092 0 - 1) - 1 - 1) = g55 64 (400 * (S 1092 0 - 1) + (S 58 (S 1092 0 - 1) - 2)) := congrArg ((g55 64)) la_stepOther_74
        exact (sm_SK_q (sm_SK_q (sm_SK_push (sm_SK_push (sm_SK_F h50_ (sm_F1_tr (sm_F1_le (sm_F1_ne h431_ (Int.le_refl _)) (Int.le_refl _)) (sm_F1_ne h437_ (Int.le_refl _)) (la_stepOther_78 h427_)) (sm_F1_tr (sm_F1_le (sm_F1_ne h432_ (Int.le_refl _)) (Int.le_refl _)) (sm_F1_ne h438_ (Int.le_refl _)) (la_stepOther_78 h427_)) (Int.le_refl _) (Int.le_refl _)) h24_ h52_ (la_stepOther_55 h53_ h54_ h55_ h66_ e613_) rfl (sm_VO_eq h424_ (la_stepOther_80 h425_ h428_ h601_ e617_) (la_stepOther_80 h426_ h429_ h603_ e619_)) rfl) h24_ h52_ (la_stepOther_85 h53_ h54_ h55_ h66_ e613_) rfl (sm_VO_eq (sm_VO_eq h414_ (la_stepOther_82 h384_ e616_) (la_stepOther_82 h385_ e618_)) ((congrArg (g61 63) (la_stepOther_81 h427_)).trans h434_) ((congrArg (g61 64) (la_stepOther_81 h427_)).trans h435_)) rfl) rfl (la_stepOther_86 h427_ h433_) rfl) (la_stepOther_53 h55_ h400_ e614_) rfl rfl)
      refine ⟨?_, ?_⟩
      · skip
        intro h624_
        have h625_ := (h62_.resolve_left (la_stepOther_87 h624_))
        have h626_ := (h79_.resolve_left (la_stepOther_88 h624_))
        have h627_ := (h81_.resolve_left (la_stepOther_88 h624_))
        have h628_ := (h625_.resolve_left (la_stepOther_89 h624_))
        have h629_ := (h628_.resolve_left (la_stepOther_90 h624_))
        intro h630_
        have h631_ := (h630_ h23_)
        have h632_ := (h631_ h36_)
        have h633_ := (h632_ h37_)
        obtain ⟨⟨h634_, ⟨h635_, h636_⟩⟩, ⟨h637_, ⟨h638_, ⟨h639_, ⟨h640_, ⟨h641_, h642_⟩⟩⟩⟩⟩⟩ := (h633_ (la_stepOther_91 h60_ h624_))
        intro h643_
        have h644_ := (h643_ h55_)
        have h645_ := (h644_ h54_)
        have h646_ := (h645_ h636_)
        intro h647_
        have h648_ := (h647_ h50_)
        have h649_ := (h648_ h24_)
        have h650_ := (h649_ (la_stepOther_92 h54_ h634_))
        have h651_ := (h650_ la_stepOther_45)
        have h652_ := (h651_ h52_)
        have h653_ := (h652_ h55_)
        have h654_ := (h653_ h54_)
        have h655_ := (h654_ h53_)
        have h656_ := (h655_ h636_)
        intro h657_
        have h658_ := (h657_ h50_)
        have h659_ := (h658_ h24_)
        have h660_ := (h659_ (la_stepOther_93 h54_ h634_))
        have h661_ := (h660_ la_stepOther_63)
        have h662_ := (h661_ h52_)
        have h663_ := (h662_ h55_)
        have h664_ := (h663_ h54_)
        have h665_ := (h664_ h53_)
        have h666_ := (h665_ h636_)
        intro h667_
        have h668_ := (h667_ h50_)
        have h669_ := (h668_ h24_)
        have h670_ := (h669_ (la_stepOther_94 h54_ h634_))
        have h671_ := (h670_ la_stepOther_95)
        have h672_ := (h671_ h52_)
        have h673_ := (h672_ h55_)
        have h674_ := (h673_ h54_)
        have h675_ := (h674_ h53_)
        have h676_ := (h675_ h636_)
        refine ⟨(la_stepOther_96 h34_ h35_ h54_ h57_ h634_), ?_⟩
        intro g78
        rintro ⟨h677_, ⟨h678_, ⟨h679_, ⟨h680_, ⟨h681_, ⟨h682_, ⟨h683_, ⟨h684_, ⟨h685_, ⟨h686_, ⟨h687_, h688_⟩⟩⟩⟩⟩⟩⟩⟩⟩⟩⟩
        refine ⟨(la_stepOther_23 h29_ h34_ h35_ h36_ h47_ h638_), ?_⟩
        intro g84
        rintro ⟨h689_, h690_⟩
        refine ⟨h6_, ?_⟩
        refine ⟨h7_, ?_⟩
        refine ⟨h8_, ?_⟩
        refine ⟨h9_, ?_⟩
        refine ⟨h10_, ?_⟩
        refine ⟨h11_, ?_⟩
        refine ⟨h12_, ?_⟩
        refine ⟨h13_, ?_⟩
        refine ⟨h14_, ?_⟩
        refine ⟨h15_, ?_⟩
        refine ⟨h16_, ?_⟩
        refine ⟨h17_, ?_⟩
        refine ⟨(la_stepOther_24 h18_), ?_⟩
        refine ⟨h19_, ?_⟩
        refine ⟨h20_, ?_⟩
        refine ⟨h21_, ?_⟩
        refine ⟨h22_, ?_⟩
        refine ⟨h31_, ?_⟩
        refine ⟨(la_stepOther_25 h4_), ?_⟩
        refine ⟨(la_stepOther_26 h34_), ?_⟩
        refine ⟨h35_, ?_⟩
        intro h691_
        intro h692_
        refine ⟨h34_, ?_⟩
        refine ⟨h35_, ?_⟩
        refine ⟨(la_stepOther_27 h36_ h47_ h689_), ?_⟩
        refine ⟨(la_stepOther_28 h47_ h638_ h689_), ?_⟩
        refine ⟨?_, ?_⟩
        · skip
          have h693_ := (h678_ (S 1092 0 - 1))
          have h694_ := (h690_ (S 1092 0 - 1))
          have e695_ : S 1100007 (S 1100034 0) = S 1100007 (S 1100025 (S 1100033 0)) := congrArg ((S 1100007)) h55_
          have e696_ : S 26 (S 1100034 0) = S 26 (S 1100025 (S 1100033 0)) := congrArg ((S 26)) h55_
          have e697_ : S 29 (g84 57 (S 1092 0 - 1)) = S 29 (S 1100033 0 + 1) := congrArg ((S 29)) (la_stepOther_30 h47_ h689_)
          have e698_ : S 63 (400 * (S 1092 0 - 1) + S 58 (S 1092 0 - 1) - 2) = S 63 (400 * (S 1092 0 - 1) + (S 58 (S 1092 0 - 1) - 2)) := congrArg ((S 63)) la_stepOther_97
          have e699_ : S 63 (400 * (S 1092 0 - 1) + S 58 (S 1092 0 - 1) - 3) = S 63 (400 * (S 1092 0 - 1) + (S 58 (S 1092 0 - 1) - 3)) := congrArg ((S 63)) la_stepOther_98
          have e700_ : S 63 (400 * (S 1092 0 - 1) + S 58 (S 1092 0 - 1) - 1 - 0) = S 63 (400 * (S 1092 0 - 1) + (S 58 (S 1092 0 - 1) - 1)) := congrArg ((S 63)) la_stepOther_50
          have e701_ : S 64 (400 * (S 1092 0 - 1) + S 58 (S 1092 0 - 1) - 2) = S 64 (400 * (S 1092 0 - 1) + (S 58 (S 1092 0 - 1) - 2)) := congrArg ((S 64)) la_stepOther_97
          have e702_ : S 64 (400 * (S 1092 0 - 1) + S 58 (S 1092 0 - 1) - 3) = S 64 (400 * (S 1092 0 - 1) + (S 58 (S 1092 0 - 1) - 3)) := congrArg ((S 64)) la_stepOther_98
          have e703_ : S 64 (400 * (S 1092 0 - 1) + S 58 (S 1092 0 - 1) - 1 - 0) = S 64 (400 * (S 1092 0 - 1) + (S 58 (S 1092 0 - 1) - 1)) := congrArg ((S 64)) la_stepOther_50
          exact (la_stepOther_31 h38_ h639_ e697_)
        refine ⟨h39_, ?_⟩
        refine ⟨h40_, ?_⟩
        refine ⟨?_, ?_⟩
        · skip
          have h704_ := (h678_ (S 1092 0 - 1))
          have h705_ := (h690_ (S 1092 0 - 1))
          have e706_ : S 1100007 (S 1100034 0) = S 1100007 (S 1100025 (S 1100033 0)) := congrArg ((S 1100007)) h55_
          have e707_ : S 1100023 (g84 57 (S 1092 0 - 1)) = S 1100023 (S 1100033 0 + 1) := congrArg ((S 1100023)) (la_stepOther_30 h47_ h689_)
          have e708_ : S 26 (S 1100034 0) = S 26 (S 1100025 (S 1100033 0)) := congrArg ((S 26)) h55_
          have e709_ : S 63 (400 * (S 1092 0 - 1) + S 58 (S 1092 0 - 1) - 2) = S 63 (400 * (S 1092 0 - 1) + (S 58 (S 1092 0 - 1) - 2)) := congrArg ((S 63)) la_stepOther_97
          have e710_ : S 63 (400 * (S 1092 0 - 1) + S 58 (S 1092 0 - 1) - 3) = S 63 (400 * (S 1092 0 - 1) + (S 58 (S 1092 0 - 1) - 3)) := congrArg ((S 63)) la_stepOther_98
          have e711_ : S 63 (400 * (S 1092 0 - 1) + S 58 (S 1092 0 - 1) - 1 - 0) = S 63 (400 * (S 1092 0 - 1) + (S 58 (S 1092 0 - 1) - 1)) := congrArg ((S 63)) la_stepOther_50
          have e712_ : S 64 (400 * (S 1092 0 - 1) + S 58 (S 1092 0 - 1) - 2) = S 64 (400 * (S 1092 0 - 1) + (S 58 (S 1092 0 - 1) - 2)) := congrArg ((S 64)) la_stepOther_97
          have e713_ : S 64 (400 * (S 1092 0 - 1) + S 58 (S 1092 0 - 1) - 3) = S 64 (400 * (S 1092 0 - 1) + (S 58 (S 1092 0 - 1) - 3)) := congrArg ((S 64)) la_stepOther_98
          have e714_ : S 64 (400 * (S 1092 0 - 1) + S 58 (S 1092 0 - 1) - 1 - 0) = S 64 (400 * (S 1092 0 - 1) + (S 58 (S 1092 0 - 1) - 1)) := congrArg ((S 64)) la_stepOther_50
          have e715_ : sm_dp (S 1100024) (S 1100023 (g84 57 (S 1092 0 - 1))) = sm_dp (S 1100024) (S 1100023 (S 1100033 0)) := congrArg ((sm_dp (S 1100024))) (la_stepOther_13 h641_ e707_)
          exact (la_stepOther_32 h41_ e715_)
        refine ⟨?_, ?_⟩
        · skip
          have h716_ := (h678_ (S 1092 0 - 1))
          have h717_ := (h690_ (S 1092 0 - 1))
          have e718_ : S 1100007 (S 1100034 0) = S 1100007 (S 1100025 (S 1100033 0)) := congrArg ((S 1100007)) h55_
          have e719_ : S 1100023 (g84 57 (S 1092 0 - 1)) = S 1100023 (S 1100033 0 + 1) := congrArg ((S 1100023)) (la_stepOther_30 h47_ h689_)
          have e720_ : S 26 (S 1100034 0) = S 26 (S 1100025 (S 1100033 0)) := congrArg ((S 26)) h55_
          have e721_ : S 63 (400 * (S 1092 0 - 1) + S 58 (S 1092 0 - 1) - 2) = S 63 (400 * (S 1092 0 - 1) + (S 58 (S 1092 0 - 1) - 2)) := congrArg ((S 63)) la_stepOther_97
          have e722_ : S 63 (400 * (S 1092 0 - 1) + S 58 (S 1092 0 - 1) - 3) = S 63 (400 * (S 1092 0 - 1) + (S 58 (S 1092 0 - 1) - 3)) := congrArg ((S 63)) la_stepOther_98
          have e723_ : S 63 (400 * (S 1092 0 - 1) + S 58 (S 1092 0 - 1) - 1 - 0) = S 63 (400 * (S 1092 0 - 1) + (S 58 (S 1092 0 - 1) - 1)) := congrArg ((S 63)) la_stepOther_50
          have e724_ : S 64 (400 * (S 1092 0 - 1) + S 58 (S 1092 0 - 1) - 2) = S 64 (400 * (S 1092 0 - 1) + (S 58 (S 1092 0 - 1) - 2)) := congrArg ((S 64)) la_stepOther_97
          have e725_ : S 64 (400 * (S 1092 0 - 1) + S 58 (S 1092 0 - 1) - 3) = S 64 (400 * (S 1092 0 - 1) + (S 58 (S 1092 0 - 1) - 3)) := congrArg ((S 64)) la_stepOther_98
          have e726_ : S 64 (400 * (S 1092 0 - 1) + S 58 (S 1092 0 - 1) - 1 - 0) = S 64 (400 * (S 1092 0 - 1) + (S 58 (S 1092 0 - 1) - 1)) := congrArg ((S 64)) la_stepOther_50
          exact (sm_TC_t h42_ (la_stepOther_33 h641_ e719_))
        refine ⟨h43_, ?_⟩
        refine ⟨h44_, ?_⟩
        refine ⟨h45_, ?_⟩
        refine ⟨(sm_FL_F h46_ sm_F1_rf sm_F1_rf sm_F1_rf sm_F1_rf (sm_F1_le (sm_F1_ne h690_ (Int.le_refl _)) (Int.le_refl _)) (sm_F1_le (sm_F1_ne h678_ (Int.le_refl _)) (Int.le_refl _)) sm_F1_rf sm_F1_rf sm_F1_rf sm_F1_rf (sm_F1_le h679_ (la_stepOther_99 h54_ h634_)) (sm_F1_le h684_ (la_stepOther_99 h54_ h634_)) (Int.le_refl _) (Int.le_refl _) sm_F1_rf sm_F1_rf (sm_FL_dp h46_ h23_)), ?_⟩
        refine ⟨?_, ?_⟩
        · skip
          have h727_ := (h678_ (S 1092 0 - 1))
          have h728_ := (h690_ (S 1092 0 - 1))
          have e729_ : S 1100007 (S 1100034 0) = S 1100007 (S 1100025 (S 1100033 0)) := congrArg ((S 1100007)) h55_
          have e730_ : S 1100007 (g84 57 (S 1092 0 - 1)) = S 1100007 (S 1100033 0 + 1) := congrArg ((S 1100007)) (la_stepOther_30 h47_ h689_)
          have e731_ : S 26 (S 1100034 0) = S 26 (S 1100025 (S 1100033 0)) := congrArg ((S 26)) h55_
          have e732_ : S 63 (400 * (S 1092 0 - 1) + S 58 (S 1092 0 - 1) - 2) = S 63 (400 * (S 1092 0 - 1) + (S 58 (S 1092 0 - 1) - 2)) := congrArg ((S 63)) la_stepOther_97
          have e733_ : S 63 (400 * (S 1092 0 - 1) + S 58 (S 1092 0 - 1) - 3) = S 63 (400 * (S 1092 0 - 1) + (S 58 (S 1092 0 - 1) - 3)) := congrArg ((S 63)) la_stepOther_98
          have e734_ : S 63 (400 * (S 1092 0 - 1) + S 58 (S 1092 0 - 1) - 1 - 0) = S 63 (400 * (S 1092 0 - 1) + (S 58 (S 1092 0 - 1) - 1)) := congrArg ((S 63)) la_stepOther_50
          have e735_ : S 64 (400 * (S 1092 0 - 1) + S 58 (S 1092 0 - 1) - 2) = S 64 (400 * (S 1092 0 - 1) + (S 58 (S 1092 0 - 1) - 2)) := congrArg ((S 64)) la_stepOther_97
          have e736_ : S 64 (400 * (S 1092 0 - 1) + S 58 (S 1092 0 - 1) - 3) = S 64 (400 * (S 1092 0 - 1) + (S 58 (S 1092 0 - 1) - 3)) := congrArg ((S 64)) la_stepOther_98
          have e737_ : S 64 (400 * (S 1092 0 - 1) + S 58 (S 1092 0 - 1) - 1 - 0) = S 64 (400 * (S 1092 0 - 1) + (S 58 (S 1092 0 - 1) - 1)) := congrArg ((S 64)) la_stepOther_50
          exact (la_stepOther_52 h54_ h640_ h677_ e730_)
        have h738_ := (h678_ (S 1092 0 - 1))
        have h739_ := (h690_ (S 1092 0 - 1))
        have e740_ : S 1100007 (S 1100034 0) = S 1100007 (S 1100025 (S 1100033 0)) := congrArg ((S 1100007)) h55_
        have e741_ : S 1100025 (g84 57 (S 1092 0 - 1)) = S 1100025 (S 1100033 0 + 1) := congrArg ((S 1100025)) (la_stepOther_30 h47_ h689_)
        have e742_ : S 26 (S 1100034 0) = S 26 (S 1100025 (S 1100033 0)) := congrArg ((S 26)) h55_
        have e743_ : S 63 (400 * (S 1092 0 - 1) + S 58 (S 1092 0 - 1) - 2) = S 63 (400 * (S 1092 0 - 1) + (S 58 (S 1092 0 - 1) - 2)) := congrArg ((S 63)) la_stepOther_97
        have e744_ : S 63 (400 * (S 1092 0 - 1) + S 58 (S 1092 0 - 1) - 3) = S 63 (400 * (S 1092 0 - 1) + (S 58 (S 1092 0 - 1) - 3)) := congrArg ((S 63)) la_stepOther_98
        have e745_ : S 63 (400 * (S 1092 0 - 1) + S 58 (S 1092 0 - 1) - 1 - 0) = S 63 (400 * (S 1092 0 - 1) + (S 58 (S 1092 0 - 1) - 1)) := congrArg ((S 63)) la_stepOther_50
        have e746_ : S 64 (400 * (S 1092 0 - 1) + S 58 (S 1092 0 - 1) - 2) = S 64 (400 * (S 1092 0 - 1) + (S 58 (S 1092 0 - 1) - 2)) := congrArg ((S 64)) la_stepOther_97
        have e747_ : S 64 (400 * (S 1092 0 - 1) + S 58 (S 1092 0 - 1) - 3) = S 64 (400 * (S 1092 0 - 1) + (S 58 (S 1092 0 - 1) - 3)) := congrArg ((S 64)) la_stepOther_98
        have e748_ : S 64 (400 * (S 1092 0 - 1) + S 58 (S 1092 0 - 1) - 1 - 0) = S 64 (400 * (S 1092 0 - 1) + (S 58 (S 1092 0 - 1) - 1)) := congrArg ((S 64)) la_stepOther_50
        exact (sm_SK_q (sm_SK_q (sm_SK_push (sm_SK_push (sm_SK_push (sm_SK_push (sm_SK_F (sm_SK_pop h50_ (la_stepOther_102 h677_)) (sm_F1_le h679_ (la_stepOther_103 h677_)) (sm_F1_le h684_ (la_stepOther_103 h677_)) (Int.le_refl _) (Int.le_refl _)) h24_ h52_ (la_stepOther_105 h53_ h54_ h55_ h636_ h677_ e740_) rfl (sm_VO_eq (sm_VO_eq h656_ (la_stepOther_82 h626_ e745_) (la_stepOther_82 h627_ e748_)) ((congrArg (g78 63) (la_stepOther_104 h677_)).trans h683_) ((congrArg (g78 64) (la_stepOther_104 h677_)).trans h688_)) rfl) h24_ h52_ (la_stepOther_109 h53_ h54_ h55_ h636_ h677_ e740_) rfl (sm_VO_eq (sm_VO_eq h676_ e744_ e747_) ((congrArg (g78 63) (la_stepOther_106 h677_)).trans h682_) ((congrArg (g78 64) (la_stepOther_106 h677_)).trans h687_)) rfl) h24_ h52_ (la_stepOther_111 h53_ h54_ h55_ h636_ h677_ e740_) rfl (sm_VO_eq (sm_VO_eq h666_ e743_ e746_) ((congrArg (g78 63) (la_stepOther_110 h677_)).trans h681_) ((congrArg (g78 64) (la_stepOther_110 h677_)).trans h686_)) rfl) h24_ h52_ (la_stepOther_113 h53_ h54_ h55_ h66_ h677_ e740_) rfl (sm_VO_eq (sm_VO_eq h656_ (la_stepOther_82 h626_ e745_) (la_stepOther_82 h627_ e748_)) ((congrArg (g78 63) (la_stepOther_112 h677_)).trans h680_) ((congrArg (g78 64) (la_stepOther_112 h677_)).trans h685_)) rfl) rfl la_stepOther_114 rfl) (la_stepOther_53 h55_ h642_ e741_) rfl rfl)
      refine ⟨?_, ?_⟩
      · skip
        intro h749_
        intro h750_
        have h751_ := (h750_ h23_)
        have h752_ := (h751_ h36_)
        have h753_ := (h752_ h37_)
        obtain ⟨⟨h754_, ⟨h755_, h756_⟩⟩, ⟨h757_, ⟨h758_, ⟨h759_, ⟨h760_, ⟨h761_, h762_⟩⟩⟩⟩⟩⟩ := (h753_ (la_stepOther_115 h60_ h749_))
        have h763_ := (h77_ h756_)
        refine ⟨(la_stepOther_116 h34_ h35_), ?_⟩
        refine ⟨h6_, ?_⟩
        refine ⟨h7_, ?_⟩
        refine ⟨h8_, ?_⟩
        refine ⟨h9_, ?_⟩
        refine ⟨h10_, ?_⟩
        refine ⟨h11_, ?_⟩
        refine ⟨h12_, ?_⟩
        refine ⟨h13_, ?_⟩
        refine ⟨h14_, ?_⟩
        refine ⟨h15_, ?_⟩
        refine ⟨h16_, ?_⟩
        refine ⟨h17_, ?_⟩
        refine ⟨(la_stepOther_24 h18_), ?_⟩
        refine ⟨h19_, ?_⟩
        refine ⟨h20_, ?_⟩
        refine ⟨h21_, ?_⟩
        refine ⟨h22_, ?_⟩
        refine ⟨h31_, ?_⟩
        refine ⟨(la_stepOther_25 h4_), ?_⟩
        refine ⟨(la_stepOther_26 h34_), ?_⟩
        refine ⟨h35_, ?_⟩
        intro h764_
        intro h765_
        refine ⟨h34_, ?_⟩
        refine ⟨h35_, ?_⟩
        refine ⟨?_, ?_⟩
        · skip
          have e766_ : (if S 1092 0 - 1 = S 1092 0 - 1 then p2 else S 57 (S 1092 0 - 1) : Int) = p2 := if_pos la_stepOther_117
          have e767_ : S 1100007 (S 1100034 0) = S 1100007 (S 1100025 (S 1100033 0)) := congrArg ((S 1100007)) h55_
          have e768_ : S 26 (S 1100034 0) = S 26 (S 1100025 (S 1100033 0)) := congrArg ((S 26)) h55_
          exact (la_stepOther_118 h61_ h757_ e766_)
        refine ⟨?_, ?_⟩
        · skip
          have e769_ : (if S 1092 0 - 1 = S 1092 0 - 1 then p2 else S 57 (S 1092 0 - 1) : Int) = p2 := if_pos la_stepOther_117
          have e770_ : S 1100007 (S 1100034 0) = S 1100007 (S 1100025 (S 1100033 0)) := congrArg ((S 1100007)) h55_
          have e771_ : S 26 (S 1100034 0) = S 26 (S 1100025 (S 1100033 0)) := congrArg ((S 26)) h55_
          exact (la_stepOther_119 h61_ h758_ e769_)
        refine ⟨?_, ?_⟩
        · skip
          have e772_ : (if S 1092 0 - 1 = S 1092 0 - 1 then p2 else S 57 (S 1092 0 - 1) : Int) = p2 := if_pos la_stepOther_117
          have e773_ : S 1100007 (S 1100034 0) = S 1100007 (S 1100025 (S 1100033 0)) := congrArg ((S 1100007)) h55_
          have e774_ : S 26 (S 1100034 0) = S 26 (S 1100025 (S 1100033 0)) := congrArg ((S 26)) h55_
          have e775_ : S 29 (if S 1092 0 - 1 = S 1092 0 - 1 then p2 else S 57 (S 1092 0 - 1)) = S 29 (S 27 (S 1100033 0)) := congrArg ((S 29)) (la_stepOther_13 h61_ e772_)
          exact (la_stepOther_31 h38_ h759_ e775_)
        refine ⟨h39_, ?_⟩
        refine ⟨h40_, ?_⟩
        refine ⟨?_, ?_⟩
        · skip
          have e776_ : (if S 1092 0 - 1 = S 1092 0 - 1 then p2 else S 57 (S 1092 0 - 1) : Int) = p2 := if_pos la_stepOther_117
          have e777_ : S 1100007 (S 1100034 0) = S 1100007 (S 1100025 (S 1100033 0)) := congrArg ((S 1100007)) h55_
          have e778_ : S 1100023 (if S 1092 0 - 1 = S 1092 0 - 1 then p2 else S 57 (S 1092 0 - 1)) = S 1100023 (S 27 (S 1100033 0)) := congrArg ((S 1100023)) (la_stepOther_13 h61_ e776_)
          have e779_ : S 26 (S 1100034 0) = S 26 (S 1100025 (S 1100033 0)) := congrArg ((S 26)) h55_
          have e780_ : sm_dp (S 1100024) (S 1100023 (if S 1092 0 - 1 = S 1092 0 - 1 then p2 else S 57 (S 1092 0 - 1))) = sm_dp (S 1100024) (S 1100023 (S 1100033 0)) := congrArg ((sm_dp (S 1100024))) (la_stepOther_13 h761_ e778_)
          exact (la_stepOther_32 h41_ e780_)
        refine ⟨?_, ?_⟩
        · skip
          have e781_ : (if S 1092 0 - 1 = S 1092 0 - 1 then p2 else S 57 (S 1092 0 - 1) : Int) = p2 := if_pos la_stepOther_117
          have e782_ : S 1100007 (S 1100034 0) = S 1100007 (S 1100025 (S 1100033 0)) := congrArg ((S 1100007)) h55_
          have e783_ : S 1100023 (if S 1092 0 - 1 = S 1092 0 - 1 then p2 else S 57 (S 1092 0 - 1)) = S 1100023 (S 27 (S 1100033 0)) := congrArg ((S 1100023)) (la_stepOther_13 h61_ e781_)
          have e784_ : S 26 (S 1100034 0) = S 26 (S 1100025 (S 1100033 0)) := congrArg ((S 26)) h55_
          exact (sm_TC_t h42_ (la_stepOther_33 h761_ e783_))
        refine ⟨h43_, ?_⟩
        refine ⟨h44_, ?_⟩
        refine ⟨h45_, ?_⟩
        refine ⟨(sm_FL_F h46_ sm_F1_rf sm_F1_rf sm_F1_rf sm_F1_rf (sm_F1_up sm_F1_rf (Int.le_refl _)) sm_F1_rf sm_F1_rf sm_F1_rf sm_F1_rf sm_F1_rf sm_F1_rf sm_F1_rf (Int.le_refl _) (Int.le_refl _) sm_F1_rf sm_F1_rf (sm_FL_dp h46_ h23_)), ?_⟩
        refine ⟨?_, ?_⟩
        · skip
          have e785_ : (if S 1092 0 - 1 = S 1092 0 - 1 then p2 else S 57 (S 1092 0 - 1) : Int) = p2 := if_pos la_stepOther_117
          have e786_ : S 1100007 (S 1100034 0) = S 1100007 (S 1100025 (S 1100033 0)) := congrArg ((S 1100007)) h55_
          have e787_ : S 1100007 (if S 1092 0 - 1 = S 1092 0 - 1 then p2 else S 57 (S 1092 0 - 1)) = S 1100007 (S 27 (S 1100033 0)) := congrArg ((S 1100007)) (la_stepOther_13 h61_ e785_)
          have e788_ : S 26 (S 1100034 0) = S 26 (S 1100025 (S 1100033 0)) := congrArg ((S 26)) h55_
          exact (la_stepOther_120 h54_ h760_ e787_)
        have e789_ : (if S 1092 0 - 1 = S 1092 0 - 1 then p2 else S 57 (S 1092 0 - 1) : Int) = p2 := if_pos la_stepOther_117
        have e790_ : S 1100007 (S 1100034 0) = S 1100007 (S 1100025 (S 1100033 0)) := congrArg ((S 1100007)) h55_
        have e791_ : S 1100025 (if S 1092 0 - 1 = S 1092 0 - 1 then p2 else S 57 (S 1092 0 - 1)) = S 1100025 (S 27 (S 1100033 0)) := congrArg ((S 1100025)) (la_stepOther_13 h61_ e789_)
        have e792_ : S 26 (S 1100034 0) = S 26 (S 1100025 (S 1100033 0)) := congrArg ((S 26)) h55_
        exact (sm_SK_q h50_ (la_stepOther_53 h55_ h762_ e791_) rfl rfl)
      refine ⟨?_, ?_⟩
      · skip
        intro h793_
        have h794_ := (h62_.resolve_left (la_stepOther_122 h793_))
        have h795_ := (h79_.resolve_left (la_stepOther_123 h793_))
        have h796_ := (h81_.resolve_left (la_stepOther_123 h793_))
        have h797_ := (h794_.resolve_left (la_stepOther_124 h793_))
        have h798_ := (h797_.resolve_left (la_stepOther_125 h793_))
        intro h799_
        have h800_ := (h799_ h23_)
        have h801_ := (h800_ h36_)
        have h802_ := (h801_ h37_)
        obtain ⟨⟨h803_, ⟨h804_, h805_⟩⟩, ⟨⟨h806_, ⟨h807_, ⟨h808_, ⟨h809_, ⟨h810_, h811_⟩⟩⟩⟩⟩, ⟨h812_, ⟨h813_, ⟨h814_, ⟨h815_, ⟨h816_, h817_⟩⟩⟩⟩⟩⟩⟩ := (h802_ (la_stepOther_126 h60_ h793_))
        intro h818_
        have h819_ := (h818_ h55_)
        have h820_ := (h819_ h54_)
        have h821_ := (h820_ h805_)
        intro h822_
        have h823_ := (h822_ h50_)
        have h824_ := (h823_ h24_)
        have h825_ := (h824_ (la_stepOther_44 h798_))
        have h826_ := (h825_ la_stepOther_45)
        have h827_ := (h826_ h52_)
        have h828_ := (h827_ h55_)
        have h829_ := (h828_ h54_)
        have h830_ := (h829_ h53_)
        have h831_ := (h830_ h805_)
        refine ⟨(la_stepOther_22 h34_ h35_ h57_ h798_), ?_⟩
        intro g97
        rintro ⟨h832_, h833_⟩
        refine ⟨?_, ?_⟩
        · skip
          refine ⟨h20_, ?_⟩
          refine ⟨h21_, ?_⟩
          refine ⟨h22_, ?_⟩
          intro h834_
          refine ⟨?_, ?_⟩
          · skip
            have h835_ := (h833_ (S 1092 0 - 1))
            have e836_ : S 1100007 (S 1100034 0) = S 1100007 (S 1100025 (S 1100033 0)) := congrArg ((S 1100007)) h55_
            have e837_ : S 26 (S 1100034 0) = S 26 (S 1100025 (S 1100033 0)) := congrArg ((S 26)) h55_
            have e838_ : S 63 (400 * (S 1092 0 - 1) + S 58 (S 1092 0 - 1) - 1 - 0) = S 63 (400 * (S 1092 0 - 1) + (S 58 (S 1092 0 - 1) - 1)) := congrArg ((S 63)) la_stepOther_50
            have e839_ : S 64 (400 * (S 1092 0 - 1) + S 58 (S 1092 0 - 1) - 1 - 0) = S 64 (400 * (S 1092 0 - 1) + (S 58 (S 1092 0 - 1) - 1)) := congrArg ((S 64)) la_stepOther_50
            obtain ⟨h840_, h841_⟩ := ((sm_VO_e h831_).2.2.1 (la_stepOther_127 h795_ h834_ e838_))
            exact (la_stepOther_129 h796_ e839_ h840_)
          have h842_ := (h833_ (S 1092 0 - 1))
          have e843_ : S 1100007 (S 1100034 0) = S 1100007 (S 1100025 (S 1100033 0)) := congrArg ((S 1100007)) h55_
          have e844_ : S 26 (S 1100034 0) = S 26 (S 1100025 (S 1100033 0)) := congrArg ((S 26)) h55_
          have e845_ : S 63 (400 * (S 1092 0 - 1) + S 58 (S 1092 0 - 1) - 1 - 0) = S 63 (400 * (S 1092 0 - 1) + (S 58 (S 1092 0 - 1) - 1)) := congrArg ((S 63)) la_stepOther_50
          have e846_ : S 64 (400 * (S 1092 0 - 1) + S 58 (S 1092 0 - 1) - 1 - 0) = S 64 (400 * (S 1092 0 - 1) + (S 58 (S 1092 0 - 1) - 1)) := congrArg ((S 64)) la_stepOther_50
          obtain ⟨h847_, h848_⟩ := ((sm_VO_e h831_).2.2.1 (la_stepOther_127 h795_ h834_ e845_))
          exact (la_stepOther_130 h21_ h796_ e846_ h848_)
        intro r107
        intro h849_
        intro h850_
        refine ⟨?_, ?_⟩
        · skip
          intro h851_
          have h852_ := (h850_.resolve_right (la_stepOther_16 h851_))
          refine ⟨(la_stepOther_116 h34_ h35_), ?_⟩
          refine ⟨h6_, ?_⟩
          refine ⟨h7_, ?_⟩
          refine ⟨h8_, ?_⟩
          refine ⟨h9_, ?_⟩
          refine ⟨h10_, ?_⟩
          refine ⟨h11_, ?_⟩
          refine ⟨h12_, ?_⟩
          refine ⟨h13_, ?_⟩
          refine ⟨h14_, ?_⟩
          refine ⟨h15_, ?_⟩
          refine ⟨h16_, ?_⟩
          refine ⟨h17_, ?_⟩
          refine ⟨(la_stepOther_24 h18_), ?_⟩
          refine ⟨h19_, ?_⟩
          refine ⟨h20_, ?_⟩
          refine ⟨h21_, ?_⟩
          refine ⟨h22_, ?_⟩
          refine ⟨h31_, ?_⟩
          refine ⟨(la_stepOther_25 h4_), ?_⟩
          refine ⟨(la_stepOther_26 h34_), ?_⟩
          refine ⟨h35_, ?_⟩
          intro h853_
          intro h854_
          refine ⟨h34_, ?_⟩
          refine ⟨h35_, ?_⟩
          refine ⟨?_, ?_⟩
          · skip
            have h855_ := (h833_ (S 1092 0 - 1))
            have e856_ : (if S 1092 0 - 1 = S 1092 0 - 1 then p2 else S 57 (S 1092 0 - 1) : Int) = p2 := if_pos la_stepOther_117
            have e857_ : S 1100007 (S 1100034 0) = S 1100007 (S 1100025 (S 1100033 0)) := congrArg ((S 1100007)) h55_
            have e858_ : S 26 (S 1100034 0) = S 26 (S 1100025 (S 1100033 0)) := congrArg ((S 26)) h55_
            have e859_ : S 63 (400 * (S 1092 0 - 1) + S 58 (S 1092 0 - 1) - 1 - 0) = S 63 (400 * (S 1092 0 - 1) + (S 58 (S 1092 0 - 1) - 1)) := congrArg ((S 63)) la_stepOther_50
            have e860_ : S 64 (400 * (S 1092 0 - 1) + S 58 (S 1092 0 - 1) - 1 - 0) = S 64 (400 * (S 1092 0 - 1) + (S 58 (S 1092 0 - 1) - 1)) := congrArg ((S 64)) la_stepOther_50
            exact (la_stepOther_118 h61_ h812_ e856_)
          refine ⟨?_, ?_⟩
          · skip
            have h861_ := (h833_ (S 1092 0 - 1))
            have e862_ : (if S 1092 0 - 1 = S 1092 0 - 1 then p2 else S 57 (S 1092 0 - 1) : Int) = p2 := if_pos la_stepOther_117
            have e863_ : S 1100007 (S 1100034 0) = S 1100007 (S 1100025 (S 1100033 0)) := congrArg ((S 1100007)) h55_
            have e864_ : S 26 (S 1100034 0) = S 26 (S 1100025 (S 1100033 0)) := congrArg ((S 26)) h55_
            have e865_ : S 63 (400 * (S 1092 0 - 1) + S 58 (S 1092 0 - 1) - 1 - 0) = S 63 (400 * (S 1092 0 - 1) + (S 58 (S 1092 0 - 1) - 1)) := congrArg ((S 63)) la_stepOther_50
            have e866_ : S 64 (400 * (S 1092 0 - 1) + S 58 (S 1092 0 - 1) - 1 - 0) = S 64 (400 * (S 1092 0 - 1) + (S 58 (S 1092 0 - 1) - 1)) := congrArg ((S 64)) la_stepOther_50
            exact (la_stepOther_119 h61_ h813_ e862_)
          refine ⟨?_, ?_⟩
          · skip
            have h867_ := (h833_ (S 1092 0 - 1))
            have e868_ : (if S 1092 0 - 1 = S 1092 0 - 1 then p2 else S 57 (S 1092 0 - 1) : Int) = p2 := if_pos la_stepOther_117
            have e869_ : S 1100007 (S 1100034 0) = S 1100007 (S 1100025 (S 1100033 0)) := congrArg ((S 1100007)) h55_
            have e870_ : S 26 (S 1100034 0) = S 26 (S 1100025 (S 1100033 0)) := congrArg ((S 26)) h55_
            have e871_ : S 29 (if S 1092 0 - 1 = S 1092 0 - 1 then p2 else S 57 (S 1092 0 - 1)) = S 29 (S 27 (S 1100033 0)) := congrArg ((S 29)) (la_stepOther_13 h61_ e868_)
            have e872_ : S 63 (400 * (S 1092 0 - 1) + S 58 (S 1092 0 - 1) - 1 - 0) = S 63 (400 * (S 1092 0 - 1) + (S 58 (S 1092 0 - 1) - 1)) := congrArg ((S 63)) la_stepOther_50
            have e873_ : S 64 (400 * (S 1092 0 - 1) + S 58 (S 1092 0 - 1) - 1 - 0) = S 64 (400 * (S 1092 0 - 1) + (S 58 (S 1092 0 - 1) - 1)) := congrArg ((S 64)) la_stepOther_50
            exact (la_stepOther_31 h38_ h814_ e871_)
          refine ⟨h39_, ?_⟩
          refine ⟨h40_, ?_⟩
          refine ⟨?_, ?_⟩
          · skip
            have h874_ := (h833_ (S 1092 0 - 1))
            have e875_ : (if S 1092 0 - 1 = S 1092 0 - 1 then p2 else S 57 (S 1092 0 - 1) : Int) = p2 := if_pos la_stepOther_117
            have e876_ : S 1100007 (S 1100034 0) = S 1100007 (S 1100025 (S 1100033 0)) := congrArg ((S 1100007)) h55_
            have e877_ : S 1100023 (if S 1092 0 - 1 = S 1092 0 - 1 then p2 else S 57 (S 1092 0 - 1)) = S 1100023 (S 27 (S 1100033 0)) := congrArg ((S 1100023)) (la_stepOther_13 h61_ e875_)
            have e878_ : S 26 (S 1100034 0) = S 26 (S 1100025 (S 1100033 0)) := congrArg ((S 26)) h55_
            have e879_ : S 63 (400 * (S 1092 0 - 1) + S 58 (S 1092 0 - 1) - 1 - 0) = S 63 (400 * (S 1092 0 - 1) + (S 58 (S 1092 0 - 1) - 1)) := congrArg ((S 63)) la_stepOther_50
            have e880_ : S 64 (400 * (S 1092 0 - 1) + S 58 (S 1092 0 - 1) - 1 - 0) = S 64 (400 * (S 1092 0 - 1) + (S 58 (S 1092 0 - 1) - 1)) := congrArg ((S 64)) la_stepOther_50
            have e881_ : sm_dp (S 1100024) (S 1100023 (if S 1092 0 - 1 = S 1092 0 - 1 then p2 else S 57 (S 1092 0 - 1))) = sm_dp (S 1100024) (S 1100023 (S 1100033 0)) := congrArg ((sm_dp (S 1100024))) (la_stepOther_13 h816_ e877_)
            exact (la_stepOther_32 h41_ e881_)
          refine ⟨?_, ?_⟩
          · skip
            have h882_ := (h833_ (S 1092 0 - 1))
            have e883_ : (if S 1092 0 - 1 = S 1092 0 - 1 then p2 else S 57 (S 1092 0 - 1) : Int) = p2 := if_pos la_stepOther_117
            have e884_ : S 1100007 (S 1100034 0) = S 1100007 (S 1100025 (S 1100033 0)) := congrArg ((S 1100007)) h55_
            have e885_ : S 1100023 (if S 1092 0 - 1 = S 1092 0 - 1 then p2 else S 57 (S 1092 0 - 1)) = S 1100023 (S 27 (S 1100033 0)) := congrArg ((S 1100023)) (la_stepOther_13 h61_ e883_)
            have e886_ : S 26 (S 1100034 0) = S 26 (S 1100025 (S 1100033 0)) := congrArg ((S 26)) h55_
            have e887_ : S 63 (400 * (S 1092 0 - 1) + S 58 (S 1092 0 - 1) - 1 - 0) = S 63 (400 * (S 1092 0 - 1) + (S 58 (S 1092 0 - 1) - 1)) := congrArg ((S 63)) la_stepOther_50
            have e888_ : S 64 (400 * (S 1092 0 - 1) + S 58 (S 1092 0 - 1) - 1 - 0) = S 64 (400 * (S 1092 0 - 1) + (S 58 (S 1092 0 - 1) - 1)) := congrArg ((S 64)) la_stepOther_50
            exact (sm_TC_t h42_ (la_stepOther_33 h816_ e885_))
          refine ⟨h43_, ?_⟩
          refine ⟨h44_, ?_⟩
          refine ⟨h45_, ?_⟩
          refine ⟨(sm_FL_F h46_ sm_F1_rf sm_F1_rf sm_F1_rf sm_F1_rf (sm_F1_up sm_F1_rf (Int.le_refl _)) (sm_F1_le (sm_F1_ne h833_ (Int.le_refl _)) (Int.le_refl _)) sm_F1_rf sm_F1_rf sm_F1_rf sm_F1_rf sm_F1_rf sm_F1_rf (Int.le_refl _) (Int.le_refl _) sm_F1_rf sm_F1_rf (sm_FL_dp h46_ h23_)), ?_⟩
          refine ⟨?_, ?_⟩
          · skip
            have h889_ := (h833_ (S 1092 0 - 1))
            have e890_ : (if S 1092 0 - 1 = S 1092 0 - 1 then p2 else S 57 (S 1092 0 - 1) : Int) = p2 := if_pos la_stepOther_117
            have e891_ : S 1100007 (S 1100034 0) = S 1100007 (S 1100025 (S 1100033 0)) := congrArg ((S 1100007)) h55_
            have e892_ : S 1100007 (if S 1092 0 - 1 = S 1092 0 - 1 then p2 else S 57 (S 1092 0 - 1)) = S 1100007 (S 27 (S 1100033 0)) := congrArg ((S 1100007)) (la_stepOther_13 h61_ e890_)
            have e893_ : S 26 (S 1100034 0) = S 26 (S 1100025 (S 1100033 0)) := congrArg ((S 26)) h55_
            have e894_ : S 63 (400 * (S 1092 0 - 1) + S 58 (S 1092 0 - 1) - 1 - 0) = S 63 (400 * (S 1092 0 - 1) + (S 58 (S 1092 0 - 1) - 1)) := congrArg ((S 63)) la_stepOther_50
            have e895_ : S 64 (400 * (S 1092 0 - 1) + S 58 (S 1092 0 - 1) - 1 - 0) = S 64 (400 * (S 1092 0 - 1) + (S 58 (S 1092 0 - 1) - 1)) := congrArg ((S 64)) la_stepOther_50
            exact (la_stepOther_34 h54_ h815_ h832_ e892_)
          have h896_ := (h833_ (S 1092 0 - 1))
          have e897_ : (if S 1092 0 - 1 = S 1092 0 - 1 then p2 else S 57 (S 1092 0 - 1) : Int) = p2 := if_pos la_stepOther_117
          have e898_ : S 1100007 (S 1100034 0) = S 1100007 (S 1100025 (S 1100033 0)) := congrArg ((S 1100007)) h55_
          have e899_ : S 1100025 (if S 1092 0 - 1 = S 1092 0 - 1 then p2 else S 57 (S 1092 0 - 1)) = S 1100025 (S 27 (S 1100033 0)) := congrArg ((S 1100025)) (la_stepOther_13 h61_ e897_)
          have e900_ : S 26 (S 1100034 0) = S 26 (S 1100025 (S 1100033 0)) := congrArg ((S 26)) h55_
          have e901_ : S 63 (400 * (S 1092 0 - 1) + S 58 (S 1092 0 - 1) - 1 - 0) = S 63 (400 * (S 1092 0 - 1) + (S 58 (S 1092 0 - 1) - 1)) := congrArg ((S 63)) la_stepOther_50
          have e902_ : S 64 (400 * (S 1092 0 - 1) + S 58 (S 1092 0 - 1) - 1 - 0) = S 64 (400 * (S 1092 0 - 1) + (S 58 (S 1092 0 - 1) - 1)) := congrArg ((S 64)) la_stepOther_50
          exact (sm_SK_q (sm_SK_pop h50_ (la_stepOther_131 h832_)) (la_stepOther_53 h55_ h817_ e899_) rfl rfl)
        intro h903_
        have h904_ := (h850_.resolve_left h903_)
        refine ⟨(la_stepOther_116 h34_ h35_), ?_⟩
        intro h905_
        refine ⟨(la_stepOther_134 h29_ h36_ h47_ h807_), ?_⟩
        refine ⟨h6_, ?_⟩
        refine ⟨h7_, ?_⟩
        refine ⟨h8_, ?_⟩
        refine ⟨h9_, ?_⟩
        refine ⟨h10_, ?_⟩
        refine ⟨h11_, ?_⟩
        refine ⟨h12_, ?_⟩
        refine ⟨h13_, ?_⟩
        refine ⟨h14_, ?_⟩
        refine ⟨h15_, ?_⟩
        refine ⟨h16_, ?_⟩
        refine ⟨h17_, ?_⟩
        refine ⟨(la_stepOther_24 h18_), ?_⟩
        refine ⟨h19_, ?_⟩
        refine ⟨h20_, ?_⟩
        refine ⟨h21_, ?_⟩
        refine ⟨h22_, ?_⟩
        refine ⟨h31_, ?_⟩
        refine ⟨(la_stepOther_25 h4_), ?_⟩
        refine ⟨(la_stepOther_26 h34_), ?_⟩
        refine ⟨h35_, ?_⟩
        intro h906_
        intro h907_
        refine ⟨h34_, ?_⟩
        refine ⟨h35_, ?_⟩
        refine ⟨?_, ?_⟩
        · skip
          have h908_ := (h833_ (S 1092 0 - 1))
          have e909_ : (if S 1092 0 - 1 = S 1092 0 - 1 then S 57 (S 1092 0 - 1) + 1 else S 57 (S 1092 0 - 1) : Int) = S 57 (S 1092 0 - 1) + 1 := if_pos la_stepOther_117
          have e910_ : S 1100007 (S 1100034 0) = S 1100007 (S 1100025 (S 1100033 0)) := congrArg ((S 1100007)) h55_
          have e911_ : S 26 (S 1100034 0) = S 26 (S 1100025 (S 1100033 0)) := congrArg ((S 26)) h55_
          have e912_ : S 63 (400 * (S 1092 0 - 1) + S 58 (S 1092 0 - 1) - 1 - 0) = S 63 (400 * (S 1092 0 - 1) + (S 58 (S 1092 0 - 1) - 1)) := congrArg ((S 63)) la_stepOther_50
          have e913_ : S 64 (400 * (S 1092 0 - 1) + S 58 (S 1092 0 - 1) - 1 - 0) = S 64 (400 * (S 1092 0 - 1) + (S 58 (S 1092 0 - 1) - 1)) := congrArg ((S 64)) la_stepOther_50
          exact (la_stepOther_27 h36_ h47_ e909_)
        refine ⟨?_, ?_⟩
        · skip
          have h914_ := (h833_ (S 1092 0 - 1))
          have e915_ : (if S 1092 0 - 1 = S 1092 0 - 1 then S 57 (S 1092 0 - 1) + 1 else S 57 (S 1092 0 - 1) : Int) = S 57 (S 1092 0 - 1) + 1 := if_pos la_stepOther_117
          have e916_ : S 1100007 (S 1100034 0) = S 1100007 (S 1100025 (S 1100033 0)) := congrArg ((S 1100007)) h55_
          have e917_ : S 26 (S 1100034 0) = S 26 (S 1100025 (S 1100033 0)) := congrArg ((S 26)) h55_
          have e918_ : S 63 (400 * (S 1092 0 - 1) + S 58 (S 1092 0 - 1) - 1 - 0) = S 63 (400 * (S 1092 0 - 1) + (S 58 (S 1092 0 - 1) - 1)) := congrArg ((S 63)) la_stepOther_50
          have e919_ : S 64 (400 * (S 1092 0 - 1) + S 58 (S 1092 0 - 1) - 1 - 0) = S 64 (400 * (S 1092 0 - 1) + (S 58 (S 1092 0 - 1) - 1)) := congrArg ((S 64)) la_stepOther_50
          exact (la_stepOther_28 h47_ h807_ e915_)
        refine ⟨?_, ?_⟩
        · skip
          have h920_ := (h833_ (S 1092 0 - 1))
          have e921_ : (if S 1092 0 - 1 = S 1092 0 - 1 then S 57 (S 1092 0 - 1) + 1 else S 57 (S 1092 0 - 1) : Int) = S 57 (S 1092 0 - 1) + 1 := if_pos la_stepOther_117
          have e922_ : S 1100007 (S 1100034 0) = S 1100007 (S 1100025 (S 1100033 0)) := congrArg ((S 1100007)) h55_
          have e923_ : S 26 (S 1100034 0) = S 26 (S 1100025 (S 1100033 0)) := congrArg ((S 26)) h55_
          have e924_ : S 29 (if S 1092 0 - 1 = S 1092 0 - 1 then S 57 (S 1092 0 - 1) + 1 else S 57 (S 1092 0 - 1)) = S 29 (S 1100033 0 + 1) := congrArg ((S 29)) (la_stepOther_30 h47_ e921_)
          have e925_ : S 63 (400 * (S 1092 0 - 1) + S 58 (S 1092 0 - 1) - 1 - 0) = S 63 (400 * (S 1092 0 - 1) + (S 58 (S 1092 0 - 1) - 1)) := congrArg ((S 63)) la_stepOther_50
          have e926_ : S 64 (400 * (S 1092 0 - 1) + S 58 (S 1092 0 - 1) - 1 - 0) = S 64 (400 * (S 1092 0 - 1) + (S 58 (S 1092 0 - 1) - 1)) := congrArg ((S 64)) la_stepOther_50
          exact (la_stepOther_31 h38_ h808_ e924_)
        refine ⟨h39_, ?_⟩
        refine ⟨h40_, ?_⟩
        refine ⟨?_, ?_⟩
        · skip
          have h927_ := (h833_ (S 1092 0 - 1))
          have e928_ : (if S 1092 0 - 1 = S 1092 0 - 1 then S 57 (S 1092 0 - 1) + 1 else S 57 (S 1092 0 - 1) : Int) = S 57 (S 1092 0 - 1) + 1 := if_pos la_stepOther_117
          have e929_ : S 1100007 (S 1100034 0) = S 1100007 (S 1100025 (S 1100033 0)) := congrArg ((S 1100007)) h55_
          have e930_ : S 1100023 (if S 1092 0 - 1 = S 1092 0 - 1 then S 57 (S 1092 0 - 1) + 1 else S 57 (S 1092 0 - 1)) = S 1100023 (S 1100033 0 + 1) := congrArg ((S 1100023)) (la_stepOther_30 h47_ e928_)
          have e931_ : S 26 (S 1100034 0) = S 26 (S 1100025 (S 1100033 0)) := congrArg ((S 26)) h55_
          have e932_ : S 63 (400 * (S 1092 0 - 1) + S 58 (S 1092 0 - 1) - 1 - 0) = S 63 (400 * (S 1092 0 - 1) + (S 58 (S 1092 0 - 1) - 1)) := congrArg ((S 63)) la_stepOther_50
          have e933_ : S 64 (400 * (S 1092 0 - 1) + S 58 (S 1092 0 - 1) - 1 - 0) = S 64 (400 * (S 1092 0 - 1) + (S 58 (S 1092 0 - 1) - 1)) := congrArg ((S 64)) la_stepOther_50
          have e934_ : sm_dp (S 1100024) (S 1100023 (if S 1092 0 - 1 = S 1092 0 - 1 then S 57 (S 1092 0 - 1) + 1 else S 57 (S 1092 0 - 1))) = sm_dp (S 1100024) (S 1100023 (S 1100033 0)) := congrArg ((sm_dp (S 1100024))) (la_stepOther_13 h810_ e930_)
          exact (la_stepOther_32 h41_ e934_)
        refine ⟨?_, ?_⟩
        · skip
          have h935_ := (h833_ (S 1092 0 - 1))
          have e936_ : (if S 1092 0 - 1 = S 1092 0 - 1 then S 57 (S 1092 0 - 1) + 1 else S 57 (S 1092 0 - 1) : Int) = S 57 (S 1092 0 - 1) + 1 := if_pos la_stepOther_117
          have e937_ : S 1100007 (S 1100034 0) = S 1100007 (S 1100025 (S 1100033 0)) := congrArg ((S 1100007)) h55_
          have e938_ : S 1100023 (if S 1092 0 - 1 = S 1092 0 - 1 then S 57 (S 1092 0 - 1) + 1 else S 57 (S 1092 0 - 1)) = S 1100023 (S 1100033 0 + 1) := congrArg ((S 1100023)) (la_stepOther_30 h47_ e936_)
          have e939_ : S 26 (S 1100034 0) = S 26 (S 1100025 (S 1100033 0)) := congrArg ((S 26)) h55_
          have e940_ : S 63 (400 * (S 1092 0 - 1) + S 58 (S 1092 0 - 1) - 1 - 0) = S 63 (400 * (S 1092 0 - 1) + (S 58 (S 1092 0 - 1) - 1)) := congrArg ((S 63)) la_stepOther_50
          have e941_ : S 64 (400 * (S 1092 0 - 1) + S 58 (S 1092 0 - 1) - 1 - 0) = S 64 (400 * (S 1092 0 - 1) + (S 58 (S 1092 0 - 1) - 1)) := congrArg ((S 64)) la_stepOther_50
          exact (sm_TC_t h42_ (la_stepOther_33 h810_ e938_))
        refine ⟨h43_, ?_⟩
        refine ⟨h44_, ?_⟩
        refine ⟨h45_, ?_⟩
        refine ⟨(sm_FL_F h46_ sm_F1_rf sm_F1_rf sm_F1_rf sm_F1_rf (sm_F1_up sm_F1_rf (Int.le_refl _)) (sm_F1_le (sm_F1_ne h833_ (Int.le_refl _)) (Int.le_refl _)) sm_F1_rf sm_F1_rf sm_F1_rf sm_F1_rf sm_F1_rf sm_F1_rf (Int.le_refl _) (Int.le_refl _) sm_F1_rf sm_F1_rf (sm_FL_dp h46_ h23_)), ?_⟩
        refine ⟨?_, ?_⟩
        · skip
          have h942_ := (h833_ (S 1092 0 - 1))
          have e943_ : (if S 1092 0 - 1 = S 1092 0 - 1 then S 57 (S 1092 0 - 1) + 1 else S 57 (S 1092 0 - 1) : Int) = S 57 (S 1092 0 - 1) + 1 := if_pos la_stepOther_117
          have e944_ : S 1100007 (S 1100034 0) = S 1100007 (S 1100025 (S 1100033 0)) := congrArg ((S 1100007)) h55_
          have e945_ : S 1100007 (if S 1092 0 - 1 = S 1092 0 - 1 then S 57 (S 1092 0 - 1) + 1 else S 57 (S 1092 0 - 1)) = S 1100007 (S 1100033 0 + 1) := congrArg ((S 1100007)) (la_stepOther_30 h47_ e943_)
          have e946_ : S 26 (S 1100034 0) = S 26 (S 1100025 (S 1100033 0)) := congrArg ((S 26)) h55_
          have e947_ : S 63 (400 * (S 1092 0 - 1) + S 58 (S 1092 0 - 1) - 1 - 0) = S 63 (400 * (S 1092 0 - 1) + (S 58 (S 1092 0 - 1) - 1)) := congrArg ((S 63)) la_stepOther_50
          have e948_ : S 64 (400 * (S 1092 0 - 1) + S 58 (S 1092 0 - 1) - 1 - 0) = S 64 (400 * (S 1092 0 - 1) + (S 58 (S 1092 0 - 1) - 1)) := congrArg ((S 64)) la_stepOther_50
          exact (la_stepOther_34 h54_ h809_ h832_ e945_)
        have h949_ := (h833_ (S 1092 0 - 1))
        have e950_ : (if S 1092 0 - 1 = S 1092 0 - 1 then S 57 (S 1092 0 - 1) + 1 else S 57 (S 1092 0 - 1) : Int) = S 57 (S 1092 0 - 1) + 1 := if_pos la_stepOther_117
        have e951_ : S 1100007 (S 1100034 0) = S 1100007 (S 1100025 (S 1100033 0)) := congrArg ((S 1100007)) h55_
        have e952_ : S 1100025 (if S 1092 0 - 1 = S 1092 0 - 1 then S 57 (S 1092 0 - 1) + 1 else S 57 (S 1092 0 - 1)) = S 1100025 (S 1100033 0 + 1) := congrArg ((S 1100025)) (la_stepOther_30 h47_ e950_)
        have e953_ : S 26 (S 1100034 0) = S 26 (S 1100025 (S 1100033 0)) := congrArg ((S 26)) h55_
        have e954_ : S 63 (400 * (S 1092 0 - 1) + S 58 (S 1092 0 - 1) - 1 - 0) = S 63 (400 * (S 1092 0 - 1) + (S 58 (S 1092 0 - 1) - 1)) := congrArg ((S 63)) la_stepOther_50
        have e955_ : S 64 (400 * (S 1092 0 - 1) + S 58 (S 1092 0 - 1) - 1 - 0) = S 64 (400 * (S 1092 0 - 1) + (S 58 (S 1092 0 - 1) - 1)) := congrArg ((S 64)) la_stepOther_50
        exact (sm_SK_q (sm_SK_pop h50_ (la_stepOther_131 h832_)) (la_stepOther_53 h55_ h811_ e952_) rfl rfl)
      refine ⟨?_, ?_⟩
      · skip
        intro h956_
        intro h957_
        have h958_ := (h957_ h79_)
        have h959_ := (h958_ h956_)
        intro h960_
        have h961_ := (h960_ h81_)
        have h962_ := (h961_ h956_)
        intro h963_
        have h964_ := (h963_ h23_)
        have h965_ := (h964_ h36_)
        have h966_ := (h965_ h37_)
        have h967_ := (h966_ h956_)
        obtain ⟨⟨h968_, ⟨h969_, h970_⟩⟩, ⟨⟨h971_, ⟨h972_, ⟨h973_, ⟨h974_, ⟨h975_, h976_⟩⟩⟩⟩⟩, ⟨h977_, ⟨h978_, ⟨h979_, ⟨h980_, ⟨h981_, h982_⟩⟩⟩⟩⟩⟩⟩ := (h967_ h60_)
        intro h983_
        have h984_ := (h983_ h55_)
        have h985_ := (h984_ h54_)
        have h986_ := (h985_ h970_)
        intro h987_
        have h988_ := (h987_ h50_)
        have h989_ := (h988_ h24_)
        have h990_ := (h989_ (la_stepOther_135 h54_ h968_))
        have h991_ := (h990_ la_stepOther_45)
        have h992_ := (h991_ h52_)
        have h993_ := (h992_ h55_)
        have h994_ := (h993_ h54_)
        have h995_ := (h994_ h53_)
        have h996_ := (h995_ h970_)
        refine ⟨?_, ?_⟩
        · skip
          refine ⟨h20_, ?_⟩
          refine ⟨h21_, ?_⟩
          refine ⟨h22_, ?_⟩
          intro h997_
          refine ⟨?_, ?_⟩
          · skip
            have e998_ : S 1100007 (S 1100034 0) = S 1100007 (S 1100025 (S 1100033 0)) := congrArg ((S 1100007)) h55_
            have e999_ : S 26 (S 1100034 0) = S 26 (S 1100025 (S 1100033 0)) := congrArg ((S 26)) h55_
            have e1000_ : S 63 (400 * (S 1092 0 - 1) + S 58 (S 1092 0 - 1) - 1 - 0) = S 63 (400 * (S 1092 0 - 1) + (S 58 (S 1092 0 - 1) - 1)) := congrArg ((S 63)) la_stepOther_50
            have e1001_ : S 64 (400 * (S 1092 0 - 1) + S 58 (S 1092 0 - 1) - 1 - 0) = S 64 (400 * (S 1092 0 - 1) + (S 58 (S 1092 0 - 1) - 1)) := congrArg ((S 64)) la_stepOther_50
            obtain ⟨h1002_, h1003_⟩ := ((sm_VO_e h996_).2.2.1 (la_stepOther_127 h959_ h997_ e1000_))
            exact (la_stepOther_129 h962_ e1001_ h1002_)
          have e1004_ : S 1100007 (S 1100034 0) = S 1100007 (S 1100025 (S 1100033 0)) := congrArg ((S 1100007)) h55_
          have e1005_ : S 26 (S 1100034 0) = S 26 (S 1100025 (S 1100033 0)) := congrArg ((S 26)) h55_
          have e1006_ : S 63 (400 * (S 1092 0 - 1) + S 58 (S 1092 0 - 1) - 1 - 0) = S 63 (400 * (S 1092 0 - 1) + (S 58 (S 1092 0 - 1) - 1)) := congrArg ((S 63)) la_stepOther_50
          have e1007_ : S 64 (400 * (S 1092 0 - 1) + S 58 (S 1092 0 - 1) - 1 - 0) = S 64 (400 * (S 1092 0 - 1) + (S 58 (S 1092 0 - 1) - 1)) := congrArg ((S 64)) la_stepOther_50
          obtain ⟨h1008_, h1009_⟩ := ((sm_VO_e h996_).2.2.1 (la_stepOther_127 h959_ h997_ e1006_))
          exact (la_stepOther_130 h21_ h962_ e1007_ h1009_)
        intro r126
        intro h1010_
        intro h1011_
        refine ⟨?_, ?_⟩
        · skip
          intro h1012_
          have h1013_ := (h956_.resolve_left h1012_)
          have h1014_ := (h62_.resolve_left (la_stepOther_138 h1013_))
          have h1015_ := (h1014_.resolve_left (la_stepOther_139 h1013_))
          have h1016_ := (h1015_.resolve_left (la_stepOther_140 h1013_))
          refine ⟨?_, ?_⟩
          · skip
            intro h1017_
            have h1018_ := (h1011_.resolve_left h1017_)
            refine ⟨(la_stepOther_116 h34_ h35_), ?_⟩
            refine ⟨h6_, ?_⟩
            refine ⟨h7_, ?_⟩
            refine ⟨h8_, ?_⟩
            refine ⟨h9_, ?_⟩
            refine ⟨h10_, ?_⟩
            refine ⟨h11_, ?_⟩
            refine ⟨h12_, ?_⟩
            refine ⟨h13_, ?_⟩
            refine ⟨h14_, ?_⟩
            refine ⟨h15_, ?_⟩
            refine ⟨h16_, ?_⟩
            refine ⟨h17_, ?_⟩
            refine ⟨(la_stepOther_24 h18_), ?_⟩
            refine ⟨h19_, ?_⟩
            refine ⟨h20_, ?_⟩
            refine ⟨h21_, ?_⟩
            refine ⟨h22_, ?_⟩
            refine ⟨h31_, ?_⟩
            refine ⟨(la_stepOther_25 h4_), ?_⟩
            refine ⟨(la_stepOther_26 h34_), ?_⟩
            refine ⟨h35_, ?_⟩
            intro h1019_
            intro h1020_
            refine ⟨h34_, ?_⟩
            refine ⟨h35_, ?_⟩
            refine ⟨?_, ?_⟩
            · skip
              have e1021_ : (if S 1092 0 - 1 = S 1092 0 - 1 then p2 else S 57 (S 1092 0 - 1) : Int) = p2 := if_pos la_stepOther_117
              have e1022_ : S 1100007 (S 1100034 0) = S 1100007 (S 1100025 (S 1100033 0)) := congrArg ((S 1100007)) h55_
              have e1023_ : S 26 (S 1100034 0) = S 26 (S 1100025 (S 1100033 0)) := congrArg ((S 26)) h55_
              have e1024_ : S 63 (400 * (S 1092 0 - 1) + S 58 (S 1092 0 - 1) - 1 - 0) = S 63 (400 * (S 1092 0 - 1) + (S 58 (S 1092 0 - 1) - 1)) := congrArg ((S 63)) la_stepOther_50
              have e1025_ : S 64 (400 * (S 1092 0 - 1) + S 58 (S 1092 0 - 1) - 1 - 0) = S 64 (400 * (S 1092 0 - 1) + (S 58 (S 1092 0 - 1) - 1)) := congrArg ((S 64)) la_stepOther_50
              exact (la_stepOther_118 h61_ h977_ e1021_)
            refine ⟨?_, ?_⟩
            · skip
              have e1026_ : (if S 1092 0 - 1 = S 1092 0 - 1 then p2 else S 57 (S 1092 0 - 1) : Int) = p2 := if_pos la_stepOther_117
              have e1027_ : S 1100007 (S 1100034 0) = S 1100007 (S 1100025 (S 1100033 0)) := congrArg ((S 1100007)) h55_
              have e1028_ : S 26 (S 1100034 0) = S 26 (S 1100025 (S 1100033 0)) := congrArg ((S 26)) h55_
              have e1029_ : S 63 (400 * (S 1092 0 - 1) + S 58 (S 1092 0 - 1) - 1 - 0) = S 63 (400 * (S 1092 0 - 1) + (S 58 (S 1092 0 - 1) - 1)) := congrArg ((S 63)) la_stepOther_50
              have e1030_ : S 64 (400 * (S 1092 0 - 1) + S 58 (S 1092 0 - 1) - 1 - 0) = S 64 (400 * (S 1092 0 - 1) + (S 58 (S 1092 0 - 1) - 1)) := congrArg ((S 64)) la_stepOther_50
              exact (la_stepOther_119 h61_ h978_ e1026_)
            refine ⟨?_, ?_⟩
            · skip
              have e1031_ : (if S 1092 0 - 1 = S 1092 0 - 1 then p2 else S 57 (S 1092 0 - 1) : Int) = p2 := if_pos la_stepOther_117
              have e1032_ : S 1100007 (S 1100034 0) = S 1100007 (S 1100025 (S 1100033 0)) := congrArg ((S 1100007)) h55_
              have e1033_ : S 26 (S 1100034 0) = S 26 (S 1100025 (S 1100033 0)) := congrArg ((S 26)) h55_
              have e1034_ : S 29 (if S 1092 0 - 1 = S 1092 0 - 1 then p2 else S 57 (S 1092 0 - 1)) = S 29 (S 27 (S 1100033 0)) := congrArg ((S 29)) (la_stepOther_13 h61_ e1031_)
              have e1035_ : S 63 (400 * (S 1092 0 - 1) + S 58 (S 1092 0 - 1) - 1 - 0) = S 63 (400 * (S 1092 0 - 1) + (S 58 (S 1092 0 - 1) - 1)) := congrArg ((S 63)) la_stepOther_50
              have e1036_ : S 64 (400 * (S 1092 0 - 1) + S 58 (S 1092 0 - 1) - 1 - 0) = S 64 (400 * (S 1092 0 - 1) + (S 58 (S 1092 0 - 1) - 1)) := congrArg ((S 64)) la_stepOther_50
              exact (la_stepOther_31 h38_ h979_ e1034_)
            refine ⟨h39_, ?_⟩
            refine ⟨h40_, ?_⟩
            refine ⟨?_, ?_⟩
            · skip
              have e1037_ : (if S 1092 0 - 1 = S 1092 0 - 1 then p2 else S 57 (S 1092 0 - 1) : Int) = p2 := if_pos la_stepOther_117
              have e1038_ : S 1100007 (S 1100034 0) = S 1100007 (S 1100025 (S 1100033 0)) := congrArg ((S 1100007)) h55_
              have e1039_ : S 1100023 (if S 1092 0 - 1 = S 1092 0 - 1 then p2 else S 57 (S 1092 0 - 1)) = S 1100023 (S 27 (S 1100033 0)) := congrArg ((S 1100023)) (la_stepOther_13 h61_ e1037_)
              have e1040_ : S 26 (S 1100034 0) = S 26 (S 1100025 (S 1100033 0)) := congrArg ((S 26)) h55_
              have e1041_ : S 63 (400 * (S 1092 0 - 1) + S 58 (S 1092 0 - 1) - 1 - 0) = S 63 (400 * (S 1092 0 - 1) + (S 58 (S 1092 0 - 1) - 1)) := congrArg ((S 63)) la_stepOther_50
              have e1042_ : S 64 (400 * (S 1092 0 - 1) + S 58 (S 1092 0 - 1) - 1 - 0) = S 64 (400 * (S 1092 0 - 1) + (S 58 (S 1092 0 - 1) - 1)) := congrArg ((S 64)) la_stepOther_50
              have e1043_ : sm_dp (S 1100024) (S 1100023 (if S 1092 0 - 1 = S 1092 0 - 1 then p2 else S 57 (S 1092 0 - 1))) = sm_dp (S 1100024) (S 1100023 (S 1100033 0)) := congrArg ((sm_dp (S 1100024))) (la_stepOther_13 h981_ e1039_)
              exact (la_stepOther_32 h41_ e1043_)
            refine ⟨?_, ?_⟩
            · skip
              have e1044_ : (if S 1092 0 - 1 = S 1092 0 - 1 then p2 else S 57 (S 1092 0 - 1) : Int) = p2 := if_pos la_stepOther_117
              have e1045_ : S 1100007 (S 1100034 0) = S 1100007 (S 1100025 (S 1100033 0)) := congrArg ((S 1100007)) h55_
              have e1046_ : S 1100023 (if S 1092 0 - 1 = S 1092 0 - 1 then p2 else S 57 (S 1092 0 - 1)) = S 1100023 (S 27 (S 1100033 0)) := congrArg ((S 1100023)) (la_stepOther_13 h61_ e1044_)
              have e1047_ : S 26 (S 1100034 0) = S 26 (S 1100025 (S 1100033 0)) := congrArg ((S 26)) h55_
              have e1048_ : S 63 (400 * (S 1092 0 - 1) + S 58 (S 1092 0 - 1) - 1 - 0) = S 63 (400 * (S 1092 0 - 1) + (S 58 (S 1092 0 - 1) - 1)) := congrArg ((S 63)) la_stepOther_50
              have e1049_ : S 64 (400 * (S 1092 0 - 1) + S 58 (S 1092 0 - 1) - 1 - 0) = S 64 (400 * (S 1092 0 - 1) + (S 58 (S 1092 0 - 1) - 1)) := congrArg ((S 64)) la_stepOther_50
              exact (sm_TC_t h42_ (la_stepOther_33 h981_ e1046_))
            refine ⟨h43_, ?_⟩
            refine ⟨h44_, ?_⟩
            refine ⟨h45_, ?_⟩
            refine ⟨(sm_FL_F h46_ sm_F1_rf sm_F1_rf sm_F1_rf sm_F1_rf (sm_F1_up sm_F1_rf (Int.le_refl _)) sm_F1_rf sm_F1_rf sm_F1_rf sm_F1_rf sm_F1_rf sm_F1_rf sm_F1_rf (Int.le_refl _) (Int.le_refl _) sm_F1_rf sm_F1_rf (sm_FL_dp h46_ h23_)), ?_⟩
            refine ⟨?_, ?_⟩
            · skip
              have e1050_ : (if S 1092 0 - 1 = S 1092 0 - 1 then p2 else S 57 (S 1092 0 - 1) : Int) = p2 := if_pos la_stepOther_117
              have e1051_ : S 1100007 (S 1100034 0) = S 1100007 (S 1100025 (S 1100033 0)) := congrArg ((S 1100007)) h55_
              have e1052_ : S 1100007 (if S 1092 0 - 1 = S 1092 0 - 1 then p2 else S 57 (S 1092 0 - 1)) = S 1100007 (S 27 (S 1100033 0)) := congrArg ((S 1100007)) (la_stepOther_13 h61_ e1050_)
              have e1053_ : S 26 (S 1100034 0) = S 26 (S 1100025 (S 1100033 0)) := congrArg ((S 26)) h55_
              have e1054_ : S 63 (400 * (S 1092 0 - 1) + S 58 (S 1092 0 - 1) - 1 - 0) = S 63 (400 * (S 1092 0 - 1) + (S 58 (S 1092 0 - 1) - 1)) := congrArg ((S 63)) la_stepOther_50
              have e1055_ : S 64 (400 * (S 1092 0 - 1) + S 58 (S 1092 0 - 1) - 1 - 0) = S 64 (400 * (S 1092 0 - 1) + (S 58 (S 1092 0 - 1) - 1)) := congrArg ((S 64)) la_stepOther_50
              exact (la_stepOther_120 h54_ h980_ e1052_)
            have e1056_ : (if S 1092 0 - 1 = S 1092 0 - 1 then p2 else S 57 (S 1092 0 - 1) : Int) = p2 := if_pos la_stepOther_117
            have e1057_ : S 1100007 (S 1100034 0) = S 1100007 (S 1100025 (S 1100033 0)) := congrArg ((S 1100007)) h55_
            have e1058_ : S 1100025 (if S 1092 0 - 1 = S 1092 0 - 1 then p2 else S 57 (S 1092 0 - 1)) = S 1100025 (S 27 (S 1100033 0)) := congrArg ((S 1100025)) (la_stepOther_13 h61_ e1056_)
            have e1059_ : S 26 (S 1100034 0) = S 26 (S 1100025 (S 1100033 0)) := congrArg ((S 26)) h55_
            have e1060_ : S 63 (400 * (S 1092 0 - 1) + S 58 (S 1092 0 - 1) - 1 - 0) = S 63 (400 * (S 1092 0 - 1) + (S 58 (S 1092 0 - 1) - 1)) := congrArg ((S 63)) la_stepOther_50
            have e1061_ : S 64 (400 * (S 1092 0 - 1) + S 58 (S 1092 0 - 1) - 1 - 0) = S 64 (400 * (S 1092 0 - 1) + (S 58 (S 1092 0 - 1) - 1)) := congrArg ((S 64)) la_stepOther_50
            exact (sm_SK_q h50_ (la_stepOther_53 h55_ h982_ e1058_) rfl rfl)
          intro h1062_
          have h1063_ := (h1011_.resolve_right (la_stepOther_141 h1062_))
          refine ⟨(la_stepOther_22 h34_ h35_ h57_ h1016_), ?_⟩
          intro g131
          rintro ⟨h1064_, h1065_⟩
          refine ⟨(la_stepOther_23 h29_ h34_ h35_ h36_ h47_ h972_), ?_⟩
          intro g137
          rintro ⟨h1066_, h1067_⟩
          refine ⟨h6_, ?_⟩
          refine ⟨h7_, ?_⟩
          refine ⟨h8_, ?_⟩
          refine ⟨h9_, ?_⟩
          refine ⟨h10_, ?_⟩
          refine ⟨h11_, ?_⟩
          refine ⟨h12_, ?_⟩
          refine ⟨h13_, ?_⟩
          refine ⟨h14_, ?_⟩
          refine ⟨h15_, ?_⟩
          refine ⟨h16_, ?_⟩
          refine ⟨h17_, ?_⟩
          refine ⟨(la_stepOther_24 h18_), ?_⟩
          refine ⟨h19_, ?_⟩
          refine ⟨h20_, ?_⟩
          refine ⟨h21_, ?_⟩
          refine ⟨h22_, ?_⟩
          refine ⟨h31_, ?_⟩
          refine ⟨(la_stepOther_25 h4_), ?_⟩
          refine ⟨(la_stepOther_26 h34_), ?_⟩
          refine ⟨h35_, ?_⟩
          intro h1068_
          intro h1069_
          refine ⟨h34_, ?_⟩
          refine ⟨h35_, ?_⟩
          refine ⟨(la_stepOther_27 h36_ h47_ h1066_), ?_⟩
          refine ⟨(la_stepOther_28 h47_ h972_ h1066_), ?_⟩
          refine ⟨?_, ?_⟩
          · skip
            have h1070_ := (h1065_ (S 1092 0 - 1))
            have h1071_ := (h1067_ (S 1092 0 - 1))
            have e1072_ : S 1100007 (S 1100034 0) = S 1100007 (S 1100025 (S 1100033 0)) := congrArg ((S 1100007)) h55_
            have e1073_ : S 26 (S 1100034 0) = S 26 (S 1100025 (S 1100033 0)) := congrArg ((S 26)) h55_
            have e1074_ : S 29 (g137 57 (S 1092 0 - 1)) = S 29 (S 1100033 0 + 1) := congrArg ((S 29)) (la_stepOther_30 h47_ h1066_)
            have e1075_ : S 63 (400 * (S 1092 0 - 1) + S 58 (S 1092 0 - 1) - 1 - 0) = S 63 (400 * (S 1092 0 - 1) + (S 58 (S 1092 0 - 1) - 1)) := congrArg ((S 63)) la_stepOther_50
            have e1076_ : S 64 (400 * (S 1092 0 - 1) + S 58 (S 1092 0 - 1) - 1 - 0) = S 64 (400 * (S 1092 0 - 1) + (S 58 (S 1092 0 - 1) - 1)) := congrArg ((S 64)) la_stepOther_50
            exact (la_stepOther_31 h38_ h973_ e1074_)
          refine ⟨h39_, ?_⟩
          refine ⟨h40_, ?_⟩
          refine ⟨?_, ?_⟩
          · skip
            have h1077_ := (h1065_ (S 1092 0 - 1))
            have h1078_ := (h1067_ (S 1092 0 - 1))
            have e1079_ : S 1100007 (S 1100034 0) = S 1100007 (S 1100025 (S 1100033 0)) := congrArg ((S 1100007)) h55_
            have e1080_ : S 1100023 (g137 57 (S 1092 0 - 1)) = S 1100023 (S 1100033 0 + 1) := congrArg ((S 1100023)) (la_stepOther_30 h47_ h1066_)
            have e1081_ : S 26 (S 1100034 0) = S 26 (S 1100025 (S 1100033 0)) := congrArg ((S 26)) h55_
            have e1082_ : S 63 (400 * (S 1092 0 - 1) + S 58 (S 1092 0 - 1) - 1 - 0) = S 63 (400 * (S 1092 0 - 1) + (S 58 (S 1092 0 - 1) - 1)) := congrArg ((S 63)) la_stepOther_50
            have e1083_ : S 64 (400 * (S 1092 0 - 1) + S 58 (S 1092 0 - 1) - 1 - 0) = S 64 (400 * (S 1092 0 - 1) + (S 58 (S 1092 0 - 1) - 1)) := congrArg ((S 64)) la_stepOther_50
            have e1084_ : sm_dp (S 1100024) (S 1100023 (g137 57 (S 1092 0 - 1))) = sm_dp (S 1100024) (S 1100023 (S 1100033 0)) := congrArg ((sm_dp (S 1100024))) (la_stepOther_13 h975_ e1080_)
            exact (la_stepOther_32 h41_ e1084_)
          refine ⟨?_, ?_⟩
          · skip
            have h1085_ := (h1065_ (S 1092 0 - 1))
            have h1086_ := (h1067_ (S 1092 0 - 1))
            have e1087_ : S 1100007 (S 1100034 0) = S 1100007 (S 1100025 (S 1100033 0)) := congrArg ((S 1100007)) h55_
            have e1088_ : S 1100023 (g137 57 (S 1092 0 - 1)) = S 1100023 (S 1100033 0 + 1) := congrArg ((S 1100023)) (la_stepOther_30 h47_ h1066_)
            have e1089_ : S 26 (S 1100034 0) = S 26 (S 1100025 (S 1100033 0)) := congrArg ((S 26)) h55_
            have e1090_ : S 63 (400 * (S 1092 0 - 1) + S 58 (S 1092 0 - 1) - 1 - 0) = S 63 (400 * (S 1092 0 - 1) + (S 58 (S 1092 0 - 1) - 1)) := congrArg ((S 63)) la_stepOther_50
            have e1091_ : S 64 (400 * (S 1092 0 - 1) + S 58 (S 1092 0 - 1) - 1 - 0) = S 64 (400 * (S 1092 0 - 1) + (S 58 (S 1092 0 - 1) - 1)) := congrArg ((S 64)) la_stepOther_50
            exact (sm_TC_t h42_ (la_stepOther_33 h975_ e1088_))
          refine ⟨h43_, ?_⟩
          refine ⟨h44_, ?_⟩
          refine ⟨h45_, ?_⟩
          refine ⟨(sm_FL_F h46_ sm_F1_rf sm_F1_rf sm_F1_rf sm_F1_rf (sm_F1_le (sm_F1_ne h1067_ (Int.le_refl _)) (Int.le_refl _)) (sm_F1_le (sm_F1_ne h1065_ (Int.le_refl _)) (Int.le_refl _)) sm_F1_rf sm_F1_rf sm_F1_rf sm_F1_rf sm_F1_rf sm_F1_rf (Int.le_refl _) (Int.le_refl _) sm_F1_rf sm_F1_rf (sm_FL_dp h46_ h23_)), ?_⟩
          refine ⟨?_, ?_⟩
          · skip
            have h1092_ := (h1065_ (S 1092 0 - 1))
            have h1093_ := (h1067_ (S 1092 0 - 1))
            have e1094_ : S 1100007 (S 1100034 0) = S 1100007 (S 1100025 (S 1100033 0)) := congrArg ((S 1100007)) h55_
            have e1095_ : S 1100007 (g137 57 (S 1092 0 - 1)) = S 1100007 (S 1100033 0 + 1) := congrArg ((S 1100007)) (la_stepOther_30 h47_ h1066_)
            have e1096_ : S 26 (S 1100034 0) = S 26 (S 1100025 (S 1100033 0)) := congrArg ((S 26)) h55_
            have e1097_ : S 63 (400 * (S 1092 0 - 1) + S 58 (S 1092 0 - 1) - 1 - 0) = S 63 (400 * (S 1092 0 - 1) + (S 58 (S 1092 0 - 1) - 1)) := congrArg ((S 63)) la_stepOther_50
            have e1098_ : S 64 (400 * (S 1092 0 - 1) + S 58 (S 1092 0 - 1) - 1 - 0) = S 64 (400 * (S 1092 0 - 1) + (S 58 (S 1092 0 - 1) - 1)) := congrArg ((S 64)) la_stepOther_50
            exact (la_stepOther_34 h54_ h974_ h1064_ e1095_)
          have h1099_ := (h1065_ (S 1092 0 - 1))
          have h1100_ := (h1067_ (S 1092 0 - 1))
          have e1101_ : S 1100007 (S 1100034 0) = S 1100007 (S 1100025 (S 1100033 0)) := congrArg ((S 1100007)) h55_
          have e1102_ : S 1100025 (g137 57 (S 1092 0 - 1)) = S 1100025 (S 1100033 0 + 1) := congrArg ((S 1100025)) (la_stepOther_30 h47_ h1066_)
          have e1103_ : S 26 (S 1100034 0) = S 26 (S 1100025 (S 1100033 0)) := congrArg ((S 26)) h55_
          have e1104_ : S 63 (400 * (S 1092 0 - 1) + S 58 (S 1092 0 - 1) - 1 - 0) = S 63 (400 * (S 1092 0 - 1) + (S 58 (S 1092 0 - 1) - 1)) := congrArg ((S 63)) la_stepOther_50
          have e1105_ : S 64 (400 * (S 1092 0 - 1) + S 58 (S 1092 0 - 1) - 1 - 0) = S 64 (400 * (S 1092 0 - 1) + (S 58 (S 1092 0 - 1) - 1)) := congrArg ((S 64)) la_stepOther_50
          exact (sm_SK_q (sm_SK_pop h50_ (la_stepOther_131 h1064_)) (la_stepOther_53 h55_ h976_ e1102_) rfl rfl)
        intro h1106_
        have h1107_ := (h62_.resolve_left (la_stepOther_142 h1106_))
        have h1108_ := (h956_.resolve_right (la_stepOther_143 h1106_))
        have h1109_ := (h1107_.resolve_left (la_stepOther_144 h1106_))
        have h1110_ := (h1109_.resolve_left (la_stepOther_145 h1106_))
        refine ⟨?_, ?_⟩
        · skip
          intro h1111_
          have h1112_ := (h1011_.resolve_right h1111_)
          refine ⟨(la_stepOther_116 h34_ h35_), ?_⟩
          refine ⟨h6_, ?_⟩
          refine ⟨h7_, ?_⟩
          refine ⟨h8_, ?_⟩
          refine ⟨h9_, ?_⟩
          refine ⟨h10_, ?_⟩
          refine ⟨h11_, ?_⟩
          refine ⟨h12_, ?_⟩
          refine ⟨h13_, ?_⟩
          refine ⟨h14_, ?_⟩
          refine ⟨h15_, ?_⟩
          refine ⟨h16_, ?_⟩
          refine ⟨h17_, ?_⟩
          refine ⟨(la_stepOther_24 h18_), ?_⟩
          refine ⟨h19_, ?_⟩
          refine ⟨h20_, ?_⟩
          refine ⟨h21_, ?_⟩
          refine ⟨h22_, ?_⟩
          refine ⟨h31_, ?_⟩
          refine ⟨(la_stepOther_25 h4_), ?_⟩
          refine ⟨(la_stepOther_26 h34_), ?_⟩
          refine ⟨h35_, ?_⟩
          intro h1113_
          intro h1114_
          refine ⟨h34_, ?_⟩
          refine ⟨h35_, ?_⟩
          refine ⟨?_, ?_⟩
          · skip
            have e1115_ : (if S 1092 0 - 1 = S 1092 0 - 1 then p2 else S 57 (S 1092 0 - 1) : Int) = p2 := if_pos la_stepOther_117
            have e1116_ : S 1100007 (S 1100034 0) = S 1100007 (S 1100025 (S 1100033 0)) := congrArg ((S 1100007)) h55_
            have e1117_ : S 26 (S 1100034 0) = S 26 (S 1100025 (S 1100033 0)) := congrArg ((S 26)) h55_
            have e1118_ : S 63 (400 * (S 1092 0 - 1) + S 58 (S 1092 0 - 1) - 1 - 0) = S 63 (400 * (S 1092 0 - 1) + (S 58 (S 1092 0 - 1) - 1)) := congrArg ((S 63)) la_stepOther_50
            have e1119_ : S 64 (400 * (S 1092 0 - 1) + S 58 (S 1092 0 - 1) - 1 - 0) = S 64 (400 * (S 1092 0 - 1) + (S 58 (S 1092 0 - 1) - 1)) := congrArg ((S 64)) la_stepOther_50
            exact (la_stepOther_118 h61_ h977_ e1115_)
          refine ⟨?_, ?_⟩
          · skip
            have e1120_ : (if S 1092 0 - 1 = S 1092 0 - 1 then p2 else S 57 (S 1092 0 - 1) : Int) = p2 := if_pos la_stepOther_117
            have e1121_ : S 1100007 (S 1100034 0) = S 1100007 (S 1100025 (S 1100033 0)) := congrArg ((S 1100007)) h55_
            have e1122_ : S 26 (S 1100034 0) = S 26 (S 1100025 (S 1100033 0)) := congrArg ((S 26)) h55_
            have e1123_ : S 63 (400 * (S 1092 0 - 1) + S 58 (S 1092 0 - 1) - 1 - 0) = S 63 (400 * (S 1092 0 - 1) + (S 58 (S 1092 0 - 1) - 1)) := congrArg ((S 63)) la_stepOther_50
            have e1124_ : S 64 (400 * (S 1092 0 - 1) + S 58 (S 1092 0 - 1) - 1 - 0) = S 64 (400 * (S 1092 0 - 1) + (S 58 (S 1092 0 - 1) - 1)) := congrArg ((S 64)) la_stepOther_50
            exact (la_stepOther_119 h61_ h978_ e1120_)
          refine ⟨?_, ?_⟩
          · skip
            have e1125_ : (if S 1092 0 - 1 = S 1092 0 - 1 then p2 else S 57 (S 1092 0 - 1) : Int) = p2 := if_pos la_stepOther_117
            have e1126_ : S 1100007 (S 1100034 0) = S 1100007 (S 1100025 (S 1100033 0)) := congrArg ((S 1100007)) h55_
            have e1127_ : S 26 (S 1100034 0) = S 26 (S 1100025 (S 1100033 0)) := congrArg ((S 26)) h55_
            have e1128_ : S 29 (if S 1092 0 - 1 = S 1092 0 - 1 then p2 else S 57 (S 1092 0 - 1)) = S 29 (S 27 (S 1100033 0)) := congrArg ((S 29)) (la_stepOther_13 h61_ e1125_)
            have e1129_ : S 63 (400 * (S 1092 0 - 1) + S 58 (S 1092 0 - 1) - 1 - 0) = S 63 (400 * (S 1092 0 - 1) + (S 58 (S 1092 0 - 1) - 1)) := congrArg ((S 63)) la_stepOther_50
            have e1130_ : S 64 (400 * (S 1092 0 - 1) + S 58 (S 1092 0 - 1) - 1 - 0) = S 64 (400 * (S 1092 0 - 1) + (S 58 (S 1092 0 - 1) - 1)) := congrArg ((S 64)) la_stepOther_50
            exact (la_stepOther_31 h38_ h979_ e1128_)
          refine ⟨h39_, ?_⟩
          refine ⟨h40_, ?_⟩
          refine ⟨?_, ?_⟩
          · skip
            have e1131_ : (if S 1092 0 - 1 = S 1092 0 - 1 then p2 else S 57 (S 1092 0 - 1) : Int) = p2 := if_pos la_stepOther_117
            have e1132_ : S 1100007 (S 1100034 0) = S 1100007 (S 1100025 (S 1100033 0)) := congrArg ((S 1100007)) h55_
            have e1133_ : S 1100023 (if S 1092 0 - 1 = S 1092 0 - 1 then p2 else S 57 (S 1092 0 - 1)) = S 1100023 (S 27 (S 1100033 0)) := congrArg ((S 1100023)) (la_stepOther_13 h61_ e1131_)
            have e1134_ : S 26 (S 1100034 0) = S 26 (S 1100025 (S 1100033 0)) := congrArg ((S 26)) h55_
            have e1135_ : S 63 (400 * (S 1092 0 - 1) + S 58 (S 1092 0 - 1) - 1 - 0) = S 63 (400 * (S 1092 0 - 1) + (S 58 (S 1092 0 - 1) - 1)) := congrArg ((S 63)) la_stepOther_50
            have e1136_ : S 64 (400 * (S 1092 0 - 1) + S 58 (S 1092 0 - 1) - 1 - 0) = S 64 (400 * (S 1092 0 - 1) + (S 58 (S 1092 0 - 1) - 1)) := congrArg ((S 64)) la_stepOther_50
            have e1137_ : sm_dp (S 1100024) (S 1100023 (if S 1092 0 - 1 = S 1092 0 - 1 then p2 else S 57 (S 1092 0 - 1))) = sm_dp (S 1100024) (S 1100023 (S 1100033 0)) := congrArg ((sm_dp (S 1100024))) (la_stepOther_13 h981_ e1133_)
            exact (la_stepOther_32 h41_ e1137_)
          refine ⟨?_, ?_⟩
          · skip
            have e1138_ : (if S 1092 0 - 1 = S 1092 0 - 1 then p2 else S 57 (S 1092 0 - 1) : Int) = p2 := if_pos la_stepOther_117
            have e1139_ : S 1100007 (S 1100034 0) = S 1100007 (S 1100025 (S 1100033 0)) := congrArg ((S 1100007)) h55_
            have e1140_ : S 1100023 (if S 1092 0 - 1 = S 1092 0 - 1 then p2 else S 57 (S 1092 0 - 1)) = S 1100023 (S 27 (S 1100033 0)) := congrArg ((S 1100023)) (la_stepOther_13 h61_ e1138_)
            have e1141_ : S 26 (S 1100034 0) = S 26 (S 1100025 (S 1100033 0)) := congrArg ((S 26)) h55_
            have e1142_ : S 63 (400 * (S 1092 0 - 1) + S 58 (S 1092 0 - 1) - 1 - 0) = S 63 (400 * (S 1092 0 - 1) + (S 58 (S 1092 0 - 1) - 1)) := congrArg ((S 63)) la_stepOther_50
            have e1143_ : S 64 (400 * (S 1092 0 - 1) + S 58 (S 1092 0 - 1) - 1 - 0) = S 64 (400 * (S 1092 0 - 1) + (S 58 (S 1092 0 - 1) - 1)) := congrArg ((S 64)) la_stepOther_50
            exact (sm_TC_t h42_ (la_stepOther_33 h981_ e1140_))
          refine ⟨h43_, ?_⟩
          refine ⟨h44_, ?_⟩
          refine ⟨h45_, ?_⟩
          refine ⟨(sm_FL_F h46_ sm_F1_rf sm_F1_rf sm_F1_rf sm_F1_rf (sm_F1_up sm_F1_rf (Int.le_refl _)) sm_F1_rf sm_F1_rf sm_F1_rf sm_F1_rf sm_F1_rf sm_F1_rf sm_F1_rf (Int.le_refl _) (Int.le_refl _) sm_F1_rf sm_F1_rf (sm_FL_dp h46_ h23_)), ?_⟩
          refine ⟨?_, ?_⟩
          · skip
            have e1144_ : (if S 1092 0 - 1 = S 1092 0 - 1 then p2 else S 57 (S 1092 0 - 1) : Int) = p2 := if_pos la_stepOther_117
            have e1145_ : S 1100007 (S 1100034 0) = S 1100007 (S 1100025 (S 1100033 0)) := congrArg ((S 1100007)) h55_
            have e1146_ : S 1100007 (if S 1092 0 - 1 = S 1092 0 - 1 then p2 else S 57 (S 1092 0 - 1)) = S 1100007 (S 27 (S 1100033 0)) := congrArg ((S 1100007)) (la_stepOther_13 h61_ e1144_)
            have e1147_ : S 26 (S 1100034 0) = S 26 (S 1100025 (S 1100033 0)) := congrArg ((S 26)) h55_
            have e1148_ : S 63 (400 * (S 1092 0 - 1) + S 58 (S 1092 0 - 1) - 1 - 0) = S 63 (400 * (S 1092 0 - 1) + (S 58 (S 1092 0 - 1) - 1)) := congrArg ((S 63)) la_stepOther_50
            have e1149_ : S 64 (400 * (S 1092 0 - 1) + S 58 (S 1092 0 - 1) - 1 - 0) = S 64 (400 * (S 1092 0 - 1) + (S 58 (S 1092 0 - 1) - 1)) := congrArg ((S 64)) la_stepOther_50
            exact (la_stepOther_120 h54_ h980_ e1146_)
          have e1150_ : (if S 1092 0 - 1 = S 1092 0 - 1 then p2 else S 57 (S 1092 0 - 1) : Int) = p2 := if_pos la_stepOther_117
          have e1151_ : S 1100007 (S 1100034 0) = S 1100007 (S 1100025 (S 1100033 0)) := congrArg ((S 1100007)) h55_
          have e1152_ : S 1100025 (if S 1092 0 - 1 = S 1092 0 - 1 then p2 else S 57 (S 1092 0 - 1)) = S 1100025 (S 27 (S 1100033 0)) := congrArg ((S 1100025)) (la_stepOther_13 h61_ e1150_)
          have e1153_ : S 26 (S 1100034 0) = S 26 (S 1100025 (S 1100033 0)) := congrArg ((S 26)) h55_
          have e1154_ : S 63 (400 * (S 1092 0 - 1) + S 58 (S 1092 0 - 1) - 1 - 0) = S 63 (400 * (S 1092 0 - 1) + (S 58 (S 1092 0 - 1) - 1)) := congrArg ((S 63)) la_stepOther_50
          have e1155_ : S 64 (400 * (S 1092 0 - 1) + S 58 (S 1092 0 - 1) - 1 - 0) = S 64 (400 * (S 1092 0 - 1) + (S 58 (S 1092 0 - 1) - 1)) := congrArg ((S 64)) la_stepOther_50
          exact (sm_SK_q h50_ (la_stepOther_53 h55_ h982_ e1152_) rfl rfl)
        intro h1156_
        have h1157_ := (h1011_.resolve_left (la_stepOther_148 h1156_))
        refine ⟨(la_stepOther_22 h34_ h35_ h57_ h1110_), ?_⟩
        intro g146
        rintro ⟨h1158_, h1159_⟩
        refine ⟨(la_stepOther_23 h29_ h34_ h35_ h36_ h47_ h972_), ?_⟩
        intro g152
        rintro ⟨h1160_, h1161_⟩
        refine ⟨h6_, ?_⟩
        refine ⟨h7_, ?_⟩
        refine ⟨h8_, ?_⟩
        refine ⟨h9_, ?_⟩
        refine ⟨h10_, ?_⟩
        refine ⟨h11_, ?_⟩
        refine ⟨h12_, ?_⟩
        refine ⟨h13_, ?_⟩
        refine ⟨h14_, ?_⟩
        refine ⟨h15_, ?_⟩
        refine ⟨h16_, ?_⟩
        refine ⟨h17_, ?_⟩
        refine ⟨(la_stepOther_24 h18_), ?_⟩
        refine ⟨h19_, ?_⟩
        refine ⟨h20_, ?_⟩
        refine ⟨h21_, ?_⟩
        refine ⟨h22_, ?_⟩
        refine ⟨h31_, ?_⟩
        refine ⟨(la_stepOther_25 h4_), ?_⟩
        refine ⟨(la_stepOther_26 h34_), ?_⟩
        refine ⟨h35_, ?_⟩
        intro h1162_
        intro h1163_
        refine ⟨h34_, ?_⟩
        refine ⟨h35_, ?_⟩
        refine ⟨(la_stepOther_27 h36_ h47_ h1160_), ?_⟩
        refine ⟨(la_stepOther_28 h47_ h972_ h1160_), ?_⟩
        refine ⟨?_, ?_⟩
        · skip
          have h1164_ := (h1159_ (S 1092 0 - 1))
          have h1165_ := (h1161_ (S 1092 0 - 1))
          have e1166_ : S 1100007 (S 1100034 0) = S 1100007 (S 1100025 (S 1100033 0)) := congrArg ((S 1100007)) h55_
          have e1167_ : S 26 (S 1100034 0) = S 26 (S 1100025 (S 1100033 0)) := congrArg ((S 26)) h55_
          have e1168_ : S 29 (g152 57 (S 1092 0 - 1)) = S 29 (S 1100033 0 + 1) := congrArg ((S 29)) (la_stepOther_30 h47_ h1160_)
          have e1169_ : S 63 (400 * (S 1092 0 - 1) + S 58 (S 1092 0 - 1) - 1 - 0) = S 63 (400 * (S 1092 0 - 1) + (S 58 (S 1092 0 - 1) - 1)) := congrArg ((S 63)) la_stepOther_50
          have e1170_ : S 64 (400 * (S 1092 0 - 1) + S 58 (S 1092 0 - 1) - 1 - 0) = S 64 (400 * (S 1092 0 - 1) + (S 58 (S 1092 0 - 1) - 1)) := congrArg ((S 64)) la_stepOther_50
          exact (la_stepOther_31 h38_ h973_ e1168_)
        refine ⟨h39_, ?_⟩
        refine ⟨h40_, ?_⟩
        refine ⟨?_, ?_⟩
        · skip
          have h1171_ := (h1159_ (S 1092 0 - 1))
          have h1172_ := (h1161_ (S 1092 0 - 1))
          have e1173_ : S 1100007 (S 1100034 0) = S 1100007 (S 1100025 (S 1100033 0)) := congrArg ((S 1100007)) h55_
          have e1174_ : S 1100023 (g152 57 (S 1092 0 - 1)) = S 1100023 (S 1100033 0 + 1) := congrArg ((S 1100023)) (la_stepOther_30 h47_ h1160_)
          have e1175_ : S 26 (S 1100034 0) = S 26 (S 1100025 (S 1100033 0)) := congrArg ((S 26)) h55_
          have e1176_ : S 63 (400 * (S 1092 0 - 1) + S 58 (S 1092 0 - 1) - 1 - 0) = S 63 (400 * (S 1092 0 - 1) + (S 58 (S 1092 0 - 1) - 1)) := congrArg ((S 63)) la_stepOther_50
          have e1177_ : S 64 (400 * (S 1092 0 - 1) + S 58 (S 1092 0 - 1) - 1 - 0) = S 64 (400 * (S 1092 0 - 1) + (S 58 (S 1092 0 - 1) - 1)) := congrArg ((S 64)) la_stepOther_50
          have e1178_ : sm_dp (S 1100024) (S 1100023 (g152 57 (S 1092 0 - 1))) = sm_dp (S 1100024) (S 1100023 (S 1100033 0)) := congrArg ((sm_dp (S 1100024))) (la_stepOther_13 h975_ e1174_)
          exact (la_stepOther_32 h41_ e1178_)
        refine ⟨?_, ?_⟩
        · skip
          have h1179_ := (h1159_ (S 1092 0 - 1))
          have h1180_ := (h1161_ (S 1092 0 - 1))
          have e1181_ : S 1100007 (S 1100034 0) = S 1100007 (S 1100025 (S 1100033 0)) := congrArg ((S 1100007)) h55_
          have e1182_ : S 1100023 (g152 57 (S 1092 0 - 1)) = S 1100023 (S 1100033 0 + 1) := congrArg ((S 1100023)) (la_stepOther_30 h47_ h1160_)
          have e1183_ : S 26 (S 1100034 0) = S 26 (S 1100025 (S 1100033 0)) := congrArg ((S 26)) h55_
          have e1184_ : S 63 (400 * (S 1092 0 - 1) + S 58 (S 1092 0 - 1) - 1 - 0) = S 63 (400 * (S 1092 0 - 1) + (S 58 (S 1092 0 - 1) - 1)) := congrArg ((S 63)) la_stepOther_50
          have e1185_ : S 64 (400 * (S 1092 0 - 1) + S 58 (S 1092 0 - 1) - 1 - 0) = S 64 (400 * (S 1092 0 - 1) + (S 58 (S 1092 0 - 1) - 1)) := congrArg ((S 64)) la_stepOther_50
          exact (sm_TC_t h42_ (la_stepOther_33 h975_ e1182_))
        refine ⟨h43_, ?_⟩
        refine ⟨h44_, ?_⟩
        refine ⟨h45_, ?_⟩
        refine ⟨(sm_FL_F h46_ sm_F1_rf sm_F1_rf sm_F1_rf sm_F1_rf (sm_F1_le (sm_F1_ne h1161_ (Int.le_refl _)) (Int.le_refl _)) (sm_F1_le (sm_F1_ne h1159_ (Int.le_refl _)) (Int.le_refl _)) sm_F1_rf sm_F1_rf sm_F1_rf sm_F1_rf sm_F1_rf sm_F1_rf (Int.le_refl _) (Int.le_refl _) sm_F1_rf sm_F1_rf (sm_FL_dp h46_ h23_)), ?_⟩
        refine ⟨?_, ?_⟩
        · skip
          have h1186_ := (h1159_ (S 1092 0 - 1))
          have h1187_ := (h1161_ (S 1092 0 - 1))
          have e1188_ : S 1100007 (S 1100034 0) = S 1100007 (S 1100025 (S 1100033 0)) := congrArg ((S 1100007)) h55_
          have e1189_ : S 1100007 (g152 57 (S 1092 0 - 1)) = S 1100007 (S 1100033 0 + 1) := congrArg ((S 1100007)) (la_stepOther_30 h47_ h1160_)
          have e1190_ : S 26 (S 1100034 0) = S 26 (S 1100025 (S 1100033 0)) := congrArg ((S 26)) h55_
          have e1191_ : S 63 (400 * (S 1092 0 - 1) + S 58 (S 1092 0 - 1) - 1 - 0) = S 63 (400 * (S 1092 0 - 1) + (S 58 (S 1092 0 - 1) - 1)) := congrArg ((S 63)) la_stepOther_50
          have e1192_ : S 64 (400 * (S 1092 0 - 1) + S 58 (S 1092 0 - 1) - 1 - 0) = S 64 (400 * (S 1092 0 - 1) + (S 58 (S 1092 0 - 1) - 1)) := congrArg ((S 64)) la_stepOther_50
          exact (la_stepOther_34 h54_ h974_ h1158_ e1189_)
        have h1193_ := (h1159_ (S 1092 0 - 1))
        have h1194_ := (h1161_ (S 1092 0 - 1))
        have e1195_ : S 1100007 (S 1100034 0) = S 1100007 (S 1100025 (S 1100033 0)) := congrArg ((S 1100007)) h55_
        have e1196_ : S 1100025 (g152 57 (S 1092 0 - 1)) = S 1100025 (S 1100033 0 + 1) := congrArg ((S 1100025)) (la_stepOther_30 h47_ h1160_)
        have e1197_ : S 26 (S 1100034 0) = S 26 (S 1100025 (S 1100033 0)) := congrArg ((S 26)) h55_
        have e1198_ : S 63 (400 * (S 1092 0 - 1) + S 58 (S 1092 0 - 1) - 1 - 0) = S 63 (400 * (S 1092 0 - 1) + (S 58 (S 1092 0 - 1) - 1)) := congrArg ((S 63)) la_stepOther_50
        have e1199_ : S 64 (400 * (S 1092 0 - 1) + S 58 (S 1092 0 - 1) - 1 - 0) = S 64 (400 * (S 1092 0 - 1) + (S 58 (S 1092 0 - 1) - 1)) := congrArg ((S 64)) la_stepOther_50
        exact (sm_SK_q (sm_SK_pop h50_ (la_stepOther_131 h1158_)) (la_stepOther_53 h55_ h976_ e1196_) rfl rfl)
      refine ⟨?_, ?_⟩
      · skip
        intro h1200_
        have h1201_ := (h62_.resolve_left (la_stepOther_149 h1200_))
        have h1202_ := (h79_.resolve_left (la_stepOther_150 h1200_))
        have h1203_ := (h81_.resolve_left (la_stepOther_150 h1200_))
        have h1204_ := (h1201_.resolve_left (la_stepOther_151 h1200_))
        have h1205_ := (h1204_.resolve_left (la_stepOther_152 h1200_))
        intro h1206_
        have h1207_ := (h1206_ h23_)
        have h1208_ := (h1207_ h36_)
        have h1209_ := (h1208_ h37_)
        obtain ⟨h1210_, ⟨h1211_, h1212_⟩⟩ := (h1209_ (la_stepOther_153 h60_ h1200_))
        intro h1213_
        have h1214_ := (h1213_ h55_)
        have h1215_ := (h1214_ h54_)
        have h1216_ := (h1215_ h1212_)
        intro h1217_
        have h1218_ := (h1217_ h50_)
        have h1219_ := (h1218_ h24_)
        have h1220_ := (h1219_ (la_stepOther_44 h1205_))
        have h1221_ := (h1220_ la_stepOther_45)
        have h1222_ := (h1221_ h52_)
        have h1223_ := (h1222_ h55_)
        have h1224_ := (h1223_ h54_)
        have h1225_ := (h1224_ h53_)
        have h1226_ := (h1225_ h1212_)
        refine ⟨?_, ?_⟩
        · skip
          refine ⟨h4_, ?_⟩
          refine ⟨h5_, ?_⟩
          refine ⟨h6_, ?_⟩
          refine ⟨h7_, ?_⟩
          refine ⟨h8_, ?_⟩
          refine ⟨h9_, ?_⟩
          refine ⟨h10_, ?_⟩
          refine ⟨h11_, ?_⟩
          refine ⟨h12_, ?_⟩
          refine ⟨h13_, ?_⟩
          refine ⟨h14_, ?_⟩
          refine ⟨h15_, ?_⟩
          refine ⟨h16_, ?_⟩
          refine ⟨h17_, ?_⟩
          refine ⟨h18_, ?_⟩
          refine ⟨h19_, ?_⟩
          refine ⟨h20_, ?_⟩
          refine ⟨h21_, ?_⟩
          refine ⟨h22_, ?_⟩
          refine ⟨h23_, ?_⟩
          refine ⟨h24_, ?_⟩
          refine ⟨h25_, ?_⟩
          refine ⟨h26_, ?_⟩
          refine ⟨h27_, ?_⟩
          refine ⟨h28_, ?_⟩
          refine ⟨h29_, ?_⟩
          refine ⟨h30_, ?_⟩
          refine ⟨h31_, ?_⟩
          refine ⟨h32_, ?_⟩
          refine ⟨h33_, ?_⟩
          refine ⟨h34_, ?_⟩
          refine ⟨h35_, ?_⟩
          refine ⟨h36_, ?_⟩
          refine ⟨h37_, ?_⟩
          refine ⟨h38_, ?_⟩
          refine ⟨h39_, ?_⟩
          refine ⟨h40_, ?_⟩
          refine ⟨h41_, ?_⟩
          refine ⟨h42_, ?_⟩
          refine ⟨h43_, ?_⟩
          refine ⟨h44_, ?_⟩
          refine ⟨h45_, ?_⟩
          refine ⟨h46_, ?_⟩
          refine ⟨h47_, ?_⟩
          refine ⟨h48_, ?_⟩
          refine ⟨h49_, ?_⟩
          refine ⟨h50_, ?_⟩
          refine ⟨h51_, ?_⟩
          refine ⟨h52_, ?_⟩
          refine ⟨h53_, ?_⟩
          refine ⟨h54_, ?_⟩
          refine ⟨h55_, ?_⟩
          refine ⟨h56_, ?_⟩
          refine ⟨h57_, ?_⟩
          have e1227_ : S 1100007 (S 1100034 0) = S 1100007 (S 1100025 (S 1100033 0)) := congrArg ((S 1100007)) h55_
          have e1228_ : S 26 (S 1100034 0) = S 26 (S 1100025 (S 1100033 0)) := congrArg ((S 26)) h55_
          have e1229_ : S 63 (400 * (S 1092 0 - 1) + S 58 (S 1092 0 - 1) - 1 - 0) = S 63 (400 * (S 1092 0 - 1) + (S 58 (S 1092 0 - 1) - 1)) := congrArg ((S 63)) la_stepOther_50
          have e1230_ : S 64 (400 * (S 1092 0 - 1) + S 58 (S 1092 0 - 1) - 1 - 0) = S 64 (400 * (S 1092 0 - 1) + (S 58 (S 1092 0 - 1) - 1)) := congrArg ((S 64)) la_stepOther_50
          exact (sm_VO_eq h1226_ (la_stepOther_82 h1202_ e1229_) (la_stepOther_82 h1203_ e1230_))
        intro g161
        rintro ⟨h1231_, ⟨h1232_, ⟨h1233_, ⟨h1234_, ⟨h1235_, ⟨h1236_, ⟨h1237_, ⟨h1238_, ⟨h1239_, ⟨h1240_, ⟨h1241_, ⟨h1242_, ⟨h1243_, ⟨h1244_, ⟨h1245_, ⟨h1246_, ⟨h1247_, ⟨h1248_, ⟨h1249_, ⟨h1250_, ⟨h1251_, ⟨h1252_, h1253_⟩⟩⟩⟩⟩⟩⟩⟩⟩⟩⟩⟩⟩⟩⟩⟩⟩⟩⟩⟩⟩⟩
        have h1254_ := (h1243_ h4_)
        have h1255_ := (h1252_ h4_)
        refine ⟨h6_, ?_⟩
        refine ⟨h7_, ?_⟩
        refine ⟨h8_, ?_⟩
        refine ⟨h9_, ?_⟩
        refine ⟨h10_, ?_⟩
        refine ⟨h11_, ?_⟩
        refine ⟨h12_, ?_⟩
        refine ⟨h13_, ?_⟩
        refine ⟨h14_, ?_⟩
        refine ⟨h15_, ?_⟩
        refine ⟨h16_, ?_⟩
        refine ⟨h17_, ?_⟩
        refine ⟨h1243_, ?_⟩
        refine ⟨h19_, ?_⟩
        refine ⟨h20_, ?_⟩
        refine ⟨h21_, ?_⟩
        refine ⟨h22_, ?_⟩
        refine ⟨h31_, ?_⟩
        refine ⟨h1249_, ?_⟩
        refine ⟨h1250_, ?_⟩
        refine ⟨h1251_, ?_⟩
        intro h1256_
        intro h1257_
        have h1258_ := (h1253_.resolve_right (la_stepOther_154 h1257_))
        obtain ⟨h1259_, ⟨h1260_, ⟨h1261_, ⟨h1262_, ⟨h1263_, ⟨h1264_, ⟨h1265_, ⟨h1266_, ⟨h1267_, ⟨h1268_, ⟨h1269_, ⟨h1270_, ⟨h1271_, ⟨h1272_, h1273_⟩⟩⟩⟩⟩⟩⟩⟩⟩⟩⟩⟩⟩⟩ := (h1255_ h1257_)
        refine ⟨h1259_, ?_⟩
        refine ⟨h1251_, ?_⟩
        refine ⟨h1261_, ?_⟩
        refine ⟨h1262_, ?_⟩
        refine ⟨h1263_, ?_⟩
        refine ⟨h1264_, ?_⟩
        refine ⟨h1265_, ?_⟩
        refine ⟨h1266_, ?_⟩
        refine ⟨h1267_, ?_⟩
        refine ⟨h1268_, ?_⟩
        refine ⟨h1269_, ?_⟩
        refine ⟨h1270_, ?_⟩
        refine ⟨h1271_, ?_⟩
        refine ⟨h1272_, ?_⟩
        exact h1273_
      refine ⟨?_, ?_⟩
      · skip
        intro h1274_
        have h1275_ := (h62_.resolve_left (la_stepOther_155 h1274_))
        have h1276_ := (h79_.resolve_left (la_stepOther_156 h1274_))
        have h1277_ := (h81_.resolve_left (la_stepOther_156 h1274_))
        have h1278_ := (h1275_.resolve_left (la_stepOther_157 h1274_))
        have h1279_ := (h1278_.resolve_left (la_stepOther_158 h1274_))
        intro h1280_
        have h1281_ := (h1280_ h23_)
        have h1282_ := (h1281_ h36_)
        have h1283_ := (h1282_ h37_)
        obtain ⟨h1284_, ⟨h1285_, h1286_⟩⟩ := (h1283_ (la_stepOther_159 h60_ h1274_))
        intro h1287_
        have h1288_ := (h1287_ h55_)
        have h1289_ := (h1288_ h54_)
        have h1290_ := (h1289_ h1286_)
        intro h1291_
        have h1292_ := (h1291_ h50_)
        have h1293_ := (h1292_ h24_)
        have h1294_ := (h1293_ (la_stepOther_44 h1279_))
        have h1295_ := (h1294_ la_stepOther_45)
        have h1296_ := (h1295_ h52_)
        have h1297_ := (h1296_ h55_)
        have h1298_ := (h1297_ h54_)
        have h1299_ := (h1298_ h53_)
        have h1300_ := (h1299_ h1286_)
        refine ⟨?_, ?_⟩
        · skip
          intro h1301_
          refine ⟨h20_, ?_⟩
          refine ⟨h21_, ?_⟩
          refine ⟨h22_, ?_⟩
          refine ⟨h23_, ?_⟩
          refine ⟨h24_, ?_⟩
          refine ⟨h25_, ?_⟩
          refine ⟨h26_, ?_⟩
          refine ⟨h27_, ?_⟩
          refine ⟨h28_, ?_⟩
          refine ⟨h29_, ?_⟩
          refine ⟨h30_, ?_⟩
          refine ⟨h31_, ?_⟩
          refine ⟨h32_, ?_⟩
          refine ⟨h33_, ?_⟩
          refine ⟨h34_, ?_⟩
          refine ⟨h35_, ?_⟩
          refine ⟨(la_stepOther_107 h36_ h47_), ?_⟩
          refine ⟨(la_stepOther_160 h37_ h47_), ?_⟩
          refine ⟨?_, ?_⟩
          · skip
            have e1302_ : S 1100007 (S 1100034 0) = S 1100007 (S 1100025 (S 1100033 0)) := congrArg ((S 1100007)) h55_
            have e1303_ : S 26 (S 1100034 0) = S 26 (S 1100025 (S 1100033 0)) := congrArg ((S 26)) h55_
            have e1304_ : S 29 (S 57 (S 1092 0 - 1)) = S 29 (S 1100033 0) := congrArg ((S 29)) h47_
            have e1305_ : S 63 (400 * (S 1092 0 - 1) + S 58 (S 1092 0 - 1) - 1 - 0) = S 63 (400 * (S 1092 0 - 1) + (S 58 (S 1092 0 - 1) - 1)) := congrArg ((S 63)) la_stepOther_50
            have e1306_ : S 64 (400 * (S 1092 0 - 1) + S 58 (S 1092 0 - 1) - 1 - 0) = S 64 (400 * (S 1092 0 - 1) + (S 58 (S 1092 0 - 1) - 1)) := congrArg ((S 64)) la_stepOther_50
            exact (la_stepOther_13 h38_ e1304_)
          refine ⟨h39_, ?_⟩
          refine ⟨h40_, ?_⟩
          refine ⟨?_, ?_⟩
          · skip
            have e1307_ : S 1100007 (S 1100034 0) = S 1100007 (S 1100025 (S 1100033 0)) := congrArg ((S 1100007)) h55_
            have e1308_ : S 1100023 (S 57 (S 1092 0 - 1)) = S 1100023 (S 1100033 0) := congrArg ((S 1100023)) h47_
            have e1309_ : S 26 (S 1100034 0) = S 26 (S 1100025 (S 1100033 0)) := congrArg ((S 26)) h55_
            have e1310_ : S 63 (400 * (S 1092 0 - 1) + S 58 (S 1092 0 - 1) - 1 - 0) = S 63 (400 * (S 1092 0 - 1) + (S 58 (S 1092 0 - 1) - 1)) := congrArg ((S 63)) la_stepOther_50
            have e1311_ : S 64 (400 * (S 1092 0 - 1) + S 58 (S 1092 0 - 1) - 1 - 0) = S 64 (400 * (S 1092 0 - 1) + (S 58 (S 1092 0 - 1) - 1)) := congrArg ((S 64)) la_stepOther_50
            have e1312_ : sm_dp (S 1100024) (S 1100023 (S 57 (S 1092 0 - 1))) = sm_dp (S 1100024) (S 1100023 (S 1100033 0)) := congrArg ((sm_dp (S 1100024))) e1308_
            exact (la_stepOther_32 h41_ e1312_)
          refine ⟨?_, ?_⟩
          · skip
            have e1313_ : S 1100007 (S 1100034 0) = S 1100007 (S 1100025 (S 1100033 0)) := congrArg ((S 1100007)) h55_
            have e1314_ : S 1100023 (S 57 (S 1092 0 - 1)) = S 1100023 (S 1100033 0) := congrArg ((S 1100023)) h47_
            have e1315_ : S 26 (S 1100034 0) = S 26 (S 1100025 (S 1100033 0)) := congrArg ((S 26)) h55_
            have e1316_ : S 63 (400 * (S 1092 0 - 1) + S 58 (S 1092 0 - 1) - 1 - 0) = S 63 (400 * (S 1092 0 - 1) + (S 58 (S 1092 0 - 1) - 1)) := congrArg ((S 63)) la_stepOther_50
            have e1317_ : S 64 (400 * (S 1092 0 - 1) + S 58 (S 1092 0 - 1) - 1 - 0) = S 64 (400 * (S 1092 0 - 1) + (S 58 (S 1092 0 - 1) - 1)) := congrArg ((S 64)) la_stepOther_50
            exact (sm_TC_t h42_ (la_stepOther_161 e1314_))
          refine ⟨h43_, ?_⟩
          refine ⟨h44_, ?_⟩
          refine ⟨h45_, ?_⟩
          refine ⟨h46_, ?_⟩
          refine ⟨?_, ?_⟩
          · skip
            have e1318_ : S 1100007 (S 1100034 0) = S 1100007 (S 1100025 (S 1100033 0)) := congrArg ((S 1100007)) h55_
            have e1319_ : S 1100007 (S 57 (S 1092 0 - 1)) = S 1100007 (S 1100033 0) := congrArg ((S 1100007)) h47_
            have e1320_ : S 26 (S 1100034 0) = S 26 (S 1100025 (S 1100033 0)) := congrArg ((S 26)) h55_
            have e1321_ : S 63 (400 * (S 1092 0 - 1) + S 58 (S 1092 0 - 1) - 1 - 0) = S 63 (400 * (S 1092 0 - 1) + (S 58 (S 1092 0 - 1) - 1)) := congrArg ((S 63)) la_stepOther_50
            have e1322_ : S 64 (400 * (S 1092 0 - 1) + S 58 (S 1092 0 - 1) - 1 - 0) = S 64 (400 * (S 1092 0 - 1) + (S 58 (S 1092 0 - 1) - 1)) := congrArg ((S 64)) la_stepOther_50
            exact (la_stepOther_32 h54_ e1319_)
          refine ⟨?_, ?_⟩
          · skip
            have e1323_ : S 1100007 (S 1100034 0) = S 1100007 (S 1100025 (S 1100033 0)) := congrArg ((S 1100007)) h55_
            have e1324_ : S 1100025 (S 57 (S 1092 0 - 1)) = S 1100025 (S 1100033 0) := congrArg ((S 1100025)) h47_
            have e1325_ : S 26 (S 1100034 0) = S 26 (S 1100025 (S 1100033 0)) := congrArg ((S 26)) h55_
            have e1326_ : S 63 (400 * (S 1092 0 - 1) + S 58 (S 1092 0 - 1) - 1 - 0) = S 63 (400 * (S 1092 0 - 1) + (S 58 (S 1092 0 - 1) - 1)) := congrArg ((S 63)) la_stepOther_50
            have e1327_ : S 64 (400 * (S 1092 0 - 1) + S 58 (S 1092 0 - 1) - 1 - 0) = S 64 (400 * (S 1092 0 - 1) + (S 58 (S 1092 0 - 1) - 1)) := congrArg ((S 64)) la_stepOther_50
            exact (sm_SK_q h50_ (la_stepOther_11 h55_ e1324_) rfl rfl)
          refine ⟨?_, ?_⟩
          · skip
            have e1328_ : S 1100007 (S 1100034 0) = S 1100007 (S 1100025 (S 1100033 0)) := congrArg ((S 1100007)) h55_
            have e1329_ : S 26 (S 1100034 0) = S 26 (S 1100025 (S 1100033 0)) := congrArg ((S 26)) h55_
            have e1330_ : S 63 (400 * (S 1092 0 - 1) + S 58 (S 1092 0 - 1) - 1 - 0) = S 63 (400 * (S 1092 0 - 1) + (S 58 (S 1092 0 - 1) - 1)) := congrArg ((S 63)) la_stepOther_50
            have e1331_ : S 64 (400 * (S 1092 0 - 1) + S 58 (S 1092 0 - 1) - 1 - 0) = S 64 (400 * (S 1092 0 - 1) + (S 58 (S 1092 0 - 1) - 1)) := congrArg ((S 64)) la_stepOther_50
            exact (sm_VO_eq h1300_ (la_stepOther_82 h1276_ e1330_) (la_stepOther_82 h1277_ e1331_))
          intro h1332_
          have e1333_ : S 1100007 (S 1100034 0) = S 1100007 (S 1100025 (S 1100033 0)) := congrArg ((S 1100007)) h55_
          have e1334_ : S 1100023 (S 57 (S 1092 0 - 1)) = S 1100023 (S 1100033 0) := congrArg ((S 1100023)) h47_
          have e1335_ : S 26 (S 1100034 0) = S 26 (S 1100025 (S 1100033 0)) := congrArg ((S 26)) h55_
          have e1336_ : S 63 (400 * (S 1092 0 - 1) + S 58 (S 1092 0 - 1) - 1 - 0) = S 63 (400 * (S 1092 0 - 1) + (S 58 (S 1092 0 - 1) - 1)) := congrArg ((S 63)) la_stepOther_50
          have e1337_ : S 64 (400 * (S 1092 0 - 1) + S 58 (S 1092 0 - 1) - 1 - 0) = S 64 (400 * (S 1092 0 - 1) + (S 58 (S 1092 0 - 1) - 1)) := congrArg ((S 64)) la_stepOther_50
          have h1338_ := (h56_ (la_stepOther_162 h1332_ e1334_))
          have h1339_ := (h1285_ (la_stepOther_162 h1332_ e1334_))
          have e1340_ : S 1100007 (S 1100023 (S 57 (S 1092 0 - 1))) = S 1100007 (S 1100023 (S 1100033 0)) := congrArg ((S 1100007)) e1334_
          exact (la_stepOther_163 h54_ h1339_ e1340_)
        intro g170
        rintro ⟨h1341_, ⟨h1342_, ⟨h1343_, h1344_⟩⟩⟩
        have h1345_ := (h1344_ (la_stepOther_26 h34_))
        have h1346_ := (h1341_ h4_)
        refine ⟨h6_, ?_⟩
        refine ⟨h7_, ?_⟩
        refine ⟨h8_, ?_⟩
        refine ⟨h9_, ?_⟩
        refine ⟨h10_, ?_⟩
        refine ⟨h11_, ?_⟩
        refine ⟨h12_, ?_⟩
        refine ⟨h13_, ?_⟩
        refine ⟨h14_, ?_⟩
        refine ⟨h15_, ?_⟩
        refine ⟨h16_, ?_⟩
        refine ⟨h17_, ?_⟩
        refine ⟨(la_stepOther_24 h18_), ?_⟩
        refine ⟨h19_, ?_⟩
        refine ⟨h20_, ?_⟩
        refine ⟨h21_, ?_⟩
        refine ⟨h22_, ?_⟩
        refine ⟨h31_, ?_⟩
        refine ⟨(la_stepOther_25 h4_), ?_⟩
        refine ⟨h1345_, ?_⟩
        refine ⟨(la_stepOther_164 h35_ h1343_), ?_⟩
        intro h1347_
        intro h1348_
        have h1349_ := (h1342_.resolve_right (la_stepOther_165 h1348_))
        obtain ⟨h1350_, ⟨h1351_, ⟨h1352_, ⟨h1353_, ⟨h1354_, ⟨h1355_, ⟨h1356_, ⟨h1357_, ⟨h1358_, ⟨h1359_, ⟨h1360_, ⟨h1361_, ⟨h1362_, ⟨h1363_, ⟨h1364_, h1365_⟩⟩⟩⟩⟩⟩⟩⟩⟩⟩⟩⟩⟩⟩⟩ := (h1346_ h1348_)
        refine ⟨h1351_, ?_⟩
        refine ⟨h1352_, ?_⟩
        refine ⟨h1353_, ?_⟩
        refine ⟨h1354_, ?_⟩
        refine ⟨h1355_, ?_⟩
        refine ⟨h1356_, ?_⟩
        refine ⟨h1357_, ?_⟩
        refine ⟨h1358_, ?_⟩
        refine ⟨h1359_, ?_⟩
        refine ⟨h1360_, ?_⟩
        refine ⟨h1361_, ?_⟩
        refine ⟨h1362_, ?_⟩
        refine ⟨h1363_, ?_⟩
        refine ⟨h1364_, ?_⟩
        exact h1365_
      refine ⟨?_, ?_⟩
      · skip
        intro h1366_
        have h1367_ := (h62_.resolve_left (la_stepOther_166 h1366_))
        intro h1368_
        have h1369_ := (h1368_ h23_)
        have h1370_ := (h1369_ h36_)
        have h1371_ := (h1370_ h37_)
        obtain ⟨h1372_, ⟨⟨h1373_, ⟨h1374_, h1375_⟩⟩, ⟨⟨h1376_, ⟨h1377_, ⟨h1378_, ⟨h1379_, ⟨h1380_, h1381_⟩⟩⟩⟩⟩, ⟨h1382_, ⟨h1383_, ⟨h1384_, ⟨h1385_, ⟨h1386_, h1387_⟩⟩⟩⟩⟩⟩⟩⟩ := (h1371_ (la_stepOther_167 h60_ h1366_))
        have h1388_ := (h77_ h1375_)
        intro h1389_
        have h1390_ := (h1389_ h23_)
        have h1391_ := (h1390_ h36_)
        have h1392_ := (h1391_ h37_)
        intro h1393_
        have h1394_ := (h1393_ h23_)
        have h1395_ := (h1394_ h36_)
        obtain ⟨h1396_, h1397_⟩ := (h1395_ h37_)
        intro h1398_
        have h1399_ := (h1398_ h36_)
        refine ⟨(la_stepOther_116 h34_ h35_), ?_⟩
        intro h1400_
        refine ⟨(la_stepOther_168 h34_ h35_ h41_ h1372_ h1392_ h1396_), ?_⟩
        intro h1401_
        intro h1402_
        have h1403_ := (h1402_ h42_)
        have h1404_ := (h1403_ h36_)
        have h1405_ := (h1404_ (la_stepOther_169 h69_ h70_))
        have h1406_ := (h1405_ h1392_)
        have h1407_ := (h1406_ h61_)
        have h1408_ := (h1407_ h54_)
        have h1409_ := (h1408_ (la_stepOther_170 h41_ h1392_))
        refine ⟨(la_stepOther_171 h41_ h1372_ h1392_ h1396_), ?_⟩
        refine ⟨(la_stepOther_23 h29_ h34_ h35_ h36_ h47_ h1377_), ?_⟩
        intro g192
        rintro ⟨h1410_, h1411_⟩
        refine ⟨h6_, ?_⟩
        refine ⟨h7_, ?_⟩
        refine ⟨h8_, ?_⟩
        refine ⟨h9_, ?_⟩
        refine ⟨h10_, ?_⟩
        refine ⟨h11_, ?_⟩
        refine ⟨h12_, ?_⟩
        refine ⟨h13_, ?_⟩
        refine ⟨h14_, ?_⟩
        refine ⟨h15_, ?_⟩
        refine ⟨h16_, ?_⟩
        refine ⟨h17_, ?_⟩
        refine ⟨(la_stepOther_24 h18_), ?_⟩
        refine ⟨h19_, ?_⟩
        refine ⟨h20_, ?_⟩
        refine ⟨h21_, ?_⟩
        refine ⟨h22_, ?_⟩
        refine ⟨h31_, ?_⟩
        refine ⟨(la_stepOther_25 h4_), ?_⟩
        refine ⟨(la_stepOther_26 h34_), ?_⟩
        refine ⟨h35_, ?_⟩
        intro h1412_
        intro h1413_
        refine ⟨h34_, ?_⟩
        refine ⟨h35_, ?_⟩
        refine ⟨(la_stepOther_27 h36_ h47_ h1410_), ?_⟩
        refine ⟨(la_stepOther_28 h47_ h1377_ h1410_), ?_⟩
        refine ⟨?_, ?_⟩
        · skip
          have h1414_ := (h1411_ (S 1092 0 - 1))
          have e1415_ : S 1100007 (S 1100034 0) = S 1100007 (S 1100025 (S 1100033 0)) := congrArg ((S 1100007)) h55_
          have e1416_ : S 26 (S 1100034 0) = S 26 (S 1100025 (S 1100033 0)) := congrArg ((S 26)) h55_
          have e1417_ : S 29 (g192 57 (S 1092 0 - 1)) = S 29 (S 1100033 0 + 1) := congrArg ((S 29)) (la_stepOther_30 h47_ h1410_)
          exact (la_stepOther_31 h38_ h1378_ e1417_)
        refine ⟨h39_, ?_⟩
        refine ⟨h40_, ?_⟩
        refine ⟨?_, ?_⟩
        · skip
          have h1418_ := (h1411_ (S 1092 0 - 1))
          have e1419_ : (if S 1092 0 - 1 = S 1092 0 - 1 then S 60 (S 1092 0 - 1) + 1 else S 60 (S 1092 0 - 1) : Int) = S 60 (S 1092 0 - 1) + 1 := if_pos la_stepOther_117
          have e1420_ : S 1100007 (S 1100034 0) = S 1100007 (S 1100025 (S 1100033 0)) := congrArg ((S 1100007)) h55_
          have e1421_ : S 1100023 (g192 57 (S 1092 0 - 1)) = S 1100023 (S 1100033 0 + 1) := congrArg ((S 1100023)) (la_stepOther_30 h47_ h1410_)
          have e1422_ : S 26 (S 1100034 0) = S 26 (S 1100025 (S 1100033 0)) := congrArg ((S 26)) h55_
          have e1423_ : sm_dp (S 1100024) (S 1100033 0) = sm_dp (S 1100024) (S 1100023 (g192 57 (S 1092 0 - 1))) := congrArg ((sm_dp (S 1100024))) (la_stepOther_33 h1380_ e1421_)
          exact (la_stepOther_172 h41_ h1392_ h1399_ e1419_ e1423_)
        refine ⟨?_, ?_⟩
        · skip
          have h1424_ := (h1411_ (S 1092 0 - 1))
          have e1425_ : S 1100007 (S 1100034 0) = S 1100007 (S 1100025 (S 1100033 0)) := congrArg ((S 1100007)) h55_
          have e1426_ : S 1100023 (g192 57 (S 1092 0 - 1)) = S 1100023 (S 1100033 0 + 1) := congrArg ((S 1100023)) (la_stepOther_30 h47_ h1410_)
          have e1427_ : S 26 (S 1100034 0) = S 26 (S 1100025 (S 1100033 0)) := congrArg ((S 26)) h55_
          exact (sm_TC_t h1409_ (la_stepOther_33 h1380_ e1426_))
        refine ⟨h43_, ?_⟩
        refine ⟨h44_, ?_⟩
        refine ⟨h45_, ?_⟩
        refine ⟨(sm_FL_F h46_ sm_F1_rf sm_F1_rf sm_F1_rf sm_F1_rf (sm_F1_le (sm_F1_ne h1411_ (Int.le_refl _)) (Int.le_refl _)) sm_F1_rf sm_F1_rf (sm_F1_up sm_F1_rf (Int.le_refl _)) (sm_F1_up sm_F1_rf (la_stepOther_173 h41_ h1392_ h1396_)) (sm_F1_up sm_F1_rf (la_stepOther_173 h41_ h1392_ h1396_)) sm_F1_rf sm_F1_rf (Int.le_refl _) (Int.le_refl _) sm_F1_rf sm_F1_rf (sm_FL_dp h46_ h23_)), ?_⟩
        refine ⟨?_, ?_⟩
        · skip
          have h1428_ := (h1411_ (S 1092 0 - 1))
          have e1429_ : S 1100007 (S 1100034 0) = S 1100007 (S 1100025 (S 1100033 0)) := congrArg ((S 1100007)) h55_
          have e1430_ : S 1100007 (g192 57 (S 1092 0 - 1)) = S 1100007 (S 1100033 0 + 1) := congrArg ((S 1100007)) (la_stepOther_30 h47_ h1410_)
          have e1431_ : S 26 (S 1100034 0) = S 26 (S 1100025 (S 1100033 0)) := congrArg ((S 26)) h55_
          exact (la_stepOther_120 h54_ h1379_ e1430_)
        have h1432_ := (h1411_ (S 1092 0 - 1))
        have e1433_ : S 1100007 (S 1100034 0) = S 1100007 (S 1100025 (S 1100033 0)) := congrArg ((S 1100007)) h55_
        have e1434_ : S 1100025 (g192 57 (S 1092 0 - 1)) = S 1100025 (S 1100033 0 + 1) := congrArg ((S 1100025)) (la_stepOther_30 h47_ h1410_)
        have e1435_ : S 26 (S 1100034 0) = S 26 (S 1100025 (S 1100033 0)) := congrArg ((S 26)) h55_
        exact (sm_SK_q h50_ (la_stepOther_53 h55_ h1381_ e1434_) rfl rfl)
      refine ⟨?_, ?_⟩
      · skip
        intro h1436_
        have h1437_ := (h62_.resolve_left (la_stepOther_174 h1436_))
        have h1438_ := (h1437_.resolve_left (la_stepOther_175 h1436_))
        intro h1439_
        have h1440_ := (h1439_ h23_)
        have h1441_ := (h1440_ h36_)
        have h1442_ := (h1441_ h37_)
        obtain ⟨h1443_, ⟨⟨h1444_, ⟨h1445_, h1446_⟩⟩, ⟨h1447_, ⟨h1448_, ⟨h1449_, ⟨h1450_, ⟨h1451_, h1452_⟩⟩⟩⟩⟩⟩⟩ := (h1442_ (la_stepOther_176 h60_ h1436_))
        have h1453_ := (h56_ h1443_)
        have h1454_ := (h77_ h1446_)
        have h1455_ := (h1445_ h1443_)
        intro h1456_
        have h1457_ := (h1456_ h23_)
        have h1458_ := (h1457_ h36_)
        have h1459_ := (h1458_ h37_)
        obtain ⟨h1460_, ⟨h1461_, h1462_⟩⟩ := (h1459_ h1443_)
        intro h1463_
        have h1464_ := (h1463_ h23_)
        have h1465_ := (h1464_ h42_)
        have h1466_ := (h1465_ h1443_)
        have h1467_ := (h1466_ (la_stepOther_177 h70_ h1448_))
        obtain ⟨⟨h1468_, ⟨h1469_, ⟨h1470_, ⟨h1471_, ⟨h1472_, h1473_⟩⟩⟩⟩⟩, ⟨⟨h1474_, ⟨h1475_, ⟨h1476_, h1477_⟩⟩⟩, ⟨⟨h1478_, ⟨h1479_, ⟨h1480_, ⟨h1481_, ⟨h1482_, h1483_⟩⟩⟩⟩⟩, ⟨h1484_, ⟨h1485_, ⟨h1486_, h1487_⟩⟩⟩⟩⟩⟩ := (h1467_ h1460_)
        refine ⟨(la_stepOther_116 h34_ h35_), ?_⟩
        intro h1488_
        refine ⟨(la_stepOther_178 h41_ h1468_ h1469_ h1470_), ?_⟩
        refine ⟨(la_stepOther_179 h29_ h34_ h35_ h47_ h70_ h1443_ h1448_), ?_⟩
        intro g206
        rintro ⟨h1489_, h1490_⟩
        refine ⟨h6_, ?_⟩
        refine ⟨h7_, ?_⟩
        refine ⟨h8_, ?_⟩
        refine ⟨h9_, ?_⟩
        refine ⟨h10_, ?_⟩
        refine ⟨h11_, ?_⟩
        refine ⟨h12_, ?_⟩
        refine ⟨h13_, ?_⟩
        refine ⟨h14_, ?_⟩
        refine ⟨h15_, ?_⟩
        refine ⟨h16_, ?_⟩
        refine ⟨h17_, ?_⟩
        refine ⟨(la_stepOther_24 h18_), ?_⟩
        refine ⟨h19_, ?_⟩
        refine ⟨h20_, ?_⟩
        refine ⟨h21_, ?_⟩
        refine ⟨h22_, ?_⟩
        refine ⟨h31_, ?_⟩
        refine ⟨(la_stepOther_25 h4_), ?_⟩
        refine ⟨(la_stepOther_26 h34_), ?_⟩
        refine ⟨h35_, ?_⟩
        intro h1491_
        intro h1492_
        refine ⟨h34_, ?_⟩
        refine ⟨h35_, ?_⟩
        refine ⟨(la_stepOther_27 h36_ h47_ h1489_), ?_⟩
        refine ⟨(la_stepOther_28 h47_ h1448_ h1489_), ?_⟩
        refine ⟨?_, ?_⟩
        · skip
          have h1493_ := (h1490_ (S 1092 0 - 1))
          have e1494_ : S 1100007 (S 1100034 0) = S 1100007 (S 1100025 (S 1100033 0)) := congrArg ((S 1100007)) h55_
          have e1495_ : S 26 (S 1100034 0) = S 26 (S 1100025 (S 1100033 0)) := congrArg ((S 26)) h55_
          have e1496_ : S 29 (g206 57 (S 1092 0 - 1)) = S 29 (S 1100033 0 + 1) := congrArg ((S 29)) (la_stepOther_30 h47_ h1489_)
          exact (la_stepOther_31 h38_ h1449_ e1496_)
        refine ⟨h39_, ?_⟩
        refine ⟨h40_, ?_⟩
        refine ⟨?_, ?_⟩
        · skip
          have h1497_ := (h1490_ (S 1092 0 - 1))
          have e1498_ : (if S 1092 0 - 1 = S 1092 0 - 1 then S 60 (S 1092 0 - 1) - 1 else S 60 (S 1092 0 - 1) : Int) = S 60 (S 1092 0 - 1) - 1 := if_pos la_stepOther_117
          have e1499_ : S 1100007 (S 1100034 0) = S 1100007 (S 1100025 (S 1100033 0)) := congrArg ((S 1100007)) h55_
          have e1500_ : S 1100023 (g206 57 (S 1092 0 - 1)) = S 1100023 (S 1100033 0 + 1) := congrArg ((S 1100023)) (la_stepOther_30 h47_ h1489_)
          have e1501_ : S 26 (S 1100034 0) = S 26 (S 1100025 (S 1100033 0)) := congrArg ((S 26)) h55_
          have e1502_ : sm_dp (S 1100024) (S 1100023 (g206 57 (S 1092 0 - 1))) = sm_dp (S 1100024) (S 1100023 (S 1100023 (S 1100033 0))) := congrArg ((sm_dp (S 1100024))) (la_stepOther_13 h1451_ e1500_)
          exact (la_stepOther_180 h41_ h1470_ h1471_ e1498_ e1502_)
        refine ⟨?_, ?_⟩
        · skip
          have h1503_ := (h1490_ (S 1092 0 - 1))
          have e1504_ : S 1100007 (S 1100034 0) = S 1100007 (S 1100025 (S 1100033 0)) := congrArg ((S 1100007)) h55_
          have e1505_ : S 1100023 (g206 57 (S 1092 0 - 1)) = S 1100023 (S 1100033 0 + 1) := congrArg ((S 1100023)) (la_stepOther_30 h47_ h1489_)
          have e1506_ : S 26 (S 1100034 0) = S 26 (S 1100025 (S 1100033 0)) := congrArg ((S 26)) h55_
          exact (sm_TC_t h1484_ (la_stepOther_33 h1451_ e1505_))
        refine ⟨h43_, ?_⟩
        refine ⟨h44_, ?_⟩
        refine ⟨h45_, ?_⟩
        refine ⟨(sm_FL_F h46_ sm_F1_rf sm_F1_rf sm_F1_rf sm_F1_rf (sm_F1_le (sm_F1_ne h1490_ (Int.le_refl _)) (Int.le_refl _)) sm_F1_rf sm_F1_rf (sm_F1_up sm_F1_rf (Int.le_refl _)) sm_F1_rf sm_F1_rf sm_F1_rf sm_F1_rf (Int.le_refl _) (Int.le_refl _) sm_F1_rf sm_F1_rf (sm_FL_dp h46_ h23_)), ?_⟩
        refine ⟨?_, ?_⟩
        · skip
          have h1507_ := (h1490_ (S 1092 0 - 1))
          have e1508_ : S 1100007 (S 1100034 0) = S 1100007 (S 1100025 (S 1100033 0)) := congrArg ((S 1100007)) h55_
          have e1509_ : S 1100007 (g206 57 (S 1092 0 - 1)) = S 1100007 (S 1100033 0 + 1) := congrArg ((S 1100007)) (la_stepOther_30 h47_ h1489_)
          have e1510_ : S 26 (S 1100034 0) = S 26 (S 1100025 (S 1100033 0)) := congrArg ((S 26)) h55_
          exact (la_stepOther_120 h54_ h1450_ e1509_)
        have h1511_ := (h1490_ (S 1092 0 - 1))
        have e1512_ : S 1100007 (S 1100034 0) = S 1100007 (S 1100025 (S 1100033 0)) := congrArg ((S 1100007)) h55_
        have e1513_ : S 1100025 (g206 57 (S 1092 0 - 1)) = S 1100025 (S 1100033 0 + 1) := congrArg ((S 1100025)) (la_stepOther_30 h47_ h1489_)
        have e1514_ : S 26 (S 1100034 0) = S 26 (S 1100025 (S 1100033 0)) := congrArg ((S 26)) h55_
        exact (sm_SK_q h50_ (la_stepOther_53 h55_ h1452_ e1513_) rfl rfl)
      intro h1515_
      have h1516_ := (h62_.resolve_left (la_stepOther_181 h1515_))
      have h1517_ := (h79_.resolve_left (la_stepOther_182 h1515_))
      have h1518_ := (h81_.resolve_left (la_stepOther_182 h1515_))
      have h1519_ := (h1516_.resolve_left (la_stepOther_183 h1515_))
      have h1520_ := (h1519_.resolve_left (la_stepOther_184 h1515_))
      intro h1521_
      have h1522_ := (h1521_ h23_)
      have h1523_ := (h1522_ h36_)
      have h1524_ := (h1523_ h37_)
      obtain ⟨⟨h1525_, ⟨h1526_, h1527_⟩⟩, ⟨h1528_, ⟨h1529_, ⟨h1530_, ⟨h1531_, ⟨h1532_, h1533_⟩⟩⟩⟩⟩⟩ := (h1524_ (la_stepOther_185 h60_ h1515_))
      intro h1534_
      have h1535_ := (h1534_ h55_)
      have h1536_ := (h1535_ h54_)
      have h1537_ := (h1536_ h1527_)
      intro h1538_
      have h1539_ := (h1538_ h50_)
      have h1540_ := (h1539_ h24_)
      have h1541_ := (h1540_ (la_stepOther_44 h1520_))
      have h1542_ := (h1541_ la_stepOther_45)
      have h1543_ := (h1542_ h52_)
      have h1544_ := (h1543_ h55_)
      have h1545_ := (h1544_ h54_)
      have h1546_ := (h1545_ h53_)
      have h1547_ := (h1546_ h1527_)
      refine ⟨(la_stepOther_22 h34_ h35_ h57_ h1520_), ?_⟩
      intro g215
      rintro ⟨h1548_, h1549_⟩
      refine ⟨(la_stepOther_186 h34_ h35_ h57_ h1520_ h1548_), ?_⟩
      refine ⟨(la_stepOther_187 h34_ h35_ h57_ h1520_ h1548_), ?_⟩
      intro h1550_
      refine ⟨?_, ?_⟩
      · skip
        intro h1551_
        refine ⟨(la_stepOther_188 h34_ h35_ h57_ h1520_ h1548_), ?_⟩
        intro g228
        rintro ⟨h1552_, ⟨h1553_, ⟨h1554_, ⟨h1555_, ⟨h1556_, h1557_⟩⟩⟩⟩⟩
        refine ⟨(la_stepOther_23 h29_ h34_ h35_ h36_ h47_ h1529_), ?_⟩
        intro g234
        rintro ⟨h1558_, h1559_⟩
        refine ⟨h6_, ?_⟩
        refine ⟨h7_, ?_⟩
        refine ⟨h8_, ?_⟩
        refine ⟨h9_, ?_⟩
        refine ⟨h10_, ?_⟩
        refine ⟨h11_, ?_⟩
        refine ⟨h12_, ?_⟩
        refine ⟨h13_, ?_⟩
        refine ⟨h14_, ?_⟩
        refine ⟨h15_, ?_⟩
        refine ⟨h16_, ?_⟩
        refine ⟨h17_, ?_⟩
        refine ⟨(la_stepOther_24 h18_), ?_⟩
        refine ⟨h19_, ?_⟩
        refine ⟨h20_, ?_⟩
        refine ⟨h21_, ?_⟩
        refine ⟨h22_, ?_⟩
        refine ⟨h31_, ?_⟩
        refine ⟨(la_stepOther_25 h4_), ?_⟩
        refine ⟨(la_stepOther_26 h34_), ?_⟩
        refine ⟨h35_, ?_⟩
        intro h1560_
        intro h1561_
        refine ⟨h34_, ?_⟩
        refine ⟨h35_, ?_⟩
        refine ⟨(la_stepOther_27 h36_ h47_ h1558_), ?_⟩
        refine ⟨(la_stepOther_28 h47_ h1529_ h1558_), ?_⟩
        refine ⟨?_, ?_⟩
        · skip
          have h1562_ := (h1549_ (S 1092 0 - 1))
          have h1563_ := (h1555_ (S 1092 0 - 1))
          have h1564_ := (h1556_ (400 * (S 1092 0 - 1) + (S 58 (S 1092 0 - 1) - 1)))
          have h1565_ := (h1556_ (400 * (S 1092 0 - 1) + g215 58 (S 1092 0 - 1)))
          have h1566_ := (h1556_ (400 * (S 1092 0 - 1) + S 58 (S 1092 0 - 1) - 1 - 0))
          have h1567_ := (h1557_ (400 * (S 1092 0 - 1) + (S 58 (S 1092 0 - 1) - 1)))
          have h1568_ := (h1557_ (400 * (S 1092 0 - 1) + g215 58 (S 1092 0 - 1)))
          have h1569_ := (h1557_ (400 * (S 1092 0 - 1) + S 58 (S 1092 0 - 1) - 1 - 0))
          have h1570_ := (h1559_ (S 1092 0 - 1))
          have e1571_ : S 1100007 (S 1100034 0) = S 1100007 (S 1100025 (S 1100033 0)) := congrArg ((S 1100007)) h55_
          have e1572_ : S 26 (S 1100034 0) = S 26 (S 1100025 (S 1100033 0)) := congrArg ((S 26)) h55_
          have e1573_ : S 29 (g234 57 (S 1092 0 - 1)) = S 29 (S 1100033 0 + 1) := congrArg ((S 29)) (la_stepOther_30 h47_ h1558_)
          have e1574_ : S 63 (400 * (S 1092 0 - 1) + S 58 (S 1092 0 - 1) - 1 - 0) = S 63 (400 * (S 1092 0 - 1) + (S 58 (S 1092 0 - 1) - 1)) := congrArg ((S 63)) la_stepOther_50
          have e1575_ : S 64 (400 * (S 1092 0 - 1) + S 58 (S 1092 0 - 1) - 1 - 0) = S 64 (400 * (S 1092 0 - 1) + (S 58 (S 1092 0 - 1) - 1)) := congrArg ((S 64)) la_stepOther_50
          exact (la_stepOther_31 h38_ h1530_ e1573_)
        refine ⟨h39_, ?_⟩
        refine ⟨h40_, ?_⟩
        refine ⟨?_, ?_⟩
        · skip
          have h1576_ := (h1549_ (S 1092 0 - 1))
          have h1577_ := (h1555_ (S 1092 0 - 1))
          have h1578_ := (h1556_ (400 * (S 1092 0 - 1) + (S 58 (S 1092 0 - 1) - 1)))
          have h1579_ := (h1556_ (400 * (S 1092 0 - 1) + g215 58 (S 1092 0 - 1)))
          have h1580_ := (h1556_ (400 * (S 1092 0 - 1) + S 58 (S 1092 0 - 1) - 1 - 0))
          have h1581_ := (h1557_ (400 * (S 1092 0 - 1) + (S 58 (S 1092 0 - 1) - 1)))
          have h1582_ := (h1557_ (400 * (S 1092 0 - 1) + g215 58 (S 1092 0 - 1)))
          have h1583_ := (h1557_ (400 * (S 1092 0 - 1) + S 58 (S 1092 0 - 1) - 1 - 0))
          have h1584_ := (h1559_ (S 1092 0 - 1))
          have e1585_ : S 1100007 (S 1100034 0) = S 1100007 (S 1100025 (S 1100033 0)) := congrArg ((S 1100007)) h55_
          have e1586_ : S 1100023 (g234 57 (S 1092 0 - 1)) = S 1100023 (S 1100033 0 + 1) := congrArg ((S 1100023)) (la_stepOther_30 h47_ h1558_)
          have e1587_ : S 26 (S 1100034 0) = S 26 (S 1100025 (S 1100033 0)) := congrArg ((S 26)) h55_
          have e1588_ : S 63 (400 * (S 1092 0 - 1) + S 58 (S 1092 0 - 1) - 1 - 0) = S 63 (400 * (S 1092 0 - 1) + (S 58 (S 1092 0 - 1) - 1)) := congrArg ((S 63)) la_stepOther_50
          have e1589_ : S 64 (400 * (S 1092 0 - 1) + S 58 (S 1092 0 - 1) - 1 - 0) = S 64 (400 * (S 1092 0 - 1) + (S 58 (S 1092 0 - 1) - 1)) := congrArg ((S 64)) la_stepOther_50
          have e1590_ : sm_dp (S 1100024) (S 1100023 (g234 57 (S 1092 0 - 1))) = sm_dp (S 1100024) (S 1100023 (S 1100033 0)) := congrArg ((sm_dp (S 1100024))) (la_stepOther_13 h1532_ e1586_)
          exact (la_stepOther_32 h41_ e1590_)
        refine ⟨?_, ?_⟩
        · skip
          have h1591_ := (h1549_ (S 1092 0 - 1))
          have h1592_ := (h1555_ (S 1092 0 - 1))
          have h1593_ := (h1556_ (400 * (S 1092 0 - 1) + (S 58 (S 1092 0 - 1) - 1)))
          have h1594_ := (h1556_ (400 * (S 1092 0 - 1) + g215 58 (S 1092 0 - 1)))
          have h1595_ := (h1556_ (400 * (S 1092 0 - 1) + S 58 (S 1092 0 - 1) - 1 - 0))
          have h1596_ := (h1557_ (400 * (S 1092 0 - 1) + (S 58 (S 1092 0 - 1) - 1)))
          have h1597_ := (h1557_ (400 * (S 1092 0 - 1) + g215 58 (S 1092 0 - 1)))
          have h1598_ := (h1557_ (400 * (S 1092 0 - 1) + S 58 (S 1092 0 - 1) - 1 - 0))
          have h1599_ := (h1559_ (S 1092 0 - 1))
          have e1600_ : S 1100007 (S 1100034 0) = S 1100007 (S 1100025 (S 1100033 0)) := congrArg ((S 1100007)) h55_
          have e1601_ : S 1100023 (g234 57 (S 1092 0 - 1)) = S 1100023 (S 1100033 0 + 1) := congrArg ((S 1100023)) (la_stepOther_30 h47_ h1558_)
          have e1602_ : S 26 (S 1100034 0) = S 26 (S 1100025 (S 1100033 0)) := congrArg ((S 26)) h55_
          have e1603_ : S 63 (400 * (S 1092 0 - 1) + S 58 (S 1092 0 - 1) - 1 - 0) = S 63 (400 * (S 1092 0 - 1) + (S 58 (S 1092 0 - 1) - 1)) := congrArg ((S 63)) la_stepOther_50
          have e1604_ : S 64 (400 * (S 1092 0 - 1) + S 58 (S 1092 0 - 1) - 1 - 0) = S 64 (400 * (S 1092 0 - 1) + (S 58 (S 1092 0 - 1) - 1)) := congrArg ((S 64)) la_stepOther_50
          exact (sm_TC_t h42_ (la_stepOther_33 h1532_ e1601_))
        refine ⟨h43_, ?_⟩
        refine ⟨h44_, ?_⟩
        refine ⟨h45_, ?_⟩
        refine ⟨(sm_FL_F h46_ sm_F1_rf sm_F1_rf sm_F1_rf sm_F1_rf (sm_F1_le (sm_F1_ne h1559_ (Int.le_refl _)) (Int.le_refl _)) (sm_F1_tr (sm_F1_le (sm_F1_ne h1549_ (Int.le_refl _)) (Int.le_refl _)) (sm_F1_ne h1555_ (Int.le_refl _)) (Int.le_refl _)) sm_F1_rf sm_F1_rf sm_F1_rf sm_F1_rf (sm_F1_le (sm_F1_ne h1556_ (Int.le_refl _)) (la_stepOther_193 h1520_ h1548_)) (sm_F1_le (sm_F1_ne h1557_ (Int.le_refl _)) (la_stepOther_193 h1520_ h1548_)) (Int.le_refl _) (Int.le_refl _) sm_F1_rf sm_F1_rf (sm_FL_dp h46_ h23_)), ?_⟩
        refine ⟨?_, ?_⟩
        · skip
          have h1605_ := (h1549_ (S 1092 0 - 1))
          have h1606_ := (h1555_ (S 1092 0 - 1))
          have h1607_ := (h1556_ (400 * (S 1092 0 - 1) + (S 58 (S 1092 0 - 1) - 1)))
          have h1608_ := (h1556_ (400 * (S 1092 0 - 1) + g215 58 (S 1092 0 - 1)))
          have h1609_ := (h1556_ (400 * (S 1092 0 - 1) + S 58 (S 1092 0 - 1) - 1 - 0))
          have h1610_ := (h1557_ (400 * (S 1092 0 - 1) + (S 58 (S 1092 0 - 1) - 1)))
          have h1611_ := (h1557_ (400 * (S 1092 0 - 1) + g215 58 (S 1092 0 - 1)))
          have h1612_ := (h1557_ (400 * (S 1092 0 - 1) + S 58 (S 1092 0 - 1) - 1 - 0))
          have h1613_ := (h1559_ (S 1092 0 - 1))
          have e1614_ : S 1100007 (S 1100034 0) = S 1100007 (S 1100025 (S 1100033 0)) := congrArg ((S 1100007)) h55_
          have e1615_ : S 1100007 (g234 57 (S 1092 0 - 1)) = S 1100007 (S 1100033 0 + 1) := congrArg ((S 1100007)) (la_stepOther_30 h47_ h1558_)
          have e1616_ : S 26 (S 1100034 0) = S 26 (S 1100025 (S 1100033 0)) := congrArg ((S 26)) h55_
          have e1617_ : S 63 (400 * (S 1092 0 - 1) + S 58 (S 1092 0 - 1) - 1 - 0) = S 63 (400 * (S 1092 0 - 1) + (S 58 (S 1092 0 - 1) - 1)) := congrArg ((S 63)) la_stepOther_50
          have e1618_ : S 64 (400 * (S 1092 0 - 1) + S 58 (S 1092 0 - 1) - 1 - 0) = S 64 (400 * (S 1092 0 - 1) + (S 58 (S 1092 0 - 1) - 1)) := congrArg ((S 64)) la_stepOther_50
          exact (la_stepOther_194 h54_ h1531_ h1548_ h1552_ e1615_)
        have h1619_ := (h1549_ (S 1092 0 - 1))
        have h1620_ := (h1555_ (S 1092 0 - 1))
        have h1621_ := (h1556_ (400 * (S 1092 0 - 1) + (S 58 (S 1092 0 - 1) - 1)))
        have h1622_ := (h1556_ (400 * (S 1092 0 - 1) + g215 58 (S 1092 0 - 1)))
        have h1623_ := (h1556_ (400 * (S 1092 0 - 1) + S 58 (S 1092 0 - 1) - 1 - 0))
        have h1624_ := (h1557_ (400 * (S 1092 0 - 1) + (S 58 (S 1092 0 - 1) - 1)))
        have h1625_ := (h1557_ (400 * (S 1092 0 - 1) + g215 58 (S 1092 0 - 1)))
        have h1626_ := (h1557_ (400 * (S 1092 0 - 1) + S 58 (S 1092 0 - 1) - 1 - 0))
        have h1627_ := (h1559_ (S 1092 0 - 1))
        have e1628_ : S 1100007 (S 1100034 0) = S 1100007 (S 1100025 (S 1100033 0)) := congrArg ((S 1100007)) h55_
        have e1629_ : S 1100025 (g234 57 (S 1092 0 - 1)) = S 1100025 (S 1100033 0 + 1) := congrArg ((S 1100025)) (la_stepOther_30 h47_ h1558_)
        have e1630_ : S 26 (S 1100034 0) = S 26 (S 1100025 (S 1100033 0)) := congrArg ((S 26)) h55_
        have e1631_ : S 63 (400 * (S 1092 0 - 1) + S 58 (S 1092 0 - 1) - 1 - 0) = S 63 (400 * (S 1092 0 - 1) + (S 58 (S 1092 0 - 1) - 1)) := congrArg ((S 63)) la_stepOther_50
        have e1632_ : S 64 (400 * (S 1092 0 - 1) + S 58 (S 1092 0 - 1) - 1 - 0) = S 64 (400 * (S 1092 0 - 1) + (S 58 (S 1092 0 - 1) - 1)) := congrArg ((S 64)) la_stepOther_50
        exact (sm_SK_q (sm_SK_q (sm_SK_names (sm_SK_F (sm_SK_pop h50_ la_stepOther_196) (sm_F1_le (sm_F1_ne h1556_ (Int.le_refl _)) (la_stepOther_197 h1548_)) (sm_F1_le (sm_F1_ne h1557_ (Int.le_refl _)) (la_stepOther_197 h1548_)) (Int.le_refl _) (Int.le_refl _)) h24_ h36_ h37_ (la_stepOther_185 h60_ h1515_) (la_stepOther_161 h55_) (la_stepOther_201 h54_) rfl ⟨(((congrArg (g228 63) (la_stepOther_198 h1548_)).trans h1553_)).trans la_stepOther_199, by rw [((congrArg (g228 64) (la_stepOther_198 h1548_)).trans h1554_)]; exact (la_stepOther_200 h19_).1, by rw [((congrArg (g228 64) (la_stepOther_198 h1548_)).trans h1554_)]; exact (la_stepOther_200 h19_).2⟩ rfl) rfl (la_stepOther_195 h1548_ h1552_) rfl) (la_stepOther_13 h1533_ e1629_) rfl rfl)
      intro h1633_
      refine ⟨(la_stepOther_188 h34_ h35_ h57_ h1520_ h1548_), ?_⟩
      intro g240
      rintro ⟨h1634_, ⟨h1635_, ⟨h1636_, ⟨h1637_, ⟨h1638_, h1639_⟩⟩⟩⟩⟩
      refine ⟨(la_stepOther_23 h29_ h34_ h35_ h36_ h47_ h1529_), ?_⟩
      intro g246
      rintro ⟨h1640_, h1641_⟩
      refine ⟨h6_, ?_⟩
      refine ⟨h7_, ?_⟩
      refine ⟨h8_, ?_⟩
      refine ⟨h9_, ?_⟩
      refine ⟨h10_, ?_⟩
      refine ⟨h11_, ?_⟩
      refine ⟨h12_, ?_⟩
      refine ⟨h13_, ?_⟩
      refine ⟨h14_, ?_⟩
      refine ⟨h15_, ?_⟩
      refine ⟨h16_, ?_⟩
      refine ⟨h17_, ?_⟩
      refine ⟨(la_stepOther_24 h18_), ?_⟩
      refine ⟨h19_, ?_⟩
      refine ⟨h20_, ?_⟩
      refine ⟨h21_, ?_⟩
      refine ⟨h22_, ?_⟩
      refine ⟨h31_, ?_⟩
      refine ⟨(la_stepOther_25 h4_), ?_⟩
      refine ⟨(la_stepOther_26 h34_), ?_⟩
      refine ⟨h35_, ?_⟩
      intro h1642_
      intro h1643_
      refine ⟨h34_, ?_⟩
      refine ⟨h35_, ?_⟩
      refine ⟨(la_stepOther_27 h36_ h47_ h1640_), ?_⟩
      refine ⟨(la_stepOther_28 h47_ h1529_ h1640_), ?_⟩
      refine ⟨?_, ?_⟩
      · skip
        have h1644_ := (h1549_ (S 1092 0 - 1))
        have h1645_ := (h1637_ (S 1092 0 - 1))
        have h1646_ := (h1638_ (400 * (S 1092 0 - 1) + (S 58 (S 1092 0 - 1) - 1)))
        have h1647_ := (h1638_ (400 * (S 1092 0 - 1) + g215 58 (S 1092 0 - 1)))
        have h1648_ := (h1638_ (400 * (S 1092 0 - 1) + S 58 (S 1092 0 - 1) - 1 - 0))
        have h1649_ := (h1639_ (400 * (S 1092 0 - 1) + (S 58 (S 1092 0 - 1) - 1)))
        have h1650_ := (h1639_ (400 * (S 1092 0 - 1) + g215 58 (S 1092 0 - 1)))
        have h1651_ := (h1639_ (400 * (S 1092 0 - 1) + S 58 (S 1092 0 - 1) - 1 - 0))
        have h1652_ := (h1641_ (S 1092 0 - 1))
        have e1653_ : S 1100007 (S 1100034 0) = S 1100007 (S 1100025 (S 1100033 0)) := congrArg ((S 1100007)) h55_
        have e1654_ : S 26 (S 1100034 0) = S 26 (S 1100025 (S 1100033 0)) := congrArg ((S 26)) h55_
        have e1655_ : S 29 (g246 57 (S 1092 0 - 1)) = S 29 (S 1100033 0 + 1) := congrArg ((S 29)) (la_stepOther_30 h47_ h1640_)
        have e1656_ : S 63 (400 * (S 1092 0 - 1) + S 58 (S 1092 0 - 1) - 1 - 0) = S 63 (400 * (S 1092 0 - 1) + (S 58 (S 1092 0 - 1) - 1)) := congrArg ((S 63)) la_stepOther_50
        have e1657_ : S 64 (400 * (S 1092 0 - 1) + S 58 (S 1092 0 - 1) - 1 - 0) = S 64 (400 * (S 1092 0 - 1) + (S 58 (S 1092 0 - 1) - 1)) := congrArg ((S 64)) la_stepOther_50
        obtain ⟨h1658_, ⟨h1659_, h1660_⟩⟩ := ((sm_VO_e h1547_).2.2.2 (la_stepOther_203 h1517_ (sm_VO_e h1547_).2.1 h1633_ e1656_))
        exact (la_stepOther_31 h38_ h1530_ e1655_)
      refine ⟨h39_, ?_⟩
      refine ⟨h40_, ?_⟩
      refine ⟨?_, ?_⟩
      · skip
        have h1661_ := (h1549_ (S 1092 0 - 1))
        have h1662_ := (h1637_ (S 1092 0 - 1))
        have h1663_ := (h1638_ (400 * (S 1092 0 - 1) + (S 58 (S 1092 0 - 1) - 1)))
        have h1664_ := (h1638_ (400 * (S 1092 0 - 1) + g215 58 (S 1092 0 - 1)))
        have h1665_ := (h1638_ (400 * (S 1092 0 - 1) + S 58 (S 1092 0 - 1) - 1 - 0))
        have h1666_ := (h1639_ (400 * (S 1092 0 - 1) + (S 58 (S 1092 0 - 1) - 1)))
        have h1667_ := (h1639_ (400 * (S 1092 0 - 1) + g215 58 (S 1092 0 - 1)))
        have h1668_ := (h1639_ (400 * (S 1092 0 - 1) + S 58 (S 1092 0 - 1) - 1 - 0))
        have h1669_ := (h1641_ (S 1092 0 - 1))
        have e1670_ : S 1100007 (S 1100034 0) = S 1100007 (S 1100025 (S 1100033 0)) := congrArg ((S 1100007)) h55_
        have e1671_ : S 1100023 (g246 57 (S 1092 0 - 1)) = S 1100023 (S 1100033 0 + 1) := congrArg ((S 1100023)) (la_stepOther_30 h47_ h1640_)
        have e1672_ : S 26 (S 1100034 0) = S 26 (S 1100025 (S 1100033 0)) := congrArg ((S 26)) h55_
        have e1673_ : S 63 (400 * (S 1092 0 - 1) + S 58 (S 1092 0 - 1) - 1 - 0) = S 63 (400 * (S 1092 0 - 1) + (S 58 (S 1092 0 - 1) - 1)) := congrArg ((S 63)) la_stepOther_50
        have e1674_ : S 64 (400 * (S 1092 0 - 1) + S 58 (S 1092 0 - 1) - 1 - 0) = S 64 (400 * (S 1092 0 - 1) + (S 58 (S 1092 0 - 1) - 1)) := congrArg ((S 64)) la_stepOther_50
        have e1675_ : sm_dp (S 1100024) (S 1100023 (g246 57 (S 1092 0 - 1))) = sm_dp (S 1100024) (S 1100023 (S 1100033 0)) := congrArg ((sm_dp (S 1100024))) (la_stepOther_13 h1532_ e1671_)
        obtain ⟨h1676_, ⟨h1677_, h1678_⟩⟩ := ((sm_VO_e h1547_).2.2.2 (la_stepOther_203 h1517_ (sm_VO_e h1547_).2.1 h1633_ e1673_))
        exact (la_stepOther_32 h41_ e1675_)
      refine ⟨?_, ?_⟩
      · skip
        have h1679_ := (h1549_ (S 1092 0 - 1))
        have h1680_ := (h1637_ (S 1092 0 - 1))
        have h1681_ := (h1638_ (400 * (S 1092 0 - 1) + (S 58 (S 1092 0 - 1) - 1)))
        have h1682_ := (h1638_ (400 * (S 1092 0 - 1) + g215 58 (S 1092 0 - 1)))
        have h1683_ := (h1638_ (400 * (S 1092 0 - 1) + S 58 (S 1092 0 - 1) - 1 - 0))
        have h1684_ := (h1639_ (400 * (S 1092 0 - 1) + (S 58 (S 1092 0 - 1) - 1)))
        have h1685_ := (h1639_ (400 * (S 1092 0 - 1) + g215 58 (S 1092 0 - 1)))
        have h1686_ := (h1639_ (400 * (S 1092 0 - 1) + S 58 (S 1092 0 - 1) - 1 - 0))
        have h1687_ := (h1641_ (S 1092 0 - 1))
        have e1688_ : S 1100007 (S 1100034 0) = S 1100007 (S 1100025 (S 1100033 0)) := congrArg ((S 1100007)) h55_
        have e1689_ : S 1100023 (g246 57 (S 1092 0 - 1)) = S 1100023 (S 1100033 0 + 1) := congrArg ((S 1100023)) (la_stepOther_30 h47_ h1640_)
        have e1690_ : S 26 (S 1100034 0) = S 26 (S 1100025 (S 1100033 0)) := congrArg ((S 26)) h55_
        have e1691_ : S 63 (400 * (S 1092 0 - 1) + S 58 (S 1092 0 - 1) - 1 - 0) = S 63 (400 * (S 1092 0 - 1) + (S 58 (S 1092 0 - 1) - 1)) := congrArg ((S 63)) la_stepOther_50
        have e1692_ : S 64 (400 * (S 1092 0 - 1) + S 58 (S 1092 0 - 1) - 1 - 0) = S 64 (400 * (S 1092 0 - 1) + (S 58 (S 1092 0 - 1) - 1)) := congrArg ((S 64)) la_stepOther_50
        obtain ⟨h1693_, ⟨h1694_, h1695_⟩⟩ := ((sm_VO_e h1547_).2.2.2 (la_stepOther_203 h1517_ (sm_VO_e h1547_).2.1 h1633_ e1691_))
        exact (sm_TC_t h42_ (la_stepOther_33 h1532_ e1689_))
      refine ⟨h43_, ?_⟩
      refine ⟨h44_, ?_⟩
      refine ⟨h45_, ?_⟩
      refine ⟨(sm_FL_F h46_ sm_F1_rf sm_F1_rf sm_F1_rf sm_F1_rf (sm_F1_le (sm_F1_ne h1641_ (Int.le_refl _)) (Int.le_refl _)) (sm_F1_tr (sm_F1_le (sm_F1_ne h1549_ (Int.le_refl _)) (Int.le_refl _)) (sm_F1_ne h1637_ (Int.le_refl _)) (Int.le_refl _)) sm_F1_rf sm_F1_rf sm_F1_rf sm_F1_rf (sm_F1_le (sm_F1_ne h1638_ (Int.le_refl _)) (la_stepOther_193 h1520_ h1548_)) (sm_F1_le (sm_F1_ne h1639_ (Int.le_refl _)) (la_stepOther_193 h1520_ h1548_)) (Int.le_refl _) (Int.le_refl _) sm_F1_rf sm_F1_rf (sm_FL_dp h46_ h23_)), ?_⟩
      refine ⟨?_, ?_⟩
      · skip
        have h1696_ := (h1549_ (S 1092 0 - 1))
        have h1697_ := (h1637_ (S 1092 0 - 1))
        have h1698_ := (h1638_ (400 * (S 1092 0 - 1) + (S 58 (S 1092 0 - 1) - 1)))
        have h1699_ := (h1638_ (400 * (S 1092 0 - 1) + g215 58 (S 1092 0 - 1)))
        have h1700_ := (h1638_ (400 * (S 1092 0 - 1) + S 58 (S 1092 0 - 1) - 1 - 0))
        have h1701_ := (h1639_ (400 * (S 1092 0 - 1) + (S 58 (S 1092 0 - 1) - 1)))
        have h1702_ := (h1639_ (400 * (S 1092 0 - 1) + g215 58 (S 1092 0 - 1)))
        have h1703_ := (h1639_ (400 * (S 1092 0 - 1) + S 58 (S 1092 0 - 1) - 1 - 0))
        have h1704_ := (h1641_ (S 1092 0 - 1))
        have e1705_ : S 1100007 (S 1100034 0) = S 1100007 (S 1100025 (S 1100033 0)) := congrArg ((S 1100007)) h55_
        have e1706_ : S 1100007 (g246 57 (S 1092 0 - 1)) = S 1100007 (S 1100033 0 + 1) := congrArg ((S 1100007)) (la_stepOther_30 h47_ h1640_)
        have e1707_ : S 26 (S 1100034 0) = S 26 (S 1100025 (S 1100033 0)) := congrArg ((S 26)) h55_
        have e1708_ : S 63 (400 * (S 1092 0 - 1) + S 58 (S 1092 0 - 1) - 1 - 0) = S 63 (400 * (S 1092 0 - 1) + (S 58 (S 1092 0 - 1) - 1)) := congrArg ((S 63)) la_stepOther_50
        have e1709_ : S 64 (400 * (S 1092 0 - 1) + S 58 (S 1092 0 - 1) - 1 - 0) = S 64 (400 * (S 1092 0 - 1) + (S 58 (S 1092 0 - 1) - 1)) := congrArg ((S 64)) la_stepOther_50
        obtain ⟨h1710_, ⟨h1711_, h1712_⟩⟩ := ((sm_VO_e h1547_).2.2.2 (la_stepOther_203 h1517_ (sm_VO_e h1547_).2.1 h1633_ e1708_))
        exact (la_stepOther_194 h54_ h1531_ h1548_ h1634_ e1706_)
      have h1713_ := (h1549_ (S 1092 0 - 1))
      have h1714_ := (h1637_ (S 1092 0 - 1))
      have h1715_ := (h1638_ (400 * (S 1092 0 - 1) + (S 58 (S 1092 0 - 1) - 1)))
      have h1716_ := (h1638_ (400 * (S 1092 0 - 1) + g215 58 (S 1092 0 - 1)))
      have h1717_ := (h1638_ (400 * (S 1092 0 - 1) + S 58 (S 1092 0 - 1) - 1 - 0))
      have h1718_ := (h1639_ (400 * (S 1092 0 - 1) + (S 58 (S 1092 0 - 1) - 1)))
      have h1719_ := (h1639_ (400 * (S 1092 0 - 1) + g215 58 (S 1092 0 - 1)))
      have h1720_ := (h1639_ (400 * (S 1092 0 - 1) + S 58 (S 1092 0 - 1) - 1 - 0))
      have h1721_ := (h1641_ (S 1092 0 - 1))
      have e1722_ : S 1100007 (S 1100034 0) = S 1100007 (S 1100025 (S 1100033 0)) := congrArg ((S 1100007)) h55_
      have e1723_ : S 1100025 (g246 57 (S 1092 0 - 1)) = S 1100025 (S 1100033 0 + 1) := congrArg ((S 1100025)) (la_stepOther_30 h47_ h1640_)
      have e1724_ : S 26 (S 1100034 0) = S 26 (S 1100025 (S 1100033 0)) := congrArg ((S 26)) h55_
      have e1725_ : S 63 (400 * (S 1092 0 - 1) + S 58 (S 1092 0 - 1) - 1 - 0) = S 63 (400 * (S 1092 0 - 1) + (S 58 (S 1092 0 - 1) - 1)) := congrArg ((S 63)) la_stepOther_50
      have e1726_ : S 64 (400 * (S 1092 0 - 1) + S 58 (S 1092 0 - 1) - 1 - 0) = S 64 (400 * (S 1092 0 - 1) + (S 58 (S 1092 0 - 1) - 1)) := congrArg ((S 64)) la_stepOther_50
      obtain ⟨h1727_, ⟨h1728_, h1729_⟩⟩ := ((sm_VO_e h1547_).2.2.2 (la_stepOther_203 h1517_ (sm_VO_e h1547_).2.1 h1633_ e1725_))
      exact (sm_SK_q (sm_SK_q (sm_SK_names (sm_SK_F (sm_SK_pop h50_ la_stepOther_196) (sm_F1_le (sm_F1_ne h1638_ (Int.le_refl _)) (la_stepOther_197 h1548_)) (sm_F1_le (sm_F1_ne h1639_ (Int.le_refl _)) (la_stepOther_197 h1548_)) (Int.le_refl _) (Int.le_refl _)) h24_ h36_ h37_ (la_stepOther_185 h60_ h1515_) (la_stepOther_161 h55_) (la_stepOther_201 h54_) rfl ⟨(((congrArg (g240 63) (la_stepOther_198 h1548_)).trans h1635_)).trans la_stepOther_199, by rw [((congrArg (g240 64) (la_stepOther_198 h1548_)).trans h1636_)]; exact (la_stepOther_204 h1518_ e1726_ h1727_ h1728_).1, by rw [((congrArg (g240 64) (la_stepOther_198 h1548_)).trans h1636_)]; exact (la_stepOther_204 h1518_ e1726_ h1727_ h1728_).2⟩ rfl) rfl (la_stepOther_195 h1548_ h1634_) rfl) (la_stepOther_13 h1533_ e1723_) rfl rfl)
    refine ⟨la_stepOther_205, ?_⟩
    intro h1730_
    have h1731_ := (h62_.resolve_left h1730_)
    refine ⟨la_stepOther_206, ?_⟩
    intro h1732_
    have h1733_ := (h1731_.resolve_left h1732_)
    refine ⟨(la_stepOther_207 h34_ h35_ h48_ h57_ h1732_ h1733_), ?_⟩
    intro h1734_
    exact (la_stepOther_213 h1734_)
  intro h1735_
  intro h1736_
  refine ⟨la_stepOther_205, ?_⟩
  intro h1737_
  have h1738_ := (h62_.resolve_left h1737_)
  refine ⟨la_stepOther_206, ?_⟩
  intro h1739_
  have h1740_ := (h1738_.resolve_left h1739_)
  refine ⟨(la_stepOther_207 h34_ h35_ h48_ h57_ h1739_ h1740_), ?_⟩
  intro h1741_
  exact (la_stepOther_213 h1741_)
set_option maxRecDepth 8000 in
set_option maxHeartbeats 2000000 in
theorem t_stepOther : ∀ (p1 : Int) (p2 : Int) (S : sv_S), sm_ok S → sv_R p1 → sv_R p2 → ((S 1075 0) = 0 ∧ (S 1073 0) = 1 ∧ sm_PL (S 1100020) (S 51) (S 52) (S 46) (S 47) (S 1076 0) (S 1086 0) ∧ sm_FR (S 1100020) (S 52) (S 1100021) (S 1100022) (3000 - (S 1084 0)) (S 1085 0) ∧ sm_PV (S 1100020) (S 48) (S 49) (S 50) (S 44) (S 1076 0) (S 1007 0) ∧ sm_AL (S 1100020) (S 48) (S 49) (S 50) (S 44) (S 1076 0) (S 1100032 0) ∧ sm_SV (S 1100020) (S 48) (S 1100029) (S 32) (S 33) (S 1076 0) (S 1032 0) ∧ 0 ≤ (S 1076 0) ∧ (S 1076 0) ≤ 300 ∧ 0 ≤ (S 1084 0) ∧ (S 1084 0) ≤ 3000 ∧ 0 ≤ (S 1086 0) ∧ sm_SC (S 1100029) (S 44) (S 45) (S 43) (S 21) (S 1076 0) (S 1032 0) ∧ sm_PO (S 42) (S 1076 0) ∧ (S 1100032 0) = -1 ∧ 23 ≤ (S 1076 0) ∧ 31 ≤ (S 1007 0) ∧ (S 1007 0) ≤ 400 ∧ sm_LN (S 4) 400 ∧ sm_CT (S 26) (S 27) (S 28) (S 29) (S 1100007) (S 1100023) (S 1100024) (S 1100025) (S 21) (S 1046 0) (S 1032 0) (S 1008 0) (S 1055 0) ∧ sm_LS (S 26) (S 1100007) (S 1100025) (S 1046 0) ∧ sm_CL (S 1100007) (S 1100023) (S 1100025) (S 1046 0) ∧ 1 ≤ (S 1032 0) ∧ (S 1032 0) ≤ 11 ∧ 0 ≤ (S 1046 0) ∧ (S 1046 0) ≤ 600 ∧ 31 ≤ (S 1008 0) ∧ (S 1008 0) ≤ (S 1007 0) ∧ 0 ≤ (S 1055 0) ∧ (S 1055 0) ≤ 19 ∧ 1 ≤ (S 1092 0) ∧ (S 1092 0) ≤ 24 ∧ 0 ≤ (S 1100033 0) ∧ (S 1100033 0) < (S 1046 0) ∧ (S 29 (S 1100033 0)) = (S 53 ((S 1092 0) - 1)) ∧ 0 ≤ (S 53 ((S 1092 0) - 1)) ∧ (S 53 ((S 1092 0) - 1)) < (S 1032 0) ∧ (S 60 ((S 1092 0) - 1)) = sm_dp (S 1100024) (S 1100023 (S 1100033 0)) ∧ sm_TC (S 61) (S 62) (S 27) (S 1100007) (S 1100023) (S 1100024) (40 * ((S 1092 0) - 1)) (S 1100023 (S 1100033 0)) ∧ sm_LK (S 1100029) (S 1076 0) (S 54 ((S 1092 0) - 1)) (S 53 ((S 1092 0) - 1)) ∧ sm_VO (S 44) (S 1076 0) (S 1007 0) ((S 55 ((S 1092 0) - 1))) ((S 56 ((S 1092 0) - 1))) ∧ sm_FW (S 44) (S 1076 0) (S 59 ((S 1092 0) - 1)) ∧ sm_FL (S 53) (S 54) (S 55) (S 56) (S 57) (S 58) (S 59) (S 60) (S 61) (S 62) (S 63) (S 64) (S 27) (S 29) (S 1100007) (S 1100023) (S 1100024) (S 1100025) (S 26) (S 1100029) (S 44) (S 1046 0) (S 1032 0) (S 1076 0) (S 1007 0) (((S 1092 0) - 1)) ∧ (S 57 ((S 1092 0) - 1)) = (S 1100033 0) ∧ 0 ≤ (S 58 ((S 1092 0) - 1)) ∧ (S 58 ((S 1092 0) - 1)) ≤ 400 ∧ sm_SK (S 63) (S 64) (S 44) (S 1100007) (S 1100025) (S 1076 0) (S 1007 0) (400 * ((S 1092 0) - 1)) ((S 58 ((S 1092 0) - 1))) ((S 1100034 0)) ∧ -1 ≤ (S 1100034 0) ∧ (S 1100034 0) < (S 1046 0) ∧ (0 ≤ (S 1100034 0) → (S 26 (S 1100034 0)) = 29) ∧ (S 58 ((S 1092 0) - 1)) = (S 1100007 (S 1100033 0)) ∧ (S 1100034 0) = (S 1100025 (S 1100033 0)) ∧ (0 ≤ (S 1100023 (S 1100033 0)) → (S 1100007 (S 1100023 (S 1100033 0))) ≤ (S 58 ((S 1092 0) - 1))) ∧ (S 58 ((S 1092 0) - 1)) ≤ 396 ∧ 17 ≤ p1 ∧ p1 ≤ 30 ∧ p1 = (S 26 (S 1100033 0)) ∧ p2 = (S 27 (S 1100033 0)) ∧ (p1 = 21 ∨ p1 = 27 ∨ p1 = 28 ∨ 1 ≤ (S 58 ((S 1092 0) - 1)))) → sv_T sm_XS sm_cs sm_L sm_sh 3 (q_stepOther p1 p2 S) 161 0 (lv_args 0 [.ref 0, sv_I p1, sv_I p2]) [] S := by
  intro p1 p2 S hok hp1 hp2 hpre
  have h := f_stepOther p1 p2 S hok hp1 hp2 hpre
  have hM := sm_h161
  show sv_T sm_XS sm_cs sm_L sm_sh 3 (q_stepOther p1 p2 S) 161 0 [(0, .ref 0), (1, sv_I p1), (2, sv_I p2)] [] S
  have k1 : (sm_CT (S 26) (S 27) (S 28) (S 29) (S 1100007) (S 1100023) (S 1100024) (S 1100025) (S 21) (S 1046 0) (S 1032 0) (S 1008 0) (S 1055 0) → 0 ≤ (S 1100033 0) → (S 1100033 0) < (S 1046 0) → (0 ≤ (S 1100025 (S 1100033 0)) → (S 26 (S 1100025 (S 1100033 0))) = 29 ∧ (S 1100007 (S 1100025 (S 1100033 0))) ≤ (S 1100007 (S 1100033 0))) ∧ (0 ≤ (S 1100007 (S 1100033 0)) ∧ (S 1100007 (S 1100033 0)) ≤ 396 ∧ -1 ≤ (S 1100023 (S 1100033 0)) ∧ (S 1100023 (S 1100033 0)) < (S 1100033 0) ∧ -1 ≤ (S 1100025 (S 1100033 0)) ∧ (S 1100025 (S 1100033 0)) < (S 1100033 0) ∧ 0 ≤ (S 26 (S 1100033 0)) ∧ (S 26 (S 1100033 0)) ≤ 30)) := fun h a b => by have q := sm_ct_0 h _ a b; have w := sm_ct_3 h _ a b; exact ⟨fun z => ⟨(w z).1, (w z).2.2.1⟩, by omega⟩
  have h := h k1
  have k2 : ((S 1100034 0) = (S 1100025 (S 1100033 0)) → (S 58 ((S 1092 0) - 1)) = (S 1100007 (S 1100033 0)) → (0 ≤ (S 1100025 (S 1100033 0)) → (S 1100007 (S 1100025 (S 1100033 0))) ≤ (S 1100007 (S 1100033 0))) → (0 ≤ (S 1100034 0) → (S 1100007 (S 1100034 0)) ≤ (S 58 ((S 1092 0) - 1)))) := fun q f j z => by rw [q] at z ⊢; have := j z; omega
  have h := h k2
  have J253 : ∀ s3 : Int, sv_R s3 → ((p1 = 21 ∨ p1 = 27 ∨ p1 = 28) ∨ s3 = (S 63 ((400 * ((S 1092 0) - 1) + (S 58 ((S 1092 0) - 1))) - 1 - 0))) → sv_T sm_XS sm_cs sm_L sm_sh 3 (q_stepOther p1 p2 S) 161 27 [(0, .ref 0), (1, sv_I p1), (2, sv_I p2)] [sv_I s3] S := by
    intro s3 hs3 hin4
    have h := h.1 s3 hs3 hin4
    refine sv_istore_n hM dX12_stepOther_27 (by decide) rfl ?_
    show sv_T sm_XS sm_cs sm_L sm_sh 3 (q_stepOther p1 p2 S) 161 28 [(0, .ref 0), (1, sv_I p1), (2, sv_I p2), (3, sv_I s3)] [] S
    have J251 : ∀ s5 : Int, sv_R s5 → ((p1 = 21 ∨ p1 = 27 ∨ p1 = 28) ∨ s5 = (S 64 ((400 * ((S 1092 0) - 1) + (S 58 ((S 1092 0) - 1))) - 1 - 0))) → sv_T sm_XS sm_cs sm_L sm_sh 3 (q_stepOther p1 p2 S) 161 55 [(0, .ref 0), (1, sv_I p1), (2, sv_I p2), (3, sv_I s3)] [sv_I s5] S := by
      intro s5 hs5 hin6
      have h := h.1 s5 hs5 hin6
      refine sv_istore hM dX12_stepOther_55 (by decide) rfl ?_
      show sv_T sm_XS sm_cs sm_L sm_sh 3 (q_stepOther p1 p2 S) 161 57 [(0, .ref 0), (1, sv_I p1), (2, sv_I p2), (3, sv_I s3), (4, sv_I s5)] [] S
      refine sv_aload_n hM dX12_stepOther_57 rfl rfl ?_
      have k7 : sv_R (S 1092 0) := sm_okI hok sm_r1092 0
      have h := h k7
      refine sv_getI hM dX12_stepOther_58 sm_fl_872 (sm_a0 _) sm_k92 rfl (x := (S 1092 0)) rfl ?_
      refine sv_iconst (d := (1 : Int)) hM dX12_stepOther_61 rfl rfl ?_
      refine sv_isub hM dX12_stepOther_62 rfl ?_
      refine sv_istore hM dX12_stepOther_63 (by decide) rfl ?_
      show sv_T sm_XS sm_cs sm_L sm_sh 3 (q_stepOther p1 p2 S) 161 65 [(0, .ref 0), (1, sv_I p1), (2, sv_I p2), (3, sv_I s3), (4, sv_I s5), (5, sv_I ((S 1092 0) - (1 : Int)))] [] S
      refine sv_iload_n hM dX12_stepOther_65 rfl rfl ?_
      have hS := h
      have J0 : (p1 < (17 : Int) ∨ (29 : Int) < p1) → sv_T sm_XS sm_cs sm_L sm_sh 3 (q_stepOther p1 p2 S) 161 454 [(0, .ref 0), (1, sv_I p1), (2, sv_I p2), (3, sv_I s3), (4, sv_I s5), (5, sv_I ((S 1092 0) - (1 : Int)))] [] S := by
        intro hc
        have h := hS.1 hc
        have k8 : (sm_CT (S 26) (S 27) (S 28) (S 29) (S 1100007) (S 1100023) (S 1100024) (S 1100025) (S 21) (S 1046 0) (S 1032 0) (S 1008 0) (S 1055 0) → 0 ≤ (S 1100033 0) → (S 1100033 0) < (S 1046 0) → ((S 26 (S 1100033 0)) = 30 → 0 ≤ (S 1100025 (S 1100033 0)) ∧ (S 1100007 ((S 1100025 (S 1100033 0)))) = (S 1100007 (S 1100033 0)) ∧ 1 ≤ (S 1100007 (S 1100033 0)) ∧ (0 ≤ (S 1100023 (S 1100033 0)) → (S 1100007 ((S 1100023 (S 1100033 0)))) ≤ (S 1100007 (S 1100033 0)) - 1) ∧ (0 ≤ ((S 1100033 0) + 1) ∧ ((S 1100033 0) + 1) < (S 1046 0) ∧ (S 29 ((S 1100033 0) + 1)) = ((S 29 (S 1100033 0))) ∧ (S 1100007 ((S 1100033 0) + 1)) = ((S 1100007 (S 1100033 0)) + 1) ∧ (S 1100023 ((S 1100033 0) + 1)) = ((S 1100023 (S 1100033 0))) ∧ (S 1100025 ((S 1100033 0) + 1)) = ((S 1100025 (S 1100033 0)))) ∧ (0 ≤ ((S 27 (S 1100033 0))) ∧ ((S 27 (S 1100033 0))) < (S 1046 0) ∧ (S 29 ((S 27 (S 1100033 0)))) = ((S 29 (S 1100033 0))) ∧ (S 1100007 ((S 27 (S 1100033 0)))) = ((S 1100007 (S 1100033 0)) - 1) ∧ (S 1100023 ((S 27 (S 1100033 0)))) = ((S 1100023 (S 1100033 0))) ∧ (S 1100025 ((S 27 (S 1100033 0)))) = ((S 1100025 ((S 1100025 (S 1100033 0)))))))) := fun h h0 h1 => sm_ct_27 h _ h0 h1
        have h := h k8
        have k9 : (sm_SK (S 63) (S 64) (S 44) (S 1100007) (S 1100025) (S 1076 0) (S 1007 0) (400 * ((S 1092 0) - 1)) ((S 58 ((S 1092 0) - 1))) ((S 1100034 0)) → sm_LS (S 26) (S 1100007) (S 1100025) (S 1046 0) → 0 ≤ (S 1100034 0) → (S 1100034 0) < (S 1046 0) → (S 26 (S 1100034 0)) = 29 → (S 1100007 (S 1100034 0)) = (S 58 ((S 1092 0) - 1)) → (S 63 (400 * ((S 1092 0) - 1) + (S 58 ((S 1092 0) - 1)) - 1)) = 8 ∧ -1 ≤ (S 64 (400 * ((S 1092 0) - 1) + (S 58 ((S 1092 0) - 1)) - 1)) ∧ (S 64 (400 * ((S 1092 0) - 1) + (S 58 ((S 1092 0) - 1)) - 1)) < (S 1076 0)) := fun h l a b e g => sm_SK_list h l a b e g
        have h := h k9
        have k10 : (sm_CT (S 26) (S 27) (S 28) (S 29) (S 1100007) (S 1100023) (S 1100024) (S 1100025) (S 21) (S 1046 0) (S 1032 0) (S 1008 0) (S 1055 0) → 0 ≤ (S 1100033 0) → (S 1100033 0) < (S 1046 0) → (0 ≤ (S 1100025 (S 1100033 0)) → (S 26 ((S 1100025 (S 1100033 0)))) = 29 ∧ (S 29 ((S 1100025 (S 1100033 0)))) = (S 29 (S 1100033 0)) ∧ (S 1100007 ((S 1100025 (S 1100033 0)))) ≤ (S 1100007 (S 1100033 0)) ∧ 1 ≤ (S 1100007 ((S 1100025 (S 1100033 0)))))) := fun h h0 h1 => sm_ct_3 h _ h0 h1
        have h := h k10
        refine sv_aload_n hM dX12_stepOther_454 rfl rfl ?_
        refine sv_iload_n hM dX12_stepOther_455 rfl rfl ?_
        obtain ⟨o11, h⟩ := h
        refine sv_callV hM dX12_stepOther_456 sm_iv_960 (by decide) (sm_a0 _) rfl rfl (Nat.le_of_ble_eq_true rfl) sm_h164 (Nat.le_of_ble_eq_true rfl) (Nat.le_of_ble_eq_true rfl) (F' := 2) (Nat.le_of_ble_eq_true rfl) rfl (t_goNext p2 S hok hp2 o11) (fun v S1 hq => ?_)
        obtain ⟨rfl, ok13, md14, hpo15⟩ := hq
        obtain ⟨g12, rfl⟩ : ∃ g, S1 = sv_sts S [58, 57, 63, 64, 65] g := ⟨_, md14.eq⟩
        show sv_T sm_XS sm_cs sm_L sm_sh 3 (q_stepOther p1 p2 S) 161 459 [(0, .ref 0), (1, sv_I p1), (2, sv_I p2), (3, sv_I s3), (4, sv_I s5), (5, sv_I ((S 1092 0) - (1 : Int)))] [] (sv_sts S [58, 57, 63, 64, 65] g12)
        have md16 : sv_mod [1092, 60, 58, 57, 63, 64, 1073, 1109, 1110, 65, 66, 61, 62] S (sv_sts S [58, 57, 63, 64, 65] g12) := sv_mod.sts sv_mod.rf (by decide)
        have h := h g12 hpo15
        exact sv_vret hM dX12_stepOther_459 rfl ⟨rfl, ok13, md16, h⟩
      have J1 : (p1 = (17 : Int)) → sv_T sm_XS sm_cs sm_L sm_sh 3 (q_stepOther p1 p2 S) 161 132 [(0, .ref 0), (1, sv_I p1), (2, sv_I p2), (3, sv_I s3), (4, sv_I s5), (5, sv_I ((S 1092 0) - (1 : Int)))] [] S := by
        intro hc
        have h := hS.2.1 hc
        have k17 : (sm_CT (S 26) (S 27) (S 28) (S 29) (S 1100007) (S 1100023) (S 1100024) (S 1100025) (S 21) (S 1046 0) (S 1032 0) (S 1008 0) (S 1055 0) → sm_LS (S 26) (S 1100007) (S 1100025) (S 1046 0) → sm_SK (S 63) (S 64) (S 44) (S 1100007) (S 1100025) (S 1076 0) (S 1007 0) (400 * ((S 1092 0) - 1)) ((S 58 ((S 1092 0) - 1))) ((S 1100034 0)) → 0 ≤ (S 1100033 0) → (S 1100033 0) < (S 1046 0) → (S 26 (S 1100033 0)) = 17 → (S 1100034 0) = (S 1100025 (S 1100033 0)) → (S 58 ((S 1092 0) - 1)) = (S 1100007 (S 1100033 0)) → sm_SK (S 63) (S 64) (S 44) (S 1100007) (S 1100025) (S 1076 0) (S 1007 0) (400 * ((S 1092 0) - 1)) ((S 58 ((S 1092 0) - 1)) - 1) ((S 1100025 ((S 1100033 0) + 1))) ∧ (S 1100033 0) + 1 < (S 1046 0) ∧ (S 29 ((S 1100033 0) + 1)) = (S 29 (S 1100033 0)) ∧ (S 1100007 ((S 1100033 0) + 1)) = (S 1100007 (S 1100033 0)) - 1 ∧ (S 1100023 ((S 1100033 0) + 1)) = (S 1100023 (S 1100033 0)) ∧ 1 ≤ (S 1100007 (S 1100033 0)) ∧ -1 ≤ (S 1100025 ((S 1100033 0) + 1))) := fun c l w a b d e f => sm_SK_d17 c l w a b d e f
        have h := h k17
        refine sv_aload_n hM dX12_stepOther_132 rfl rfl ?_
        refine sv_iconst (d := (1 : Int)) hM dX12_stepOther_133 rfl rfl ?_
        obtain ⟨o18, h⟩ := h
        refine sv_callV hM dX12_stepOther_134 sm_iv_882 (by decide) (sm_a0 _) rfl rfl (Nat.le_of_ble_eq_true rfl) sm_h153 (Nat.le_of_ble_eq_true rfl) (Nat.le_of_ble_eq_true rfl) (F' := 0) (Nat.le_of_ble_eq_true rfl) rfl (t_drop (1 : Int) S hok (⟨by decide, by decide⟩ : sv_R (1 : Int)) o18) (fun v S1 hq => ?_)
        obtain ⟨rfl, ok20, md21, hpo22⟩ := hq
        obtain ⟨g19, rfl⟩ : ∃ g, S1 = sv_sts S [58] g := ⟨_, md21.eq⟩
        show sv_T sm_XS sm_cs sm_L sm_sh 3 (q_stepOther p1 p2 S) 161 137 [(0, .ref 0), (1, sv_I p1), (2, sv_I p2), (3, sv_I s3), (4, sv_I s5), (5, sv_I ((S 1092 0) - (1 : Int)))] [] (sv_sts S [58] g19)
        have md23 : sv_mod [1092, 60, 58, 57, 63, 64, 1073, 1109, 1110, 65, 66, 61, 62] S (sv_sts S [58] g19) := sv_mod.sts sv_mod.rf (by decide)
        have h := h g19 hpo22
        refine sv_aload_n hM dX12_stepOther_137 rfl rfl ?_
        obtain ⟨o24, h⟩ := h
        refine sv_callV hM dX12_stepOther_138 sm_iv_888 (by decide) (sm_a0 _) rfl rfl (Nat.le_of_ble_eq_true rfl) sm_h154 (Nat.le_of_ble_eq_true rfl) (Nat.le_of_ble_eq_true rfl) (F' := 0) (Nat.le_of_ble_eq_true rfl) rfl (t_goOn  (sv_sts S [58] g19) ok20 o24) (fun v S1 hq => ?_)
        obtain ⟨rfl, ok26, md27, hpo28⟩ := hq
        obtain ⟨g25, rfl⟩ : ∃ g, S1 = sv_sts (sv_sts S [58] g19) [57] g := ⟨_, md27.eq⟩
        show sv_T sm_XS sm_cs sm_L sm_sh 3 (q_stepOther p1 p2 S) 161 141 [(0, .ref 0), (1, sv_I p1), (2, sv_I p2), (3, sv_I s3), (4, sv_I s5), (5, sv_I ((S 1092 0) - (1 : Int)))] [] (sv_sts (sv_sts S [58] g19) [57] g25)
        have md29 : sv_mod [1092, 60, 58, 57, 63, 64, 1073, 1109, 1110, 65, 66, 61, 62] S (sv_sts (sv_sts S [58] g19) [57] g25) := sv_mod.sts md23 (by decide)
        have h := h g25 hpo28
        refine sv_goto hM dX12_stepOther_141 (pc' := 459) rfl ?_
        exact sv_vret hM dX12_stepOther_459 rfl ⟨rfl, ok26, md29, h⟩
      have J2 : (p1 = (18 : Int)) → sv_T sm_XS sm_cs sm_L sm_sh 3 (q_stepOther p1 p2 S) 161 144 [(0, .ref 0), (1, sv_I p1), (2, sv_I p2), (3, sv_I s3), (4, sv_I s5), (5, sv_I ((S 1092 0) - (1 : Int)))] [] S := by
        intro hc
        have h := hS.2.2.1 hc
        have k30 : (sm_CT (S 26) (S 27) (S 28) (S 29) (S 1100007) (S 1100023) (S 1100024) (S 1100025) (S 21) (S 1046 0) (S 1032 0) (S 1008 0) (S 1055 0) → 0 ≤ (S 1100033 0) → (S 1100033 0) < (S 1046 0) → ((S 26 (S 1100033 0)) = 18 → (0 ≤ ((S 1100007 (S 1100033 0)) - 1) ∧ (0 ≤ (S 1100023 (S 1100033 0)) → (S 1100007 (S 1100023 (S 1100033 0))) ≤ ((S 1100007 (S 1100033 0)) - 1)) ∧ (0 ≤ (S 1100025 (S 1100033 0)) → (S 1100007 (S 1100025 (S 1100033 0))) ≤ ((S 1100007 (S 1100033 0)) - 1))) ∧ (0 ≤ ((S 1100033 0) + 1) ∧ ((S 1100033 0) + 1) < (S 1046 0) ∧ (S 29 ((S 1100033 0) + 1)) = ((S 29 (S 1100033 0))) ∧ (S 1100007 ((S 1100033 0) + 1)) = ((S 1100007 (S 1100033 0)) + 1) ∧ (S 1100023 ((S 1100033 0) + 1)) = ((S 1100023 (S 1100033 0))) ∧ (S 1100025 ((S 1100033 0) + 1)) = ((S 1100025 (S 1100033 0)))))) := fun h h0 h1 => sm_ct_17 h _ h0 h1
        have h := h k30
        have k31 : ((S 1100034 0) = (S 1100025 (S 1100033 0)) → (S 58 ((S 1092 0) - 1)) = (S 1100007 (S 1100033 0)) → (0 ≤ (S 1100025 (S 1100033 0)) → (S 1100007 (S 1100025 (S 1100033 0))) ≤ (S 1100007 (S 1100033 0)) - 1) → (0 ≤ (S 1100034 0) → (S 1100007 (S 1100034 0)) ≤ (S 58 ((S 1092 0) - 1)) - 1)) := fun q f j z => by rw [q] at z ⊢; have := j z; omega
        have h := h k31
        have k32 : (sm_SK (S 63) (S 64) (S 44) (S 1100007) (S 1100025) (S 1076 0) (S 1007 0) (400 * ((S 1092 0) - 1)) ((S 58 ((S 1092 0) - 1))) ((S 1100034 0)) → sm_LS (S 26) (S 1100007) (S 1100025) (S 1046 0) → 0 ≤ (S 58 ((S 1092 0) - 1)) - 1 → (S 58 ((S 1092 0) - 1)) - 1 < (S 58 ((S 1092 0) - 1)) → (S 1100034 0) < (S 1046 0) → (S 1100034 0) = (S 1100025 (S 1100033 0)) → (S 58 ((S 1092 0) - 1)) = (S 1100007 (S 1100033 0)) → (0 ≤ (S 1100034 0) → (S 26 (S 1100034 0)) = 29) → (0 ≤ (S 1100025 (S 1100033 0)) → (S 1100007 (S 1100025 (S 1100033 0))) ≤ (S 1100007 (S 1100033 0)) - 1) → sm_VO (S 44) (S 1076 0) (S 1007 0) ((S 63 (400 * ((S 1092 0) - 1) + ((S 58 ((S 1092 0) - 1)) - 1)))) ((S 64 (400 * ((S 1092 0) - 1) + ((S 58 ((S 1092 0) - 1)) - 1))))) := fun h a b e g q f i j => sm_SK_at h a _ b e g (fun z => ⟨i z, by rw [q]; have := j (by omega); omega⟩)
        have h := h k32
        refine sv_aload_n hM dX12_stepOther_144 rfl rfl ?_
        refine sv_iload_n hM dX12_stepOther_145 rfl rfl ?_
        refine sv_iload hM dX12_stepOther_146 rfl rfl ?_
        obtain ⟨o33, h⟩ := h
        refine sv_callV hM dX12_stepOther_148 sm_iv_885 (by decide) (sm_a0 _) rfl rfl (Nat.le_of_ble_eq_true rfl) sm_h152 (Nat.le_of_ble_eq_true rfl) (Nat.le_of_ble_eq_true rfl) (F' := 1) (Nat.le_of_ble_eq_true rfl) rfl (t_push s3 s5 S hok hs3 hs5 o33) (fun v S1 hq => ?_)
        obtain ⟨rfl, ok35, md36, hpo37⟩ := hq
        obtain ⟨g34, rfl⟩ : ∃ g, S1 = sv_sts S [63, 64, 58] g := ⟨_, md36.eq⟩
        show sv_T sm_XS sm_cs sm_L sm_sh 3 (q_stepOther p1 p2 S) 161 151 [(0, .ref 0), (1, sv_I p1), (2, sv_I p2), (3, sv_I s3), (4, sv_I s5), (5, sv_I ((S 1092 0) - (1 : Int)))] [] (sv_sts S [63, 64, 58] g34)
        have md38 : sv_mod [1092, 60, 58, 57, 63, 64, 1073, 1109, 1110, 65, 66, 61, 62] S (sv_sts S [63, 64, 58] g34) := sv_mod.sts sv_mod.rf (by decide)
        have h := h g34 hpo37
        refine sv_aload_n hM dX12_stepOther_151 rfl rfl ?_
        obtain ⟨o39, h⟩ := h
        refine sv_callV hM dX12_stepOther_152 sm_iv_888 (by decide) (sm_a0 _) rfl rfl (Nat.le_of_ble_eq_true rfl) sm_h154 (Nat.le_of_ble_eq_true rfl) (Nat.le_of_ble_eq_true rfl) (F' := 0) (Nat.le_of_ble_eq_true rfl) rfl (t_goOn  (sv_sts S [63, 64, 58] g34) ok35 o39) (fun v S1 hq => ?_)
        obtain ⟨rfl, ok41, md42, hpo43⟩ := hq
        obtain ⟨g40, rfl⟩ : ∃ g, S1 = sv_sts (sv_sts S [63, 64, 58] g34) [57] g := ⟨_, md42.eq⟩
        show sv_T sm_XS sm_cs sm_L sm_sh 3 (q_stepOther p1 p2 S) 161 155 [(0, .ref 0), (1, sv_I p1), (2, sv_I p2), (3, sv_I s3), (4, sv_I s5), (5, sv_I ((S 1092 0) - (1 : Int)))] [] (sv_sts (sv_sts S [63, 64, 58] g34) [57] g40)
        have md44 : sv_mod [1092, 60, 58, 57, 63, 64, 1073, 1109, 1110, 65, 66, 61, 62] S (sv_sts (sv_sts S [63, 64, 58] g34) [57] g40) := sv_mod.sts md38 (by decide)
        have h := h g40 hpo43
        refine sv_goto hM dX12_stepOther_155 (pc' := 459) rfl ?_
        exact sv_vret hM dX12_stepOther_459 rfl ⟨rfl, ok41, md44, h⟩
      have J3 : (p1 = (19 : Int)) → sv_T sm_XS sm_cs sm_L sm_sh 3 (q_stepOther p1 p2 S) 161 158 [(0, .ref 0), (1, sv_I p1), (2, sv_I p2), (3, sv_I s3), (4, sv_I s5), (5, sv_I ((S 1092 0) - (1 : Int)))] [] S := by
        intro hc
        have h := hS.2.2.2.1 hc
        have k45 : (sm_CT (S 26) (S 27) (S 28) (S 29) (S 1100007) (S 1100023) (S 1100024) (S 1100025) (S 21) (S 1046 0) (S 1032 0) (S 1008 0) (S 1055 0) → 0 ≤ (S 1100033 0) → (S 1100033 0) < (S 1046 0) → ((S 26 (S 1100033 0)) = 19 → (0 ≤ ((S 1100007 (S 1100033 0)) - 2) ∧ (0 ≤ (S 1100023 (S 1100033 0)) → (S 1100007 (S 1100023 (S 1100033 0))) ≤ ((S 1100007 (S 1100033 0)) - 2)) ∧ (0 ≤ (S 1100025 (S 1100033 0)) → (S 1100007 (S 1100025 (S 1100033 0))) ≤ ((S 1100007 (S 1100033 0)) - 2))) ∧ (0 ≤ ((S 1100033 0) + 1) ∧ ((S 1100033 0) + 1) < (S 1046 0) ∧ (S 29 ((S 1100033 0) + 1)) = ((S 29 (S 1100033 0))) ∧ (S 1100007 ((S 1100033 0) + 1)) = ((S 1100007 (S 1100033 0)) + 2) ∧ (S 1100023 ((S 1100033 0) + 1)) = ((S 1100023 (S 1100033 0))) ∧ (S 1100025 ((S 1100033 0) + 1)) = ((S 1100025 (S 1100033 0)))))) := fun h h0 h1 => sm_ct_18 h _ h0 h1
        have h := h k45
        have k46 : ((S 1100034 0) = (S 1100025 (S 1100033 0)) → (S 58 ((S 1092 0) - 1)) = (S 1100007 (S 1100033 0)) → (0 ≤ (S 1100025 (S 1100033 0)) → (S 1100007 (S 1100025 (S 1100033 0))) ≤ (S 1100007 (S 1100033 0)) - 2) → (0 ≤ (S 1100034 0) → (S 1100007 (S 1100034 0)) ≤ (S 58 ((S 1092 0) - 1)) - 2)) := fun q f j z => by rw [q] at z ⊢; have := j z; omega
        have h := h k46
        have k47 : (sm_SK (S 63) (S 64) (S 44) (S 1100007) (S 1100025) (S 1076 0) (S 1007 0) (400 * ((S 1092 0) - 1)) ((S 58 ((S 1092 0) - 1))) ((S 1100034 0)) → sm_LS (S 26) (S 1100007) (S 1100025) (S 1046 0) → 0 ≤ (S 58 ((S 1092 0) - 1)) - 1 → (S 58 ((S 1092 0) - 1)) - 1 < (S 58 ((S 1092 0) - 1)) → (S 1100034 0) < (S 1046 0) → (S 1100034 0) = (S 1100025 (S 1100033 0)) → (S 58 ((S 1092 0) - 1)) = (S 1100007 (S 1100033 0)) → (0 ≤ (S 1100034 0) → (S 26 (S 1100034 0)) = 29) → (0 ≤ (S 1100025 (S 1100033 0)) → (S 1100007 (S 1100025 (S 1100033 0))) ≤ (S 1100007 (S 1100033 0)) - 2) → sm_VO (S 44) (S 1076 0) (S 1007 0) ((S 63 (400 * ((S 1092 0) - 1) + ((S 58 ((S 1092 0) - 1)) - 1)))) ((S 64 (400 * ((S 1092 0) - 1) + ((S 58 ((S 1092 0) - 1)) - 1))))) := fun h a b e g q f i j => sm_SK_at h a _ b e g (fun z => ⟨i z, by rw [q]; have := j (by omega); omega⟩)
        have h := h k47
        have k48 : (sm_SK (S 63) (S 64) (S 44) (S 1100007) (S 1100025) (S 1076 0) (S 1007 0) (400 * ((S 1092 0) - 1)) ((S 58 ((S 1092 0) - 1))) ((S 1100034 0)) → sm_LS (S 26) (S 1100007) (S 1100025) (S 1046 0) → 0 ≤ (S 58 ((S 1092 0) - 1)) - 2 → (S 58 ((S 1092 0) - 1)) - 2 < (S 58 ((S 1092 0) - 1)) → (S 1100034 0) < (S 1046 0) → (S 1100034 0) = (S 1100025 (S 1100033 0)) → (S 58 ((S 1092 0) - 1)) = (S 1100007 (S 1100033 0)) → (0 ≤ (S 1100034 0) → (S 26 (S 1100034 0)) = 29) → (0 ≤ (S 1100025 (S 1100033 0)) → (S 1100007 (S 1100025 (S 1100033 0))) ≤ (S 1100007 (S 1100033 0)) - 2) → sm_VO (S 44) (S 1076 0) (S 1007 0) ((S 63 (400 * ((S 1092 0) - 1) + ((S 58 ((S 1092 0) - 1)) - 2)))) ((S 64 (400 * ((S 1092 0) - 1) + ((S 58 ((S 1092 0) - 1)) - 2))))) := fun h a b e g q f i j => sm_SK_at h a _ b e g (fun z => ⟨i z, by rw [q]; have := j (by omega); omega⟩)
        have h := h k48
        refine sv_aload_n hM dX12_stepOther_158 rfl rfl ?_
        refine sv_iconst (d := (1 : Int)) hM dX12_stepOther_159 rfl rfl ?_
        obtain ⟨o49, h⟩ := h
        refine sv_callV hM dX12_stepOther_160 sm_iv_910 (by decide) (sm_a0 _) rfl rfl (Nat.le_of_ble_eq_true rfl) sm_h150 (Nat.le_of_ble_eq_true rfl) (Nat.le_of_ble_eq_true rfl) (F' := 1) (Nat.le_of_ble_eq_true rfl) rfl (t_sortAt (1 : Int) S hok (⟨by decide, by decide⟩ : sv_R (1 : Int)) o49) (fun v S1 hq => ?_)
        obtain ⟨rfl, hS1⟩ := hq
        obtain rfl : S = S1 := hS1.symm
        show sv_T sm_XS sm_cs sm_L sm_sh 3 (q_stepOther p1 p2 S) 161 163 [(0, .ref 0), (1, sv_I p1), (2, sv_I p2), (3, sv_I s3), (4, sv_I s5), (5, sv_I ((S 1092 0) - (1 : Int)))] [sv_I ((S 63 ((400 * ((S 1092 0) - 1) + (S 58 ((S 1092 0) - 1))) - 1 - (1 : Int))))] S
        obtain ⟨x50, e51⟩ : ∃ x : Int, ((S 63 ((400 * ((S 1092 0) - 1) + (S 58 ((S 1092 0) - 1))) - 1 - (1 : Int)))) = x := ⟨_, rfl⟩
        have h := h x50 e51
        have e51r : sv_R x50 := e51 ▸ (sm_okI hok sm_r63 _)
        refine sv_nameI e51 ?_
        refine sv_istore hM dX12_stepOther_163 (by decide) rfl ?_
        show sv_T sm_XS sm_cs sm_L sm_sh 3 (q_stepOther p1 p2 S) 161 165 [(0, .ref 0), (1, sv_I p1), (2, sv_I p2), (3, sv_I s3), (4, sv_I s5), (5, sv_I ((S 1092 0) - (1 : Int))), (6, sv_I x50)] [] S
        refine sv_aload_n hM dX12_stepOther_165 rfl rfl ?_
        refine sv_iconst (d := (1 : Int)) hM dX12_stepOther_166 rfl rfl ?_
        refine sv_callV hM dX12_stepOther_167 sm_iv_913 (by decide) (sm_a0 _) rfl rfl (Nat.le_of_ble_eq_true rfl) sm_h151 (Nat.le_of_ble_eq_true rfl) (Nat.le_of_ble_eq_true rfl) (F' := 1) (Nat.le_of_ble_eq_true rfl) rfl (t_valueAt (1 : Int) S hok (⟨by decide, by decide⟩ : sv_R (1 : Int)) o49) (fun v S1 hq => ?_)
        obtain ⟨rfl, hS1⟩ := hq
        obtain rfl : S = S1 := hS1.symm
        show sv_T sm_XS sm_cs sm_L sm_sh 3 (q_stepOther p1 p2 S) 161 170 [(0, .ref 0), (1, sv_I p1), (2, sv_I p2), (3, sv_I s3), (4, sv_I s5), (5, sv_I ((S 1092 0) - (1 : Int))), (6, sv_I x50)] [sv_I ((S 64 ((400 * ((S 1092 0) - 1) + (S 58 ((S 1092 0) - 1))) - 1 - (1 : Int))))] S
        obtain ⟨x52, e53⟩ : ∃ x : Int, ((S 64 ((400 * ((S 1092 0) - 1) + (S 58 ((S 1092 0) - 1))) - 1 - (1 : Int)))) = x := ⟨_, rfl⟩
        have h := h x52 e53
        have e53r : sv_R x52 := e53 ▸ (sm_okI hok sm_r64 _)
        refine sv_nameI e53 ?_
        refine sv_istore hM dX12_stepOther_170 (by decide) rfl ?_
        show sv_T sm_XS sm_cs sm_L sm_sh 3 (q_stepOther p1 p2 S) 161 172 [(0, .ref 0), (1, sv_I p1), (2, sv_I p2), (3, sv_I s3), (4, sv_I s5), (5, sv_I ((S 1092 0) - (1 : Int))), (6, sv_I x50), (7, sv_I x52)] [] S
        refine sv_aload_n hM dX12_stepOther_172 rfl rfl ?_
        refine sv_iload hM dX12_stepOther_173 rfl rfl ?_
        refine sv_iload hM dX12_stepOther_175 rfl rfl ?_
        obtain ⟨o54, h⟩ := h
        refine sv_callV hM dX12_stepOther_177 sm_iv_885 (by decide) (sm_a0 _) rfl rfl (Nat.le_of_ble_eq_true rfl) sm_h152 (Nat.le_of_ble_eq_true rfl) (Nat.le_of_ble_eq_true rfl) (F' := 1) (Nat.le_of_ble_eq_true rfl) rfl (t_push x50 x52 S hok e51r e53r o54) (fun v S1 hq => ?_)
        obtain ⟨rfl, ok56, md57, hpo58⟩ := hq
        obtain ⟨g55, rfl⟩ : ∃ g, S1 = sv_sts S [63, 64, 58] g := ⟨_, md57.eq⟩
        show sv_T sm_XS sm_cs sm_L sm_sh 3 (q_stepOther p1 p2 S) 161 180 [(0, .ref 0), (1, sv_I p1), (2, sv_I p2), (3, sv_I s3), (4, sv_I s5), (5, sv_I ((S 1092 0) - (1 : Int))), (6, sv_I x50), (7, sv_I x52)] [] (sv_sts S [63, 64, 58] g55)
        have md59 : sv_mod [1092, 60, 58, 57, 63, 64, 1073, 1109, 1110, 65, 66, 61, 62] S (sv_sts S [63, 64, 58] g55) := sv_mod.sts sv_mod.rf (by decide)
        have h := h g55 hpo58
        refine sv_aload_n hM dX12_stepOther_180 rfl rfl ?_
        refine sv_iload_n hM dX12_stepOther_181 rfl rfl ?_
        refine sv_iload hM dX12_stepOther_182 rfl rfl ?_
        obtain ⟨o60, h⟩ := h
        refine sv_callV hM dX12_stepOther_184 sm_iv_885 (by decide) (sm_a0 _) rfl rfl (Nat.le_of_ble_eq_true rfl) sm_h152 (Nat.le_of_ble_eq_true rfl) (Nat.le_of_ble_eq_true rfl) (F' := 1) (Nat.le_of_ble_eq_true rfl) rfl (t_push s3 s5 (sv_sts S [63, 64, 58] g55) ok56 hs3 hs5 o60) (fun v S1 hq => ?_)
        obtain ⟨rfl, ok62, md63, hpo64⟩ := hq
        obtain ⟨g61, rfl⟩ : ∃ g, S1 = sv_sts (sv_sts S [63, 64, 58] g55) [63, 64, 58] g := ⟨_, md63.eq⟩
        show sv_T sm_XS sm_cs sm_L sm_sh 3 (q_stepOther p1 p2 S) 161 187 [(0, .ref 0), (1, sv_I p1), (2, sv_I p2), (3, sv_I s3), (4, sv_I s5), (5, sv_I ((S 1092 0) - (1 : Int))), (6, sv_I x50), (7, sv_I x52)] [] (sv_sts (sv_sts S [63, 64, 58] g55) [63, 64, 58] g61)
        have md65 : sv_mod [1092, 60, 58, 57, 63, 64, 1073, 1109, 1110, 65, 66, 61, 62] S (sv_sts (sv_sts S [63, 64, 58] g55) [63, 64, 58] g61) := sv_mod.sts md59 (by decide)
        have h := h g61 hpo64
        refine sv_aload_n hM dX12_stepOther_187 rfl rfl ?_
        obtain ⟨o66, h⟩ := h
        refine sv_callV hM dX12_stepOther_188 sm_iv_888 (by decide) (sm_a0 _) rfl rfl (Nat.le_of_ble_eq_true rfl) sm_h154 (Nat.le_of_ble_eq_true rfl) (Nat.le_of_ble_eq_true rfl) (F' := 0) (Nat.le_of_ble_eq_true rfl) rfl (t_goOn  (sv_sts (sv_sts S [63, 64, 58] g55) [63, 64, 58] g61) ok62 o66) (fun v S1 hq => ?_)
        obtain ⟨rfl, ok68, md69, hpo70⟩ := hq
        obtain ⟨g67, rfl⟩ : ∃ g, S1 = sv_sts (sv_sts (sv_sts S [63, 64, 58] g55) [63, 64, 58] g61) [57] g := ⟨_, md69.eq⟩
        show sv_T sm_XS sm_cs sm_L sm_sh 3 (q_stepOther p1 p2 S) 161 191 [(0, .ref 0), (1, sv_I p1), (2, sv_I p2), (3, sv_I s3), (4, sv_I s5), (5, sv_I ((S 1092 0) - (1 : Int))), (6, sv_I x50), (7, sv_I x52)] [] (sv_sts (sv_sts (sv_sts S [63, 64, 58] g55) [63, 64, 58] g61) [57] g67)
        have md71 : sv_mod [1092, 60, 58, 57, 63, 64, 1073, 1109, 1110, 65, 66, 61, 62] S (sv_sts (sv_sts (sv_sts S [63, 64, 58] g55) [63, 64, 58] g61) [57] g67) := sv_mod.sts md65 (by decide)
        have h := h g67 hpo70
        refine sv_goto hM dX12_stepOther_191 (pc' := 459) rfl ?_
        exact sv_vret hM dX12_stepOther_459 rfl ⟨rfl, ok68, md71, h⟩
      have J4 : (p1 = (20 : Int)) → sv_T sm_XS sm_cs sm_L sm_sh 3 (q_stepOther p1 p2 S) 161 194 [(0, .ref 0), (1, sv_I p1), (2, sv_I p2), (3, sv_I s3), (4, sv_I s5), (5, sv_I ((S 1092 0) - (1 : Int)))] [] S := by
        intro hc
        have h := hS.2.2.2.2.1 hc
        have k72 : (sm_CT (S 26) (S 27) (S 28) (S 29) (S 1100007) (S 1100023) (S 1100024) (S 1100025) (S 21) (S 1046 0) (S 1032 0) (S 1008 0) (S 1055 0) → 0 ≤ (S 1100033 0) → (S 1100033 0) < (S 1046 0) → ((S 26 (S 1100033 0)) = 20 → (0 ≤ ((S 1100007 (S 1100033 0)) - 3) ∧ (0 ≤ (S 1100023 (S 1100033 0)) → (S 1100007 (S 1100023 (S 1100033 0))) ≤ ((S 1100007 (S 1100033 0)) - 3)) ∧ (0 ≤ (S 1100025 (S 1100033 0)) → (S 1100007 (S 1100025 (S 1100033 0))) ≤ ((S 1100007 (S 1100033 0)) - 3))) ∧ (0 ≤ ((S 1100033 0) + 1) ∧ ((S 1100033 0) + 1) < (S 1046 0) ∧ (S 29 ((S 1100033 0) + 1)) = ((S 29 (S 1100033 0))) ∧ (S 1100007 ((S 1100033 0) + 1)) = ((S 1100007 (S 1100033 0)) + 1) ∧ (S 1100023 ((S 1100033 0) + 1)) = ((S 1100023 (S 1100033 0))) ∧ (S 1100025 ((S 1100033 0) + 1)) = ((S 1100025 (S 1100033 0)))))) := fun h h0 h1 => sm_ct_19 h _ h0 h1
        have h := h k72
        have k73 : ((S 1100034 0) = (S 1100025 (S 1100033 0)) → (S 58 ((S 1092 0) - 1)) = (S 1100007 (S 1100033 0)) → (0 ≤ (S 1100025 (S 1100033 0)) → (S 1100007 (S 1100025 (S 1100033 0))) ≤ (S 1100007 (S 1100033 0)) - 3) → (0 ≤ (S 1100034 0) → (S 1100007 (S 1100034 0)) ≤ (S 58 ((S 1092 0) - 1)) - 3)) := fun q f j z => by rw [q] at z ⊢; have := j z; omega
        have h := h k73
        have k74 : (sm_SK (S 63) (S 64) (S 44) (S 1100007) (S 1100025) (S 1076 0) (S 1007 0) (400 * ((S 1092 0) - 1)) ((S 58 ((S 1092 0) - 1))) ((S 1100034 0)) → sm_LS (S 26) (S 1100007) (S 1100025) (S 1046 0) → 0 ≤ (S 58 ((S 1092 0) - 1)) - 1 → (S 58 ((S 1092 0) - 1)) - 1 < (S 58 ((S 1092 0) - 1)) → (S 1100034 0) < (S 1046 0) → (S 1100034 0) = (S 1100025 (S 1100033 0)) → (S 58 ((S 1092 0) - 1)) = (S 1100007 (S 1100033 0)) → (0 ≤ (S 1100034 0) → (S 26 (S 1100034 0)) = 29) → (0 ≤ (S 1100025 (S 1100033 0)) → (S 1100007 (S 1100025 (S 1100033 0))) ≤ (S 1100007 (S 1100033 0)) - 3) → sm_VO (S 44) (S 1076 0) (S 1007 0) ((S 63 (400 * ((S 1092 0) - 1) + ((S 58 ((S 1092 0) - 1)) - 1)))) ((S 64 (400 * ((S 1092 0) - 1) + ((S 58 ((S 1092 0) - 1)) - 1))))) := fun h a b e g q f i j => sm_SK_at h a _ b e g (fun z => ⟨i z, by rw [q]; have := j (by omega); omega⟩)
        have h := h k74
        have k75 : (sm_SK (S 63) (S 64) (S 44) (S 1100007) (S 1100025) (S 1076 0) (S 1007 0) (400 * ((S 1092 0) - 1)) ((S 58 ((S 1092 0) - 1))) ((S 1100034 0)) → sm_LS (S 26) (S 1100007) (S 1100025) (S 1046 0) → 0 ≤ (S 58 ((S 1092 0) - 1)) - 2 → (S 58 ((S 1092 0) - 1)) - 2 < (S 58 ((S 1092 0) - 1)) → (S 1100034 0) < (S 1046 0) → (S 1100034 0) = (S 1100025 (S 1100033 0)) → (S 58 ((S 1092 0) - 1)) = (S 1100007 (S 1100033 0)) → (0 ≤ (S 1100034 0) → (S 26 (S 1100034 0)) = 29) → (0 ≤ (S 1100025 (S 1100033 0)) → (S 1100007 (S 1100025 (S 1100033 0))) ≤ (S 1100007 (S 1100033 0)) - 3) → sm_VO (S 44) (S 1076 0) (S 1007 0) ((S 63 (400 * ((S 1092 0) - 1) + ((S 58 ((S 1092 0) - 1)) - 2)))) ((S 64 (400 * ((S 1092 0) - 1) + ((S 58 ((S 1092 0) - 1)) - 2))))) := fun h a b e g q f i j => sm_SK_at h a _ b e g (fun z => ⟨i z, by rw [q]; have := j (by omega); omega⟩)
        have h := h k75
        have k76 : (sm_SK (S 63) (S 64) (S 44) (S 1100007) (S 1100025) (S 1076 0) (S 1007 0) (400 * ((S 1092 0) - 1)) ((S 58 ((S 1092 0) - 1))) ((S 1100034 0)) → sm_LS (S 26) (S 1100007) (S 1100025) (S 1046 0) → 0 ≤ (S 58 ((S 1092 0) - 1)) - 3 → (S 58 ((S 1092 0) - 1)) - 3 < (S 58 ((S 1092 0) - 1)) → (S 1100034 0) < (S 1046 0) → (S 1100034 0) = (S 1100025 (S 1100033 0)) → (S 58 ((S 1092 0) - 1)) = (S 1100007 (S 1100033 0)) → (0 ≤ (S 1100034 0) → (S 26 (S 1100034 0)) = 29) → (0 ≤ (S 1100025 (S 1100033 0)) → (S 1100007 (S 1100025 (S 1100033 0))) ≤ (S 1100007 (S 1100033 0)) - 3) → sm_VO (S 44) (S 1076 0) (S 1007 0) ((S 63 (400 * ((S 1092 0) - 1) + ((S 58 ((S 1092 0) - 1)) - 3)))) ((S 64 (400 * ((S 1092 0) - 1) + ((S 58 ((S 1092 0) - 1)) - 3))))) := fun h a b e g q f i j => sm_SK_at h a _ b e g (fun z => ⟨i z, by rw [q]; have := j (by omega); omega⟩)
        have h := h k76
        refine sv_aload_n hM dX12_stepOther_194 rfl rfl ?_
        refine sv_iload_n hM dX12_stepOther_195 rfl rfl ?_
        refine sv_iload hM dX12_stepOther_196 rfl rfl ?_
        obtain ⟨o77, h⟩ := h
        refine sv_callV hM dX12_stepOther_198 sm_iv_954 (by decide) (sm_a0 _) rfl rfl (Nat.le_of_ble_eq_true rfl) sm_h162 (Nat.le_of_ble_eq_true rfl) (Nat.le_of_ble_eq_true rfl) (F' := 2) (Nat.le_of_ble_eq_true rfl) rfl (t_under s3 s5 S hok hs3 hs5 o77) (fun v S1 hq => ?_)
        obtain ⟨rfl, ok79, md80, hpo81⟩ := hq
        obtain ⟨g78, rfl⟩ : ∃ g, S1 = sv_sts S [63, 64, 58] g := ⟨_, md80.eq⟩
        show sv_T sm_XS sm_cs sm_L sm_sh 3 (q_stepOther p1 p2 S) 161 201 [(0, .ref 0), (1, sv_I p1), (2, sv_I p2), (3, sv_I s3), (4, sv_I s5), (5, sv_I ((S 1092 0) - (1 : Int)))] [] (sv_sts S [63, 64, 58] g78)
        have md82 : sv_mod [1092, 60, 58, 57, 63, 64, 1073, 1109, 1110, 65, 66, 61, 62] S (sv_sts S [63, 64, 58] g78) := sv_mod.sts sv_mod.rf (by decide)
        have h := h g78 hpo81
        refine sv_aload_n hM dX12_stepOther_201 rfl rfl ?_
        obtain ⟨o83, h⟩ := h
        refine sv_callV hM dX12_stepOther_202 sm_iv_888 (by decide) (sm_a0 _) rfl rfl (Nat.le_of_ble_eq_true rfl) sm_h154 (Nat.le_of_ble_eq_true rfl) (Nat.le_of_ble_eq_true rfl) (F' := 0) (Nat.le_of_ble_eq_true rfl) rfl (t_goOn  (sv_sts S [63, 64, 58] g78) ok79 o83) (fun v S1 hq => ?_)
        obtain ⟨rfl, ok85, md86, hpo87⟩ := hq
        obtain ⟨g84, rfl⟩ : ∃ g, S1 = sv_sts (sv_sts S [63, 64, 58] g78) [57] g := ⟨_, md86.eq⟩
        show sv_T sm_XS sm_cs sm_L sm_sh 3 (q_stepOther p1 p2 S) 161 205 [(0, .ref 0), (1, sv_I p1), (2, sv_I p2), (3, sv_I s3), (4, sv_I s5), (5, sv_I ((S 1092 0) - (1 : Int)))] [] (sv_sts (sv_sts S [63, 64, 58] g78) [57] g84)
        have md88 : sv_mod [1092, 60, 58, 57, 63, 64, 1073, 1109, 1110, 65, 66, 61, 62] S (sv_sts (sv_sts S [63, 64, 58] g78) [57] g84) := sv_mod.sts md82 (by decide)
        have h := h g84 hpo87
        refine sv_goto hM dX12_stepOther_205 (pc' := 459) rfl ?_
        exact sv_vret hM dX12_stepOther_459 rfl ⟨rfl, ok85, md88, h⟩
      have J5 : (p1 = (21 : Int)) → sv_T sm_XS sm_cs sm_L sm_sh 3 (q_stepOther p1 p2 S) 161 208 [(0, .ref 0), (1, sv_I p1), (2, sv_I p2), (3, sv_I s3), (4, sv_I s5), (5, sv_I ((S 1092 0) - (1 : Int)))] [] S := by
        intro hc
        have h := hS.2.2.2.2.2.1 hc
        have k89 : (sm_CT (S 26) (S 27) (S 28) (S 29) (S 1100007) (S 1100023) (S 1100024) (S 1100025) (S 21) (S 1046 0) (S 1032 0) (S 1008 0) (S 1055 0) → 0 ≤ (S 1100033 0) → (S 1100033 0) < (S 1046 0) → ((S 26 (S 1100033 0)) = 21 → (0 ≤ ((S 1100007 (S 1100033 0))) ∧ (0 ≤ (S 1100023 (S 1100033 0)) → (S 1100007 (S 1100023 (S 1100033 0))) ≤ ((S 1100007 (S 1100033 0)))) ∧ (0 ≤ (S 1100025 (S 1100033 0)) → (S 1100007 (S 1100025 (S 1100033 0))) ≤ ((S 1100007 (S 1100033 0))))) ∧ (0 ≤ ((S 27 (S 1100033 0))) ∧ ((S 27 (S 1100033 0))) < (S 1046 0) ∧ (S 29 ((S 27 (S 1100033 0)))) = ((S 29 (S 1100033 0))) ∧ (S 1100007 ((S 27 (S 1100033 0)))) = ((S 1100007 (S 1100033 0))) ∧ (S 1100023 ((S 27 (S 1100033 0)))) = ((S 1100023 (S 1100033 0))) ∧ (S 1100025 ((S 27 (S 1100033 0)))) = ((S 1100025 (S 1100033 0)))))) := fun h h0 h1 => sm_ct_20 h _ h0 h1
        have h := h k89
        refine sv_aload_n hM dX12_stepOther_208 rfl rfl ?_
        refine sv_getA hM dX12_stepOther_209 sm_fl_182 (sm_a0 _) sm_k97 rfl ?_
        refine sv_iload hM dX12_stepOther_212 rfl rfl ?_
        refine sv_iload_n hM dX12_stepOther_214 rfl rfl ?_
        obtain ⟨o90, h⟩ := h
        refine sv_iast sm_X hM dX12_stepOther_215 (sm_a57 _) (by decide) o90.1 o90.2 rfl ?_
        have ok91 : sm_ok (sv_up S 57 ((S 1092 0) - (1 : Int)) p2) := sm_upI hok sm_r57 hp2
        have md92 : sv_mod [1092, 60, 58, 57, 63, 64, 1073, 1109, 1110, 65, 66, 61, 62] S (sv_up S 57 ((S 1092 0) - (1 : Int)) p2) := sv_mod.up sv_mod.rf (by decide)
        refine sv_goto hM dX12_stepOther_216 (pc' := 459) rfl ?_
        exact sv_vret hM dX12_stepOther_459 rfl ⟨rfl, ok91, md92, h⟩
      have J6 : (p1 = (22 : Int)) → sv_T sm_XS sm_cs sm_L sm_sh 3 (q_stepOther p1 p2 S) 161 219 [(0, .ref 0), (1, sv_I p1), (2, sv_I p2), (3, sv_I s3), (4, sv_I s5), (5, sv_I ((S 1092 0) - (1 : Int)))] [] S := by
        intro hc
        have h := hS.2.2.2.2.2.2.1 hc
        have k93 : (sm_CT (S 26) (S 27) (S 28) (S 29) (S 1100007) (S 1100023) (S 1100024) (S 1100025) (S 21) (S 1046 0) (S 1032 0) (S 1008 0) (S 1055 0) → 0 ≤ (S 1100033 0) → (S 1100033 0) < (S 1046 0) → ((S 26 (S 1100033 0)) = 22 → (0 ≤ ((S 1100007 (S 1100033 0)) - 1) ∧ (0 ≤ (S 1100023 (S 1100033 0)) → (S 1100007 (S 1100023 (S 1100033 0))) ≤ ((S 1100007 (S 1100033 0)) - 1)) ∧ (0 ≤ (S 1100025 (S 1100033 0)) → (S 1100007 (S 1100025 (S 1100033 0))) ≤ ((S 1100007 (S 1100033 0)) - 1))) ∧ (0 ≤ ((S 1100033 0) + 1) ∧ ((S 1100033 0) + 1) < (S 1046 0) ∧ (S 29 ((S 1100033 0) + 1)) = ((S 29 (S 1100033 0))) ∧ (S 1100007 ((S 1100033 0) + 1)) = ((S 1100007 (S 1100033 0)) - 1) ∧ (S 1100023 ((S 1100033 0) + 1)) = ((S 1100023 (S 1100033 0))) ∧ (S 1100025 ((S 1100033 0) + 1)) = ((S 1100025 (S 1100033 0)))) ∧ (0 ≤ ((S 27 (S 1100033 0))) ∧ ((S 27 (S 1100033 0))) < (S 1046 0) ∧ (S 29 ((S 27 (S 1100033 0)))) = ((S 29 (S 1100033 0))) ∧ (S 1100007 ((S 27 (S 1100033 0)))) = ((S 1100007 (S 1100033 0)) - 1) ∧ (S 1100023 ((S 27 (S 1100033 0)))) = ((S 1100023 (S 1100033 0))) ∧ (S 1100025 ((S 27 (S 1100033 0)))) = ((S 1100025 (S 1100033 0)))))) := fun h h0 h1 => sm_ct_21 h _ h0 h1
        have h := h k93
        have k94 : ((S 1100034 0) = (S 1100025 (S 1100033 0)) → (S 58 ((S 1092 0) - 1)) = (S 1100007 (S 1100033 0)) → (0 ≤ (S 1100025 (S 1100033 0)) → (S 1100007 (S 1100025 (S 1100033 0))) ≤ (S 1100007 (S 1100033 0)) - 1) → (0 ≤ (S 1100034 0) → (S 1100007 (S 1100034 0)) ≤ (S 58 ((S 1092 0) - 1)) - 1)) := fun q f j z => by rw [q] at z ⊢; have := j z; omega
        have h := h k94
        have k95 : (sm_SK (S 63) (S 64) (S 44) (S 1100007) (S 1100025) (S 1076 0) (S 1007 0) (400 * ((S 1092 0) - 1)) ((S 58 ((S 1092 0) - 1))) ((S 1100034 0)) → sm_LS (S 26) (S 1100007) (S 1100025) (S 1046 0) → 0 ≤ (S 58 ((S 1092 0) - 1)) - 1 → (S 58 ((S 1092 0) - 1)) - 1 < (S 58 ((S 1092 0) - 1)) → (S 1100034 0) < (S 1046 0) → (S 1100034 0) = (S 1100025 (S 1100033 0)) → (S 58 ((S 1092 0) - 1)) = (S 1100007 (S 1100033 0)) → (0 ≤ (S 1100034 0) → (S 26 (S 1100034 0)) = 29) → (0 ≤ (S 1100025 (S 1100033 0)) → (S 1100007 (S 1100025 (S 1100033 0))) ≤ (S 1100007 (S 1100033 0)) - 1) → sm_VO (S 44) (S 1076 0) (S 1007 0) ((S 63 (400 * ((S 1092 0) - 1) + ((S 58 ((S 1092 0) - 1)) - 1)))) ((S 64 (400 * ((S 1092 0) - 1) + ((S 58 ((S 1092 0) - 1)) - 1))))) := fun h a b e g q f i j => sm_SK_at h a _ b e g (fun z => ⟨i z, by rw [q]; have := j (by omega); omega⟩)
        have h := h k95
        refine sv_aload_n hM dX12_stepOther_219 rfl rfl ?_
        refine sv_iconst (d := (1 : Int)) hM dX12_stepOther_220 rfl rfl ?_
        obtain ⟨o96, h⟩ := h
        refine sv_callV hM dX12_stepOther_221 sm_iv_882 (by decide) (sm_a0 _) rfl rfl (Nat.le_of_ble_eq_true rfl) sm_h153 (Nat.le_of_ble_eq_true rfl) (Nat.le_of_ble_eq_true rfl) (F' := 0) (Nat.le_of_ble_eq_true rfl) rfl (t_drop (1 : Int) S hok (⟨by decide, by decide⟩ : sv_R (1 : Int)) o96) (fun v S1 hq => ?_)
        obtain ⟨rfl, ok98, md99, hpo100⟩ := hq
        obtain ⟨g97, rfl⟩ : ∃ g, S1 = sv_sts S [58] g := ⟨_, md99.eq⟩
        show sv_T sm_XS sm_cs sm_L sm_sh 3 (q_stepOther p1 p2 S) 161 224 [(0, .ref 0), (1, sv_I p1), (2, sv_I p2), (3, sv_I s3), (4, sv_I s5), (5, sv_I ((S 1092 0) - (1 : Int)))] [] (sv_sts S [58] g97)
        have md101 : sv_mod [1092, 60, 58, 57, 63, 64, 1073, 1109, 1110, 65, 66, 61, 62] S (sv_sts S [58] g97) := sv_mod.sts sv_mod.rf (by decide)
        have h := h g97 hpo100
        refine sv_aload_n hM dX12_stepOther_224 rfl rfl ?_
        refine sv_getA hM dX12_stepOther_225 sm_fl_182 (sm_a0 _) sm_k97 rfl ?_
        refine sv_iload hM dX12_stepOther_228 rfl rfl ?_
        refine sv_aload_n hM dX12_stepOther_230 rfl rfl ?_
        refine sv_iload_n hM dX12_stepOther_231 rfl rfl ?_
        refine sv_iload hM dX12_stepOther_232 rfl rfl ?_
        obtain ⟨o102, h⟩ := h
        refine sv_callV hM dX12_stepOther_234 sm_iv_824 (by decide) (sm_a0 _) rfl rfl (Nat.le_of_ble_eq_true rfl) sm_h129 (Nat.le_of_ble_eq_true rfl) (Nat.le_of_ble_eq_true rfl) (F' := 0) (Nat.le_of_ble_eq_true rfl) rfl (t_isTrue s3 s5 (sv_sts S [58] g97) ok98 hs3 hs5 o102) (fun v S1 hq => ?_)
        obtain ⟨r107, rfl, hr107, ok104, md105, hpo106⟩ := hq
        obtain rfl : (sv_sts S [58] g97) = S1 := (funext fun j => md105 j (by intro q; cases q)).symm
        show sv_T sm_XS sm_cs sm_L sm_sh 3 (q_stepOther p1 p2 S) 161 237 [(0, .ref 0), (1, sv_I p1), (2, sv_I p2), (3, sv_I s3), (4, sv_I s5), (5, sv_I ((S 1092 0) - (1 : Int)))] [sv_I r107, sv_I ((S 1092 0) - (1 : Int)), .ref 57] (sv_sts S [58] g97)
        have h := h r107 hr107 hpo106
        refine sv_cond_eq hM dX12_stepOther_237 hr107 (t := 252) rfl rfl (fun hc => ?_) (fun hc => ?_)
        · have h := h.1 (hc)
          refine sv_iload_n hM dX12_stepOther_252 rfl rfl ?_
          obtain ⟨o108, h⟩ := h
          refine sv_iast sm_X hM dX12_stepOther_253 (sm_a57 _) (by decide) o108.1 o108.2 rfl ?_
          have ok109 : sm_ok (sv_up (sv_sts S [58] g97) 57 ((S 1092 0) - (1 : Int)) p2) := sm_upI ok104 sm_r57 hp2
          have md110 : sv_mod [1092, 60, 58, 57, 63, 64, 1073, 1109, 1110, 65, 66, 61, 62] S (sv_up (sv_sts S [58] g97) 57 ((S 1092 0) - (1 : Int)) p2) := sv_mod.up md101 (by decide)
          refine sv_goto hM dX12_stepOther_254 (pc' := 459) rfl ?_
          exact sv_vret hM dX12_stepOther_459 rfl ⟨rfl, ok109, md110, h⟩
        · have h := h.2 (hc)
          refine sv_aload_n hM dX12_stepOther_240 rfl rfl ?_
          refine sv_getA hM dX12_stepOther_241 sm_fl_182 (sm_a0 _) sm_k97 rfl ?_
          refine sv_iload hM dX12_stepOther_244 rfl rfl ?_
          obtain ⟨o111, h⟩ := h
          have k112 : sv_R (S 57 ((S 1092 0) - (1 : Int))) := sm_okI ok104 sm_r57 ((S 1092 0) - (1 : Int))
          have h := h k112
          refine sv_iald hM dX12_stepOther_246 (sm_a57 _) (by decide) o111.1 o111.2 rfl (x := (S 57 ((S 1092 0) - (1 : Int)))) rfl ?_
          refine sv_iconst (d := (1 : Int)) hM dX12_stepOther_247 rfl rfl ?_
          refine sv_iadd hM dX12_stepOther_248 rfl ?_
          refine sv_goto hM dX12_stepOther_249 (pc' := 253) rfl ?_
          obtain ⟨o113, h⟩ := h
          refine sv_iast sm_X hM dX12_stepOther_253 (sm_a57 _) (by decide) o111.1 o111.2 rfl ?_
          have ok114 : sm_ok (sv_up (sv_sts S [58] g97) 57 ((S 1092 0) - (1 : Int)) ((S 57 ((S 1092 0) - (1 : Int))) + (1 : Int))) := sm_upI ok104 sm_r57 o113
          have md115 : sv_mod [1092, 60, 58, 57, 63, 64, 1073, 1109, 1110, 65, 66, 61, 62] S (sv_up (sv_sts S [58] g97) 57 ((S 1092 0) - (1 : Int)) ((S 57 ((S 1092 0) - (1 : Int))) + (1 : Int))) := sv_mod.up md101 (by decide)
          refine sv_goto hM dX12_stepOther_254 (pc' := 459) rfl ?_
          exact sv_vret hM dX12_stepOther_459 rfl ⟨rfl, ok114, md115, h⟩
      have J7 : (p1 = (23 : Int) ∨ p1 = (24 : Int)) → sv_T sm_XS sm_cs sm_L sm_sh 3 (q_stepOther p1 p2 S) 161 257 [(0, .ref 0), (1, sv_I p1), (2, sv_I p2), (3, sv_I s3), (4, sv_I s5), (5, sv_I ((S 1092 0) - (1 : Int)))] [] S := by
        intro hc
        have h := hS.2.2.2.2.2.2.2.1 hc
        have k116 : (((p1 = 21 ∨ p1 = 27 ∨ p1 = 28) ∨ s3 = (S 63 ((400 * ((S 1092 0) - 1) + (S 58 ((S 1092 0) - 1))) - 1 - 0))) → (p1 = 23 ∨ p1 = 24) → s3 = (S 63 ((400 * ((S 1092 0) - 1) + (S 58 ((S 1092 0) - 1))) - 1 - 0))) := fun a b => a.elim (fun q => absurd b (by omega)) id
        have h := h k116
        have k117 : (((p1 = 21 ∨ p1 = 27 ∨ p1 = 28) ∨ s5 = (S 64 ((400 * ((S 1092 0) - 1) + (S 58 ((S 1092 0) - 1))) - 1 - 0))) → (p1 = 23 ∨ p1 = 24) → s5 = (S 64 ((400 * ((S 1092 0) - 1) + (S 58 ((S 1092 0) - 1))) - 1 - 0))) := fun a b => a.elim (fun q => absurd b (by omega)) id
        have h := h k117
        have k118 : (sm_CT (S 26) (S 27) (S 28) (S 29) (S 1100007) (S 1100023) (S 1100024) (S 1100025) (S 21) (S 1046 0) (S 1032 0) (S 1008 0) (S 1055 0) → 0 ≤ (S 1100033 0) → (S 1100033 0) < (S 1046 0) → ((p1 = 23 ∨ p1 = 24) → p1 = (S 26 (S 1100033 0)) → (0 ≤ ((S 1100007 (S 1100033 0)) - 1) ∧ (0 ≤ (S 1100023 (S 1100033 0)) → (S 1100007 (S 1100023 (S 1100033 0))) ≤ ((S 1100007 (S 1100033 0)) - 1)) ∧ (0 ≤ (S 1100025 (S 1100033 0)) → (S 1100007 (S 1100025 (S 1100033 0))) ≤ ((S 1100007 (S 1100033 0)) - 1))) ∧ (0 ≤ ((S 1100033 0) + 1) ∧ ((S 1100033 0) + 1) < (S 1046 0) ∧ (S 29 ((S 1100033 0) + 1)) = ((S 29 (S 1100033 0))) ∧ (S 1100007 ((S 1100033 0) + 1)) = ((S 1100007 (S 1100033 0)) - 1) ∧ (S 1100023 ((S 1100033 0) + 1)) = ((S 1100023 (S 1100033 0))) ∧ (S 1100025 ((S 1100033 0) + 1)) = ((S 1100025 (S 1100033 0)))) ∧ (0 ≤ ((S 27 (S 1100033 0))) ∧ ((S 27 (S 1100033 0))) < (S 1046 0) ∧ (S 29 ((S 27 (S 1100033 0)))) = ((S 29 (S 1100033 0))) ∧ (S 1100007 ((S 27 (S 1100033 0)))) = ((S 1100007 (S 1100033 0))) ∧ (S 1100023 ((S 27 (S 1100033 0)))) = ((S 1100023 (S 1100033 0))) ∧ (S 1100025 ((S 27 (S 1100033 0)))) = ((S 1100025 (S 1100033 0)))))) := fun h a b w e => sm_ct_22 h _ a b (e ▸ w)
        have h := h k118
        have k119 : ((S 1100034 0) = (S 1100025 (S 1100033 0)) → (S 58 ((S 1092 0) - 1)) = (S 1100007 (S 1100033 0)) → (0 ≤ (S 1100025 (S 1100033 0)) → (S 1100007 (S 1100025 (S 1100033 0))) ≤ (S 1100007 (S 1100033 0)) - 1) → (0 ≤ (S 1100034 0) → (S 1100007 (S 1100034 0)) ≤ (S 58 ((S 1092 0) - 1)) - 1)) := fun q f j z => by rw [q] at z ⊢; have := j z; omega
        have h := h k119
        have k120 : (sm_SK (S 63) (S 64) (S 44) (S 1100007) (S 1100025) (S 1076 0) (S 1007 0) (400 * ((S 1092 0) - 1)) ((S 58 ((S 1092 0) - 1))) ((S 1100034 0)) → sm_LS (S 26) (S 1100007) (S 1100025) (S 1046 0) → 0 ≤ (S 58 ((S 1092 0) - 1)) - 1 → (S 58 ((S 1092 0) - 1)) - 1 < (S 58 ((S 1092 0) - 1)) → (S 1100034 0) < (S 1046 0) → (S 1100034 0) = (S 1100025 (S 1100033 0)) → (S 58 ((S 1092 0) - 1)) = (S 1100007 (S 1100033 0)) → (0 ≤ (S 1100034 0) → (S 26 (S 1100034 0)) = 29) → (0 ≤ (S 1100025 (S 1100033 0)) → (S 1100007 (S 1100025 (S 1100033 0))) ≤ (S 1100007 (S 1100033 0)) - 1) → sm_VO (S 44) (S 1076 0) (S 1007 0) ((S 63 (400 * ((S 1092 0) - 1) + ((S 58 ((S 1092 0) - 1)) - 1)))) ((S 64 (400 * ((S 1092 0) - 1) + ((S 58 ((S 1092 0) - 1)) - 1))))) := fun h a b e g q f i j => sm_SK_at h a _ b e g (fun z => ⟨i z, by rw [q]; have := j (by omega); omega⟩)
        have h := h k120
        refine sv_aload_n hM dX12_stepOther_257 rfl rfl ?_
        refine sv_iload_n hM dX12_stepOther_258 rfl rfl ?_
        refine sv_iload hM dX12_stepOther_259 rfl rfl ?_
        obtain ⟨o121, h⟩ := h
        refine sv_callV hM dX12_stepOther_261 sm_iv_824 (by decide) (sm_a0 _) rfl rfl (Nat.le_of_ble_eq_true rfl) sm_h129 (Nat.le_of_ble_eq_true rfl) (Nat.le_of_ble_eq_true rfl) (F' := 0) (Nat.le_of_ble_eq_true rfl) rfl (t_isTrue s3 s5 S hok hs3 hs5 o121) (fun v S1 hq => ?_)
        obtain ⟨r126, rfl, hr126, ok123, md124, hpo125⟩ := hq
        obtain rfl : S = S1 := (funext fun j => md124 j (by intro q; cases q)).symm
        show sv_T sm_XS sm_cs sm_L sm_sh 3 (q_stepOther p1 p2 S) 161 264 [(0, .ref 0), (1, sv_I p1), (2, sv_I p2), (3, sv_I s3), (4, sv_I s5), (5, sv_I ((S 1092 0) - (1 : Int)))] [sv_I r126] S
        have h := h r126 hr126 hpo125
        refine sv_iload_n hM dX12_stepOther_264 rfl rfl ?_
        refine sv_bipush (d := (23 : Int)) hM dX12_stepOther_265 rfl rfl ?_
        refine sv_icmp_ne hM dX12_stepOther_267 hp1 (⟨by decide, by decide⟩ : sv_R (23 : Int)) (t := 274) rfl rfl (fun hc => ?_) (fun hc => ?_)
        · have h := h.1 (hc)
          refine sv_iconst (d := (0 : Int)) hM dX12_stepOther_274 rfl rfl ?_
          refine sv_icmp_ne hM dX12_stepOther_275 hr126 (⟨by decide, by decide⟩ : sv_R (0 : Int)) (t := 290) rfl rfl (fun hc => ?_) (fun hc => ?_)
          · have h := h.1 (hc)
            refine sv_aload_n hM dX12_stepOther_290 rfl rfl ?_
            refine sv_getA hM dX12_stepOther_291 sm_fl_182 (sm_a0 _) sm_k97 rfl ?_
            refine sv_iload hM dX12_stepOther_294 rfl rfl ?_
            refine sv_iload_n hM dX12_stepOther_296 rfl rfl ?_
            obtain ⟨o127, h⟩ := h
            refine sv_iast sm_X hM dX12_stepOther_297 (sm_a57 _) (by decide) o127.1 o127.2 rfl ?_
            have ok128 : sm_ok (sv_up S 57 ((S 1092 0) - (1 : Int)) p2) := sm_upI ok123 sm_r57 hp2
            have md129 : sv_mod [1092, 60, 58, 57, 63, 64, 1073, 1109, 1110, 65, 66, 61, 62] S (sv_up S 57 ((S 1092 0) - (1 : Int)) p2) := sv_mod.up sv_mod.rf (by decide)
            refine sv_goto hM dX12_stepOther_298 (pc' := 459) rfl ?_
            exact sv_vret hM dX12_stepOther_459 rfl ⟨rfl, ok128, md129, h⟩
          · have h := h.2 (hc)
            refine sv_aload_n hM dX12_stepOther_278 rfl rfl ?_
            refine sv_iconst (d := (1 : Int)) hM dX12_stepOther_279 rfl rfl ?_
            obtain ⟨o130, h⟩ := h
            refine sv_callV hM dX12_stepOther_280 sm_iv_882 (by decide) (sm_a0 _) rfl rfl (Nat.le_of_ble_eq_true rfl) sm_h153 (Nat.le_of_ble_eq_true rfl) (Nat.le_of_ble_eq_true rfl) (F' := 0) (Nat.le_of_ble_eq_true rfl) rfl (t_drop (1 : Int) S ok123 (⟨by decide, by decide⟩ : sv_R (1 : Int)) o130) (fun v S1 hq => ?_)
            obtain ⟨rfl, ok132, md133, hpo134⟩ := hq
            obtain ⟨g131, rfl⟩ : ∃ g, S1 = sv_sts S [58] g := ⟨_, md133.eq⟩
            show sv_T sm_XS sm_cs sm_L sm_sh 3 (q_stepOther p1 p2 S) 161 283 [(0, .ref 0), (1, sv_I p1), (2, sv_I p2), (3, sv_I s3), (4, sv_I s5), (5, sv_I ((S 1092 0) - (1 : Int)))] [] (sv_sts S [58] g131)
            have md135 : sv_mod [1092, 60, 58, 57, 63, 64, 1073, 1109, 1110, 65, 66, 61, 62] S (sv_sts S [58] g131) := sv_mod.sts sv_mod.rf (by decide)
            have h := h g131 hpo134
            refine sv_aload_n hM dX12_stepOther_283 rfl rfl ?_
            obtain ⟨o136, h⟩ := h
            refine sv_callV hM dX12_stepOther_284 sm_iv_888 (by decide) (sm_a0 _) rfl rfl (Nat.le_of_ble_eq_true rfl) sm_h154 (Nat.le_of_ble_eq_true rfl) (Nat.le_of_ble_eq_true rfl) (F' := 0) (Nat.le_of_ble_eq_true rfl) rfl (t_goOn  (sv_sts S [58] g131) ok132 o136) (fun v S1 hq => ?_)
            obtain ⟨rfl, ok138, md139, hpo140⟩ := hq
            obtain ⟨g137, rfl⟩ : ∃ g, S1 = sv_sts (sv_sts S [58] g131) [57] g := ⟨_, md139.eq⟩
            show sv_T sm_XS sm_cs sm_L sm_sh 3 (q_stepOther p1 p2 S) 161 287 [(0, .ref 0), (1, sv_I p1), (2, sv_I p2), (3, sv_I s3), (4, sv_I s5), (5, sv_I ((S 1092 0) - (1 : Int)))] [] (sv_sts (sv_sts S [58] g131) [57] g137)
            have md141 : sv_mod [1092, 60, 58, 57, 63, 64, 1073, 1109, 1110, 65, 66, 61, 62] S (sv_sts (sv_sts S [58] g131) [57] g137) := sv_mod.sts md135 (by decide)
            have h := h g137 hpo140
            refine sv_goto hM dX12_stepOther_287 (pc' := 459) rfl ?_
            exact sv_vret hM dX12_stepOther_459 rfl ⟨rfl, ok138, md141, h⟩
        · have h := h.2 (hc)
          refine sv_iconst (d := (1 : Int)) hM dX12_stepOther_270 rfl rfl ?_
          refine sv_goto hM dX12_stepOther_271 (pc' := 275) rfl ?_
          refine sv_icmp_ne hM dX12_stepOther_275 hr126 (⟨by decide, by decide⟩ : sv_R (1 : Int)) (t := 290) rfl rfl (fun hc => ?_) (fun hc => ?_)
          · have h := h.1 (hc)
            refine sv_aload_n hM dX12_stepOther_290 rfl rfl ?_
            refine sv_getA hM dX12_stepOther_291 sm_fl_182 (sm_a0 _) sm_k97 rfl ?_
            refine sv_iload hM dX12_stepOther_294 rfl rfl ?_
            refine sv_iload_n hM dX12_stepOther_296 rfl rfl ?_
            obtain ⟨o142, h⟩ := h
            refine sv_iast sm_X hM dX12_stepOther_297 (sm_a57 _) (by decide) o142.1 o142.2 rfl ?_
            have ok143 : sm_ok (sv_up S 57 ((S 1092 0) - (1 : Int)) p2) := sm_upI ok123 sm_r57 hp2
            have md144 : sv_mod [1092, 60, 58, 57, 63, 64, 1073, 1109, 1110, 65, 66, 61, 62] S (sv_up S 57 ((S 1092 0) - (1 : Int)) p2) := sv_mod.up sv_mod.rf (by decide)
            refine sv_goto hM dX12_stepOther_298 (pc' := 459) rfl ?_
            exact sv_vret hM dX12_stepOther_459 rfl ⟨rfl, ok143, md144, h⟩
          · have h := h.2 (hc)
            refine sv_aload_n hM dX12_stepOther_278 rfl rfl ?_
            refine sv_iconst (d := (1 : Int)) hM dX12_stepOther_279 rfl rfl ?_
            obtain ⟨o145, h⟩ := h
            refine sv_callV hM dX12_stepOther_280 sm_iv_882 (by decide) (sm_a0 _) rfl rfl (Nat.le_of_ble_eq_true rfl) sm_h153 (Nat.le_of_ble_eq_true rfl) (Nat.le_of_ble_eq_true rfl) (F' := 0) (Nat.le_of_ble_eq_true rfl) rfl (t_drop (1 : Int) S ok123 (⟨by decide, by decide⟩ : sv_R (1 : Int)) o145) (fun v S1 hq => ?_)
            obtain ⟨rfl, ok147, md148, hpo149⟩ := hq
            obtain ⟨g146, rfl⟩ : ∃ g, S1 = sv_sts S [58] g := ⟨_, md148.eq⟩
            show sv_T sm_XS sm_cs sm_L sm_sh 3 (q_stepOther p1 p2 S) 161 283 [(0, .ref 0), (1, sv_I p1), (2, sv_I p2), (3, sv_I s3), (4, sv_I s5), (5, sv_I ((S 1092 0) - (1 : Int)))] [] (sv_sts S [58] g146)
            have md150 : sv_mod [1092, 60, 58, 57, 63, 64, 1073, 1109, 1110, 65, 66, 61, 62] S (sv_sts S [58] g146) := sv_mod.sts sv_mod.rf (by decide)
            have h := h g146 hpo149
            refine sv_aload_n hM dX12_stepOther_283 rfl rfl ?_
            obtain ⟨o151, h⟩ := h
            refine sv_callV hM dX12_stepOther_284 sm_iv_888 (by decide) (sm_a0 _) rfl rfl (Nat.le_of_ble_eq_true rfl) sm_h154 (Nat.le_of_ble_eq_true rfl) (Nat.le_of_ble_eq_true rfl) (F' := 0) (Nat.le_of_ble_eq_true rfl) rfl (t_goOn  (sv_sts S [58] g146) ok147 o151) (fun v S1 hq => ?_)
            obtain ⟨rfl, ok153, md154, hpo155⟩ := hq
            obtain ⟨g152, rfl⟩ : ∃ g, S1 = sv_sts (sv_sts S [58] g146) [57] g := ⟨_, md154.eq⟩
            show sv_T sm_XS sm_cs sm_L sm_sh 3 (q_stepOther p1 p2 S) 161 287 [(0, .ref 0), (1, sv_I p1), (2, sv_I p2), (3, sv_I s3), (4, sv_I s5), (5, sv_I ((S 1092 0) - (1 : Int)))] [] (sv_sts (sv_sts S [58] g146) [57] g152)
            have md156 : sv_mod [1092, 60, 58, 57, 63, 64, 1073, 1109, 1110, 65, 66, 61, 62] S (sv_sts (sv_sts S [58] g146) [57] g152) := sv_mod.sts md150 (by decide)
            have h := h g152 hpo155
            refine sv_goto hM dX12_stepOther_287 (pc' := 459) rfl ?_
            exact sv_vret hM dX12_stepOther_459 rfl ⟨rfl, ok153, md156, h⟩
      have J8 : (p1 = (25 : Int)) → sv_T sm_XS sm_cs sm_L sm_sh 3 (q_stepOther p1 p2 S) 161 301 [(0, .ref 0), (1, sv_I p1), (2, sv_I p2), (3, sv_I s3), (4, sv_I s5), (5, sv_I ((S 1092 0) - (1 : Int)))] [] S := by
        intro hc
        have h := hS.2.2.2.2.2.2.2.2.1 hc
        have k157 : (sm_CT (S 26) (S 27) (S 28) (S 29) (S 1100007) (S 1100023) (S 1100024) (S 1100025) (S 21) (S 1046 0) (S 1032 0) (S 1008 0) (S 1055 0) → 0 ≤ (S 1100033 0) → (S 1100033 0) < (S 1046 0) → (((S 26 (S 1100033 0)) = 25 ∨ (S 26 (S 1100033 0)) = 26) → (0 ≤ ((S 1100007 (S 1100033 0)) - 1) ∧ (0 ≤ (S 1100023 (S 1100033 0)) → (S 1100007 (S 1100023 (S 1100033 0))) ≤ ((S 1100007 (S 1100033 0)) - 1)) ∧ (0 ≤ (S 1100025 (S 1100033 0)) → (S 1100007 (S 1100025 (S 1100033 0))) ≤ ((S 1100007 (S 1100033 0)) - 1))))) := fun h h0 h1 => sm_ct_23 h _ h0 h1
        have h := h k157
        have k158 : ((S 1100034 0) = (S 1100025 (S 1100033 0)) → (S 58 ((S 1092 0) - 1)) = (S 1100007 (S 1100033 0)) → (0 ≤ (S 1100025 (S 1100033 0)) → (S 1100007 (S 1100025 (S 1100033 0))) ≤ (S 1100007 (S 1100033 0)) - 1) → (0 ≤ (S 1100034 0) → (S 1100007 (S 1100034 0)) ≤ (S 58 ((S 1092 0) - 1)) - 1)) := fun q f j z => by rw [q] at z ⊢; have := j z; omega
        have h := h k158
        have k159 : (sm_SK (S 63) (S 64) (S 44) (S 1100007) (S 1100025) (S 1076 0) (S 1007 0) (400 * ((S 1092 0) - 1)) ((S 58 ((S 1092 0) - 1))) ((S 1100034 0)) → sm_LS (S 26) (S 1100007) (S 1100025) (S 1046 0) → 0 ≤ (S 58 ((S 1092 0) - 1)) - 1 → (S 58 ((S 1092 0) - 1)) - 1 < (S 58 ((S 1092 0) - 1)) → (S 1100034 0) < (S 1046 0) → (S 1100034 0) = (S 1100025 (S 1100033 0)) → (S 58 ((S 1092 0) - 1)) = (S 1100007 (S 1100033 0)) → (0 ≤ (S 1100034 0) → (S 26 (S 1100034 0)) = 29) → (0 ≤ (S 1100025 (S 1100033 0)) → (S 1100007 (S 1100025 (S 1100033 0))) ≤ (S 1100007 (S 1100033 0)) - 1) → sm_VO (S 44) (S 1076 0) (S 1007 0) ((S 63 (400 * ((S 1092 0) - 1) + ((S 58 ((S 1092 0) - 1)) - 1)))) ((S 64 (400 * ((S 1092 0) - 1) + ((S 58 ((S 1092 0) - 1)) - 1))))) := fun h a b e g q f i j => sm_SK_at h a _ b e g (fun z => ⟨i z, by rw [q]; have := j (by omega); omega⟩)
        have h := h k159
        refine sv_aload_n hM dX12_stepOther_301 rfl rfl ?_
        refine sv_iload_n hM dX12_stepOther_302 rfl rfl ?_
        refine sv_iload hM dX12_stepOther_303 rfl rfl ?_
        obtain ⟨o160, h⟩ := h
        refine sv_callV hM dX12_stepOther_305 sm_iv_957 (by decide) (sm_a0 _) rfl rfl (Nat.le_of_ble_eq_true rfl) sm_h184 (Nat.le_of_ble_eq_true rfl) (Nat.le_of_ble_eq_true rfl) (F' := 2) (Nat.le_of_ble_eq_true rfl) rfl (t_goBack s3 s5 S hok hs3 hs5 o160) (fun v S1 hq => ?_)
        obtain ⟨rfl, ok162, md163, hpo164⟩ := hq
        obtain ⟨g161, rfl⟩ : ∃ g, S1 = sv_sts S [1092, 1073, 58, 63, 64] g := ⟨_, md163.eq⟩
        show sv_T sm_XS sm_cs sm_L sm_sh 3 (q_stepOther p1 p2 S) 161 308 [(0, .ref 0), (1, sv_I p1), (2, sv_I p2), (3, sv_I s3), (4, sv_I s5), (5, sv_I ((S 1092 0) - (1 : Int)))] [] (sv_sts S [1092, 1073, 58, 63, 64] g161)
        have md165 : sv_mod [1092, 60, 58, 57, 63, 64, 1073, 1109, 1110, 65, 66, 61, 62] S (sv_sts S [1092, 1073, 58, 63, 64] g161) := sv_mod.sts sv_mod.rf (by decide)
        have h := h g161 hpo164
        refine sv_goto hM dX12_stepOther_308 (pc' := 459) rfl ?_
        exact sv_vret hM dX12_stepOther_459 rfl ⟨rfl, ok162, md165, h⟩
      have J9 : (p1 = (26 : Int)) → sv_T sm_XS sm_cs sm_L sm_sh 3 (q_stepOther p1 p2 S) 161 311 [(0, .ref 0), (1, sv_I p1), (2, sv_I p2), (3, sv_I s3), (4, sv_I s5), (5, sv_I ((S 1092 0) - (1 : Int)))] [] S := by
        intro hc
        have h := hS.2.2.2.2.2.2.2.2.2.1 hc
        have k166 : (sm_CT (S 26) (S 27) (S 28) (S 29) (S 1100007) (S 1100023) (S 1100024) (S 1100025) (S 21) (S 1046 0) (S 1032 0) (S 1008 0) (S 1055 0) → 0 ≤ (S 1100033 0) → (S 1100033 0) < (S 1046 0) → (((S 26 (S 1100033 0)) = 25 ∨ (S 26 (S 1100033 0)) = 26) → (0 ≤ ((S 1100007 (S 1100033 0)) - 1) ∧ (0 ≤ (S 1100023 (S 1100033 0)) → (S 1100007 (S 1100023 (S 1100033 0))) ≤ ((S 1100007 (S 1100033 0)) - 1)) ∧ (0 ≤ (S 1100025 (S 1100033 0)) → (S 1100007 (S 1100025 (S 1100033 0))) ≤ ((S 1100007 (S 1100033 0)) - 1))))) := fun h h0 h1 => sm_ct_23 h _ h0 h1
        have h := h k166
        have k167 : ((S 1100034 0) = (S 1100025 (S 1100033 0)) → (S 58 ((S 1092 0) - 1)) = (S 1100007 (S 1100033 0)) → (0 ≤ (S 1100025 (S 1100033 0)) → (S 1100007 (S 1100025 (S 1100033 0))) ≤ (S 1100007 (S 1100033 0)) - 1) → (0 ≤ (S 1100034 0) → (S 1100007 (S 1100034 0)) ≤ (S 58 ((S 1092 0) - 1)) - 1)) := fun q f j z => by rw [q] at z ⊢; have := j z; omega
        have h := h k167
        have k168 : (sm_SK (S 63) (S 64) (S 44) (S 1100007) (S 1100025) (S 1076 0) (S 1007 0) (400 * ((S 1092 0) - 1)) ((S 58 ((S 1092 0) - 1))) ((S 1100034 0)) → sm_LS (S 26) (S 1100007) (S 1100025) (S 1046 0) → 0 ≤ (S 58 ((S 1092 0) - 1)) - 1 → (S 58 ((S 1092 0) - 1)) - 1 < (S 58 ((S 1092 0) - 1)) → (S 1100034 0) < (S 1046 0) → (S 1100034 0) = (S 1100025 (S 1100033 0)) → (S 58 ((S 1092 0) - 1)) = (S 1100007 (S 1100033 0)) → (0 ≤ (S 1100034 0) → (S 26 (S 1100034 0)) = 29) → (0 ≤ (S 1100025 (S 1100033 0)) → (S 1100007 (S 1100025 (S 1100033 0))) ≤ (S 1100007 (S 1100033 0)) - 1) → sm_VO (S 44) (S 1076 0) (S 1007 0) ((S 63 (400 * ((S 1092 0) - 1) + ((S 58 ((S 1092 0) - 1)) - 1)))) ((S 64 (400 * ((S 1092 0) - 1) + ((S 58 ((S 1092 0) - 1)) - 1))))) := fun h a b e g q f i j => sm_SK_at h a _ b e g (fun z => ⟨i z, by rw [q]; have := j (by omega); omega⟩)
        have h := h k168
        refine sv_aload_n hM dX12_stepOther_311 rfl rfl ?_
        refine sv_iload_n hM dX12_stepOther_312 rfl rfl ?_
        refine sv_iload hM dX12_stepOther_313 rfl rfl ?_
        obtain ⟨o169, h⟩ := h
        refine sv_callV hM dX12_stepOther_315 sm_iv_897 (by decide) (sm_a0 _) rfl rfl (Nat.le_of_ble_eq_true rfl) sm_h156 (Nat.le_of_ble_eq_true rfl) (Nat.le_of_ble_eq_true rfl) (F' := 2) (Nat.le_of_ble_eq_true rfl) rfl (t_toss_ s3 s5 S hok hs3 hs5 o169) (fun v S1 hq => ?_)
        obtain ⟨rfl, ok171, md172, hpo173⟩ := hq
        obtain ⟨g170, rfl⟩ : ∃ g, S1 = sv_sts S [1092, 60, 58, 57, 63, 64, 1073, 1109, 1110] g := ⟨_, md172.eq⟩
        show sv_T sm_XS sm_cs sm_L sm_sh 3 (q_stepOther p1 p2 S) 161 318 [(0, .ref 0), (1, sv_I p1), (2, sv_I p2), (3, sv_I s3), (4, sv_I s5), (5, sv_I ((S 1092 0) - (1 : Int)))] [] (sv_sts S [1092, 60, 58, 57, 63, 64, 1073, 1109, 1110] g170)
        have md174 : sv_mod [1092, 60, 58, 57, 63, 64, 1073, 1109, 1110, 65, 66, 61, 62] S (sv_sts S [1092, 60, 58, 57, 63, 64, 1073, 1109, 1110] g170) := sv_mod.sts sv_mod.rf (by decide)
        have h := h g170 hpo173
        refine sv_goto hM dX12_stepOther_318 (pc' := 459) rfl ?_
        exact sv_vret hM dX12_stepOther_459 rfl ⟨rfl, ok171, md174, h⟩
      have J10 : (p1 = (27 : Int)) → sv_T sm_XS sm_cs sm_L sm_sh 3 (q_stepOther p1 p2 S) 161 321 [(0, .ref 0), (1, sv_I p1), (2, sv_I p2), (3, sv_I s3), (4, sv_I s5), (5, sv_I ((S 1092 0) - (1 : Int)))] [] S := by
        intro hc
        have h := hS.2.2.2.2.2.2.2.2.2.2.1 hc
        have k175 : (sm_CT (S 26) (S 27) (S 28) (S 29) (S 1100007) (S 1100023) (S 1100024) (S 1100025) (S 21) (S 1046 0) (S 1032 0) (S 1008 0) (S 1055 0) → 0 ≤ (S 1100033 0) → (S 1100033 0) < (S 1046 0) → ((S 26 (S 1100033 0)) = 27 → (S 1100024 (S 1100033 0)) < 40 ∧ (0 ≤ ((S 1100007 (S 1100033 0))) ∧ (0 ≤ (S 1100023 (S 1100033 0)) → (S 1100007 (S 1100023 (S 1100033 0))) ≤ ((S 1100007 (S 1100033 0)))) ∧ (0 ≤ (S 1100025 (S 1100033 0)) → (S 1100007 (S 1100025 (S 1100033 0))) ≤ ((S 1100007 (S 1100033 0))))) ∧ (0 ≤ ((S 1100033 0) + 1) ∧ ((S 1100033 0) + 1) < (S 1046 0) ∧ (S 29 ((S 1100033 0) + 1)) = ((S 29 (S 1100033 0))) ∧ (S 1100007 ((S 1100033 0) + 1)) = ((S 1100007 (S 1100033 0))) ∧ (S 1100023 ((S 1100033 0) + 1)) = (S 1100033 0) ∧ (S 1100025 ((S 1100033 0) + 1)) = ((S 1100025 (S 1100033 0)))) ∧ (0 ≤ ((S 27 (S 1100033 0))) ∧ ((S 27 (S 1100033 0))) < (S 1046 0) ∧ (S 29 ((S 27 (S 1100033 0)))) = ((S 29 (S 1100033 0))) ∧ (S 1100007 ((S 27 (S 1100033 0)))) = ((S 1100007 (S 1100033 0)) + 1) ∧ (S 1100023 ((S 27 (S 1100033 0)))) = ((S 1100023 (S 1100033 0))) ∧ (S 1100025 ((S 27 (S 1100033 0)))) = ((S 1100025 (S 1100033 0)))))) := fun h h0 h1 => sm_ct_24 h _ h0 h1
        have h := h k175
        have k176 : (sm_CT (S 26) (S 27) (S 28) (S 29) (S 1100007) (S 1100023) (S 1100024) (S 1100025) (S 21) (S 1046 0) (S 1032 0) (S 1008 0) (S 1055 0) → 0 ≤ (S 1100033 0) → (S 1100033 0) < (S 1046 0) → (S 1100024 (S 1100033 0)) = sm_dp (S 1100024) (S 1100023 (S 1100033 0))) := fun h a b => sm_dp_k h _ a b
        have h := h k176
        have k177 : (sm_CT (S 26) (S 27) (S 28) (S 29) (S 1100007) (S 1100023) (S 1100024) (S 1100025) (S 21) (S 1046 0) (S 1032 0) (S 1008 0) (S 1055 0) → 0 ≤ (S 1100033 0) → (S 1100033 0) < (S 1046 0) → 0 ≤ (S 1100024 (S 1100033 0)) ∧ (S 1100024 (S 1100033 0)) ≤ 40) := fun h a b => by have q := sm_ct_0 h _ a b; omega
        have h := h k177
        have k178 : (0 ≤ (S 1100033 0) → sm_dp (S 1100024) (S 1100033 0) = (S 1100024 (S 1100033 0)) + 1) := sm_dp_s
        have h := h k178
        refine sv_aload_n hM dX12_stepOther_321 rfl rfl ?_
        refine sv_getA hM dX12_stepOther_322 sm_fl_194 (sm_a0 _) sm_k101 rfl ?_
        refine sv_bipush (d := (40 : Int)) hM dX12_stepOther_325 rfl rfl ?_
        refine sv_iload hM dX12_stepOther_327 rfl rfl ?_
        refine sv_imul hM dX12_stepOther_329 rfl ?_
        refine sv_aload_n hM dX12_stepOther_330 rfl rfl ?_
        refine sv_getA hM dX12_stepOther_331 sm_fl_191 (sm_a0 _) sm_k100 rfl ?_
        refine sv_iload hM dX12_stepOther_334 rfl rfl ?_
        obtain ⟨o179, h⟩ := h
        have k180 : sv_R (S 60 ((S 1092 0) - (1 : Int))) := sm_okI hok sm_r60 ((S 1092 0) - (1 : Int))
        have h := h k180
        refine sv_iald hM dX12_stepOther_336 (sm_a60 _) (by decide) o179.1 o179.2 rfl (x := (S 60 ((S 1092 0) - (1 : Int)))) rfl ?_
        refine sv_iadd hM dX12_stepOther_337 rfl ?_
        refine sv_iload_n hM dX12_stepOther_338 rfl rfl ?_
        obtain ⟨o181, h⟩ := h
        refine sv_iast sm_X hM dX12_stepOther_339 (sm_a61 _) (by decide) o181.1 o181.2 rfl ?_
        have ok182 : sm_ok (sv_up S 61 (((40 : Int) * ((S 1092 0) - (1 : Int))) + (S 60 ((S 1092 0) - (1 : Int)))) p2) := sm_upI hok sm_r61 hp2
        have md183 : sv_mod [1092, 60, 58, 57, 63, 64, 1073, 1109, 1110, 65, 66, 61, 62] S (sv_up S 61 (((40 : Int) * ((S 1092 0) - (1 : Int))) + (S 60 ((S 1092 0) - (1 : Int)))) p2) := sv_mod.up sv_mod.rf (by decide)
        refine sv_aload_n hM dX12_stepOther_340 rfl rfl ?_
        refine sv_getA hM dX12_stepOther_341 sm_fl_197 (sm_a0 _) sm_k102 rfl ?_
        refine sv_bipush (d := (40 : Int)) hM dX12_stepOther_344 rfl rfl ?_
        refine sv_iload hM dX12_stepOther_346 rfl rfl ?_
        refine sv_imul hM dX12_stepOther_348 rfl ?_
        refine sv_aload_n hM dX12_stepOther_349 rfl rfl ?_
        refine sv_getA hM dX12_stepOther_350 sm_fl_191 (sm_a0 _) sm_k100 rfl ?_
        refine sv_iload hM dX12_stepOther_353 rfl rfl ?_
        refine sv_iald hM dX12_stepOther_355 (sm_a60 _) (by decide) o179.1 o179.2 rfl (x := (S 60 ((S 1092 0) - (1 : Int)))) rfl ?_
        refine sv_iadd hM dX12_stepOther_356 rfl ?_
        refine sv_aload_n hM dX12_stepOther_357 rfl rfl ?_
        refine sv_getA hM dX12_stepOther_358 sm_fl_185 (sm_a0 _) sm_k98 rfl ?_
        refine sv_iload hM dX12_stepOther_361 rfl rfl ?_
        have k184 : sv_R (S 58 ((S 1092 0) - (1 : Int))) := sm_okI ok182 sm_r58 ((S 1092 0) - (1 : Int))
        have h := h k184
        refine sv_iald hM dX12_stepOther_363 (sm_a58 _) (by decide) o179.1 o179.2 rfl (x := (S 58 ((S 1092 0) - (1 : Int)))) rfl ?_
        refine sv_iast sm_X hM dX12_stepOther_364 (sm_a62 _) (by decide) o181.1 o181.2 rfl ?_
        have ok185 : sm_ok (sv_up (sv_up S 61 (((40 : Int) * ((S 1092 0) - (1 : Int))) + (S 60 ((S 1092 0) - (1 : Int)))) p2) 62 (((40 : Int) * ((S 1092 0) - (1 : Int))) + (S 60 ((S 1092 0) - (1 : Int)))) (S 58 ((S 1092 0) - (1 : Int)))) := sm_upI ok182 sm_r62 k184
        have md186 : sv_mod [1092, 60, 58, 57, 63, 64, 1073, 1109, 1110, 65, 66, 61, 62] S (sv_up (sv_up S 61 (((40 : Int) * ((S 1092 0) - (1 : Int))) + (S 60 ((S 1092 0) - (1 : Int)))) p2) 62 (((40 : Int) * ((S 1092 0) - (1 : Int))) + (S 60 ((S 1092 0) - (1 : Int)))) (S 58 ((S 1092 0) - (1 : Int)))) := sv_mod.up md183 (by decide)
        have k187 : (sm_TC (S 61) (S 62) (S 27) (S 1100007) (S 1100023) (S 1100024) (40 * ((S 1092 0) - 1)) (S 1100023 (S 1100033 0)) → 0 ≤ (S 1100033 0) → -1 ≤ (S 1100023 (S 1100033 0)) ∧ (S 1100023 (S 1100033 0)) < (S 1100033 0) → (S 1100024 (S 1100033 0)) = sm_dp (S 1100024) (S 1100023 (S 1100033 0)) → p2 = (S 27 (S 1100033 0)) → (S 58 ((S 1092 0) - 1)) = (S 1100007 (S 1100033 0)) → 40 * ((S 1092 0) - 1) + (S 60 ((S 1092 0) - 1)) = 40 * ((S 1092 0) - 1) + (S 1100024 (S 1100033 0)) → sm_TC (fun i' : Int => if i' = (((40 : Int) * ((S 1092 0) - (1 : Int))) + (S 60 ((S 1092 0) - (1 : Int)))) then p2 else (S 61) i') (fun i' : Int => if i' = (((40 : Int) * ((S 1092 0) - (1 : Int))) + (S 60 ((S 1092 0) - (1 : Int)))) then (S 58 ((S 1092 0) - (1 : Int))) else (S 62) i') (S 27) (S 1100007) (S 1100023) (S 1100024) (40 * ((S 1092 0) - 1)) (S 1100033 0)) := fun h a b c d e f => sm_TC_push h a b c d e f f
        have h := h k187
        refine sv_aload_n hM dX12_stepOther_365 rfl rfl ?_
        refine sv_getA hM dX12_stepOther_366 sm_fl_191 (sm_a0 _) sm_k100 rfl ?_
        refine sv_iload hM dX12_stepOther_369 rfl rfl ?_
        refine sv_dup2 hM dX12_stepOther_371 rfl ?_
        refine sv_iald hM dX12_stepOther_372 (sm_a60 _) (by decide) o179.1 o179.2 rfl (x := (S 60 ((S 1092 0) - (1 : Int)))) rfl ?_
        refine sv_iconst (d := (1 : Int)) hM dX12_stepOther_373 rfl rfl ?_
        refine sv_iadd hM dX12_stepOther_374 rfl ?_
        obtain ⟨o188, h⟩ := h
        refine sv_iast sm_X hM dX12_stepOther_375 (sm_a60 _) (by decide) o179.1 o179.2 rfl ?_
        have ok189 : sm_ok (sv_up (sv_up (sv_up S 61 (((40 : Int) * ((S 1092 0) - (1 : Int))) + (S 60 ((S 1092 0) - (1 : Int)))) p2) 62 (((40 : Int) * ((S 1092 0) - (1 : Int))) + (S 60 ((S 1092 0) - (1 : Int)))) (S 58 ((S 1092 0) - (1 : Int)))) 60 ((S 1092 0) - (1 : Int)) ((S 60 ((S 1092 0) - (1 : Int))) + (1 : Int))) := sm_upI ok185 sm_r60 o188
        have md190 : sv_mod [1092, 60, 58, 57, 63, 64, 1073, 1109, 1110, 65, 66, 61, 62] S (sv_up (sv_up (sv_up S 61 (((40 : Int) * ((S 1092 0) - (1 : Int))) + (S 60 ((S 1092 0) - (1 : Int)))) p2) 62 (((40 : Int) * ((S 1092 0) - (1 : Int))) + (S 60 ((S 1092 0) - (1 : Int)))) (S 58 ((S 1092 0) - (1 : Int)))) 60 ((S 1092 0) - (1 : Int)) ((S 60 ((S 1092 0) - (1 : Int))) + (1 : Int))) := sv_mod.up md186 (by decide)
        refine sv_aload_n hM dX12_stepOther_376 rfl rfl ?_
        obtain ⟨o191, h⟩ := h
        refine sv_callV hM dX12_stepOther_377 sm_iv_888 (by decide) (sm_a0 _) rfl rfl (Nat.le_of_ble_eq_true rfl) sm_h154 (Nat.le_of_ble_eq_true rfl) (Nat.le_of_ble_eq_true rfl) (F' := 0) (Nat.le_of_ble_eq_true rfl) rfl (t_goOn  (sv_up (sv_up (sv_up S 61 (((40 : Int) * ((S 1092 0) - (1 : Int))) + (S 60 ((S 1092 0) - (1 : Int)))) p2) 62 (((40 : Int) * ((S 1092 0) - (1 : Int))) + (S 60 ((S 1092 0) - (1 : Int)))) (S 58 ((S 1092 0) - (1 : Int)))) 60 ((S 1092 0) - (1 : Int)) ((S 60 ((S 1092 0) - (1 : Int))) + (1 : Int))) ok189 o191) (fun v S1 hq => ?_)
        obtain ⟨rfl, ok193, md194, hpo195⟩ := hq
        obtain ⟨g192, rfl⟩ : ∃ g, S1 = sv_sts (sv_up (sv_up (sv_up S 61 (((40 : Int) * ((S 1092 0) - (1 : Int))) + (S 60 ((S 1092 0) - (1 : Int)))) p2) 62 (((40 : Int) * ((S 1092 0) - (1 : Int))) + (S 60 ((S 1092 0) - (1 : Int)))) (S 58 ((S 1092 0) - (1 : Int)))) 60 ((S 1092 0) - (1 : Int)) ((S 60 ((S 1092 0) - (1 : Int))) + (1 : Int))) [57] g := ⟨_, md194.eq⟩
        show sv_T sm_XS sm_cs sm_L sm_sh 3 (q_stepOther p1 p2 S) 161 380 [(0, .ref 0), (1, sv_I p1), (2, sv_I p2), (3, sv_I s3), (4, sv_I s5), (5, sv_I ((S 1092 0) - (1 : Int)))] [] (sv_sts (sv_up (sv_up (sv_up S 61 (((40 : Int) * ((S 1092 0) - (1 : Int))) + (S 60 ((S 1092 0) - (1 : Int)))) p2) 62 (((40 : Int) * ((S 1092 0) - (1 : Int))) + (S 60 ((S 1092 0) - (1 : Int)))) (S 58 ((S 1092 0) - (1 : Int)))) 60 ((S 1092 0) - (1 : Int)) ((S 60 ((S 1092 0) - (1 : Int))) + (1 : Int))) [57] g192)
        have md196 : sv_mod [1092, 60, 58, 57, 63, 64, 1073, 1109, 1110, 65, 66, 61, 62] S (sv_sts (sv_up (sv_up (sv_up S 61 (((40 : Int) * ((S 1092 0) - (1 : Int))) + (S 60 ((S 1092 0) - (1 : Int)))) p2) 62 (((40 : Int) * ((S 1092 0) - (1 : Int))) + (S 60 ((S 1092 0) - (1 : Int)))) (S 58 ((S 1092 0) - (1 : Int)))) 60 ((S 1092 0) - (1 : Int)) ((S 60 ((S 1092 0) - (1 : Int))) + (1 : Int))) [57] g192) := sv_mod.sts md190 (by decide)
        have h := h g192 hpo195
        refine sv_goto hM dX12_stepOther_380 (pc' := 459) rfl ?_
        exact sv_vret hM dX12_stepOther_459 rfl ⟨rfl, ok193, md196, h⟩
      have J11 : (p1 = (28 : Int)) → sv_T sm_XS sm_cs sm_L sm_sh 3 (q_stepOther p1 p2 S) 161 383 [(0, .ref 0), (1, sv_I p1), (2, sv_I p2), (3, sv_I s3), (4, sv_I s5), (5, sv_I ((S 1092 0) - (1 : Int)))] [] S := by
        intro hc
        have h := hS.2.2.2.2.2.2.2.2.2.2.2.1 hc
        have k197 : (sm_CT (S 26) (S 27) (S 28) (S 29) (S 1100007) (S 1100023) (S 1100024) (S 1100025) (S 21) (S 1046 0) (S 1032 0) (S 1008 0) (S 1055 0) → 0 ≤ (S 1100033 0) → (S 1100033 0) < (S 1046 0) → ((S 26 (S 1100033 0)) = 28 → 0 ≤ (S 1100023 (S 1100033 0)) ∧ (0 ≤ ((S 1100007 (S 1100033 0))) ∧ (0 ≤ (S 1100023 (S 1100033 0)) → (S 1100007 (S 1100023 (S 1100033 0))) ≤ ((S 1100007 (S 1100033 0)))) ∧ (0 ≤ (S 1100025 (S 1100033 0)) → (S 1100007 (S 1100025 (S 1100033 0))) ≤ ((S 1100007 (S 1100033 0))))) ∧ (0 ≤ ((S 1100033 0) + 1) ∧ ((S 1100033 0) + 1) < (S 1046 0) ∧ (S 29 ((S 1100033 0) + 1)) = ((S 29 (S 1100033 0))) ∧ (S 1100007 ((S 1100033 0) + 1)) = ((S 1100007 (S 1100033 0))) ∧ (S 1100023 ((S 1100033 0) + 1)) = ((S 1100023 ((S 1100023 (S 1100033 0))))) ∧ (S 1100025 ((S 1100033 0) + 1)) = ((S 1100025 (S 1100033 0)))))) := fun h h0 h1 => sm_ct_25 h _ h0 h1
        have h := h k197
        have k198 : (sm_CT (S 26) (S 27) (S 28) (S 29) (S 1100007) (S 1100023) (S 1100024) (S 1100025) (S 21) (S 1046 0) (S 1032 0) (S 1008 0) (S 1055 0) → 0 ≤ (S 1100033 0) → (S 1100033 0) < (S 1046 0) → (0 ≤ (S 1100023 (S 1100033 0)) → (S 26 ((S 1100023 (S 1100033 0)))) = 27 ∧ (S 29 ((S 1100023 (S 1100033 0)))) = (S 29 (S 1100033 0)) ∧ (S 1100024 (S 1100033 0)) = (S 1100024 ((S 1100023 (S 1100033 0)))) + 1)) := fun h h0 h1 => sm_ct_1 h _ h0 h1
        have h := h k198
        have k199 : (sm_CT (S 26) (S 27) (S 28) (S 29) (S 1100007) (S 1100023) (S 1100024) (S 1100025) (S 21) (S 1046 0) (S 1032 0) (S 1008 0) (S 1055 0) → sm_TC (S 61) (S 62) (S 27) (S 1100007) (S 1100023) (S 1100024) (40 * ((S 1092 0) - 1)) (S 1100023 (S 1100033 0)) → 0 ≤ (S 1100023 (S 1100033 0)) → (S 1100023 (S 1100033 0)) < (S 1046 0) → (S 26 (S 1100023 (S 1100033 0))) = 27 → (0 ≤ (S 1100024 (S 1100023 (S 1100033 0))) ∧ (S 1100024 (S 1100023 (S 1100033 0))) < 40 ∧ sm_dp (S 1100024) (S 1100023 (S 1100033 0)) = (S 1100024 (S 1100023 (S 1100033 0))) + 1 ∧ (S 1100024 (S 1100023 (S 1100033 0))) = sm_dp (S 1100024) (S 1100023 (S 1100023 (S 1100033 0))) ∧ -1 ≤ (S 1100023 (S 1100023 (S 1100033 0))) ∧ (S 1100023 (S 1100023 (S 1100033 0))) < (S 1100023 (S 1100033 0))) ∧ ((S 61 (40 * ((S 1092 0) - 1) + (S 1100024 (S 1100023 (S 1100033 0))))) = (S 27 (S 1100023 (S 1100033 0))) ∧ (S 62 (40 * ((S 1092 0) - 1) + (S 1100024 (S 1100023 (S 1100033 0))))) = (S 1100007 (S 1100023 (S 1100033 0))) ∧ 0 ≤ (S 1100007 (S 1100023 (S 1100033 0))) ∧ (S 1100007 (S 1100023 (S 1100033 0))) ≤ 396) ∧ (0 ≤ (S 27 (S 1100023 (S 1100033 0))) ∧ (S 27 (S 1100023 (S 1100033 0))) < (S 1046 0) ∧ (S 29 (S 27 (S 1100023 (S 1100033 0)))) = (S 29 (S 1100023 (S 1100033 0))) ∧ (S 1100007 (S 27 (S 1100023 (S 1100033 0)))) = (S 1100007 (S 1100023 (S 1100033 0))) + 1 ∧ (S 1100023 (S 27 (S 1100023 (S 1100033 0)))) = (S 1100023 (S 1100023 (S 1100033 0))) ∧ (S 1100025 (S 27 (S 1100023 (S 1100033 0)))) = (S 1100025 (S 1100023 (S 1100033 0)))) ∧ sm_TC (S 61) (S 62) (S 27) (S 1100007) (S 1100023) (S 1100024) (40 * ((S 1092 0) - 1)) (S 1100023 (S 1100023 (S 1100033 0))) ∧ (-1 ≤ (S 1100025 (S 1100023 (S 1100033 0))) ∧ (S 1100025 (S 1100023 (S 1100033 0))) < (S 1100023 (S 1100033 0)) ∧ (0 ≤ (S 1100025 (S 1100023 (S 1100033 0))) → (S 26 (S 1100025 (S 1100023 (S 1100033 0)))) = 29 ∧ (S 1100007 (S 1100025 (S 1100023 (S 1100033 0)))) ≤ (S 1100007 (S 1100023 (S 1100033 0)))))) := fun c q a b d => sm_TC_hand c q a b d
        have h := h k199
        refine sv_aload_n hM dX12_stepOther_383 rfl rfl ?_
        refine sv_getA hM dX12_stepOther_384 sm_fl_191 (sm_a0 _) sm_k100 rfl ?_
        refine sv_iload hM dX12_stepOther_387 rfl rfl ?_
        refine sv_dup2 hM dX12_stepOther_389 rfl ?_
        obtain ⟨o200, h⟩ := h
        have k201 : sv_R (S 60 ((S 1092 0) - (1 : Int))) := sm_okI hok sm_r60 ((S 1092 0) - (1 : Int))
        have h := h k201
        refine sv_iald hM dX12_stepOther_390 (sm_a60 _) (by decide) o200.1 o200.2 rfl (x := (S 60 ((S 1092 0) - (1 : Int)))) rfl ?_
        refine sv_iconst (d := (1 : Int)) hM dX12_stepOther_391 rfl rfl ?_
        refine sv_isub hM dX12_stepOther_392 rfl ?_
        obtain ⟨o202, h⟩ := h
        refine sv_iast sm_X hM dX12_stepOther_393 (sm_a60 _) (by decide) o200.1 o200.2 rfl ?_
        have ok203 : sm_ok (sv_up S 60 ((S 1092 0) - (1 : Int)) ((S 60 ((S 1092 0) - (1 : Int))) - (1 : Int))) := sm_upI hok sm_r60 o202
        have md204 : sv_mod [1092, 60, 58, 57, 63, 64, 1073, 1109, 1110, 65, 66, 61, 62] S (sv_up S 60 ((S 1092 0) - (1 : Int)) ((S 60 ((S 1092 0) - (1 : Int))) - (1 : Int))) := sv_mod.up sv_mod.rf (by decide)
        refine sv_aload_n hM dX12_stepOther_394 rfl rfl ?_
        obtain ⟨o205, h⟩ := h
        refine sv_callV hM dX12_stepOther_395 sm_iv_888 (by decide) (sm_a0 _) rfl rfl (Nat.le_of_ble_eq_true rfl) sm_h154 (Nat.le_of_ble_eq_true rfl) (Nat.le_of_ble_eq_true rfl) (F' := 0) (Nat.le_of_ble_eq_true rfl) rfl (t_goOn  (sv_up S 60 ((S 1092 0) - (1 : Int)) ((S 60 ((S 1092 0) - (1 : Int))) - (1 : Int))) ok203 o205) (fun v S1 hq => ?_)
        obtain ⟨rfl, ok207, md208, hpo209⟩ := hq
        obtain ⟨g206, rfl⟩ : ∃ g, S1 = sv_sts (sv_up S 60 ((S 1092 0) - (1 : Int)) ((S 60 ((S 1092 0) - (1 : Int))) - (1 : Int))) [57] g := ⟨_, md208.eq⟩
        show sv_T sm_XS sm_cs sm_L sm_sh 3 (q_stepOther p1 p2 S) 161 398 [(0, .ref 0), (1, sv_I p1), (2, sv_I p2), (3, sv_I s3), (4, sv_I s5), (5, sv_I ((S 1092 0) - (1 : Int)))] [] (sv_sts (sv_up S 60 ((S 1092 0) - (1 : Int)) ((S 60 ((S 1092 0) - (1 : Int))) - (1 : Int))) [57] g206)
        have md210 : sv_mod [1092, 60, 58, 57, 63, 64, 1073, 1109, 1110, 65, 66, 61, 62] S (sv_sts (sv_up S 60 ((S 1092 0) - (1 : Int)) ((S 60 ((S 1092 0) - (1 : Int))) - (1 : Int))) [57] g206) := sv_mod.sts md204 (by decide)
        have h := h g206 hpo209
        refine sv_goto hM dX12_stepOther_398 (pc' := 459) rfl ?_
        exact sv_vret hM dX12_stepOther_459 rfl ⟨rfl, ok207, md210, h⟩
      have J12 : (p1 = (29 : Int)) → sv_T sm_XS sm_cs sm_L sm_sh 3 (q_stepOther p1 p2 S) 161 401 [(0, .ref 0), (1, sv_I p1), (2, sv_I p2), (3, sv_I s3), (4, sv_I s5), (5, sv_I ((S 1092 0) - (1 : Int)))] [] S := by
        intro hc
        have h := hS.2.2.2.2.2.2.2.2.2.2.2.2 hc
        have k211 : (sm_CT (S 26) (S 27) (S 28) (S 29) (S 1100007) (S 1100023) (S 1100024) (S 1100025) (S 21) (S 1046 0) (S 1032 0) (S 1008 0) (S 1055 0) → 0 ≤ (S 1100033 0) → (S 1100033 0) < (S 1046 0) → ((S 26 (S 1100033 0)) = 29 → (0 ≤ ((S 1100007 (S 1100033 0)) - 1) ∧ (0 ≤ (S 1100023 (S 1100033 0)) → (S 1100007 (S 1100023 (S 1100033 0))) ≤ ((S 1100007 (S 1100033 0)) - 1)) ∧ (0 ≤ (S 1100025 (S 1100033 0)) → (S 1100007 (S 1100025 (S 1100033 0))) ≤ ((S 1100007 (S 1100033 0)) - 1))) ∧ (0 ≤ ((S 1100033 0) + 1) ∧ ((S 1100033 0) + 1) < (S 1046 0) ∧ (S 29 ((S 1100033 0) + 1)) = ((S 29 (S 1100033 0))) ∧ (S 1100007 ((S 1100033 0) + 1)) = ((S 1100007 (S 1100033 0))) ∧ (S 1100023 ((S 1100033 0) + 1)) = ((S 1100023 (S 1100033 0))) ∧ (S 1100025 ((S 1100033 0) + 1)) = (S 1100033 0)))) := fun h h0 h1 => sm_ct_26 h _ h0 h1
        have h := h k211
        have k212 : ((S 1100034 0) = (S 1100025 (S 1100033 0)) → (S 58 ((S 1092 0) - 1)) = (S 1100007 (S 1100033 0)) → (0 ≤ (S 1100025 (S 1100033 0)) → (S 1100007 (S 1100025 (S 1100033 0))) ≤ (S 1100007 (S 1100033 0)) - 1) → (0 ≤ (S 1100034 0) → (S 1100007 (S 1100034 0)) ≤ (S 58 ((S 1092 0) - 1)) - 1)) := fun q f j z => by rw [q] at z ⊢; have := j z; omega
        have h := h k212
        have k213 : (sm_SK (S 63) (S 64) (S 44) (S 1100007) (S 1100025) (S 1076 0) (S 1007 0) (400 * ((S 1092 0) - 1)) ((S 58 ((S 1092 0) - 1))) ((S 1100034 0)) → sm_LS (S 26) (S 1100007) (S 1100025) (S 1046 0) → 0 ≤ (S 58 ((S 1092 0) - 1)) - 1 → (S 58 ((S 1092 0) - 1)) - 1 < (S 58 ((S 1092 0) - 1)) → (S 1100034 0) < (S 1046 0) → (S 1100034 0) = (S 1100025 (S 1100033 0)) → (S 58 ((S 1092 0) - 1)) = (S 1100007 (S 1100033 0)) → (0 ≤ (S 1100034 0) → (S 26 (S 1100034 0)) = 29) → (0 ≤ (S 1100025 (S 1100033 0)) → (S 1100007 (S 1100025 (S 1100033 0))) ≤ (S 1100007 (S 1100033 0)) - 1) → sm_VO (S 44) (S 1076 0) (S 1007 0) ((S 63 (400 * ((S 1092 0) - 1) + ((S 58 ((S 1092 0) - 1)) - 1)))) ((S 64 (400 * ((S 1092 0) - 1) + ((S 58 ((S 1092 0) - 1)) - 1))))) := fun h a b e g q f i j => sm_SK_at h a _ b e g (fun z => ⟨i z, by rw [q]; have := j (by omega); omega⟩)
        have h := h k213
        refine sv_aload_n hM dX12_stepOther_401 rfl rfl ?_
        refine sv_iconst (d := (1 : Int)) hM dX12_stepOther_402 rfl rfl ?_
        obtain ⟨o214, h⟩ := h
        refine sv_callV hM dX12_stepOther_403 sm_iv_882 (by decide) (sm_a0 _) rfl rfl (Nat.le_of_ble_eq_true rfl) sm_h153 (Nat.le_of_ble_eq_true rfl) (Nat.le_of_ble_eq_true rfl) (F' := 0) (Nat.le_of_ble_eq_true rfl) rfl (t_drop (1 : Int) S hok (⟨by decide, by decide⟩ : sv_R (1 : Int)) o214) (fun v S1 hq => ?_)
        obtain ⟨rfl, ok216, md217, hpo218⟩ := hq
        obtain ⟨g215, rfl⟩ : ∃ g, S1 = sv_sts S [58] g := ⟨_, md217.eq⟩
        show sv_T sm_XS sm_cs sm_L sm_sh 3 (q_stepOther p1 p2 S) 161 406 [(0, .ref 0), (1, sv_I p1), (2, sv_I p2), (3, sv_I s3), (4, sv_I s5), (5, sv_I ((S 1092 0) - (1 : Int)))] [] (sv_sts S [58] g215)
        have md219 : sv_mod [1092, 60, 58, 57, 63, 64, 1073, 1109, 1110, 65, 66, 61, 62] S (sv_sts S [58] g215) := sv_mod.sts sv_mod.rf (by decide)
        have h := h g215 hpo218
        refine sv_aload_n hM dX12_stepOther_406 rfl rfl ?_
        refine sv_getA hM dX12_stepOther_407 sm_fl_206 (sm_a0 _) sm_k105 rfl ?_
        refine sv_aload_n hM dX12_stepOther_410 rfl rfl ?_
        obtain ⟨o220, h⟩ := h
        refine sv_callV hM dX12_stepOther_411 sm_iv_879 (by decide) (sm_a0 _) rfl rfl (Nat.le_of_ble_eq_true rfl) sm_h149 (Nat.le_of_ble_eq_true rfl) (Nat.le_of_ble_eq_true rfl) (F' := 0) (Nat.le_of_ble_eq_true rfl) rfl (t_top  (sv_sts S [58] g215) ok216 o220) (fun v S1 hq => ?_)
        obtain ⟨rfl, hS1⟩ := hq
        obtain rfl : (sv_sts S [58] g215) = S1 := hS1.symm
        show sv_T sm_XS sm_cs sm_L sm_sh 3 (q_stepOther p1 p2 S) 161 414 [(0, .ref 0), (1, sv_I p1), (2, sv_I p2), (3, sv_I s3), (4, sv_I s5), (5, sv_I ((S 1092 0) - (1 : Int)))] [sv_I ((400 * ((S 1092 0) - 1) + (g215 58 ((S 1092 0) - 1)))), .ref 65] (sv_sts S [58] g215)
        refine sv_iconst (d := (0 : Int)) hM dX12_stepOther_414 rfl rfl ?_
        obtain ⟨o221, h⟩ := h
        refine sv_iast sm_X hM dX12_stepOther_415 (sm_a65 _) (by decide) o221.1 o221.2 rfl ?_
        have ok222 : sm_ok (sv_up (sv_sts S [58] g215) 65 ((400 * ((S 1092 0) - 1) + (g215 58 ((S 1092 0) - 1)))) (0 : Int)) := sm_upI ok216 sm_r65 (⟨by decide, by decide⟩ : sv_R (0 : Int))
        have md223 : sv_mod [1092, 60, 58, 57, 63, 64, 1073, 1109, 1110, 65, 66, 61, 62] S (sv_up (sv_sts S [58] g215) 65 ((400 * ((S 1092 0) - 1) + (g215 58 ((S 1092 0) - 1)))) (0 : Int)) := sv_mod.up md219 (by decide)
        refine sv_aload_n hM dX12_stepOther_416 rfl rfl ?_
        refine sv_getA hM dX12_stepOther_417 sm_fl_209 (sm_a0 _) sm_k106 rfl ?_
        refine sv_aload_n hM dX12_stepOther_420 rfl rfl ?_
        refine sv_callV hM dX12_stepOther_421 sm_iv_879 (by decide) (sm_a0 _) rfl rfl (Nat.le_of_ble_eq_true rfl) sm_h149 (Nat.le_of_ble_eq_true rfl) (Nat.le_of_ble_eq_true rfl) (F' := 0) (Nat.le_of_ble_eq_true rfl) rfl (t_top  (sv_up (sv_sts S [58] g215) 65 ((400 * ((S 1092 0) - 1) + (g215 58 ((S 1092 0) - 1)))) (0 : Int)) ok222 o220) (fun v S1 hq => ?_)
        obtain ⟨rfl, hS1⟩ := hq
        obtain rfl : (sv_up (sv_sts S [58] g215) 65 ((400 * ((S 1092 0) - 1) + (g215 58 ((S 1092 0) - 1)))) (0 : Int)) = S1 := hS1.symm
        show sv_T sm_XS sm_cs sm_L sm_sh 3 (q_stepOther p1 p2 S) 161 424 [(0, .ref 0), (1, sv_I p1), (2, sv_I p2), (3, sv_I s3), (4, sv_I s5), (5, sv_I ((S 1092 0) - (1 : Int)))] [sv_I ((400 * ((S 1092 0) - 1) + (g215 58 ((S 1092 0) - 1)))), .ref 66] (sv_up (sv_sts S [58] g215) 65 ((400 * ((S 1092 0) - 1) + (g215 58 ((S 1092 0) - 1)))) (0 : Int))
        refine sv_aload_n hM dX12_stepOther_424 rfl rfl ?_
        have k224 : sv_R (S 1086 0) := sm_okI ok222 sm_r1086 0
        have h := h k224
        refine sv_getI hM dX12_stepOther_425 sm_fl_855 (sm_a0 _) sm_k86 rfl (x := (S 1086 0)) rfl ?_
        refine sv_iast sm_X hM dX12_stepOther_428 (sm_a66 _) (by decide) o221.1 o221.2 rfl ?_
        have ok225 : sm_ok (sv_up (sv_up (sv_sts S [58] g215) 65 ((400 * ((S 1092 0) - 1) + (g215 58 ((S 1092 0) - 1)))) (0 : Int)) 66 ((400 * ((S 1092 0) - 1) + (g215 58 ((S 1092 0) - 1)))) (S 1086 0)) := sm_upI ok222 sm_r66 k224
        have md226 : sv_mod [1092, 60, 58, 57, 63, 64, 1073, 1109, 1110, 65, 66, 61, 62] S (sv_up (sv_up (sv_sts S [58] g215) 65 ((400 * ((S 1092 0) - 1) + (g215 58 ((S 1092 0) - 1)))) (0 : Int)) 66 ((400 * ((S 1092 0) - 1) + (g215 58 ((S 1092 0) - 1)))) (S 1086 0)) := sv_mod.up md223 (by decide)
        refine sv_aload_n hM dX12_stepOther_429 rfl rfl ?_
        refine sv_bipush (d := (8 : Int)) hM dX12_stepOther_430 rfl rfl ?_
        refine sv_iload_n hM dX12_stepOther_432 rfl rfl ?_
        refine sv_bipush (d := (7 : Int)) hM dX12_stepOther_433 rfl rfl ?_
        refine sv_icmp_ne hM dX12_stepOther_435 hs3 (⟨by decide, by decide⟩ : sv_R (7 : Int)) (t := 443) rfl rfl (fun hc => ?_) (fun hc => ?_)
        · have h := h.1 (hc)
          refine sv_iconst (d := (-1 : Int)) hM dX12_stepOther_443 rfl rfl ?_
          obtain ⟨o227, h⟩ := h
          refine sv_callV hM dX12_stepOther_444 sm_iv_885 (by decide) (sm_a0 _) rfl rfl (Nat.le_of_ble_eq_true rfl) sm_h152 (Nat.le_of_ble_eq_true rfl) (Nat.le_of_ble_eq_true rfl) (F' := 1) (Nat.le_of_ble_eq_true rfl) rfl (t_push (8 : Int) (-1 : Int) (sv_up (sv_up (sv_sts S [58] g215) 65 ((400 * ((S 1092 0) - 1) + (g215 58 ((S 1092 0) - 1)))) (0 : Int)) 66 ((400 * ((S 1092 0) - 1) + (g215 58 ((S 1092 0) - 1)))) (S 1086 0)) ok225 (⟨by decide, by decide⟩ : sv_R (8 : Int)) (⟨by decide, by decide⟩ : sv_R (-1 : Int)) o227) (fun v S1 hq => ?_)
          obtain ⟨rfl, ok229, md230, hpo231⟩ := hq
          obtain ⟨g228, rfl⟩ : ∃ g, S1 = sv_sts (sv_up (sv_up (sv_sts S [58] g215) 65 ((400 * ((S 1092 0) - 1) + (g215 58 ((S 1092 0) - 1)))) (0 : Int)) 66 ((400 * ((S 1092 0) - 1) + (g215 58 ((S 1092 0) - 1)))) (S 1086 0)) [63, 64, 58] g := ⟨_, md230.eq⟩
          show sv_T sm_XS sm_cs sm_L sm_sh 3 (q_stepOther p1 p2 S) 161 447 [(0, .ref 0), (1, sv_I p1), (2, sv_I p2), (3, sv_I s3), (4, sv_I s5), (5, sv_I ((S 1092 0) - (1 : Int)))] [] (sv_sts (sv_up (sv_up (sv_sts S [58] g215) 65 ((400 * ((S 1092 0) - 1) + (g215 58 ((S 1092 0) - 1)))) (0 : Int)) 66 ((400 * ((S 1092 0) - 1) + (g215 58 ((S 1092 0) - 1)))) (S 1086 0)) [63, 64, 58] g228)
          have md232 : sv_mod [1092, 60, 58, 57, 63, 64, 1073, 1109, 1110, 65, 66, 61, 62] S (sv_sts (sv_up (sv_up (sv_sts S [58] g215) 65 ((400 * ((S 1092 0) - 1) + (g215 58 ((S 1092 0) - 1)))) (0 : Int)) 66 ((400 * ((S 1092 0) - 1) + (g215 58 ((S 1092 0) - 1)))) (S 1086 0)) [63, 64, 58] g228) := sv_mod.sts md226 (by decide)
          have h := h g228 hpo231
          refine sv_aload_n hM dX12_stepOther_447 rfl rfl ?_
          obtain ⟨o233, h⟩ := h
          refine sv_callV hM dX12_stepOther_448 sm_iv_888 (by decide) (sm_a0 _) rfl rfl (Nat.le_of_ble_eq_true rfl) sm_h154 (Nat.le_of_ble_eq_true rfl) (Nat.le_of_ble_eq_true rfl) (F' := 0) (Nat.le_of_ble_eq_true rfl) rfl (t_goOn  (sv_sts (sv_up (sv_up (sv_sts S [58] g215) 65 ((400 * ((S 1092 0) - 1) + (g215 58 ((S 1092 0) - 1)))) (0 : Int)) 66 ((400 * ((S 1092 0) - 1) + (g215 58 ((S 1092 0) - 1)))) (S 1086 0)) [63, 64, 58] g228) ok229 o233) (fun v S1 hq => ?_)
          obtain ⟨rfl, ok235, md236, hpo237⟩ := hq
          obtain ⟨g234, rfl⟩ : ∃ g, S1 = sv_sts (sv_sts (sv_up (sv_up (sv_sts S [58] g215) 65 ((400 * ((S 1092 0) - 1) + (g215 58 ((S 1092 0) - 1)))) (0 : Int)) 66 ((400 * ((S 1092 0) - 1) + (g215 58 ((S 1092 0) - 1)))) (S 1086 0)) [63, 64, 58] g228) [57] g := ⟨_, md236.eq⟩
          show sv_T sm_XS sm_cs sm_L sm_sh 3 (q_stepOther p1 p2 S) 161 451 [(0, .ref 0), (1, sv_I p1), (2, sv_I p2), (3, sv_I s3), (4, sv_I s5), (5, sv_I ((S 1092 0) - (1 : Int)))] [] (sv_sts (sv_sts (sv_up (sv_up (sv_sts S [58] g215) 65 ((400 * ((S 1092 0) - 1) + (g215 58 ((S 1092 0) - 1)))) (0 : Int)) 66 ((400 * ((S 1092 0) - 1) + (g215 58 ((S 1092 0) - 1)))) (S 1086 0)) [63, 64, 58] g228) [57] g234)
          have md238 : sv_mod [1092, 60, 58, 57, 63, 64, 1073, 1109, 1110, 65, 66, 61, 62] S (sv_sts (sv_sts (sv_up (sv_up (sv_sts S [58] g215) 65 ((400 * ((S 1092 0) - 1) + (g215 58 ((S 1092 0) - 1)))) (0 : Int)) 66 ((400 * ((S 1092 0) - 1) + (g215 58 ((S 1092 0) - 1)))) (S 1086 0)) [63, 64, 58] g228) [57] g234) := sv_mod.sts md232 (by decide)
          have h := h g234 hpo237
          refine sv_goto hM dX12_stepOther_451 (pc' := 459) rfl ?_
          exact sv_vret hM dX12_stepOther_459 rfl ⟨rfl, ok235, md238, h⟩
        · have h := h.2 (hc)
          refine sv_iload hM dX12_stepOther_438 rfl rfl ?_
          refine sv_goto hM dX12_stepOther_440 (pc' := 444) rfl ?_
          obtain ⟨o239, h⟩ := h
          refine sv_callV hM dX12_stepOther_444 sm_iv_885 (by decide) (sm_a0 _) rfl rfl (Nat.le_of_ble_eq_true rfl) sm_h152 (Nat.le_of_ble_eq_true rfl) (Nat.le_of_ble_eq_true rfl) (F' := 1) (Nat.le_of_ble_eq_true rfl) rfl (t_push (8 : Int) s5 (sv_up (sv_up (sv_sts S [58] g215) 65 ((400 * ((S 1092 0) - 1) + (g215 58 ((S 1092 0) - 1)))) (0 : Int)) 66 ((400 * ((S 1092 0) - 1) + (g215 58 ((S 1092 0) - 1)))) (S 1086 0)) ok225 (⟨by decide, by decide⟩ : sv_R (8 : Int)) hs5 o239) (fun v S1 hq => ?_)
          obtain ⟨rfl, ok241, md242, hpo243⟩ := hq
          obtain ⟨g240, rfl⟩ : ∃ g, S1 = sv_sts (sv_up (sv_up (sv_sts S [58] g215) 65 ((400 * ((S 1092 0) - 1) + (g215 58 ((S 1092 0) - 1)))) (0 : Int)) 66 ((400 * ((S 1092 0) - 1) + (g215 58 ((S 1092 0) - 1)))) (S 1086 0)) [63, 64, 58] g := ⟨_, md242.eq⟩
          show sv_T sm_XS sm_cs sm_L sm_sh 3 (q_stepOther p1 p2 S) 161 447 [(0, .ref 0), (1, sv_I p1), (2, sv_I p2), (3, sv_I s3), (4, sv_I s5), (5, sv_I ((S 1092 0) - (1 : Int)))] [] (sv_sts (sv_up (sv_up (sv_sts S [58] g215) 65 ((400 * ((S 1092 0) - 1) + (g215 58 ((S 1092 0) - 1)))) (0 : Int)) 66 ((400 * ((S 1092 0) - 1) + (g215 58 ((S 1092 0) - 1)))) (S 1086 0)) [63, 64, 58] g240)
          have md244 : sv_mod [1092, 60, 58, 57, 63, 64, 1073, 1109, 1110, 65, 66, 61, 62] S (sv_sts (sv_up (sv_up (sv_sts S [58] g215) 65 ((400 * ((S 1092 0) - 1) + (g215 58 ((S 1092 0) - 1)))) (0 : Int)) 66 ((400 * ((S 1092 0) - 1) + (g215 58 ((S 1092 0) - 1)))) (S 1086 0)) [63, 64, 58] g240) := sv_mod.sts md226 (by decide)
          have h := h g240 hpo243
          refine sv_aload_n hM dX12_stepOther_447 rfl rfl ?_
          obtain ⟨o245, h⟩ := h
          refine sv_callV hM dX12_stepOther_448 sm_iv_888 (by decide) (sm_a0 _) rfl rfl (Nat.le_of_ble_eq_true rfl) sm_h154 (Nat.le_of_ble_eq_true rfl) (Nat.le_of_ble_eq_true rfl) (F' := 0) (Nat.le_of_ble_eq_true rfl) rfl (t_goOn  (sv_sts (sv_up (sv_up (sv_sts S [58] g215) 65 ((400 * ((S 1092 0) - 1) + (g215 58 ((S 1092 0) - 1)))) (0 : Int)) 66 ((400 * ((S 1092 0) - 1) + (g215 58 ((S 1092 0) - 1)))) (S 1086 0)) [63, 64, 58] g240) ok241 o245) (fun v S1 hq => ?_)
          obtain ⟨rfl, ok247, md248, hpo249⟩ := hq
          obtain ⟨g246, rfl⟩ : ∃ g, S1 = sv_sts (sv_sts (sv_up (sv_up (sv_sts S [58] g215) 65 ((400 * ((S 1092 0) - 1) + (g215 58 ((S 1092 0) - 1)))) (0 : Int)) 66 ((400 * ((S 1092 0) - 1) + (g215 58 ((S 1092 0) - 1)))) (S 1086 0)) [63, 64, 58] g240) [57] g := ⟨_, md248.eq⟩
          show sv_T sm_XS sm_cs sm_L sm_sh 3 (q_stepOther p1 p2 S) 161 451 [(0, .ref 0), (1, sv_I p1), (2, sv_I p2), (3, sv_I s3), (4, sv_I s5), (5, sv_I ((S 1092 0) - (1 : Int)))] [] (sv_sts (sv_sts (sv_up (sv_up (sv_sts S [58] g215) 65 ((400 * ((S 1092 0) - 1) + (g215 58 ((S 1092 0) - 1)))) (0 : Int)) 66 ((400 * ((S 1092 0) - 1) + (g215 58 ((S 1092 0) - 1)))) (S 1086 0)) [63, 64, 58] g240) [57] g246)
          have md250 : sv_mod [1092, 60, 58, 57, 63, 64, 1073, 1109, 1110, 65, 66, 61, 62] S (sv_sts (sv_sts (sv_up (sv_up (sv_sts S [58] g215) 65 ((400 * ((S 1092 0) - 1) + (g215 58 ((S 1092 0) - 1)))) (0 : Int)) 66 ((400 * ((S 1092 0) - 1) + (g215 58 ((S 1092 0) - 1)))) (S 1086 0)) [63, 64, 58] g240) [57] g246) := sv_mod.sts md244 (by decide)
          have h := h g246 hpo249
          refine sv_goto hM dX12_stepOther_451 (pc' := 459) rfl ?_
          exact sv_vret hM dX12_stepOther_459 rfl ⟨rfl, ok247, md250, h⟩
      refine sv_tsw hM dX12_stepOther_66 hp1 (t := 454) rfl (fun hc => J0 (by rcases hc with hc | hc; exact Or.inl hc; exact Or.inr hc)) (fun hc => ?_)
      have hv : p1 = (17 : Int) ∨ p1 = (18 : Int) ∨ p1 = (19 : Int) ∨ p1 = (20 : Int) ∨ p1 = (21 : Int) ∨ p1 = (22 : Int) ∨ p1 = (23 : Int) ∨ p1 = (24 : Int) ∨ p1 = (25 : Int) ∨ p1 = (26 : Int) ∨ p1 = (27 : Int) ∨ p1 = (28 : Int) ∨ p1 = (29 : Int) := by omega
      rcases hv with hv | hv | hv | hv | hv | hv | hv | hv | hv | hv | hv | hv | hv
      · exact ⟨66, 132, by rw [hv]; rfl, rfl, J1 (by omega)⟩
      · exact ⟨78, 144, by rw [hv]; rfl, rfl, J2 (by omega)⟩
      · exact ⟨92, 158, by rw [hv]; rfl, rfl, J3 (by omega)⟩
      · exact ⟨128, 194, by rw [hv]; rfl, rfl, J4 (by omega)⟩
      · exact ⟨142, 208, by rw [hv]; rfl, rfl, J5 (by omega)⟩
      · exact ⟨153, 219, by rw [hv]; rfl, rfl, J6 (by omega)⟩
      · exact ⟨191, 257, by rw [hv]; rfl, rfl, J7 (by omega)⟩
      · exact ⟨191, 257, by rw [hv]; rfl, rfl, J7 (by omega)⟩
      · exact ⟨235, 301, by rw [hv]; rfl, rfl, J8 (by omega)⟩
      · exact ⟨245, 311, by rw [hv]; rfl, rfl, J9 (by omega)⟩
      · exact ⟨255, 321, by rw [hv]; rfl, rfl, J10 (by omega)⟩
      · exact ⟨317, 383, by rw [hv]; rfl, rfl, J11 (by omega)⟩
      · exact ⟨335, 401, by rw [hv]; rfl, rfl, J12 (by omega)⟩
    have h := h.2
    refine sv_iload_n hM dX12_stepOther_28 rfl rfl ?_
    refine sv_bipush (d := (21 : Int)) hM dX12_stepOther_29 rfl rfl ?_
    refine sv_icmp_eq hM dX12_stepOther_31 hp1 (⟨by decide, by decide⟩ : sv_R (21 : Int)) (t := 46) rfl rfl (fun hc => ?_) (fun hc => ?_)
    · have h := h.1 (hc)
      refine sv_iconst (d := (0 : Int)) hM dX12_stepOther_46 rfl rfl ?_
      refine sv_goto hM dX12_stepOther_47 (pc' := 55) rfl ?_
      have hb := J251 (0 : Int) (⟨by decide, by decide⟩ : sv_R (0 : Int)) h
      exact sv_less (lv := [(0, .ref 0), (1, sv_I p1), (2, sv_I p2), (3, sv_I s3)]) (sv_Sub_cons rfl (sv_Sub_cons rfl (sv_Sub_cons rfl (sv_Sub_cons rfl sv_Sub_nil)))) hb
    · have h := h.2 (hc)
      refine sv_iload_n hM dX12_stepOther_34 rfl rfl ?_
      refine sv_bipush (d := (27 : Int)) hM dX12_stepOther_35 rfl rfl ?_
      refine sv_icmp_eq hM dX12_stepOther_37 hp1 (⟨by decide, by decide⟩ : sv_R (27 : Int)) (t := 46) rfl rfl (fun hc => ?_) (fun hc => ?_)
      · have h := h.1 (hc)
        refine sv_iconst (d := (0 : Int)) hM dX12_stepOther_46 rfl rfl ?_
        refine sv_goto hM dX12_stepOther_47 (pc' := 55) rfl ?_
        have hb := J251 (0 : Int) (⟨by decide, by decide⟩ : sv_R (0 : Int)) h
        exact sv_less (lv := [(0, .ref 0), (1, sv_I p1), (2, sv_I p2), (3, sv_I s3)]) (sv_Sub_cons rfl (sv_Sub_cons rfl (sv_Sub_cons rfl (sv_Sub_cons rfl sv_Sub_nil)))) hb
      · have h := h.2 (hc)
        refine sv_iload_n hM dX12_stepOther_40 rfl rfl ?_
        refine sv_bipush (d := (28 : Int)) hM dX12_stepOther_41 rfl rfl ?_
        refine sv_icmp_ne hM dX12_stepOther_43 hp1 (⟨by decide, by decide⟩ : sv_R (28 : Int)) (t := 50) rfl rfl (fun hc => ?_) (fun hc => ?_)
        · have h := h.1 (hc)
          refine sv_aload_n hM dX12_stepOther_50 rfl rfl ?_
          refine sv_iconst (d := (0 : Int)) hM dX12_stepOther_51 rfl rfl ?_
          obtain ⟨o252, h⟩ := h
          refine sv_callV hM dX12_stepOther_52 sm_iv_913 (by decide) (sm_a0 _) rfl rfl (Nat.le_of_ble_eq_true rfl) sm_h151 (Nat.le_of_ble_eq_true rfl) (Nat.le_of_ble_eq_true rfl) (F' := 1) (Nat.le_of_ble_eq_true rfl) rfl (t_valueAt (0 : Int) S hok (⟨by decide, by decide⟩ : sv_R (0 : Int)) o252) (fun v S1 hq => ?_)
          obtain ⟨rfl, hS1⟩ := hq
          obtain rfl : S = S1 := hS1.symm
          show sv_T sm_XS sm_cs sm_L sm_sh 3 (q_stepOther p1 p2 S) 161 55 [(0, .ref 0), (1, sv_I p1), (2, sv_I p2), (3, sv_I s3)] [sv_I ((S 64 ((400 * ((S 1092 0) - 1) + (S 58 ((S 1092 0) - 1))) - 1 - (0 : Int))))] S
          have hb := J251 ((S 64 ((400 * ((S 1092 0) - 1) + (S 58 ((S 1092 0) - 1))) - 1 - (0 : Int)))) (sm_okI hok sm_r64 _) h
          exact sv_less (lv := [(0, .ref 0), (1, sv_I p1), (2, sv_I p2), (3, sv_I s3)]) (sv_Sub_cons rfl (sv_Sub_cons rfl (sv_Sub_cons rfl (sv_Sub_cons rfl sv_Sub_nil)))) hb
        · have h := h.2 (hc)
          refine sv_iconst (d := (0 : Int)) hM dX12_stepOther_46 rfl rfl ?_
          refine sv_goto hM dX12_stepOther_47 (pc' := 55) rfl ?_
          have hb := J251 (0 : Int) (⟨by decide, by decide⟩ : sv_R (0 : Int)) h
          exact sv_less (lv := [(0, .ref 0), (1, sv_I p1), (2, sv_I p2), (3, sv_I s3)]) (sv_Sub_cons rfl (sv_Sub_cons rfl (sv_Sub_cons rfl (sv_Sub_cons rfl sv_Sub_nil)))) hb
  have h := h.2
  have k254 : (sm_CT (S 26) (S 27) (S 28) (S 29) (S 1100007) (S 1100023) (S 1100024) (S 1100025) (S 21) (S 1046 0) (S 1032 0) (S 1008 0) (S 1055 0) → 0 ≤ (S 1100033 0) → (S 1100033 0) < (S 1046 0) → (0 ≤ (S 1100025 (S 1100033 0)) → (S 26 (S 1100025 (S 1100033 0))) = 29 ∧ (S 1100007 (S 1100025 (S 1100033 0))) ≤ (S 1100007 (S 1100033 0))) ∧ (0 ≤ (S 1100007 (S 1100033 0)) ∧ (S 1100007 (S 1100033 0)) ≤ 396 ∧ -1 ≤ (S 1100023 (S 1100033 0)) ∧ (S 1100023 (S 1100033 0)) < (S 1100033 0) ∧ -1 ≤ (S 1100025 (S 1100033 0)) ∧ (S 1100025 (S 1100033 0)) < (S 1100033 0) ∧ 0 ≤ (S 26 (S 1100033 0)) ∧ (S 26 (S 1100033 0)) ≤ 30)) := fun h a b => by have q := sm_ct_0 h _ a b; have w := sm_ct_3 h _ a b; exact ⟨fun z => ⟨(w z).1, (w z).2.2.1⟩, by omega⟩
  have h := h k254
  have k255 : ((S 1100034 0) = (S 1100025 (S 1100033 0)) → (S 58 ((S 1092 0) - 1)) = (S 1100007 (S 1100033 0)) → (0 ≤ (S 1100025 (S 1100033 0)) → (S 1100007 (S 1100025 (S 1100033 0))) ≤ (S 1100007 (S 1100033 0))) → (0 ≤ (S 1100034 0) → (S 1100007 (S 1100034 0)) ≤ (S 58 ((S 1092 0) - 1)))) := fun q f j z => by rw [q] at z ⊢; have := j z; omega
  have h := h k255
  refine sv_iload_n hM dX12_stepOther_0 rfl rfl ?_
  refine sv_bipush (d := (21 : Int)) hM dX12_stepOther_1 rfl rfl ?_
  refine sv_icmp_eq hM dX12_stepOther_3 hp1 (⟨by decide, by decide⟩ : sv_R (21 : Int)) (t := 18) rfl rfl (fun hc => ?_) (fun hc => ?_)
  · have h := h.1 (hc)
    refine sv_iconst (d := (0 : Int)) hM dX12_stepOther_18 rfl rfl ?_
    refine sv_goto hM dX12_stepOther_19 (pc' := 27) rfl ?_
    have hb := J253 (0 : Int) (⟨by decide, by decide⟩ : sv_R (0 : Int)) h
    exact sv_less (lv := [(0, .ref 0), (1, sv_I p1), (2, sv_I p2)]) (sv_Sub_cons rfl (sv_Sub_cons rfl (sv_Sub_cons rfl sv_Sub_nil))) hb
  · have h := h.2 (hc)
    refine sv_iload_n hM dX12_stepOther_6 rfl rfl ?_
    refine sv_bipush (d := (27 : Int)) hM dX12_stepOther_7 rfl rfl ?_
    refine sv_icmp_eq hM dX12_stepOther_9 hp1 (⟨by decide, by decide⟩ : sv_R (27 : Int)) (t := 18) rfl rfl (fun hc => ?_) (fun hc => ?_)
    · have h := h.1 (hc)
      refine sv_iconst (d := (0 : Int)) hM dX12_stepOther_18 rfl rfl ?_
      refine sv_goto hM dX12_stepOther_19 (pc' := 27) rfl ?_
      have hb := J253 (0 : Int) (⟨by decide, by decide⟩ : sv_R (0 : Int)) h
      exact sv_less (lv := [(0, .ref 0), (1, sv_I p1), (2, sv_I p2)]) (sv_Sub_cons rfl (sv_Sub_cons rfl (sv_Sub_cons rfl sv_Sub_nil))) hb
    · have h := h.2 (hc)
      refine sv_iload_n hM dX12_stepOther_12 rfl rfl ?_
      refine sv_bipush (d := (28 : Int)) hM dX12_stepOther_13 rfl rfl ?_
      refine sv_icmp_ne hM dX12_stepOther_15 hp1 (⟨by decide, by decide⟩ : sv_R (28 : Int)) (t := 22) rfl rfl (fun hc => ?_) (fun hc => ?_)
      · have h := h.1 (hc)
        refine sv_aload_n hM dX12_stepOther_22 rfl rfl ?_
        refine sv_iconst (d := (0 : Int)) hM dX12_stepOther_23 rfl rfl ?_
        obtain ⟨o256, h⟩ := h
        refine sv_callV hM dX12_stepOther_24 sm_iv_910 (by decide) (sm_a0 _) rfl rfl (Nat.le_of_ble_eq_true rfl) sm_h150 (Nat.le_of_ble_eq_true rfl) (Nat.le_of_ble_eq_true rfl) (F' := 1) (Nat.le_of_ble_eq_true rfl) rfl (t_sortAt (0 : Int) S hok (⟨by decide, by decide⟩ : sv_R (0 : Int)) o256) (fun v S1 hq => ?_)
        obtain ⟨rfl, hS1⟩ := hq
        obtain rfl : S = S1 := hS1.symm
        show sv_T sm_XS sm_cs sm_L sm_sh 3 (q_stepOther p1 p2 S) 161 27 [(0, .ref 0), (1, sv_I p1), (2, sv_I p2)] [sv_I ((S 63 ((400 * ((S 1092 0) - 1) + (S 58 ((S 1092 0) - 1))) - 1 - (0 : Int))))] S
        have hb := J253 ((S 63 ((400 * ((S 1092 0) - 1) + (S 58 ((S 1092 0) - 1))) - 1 - (0 : Int)))) (sm_okI hok sm_r63 _) h
        exact sv_less (lv := [(0, .ref 0), (1, sv_I p1), (2, sv_I p2)]) (sv_Sub_cons rfl (sv_Sub_cons rfl (sv_Sub_cons rfl sv_Sub_nil))) hb
      · have h := h.2 (hc)
        refine sv_iconst (d := (0 : Int)) hM dX12_stepOther_18 rfl rfl ?_
        refine sv_goto hM dX12_stepOther_19 (pc' := 27) rfl ?_
        have hb := J253 (0 : Int) (⟨by decide, by decide⟩ : sv_R (0 : Int)) h
        exact sv_less (lv := [(0, .ref 0), (1, sv_I p1), (2, sv_I p2)]) (sv_Sub_cons rfl (sv_Sub_cons rfl (sv_Sub_cons rfl sv_Sub_nil))) hb
