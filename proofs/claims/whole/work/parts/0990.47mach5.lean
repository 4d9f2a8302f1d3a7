theorem dX12_stepOther_0 : decode cX12_stepOther 0 = .ok (.iload_n 1, 1) := by decide +kernel
theorem dX12_stepOther_1 : decode cX12_stepOther 1 = .ok (.bipush 21, 2) := by decide +kernel
theorem dX12_stepOther_3 : decode cX12_stepOther 3 = .ok (.if_icmp .eq 15, 3) := by decide +kernel
theorem dX12_stepOther_6 : decode cX12_stepOther 6 = .ok (.iload_n 1, 1) := by decide +kernel
theorem dX12_stepOther_7 : decode cX12_stepOther 7 = .ok (.bipush 27, 2) := by decide +kernel
theorem dX12_stepOther_9 : decode cX12_stepOther 9 = .ok (.if_icmp .eq 9, 3) := by decide +kernel
theorem dX12_stepOther_12 : decode cX12_stepOther 12 = .ok (.iload_n 1, 1) := by decide +kernel
theorem dX12_stepOther_13 : decode cX12_stepOther 13 = .ok (.bipush 28, 2) := by decide +kernel
theorem dX12_stepOther_15 : decode cX12_stepOther 15 = .ok (.if_icmp .ne 7, 3) := by decide +kernel
theorem dX12_stepOther_18 : decode cX12_stepOther 18 = .ok (.iconst 0, 1) := by decide +kernel
theorem dX12_stepOther_19 : decode cX12_stepOther 19 = .ok (.goto 8, 3) := by decide +kernel
theorem dX12_stepOther_22 : decode cX12_stepOther 22 = .ok (.aload_n 0, 1) := by decide +kernel
theorem dX12_stepOther_23 : decode cX12_stepOther 23 = .ok (.iconst 0, 1) := by decide +kernel
theorem dX12_stepOther_24 : decode cX12_stepOther 24 = .ok (.invokevirtual 910, 3) := by decide +kernel
theorem dX12_stepOther_27 : decode cX12_stepOther 27 = .ok (.istore_n 3, 1) := by decide +kernel
theorem dX12_stepOther_28 : decode cX12_stepOther 28 = .ok (.iload_n 1, 1) := by decide +kernel
theorem dX12_stepOther_29 : decode cX12_stepOther 29 = .ok (.bipush 21, 2) := by decide +kernel
theorem dX12_stepOther_31 : decode cX12_stepOther 31 = .ok (.if_icmp .eq 15, 3) := by decide +kernel
theorem dX12_stepOther_34 : decode cX12_stepOther 34 = .ok (.iload_n 1, 1) := by decide +kernel
theorem dX12_stepOther_35 : decode cX12_stepOther 35 = .ok (.bipush 27, 2) := by decide +kernel
theorem dX12_stepOther_37 : decode cX12_stepOther 37 = .ok (.if_icmp .eq 9, 3) := by decide +kernel
theorem dX12_stepOther_40 : decode cX12_stepOther 40 = .ok (.iload_n 1, 1) := by decide +kernel
theorem dX12_stepOther_41 : decode cX12_stepOther 41 = .ok (.bipush 28, 2) := by decide +kernel
theorem dX12_stepOther_43 : decode cX12_stepOther 43 = .ok (.if_icmp .ne 7, 3) := by decide +kernel
theorem dX12_stepOther_46 : decode cX12_stepOther 46 = .ok (.iconst 0, 1) := by decide +kernel
theorem dX12_stepOther_47 : decode cX12_stepOther 47 = .ok (.goto 8, 3) := by decide +kernel
theorem dX12_stepOther_50 : decode cX12_stepOther 50 = .ok (.aload_n 0, 1) := by decide +kernel
theorem dX12_stepOther_51 : decode cX12_stepOther 51 = .ok (.iconst 0, 1) := by decide +kernel
theorem dX12_stepOther_52 : decode cX12_stepOther 52 = .ok (.invokevirtual 913, 3) := by decide +kernel
theorem dX12_stepOther_55 : decode cX12_stepOther 55 = .ok (.istore 4, 2) := by decide +kernel
theorem dX12_stepOther_57 : decode cX12_stepOther 57 = .ok (.aload_n 0, 1) := by decide +kernel
theorem dX12_stepOther_58 : decode cX12_stepOther 58 = .ok (.getfield 872, 3) := by decide +kernel
theorem dX12_stepOther_61 : decode cX12_stepOther 61 = .ok (.iconst 1, 1) := by decide +kernel
theorem dX12_stepOther_62 : decode cX12_stepOther 62 = .ok (.isub, 1) := by decide +kernel
theorem dX12_stepOther_63 : decode cX12_stepOther 63 = .ok (.istore 5, 2) := by decide +kernel
theorem dX12_stepOther_65 : decode cX12_stepOther 65 = .ok (.iload_n 1, 1) := by decide +kernel
theorem dX12_stepOther_66 : decode cX12_stepOther 66 = .ok (.tableswitch 388 17 29 #[66, 78, 92, 128, 142, 153, 191, 191, 235, 245, 255, 317, 335], 66) := by decide +kernel
theorem dX12_stepOther_132 : decode cX12_stepOther 132 = .ok (.aload_n 0, 1) := by decide +kernel
theorem dX12_stepOther_133 : decode cX12_stepOther 133 = .ok (.iconst 1, 1) := by decide +kernel
theorem dX12_stepOther_134 : decode cX12_stepOther 134 = .ok (.invokevirtual 882, 3) := by decide +kernel
theorem dX12_stepOther_137 : decode cX12_stepOther 137 = .ok (.aload_n 0, 1) := by decide +kernel
theorem dX12_stepOther_138 : decode cX12_stepOther 138 = .ok (.invokevirtual 888, 3) := by decide +kernel
theorem dX12_stepOther_141 : decode cX12_stepOther 141 = .ok (.goto 318, 3) := by decide +kernel
theorem dX12_stepOther_144 : decode cX12_stepOther 144 = .ok (.aload_n 0, 1) := by decide +kernel
theorem dX12_stepOther_145 : decode cX12_stepOther 145 = .ok (.iload_n 3, 1) := by decide +kernel
theorem dX12_stepOther_146 : decode cX12_stepOther 146 = .ok (.iload 4, 2) := by decide +kernel
theorem dX12_stepOther_148 : decode cX12_stepOther 148 = .ok (.invokevirtual 885, 3) := by decide +kernel
theorem dX12_stepOther_151 : decode cX12_stepOther 151 = .ok (.aload_n 0, 1) := by decide +kernel
theorem dX12_stepOther_152 : decode cX12_stepOther 152 = .ok (.invokevirtual 888, 3) := by decide +kernel
theorem dX12_stepOther_155 : decode cX12_stepOther 155 = .ok (.goto 304, 3) := by decide +kernel
theorem dX12_stepOther_158 : decode cX12_stepOther 158 = .ok (.aload_n 0, 1) := by decide +kernel
theorem dX12_stepOther_159 : decode cX12_stepOther 159 = .ok (.iconst 1, 1) := by decide +kernel
theorem dX12_stepOther_160 : decode cX12_stepOther 160 = .ok (.invokevirtual 910, 3) := by decide +kernel
theorem dX12_stepOther_163 : decode cX12_stepOther 163 = .ok (.istore 6, 2) := by decide +kernel
theorem dX12_stepOther_165 : decode cX12_stepOther 165 = .ok (.aload_n 0, 1) := by decide +kernel
theorem dX12_stepOther_166 : decode cX12_stepOther 166 = .ok (.iconst 1, 1) := by decide +kernel
theorem dX12_stepOther_167 : decode cX12_stepOther 167 = .ok (.invokevirtual 913, 3) := by decide +kernel
theorem dX12_stepOther_170 : decode cX12_stepOther 170 = .ok (.istore 7, 2) := by decide +kernel
theorem dX12_stepOther_172 : decode cX12_stepOther 172 = .ok (.aload_n 0, 1) := by decide +kernel
theorem dX12_stepOther_173 : decode cX12_stepOther 173 = .ok (.iload 6, 2) := by decide +kernel
theorem dX12_stepOther_175 : decode cX12_stepOther 175 = .ok (.iload 7, 2) := by decide +kernel
theorem dX12_stepOther_177 : decode cX12_stepOther 177 = .ok (.invokevirtual 885, 3) := by decide +kernel
theorem dX12_stepOther_180 : decode cX12_stepOther 180 = .ok (.aload_n 0, 1) := by decide +kernel
theorem dX12_stepOther_181 : decode cX12_stepOther 181 = .ok (.iload_n 3, 1) := by decide +kernel
theorem dX12_stepOther_182 : decode cX12_stepOther 182 = .ok (.iload 4, 2) := by decide +kernel
theorem dX12_stepOther_184 : decode cX12_stepOther 184 = .ok (.invokevirtual 885, 3) := by decide +kernel
theorem dX12_stepOther_187 : decode cX12_stepOther 187 = .ok (.aload_n 0, 1) := by decide +kernel
theorem dX12_stepOther_188 : decode cX12_stepOther 188 = .ok (.invokevirtual 888, 3) := by decide +kernel
theorem dX12_stepOther_191 : decode cX12_stepOther 191 = .ok (.goto 268, 3) := by decide +kernel
theorem dX12_stepOther_194 : decode cX12_stepOther 194 = .ok (.aload_n 0, 1) := by decide +kernel
theorem dX12_stepOther_195 : decode cX12_stepOther 195 = .ok (.iload_n 3, 1) := by decide +kernel
theorem dX12_stepOther_196 : decode cX12_stepOther 196 = .ok (.iload 4, 2) := by decide +kernel
theorem dX12_stepOther_198 : decode cX12_stepOther 198 = .ok (.invokevirtual 954, 3) := by decide +kernel
theorem dX12_stepOther_201 : decode cX12_stepOther 201 = .ok (.aload_n 0, 1) := by decide +kernel
theorem dX12_stepOther_202 : decode cX12_stepOther 202 = .ok (.invokevirtual 888, 3) := by decide +kernel
theorem dX12_stepOther_205 : decode cX12_stepOther 205 = .ok (.goto 254, 3) := by decide +kernel
theorem dX12_stepOther_208 : decode cX12_stepOther 208 = .ok (.aload_n 0, 1) := by decide +kernel
theorem dX12_stepOther_209 : decode cX12_stepOther 209 = .ok (.getfield 182, 3) := by decide +kernel
theorem dX12_stepOther_212 : decode cX12_stepOther 212 = .ok (.iload 5, 2) := by decide +kernel
theorem dX12_stepOther_214 : decode cX12_stepOther 214 = .ok (.iload_n 2, 1) := by decide +kernel
theorem dX12_stepOther_215 : decode cX12_stepOther 215 = .ok (.iastore, 1) := by decide +kernel
theorem dX12_stepOther_216 : decode cX12_stepOther 216 = .ok (.goto 243, 3) := by decide +kernel
theorem dX12_stepOther_219 : decode cX12_stepOther 219 = .ok (.aload_n 0, 1) := by decide +kernel
theorem dX12_stepOther_220 : decode cX12_stepOther 220 = .ok (.iconst 1, 1) := by decide +kernel
theorem dX12_stepOther_221 : decode cX12_stepOther 221 = .ok (.invokevirtual 882, 3) := by decide +kernel
theorem dX12_stepOther_224 : decode cX12_stepOther 224 = .ok (.aload_n 0, 1) := by decide +kernel
theorem dX12_stepOther_225 : decode cX12_stepOther 225 = .ok (.getfield 182, 3) := by decide +kernel
theorem dX12_stepOther_228 : decode cX12_stepOther 228 = .ok (.iload 5, 2) := by decide +kernel
theorem dX12_stepOther_230 : decode cX12_stepOther 230 = .ok (.aload_n 0, 1) := by decide +kernel
theorem dX12_stepOther_231 : decode cX12_stepOther 231 = .ok (.iload_n 3, 1) := by decide +kernel
theorem dX12_stepOther_232 : decode cX12_stepOther 232 = .ok (.iload 4, 2) := by decide +kernel
theorem dX12_stepOther_234 : decode cX12_stepOther 234 = .ok (.invokevirtual 824, 3) := by decide +kernel
theorem dX12_stepOther_237 : decode cX12_stepOther 237 = .ok (.ifCond .eq 15, 3) := by decide +kernel
theorem dX12_stepOther_240 : decode cX12_stepOther 240 = .ok (.aload_n 0, 1) := by decide +kernel
theorem dX12_stepOther_241 : decode cX12_stepOther 241 = .ok (.getfield 182, 3) := by decide +kernel
theorem dX12_stepOther_244 : decode cX12_stepOther 244 = .ok (.iload 5, 2) := by decide +kernel
theorem dX12_stepOther_246 : decode cX12_stepOther 246 = .ok (.iaload, 1) := by decide +kernel
theorem dX12_stepOther_247 : decode cX12_stepOther 247 = .ok (.iconst 1, 1) := by decide +kernel
theorem dX12_stepOther_248 : decode cX12_stepOther 248 = .ok (.iadd, 1) := by decide +kernel
theorem dX12_stepOther_249 : decode cX12_stepOther 249 = .ok (.goto 4, 3) := by decide +kernel
theorem dX12_stepOther_252 : decode cX12_stepOther 252 = .ok (.iload_n 2, 1) := by decide +kernel
theorem dX12_stepOther_253 : decode cX12_stepOther 253 = .ok (.iastore, 1) := by decide +kernel
theorem dX12_stepOther_254 : decode cX12_stepOther 254 = .ok (.goto 205, 3) := by decide +kernel
theorem dX12_stepOther_257 : decode cX12_stepOther 257 = .ok (.aload_n 0, 1) := by decide +kernel
theorem dX12_stepOther_258 : decode cX12_stepOther 258 = .ok (.iload_n 3, 1) := by decide +kernel
theorem dX12_stepOther_259 : decode cX12_stepOther 259 = .ok (.iload 4, 2) := by decide +kernel
theorem dX12_stepOther_261 : decode cX12_stepOther 261 = .ok (.invokevirtual 824, 3) := by decide +kernel
theorem dX12_stepOther_264 : decode cX12_stepOther 264 = .ok (.iload_n 1, 1) := by decide +kernel
theorem dX12_stepOther_265 : decode cX12_stepOther 265 = .ok (.bipush 23, 2) := by decide +kernel
theorem dX12_stepOther_267 : decode cX12_stepOther 267 = .ok (.if_icmp .ne 7, 3) := by decide +kernel
theorem dX12_stepOther_270 : decode cX12_stepOther 270 = .ok (.iconst 1, 1) := by decide +kernel
theorem dX12_stepOther_271 : decode cX12_stepOther 271 = .ok (.goto 4, 3) := by decide +kernel
theorem dX12_stepOther_274 : decode cX12_stepOther 274 = .ok (.iconst 0, 1) := by decide +kernel
theorem dX12_stepOther_275 : decode cX12_stepOther 275 = .ok (.if_icmp .ne 15, 3) := by decide +kernel
theorem dX12_stepOther_278 : decode cX12_stepOther 278 = .ok (.aload_n 0, 1) := by decide +kernel
theorem dX12_stepOther_279 : decode cX12_stepOther 279 = .ok (.iconst 1, 1) := by decide +kernel
theorem dX12_stepOther_280 : decode cX12_stepOther 280 = .ok (.invokevirtual 882, 3) := by decide +kernel
theorem dX12_stepOther_283 : decode cX12_stepOther 283 = .ok (.aload_n 0, 1) := by decide +kernel
theorem dX12_stepOther_284 : decode cX12_stepOther 284 = .ok (.invokevirtual 888, 3) := by decide +kernel
theorem dX12_stepOther_287 : decode cX12_stepOther 287 = .ok (.goto 172, 3) := by decide +kernel
theorem dX12_stepOther_290 : decode cX12_stepOther 290 = .ok (.aload_n 0, 1) := by decide +kernel
theorem dX12_stepOther_291 : decode cX12_stepOther 291 = .ok (.getfield 182, 3) := by decide +kernel
theorem dX12_stepOther_294 : decode cX12_stepOther 294 = .ok (.iload 5, 2) := by decide +kernel
theorem dX12_stepOther_296 : decode cX12_stepOther 296 = .ok (.iload_n 2, 1) := by decide +kernel
theorem dX12_stepOther_297 : decode cX12_stepOther 297 = .ok (.iastore, 1) := by decide +kernel
theorem dX12_stepOther_298 : decode cX12_stepOther 298 = .ok (.goto 161, 3) := by decide +kernel
theorem dX12_stepOther_301 : decode cX12_stepOther 301 = .ok (.aload_n 0, 1) := by decide +kernel
theorem dX12_stepOther_302 : decode cX12_stepOther 302 = .ok (.iload_n 3, 1) := by decide +kernel
theorem dX12_stepOther_303 : decode cX12_stepOther 303 = .ok (.iload 4, 2) := by decide +kernel
theorem dX12_stepOther_305 : decode cX12_stepOther 305 = .ok (.invokevirtual 957, 3) := by decide +kernel
theorem dX12_stepOther_308 : decode cX12_stepOther 308 = .ok (.goto 151, 3) := by decide +kernel
theorem dX12_stepOther_311 : decode cX12_stepOther 311 = .ok (.aload_n 0, 1) := by decide +kernel
theorem dX12_stepOther_312 : decode cX12_stepOther 312 = .ok (.iload_n 3, 1) := by decide +kernel
theorem dX12_stepOther_313 : decode cX12_stepOther 313 = .ok (.iload 4, 2) := by decide +kernel
theorem dX12_stepOther_315 : decode cX12_stepOther 315 = .ok (.invokevirtual 897, 3) := by decide +kernel
theorem dX12_stepOther_318 : decode cX12_stepOther 318 = .ok (.goto 141, 3) := by decide +kernel
theorem dX12_stepOther_321 : decode cX12_stepOther 321 = .ok (.aload_n 0, 1) := by decide +kernel
theorem dX12_stepOther_322 : decode cX12_stepOther 322 = .ok (.getfield 194, 3) := by decide +kernel
theorem dX12_stepOther_325 : decode cX12_stepOther 325 = .ok (.bipush 40, 2) := by decide +kernel
theorem dX12_stepOther_327 : decode cX12_stepOther 327 = .ok (.iload 5, 2) := by decide +kernel
theorem dX12_stepOther_329 : decode cX12_stepOther 329 = .ok (.imul, 1) := by decide +kernel
theorem dX12_stepOther_330 : decode cX12_stepOther 330 = .ok (.aload_n 0, 1) := by decide +kernel
theorem dX12_stepOther_331 : decode cX12_stepOther 331 = .ok (.getfield 191, 3) := by decide +kernel
theorem dX12_stepOther_334 : decode cX12_stepOther 334 = .ok (.iload 5, 2) := by decide +kernel
theorem dX12_stepOther_336 : decode cX12_stepOther 336 = .ok (.iaload, 1) := by decide +kernel
theorem dX12_stepOther_337 : decode cX12_stepOther 337 = .ok (.iadd, 1) := by decide +kernel
theorem dX12_stepOther_338 : decode cX12_stepOther 338 = .ok (.iload_n 2, 1) := by decide +kernel
theorem dX12_stepOther_339 : decode cX12_stepOther 339 = .ok (.iastore, 1) := by decide +kernel
theorem dX12_stepOther_340 : decode cX12_stepOther 340 = .ok (.aload_n 0, 1) := by decide +kernel
theorem dX12_stepOther_341 : decode cX12_stepOther 341 = .ok (.getfield 197, 3) := by decide +kernel
theorem dX12_stepOther_344 : decode cX12_stepOther 344 = .ok (.bipush 40, 2) := by decide +kernel
theorem dX12_stepOther_346 : decode cX12_stepOther 346 = .ok (.iload 5, 2) := by decide +kernel
theorem dX12_stepOther_348 : decode cX12_stepOther 348 = .ok (.imul, 1) := by decide +kernel
theorem dX12_stepOther_349 : decode cX12_stepOther 349 = .ok (.aload_n 0, 1) := by decide +kernel
theorem dX12_stepOther_350 : decode cX12_stepOther 350 = .ok (.getfield 191, 3) := by decide +kernel
theorem dX12_stepOther_353 : decode cX12_stepOther 353 = .ok (.iload 5, 2) := by decide +kernel
theorem dX12_stepOther_355 : decode cX12_stepOther 355 = .ok (.iaload, 1) := by decide +kernel
theorem dX12_stepOther_356 : decode cX12_stepOther 356 = .ok (.iadd, 1) := by decide +kernel
theorem dX12_stepOther_357 : decode cX12_stepOther 357 = .ok (.aload_n 0, 1) := by decide +kernel
theorem dX12_stepOther_358 : decode cX12_stepOther 358 = .ok (.getfield 185, 3) := by decide +kernel
theorem dX12_stepOther_361 : decode cX12_stepOther 361 = .ok (.iload 5, 2) := by decide +kernel
theorem dX12_stepOther_363 : decode cX12_stepOther 363 = .ok (.iaload, 1) := by decide +kernel
theorem dX12_stepOther_364 : decode cX12_stepOther 364 = .ok (.iastore, 1) := by decide +kernel
theorem dX12_stepOther_365 : decode cX12_stepOther 365 = .ok (.aload_n 0, 1) := by decide +kernel
theorem dX12_stepOther_366 : decode cX12_stepOther 366 = .ok (.getfield 191, 3) := by decide +kernel
theorem dX12_stepOther_369 : decode cX12_stepOther 369 = .ok (.iload 5, 2) := by decide +kernel
theorem dX12_stepOther_371 : decode cX12_stepOther 371 = .ok (.dup2, 1) := by decide +kernel
theorem dX12_stepOther_372 : decode cX12_stepOther 372 = .ok (.iaload, 1) := by decide +kernel
theorem dX12_stepOther_373 : decode cX12_stepOther 373 = .ok (.iconst 1, 1) := by decide +kernel
theorem dX12_stepOther_374 : decode cX12_stepOther 374 = .ok (.iadd, 1) := by decide +kernel
theorem dX12_stepOther_375 : decode cX12_stepOther 375 = .ok (.iastore, 1) := by decide +kernel
theorem dX12_stepOther_376 : decode cX12_stepOther 376 = .ok (.aload_n 0, 1) := by decide +kernel
theorem dX12_stepOther_377 : decode cX12_stepOther 377 = .ok (.invokevirtual 888, 3) := by decide +kernel
theorem dX12_stepOther_380 : decode cX12_stepOther 380 = .ok (.goto 79, 3) := by decide +kernel
theorem dX12_stepOther_383 : decode cX12_stepOther 383 = .ok (.aload_n 0, 1) := by decide +kernel
theorem dX12_stepOther_384 : decode cX12_stepOther 384 = .ok (.getfield 191, 3) := by decide +kernel
theorem dX12_stepOther_387 : decode cX12_stepOther 387 = .ok (.iload 5, 2) := by decide +kernel
theorem dX12_stepOther_389 : decode cX12_stepOther 389 = .ok (.dup2, 1) := by decide +kernel
theorem dX12_stepOther_390 : decode cX12_stepOther 390 = .ok (.iaload, 1) := by decide +kernel
theorem dX12_stepOther_391 : decode cX12_stepOther 391 = .ok (.iconst 1, 1) := by decide +kernel
theorem dX12_stepOther_392 : decode cX12_stepOther 392 = .ok (.isub, 1) := by decide +kernel
theorem dX12_stepOther_393 : decode cX12_stepOther 393 = .ok (.iastore, 1) := by decide +kernel
theorem dX12_stepOther_394 : decode cX12_stepOther 394 = .ok (.aload_n 0, 1) := by decide +kernel
theorem dX12_stepOther_395 : decode cX12_stepOther 395 = .ok (.invokevirtual 888, 3) := by decide +kernel
theorem dX12_stepOther_398 : decode cX12_stepOther 398 = .ok (.goto 61, 3) := by decide +kernel
theorem dX12_stepOther_401 : decode cX12_stepOther 401 = .ok (.aload_n 0, 1) := by decide +kernel
theorem dX12_stepOther_402 : decode cX12_stepOther 402 = .ok (.iconst 1, 1) := by decide +kernel
theorem dX12_stepOther_403 : decode cX12_stepOther 403 = .ok (.invokevirtual 882, 3) := by decide +kernel
theorem dX12_stepOther_406 : decode cX12_stepOther 406 = .ok (.aload_n 0, 1) := by decide +kernel
theorem dX12_stepOther_407 : decode cX12_stepOther 407 = .ok (.getfield 206, 3) := by decide +kernel
theorem dX12_stepOther_410 : decode cX12_stepOther 410 = .ok (.aload_n 0, 1) := by decide +kernel
theorem dX12_stepOther_411 : decode cX12_stepOther 411 = .ok (.invokevirtual 879, 3) := by decide +kernel
theorem dX12_stepOther_414 : decode cX12_stepOther 414 = .ok (.iconst 0, 1) := by decide +kernel
theorem dX12_stepOther_415 : decode cX12_stepOther 415 = .ok (.iastore, 1) := by decide +kernel
theorem dX12_stepOther_416 : decode cX12_stepOther 416 = .ok (.aload_n 0, 1) := by decide +kernel
theorem dX12_stepOther_417 : decode cX12_stepOther 417 = .ok (.getfield 209, 3) := by decide +kernel
theorem dX12_stepOther_420 : decode cX12_stepOther 420 = .ok (.aload_n 0, 1) := by decide +kernel
theorem dX12_stepOther_421 : decode cX12_stepOther 421 = .ok (.invokevirtual 879, 3) := by decide +kernel
theorem dX12_stepOther_424 : decode cX12_stepOther 424 = .ok (.aload_n 0, 1) := by decide +kernel
theorem dX12_stepOther_425 : decode cX12_stepOther 425 = .ok (.getfield 855, 3) := by decide +kernel
theorem dX12_stepOther_428 : decode cX12_stepOther 428 = .ok (.iastore, 1) := by decide +kernel
theorem dX12_stepOther_429 : decode cX12_stepOther 429 = .ok (.aload_n 0, 1) := by decide +kernel
theorem dX12_stepOther_430 : decode cX12_stepOther 430 = .ok (.bipush 8, 2) := by decide +kernel
theorem dX12_stepOther_432 : decode cX12_stepOther 432 = .ok (.iload_n 3, 1) := by decide +kernel
theorem dX12_stepOther_433 : decode cX12_stepOther 433 = .ok (.bipush 7, 2) := by decide +kernel
theorem dX12_stepOther_435 : decode cX12_stepOther 435 = .ok (.if_icmp .ne 8, 3) := by decide +kernel
theorem dX12_stepOther_438 : decode cX12_stepOther 438 = .ok (.iload 4, 2) := by decide +kernel
theorem dX12_stepOther_440 : decode cX12_stepOther 440 = .ok (.goto 4, 3) := by decide +kernel
theorem dX12_stepOther_443 : decode cX12_stepOther 443 = .ok (.iconst (-1), 1) := by decide +kernel
theorem dX12_stepOther_444 : decode cX12_stepOther 444 = .ok (.invokevirtual 885, 3) := by decide +kernel
theorem dX12_stepOther_447 : decode cX12_stepOther 447 = .ok (.aload_n 0, 1) := by decide +kernel
theorem dX12_stepOther_448 : decode cX12_stepOther 448 = .ok (.invokevirtual 888, 3) := by decide +kernel
theorem dX12_stepOther_451 : decode cX12_stepOther 451 = .ok (.goto 8, 3) := by decide +kernel
theorem dX12_stepOther_454 : decode cX12_stepOther 454 = .ok (.aload_n 0, 1) := by decide +kernel
theorem dX12_stepOther_455 : decode cX12_stepOther 455 = .ok (.iload_n 2, 1) := by decide +kernel
theorem dX12_stepOther_456 : decode cX12_stepOther 456 = .ok (.invokevirtual 960, 3) := by decide +kernel
theorem dX12_stepOther_459 : decode cX12_stepOther 459 = .ok (.return_, 1) := by decide +kernel

def q_stepOther (p1 : Int) (p2 : Int) (S : sv_S) : Option Value → sv_S → Prop := fun v S' => v = none ∧ sm_ok S' ∧ sv_mod [1092, 60, 58, 57, 63, 64, 1073, 1109, 1110, 65, 66, 61, 62] S S' ∧ (sm_PL (S' 1100020) (S' 51) (S' 52) (S' 46) (S' 47) (S' 1076 0) (S' 1086 0) ∧ sm_FR (S' 1100020) (S' 52) (S' 1100021) (S' 1100022) (3000 - (S' 1084 0)) (S' 1085 0) ∧ sm_PV (S' 1100020) (S' 48) (S' 49) (S' 50) (S' 44) (S' 1076 0) (S' 1007 0) ∧ sm_AL (S' 1100020) (S' 48) (S' 49) (S' 50) (S' 44) (S' 1076 0) (S' 1100032 0) ∧ sm_SV (S' 1100020) (S' 48) (S' 1100029) (S' 32) (S' 33) (S' 1076 0) (S' 1032 0) ∧ 0 ≤ (S' 1076 0) ∧ (S' 1076 0) ≤ 300 ∧ 0 ≤ (S' 1084 0) ∧ (S' 1084 0) ≤ 3000 ∧ 0 ≤ (S' 1086 0) ∧ sm_SC (S' 1100029) (S' 44) (S' 45) (S' 43) (S' 21) (S' 1076 0) (S' 1032 0) ∧ sm_PO (S' 42) (S' 1076 0) ∧ ((S' 1075 0) = 0 → (S' 1100032 0) = -1 ∧ sm_FO (S' 44) (S' 45) (S' 1076 0)) ∧ 23 ≤ (S' 1076 0) ∧ 31 ≤ (S' 1007 0) ∧ (S' 1007 0) ≤ 400 ∧ sm_LN (S' 4) 400 (S' 1007 0) ∧ (S' 1008 0) ≤ (S' 1007 0) ∧ ((S 1075 0) = 1 → (S' 1075 0) = 1) ∧ 0 ≤ (S' 1092 0) ∧ (S' 1092 0) ≤ 24 ∧ (S 1007 0) ≤ (S' 1007 0) ∧ (¬ (S' 1075 0) = 0 → sm_LX (S' 58) (S' 63) (S' 64) (S' 1092 0) (S' 1076 0)) ∧ ((S' 1075 0) = 0 → (S' 1073 0) = 1 → 1 ≤ (S' 1092 0) ∧ (S' 1092 0) ≤ 24 ∧ 0 ≤ (S' 57 ((S' 1092 0) - 1)) ∧ (S' 57 ((S' 1092 0) - 1)) < (S' 1046 0) ∧ (S' 29 (S' 57 ((S' 1092 0) - 1))) = (S' 53 ((S' 1092 0) - 1)) ∧ 0 ≤ (S' 53 ((S' 1092 0) - 1)) ∧ (S' 53 ((S' 1092 0) - 1)) < (S' 1032 0) ∧ (S' 60 ((S' 1092 0) - 1)) = sm_dp (S' 1100024) (S' 1100023 (S' 57 ((S' 1092 0) - 1))) ∧ sm_TC (S' 61) (S' 62) (S' 27) (S' 1100007) (S' 1100023) (S' 1100024) (40 * ((S' 1092 0) - 1)) (S' 1100023 (S' 57 ((S' 1092 0) - 1))) ∧ sm_LK (S' 1100029) (S' 1076 0) (S' 54 ((S' 1092 0) - 1)) (S' 53 ((S' 1092 0) - 1)) ∧ sm_VO (S' 44) (S' 1076 0) (S' 1007 0) ((S' 55 ((S' 1092 0) - 1))) ((S' 56 ((S' 1092 0) - 1))) ∧ sm_FW (S' 44) (S' 1076 0) (S' 59 ((S' 1092 0) - 1)) ∧ sm_FL (S' 53) (S' 54) (S' 55) (S' 56) (S' 57) (S' 58) (S' 59) (S' 60) (S' 61) (S' 62) (S' 63) (S' 64) (S' 27) (S' 29) (S' 1100007) (S' 1100023) (S' 1100024) (S' 1100025) (S' 26) (S' 1100029) (S' 44) (S' 1046 0) (S' 1032 0) (S' 1076 0) (S' 1007 0) (((S' 1092 0) - 1)) ∧ (S' 58 ((S' 1092 0) - 1)) = (S' 1100007 (S' 57 ((S' 1092 0) - 1))) ∧ sm_SK (S' 63) (S' 64) (S' 44) (S' 1100007) (S' 1100025) (S' 1076 0) (S' 1007 0) (400 * ((S' 1092 0) - 1)) ((S' 58 ((S' 1092 0) - 1))) ((S' 1100025 (S' 57 ((S' 1092 0) - 1))))) ∧ ((S' 1073 0) = 1 ∨ (S' 1092 0) = 0 ∧ (S' 1075 0) = 0 ∧ ((S' 1073 0) = 2 ∨ (S' 1073 0) = 3)))
theorem la_stepOther_0 {x0 : Int} (h0 : 17 ≤ x0) : ¬ x0 < 17 := by omega
theorem la_stepOther_1 {x0 : Int} (h0 : 29 < x0) : ¬ x0 = 21 := by omega
theorem la_stepOther_2 {x0 : Int} (h0 : 29 < x0) : ¬ (x0 = 21 ∨ x0 = 27 ∨ x0 = 28) := by omega
theorem la_stepOther_3 {x0 : Int} (h0 : 29 < x0) : ¬ x0 = 27 := by omega
theorem la_stepOther_4 {x0 : Int} (h0 : 29 < x0) : ¬ x0 = 28 := by omega
theorem la_stepOther_5 {x0 x1 : Int} (h0 : x0 = x1) (h1 : x1 ≤ 30) (h2 : 29 < x0) : x1 = 30 := by omega
theorem la_stepOther_6 {x0 x1 : Int} (h0 : x0 = x1) (h1 : 0 ≤ x1) : 0 ≤ x0 := by omega
theorem la_stepOther_7 {x0 x1 x2 : Int} (h0 : x0 = x1) : 0 ≤ x2 → x0 ≤ x1 := by omega
theorem la_stepOther_8 {x0 x1 : Int} : 400 * (x0 - 1) + x1 - 1 - 0 = 400 * (x0 - 1) + x1 - 1 := by omega
theorem la_stepOther_9 {x0 x1 x2 x3 : Int} (h0 : x0 = x1) (h1 : x2 = x1) (h2 : x3 ≤ x0) (h3 : x3 = x2) : x3 = x0 := by omega
theorem la_stepOther_10 {x0 x1 x2 : Int} (h0 : x0 = x1) (h1 : x2 = x1 + 1) : x2 = x0 + 1 := by omega
theorem la_stepOther_11 {x0 x1 x2 : Int} (h0 : x0 = x1) (h1 : x2 = x1) : x2 = x0 := by omega
theorem la_stepOther_12 {x0 x1 x2 : Int} (h0 : x0 = x1) (h1 : x1 < x2) : x0 < x2 := by omega
theorem la_stepOther_13 {x0 x1 x2 : Int} (h0 : x0 = x1) (h1 : x2 = x0) : x2 = x1 := by omega
theorem la_stepOther_14 {x0 x1 x2 x3 : Int} (h0 : x0 = x1) (h1 : x2 = x1 - 1) (h2 : x3 = x2) : x3 = x0 - 1 := by omega
theorem la_stepOther_15 {x0 x1 x2 x3 : Int} (h0 : x0 = x1) (h1 : x2 = x1) (h2 : x3 = x0) : x3 = x2 := by omega
theorem la_stepOther_16 {x0 : Int} (h0 : x0 = 0) : ¬ x0 = 1 := by omega
theorem la_stepOther_17 {x0 x1 x2 : Int} (h0 : x0 = 1) : ¬ (x1 = 0 ∧ x2 = 0 ∧ (x0 = 2 ∨ x0 = 3)) := by omega
theorem la_stepOther_18 {x0 : Int} (h0 : x0 = 0) : ¬ ¬ x0 = 0 := by omega
theorem la_stepOther_19 {x0 : Int} (h0 : x0 = 17) : ¬ x0 = 21 := by omega
theorem la_stepOther_20 {x0 : Int} (h0 : x0 = 17) : ¬ (x0 = 21 ∨ x0 = 27 ∨ x0 = 28) := by omega
theorem la_stepOther_21 {x0 : Int} (h0 : x0 = 17) : ¬ x0 = 27 := by omega
theorem la_stepOther_22 {x0 : Int} (h0 : x0 = 17) : ¬ x0 = 28 := by omega
theorem la_stepOther_23 {x0 x1 : Int} (h0 : 17 ≤ x0) (h1 : x0 = x1) (h2 : x0 = 17) : x1 = 17 := by omega
theorem la_stepOther_24 {x0 x1 : Int} (h0 : 1 ≤ x0) (h1 : x0 ≤ 24) (h2 : x1 ≤ 396) (h3 : 1 ≤ x1) : 1 ≤ x0 ∧ x0 ≤ 24 ∧ 0 ≤ x1 ∧ x1 ≤ 400 ∧ (0 : Int) ≤ 1 ∧ 1 ≤ x1 := by omega
theorem la_stepOther_25 {x0 x1 x2 x3 : Int} (h0 : x0 ≤ 600) (h1 : 1 ≤ x1) (h2 : x1 ≤ 24) (h3 : 0 ≤ x2) (h4 : x3 = x2) (h5 : x2 + 1 < x0) : 1 ≤ x1 ∧ x1 ≤ 24 ∧ 0 ≤ x3 ∧ x3 ≤ 600 := by omega
theorem la_stepOther_26 {x0 : Int} (h0 : x0 = 0) : x0 = 1 → x0 = 1 := by omega
theorem la_stepOther_27 {x0 : Int} (h0 : 1 ≤ x0) : 0 ≤ x0 := by omega
theorem la_stepOther_28 {x0 : Int} : x0 ≤ x0 := by omega
theorem la_stepOther_29 {x0 : Int} (h0 : x0 = 0) : x0 ≤ 0 := by omega
theorem la_stepOther_30 {x0 : Int} (h0 : x0 ≤ 0) (h1 : ¬ x0 = 0) : x0 < 0 := by omega
theorem la_stepOther_31 {x0 : Int} : ¬ ¬ x0 - 1 = x0 - 1 := by omega
theorem la_stepOther_32 {x0 : Int} (h0 : x0 = 0) (h1 : x0 < 0) : False := by omega
theorem la_stepOther_33 {x0 x1 x2 : Int} (h0 : 0 ≤ x0) (h1 : x1 = x0) (h2 : x2 = x1 + 1) : 0 ≤ x2 := by omega
theorem la_stepOther_34 {x0 x1 x2 x3 : Int} (h0 : x0 = x1) (h1 : x1 + 1 < x2) (h2 : x3 = x0 + 1) : x3 < x2 := by omega
theorem la_stepOther_35 {x0 x1 x2 : Int} (h0 : x0 = x1) (h1 : x2 = x0 + 1) : x2 = x1 + 1 := by omega
theorem la_stepOther_36 {x0 x1 x2 x3 : Int} (h0 : x0 = x1) (h1 : x2 = x0) (h2 : x3 = x2) : x3 = x1 := by omega
theorem la_stepOther_37 {x0 x1 x2 : Int} (h0 : x0 = x1) (h1 : x2 = x1) : x0 = x2 := by omega
theorem la_stepOther_38 {x0 x1 x2 : Int} (h0 : x0 = x1) (h1 : x2 = x0) : x1 = x2 := by omega
theorem la_stepOther_39 {x0 x1 x2 x3 x4 : Int} (h0 : x0 = x1) (h1 : x2 = x1 - 1) (h2 : x3 = x0 - 1) (h3 : x4 = x2) : x3 = x4 := by omega
theorem la_stepOther_40 {x0 : Int} : x0 - 1 ≤ x0 - 1 := by omega
theorem la_stepOther_41 {x0 x1 : Int} (h0 : x0 = x1 - 1) : x0 = x1 - 1 - 1 + 1 := by omega
theorem la_stepOther_42 {x0 x1 : Int} (h0 : x0 = x1 - 1) : x0 ≤ x1 - 1 := by omega
theorem la_stepOther_43 {x0 x1 x2 : Int} (h0 : x0 = 0) (h1 : x1 = 1) (h2 : 1 ≤ x2) : x1 = 1 ∨ x2 = 0 ∧ x0 = 0 ∧ (x1 = 2 ∨ x1 = 3) := by omega
theorem la_stepOther_44 {x0 : Int} (h0 : x0 = 18) : ¬ x0 = 21 := by omega
theorem la_stepOther_45 {x0 : Int} (h0 : x0 = 18) : ¬ (x0 = 21 ∨ x0 = 27 ∨ x0 = 28) := by omega
theorem la_stepOther_46 {x0 : Int} (h0 : x0 = 18) : ¬ x0 = 27 := by omega
theorem la_stepOther_47 {x0 : Int} (h0 : x0 = 18) : ¬ x0 = 28 := by omega
theorem la_stepOther_48 {x0 x1 : Int} (h0 : x0 = x1) (h1 : x0 = 18) : x1 = 18 := by omega
theorem la_stepOther_49 {x0 : Int} (h0 : 1 ≤ x0) : 0 ≤ x0 - 1 := by omega
theorem la_stepOther_50 {x0 : Int} : x0 - 1 < x0 := by omega
theorem la_stepOther_51 {x0 x1 : Int} (h0 : 1 ≤ x0) (h1 : x0 ≤ 24) (h2 : x1 ≤ 396) (h3 : 1 ≤ x1) : 1 ≤ x0 ∧ x0 ≤ 24 ∧ 0 ≤ x1 ∧ x1 ≤ 400 ∧ x1 < 400 := by omega
theorem la_stepOther_52 {x0 x1 : Int} : ¬ 400 * (x0 - 1) + x1 - 1 - 0 = 400 * (x0 - 1) + x1 := by omega
theorem la_stepOther_53 {x0 x1 : Int} : ¬ 400 * (x0 - 1) + (x1 - 1) = 400 * (x0 - 1) + x1 := by omega
theorem la_stepOther_54 {x0 x1 : Int} : ¬ ¬ 400 * (x0 - 1) + x1 = 400 * (x0 - 1) + x1 := by omega
theorem la_stepOther_55 {x0 x1 : Int} : 400 * (x0 - 1) + x1 - 1 - 0 = 400 * (x0 - 1) + (x1 - 1) := by omega
theorem la_stepOther_56 {x0 x1 : Int} (h0 : 1 ≤ x0) : 400 * (x1 - 1) ≤ 400 * (x1 - 1) + x0 := by omega
theorem la_stepOther_57 {x0 x1 x2 x3 x4 : Int} (h0 : x0 = x1) (h1 : x2 = x1 + 1) (h2 : x3 = x0 + 1) (h3 : x4 = x2) : x3 = x4 := by omega
theorem la_stepOther_58 {x0 x1 x2 x3 : Int} (h0 : x0 = x1) (h1 : x2 = x1) (h2 : x3 = x2) : x3 = x0 := by omega
theorem la_stepOther_59 {x0 x1 x2 x3 : Int} (h0 : x0 = x1) (h1 : x2 = x0) (h2 : x1 = x3) : x2 = x3 := by omega
theorem la_stepOther_60 {x0 x1 x2 x3 x4 x5 x6 x7 : Int} (h0 : 0 ≤ x0 → x1 = 29) (h1 : x2 = x3) (h2 : x0 = x4) (h3 : 0 ≤ x4 → x5 = 29 ∧ x6 ≤ x3) (h4 : x7 = x6) : 0 ≤ x0 → x1 = 29 ∧ x7 ≤ x2 := by omega
theorem la_stepOther_61 {x0 : Int} (h0 : x0 = 19) : ¬ x0 = 21 := by omega
theorem la_stepOther_62 {x0 : Int} (h0 : x0 = 19) : ¬ (x0 = 21 ∨ x0 = 27 ∨ x0 = 28) := by omega
theorem la_stepOther_63 {x0 : Int} (h0 : x0 = 19) : ¬ x0 = 27 := by omega
theorem la_stepOther_64 {x0 : Int} (h0 : x0 = 19) : ¬ x0 = 28 := by omega
theorem la_stepOther_65 {x0 x1 : Int} (h0 : x0 = x1) (h1 : x0 = 19) : x1 = 19 := by omega
theorem la_stepOther_66 {x0 x1 : Int} (h0 : x0 = x1) (h1 : 0 ≤ x1 - 2) : 0 ≤ x0 - 1 := by omega
theorem la_stepOther_67 {x0 x1 : Int} (h0 : x0 = x1) (h1 : 0 ≤ x1 - 2) : 0 ≤ x0 - 2 := by omega
theorem la_stepOther_68 {x0 : Int} : x0 - 2 < x0 := by omega
theorem la_stepOther_69 {x0 x1 x2 : Int} (h0 : 1 ≤ x0) (h1 : x0 ≤ 24) (h2 : x1 = x2) (h3 : x1 ≤ 396) (h4 : 0 ≤ x2 - 2) : 1 ≤ x0 ∧ x0 ≤ 24 ∧ 0 ≤ x1 ∧ x1 ≤ 400 ∧ (0 : Int) ≤ 1 ∧ 1 < x1 := by omega
theorem la_stepOther_70 {x0 x1 x2 : Int} (h0 : 1 ≤ x0) (h1 : x0 ≤ 24) (h2 : x1 = x2) (h3 : x1 ≤ 396) (h4 : 0 ≤ x2 - 2) : 1 ≤ x0 ∧ x0 ≤ 24 ∧ 0 ≤ x1 ∧ x1 ≤ 400 ∧ x1 < 400 := by omega
theorem la_stepOther_71 {x0 x1 x2 x3 : Int} (h0 : 1 ≤ x0) (h1 : x0 ≤ 24) (h2 : x1 = x2) (h3 : x1 ≤ 396) (h4 : 0 ≤ x2 - 2) (h5 : x3 = x1 + 1) : 1 ≤ x0 ∧ x0 ≤ 24 ∧ 0 ≤ x3 ∧ x3 ≤ 400 ∧ x3 < 400 := by omega
theorem la_stepOther_72 {x0 x1 : Int} : ¬ 400 * (x0 - 1) + x1 - 1 - 1 = 400 * (x0 - 1) + x1 := by omega
theorem la_stepOther_73 {x0 x1 : Int} : ¬ 400 * (x0 - 1) + (x1 - 2) = 400 * (x0 - 1) + x1 := by omega
theorem la_stepOther_74 {x0 x1 x2 : Int} (h0 : x0 = x1 + 1) : ¬ 400 * (x2 - 1) + x1 = 400 * (x2 - 1) + x0 := by omega
theorem la_stepOther_75 {x0 x1 x2 : Int} (h0 : x0 = x1 + 1) : ¬ 400 * (x2 - 1) + (x1 - 1) = 400 * (x2 - 1) + x0 := by omega
theorem la_stepOther_76 {x0 x1 x2 : Int} (h0 : x0 = x1 + 1) : ¬ 400 * (x2 - 1) + x1 - 1 - 0 = 400 * (x2 - 1) + x0 := by omega
theorem la_stepOther_77 {x0 x1 x2 : Int} (h0 : x0 = x1 + 1) : ¬ 400 * (x2 - 1) + x1 - 1 - 1 = 400 * (x2 - 1) + x0 := by omega
theorem la_stepOther_78 {x0 x1 x2 : Int} (h0 : x0 = x1 + 1) : ¬ 400 * (x2 - 1) + (x1 - 2) = 400 * (x2 - 1) + x0 := by omega
theorem la_stepOther_79 {x0 x1 : Int} : 400 * (x0 - 1) + x1 - 1 - 1 = 400 * (x0 - 1) + (x1 - 2) := by omega
theorem la_stepOther_80 {x0 x1 x2 x3 : Int} (h0 : x0 = x1) (h1 : 0 ≤ x1 - 2) (h2 : x2 = x0 + 1) : 400 * (x3 - 1) ≤ 400 * (x3 - 1) + x2 := by omega
theorem la_stepOther_81 {x0 x1 x2 : Int} (h0 : x0 = x1) (h1 : 0 ≤ x1 - 2) : 400 * (x2 - 1) ≤ 400 * (x2 - 1) + x0 := by omega
theorem la_stepOther_82 {x0 x1 x2 x3 x4 x5 : Int} (h0 : x0 = x1) (h1 : x2 = x1 + 2) (h2 : x3 = x0 + 1) (h3 : x4 = x3 + 1) (h4 : x5 = x2) : x4 = x5 := by omega
theorem la_stepOther_83 {x0 x1 x2 : Int} (h0 : x0 = x1 + 1) : 400 * (x2 - 1) + x1 ≤ 400 * (x2 - 1) + x0 := by omega
theorem la_stepOther_84 {x0 x1 x2 : Int} (h0 : x0 = x1 + 1) (h1 : x2 = x0 + 1) : x2 = x1 + 2 := by omega
theorem la_stepOther_85 {x0 x1 x2 x3 x4 : Int} (h0 : x0 = x1) (h1 : x2 = x1) (h2 : x3 = x2) (h3 : x0 = x4) : x3 = x4 := by omega
theorem la_stepOther_86 {x0 x1 x2 : Int} (h0 : x0 = x1 + 1) : 400 * (x2 - 1) + (x1 + 1) = 400 * (x2 - 1) + x0 := by omega
theorem la_stepOther_87 {x0 x1 x2 : Int} (h0 : x0 = x1) (h1 : x1 = x2) : x0 = x2 := by omega
theorem la_stepOther_88 {x0 x1 x2 : Int} (h0 : x0 = x1) (h1 : 0 ≤ x2) (h2 : x1 = x2) : 0 ≤ x0 := by omega
theorem la_stepOther_89 {x0 x1 x2 : Int} (h0 : x0 = x1) (h1 : x2 ≤ 7) (h2 : x1 = x2) : x0 ≤ 7 := by omega
theorem la_stepOther_90 {x0 x1 x2 x3 x4 x5 x6 x7 : Int} (h0 : 0 ≤ x0 → x1 = 29) (h1 : x2 = x3) (h2 : x0 = x4) (h3 : 0 ≤ x4 → x5 = 29 ∧ x6 ≤ x3) (h4 : x7 = x6) : 0 ≤ x0 → x1 = 29 ∧ x7 ≤ x2 + 1 := by omega
theorem la_stepOther_91 {x0 x1 x2 : Int} (h0 : x0 = x1 + 1) (h1 : x2 = x0 + 1) : x2 = x1 + 1 + 1 := by omega
theorem la_stepOther_92 {x0 : Int} (h0 : x0 = 20) : ¬ x0 = 21 := by omega
theorem la_stepOther_93 {x0 : Int} (h0 : x0 = 20) : ¬ (x0 = 21 ∨ x0 = 27 ∨ x0 = 28) := by omega
theorem la_stepOther_94 {x0 : Int} (h0 : x0 = 20) : ¬ x0 = 27 := by omega
theorem la_stepOther_95 {x0 : Int} (h0 : x0 = 20) : ¬ x0 = 28 := by omega
theorem la_stepOther_96 {x0 x1 : Int} (h0 : x0 = x1) (h1 : x0 = 20) : x1 = 20 := by omega
theorem la_stepOther_97 {x0 x1 : Int} (h0 : x0 = x1) (h1 : 0 ≤ x1 - 3) : 0 ≤ x0 - 1 := by omega
theorem la_stepOther_98 {x0 x1 : Int} (h0 : x0 = x1) (h1 : 0 ≤ x1 - 3) : 0 ≤ x0 - 2 := by omega
theorem la_stepOther_99 {x0 x1 : Int} (h0 : x0 = x1) (h1 : 0 ≤ x1 - 3) : 0 ≤ x0 - 3 := by omega
theorem la_stepOther_100 {x0 : Int} : x0 - 3 < x0 := by omega
theorem la_stepOther_101 {x0 x1 x2 : Int} (h0 : 1 ≤ x0) (h1 : x0 ≤ 24) (h2 : x1 = x2) (h3 : x1 ≤ 396) (h4 : 0 ≤ x2 - 3) : 1 ≤ x0 ∧ x0 ≤ 24 ∧ 0 ≤ x1 ∧ x1 ≤ 400 ∧ 3 ≤ x1 ∧ x1 < 400 := by omega
theorem la_stepOther_102 {x0 x1 : Int} : 400 * (x0 - 1) + x1 - 2 = 400 * (x0 - 1) + (x1 - 2) := by omega
theorem la_stepOther_103 {x0 x1 : Int} : 400 * (x0 - 1) + x1 - 3 = 400 * (x0 - 1) + (x1 - 3) := by omega
theorem la_stepOther_104 {x0 x1 x2 : Int} (h0 : x0 = x1) (h1 : 0 ≤ x1 - 3) : 400 * (x2 - 1) ≤ 400 * (x2 - 1) + x0 - 3 := by omega
theorem la_stepOther_105 {x0 x1 : Int} (h0 : x0 = x1 + 1) : x0 - 2 ≤ x1 := by omega
theorem la_stepOther_106 {x0 x1 : Int} (h0 : x0 = x1 + 1) : x0 - 3 ≤ x1 := by omega
theorem la_stepOther_107 {x0 x1 : Int} (h0 : x0 = x1 + 1) : x0 - 4 ≤ x1 := by omega
theorem la_stepOther_108 {x0 x1 x2 : Int} (h0 : x0 = x1 + 1) : 400 * (x2 - 1) + (x0 - 4) ≤ 400 * (x2 - 1) + x1 - 3 := by omega
theorem la_stepOther_109 {x0 x1 x2 : Int} (h0 : x0 = x1 + 1) : 400 * (x2 - 1) + (x0 - 4) = 400 * (x2 - 1) + x1 - 3 := by omega
theorem la_stepOther_110 {x0 x1 x2 x3 x4 x5 x6 x7 : Int} (h0 : 0 ≤ x0 → x1 = 29) (h1 : x2 = x3) (h2 : x0 = x4) (h3 : 0 ≤ x4 → x5 ≤ x3 - 3) (h4 : x6 = x2 + 1) (h5 : x7 = x5) : 0 ≤ x0 → x1 = 29 ∧ x7 ≤ x6 - 4 := by omega
theorem la_stepOther_111 {x0 x1 x2 : Int} (h0 : x0 = x1 + 1) : 400 * (x2 - 1) + (x0 - 4 + 1) = 400 * (x2 - 1) + x1 - 2 := by omega
theorem la_stepOther_112 {x0 x1 : Int} (h0 : 0 ≤ x0) (h1 : x1 = x0) : 0 ≤ x1 := by omega
theorem la_stepOther_113 {x0 x1 : Int} (h0 : x0 ≤ 7) (h1 : x1 = x0) : x1 ≤ 7 := by omega
theorem la_stepOther_114 {x0 x1 x2 x3 x4 x5 x6 x7 : Int} (h0 : 0 ≤ x0 → x1 = 29) (h1 : x2 = x3) (h2 : x0 = x4) (h3 : 0 ≤ x4 → x5 ≤ x3 - 3) (h4 : x6 = x2 + 1) (h5 : x7 = x5) : 0 ≤ x0 → x1 = 29 ∧ x7 ≤ x6 - 4 + 1 := by omega
theorem la_stepOther_115 {x0 x1 x2 : Int} (h0 : x0 = x1 + 1) : 400 * (x2 - 1) + (x0 - 4 + 1 + 1) = 400 * (x2 - 1) + x1 - 1 := by omega
theorem la_stepOther_116 {x0 x1 x2 x3 x4 x5 x6 x7 : Int} (h0 : 0 ≤ x0 → x1 = 29) (h1 : x2 = x3) (h2 : x0 = x4) (h3 : 0 ≤ x4 → x5 ≤ x3 - 3) (h4 : x6 = x2 + 1) (h5 : x7 = x5) : 0 ≤ x0 → x1 = 29 ∧ x7 ≤ x6 - 4 + 1 + 1 := by omega
theorem la_stepOther_117 {x0 x1 x2 : Int} (h0 : x0 = x1 + 1) : 400 * (x2 - 1) + (x0 - 4 + 1 + 1 + 1) = 400 * (x2 - 1) + x1 := by omega
theorem la_stepOther_118 {x0 x1 x2 x3 x4 x5 x6 x7 x8 : Int} (h0 : 0 ≤ x0 → x1 = 29) (h1 : x2 = x3) (h2 : x0 = x4) (h3 : 0 ≤ x4 → x5 = 29 ∧ x6 ≤ x3) (h4 : x7 = x2 + 1) (h5 : x8 = x6) : 0 ≤ x0 → x1 = 29 ∧ x8 ≤ x7 - 4 + 1 + 1 + 1 := by omega
theorem la_stepOther_119 {x0 : Int} : x0 = x0 - 4 + 1 + 1 + 1 + 1 := by omega
theorem la_stepOther_120 {x0 x1 : Int} (h0 : x0 = x1) (h1 : x0 = 21) : x1 = 21 := by omega
theorem la_stepOther_121 {x0 : Int} (h0 : 1 ≤ x0) (h1 : x0 ≤ 24) : 0 ≤ x0 - 1 ∧ x0 - 1 < 24 := by omega
theorem la_stepOther_122 {x0 : Int} : x0 - 1 = x0 - 1 := by omega
theorem la_stepOther_123 {x0 x1 x2 : Int} (h0 : x0 = x1) (h1 : 0 ≤ x1) (h2 : x2 = x0) : 0 ≤ x2 := by omega
theorem la_stepOther_124 {x0 x1 x2 x3 : Int} (h0 : x0 = x1) (h1 : x1 < x2) (h2 : x3 = x0) : x3 < x2 := by omega
theorem la_stepOther_125 {x0 x1 x2 x3 : Int} (h0 : x0 = x1) (h1 : x2 = x1) (h2 : x3 = x2) : x0 = x3 := by omega
theorem la_stepOther_126 {x0 : Int} : x0 = x0 - 1 + 1 := by omega
theorem la_stepOther_127 {x0 : Int} (h0 : x0 = 22) : ¬ x0 = 21 := by omega
theorem la_stepOther_128 {x0 : Int} (h0 : x0 = 22) : ¬ (x0 = 21 ∨ x0 = 27 ∨ x0 = 28) := by omega
theorem la_stepOther_129 {x0 : Int} (h0 : x0 = 22) : ¬ x0 = 27 := by omega
theorem la_stepOther_130 {x0 : Int} (h0 : x0 = 22) : ¬ x0 = 28 := by omega
theorem la_stepOther_131 {x0 x1 : Int} (h0 : x0 = x1) (h1 : x0 = 22) : x1 = 22 := by omega
theorem la_stepOther_132 {x0 x1 x2 : Int} (h0 : x0 = x1) (h1 : x0 = 6) (h2 : x1 = x2) : x2 = 6 := by omega
theorem la_stepOther_133 {x0 x1 x2 : Int} (h0 : x0 = x1) (h1 : x0 = 6) (h2 : x1 = x2) : ¬ x2 = 7 := by omega
theorem la_stepOther_134 {x0 x1 x2 : Int} (h0 : x0 = x1) (h1 : x1 = x2) (h2 : 0 ≤ x2) : 0 ≤ x0 := by omega
theorem la_stepOther_135 {x0 x1 x2 x3 : Int} (h0 : x0 ≤ 400) (h1 : x1 = x2) (h2 : x2 = x3) (h3 : x3 < x0) : x1 < 400 := by omega
theorem la_stepOther_136 {x0 x1 : Int} (h0 : x0 = x1 - 1) : x0 ≤ x1 := by omega
theorem la_stepOther_137 {x0 : Int} (h0 : x0 = 1) : 0 ≤ x0 := by omega
theorem la_stepOther_138 {x0 : Int} (h0 : 0 ≤ x0) (h1 : ¬ x0 = 0) : 0 < x0 := by omega
theorem la_stepOther_139 {x0 x1 x2 : Int} (h0 : x0 ≤ 600) (h1 : 0 ≤ x1) (h2 : x2 = x1) (h3 : x1 + 1 < x0) : sv_R (x2 + 1) := by omega
theorem la_stepOther_140 {x0 x1 : Int} (h0 : x0 = x1) (h1 : 0 ≤ x1 - 1) : 0 ≤ x0 - 1 := by omega
theorem la_stepOther_141 {x0 : Int} (h0 : x0 = 24) : 23 ≤ x0 := by omega
theorem la_stepOther_142 {x0 : Int} (h0 : 23 ≤ x0) (h1 : ¬ x0 = 23) : 23 < x0 := by omega
theorem la_stepOther_143 {x0 : Int} (h0 : x0 = 24) : ¬ x0 = 21 := by omega
theorem la_stepOther_144 {x0 : Int} (h0 : x0 = 24) : ¬ x0 = 27 := by omega
theorem la_stepOther_145 {x0 : Int} (h0 : x0 = 24) : ¬ x0 = 28 := by omega
theorem la_stepOther_146 {x0 : Int} (h0 : ¬ ¬ x0 = 0) : ¬ x0 = 1 := by omega
theorem la_stepOther_147 {x0 : Int} (h0 : ¬ ¬ x0 = 23) : ¬ x0 = 21 := by omega
theorem la_stepOther_148 {x0 : Int} (h0 : ¬ ¬ x0 = 23) : ¬ x0 = 24 := by omega
theorem la_stepOther_149 {x0 : Int} (h0 : ¬ ¬ x0 = 23) : ¬ x0 = 27 := by omega
theorem la_stepOther_150 {x0 : Int} (h0 : ¬ ¬ x0 = 23) : ¬ x0 = 28 := by omega
theorem la_stepOther_151 {x0 : Int} (h0 : x0 = 0) : x0 ≤ 1 := by omega
theorem la_stepOther_152 {x0 : Int} (h0 : x0 ≤ 1) (h1 : ¬ x0 = 1) : x0 < 1 := by omega
theorem la_stepOther_153 {x0 : Int} (h0 : ¬ ¬ x0 = 1) : ¬ x0 = 0 := by omega
theorem la_stepOther_154 {x0 : Int} (h0 : x0 = 25) : ¬ x0 = 21 := by omega
theorem la_stepOther_155 {x0 : Int} (h0 : x0 = 25) : ¬ (x0 = 21 ∨ x0 = 27 ∨ x0 = 28) := by omega
theorem la_stepOther_156 {x0 : Int} (h0 : x0 = 25) : ¬ x0 = 27 := by omega
theorem la_stepOther_157 {x0 : Int} (h0 : x0 = 25) : ¬ x0 = 28 := by omega
theorem la_stepOther_158 {x0 x1 : Int} (h0 : x0 = x1) (h1 : x0 = 25) : x1 = 25 ∨ x1 = 26 := by omega
theorem la_stepOther_159 {x0 : Int} (h0 : x0 = 26) : ¬ x0 = 21 := by omega
theorem la_stepOther_160 {x0 : Int} (h0 : x0 = 26) : ¬ (x0 = 21 ∨ x0 = 27 ∨ x0 = 28) := by omega
theorem la_stepOther_161 {x0 : Int} (h0 : x0 = 26) : ¬ x0 = 27 := by omega
theorem la_stepOther_162 {x0 : Int} (h0 : x0 = 26) : ¬ x0 = 28 := by omega
theorem la_stepOther_163 {x0 x1 : Int} (h0 : x0 = x1) (h1 : x0 = 26) : x1 = 25 ∨ x1 = 26 := by omega
theorem la_stepOther_164 {x0 x1 x2 : Int} (h0 : x0 < x1) (h1 : x2 = x0) : x2 < x1 := by omega
theorem la_stepOther_165 {x0 x1 : Int} (h0 : x0 = x1) : x1 = x0 := by omega
theorem la_stepOther_166 {x0 x1 : Int} (h0 : 0 ≤ x0) (h1 : x0 = x1) : 0 ≤ x1 := by omega
theorem la_stepOther_167 {x0 x1 x2 x3 : Int} (h0 : x0 = x1) (h1 : x2 ≤ x1 - 1) (h2 : x3 = x2) : x3 ≤ x0 := by omega
theorem la_stepOther_168 {x0 x1 : Int} (h0 : x0 ≤ 24) (h1 : x1 ≤ x0) : x1 ≤ 24 := by omega
theorem la_stepOther_169 {x0 x1 x2 : Int} (h0 : x0 = 1) : ¬ (x0 = 3 ∧ x1 = 0 ∧ x2 = 0) := by omega
theorem la_stepOther_170 {x0 x1 x2 x3 : Int} (h0 : x0 = 0) (h1 : x1 = 1) (h2 : x2 = x1 ∨ x2 = 3 ∧ x3 = 0 ∧ x0 = 0) (h3 : 0 ≤ x3) : x2 = 1 ∨ x3 = 0 ∧ x0 = 0 ∧ (x2 = 2 ∨ x2 = 3) := by omega
theorem la_stepOther_171 {x0 : Int} (h0 : x0 = 27) : ¬ x0 = 21 := by omega
theorem la_stepOther_172 {x0 x1 : Int} (h0 : x0 = x1) (h1 : x0 = 27) : x1 = 27 := by omega
theorem la_stepOther_173 {x0 x1 x2 x3 : Int} (h0 : 1 ≤ x0) (h1 : x0 ≤ 24) (h2 : x1 = x2) (h3 : x3 < 40) (h4 : x3 = x2) (h5 : 0 ≤ x3) : 0 ≤ 40 * (x0 - 1) + x1 ∧ 40 * (x0 - 1) + x1 < 960 := by omega
theorem la_stepOther_174 {x0 x1 : Int} (h0 : (-1) ≤ x0) (h1 : x0 < x1) : (-1) ≤ x0 ∧ x0 < x1 := by omega
theorem la_stepOther_175 {x0 x1 x2 x3 : Int} (h0 : x0 = x1) (h1 : x2 = x1) : 40 * (x3 - 1) + x0 = 40 * (x3 - 1) + x2 := by omega
theorem la_stepOther_176 {x0 x1 x2 : Int} (h0 : x0 = x1) (h1 : x2 < 40) (h2 : x2 = x1) (h3 : 0 ≤ x2) : sv_R (x0 + 1) := by omega
theorem la_stepOther_177 {x0 x1 x2 x3 x4 x5 : Int} (h0 : x0 = x1) (h1 : x2 = x1) (h2 : x3 = x2 + 1) (h3 : x4 = x0 + 1) (h4 : x3 = x5) : x4 = x5 := by omega
theorem la_stepOther_178 {x0 x1 x2 x3 : Int} (h0 : x0 = x1) (h1 : x2 = x1) (h2 : 0 ≤ x2) : 40 * (x3 - 1) ≤ 40 * (x3 - 1) + x0 := by omega
theorem la_stepOther_179 {x0 : Int} (h0 : x0 = 28) : ¬ x0 = 21 := by omega
theorem la_stepOther_180 {x0 : Int} (h0 : x0 = 28) : ¬ x0 = 27 := by omega
theorem la_stepOther_181 {x0 x1 : Int} (h0 : x0 = x1) (h1 : x0 = 28) : x1 = 28 := by omega
theorem la_stepOther_182 {x0 x1 x2 : Int} (h0 : x0 < x1) (h1 : x1 + 1 < x2) : x0 < x2 := by omega
theorem la_stepOther_183 {x0 x1 x2 : Int} (h0 : x0 = x1) (h1 : 0 ≤ x2) (h2 : x2 < 40) (h3 : x1 = x2 + 1) : sv_R (x0 - 1) := by omega
theorem la_stepOther_184 {x0 x1 x2 x3 x4 : Int} (h0 : x0 ≤ 600) (h1 : 1 ≤ x1) (h2 : x1 ≤ 24) (h3 : x2 = x3) (h4 : x4 < x3) (h5 : 0 ≤ x4) (h6 : x3 + 1 < x0) : 1 ≤ x1 ∧ x1 ≤ 24 ∧ 0 ≤ x2 ∧ x2 ≤ 600 := by omega
theorem la_stepOther_185 {x0 x1 x2 x3 x4 x5 : Int} (h0 : x0 = x1) (h1 : x1 = x2 + 1) (h2 : x2 = x3) (h3 : x4 = x0 - 1) (h4 : x5 = x3) : x4 = x5 := by omega
theorem la_stepOther_186 {x0 : Int} (h0 : x0 = 29) : ¬ x0 = 21 := by omega
theorem la_stepOther_187 {x0 : Int} (h0 : x0 = 29) : ¬ (x0 = 21 ∨ x0 = 27 ∨ x0 = 28) := by omega
theorem la_stepOther_188 {x0 : Int} (h0 : x0 = 29) : ¬ x0 = 27 := by omega
theorem la_stepOther_189 {x0 : Int} (h0 : x0 = 29) : ¬ x0 = 28 := by omega
theorem la_stepOther_190 {x0 x1 : Int} (h0 : x0 = x1) (h1 : x0 = 29) : x1 = 29 := by omega
theorem la_stepOther_191 {x0 x1 x2 : Int} (h0 : 1 ≤ x0) (h1 : x0 ≤ 24) (h2 : x1 ≤ 396) (h3 : 1 ≤ x1) (h4 : x2 = x1 - 1) : 1 ≤ x0 ∧ x0 ≤ 24 ∧ 0 ≤ x2 ∧ x2 ≤ 400 := by omega
theorem la_stepOther_192 {x0 x1 x2 : Int} (h0 : 1 ≤ x0) (h1 : x0 ≤ 24) (h2 : x1 ≤ 396) (h3 : 1 ≤ x1) (h4 : x2 = x1 - 1) : 0 ≤ 400 * (x0 - 1) + x2 ∧ 400 * (x0 - 1) + x2 < 9600 := by omega
theorem la_stepOther_193 {x0 x1 x2 : Int} (h0 : 1 ≤ x0) (h1 : x0 ≤ 24) (h2 : x1 ≤ 396) (h3 : 1 ≤ x1) (h4 : x2 = x1 - 1) : 1 ≤ x0 ∧ x0 ≤ 24 ∧ 0 ≤ x2 ∧ x2 ≤ 400 ∧ x2 < 400 := by omega
theorem la_stepOther_194 {x0 x1 x2 : Int} (h0 : x0 = x1 - 1) : ¬ ¬ 400 * (x2 - 1) + x1 - 1 - 0 = 400 * (x2 - 1) + x0 := by omega
theorem la_stepOther_195 {x0 x1 x2 : Int} (h0 : x0 = x1 - 1) : ¬ ¬ 400 * (x2 - 1) + (x1 - 1) = 400 * (x2 - 1) + x0 := by omega
theorem la_stepOther_196 {x0 : Int} (h0 : x0 ≤ 7) (h1 : ¬ x0 = 7) : x0 < 7 := by omega
theorem la_stepOther_197 {x0 x1 x2 : Int} (h0 : x0 = x1) (h1 : x1 = x2) (h2 : x0 < 7) : ¬ x2 = 7 := by omega
theorem la_stepOther_198 {x0 x1 x2 : Int} (h0 : 1 ≤ x0) (h1 : x1 = x0 - 1) : 400 * (x2 - 1) ≤ 400 * (x2 - 1) + x1 := by omega
theorem la_stepOther_199 {x0 x1 x2 x3 x4 x5 : Int} (h0 : x0 = x1) (h1 : x2 = x1) (h2 : x3 = x0 - 1) (h3 : x4 = x3 + 1) (h4 : x5 = x2) : x4 = x5 := by omega
theorem la_stepOther_200 {x0 x1 x2 : Int} (h0 : x0 = x1 - 1) (h1 : x2 = x0 + 1) : x2 = x1 - 1 + 1 := by omega
theorem la_stepOther_201 {x0 : Int} : x0 - 1 ≤ x0 := by omega
theorem la_stepOther_202 {x0 x1 x2 : Int} (h0 : x0 = x1 - 1) : 400 * (x2 - 1) + (x1 - 1) ≤ 400 * (x2 - 1) + x0 := by omega
theorem la_stepOther_203 {x0 x1 x2 : Int} (h0 : x0 = x1 - 1) : 400 * (x2 - 1) + (x1 - 1) = 400 * (x2 - 1) + x0 := by omega
theorem la_stepOther_204 : (8 : Int) = 8 := by omega
theorem la_stepOther_205 {x0 : Int} (h0 : 23 ≤ x0) : ((-1) : Int) ≤ (-1) ∧ (-1) < x0 := by omega
theorem la_stepOther_206 {x0 x1 : Int} (h0 : x0 = x1) : x1 = x0 - 1 + 1 := by omega
theorem la_stepOther_207 {x0 x1 x2 : Int} (h0 : x0 = x1) (h1 : ¬ ¬ x0 = 7) (h2 : x1 = x2) : ¬ x2 = 6 := by omega
theorem la_stepOther_208 {x0 x1 x2 : Int} (h0 : x0 = x1) (h1 : x2 ≤ 7) (h2 : ¬ ¬ x0 = 7) (h3 : x1 = x2) : x2 = 7 := by omega
theorem la_stepOther_209 {x0 x1 x2 x3 : Int} (h0 : x0 = x1) (h1 : x1 = x2) (h2 : 0 ≤ x2) (h3 : x2 < x3) : (-1) ≤ x0 ∧ x0 < x3 := by omega
theorem la_stepOther_210 {x0 x1 : Int} : x0 = 21 → (x0 = 21 ∨ x0 = 27 ∨ x0 = 28) ∨ 0 = x1 := by omega
theorem la_stepOther_211 {x0 x1 : Int} : x0 = 27 → (x0 = 21 ∨ x0 = 27 ∨ x0 = 28) ∨ 0 = x1 := by omega
theorem la_stepOther_212 {x0 x1 x2 x3 : Int} (h0 : 1 ≤ x0) (h1 : x0 ≤ 24) (h2 : 0 ≤ x1) (h3 : x1 ≤ 396) (h4 : ¬ x2 = 27) (h5 : x2 = 28 ∨ 1 ≤ x1) : ¬ x2 = 28 → (1 ≤ x0 ∧ x0 ≤ 24 ∧ 0 ≤ x1 ∧ x1 ≤ 400 ∧ (0 : Int) ≤ 0 ∧ 0 < x1) ∧ ((x2 = 21 ∨ x2 = 27 ∨ x2 = 28) ∨ x3 = x3) := by omega
theorem la_stepOther_213 {x0 : Int} (h0 : ¬ ¬ x0 = 28) : 21 ≤ x0 := by omega
theorem la_stepOther_214 {x0 : Int} (h0 : 21 ≤ x0) (h1 : ¬ x0 = 21) : 21 < x0 := by omega
theorem la_stepOther_215 {x0 : Int} (h0 : ¬ ¬ x0 = 28) : 27 ≤ x0 := by omega
theorem la_stepOther_216 {x0 : Int} (h0 : 27 ≤ x0) (h1 : ¬ x0 = 27) : 27 < x0 := by omega
theorem la_stepOther_217 {x0 : Int} (h0 : ¬ ¬ x0 = 28) : x0 = 28 := by omega
theorem la_stepOther_218 {x0 x1 : Int} (h0 : ¬ ¬ x0 = 28) : (x0 = 21 ∨ x0 = 27 ∨ x0 = 28) ∨ 0 = x1 := by omega
set_option maxHeartbeats 8000000 in
theorem f_stepOther : ∀ (p1 : Int) (p2 : Int) (S : sv_S), sm_ok S → sv_R p1 → sv_R p2 → ((S 1075 0) = 0 ∧ (S 1073 0) = 1 ∧ sm_LX (S 58) (S 63) (S 64) (S 1092 0) (S 1076 0) ∧ sm_PL (S 1100020) (S 51) (S 52) (S 46) (S 47) (S 1076 0) (S 1086 0) ∧ sm_FR (S 1100020) (S 52) (S 1100021) (S 1100022) (3000 - (S 1084 0)) (S 1085 0) ∧ sm_PV (S 1100020) (S 48) (S 49) (S 50) (S 44) (S 1076 0) (S 1007 0) ∧ sm_AL (S 1100020) (S 48) (S 49) (S 50) (S 44) (S 1076 0) (S 1100032 0) ∧ sm_SV (S 1100020) (S 48) (S 1100029) (S 32) (S 33) (S 1076 0) (S 1032 0) ∧ 0 ≤ (S 1076 0) ∧ (S 1076 0) ≤ 300 ∧ 0 ≤ (S 1084 0) ∧ (S 1084 0) ≤ 3000 ∧ 0 ≤ (S 1086 0) ∧ sm_SC (S 1100029) (S 44) (S 45) (S 43) (S 21) (S 1076 0) (S 1032 0) ∧ sm_PO (S 42) (S 1076 0) ∧ (S 1100032 0) = -1 ∧ sm_FO (S 44) (S 45) (S 1076 0) ∧ 23 ≤ (S 1076 0) ∧ 31 ≤ (S 1007 0) ∧ (S 1007 0) ≤ 400 ∧ sm_LN (S 4) 400 (S 1007 0) ∧ sm_CT (S 26) (S 27) (S 28) (S 29) (S 1100007) (S 1100023) (S 1100024) (S 1100025) (S 21) (S 1046 0) (S 1032 0) (S 1008 0) (S 1055 0) ∧ sm_LS (S 26) (S 1100007) (S 1100025) (S 1046 0) ∧ sm_CL (S 1100007) (S 1100023) (S 1100025) (S 1046 0) ∧ 1 ≤ (S 1032 0) ∧ (S 1032 0) ≤ 11 ∧ 0 ≤ (S 1046 0) ∧ (S 1046 0) ≤ 600 ∧ 31 ≤ (S 1008 0) ∧ (S 1008 0) ≤ (S 1007 0) ∧ 0 ≤ (S 1055 0) ∧ (S 1055 0) ≤ 19 ∧ 1 ≤ (S 1092 0) ∧ (S 1092 0) ≤ 24 ∧ 0 ≤ (S 1100033 0) ∧ (S 1100033 0) < (S 1046 0) ∧ (S 29 (S 1100033 0)) = (S 53 ((S 1092 0) - 1)) ∧ 0 ≤ (S 53 ((S 1092 0) - 1)) ∧ (S 53 ((S 1092 0) - 1)) < (S 1032 0) ∧ (S 60 ((S 1092 0) - 1)) = sm_dp (S 1100024) (S 1100023 (S 1100033 0)) ∧ sm_TC (S 61) (S 62) (S 27) (S 1100007) (S 1100023) (S 1100024) (40 * ((S 1092 0) - 1)) (S 1100023 (S 1100033 0)) ∧ sm_LK (S 1100029) (S 1076 0) (S 54 ((S 1092 0) - 1)) (S 53 ((S 1092 0) - 1)) ∧ sm_VO (S 44) (S 1076 0) (S 1007 0) ((S 55 ((S 1092 0) - 1))) ((S 56 ((S 1092 0) - 1))) ∧ sm_FW (S 44) (S 1076 0) (S 59 ((S 1092 0) - 1)) ∧ sm_FL (S 53) (S 54) (S 55) (S 56) (S 57) (S 58) (S 59) (S 60) (S 61) (S 62) (S 63) (S 64) (S 27) (S 29) (S 1100007) (S 1100023) (S 1100024) (S 1100025) (S 26) (S 1100029) (S 44) (S 1046 0) (S 1032 0) (S 1076 0) (S 1007 0) (((S 1092 0) - 1)) ∧ (S 57 ((S 1092 0) - 1)) = (S 1100033 0) ∧ 0 ≤ (S 58 ((S 1092 0) - 1)) ∧ (S 58 ((S 1092 0) - 1)) ≤ 400 ∧ sm_SK (S 63) (S 64) (S 44) (S 1100007) (S 1100025) (S 1076 0) (S 1007 0) (400 * ((S 1092 0) - 1)) ((S 58 ((S 1092 0) - 1))) ((S 1100034 0)) ∧ -1 ≤ (S 1100034 0) ∧ (S 1100034 0) < (S 1046 0) ∧ (0 ≤ (S 1100034 0) → (S 26 (S 1100034 0)) = 29) ∧ (S 58 ((S 1092 0) - 1)) = (S 1100007 (S 1100033 0)) ∧ (S 1100034 0) = (S 1100025 (S 1100033 0)) ∧ (0 ≤ (S 1100023 (S 1100033 0)) → (S 1100007 (S 1100023 (S 1100033 0))) ≤ (S 58 ((S 1092 0) - 1))) ∧ (S 58 ((S 1092 0) - 1)) ≤ 396 ∧ 17 ≤ p1 ∧ p1 ≤ 30 ∧ p1 = (S 26 (S 1100033 0)) ∧ p2 = (S 27 (S 1100033 0)) ∧ (p1 = 21 ∨ p1 = 27 ∨ p1 = 28 ∨ 1 ≤ (S 58 ((S 1092 0) - 1)))) → ((sm_CT (S 26) (S 27) (S 28) (S 29) (S 1100007) (S 1100023) (S 1100024) (S 1100025) (S 21) (S 1046 0) (S 1032 0) (S 1008 0) (S 1055 0) → 0 ≤ (S 1100033 0) → (S 1100033 0) < (S 1046 0) → (0 ≤ (S 1100025 (S 1100033 0)) → (S 26 (S 1100025 (S 1100033 0))) = 29 ∧ (S 1100007 (S 1100025 (S 1100033 0))) ≤ (S 1100007 (S 1100033 0))) ∧ (0 ≤ (S 1100007 (S 1100033 0)) ∧ (S 1100007 (S 1100033 0)) ≤ 396 ∧ -1 ≤ (S 1100023 (S 1100033 0)) ∧ (S 1100023 (S 1100033 0)) < (S 1100033 0) ∧ -1 ≤ (S 1100025 (S 1100033 0)) ∧ (S 1100025 (S 1100033 0)) < (S 1100033 0) ∧ 0 ≤ (S 26 (S 1100033 0)) ∧ (S 26 (S 1100033 0)) ≤ 30)) → (((S 1100034 0) = (S 1100025 (S 1100033 0)) → (S 58 ((S 1092 0) - 1)) = (S 1100007 (S 1100033 0)) → (0 ≤ (S 1100025 (S 1100033 0)) → (S 1100007 (S 1100025 (S 1100033 0))) ≤ (S 1100007 (S 1100033 0))) → (0 ≤ (S 1100034 0) → (S 1100007 (S 1100034 0)) ≤ (S 58 ((S 1092 0) - 1)))) → ((∀ s3 : Int, sv_R s3 → ((p1 = 21 ∨ p1 = 27 ∨ p1 = 28) ∨ s3 = (S 63 ((400 * ((S 1092 0) - 1) + (S 58 ((S 1092 0) - 1))) - 1 - 0))) → ((∀ s5 : Int, sv_R s5 → ((p1 = 21 ∨ p1 = 27 ∨ p1 = 28) ∨ s5 = (S 64 ((400 * ((S 1092 0) - 1) + (S 58 ((S 1092 0) - 1))) - 1 - 0))) → (sv_R (S 1092 0) → (((p1 < (17 : Int) ∨ (29 : Int) < p1) → ((sm_CT (S 26) (S 27) (S 28) (S 29) (S 1100007) (S 1100023) (S 1100024) (S 1100025) (S 21) (S 1046 0) (S 1032 0) (S 1008 0) (S 1055 0) → 0 ≤ (S 1100033 0) → (S 1100033 0) < (S 1046 0) → ((S 26 (S 1100033 0)) = 30 → 0 ≤ (S 1100025 (S 1100033 0)) ∧ (S 1100007 ((S 1100025 (S 1100033 0)))) = (S 1100007 (S 1100033 0)) ∧ 1 ≤ (S 1100007 (S 1100033 0)) ∧ (0 ≤ (S 1100023 (S 1100033 0)) → (S 1100007 ((S 1100023 (S 1100033 0)))) ≤ (S 1100007 (S 1100033 0)) - 1) ∧ (0 ≤ ((S 1100033 0) + 1) ∧ ((S 1100033 0) + 1) < (S 1046 0) ∧ (S 29 ((S 1100033 0) + 1)) = ((S 29 (S 1100033 0))) ∧ (S 1100007 ((S 1100033 0) + 1)) = ((S 1100007 (S 1100033 0)) + 1) ∧ (S 1100023 ((S 1100033 0) + 1)) = ((S 1100023 (S 1100033 0))) ∧ (S 1100025 ((S 1100033 0) + 1)) = ((S 1100025 (S 1100033 0)))) ∧ (0 ≤ ((S 27 (S 1100033 0))) ∧ ((S 27 (S 1100033 0))) < (S 1046 0) ∧ (S 29 ((S 27 (S 1100033 0)))) = ((S 29 (S 1100033 0))) ∧ (S 1100007 ((S 27 (S 1100033 0)))) = ((S 1100007 (S 1100033 0)) - 1) ∧ (S 1100023 ((S 27 (S 1100033 0)))) = ((S 1100023 (S 1100033 0))) ∧ (S 1100025 ((S 27 (S 1100033 0)))) = ((S 1100025 ((S 1100025 (S 1100033 0)))))))) → ((sm_SK (S 63) (S 64) (S 44) (S 1100007) (S 1100025) (S 1076 0) (S 1007 0) (400 * ((S 1092 0) - 1)) ((S 58 ((S 1092 0) - 1))) ((S 1100034 0)) → sm_LS (S 26) (S 1100007) (S 1100025) (S 1046 0) → 0 ≤ (S 1100034 0) → (S 1100034 0) < (S 1046 0) → (S 26 (S 1100034 0)) = 29 → (S 1100007 (S 1100034 0)) = (S 58 ((S 1092 0) - 1)) → (S 63 (400 * ((S 1092 0) - 1) + (S 58 ((S 1092 0) - 1)) - 1)) = 8 ∧ -1 ≤ (S 64 (400 * ((S 1092 0) - 1) + (S 58 ((S 1092 0) - 1)) - 1)) ∧ (S 64 (400 * ((S 1092 0) - 1) + (S 58 ((S 1092 0) - 1)) - 1)) < (S 1076 0)) → ((sm_CT (S 26) (S 27) (S 28) (S 29) (S 1100007) (S 1100023) (S 1100024) (S 1100025) (S 21) (S 1046 0) (S 1032 0) (S 1008 0) (S 1055 0) → 0 ≤ (S 1100033 0) → (S 1100033 0) < (S 1046 0) → (0 ≤ (S 1100025 (S 1100033 0)) → (S 26 ((S 1100025 (S 1100033 0)))) = 29 ∧ (S 29 ((S 1100025 (S 1100033 0)))) = (S 29 (S 1100033 0)) ∧ (S 1100007 ((S 1100025 (S 1100033 0)))) ≤ (S 1100007 (S 1100033 0)) ∧ 1 ≤ (S 1100007 ((S 1100025 (S 1100033 0)))))) → ((S 1075 0) = 0 ∧ (S 1073 0) = 1 ∧ sm_LX (S 58) (S 63) (S 64) (S 1092 0) (S 1076 0) ∧ sm_PL (S 1100020) (S 51) (S 52) (S 46) (S 47) (S 1076 0) (S 1086 0) ∧ sm_FR (S 1100020) (S 52) (S 1100021) (S 1100022) (3000 - (S 1084 0)) (S 1085 0) ∧ sm_PV (S 1100020) (S 48) (S 49) (S 50) (S 44) (S 1076 0) (S 1007 0) ∧ sm_AL (S 1100020) (S 48) (S 49) (S 50) (S 44) (S 1076 0) (S 1100032 0) ∧ sm_SV (S 1100020) (S 48) (S 1100029) (S 32) (S 33) (S 1076 0) (S 1032 0) ∧ 0 ≤ (S 1076 0) ∧ (S 1076 0) ≤ 300 ∧ 0 ≤ (S 1084 0) ∧ (S 1084 0) ≤ 3000 ∧ 0 ≤ (S 1086 0) ∧ sm_SC (S 1100029) (S 44) (S 45) (S 43) (S 21) (S 1076 0) (S 1032 0) ∧ sm_PO (S 42) (S 1076 0) ∧ (S 1100032 0) = -1 ∧ sm_FO (S 44) (S 45) (S 1076 0) ∧ 23 ≤ (S 1076 0) ∧ 31 ≤ (S 1007 0) ∧ (S 1007 0) ≤ 400 ∧ sm_LN (S 4) 400 (S 1007 0) ∧ sm_CT (S 26) (S 27) (S 28) (S 29) (S 1100007) (S 1100023) (S 1100024) (S 1100025) (S 21) (S 1046 0) (S 1032 0) (S 1008 0) (S 1055 0) ∧ sm_LS (S 26) (S 1100007) (S 1100025) (S 1046 0) ∧ sm_CL (S 1100007) (S 1100023) (S 1100025) (S 1046 0) ∧ 1 ≤ (S 1032 0) ∧ (S 1032 0) ≤ 11 ∧ 0 ≤ (S 1046 0) ∧ (S 1046 0) ≤ 600 ∧ 31 ≤ (S 1008 0) ∧ (S 1008 0) ≤ (S 1007 0) ∧ 0 ≤ (S 1055 0) ∧ (S 1055 0) ≤ 19 ∧ 1 ≤ (S 1092 0) ∧ (S 1092 0) ≤ 24 ∧ 0 ≤ (S 1100033 0) ∧ (S 1100033 0) < (S 1046 0) ∧ (S 29 (S 1100033 0)) = (S 53 ((S 1092 0) - 1)) ∧ 0 ≤ (S 53 ((S 1092 0) - 1)) ∧ (S 53 ((S 1092 0) - 1)) < (S 1032 0) ∧ (S 60 ((S 1092 0) - 1)) = sm_dp (S 1100024) (S 1100023 (S 1100033 0)) ∧ sm_TC (S 61) (S 62) (S 27) (S 1100007) (S 1100023) (S 1100024) (40 * ((S 1092 0) - 1)) (S 1100023 (S 1100033 0)) ∧ sm_LK (S 1100029) (S 1076 0) (S 54 ((S 1092 0) - 1)) (S 53 ((S 1092 0) - 1)) ∧ sm_VO (S 44) (S 1076 0) (S 1007 0) ((S 55 ((S 1092 0) - 1))) ((S 56 ((S 1092 0) - 1))) ∧ sm_FW (S 44) (S 1076 0) (S 59 ((S 1092 0) - 1)) ∧ sm_FL (S 53) (S 54) (S 55) (S 56) (S 57) (S 58) (S 59) (S 60) (S 61) (S 62) (S 63) (S 64) (S 27) (S 29) (S 1100007) (S 1100023) (S 1100024) (S 1100025) (S 26) (S 1100029) (S 44) (S 1046 0) (S 1032 0) (S 1076 0) (S 1007 0) (((S 1092 0) - 1)) ∧ (S 57 ((S 1092 0) - 1)) = (S 1100033 0) ∧ 0 ≤ (S 58 ((S 1092 0) - 1)) ∧ (S 58 ((S 1092 0) - 1)) ≤ 400 ∧ sm_SK (S 63) (S 64) (S 44) (S 1100007) (S 1100025) (S 1076 0) (S 1007 0) (400 * ((S 1092 0) - 1)) ((S 58 ((S 1092 0) - 1))) ((S 1100034 0)) ∧ -1 ≤ (S 1100034 0) ∧ (S 1100034 0) < (S 1046 0) ∧ (0 ≤ (S 1100034 0) → (S 26 (S 1100034 0)) = 29) ∧ (S 58 ((S 1092 0) - 1)) = (S 1100007 (S 1100033 0)) ∧ (S 1100034 0) = (S 1100025 (S 1100033 0)) ∧ (0 ≤ (S 1100023 (S 1100033 0)) → (S 1100007 (S 1100023 (S 1100033 0))) ≤ (S 58 ((S 1092 0) - 1))) ∧ (S 58 ((S 1092 0) - 1)) ≤ 396 ∧ 0 ≤ (S 1100034 0) ∧ 1 ≤ (S 58 ((S 1092 0) - 1)) ∧ (S 1100007 (S 1100034 0)) = (S 58 ((S 1092 0) - 1)) ∧ (S 1100033 0) + 1 < (S 1046 0) ∧ (S 29 ((S 1100033 0) + 1)) = (S 29 (S 1100033 0)) ∧ (S 1100007 ((S 1100033 0) + 1)) = (S 58 ((S 1092 0) - 1)) + 1 ∧ (S 1100023 ((S 1100033 0) + 1)) = (S 1100023 (S 1100033 0)) ∧ (S 1100025 ((S 1100033 0) + 1)) = (S 1100034 0) ∧ 0 ≤ p2 ∧ p2 < (S 1046 0) ∧ (S 29 p2) = (S 29 (S 1100033 0)) ∧ (S 1100007 p2) = (S 58 ((S 1092 0) - 1)) - 1 ∧ (S 1100023 p2) = (S 1100023 (S 1100033 0)) ∧ (S 1100025 p2) = (S 1100025 (S 1100034 0))) ∧ (∀ g12 : sv_S, (sm_PL (S 1100020) (S 51) (S 52) (S 46) (S 47) (S 1076 0) (S 1086 0) ∧ sm_FR (S 1100020) (S 52) (S 1100021) (S 1100022) (3000 - (S 1084 0)) (S 1085 0) ∧ sm_PV (S 1100020) (S 48) (S 49) (S 50) (S 44) (S 1076 0) (S 1007 0) ∧ sm_AL (S 1100020) (S 48) (S 49) (S 50) (S 44) (S 1076 0) (S 1100032 0) ∧ sm_SV (S 1100020) (S 48) (S 1100029) (S 32) (S 33) (S 1076 0) (S 1032 0) ∧ 0 ≤ (S 1076 0) ∧ (S 1076 0) ≤ 300 ∧ 0 ≤ (S 1084 0) ∧ (S 1084 0) ≤ 3000 ∧ 0 ≤ (S 1086 0) ∧ sm_SC (S 1100029) (S 44) (S 45) (S 43) (S 21) (S 1076 0) (S 1032 0) ∧ sm_PO (S 42) (S 1076 0) ∧ ((S 1075 0) = 0 → (S 1100032 0) = -1 ∧ sm_FO (S 44) (S 45) (S 1076 0)) ∧ 23 ≤ (S 1076 0) ∧ 31 ≤ (S 1007 0) ∧ (S 1007 0) ≤ 400 ∧ sm_LN (S 4) 400 (S 1007 0) ∧ (S 1008 0) ≤ (S 1007 0) ∧ ((S 1075 0) = 1 → (S 1075 0) = 1) ∧ 0 ≤ (S 1092 0) ∧ (S 1092 0) ≤ 24 ∧ (S 1007 0) ≤ (S 1007 0) ∧ (¬ (S 1075 0) = 0 → sm_LX (g12 58) (g12 63) (g12 64) (S 1092 0) (S 1076 0)) ∧ ((S 1075 0) = 0 → (S 1073 0) = 1 → 1 ≤ (S 1092 0) ∧ (S 1092 0) ≤ 24 ∧ 0 ≤ (g12 57 ((S 1092 0) - 1)) ∧ (g12 57 ((S 1092 0) - 1)) < (S 1046 0) ∧ (S 29 (g12 57 ((S 1092 0) - 1))) = (S 53 ((S 1092 0) - 1)) ∧ 0 ≤ (S 53 ((S 1092 0) - 1)) ∧ (S 53 ((S 1092 0) - 1)) < (S 1032 0) ∧ (S 60 ((S 1092 0) - 1)) = sm_dp (S 1100024) (S 1100023 (g12 57 ((S 1092 0) - 1))) ∧ sm_TC (S 61) (S 62) (S 27) (S 1100007) (S 1100023) (S 1100024) (40 * ((S 1092 0) - 1)) (S 1100023 (g12 57 ((S 1092 0) - 1))) ∧ sm_LK (S 1100029) (S 1076 0) (S 54 ((S 1092 0) - 1)) (S 53 ((S 1092 0) - 1)) ∧ sm_VO (S 44) (S 1076 0) (S 1007 0) ((S 55 ((S 1092 0) - 1))) ((S 56 ((S 1092 0) - 1))) ∧ sm_FW (S 44) (S 1076 0) (S 59 ((S 1092 0) - 1)) ∧ sm_FL (S 53) (S 54) (S 55) (S 56) (g12 57) (g12 58) (S 59) (S 60) (S 61) (S 62) (g12 63) (g12 64) (S 27) (S 29) (S 1100007) (S 1100023) (S 1100024) (S 1100025) (S 26) (S 1100029) (S 44) (S 1046 0) (S 1032 0) (S 1076 0) (S 1007 0) (((S 1092 0) - 1)) ∧ (g12 58 ((S 1092 0) - 1)) = (S 1100007 (g12 57 ((S 1092 0) - 1))) ∧ sm_SK (g12 63) (g12 64) (S 44) (S 1100007) (S 1100025) (S 1076 0) (S 1007 0) (400 * ((S 1092 0) - 1)) ((g12 58 ((S 1092 0) - 1))) ((S 1100025 (g12 57 ((S 1092 0) - 1))))) ∧ ((S 1073 0) = 1 ∨ (S 1092 0) = 0 ∧ (S 1075 0) = 0 ∧ ((S 1073 0) = 2 ∨ (S 1073 0) = 3))) → (sm_PL (S 1100020) (S 51) (S 52) (S 46) (S 47) (S 1076 0) (S 1086 0) ∧ sm_FR (S 1100020) (S 52) (S 1100021) (S 1100022) (3000 - (S 1084 0)) (S 1085 0) ∧ sm_PV (S 1100020) (S 48) (S 49) (S 50) (S 44) (S 1076 0) (S 1007 0) ∧ sm_AL (S 1100020) (S 48) (S 49) (S 50) (S 44) (S 1076 0) (S 1100032 0) ∧ sm_SV (S 1100020) (S 48) (S 1100029) (S 32) (S 33) (S 1076 0) (S 1032 0) ∧ 0 ≤ (S 1076 0) ∧ (S 1076 0) ≤ 300 ∧ 0 ≤ (S 1084 0) ∧ (S 1084 0) ≤ 3000 ∧ 0 ≤ (S 1086 0) ∧ sm_SC (S 1100029) (S 44) (S 45) (S 43) (S 21) (S 1076 0) (S 1032 0) ∧ sm_PO (S 42) (S 1076 0) ∧ ((S 1075 0) = 0 → (S 1100032 0) = -1 ∧ sm_FO (S 44) (S 45) (S 1076 0)) ∧ 23 ≤ (S 1076 0) ∧ 31 ≤ (S 1007 0) ∧ (S 1007 0) ≤ 400 ∧ sm_LN (S 4) 400 (S 1007 0) ∧ (S 1008 0) ≤ (S 1007 0) ∧ ((S 1075 0) = 1 → (S 1075 0) = 1) ∧ 0 ≤ (S 1092 0) ∧ (S 1092 0) ≤ 24 ∧ (S 1007 0) ≤ (S 1007 0) ∧ (¬ (S 1075 0) = 0 → sm_LX (g12 58) (g12 63) (g12 64) (S 1092 0) (S 1076 0)) ∧ ((S 1075 0) = 0 → (S 1073 0) = 1 → 1 ≤ (S 1092 0) ∧ (S 1092 0) ≤ 24 ∧ 0 ≤ (g12 57 ((S 1092 0) - 1)) ∧ (g12 57 ((S 1092 0) - 1)) < (S 1046 0) ∧ (S 29 (g12 57 ((S 1092 0) - 1))) = (S 53 ((S 1092 0) - 1)) ∧ 0 ≤ (S 53 ((S 1092 0) - 1)) ∧ (S 53 ((S 1092 0) - 1)) < (S 1032 0) ∧ (S 60 ((S 1092 0) - 1)) = sm_dp (S 1100024) (S 1100023 (g12 57 ((S 1092 0) - 1))) ∧ sm_TC (S 61) (S 62) (S 27) (S 1100007) (S 1100023) (S 1100024) (40 * ((S 1092 0) - 1)) (S 1100023 (g12 57 ((S 1092 0) - 1))) ∧ sm_LK (S 1100029) (S 1076 0) (S 54 ((S 1092 0) - 1)) (S 53 ((S 1092 0) - 1)) ∧ sm_VO (S 44) (S 1076 0) (S 1007 0) ((S 55 ((S 1092 0) - 1))) ((S 56 ((S 1092 0) - 1))) ∧ sm_FW (S 44) (S 1076 0) (S 59 ((S 1092 0) - 1)) ∧ sm_FL (S 53) (S 54) (S 55) (S 56) (g12 57) (g12 58) (S 59) (S 60) (S 61) (S 62) (g12 63) (g12 64) (S 27) (S 29) (S 1100007) (S 1100023) (S 1100024) (S 1100025) (S 26) (S 1100029) (S 44) (S 1046 0) (S 1032 0) (S 1076 0) (S 1007 0) (((S 1092 0) - 1)) ∧ (g12 58 ((S 1092 0) - 1)) = (S 1100007 (g12 57 ((S 1092 0) - 1))) ∧ sm_SK (g12 63) (g12 64) (S 44) (S 1100007) (S 1100025) (S 1076 0) (S 1007 0) (400 * ((S 1092 0) - 1)) ((g12 58 ((S 1092 0) - 1))) ((S 1100025 (g12 57 ((S 1092 0) - 1))))) ∧ ((S 1073 0) = 1 ∨ (S 1092 0) = 0 ∧ (S 1075 0) = 0 ∧ ((S 1073 0) = 2 ∨ (S 1073 0) = 3)))))))) ∧ ((p1 = (17 : Int)) → ((sm_CT (S 26) (S 27) (S 28) (S 29) (S 1100007) (S 1100023) (S 1100024) (S 1100025) (S 21) (S 1046 0) (S 1032 0) (S 1008 0) (S 1055 0) → sm_LS (S 26) (S 1100007) (S 1100025) (S 1046 0) → sm_SK (S 63) (S 64) (S 44) (S 1100007) (S 1100025) (S 1076 0) (S 1007 0) (400 * ((S 1092 0) - 1)) ((S 58 ((S 1092 0) - 1))) ((S 1100034 0)) → 0 ≤ (S 1100033 0) → (S 1100033 0) < (S 1046 0) → (S 26 (S 1100033 0)) = 17 → (S 1100034 0) = (S 1100025 (S 1100033 0)) → (S 58 ((S 1092 0) - 1)) = (S 1100007 (S 1100033 0)) → sm_SK (S 63) (S 64) (S 44) (S 1100007) (S 1100025) (S 1076 0) (S 1007 0) (400 * ((S 1092 0) - 1)) ((S 58 ((S 1092 0) - 1)) - 1) ((S 1100025 ((S 1100033 0) + 1))) ∧ (S 1100033 0) + 1 < (S 1046 0) ∧ (S 29 ((S 1100033 0) + 1)) = (S 29 (S 1100033 0)) ∧ (S 1100007 ((S 1100033 0) + 1)) = (S 1100007 (S 1100033 0)) - 1 ∧ (S 1100023 ((S 1100033 0) + 1)) = (S 1100023 (S 1100033 0)) ∧ 1 ≤ (S 1100007 (S 1100033 0)) ∧ -1 ≤ (S 1100025 ((S 1100033 0) + 1))) → (1 ≤ (S 1092 0) ∧ (S 1092 0) ≤ 24 ∧ 0 ≤ (S 58 ((S 1092 0) - 1)) ∧ (S 58 ((S 1092 0) - 1)) ≤ 400 ∧ 0 ≤ (1 : Int) ∧ (1 : Int) ≤ (S 58 ((S 1092 0) - 1))) ∧ (∀ g19 : sv_S, ((g19 58 ((S 1092 0) - 1)) = (S 58 ((S 1092 0) - 1)) - (1 : Int) ∧ (∀ k : Int, ¬ k = (S 1092 0) - 1 → (g19 58 k) = (S 58 k))) → (1 ≤ (S 1092 0) ∧ (S 1092 0) ≤ 24 ∧ 0 ≤ (S 57 ((S 1092 0) - 1)) ∧ (S 57 ((S 1092 0) - 1)) ≤ 600) ∧ (∀ g25 : sv_S, ((g25 57 ((S 1092 0) - 1)) = (S 57 ((S 1092 0) - 1)) + 1 ∧ (∀ k : Int, ¬ k = (S 1092 0) - 1 → (g25 57 k) = (S 57 k))) → (sm_PL (S 1100020) (S 51) (S 52) (S 46) (S 47) (S 1076 0) (S 1086 0) ∧ sm_FR (S 1100020) (S 52) (S 1100021) (S 1100022) (3000 - (S 1084 0)) (S 1085 0) ∧ sm_PV (S 1100020) (S 48) (S 49) (S 50) (S 44) (S 1076 0) (S 1007 0) ∧ sm_AL (S 1100020) (S 48) (S 49) (S 50) (S 44) (S 1076 0) (S 1100032 0) ∧ sm_SV (S 1100020) (S 48) (S 1100029) (S 32) (S 33) (S 1076 0) (S 1032 0) ∧ 0 ≤ (S 1076 0) ∧ (S 1076 0) ≤ 300 ∧ 0 ≤ (S 1084 0) ∧ (S 1084 0) ≤ 3000 ∧ 0 ≤ (S 1086 0) ∧ sm_SC (S 1100029) (S 44) (S 45) (S 43) (S 21) (S 1076 0) (S 1032 0) ∧ sm_PO (S 42) (S 1076 0) ∧ ((S 1075 0) = 0 → (S 1100032 0) = -1 ∧ sm_FO (S 44) (S 45) (S 1076 0)) ∧ 23 ≤ (S 1076 0) ∧ 31 ≤ (S 1007 0) ∧ (S 1007 0) ≤ 400 ∧ sm_LN (S 4) 400 (S 1007 0) ∧ (S 1008 0) ≤ (S 1007 0) ∧ ((S 1075 0) = 1 → (S 1075 0) = 1) ∧ 0 ≤ (S 1092 0) ∧ (S 1092 0) ≤ 24 ∧ (S 1007 0) ≤ (S 1007 0) ∧ (¬ (S 1075 0) = 0 → sm_LX (g19 58) (S 63) (S 64) (S 1092 0) (S 1076 0)) ∧ ((S 1075 0) = 0 → (S 1073 0) = 1 → 1 ≤ (S 1092 0) ∧ (S 1092 0) ≤ 24 ∧ 0 ≤ (g25 57 ((S 1092 0) - 1)) ∧ (g25 57 ((S 1092 0) - 1)) < (S 1046 0) ∧ (S 29 (g25 57 ((S 1092 0) - 1))) = (S 53 ((S 1092 0) - 1)) ∧ 0 ≤ (S 53 ((S 1092 0) - 1)) ∧ (S 53 ((S 1092 0) - 1)) < (S 1032 0) ∧ (S 60 ((S 1092 0) - 1)) = sm_dp (S 1100024) (S 1100023 (g25 57 ((S 1092 0) - 1))) ∧ sm_TC (S 61) (S 62) (S 27) (S 1100007) (S 1100023) (S 1100024) (40 * ((S 1092 0) - 1)) (S 1100023 (g25 57 ((S 1092 0) - 1))) ∧ sm_LK (S 1100029) (S 1076 0) (S 54 ((S 1092 0) - 1)) (S 53 ((S 1092 0) - 1)) ∧ sm_VO (S 44) (S 1076 0) (S 1007 0) ((S 55 ((S 1092 0) - 1))) ((S 56 ((S 1092 0) - 1))) ∧ sm_FW (S 44) (S 1076 0) (S 59 ((S 1092 0) - 1)) ∧ sm_FL (S 53) (S 54) (S 55) (S 56) (g25 57) (g19 58) (S 59) (S 60) (S 61) (S 62) (S 63) (S 64) (S 27) (S 29) (S 1100007) (S 1100023) (S 1100024) (S 1100025) (S 26) (S 1100029) (S 44) (S 1046 0) (S 1032 0) (S 1076 0) (S 1007 0) (((S 1092 0) - 1)) ∧ (g19 58 ((S 1092 0) - 1)) = (S 1100007 (g25 57 ((S 1092 0) - 1))) ∧ sm_SK (S 63) (S 64) (S 44) (S 1100007) (S 1100025) (S 1076 0) (S 1007 0) (400 * ((S 1092 0) - 1)) ((g19 58 ((S 1092 0) - 1))) ((S 1100025 (g25 57 ((S 1092 0) - 1))))) ∧ ((S 1073 0) = 1 ∨ (S 1092 0) = 0 ∧ (S 1075 0) = 0 ∧ ((S 1073 0) = 2 ∨ (S 1073 0) = 3))))))) ∧ ((p1 = (18 : Int)) → ((sm_CT (S 26) (S 27) (S 28) (S 29) (S 1100007) (S 1100023) (S 1100024) (S 1100025) (S 21) (S 1046 0) (S 1032 0) (S 1008 0) (S 1055 0) → 0 ≤ (S 1100033 0) → (S 1100033 0) < (S 1046 0) → ((S 26 (S 1100033 0)) = 18 → (0 ≤ ((S 1100007 (S 1100033 0)) - 1) ∧ (0 ≤ (S 1100023 (S 1100033 0)) → (S 1100007 (S 1100023 (S 1100033 0))) ≤ ((S 1100007 (S 1100033 0)) - 1)) ∧ (0 ≤ (S 1100025 (S 1100033 0)) → (S 1100007 (S 1100025 (S 1100033 0))) ≤ ((S 1100007 (S 1100033 0)) - 1))) ∧ (0 ≤ ((S 1100033 0) + 1) ∧ ((S 1100033 0) + 1) < (S 1046 0) ∧ (S 29 ((S 1100033 0) + 1)) = ((S 29 (S 1100033 0))) ∧ (S 1100007 ((S 1100033 0) + 1)) = ((S 1100007 (S 1100033 0)) + 1) ∧ (S 1100023 ((S 1100033 0) + 1)) = ((S 1100023 (S 1100033 0))) ∧ (S 1100025 ((S 1100033 0) + 1)) = ((S 1100025 (S 1100033 0)))))) → (((S 1100034 0) = (S 1100025 (S 1100033 0)) → (S 58 ((S 1092 0) - 1)) = (S 1100007 (S 1100033 0)) → (0 ≤ (S 1100025 (S 1100033 0)) → (S 1100007 (S 1100025 (S 1100033 0))) ≤ (S 1100007 (S 1100033 0)) - 1) → (0 ≤ (S 1100034 0) → (S 1100007 (S 1100034 0)) ≤ (S 58 ((S 1092 0) - 1)) - 1)) → ((sm_SK (S 63) (S 64) (S 44) (S 1100007) (S 1100025) (S 1076 0) (S 1007 0) (400 * ((S 1092 0) - 1)) ((S 58 ((S 1092 0) - 1))) ((S 1100034 0)) → sm_LS (S 26) (S 1100007) (S 1100025) (S 1046 0) → 0 ≤ (S 58 ((S 1092 0) - 1)) - 1 → (S 58 ((S 1092 0) - 1)) - 1 < (S 58 ((S 1092 0) - 1)) → (S 1100034 0) < (S 1046 0) → (S 1100034 0) = (S 1100025 (S 1100033 0)) → (S 58 ((S 1092 0) - 1)) = (S 1100007 (S 1100033 0)) → (0 ≤ (S 1100034 0) → (S 26 (S 1100034 0)) = 29) → (0 ≤ (S 1100025 (S 1100033 0)) → (S 1100007 (S 1100025 (S 1100033 0))) ≤ (S 1100007 (S 1100033 0)) - 1) → sm_VO (S 44) (S 1076 0) (S 1007 0) ((S 63 (400 * ((S 1092 0) - 1) + ((S 58 ((S 1092 0) - 1)) - 1)))) ((S 64 (400 * ((S 1092 0) - 1) + ((S 58 ((S 1092 0) - 1)) - 1))))) → (1 ≤ (S 1092 0) ∧ (S 1092 0) ≤ 24 ∧ 0 ≤ (S 58 ((S 1092 0) - 1)) ∧ (S 58 ((S 1092 0) - 1)) ≤ 400 ∧ (S 58 ((S 1092 0) - 1)) < 400) ∧ (∀ g34 : sv_S, ((g34 58 ((S 1092 0) - 1)) = (S 58 ((S 1092 0) - 1)) + 1 ∧ (g34 63 (400 * ((S 1092 0) - 1) + (S 58 ((S 1092 0) - 1)))) = s3 ∧ (g34 64 (400 * ((S 1092 0) - 1) + (S 58 ((S 1092 0) - 1)))) = s5 ∧ (∀ k : Int, ¬ k = (S 1092 0) - 1 → (g34 58 k) = (S 58 k)) ∧ (∀ k : Int, ¬ k = (400 * ((S 1092 0) - 1) + (S 58 ((S 1092 0) - 1))) → (g34 63 k) = (S 63 k)) ∧ (∀ k : Int, ¬ k = (400 * ((S 1092 0) - 1) + (S 58 ((S 1092 0) - 1))) → (g34 64 k) = (S 64 k))) → (1 ≤ (S 1092 0) ∧ (S 1092 0) ≤ 24 ∧ 0 ≤ (S 57 ((S 1092 0) - 1)) ∧ (S 57 ((S 1092 0) - 1)) ≤ 600) ∧ (∀ g40 : sv_S, ((g40 57 ((S 1092 0) - 1)) = (S 57 ((S 1092 0) - 1)) + 1 ∧ (∀ k : Int, ¬ k = (S 1092 0) - 1 → (g40 57 k) = (S 57 k))) → (sm_PL (S 1100020) (S 51) (S 52) (S 46) (S 47) (S 1076 0) (S 1086 0) ∧ sm_FR (S 1100020) (S 52) (S 1100021) (S 1100022) (3000 - (S 1084 0)) (S 1085 0) ∧ sm_PV (S 1100020) (S 48) (S 49) (S 50) (S 44) (S 1076 0) (S 1007 0) ∧ sm_AL (S 1100020) (S 48) (S 49) (S 50) (S 44) (S 1076 0) (S 1100032 0) ∧ sm_SV (S 1100020) (S 48) (S 1100029) (S 32) (S 33) (S 1076 0) (S 1032 0) ∧ 0 ≤ (S 1076 0) ∧ (S 1076 0) ≤ 300 ∧ 0 ≤ (S 1084 0) ∧ (S 1084 0) ≤ 3000 ∧ 0 ≤ (S 1086 0) ∧ sm_SC (S 1100029) (S 44) (S 45) (S 43) (S 21) (S 1076 0) (S 1032 0) ∧ sm_PO (S 42) (S 1076 0) ∧ ((S 1075 0) = 0 → (S 1100032 0) = -1 ∧ sm_FO (S 44) (S 45) (S 1076 0)) ∧ 23 ≤ (S 1076 0) ∧ 31 ≤ (S 1007 0) ∧ (S 1007 0) ≤ 400 ∧ sm_LN (S 4) 400 (S 1007 0) ∧ (S 1008 0) ≤ (S 1007 0) ∧ ((S 1075 0) = 1 → (S 1075 0) = 1) ∧ 0 ≤ (S 1092 0) ∧ (S 1092 0) ≤ 24 ∧ (S 1007 0) ≤ (S 1007 0) ∧ (¬ (S 1075 0) = 0 → sm_LX (g34 58) (g34 63) (g34 64) (S 1092 0) (S 1076 0)) ∧ ((S 1075 0) = 0 → (S 1073 0) = 1 → 1 ≤ (S 1092 0) ∧ (S 1092 0) ≤ 24 ∧ 0 ≤ (g40 57 ((S 1092 0) - 1)) ∧ (g40 57 ((S 1092 0) - 1)) < (S 1046 0) ∧ (S 29 (g40 57 ((S 1092 0) - 1))) = (S 53 ((S 1092 0) - 1)) ∧ 0 ≤ (S 53 ((S 1092 0) - 1)) ∧ (S 53 ((S 1092 0) - 1)) < (S 1032 0) ∧ (S 60 ((S 1092 0) - 1)) = sm_dp (S 1100024) (S 1100023 (g40 57 ((S 1092 0) - 1))) ∧ sm_TC (S 61) (S 62) (S 27) (S 1100007) (S 1100023) (S 1100024) (40 * ((S 1092 0) - 1)) (S 1100023 (g40 57 ((S 1092 0) - 1))) ∧ sm_LK (S 1100029) (S 1076 0) (S 54 ((S 1092 0) - 1)) (S 53 ((S 1092 0) - 1)) ∧ sm_VO (S 44) (S 1076 0) (S 1007 0) ((S 55 ((S 1092 0) - 1))) ((S 56 ((S 1092 0) - 1))) ∧ sm_FW (S 44) (S 1076 0) (S 59 ((S 1092 0) - 1)) ∧ sm_FL (S 53) (S 54) (S 55) (S 56) (g40 57) (g34 58) (S 59) (S 60) (S 61) (S 62) (g34 63) (g34 64) (S 27) (S 29) (S 1100007) (S 1100023) (S 1100024) (S 1100025) (S 26) (S 1100029) (S 44) (S 1046 0) (S 1032 0) (S 1076 0) (S 1007 0) (((S 1092 0) - 1)) ∧ (g34 58 ((S 1092 0) - 1)) = (S 1100007 (g40 57 ((S 1092 0) - 1))) ∧ sm_SK (g34 63) (g34 64) (S 44) (S 1100007) (S 1100025) (S 1076 0) (S 1007 0) (400 * ((S 1092 0) - 1)) ((g34 58 ((S 1092 0) - 1))) ((S 1100025 (g40 57 ((S 1092 0) - 1))))) ∧ ((S 1073 0) = 1 ∨ (S 1092 0) = 0 ∧ (S 1075 0) = 0 ∧ ((S 1073 0) = 2 ∨ (S 1073 0) = 3))))))))) ∧ ((p1 = (19 : Int)) → ((sm_CT (S 26) (S 27) (S 28) (S 29) (S 1100007) (S 1100023) (S 1100024) (S 1100025) (S 21) (S 1046 0) (S 1032 0) (S 1008 0) (S 1055 0) → 0 ≤ (S 1100033 0) → (S 1100033 0) < (S 1046 0) → ((S 26 (S 1100033 0)) = 19 → (0 ≤ ((S 1100007 (S 1100033 0)) - 2) ∧ (0 ≤ (S 1100023 (S 1100033 0)) → (S 1100007 (S 1100023 (S 1100033 0))) ≤ ((S 1100007 (S 1100033 0)) - 2)) ∧ (0 ≤ (S 1100025 (S 1100033 0)) → (S 1100007 (S 1100025 (S 1100033 0))) ≤ ((S 1100007 (S 1100033 0)) - 2))) ∧ (0 ≤ ((S 1100033 0) + 1) ∧ ((S 1100033 0) + 1) < (S 1046 0) ∧ (S 29 ((S 1100033 0) + 1)) = ((S 29 (S 1100033 0))) ∧ (S 1100007 ((S 1100033 0) + 1)) = ((S 1100007 (S 1100033 0)) + 2) ∧ (S 1100023 ((S 1100033 0) + 1)) = ((S 1100023 (S 1100033 0))) ∧ (S 1100025 ((S 1100033 0) + 1)) = ((S 1100025 (S 1100033 0)))))) → (((S 1100034 0) = (S 1100025 (S 1100033 0)) → (S 58 ((S 1092 0) - 1)) = (S 1100007 (S 1100033 0)) → (0 ≤ (S 1100025 (S 1100033 0)) → (S 1100007 (S 1100025 (S 1100033 0))) ≤ (S 1100007 (S 1100033 0)) - 2) → (0 ≤ (S 1100034 0) → (S 1100007 (S 1100034 0)) ≤ (S 58 ((S 1092 0) - 1)) - 2)) → ((sm_SK (S 63) (S 64) (S 44) (S 1100007) (S 1100025) (S 1076 0) (S 1007 0) (400 * ((S 1092 0) - 1)) ((S 58 ((S 1092 0) - 1))) ((S 1100034 0)) → sm_LS (S 26) (S 1100007) (S 1100025) (S 1046 0) → 0 ≤ (S 58 ((S 1092 0) - 1)) - 1 → (S 58 ((S 1092 0) - 1)) - 1 < (S 58 ((S 1092 0) - 1)) → (S 1100034 0) < (S 1046 0) → (S 1100034 0) = (S 1100025 (S 1100033 0)) → (S 58 ((S 1092 0) - 1)) = (S 1100007 (S 1100033 0)) → (0 ≤ (S 1100034 0) → (S 26 (S 1100034 0)) = 29) → (0 ≤ (S 1100025 (S 1100033 0)) → (S 1100007 (S 1100025 (S 1100033 0))) ≤ (S 1100007 (S 1100033 0)) - 2) → sm_VO (S 44) (S 1076 0) (S 1007 0) ((S 63 (400 * ((S 1092 0) - 1) + ((S 58 ((S 1092 0) - 1)) - 1)))) ((S 64 (400 * ((S 1092 0) - 1) + ((S 58 ((S 1092 0) - 1)) - 1))))) → ((sm_SK (S 63) (S 64) (S 44) (S 1100007) (S 1100025) (S 1076 0) (S 1007 0) (400 * ((S 1092 0) - 1)) ((S 58 ((S 1092 0) - 1))) ((S 1100034 0)) → sm_LS (S 26) (S 1100007) (S 1100025) (S 1046 0) → 0 ≤ (S 58 ((S 1092 0) - 1)) - 2 → (S 58 ((S 1092 0) - 1)) - 2 < (S 58 ((S 1092 0) - 1)) → (S 1100034 0) < (S 1046 0) → (S 1100034 0) = (S 1100025 (S 1100033 0)) → (S 58 ((S 1092 0) - 1)) = (S 1100007 (S 1100033 0)) → (0 ≤ (S 1100034 0) → (S 26 (S 1100034 0)) = 29) → (0 ≤ (S 1100025 (S 1100033 0)) → (S 1100007 (S 1100025 (S 1100033 0))) ≤ (S 1100007 (S 1100033 0)) - 2) → sm_VO (S 44) (S 1076 0) (S 1007 0) ((S 63 (400 * ((S 1092 0) - 1) + ((S 58 ((S 1092 0) - 1)) - 2)))) ((S 64 (400 * ((S 1092 0) - 1) + ((S 58 ((S 1092 0) - 1)) - 2))))) → (1 ≤ (S 1092 0) ∧ (S 1092 0) ≤ 24 ∧ 0 ≤ (S 58 ((S 1092 0) - 1)) ∧ (S 58 ((S 1092 0) - 1)) ≤ 400 ∧ 0 ≤ (1 : Int) ∧ (1 : Int) < (S 58 ((S 1092 0) - 1))) ∧ (∀ x50 : Int, ((S 63 ((400 * ((S 1092 0) - 1) + (S 58 ((S 1092 0) - 1))) - 1 - (1 : Int)))) = x50 → (∀ x52 : Int, ((S 64 ((400 * ((S 1092 0) - 1) + (S 58 ((S 1092 0) - 1))) - 1 - (1 : Int)))) = x52 → (1 ≤ (S 1092 0) ∧ (S 1092 0) ≤ 24 ∧ 0 ≤ (S 58 ((S 1092 0) - 1)) ∧ (S 58 ((S 1092 0) - 1)) ≤ 400 ∧ (S 58 ((S 1092 0) - 1)) < 400) ∧ (∀ g55 : sv_S, ((g55 58 ((S 1092 0) - 1)) = (S 58 ((S 1092 0) - 1)) + 1 ∧ (g55 63 (400 * ((S 1092 0) - 1) + (S 58 ((S 1092 0) - 1)))) = x50 ∧ (g55 64 (400 * ((S 1092 0) - 1) + (S 58 ((S 1092 0) - 1)))) = x52 ∧ (∀ k : Int, ¬ k = (S 1092 0) - 1 → (g55 58 k) = (S 58 k)) ∧ (∀ k : Int, ¬ k = (400 * ((S 1092 0) - 1) + (S 58 ((S 1092 0) - 1))) → (g55 63 k) = (S 63 k)) ∧ (∀ k : Int, ¬ k = (400 * ((S 1092 0) - 1) + (S 58 ((S 1092 0) - 1))) → (g55 64 k) = (S 64 k))) → (1 ≤ (S 1092 0) ∧ (S 1092 0) ≤ 24 ∧ 0 ≤ (g55 58 ((S 1092 0) - 1)) ∧ (g55 58 ((S 1092 0) - 1)) ≤ 400 ∧ (g55 58 ((S 1092 0) - 1)) < 400) ∧ (∀ g61 : sv_S, ((g61 58 ((S 1092 0) - 1)) = (g55 58 ((S 1092 0) - 1)) + 1 ∧ (g61 63 (400 * ((S 1092 0) - 1) + (g55 58 ((S 1092 0) - 1)))) = s3 ∧ (g61 64 (400 * ((S 1092 0) - 1) + (g55 58 ((S 1092 0) - 1)))) = s5 ∧ (∀ k : Int, ¬ k = (S 1092 0) - 1 → (g61 58 k) = (g55 58 k)) ∧ (∀ k : Int, ¬ k = (400 * ((S 1092 0) - 1) + (g55 58 ((S 1092 0) - 1))) → (g61 63 k) = (g55 63 k)) ∧ (∀ k : Int, ¬ k = (400 * ((S 1092 0) - 1) + (g55 58 ((S 1092 0) - 1))) → (g61 64 k) = (g55 64 k))) → (1 ≤ (S 1092 0) ∧ (S 1092 0) ≤ 24 ∧ 0 ≤ (S 57 ((S 1092 0) - 1)) ∧ (S 57 ((S 1092 0) - 1)) ≤ 600) ∧ (∀ g67 : sv_S, ((g67 57 ((S 1092 0) - 1)) = (S 57 ((S 1092 0) - 1)) + 1 ∧ (∀ k : Int, ¬ k = (S 1092 0) - 1 → (g67 57 k) = (S 57 k))) → (sm_PL (S 1100020) (S 51) (S 52) (S 46) (S 47) (S 1076 0) (S 1086 0) ∧ sm_FR (S 1100020) (S 52) (S 1100021) (S 1100022) (3000 - (S 1084 0)) (S 1085 0) ∧ sm_PV (S 1100020) (S 48) (S 49) (S 50) (S 44) (S 1076 0) (S 1007 0) ∧ sm_AL (S 1100020) (S 48) (S 49) (S 50) (S 44) (S 1076 0) (S 1100032 0) ∧ sm_SV (S 1100020) (S 48) (S 1100029) (S 32) (S 33) (S 1076 0) (S 1032 0) ∧ 0 ≤ (S 1076 0) ∧ (S 1076 0) ≤ 300 ∧ 0 ≤ (S 1084 0) ∧ (S 1084 0) ≤ 3000 ∧ 0 ≤ (S 1086 0) ∧ sm_SC (S 1100029) (S 44) (S 45) (S 43) (S 21) (S 1076 0) (S 1032 0) ∧ sm_PO (S 42) (S 1076 0) ∧ ((S 1075 0) = 0 → (S 1100032 0) = -1 ∧ sm_FO (S 44) (S 45) (S 1076 0)) ∧ 23 ≤ (S 1076 0) ∧ 31 ≤ (S 1007 0) ∧ (S 1007 0) ≤ 400 ∧ sm_LN (S 4) 400 (S 1007 0) ∧ (S 1008 0) ≤ (S 1007 0) ∧ ((S 1075 0) = 1 → (S 1075 0) = 1) ∧ 0 ≤ (S 1092 0) ∧ (S 1092 0) ≤ 24 ∧ (S 1007 0) ≤ (S 1007 0) ∧ (¬ (S 1075 0) = 0 → sm_LX (g61 58) (g61 63) (g61 64) (S 1092 0) (S 1076 0)) ∧ ((S 1075 0) = 0 → (S 1073 0) = 1 → 1 ≤ (S 1092 0) ∧ (S 1092 0) ≤ 24 ∧ 0 ≤ (g67 57 ((S 1092 0) - 1)) ∧ (g67 57 ((S 1092 0) - 1)) < (S 1046 0) ∧ (S 29 (g67 57 ((S 1092 0) - 1))) = (S 53 ((S 1092 0) - 1)) ∧ 0 ≤ (S 53 ((S 1092 0) - 1)) ∧ (S 53 ((S 1092 0) - 1)) < (S 1032 0) ∧ (S 60 ((S 1092 0) - 1)) = sm_dp (S 1100024) (S 1100023 (g67 57 ((S 1092 0) - 1))) ∧ sm_TC (S 61) (S 62) (S 27) (S 1100007) (S 1100023) (S 1100024) (40 * ((S 1092 0) - 1)) (S 1100023 (g67 57 ((S 1092 0) - 1))) ∧ sm_LK (S 1100029) (S 1076 0) (S 54 ((S 1092 0) - 1)) (S 53 ((S 1092 0) - 1)) ∧ sm_VO (S 44) (S 1076 0) (S 1007 0) ((S 55 ((S 1092 0) - 1))) ((S 56 ((S 1092 0) - 1))) ∧ sm_FW (S 44) (S 1076 0) (S 59 ((S 1092 0) - 1)) ∧ sm_FL (S 53) (S 54) (S 55) (S 56) (g67 57) (g61 58) (S 59) (S 60) (S 61) (S 62) (g61 63) (g61 64) (S 27) (S 29) (S 1100007) (S 1100023) (S 1100024) (S 1100025) (S 26) (S 1100029) (S 44) (S 1046 0) (S 1032 0) (S 1076 0) (S 1007 0) (((S 1092 0) - 1)) ∧ (g61 58 ((S 1092 0) - 1)) = (S 1100007 (g67 57 ((S 1092 0) - 1))) ∧ sm_SK (g61 63) (g61 64) (S 44) (S 1100007) (S 1100025) (S 1076 0) (S 1007 0) (400 * ((S 1092 0) - 1)) ((g61 58 ((S 1092 0) - 1))) ((S 1100025 (g67 57 ((S 1092 0) - 1))))) ∧ ((S 1073 0) = 1 ∨ (S 1092 0) = 0 ∧ (S 1075 0) = 0 ∧ ((S 1073 0) = 2 ∨ (S 1073 0) = 3))))))))))))) ∧ ((p1 = (20 : Int)) → ((sm_CT (S 26) (S 27) (S 28) (S 29) (S 1100007) (S 1100023) (S 1100024) (S 1100025) (S 21) (S 1046 0) (S 1032 0) (S 1008 0) (S 1055 0) → 0 ≤ (S 1100033 0) → (S 1100033 0) < (S 1046 0) → ((S 26 (S 1100033 0)) = 20 → (0 ≤ ((S 1100007 (S 1100033 0)) - 3) ∧ (0 ≤ (S 1100023 (S 1100033 0)) → (S 1100007 (S 1100023 (S 1100033 0))) ≤ ((S 1100007 (S 1100033 0)) - 3)) ∧ (0 ≤ (S 1100025 (S 1100033 0)) → (S 1100007 (S 1100025 (S 1100033 0))) ≤ ((S 1100007 (S 1100033 0)) - 3))) ∧ (0 ≤ ((S 1100033 0) + 1) ∧ ((S 1100033 0) + 1) < (S 1046 0) ∧ (S 29 ((S 1100033 0) + 1)) = ((S 29 (S 1100033 0))) ∧ (S 1100007 ((S 1100033 0) + 1)) = ((S 1100007 (S 1100033 0)) + 1) ∧ (S 1100023 ((S 1100033 0) + 1)) = ((S 1100023 (S 1100033 0))) ∧ (S 1100025 ((S 1100033 0) + 1)) = ((S 1100025 (S 1100033 0)))))) → (((S 1100034 0) = (S 1100025 (S 1100033 0)) → (S 58 ((S 1092 0) - 1)) = (S 1100007 (S 1100033 0)) → (0 ≤ (S 1100025 (S 1100033 0)) → (S 1100007 (S 1100025 (S 1100033 0))) ≤ (S 1100007 (S 1100033 0)) - 3) → (0 ≤ (S 1100034 0) → (S 1100007 (S 1100034 0)) ≤ (S 58 ((S 1092 0) - 1)) - 3)) → ((sm_SK (S 63) (S 64) (S 44) (S 1100007) (S 1100025) (S 1076 0) (S 1007 0) (400 * ((S 1092 0) - 1)) ((S 58 ((S 1092 0) - 1))) ((S 1100034 0)) → sm_LS (S 26) (S 1100007) (S 1100025) (S 1046 0) → 0 ≤ (S 58 ((S 1092 0) - 1)) - 1 → (S 58 ((S 1092 0) - 1)) - 1 < (S 58 ((S 1092 0) - 1)) → (S 1100034 0) < (S 1046 0) → (S 1100034 0) = (S 1100025 (S 1100033 0)) → (S 58 ((S 1092 0) - 1)) = (S 1100007 (S 1100033 0)) → (0 ≤ (S 1100034 0) → (S 26 (S 1100034 0)) = 29) → (0 ≤ (S 1100025 (S 1100033 0)) → (S 1100007 (S 1100025 (S 1100033 0))) ≤ (S 1100007 (S 1100033 0)) - 3) → sm_VO (S 44) (S 1076 0) (S 1007 0) ((S 63 (400 * ((S 1092 0) - 1) + ((S 58 ((S 1092 0) - 1)) - 1)))) ((S 64 (400 * ((S 1092 0) - 1) + ((S 58 ((S 1092 0) - 1)) - 1))))) → ((sm_SK (S 63) (S 64) (S 44) (S 1100007) (S 1100025) (S 1076 0) (S 1007 0) (400 * ((S 1092 0) - 1)) ((S 58 ((S 1092 0) - 1))) ((S 1100034 0)) → sm_LS (S 26) (S 1100007) (S 1100025) (S 1046 0) → 0 ≤ (S 58 ((S 1092 0) - 1)) - 2 → (S 58 ((S 1092 0) - 1)) - 2 < (S 58 ((S 1092 0) - 1)) → (S 1100034 0) < (S 1046 0) → (S 1100034 0) = (S 1100025 (S 1100033 0)) → (S 58 ((S 1092 0) - 1)) = (S 1100007 (S 1100033 0)) → (0 ≤ (S 1100034 0) → (S 26 (S 1100034 0)) = 29) → (0 ≤ (S 1100025 (S 1100033 0)) → (S 1100007 (S 1100025 (S 1100033 0))) ≤ (S 1100007 (S 1100033 0)) - 3) → sm_VO (S 44) (S 1076 0) (S 1007 0) ((S 63 (400 * ((S 1092 0) - 1) + ((S 58 ((S 1092 0) - 1)) - 2)))) ((S 64 (400 * ((S 1092 0) - 1) + ((S 58 ((S 1092 0) - 1)) - 2))))) → ((sm_SK (S 63) (S 64) (S 44) (S 1100007) (S 1100025) (S 1076 0) (S 1007 0) (400 * ((S 1092 0) - 1)) ((S 58 ((S 1092 0) - 1))) ((S 1100034 0)) → sm_LS (S 26) (S 1100007) (S 1100025) (S 1046 0) → 0 ≤ (S 58 ((S 1092 0) - 1)) - 3 → (S 58 ((S 1092 0) - 1)) - 3 < (S 58 ((S 1092 0) - 1)) → (S 1100034 0) < (S 1046 0) → (S 1100034 0) = (S 1100025 (S 1100033 0)) → (S 58 ((S 1092 0) - 1)) = (S 1100007 (S 1100033 0)) → (0 ≤ (S 1100034 0) → (S 26 (S 1100034 0)) = 29) → (0 ≤ (S 1100025 (S 1100033 0)) → (S 1100007 (S 1100025 (S 1100033 0))) ≤ (S 1100007 (S 1100033 0)) - 3) → sm_VO (S 44) (S 1076 0) (S 1007 0) ((S 63 (400 * ((S 1092 0) - 1) + ((S 58 ((S 1092 0) - 1)) - 3)))) ((S 64 (400 * ((S 1092 0) - 1) + ((S 58 ((S 1092 0) - 1)) - 3))))) → (1 ≤ (S 1092 0) ∧ (S 1092 0) ≤ 24 ∧ 0 ≤ (S 58 ((S 1092 0) - 1)) ∧ (S 58 ((S 1092 0) - 1)) ≤ 400 ∧ 3 ≤ (S 58 ((S 1092 0) - 1)) ∧ (S 58 ((S 1092 0) - 1)) < 400) ∧ (∀ g78 : sv_S, ((g78 58 ((S 1092 0) - 1)) = (S 58 ((S 1092 0) - 1)) + 1 ∧ (∀ k : Int, ¬ k = (S 1092 0) - 1 → (g78 58 k) = (S 58 k)) ∧ sm_F1 (S 63) (g78 63) ((400 * ((S 1092 0) - 1) + (S 58 ((S 1092 0) - 1))) - 3) ∧ (g78 63 (400 * ((S 1092 0) - 1) + (S 58 ((S 1092 0) - 1)))) = s3 ∧ (g78 63 ((400 * ((S 1092 0) - 1) + (S 58 ((S 1092 0) - 1))) - 1)) = (S 63 ((400 * ((S 1092 0) - 1) + (S 58 ((S 1092 0) - 1))) - 2)) ∧ (g78 63 ((400 * ((S 1092 0) - 1) + (S 58 ((S 1092 0) - 1))) - 2)) = (S 63 ((400 * ((S 1092 0) - 1) + (S 58 ((S 1092 0) - 1))) - 3)) ∧ (g78 63 ((400 * ((S 1092 0) - 1) + (S 58 ((S 1092 0) - 1))) - 3)) = s3 ∧ sm_F1 (S 64) (g78 64) ((400 * ((S 1092 0) - 1) + (S 58 ((S 1092 0) - 1))) - 3) ∧ (g78 64 (400 * ((S 1092 0) - 1) + (S 58 ((S 1092 0) - 1)))) = s5 ∧ (g78 64 ((400 * ((S 1092 0) - 1) + (S 58 ((S 1092 0) - 1))) - 1)) = (S 64 ((400 * ((S 1092 0) - 1) + (S 58 ((S 1092 0) - 1))) - 2)) ∧ (g78 64 ((400 * ((S 1092 0) - 1) + (S 58 ((S 1092 0) - 1))) - 2)) = (S 64 ((400 * ((S 1092 0) - 1) + (S 58 ((S 1092 0) - 1))) - 3)) ∧ (g78 64 ((400 * ((S 1092 0) - 1) + (S 58 ((S 1092 0) - 1))) - 3)) = s5) → (1 ≤ (S 1092 0) ∧ (S 1092 0) ≤ 24 ∧ 0 ≤ (S 57 ((S 1092 0) - 1)) ∧ (S 57 ((S 1092 0) - 1)) ≤ 600) ∧ (∀ g84 : sv_S, ((g84 57 ((S 1092 0) - 1)) = (S 57 ((S 1092 0) - 1)) + 1 ∧ (∀ k : Int, ¬ k = (S 1092 0) - 1 → (g84 57 k) = (S 57 k))) → (sm_PL (S 1100020) (S 51) (S 52) (S 46) (S 47) (S 1076 0) (S 1086 0) ∧ sm_FR (S 1100020) (S 52) (S 1100021) (S 1100022) (3000 - (S 1084 0)) (S 1085 0) ∧ sm_PV (S 1100020) (S 48) (S 49) (S 50) (S 44) (S 1076 0) (S 1007 0) ∧ sm_AL (S 1100020) (S 48) (S 49) (S 50) (S 44) (S 1076 0) (S 1100032 0) ∧ sm_SV (S 1100020) (S 48) (S 1100029) (S 32) (S 33) (S 1076 0) (S 1032 0) ∧ 0 ≤ (S 1076 0) ∧ (S 1076 0) ≤ 300 ∧ 0 ≤ (S 1084 0) ∧ (S 1084 0) ≤ 3000 ∧ 0 ≤ (S 1086 0) ∧ sm_SC (S 1100029) (S 44) (S 45) (S 43) (S 21) (S 1076 0) (S 1032 0) ∧ sm_PO (S 42) (S 1076 0) ∧ ((S 1075 0) = 0 → (S 1100032 0) = -1 ∧ sm_FO (S 44) (S 45) (S 1076 0)) ∧ 23 ≤ (S 1076 0) ∧ 31 ≤ (S 1007 0) ∧ (S 1007 0) ≤ 400 ∧ sm_LN (S 4) 400 (S 1007 0) ∧ (S 1008 0) ≤ (S 1007 0) ∧ ((S 1075 0) = 1 → (S 1075 0) = 1) ∧ 0 ≤ (S 1092 0) ∧ (S 1092 0) ≤ 24 ∧ (S 1007 0) ≤ (S 1007 0) ∧ (¬ (S 1075 0) = 0 → sm_LX (g78 58) (g78 63) (g78 64) (S 1092 0) (S 1076 0)) ∧ ((S 1075 0) = 0 → (S 1073 0) = 1 → 1 ≤ (S 1092 0) ∧ (S 1092 0) ≤ 24 ∧ 0 ≤ (g84 57 ((S 1092 0) - 1)) ∧ (g84 57 ((S 1092 0) - 1)) < (S 1046 0) ∧ (S 29 (g84 57 ((S 1092 0) - 1))) = (S 53 ((S 1092 0) - 1)) ∧ 0 ≤ (S 53 ((S 1092 0) - 1)) ∧ (S 53 ((S 1092 0) - 1)) < (S 1032 0) ∧ (S 60 ((S 1092 0) - 1)) = sm_dp (S 1100024) (S 1100023 (g84 57 ((S 1092 0) - 1))) ∧ sm_TC (S 61) (S 62) (S 27) (S 1100007) (S 1100023) (S 1100024) (40 * ((S 1092 0) - 1)) (S 1100023 (g84 57 ((S 1092 0) - 1))) ∧ sm_LK (S 1100029) (S 1076 0) (S 54 ((S 1092 0) - 1)) (S 53 ((S 1092 0) - 1)) ∧ sm_VO (S 44) (S 1076 0) (S 1007 0) ((S 55 ((S 1092 0) - 1))) ((S 56 ((S 1092 0) - 1))) ∧ sm_FW (S 44) (S 1076 0) (S 59 ((S 1092 0) - 1)) ∧ sm_FL (S 53) (S 54) (S 55) (S 56) (g84 57) (g78 58) (S 59) (S 60) (S 61) (S 62) (g78 63) (g78 64) (S 27) (S 29) (S 1100007) (S 1100023) (S 1100024) (S 1100025) (S 26) (S 1100029) (S 44) (S 1046 0) (S 1032 0) (S 1076 0) (S 1007 0) (((S 1092 0) - 1)) ∧ (g78 58 ((S 1092 0) - 1)) = (S 1100007 (g84 57 ((S 1092 0) - 1))) ∧ sm_SK (g78 63) (g78 64) (S 44) (S 1100007) (S 1100025) (S 1076 0) (S 1007 0) (400 * ((S 1092 0) - 1)) ((g78 58 ((S 1092 0) - 1))) ((S 1100025 (g84 57 ((S 1092 0) - 1))))) ∧ ((S 1073 0) = 1 ∨ (S 1092 0) = 0 ∧ (S 1075 0) = 0 ∧ ((S 1073 0) = 2 ∨ (S 1073 0) = 3))))))))))) ∧ ((p1 = (21 : Int)) → ((sm_CT (S 26) (S 27) (S 28) (S 29) (S 1100007) (S 1100023) (S 1100024) (S 1100025) (S 21) (S 1046 0) (S 1032 0) (S 1008 0) (S 1055 0) → 0 ≤ (S 1100033 0) → (S 1100033 0) < (S 1046 0) → ((S 26 (S 1100033 0)) = 21 → (0 ≤ ((S 1100007 (S 1100033 0))) ∧ (0 ≤ (S 1100023 (S 1100033 0)) → (S 1100007 (S 1100023 (S 1100033 0))) ≤ ((S 1100007 (S 1100033 0)))) ∧ (0 ≤ (S 1100025 (S 1100033 0)) → (S 1100007 (S 1100025 (S 1100033 0))) ≤ ((S 1100007 (S 1100033 0))))) ∧ (0 ≤ ((S 27 (S 1100033 0))) ∧ ((S 27 (S 1100033 0))) < (S 1046 0) ∧ (S 29 ((S 27 (S 1100033 0)))) = ((S 29 (S 1100033 0))) ∧ (S 1100007 ((S 27 (S 1100033 0)))) = ((S 1100007 (S 1100033 0))) ∧ (S 1100023 ((S 27 (S 1100033 0)))) = ((S 1100023 (S 1100033 0))) ∧ (S 1100025 ((S 27 (S 1100033 0)))) = ((S 1100025 (S 1100033 0)))))) → (0 ≤ ((S 1092 0) - (1 : Int)) ∧ ((S 1092 0) - (1 : Int)) < 24) ∧ (sm_PL (S 1100020) (S 51) (S 52) (S 46) (S 47) (S 1076 0) (S 1086 0) ∧ sm_FR (S 1100020) (S 52) (S 1100021) (S 1100022) (3000 - (S 1084 0)) (S 1085 0) ∧ sm_PV (S 1100020) (S 48) (S 49) (S 50) (S 44) (S 1076 0) (S 1007 0) ∧ sm_AL (S 1100020) (S 48) (S 49) (S 50) (S 44) (S 1076 0) (S 1100032 0) ∧ sm_SV (S 1100020) (S 48) (S 1100029) (S 32) (S 33) (S 1076 0) (S 1032 0) ∧ 0 ≤ (S 1076 0) ∧ (S 1076 0) ≤ 300 ∧ 0 ≤ (S 1084 0) ∧ (S 1084 0) ≤ 3000 ∧ 0 ≤ (S 1086 0) ∧ sm_SC (S 1100029) (S 44) (S 45) (S 43) (S 21) (S 1076 0) (S 1032 0) ∧ sm_PO (S 42) (S 1076 0) ∧ ((S 1075 0) = 0 → (S 1100032 0) = -1 ∧ sm_FO (S 44) (S 45) (S 1076 0)) ∧ 23 ≤ (S 1076 0) ∧ 31 ≤ (S 1007 0) ∧ (S 1007 0) ≤ 400 ∧ sm_LN (S 4) 400 (S 1007 0) ∧ (S 1008 0) ≤ (S 1007 0) ∧ ((S 1075 0) = 1 → (S 1075 0) = 1) ∧ 0 ≤ (S 1092 0) ∧ (S 1092 0) ≤ 24 ∧ (S 1007 0) ≤ (S 1007 0) ∧ (¬ (S 1075 0) = 0 → sm_LX (S 58) (S 63) (S 64) (S 1092 0) (S 1076 0)) ∧ ((S 1075 0) = 0 → (S 1073 0) = 1 → 1 ≤ (S 1092 0) ∧ (S 1092 0) ≤ 24 ∧ 0 ≤ (if ((S 1092 0) - 1) = ((S 1092 0) - (1 : Int)) then p2 else (S 57 ((S 1092 0) - 1))) ∧ (if ((S 1092 0) - 1) = ((S 1092 0) - (1 : Int)) then p2 else (S 57 ((S 1092 0) - 1))) < (S 1046 0) ∧ (S 29 (if ((S 1092 0) - 1) = ((S 1092 0) - (1 : Int)) then p2 else (S 57 ((S 1092 0) - 1)))) = (S 53 ((S 1092 0) - 1)) ∧ 0 ≤ (S 53 ((S 1092 0) - 1)) ∧ (S 53 ((S 1092 0) - 1)) < (S 1032 0) ∧ (S 60 ((S 1092 0) - 1)) = sm_dp (S 1100024) (S 1100023 (if ((S 1092 0) - 1) = ((S 1092 0) - (1 : Int)) then p2 else (S 57 ((S 1092 0) - 1)))) ∧ sm_TC (S 61) (S 62) (S 27) (S 1100007) (S 1100023) (S 1100024) (40 * ((S 1092 0) - 1)) (S 1100023 (if ((S 1092 0) - 1) = ((S 1092 0) - (1 : Int)) then p2 else (S 57 ((S 1092 0) - 1)))) ∧ sm_LK (S 1100029) (S 1076 0) (S 54 ((S 1092 0) - 1)) (S 53 ((S 1092 0) - 1)) ∧ sm_VO (S 44) (S 1076 0) (S 1007 0) ((S 55 ((S 1092 0) - 1))) ((S 56 ((S 1092 0) - 1))) ∧ sm_FW (S 44) (S 1076 0) (S 59 ((S 1092 0) - 1)) ∧ sm_FL (S 53) (S 54) (S 55) (S 56) (fun i' : Int => if i' = ((S 1092 0) - (1 : Int)) then p2 else (S 57) i') (S 58) (S 59) (S 60) (S 61) (S 62) (S 63) (S 64) (S 27) (S 29) (S 1100007) (S 1100023) (S 1100024) (S 1100025) (S 26) (S 1100029) (S 44) (S 1046 0) (S 1032 0) (S 1076 0) (S 1007 0) (((S 1092 0) - 1)) ∧ (S 58 ((S 1092 0) - 1)) = (S 1100007 (if ((S 1092 0) - 1) = ((S 1092 0) - (1 : Int)) then p2 else (S 57 ((S 1092 0) - 1)))) ∧ sm_SK (S 63) (S 64) (S 44) (S 1100007) (S 1100025) (S 1076 0) (S 1007 0) (400 * ((S 1092 0) - 1)) ((S 58 ((S 1092 0) - 1))) ((S 1100025 (if ((S 1092 0) - 1) = ((S 1092 0) - (1 : Int)) then p2 else (S 57 ((S 1092 0) - 1)))))) ∧ ((S 1073 0) = 1 ∨ (S 1092 0) = 0 ∧ (S 1075 0) = 0 ∧ ((S 1073 0) = 2 ∨ (S 1073 0) = 3))))) ∧ ((p1 = (22 : Int)) → ((sm_CT (S 26) (S 27) (S 28) (S 29) (S 1100007) (S 1100023) (S 1100024) (S 1100025) (S 21) (S 1046 0) (S 1032 0) (S 1008 0) (S 1055 0) → 0 ≤ (S 1100033 0) → (S 1100033 0) < (S 1046 0) → ((S 26 (S 1100033 0)) = 22 → (0 ≤ ((S 1100007 (S 1100033 0)) - 1) ∧ (0 ≤ (S 1100023 (S 1100033 0)) → (S 1100007 (S 1100023 (S 1100033 0))) ≤ ((S 1100007 (S 1100033 0)) - 1)) ∧ (0 ≤ (S 1100025 (S 1100033 0)) → (S 1100007 (S 1100025 (S 1100033 0))) ≤ ((S 1100007 (S 1100033 0)) - 1))) ∧ (0 ≤ ((S 1100033 0) + 1) ∧ ((S 1100033 0) + 1) < (S 1046 0) ∧ (S 29 ((S 1100033 0) + 1)) = ((S 29 (S 1100033 0))) ∧ (S 1100007 ((S 1100033 0) + 1)) = ((S 1100007 (S 1100033 0)) - 1) ∧ (S 1100023 ((S 1100033 0) + 1)) = ((S 1100023 (S 1100033 0))) ∧ (S 1100025 ((S 1100033 0) + 1)) = ((S 1100025 (S 1100033 0)))) ∧ (0 ≤ ((S 27 (S 1100033 0))) ∧ ((S 27 (S 1100033 0))) < (S 1046 0) ∧ (S 29 ((S 27 (S 1100033 0)))) = ((S 29 (S 1100033 0))) ∧ (S 1100007 ((S 27 (S 1100033 0)))) = ((S 1100007 (S 1100033 0)) - 1) ∧ (S 1100023 ((S 27 (S 1100033 0)))) = ((S 1100023 (S 1100033 0))) ∧ (S 1100025 ((S 27 (S 1100033 0)))) = ((S 1100025 (S 1100033 0)))))) → (((S 1100034 0) = (S 1100025 (S 1100033 0)) → (S 58 ((S 1092 0) - 1)) = (S 1100007 (S 1100033 0)) → (0 ≤ (S 1100025 (S 1100033 0)) → (S 1100007 (S 1100025 (S 1100033 0))) ≤ (S 1100007 (S 1100033 0)) - 1) → (0 ≤ (S 1100034 0) → (S 1100007 (S 1100034 0)) ≤ (S 58 ((S 1092 0) - 1)) - 1)) → ((sm_SK (S 63) (S 64) (S 44) (S 1100007) (S 1100025) (S 1076 0) (S 1007 0) (400 * ((S 1092 0) - 1)) ((S 58 ((S 1092 0) - 1))) ((S 1100034 0)) → sm_LS (S 26) (S 1100007) (S 1100025) (S 1046 0) → 0 ≤ (S 58 ((S 1092 0) - 1)) - 1 → (S 58 ((S 1092 0) - 1)) - 1 < (S 58 ((S 1092 0) - 1)) → (S 1100034 0) < (S 1046 0) → (S 1100034 0) = (S 1100025 (S 1100033 0)) → (S 58 ((S 1092 0) - 1)) = (S 1100007 (S 1100033 0)) → (0 ≤ (S 1100034 0) → (S 26 (S 1100034 0)) = 29) → (0 ≤ (S 1100025 (S 1100033 0)) → (S 1100007 (S 1100025 (S 1100033 0))) ≤ (S 1100007 (S 1100033 0)) - 1) → sm_VO (S 44) (S 1076 0) (S 1007 0) ((S 63 (400 * ((S 1092 0) - 1) + ((S 58 ((S 1092 0) - 1)) - 1)))) ((S 64 (400 * ((S 1092 0) - 1) + ((S 58 ((S 1092 0) - 1)) - 1))))) → (1 ≤ (S 1092 0) ∧ (S 1092 0) ≤ 24 ∧ 0 ≤ (S 58 ((S 1092 0) - 1)) ∧ (S 58 ((S 1092 0) - 1)) ≤ 400 ∧ 0 ≤ (1 : Int) ∧ (1 : Int) ≤ (S 58 ((S 1092 0) - 1))) ∧ (∀ g97 : sv_S, ((g97 58 ((S 1092 0) - 1)) = (S 58 ((S 1092 0) - 1)) - (1 : Int) ∧ (∀ k : Int, ¬ k = (S 1092 0) - 1 → (g97 58 k) = (S 58 k))) → (31 ≤ (S 1007 0) ∧ (S 1007 0) ≤ 400 ∧ sm_LN (S 4) 400 (S 1007 0) ∧ (s3 = 6 → 0 ≤ s5 ∧ s5 < 400)) ∧ (∀ r107 : Int, sv_R r107 → (r107 = 0 ∨ r107 = 1) → (((r107 = (0 : Int)) → (0 ≤ ((S 1092 0) - (1 : Int)) ∧ ((S 1092 0) - (1 : Int)) < 24) ∧ (sm_PL (S 1100020) (S 51) (S 52) (S 46) (S 47) (S 1076 0) (S 1086 0) ∧ sm_FR (S 1100020) (S 52) (S 1100021) (S 1100022) (3000 - (S 1084 0)) (S 1085 0) ∧ sm_PV (S 1100020) (S 48) (S 49) (S 50) (S 44) (S 1076 0) (S 1007 0) ∧ sm_AL (S 1100020) (S 48) (S 49) (S 50) (S 44) (S 1076 0) (S 1100032 0) ∧ sm_SV (S 1100020) (S 48) (S 1100029) (S 32) (S 33) (S 1076 0) (S 1032 0) ∧ 0 ≤ (S 1076 0) ∧ (S 1076 0) ≤ 300 ∧ 0 ≤ (S 1084 0) ∧ (S 1084 0) ≤ 3000 ∧ 0 ≤ (S 1086 0) ∧ sm_SC (S 1100029) (S 44) (S 45) (S 43) (S 21) (S 1076 0) (S 1032 0) ∧ sm_PO (S 42) (S 1076 0) ∧ ((S 1075 0) = 0 → (S 1100032 0) = -1 ∧ sm_FO (S 44) (S 45) (S 1076 0)) ∧ 23 ≤ (S 1076 0) ∧ 31 ≤ (S 1007 0) ∧ (S 1007 0) ≤ 400 ∧ sm_LN (S 4) 400 (S 1007 0) ∧ (S 1008 0) ≤ (S 1007 0) ∧ ((S 1075 0) = 1 → (S 1075 0) = 1) ∧ 0 ≤ (S 1092 0) ∧ (S 1092 0) ≤ 24 ∧ (S 1007 0) ≤ (S 1007 0) ∧ (¬ (S 1075 0) = 0 → sm_LX (g97 58) (S 63) (S 64) (S 1092 0) (S 1076 0)) ∧ ((S 1075 0) = 0 → (S 1073 0) = 1 → 1 ≤ (S 1092 0) ∧ (S 1092 0) ≤ 24 ∧ 0 ≤ (if ((S 1092 0) - 1) = ((S 1092 0) - (1 : Int)) then p2 else (S 57 ((S 1092 0) - 1))) ∧ (if ((S 1092 0) - 1) = ((S 1092 0) - (1 : Int)) then p2 else (S 57 ((S 1092 0) - 1))) < (S 1046 0) ∧ (S 29 (if ((S 1092 0) - 1) = ((S 1092 0) - (1 : Int)) then p2 else (S 57 ((S 1092 0) - 1)))) = (S 53 ((S 1092 0) - 1)) ∧ 0 ≤ (S 53 ((S 1092 0) - 1)) ∧ (S 53 ((S 1092 0) - 1)) < (S 1032 0) ∧ (S 60 ((S 1092 0) - 1)) = sm_dp (S 1100024) (S 1100023 (if ((S 1092 0) - 1) = ((S 1092 0) - (1 : Int)) then p2 else (S 57 ((S 1092 0) - 1)))) ∧ sm_TC (S 61) (S 62) (S 27) (S 1100007) (S 1100023) (S 1100024) (40 * ((S 1092 0) - 1)) (S 1100023 (if ((S 1092 0) - 1) = ((S 1092 0) - (1 : Int)) then p2 else (S 57 ((S 1092 0) - 1)))) ∧ sm_LK (S 1100029) (S 1076 0) (S 54 ((S 1092 0) - 1)) (S 53 ((S 1092 0) - 1)) ∧ sm_VO (S 44) (S 1076 0) (S 1007 0) ((S 55 ((S 1092 0) - 1))) ((S 56 ((S 1092 0) - 1))) ∧ sm_FW (S 44) (S 1076 0) (S 59 ((S 1092 0) - 1)) ∧ sm_FL (S 53) (S 54) (S 55) (S 56) (fun i' : Int => if i' = ((S 1092 0) - (1 : Int)) then p2 else (S 57) i') (g97 58) (S 59) (S 60) (S 61) (S 62) (S 63) (S 64) (S 27) (S 29) (S 1100007) (S 1100023) (S 1100024) (S 1100025) (S 26) (S 1100029) (S 44) (S 1046 0) (S 1032 0) (S 1076 0) (S 1007 0) (((S 1092 0) - 1)) ∧ (g97 58 ((S 1092 0) - 1)) = (S 1100007 (if ((S 1092 0) - 1) = ((S 1092 0) - (1 : Int)) then p2 else (S 57 ((S 1092 0) - 1)))) ∧ sm_SK (S 63) (S 64) (S 44) (S 1100007) (S 1100025) (S 1076 0) (S 1007 0) (400 * ((S 1092 0) - 1)) ((g97 58 ((S 1092 0) - 1))) ((S 1100025 (if ((S 1092 0) - 1) = ((S 1092 0) - (1 : Int)) then p2 else (S 57 ((S 1092 0) - 1)))))) ∧ ((S 1073 0) = 1 ∨ (S 1092 0) = 0 ∧ (S 1075 0) = 0 ∧ ((S 1073 0) = 2 ∨ (S 1073 0) = 3)))) ∧ ((¬ (r107 = (0 : Int))) → (0 ≤ ((S 1092 0) - (1 : Int)) ∧ ((S 1092 0) - (1 : Int)) < 24) ∧ (sv_R (S 57 ((S 1092 0) - (1 : Int))) → (sv_R ((S 57 ((S 1092 0) - (1 : Int))) + (1 : Int))) ∧ (sm_PL (S 1100020) (S 51) (S 52) (S 46) (S 47) (S 1076 0) (S 1086 0) ∧ sm_FR (S 1100020) (S 52) (S 1100021) (S 1100022) (3000 - (S 1084 0)) (S 1085 0) ∧ sm_PV (S 1100020) (S 48) (S 49) (S 50) (S 44) (S 1076 0) (S 1007 0) ∧ sm_AL (S 1100020) (S 48) (S 49) (S 50) (S 44) (S 1076 0) (S 1100032 0) ∧ sm_SV (S 1100020) (S 48) (S 1100029) (S 32) (S 33) (S 1076 0) (S 1032 0) ∧ 0 ≤ (S 1076 0) ∧ (S 1076 0) ≤ 300 ∧ 0 ≤ (S 1084 0) ∧ (S 1084 0) ≤ 3000 ∧ 0 ≤ (S 1086 0) ∧ sm_SC (S 1100029) (S 44) (S 45) (S 43) (S 21) (S 1076 0) (S 1032 0) ∧ sm_PO (S 42) (S 1076 0) ∧ ((S 1075 0) = 0 → (S 1100032 0) = -1 ∧ sm_FO (S 44) (S 45) (S 1076 0)) ∧ 23 ≤ (S 1076 0) ∧ 31 ≤ (S 1007 0) ∧ (S 1007 0) ≤ 400 ∧ sm_LN (S 4) 400 (S 1007 0) ∧ (S 1008 0) ≤ (S 1007 0) ∧ ((S 1075 0) = 1 → (S 1075 0) = 1) ∧ 0 ≤ (S 1092 0) ∧ (S 1092 0) ≤ 24 ∧ (S 1007 0) ≤ (S 1007 0) ∧ (¬ (S 1075 0) = 0 → sm_LX (g97 58) (S 63) (S 64) (S 1092 0) (S 1076 0)) ∧ ((S 1075 0) = 0 → (S 1073 0) = 1 → 1 ≤ (S 1092 0) ∧ (S 1092 0) ≤ 24 ∧ 0 ≤ (if ((S 1092 0) - 1) = ((S 1092 0) - (1 : Int)) then ((S 57 ((S 1092 0) - (1 : Int))) + (1 : Int)) else (S 57 ((S 1092 0) - 1))) ∧ (if ((S 1092 0) - 1) = ((S 1092 0) - (1 : Int)) then ((S 57 ((S 1092 0) - (1 : Int))) + (1 : Int)) else (S 57 ((S 1092 0) - 1))) < (S 1046 0) ∧ (S 29 (if ((S 1092 0) - 1) = ((S 1092 0) - (1 : Int)) then ((S 57 ((S 1092 0) - (1 : Int))) + (1 : Int)) else (S 57 ((S 1092 0) - 1)))) = (S 53 ((S 1092 0) - 1)) ∧ 0 ≤ (S 53 ((S 1092 0) - 1)) ∧ (S 53 ((S 1092 0) - 1)) < (S 1032 0) ∧ (S 60 ((S 1092 0) - 1)) = sm_dp (S 1100024) (S 1100023 (if ((S 1092 0) - 1) = ((S 1092 0) - (1 : Int)) then ((S 57 ((S 1092 0) - (1 : Int))) + (1 : Int)) else (S 57 ((S 1092 0) - 1)))) ∧ sm_TC (S 61) (S 62) (S 27) (S 1100007) (S 1100023) (S 1100024) (40 * ((S 1092 0) - 1)) (S 1100023 (if ((S 1092 0) - 1) = ((S 1092 0) - (1 : Int)) then ((S 57 ((S 1092 0) - (1 : Int))) + (1 : Int)) else (S 57 ((S 1092 0) - 1)))) ∧ sm_LK (S 1100029) (S 1076 0) (S 54 ((S 1092 0) - 1)) (S 53 ((S 1092 0) - 1)) ∧ sm_VO (S 44) (S 1076 0) (S 1007 0) ((S 55 ((S 1092 0) - 1))) ((S 56 ((S 1092 0) - 1))) ∧ sm_FW (S 44) (S 1076 0) (S 59 ((S 1092 0) - 1)) ∧ sm_FL (S 53) (S 54) (S 55) (S 56) (fun i' : Int => if i' = ((S 1092 0) - (1 : Int)) then ((S 57 ((S 1092 0) - (1 : Int))) + (1 : Int)) else (S 57) i') (g97 58) (S 59) (S 60) (S 61) (S 62) (S 63) (S 64) (S 27) (S 29) (S 1100007) (S 1100023) (S 1100024) (S 1100025) (S 26) (S 1100029) (S 44) (S 1046 0) (S 1032 0) (S 1076 0) (S 1007 0) (((S 1092 0) - 1)) ∧ (g97 58 ((S 1092 0) - 1)) = (S 1100007 (if ((S 1092 0) - 1) = ((S 1092 0) - (1 : Int)) then ((S 57 ((S 1092 0) - (1 : Int))) + (1 : Int)) else (S 57 ((S 1092 0) - 1)))) ∧ sm_SK (S 63) (S 64) (S 44) (S 1100007) (S 1100025) (S 1076 0) (S 1007 0) (400 * ((S 1092 0) - 1)) ((g97 58 ((S 1092 0) - 1))) ((S 1100025 (if ((S 1092 0) - 1) = ((S 1092 0) - (1 : Int)) then ((S 57 ((S 1092 0) - (1 : Int))) + (1 : Int)) else (S 57 ((S 1092 0) - 1)))))) ∧ ((S 1073 0) = 1 ∨ (S 1092 0) = 0 ∧ (S 1075 0) = 0 ∧ ((S 1073 0) = 2 ∨ (S 1073 0) = 3)))))))))))) ∧ ((p1 = (23 : Int) ∨ p1 = (24 : Int)) → ((((p1 = 21 ∨ p1 = 27 ∨ p1 = 28) ∨ s3 = (S 63 ((400 * ((S 1092 0) - 1) + (S 58 ((S 1092 0) - 1))) - 1 - 0))) → (p1 = 23 ∨ p1 = 24) → s3 = (S 63 ((400 * ((S 1092 0) - 1) + (S 58 ((S 1092 0) - 1))) - 1 - 0))) → ((((p1 = 21 ∨ p1 = 27 ∨ p1 = 28) ∨ s5 = (S 64 ((400 * ((S 1092 0) - 1) + (S 58 ((S 1092 0) - 1))) - 1 - 0))) → (p1 = 23 ∨ p1 = 24) → s5 = (S 64 ((400 * ((S 1092 0) - 1) + (S 58 ((S 1092 0) - 1))) - 1 - 0))) → ((sm_CT (S 26) (S 27) (S 28) (S 29) (S 1100007) (S 1100023) (S 1100024) (S 1100025) (S 21) (S 1046 0) (S 1032 0) (S 1008 0) (S 1055 0) → 0 ≤ (S 1100033 0) → (S 1100033 0) < (S 1046 0) → ((p1 = 23 ∨ p1 = 24) → p1 = (S 26 (S 1100033 0)) → (0 ≤ ((S 1100007 (S 1100033 0)) - 1) ∧ (0 ≤ (S 1100023 (S 1100033 0)) → (S 1100007 (S 1100023 (S 1100033 0))) ≤ ((S 1100007 (S 1100033 0)) - 1)) ∧ (0 ≤ (S 1100025 (S 1100033 0)) → (S 1100007 (S 1100025 (S 1100033 0))) ≤ ((S 1100007 (S 1100033 0)) - 1))) ∧ (0 ≤ ((S 1100033 0) + 1) ∧ ((S 1100033 0) + 1) < (S 1046 0) ∧ (S 29 ((S 1100033 0) + 1)) = ((S 29 (S 1100033 0))) ∧ (S 1100007 ((S 1100033 0) + 1)) = ((S 1100007 (S 1100033 0)) - 1) ∧ (S 1100023 ((S 1100033 0) + 1)) = ((S 1100023 (S 1100033 0))) ∧ (S 1100025 ((S 1100033 0) + 1)) = ((S 1100025 (S 1100033 0)))) ∧ (0 ≤ ((S 27 (S 1100033 0))) ∧ ((S 27 (S 1100033 0))) < (S 1046 0) ∧ (S 29 ((S 27 (S 1100033 0)))) = ((S 29 (S 1100033 0))) ∧ (S 1100007 ((S 27 (S 1100033 0)))) = ((S 1100007 (S 1100033 0))) ∧ (S 1100023 ((S 27 (S 1100033 0)))) = ((S 1100023 (S 1100033 0))) ∧ (S 1100025 ((S 27 (S 1100033 0)))) = ((S 1100025 (S 1100033 0)))))) → (((S 1100034 0) = (S 1100025 (S 1100033 0)) → (S 58 ((S 1092 0) - 1)) = (S 1100007 (S 1100033 0)) → (0 ≤ (S 1100025 (S 1100033 0)) → (S 1100007 (S 1100025 (S 1100033 0))) ≤ (S 1100007 (S 1100033 0)) - 1) → (0 ≤ (S 1100034 0) → (S 1100007 (S 1100034 0)) ≤ (S 58 ((S 1092 0) - 1)) - 1)) → ((sm_SK (S 63) (S 64) (S 44) (S 1100007) (S 1100025) (S 1076 0) (S 1007 0) (400 * ((S 1092 0) - 1)) ((S 58 ((S 1092 0) - 1))) ((S 1100034 0)) → sm_LS (S 26) (S 1100007) (S 1100025) (S 1046 0) → 0 ≤ (S 58 ((S 1092 0) - 1)) - 1 → (S 58 ((S 1092 0) - 1)) - 1 < (S 58 ((S 1092 0) - 1)) → (S 1100034 0) < (S 1046 0) → (S 1100034 0) = (S 1100025 (S 1100033 0)) → (S 58 ((S 1092 0) - 1)) = (S 1100007 (S 1100033 0)) → (0 ≤ (S 1100034 0) → (S 26 (S 1100034 0)) = 29) → (0 ≤ (S 1100025 (S 1100033 0)) → (S 1100007 (S 1100025 (S 1100033 0))) ≤ (S 1100007 (S 1100033 0)) - 1) → sm_VO (S 44) (S 1076 0) (S 1007 0) ((S 63 (400 * ((S 1092 0) - 1) + ((S 58 ((S 1092 0) - 1)) - 1)))) ((S 64 (400 * ((S 1092 0) - 1) + ((S 58 ((S 1092 0) - 1)) - 1))))) → (31 ≤ (S 1007 0) ∧ (S 1007 0) ≤ 400 ∧ sm_LN (S 4) 400 (S 1007 0) ∧ (s3 = 6 → 0 ≤ s5 ∧ s5 < 400)) ∧ (∀ r126 : Int, sv_R r126 → (r126 = 0 ∨ r126 = 1) → (((¬ p1 = (23 : Int)) → (((¬ r126 = (0 : Int)) → (0 ≤ ((S 1092 0) - (1 : Int)) ∧ ((S 1092 0) - (1 : Int)) < 24) ∧ (sm_PL (S 1100020) (S 51) (S 52) (S 46) (S 47) (S 1076 0) (S 1086 0) ∧ sm_FR (S 1100020) (S 52) (S 1100021) (S 1100022) (3000 - (S 1084 0)) (S 1085 0) ∧ sm_PV (S 1100020) (S 48) (S 49) (S 50) (S 44) (S 1076 0) (S 1007 0) ∧ sm_AL (S 1100020) (S 48) (S 49) (S 50) (S 44) (S 1076 0) (S 1100032 0) ∧ sm_SV (S 1100020) (S 48) (S 1100029) (S 32) (S 33) (S 1076 0) (S 1032 0) ∧ 0 ≤ (S 1076 0) ∧ (S 1076 0) ≤ 300 ∧ 0 ≤ (S 1084 0) ∧ (S 1084 0) ≤ 3000 ∧ 0 ≤ (S 1086 0) ∧ sm_SC (S 1100029) (S 44) (S 45) (S 43) (S 21) (S 1076 0) (S 1032 0) ∧ sm_PO (S 42) (S 1076 0) ∧ ((S 1075 0) = 0 → (S 1100032 0) = -1 ∧ sm_FO (S 44) (S 45) (S 1076 0)) ∧ 23 ≤ (S 1076 0) ∧ 31 ≤ (S 1007 0) ∧ (S 1007 0) ≤ 400 ∧ sm_LN (S 4) 400 (S 1007 0) ∧ (S 1008 0) ≤ (S 1007 0) ∧ ((S 1075 0) = 1 → (S 1075 0) = 1) ∧ 0 ≤ (S 1092 0) ∧ (S 1092 0) ≤ 24 ∧ (S 1007 0) ≤ (S 1007 0) ∧ (¬ (S 1075 0) = 0 → sm_LX (S 58) (S 63) (S 64) (S 1092 0) (S 1076 0)) ∧ ((S 1075 0) = 0 → (S 1073 0) = 1 → 1 ≤ (S 1092 0) ∧ (S 1092 0) ≤ 24 ∧ 0 ≤ (if ((S 1092 0) - 1) = ((S 1092 0) - (1 : Int)) then p2 else (S 57 ((S 1092 0) - 1))) ∧ (if ((S 1092 0) - 1) = ((S 1092 0) - (1 : Int)) then p2 else (S 57 ((S 1092 0) - 1))) < (S 1046 0) ∧ (S 29 (if ((S 1092 0) - 1) = ((S 1092 0) - (1 : Int)) then p2 else (S 57 ((S 1092 0) - 1)))) = (S 53 ((S 1092 0) - 1)) ∧ 0 ≤ (S 53 ((S 1092 0) - 1)) ∧ (S 53 ((S 1092 0) - 1)) < (S 1032 0) ∧ (S 60 ((S 1092 0) - 1)) = sm_dp (S 1100024) (S 1100023 (if ((S 1092 0) - 1) = ((S 1092 0) - (1 : Int)) then p2 else (S 57 ((S 1092 0) - 1)))) ∧ sm_TC (S 61) (S 62) (S 27) (S 1100007) (S 1100023) (S 1100024) (40 * ((S 1092 0) - 1)) (S 1100023 (if ((S 1092 0) - 1) = ((S 1092 0) - (1 : Int)) then p2 else (S 57 ((S 1092 0) - 1)))) ∧ sm_LK (S 1100029) (S 1076 0) (S 54 ((S 1092 0) - 1)) (S 53 ((S 1092 0) - 1)) ∧ sm_VO (S 44) (S 1076 0) (S 1007 0) ((S 55 ((S 1092 0) - 1))) ((S 56 ((S 1092 0) - 1))) ∧ sm_FW (S 44) (S 1076 0) (S 59 ((S 1092 0) - 1)) ∧ sm_FL (S 53) (S 54) (S 55) (S 56) (fun i' : Int => if i' = ((S 1092 0) - (1 : Int)) then p2 else (S 57) i') (S 58) (S 59) (S 60) (S 61) (S 62) (S 63) (S 64) (S 27) (S 29) (S 1100007) (S 1100023) (S 1100024) (S 1100025) (S 26) (S 1100029) (S 44) (S 1046 0) (S 1032 0) (S 1076 0) (S 1007 0) (((S 1092 0) - 1)) ∧ (S 58 ((S 1092 0) - 1)) = (S 1100007 (if ((S 1092 0) - 1) = ((S 1092 0) - (1 : Int)) then p2 else (S 57 ((S 1092 0) - 1)))) ∧ sm_SK (S 63) (S 64) (S 44) (S 1100007) (S 1100025) (S 1076 0) (S 1007 0) (400 * ((S 1092 0) - 1)) ((S 58 ((S 1092 0) - 1))) ((S 1100025 (if ((S 1092 0) - 1) = ((S 1092 0) - (1 : Int)) then p2 else (S 57 ((S 1092 0) - 1)))))) ∧ ((S 1073 0) = 1 ∨ (S 1092 0) = 0 ∧ (S 1075 0) = 0 ∧ ((S 1073 0) = 2 ∨ (S 1073 0) = 3)))) ∧ ((¬ (¬ r126 = (0 : Int))) → (1 ≤ (S 1092 0) ∧ (S 1092 0) ≤ 24 ∧ 0 ≤ (S 58 ((S 1092 0) - 1)) ∧ (S 58 ((S 1092 0) - 1)) ≤ 400 ∧ 0 ≤ (1 : Int) ∧ (1 : Int) ≤ (S 58 ((S 1092 0) - 1))) ∧ (∀ g131 : sv_S, ((g131 58 ((S 1092 0) - 1)) = (S 58 ((S 1092 0) - 1)) - (1 : Int) ∧ (∀ k : Int, ¬ k = (S 1092 0) - 1 → (g131 58 k) = (S 58 k))) → (1 ≤ (S 1092 0) ∧ (S 1092 0) ≤ 24 ∧ 0 ≤ (S 57 ((S 1092 0) - 1)) ∧ (S 57 ((S 1092 0) - 1)) ≤ 600) ∧ (∀ g137 : sv_S, ((g137 57 ((S 1092 0) - 1)) = (S 57 ((S 1092 0) - 1)) + 1 ∧ (∀ k : Int, ¬ k = (S 1092 0) - 1 → (g137 57 k) = (S 57 k))) → (sm_PL (S 1100020) (S 51) (S 52) (S 46) (S 47) (S 1076 0) (S 1086 0) ∧ sm_FR (S 1100020) (S 52) (S 1100021) (S 1100022) (3000 - (S 1084 0)) (S 1085 0) ∧ sm_PV (S 1100020) (S 48) (S 49) (S 50) (S 44) (S 1076 0) (S 1007 0) ∧ sm_AL (S 1100020) (S 48) (S 49) (S 50) (S 44) (S 1076 0) (S 1100032 0) ∧ sm_SV (S 1100020) (S 48) (S 1100029) (S 32) (S 33) (S 1076 0) (S 1032 0) ∧ 0 ≤ (S 1076 0) ∧ (S 1076 0) ≤ 300 ∧ 0 ≤ (S 1084 0) ∧ (S 1084 0) ≤ 3000 ∧ 0 ≤ (S 1086 0) ∧ sm_SC (S 1100029) (S 44) (S 45) (S 43) (S 21) (S 1076 0) (S 1032 0) ∧ sm_PO (S 42) (S 1076 0) ∧ ((S 1075 0) = 0 → (S 1100032 0) = -1 ∧ sm_FO (S 44) (S 45) (S 1076 0)) ∧ 23 ≤ (S 1076 0) ∧ 31 ≤ (S 1007 0) ∧ (S 1007 0) ≤ 400 ∧ sm_LN (S 4) 400 (S 1007 0) ∧ (S 1008 0) ≤ (S 1007 0) ∧ ((S 1075 0) = 1 → (S 1075 0) = 1) ∧ 0 ≤ (S 1092 0) ∧ (S 1092 0) ≤ 24 ∧ (S 1007 0) ≤ (S 1007 0) ∧ (¬ (S 1075 0) = 0 → sm_LX (g131 58) (S 63) (S 64) (S 1092 0) (S 1076 0)) ∧ ((S 1075 0) = 0 → (S 1073 0) = 1 → 1 ≤ (S 1092 0) ∧ (S 1092 0) ≤ 24 ∧ 0 ≤ (g137 57 ((S 1092 0) - 1)) ∧ (g137 57 ((S 1092 0) - 1)) < (S 1046 0) ∧ (S 29 (g137 57 ((S 1092 0) - 1))) = (S 53 ((S 1092 0) - 1)) ∧ 0 ≤ (S 53 ((S 1092 0) - 1)) ∧ (S 53 ((S 1092 0) - 1)) < (S 1032 0) ∧ (S 60 ((S 1092 0) - 1)) = sm_dp (S 1100024) (S 1100023 (g137 57 ((S 1092 0) - 1))) ∧ sm_TC (S 61) (S 62) (S 27) (S 1100007) (S 1100023) (S 1100024) (40 * ((S 1092 0) - 1)) (S 1100023 (g137 57 ((S 1092 0) - 1))) ∧ sm_LK (S 1100029) (S 1076 0) (S 54 ((S 1092 0) - 1)) (S 53 ((S 1092 0) - 1)) ∧ sm_VO (S 44) (S 1076 0) (S 1007 0) ((S 55 ((S 1092 0) - 1))) ((S 56 ((S 1092 0) - 1))) ∧ sm_FW (S 44) (S 1076 0) (S 59 ((S 1092 0) - 1)) ∧ sm_FL (S 53) (S 54) (S 55) (S 56) (g137 57) (g131 58) (S 59) (S 60) (S 61) (S 62) (S 63) (S 64) (S 27) (S 29) (S 1100007) (S 1100023) (S 1100024) (S 1100025) (S 26) (S 1100029) (S 44) (S 1046 0) (S 1032 0) (S 1076 0) (S 1007 0) (((S 1092 0) - 1)) ∧ (g131 58 ((S 1092 0) - 1)) = (S 1100007 (g137 57 ((S 1092 0) - 1))) ∧ sm_SK (S 63) (S 64) (S 44) (S 1100007) (S 1100025) (S 1076 0) (S 1007 0) (400 * ((S 1092 0) - 1)) ((g131 58 ((S 1092 0) - 1))) ((S 1100025 (g137 57 ((S 1092 0) - 1))))) ∧ ((S 1073 0) = 1 ∨ (S 1092 0) = 0 ∧ (S 1075 0) = 0 ∧ ((S 1073 0) = 2 ∨ (S 1073 0) = 3)))))))) ∧ ((¬ (¬ p1 = (23 : Int))) → (((¬ r126 = (1 : Int)) → (0 ≤ ((S 1092 0) - (1 : Int)) ∧ ((S 1092 0) - (1 : Int)) < 24) ∧ (sm_PL (S 1100020) (S 51) (S 52) (S 46) (S 47) (S 1076 0) (S 1086 0) ∧ sm_FR (S 1100020) (S 52) (S 1100021) (S 1100022) (3000 - (S 1084 0)) (S 1085 0) ∧ sm_PV (S 1100020) (S 48) (S 49) (S 50) (S 44) (S 1076 0) (S 1007 0) ∧ sm_AL (S 1100020) (S 48) (S 49) (S 50) (S 44) (S 1076 0) (S 1100032 0) ∧ sm_SV (S 1100020) (S 48) (S 1100029) (S 32) (S 33) (S 1076 0) (S 1032 0) ∧ 0 ≤ (S 1076 0) ∧ (S 1076 0) ≤ 300 ∧ 0 ≤ (S 1084 0) ∧ (S 1084 0) ≤ 3000 ∧ 0 ≤ (S 1086 0) ∧ sm_SC (S 1100029) (S 44) (S 45) (S 43) (S 21) (S 1076 0) (S 1032 0) ∧ sm_PO (S 42) (S 1076 0) ∧ ((S 1075 0) = 0 → (S 1100032 0) = -1 ∧ sm_FO (S 44) (S 45) (S 1076 0)) ∧ 23 ≤ (S 1076 0) ∧ 31 ≤ (S 1007 0) ∧ (S 1007 0) ≤ 400 ∧ sm_LN (S 4) 400 (S 1007 0) ∧ (S 1008 0) ≤ (S 1007 0) ∧ ((S 1075 0) = 1 → (S 1075 0) = 1) ∧ 0 ≤ (S 1092 0) ∧ (S 1092 0) ≤ 24 ∧ (S 1007 0) ≤ (S 1007 0) ∧ (¬ (S 1075 0) = 0 → sm_LX (S 58) (S 63) (S 64) (S 1092 0) (S 1076 0)) ∧ ((S 1075 0) = 0 → (S 1073 0) = 1 → 1 ≤ (S 1092 0) ∧ (S 1092 0) ≤ 24 ∧ 0 ≤ (if ((S 1092 0) - 1) = ((S 1092 0) - (1 : Int)) then p2 else (S 57 ((S 1092 0) - 1))) ∧ (if ((S 1092 0) - 1) = ((S 1092 0) - (1 : Int)) then p2 else (S 57 ((S 1092 0) - 1))) < (S 1046 0) ∧ (S 29 (if ((S 1092 0) - 1) = ((S 1092 0) - (1 : Int)) then p2 else (S 57 ((S 1092 0) - 1)))) = (S 53 ((S 1092 0) - 1)) ∧ 0 ≤ (S 53 ((S 1092 0) - 1)) ∧ (S 53 ((S 1092 0) - 1)) < (S 1032 0) ∧ (S 60 ((S 1092 0) - 1)) = sm_dp (S 1100024) (S 1100023 (if ((S 1092 0) - 1) = ((S 1092 0) - (1 : Int)) then p2 else (S 57 ((S 1092 0) - 1)))) ∧ sm_TC (S 61) (S 62) (S 27) (S 1100007) (S 1100023) (S 1100024) (40 * ((S 1092 0) - 1)) (S 1100023 (if ((S 1092 0) - 1) = ((S 1092 0) - (1 : Int)) then p2 else (S 57 ((S 1092 0) - 1)))) ∧ sm_LK (S 1100029) (S 1076 0) (S 54 ((S 1092 0) - 1)) (S 53 ((S 1092 0) - 1)) ∧ sm_VO (S 44) (S 1076 0) (S 1007 0) ((S 55 ((S 1092 0) - 1))) ((S 56 ((S 1092 0) - 1))) ∧ sm_FW (S 44) (S 1076 0) (S 59 ((S 1092 0) - 1)) ∧ sm_FL (S 53) (S 54) (S 55) (S 56) (fun i' : Int => if i' = ((S 1092 0) - (1 : Int)) then p2 else (S 57) i') (S 58) (S 59) (S 60) (S 61) (S 62) (S 63) (S 64) (S 27) (S 29) (S 1100007) (S 1100023) (S 1100024) (S 1100025) (S 26) (S 1100029) (S 44) (S 1046 0) (S 1032 0) (S 1076 0) (S 1007 0) (((S 1092 0) - 1)) ∧ (S 58 ((S 1092 0) - 1)) = (S 1100007 (if ((S 1092 0) - 1) = ((S 1092 0) - (1 : Int)) then p2 else (S 57 ((S 1092 0) - 1)))) ∧ sm_SK (S 63) (S 64) (S 44) (S 1100007) (S 1100025) (S 1076 0) (S 1007 0) (400 * ((S 1092 0) - 1)) ((S 58 ((S 1092 0) - 1))) ((S 1100025 (if ((S 1092 0) - 1) = ((S 1092 0) - (1 : Int)) then p2 else (S 57 ((S 1092 0) - 1)))))) ∧ ((S 1073 0) = 1 ∨ (S 1092 0) = 0 ∧ (S 1075 0) = 0 ∧ ((S 1073 0) = 2 ∨ (S 1073 0) = 3)))) ∧ ((¬ (¬ r126 = (1 : Int))) → (1 ≤ (S 1092 0) ∧ (S 1092 0) ≤ 24 ∧ 0 ≤ (S 58 ((S 1092 0) - 1)) ∧ (S 58 ((S 1092 0) - 1)) ≤ 400 ∧ 0 ≤ (1 : Int) ∧ (1 : Int) ≤ (S 58 ((S 1092 0) - 1))) ∧ (∀ g146 : sv_S, ((g146 58 ((S 1092 0) - 1)) = (S 58 ((S 1092 0) - 1)) - (1 : Int) ∧ (∀ k : Int, ¬ k = (S 1092 0) - 1 → (g146 58 k) = (S 58 k))) → (1 ≤ (S 1092 0) ∧ (S 1092 0) ≤ 24 ∧ 0 ≤ (S 57 ((S 1092 0) - 1)) ∧ (S 57 ((S 1092 0) - 1)) ≤ 600) ∧ (∀ g152 : sv_S, ((g152 57 ((S 1092 0) - 1)) = (S 57 ((S 1092 0) - 1)) + 1 ∧ (∀ k : Int, ¬ k = (S 1092 0) - 1 → (g152 57 k) = (S 57 k))) → (sm_PL (S 1100020) (S 51) (S 52) (S 46) (S 47) (S 1076 0) (S 1086 0) ∧ sm_FR (S 1100020) (S 52) (S 1100021) (S 1100022) (3000 - (S 1084 0)) (S 1085 0) ∧ sm_PV (S 1100020) (S 48) (S 49) (S 50) (S 44) (S 1076 0) (S 1007 0) ∧ sm_AL (S 1100020) (S 48) (S 49) (S 50) (S 44) (S 1076 0) (S 1100032 0) ∧ sm_SV (S 1100020) (S 48) (S 1100029) (S 32) (S 33) (S 1076 0) (S 1032 0) ∧ 0 ≤ (S 1076 0) ∧ (S 1076 0) ≤ 300 ∧ 0 ≤ (S 1084 0) ∧ (S 1084 0) ≤ 3000 ∧ 0 ≤ (S 1086 0) ∧ sm_SC (S 1100029) (S 44) (S 45) (S 43) (S 21) (S 1076 0) (S 1032 0) ∧ sm_PO (S 42) (S 1076 0) ∧ ((S 1075 0) = 0 → (S 1100032 0) = -1 ∧ sm_FO (S 44) (S 45) (S 1076 0)) ∧ 23 ≤ (S 1076 0) ∧ 31 ≤ (S 1007 0) ∧ (S 1007 0) ≤ 400 ∧ sm_LN (S 4) 400 (S 1007 0) ∧ (S 1008 0) ≤ (S 1007 0) ∧ ((S 1075 0) = 1 → (S 1075 0) = 1) ∧ 0 ≤ (S 1092 0) ∧ (S 1092 0) ≤ 24 ∧ (S 1007 0) ≤ (S 1007 0) ∧ (¬ (S 1075 0) = 0 → sm_LX (g146 58) (S 63) (S 64) (S 1092 0) (S 1076 0)) ∧ ((S 1075 0) = 0 → (S 1073 0) = 1 → 1 ≤ (S 1092 0) ∧ (S 1092 0) ≤ 24 ∧ 0 ≤ (g152 57 ((S 1092 0) - 1)) ∧ (g152 57 ((S 1092 0) - 1)) < (S 1046 0) ∧ (S 29 (g152 57 ((S 1092 0) - 1))) = (S 53 ((S 1092 0) - 1)) ∧ 0 ≤ (S 53 ((S 1092 0) - 1)) ∧ (S 53 ((S 1092 0) - 1)) < (S 1032 0) ∧ (S 60 ((S 1092 0) - 1)) = sm_dp (S 1100024) (S 1100023 (g152 57 ((S 1092 0) - 1))) ∧ sm_TC (S 61) (S 62) (S 27) (S 1100007) (S 1100023) (S 1100024) (40 * ((S 1092 0) - 1)) (S 1100023 (g152 57 ((S 1092 0) - 1))) ∧ sm_LK (S 1100029) (S 1076 0) (S 54 ((S 1092 0) - 1)) (S 53 ((S 1092 0) - 1)) ∧ sm_VO (S 44) (S 1076 0) (S 1007 0) ((S 55 ((S 1092 0) - 1))) ((S 56 ((S 1092 0) - 1))) ∧ sm_FW (S 44) (S 1076 0) (S 59 ((S 1092 0) - 1)) ∧ sm_FL (S 53) (S 54) (S 55) (S 56) (g152 57) (g146 58) (S 59) (S 60) (S 61) (S 62) (S 63) (S 64) (S 27) (S 29) (S 1100007) (S 1100023) (S 1100024) (S 1100025) (S 26) (S 1100029) (S 44) (S 1046 0) (S 1032 0) (S 1076 0) (S 1007 0) (((S 1092 0) - 1)) ∧ (g146 58 ((S 1092 0) - 1)) = (S 1100007 (g152 57 ((S 1092 0) - 1))) ∧ sm_SK (S 63) (S 64) (S 44) (S 1100007) (S 1100025) (S 1076 0) (S 1007 0) (400 * ((S 1092 0) - 1)) ((g146 58 ((S 1092 0) - 1))) ((S 1100025 (g152 57 ((S 1092 0) - 1))))) ∧ ((S 1073 0) = 1 ∨ (S 1092 0) = 0 ∧ (S 1075 0) = 0 ∧ ((S 1073 0) = 2 ∨ (S 1073 0) = 3)))))))))))))))) ∧ ((p1 = (25 : Int)) → ((sm_CT (S 26) (S 27) (S 28) (S 29) (S 1100007) (S 1100023) (S 1100024) (S 1100025) (S 21) (S 1046 0) (S 1032 0) (S 1008 0) (S 1055 0) → 0 ≤ (S 1100033 0) → (S 1100033 0) < (S 1046 0) → (((S 26 (S 1100033 0)) = 25 ∨ (S 26 (S 1100033 0)) = 26) → (0 ≤ ((S 1100007 (S 1100033 0)) - 1) ∧ (0 ≤ (S 1100023 (S 1100033 0)) → (S 1100007 (S 1100023 (S 1100033 0))) ≤ ((S 1100007 (S 1100033 0)) - 1)) ∧ (0 ≤ (S 1100025 (S 1100033 0)) → (S 1100007 (S 1100025 (S 1100033 0))) ≤ ((S 1100007 (S 1100033 0)) - 1))))) → (((S 1100034 0) = (S 1100025 (S 1100033 0)) → (S 58 ((S 1092 0) - 1)) = (S 1100007 (S 1100033 0)) → (0 ≤ (S 1100025 (S 1100033 0)) → (S 1100007 (S 1100025 (S 1100033 0))) ≤ (S 1100007 (S 1100033 0)) - 1) → (0 ≤ (S 1100034 0) → (S 1100007 (S 1100034 0)) ≤ (S 58 ((S 1092 0) - 1)) - 1)) → ((sm_SK (S 63) (S 64) (S 44) (S 1100007) (S 1100025) (S 1076 0) (S 1007 0) (400 * ((S 1092 0) - 1)) ((S 58 ((S 1092 0) - 1))) ((S 1100034 0)) → sm_LS (S 26) (S 1100007) (S 1100025) (S 1046 0) → 0 ≤ (S 58 ((S 1092 0) - 1)) - 1 → (S 58 ((S 1092 0) - 1)) - 1 < (S 58 ((S 1092 0) - 1)) → (S 1100034 0) < (S 1046 0) → (S 1100034 0) = (S 1100025 (S 1100033 0)) → (S 58 ((S 1092 0) - 1)) = (S 1100007 (S 1100033 0)) → (0 ≤ (S 1100034 0) → (S 26 (S 1100034 0)) = 29) → (0 ≤ (S 1100025 (S 1100033 0)) → (S 1100007 (S 1100025 (S 1100033 0))) ≤ (S 1100007 (S 1100033 0)) - 1) → sm_VO (S 44) (S 1076 0) (S 1007 0) ((S 63 (400 * ((S 1092 0) - 1) + ((S 58 ((S 1092 0) - 1)) - 1)))) ((S 64 (400 * ((S 1092 0) - 1) + ((S 58 ((S 1092 0) - 1)) - 1))))) → ((S 1075 0) = 0 ∧ (S 1073 0) = 1 ∧ sm_LX (S 58) (S 63) (S 64) (S 1092 0) (S 1076 0) ∧ sm_PL (S 1100020) (S 51) (S 52) (S 46) (S 47) (S 1076 0) (S 1086 0) ∧ sm_FR (S 1100020) (S 52) (S 1100021) (S 1100022) (3000 - (S 1084 0)) (S 1085 0) ∧ sm_PV (S 1100020) (S 48) (S 49) (S 50) (S 44) (S 1076 0) (S 1007 0) ∧ sm_AL (S 1100020) (S 48) (S 49) (S 50) (S 44) (S 1076 0) (S 1100032 0) ∧ sm_SV (S 1100020) (S 48) (S 1100029) (S 32) (S 33) (S 1076 0) (S 1032 0) ∧ 0 ≤ (S 1076 0) ∧ (S 1076 0) ≤ 300 ∧ 0 ≤ (S 1084 0) ∧ (S 1084 0) ≤ 3000 ∧ 0 ≤ (S 1086 0) ∧ sm_SC (S 1100029) (S 44) (S 45) (S 43) (S 21) (S 1076 0) (S 1032 0) ∧ sm_PO (S 42) (S 1076 0) ∧ (S 1100032 0) = -1 ∧ sm_FO (S 44) (S 45) (S 1076 0) ∧ 23 ≤ (S 1076 0) ∧ 31 ≤ (S 1007 0) ∧ (S 1007 0) ≤ 400 ∧ sm_LN (S 4) 400 (S 1007 0) ∧ sm_CT (S 26) (S 27) (S 28) (S 29) (S 1100007) (S 1100023) (S 1100024) (S 1100025) (S 21) (S 1046 0) (S 1032 0) (S 1008 0) (S 1055 0) ∧ sm_LS (S 26) (S 1100007) (S 1100025) (S 1046 0) ∧ sm_CL (S 1100007) (S 1100023) (S 1100025) (S 1046 0) ∧ 1 ≤ (S 1032 0) ∧ (S 1032 0) ≤ 11 ∧ 0 ≤ (S 1046 0) ∧ (S 1046 0) ≤ 600 ∧ 31 ≤ (S 1008 0) ∧ (S 1008 0) ≤ (S 1007 0) ∧ 0 ≤ (S 1055 0) ∧ (S 1055 0) ≤ 19 ∧ 1 ≤ (S 1092 0) ∧ (S 1092 0) ≤ 24 ∧ 0 ≤ (S 1100033 0) ∧ (S 1100033 0) < (S 1046 0) ∧ (S 29 (S 1100033 0)) = (S 53 ((S 1092 0) - 1)) ∧ 0 ≤ (S 53 ((S 1092 0) - 1)) ∧ (S 53 ((S 1092 0) - 1)) < (S 1032 0) ∧ (S 60 ((S 1092 0) - 1)) = sm_dp (S 1100024) (S 1100023 (S 1100033 0)) ∧ sm_TC (S 61) (S 62) (S 27) (S 1100007) (S 1100023) (S 1100024) (40 * ((S 1092 0) - 1)) (S 1100023 (S 1100033 0)) ∧ sm_LK (S 1100029) (S 1076 0) (S 54 ((S 1092 0) - 1)) (S 53 ((S 1092 0) - 1)) ∧ sm_VO (S 44) (S 1076 0) (S 1007 0) ((S 55 ((S 1092 0) - 1))) ((S 56 ((S 1092 0) - 1))) ∧ sm_FW (S 44) (S 1076 0) (S 59 ((S 1092 0) - 1)) ∧ sm_FL (S 53) (S 54) (S 55) (S 56) (S 57) (S 58) (S 59) (S 60) (S 61) (S 62) (S 63) (S 64) (S 27) (S 29) (S 1100007) (S 1100023) (S 1100024) (S 1100025) (S 26) (S 1100029) (S 44) (S 1046 0) (S 1032 0) (S 1076 0) (S 1007 0) (((S 1092 0) - 1)) ∧ (S 57 ((S 1092 0) - 1)) = (S 1100033 0) ∧ 0 ≤ (S 58 ((S 1092 0) - 1)) ∧ (S 58 ((S 1092 0) - 1)) ≤ 400 ∧ sm_SK (S 63) (S 64) (S 44) (S 1100007) (S 1100025) (S 1076 0) (S 1007 0) (400 * ((S 1092 0) - 1)) ((S 58 ((S 1092 0) - 1))) ((S 1100034 0)) ∧ -1 ≤ (S 1100034 0) ∧ (S 1100034 0) < (S 1046 0) ∧ (0 ≤ (S 1100034 0) → (S 26 (S 1100034 0)) = 29) ∧ (S 58 ((S 1092 0) - 1)) = (S 1100007 (S 1100033 0)) ∧ (S 1100034 0) = (S 1100025 (S 1100033 0)) ∧ (0 ≤ (S 1100023 (S 1100033 0)) → (S 1100007 (S 1100023 (S 1100033 0))) ≤ (S 58 ((S 1092 0) - 1))) ∧ (S 58 ((S 1092 0) - 1)) ≤ 396 ∧ sm_VO (S 44) (S 1076 0) (S 1007 0) (s3) (s5)) ∧ (∀ g161 : sv_S, (sm_PL (S 1100020) (S 51) (S 52) (S 46) (S 47) (S 1076 0) (S 1086 0) ∧ sm_FR (S 1100020) (S 52) (S 1100021) (S 1100022) (3000 - (S 1084 0)) (S 1085 0) ∧ sm_PV (S 1100020) (S 48) (S 49) (S 50) (S 44) (S 1076 0) (S 1007 0) ∧ sm_AL (S 1100020) (S 48) (S 49) (S 50) (S 44) (S 1076 0) (S 1100032 0) ∧ sm_SV (S 1100020) (S 48) (S 1100029) (S 32) (S 33) (S 1076 0) (S 1032 0) ∧ 0 ≤ (S 1076 0) ∧ (S 1076 0) ≤ 300 ∧ 0 ≤ (S 1084 0) ∧ (S 1084 0) ≤ 3000 ∧ 0 ≤ (S 1086 0) ∧ sm_SC (S 1100029) (S 44) (S 45) (S 43) (S 21) (S 1076 0) (S 1032 0) ∧ sm_PO (S 42) (S 1076 0) ∧ ((S 1075 0) = 0 → (S 1100032 0) = -1 ∧ sm_FO (S 44) (S 45) (S 1076 0)) ∧ 23 ≤ (S 1076 0) ∧ 31 ≤ (S 1007 0) ∧ (S 1007 0) ≤ 400 ∧ sm_LN (S 4) 400 (S 1007 0) ∧ (S 1008 0) ≤ (S 1007 0) ∧ ((S 1075 0) = 1 → (S 1075 0) = 1) ∧ 0 ≤ (g161 1092 0) ∧ (g161 1092 0) ≤ 24 ∧ (S 1007 0) ≤ (S 1007 0) ∧ (¬ (S 1075 0) = 0 → sm_LX (g161 58) (g161 63) (g161 64) (g161 1092 0) (S 1076 0)) ∧ ((S 1075 0) = 0 → (g161 1073 0) = 1 → 1 ≤ (g161 1092 0) ∧ (g161 1092 0) ≤ 24 ∧ 0 ≤ (S 57 ((g161 1092 0) - 1)) ∧ (S 57 ((g161 1092 0) - 1)) < (S 1046 0) ∧ (S 29 (S 57 ((g161 1092 0) - 1))) = (S 53 ((g161 1092 0) - 1)) ∧ 0 ≤ (S 53 ((g161 1092 0) - 1)) ∧ (S 53 ((g161 1092 0) - 1)) < (S 1032 0) ∧ (S 60 ((g161 1092 0) - 1)) = sm_dp (S 1100024) (S 1100023 (S 57 ((g161 1092 0) - 1))) ∧ sm_TC (S 61) (S 62) (S 27) (S 1100007) (S 1100023) (S 1100024) (40 * ((g161 1092 0) - 1)) (S 1100023 (S 57 ((g161 1092 0) - 1))) ∧ sm_LK (S 1100029) (S 1076 0) (S 54 ((g161 1092 0) - 1)) (S 53 ((g161 1092 0) - 1)) ∧ sm_VO (S 44) (S 1076 0) (S 1007 0) ((S 55 ((g161 1092 0) - 1))) ((S 56 ((g161 1092 0) - 1))) ∧ sm_FW (S 44) (S 1076 0) (S 59 ((g161 1092 0) - 1)) ∧ sm_FL (S 53) (S 54) (S 55) (S 56) (S 57) (g161 58) (S 59) (S 60) (S 61) (S 62) (g161 63) (g161 64) (S 27) (S 29) (S 1100007) (S 1100023) (S 1100024) (S 1100025) (S 26) (S 1100029) (S 44) (S 1046 0) (S 1032 0) (S 1076 0) (S 1007 0) (((g161 1092 0) - 1)) ∧ (g161 58 ((g161 1092 0) - 1)) = (S 1100007 (S 57 ((g161 1092 0) - 1))) ∧ sm_SK (g161 63) (g161 64) (S 44) (S 1100007) (S 1100025) (S 1076 0) (S 1007 0) (400 * ((g161 1092 0) - 1)) ((g161 58 ((g161 1092 0) - 1))) ((S 1100025 (S 57 ((g161 1092 0) - 1))))) ∧ ((g161 1073 0) = 1 ∨ (g161 1092 0) = 0 ∧ (S 1075 0) = 0 ∧ ((g161 1073 0) = 2 ∨ (g161 1073 0) = 3)) ∧ ((g161 1073 0) = 1 ∨ (g161 1073 0) = 2)) → (sm_PL (S 1100020) (S 51) (S 52) (S 46) (S 47) (S 1076 0) (S 1086 0) ∧ sm_FR (S 1100020) (S 52) (S 1100021) (S 1100022) (3000 - (S 1084 0)) (S 1085 0) ∧ sm_PV (S 1100020) (S 48) (S 49) (S 50) (S 44) (S 1076 0) (S 1007 0) ∧ sm_AL (S 1100020) (S 48) (S 49) (S 50) (S 44) (S 1076 0) (S 1100032 0) ∧ sm_SV (S 1100020) (S 48) (S 1100029) (S 32) (S 33) (S 1076 0) (S 1032 0) ∧ 0 ≤ (S 1076 0) ∧ (S 1076 0) ≤ 300 ∧ 0 ≤ (S 1084 0) ∧ (S 1084 0) ≤ 3000 ∧ 0 ≤ (S 1086 0) ∧ sm_SC (S 1100029) (S 44) (S 45) (S 43) (S 21) (S 1076 0) (S 1032 0) ∧ sm_PO (S 42) (S 1076 0) ∧ ((S 1075 0) = 0 → (S 1100032 0) = -1 ∧ sm_FO (S 44) (S 45) (S 1076 0)) ∧ 23 ≤ (S 1076 0) ∧ 31 ≤ (S 1007 0) ∧ (S 1007 0) ≤ 400 ∧ sm_LN (S 4) 400 (S 1007 0) ∧ (S 1008 0) ≤ (S 1007 0) ∧ ((S 1075 0) = 1 → (S 1075 0) = 1) ∧ 0 ≤ (g161 1092 0) ∧ (g161 1092 0) ≤ 24 ∧ (S 1007 0) ≤ (S 1007 0) ∧ (¬ (S 1075 0) = 0 → sm_LX (g161 58) (g161 63) (g161 64) (g161 1092 0) (S 1076 0)) ∧ ((S 1075 0) = 0 → (g161 1073 0) = 1 → 1 ≤ (g161 1092 0) ∧ (g161 1092 0) ≤ 24 ∧ 0 ≤ (S 57 ((g161 1092 0) - 1)) ∧ (S 57 ((g161 1092 0) - 1)) < (S 1046 0) ∧ (S 29 (S 57 ((g161 1092 0) - 1))) = (S 53 ((g161 1092 0) - 1)) ∧ 0 ≤ (S 53 ((g161 1092 0) - 1)) ∧ (S 53 ((g161 1092 0) - 1)) < (S 1032 0) ∧ (S 60 ((g161 1092 0) - 1)) = sm_dp (S 1100024) (S 1100023 (S 57 ((g161 1092 0) - 1))) ∧ sm_TC (S 61) (S 62) (S 27) (S 1100007) (S 1100023) (S 1100024) (40 * ((g161 1092 0) - 1)) (S 1100023 (S 57 ((g161 1092 0) - 1))) ∧ sm_LK (S 1100029) (S 1076 0) (S 54 ((g161 1092 0) - 1)) (S 53 ((g161 1092 0) - 1)) ∧ sm_VO (S 44) (S 1076 0) (S 1007 0) ((S 55 ((g161 1092 0) - 1))) ((S 56 ((g161 1092 0) - 1))) ∧ sm_FW (S 44) (S 1076 0) (S 59 ((g161 1092 0) - 1)) ∧ sm_FL (S 53) (S 54) (S 55) (S 56) (S 57) (g161 58) (S 59) (S 60) (S 61) (S 62) (g161 63) (g161 64) (S 27) (S 29) (S 1100007) (S 1100023) (S 1100024) (S 1100025) (S 26) (S 1100029) (S 44) (S 1046 0) (S 1032 0) (S 1076 0) (S 1007 0) (((g161 1092 0) - 1)) ∧ (g161 58 ((g161 1092 0) - 1)) = (S 1100007 (S 57 ((g161 1092 0) - 1))) ∧ sm_SK (g161 63) (g161 64) (S 44) (S 1100007) (S 1100025) (S 1076 0) (S 1007 0) (400 * ((g161 1092 0) - 1)) ((g161 58 ((g161 1092 0) - 1))) ((S 1100025 (S 57 ((g161 1092 0) - 1))))) ∧ ((g161 1073 0) = 1 ∨ (g161 1092 0) = 0 ∧ (S 1075 0) = 0 ∧ ((g161 1073 0) = 2 ∨ (g161 1073 0) = 3)))))))) ∧ ((p1 = (26 : Int)) → ((sm_CT (S 26) (S 27) (S 28) (S 29) (S 1100007) (S 1100023) (S 1100024) (S 1100025) (S 21) (S 1046 0) (S 1032 0) (S 1008 0) (S 1055 0) → 0 ≤ (S 1100033 0) → (S 1100033 0) < (S 1046 0) → (((S 26 (S 1100033 0)) = 25 ∨ (S 26 (S 1100033 0)) = 26) → (0 ≤ ((S 1100007 (S 1100033 0)) - 1) ∧ (0 ≤ (S 1100023 (S 1100033 0)) → (S 1100007 (S 1100023 (S 1100033 0))) ≤ ((S 1100007 (S 1100033 0)) - 1)) ∧ (0 ≤ (S 1100025 (S 1100033 0)) → (S 1100007 (S 1100025 (S 1100033 0))) ≤ ((S 1100007 (S 1100033 0)) - 1))))) → (((S 1100034 0) = (S 1100025 (S 1100033 0)) → (S 58 ((S 1092 0) - 1)) = (S 1100007 (S 1100033 0)) → (0 ≤ (S 1100025 (S 1100033 0)) → (S 1100007 (S 1100025 (S 1100033 0))) ≤ (S 1100007 (S 1100033 0)) - 1) → (0 ≤ (S 1100034 0) → (S 1100007 (S 1100034 0)) ≤ (S 58 ((S 1092 0) - 1)) - 1)) → ((sm_SK (S 63) (S 64) (S 44) (S 1100007) (S 1100025) (S 1076 0) (S 1007 0) (400 * ((S 1092 0) - 1)) ((S 58 ((S 1092 0) - 1))) ((S 1100034 0)) → sm_LS (S 26) (S 1100007) (S 1100025) (S 1046 0) → 0 ≤ (S 58 ((S 1092 0) - 1)) - 1 → (S 58 ((S 1092 0) - 1)) - 1 < (S 58 ((S 1092 0) - 1)) → (S 1100034 0) < (S 1046 0) → (S 1100034 0) = (S 1100025 (S 1100033 0)) → (S 58 ((S 1092 0) - 1)) = (S 1100007 (S 1100033 0)) → (0 ≤ (S 1100034 0) → (S 26 (S 1100034 0)) = 29) → (0 ≤ (S 1100025 (S 1100033 0)) → (S 1100007 (S 1100025 (S 1100033 0))) ≤ (S 1100007 (S 1100033 0)) - 1) → sm_VO (S 44) (S 1076 0) (S 1007 0) ((S 63 (400 * ((S 1092 0) - 1) + ((S 58 ((S 1092 0) - 1)) - 1)))) ((S 64 (400 * ((S 1092 0) - 1) + ((S 58 ((S 1092 0) - 1)) - 1))))) → ((¬ (S 1075 0) = 0 → sm_LX (S 58) (S 63) (S 64) (S 1092 0) (S 1076 0)) ∧ ((S 1075 0) = 0 → 31 ≤ (S 1007 0) ∧ (S 1007 0) ≤ 400 ∧ sm_LN (S 4) 400 (S 1007 0) ∧ sm_CT (S 26) (S 27) (S 28) (S 29) (S 1100007) (S 1100023) (S 1100024) (S 1100025) (S 21) (S 1046 0) (S 1032 0) (S 1008 0) (S 1055 0) ∧ sm_LS (S 26) (S 1100007) (S 1100025) (S 1046 0) ∧ sm_CL (S 1100007) (S 1100023) (S 1100025) (S 1046 0) ∧ 1 ≤ (S 1032 0) ∧ (S 1032 0) ≤ 11 ∧ 0 ≤ (S 1046 0) ∧ (S 1046 0) ≤ 600 ∧ 31 ≤ (S 1008 0) ∧ (S 1008 0) ≤ (S 1007 0) ∧ 0 ≤ (S 1055 0) ∧ (S 1055 0) ≤ 19 ∧ 1 ≤ (S 1092 0) ∧ (S 1092 0) ≤ 24 ∧ 0 ≤ (S 57 ((S 1092 0) - 1)) ∧ (S 57 ((S 1092 0) - 1)) < (S 1046 0) ∧ (S 29 (S 57 ((S 1092 0) - 1))) = (S 53 ((S 1092 0) - 1)) ∧ 0 ≤ (S 53 ((S 1092 0) - 1)) ∧ (S 53 ((S 1092 0) - 1)) < (S 1032 0) ∧ (S 60 ((S 1092 0) - 1)) = sm_dp (S 1100024) (S 1100023 (S 57 ((S 1092 0) - 1))) ∧ sm_TC (S 61) (S 62) (S 27) (S 1100007) (S 1100023) (S 1100024) (40 * ((S 1092 0) - 1)) (S 1100023 (S 57 ((S 1092 0) - 1))) ∧ sm_LK (S 1100029) (S 1076 0) (S 54 ((S 1092 0) - 1)) (S 53 ((S 1092 0) - 1)) ∧ sm_VO (S 44) (S 1076 0) (S 1007 0) ((S 55 ((S 1092 0) - 1))) ((S 56 ((S 1092 0) - 1))) ∧ sm_FW (S 44) (S 1076 0) (S 59 ((S 1092 0) - 1)) ∧ sm_FL (S 53) (S 54) (S 55) (S 56) (S 57) (S 58) (S 59) (S 60) (S 61) (S 62) (S 63) (S 64) (S 27) (S 29) (S 1100007) (S 1100023) (S 1100024) (S 1100025) (S 26) (S 1100029) (S 44) (S 1046 0) (S 1032 0) (S 1076 0) (S 1007 0) (((S 1092 0) - 1)) ∧ (S 58 ((S 1092 0) - 1)) = (S 1100007 (S 57 ((S 1092 0) - 1))) ∧ sm_SK (S 63) (S 64) (S 44) (S 1100007) (S 1100025) (S 1076 0) (S 1007 0) (400 * ((S 1092 0) - 1)) ((S 58 ((S 1092 0) - 1))) ((S 1100025 (S 57 ((S 1092 0) - 1)))) ∧ sm_VO (S 44) (S 1076 0) (S 1007 0) (s3) (s5) ∧ (0 ≤ (S 1100023 (S 57 ((S 1092 0) - 1))) → (S 1100007 (S 1100023 (S 57 ((S 1092 0) - 1)))) ≤ (S 58 ((S 1092 0) - 1))))) ∧ (∀ g170 : sv_S, ((¬ (S 1075 0) = 0 → sm_LX (g170 58) (g170 63) (g170 64) (g170 1092 0) (S 1076 0)) ∧ ((S 1075 0) = 0 → (g170 1073 0) = 1 → (S 1073 0) = 1 ∧ 1 ≤ (g170 1092 0) ∧ (g170 1092 0) ≤ 24 ∧ 0 ≤ (g170 57 ((g170 1092 0) - 1)) ∧ (g170 57 ((g170 1092 0) - 1)) < (S 1046 0) ∧ (S 29 (g170 57 ((g170 1092 0) - 1))) = (S 53 ((g170 1092 0) - 1)) ∧ 0 ≤ (S 53 ((g170 1092 0) - 1)) ∧ (S 53 ((g170 1092 0) - 1)) < (S 1032 0) ∧ (g170 60 ((g170 1092 0) - 1)) = sm_dp (S 1100024) (S 1100023 (g170 57 ((g170 1092 0) - 1))) ∧ sm_TC (S 61) (S 62) (S 27) (S 1100007) (S 1100023) (S 1100024) (40 * ((g170 1092 0) - 1)) (S 1100023 (g170 57 ((g170 1092 0) - 1))) ∧ sm_LK (S 1100029) (S 1076 0) (S 54 ((g170 1092 0) - 1)) (S 53 ((g170 1092 0) - 1)) ∧ sm_VO (S 44) (S 1076 0) (S 1007 0) ((S 55 ((g170 1092 0) - 1))) ((S 56 ((g170 1092 0) - 1))) ∧ sm_FW (S 44) (S 1076 0) (S 59 ((g170 1092 0) - 1)) ∧ sm_FL (S 53) (S 54) (S 55) (S 56) (g170 57) (g170 58) (S 59) (g170 60) (S 61) (S 62) (g170 63) (g170 64) (S 27) (S 29) (S 1100007) (S 1100023) (S 1100024) (S 1100025) (S 26) (S 1100029) (S 44) (S 1046 0) (S 1032 0) (S 1076 0) (S 1007 0) (((g170 1092 0) - 1)) ∧ (g170 58 ((g170 1092 0) - 1)) = (S 1100007 (g170 57 ((g170 1092 0) - 1))) ∧ sm_SK (g170 63) (g170 64) (S 44) (S 1100007) (S 1100025) (S 1076 0) (S 1007 0) (400 * ((g170 1092 0) - 1)) ((g170 58 ((g170 1092 0) - 1))) ((S 1100025 (g170 57 ((g170 1092 0) - 1))))) ∧ ((g170 1073 0) = (S 1073 0) ∨ ((g170 1073 0) = 3 ∧ (g170 1092 0) = 0 ∧ (S 1075 0) = 0)) ∧ (g170 1092 0) ≤ (S 1092 0) ∧ (0 ≤ (S 1092 0) → 0 ≤ (g170 1092 0))) → (sm_PL (S 1100020) (S 51) (S 52) (S 46) (S 47) (S 1076 0) (S 1086 0) ∧ sm_FR (S 1100020) (S 52) (S 1100021) (S 1100022) (3000 - (S 1084 0)) (S 1085 0) ∧ sm_PV (S 1100020) (S 48) (S 49) (S 50) (S 44) (S 1076 0) (S 1007 0) ∧ sm_AL (S 1100020) (S 48) (S 49) (S 50) (S 44) (S 1076 0) (S 1100032 0) ∧ sm_SV (S 1100020) (S 48) (S 1100029) (S 32) (S 33) (S 1076 0) (S 1032 0) ∧ 0 ≤ (S 1076 0) ∧ (S 1076 0) ≤ 300 ∧ 0 ≤ (S 1084 0) ∧ (S 1084 0) ≤ 3000 ∧ 0 ≤ (S 1086 0) ∧ sm_SC (S 1100029) (S 44) (S 45) (S 43) (S 21) (S 1076 0) (S 1032 0) ∧ sm_PO (S 42) (S 1076 0) ∧ ((S 1075 0) = 0 → (S 1100032 0) = -1 ∧ sm_FO (S 44) (S 45) (S 1076 0)) ∧ 23 ≤ (S 1076 0) ∧ 31 ≤ (S 1007 0) ∧ (S 1007 0) ≤ 400 ∧ sm_LN (S 4) 400 (S 1007 0) ∧ (S 1008 0) ≤ (S 1007 0) ∧ ((S 1075 0) = 1 → (S 1075 0) = 1) ∧ 0 ≤ (g170 1092 0) ∧ (g170 1092 0) ≤ 24 ∧ (S 1007 0) ≤ (S 1007 0) ∧ (¬ (S 1075 0) = 0 → sm_LX (g170 58) (g170 63) (g170 64) (g170 1092 0) (S 1076 0)) ∧ ((S 1075 0) = 0 → (g170 1073 0) = 1 → 1 ≤ (g170 1092 0) ∧ (g170 1092 0) ≤ 24 ∧ 0 ≤ (g170 57 ((g170 1092 0) - 1)) ∧ (g170 57 ((g170 1092 0) - 1)) < (S 1046 0) ∧ (S 29 (g170 57 ((g170 1092 0) - 1))) = (S 53 ((g170 1092 0) - 1)) ∧ 0 ≤ (S 53 ((g170 1092 0) - 1)) ∧ (S 53 ((g170 1092 0) - 1)) < (S 1032 0) ∧ (g170 60 ((g170 1092 0) - 1)) = sm_dp (S 1100024) (S 1100023 (g170 57 ((g170 1092 0) - 1))) ∧ sm_TC (S 61) (S 62) (S 27) (S 1100007) (S 1100023) (S 1100024) (40 * ((g170 1092 0) - 1)) (S 1100023 (g170 57 ((g170 1092 0) - 1))) ∧ sm_LK (S 1100029) (S 1076 0) (S 54 ((g170 1092 0) - 1)) (S 53 ((g170 1092 0) - 1)) ∧ sm_VO (S 44) (S 1076 0) (S 1007 0) ((S 55 ((g170 1092 0) - 1))) ((S 56 ((g170 1092 0) - 1))) ∧ sm_FW (S 44) (S 1076 0) (S 59 ((g170 1092 0) - 1)) ∧ sm_FL (S 53) (S 54) (S 55) (S 56) (g170 57) (g170 58) (S 59) (g170 60) (S 61) (S 62) (g170 63) (g170 64) (S 27) (S 29) (S 1100007) (S 1100023) (S 1100024) (S 1100025) (S 26) (S 1100029) (S 44) (S 1046 0) (S 1032 0) (S 1076 0) (S 1007 0) (((g170 1092 0) - 1)) ∧ (g170 58 ((g170 1092 0) - 1)) = (S 1100007 (g170 57 ((g170 1092 0) - 1))) ∧ sm_SK (g170 63) (g170 64) (S 44) (S 1100007) (S 1100025) (S 1076 0) (S 1007 0) (400 * ((g170 1092 0) - 1)) ((g170 58 ((g170 1092 0) - 1))) ((S 1100025 (g170 57 ((g170 1092 0) - 1))))) ∧ ((g170 1073 0) = 1 ∨ (g170 1092 0) = 0 ∧ (S 1075 0) = 0 ∧ ((g170 1073 0) = 2 ∨ (g170 1073 0) = 3)))))))) ∧ ((p1 = (27 : Int)) → ((sm_CT (S 26) (S 27) (S 28) (S 29) (S 1100007) (S 1100023) (S 1100024) (S 1100025) (S 21) (S 1046 0) (S 1032 0) (S 1008 0) (S 1055 0) → 0 ≤ (S 1100033 0) → (S 1100033 0) < (S 1046 0) → ((S 26 (S 1100033 0)) = 27 → (S 1100024 (S 1100033 0)) < 40 ∧ (0 ≤ ((S 1100007 (S 1100033 0))) ∧ (0 ≤ (S 1100023 (S 1100033 0)) → (S 1100007 (S 1100023 (S 1100033 0))) ≤ ((S 1100007 (S 1100033 0)))) ∧ (0 ≤ (S 1100025 (S 1100033 0)) → (S 1100007 (S 1100025 (S 1100033 0))) ≤ ((S 1100007 (S 1100033 0))))) ∧ (0 ≤ ((S 1100033 0) + 1) ∧ ((S 1100033 0) + 1) < (S 1046 0) ∧ (S 29 ((S 1100033 0) + 1)) = ((S 29 (S 1100033 0))) ∧ (S 1100007 ((S 1100033 0) + 1)) = ((S 1100007 (S 1100033 0))) ∧ (S 1100023 ((S 1100033 0) + 1)) = (S 1100033 0) ∧ (S 1100025 ((S 1100033 0) + 1)) = ((S 1100025 (S 1100033 0)))) ∧ (0 ≤ ((S 27 (S 1100033 0))) ∧ ((S 27 (S 1100033 0))) < (S 1046 0) ∧ (S 29 ((S 27 (S 1100033 0)))) = ((S 29 (S 1100033 0))) ∧ (S 1100007 ((S 27 (S 1100033 0)))) = ((S 1100007 (S 1100033 0)) + 1) ∧ (S 1100023 ((S 27 (S 1100033 0)))) = ((S 1100023 (S 1100033 0))) ∧ (S 1100025 ((S 27 (S 1100033 0)))) = ((S 1100025 (S 1100033 0)))))) → ((sm_CT (S 26) (S 27) (S 28) (S 29) (S 1100007) (S 1100023) (S 1100024) (S 1100025) (S 21) (S 1046 0) (S 1032 0) (S 1008 0) (S 1055 0) → 0 ≤ (S 1100033 0) → (S 1100033 0) < (S 1046 0) → (S 1100024 (S 1100033 0)) = sm_dp (S 1100024) (S 1100023 (S 1100033 0))) → ((sm_CT (S 26) (S 27) (S 28) (S 29) (S 1100007) (S 1100023) (S 1100024) (S 1100025) (S 21) (S 1046 0) (S 1032 0) (S 1008 0) (S 1055 0) → 0 ≤ (S 1100033 0) → (S 1100033 0) < (S 1046 0) → 0 ≤ (S 1100024 (S 1100033 0)) ∧ (S 1100024 (S 1100033 0)) ≤ 40) → ((0 ≤ (S 1100033 0) → sm_dp (S 1100024) (S 1100033 0) = (S 1100024 (S 1100033 0)) + 1) → (0 ≤ ((S 1092 0) - (1 : Int)) ∧ ((S 1092 0) - (1 : Int)) < 24) ∧ (sv_R (S 60 ((S 1092 0) - (1 : Int))) → (0 ≤ (((40 : Int) * ((S 1092 0) - (1 : Int))) + (S 60 ((S 1092 0) - (1 : Int)))) ∧ (((40 : Int) * ((S 1092 0) - (1 : Int))) + (S 60 ((S 1092 0) - (1 : Int)))) < 960) ∧ (sv_R (S 58 ((S 1092 0) - (1 : Int))) → ((sm_TC (S 61) (S 62) (S 27) (S 1100007) (S 1100023) (S 1100024) (40 * ((S 1092 0) - 1)) (S 1100023 (S 1100033 0)) → 0 ≤ (S 1100033 0) → -1 ≤ (S 1100023 (S 1100033 0)) ∧ (S 1100023 (S 1100033 0)) < (S 1100033 0) → (S 1100024 (S 1100033 0)) = sm_dp (S 1100024) (S 1100023 (S 1100033 0)) → p2 = (S 27 (S 1100033 0)) → (S 58 ((S 1092 0) - 1)) = (S 1100007 (S 1100033 0)) → 40 * ((S 1092 0) - 1) + (S 60 ((S 1092 0) - 1)) = 40 * ((S 1092 0) - 1) + (S 1100024 (S 1100033 0)) → sm_TC (fun i' : Int => if i' = (((40 : Int) * ((S 1092 0) - (1 : Int))) + (S 60 ((S 1092 0) - (1 : Int)))) then p2 else (S 61) i') (fun i' : Int => if i' = (((40 : Int) * ((S 1092 0) - (1 : Int))) + (S 60 ((S 1092 0) - (1 : Int)))) then (S 58 ((S 1092 0) - (1 : Int))) else (S 62) i') (S 27) (S 1100007) (S 1100023) (S 1100024) (40 * ((S 1092 0) - 1)) (S 1100033 0)) → (sv_R ((S 60 ((S 1092 0) - (1 : Int))) + (1 : Int))) ∧ (1 ≤ (S 1092 0) ∧ (S 1092 0) ≤ 24 ∧ 0 ≤ (S 57 ((S 1092 0) - 1)) ∧ (S 57 ((S 1092 0) - 1)) ≤ 600) ∧ (∀ g192 : sv_S, ((g192 57 ((S 1092 0) - 1)) = (S 57 ((S 1092 0) - 1)) + 1 ∧ (∀ k : Int, ¬ k = (S 1092 0) - 1 → (g192 57 k) = (S 57 k))) → (sm_PL (S 1100020) (S 51) (S 52) (S 46) (S 47) (S 1076 0) (S 1086 0) ∧ sm_FR (S 1100020) (S 52) (S 1100021) (S 1100022) (3000 - (S 1084 0)) (S 1085 0) ∧ sm_PV (S 1100020) (S 48) (S 49) (S 50) (S 44) (S 1076 0) (S 1007 0) ∧ sm_AL (S 1100020) (S 48) (S 49) (S 50) (S 44) (S 1076 0) (S 1100032 0) ∧ sm_SV (S 1100020) (S 48) (S 1100029) (S 32) (S 33) (S 1076 0) (S 1032 0) ∧ 0 ≤ (S 1076 0) ∧ (S 1076 0) ≤ 300 ∧ 0 ≤ (S 1084 0) ∧ (S 1084 0) ≤ 3000 ∧ 0 ≤ (S 1086 0) ∧ sm_SC (S 1100029) (S 44) (S 45) (S 43) (S 21) (S 1076 0) (S 1032 0) ∧ sm_PO (S 42) (S 1076 0) ∧ ((S 1075 0) = 0 → (S 1100032 0) = -1 ∧ sm_FO (S 44) (S 45) (S 1076 0)) ∧ 23 ≤ (S 1076 0) ∧ 31 ≤ (S 1007 0) ∧ (S 1007 0) ≤ 400 ∧ sm_LN (S 4) 400 (S 1007 0) ∧ (S 1008 0) ≤ (S 1007 0) ∧ ((S 1075 0) = 1 → (S 1075 0) = 1) ∧ 0 ≤ (S 1092 0) ∧ (S 1092 0) ≤ 24 ∧ (S 1007 0) ≤ (S 1007 0) ∧ (¬ (S 1075 0) = 0 → sm_LX (S 58) (S 63) (S 64) (S 1092 0) (S 1076 0)) ∧ ((S 1075 0) = 0 → (S 1073 0) = 1 → 1 ≤ (S 1092 0) ∧ (S 1092 0) ≤ 24 ∧ 0 ≤ (g192 57 ((S 1092 0) - 1)) ∧ (g192 57 ((S 1092 0) - 1)) < (S 1046 0) ∧ (S 29 (g192 57 ((S 1092 0) - 1))) = (S 53 ((S 1092 0) - 1)) ∧ 0 ≤ (S 53 ((S 1092 0) - 1)) ∧ (S 53 ((S 1092 0) - 1)) < (S 1032 0) ∧ (if ((S 1092 0) - 1) = ((S 1092 0) - (1 : Int)) then ((S 60 ((S 1092 0) - (1 : Int))) + (1 : Int)) else (S 60 ((S 1092 0) - 1))) = sm_dp (S 1100024) (S 1100023 (g192 57 ((S 1092 0) - 1))) ∧ sm_TC (fun i' : Int => if i' = (((40 : Int) * ((S 1092 0) - (1 : Int))) + (S 60 ((S 1092 0) - (1 : Int)))) then p2 else (S 61) i') (fun i' : Int => if i' = (((40 : Int) * ((S 1092 0) - (1 : Int))) + (S 60 ((S 1092 0) - (1 : Int)))) then (S 58 ((S 1092 0) - (1 : Int))) else (S 62) i') (S 27) (S 1100007) (S 1100023) (S 1100024) (40 * ((S 1092 0) - 1)) (S 1100023 (g192 57 ((S 1092 0) - 1))) ∧ sm_LK (S 1100029) (S 1076 0) (S 54 ((S 1092 0) - 1)) (S 53 ((S 1092 0) - 1)) ∧ sm_VO (S 44) (S 1076 0) (S 1007 0) ((S 55 ((S 1092 0) - 1))) ((S 56 ((S 1092 0) - 1))) ∧ sm_FW (S 44) (S 1076 0) (S 59 ((S 1092 0) - 1)) ∧ sm_FL (S 53) (S 54) (S 55) (S 56) (g192 57) (S 58) (S 59) (fun i' : Int => if i' = ((S 1092 0) - (1 : Int)) then ((S 60 ((S 1092 0) - (1 : Int))) + (1 : Int)) else (S 60) i') (fun i' : Int => if i' = (((40 : Int) * ((S 1092 0) - (1 : Int))) + (S 60 ((S 1092 0) - (1 : Int)))) then p2 else (S 61) i') (fun i' : Int => if i' = (((40 : Int) * ((S 1092 0) - (1 : Int))) + (S 60 ((S 1092 0) - (1 : Int)))) then (S 58 ((S 1092 0) - (1 : Int))) else (S 62) i') (S 63) (S 64) (S 27) (S 29) (S 1100007) (S 1100023) (S 1100024) (S 1100025) (S 26) (S 1100029) (S 44) (S 1046 0) (S 1032 0) (S 1076 0) (S 1007 0) (((S 1092 0) - 1)) ∧ (S 58 ((S 1092 0) - 1)) = (S 1100007 (g192 57 ((S 1092 0) - 1))) ∧ sm_SK (S 63) (S 64) (S 44) (S 1100007) (S 1100025) (S 1076 0) (S 1007 0) (400 * ((S 1092 0) - 1)) ((S 58 ((S 1092 0) - 1))) ((S 1100025 (g192 57 ((S 1092 0) - 1))))) ∧ ((S 1073 0) = 1 ∨ (S 1092 0) = 0 ∧ (S 1075 0) = 0 ∧ ((S 1073 0) = 2 ∨ (S 1073 0) = 3)))))))))))) ∧ ((p1 = (28 : Int)) → ((sm_CT (S 26) (S 27) (S 28) (S 29) (S 1100007) (S 1100023) (S 1100024) (S 1100025) (S 21) (S 1046 0) (S 1032 0) (S 1008 0) (S 1055 0) → 0 ≤ (S 1100033 0) → (S 1100033 0) < (S 1046 0) → ((S 26 (S 1100033 0)) = 28 → 0 ≤ (S 1100023 (S 1100033 0)) ∧ (0 ≤ ((S 1100007 (S 1100033 0))) ∧ (0 ≤ (S 1100023 (S 1100033 0)) → (S 1100007 (S 1100023 (S 1100033 0))) ≤ ((S 1100007 (S 1100033 0)))) ∧ (0 ≤ (S 1100025 (S 1100033 0)) → (S 1100007 (S 1100025 (S 1100033 0))) ≤ ((S 1100007 (S 1100033 0))))) ∧ (0 ≤ ((S 1100033 0) + 1) ∧ ((S 1100033 0) + 1) < (S 1046 0) ∧ (S 29 ((S 1100033 0) + 1)) = ((S 29 (S 1100033 0))) ∧ (S 1100007 ((S 1100033 0) + 1)) = ((S 1100007 (S 1100033 0))) ∧ (S 1100023 ((S 1100033 0) + 1)) = ((S 1100023 ((S 1100023 (S 1100033 0))))) ∧ (S 1100025 ((S 1100033 0) + 1)) = ((S 1100025 (S 1100033 0)))))) → ((sm_CT (S 26) (S 27) (S 28) (S 29) (S 1100007) (S 1100023) (S 1100024) (S 1100025) (S 21) (S 1046 0) (S 1032 0) (S 1008 0) (S 1055 0) → 0 ≤ (S 1100033 0) → (S 1100033 0) < (S 1046 0) → (0 ≤ (S 1100023 (S 1100033 0)) → (S 26 ((S 1100023 (S 1100033 0)))) = 27 ∧ (S 29 ((S 1100023 (S 1100033 0)))) = (S 29 (S 1100033 0)) ∧ (S 1100024 (S 1100033 0)) = (S 1100024 ((S 1100023 (S 1100033 0)))) + 1)) → ((sm_CT (S 26) (S 27) (S 28) (S 29) (S 1100007) (S 1100023) (S 1100024) (S 1100025) (S 21) (S 1046 0) (S 1032 0) (S 1008 0) (S 1055 0) → sm_TC (S 61) (S 62) (S 27) (S 1100007) (S 1100023) (S 1100024) (40 * ((S 1092 0) - 1)) (S 1100023 (S 1100033 0)) → 0 ≤ (S 1100023 (S 1100033 0)) → (S 1100023 (S 1100033 0)) < (S 1046 0) → (S 26 (S 1100023 (S 1100033 0))) = 27 → (0 ≤ (S 1100024 (S 1100023 (S 1100033 0))) ∧ (S 1100024 (S 1100023 (S 1100033 0))) < 40 ∧ sm_dp (S 1100024) (S 1100023 (S 1100033 0)) = (S 1100024 (S 1100023 (S 1100033 0))) + 1 ∧ (S 1100024 (S 1100023 (S 1100033 0))) = sm_dp (S 1100024) (S 1100023 (S 1100023 (S 1100033 0))) ∧ -1 ≤ (S 1100023 (S 1100023 (S 1100033 0))) ∧ (S 1100023 (S 1100023 (S 1100033 0))) < (S 1100023 (S 1100033 0))) ∧ ((S 61 (40 * ((S 1092 0) - 1) + (S 1100024 (S 1100023 (S 1100033 0))))) = (S 27 (S 1100023 (S 1100033 0))) ∧ (S 62 (40 * ((S 1092 0) - 1) + (S 1100024 (S 1100023 (S 1100033 0))))) = (S 1100007 (S 1100023 (S 1100033 0))) ∧ 0 ≤ (S 1100007 (S 1100023 (S 1100033 0))) ∧ (S 1100007 (S 1100023 (S 1100033 0))) ≤ 396) ∧ (0 ≤ (S 27 (S 1100023 (S 1100033 0))) ∧ (S 27 (S 1100023 (S 1100033 0))) < (S 1046 0) ∧ (S 29 (S 27 (S 1100023 (S 1100033 0)))) = (S 29 (S 1100023 (S 1100033 0))) ∧ (S 1100007 (S 27 (S 1100023 (S 1100033 0)))) = (S 1100007 (S 1100023 (S 1100033 0))) + 1 ∧ (S 1100023 (S 27 (S 1100023 (S 1100033 0)))) = (S 1100023 (S 1100023 (S 1100033 0))) ∧ (S 1100025 (S 27 (S 1100023 (S 1100033 0)))) = (S 1100025 (S 1100023 (S 1100033 0)))) ∧ sm_TC (S 61) (S 62) (S 27) (S 1100007) (S 1100023) (S 1100024) (40 * ((S 1092 0) - 1)) (S 1100023 (S 1100023 (S 1100033 0))) ∧ (-1 ≤ (S 1100025 (S 1100023 (S 1100033 0))) ∧ (S 1100025 (S 1100023 (S 1100033 0))) < (S 1100023 (S 1100033 0)) ∧ (0 ≤ (S 1100025 (S 1100023 (S 1100033 0))) → (S 26 (S 1100025 (S 1100023 (S 1100033 0)))) = 29 ∧ (S 1100007 (S 1100025 (S 1100023 (S 1100033 0)))) ≤ (S 1100007 (S 1100023 (S 1100033 0)))))) → (0 ≤ ((S 1092 0) - (1 : Int)) ∧ ((S 1092 0) - (1 : Int)) < 24) ∧ (sv_R (S 60 ((S 1092 0) - (1 : Int))) → (sv_R ((S 60 ((S 1092 0) - (1 : Int))) - (1 : Int))) ∧ (1 ≤ (S 1092 0) ∧ (S 1092 0) ≤ 24 ∧ 0 ≤ (S 57 ((S 1092 0) - 1)) ∧ (S 57 ((S 1092 0) - 1)) ≤ 600) ∧ (∀ g206 : sv_S, ((g206 57 ((S 1092 0) - 1)) = (S 57 ((S 1092 0) - 1)) + 1 ∧ (∀ k : Int, ¬ k = (S 1092 0) - 1 → (g206 57 k) = (S 57 k))) → (sm_PL (S 1100020) (S 51) (S 52) (S 46) (S 47) (S 1076 0) (S 1086 0) ∧ sm_FR (S 1100020) (S 52) (S 1100021) (S 1100022) (3000 - (S 1084 0)) (S 1085 0) ∧ sm_PV (S 1100020) (S 48) (S 49) (S 50) (S 44) (S 1076 0) (S 1007 0) ∧ sm_AL (S 1100020) (S 48) (S 49) (S 50) (S 44) (S 1076 0) (S 1100032 0) ∧ sm_SV (S 1100020) (S 48) (S 1100029) (S 32) (S 33) (S 1076 0) (S 1032 0) ∧ 0 ≤ (S 1076 0) ∧ (S 1076 0) ≤ 300 ∧ 0 ≤ (S 1084 0) ∧ (S 1084 0) ≤ 3000 ∧ 0 ≤ (S 1086 0) ∧ sm_SC (S 1100029) (S 44) (S 45) (S 43) (S 21) (S 1076 0) (S 1032 0) ∧ sm_PO (S 42) (S 1076 0) ∧ ((S 1075 0) = 0 → (S 1100032 0) = -1 ∧ sm_FO (S 44) (S 45) (S 1076 0)) ∧ 23 ≤ (S 1076 0) ∧ 31 ≤ (S 1007 0) ∧ (S 1007 0) ≤ 400 ∧ sm_LN (S 4) 400 (S 1007 0) ∧ (S 1008 0) ≤ (S 1007 0) ∧ ((S 1075 0) = 1 → (S 1075 0) = 1) ∧ 0 ≤ (S 1092 0) ∧ (S 1092 0) ≤ 24 ∧ (S 1007 0) ≤ (S 1007 0) ∧ (¬ (S 1075 0) = 0 → sm_LX (S 58) (S 63) (S 64) (S 1092 0) (S 1076 0)) ∧ ((S 1075 0) = 0 → (S 1073 0) = 1 → 1 ≤ (S 1092 0) ∧ (S 1092 0) ≤ 24 ∧ 0 ≤ (g206 57 ((S 1092 0) - 1)) ∧ (g206 57 ((S 1092 0) - 1)) < (S 1046 0) ∧ (S 29 (g206 57 ((S 1092 0) - 1))) = (S 53 ((S 1092 0) - 1)) ∧ 0 ≤ (S 53 ((S 1092 0) - 1)) ∧ (S 53 ((S 1092 0) - 1)) < (S 1032 0) ∧ (if ((S 1092 0) - 1) = ((S 1092 0) - (1 : Int)) then ((S 60 ((S 1092 0) - (1 : Int))) - (1 : Int)) else (S 60 ((S 1092 0) - 1))) = sm_dp (S 1100024) (S 1100023 (g206 57 ((S 1092 0) - 1))) ∧ sm_TC (S 61) (S 62) (S 27) (S 1100007) (S 1100023) (S 1100024) (40 * ((S 1092 0) - 1)) (S 1100023 (g206 57 ((S 1092 0) - 1))) ∧ sm_LK (S 1100029) (S 1076 0) (S 54 ((S 1092 0) - 1)) (S 53 ((S 1092 0) - 1)) ∧ sm_VO (S 44) (S 1076 0) (S 1007 0) ((S 55 ((S 1092 0) - 1))) ((S 56 ((S 1092 0) - 1))) ∧ sm_FW (S 44) (S 1076 0) (S 59 ((S 1092 0) - 1)) ∧ sm_FL (S 53) (S 54) (S 55) (S 56) (g206 57) (S 58) (S 59) (fun i' : Int => if i' = ((S 1092 0) - (1 : Int)) then ((S 60 ((S 1092 0) - (1 : Int))) - (1 : Int)) else (S 60) i') (S 61) (S 62) (S 63) (S 64) (S 27) (S 29) (S 1100007) (S 1100023) (S 1100024) (S 1100025) (S 26) (S 1100029) (S 44) (S 1046 0) (S 1032 0) (S 1076 0) (S 1007 0) (((S 1092 0) - 1)) ∧ (S 58 ((S 1092 0) - 1)) = (S 1100007 (g206 57 ((S 1092 0) - 1))) ∧ sm_SK (S 63) (S 64) (S 44) (S 1100007) (S 1100025) (S 1076 0) (S 1007 0) (400 * ((S 1092 0) - 1)) ((S 58 ((S 1092 0) - 1))) ((S 1100025 (g206 57 ((S 1092 0) - 1))))) ∧ ((S 1073 0) = 1 ∨ (S 1092 0) = 0 ∧ (S 1075 0) = 0 ∧ ((S 1073 0) = 2 ∨ (S 1073 0) = 3))))))))) ∧ ((p1 = (29 : Int)) → ((sm_CT (S 26) (S 27) (S 28) (S 29) (S 1100007) (S 1100023) (S 1100024) (S 1100025) (S 21) (S 1046 0) (S 1032 0) (S 1008 0) (S 1055 0) → 0 ≤ (S 1100033 0) → (S 1100033 0) < (S 1046 0) → ((S 26 (S 1100033 0)) = 29 → (0 ≤ ((S 1100007 (S 1100033 0)) - 1) ∧ (0 ≤ (S 1100023 (S 1100033 0)) → (S 1100007 (S 1100023 (S 1100033 0))) ≤ ((S 1100007 (S 1100033 0)) - 1)) ∧ (0 ≤ (S 1100025 (S 1100033 0)) → (S 1100007 (S 1100025 (S 1100033 0))) ≤ ((S 1100007 (S 1100033 0)) - 1))) ∧ (0 ≤ ((S 1100033 0) + 1) ∧ ((S 1100033 0) + 1) < (S 1046 0) ∧ (S 29 ((S 1100033 0) + 1)) = ((S 29 (S 1100033 0))) ∧ (S 1100007 ((S 1100033 0) + 1)) = ((S 1100007 (S 1100033 0))) ∧ (S 1100023 ((S 1100033 0) + 1)) = ((S 1100023 (S 1100033 0))) ∧ (S 1100025 ((S 1100033 0) + 1)) = (S 1100033 0)))) → (((S 1100034 0) = (S 1100025 (S 1100033 0)) → (S 58 ((S 1092 0) - 1)) = (S 1100007 (S 1100033 0)) → (0 ≤ (S 1100025 (S 1100033 0)) → (S 1100007 (S 1100025 (S 1100033 0))) ≤ (S 1100007 (S 1100033 0)) - 1) → (0 ≤ (S 1100034 0) → (S 1100007 (S 1100034 0)) ≤ (S 58 ((S 1092 0) - 1)) - 1)) → ((sm_SK (S 63) (S 64) (S 44) (S 1100007) (S 1100025) (S 1076 0) (S 1007 0) (400 * ((S 1092 0) - 1)) ((S 58 ((S 1092 0) - 1))) ((S 1100034 0)) → sm_LS (S 26) (S 1100007) (S 1100025) (S 1046 0) → 0 ≤ (S 58 ((S 1092 0) - 1)) - 1 → (S 58 ((S 1092 0) - 1)) - 1 < (S 58 ((S 1092 0) - 1)) → (S 1100034 0) < (S 1046 0) → (S 1100034 0) = (S 1100025 (S 1100033 0)) → (S 58 ((S 1092 0) - 1)) = (S 1100007 (S 1100033 0)) → (0 ≤ (S 1100034 0) → (S 26 (S 1100034 0)) = 29) → (0 ≤ (S 1100025 (S 1100033 0)) → (S 1100007 (S 1100025 (S 1100033 0))) ≤ (S 1100007 (S 1100033 0)) - 1) → sm_VO (S 44) (S 1076 0) (S 1007 0) ((S 63 (400 * ((S 1092 0) - 1) + ((S 58 ((S 1092 0) - 1)) - 1)))) ((S 64 (400 * ((S 1092 0) - 1) + ((S 58 ((S 1092 0) - 1)) - 1))))) → (1 ≤ (S 1092 0) ∧ (S 1092 0) ≤ 24 ∧ 0 ≤ (S 58 ((S 1092 0) - 1)) ∧ (S 58 ((S 1092 0) - 1)) ≤ 400 ∧ 0 ≤ (1 : Int) ∧ (1 : Int) ≤ (S 58 ((S 1092 0) - 1))) ∧ (∀ g215 : sv_S, ((g215 58 ((S 1092 0) - 1)) = (S 58 ((S 1092 0) - 1)) - (1 : Int) ∧ (∀ k : Int, ¬ k = (S 1092 0) - 1 → (g215 58 k) = (S 58 k))) → (1 ≤ (S 1092 0) ∧ (S 1092 0) ≤ 24 ∧ 0 ≤ (g215 58 ((S 1092 0) - 1)) ∧ (g215 58 ((S 1092 0) - 1)) ≤ 400) ∧ (0 ≤ ((400 * ((S 1092 0) - 1) + (g215 58 ((S 1092 0) - 1)))) ∧ ((400 * ((S 1092 0) - 1) + (g215 58 ((S 1092 0) - 1)))) < 9600) ∧ (sv_R (S 1086 0) → (((¬ s3 = (7 : Int)) → (1 ≤ (S 1092 0) ∧ (S 1092 0) ≤ 24 ∧ 0 ≤ (g215 58 ((S 1092 0) - 1)) ∧ (g215 58 ((S 1092 0) - 1)) ≤ 400 ∧ (g215 58 ((S 1092 0) - 1)) < 400) ∧ (∀ g228 : sv_S, ((g228 58 ((S 1092 0) - 1)) = (g215 58 ((S 1092 0) - 1)) + 1 ∧ (g228 63 (400 * ((S 1092 0) - 1) + (g215 58 ((S 1092 0) - 1)))) = (8 : Int) ∧ (g228 64 (400 * ((S 1092 0) - 1) + (g215 58 ((S 1092 0) - 1)))) = (-1 : Int) ∧ (∀ k : Int, ¬ k = (S 1092 0) - 1 → (g228 58 k) = (g215 58 k)) ∧ (∀ k : Int, ¬ k = (400 * ((S 1092 0) - 1) + (g215 58 ((S 1092 0) - 1))) → (g228 63 k) = (S 63 k)) ∧ (∀ k : Int, ¬ k = (400 * ((S 1092 0) - 1) + (g215 58 ((S 1092 0) - 1))) → (g228 64 k) = (S 64 k))) → (1 ≤ (S 1092 0) ∧ (S 1092 0) ≤ 24 ∧ 0 ≤ (S 57 ((S 1092 0) - 1)) ∧ (S 57 ((S 1092 0) - 1)) ≤ 600) ∧ (∀ g234 : sv_S, ((g234 57 ((S 1092 0) - 1)) = (S 57 ((S 1092 0) - 1)) + 1 ∧ (∀ k : Int, ¬ k = (S 1092 0) - 1 → (g234 57 k) = (S 57 k))) → (sm_PL (S 1100020) (S 51) (S 52) (S 46) (S 47) (S 1076 0) (S 1086 0) ∧ sm_FR (S 1100020) (S 52) (S 1100021) (S 1100022) (3000 - (S 1084 0)) (S 1085 0) ∧ sm_PV (S 1100020) (S 48) (S 49) (S 50) (S 44) (S 1076 0) (S 1007 0) ∧ sm_AL (S 1100020) (S 48) (S 49) (S 50) (S 44) (S 1076 0) (S 1100032 0) ∧ sm_SV (S 1100020) (S 48) (S 1100029) (S 32) (S 33) (S 1076 0) (S 1032 0) ∧ 0 ≤ (S 1076 0) ∧ (S 1076 0) ≤ 300 ∧ 0 ≤ (S 1084 0) ∧ (S 1084 0) ≤ 3000 ∧ 0 ≤ (S 1086 0) ∧ sm_SC (S 1100029) (S 44) (S 45) (S 43) (S 21) (S 1076 0) (S 1032 0) ∧ sm_PO (S 42) (S 1076 0) ∧ ((S 1075 0) = 0 → (S 1100032 0) = -1 ∧ sm_FO (S 44) (S 45) (S 1076 0)) ∧ 23 ≤ (S 1076 0) ∧ 31 ≤ (S 1007 0) ∧ (S 1007 0) ≤ 400 ∧ sm_LN (S 4) 400 (S 1007 0) ∧ (S 1008 0) ≤ (S 1007 0) ∧ ((S 1075 0) = 1 → (S 1075 0) = 1) ∧ 0 ≤ (S 1092 0) ∧ (S 1092 0) ≤ 24 ∧ (S 1007 0) ≤ (S 1007 0) ∧ (¬ (S 1075 0) = 0 → sm_LX (g228 58) (g228 63) (g228 64) (S 1092 0) (S 1076 0)) ∧ ((S 1075 0) = 0 → (S 1073 0) = 1 → 1 ≤ (S 1092 0) ∧ (S 1092 0) ≤ 24 ∧ 0 ≤ (g234 57 ((S 1092 0) - 1)) ∧ (g234 57 ((S 1092 0) - 1)) < (S 1046 0) ∧ (S 29 (g234 57 ((S 1092 0) - 1))) = (S 53 ((S 1092 0) - 1)) ∧ 0 ≤ (S 53 ((S 1092 0) - 1)) ∧ (S 53 ((S 1092 0) - 1)) < (S 1032 0) ∧ (S 60 ((S 1092 0) - 1)) = sm_dp (S 1100024) (S 1100023 (g234 57 ((S 1092 0) - 1))) ∧ sm_TC (S 61) (S 62) (S 27) (S 1100007) (S 1100023) (S 1100024) (40 * ((S 1092 0) - 1)) (S 1100023 (g234 57 ((S 1092 0) - 1))) ∧ sm_LK (S 1100029) (S 1076 0) (S 54 ((S 1092 0) - 1)) (S 53 ((S 1092 0) - 1)) ∧ sm_VO (S 44) (S 1076 0) (S 1007 0) ((S 55 ((S 1092 0) - 1))) ((S 56 ((S 1092 0) - 1))) ∧ sm_FW (S 44) (S 1076 0) (S 59 ((S 1092 0) - 1)) ∧ sm_FL (S 53) (S 54) (S 55) (S 56) (g234 57) (g228 58) (S 59) (S 60) (S 61) (S 62) (g228 63) (g228 64) (S 27) (S 29) (S 1100007) (S 1100023) (S 1100024) (S 1100025) (S 26) (S 1100029) (S 44) (S 1046 0) (S 1032 0) (S 1076 0) (S 1007 0) (((S 1092 0) - 1)) ∧ (g228 58 ((S 1092 0) - 1)) = (S 1100007 (g234 57 ((S 1092 0) - 1))) ∧ sm_SK (g228 63) (g228 64) (S 44) (S 1100007) (S 1100025) (S 1076 0) (S 1007 0) (400 * ((S 1092 0) - 1)) ((g228 58 ((S 1092 0) - 1))) ((S 1100025 (g234 57 ((S 1092 0) - 1))))) ∧ ((S 1073 0) = 1 ∨ (S 1092 0) = 0 ∧ (S 1075 0) = 0 ∧ ((S 1073 0) = 2 ∨ (S 1073 0) = 3)))))) ∧ ((¬ (¬ s3 = (7 : Int))) → (1 ≤ (S 1092 0) ∧ (S 1092 0) ≤ 24 ∧ 0 ≤ (g215 58 ((S 1092 0) - 1)) ∧ (g215 58 ((S 1092 0) - 1)) ≤ 400 ∧ (g215 58 ((S 1092 0) - 1)) < 400) ∧ (∀ g240 : sv_S, ((g240 58 ((S 1092 0) - 1)) = (g215 58 ((S 1092 0) - 1)) + 1 ∧ (g240 63 (400 * ((S 1092 0) - 1) + (g215 58 ((S 1092 0) - 1)))) = (8 : Int) ∧ (g240 64 (400 * ((S 1092 0) - 1) + (g215 58 ((S 1092 0) - 1)))) = s5 ∧ (∀ k : Int, ¬ k = (S 1092 0) - 1 → (g240 58 k) = (g215 58 k)) ∧ (∀ k : Int, ¬ k = (400 * ((S 1092 0) - 1) + (g215 58 ((S 1092 0) - 1))) → (g240 63 k) = (S 63 k)) ∧ (∀ k : Int, ¬ k = (400 * ((S 1092 0) - 1) + (g215 58 ((S 1092 0) - 1))) → (g240 64 k) = (S 64 k))) → (1 ≤ (S 1092 0) ∧ (S 1092 0) ≤ 24 ∧ 0 ≤ (S 57 ((S 1092 0) - 1)) ∧ (S 57 ((S 1092 0) - 1)) ≤ 600) ∧ (∀ g246 : sv_S, ((g246 57 ((S 1092 0) - 1)) = (S 57 ((S 1092 0) - 1)) + 1 ∧ (∀ k : Int, ¬ k = (S 1092 0) - 1 → (g246 57 k) = (S 57 k))) → (sm_PL (S 1100020) (S 51) (S 52) (S 46) (S 47) (S 1076 0) (S 1086 0) ∧ sm_FR (S 1100020) (S 52) (S 1100021) (S 1100022) (3000 - (S 1084 0)) (S 1085 0) ∧ sm_PV (S 1100020) (S 48) (S 49) (S 50) (S 44) (S 1076 0) (S 1007 0) ∧ sm_AL (S 1100020) (S 48) (S 49) (S 50) (S 44) (S 1076 0) (S 1100032 0) ∧ sm_SV (S 1100020) (S 48) (S 1100029) (S 32) (S 33) (S 1076 0) (S 1032 0) ∧ 0 ≤ (S 1076 0) ∧ (S 1076 0) ≤ 300 ∧ 0 ≤ (S 1084 0) ∧ (S 1084 0) ≤ 3000 ∧ 0 ≤ (S 1086 0) ∧ sm_SC (S 1100029) (S 44) (S 45) (S 43) (S 21) (S 1076 0) (S 1032 0) ∧ sm_PO (S 42) (S 1076 0) ∧ ((S 1075 0) = 0 → (S 1100032 0) = -1 ∧ sm_FO (S 44) (S 45) (S 1076 0)) ∧ 23 ≤ (S 1076 0) ∧ 31 ≤ (S 1007 0) ∧ (S 1007 0) ≤ 400 ∧ sm_LN (S 4) 400 (S 1007 0) ∧ (S 1008 0) ≤ (S 1007 0) ∧ ((S 1075 0) = 1 → (S 1075 0) = 1) ∧ 0 ≤ (S 1092 0) ∧ (S 1092 0) ≤ 24 ∧ (S 1007 0) ≤ (S 1007 0) ∧ (¬ (S 1075 0) = 0 → sm_LX (g240 58) (g240 63) (g240 64) (S 1092 0) (S 1076 0)) ∧ ((S 1075 0) = 0 → (S 1073 0) = 1 → 1 ≤ (S 1092 0) ∧ (S 1092 0) ≤ 24 ∧ 0 ≤ (g246 57 ((S 1092 0) - 1)) ∧ (g246 57 ((S 1092 0) - 1)) < (S 1046 0) ∧ (S 29 (g246 57 ((S 1092 0) - 1))) = (S 53 ((S 1092 0) - 1)) ∧ 0 ≤ (S 53 ((S 1092 0) - 1)) ∧ (S 53 ((S 1092 0) - 1)) < (S 1032 0) ∧ (S 60 ((S 1092 0) - 1)) = sm_dp (S 1100024) (S 1100023 (g246 57 ((S 1092 0) - 1))) ∧ sm_TC (S 61) (S 62) (S 27) (S 1100007) (S 1100023) (S 1100024) (40 * ((S 1092 0) - 1)) (S 1100023 (g246 57 ((S 1092 0) - 1))) ∧ sm_LK (S 1100029) (S 1076 0) (S 54 ((S 1092 0) - 1)) (S 53 ((S 1092 0) - 1)) ∧ sm_VO (S 44) (S 1076 0) (S 1007 0) ((S 55 ((S 1092 0) - 1))) ((S 56 ((S 1092 0) - 1))) ∧ sm_FW (S 44) (S 1076 0) (S 59 ((S 1092 0) - 1)) ∧ sm_FL (S 53) (S 54) (S 55) (S 56) (g246 57) (g240 58) (S 59) (S 60) (S 61) (S 62) (g240 63) (g240 64) (S 27) (S 29) (S 1100007) (S 1100023) (S 1100024) (S 1100025) (S 26) (S 1100029) (S 44) (S 1046 0) (S 1032 0) (S 1076 0) (S 1007 0) (((S 1092 0) - 1)) ∧ (g240 58 ((S 1092 0) - 1)) = (S 1100007 (g246 57 ((S 1092 0) - 1))) ∧ sm_SK (g240 63) (g240 64) (S 44) (S 1100007) (S 1100025) (S 1076 0) (S 1007 0) (400 * ((S 1092 0) - 1)) ((g240 58 ((S 1092 0) - 1))) ((S 1100025 (g246 57 ((S 1092 0) - 1))))) ∧ ((S 1073 0) = 1 ∨ (S 1092 0) = 0 ∧ (S 1075 0) = 0 ∧ ((S 1073 0) = 2 ∨ (S 1073 0) = 3)))))))))))))))) ∧ (((p1 = (21 : Int)) → ((p1 = 21 ∨ p1 = 27 ∨ p1 = 28) ∨ (0 : Int) = (S 64 ((400 * ((S 1092 0) - 1) + (S 58 ((S 1092 0) - 1))) - 1 - 0)))) ∧ ((¬ (p1 = (21 : Int))) → (((p1 = (27 : Int)) → ((p1 = 21 ∨ p1 = 27 ∨ p1 = 28) ∨ (0 : Int) = (S 64 ((400 * ((S 1092 0) - 1) + (S 58 ((S 1092 0) - 1))) - 1 - 0)))) ∧ ((¬ (p1 = (27 : Int))) → (((¬ p1 = (28 : Int)) → (1 ≤ (S 1092 0) ∧ (S 1092 0) ≤ 24 ∧ 0 ≤ (S 58 ((S 1092 0) - 1)) ∧ (S 58 ((S 1092 0) - 1)) ≤ 400 ∧ 0 ≤ (0 : Int) ∧ (0 : Int) < (S 58 ((S 1092 0) - 1))) ∧ ((p1 = 21 ∨ p1 = 27 ∨ p1 = 28) ∨ ((S 64 ((400 * ((S 1092 0) - 1) + (S 58 ((S 1092 0) - 1))) - 1 - (0 : Int)))) = (S 64 ((400 * ((S 1092 0) - 1) + (S 58 ((S 1092 0) - 1))) - 1 - 0)))) ∧ ((¬ (¬ p1 = (28 : Int))) → ((p1 = 21 ∨ p1 = 27 ∨ p1 = 28) ∨ (0 : Int) = (S 64 ((400 * ((S 1092 0) - 1) + (S 58 ((S 1092 0) - 1))) - 1 - 0))))))))))) ∧ ((sm_CT (S 26) (S 27) (S 28) (S 29) (S 1100007) (S 1100023) (S 1100024) (S 1100025) (S 21) (S 1046 0) (S 1032 0) (S 1008 0) (S 1055 0) → 0 ≤ (S 1100033 0) → (S 1100033 0) < (S 1046 0) → (0 ≤ (S 1100025 (S 1100033 0)) → (S 26 (S 1100025 (S 1100033 0))) = 29 ∧ (S 1100007 (S 1100025 (S 1100033 0))) ≤ (S 1100007 (S 1100033 0))) ∧ (0 ≤ (S 1100007 (S 1100033 0)) ∧ (S 1100007 (S 1100033 0)) ≤ 396 ∧ -1 ≤ (S 1100023 (S 1100033 0)) ∧ (S 1100023 (S 1100033 0)) < (S 1100033 0) ∧ -1 ≤ (S 1100025 (S 1100033 0)) ∧ (S 1100025 (S 1100033 0)) < (S 1100033 0) ∧ 0 ≤ (S 26 (S 1100033 0)) ∧ (S 26 (S 1100033 0)) ≤ 30)) → (((S 1100034 0) = (S 1100025 (S 1100033 0)) → (S 58 ((S 1092 0) - 1)) = (S 1100007 (S 1100033 0)) → (0 ≤ (S 1100025 (S 1100033 0)) → (S 1100007 (S 1100025 (S 1100033 0))) ≤ (S 1100007 (S 1100033 0))) → (0 ≤ (S 1100034 0) → (S 1100007 (S 1100034 0)) ≤ (S 58 ((S 1092 0) - 1)))) → (((p1 = (21 : Int)) → ((p1 = 21 ∨ p1 = 27 ∨ p1 = 28) ∨ (0 : Int) = (S 63 ((400 * ((S 1092 0) - 1) + (S 58 ((S 1092 0) - 1))) - 1 - 0)))) ∧ ((¬ (p1 = (21 : Int))) → (((p1 = (27 : Int)) → ((p1 = 21 ∨ p1 = 27 ∨ p1 = 28) ∨ (0 : Int) = (S 63 ((400 * ((S 1092 0) - 1) + (S 58 ((S 1092 0) - 1))) - 1 - 0)))) ∧ ((¬ (p1 = (27 : Int))) → (((¬ p1 = (28 : Int)) → (1 ≤ (S 1092 0) ∧ (S 1092 0) ≤ 24 ∧ 0 ≤ (S 58 ((S 1092 0) - 1)) ∧ (S 58 ((S 1092 0) - 1)) ≤ 400 ∧ 0 ≤ (0 : Int) ∧ (0 : Int) < (S 58 ((S 1092 0) - 1))) ∧ ((p1 = 21 ∨ p1 = 27 ∨ p1 = 28) ∨ ((S 63 ((400 * ((S 1092 0) - 1) + (S 58 ((S 1092 0) - 1))) - 1 - (0 : Int)))) = (S 63 ((400 * ((S 1092 0) - 1) + (S 58 ((S 1092 0) - 1))) - 1 - 0)))) ∧ ((¬ (¬ p1 = (28 : Int))) → ((p1 = 21 ∨ p1 = 27 ∨ p1 = 28) ∨ (0 : Int) = (S 63 ((400 * ((S 1092 0) - 1) + (S 58 ((S 1092 0) - 1))) - 1 - 0)))))))))))))) := by
  intro p1
  intro p2
  intro S
  intro h1_
  intro h2_
  intro h3_
  rintro ⟨h4_, ⟨h5_, ⟨h6_, ⟨h7_, ⟨h8_, ⟨h9_, ⟨h10_, ⟨h11_, ⟨h12_, ⟨h13_, ⟨h14_, ⟨h15_, ⟨h16_, ⟨h17_, ⟨h18_, ⟨h19_, ⟨h20_, ⟨h21_, ⟨h22_, ⟨h23_, ⟨h24_, ⟨h25_, ⟨h26_, ⟨h27_, ⟨h28_, ⟨h29_, ⟨h30_, ⟨h31_, ⟨h32_, ⟨h33_, ⟨h34_, ⟨h35_, ⟨h36_, ⟨h37_, ⟨h38_, ⟨h39_, ⟨h40_, ⟨h41_, ⟨h42_, ⟨h43_, ⟨h44_, ⟨h45_, ⟨h46_, ⟨h47_, ⟨h48_, ⟨h49_, ⟨h50_, ⟨h51_, ⟨h52_, ⟨h53_, ⟨h54_, ⟨h55_, ⟨h56_, ⟨h57_, ⟨h58_, ⟨h59_, ⟨h60_, ⟨h61_, ⟨h62_, ⟨h63_, h64_⟩⟩⟩⟩⟩⟩⟩⟩⟩⟩⟩⟩⟩⟩⟩⟩⟩⟩⟩⟩⟩⟩⟩⟩⟩⟩⟩⟩⟩⟩⟩⟩⟩⟩⟩⟩⟩⟩⟩⟩⟩⟩⟩⟩⟩⟩⟩⟩⟩⟩⟩⟩⟩⟩⟩⟩⟩⟩⟩⟩
  intro h65_
  have h66_ := (h65_ h25_)
  have h67_ := (h66_ h38_)
  obtain ⟨h68_, ⟨h69_, ⟨h70_, ⟨h71_, ⟨h72_, ⟨h73_, ⟨h74_, ⟨h75_, h76_⟩⟩⟩⟩⟩⟩⟩⟩ := (h67_ h39_)
  intro h77_
  have h78_ := (h77_ h57_)
  have h79_ := (h78_ h56_)
  refine ⟨?_, ?_⟩
  · skip
    intro s3
    intro h80_
    intro h81_
    refine ⟨?_, ?_⟩
    · skip
      intro s5
      intro h82_
      intro h83_
      intro h84_
      refine ⟨?_, ?_⟩
      · skip
        intro h85_
        have h86_ := (h85_.resolve_left (la_stepOther_0 h60_))
        have h87_ := (h64_.resolve_left (la_stepOther_1 h86_))
        have h88_ := (h81_.resolve_left (la_stepOther_2 h86_))
        have h89_ := (h83_.resolve_left (la_stepOther_2 h86_))
        have h90_ := (h87_.resolve_left (la_stepOther_3 h86_))
        have h91_ := (h90_.resolve_left (la_stepOther_4 h86_))
        intro h92_
        have h93_ := (h92_ h25_)
        have h94_ := (h93_ h38_)
        have h95_ := (h94_ h39_)
        obtain ⟨h96_, ⟨h97_, ⟨h98_, ⟨h99_, ⟨⟨h100_, ⟨h101_, ⟨h102_, ⟨h103_, ⟨h104_, h105_⟩⟩⟩⟩⟩, ⟨h106_, ⟨h107_, ⟨h108_, ⟨h109_, ⟨h110_, h111_⟩⟩⟩⟩⟩⟩⟩⟩⟩⟩ := (h95_ (la_stepOther_5 h62_ h76_ h86_))
        have h112_ := (h55_ (la_stepOther_6 h57_ h96_))
        obtain ⟨h113_, h114_⟩ := (h68_ h96_)
        have h115_ := (h79_ (la_stepOther_7 h97_))
        have h116_ := (h115_ (la_stepOther_6 h57_ h96_))
        intro h117_
        have h118_ := (h117_ h52_)
        have h119_ := (h118_ h26_)
        have h120_ := (h119_ (la_stepOther_6 h57_ h96_))
        have h121_ := (h120_ h54_)
        have h122_ := (h121_ h112_)
        intro h123_
        have h124_ := (h123_ h25_)
        have h125_ := (h124_ h38_)
        have h126_ := (h125_ h39_)
        obtain ⟨h127_, ⟨h128_, ⟨h129_, h130_⟩⟩⟩ := (h126_ h96_)
        refine ⟨?_, ?_⟩
        · skip
          refine ⟨h4_, ?_⟩
          refine ⟨h5_, ?_⟩
          refine ⟨h6_, ?_⟩
          refine ⟨h7_, ?_⟩
          refine ⟨h8_, ?_⟩
          refine ⟨h9_, ?_⟩
          refine ⟨h10_, ?_⟩
          refine ⟨h11_, ?_⟩
          refine ⟨h12_, ?_⟩
          refine ⟨h13_, ?_⟩
          refine ⟨h14_, ?_⟩
          refine ⟨h15_, ?_⟩
          refine ⟨h16_, ?_⟩
          refine ⟨h17_, ?_⟩
          refine ⟨h18_, ?_⟩
          refine ⟨h19_, ?_⟩
          refine ⟨h20_, ?_⟩
          refine ⟨h21_, ?_⟩
          refine ⟨h22_, ?_⟩
          refine ⟨h23_, ?_⟩
          refine ⟨h24_, ?_⟩
          refine ⟨h25_, ?_⟩
          refine ⟨h26_, ?_⟩
          refine ⟨h27_, ?_⟩
          refine ⟨h28_, ?_⟩
          refine ⟨h29_, ?_⟩
          refine ⟨h30_, ?_⟩
          refine ⟨h31_, ?_⟩
          refine ⟨h32_, ?_⟩
          refine ⟨h33_, ?_⟩
          refine ⟨h34_, ?_⟩
          refine ⟨h35_, ?_⟩
          refine ⟨h36_, ?_⟩
          refine ⟨h37_, ?_⟩
          refine ⟨h38_, ?_⟩
          refine ⟨h39_, ?_⟩
          refine ⟨h40_, ?_⟩
          refine ⟨h41_, ?_⟩
          refine ⟨h42_, ?_⟩
          refine ⟨h43_, ?_⟩
          refine ⟨h44_, ?_⟩
          refine ⟨h45_, ?_⟩
          refine ⟨h46_, ?_⟩
          refine ⟨h47_, ?_⟩
          refine ⟨h48_, ?_⟩
          refine ⟨h49_, ?_⟩
          refine ⟨h50_, ?_⟩
          refine ⟨h51_, ?_⟩
          refine ⟨h52_, ?_⟩
          refine ⟨h53_, ?_⟩
          refine ⟨h54_, ?_⟩
          refine ⟨h55_, ?_⟩
          refine ⟨h56_, ?_⟩
          refine ⟨h57_, ?_⟩
          refine ⟨h58_, ?_⟩
          refine ⟨h59_, ?_⟩
          refine ⟨(la_stepOther_6 h57_ h96_), ?_⟩
          refine ⟨h91_, ?_⟩
          refine ⟨?_, ?_⟩
          · skip
            have e131_ : S 1100007 (S 1100034 0) = S 1100007 (S 1100025 (S 1100033 0)) := congrArg ((S 1100007)) h57_
            have e132_ : S 26 (S 1100034 0) = S 26 (S 1100025 (S 1100033 0)) := congrArg ((S 26)) h57_
            have e133_ : S 63 (400 * (S 1092 0 - 1) + S 58 (S 1092 0 - 1) - 1 - 0) = S 63 (400 * (S 1092 0 - 1) + S 58 (S 1092 0 - 1) - 1) := congrArg ((S 63)) la_stepOther_8
            have e134_ : S 64 (400 * (S 1092 0 - 1) + S 58 (S 1092 0 - 1) - 1 - 0) = S 64 (400 * (S 1092 0 - 1) + S 58 (S 1092 0 - 1) - 1) := congrArg ((S 64)) la_stepOther_8
            obtain ⟨h135_, ⟨h136_, h137_⟩⟩ := (h122_ (la_stepOther_9 h56_ h97_ h116_ e131_))
            exact (la_stepOther_9 h56_ h97_ h116_ e131_)
          refine ⟨h101_, ?_⟩
          refine ⟨h102_, ?_⟩
          refine ⟨(la_stepOther_10 h56_ h103_), ?_⟩
          refine ⟨h104_, ?_⟩
          refine ⟨(la_stepOther_11 h57_ h105_), ?_⟩
          refine ⟨(la_stepOther_6 h63_ h106_), ?_⟩
          refine ⟨(la_stepOther_12 h63_ h107_), ?_⟩
          refine ⟨?_, ?_⟩
          · skip
            have e138_ : S 1100007 (S 1100034 0) = S 1100007 (S 1100025 (S 1100033 0)) := congrArg ((S 1100007)) h57_
            have e139_ : S 26 (S 1100034 0) = S 26 (S 1100025 (S 1100033 0)) := congrArg ((S 26)) h57_
            have e140_ : S 29 p2 = S 29 (S 27 (S 1100033 0)) := congrArg ((S 29)) h63_
            have e141_ : S 63 (400 * (S 1092 0 - 1) + S 58 (S 1092 0 - 1) - 1 - 0) = S 63 (400 * (S 1092 0 - 1) + S 58 (S 1092 0 - 1) - 1) := congrArg ((S 63)) la_stepOther_8
            have e142_ : S 64 (400 * (S 1092 0 - 1) + S 58 (S 1092 0 - 1) - 1 - 0) = S 64 (400 * (S 1092 0 - 1) + S 58 (S 1092 0 - 1) - 1) := congrArg ((S 64)) la_stepOther_8
            obtain ⟨h143_, ⟨h144_, h145_⟩⟩ := (h122_ (la_stepOther_9 h56_ h97_ h116_ e138_))
            exact (la_stepOther_13 h108_ e140_)
          refine ⟨?_, ?_⟩
          · skip
            have e146_ : S 1100007 (S 1100034 0) = S 1100007 (S 1100025 (S 1100033 0)) := congrArg ((S 1100007)) h57_
            have e147_ : S 1100007 p2 = S 1100007 (S 27 (S 1100033 0)) := congrArg ((S 1100007)) h63_
            have e148_ : S 26 (S 1100034 0) = S 26 (S 1100025 (S 1100033 0)) := congrArg ((S 26)) h57_
            have e149_ : S 63 (400 * (S 1092 0 - 1) + S 58 (S 1092 0 - 1) - 1 - 0) = S 63 (400 * (S 1092 0 - 1) + S 58 (S 1092 0 - 1) - 1) := congrArg ((S 63)) la_stepOther_8
            have e150_ : S 64 (400 * (S 1092 0 - 1) + S 58 (S 1092 0 - 1) - 1 - 0) = S 64 (400 * (S 1092 0 - 1) + S 58 (S 1092 0 - 1) - 1) := congrArg ((S 64)) la_stepOther_8
            obtain ⟨h151_, ⟨h152_, h153_⟩⟩ := (h122_ (la_stepOther_9 h56_ h97_ h116_ e146_))
            exact (la_stepOther_14 h56_ h109_ e147_)
          refine ⟨?_, ?_⟩
          · skip
            have e154_ : S 1100007 (S 1100034 0) = S 1100007 (S 1100025 (S 1100033 0)) := congrArg ((S 1100007)) h57_
            have e155_ : S 1100023 p2 = S 1100023 (S 27 (S 1100033 0)) := congrArg ((S 1100023)) h63_
            have e156_ : S 26 (S 1100034 0) = S 26 (S 1100025 (S 1100033 0)) := congrArg ((S 26)) h57_
            have e157_ : S 63 (400 * (S 1092 0 - 1) + S 58 (S 1092 0 - 1) - 1 - 0) = S 63 (400 * (S 1092 0 - 1) + S 58 (S 1092 0 - 1) - 1) := congrArg ((S 63)) la_stepOther_8
            have e158_ : S 64 (400 * (S 1092 0 - 1) + S 58 (S 1092 0 - 1) - 1 - 0) = S 64 (400 * (S 1092 0 - 1) + S 58 (S 1092 0 - 1) - 1) := congrArg ((S 64)) la_stepOther_8
            obtain ⟨h159_, ⟨h160_, h161_⟩⟩ := (h122_ (la_stepOther_9 h56_ h97_ h116_ e154_))
            exact (la_stepOther_13 h110_ e155_)
          have e162_ : S 1100007 (S 1100034 0) = S 1100007 (S 1100025 (S 1100033 0)) := congrArg ((S 1100007)) h57_
          have e163_ : S 1100025 (S 1100034 0) = S 1100025 (S 1100025 (S 1100033 0)) := congrArg ((S 1100025)) h57_
          have e164_ : S 1100025 p2 = S 1100025 (S 27 (S 1100033 0)) := congrArg ((S 1100025)) h63_
          have e165_ : S 26 (S 1100034 0) = S 26 (S 1100025 (S 1100033 0)) := congrArg ((S 26)) h57_
          have e166_ : S 63 (400 * (S 1092 0 - 1) + S 58 (S 1092 0 - 1) - 1 - 0) = S 63 (400 * (S 1092 0 - 1) + S 58 (S 1092 0 - 1) - 1) := congrArg ((S 63)) la_stepOther_8
          have e167_ : S 64 (400 * (S 1092 0 - 1) + S 58 (S 1092 0 - 1) - 1 - 0) = S 64 (400 * (S 1092 0 - 1) + S 58 (S 1092 0 - 1) - 1) := congrArg ((S 64)) la_stepOther_8
          obtain ⟨h168_, ⟨h169_, h170_⟩⟩ := (h122_ (la_stepOther_9 h56_ h97_ h116_ e162_))
          exact (la_stepOther_15 h111_ e163_ e164_)
        intro g12
        rintro ⟨h171_, ⟨h172_, ⟨h173_, ⟨h174_, ⟨h175_, ⟨h176_, ⟨h177_, ⟨h178_, ⟨h179_, ⟨h180_, ⟨h181_, ⟨h182_, ⟨h183_, ⟨h184_, ⟨h185_, ⟨h186_, ⟨h187_, ⟨h188_, ⟨h189_, ⟨h190_, ⟨h191_, ⟨h192_, ⟨h193_, ⟨h194_, h195_⟩⟩⟩⟩⟩⟩⟩⟩⟩⟩⟩⟩⟩⟩⟩⟩⟩⟩⟩⟩⟩⟩⟩⟩
        have h196_ := (h195_.resolve_right (la_stepOther_17 h5_))
        obtain ⟨h197_, h198_⟩ := (h183_ h4_)
        have h199_ := (h194_ h4_)
        obtain ⟨h200_, ⟨h201_, ⟨h202_, ⟨h203_, ⟨h204_, ⟨h205_, ⟨h206_, ⟨h207_, ⟨h208_, ⟨h209_, ⟨h210_, ⟨h211_, ⟨h212_, ⟨h213_, h214_⟩⟩⟩⟩⟩⟩⟩⟩⟩⟩⟩⟩⟩⟩ := (h199_ h5_)
        refine ⟨h7_, ?_⟩
        refine ⟨h8_, ?_⟩
        refine ⟨h9_, ?_⟩
        refine ⟨h10_, ?_⟩
        refine ⟨h11_, ?_⟩
        refine ⟨h12_, ?_⟩
        refine ⟨h13_, ?_⟩
        refine ⟨h14_, ?_⟩
        refine ⟨h15_, ?_⟩
        refine ⟨h16_, ?_⟩
        refine ⟨h17_, ?_⟩
        refine ⟨h18_, ?_⟩
        refine ⟨h183_, ?_⟩
        refine ⟨h21_, ?_⟩
        refine ⟨h22_, ?_⟩
        refine ⟨h23_, ?_⟩
        refine ⟨h24_, ?_⟩
        refine ⟨h33_, ?_⟩
        refine ⟨h189_, ?_⟩
        refine ⟨h190_, ?_⟩
        refine ⟨h37_, ?_⟩
        refine ⟨h192_, ?_⟩
        refine ⟨h193_, ?_⟩
        refine ⟨h194_, ?_⟩
        exact h195_
      refine ⟨?_, ?_⟩
      · skip
        intro h215_
        have h216_ := (h64_.resolve_left (la_stepOther_19 h215_))
        have h217_ := (h81_.resolve_left (la_stepOther_20 h215_))
        have h218_ := (h83_.resolve_left (la_stepOther_20 h215_))
        have h219_ := (h216_.resolve_left (la_stepOther_21 h215_))
        have h220_ := (h219_.resolve_left (la_stepOther_22 h215_))
        intro h221_
        have h222_ := (h221_ h25_)
        have h223_ := (h222_ h26_)
        have h224_ := (h223_ h52_)
        have h225_ := (h224_ h38_)
        have h226_ := (h225_ h39_)
        have h227_ := (h226_ (la_stepOther_23 h60_ h62_ h215_))
        have h228_ := (h227_ h57_)
        obtain ⟨h229_, ⟨h230_, ⟨h231_, ⟨h232_, ⟨h233_, ⟨h234_, h235_⟩⟩⟩⟩⟩⟩ := (h228_ h56_)
        refine ⟨(la_stepOther_24 h36_ h37_ h59_ h220_), ?_⟩
        intro g19
        rintro ⟨h236_, h237_⟩
        refine ⟨(la_stepOther_25 h31_ h36_ h37_ h38_ h49_ h230_), ?_⟩
        intro g25
        rintro ⟨h238_, h239_⟩
        refine ⟨h7_, ?_⟩
        refine ⟨h8_, ?_⟩
        refine ⟨h9_, ?_⟩
        refine ⟨h10_, ?_⟩
        refine ⟨h11_, ?_⟩
        refine ⟨h12_, ?_⟩
        refine ⟨h13_, ?_⟩
        refine ⟨h14_, ?_⟩
        refine ⟨h15_, ?_⟩
        refine ⟨h16_, ?_⟩
        refine ⟨h17_, ?_⟩
        refine ⟨h18_, ?_⟩
        refine ⟨?_, ?_⟩
        · skip
          intro h240_
          refine ⟨h19_, ?_⟩
          exact h20_
        refine ⟨h21_, ?_⟩
        refine ⟨h22_, ?_⟩
        refine ⟨h23_, ?_⟩
        refine ⟨h24_, ?_⟩
        refine ⟨h33_, ?_⟩
        refine ⟨(la_stepOther_26 h4_), ?_⟩
        refine ⟨(la_stepOther_27 h36_), ?_⟩
        refine ⟨h37_, ?_⟩
        refine ⟨la_stepOther_28, ?_⟩
        refine ⟨?_, ?_⟩
        · skip
          intro h241_
          have h242_ := (h237_ (S 1092 0 - 1))
          have h243_ := (h239_ (S 1092 0 - 1))
          have e244_ : S 1100007 (S 1100034 0) = S 1100007 (S 1100025 (S 1100033 0)) := congrArg ((S 1100007)) h57_
          have e245_ : S 26 (S 1100034 0) = S 26 (S 1100025 (S 1100033 0)) := congrArg ((S 26)) h57_
          exact ((la_stepOther_32 h4_ (la_stepOther_30 (la_stepOther_29 h4_) h241_))).elim
        refine ⟨?_, ?_⟩
        · skip
          intro h246_
          intro h247_
          refine ⟨h36_, ?_⟩
          refine ⟨h37_, ?_⟩
          refine ⟨(la_stepOther_33 h38_ h49_ h238_), ?_⟩
          refine ⟨(la_stepOther_34 h49_ h230_ h238_), ?_⟩
          refine ⟨?_, ?_⟩
          · skip
            have h248_ := (h237_ (S 1092 0 - 1))
            have h249_ := (h239_ (S 1092 0 - 1))
            have e250_ : S 1100007 (S 1100034 0) = S 1100007 (S 1100025 (S 1100033 0)) := congrArg ((S 1100007)) h57_
            have e251_ : S 26 (S 1100034 0) = S 26 (S 1100025 (S 1100033 0)) := congrArg ((S 26)) h57_
            have e252_ : S 29 (g25 57 (S 1092 0 - 1)) = S 29 (S 1100033 0 + 1) := congrArg ((S 29)) (la_stepOther_35 h49_ h238_)
            exact (la_stepOther_36 h40_ h231_ e252_)
          refine ⟨h41_, ?_⟩
          refine ⟨h42_, ?_⟩
          refine ⟨?_, ?_⟩
          · skip
            have h253_ := (h237_ (S 1092 0 - 1))
            have h254_ := (h239_ (S 1092 0 - 1))
            have e255_ : S 1100007 (S 1100034 0) = S 1100007 (S 1100025 (S 1100033 0)) := congrArg ((S 1100007)) h57_
            have e256_ : S 1100023 (g25 57 (S 1092 0 - 1)) = S 1100023 (S 1100033 0 + 1) := congrArg ((S 1100023)) (la_stepOther_35 h49_ h238_)
            have e257_ : S 26 (S 1100034 0) = S 26 (S 1100025 (S 1100033 0)) := congrArg ((S 26)) h57_
            have e258_ : sm_dp (S 1100024) (S 1100023 (g25 57 (S 1092 0 - 1))) = sm_dp (S 1100024) (S 1100023 (S 1100033 0)) := congrArg ((sm_dp (S 1100024))) (la_stepOther_13 h233_ e256_)
            exact (la_stepOther_37 h43_ e258_)
          refine ⟨?_, ?_⟩
          · skip
            have h259_ := (h237_ (S 1092 0 - 1))
            have h260_ := (h239_ (S 1092 0 - 1))
            have e261_ : S 1100007 (S 1100034 0) = S 1100007 (S 1100025 (S 1100033 0)) := congrArg ((S 1100007)) h57_
            have e262_ : S 1100023 (g25 57 (S 1092 0 - 1)) = S 1100023 (S 1100033 0 + 1) := congrArg ((S 1100023)) (la_stepOther_35 h49_ h238_)
            have e263_ : S 26 (S 1100034 0) = S 26 (S 1100025 (S 1100033 0)) := congrArg ((S 26)) h57_
            exact (sm_TC_t h44_ (la_stepOther_38 h233_ e262_))
          refine ⟨h45_, ?_⟩
          refine ⟨h46_, ?_⟩
          refine ⟨h47_, ?_⟩
          refine ⟨(sm_FL_F h48_ sm_F1_rf sm_F1_rf sm_F1_rf sm_F1_rf (sm_F1_le (sm_F1_ne h239_ (Int.le_refl _)) (Int.le_refl _)) (sm_F1_le (sm_F1_ne h237_ (Int.le_refl _)) (Int.le_refl _)) sm_F1_rf sm_F1_rf sm_F1_rf sm_F1_rf sm_F1_rf sm_F1_rf (Int.le_refl _) (Int.le_refl _) sm_F1_rf sm_F1_rf (sm_FL_dp h48_ h25_)), ?_⟩
          refine ⟨?_, ?_⟩
          · skip
            have h264_ := (h237_ (S 1092 0 - 1))
            have h265_ := (h239_ (S 1092 0 - 1))
            have e266_ : S 1100007 (S 1100034 0) = S 1100007 (S 1100025 (S 1100033 0)) := congrArg ((S 1100007)) h57_
            have e267_ : S 1100007 (g25 57 (S 1092 0 - 1)) = S 1100007 (S 1100033 0 + 1) := congrArg ((S 1100007)) (la_stepOther_35 h49_ h238_)
            have e268_ : S 26 (S 1100034 0) = S 26 (S 1100025 (S 1100033 0)) := congrArg ((S 26)) h57_
            exact (la_stepOther_39 h56_ h232_ h236_ e267_)
          have h269_ := (h237_ (S 1092 0 - 1))
          have h270_ := (h239_ (S 1092 0 - 1))
          have e271_ : S 1100007 (S 1100034 0) = S 1100007 (S 1100025 (S 1100033 0)) := congrArg ((S 1100007)) h57_
          have e272_ : S 1100025 (g25 57 (S 1092 0 - 1)) = S 1100025 (S 1100033 0 + 1) := congrArg ((S 1100025)) (la_stepOther_35 h49_ h238_)
          have e273_ : S 26 (S 1100034 0) = S 26 (S 1100025 (S 1100033 0)) := congrArg ((S 26)) h57_
          exact (sm_SK_q (sm_SK_pop h229_ (la_stepOther_42 h236_)) e272_ rfl rfl)
        exact (la_stepOther_43 h4_ h5_ h36_)
      refine ⟨?_, ?_⟩
      · skip
        intro h274_
        have h275_ := (h64_.resolve_left (la_stepOther_44 h274_))
        have h276_ := (h81_.resolve_left (la_stepOther_45 h274_))
        have h277_ := (h83_.resolve_left (la_stepOther_45 h274_))
        have h278_ := (h275_.resolve_left (la_stepOther_46 h274_))
        have h279_ := (h278_.resolve_left (la_stepOther_47 h274_))
        intro h280_
        have h281_ := (h280_ h25_)
        have h282_ := (h281_ h38_)
        have h283_ := (h282_ h39_)
        obtain ⟨⟨h284_, ⟨h285_, h286_⟩⟩, ⟨h287_, ⟨h288_, ⟨h289_, ⟨h290_, ⟨h291_, h292_⟩⟩⟩⟩⟩⟩ := (h283_ (la_stepOther_48 h62_ h274_))
        intro h293_
        have h294_ := (h293_ h57_)
        have h295_ := (h294_ h56_)
        have h296_ := (h295_ h286_)
        intro h297_
        have h298_ := (h297_ h52_)
        have h299_ := (h298_ h26_)
        have h300_ := (h299_ (la_stepOther_49 h279_))
        have h301_ := (h300_ la_stepOther_50)
        have h302_ := (h301_ h54_)
        have h303_ := (h302_ h57_)
        have h304_ := (h303_ h56_)
        have h305_ := (h304_ h55_)
        have h306_ := (h305_ h286_)
        refine ⟨(la_stepOther_51 h36_ h37_ h59_ h279_), ?_⟩
        intro g34
        rintro ⟨h307_, ⟨h308_, ⟨h309_, ⟨h310_, ⟨h311_, h312_⟩⟩⟩⟩⟩
        refine ⟨(la_stepOther_25 h31_ h36_ h37_ h38_ h49_ h288_), ?_⟩
        intro g40
        rintro ⟨h313_, h314_⟩
        refine ⟨h7_, ?_⟩
        refine ⟨h8_, ?_⟩
        refine ⟨h9_, ?_⟩
        refine ⟨h10_, ?_⟩
        refine ⟨h11_, ?_⟩
        refine ⟨h12_, ?_⟩
        refine ⟨h13_, ?_⟩
        refine ⟨h14_, ?_⟩
        refine ⟨h15_, ?_⟩
        refine ⟨h16_, ?_⟩
        refine ⟨h17_, ?_⟩
        refine ⟨h18_, ?_⟩
        refine ⟨?_, ?_⟩
        · skip
          intro h315_
          refine ⟨h19_, ?_⟩
          exact h20_
        refine ⟨h21_, ?_⟩
        refine ⟨h22_, ?_⟩
        refine ⟨h23_, ?_⟩
        refine ⟨h24_, ?_⟩
        refine ⟨h33_, ?_⟩
        refine ⟨(la_stepOther_26 h4_), ?_⟩
        refine ⟨(la_stepOther_27 h36_), ?_⟩
        refine ⟨h37_, ?_⟩
        refine ⟨la_stepOther_28, ?_⟩
        refine ⟨?_, ?_⟩
        · skip
          intro h316_
          have h317_ := (h310_ (S 1092 0 - 1))
          have h318_ := (h311_ (400 * (S 1092 0 - 1) + S 58 (S 1092 0 - 1)))
          have h319_ := ((h311_ (400 * (S 1092 0 - 1) + S 58 (S 1092 0 - 1) - 1 - 0)) la_stepOther_52)
          have h320_ := ((h311_ (400 * (S 1092 0 - 1) + (S 58 (S 1092 0 - 1) - 1))) la_stepOther_53)
          have h321_ := (h312_ (400 * (S 1092 0 - 1) + S 58 (S 1092 0 - 1)))
          have h322_ := ((h312_ (400 * (S 1092 0 - 1) + S 58 (S 1092 0 - 1) - 1 - 0)) la_stepOther_52)
          have h323_ := ((h312_ (400 * (S 1092 0 - 1) + (S 58 (S 1092 0 - 1) - 1))) la_stepOther_53)
          have h324_ := (h314_ (S 1092 0 - 1))
          have e325_ : S 1100007 (S 1100034 0) = S 1100007 (S 1100025 (S 1100033 0)) := congrArg ((S 1100007)) h57_
          have e326_ : S 26 (S 1100034 0) = S 26 (S 1100025 (S 1100033 0)) := congrArg ((S 26)) h57_
          have e327_ : S 63 (400 * (S 1092 0 - 1) + S 58 (S 1092 0 - 1) - 1 - 0) = S 63 (400 * (S 1092 0 - 1) + (S 58 (S 1092 0 - 1) - 1)) := congrArg ((S 63)) la_stepOther_55
          have e328_ : S 64 (400 * (S 1092 0 - 1) + S 58 (S 1092 0 - 1) - 1 - 0) = S 64 (400 * (S 1092 0 - 1) + (S 58 (S 1092 0 - 1) - 1)) := congrArg ((S 64)) la_stepOther_55
          have e329_ : g34 63 (400 * (S 1092 0 - 1) + S 58 (S 1092 0 - 1) - 1 - 0) = g34 63 (400 * (S 1092 0 - 1) + (S 58 (S 1092 0 - 1) - 1)) := congrArg ((g34 63)) la_stepOther_55
          have e330_ : g34 64 (400 * (S 1092 0 - 1) + S 58 (S 1092 0 - 1) - 1 - 0) = g34 64 (400 * (S 1092 0 - 1) + (S 58 (S 1092 0 - 1) - 1)) := congrArg ((g34 64)) la_stepOther_55
          exact ((la_stepOther_32 h4_ (la_stepOther_30 (la_stepOther_29 h4_) h316_))).elim
        refine ⟨?_, ?_⟩
        · skip
          intro h331_
          intro h332_
          refine ⟨h36_, ?_⟩
          refine ⟨h37_, ?_⟩
          refine ⟨(la_stepOther_33 h38_ h49_ h313_), ?_⟩
          refine ⟨(la_stepOther_34 h49_ h288_ h313_), ?_⟩
          refine ⟨?_, ?_⟩
          · skip
            have h333_ := (h310_ (S 1092 0 - 1))
            have h334_ := (h311_ (400 * (S 1092 0 - 1) + S 58 (S 1092 0 - 1)))
            have h335_ := ((h311_ (400 * (S 1092 0 - 1) + S 58 (S 1092 0 - 1) - 1 - 0)) la_stepOther_52)
            have h336_ := ((h311_ (400 * (S 1092 0 - 1) + (S 58 (S 1092 0 - 1) - 1))) la_stepOther_53)
            have h337_ := (h312_ (400 * (S 1092 0 - 1) + S 58 (S 1092 0 - 1)))
            have h338_ := ((h312_ (400 * (S 1092 0 - 1) + S 58 (S 1092 0 - 1) - 1 - 0)) la_stepOther_52)
            have h339_ := ((h312_ (400 * (S 1092 0 - 1) + (S 58 (S 1092 0 - 1) - 1))) la_stepOther_53)
            have h340_ := (h314_ (S 1092 0 - 1))
            have e341_ : S 1100007 (S 1100034 0) = S 1100007 (S 1100025 (S 1100033 0)) := congrArg ((S 1100007)) h57_
            have e342_ : S 26 (S 1100034 0) = S 26 (S 1100025 (S 1100033 0)) := congrArg ((S 26)) h57_
            have e343_ : S 29 (g40 57 (S 1092 0 - 1)) = S 29 (S 1100033 0 + 1) := congrArg ((S 29)) (la_stepOther_35 h49_ h313_)
            have e344_ : S 63 (400 * (S 1092 0 - 1) + S 58 (S 1092 0 - 1) - 1 - 0) = S 63 (400 * (S 1092 0 - 1) + (S 58 (S 1092 0 - 1) - 1)) := congrArg ((S 63)) la_stepOther_55
            have e345_ : S 64 (400 * (S 1092 0 - 1) + S 58 (S 1092 0 - 1) - 1 - 0) = S 64 (400 * (S 1092 0 - 1) + (S 58 (S 1092 0 - 1) - 1)) := congrArg ((S 64)) la_stepOther_55
            have e346_ : g34 63 (400 * (S 1092 0 - 1) + S 58 (S 1092 0 - 1) - 1 - 0) = g34 63 (400 * (S 1092 0 - 1) + (S 58 (S 1092 0 - 1) - 1)) := congrArg ((g34 63)) la_stepOther_55
            have e347_ : g34 64 (400 * (S 1092 0 - 1) + S 58 (S 1092 0 - 1) - 1 - 0) = g34 64 (400 * (S 1092 0 - 1) + (S 58 (S 1092 0 - 1) - 1)) := congrArg ((g34 64)) la_stepOther_55
            exact (la_stepOther_36 h40_ h289_ e343_)
          refine ⟨h41_, ?_⟩
          refine ⟨h42_, ?_⟩
          refine ⟨?_, ?_⟩
          · skip
            have h348_ := (h310_ (S 1092 0 - 1))
            have h349_ := (h311_ (400 * (S 1092 0 - 1) + S 58 (S 1092 0 - 1)))
            have h350_ := ((h311_ (400 * (S 1092 0 - 1) + S 58 (S 1092 0 - 1) - 1 - 0)) la_stepOther_52)
            have h351_ := ((h311_ (400 * (S 1092 0 - 1) + (S 58 (S 1092 0 - 1) - 1))) la_stepOther_53)
            have h352_ := (h312_ (400 * (S 1092 0 - 1) + S 58 (S 1092 0 - 1)))
            have h353_ := ((h312_ (400 * (S 1092 0 - 1) + S 58 (S 1092 0 - 1) - 1 - 0)) la_stepOther_52)
            have h354_ := ((h312_ (400 * (S 1092 0 - 1) + (S 58 (S 1092 0 - 1) - 1))) la_stepOther_53)
            have h355_ := (h314_ (S 1092 0 - 1))
            have e356_ : S 1100007 (S 1100034 0) = S 1100007 (S 1100025 (S 1100033 0)) := congrArg ((S 1100007)) h57_
            have e357_ : S 1100023 (g40 57 (S 1092 0 - 1)) = S 1100023 (S 1100033 0 + 1) := congrArg ((S 1100023)) (la_stepOther_35 h49_ h313_)
            have e358_ : S 26 (S 1100034 0) = S 26 (S 1100025 (S 1100033 0)) := congrArg ((S 26)) h57_
            have e359_ : S 63 (400 * (S 1092 0 - 1) + S 58 (S 1092 0 - 1) - 1 - 0) = S 63 (400 * (S 1092 0 - 1) + (S 58 (S 1092 0 - 1) - 1)) := congrArg ((S 63)) la_stepOther_55
            have e360_ : S 64 (400 * (S 1092 0 - 1) + S 58 (S 1092 0 - 1) - 1 - 0) = S 64 (400 * (S 1092 0 - 1) + (S 58 (S 1092 0 - 1) - 1)) := congrArg ((S 64)) la_stepOther_55
            have e361_ : g34 63 (400 * (S 1092 0 - 1) + S 58 (S 1092 0 - 1) - 1 - 0) = g34 63 (400 * (S 1092 0 - 1) + (S 58 (S 1092 0 - 1) - 1)) := congrArg ((g34 63)) la_stepOther_55
            have e362_ : g34 64 (400 * (S 1092 0 - 1) + S 58 (S 1092 0 - 1) - 1 - 0) = g34 64 (400 * (S 1092 0 - 1) + (S 58 (S 1092 0 - 1) - 1)) := congrArg ((g34 64)) la_stepOther_55
            have e363_ : sm_dp (S 1100024) (S 1100023 (g40 57 (S 1092 0 - 1))) = sm_dp (S 1100024) (S 1100023 (S 1100033 0)) := congrArg ((sm_dp (S 1100024))) (la_stepOther_13 h291_ e357_)
            exact (la_stepOther_37 h43_ e363_)
          refine ⟨?_, ?_⟩
          · skip
            have h364_ := (h310_ (S 1092 0 - 1))
            have h365_ := (h311_ (400 * (S 1092 0 - 1) + S 58 (S 1092 0 - 1)))
            have h366_ := ((h311_ (400 * (S 1092 0 - 1) + S 58 (S 1092 0 - 1) - 1 - 0)) la_stepOther_52)
            have h367_ := ((h311_ (400 * (S 1092 0 - 1) + (S 58 (S 1092 0 - 1) - 1))) la_stepOther_53)
            have h368_ := (h312_ (400 * (S 1092 0 - 1) + S 58 (S 1092 0 - 1)))
            have h369_ := ((h312_ (400 * (S 1092 0 - 1) + S 58 (S 1092 0 - 1) - 1 - 0)) la_stepOther_52)
            have h370_ := ((h312_ (400 * (S 1092 0 - 1) + (S 58 (S 1092 0 - 1) - 1))) la_stepOther_53)
            have h371_ := (h314_ (S 1092 0 - 1))
            have e372_ : S 1100007 (S 1100034 0) = S 1100007 (S 1100025 (S 1100033 0)) := congrArg ((S 1100007)) h57_
            have e373_ : S 1100023 (g40 57 (S 1092 0 - 1)) = S 1100023 (S 1100033 0 + 1) := congrArg ((S 1100023)) (la_stepOther_35 h49_ h313_)
            have e374_ : S 26 (S 1100034 0) = S 26 (S 1100025 (S 1100033 0)) := congrArg ((S 26)) h57_
            have e375_ : S 63 (400 * (S 1092 0 - 1) + S 58 (S 1092 0 - 1) - 1 - 0) = S 63 (400 * (S 1092 0 - 1) + (S 58 (S 1092 0 - 1) - 1)) := congrArg ((S 63)) la_stepOther_55
            have e376_ : S 64 (400 * (S 1092 0 - 1) + S 58 (S 1092 0 - 1) - 1 - 0) = S 64 (400 * (S 1092 0 - 1) + (S 58 (S 1092 0 - 1) - 1)) := congrArg ((S 64)) la_stepOther_55
            have e377_ : g34 63 (400 * (S 1092 0 - 1) + S 58 (S 1092 0 - 1) - 1 - 0) = g34 63 (400 * (S 1092 0 - 1) + (S 58 (S 1092 0 - 1) - 1)) := congrArg ((g34 63)) la_stepOther_55
            have e378_ : g34 64 (400 * (S 1092 0 - 1) + S 58 (S 1092 0 - 1) - 1 - 0) = g34 64 (400 * (S 1092 0 - 1) + (S 58 (S 1092 0 - 1) - 1)) := congrArg ((g34 64)) la_stepOther_55
            exact (sm_TC_t h44_ (la_stepOther_38 h291_ e373_))
          refine ⟨h45_, ?_⟩
          refine ⟨h46_, ?_⟩
          refine ⟨h47_, ?_⟩
          refine ⟨(sm_FL_F h48_ sm_F1_rf sm_F1_rf sm_F1_rf sm_F1_rf (sm_F1_le (sm_F1_ne h314_ (Int.le_refl _)) (Int.le_refl _)) (sm_F1_le (sm_F1_ne h310_ (Int.le_refl _)) (Int.le_refl _)) sm_F1_rf sm_F1_rf sm_F1_rf sm_F1_rf (sm_F1_le (sm_F1_ne h311_ (Int.le_refl _)) (la_stepOther_56 h279_)) (sm_F1_le (sm_F1_ne h312_ (Int.le_refl _)) (la_stepOther_56 h279_)) (Int.le_refl _) (Int.le_refl _) sm_F1_rf sm_F1_rf (sm_FL_dp h48_ h25_)), ?_⟩
          refine ⟨?_, ?_⟩
          · skip
            have h379_ := (h310_ (S 1092 0 - 1))
            have h380_ := (h311_ (400 * (S 1092 0 - 1) + S 58 (S 1092 0 - 1)))
            have h381_ := ((h311_ (400 * (S 1092 0 - 1) + S 58 (S 1092 0 - 1) - 1 - 0)) la_stepOther_52)
            have h382_ := ((h311_ (400 * (S 1092 0 - 1) + (S 58 (S 1092 0 - 1) - 1))) la_stepOther_53)
            have h383_ := (h312_ (400 * (S 1092 0 - 1) + S 58 (S 1092 0 - 1)))
            have h384_ := ((h312_ (400 * (S 1092 0 - 1) + S 58 (S 1092 0 - 1) - 1 - 0)) la_stepOther_52)
            have h385_ := ((h312_ (400 * (S 1092 0 - 1) + (S 58 (S 1092 0 - 1) - 1))) la_stepOther_53)
            have h386_ := (h314_ (S 1092 0 - 1))
            have e387_ : S 1100007 (S 1100034 0) = S 1100007 (S 1100025 (S 1100033 0)) := congrArg ((S 1100007)) h57_
            have e388_ : S 1100007 (g40 57 (S 1092 0 - 1)) = S 1100007 (S 1100033 0 + 1) := congrArg ((S 1100007)) (la_stepOther_35 h49_ h313_)
            have e389_ : S 26 (S 1100034 0) = S 26 (S 1100025 (S 1100033 0)) := congrArg ((S 26)) h57_
            have e390_ : S 63 (400 * (S 1092 0 - 1) + S 58 (S 1092 0 - 1) - 1 - 0) = S 63 (400 * (S 1092 0 - 1) + (S 58 (S 1092 0 - 1) - 1)) := congrArg ((S 63)) la_stepOther_55
            have e391_ : S 64 (400 * (S 1092 0 - 1) + S 58 (S 1092 0 - 1) - 1 - 0) = S 64 (400 * (S 1092 0 - 1) + (S 58 (S 1092 0 - 1) - 1)) := congrArg ((S 64)) la_stepOther_55
            have e392_ : g34 63 (400 * (S 1092 0 - 1) + S 58 (S 1092 0 - 1) - 1 - 0) = g34 63 (400 * (S 1092 0 - 1) + (S 58 (S 1092 0 - 1) - 1)) := congrArg ((g34 63)) la_stepOther_55
            have e393_ : g34 64 (400 * (S 1092 0 - 1) + S 58 (S 1092 0 - 1) - 1 - 0) = g34 64 (400 * (S 1092 0 - 1) + (S 58 (S 1092 0 - 1) - 1)) := congrArg ((g34 64)) la_stepOther_55
            exact (la_stepOther_57 h56_ h290_ h307_ e388_)
          have h394_ := (h310_ (S 1092 0 - 1))
          have h395_ := (h311_ (400 * (S 1092 0 - 1) + S 58 (S 1092 0 - 1)))
          have h396_ := ((h311_ (400 * (S 1092 0 - 1) + S 58 (S 1092 0 - 1) - 1 - 0)) la_stepOther_52)
          have h397_ := ((h311_ (400 * (S 1092 0 - 1) + (S 58 (S 1092 0 - 1) - 1))) la_stepOther_53)
          have h398_ := (h312_ (400 * (S 1092 0 - 1) + S 58 (S 1092 0 - 1)))
          have h399_ := ((h312_ (400 * (S 1092 0 - 1) + S 58 (S 1092 0 - 1) - 1 - 0)) la_stepOther_52)
          have h400_ := ((h312_ (400 * (S 1092 0 - 1) + (S 58 (S 1092 0 - 1) - 1))) la_stepOther_53)
          have h401_ := (h314_ (S 1092 0 - 1))
          have e402_ : S 1100007 (S 1100034 0) = S 1100007 (S 1100025 (S 1100033 0)) := congrArg ((S 1100007)) h57_
          have e403_ : S 1100025 (g40 57 (S 1092 0 - 1)) = S 1100025 (S 1100033 0 + 1) := congrArg ((S 1100025)) (la_stepOther_35 h49_ h313_)
          have e404_ : S 26 (S 1100034 0) = S 26 (S 1100025 (S 1100033 0)) := congrArg ((S 26)) h57_
          have e405_ : S 63 (400 * (S 1092 0 - 1) + S 58 (S 1092 0 - 1) - 1 - 0) = S 63 (400 * (S 1092 0 - 1) + (S 58 (S 1092 0 - 1) - 1)) := congrArg ((S 63)) la_stepOther_55
          have e406_ : S 64 (400 * (S 1092 0 - 1) + S 58 (S 1092 0 - 1) - 1 - 0) = S 64 (400 * (S 1092 0 - 1) + (S 58 (S 1092 0 - 1) - 1)) := congrArg ((S 64)) la_stepOther_55
          have e407_ : g34 63 (400 * (S 1092 0 - 1) + S 58 (S 1092 0 - 1) - 1 - 0) = g34 63 (400 * (S 1092 0 - 1) + (S 58 (S 1092 0 - 1) - 1)) := congrArg ((g34 63)) la_stepOther_55
          have e408_ : g34 64 (400 * (S 1092 0 - 1) + S 58 (S 1092 0 - 1) - 1 - 0) = g34 64 (400 * (S 1092 0 - 1) + (S 58 (S 1092 0 - 1) - 1)) := congrArg ((g34 64)) la_stepOther_55
          exact (sm_SK_q (sm_SK_q (sm_SK_push (sm_SK_F h52_ (sm_F1_le (sm_F1_ne h311_ (Int.le_refl _)) (Int.le_refl _)) (sm_F1_le (sm_F1_ne h312_ (Int.le_refl _)) (Int.le_refl _)) (Int.le_refl _) (Int.le_refl _)) h26_ h54_ (la_stepOther_60 h55_ h56_ h57_ h68_ e402_) rfl (sm_VO_eq h306_ (la_stepOther_59 h276_ h308_ e405_) (la_stepOther_59 h277_ h309_ e406_)) rfl) rfl h307_ rfl) (la_stepOther_58 h57_ h292_ e403_) rfl rfl)
        exact (la_stepOther_43 h4_ h5_ h36_)
      refine ⟨?_, ?_⟩
      · skip
        intro h409_
        have h410_ := (h64_.resolve_left (la_stepOther_61 h409_))
        have h411_ := (h81_.resolve_left (la_stepOther_62 h409_))
        have h412_ := (h83_.resolve_left (la_stepOther_62 h409_))
        have h413_ := (h410_.resolve_left (la_stepOther_63 h409_))
        have h414_ := (h413_.resolve_left (la_stepOther_64 h409_))
        intro h415_
        have h416_ := (h415_ h25_)
        have h417_ := (h416_ h38_)
        have h418_ := (h417_ h39_)
        obtain ⟨⟨h419_, ⟨h420_, h421_⟩⟩, ⟨h422_, ⟨h423_, ⟨h424_, ⟨h425_, ⟨h426_, h427_⟩⟩⟩⟩⟩⟩ := (h418_ (la_stepOther_65 h62_ h409_))
        intro h428_
        have h429_ := (h428_ h57_)
        have h430_ := (h429_ h56_)
        have h431_ := (h430_ h421_)
        intro h432_
        have h433_ := (h432_ h52_)
        have h434_ := (h433_ h26_)
        have h435_ := (h434_ (la_stepOther_66 h56_ h419_))
        have h436_ := (h435_ la_stepOther_50)
        have h437_ := (h436_ h54_)
        have h438_ := (h437_ h57_)
        have h439_ := (h438_ h56_)
        have h440_ := (h439_ h55_)
        have h441_ := (h440_ h421_)
        intro h442_
        have h443_ := (h442_ h52_)
        have h444_ := (h443_ h26_)
        have h445_ := (h444_ (la_stepOther_67 h56_ h419_))
        have h446_ := (h445_ la_stepOther_68)
        have h447_ := (h446_ h54_)
        have h448_ := (h447_ h57_)
        have h449_ := (h448_ h56_)
        have h450_ := (h449_ h55_)
        have h451_ := (h450_ h421_)
        refine ⟨(la_stepOther_69 h36_ h37_ h56_ h59_ h419_), ?_⟩
        intro x50
        intro h452_
        intro x52
        intro h453_
        refine ⟨(la_stepOther_70 h36_ h37_ h56_ h59_ h419_), ?_⟩
        intro g55
        rintro ⟨h454_, ⟨h455_, ⟨h456_, ⟨h457_, ⟨h458_, h459_⟩⟩⟩⟩⟩
        refine ⟨(la_stepOther_71 h36_ h37_ h56_ h59_ h419_ h454_), ?_⟩
        intro g61
        rintro ⟨h460_, ⟨h461_, ⟨h462_, ⟨h463_, ⟨h464_, h465_⟩⟩⟩⟩⟩
        refine ⟨(la_stepOther_25 h31_ h36_ h37_ h38_ h49_ h423_), ?_⟩
        intro g67
        rintro ⟨h466_, h467_⟩
        refine ⟨h7_, ?_⟩
        refine ⟨h8_, ?_⟩
        refine ⟨h9_, ?_⟩
        refine ⟨h10_, ?_⟩
        refine ⟨h11_, ?_⟩
        refine ⟨h12_, ?_⟩
        refine ⟨h13_, ?_⟩
        refine ⟨h14_, ?_⟩
        refine ⟨h15_, ?_⟩
        refine ⟨h16_, ?_⟩
        refine ⟨h17_, ?_⟩
        refine ⟨h18_, ?_⟩
        refine ⟨?_, ?_⟩
        · skip
          intro h468_
          refine ⟨h19_, ?_⟩
          exact h20_
        refine ⟨h21_, ?_⟩
        refine ⟨h22_, ?_⟩
        refine ⟨h23_, ?_⟩
        refine ⟨h24_, ?_⟩
        refine ⟨h33_, ?_⟩
        refine ⟨(la_stepOther_26 h4_), ?_⟩
        refine ⟨(la_stepOther_27 h36_), ?_⟩
        refine ⟨h37_, ?_⟩
        refine ⟨la_stepOther_28, ?_⟩
        refine ⟨?_, ?_⟩
        · skip
          intro h469_
          have h470_ := (h457_ (S 1092 0 - 1))
          have h471_ := ((h458_ (400 * (S 1092 0 - 1) + S 58 (S 1092 0 - 1) - 1 - 0)) la_stepOther_52)
          have h472_ := ((h458_ (400 * (S 1092 0 - 1) + (S 58 (S 1092 0 - 1) - 1))) la_stepOther_53)
          have h473_ := ((h458_ (400 * (S 1092 0 - 1) + S 58 (S 1092 0 - 1) - 1 - 1)) la_stepOther_72)
          have h474_ := ((h458_ (400 * (S 1092 0 - 1) + (S 58 (S 1092 0 - 1) - 2))) la_stepOther_73)
          have h475_ := (h458_ (400 * (S 1092 0 - 1) + S 58 (S 1092 0 - 1)))
          have h476_ := ((h459_ (400 * (S 1092 0 - 1) + S 58 (S 1092 0 - 1) - 1 - 0)) la_stepOther_52)
          have h477_ := ((h459_ (400 * (S 1092 0 - 1) + (S 58 (S 1092 0 - 1) - 1))) la_stepOther_53)
          have h478_ := ((h459_ (400 * (S 1092 0 - 1) + S 58 (S 1092 0 - 1) - 1 - 1)) la_stepOther_72)
          have h479_ := ((h459_ (400 * (S 1092 0 - 1) + (S 58 (S 1092 0 - 1) - 2))) la_stepOther_73)
          have h480_ := (h459_ (400 * (S 1092 0 - 1) + S 58 (S 1092 0 - 1)))
          have h481_ := (h463_ (S 1092 0 - 1))
          have h482_ := ((h464_ (400 * (S 1092 0 - 1) + S 58 (S 1092 0 - 1))) (la_stepOther_74 h454_))
          have h483_ := (h464_ (400 * (S 1092 0 - 1) + g55 58 (S 1092 0 - 1)))
          have h484_ := ((h465_ (400 * (S 1092 0 - 1) + S 58 (S 1092 0 - 1))) (la_stepOther_74 h454_))
          have h485_ := (h465_ (400 * (S 1092 0 - 1) + g55 58 (S 1092 0 - 1)))
          have h486_ := (h467_ (S 1092 0 - 1))
          have h487_ := ((h464_ (400 * (S 1092 0 - 1) + (S 58 (S 1092 0 - 1) - 1))) (la_stepOther_75 h454_))
          have h488_ := ((h464_ (400 * (S 1092 0 - 1) + S 58 (S 1092 0 - 1) - 1 - 0)) (la_stepOther_76 h454_))
          have h489_ := ((h464_ (400 * (S 1092 0 - 1) + S 58 (S 1092 0 - 1) - 1 - 1)) (la_stepOther_77 h454_))
          have h490_ := ((h464_ (400 * (S 1092 0 - 1) + (S 58 (S 1092 0 - 1) - 2))) (la_stepOther_78 h454_))
          have h491_ := ((h465_ (400 * (S 1092 0 - 1) + S 58 (S 1092 0 - 1) - 1 - 0)) (la_stepOther_76 h454_))
          have h492_ := ((h465_ (400 * (S 1092 0 - 1) + (S 58 (S 1092 0 - 1) - 1))) (la_stepOther_75 h454_))
          have h493_ := ((h465_ (400 * (S 1092 0 - 1) + S 58 (S 1092 0 - 1) - 1 - 1)) (la_stepOther_77 h454_))
          have h494_ := ((h465_ (400 * (S 1092 0 - 1) + (S 58 (S 1092 0 - 1) - 2))) (la_stepOther_78 h454_))
          have e495_ : S 1100007 (S 1100034 0) = S 1100007 (S 1100025 (S 1100033 0)) := congrArg ((S 1100007)) h57_
          have e496_ : S 26 (S 1100034 0) = S 26 (S 1100025 (S 1100033 0)) := congrArg ((S 26)) h57_
          have e497_ : S 63 (400 * (S 1092 0 - 1) + S 58 (S 1092 0 - 1) - 1 - 0) = S 63 (400 * (S 1092 0 - 1) + (S 58 (S 1092 0 - 1) - 1)) := congrArg ((S 63)) la_stepOther_55
          have e498_ : S 63 (400 * (S 1092 0 - 1) + S 58 (S 1092 0 - 1) - 1 - 1) = S 63 (400 * (S 1092 0 - 1) + (S 58 (S 1092 0 - 1) - 2)) := congrArg ((S 63)) la_stepOther_79
          have e499_ : S 64 (400 * (S 1092 0 - 1) + S 58 (S 1092 0 - 1) - 1 - 0) = S 64 (400 * (S 1092 0 - 1) + (S 58 (S 1092 0 - 1) - 1)) := congrArg ((S 64)) la_stepOther_55
          have e500_ : S 64 (400 * (S 1092 0 - 1) + S 58 (S 1092 0 - 1) - 1 - 1) = S 64 (400 * (S 1092 0 - 1) + (S 58 (S 1092 0 - 1) - 2)) := congrArg ((S 64)) la_stepOther_79
          have e501_ : g55 63 (400 * (S 1092 0 - 1) + S 58 (S 1092 0 - 1) - 1 - 0) = g55 63 (400 * (S 1092 0 - 1) + (S 58 (S 1092 0 - 1) - 1)) := congrArg ((g55 63)) la_stepOther_55
          have e502_ : g55 63 (400 * (S 1092 0 - 1) + S 58 (S 1092 0 - 1) - 1 - 1) = g55 63 (400 * (S 1092 0 - 1) + (S 58 (S 1092 0 - 1) - 2)) := congrArg ((g55 63)) la_stepOther_79
          have e503_ : g55 64 (400 * (S 1092 0 - 1) + S 58 (S 1092 0 - 1) - 1 - 0) = g55 64 (400 * (S 1092 0 - 1) + (S 58 (S 1092 0 - 1) - 1)) := congrArg ((g55 64)) la_stepOther_55
          have e504_ : g55 64 (400 * (S 1092 0 - 1) + S 58 (S 1092 0 - 1) - 1 - 1) = g55 64 (400 * (S 1092 0 - 1) + (S 58 (S 1092 0 - 1) - 2)) := congrArg ((g55 64)) la_stepOther_79
          have e505_ : g61 63 (400 * (S 1092 0 - 1) + S 58 (S 1092 0 - 1) - 1 - 0) = g61 63 (400 * (S 1092 0 - 1) + (S 58 (S 1092 0 - 1) - 1)) := congrArg ((g61 63)) la_stepOther_55
          have e506_ : g61 63 (400 * (S 1092 0 - 1) + S 58 (S 1092 0 - 1) - 1 - 1) = g61 63 (400 * (S 1092 0 - 1) + (S 58 (S 1092 0 - 1) - 2)) := congrArg ((g61 63)) la_stepOther_79
          have e507_ : g61 64 (400 * (S 1092 0 - 1) + S 58 (S 1092 0 - 1) - 1 - 0) = g61 64 (400 * (S 1092 0 - 1) + (S 58 (S 1092 0 - 1) - 1)) := congrArg ((g61 64)) la_stepOther_55
          have e508_ : g61 64 (400 * (S 1092 0 - 1) + S 58 (S 1092 0 - 1) - 1 - 1) = g61 64 (400 * (S 1092 0 - 1) + (S 58 (S 1092 0 - 1) - 2)) := congrArg ((g61 64)) la_stepOther_79
          exact ((la_stepOther_32 h4_ (la_stepOther_30 (la_stepOther_29 h4_) h469_))).elim
        refine ⟨?_, ?_⟩
        · skip
          intro h509_
          intro h510_
          refine ⟨h36_, ?_⟩
          refine ⟨h37_, ?_⟩
          refine ⟨(la_stepOther_33 h38_ h49_ h466_), ?_⟩
          refine ⟨(la_stepOther_34 h49_ h423_ h466_), ?_⟩
          refine ⟨?_, ?_⟩
          · skip
            have h511_ := (h457_ (S 1092 0 - 1))
            have h512_ := ((h458_ (400 * (S 1092 0 - 1) + S 58 (S 1092 0 - 1) - 1 - 0)) la_stepOther_52)
            have h513_ := ((h458_ (400 * (S 1092 0 - 1) + (S 58 (S 1092 0 - 1) - 1))) la_stepOther_53)
            have h514_ := ((h458_ (400 * (S 1092 0 - 1) + S 58 (S 1092 0 - 1) - 1 - 1)) la_stepOther_72)
            have h515_ := ((h458_ (400 * (S 1092 0 - 1) + (S 58 (S 1092 0 - 1) - 2))) la_stepOther_73)
            have h516_ := (h458_ (400 * (S 1092 0 - 1) + S 58 (S 1092 0 - 1)))
            have h517_ := ((h459_ (400 * (S 1092 0 - 1) + S 58 (S 1092 0 - 1) - 1 - 0)) la_stepOther_52)
            have h518_ := ((h459_ (400 * (S 1092 0 - 1) + (S 58 (S 1092 0 - 1) - 1))) la_stepOther_53)
            have h519_ := ((h459_ (400 * (S 1092 0 - 1) + S 58 (S 1092 0 - 1) - 1 - 1)) la_stepOther_72)
            have h520_ := ((h459_ (400 * (S 1092 0 - 1) + (S 58 (S 1092 0 - 1) - 2))) la_stepOther_73)
            have h521_ := (h459_ (400 * (S 1092 0 - 1) + S 58 (S 1092 0 - 1)))
            have h522_ := (h463_ (S 1092 0 - 1))
            have h523_ := ((h464_ (400 * (S 1092 0 - 1) + S 58 (S 1092 0 - 1))) (la_stepOther_74 h454_))
            have h524_ := (h464_ (400 * (S 1092 0 - 1) + g55 58 (S 1092 0 - 1)))
            have h525_ := ((h465_ (400 * (S 1092 0 - 1) + S 58 (S 1092 0 - 1))) (la_stepOther_74 h454_))
            have h526_ := (h465_ (400 * (S 1092 0 - 1) + g55 58 (S 1092 0 - 1)))
            have h527_ := (h467_ (S 1092 0 - 1))
            have h528_ := ((h464_ (400 * (S 1092 0 - 1) + (S 58 (S 1092 0 - 1) - 1))) (la_stepOther_75 h454_))
            have h529_ := ((h464_ (400 * (S 1092 0 - 1) + S 58 (S 1092 0 - 1) - 1 - 0)) (la_stepOther_76 h454_))
            have h530_ := ((h464_ (400 * (S 1092 0 - 1) + S 58 (S 1092 0 - 1) - 1 - 1)) (la_stepOther_77 h454_))
            have h531_ := ((h464_ (400 * (S 1092 0 - 1) + (S 58 (S 1092 0 - 1) - 2))) (la_stepOther_78 h454_))
            have h532_ := ((h465_ (400 * (S 1092 0 - 1) + S 58 (S 1092 0 - 1) - 1 - 0)) (la_stepOther_76 h454_))
            have h533_ := ((h465_ (400 * (S 1092 0 - 1) + (S 58 (S 1092 0 - 1) - 1))) (la_stepOther_75 h454_))
            have h534_ := ((h465_ (400 * (S 1092 0 - 1) + S 58 (S 1092 0 - 1) - 1 - 1)) (la_stepOther_77 h454_))
            have h535_ := ((h465_ (400 * (S 1092 0 - 1) + (S 58 (S 1092 0 - 1) - 2))) (la_stepOther_78 h454_))
            have e536_ : S 1100007 (S 1100034 0) = S 1100007 (S 1100025 (S 1100033 0)) := congrArg ((S 1100007)) h57_
            have e537_ : S 26 (S 1100034 0) = S 26 (S 1100025 (S 1100033 0)) := congrArg ((S 26)) h57_
            have e538_ : S 29 (g67 57 (S 1092 0 - 1)) = S 29 (S 1100033 0 + 1) := congrArg ((S 29)) (la_stepOther_35 h49_ h466_)
            have e539_ : S 63 (400 * (S 1092 0 - 1) + S 58 (S 1092 0 - 1) - 1 - 0) = S 63 (400 * (S 1092 0 - 1) + (S 58 (S 1092 0 - 1) - 1)) := congrArg ((S 63)) la_stepOther_55
            have e540_ : S 63 (400 * (S 1092 0 - 1) + S 58 (S 1092 0 - 1) - 1 - 1) = S 63 (400 * (S 1092 0 - 1) + (S 58 (S 1092 0 - 1) - 2)) := congrArg ((S 63)) la_stepOther_79
            have e541_ : S 64 (400 * (S 1092 0 - 1) + S 58 (S 1092 0 - 1) - 1 - 0) = S 64 (400 * (S 1092 0 - 1) + (S 58 (S 1092 0 - 1) - 1)) := congrArg ((S 64)) la_stepOther_55
            have e542_ : S 64 (400 * (S 1092 0 - 1) + S 58 (S 1092 0 - 1) - 1 - 1) = S 64 (400 * (S 1092 0 - 1) + (S 58 (S 1092 0 - 1) - 2)) := congrArg ((S 64)) la_stepOther_79
            have e543_ : g55 63 (400 * (S 1092 0 - 1) + S 58 (S 1092 0 - 1) - 1 - 0) = g55 63 (400 * (S 1092 0 - 1) + (S 58 (S 1092 0 - 1) - 1)) := congrArg ((g55 63)) la_stepOther_55
            have e544_ : g55 63 (400 * (S 1092 0 - 1) + S 58 (S 1092 0 - 1) - 1 - 1) = g55 63 (400 * (S 1092 0 - 1) + (S 58 (S 1092 0 - 1) - 2)) := congrArg ((g55 63)) la_stepOther_79
            have e545_ : g55 64 (400 * (S 1092 0 - 1) + S 58 (S 1092 0 - 1) - 1 - 0) = g55 64 (400 * (S 1092 0 - 1) + (S 58 (S 1092 0 - 1) - 1)) := congrArg ((g55 64)) la_stepOther_55
            have e546_ : g55 64 (400 * (S 1092 0 - 1) + S 58 (S 1092 0 - 1) - 1 - 1) = g55 64 (400 * (S 1092 0 - 1) + (S 58 (S 1092 0 - 1) - 2)) := congrArg ((g55 64)) la_stepOther_79
            exact (la_stepOther_36 h40_ h424_ e538_)
          refine ⟨h41_, ?_⟩
          refine ⟨h42_, ?_⟩
          refine ⟨?_, ?_⟩
          · skip
            have h547_ := (h457_ (S 1092 0 - 1))
            have h548_ := ((h458_ (400 * (S 1092 0 - 1) + S 58 (S 1092 0 - 1) - 1 - 0)) la_stepOther_52)
            have h549_ := ((h458_ (400 * (S 1092 0 - 1) + (S 58 (S 1092 0 - 1) - 1))) la_stepOther_53)
            have h550_ := ((h458_ (400 * (S 1092 0 - 1) + S 58 (S 1092 0 - 1) - 1 - 1)) la_stepOther_72)
            have h551_ := ((h458_ (400 * (S 1092 0 - 1) + (S 58 (S 1092 0 - 1) - 2))) la_stepOther_73)
            have h552_ := (h458_ (400 * (S 1092 0 - 1) + S 58 (S 1092 0 - 1)))
            have h553_ := ((h459_ (400 * (S 1092 0 - 1) + S 58 (S 1092 0 - 1) - 1 - 0)) la_stepOther_52)
            have h554_ := ((h459_ (400 * (S 1092 0 - 1) + (S 58 (S 1092 0 - 1) - 1))) la_stepOther_53)
            have h555_ := ((h459_ (400 * (S 1092 0 - 1) + S 58 (S 1092 0 - 1) - 1 - 1)) la_stepOther_72)
            have h556_ := ((h459_ (400 * (S 1092 0 - 1) + (S 58 (S 1092 0 - 1) - 2))) la_stepOther_73)
            have h557_ := (h459_ (400 * (S 1092 0 - 1) + S 58 (S 1092 0 - 1)))
            have h558_ := (h463_ (S 1092 0 - 1))
            have h559_ := ((h464_ (400 * (S 1092 0 - 1) + S 58 (S 1092 0 - 1))) (la_stepOther_74 h454_))
            have h560_ := (h464_ (400 * (S 1092 0 - 1) + g55 58 (S 1092 0 - 1)))
            have h561_ := ((h465_ (400 * (S 1092 0 - 1) + S 58 (S 1092 0 - 1))) (la_stepOther_74 h454_))
            have h562_ := (h465_ (400 * (S 1092 0 - 1) + g55 58 (S 1092 0 - 1)))
            have h563_ := (h467_ (S 1092 0 - 1))
            have h564_ := ((h464_ (400 * (S 1092 0 - 1) + (S 58 (S 1092 0 - 1) - 1))) (la_stepOther_75 h454_))
            have h565_ := ((h464_ (400 * (S 1092 0 - 1) + S 58 (S 1092 0 - 1) - 1 - 0)) (la_stepOther_76 h454_))
            have h566_ := ((h464_ (400 * (S 1092 0 - 1) + S 58 (S 1092 0 - 1) - 1 - 1)) (la_stepOther_77 h454_))
            have h567_ := ((h464_ (400 * (S 1092 0 - 1) + (S 58 (S 1092 0 - 1) - 2))) (la_stepOther_78 h454_))
            have h568_ := ((h465_ (400 * (S 1092 0 - 1) + S 58 (S 1092 0 - 1) - 1 - 0)) (la_stepOther_76 h454_))
            have h569_ := ((h465_ (400 * (S 1092 0 - 1) + (S 58 (S 1092 0 - 1) - 1))) (la_stepOther_75 h454_))
            have h570_ := ((h465_ (400 * (S 1092 0 - 1) + S 58 (S 1092 0 - 1) - 1 - 1)) (la_stepOther_77 h454_))
            have h571_ := ((h465_ (400 * (S 1092 0 - 1) + (S 58 (S 1092 0 - 1) - 2))) (la_stepOther_78 h454_))
            have e572_ : S 1100007 (S 1100034 0) = S 1100007 (S 1100025 (S 1100033 0)) := congrArg ((S 1100007)) h57_
            have e573_ : S 1100023 (g67 57 (S 1092 0 - 1)) = S 1100023 (S 1100033 0 + 1) := congrArg ((S 1100023)) (la_stepOther_35 h49_ h466_)
            have e574_ : S 26 (S 1100034 0) = S 26 (S 1100025 (S 1100033 0)) := congrArg ((S 26)) h57_
            have e575_ : S 63 (400 * (S 1092 0 - 1) + S 58 (S 1092 0 - 1) - 1 - 0) = S 63 (400 * (S 1092 0 - 1) + (S 58 (S 1092 0 - 1) - 1)) := congrArg ((S 63)) la_stepOther_55
            have e576_ : S 63 (400 * (S 1092 0 - 1) + S 58 (S 1092 0 - 1) - 1 - 1) = S 63 (400 * (S 1092 0 - 1) + (S 58 (S 1092 0 - 1) - 2)) := congrArg ((S 63)) la_stepOther_79
            have e577_ : S 64 (400 * (S 1092 0 - 1) + S 58 (S 1092 0 - 1) - 1 - 0) = S 64 (400 * (S 1092 0 - 1) + (S 58 (S 1092 0 - 1) - 1)) := congrArg ((S 64)) la_stepOther_55
            have e578_ : S 64 (400 * (S 1092 0 - 1) + S 58 (S 1092 0 - 1) - 1 - 1) = S 64 (400 * (S 1092 0 - 1) + (S 58 (S 1092 0 - 1) - 2)) := congrArg ((S 64)) la_stepOther_79
            have e579_ : g55 63 (400 * (S 1092 0 - 1) + S 58 (S 1092 0 - 1) - 1 - 0) = g55 63 (400 * (S 1092 0 - 1) + (S 58 (S 1092 0 - 1) - 1)) := congrArg ((g55 63)) la_stepOther_55
            have e580_ : g55 63 (400 * (S 1092 0 - 1) + S 58 (S 1092 0 - 1) - 1 - 1) = g55 63 (400 * (S 1092 0 - 1) + (S 58 (S 1092 0 - 1) - 2)) := congrArg ((g55 63)) la_stepOther_79
            have e581_ : g55 64 (400 * (S 1092 0 - 1) + S 58 (S 1092 0 - 1) - 1 - 0) = g55 64 (400 * (S 1092 0 - 1) + (S 58 (S 1092 0 - 1) - 1)) := congrArg ((g55 64)) la_stepOther_55
            have e582_ : g55 64 (400 * (S 1092 0 - 1) + S 58 (S 1092 0 - 1) - 1 - 1) = g55 64 (400 * (S 1092 0 - 1) + (S 58 (S 1092 0 - 1) - 2)) := congrArg ((g55 64)) la_stepOther_79
            have e583_ : sm_dp (S 1100024) (S 1100023 (g67 57 (S 1092 0 - 1))) = sm_dp (S 1100024) (S 1100023 (S 1100033 0)) := congrArg ((sm_dp (S 1100024))) (la_stepOther_13 h426_ e573_)
            exact (la_stepOther_37 h43_ e583_)
          refine ⟨?_, ?_⟩
          · skip
            have h584_ := (h457_ (S 1092 0 - 1))
            have h585_ := ((h458_ (400 * (S 1092 0 - 1) + S 58 (S 1092 0 - 1) - 1 - 0)) la_stepOther_52)
            have h586_ := ((h458_ (400 * (S 1092 0 - 1) + (S 58 (S 1092 0 - 1) - 1))) la_stepOther_53)
            have h587_ := ((h458_ (400 * (S 1092 0 - 1) + S 58 (S 1092 0 - 1) - 1 - 1)) la_stepOther_72)
            have h588_ := ((h458_ (400 * (S 1092 0 - 1) + (S 58 (S 1092 0 - 1) - 2))) la_stepOther_73)
            have h589_ := (h458_ (400 * (S 1092 0 - 1) + S 58 (S 1092 0 - 1)))
            have h590_ := ((h459_ (400 * (S 1092 0 - 1) + S 58 (S 1092 0 - 1) - 1 - 0)) la_stepOther_52)
            have h591_ := ((h459_ (400 * (S 1092 0 - 1) + (S 58 (S 1092 0 - 1) - 1))) la_stepOther_53)
            have h592_ := ((h459_ (400 * (S 1092 0 - 1) + S 58 (S 1092 0 - 1) - 1 - 1)) la_stepOther_72)
            have h593_ := ((h459_ (400 * (S 1092 0 - 1) + (S 58 (S 1092 0 - 1) - 2))) la_stepOther_73)
            have h594_ := (h459_ (400 * (S 1092 0 - 1) + S 58 (S 1092 0 - 1)))
            have h595_ := (h463_ (S 1092 0 - 1))
            have h596_ := ((h464_ (400 * (S 1092 0 - 1) + S 58 (S 1092 0 - 1))) (la_stepOther_74 h454_))
            have h597_ := (h464_ (400 * (S 1092 0 - 1) + g55 58 (S 1092 0 - 1)))
            have h598_ := ((h465_ (400 * (S 1092 0 - 1) + S 58 (S 1092 0 - 1))) (la_stepOther_74 h454_))
            have h599_ := (h465_ (400 * (S 1092 0 - 1) + g55 58 (S 1092 0 - 1)))
            have h600_ := (h467_ (S 1092 0 - 1))
            have h601_ := ((h464_ (400 * (S 1092 0 - 1) + (S 58 (S 1092 0 - 1) - 1))) (la_stepOther_75 h454_))
            have h602_ := ((h464_ (400 * (S 1092 0 - 1) + S 58 (S 1092 0 - 1) - 1 - 0)) (la_stepOther_76 h454_))
            have h603_ := ((h464_ (400 * (S 1092 0 - 1) + S 58 (S 1092 0 - 1) - 1 - 1)) (la_stepOther_77 h454_))
            have h604_ := ((h464_ (400 * (S 1092 0 - 1) + (S 58 (S 1092 0 - 1) - 2))) (la_stepOther_78 h454_))
            have h605_ := ((h465_ (400 * (S 1092 0 - 1) + S 58 (S 1092 0 - 1) - 1 - 0)) (la_stepOther_76 h454_))
            have h606_ := ((h465_ (400 * (S 1092 0 - 1) + (S 58 (S 1092 0 - 1) - 1))) (la_stepOther_75 h454_))
            have h607_ := ((h465_ (400 * (S 1092 0 - 1) + S 58 (S 1092 0 - 1) - 1 - 1)) (la_stepOther_77 h454_))
            have h608_ := ((h465_ (400 * (S 1092 0 - 1) + (S 58 (S 1092 0 - 1) - 2))) (la_stepOther_78 h454_))
            have e609_ : S 1100007 (S 1100034 0) = S 1100007 (S 1100025 (S 1100033 0)) := congrArg ((S 1100007)) h57_
            have e610_ : S 1100023 (g67 57 (S 1092 0 - 1)) = S 1100023 (S 1100033 0 + 1) := congrArg ((S 1100023)) (la_stepOther_35 h49_ h466_)
            have e611_ : S 26 (S 1100034 0) = S 26 (S 1100025 (S 1100033 0)) := congrArg ((S 26)) h57_
            have e612_ : S 63 (400 * (S 1092 0 - 1) + S 58 (S 1092 0 - 1) - 1 - 0) = S 63 (400 * (S 1092 0 - 1) + (S 58 (S 1092 0 - 1) - 1)) := congrArg ((S 63)) la_stepOther_55
            have e613_ : S 63 (400 * (S 1092 0 - 1) + S 58 (S 1092 0 - 1) - 1 - 1) = S 63 (400 * (S 1092 0 - 1) + (S 58 (S 1092 0 - 1) - 2)) := congrArg ((S 63)) la_stepOther_79
            have e614_ : S 64 (400 * (S 1092 0 - 1) + S 58 (S 1092 0 - 1) - 1 - 0) = S 64 (400 * (S 1092 0 - 1) + (S 58 (S 1092 0 - 1) - 1)) := congrArg ((S 64)) la_stepOther_55
            have e615_ : S 64 (400 * (S 1092 0 - 1) + S 58 (S 1092 0 - 1) - 1 - 1) = S 64 (400 * (S 1092 0 - 1) + (S 58 (S 1092 0 - 1) - 2)) := congrArg ((S 64)) la_stepOther_79
            have e616_ : g55 63 (400 * (S 1092 0 - 1) + S 58 (S 1092 0 - 1) - 1 - 0) = g55 63 (400 * (S 1092 0 - 1) + (S 58 (S 1092 0 - 1) - 1)) := congrArg ((g55 63)) la_stepOther_55
            have e617_ : g55 63 (400 * (S 1092 0 - 1) + S 58 (S 1092 0 - 1) - 1 - 1) = g55 63 (400 * (S 1092 0 - 1) + (S 58 (S 1092 0 - 1) - 2)) := congrArg ((g55 63)) la_stepOther_79
            have e618_ : g55 64 (400 * (S 1092 0 - 1) + S 58 (S 1092 0 - 1) - 1 - 0) = g55 64 (400 * (S 1092 0 - 1) + (S 58 (S 1092 0 - 1) - 1)) := congrArg ((g55 64)) la_stepOther_55
            have e619_ : g55 64 (400 * (S 1092 0 - 1) + S 58 (S 1092 0 - 1) - 1 - 1) = g55 64 (400 * (S 1092 0 - 1) + (S 58 (S 1092 0 - 1) - 2)) := congrArg ((g55 64)) la_stepOther_79
            exact (sm_TC_t h44_ (la_stepOther_38 h426_ e610_))
          refine ⟨h45_, ?_⟩
          refine ⟨h46_, ?_⟩
          refine ⟨h47_, ?_⟩
          refine ⟨(sm_FL_F h48_ sm_F1_rf sm_F1_rf sm_F1_rf sm_F1_rf (sm_F1_le (sm_F1_ne h467_ (Int.le_refl _)) (Int.le_refl _)) (sm_F1_tr (sm_F1_le (sm_F1_ne h457_ (Int.le_refl _)) (Int.le_refl _)) (sm_F1_ne h463_ (Int.le_refl _)) (Int.le_refl _)) sm_F1_rf sm_F1_rf sm_F1_rf sm_F1_rf (sm_F1_tr (sm_F1_le (sm_F1_ne h458_ (Int.le_refl _)) (la_stepOther_81 h56_ h419_)) (sm_F1_ne h464_ (Int.le_refl _)) (la_stepOther_80 h56_ h419_ h454_)) (sm_F1_tr (sm_F1_le (sm_F1_ne h459_ (Int.le_refl _)) (la_stepOther_81 h56_ h419_)) (sm_F1_ne h465_ (Int.le_refl _)) (la_stepOther_80 h56_ h419_ h454_)) (Int.le_refl _) (Int.le_refl _) sm_F1_rf sm_F1_rf (sm_FL_dp h48_ h25_)), ?_⟩
          refine ⟨?_, ?_⟩
          · skip
            have h620_ := (h457_ (S 1092 0 - 1))
            have h621_ := ((h458_ (400 * (S 1092 0 - 1) + S 58 (S 1092 0 - 1) - 1 - 0)) la_stepOther_52)
            have h622_ := ((h458_ (400 * (S 1092 0 - 1) + (S 58 (S 1092 0 - 1) - 1))) la_stepOther_53)
            have h623_ := ((h458_ (400 * (S 1092 0 - 1) + S 58 (S 1092 0 - 1) - 1 - 1)) la_stepOther_72)
            have h624_ := ((h458_ (400 * (S 1092 0 - 1) + (S 58 (S 1092 0 - 1) - 2))) la_stepOther_73)
            have h625_ := (h458_ (400 * (S 1092 0 - 1) + S 58 (S 1092 0 - 1)))
            have h626_ := ((h459_ (400 * (S 1092 0 - 1) + S 58 (S 1092 0 - 1) - 1 - 0)) la_stepOther_52)
            have h627_ := ((h459_ (400 * (S 1092 0 - 1) + (S 58 (S 1092 0 - 1) - 1))) la_stepOther_53)
            have h628_ := ((h459_ (400 * (S 1092 0 - 1) + S 58 (S 1092 0 - 1) - 1 - 1)) la_stepOther_72)
            have h629_ := ((h459_ (400 * (S 1092 0 - 1) + (S 58 (S 1092 0 - 1) - 2))) la_stepOther_73)
            have h630_ := (h459_ (400 * (S 1092 0 - 1) + S 58 (S 1092 0 - 1)))
            have h631_ := (h463_ (S 1092 0 - 1))
            have h632_ := ((h464_ (400 * (S 1092 0 - 1) + S 58 (S 1092 0 - 1))) (la_stepOther_74 h454_))
            have h633_ := (h464_ (400 * (S 1092 0 - 1) + g55 58 (S 1092 0 - 1)))
            have h634_ := ((h465_ (400 * (S 1092 0 - 1) + S 58 (S 1092 0 - 1))) (la_stepOther_74 h454_))
            have h635_ := (h465_ (400 * (S 1092 0 - 1) + g55 58 (S 1092 0 - 1)))
            have h636_ := (h467_ (S 1092 0 - 1))
            have h637_ := ((h464_ (400 * (S 1092 0 - 1) + (S 58 (S 1092 0 - 1) - 1))) (la_stepOther_75 h454_))
            have h638_ := ((h464_ (400 * (S 1092 0 - 1) + S 58 (S 1092 0 - 1) - 1 - 0)) (la_stepOther_76 h454_))
            have h639_ := ((h464_ (400 * (S 1092 0 - 1) + S 58 (S 1092 0 - 1) - 1 - 1)) (la_stepOther_77 h454_))
            have h640_ := ((h464_ (400 * (S 1092 0 - 1) + (S 58 (S 1092 0 - 1) - 2))) (la_stepOther_78 h454_))
            have h641_ := ((h465_ (400 * (S 1092 0 - 1) + S 58 (S 1092 0 - 1) - 1 - 0)) (la_stepOther_76 h454_))
            have h642_ := ((h465_ (400 * (S 1092 0 - 1) + (S 58 (S 1092 0 - 1) - 1))) (la_stepOther_75 h454_))
            have h643_ := ((h465_ (400 * (S 1092 0 - 1) + S 58 (S 1092 0 - 1) - 1 - 1)) (la_stepOther_77 h454_))
            have h644_ := ((h465_ (400 * (S 1092 0 - 1) + (S 58 (S 1092 0 - 1) - 2))) (la_stepOther_78 h454_))
            have e645_ : S 1100007 (S 1100034 0) = S 1100007 (S 1100025 (S 1100033 0)) := congrArg ((S 1100007)) h57_
            have e646_ : S 1100007 (g67 57 (S 1092 0 - 1)) = S 1100007 (S 1100033 0 + 1) := congrArg ((S 1100007)) (la_stepOther_35 h49_ h466_)
            have e647_ : S 26 (S 1100034 0) = S 26 (S 1100025 (S 1100033 0)) := congrArg ((S 26)) h57_
            have e648_ : S 63 (400 * (S 1092 0 - 1) + S 58 (S 1092 0 - 1) - 1 - 0) = S 63 (400 * (S 1092 0 - 1) + (S 58 (S 1092 0 - 1) - 1)) := congrArg ((S 63)) la_stepOther_55
            have e649_ : S 63 (400 * (S 1092 0 - 1) + S 58 (S 1092 0 - 1) - 1 - 1) = S 63 (400 * (S 1092 0 - 1) + (S 58 (S 1092 0 - 1) - 2)) := congrArg ((S 63)) la_stepOther_79
            have e650_ : S 64 (400 * (S 1092 0 - 1) + S 58 (S 1092 0 - 1) - 1 - 0) = S 64 (400 * (S 1092 0 - 1) + (S 58 (S 1092 0 - 1) - 1)) := congrArg ((S 64)) la_stepOther_55
            have e651_ : S 64 (400 * (S 1092 0 - 1) + S 58 (S 1092 0 - 1) - 1 - 1) = S 64 (400 * (S 1092 0 - 1) + (S 58 (S 1092 0 - 1) - 2)) := congrArg ((S 64)) la_stepOther_79
            have e652_ : g55 63 (400 * (S 1092 0 - 1) + S 58 (S 1092 0 - 1) - 1 - 0) = g55 63 (400 * (S 1092 0 - 1) + (S 58 (S 1092 0 - 1) - 1)) := congrArg ((g55 63)) la_stepOther_55
            have e653_ : g55 63 (400 * (S 1092 0 - 1) + S 58 (S 1092 0 - 1) - 1 - 1) = g55 63 (400 * (S 1092 0 - 1) + (S 58 (S 1092 0 - 1) - 2)) := congrArg ((g55 63)) la_stepOther_79
            have e654_ : g55 64 (400 * (S 1092 0 - 1) + S 58 (S 1092 0 - 1) - 1 - 0) = g55 64 (400 * (S 1092 0 - 1) + (S 58 (S 1092 0 - 1) - 1)) := congrArg ((g55 64)) la_stepOther_55
            have e655_ : g55 64 (400 * (S 1092 0 - 1) + S 58 (S 1092 0 - 1) - 1 - 1) = g55 64 (400 * (S 1092 0 - 1) + (S 58 (S 1092 0 - 1) - 2)) := congrArg ((g55 64)) la_stepOther_79
            exact (la_stepOther_82 h56_ h425_ h454_ h460_ e646_)
          have h656_ := (h457_ (S 1092 0 - 1))
          have h657_ := ((h458_ (400 * (S 1092 0 - 1) + S 58 (S 1092 0 - 1) - 1 - 0)) la_stepOther_52)
          have h658_ := ((h458_ (400 * (S 1092 0 - 1) + (S 58 (S 1092 0 - 1) - 1))) la_stepOther_53)
          have h659_ := ((h458_ (400 * (S 1092 0 - 1) + S 58 (S 1092 0 - 1) - 1 - 1)) la_stepOther_72)
          have h660_ := ((h458_ (400 * (S 1092 0 - 1) + (S 58 (S 1092 0 - 1) - 2))) la_stepOther_73)
          have h661_ := (h458_ (400 * (S 1092 0 - 1) + S 58 (S 1092 0 - 1)))
          have h662_ := ((h459_ (400 * (S 1092 0 - 1) + S 58 (S 1092 0 - 1) - 1 - 0)) la_stepOther_52)
          have h663_ := ((h459_ (400 * (S 1092 0 - 1) + (S 58 (S 1092 0 - 1) - 1))) la_stepOther_53)
          have h664_ := ((h459_ (400 * (S 1092 0 - 1) + S 58 (S 1092 0 - 1) - 1 - 1)) la_stepOther_72)
          have h665_ := ((h459_ (400 * (S 1092 0 - 1) + (S 58 (S 1092 0 - 1) - 2))) la_stepOther_73)
          have h666_ := (h459_ (400 * (S 1092 0 - 1) + S 58 (S 1092 0 - 1)))
          have h667_ := (h463_ (S 1092 0 - 1))
          have h668_ := ((h464_ (400 * (S 1092 0 - 1) + S 58 (S 1092 0 - 1))) (la_stepOther_74 h454_))
          have h669_ := (h464_ (400 * (S 1092 0 - 1) + g55 58 (S 1092 0 - 1)))
          have h670_ := ((h465_ (400 * (S 1092 0 - 1) + S 58 (S 1092 0 - 1))) (la_stepOther_74 h454_))
          have h671_ := (h465_ (400 * (S 1092 0 - 1) + g55 58 (S 1092 0 - 1)))
          have h672_ := (h467_ (S 1092 0 - 1))
          have h673_ := ((h464_ (400 * (S 1092 0 - 1) + (S 58 (S 1092 0 - 1) - 1))) (la_stepOther_75 h454_))
          have h674_ := ((h464_ (400 * (S 1092 0 - 1) + S 58 (S 1092 0 - 1) - 1 - 0)) (la_stepOther_76 h454_))
          have h675_ := ((h464_ (400 * (S 1092 0 - 1) + S 58 (S 1092 0 - 1) - 1 - 1)) (la_stepOther_77 h454_))
          have h676_ := ((h464_ (400 * (S 1092 0 - 1) + (S 58 (S 1092 0 - 1) - 2))) (la_stepOther_78 h454_))
          have h677_ := ((h465_ (400 * (S 1092 0 - 1) + S 58 (S 1092 0 - 1) - 1 - 0)) (la_stepOther_76 h454_))
          have h678_ := ((h465_ (400 * (S 1092 0 - 1) + (S 58 (S 1092 0 - 1) - 1))) (la_stepOther_75 h454_))
          have h679_ := ((h465_ (400 * (S 1092 0 - 1) + S 58 (S 1092 0 - 1) - 1 - 1)) (la_stepOther_77 h454_))
          have h680_ := ((h465_ (400 * (S 1092 0 - 1) + (S 58 (S 1092 0 - 1) - 2))) (la_stepOther_78 h454_))
          have e681_ : S 1100007 (S 1100034 0) = S 1100007 (S 1100025 (S 1100033 0)) := congrArg ((S 1100007)) h57_
          have e682_ : S 1100025 (g67 57 (S 1092 0 - 1)) = S 1100025 (S 1100033 0 + 1) := congrArg ((S 1100025)) (la_stepOther_35 h49_ h466_)
          have e683_ : S 26 (S 1100034 0) = S 26 (S 1100025 (S 1100033 0)) := congrArg ((S 26)) h57_
          have e684_ : S 63 (400 * (S 1092 0 - 1) + S 58 (S 1092 0 - 1) - 1 - 0) = S 63 (400 * (S 1092 0 - 1) + (S 58 (S 1092 0 - 1) - 1)) := congrArg ((S 63)) la_stepOther_55
          have e685_ : S 63 (400 * (S 1092 0 - 1) + S 58 (S 1092 0 - 1) - 1 - 1) = S 63 (400 * (S 1092 0 - 1) + (S 58 (S 1092 0 - 1) - 2)) := congrArg ((S 63)) la_stepOther_79
          have e686_ : S 64 (400 * (S 1092 0 - 1) + S 58 (S 1092 0 - 1) - 1 - 0) = S 64 (400 * (S 1092 0 - 1) + (S 58 (S 1092 0 - 1) - 1)) := congrArg ((S 64)) la_stepOther_55
          have e687_ : S 64 (400 * (S 1092 0 - 1) + S 58 (S 1092 0 - 1) - 1 - 1) = S 64 (400 * (S 1092 0 - 1) + (S 58 (S 1092 0 - 1) - 2)) := congrArg ((S 64)) la_stepOther_79
          have e688_ : g55 63 (400 * (S 1092 0 - 1) + S 58 (S 1092 0 - 1) - 1 - 0) = g55 63 (400 * (S 1092 0 - 1) + (S 58 (S 1092 0 - 1) - 1)) := congrArg ((g55 63)) la_stepOther_55
          have e689_ : g55 63 (400 * (S 1092 0 - 1) + S 58 (S 1092 0 - 1) - 1 - 1) = g55 63 (400 * (S 1092 0 - 1) + (S 58 (S 1092 0 - 1) - 2)) := congrArg ((g55 63)) la_stepOther_79
          have e690_ : g55 64 (400 * (S 1092 0 - 1) + S 58 (S 1092 0 - 1) - 1 - 0) = g55 64 (400 * (S 1092 0 - 1) + (S 58 (S 1092 0 - 1) - 1)) := congrArg ((g55 64)) la_stepOther_55
          have e691_ : g55 64 (400 * (S 1092 0 - 1) + S 58 (S 1092 0 - 1) - 1 - 1) = g55 64 (400 * (S 1092 0 - 1) + (S 58 (S 1092 0 - 1) - 2)) := congrArg ((g55 64)) la_stepOther_79
          exact (sm_SK_q (sm_SK_q (sm_SK_push (sm_SK_push (sm_SK_F h52_ (sm_F1_tr (sm_F1_le (sm_F1_ne h458_ (Int.le_refl _)) (Int.le_refl _)) (sm_F1_ne h464_ (Int.le_refl _)) (la_stepOther_83 h454_)) (sm_F1_tr (sm_F1_le (sm_F1_ne h459_ (Int.le_refl _)) (Int.le_refl _)) (sm_F1_ne h465_ (Int.le_refl _)) (la_stepOther_83 h454_)) (Int.le_refl _) (Int.le_refl _)) h26_ h54_ (la_stepOther_60 h55_ h56_ h57_ h68_ e681_) rfl (sm_VO_eq h451_ (la_stepOther_85 h452_ h455_ h668_ e685_) (la_stepOther_85 h453_ h456_ h670_ e687_)) rfl) h26_ h54_ (la_stepOther_90 h55_ h56_ h57_ h68_ e681_) rfl (sm_VO_eq (sm_VO_eq h441_ (la_stepOther_87 h411_ e684_) (la_stepOther_87 h412_ e686_)) ((congrArg (g61 63) (la_stepOther_86 h454_)).trans h461_) ((congrArg (g61 64) (la_stepOther_86 h454_)).trans h462_)) rfl) rfl (la_stepOther_91 h454_ h460_) rfl) (la_stepOther_58 h57_ h427_ e682_) rfl rfl)
        exact (la_stepOther_43 h4_ h5_ h36_)
      refine ⟨?_, ?_⟩
      · skip
        intro h692_
        have h693_ := (h64_.resolve_left (la_stepOther_92 h692_))
        have h694_ := (h81_.resolve_left (la_stepOther_93 h692_))
        have h695_ := (h83_.resolve_left (la_stepOther_93 h692_))
        have h696_ := (h693_.resolve_left (la_stepOther_94 h692_))
        have h697_ := (h696_.resolve_left (la_stepOther_95 h692_))
        intro h698_
        have h699_ := (h698_ h25_)
        have h700_ := (h699_ h38_)
        have h701_ := (h700_ h39_)
        obtain ⟨⟨h702_, ⟨h703_, h704_⟩⟩, ⟨h705_, ⟨h706_, ⟨h707_, ⟨h708_, ⟨h709_, h710_⟩⟩⟩⟩⟩⟩ := (h701_ (la_stepOther_96 h62_ h692_))
        intro h711_
        have h712_ := (h711_ h57_)
        have h713_ := (h712_ h56_)
        have h714_ := (h713_ h704_)
        intro h715_
        have h716_ := (h715_ h52_)
        have h717_ := (h716_ h26_)
        have h718_ := (h717_ (la_stepOther_97 h56_ h702_))
        have h719_ := (h718_ la_stepOther_50)
        have h720_ := (h719_ h54_)
        have h721_ := (h720_ h57_)
        have h722_ := (h721_ h56_)
        have h723_ := (h722_ h55_)
        have h724_ := (h723_ h704_)
        intro h725_
        have h726_ := (h725_ h52_)
        have h727_ := (h726_ h26_)
        have h728_ := (h727_ (la_stepOther_98 h56_ h702_))
        have h729_ := (h728_ la_stepOther_68)
        have h730_ := (h729_ h54_)
        have h731_ := (h730_ h57_)
        have h732_ := (h731_ h56_)
        have h733_ := (h732_ h55_)
        have h734_ := (h733_ h704_)
        intro h735_
        have h736_ := (h735_ h52_)
        have h737_ := (h736_ h26_)
        have h738_ := (h737_ (la_stepOther_99 h56_ h702_))
        have h739_ := (h738_ la_stepOther_100)
        have h740_ := (h739_ h54_)
        have h741_ := (h740_ h57_)
        have h742_ := (h741_ h56_)
        have h743_ := (h742_ h55_)
        have h744_ := (h743_ h704_)
        refine ⟨(la_stepOther_101 h36_ h37_ h56_ h59_ h702_), ?_⟩
        intro g78
        rintro ⟨h745_, ⟨h746_, ⟨h747_, ⟨h748_, ⟨h749_, ⟨h750_, ⟨h751_, ⟨h752_, ⟨h753_, ⟨h754_, ⟨h755_, h756_⟩⟩⟩⟩⟩⟩⟩⟩⟩⟩⟩
        refine ⟨(la_stepOther_25 h31_ h36_ h37_ h38_ h49_ h706_), ?_⟩
        intro g84
        rintro ⟨h757_, h758_⟩
        refine ⟨h7_, ?_⟩
        refine ⟨h8_, ?_⟩
        refine ⟨h9_, ?_⟩
        refine ⟨h10_, ?_⟩
        refine ⟨h11_, ?_⟩
        refine ⟨h12_, ?_⟩
        refine ⟨h13_, ?_⟩
        refine ⟨h14_, ?_⟩
        refine ⟨h15_, ?_⟩
        refine ⟨h16_, ?_⟩
        refine ⟨h17_, ?_⟩
        refine ⟨h18_, ?_⟩
        refine ⟨?_, ?_⟩
        · skip
          intro h759_
          refine ⟨h19_, ?_⟩
          exact h20_
        refine ⟨h21_, ?_⟩
        refine ⟨h22_, ?_⟩
        refine ⟨h23_, ?_⟩
        refine ⟨h24_, ?_⟩
        refine ⟨h33_, ?_⟩
        refine ⟨(la_stepOther_26 h4_), ?_⟩
        refine ⟨(la_stepOther_27 h36_), ?_⟩
        refine ⟨h37_, ?_⟩
        refine ⟨la_stepOther_28, ?_⟩
        refine ⟨?_, ?_⟩
        · skip
          intro h760_
          have h761_ := (h746_ (S 1092 0 - 1))
          have h762_ := (h758_ (S 1092 0 - 1))
          have e763_ : S 1100007 (S 1100034 0) = S 1100007 (S 1100025 (S 1100033 0)) := congrArg ((S 1100007)) h57_
          have e764_ : S 26 (S 1100034 0) = S 26 (S 1100025 (S 1100033 0)) := congrArg ((S 26)) h57_
          have e765_ : S 63 (400 * (S 1092 0 - 1) + S 58 (S 1092 0 - 1) - 2) = S 63 (400 * (S 1092 0 - 1) + (S 58 (S 1092 0 - 1) - 2)) := congrArg ((S 63)) la_stepOther_102
          have e766_ : S 63 (400 * (S 1092 0 - 1) + S 58 (S 1092 0 - 1) - 3) = S 63 (400 * (S 1092 0 - 1) + (S 58 (S 1092 0 - 1) - 3)) := congrArg ((S 63)) la_stepOther_103
          have e767_ : S 63 (400 * (S 1092 0 - 1) + S 58 (S 1092 0 - 1) - 1 - 0) = S 63 (400 * (S 1092 0 - 1) + (S 58 (S 1092 0 - 1) - 1)) := congrArg ((S 63)) la_stepOther_55
          have e768_ : S 64 (400 * (S 1092 0 - 1) + S 58 (S 1092 0 - 1) - 2) = S 64 (400 * (S 1092 0 - 1) + (S 58 (S 1092 0 - 1) - 2)) := congrArg ((S 64)) la_stepOther_102
          have e769_ : S 64 (400 * (S 1092 0 - 1) + S 58 (S 1092 0 - 1) - 3) = S 64 (400 * (S 1092 0 - 1) + (S 58 (S 1092 0 - 1) - 3)) := congrArg ((S 64)) la_stepOther_103
          have e770_ : S 64 (400 * (S 1092 0 - 1) + S 58 (S 1092 0 - 1) - 1 - 0) = S 64 (400 * (S 1092 0 - 1) + (S 58 (S 1092 0 - 1) - 1)) := congrArg ((S 64)) la_stepOther_55
          exact ((la_stepOther_32 h4_ (la_stepOther_30 (la_stepOther_29 h4_) h760_))).elim
        refine ⟨?_, ?_⟩
        · skip
          intro h771_
          intro h772_
          refine ⟨h36_, ?_⟩
          refine ⟨h37_, ?_⟩
          refine ⟨(la_stepOther_33 h38_ h49_ h757_), ?_⟩
          refine ⟨(la_stepOther_34 h49_ h706_ h757_), ?_⟩
          refine ⟨?_, ?_⟩
          · skip
            have h773_ := (h746_ (S 1092 0 - 1))
            have h774_ := (h758_ (S 1092 0 - 1))
            have e775_ : S 1100007 (S 1100034 0) = S 1100007 (S 1100025 (S 1100033 0)) := congrArg ((S 1100007)) h57_
            have e776_ : S 26 (S 1100034 0) = S 26 (S 1100025 (S 1100033 0)) := congrArg ((S 26)) h57_
            have e777_ : S 29 (g84 57 (S 1092 0 - 1)) = S 29 (S 1100033 0 + 1) := congrArg ((S 29)) (la_stepOther_35 h49_ h757_)
            have e778_ : S 63 (400 * (S 1092 0 - 1) + S 58 (S 1092 0 - 1) - 2) = S 63 (400 * (S 1092 0 - 1) + (S 58 (S 1092 0 - 1) - 2)) := congrArg ((S 63)) la_stepOther_102
            have e779_ : S 63 (400 * (S 1092 0 - 1) + S 58 (S 1092 0 - 1) - 3) = S 63 (400 * (S 1092 0 - 1) + (S 58 (S 1092 0 - 1) - 3)) := congrArg ((S 63)) la_stepOther_103
            have e780_ : S 63 (400 * (S 1092 0 - 1) + S 58 (S 1092 0 - 1) - 1 - 0) = S 63 (400 * (S 1092 0 - 1) + (S 58 (S 1092 0 - 1) - 1)) := congrArg ((S 63)) la_stepOther_55
            have e781_ : S 64 (400 * (S 1092 0 - 1) + S 58 (S 1092 0 - 1) - 2) = S 64 (400 * (S 1092 0 - 1) + (S 58 (S 1092 0 - 1) - 2)) := congrArg ((S 64)) la_stepOther_102
            have e782_ : S 64 (400 * (S 1092 0 - 1) + S 58 (S 1092 0 - 1) - 3) = S 64 (400 * (S 1092 0 - 1) + (S 58 (S 1092 0 - 1) - 3)) := congrArg ((S 64)) la_stepOther_103
            have e783_ : S 64 (400 * (S 1092 0 - 1) + S 58 (S 1092 0 - 1) - 1 - 0) = S 64 (400 * (S 1092 0 - 1) + (S 58 (S 1092 0 - 1) - 1)) := congrArg ((S 64)) la_stepOther_55
            exact (la_stepOther_36 h40_ h707_ e777_)
          refine ⟨h41_, ?_⟩
          refine ⟨h42_, ?_⟩
          refine ⟨?_, ?_⟩
          · skip
            have h784_ := (h746_ (S 1092 0 - 1))
            have h785_ := (h758_ (S 1092 0 - 1))
            have e786_ : S 1100007 (S 1100034 0) = S 1100007 (S 1100025 (S 1100033 0)) := congrArg ((S 1100007)) h57_
            have e787_ : S 1100023 (g84 57 (S 1092 0 - 1)) = S 1100023 (S 1100033 0 + 1) := congrArg ((S 1100023)) (la_stepOther_35 h49_ h757_)
            have e788_ : S 26 (S 1100034 0) = S 26 (S 1100025 (S 1100033 0)) := congrArg ((S 26)) h57_
            have e789_ : S 63 (400 * (S 1092 0 - 1) + S 58 (S 1092 0 - 1) - 2) = S 63 (400 * (S 1092 0 - 1) + (S 58 (S 1092 0 - 1) - 2)) := congrArg ((S 63)) la_stepOther_102
            have e790_ : S 63 (400 * (S 1092 0 - 1) + S 58 (S 1092 0 - 1) - 3) = S 63 (400 * (S 1092 0 - 1) + (S 58 (S 1092 0 - 1) - 3)) := congrArg ((S 63)) la_stepOther_103
            have e791_ : S 63 (400 * (S 1092 0 - 1) + S 58 (S 1092 0 - 1) - 1 - 0) = S 63 (400 * (S 1092 0 - 1) + (S 58 (S 1092 0 - 1) - 1)) := congrArg ((S 63)) la_stepOther_55
            have e792_ : S 64 (400 * (S 1092 0 - 1) + S 58 (S 1092 0 - 1) - 2) = S 64 (400 * (S 1092 0 - 1) + (S 58 (S 1092 0 - 1) - 2)) := congrArg ((S 64)) la_stepOther_102
            have e793_ : S 64 (400 * (S 1092 0 - 1) + S 58 (S 1092 0 - 1) - 3) = S 64 (400 * (S 1092 0 - 1) + (S 58 (S 1092 0 - 1) - 3)) := congrArg ((S 64)) la_stepOther_103
            have e794_ : S 64 (400 * (S 1092 0 - 1) + S 58 (S 1092 0 - 1) - 1 - 0) = S 64 (400 * (S 1092 0 - 1) + (S 58 (S 1092 0 - 1) - 1)) := congrArg ((S 64)) la_stepOther_55
            have e795_ : sm_dp (S 1100024) (S 1100023 (g84 57 (S 1092 0 - 1))) = sm_dp (S 1100024) (S 1100023 (S 1100033 0)) := congrArg ((sm_dp (S 1100024))) (la_stepOther_13 h709_ e787_)
            exact (la_stepOther_37 h43_ e795_)
          refine ⟨?_, ?_⟩
          · skip
            have h796_ := (h746_ (S 1092 0 - 1))
            have h797_ := (h758_ (S 1092 0 - 1))
            have e798_ : S 1100007 (S 1100034 0) = S 1100007 (S 1100025 (S 1100033 0)) := congrArg ((S 1100007)) h57_
            have e799_ : S 1100023 (g84 57 (S 1092 0 - 1)) = S 1100023 (S 1100033 0 + 1) := congrArg ((S 1100023)) (la_stepOther_35 h49_ h757_)
            have e800_ : S 26 (S 1100034 0) = S 26 (S 1100025 (S 1100033 0)) := congrArg ((S 26)) h57_
            have e801_ : S 63 (400 * (S 1092 0 - 1) + S 58 (S 1092 0 - 1) - 2) = S 63 (400 * (S 1092 0 - 1) + (S 58 (S 1092 0 - 1) - 2)) := congrArg ((S 63)) la_stepOther_102
            have e802_ : S 63 (400 * (S 1092 0 - 1) + S 58 (S 1092 0 - 1) - 3) = S 63 (400 * (S 1092 0 - 1) + (S 58 (S 1092 0 - 1) - 3)) := congrArg ((S 63)) la_stepOther_103
            have e803_ : S 63 (400 * (S 1092 0 - 1) + S 58 (S 1092 0 - 1) - 1 - 0) = S 63 (400 * (S 1092 0 - 1) + (S 58 (S 1092 0 - 1) - 1)) := congrArg ((S 63)) la_stepOther_55
            have e804_ : S 64 (400 * (S 1092 0 - 1) + S 58 (S 1092 0 - 1) - 2) = S 64 (400 * (S 1092 0 - 1) + (S 58 (S 1092 0 - 1) - 2)) := congrArg ((S 64)) la_stepOther_102
            have e805_ : S 64 (400 * (S 1092 0 - 1) + S 58 (S 1092 0 - 1) - 3) = S 64 (400 * (S 1092 0 - 1) + (S 58 (S 1092 0 - 1) - 3)) := congrArg ((S 64)) la_stepOther_103
            have e806_ : S 64 (400 * (S 1092 0 - 1) + S 58 (S 1092 0 - 1) - 1 - 0) = S 64 (400 * (S 1092 0 - 1) + (S 58 (S 1092 0 - 1) - 1)) := congrArg ((S 64)) la_stepOther_55
            exact (sm_TC_t h44_ (la_stepOther_38 h709_ e799_))
          refine ⟨h45_, ?_⟩
          refine ⟨h46_, ?_⟩
          refine ⟨h47_, ?_⟩
          refine ⟨(sm_FL_F h48_ sm_F1_rf sm_F1_rf sm_F1_rf sm_F1_rf (sm_F1_le (sm_F1_ne h758_ (Int.le_refl _)) (Int.le_refl _)) (sm_F1_le (sm_F1_ne h746_ (Int.le_refl _)) (Int.le_refl _)) sm_F1_rf sm_F1_rf sm_F1_rf sm_F1_rf (sm_F1_le h747_ (la_stepOther_104 h56_ h702_)) (sm_F1_le h752_ (la_stepOther_104 h56_ h702_)) (Int.le_refl _) (Int.le_refl _) sm_F1_rf sm_F1_rf (sm_FL_dp h48_ h25_)), ?_⟩
          refine ⟨?_, ?_⟩
          · skip
            have h807_ := (h746_ (S 1092 0 - 1))
            have h808_ := (h758_ (S 1092 0 - 1))
            have e809_ : S 1100007 (S 1100034 0) = S 1100007 (S 1100025 (S 1100033 0)) := congrArg ((S 1100007)) h57_
            have e810_ : S 1100007 (g84 57 (S 1092 0 - 1)) = S 1100007 (S 1100033 0 + 1) := congrArg ((S 1100007)) (la_stepOther_35 h49_ h757_)
            have e811_ : S 26 (S 1100034 0) = S 26 (S 1100025 (S 1100033 0)) := congrArg ((S 26)) h57_
            have e812_ : S 63 (400 * (S 1092 0 - 1) + S 58 (S 1092 0 - 1) - 2) = S 63 (400 * (S 1092 0 - 1) + (S 58 (S 1092 0 - 1) - 2)) := congrArg ((S 63)) la_stepOther_102
            have e813_ : S 63 (400 * (S 1092 0 - 1) + S 58 (S 1092 0 - 1) - 3) = S 63 (400 * (S 1092 0 - 1) + (S 58 (S 1092 0 - 1) - 3)) := congrArg ((S 63)) la_stepOther_103
            have e814_ : S 63 (400 * (S 1092 0 - 1) + S 58 (S 1092 0 - 1) - 1 - 0) = S 63 (400 * (S 1092 0 - 1) + (S 58 (S 1092 0 - 1) - 1)) := congrArg ((S 63)) la_stepOther_55
            have e815_ : S 64 (400 * (S 1092 0 - 1) + S 58 (S 1092 0 - 1) - 2) = S 64 (400 * (S 1092 0 - 1) + (S 58 (S 1092 0 - 1) - 2)) := congrArg ((S 64)) la_stepOther_102
            have e816_ : S 64 (400 * (S 1092 0 - 1) + S 58 (S 1092 0 - 1) - 3) = S 64 (400 * (S 1092 0 - 1) + (S 58 (S 1092 0 - 1) - 3)) := congrArg ((S 64)) la_stepOther_103
            have e817_ : S 64 (400 * (S 1092 0 - 1) + S 58 (S 1092 0 - 1) - 1 - 0) = S 64 (400 * (S 1092 0 - 1) + (S 58 (S 1092 0 - 1) - 1)) := congrArg ((S 64)) la_stepOther_55
            exact (la_stepOther_57 h56_ h708_ h745_ e810_)
          have h818_ := (h746_ (S 1092 0 - 1))
          have h819_ := (h758_ (S 1092 0 - 1))
          have e820_ : S 1100007 (S 1100034 0) = S 1100007 (S 1100025 (S 1100033 0)) := congrArg ((S 1100007)) h57_
          have e821_ : S 1100025 (g84 57 (S 1092 0 - 1)) = S 1100025 (S 1100033 0 + 1) := congrArg ((S 1100025)) (la_stepOther_35 h49_ h757_)
          have e822_ : S 26 (S 1100034 0) = S 26 (S 1100025 (S 1100033 0)) := congrArg ((S 26)) h57_
          have e823_ : S 63 (400 * (S 1092 0 - 1) + S 58 (S 1092 0 - 1) - 2) = S 63 (400 * (S 1092 0 - 1) + (S 58 (S 1092 0 - 1) - 2)) := congrArg ((S 63)) la_stepOther_102
          have e824_ : S 63 (400 * (S 1092 0 - 1) + S 58 (S 1092 0 - 1) - 3) = S 63 (400 * (S 1092 0 - 1) + (S 58 (S 1092 0 - 1) - 3)) := congrArg ((S 63)) la_stepOther_103
          have e825_ : S 63 (400 * (S 1092 0 - 1) + S 58 (S 1092 0 - 1) - 1 - 0) = S 63 (400 * (S 1092 0 - 1) + (S 58 (S 1092 0 - 1) - 1)) := congrArg ((S 63)) la_stepOther_55
          have e826_ : S 64 (400 * (S 1092 0 - 1) + S 58 (S 1092 0 - 1) - 2) = S 64 (400 * (S 1092 0 - 1) + (S 58 (S 1092 0 - 1) - 2)) := congrArg ((S 64)) la_stepOther_102
          have e827_ : S 64 (400 * (S 1092 0 - 1) + S 58 (S 1092 0 - 1) - 3) = S 64 (400 * (S 1092 0 - 1) + (S 58 (S 1092 0 - 1) - 3)) := congrArg ((S 64)) la_stepOther_103
          have e828_ : S 64 (400 * (S 1092 0 - 1) + S 58 (S 1092 0 - 1) - 1 - 0) = S 64 (400 * (S 1092 0 - 1) + (S 58 (S 1092 0 - 1) - 1)) := congrArg ((S 64)) la_stepOther_55
          exact (sm_SK_q (sm_SK_q (sm_SK_push (sm_SK_push (sm_SK_push (sm_SK_push (sm_SK_F (sm_SK_pop h52_ (la_stepOther_107 h745_)) (sm_F1_le h747_ (la_stepOther_108 h745_)) (sm_F1_le h752_ (la_stepOther_108 h745_)) (Int.le_refl _) (Int.le_refl _)) h26_ h54_ (la_stepOther_110 h55_ h56_ h57_ h704_ h745_ e820_) rfl (sm_VO_eq (sm_VO_eq h724_ (la_stepOther_87 h694_ e825_) (la_stepOther_87 h695_ e828_)) ((congrArg (g78 63) (la_stepOther_109 h745_)).trans h751_) ((congrArg (g78 64) (la_stepOther_109 h745_)).trans h756_)) rfl) h26_ h54_ (la_stepOther_114 h55_ h56_ h57_ h704_ h745_ e820_) rfl (sm_VO_eq (sm_VO_eq h744_ e824_ e827_) ((congrArg (g78 63) (la_stepOther_111 h745_)).trans h750_) ((congrArg (g78 64) (la_stepOther_111 h745_)).trans h755_)) rfl) h26_ h54_ (la_stepOther_116 h55_ h56_ h57_ h704_ h745_ e820_) rfl (sm_VO_eq (sm_VO_eq h734_ e823_ e826_) ((congrArg (g78 63) (la_stepOther_115 h745_)).trans h749_) ((congrArg (g78 64) (la_stepOther_115 h745_)).trans h754_)) rfl) h26_ h54_ (la_stepOther_118 h55_ h56_ h57_ h68_ h745_ e820_) rfl (sm_VO_eq (sm_VO_eq h724_ (la_stepOther_87 h694_ e825_) (la_stepOther_87 h695_ e828_)) ((congrArg (g78 63) (la_stepOther_117 h745_)).trans h748_) ((congrArg (g78 64) (la_stepOther_117 h745_)).trans h753_)) rfl) rfl la_stepOther_119 rfl) (la_stepOther_58 h57_ h710_ e821_) rfl rfl)
        exact (la_stepOther_43 h4_ h5_ h36_)
      refine ⟨?_, ?_⟩
      · skip
        intro h829_
        intro h830_
        have h831_ := (h830_ h25_)
        have h832_ := (h831_ h38_)
        have h833_ := (h832_ h39_)
        obtain ⟨⟨h834_, ⟨h835_, h836_⟩⟩, ⟨h837_, ⟨h838_, ⟨h839_, ⟨h840_, ⟨h841_, h842_⟩⟩⟩⟩⟩⟩ := (h833_ (la_stepOther_120 h62_ h829_))
        have h843_ := (h79_ h836_)
        refine ⟨(la_stepOther_121 h36_ h37_), ?_⟩
        refine ⟨h7_, ?_⟩
        refine ⟨h8_, ?_⟩
        refine ⟨h9_, ?_⟩
        refine ⟨h10_, ?_⟩
        refine ⟨h11_, ?_⟩
        refine ⟨h12_, ?_⟩
        refine ⟨h13_, ?_⟩
        refine ⟨h14_, ?_⟩
        refine ⟨h15_, ?_⟩
        refine ⟨h16_, ?_⟩
        refine ⟨h17_, ?_⟩
        refine ⟨h18_, ?_⟩
        refine ⟨?_, ?_⟩
        · skip
          intro h844_
          refine ⟨h19_, ?_⟩
          exact h20_
        refine ⟨h21_, ?_⟩
        refine ⟨h22_, ?_⟩
        refine ⟨h23_, ?_⟩
        refine ⟨h24_, ?_⟩
        refine ⟨h33_, ?_⟩
        refine ⟨(la_stepOther_26 h4_), ?_⟩
        refine ⟨(la_stepOther_27 h36_), ?_⟩
        refine ⟨h37_, ?_⟩
        refine ⟨la_stepOther_28, ?_⟩
        refine ⟨?_, ?_⟩
        · skip
          intro h845_
          exact h6_
        refine ⟨?_, ?_⟩
        · skip
          intro h846_
          intro h847_
          refine ⟨h36_, ?_⟩
          refine ⟨h37_, ?_⟩
          refine ⟨?_, ?_⟩
          · skip
            have e848_ : (if S 1092 0 - 1 = S 1092 0 - 1 then p2 else S 57 (S 1092 0 - 1) : Int) = p2 := if_pos la_stepOther_122
            have e849_ : S 1100007 (S 1100034 0) = S 1100007 (S 1100025 (S 1100033 0)) := congrArg ((S 1100007)) h57_
            have e850_ : S 26 (S 1100034 0) = S 26 (S 1100025 (S 1100033 0)) := congrArg ((S 26)) h57_
            exact (la_stepOther_123 h63_ h837_ e848_)
          refine ⟨?_, ?_⟩
          · skip
            have e851_ : (if S 1092 0 - 1 = S 1092 0 - 1 then p2 else S 57 (S 1092 0 - 1) : Int) = p2 := if_pos la_stepOther_122
            have e852_ : S 1100007 (S 1100034 0) = S 1100007 (S 1100025 (S 1100033 0)) := congrArg ((S 1100007)) h57_
            have e853_ : S 26 (S 1100034 0) = S 26 (S 1100025 (S 1100033 0)) := congrArg ((S 26)) h57_
            exact (la_stepOther_124 h63_ h838_ e851_)
          refine ⟨?_, ?_⟩
          · skip
            have e854_ : (if S 1092 0 - 1 = S 1092 0 - 1 then p2 else S 57 (S 1092 0 - 1) : Int) = p2 := if_pos la_stepOther_122
            have e855_ : S 1100007 (S 1100034 0) = S 1100007 (S 1100025 (S 1100033 0)) := congrArg ((S 1100007)) h57_
            have e856_ : S 26 (S 1100034 0) = S 26 (S 1100025 (S 1100033 0)) := congrArg ((S 26)) h57_
            have e857_ : S 29 (if S 1092 0 - 1 = S 1092 0 - 1 then p2 else S 57 (S 1092 0 - 1)) = S 29 (S 27 (S 1100033 0)) := congrArg ((S 29)) (la_stepOther_13 h63_ e854_)
            exact (la_stepOther_36 h40_ h839_ e857_)
          refine ⟨h41_, ?_⟩
          refine ⟨h42_, ?_⟩
          refine ⟨?_, ?_⟩
          · skip
            have e858_ : (if S 1092 0 - 1 = S 1092 0 - 1 then p2 else S 57 (S 1092 0 - 1) : Int) = p2 := if_pos la_stepOther_122
            have e859_ : S 1100007 (S 1100034 0) = S 1100007 (S 1100025 (S 1100033 0)) := congrArg ((S 1100007)) h57_
            have e860_ : S 1100023 (if S 1092 0 - 1 = S 1092 0 - 1 then p2 else S 57 (S 1092 0 - 1)) = S 1100023 (S 27 (S 1100033 0)) := congrArg ((S 1100023)) (la_stepOther_13 h63_ e858_)
            have e861_ : S 26 (S 1100034 0) = S 26 (S 1100025 (S 1100033 0)) := congrArg ((S 26)) h57_
            have e862_ : sm_dp (S 1100024) (S 1100023 (if S 1092 0 - 1 = S 1092 0 - 1 then p2 else S 57 (S 1092 0 - 1))) = sm_dp (S 1100024) (S 1100023 (S 1100033 0)) := congrArg ((sm_dp (S 1100024))) (la_stepOther_13 h841_ e860_)
            exact (la_stepOther_37 h43_ e862_)
          refine ⟨?_, ?_⟩
          · skip
            have e863_ : (if S 1092 0 - 1 = S 1092 0 - 1 then p2 else S 57 (S 1092 0 - 1) : Int) = p2 := if_pos la_stepOther_122
            have e864_ : S 1100007 (S 1100034 0) = S 1100007 (S 1100025 (S 1100033 0)) := congrArg ((S 1100007)) h57_
            have e865_ : S 1100023 (if S 1092 0 - 1 = S 1092 0 - 1 then p2 else S 57 (S 1092 0 - 1)) = S 1100023 (S 27 (S 1100033 0)) := congrArg ((S 1100023)) (la_stepOther_13 h63_ e863_)
            have e866_ : S 26 (S 1100034 0) = S 26 (S 1100025 (S 1100033 0)) := congrArg ((S 26)) h57_
            exact (sm_TC_t h44_ (la_stepOther_38 h841_ e865_))
          refine ⟨h45_, ?_⟩
          refine ⟨h46_, ?_⟩
          refine ⟨h47_, ?_⟩
          refine ⟨(sm_FL_F h48_ sm_F1_rf sm_F1_rf sm_F1_rf sm_F1_rf (sm_F1_up sm_F1_rf (Int.le_refl _)) sm_F1_rf sm_F1_rf sm_F1_rf sm_F1_rf sm_F1_rf sm_F1_rf sm_F1_rf (Int.le_refl _) (Int.le_refl _) sm_F1_rf sm_F1_rf (sm_FL_dp h48_ h25_)), ?_⟩
          refine ⟨?_, ?_⟩
          · skip
            have e867_ : (if S 1092 0 - 1 = S 1092 0 - 1 then p2 else S 57 (S 1092 0 - 1) : Int) = p2 := if_pos la_stepOther_122
            have e868_ : S 1100007 (S 1100034 0) = S 1100007 (S 1100025 (S 1100033 0)) := congrArg ((S 1100007)) h57_
            have e869_ : S 1100007 (if S 1092 0 - 1 = S 1092 0 - 1 then p2 else S 57 (S 1092 0 - 1)) = S 1100007 (S 27 (S 1100033 0)) := congrArg ((S 1100007)) (la_stepOther_13 h63_ e867_)
            have e870_ : S 26 (S 1100034 0) = S 26 (S 1100025 (S 1100033 0)) := congrArg ((S 26)) h57_
            exact (la_stepOther_125 h56_ h840_ e869_)
          have e871_ : (if S 1092 0 - 1 = S 1092 0 - 1 then p2 else S 57 (S 1092 0 - 1) : Int) = p2 := if_pos la_stepOther_122
          have e872_ : S 1100007 (S 1100034 0) = S 1100007 (S 1100025 (S 1100033 0)) := congrArg ((S 1100007)) h57_
          have e873_ : S 1100025 (if S 1092 0 - 1 = S 1092 0 - 1 then p2 else S 57 (S 1092 0 - 1)) = S 1100025 (S 27 (S 1100033 0)) := congrArg ((S 1100025)) (la_stepOther_13 h63_ e871_)
          have e874_ : S 26 (S 1100034 0) = S 26 (S 1100025 (S 1100033 0)) := congrArg ((S 26)) h57_
          exact (sm_SK_q h52_ (la_stepOther_58 h57_ h842_ e873_) rfl rfl)
        exact (la_stepOther_43 h4_ h5_ h36_)
      refine ⟨?_, ?_⟩
      · skip
        intro h875_
        have h876_ := (h64_.resolve_left (la_stepOther_127 h875_))
        have h877_ := (h81_.resolve_left (la_stepOther_128 h875_))
        have h878_ := (h83_.resolve_left (la_stepOther_128 h875_))
        have h879_ := (h876_.resolve_left (la_stepOther_129 h875_))
        have h880_ := (h879_.resolve_left (la_stepOther_130 h875_))
        intro h881_
        have h882_ := (h881_ h25_)
        have h883_ := (h882_ h38_)
        have h884_ := (h883_ h39_)
        obtain ⟨⟨h885_, ⟨h886_, h887_⟩⟩, ⟨⟨h888_, ⟨h889_, ⟨h890_, ⟨h891_, ⟨h892_, h893_⟩⟩⟩⟩⟩, ⟨h894_, ⟨h895_, ⟨h896_, ⟨h897_, ⟨h898_, h899_⟩⟩⟩⟩⟩⟩⟩ := (h884_ (la_stepOther_131 h62_ h875_))
        intro h900_
        have h901_ := (h900_ h57_)
        have h902_ := (h901_ h56_)
        have h903_ := (h902_ h887_)
        intro h904_
        have h905_ := (h904_ h52_)
        have h906_ := (h905_ h26_)
        have h907_ := (h906_ (la_stepOther_49 h880_))
        have h908_ := (h907_ la_stepOther_50)
        have h909_ := (h908_ h54_)
        have h910_ := (h909_ h57_)
        have h911_ := (h910_ h56_)
        have h912_ := (h911_ h55_)
        have h913_ := (h912_ h887_)
        refine ⟨(la_stepOther_24 h36_ h37_ h59_ h880_), ?_⟩
        intro g97
        rintro ⟨h914_, h915_⟩
        refine ⟨?_, ?_⟩
        · skip
          refine ⟨h22_, ?_⟩
          refine ⟨h23_, ?_⟩
          refine ⟨h24_, ?_⟩
          intro h916_
          refine ⟨?_, ?_⟩
          · skip
            have h917_ := (h915_ (S 1092 0 - 1))
            have e918_ : S 1100007 (S 1100034 0) = S 1100007 (S 1100025 (S 1100033 0)) := congrArg ((S 1100007)) h57_
            have e919_ : S 26 (S 1100034 0) = S 26 (S 1100025 (S 1100033 0)) := congrArg ((S 26)) h57_
            have e920_ : S 63 (400 * (S 1092 0 - 1) + S 58 (S 1092 0 - 1) - 1 - 0) = S 63 (400 * (S 1092 0 - 1) + (S 58 (S 1092 0 - 1) - 1)) := congrArg ((S 63)) la_stepOther_55
            have e921_ : S 64 (400 * (S 1092 0 - 1) + S 58 (S 1092 0 - 1) - 1 - 0) = S 64 (400 * (S 1092 0 - 1) + (S 58 (S 1092 0 - 1) - 1)) := congrArg ((S 64)) la_stepOther_55
            obtain ⟨h922_, h923_⟩ := ((sm_VO_e h913_).2.2.1 (la_stepOther_132 h877_ h916_ e920_))
            exact (la_stepOther_134 h878_ e921_ h922_)
          have h924_ := (h915_ (S 1092 0 - 1))
          have e925_ : S 1100007 (S 1100034 0) = S 1100007 (S 1100025 (S 1100033 0)) := congrArg ((S 1100007)) h57_
          have e926_ : S 26 (S 1100034 0) = S 26 (S 1100025 (S 1100033 0)) := congrArg ((S 26)) h57_
          have e927_ : S 63 (400 * (S 1092 0 - 1) + S 58 (S 1092 0 - 1) - 1 - 0) = S 63 (400 * (S 1092 0 - 1) + (S 58 (S 1092 0 - 1) - 1)) := congrArg ((S 63)) la_stepOther_55
          have e928_ : S 64 (400 * (S 1092 0 - 1) + S 58 (S 1092 0 - 1) - 1 - 0) = S 64 (400 * (S 1092 0 - 1) + (S 58 (S 1092 0 - 1) - 1)) := congrArg ((S 64)) la_stepOther_55
          obtain ⟨h929_, h930_⟩ := ((sm_VO_e h913_).2.2.1 (la_stepOther_132 h877_ h916_ e927_))
          exact (la_stepOther_135 h23_ h878_ e928_ h930_)
        intro r107
        intro h931_
        intro h932_
        refine ⟨?_, ?_⟩
        · skip
          intro h933_
          have h934_ := (h932_.resolve_right (la_stepOther_16 h933_))
          refine ⟨(la_stepOther_121 h36_ h37_), ?_⟩
          refine ⟨h7_, ?_⟩
          refine ⟨h8_, ?_⟩
          refine ⟨h9_, ?_⟩
          refine ⟨h10_, ?_⟩
          refine ⟨h11_, ?_⟩
          refine ⟨h12_, ?_⟩
          refine ⟨h13_, ?_⟩
          refine ⟨h14_, ?_⟩
          refine ⟨h15_, ?_⟩
          refine ⟨h16_, ?_⟩
          refine ⟨h17_, ?_⟩
          refine ⟨h18_, ?_⟩
          refine ⟨?_, ?_⟩
          · skip
            intro h935_
            refine ⟨h19_, ?_⟩
            exact h20_
          refine ⟨h21_, ?_⟩
          refine ⟨h22_, ?_⟩
          refine ⟨h23_, ?_⟩
          refine ⟨h24_, ?_⟩
          refine ⟨h33_, ?_⟩
          refine ⟨(la_stepOther_26 h4_), ?_⟩
          refine ⟨(la_stepOther_27 h36_), ?_⟩
          refine ⟨h37_, ?_⟩
          refine ⟨la_stepOther_28, ?_⟩
          refine ⟨?_, ?_⟩
          · skip
            intro h936_
            have h937_ := (h915_ (S 1092 0 - 1))
            have e938_ : S 1100007 (S 1100034 0) = S 1100007 (S 1100025 (S 1100033 0)) := congrArg ((S 1100007)) h57_
            have e939_ : S 26 (S 1100034 0) = S 26 (S 1100025 (S 1100033 0)) := congrArg ((S 26)) h57_
            have e940_ : S 63 (400 * (S 1092 0 - 1) + S 58 (S 1092 0 - 1) - 1 - 0) = S 63 (400 * (S 1092 0 - 1) + (S 58 (S 1092 0 - 1) - 1)) := congrArg ((S 63)) la_stepOther_55
            have e941_ : S 64 (400 * (S 1092 0 - 1) + S 58 (S 1092 0 - 1) - 1 - 0) = S 64 (400 * (S 1092 0 - 1) + (S 58 (S 1092 0 - 1) - 1)) := congrArg ((S 64)) la_stepOther_55
            exact ((la_stepOther_32 h4_ (la_stepOther_30 (la_stepOther_29 h4_) h936_))).elim
          refine ⟨?_, ?_⟩
          · skip
            intro h942_
            intro h943_
            refine ⟨h36_, ?_⟩
            refine ⟨h37_, ?_⟩
            refine ⟨?_, ?_⟩
            · skip
              have h944_ := (h915_ (S 1092 0 - 1))
              have e945_ : (if S 1092 0 - 1 = S 1092 0 - 1 then p2 else S 57 (S 1092 0 - 1) : Int) = p2 := if_pos la_stepOther_122
              have e946_ : S 1100007 (S 1100034 0) = S 1100007 (S 1100025 (S 1100033 0)) := congrArg ((S 1100007)) h57_
              have e947_ : S 26 (S 1100034 0) = S 26 (S 1100025 (S 1100033 0)) := congrArg ((S 26)) h57_
              have e948_ : S 63 (400 * (S 1092 0 - 1) + S 58 (S 1092 0 - 1) - 1 - 0) = S 63 (400 * (S 1092 0 - 1) + (S 58 (S 1092 0 - 1) - 1)) := congrArg ((S 63)) la_stepOther_55
              have e949_ : S 64 (400 * (S 1092 0 - 1) + S 58 (S 1092 0 - 1) - 1 - 0) = S 64 (400 * (S 1092 0 - 1) + (S 58 (S 1092 0 - 1) - 1)) := congrArg ((S 64)) la_stepOther_55
              exact (la_stepOther_123 h63_ h894_ e945_)
            refine ⟨?_, ?_⟩
            · skip
              have h950_ := (h915_ (S 1092 0 - 1))
              have e951_ : (if S 1092 0 - 1 = S 1092 0 - 1 then p2 else S 57 (S 1092 0 - 1) : Int) = p2 := if_pos la_stepOther_122
              have e952_ : S 1100007 (S 1100034 0) = S 1100007 (S 1100025 (S 1100033 0)) := congrArg ((S 1100007)) h57_
              have e953_ : S 26 (S 1100034 0) = S 26 (S 1100025 (S 1100033 0)) := congrArg ((S 26)) h57_
              have e954_ : S 63 (400 * (S 1092 0 - 1) + S 58 (S 1092 0 - 1) - 1 - 0) = S 63 (400 * (S 1092 0 - 1) + (S 58 (S 1092 0 - 1) - 1)) := congrArg ((S 63)) la_stepOther_55
              have e955_ : S 64 (400 * (S 1092 0 - 1) + S 58 (S 1092 0 - 1) - 1 - 0) = S 64 (400 * (S 1092 0 - 1) + (S 58 (S 1092 0 - 1) - 1)) := congrArg ((S 64)) la_stepOther_55
              exact (la_stepOther_124 h63_ h895_ e951_)
            refine ⟨?_, ?_⟩
            · skip
              have h956_ := (h915_ (S 1092 0 - 1))
              have e957_ : (if S 1092 0 - 1 = S 1092 0 - 1 then p2 else S 57 (S 1092 0 - 1) : Int) = p2 := if_pos la_stepOther_122
              have e958_ : S 1100007 (S 1100034 0) = S 1100007 (S 1100025 (S 1100033 0)) := congrArg ((S 1100007)) h57_
              have e959_ : S 26 (S 1100034 0) = S 26 (S 1100025 (S 1100033 0)) := congrArg ((S 26)) h57_
              have e960_ : S 29 (if S 1092 0 - 1 = S 1092 0 - 1 then p2 else S 57 (S 1092 0 - 1)) = S 29 (S 27 (S 1100033 0)) := congrArg ((S 29)) (la_stepOther_13 h63_ e957_)
              have e961_ : S 63 (400 * (S 1092 0 - 1) + S 58 (S 1092 0 - 1) - 1 - 0) = S 63 (400 * (S 1092 0 - 1) + (S 58 (S 1092 0 - 1) - 1)) := congrArg ((S 63)) la_stepOther_55
              have e962_ : S 64 (400 * (S 1092 0 - 1) + S 58 (S 1092 0 - 1) - 1 - 0) = S 64 (400 * (S 1092 0 - 1) + (S 58 (S 1092 0 - 1) - 1)) := congrArg ((S 64)) la_stepOther_55
              exact (la_stepOther_36 h40_ h896_ e960_)
            refine ⟨h41_, ?_⟩
            refine ⟨h42_, ?_⟩
            refine ⟨?_, ?_⟩
            · skip
              have h963_ := (h915_ (S 1092 0 - 1))
              have e964_ : (if S 1092 0 - 1 = S 1092 0 - 1 then p2 else S 57 (S 1092 0 - 1) : Int) = p2 := if_pos la_stepOther_122
              have e965_ : S 1100007 (S 1100034 0) = S 1100007 (S 1100025 (S 1100033 0)) := congrArg ((S 1100007)) h57_
              have e966_ : S 1100023 (if S 1092 0 - 1 = S 1092 0 - 1 then p2 else S 57 (S 1092 0 - 1)) = S 1100023 (S 27 (S 1100033 0)) := congrArg ((S 1100023)) (la_stepOther_13 h63_ e964_)
              have e967_ : S 26 (S 1100034 0) = S 26 (S 1100025 (S 1100033 0)) := congrArg ((S 26)) h57_
              have e968_ : S 63 (400 * (S 1092 0 - 1) + S 58 (S 1092 0 - 1) - 1 - 0) = S 63 (400 * (S 1092 0 - 1) + (S 58 (S 1092 0 - 1) - 1)) := congrArg ((S 63)) la_stepOther_55
              have e969_ : S 64 (400 * (S 1092 0 - 1) + S 58 (S 1092 0 - 1) - 1 - 0) = S 64 (400 * (S 1092 0 - 1) + (S 58 (S 1092 0 - 1) - 1)) := congrArg ((S 64)) la_stepOther_55
              have e970_ : sm_dp (S 1100024) (S 1100023 (if S 1092 0 - 1 = S 1092 0 - 1 then p2 else S 57 (S 1092 0 - 1))) = sm_dp (S 1100024) (S 1100023 (S 1100033 0)) := congrArg ((sm_dp (S 1100024))) (la_stepOther_13 h898_ e966_)
              exact (la_stepOther_37 h43_ e970_)
            refine ⟨?_, ?_⟩
            · skip
              have h971_ := (h915_ (S 1092 0 - 1))
              have e972_ : (if S 1092 0 - 1 = S 1092 0 - 1 then p2 else S 57 (S 1092 0 - 1) : Int) = p2 := if_pos la_stepOther_122
              have e973_ : S 1100007 (S 1100034 0) = S 1100007 (S 1100025 (S 1100033 0)) := congrArg ((S 1100007)) h57_
              have e974_ : S 1100023 (if S 1092 0 - 1 = S 1092 0 - 1 then p2 else S 57 (S 1092 0 - 1)) = S 1100023 (S 27 (S 1100033 0)) := congrArg ((S 1100023)) (la_stepOther_13 h63_ e972_)
              have e975_ : S 26 (S 1100034 0) = S 26 (S 1100025 (S 1100033 0)) := congrArg ((S 26)) h57_
              have e976_ : S 63 (400 * (S 1092 0 - 1) + S 58 (S 1092 0 - 1) - 1 - 0) = S 63 (400 * (S 1092 0 - 1) + (S 58 (S 1092 0 - 1) - 1)) := congrArg ((S 63)) la_stepOther_55
              have e977_ : S 64 (400 * (S 1092 0 - 1) + S 58 (S 1092 0 - 1) - 1 - 0) = S 64 (400 * (S 1092 0 - 1) + (S 58 (S 1092 0 - 1) - 1)) := congrArg ((S 64)) la_stepOther_55
              exact (sm_TC_t h44_ (la_stepOther_38 h898_ e974_))
            refine ⟨h45_, ?_⟩
            refine ⟨h46_, ?_⟩
            refine ⟨h47_, ?_⟩
            refine ⟨(sm_FL_F h48_ sm_F1_rf sm_F1_rf sm_F1_rf sm_F1_rf (sm_F1_up sm_F1_rf (Int.le_refl _)) (sm_F1_le (sm_F1_ne h915_ (Int.le_refl _)) (Int.le_refl _)) sm_F1_rf sm_F1_rf sm_F1_rf sm_F1_rf sm_F1_rf sm_F1_rf (Int.le_refl _) (Int.le_refl _) sm_F1_rf sm_F1_rf (sm_FL_dp h48_ h25_)), ?_⟩
            refine ⟨?_, ?_⟩
            · skip
              have h978_ := (h915_ (S 1092 0 - 1))
              have e979_ : (if S 1092 0 - 1 = S 1092 0 - 1 then p2 else S 57 (S 1092 0 - 1) : Int) = p2 := if_pos la_stepOther_122
              have e980_ : S 1100007 (S 1100034 0) = S 1100007 (S 1100025 (S 1100033 0)) := congrArg ((S 1100007)) h57_
              have e981_ : S 1100007 (if S 1092 0 - 1 = S 1092 0 - 1 then p2 else S 57 (S 1092 0 - 1)) = S 1100007 (S 27 (S 1100033 0)) := congrArg ((S 1100007)) (la_stepOther_13 h63_ e979_)
              have e982_ : S 26 (S 1100034 0) = S 26 (S 1100025 (S 1100033 0)) := congrArg ((S 26)) h57_
              have e983_ : S 63 (400 * (S 1092 0 - 1) + S 58 (S 1092 0 - 1) - 1 - 0) = S 63 (400 * (S 1092 0 - 1) + (S 58 (S 1092 0 - 1) - 1)) := congrArg ((S 63)) la_stepOther_55
              have e984_ : S 64 (400 * (S 1092 0 - 1) + S 58 (S 1092 0 - 1) - 1 - 0) = S 64 (400 * (S 1092 0 - 1) + (S 58 (S 1092 0 - 1) - 1)) := congrArg ((S 64)) la_stepOther_55
              exact (la_stepOther_39 h56_ h897_ h914_ e981_)
            have h985_ := (h915_ (S 1092 0 - 1))
            have e986_ : (if S 1092 0 - 1 = S 1092 0 - 1 then p2 else S 57 (S 1092 0 - 1) : Int) = p2 := if_pos la_stepOther_122
            have e987_ : S 1100007 (S 1100034 0) = S 1100007 (S 1100025 (S 1100033 0)) := congrArg ((S 1100007)) h57_
            have e988_ : S 1100025 (if S 1092 0 - 1 = S 1092 0 - 1 then p2 else S 57 (S 1092 0 - 1)) = S 1100025 (S 27 (S 1100033 0)) := congrArg ((S 1100025)) (la_stepOther_13 h63_ e986_)
            have e989_ : S 26 (S 1100034 0) = S 26 (S 1100025 (S 1100033 0)) := congrArg ((S 26)) h57_
            have e990_ : S 63 (400 * (S 1092 0 - 1) + S 58 (S 1092 0 - 1) - 1 - 0) = S 63 (400 * (S 1092 0 - 1) + (S 58 (S 1092 0 - 1) - 1)) := congrArg ((S 63)) la_stepOther_55
            have e991_ : S 64 (400 * (S 1092 0 - 1) + S 58 (S 1092 0 - 1) - 1 - 0) = S 64 (400 * (S 1092 0 - 1) + (S 58 (S 1092 0 - 1) - 1)) := congrArg ((S 64)) la_stepOther_55
            exact (sm_SK_q (sm_SK_pop h52_ (la_stepOther_136 h914_)) (la_stepOther_58 h57_ h899_ e988_) rfl rfl)
          exact (la_stepOther_43 h4_ h5_ h36_)
        intro h992_
        have h993_ := (h932_.resolve_left h992_)
        refine ⟨(la_stepOther_121 h36_ h37_), ?_⟩
        intro h994_
        refine ⟨(la_stepOther_139 h31_ h38_ h49_ h889_), ?_⟩
        refine ⟨h7_, ?_⟩
        refine ⟨h8_, ?_⟩
        refine ⟨h9_, ?_⟩
        refine ⟨h10_, ?_⟩
        refine ⟨h11_, ?_⟩
        refine ⟨h12_, ?_⟩
        refine ⟨h13_, ?_⟩
        refine ⟨h14_, ?_⟩
        refine ⟨h15_, ?_⟩
        refine ⟨h16_, ?_⟩
        refine ⟨h17_, ?_⟩
        refine ⟨h18_, ?_⟩
        refine ⟨?_, ?_⟩
        · skip
          intro h995_
          refine ⟨h19_, ?_⟩
          exact h20_
        refine ⟨h21_, ?_⟩
        refine ⟨h22_, ?_⟩
        refine ⟨h23_, ?_⟩
        refine ⟨h24_, ?_⟩
        refine ⟨h33_, ?_⟩
        refine ⟨(la_stepOther_26 h4_), ?_⟩
        refine ⟨(la_stepOther_27 h36_), ?_⟩
        refine ⟨h37_, ?_⟩
        refine ⟨la_stepOther_28, ?_⟩
        refine ⟨?_, ?_⟩
        · skip
          intro h996_
          have h997_ := (h915_ (S 1092 0 - 1))
          have e998_ : S 1100007 (S 1100034 0) = S 1100007 (S 1100025 (S 1100033 0)) := congrArg ((S 1100007)) h57_
          have e999_ : S 26 (S 1100034 0) = S 26 (S 1100025 (S 1100033 0)) := congrArg ((S 26)) h57_
          have e1000_ : S 63 (400 * (S 1092 0 - 1) + S 58 (S 1092 0 - 1) - 1 - 0) = S 63 (400 * (S 1092 0 - 1) + (S 58 (S 1092 0 - 1) - 1)) := congrArg ((S 63)) la_stepOther_55
          have e1001_ : S 64 (400 * (S 1092 0 - 1) + S 58 (S 1092 0 - 1) - 1 - 0) = S 64 (400 * (S 1092 0 - 1) + (S 58 (S 1092 0 - 1) - 1)) := congrArg ((S 64)) la_stepOther_55
          exact ((la_stepOther_32 h4_ (la_stepOther_30 (la_stepOther_29 h4_) h996_))).elim
        refine ⟨?_, ?_⟩
        · skip
          intro h1002_
          intro h1003_
          refine ⟨h36_, ?_⟩
          refine ⟨h37_, ?_⟩
          refine ⟨?_, ?_⟩
          · skip
            have h1004_ := (h915_ (S 1092 0 - 1))
            have e1005_ : (if S 1092 0 - 1 = S 1092 0 - 1 then S 57 (S 1092 0 - 1) + 1 else S 57 (S 1092 0 - 1) : Int) = S 57 (S 1092 0 - 1) + 1 := if_pos la_stepOther_122
            have e1006_ : S 1100007 (S 1100034 0) = S 1100007 (S 1100025 (S 1100033 0)) := congrArg ((S 1100007)) h57_
            have e1007_ : S 26 (S 1100034 0) = S 26 (S 1100025 (S 1100033 0)) := congrArg ((S 26)) h57_
            have e1008_ : S 63 (400 * (S 1092 0 - 1) + S 58 (S 1092 0 - 1) - 1 - 0) = S 63 (400 * (S 1092 0 - 1) + (S 58 (S 1092 0 - 1) - 1)) := congrArg ((S 63)) la_stepOther_55
            have e1009_ : S 64 (400 * (S 1092 0 - 1) + S 58 (S 1092 0 - 1) - 1 - 0) = S 64 (400 * (S 1092 0 - 1) + (S 58 (S 1092 0 - 1) - 1)) := congrArg ((S 64)) la_stepOther_55
            exact (la_stepOther_33 h38_ h49_ e1005_)
          refine ⟨?_, ?_⟩
          · skip
            have h1010_ := (h915_ (S 1092 0 - 1))
            have e1011_ : (if S 1092 0 - 1 = S 1092 0 - 1 then S 57 (S 1092 0 - 1) + 1 else S 57 (S 1092 0 - 1) : Int) = S 57 (S 1092 0 - 1) + 1 := if_pos la_stepOther_122
            have e1012_ : S 1100007 (S 1100034 0) = S 1100007 (S 1100025 (S 1100033 0)) := congrArg ((S 1100007)) h57_
            have e1013_ : S 26 (S 1100034 0) = S 26 (S 1100025 (S 1100033 0)) := congrArg ((S 26)) h57_
            have e1014_ : S 63 (400 * (S 1092 0 - 1) + S 58 (S 1092 0 - 1) - 1 - 0) = S 63 (400 * (S 1092 0 - 1) + (S 58 (S 1092 0 - 1) - 1)) := congrArg ((S 63)) la_stepOther_55
            have e1015_ : S 64 (400 * (S 1092 0 - 1) + S 58 (S 1092 0 - 1) - 1 - 0) = S 64 (400 * (S 1092 0 - 1) + (S 58 (S 1092 0 - 1) - 1)) := congrArg ((S 64)) la_stepOther_55
            exact (la_stepOther_34 h49_ h889_ e1011_)
          refine ⟨?_, ?_⟩
          · skip
            have h1016_ := (h915_ (S 1092 0 - 1))
            have e1017_ : (if S 1092 0 - 1 = S 1092 0 - 1 then S 57 (S 1092 0 - 1) + 1 else S 57 (S 1092 0 - 1) : Int) = S 57 (S 1092 0 - 1) + 1 := if_pos la_stepOther_122
            have e1018_ : S 1100007 (S 1100034 0) = S 1100007 (S 1100025 (S 1100033 0)) := congrArg ((S 1100007)) h57_
            have e1019_ : S 26 (S 1100034 0) = S 26 (S 1100025 (S 1100033 0)) := congrArg ((S 26)) h57_
            have e1020_ : S 29 (if S 1092 0 - 1 = S 1092 0 - 1 then S 57 (S 1092 0 - 1) + 1 else S 57 (S 1092 0 - 1)) = S 29 (S 1100033 0 + 1) := congrArg ((S 29)) (la_stepOther_35 h49_ e1017_)
            have e1021_ : S 63 (400 * (S 1092 0 - 1) + S 58 (S 1092 0 - 1) - 1 - 0) = S 63 (400 * (S 1092 0 - 1) + (S 58 (S 1092 0 - 1) - 1)) := congrArg ((S 63)) la_stepOther_55
            have e1022_ : S 64 (400 * (S 1092 0 - 1) + S 58 (S 1092 0 - 1) - 1 - 0) = S 64 (400 * (S 1092 0 - 1) + (S 58 (S 1092 0 - 1) - 1)) := congrArg ((S 64)) la_stepOther_55
            exact (la_stepOther_36 h40_ h890_ e1020_)
          refine ⟨h41_, ?_⟩
          refine ⟨h42_, ?_⟩
          refine ⟨?_, ?_⟩
          · skip
            have h1023_ := (h915_ (S 1092 0 - 1))
            have e1024_ : (if S 1092 0 - 1 = S 1092 0 - 1 then S 57 (S 1092 0 - 1) + 1 else S 57 (S 1092 0 - 1) : Int) = S 57 (S 1092 0 - 1) + 1 := if_pos la_stepOther_122
            have e1025_ : S 1100007 (S 1100034 0) = S 1100007 (S 1100025 (S 1100033 0)) := congrArg ((S 1100007)) h57_
            have e1026_ : S 1100023 (if S 1092 0 - 1 = S 1092 0 - 1 then S 57 (S 1092 0 - 1) + 1 else S 57 (S 1092 0 - 1)) = S 1100023 (S 1100033 0 + 1) := congrArg ((S 1100023)) (la_stepOther_35 h49_ e1024_)
            have e1027_ : S 26 (S 1100034 0) = S 26 (S 1100025 (S 1100033 0)) := congrArg ((S 26)) h57_
            have e1028_ : S 63 (400 * (S 1092 0 - 1) + S 58 (S 1092 0 - 1) - 1 - 0) = S 63 (400 * (S 1092 0 - 1) + (S 58 (S 1092 0 - 1) - 1)) := congrArg ((S 63)) la_stepOther_55
            have e1029_ : S 64 (400 * (S 1092 0 - 1) + S 58 (S 1092 0 - 1) - 1 - 0) = S 64 (400 * (S 1092 0 - 1) + (S 58 (S 1092 0 - 1) - 1)) := congrArg ((S 64)) la_stepOther_55
            have e1030_ : sm_dp (S 1100024) (S 1100023 (if S 1092 0 - 1 = S 1092 0 - 1 then S 57 (S 1092 0 - 1) + 1 else S 57 (S 1092 0 - 1))) = sm_dp (S 1100024) (S 1100023 (S 1100033 0)) := congrArg ((sm_dp (S 1100024))) (la_stepOther_13 h892_ e1026_)
            exact (la_stepOther_37 h43_ e1030_)
          refine ⟨?_, ?_⟩
          · skip
            have h1031_ := (h915_ (S 1092 0 - 1))
            have e1032_ : (if S 1092 0 - 1 = S 1092 0 - 1 then S 57 (S 1092 0 - 1) + 1 else S 57 (S 1092 0 - 1) : Int) = S 57 (S 1092 0 - 1) + 1 := if_pos la_stepOther_122
            have e1033_ : S 1100007 (S 1100034 0) = S 1100007 (S 1100025 (S 1100033 0)) := congrArg ((S 1100007)) h57_
            have e1034_ : S 1100023 (if S 1092 0 - 1 = S 1092 0 - 1 then S 57 (S 1092 0 - 1) + 1 else S 57 (S 1092 0 - 1)) = S 1100023 (S 1100033 0 + 1) := congrArg ((S 1100023)) (la_stepOther_35 h49_ e1032_)
            have e1035_ : S 26 (S 1100034 0) = S 26 (S 1100025 (S 1100033 0)) := congrArg ((S 26)) h57_
            have e1036_ : S 63 (400 * (S 1092 0 - 1) + S 58 (S 1092 0 - 1) - 1 - 0) = S 63 (400 * (S 1092 0 - 1) + (S 58 (S 1092 0 - 1) - 1)) := congrArg ((S 63)) la_stepOther_55
            have e1037_ : S 64 (400 * (S 1092 0 - 1) + S 58 (S 1092 0 - 1) - 1 - 0) = S 64 (400 * (S 1092 0 - 1) + (S 58 (S 1092 0 - 1) - 1)) := congrArg ((S 64)) la_stepOther_55
            exact (sm_TC_t h44_ (la_stepOther_38 h892_ e1034_))
          refine ⟨h45_, ?_⟩
          refine ⟨h46_, ?_⟩
          refine ⟨h47_, ?_⟩
          refine ⟨(sm_FL_F h48_ sm_F1_rf sm_F1_rf sm_F1_rf sm_F1_rf (sm_F1_up sm_F1_rf (Int.le_refl _)) (sm_F1_le (sm_F1_ne h915_ (Int.le_refl _)) (Int.le_refl _)) sm_F1_rf sm_F1_rf sm_F1_rf sm_F1_rf sm_F1_rf sm_F1_rf (Int.le_refl _) (Int.le_refl _) sm_F1_rf sm_F1_rf (sm_FL_dp h48_ h25_)), ?_⟩
          refine ⟨?_, ?_⟩
          · skip
            have h1038_ := (h915_ (S 1092 0 - 1))
            have e1039_ : (if S 1092 0 - 1 = S 1092 0 - 1 then S 57 (S 1092 0 - 1) + 1 else S 57 (S 1092 0 - 1) : Int) = S 57 (S 1092 0 - 1) + 1 := if_pos la_stepOther_122
            have e1040_ : S 1100007 (S 1100034 0) = S 1100007 (S 1100025 (S 1100033 0)) := congrArg ((S 1100007)) h57_
            have e1041_ : S 1100007 (if S 1092 0 - 1 = S 1092 0 - 1 then S 57 (S 1092 0 - 1) + 1 else S 57 (S 1092 0 - 1)) = S 1100007 (S 1100033 0 + 1) := congrArg ((S 1100007)) (la_stepOther_35 h49_ e1039_)
            have e1042_ : S 26 (S 1100034 0) = S 26 (S 1100025 (S 1100033 0)) := congrArg ((S 26)) h57_
            have e1043_ : S 63 (400 * (S 1092 0 - 1) + S 58 (S 1092 0 - 1) - 1 - 0) = S 63 (400 * (S 1092 0 - 1) + (S 58 (S 1092 0 - 1) - 1)) := congrArg ((S 63)) la_stepOther_55
            have e1044_ : S 64 (400 * (S 1092 0 - 1) + S 58 (S 1092 0 - 1) - 1 - 0) = S 64 (400 * (S 1092 0 - 1) + (S 58 (S 1092 0 - 1) - 1)) := congrArg ((S 64)) la_stepOther_55
            exact (la_stepOther_39 h56_ h891_ h914_ e1041_)
          have h1045_ := (h915_ (S 1092 0 - 1))
          have e1046_ : (if S 1092 0 - 1 = S 1092 0 - 1 then S 57 (S 1092 0 - 1) + 1 else S 57 (S 1092 0 - 1) : Int) = S 57 (S 1092 0 - 1) + 1 := if_pos la_stepOther_122
          have e1047_ : S 1100007 (S 1100034 0) = S 1100007 (S 1100025 (S 1100033 0)) := congrArg ((S 1100007)) h57_
          have e1048_ : S 1100025 (if S 1092 0 - 1 = S 1092 0 - 1 then S 57 (S 1092 0 - 1) + 1 else S 57 (S 1092 0 - 1)) = S 1100025 (S 1100033 0 + 1) := congrArg ((S 1100025)) (la_stepOther_35 h49_ e1046_)
          have e1049_ : S 26 (S 1100034 0) = S 26 (S 1100025 (S 1100033 0)) := congrArg ((S 26)) h57_
          have e1050_ : S 63 (400 * (S 1092 0 - 1) + S 58 (S 1092 0 - 1) - 1 - 0) = S 63 (400 * (S 1092 0 - 1) + (S 58 (S 1092 0 - 1) - 1)) := congrArg ((S 63)) la_stepOther_55
          have e1051_ : S 64 (400 * (S 1092 0 - 1) + S 58 (S 1092 0 - 1) - 1 - 0) = S 64 (400 * (S 1092 0 - 1) + (S 58 (S 1092 0 - 1) - 1)) := congrArg ((S 64)) la_stepOther_55
          exact (sm_SK_q (sm_SK_pop h52_ (la_stepOther_136 h914_)) (la_stepOther_58 h57_ h893_ e1048_) rfl rfl)
        exact (la_stepOther_43 h4_ h5_ h36_)
      refine ⟨?_, ?_⟩
      · skip
        intro h1052_
        intro h1053_
        have h1054_ := (h1053_ h81_)
        have h1055_ := (h1054_ h1052_)
        intro h1056_
        have h1057_ := (h1056_ h83_)
        have h1058_ := (h1057_ h1052_)
        intro h1059_
        have h1060_ := (h1059_ h25_)
        have h1061_ := (h1060_ h38_)
        have h1062_ := (h1061_ h39_)
        have h1063_ := (h1062_ h1052_)
        obtain ⟨⟨h1064_, ⟨h1065_, h1066_⟩⟩, ⟨⟨h1067_, ⟨h1068_, ⟨h1069_, ⟨h1070_, ⟨h1071_, h1072_⟩⟩⟩⟩⟩, ⟨h1073_, ⟨h1074_, ⟨h1075_, ⟨h1076_, ⟨h1077_, h1078_⟩⟩⟩⟩⟩⟩⟩ := (h1063_ h62_)
        intro h1079_
        have h1080_ := (h1079_ h57_)
        have h1081_ := (h1080_ h56_)
        have h1082_ := (h1081_ h1066_)
        intro h1083_
        have h1084_ := (h1083_ h52_)
        have h1085_ := (h1084_ h26_)
        have h1086_ := (h1085_ (la_stepOther_140 h56_ h1064_))
        have h1087_ := (h1086_ la_stepOther_50)
        have h1088_ := (h1087_ h54_)
        have h1089_ := (h1088_ h57_)
        have h1090_ := (h1089_ h56_)
        have h1091_ := (h1090_ h55_)
        have h1092_ := (h1091_ h1066_)
        refine ⟨?_, ?_⟩
        · skip
          refine ⟨h22_, ?_⟩
          refine ⟨h23_, ?_⟩
          refine ⟨h24_, ?_⟩
          intro h1093_
          refine ⟨?_, ?_⟩
          · skip
            have e1094_ : S 1100007 (S 1100034 0) = S 1100007 (S 1100025 (S 1100033 0)) := congrArg ((S 1100007)) h57_
            have e1095_ : S 26 (S 1100034 0) = S 26 (S 1100025 (S 1100033 0)) := congrArg ((S 26)) h57_
            have e1096_ : S 63 (400 * (S 1092 0 - 1) + S 58 (S 1092 0 - 1) - 1 - 0) = S 63 (400 * (S 1092 0 - 1) + (S 58 (S 1092 0 - 1) - 1)) := congrArg ((S 63)) la_stepOther_55
            have e1097_ : S 64 (400 * (S 1092 0 - 1) + S 58 (S 1092 0 - 1) - 1 - 0) = S 64 (400 * (S 1092 0 - 1) + (S 58 (S 1092 0 - 1) - 1)) := congrArg ((S 64)) la_stepOther_55
            obtain ⟨h1098_, h1099_⟩ := ((sm_VO_e h1092_).2.2.1 (la_stepOther_132 h1055_ h1093_ e1096_))
            exact (la_stepOther_134 h1058_ e1097_ h1098_)
          have e1100_ : S 1100007 (S 1100034 0) = S 1100007 (S 1100025 (S 1100033 0)) := congrArg ((S 1100007)) h57_
          have e1101_ : S 26 (S 1100034 0) = S 26 (S 1100025 (S 1100033 0)) := congrArg ((S 26)) h57_
          have e1102_ : S 63 (400 * (S 1092 0 - 1) + S 58 (S 1092 0 - 1) - 1 - 0) = S 63 (400 * (S 1092 0 - 1) + (S 58 (S 1092 0 - 1) - 1)) := congrArg ((S 63)) la_stepOther_55
          have e1103_ : S 64 (400 * (S 1092 0 - 1) + S 58 (S 1092 0 - 1) - 1 - 0) = S 64 (400 * (S 1092 0 - 1) + (S 58 (S 1092 0 - 1) - 1)) := congrArg ((S 64)) la_stepOther_55
          obtain ⟨h1104_, h1105_⟩ := ((sm_VO_e h1092_).2.2.1 (la_stepOther_132 h1055_ h1093_ e1102_))
          exact (la_stepOther_135 h23_ h1058_ e1103_ h1105_)
        intro r126
        intro h1106_
        intro h1107_
        refine ⟨?_, ?_⟩
        · skip
          intro h1108_
          have h1109_ := (h1052_.resolve_left h1108_)
          have h1110_ := (h64_.resolve_left (la_stepOther_143 h1109_))
          have h1111_ := (h1110_.resolve_left (la_stepOther_144 h1109_))
          have h1112_ := (h1111_.resolve_left (la_stepOther_145 h1109_))
          refine ⟨?_, ?_⟩
          · skip
            intro h1113_
            have h1114_ := (h1107_.resolve_left h1113_)
            refine ⟨(la_stepOther_121 h36_ h37_), ?_⟩
            refine ⟨h7_, ?_⟩
            refine ⟨h8_, ?_⟩
            refine ⟨h9_, ?_⟩
            refine ⟨h10_, ?_⟩
            refine ⟨h11_, ?_⟩
            refine ⟨h12_, ?_⟩
            refine ⟨h13_, ?_⟩
            refine ⟨h14_, ?_⟩
            refine ⟨h15_, ?_⟩
            refine ⟨h16_, ?_⟩
            refine ⟨h17_, ?_⟩
            refine ⟨h18_, ?_⟩
            refine ⟨?_, ?_⟩
            · skip
              intro h1115_
              refine ⟨h19_, ?_⟩
              exact h20_
            refine ⟨h21_, ?_⟩
            refine ⟨h22_, ?_⟩
            refine ⟨h23_, ?_⟩
            refine ⟨h24_, ?_⟩
            refine ⟨h33_, ?_⟩
            refine ⟨(la_stepOther_26 h4_), ?_⟩
            refine ⟨(la_stepOther_27 h36_), ?_⟩
            refine ⟨h37_, ?_⟩
            refine ⟨la_stepOther_28, ?_⟩
            refine ⟨?_, ?_⟩
            · skip
              intro h1116_
              exact h6_
            refine ⟨?_, ?_⟩
            · skip
              intro h1117_
              intro h1118_
              refine ⟨h36_, ?_⟩
              refine ⟨h37_, ?_⟩
              refine ⟨?_, ?_⟩
              · skip
                have e1119_ : (if S 1092 0 - 1 = S 1092 0 - 1 then p2 else S 57 (S 1092 0 - 1) : Int) = p2 := if_pos la_stepOther_122
                have e1120_ : S 1100007 (S 1100034 0) = S 1100007 (S 1100025 (S 1100033 0)) := congrArg ((S 1100007)) h57_
                have e1121_ : S 26 (S 1100034 0) = S 26 (S 1100025 (S 1100033 0)) := congrArg ((S 26)) h57_
                have e1122_ : S 63 (400 * (S 1092 0 - 1) + S 58 (S 1092 0 - 1) - 1 - 0) = S 63 (400 * (S 1092 0 - 1) + (S 58 (S 1092 0 - 1) - 1)) := congrArg ((S 63)) la_stepOther_55
                have e1123_ : S 64 (400 * (S 1092 0 - 1) + S 58 (S 1092 0 - 1) - 1 - 0) = S 64 (400 * (S 1092 0 - 1) + (S 58 (S 1092 0 - 1) - 1)) := congrArg ((S 64)) la_stepOther_55
                exact (la_stepOther_123 h63_ h1073_ e1119_)
              refine ⟨?_, ?_⟩
              · skip
                have e1124_ : (if S 1092 0 - 1 = S 1092 0 - 1 then p2 else S 57 (S 1092 0 - 1) : Int) = p2 := if_pos la_stepOther_122
                have e1125_ : S 1100007 (S 1100034 0) = S 1100007 (S 1100025 (S 1100033 0)) := congrArg ((S 1100007)) h57_
                have e1126_ : S 26 (S 1100034 0) = S 26 (S 1100025 (S 1100033 0)) := congrArg ((S 26)) h57_
                have e1127_ : S 63 (400 * (S 1092 0 - 1) + S 58 (S 1092 0 - 1) - 1 - 0) = S 63 (400 * (S 1092 0 - 1) + (S 58 (S 1092 0 - 1) - 1)) := congrArg ((S 63)) la_stepOther_55
                have e1128_ : S 64 (400 * (S 1092 0 - 1) + S 58 (S 1092 0 - 1) - 1 - 0) = S 64 (400 * (S 1092 0 - 1) + (S 58 (S 1092 0 - 1) - 1)) := congrArg ((S 64)) la_stepOther_55
                exact (la_stepOther_124 h63_ h1074_ e1124_)
              refine ⟨?_, ?_⟩
              · skip
                have e1129_ : (if S 1092 0 - 1 = S 1092 0 - 1 then p2 else S 57 (S 1092 0 - 1) : Int) = p2 := if_pos la_stepOther_122
                have e1130_ : S 1100007 (S 1100034 0) = S 1100007 (S 1100025 (S 1100033 0)) := congrArg ((S 1100007)) h57_
                have e1131_ : S 26 (S 1100034 0) = S 26 (S 1100025 (S 1100033 0)) := congrArg ((S 26)) h57_
                have e1132_ : S 29 (if S 1092 0 - 1 = S 1092 0 - 1 then p2 else S 57 (S 1092 0 - 1)) = S 29 (S 27 (S 1100033 0)) := congrArg ((S 29)) (la_stepOther_13 h63_ e1129_)
                have e1133_ : S 63 (400 * (S 1092 0 - 1) + S 58 (S 1092 0 - 1) - 1 - 0) = S 63 (400 * (S 1092 0 - 1) + (S 58 (S 1092 0 - 1) - 1)) := congrArg ((S 63)) la_stepOther_55
                have e1134_ : S 64 (400 * (S 1092 0 - 1) + S 58 (S 1092 0 - 1) - 1 - 0) = S 64 (400 * (S 1092 0 - 1) + (S 58 (S 1092 0 - 1) - 1)) := congrArg ((S 64)) la_stepOther_55
                exact (la_stepOther_36 h40_ h1075_ e1132_)
              refine ⟨h41_, ?_⟩
              refine ⟨h42_, ?_⟩
              refine ⟨?_, ?_⟩
              · skip
                have e1135_ : (if S 1092 0 - 1 = S 1092 0 - 1 then p2 else S 57 (S 1092 0 - 1) : Int) = p2 := if_pos la_stepOther_122
                have e1136_ : S 1100007 (S 1100034 0) = S 1100007 (S 1100025 (S 1100033 0)) := congrArg ((S 1100007)) h57_
                have e1137_ : S 1100023 (if S 1092 0 - 1 = S 1092 0 - 1 then p2 else S 57 (S 1092 0 - 1)) = S 1100023 (S 27 (S 1100033 0)) := congrArg ((S 1100023)) (la_stepOther_13 h63_ e1135_)
                have e1138_ : S 26 (S 1100034 0) = S 26 (S 1100025 (S 1100033 0)) := congrArg ((S 26)) h57_
                have e1139_ : S 63 (400 * (S 1092 0 - 1) + S 58 (S 1092 0 - 1) - 1 - 0) = S 63 (400 * (S 1092 0 - 1) + (S 58 (S 1092 0 - 1) - 1)) := congrArg ((S 63)) la_stepOther_55
                have e1140_ : S 64 (400 * (S 1092 0 - 1) + S 58 (S 1092 0 - 1) - 1 - 0) = S 64 (400 * (S 1092 0 - 1) + (S 58 (S 1092 0 - 1) - 1)) := congrArg ((S 64)) la_stepOther_55
                have e1141_ : sm_dp (S 1100024) (S 1100023 (if S 1092 0 - 1 = S 1092 0 - 1 then p2 else S 57 (S 1092 0 - 1))) = sm_dp (S 1100024) (S 1100023 (S 1100033 0)) := congrArg ((sm_dp (S 1100024))) (la_stepOther_13 h1077_ e1137_)
                exact (la_stepOther_37 h43_ e1141_)
              refine ⟨?_, ?_⟩
              · skip
                have e1142_ : (if S 1092 0 - 1 = S 1092 0 - 1 then p2 else S 57 (S 1092 0 - 1) : Int) = p2 := if_pos la_stepOther_122
                have e1143_ : S 1100007 (S 1100034 0) = S 1100007 (S 1100025 (S 1100033 0)) := congrArg ((S 1100007)) h57_
                have e1144_ : S 1100023 (if S 1092 0 - 1 = S 1092 0 - 1 then p2 else S 57 (S 1092 0 - 1)) = S 1100023 (S 27 (S 1100033 0)) := congrArg ((S 1100023)) (la_stepOther_13 h63_ e1142_)
                have e1145_ : S 26 (S 1100034 0) = S 26 (S 1100025 (S 1100033 0)) := congrArg ((S 26)) h57_
                have e1146_ : S 63 (400 * (S 1092 0 - 1) + S 58 (S 1092 0 - 1) - 1 - 0) = S 63 (400 * (S 1092 0 - 1) + (S 58 (S 1092 0 - 1) - 1)) := congrArg ((S 63)) la_stepOther_55
                have e1147_ : S 64 (400 * (S 1092 0 - 1) + S 58 (S 1092 0 - 1) - 1 - 0) = S 64 (400 * (S 1092 0 - 1) + (S 58 (S 1092 0 - 1) - 1)) := congrArg ((S 64)) la_stepOther_55
                exact (sm_TC_t h44_ (la_stepOther_38 h1077_ e1144_))
              refine ⟨h45_, ?_⟩
              refine ⟨h46_, ?_⟩
              refine ⟨h47_, ?_⟩
              refine ⟨(sm_FL_F h48_ sm_F1_rf sm_F1_rf sm_F1_rf sm_F1_rf (sm_F1_up sm_F1_rf (Int.le_refl _)) sm_F1_rf sm_F1_rf sm_F1_rf sm_F1_rf sm_F1_rf sm_F1_rf sm_F1_rf (Int.le_refl _) (Int.le_refl _) sm_F1_rf sm_F1_rf (sm_FL_dp h48_ h25_)), ?_⟩
              refine ⟨?_, ?_⟩
              · skip
                have e1148_ : (if S 1092 0 - 1 = S 1092 0 - 1 then p2 else S 57 (S 1092 0 - 1) : Int) = p2 := if_pos la_stepOther_122
                have e1149_ : S 1100007 (S 1100034 0) = S 1100007 (S 1100025 (S 1100033 0)) := congrArg ((S 1100007)) h57_
                have e1150_ : S 1100007 (if S 1092 0 - 1 = S 1092 0 - 1 then p2 else S 57 (S 1092 0 - 1)) = S 1100007 (S 27 (S 1100033 0)) := congrArg ((S 1100007)) (la_stepOther_13 h63_ e1148_)
                have e1151_ : S 26 (S 1100034 0) = S 26 (S 1100025 (S 1100033 0)) := congrArg ((S 26)) h57_
                have e1152_ : S 63 (400 * (S 1092 0 - 1) + S 58 (S 1092 0 - 1) - 1 - 0) = S 63 (400 * (S 1092 0 - 1) + (S 58 (S 1092 0 - 1) - 1)) := congrArg ((S 63)) la_stepOther_55
                have e1153_ : S 64 (400 * (S 1092 0 - 1) + S 58 (S 1092 0 - 1) - 1 - 0) = S 64 (400 * (S 1092 0 - 1) + (S 58 (S 1092 0 - 1) - 1)) := congrArg ((S 64)) la_stepOther_55
                exact (la_stepOther_125 h56_ h1076_ e1150_)
              have e1154_ : (if S 1092 0 - 1 = S 1092 0 - 1 then p2 else S 57 (S 1092 0 - 1) : Int) = p2 := if_pos la_stepOther_122
              have e1155_ : S 1100007 (S 1100034 0) = S 1100007 (S 1100025 (S 1100033 0)) := congrArg ((S 1100007)) h57_
              have e1156_ : S 1100025 (if S 1092 0 - 1 = S 1092 0 - 1 then p2 else S 57 (S 1092 0 - 1)) = S 1100025 (S 27 (S 1100033 0)) := congrArg ((S 1100025)) (la_stepOther_13 h63_ e1154_)
              have e1157_ : S 26 (S 1100034 0) = S 26 (S 1100025 (S 1100033 0)) := congrArg ((S 26)) h57_
              have e1158_ : S 63 (400 * (S 1092 0 - 1) + S 58 (S 1092 0 - 1) - 1 - 0) = S 63 (400 * (S 1092 0 - 1) + (S 58 (S 1092 0 - 1) - 1)) := congrArg ((S 63)) la_stepOther_55
              have e1159_ : S 64 (400 * (S 1092 0 - 1) + S 58 (S 1092 0 - 1) - 1 - 0) = S 64 (400 * (S 1092 0 - 1) + (S 58 (S 1092 0 - 1) - 1)) := congrArg ((S 64)) la_stepOther_55
              exact (sm_SK_q h52_ (la_stepOther_58 h57_ h1078_ e1156_) rfl rfl)
            exact (la_stepOther_43 h4_ h5_ h36_)
          intro h1160_
          have h1161_ := (h1107_.resolve_right (la_stepOther_146 h1160_))
          refine ⟨(la_stepOther_24 h36_ h37_ h59_ h1112_), ?_⟩
          intro g131
          rintro ⟨h1162_, h1163_⟩
          refine ⟨(la_stepOther_25 h31_ h36_ h37_ h38_ h49_ h1068_), ?_⟩
          intro g137
          rintro ⟨h1164_, h1165_⟩
          refine ⟨h7_, ?_⟩
          refine ⟨h8_, ?_⟩
          refine ⟨h9_, ?_⟩
          refine ⟨h10_, ?_⟩
          refine ⟨h11_, ?_⟩
          refine ⟨h12_, ?_⟩
          refine ⟨h13_, ?_⟩
          refine ⟨h14_, ?_⟩
          refine ⟨h15_, ?_⟩
          refine ⟨h16_, ?_⟩
          refine ⟨h17_, ?_⟩
          refine ⟨h18_, ?_⟩
          refine ⟨?_, ?_⟩
          · skip
            intro h1166_
            refine ⟨h19_, ?_⟩
            exact h20_
          refine ⟨h21_, ?_⟩
          refine ⟨h22_, ?_⟩
          refine ⟨h23_, ?_⟩
          refine ⟨h24_, ?_⟩
          refine ⟨h33_, ?_⟩
          refine ⟨(la_stepOther_26 h4_), ?_⟩
          refine ⟨(la_stepOther_27 h36_), ?_⟩
          refine ⟨h37_, ?_⟩
          refine ⟨la_stepOther_28, ?_⟩
          refine ⟨?_, ?_⟩
          · skip
            intro h1167_
            have h1168_ := (h1163_ (S 1092 0 - 1))
            have h1169_ := (h1165_ (S 1092 0 - 1))
            have e1170_ : S 1100007 (S 1100034 0) = S 1100007 (S 1100025 (S 1100033 0)) := congrArg ((S 1100007)) h57_
            have e1171_ : S 26 (S 1100034 0) = S 26 (S 1100025 (S 1100033 0)) := congrArg ((S 26)) h57_
            have e1172_ : S 63 (400 * (S 1092 0 - 1) + S 58 (S 1092 0 - 1) - 1 - 0) = S 63 (400 * (S 1092 0 - 1) + (S 58 (S 1092 0 - 1) - 1)) := congrArg ((S 63)) la_stepOther_55
            have e1173_ : S 64 (400 * (S 1092 0 - 1) + S 58 (S 1092 0 - 1) - 1 - 0) = S 64 (400 * (S 1092 0 - 1) + (S 58 (S 1092 0 - 1) - 1)) := congrArg ((S 64)) la_stepOther_55
            exact ((la_stepOther_32 h4_ (la_stepOther_30 (la_stepOther_29 h4_) h1167_))).elim
          refine ⟨?_, ?_⟩
          · skip
            intro h1174_
            intro h1175_
            refine ⟨h36_, ?_⟩
            refine ⟨h37_, ?_⟩
            refine ⟨(la_stepOther_33 h38_ h49_ h1164_), ?_⟩
            refine ⟨(la_stepOther_34 h49_ h1068_ h1164_), ?_⟩
            refine ⟨?_, ?_⟩
            · skip
              have h1176_ := (h1163_ (S 1092 0 - 1))
              have h1177_ := (h1165_ (S 1092 0 - 1))
              have e1178_ : S 1100007 (S 1100034 0) = S 1100007 (S 1100025 (S 1100033 0)) := congrArg ((S 1100007)) h57_
              have e1179_ : S 26 (S 1100034 0) = S 26 (S 1100025 (S 1100033 0)) := congrArg ((S 26)) h57_
              have e1180_ : S 29 (g137 57 (S 1092 0 - 1)) = S 29 (S 1100033 0 + 1) := congrArg ((S 29)) (la_stepOther_35 h49_ h1164_)
              have e1181_ : S 63 (400 * (S 1092 0 - 1) + S 58 (S 1092 0 - 1) - 1 - 0) = S 63 (400 * (S 1092 0 - 1) + (S 58 (S 1092 0 - 1) - 1)) := congrArg ((S 63)) la_stepOther_55
              have e1182_ : S 64 (400 * (S 1092 0 - 1) + S 58 (S 1092 0 - 1) - 1 - 0) = S 64 (400 * (S 1092 0 - 1) + (S 58 (S 1092 0 - 1) - 1)) := congrArg ((S 64)) la_stepOther_55
              exact (la_stepOther_36 h40_ h1069_ e1180_)
            refine ⟨h41_, ?_⟩
            refine ⟨h42_, ?_⟩
            refine ⟨?_, ?_⟩
            · skip
              have h1183_ := (h1163_ (S 1092 0 - 1))
              have h1184_ := (h1165_ (S 1092 0 - 1))
              have e1185_ : S 1100007 (S 1100034 0) = S 1100007 (S 1100025 (S 1100033 0)) := congrArg ((S 1100007)) h57_
              have e1186_ : S 1100023 (g137 57 (S 1092 0 - 1)) = S 1100023 (S 1100033 0 + 1) := congrArg ((S 1100023)) (la_stepOther_35 h49_ h1164_)
              have e1187_ : S 26 (S 1100034 0) = S 26 (S 1100025 (S 1100033 0)) := congrArg ((S 26)) h57_
              have e1188_ : S 63 (400 * (S 1092 0 - 1) + S 58 (S 1092 0 - 1) - 1 - 0) = S 63 (400 * (S 1092 0 - 1) + (S 58 (S 1092 0 - 1) - 1)) := congrArg ((S 63)) la_stepOther_55
              have e1189_ : S 64 (400 * (S 1092 0 - 1) + S 58 (S 1092 0 - 1) - 1 - 0) = S 64 (400 * (S 1092 0 - 1) + (S 58 (S 1092 0 - 1) - 1)) := congrArg ((S 64)) la_stepOther_55
              have e1190_ : sm_dp (S 1100024) (S 1100023 (g137 57 (S 1092 0 - 1))) = sm_dp (S 1100024) (S 1100023 (S 1100033 0)) := congrArg ((sm_dp (S 1100024))) (la_stepOther_13 h1071_ e1186_)
              exact (la_stepOther_37 h43_ e1190_)
            refine ⟨?_, ?_⟩
            · skip
              have h1191_ := (h1163_ (S 1092 0 - 1))
              have h1192_ := (h1165_ (S 1092 0 - 1))
              have e1193_ : S 1100007 (S 1100034 0) = S 1100007 (S 1100025 (S 1100033 0)) := congrArg ((S 1100007)) h57_
              have e1194_ : S 1100023 (g137 57 (S 1092 0 - 1)) = S 1100023 (S 1100033 0 + 1) := congrArg ((S 1100023)) (la_stepOther_35 h49_ h1164_)
              have e1195_ : S 26 (S 1100034 0) = S 26 (S 1100025 (S 1100033 0)) := congrArg ((S 26)) h57_
              have e1196_ : S 63 (400 * (S 1092 0 - 1) + S 58 (S 1092 0 - 1) - 1 - 0) = S 63 (400 * (S 1092 0 - 1) + (S 58 (S 1092 0 - 1) - 1)) := congrArg ((S 63)) la_stepOther_55
              have e1197_ : S 64 (400 * (S 1092 0 - 1) + S 58 (S 1092 0 - 1) - 1 - 0) = S 64 (400 * (S 1092 0 - 1) + (S 58 (S 1092 0 - 1) - 1)) := congrArg ((S 64)) la_stepOther_55
              exact (sm_TC_t h44_ (la_stepOther_38 h1071_ e1194_))
            refine ⟨h45_, ?_⟩
            refine ⟨h46_, ?_⟩
            refine ⟨h47_, ?_⟩
            refine ⟨(sm_FL_F h48_ sm_F1_rf sm_F1_rf sm_F1_rf sm_F1_rf (sm_F1_le (sm_F1_ne h1165_ (Int.le_refl _)) (Int.le_refl _)) (sm_F1_le (sm_F1_ne h1163_ (Int.le_refl _)) (Int.le_refl _)) sm_F1_rf sm_F1_rf sm_F1_rf sm_F1_rf sm_F1_rf sm_F1_rf (Int.le_refl _) (Int.le_refl _) sm_F1_rf sm_F1_rf (sm_FL_dp h48_ h25_)), ?_⟩
            refine ⟨?_, ?_⟩
            · skip
              have h1198_ := (h1163_ (S 1092 0 - 1))
              have h1199_ := (h1165_ (S 1092 0 - 1))
              have e1200_ : S 1100007 (S 1100034 0) = S 1100007 (S 1100025 (S 1100033 0)) := congrArg ((S 1100007)) h57_
              have e1201_ : S 1100007 (g137 57 (S 1092 0 - 1)) = S 1100007 (S 1100033 0 + 1) := congrArg ((S 1100007)) (la_stepOther_35 h49_ h1164_)
              have e1202_ : S 26 (S 1100034 0) = S 26 (S 1100025 (S 1100033 0)) := congrArg ((S 26)) h57_
              have e1203_ : S 63 (400 * (S 1092 0 - 1) + S 58 (S 1092 0 - 1) - 1 - 0) = S 63 (400 * (S 1092 0 - 1) + (S 58 (S 1092 0 - 1) - 1)) := congrArg ((S 63)) la_stepOther_55
              have e1204_ : S 64 (400 * (S 1092 0 - 1) + S 58 (S 1092 0 - 1) - 1 - 0) = S 64 (400 * (S 1092 0 - 1) + (S 58 (S 1092 0 - 1) - 1)) := congrArg ((S 64)) la_stepOther_55
              exact (la_stepOther_39 h56_ h1070_ h1162_ e1201_)
            have h1205_ := (h1163_ (S 1092 0 - 1))
            have h1206_ := (h1165_ (S 1092 0 - 1))
            have e1207_ : S 1100007 (S 1100034 0) = S 1100007 (S 1100025 (S 1100033 0)) := congrArg ((S 1100007)) h57_
            have e1208_ : S 1100025 (g137 57 (S 1092 0 - 1)) = S 1100025 (S 1100033 0 + 1) := congrArg ((S 1100025)) (la_stepOther_35 h49_ h1164_)
            have e1209_ : S 26 (S 1100034 0) = S 26 (S 1100025 (S 1100033 0)) := congrArg ((S 26)) h57_
            have e1210_ : S 63 (400 * (S 1092 0 - 1) + S 58 (S 1092 0 - 1) - 1 - 0) = S 63 (400 * (S 1092 0 - 1) + (S 58 (S 1092 0 - 1) - 1)) := congrArg ((S 63)) la_stepOther_55
            have e1211_ : S 64 (400 * (S 1092 0 - 1) + S 58 (S 1092 0 - 1) - 1 - 0) = S 64 (400 * (S 1092 0 - 1) + (S 58 (S 1092 0 - 1) - 1)) := congrArg ((S 64)) la_stepOther_55
            exact (sm_SK_q (sm_SK_pop h52_ (la_stepOther_136 h1162_)) (la_stepOther_58 h57_ h1072_ e1208_) rfl rfl)
          exact (la_stepOther_43 h4_ h5_ h36_)
        intro h1212_
        have h1213_ := (h64_.resolve_left (la_stepOther_147 h1212_))
        have h1214_ := (h1052_.resolve_right (la_stepOther_148 h1212_))
        have h1215_ := (h1213_.resolve_left (la_stepOther_149 h1212_))
        have h1216_ := (h1215_.resolve_left (la_stepOther_150 h1212_))
        refine ⟨?_, ?_⟩
        · skip
          intro h1217_
          have h1218_ := (h1107_.resolve_right h1217_)
          refine ⟨(la_stepOther_121 h36_ h37_), ?_⟩
          refine ⟨h7_, ?_⟩
          refine ⟨h8_, ?_⟩
          refine ⟨h9_, ?_⟩
          refine ⟨h10_, ?_⟩
          refine ⟨h11_, ?_⟩
          refine ⟨h12_, ?_⟩
          refine ⟨h13_, ?_⟩
          refine ⟨h14_, ?_⟩
          refine ⟨h15_, ?_⟩
          refine ⟨h16_, ?_⟩
          refine ⟨h17_, ?_⟩
          refine ⟨h18_, ?_⟩
          refine ⟨?_, ?_⟩
          · skip
            intro h1219_
            refine ⟨h19_, ?_⟩
            exact h20_
          refine ⟨h21_, ?_⟩
          refine ⟨h22_, ?_⟩
          refine ⟨h23_, ?_⟩
          refine ⟨h24_, ?_⟩
          refine ⟨h33_, ?_⟩
          refine ⟨(la_stepOther_26 h4_), ?_⟩
          refine ⟨(la_stepOther_27 h36_), ?_⟩
          refine ⟨h37_, ?_⟩
          refine ⟨la_stepOther_28, ?_⟩
          refine ⟨?_, ?_⟩
          · skip
            intro h1220_
            exact h6_
          refine ⟨?_, ?_⟩
          · skip
            intro h1221_
            intro h1222_
            refine ⟨h36_, ?_⟩
            refine ⟨h37_, ?_⟩
            refine ⟨?_, ?_⟩
            · skip
              have e1223_ : (if S 1092 0 - 1 = S 1092 0 - 1 then p2 else S 57 (S 1092 0 - 1) : Int) = p2 := if_pos la_stepOther_122
              have e1224_ : S 1100007 (S 1100034 0) = S 1100007 (S 1100025 (S 1100033 0)) := congrArg ((S 1100007)) h57_
              have e1225_ : S 26 (S 1100034 0) = S 26 (S 1100025 (S 1100033 0)) := congrArg ((S 26)) h57_
              have e1226_ : S 63 (400 * (S 1092 0 - 1) + S 58 (S 1092 0 - 1) - 1 - 0) = S 63 (400 * (S 1092 0 - 1) + (S 58 (S 1092 0 - 1) - 1)) := congrArg ((S 63)) la_stepOther_55
              have e1227_ : S 64 (400 * (S 1092 0 - 1) + S 58 (S 1092 0 - 1) - 1 - 0) = S 64 (400 * (S 1092 0 - 1) + (S 58 (S 1092 0 - 1) - 1)) := congrArg ((S 64)) la_stepOther_55
              exact (la_stepOther_123 h63_ h1073_ e1223_)
            refine ⟨?_, ?_⟩
            · skip
              have e1228_ : (if S 1092 0 - 1 = S 1092 0 - 1 then p2 else S 57 (S 1092 0 - 1) : Int) = p2 := if_pos la_stepOther_122
              have e1229_ : S 1100007 (S 1100034 0) = S 1100007 (S 1100025 (S 1100033 0)) := congrArg ((S 1100007)) h57_
              have e1230_ : S 26 (S 1100034 0) = S 26 (S 1100025 (S 1100033 0)) := congrArg ((S 26)) h57_
              have e1231_ : S 63 (400 * (S 1092 0 - 1) + S 58 (S 1092 0 - 1) - 1 - 0) = S 63 (400 * (S 1092 0 - 1) + (S 58 (S 1092 0 - 1) - 1)) := congrArg ((S 63)) la_stepOther_55
              have e1232_ : S 64 (400 * (S 1092 0 - 1) + S 58 (S 1092 0 - 1) - 1 - 0) = S 64 (400 * (S 1092 0 - 1) + (S 58 (S 1092 0 - 1) - 1)) := congrArg ((S 64)) la_stepOther_55
              exact (la_stepOther_124 h63_ h1074_ e1228_)
            refine ⟨?_, ?_⟩
            · skip
              have e1233_ : (if S 1092 0 - 1 = S 1092 0 - 1 then p2 else S 57 (S 1092 0 - 1) : Int) = p2 := if_pos la_stepOther_122
              have e1234_ : S 1100007 (S 1100034 0) = S 1100007 (S 1100025 (S 1100033 0)) := congrArg ((S 1100007)) h57_
              have e1235_ : S 26 (S 1100034 0) = S 26 (S 1100025 (S 1100033 0)) := congrArg ((S 26)) h57_
              have e1236_ : S 29 (if S 1092 0 - 1 = S 1092 0 - 1 then p2 else S 57 (S 1092 0 - 1)) = S 29 (S 27 (S 1100033 0)) := congrArg ((S 29)) (la_stepOther_13 h63_ e1233_)
              have e1237_ : S 63 (400 * (S 1092 0 - 1) + S 58 (S 1092 0 - 1) - 1 - 0) = S 63 (400 * (S 1092 0 - 1) + (S 58 (S 1092 0 - 1) - 1)) := congrArg ((S 63)) la_stepOther_55
              have e1238_ : S 64 (400 * (S 1092 0 - 1) + S 58 (S 1092 0 - 1) - 1 - 0) = S 64 (400 * (S 1092 0 - 1) + (S 58 (S 1092 0 - 1) - 1)) := congrArg ((S 64)) la_stepOther_55
              exact (la_stepOther_36 h40_ h1075_ e1236_)
            refine ⟨h41_, ?_⟩
            refine ⟨h42_, ?_⟩
            refine ⟨?_, ?_⟩
            · skip
              have e1239_ : (if S 1092 0 - 1 = S 1092 0 - 1 then p2 else S 57 (S 1092 0 - 1) : Int) = p2 := if_pos la_stepOther_122
              have e1240_ : S 1100007 (S 1100034 0) = S 1100007 (S 1100025 (S 1100033 0)) := congrArg ((S 1100007)) h57_
              have e1241_ : S 1100023 (if S 1092 0 - 1 = S 1092 0 - 1 then p2 else S 57 (S 1092 0 - 1)) = S 1100023 (S 27 (S 1100033 0)) := congrArg ((S 1100023)) (la_stepOther_13 h63_ e1239_)
              have e1242_ : S 26 (S 1100034 0) = S 26 (S 1100025 (S 1100033 0)) := congrArg ((S 26)) h57_
              have e1243_ : S 63 (400 * (S 1092 0 - 1) + S 58 (S 1092 0 - 1) - 1 - 0) = S 63 (400 * (S 1092 0 - 1) + (S 58 (S 1092 0 - 1) - 1)) := congrArg ((S 63)) la_stepOther_55
              have e1244_ : S 64 (400 * (S 1092 0 - 1) + S 58 (S 1092 0 - 1) - 1 - 0) = S 64 (400 * (S 1092 0 - 1) + (S 58 (S 1092 0 - 1) - 1)) := congrArg ((S 64)) la_stepOther_55
              have e1245_ : sm_dp (S 1100024) (S 1100023 (if S 1092 0 - 1 = S 1092 0 - 1 then p2 else S 57 (S 1092 0 - 1))) = sm_dp (S 1100024) (S 1100023 (S 1100033 0)) := congrArg ((sm_dp (S 1100024))) (la_stepOther_13 h1077_ e1241_)
              exact (la_stepOther_37 h43_ e1245_)
            refine ⟨?_, ?_⟩
            · skip
              have e1246_ : (if S 1092 0 - 1 = S 1092 0 - 1 then p2 else S 57 (S 1092 0 - 1) : Int) = p2 := if_pos la_stepOther_122
              have e1247_ : S 1100007 (S 1100034 0) = S 1100007 (S 1100025 (S 1100033 0)) := congrArg ((S 1100007)) h57_
              have e1248_ : S 1100023 (if S 1092 0 - 1 = S 1092 0 - 1 then p2 else S 57 (S 1092 0 - 1)) = S 1100023 (S 27 (S 1100033 0)) := congrArg ((S 1100023)) (la_stepOther_13 h63_ e1246_)
              have e1249_ : S 26 (S 1100034 0) = S 26 (S 1100025 (S 1100033 0)) := congrArg ((S 26)) h57_
              have e1250_ : S 63 (400 * (S 1092 0 - 1) + S 58 (S 1092 0 - 1) - 1 - 0) = S 63 (400 * (S 1092 0 - 1) + (S 58 (S 1092 0 - 1) - 1)) := congrArg ((S 63)) la_stepOther_55
              have e1251_ : S 64 (400 * (S 1092 0 - 1) + S 58 (S 1092 0 - 1) - 1 - 0) = S 64 (400 * (S 1092 0 - 1) + (S 58 (S 1092 0 - 1) - 1)) := congrArg ((S 64)) la_stepOther_55
              exact (sm_TC_t h44_ (la_stepOther_38 h1077_ e1248_))
            refine ⟨h45_, ?_⟩
            refine ⟨h46_, ?_⟩
            refine ⟨h47_, ?_⟩
            refine ⟨(sm_FL_F h48_ sm_F1_rf sm_F1_rf sm_F1_rf sm_F1_rf (sm_F1_up sm_F1_rf (Int.le_refl _)) sm_F1_rf sm_F1_rf sm_F1_rf sm_F1_rf sm_F1_rf sm_F1_rf sm_F1_rf (Int.le_refl _) (Int.le_refl _) sm_F1_rf sm_F1_rf (sm_FL_dp h48_ h25_)), ?_⟩
            refine ⟨?_, ?_⟩
            · skip
              have e1252_ : (if S 1092 0 - 1 = S 1092 0 - 1 then p2 else S 57 (S 1092 0 - 1) : Int) = p2 := if_pos la_stepOther_122
              have e1253_ : S 1100007 (S 1100034 0) = S 1100007 (S 1100025 (S 1100033 0)) := congrArg ((S 1100007)) h57_
              have e1254_ : S 1100007 (if S 1092 0 - 1 = S 1092 0 - 1 then p2 else S 57 (S 1092 0 - 1)) = S 1100007 (S 27 (S 1100033 0)) := congrArg ((S 1100007)) (la_stepOther_13 h63_ e1252_)
              have e1255_ : S 26 (S 1100034 0) = S 26 (S 1100025 (S 1100033 0)) := congrArg ((S 26)) h57_
              have e1256_ : S 63 (400 * (S 1092 0 - 1) + S 58 (S 1092 0 - 1) - 1 - 0) = S 63 (400 * (S 1092 0 - 1) + (S 58 (S 1092 0 - 1) - 1)) := congrArg ((S 63)) la_stepOther_55
              have e1257_ : S 64 (400 * (S 1092 0 - 1) + S 58 (S 1092 0 - 1) - 1 - 0) = S 64 (400 * (S 1092 0 - 1) + (S 58 (S 1092 0 - 1) - 1)) := congrArg ((S 64)) la_stepOther_55
              exact (la_stepOther_125 h56_ h1076_ e1254_)
            have e1258_ : (if S 1092 0 - 1 = S 1092 0 - 1 then p2 else S 57 (S 1092 0 - 1) : Int) = p2 := if_pos la_stepOther_122
            have e1259_ : S 1100007 (S 1100034 0) = S 1100007 (S 1100025 (S 1100033 0)) := congrArg ((S 1100007)) h57_
            have e1260_ : S 1100025 (if S 1092 0 - 1 = S 1092 0 - 1 then p2 else S 57 (S 1092 0 - 1)) = S 1100025 (S 27 (S 1100033 0)) := congrArg ((S 1100025)) (la_stepOther_13 h63_ e1258_)
            have e1261_ : S 26 (S 1100034 0) = S 26 (S 1100025 (S 1100033 0)) := congrArg ((S 26)) h57_
            have e1262_ : S 63 (400 * (S 1092 0 - 1) + S 58 (S 1092 0 - 1) - 1 - 0) = S 63 (400 * (S 1092 0 - 1) + (S 58 (S 1092 0 - 1) - 1)) := congrArg ((S 63)) la_stepOther_55
            have e1263_ : S 64 (400 * (S 1092 0 - 1) + S 58 (S 1092 0 - 1) - 1 - 0) = S 64 (400 * (S 1092 0 - 1) + (S 58 (S 1092 0 - 1) - 1)) := congrArg ((S 64)) la_stepOther_55
            exact (sm_SK_q h52_ (la_stepOther_58 h57_ h1078_ e1260_) rfl rfl)
          exact (la_stepOther_43 h4_ h5_ h36_)
        intro h1264_
        have h1265_ := (h1107_.resolve_left (la_stepOther_153 h1264_))
        refine ⟨(la_stepOther_24 h36_ h37_ h59_ h1216_), ?_⟩
        intro g146
        rintro ⟨h1266_, h1267_⟩
        refine ⟨(la_stepOther_25 h31_ h36_ h37_ h38_ h49_ h1068_), ?_⟩
        intro g152
        rintro ⟨h1268_, h1269_⟩
        refine ⟨h7_, ?_⟩
        refine ⟨h8_, ?_⟩
        refine ⟨h9_, ?_⟩
        refine ⟨h10_, ?_⟩
        refine ⟨h11_, ?_⟩
        refine ⟨h12_, ?_⟩
        refine ⟨h13_, ?_⟩
        refine ⟨h14_, ?_⟩
        refine ⟨h15_, ?_⟩
        refine ⟨h16_, ?_⟩
        refine ⟨h17_, ?_⟩
        refine ⟨h18_, ?_⟩
        refine ⟨?_, ?_⟩
        · skip
          intro h1270_
          refine ⟨h19_, ?_⟩
          exact h20_
        refine ⟨h21_, ?_⟩
        refine ⟨h22_, ?_⟩
        refine ⟨h23_, ?_⟩
        refine ⟨h24_, ?_⟩
        refine ⟨h33_, ?_⟩
        refine ⟨(la_stepOther_26 h4_), ?_⟩
        refine ⟨(la_stepOther_27 h36_), ?_⟩
        refine ⟨h37_, ?_⟩
        refine ⟨la_stepOther_28, ?_⟩
        refine ⟨?_, ?_⟩
        · skip
          intro h1271_
          have h1272_ := (h1267_ (S 1092 0 - 1))
          have h1273_ := (h1269_ (S 1092 0 - 1))
          have e1274_ : S 1100007 (S 1100034 0) = S 1100007 (S 1100025 (S 1100033 0)) := congrArg ((S 1100007)) h57_
          have e1275_ : S 26 (S 1100034 0) = S 26 (S 1100025 (S 1100033 0)) := congrArg ((S 26)) h57_
          have e1276_ : S 63 (400 * (S 1092 0 - 1) + S 58 (S 1092 0 - 1) - 1 - 0) = S 63 (400 * (S 1092 0 - 1) + (S 58 (S 1092 0 - 1) - 1)) := congrArg ((S 63)) la_stepOther_55
          have e1277_ : S 64 (400 * (S 1092 0 - 1) + S 58 (S 1092 0 - 1) - 1 - 0) = S 64 (400 * (S 1092 0 - 1) + (S 58 (S 1092 0 - 1) - 1)) := congrArg ((S 64)) la_stepOther_55
          exact ((la_stepOther_32 h4_ (la_stepOther_30 (la_stepOther_29 h4_) h1271_))).elim
        refine ⟨?_, ?_⟩
        · skip
          intro h1278_
          intro h1279_
          refine ⟨h36_, ?_⟩
          refine ⟨h37_, ?_⟩
          refine ⟨(la_stepOther_33 h38_ h49_ h1268_), ?_⟩
          refine ⟨(la_stepOther_34 h49_ h1068_ h1268_), ?_⟩
          refine ⟨?_, ?_⟩
          · skip
            have h1280_ := (h1267_ (S 1092 0 - 1))
            have h1281_ := (h1269_ (S 1092 0 - 1))
            have e1282_ : S 1100007 (S 1100034 0) = S 1100007 (S 1100025 (S 1100033 0)) := congrArg ((S 1100007)) h57_
            have e1283_ : S 26 (S 1100034 0) = S 26 (S 1100025 (S 1100033 0)) := congrArg ((S 26)) h57_
            have e1284_ : S 29 (g152 57 (S 1092 0 - 1)) = S 29 (S 1100033 0 + 1) := congrArg ((S 29)) (la_stepOther_35 h49_ h1268_)
            have e1285_ : S 63 (400 * (S 1092 0 - 1) + S 58 (S 1092 0 - 1) - 1 - 0) = S 63 (400 * (S 1092 0 - 1) + (S 58 (S 1092 0 - 1) - 1)) := congrArg ((S 63)) la_stepOther_55
            have e1286_ : S 64 (400 * (S 1092 0 - 1) + S 58 (S 1092 0 - 1) - 1 - 0) = S 64 (400 * (S 1092 0 - 1) + (S 58 (S 1092 0 - 1) - 1)) := congrArg ((S 64)) la_stepOther_55
            exact (la_stepOther_36 h40_ h1069_ e1284_)
          refine ⟨h41_, ?_⟩
          refine ⟨h42_, ?_⟩
          refine ⟨?_, ?_⟩
          · skip
            have h1287_ := (h1267_ (S 1092 0 - 1))
            have h1288_ := (h1269_ (S 1092 0 - 1))
            have e1289_ : S 1100007 (S 1100034 0) = S 1100007 (S 1100025 (S 1100033 0)) := congrArg ((S 1100007)) h57_
            have e1290_ : S 1100023 (g152 57 (S 1092 0 - 1)) = S 1100023 (S 1100033 0 + 1) := congrArg ((S 1100023)) (la_stepOther_35 h49_ h1268_)
            have e1291_ : S 26 (S 1100034 0) = S 26 (S 1100025 (S 1100033 0)) := congrArg ((S 26)) h57_
            have e1292_ : S 63 (400 * (S 1092 0 - 1) + S 58 (S 1092 0 - 1) - 1 - 0) = S 63 (400 * (S 1092 0 - 1) + (S 58 (S 1092 0 - 1) - 1)) := congrArg ((S 63)) la_stepOther_55
            have e1293_ : S 64 (400 * (S 1092 0 - 1) + S 58 (S 1092 0 - 1) - 1 - 0) = S 64 (400 * (S 1092 0 - 1) + (S 58 (S 1092 0 - 1) - 1)) := congrArg ((S 64)) la_stepOther_55
            have e1294_ : sm_dp (S 1100024) (S 1100023 (g152 57 (S 1092 0 - 1))) = sm_dp (S 1100024) (S 1100023 (S 1100033 0)) := congrArg ((sm_dp (S 1100024))) (la_stepOther_13 h1071_ e1290_)
            exact (la_stepOther_37 h43_ e1294_)
          refine ⟨?_, ?_⟩
          · skip
            have h1295_ := (h1267_ (S 1092 0 - 1))
            have h1296_ := (h1269_ (S 1092 0 - 1))
            have e1297_ : S 1100007 (S 1100034 0) = S 1100007 (S 1100025 (S 1100033 0)) := congrArg ((S 1100007)) h57_
            have e1298_ : S 1100023 (g152 57 (S 1092 0 - 1)) = S 1100023 (S 1100033 0 + 1) := congrArg ((S 1100023)) (la_stepOther_35 h49_ h1268_)
            have e1299_ : S 26 (S 1100034 0) = S 26 (S 1100025 (S 1100033 0)) := congrArg ((S 26)) h57_
            have e1300_ : S 63 (400 * (S 1092 0 - 1) + S 58 (S 1092 0 - 1) - 1 - 0) = S 63 (400 * (S 1092 0 - 1) + (S 58 (S 1092 0 - 1) - 1)) := congrArg ((S 63)) la_stepOther_55
            have e1301_ : S 64 (400 * (S 1092 0 - 1) + S 58 (S 1092 0 - 1) - 1 - 0) = S 64 (400 * (S 1092 0 - 1) + (S 58 (S 1092 0 - 1) - 1)) := congrArg ((S 64)) la_stepOther_55
            exact (sm_TC_t h44_ (la_stepOther_38 h1071_ e1298_))
          refine ⟨h45_, ?_⟩
          refine ⟨h46_, ?_⟩
          refine ⟨h47_, ?_⟩
          refine ⟨(sm_FL_F h48_ sm_F1_rf sm_F1_rf sm_F1_rf sm_F1_rf (sm_F1_le (sm_F1_ne h1269_ (Int.le_refl _)) (Int.le_refl _)) (sm_F1_le (sm_F1_ne h1267_ (Int.le_refl _)) (Int.le_refl _)) sm_F1_rf sm_F1_rf sm_F1_rf sm_F1_rf sm_F1_rf sm_F1_rf (Int.le_refl _) (Int.le_refl _) sm_F1_rf sm_F1_rf (sm_FL_dp h48_ h25_)), ?_⟩
          refine ⟨?_, ?_⟩
          · skip
            have h1302_ := (h1267_ (S 1092 0 - 1))
            have h1303_ := (h1269_ (S 1092 0 - 1))
            have e1304_ : S 1100007 (S 1100034 0) = S 1100007 (S 1100025 (S 1100033 0)) := congrArg ((S 1100007)) h57_
            have e1305_ : S 1100007 (g152 57 (S 1092 0 - 1)) = S 1100007 (S 1100033 0 + 1) := congrArg ((S 1100007)) (la_stepOther_35 h49_ h1268_)
            have e1306_ : S 26 (S 1100034 0) = S 26 (S 1100025 (S 1100033 0)) := congrArg ((S 26)) h57_
            have e1307_ : S 63 (400 * (S 1092 0 - 1) + S 58 (S 1092 0 - 1) - 1 - 0) = S 63 (400 * (S 1092 0 - 1) + (S 58 (S 1092 0 - 1) - 1)) := congrArg ((S 63)) la_stepOther_55
            have e1308_ : S 64 (400 * (S 1092 0 - 1) + S 58 (S 1092 0 - 1) - 1 - 0) = S 64 (400 * (S 1092 0 - 1) + (S 58 (S 1092 0 - 1) - 1)) := congrArg ((S 64)) la_stepOther_55
            exact (la_stepOther_39 h56_ h1070_ h1266_ e1305_)
          have h1309_ := (h1267_ (S 1092 0 - 1))
          have h1310_ := (h1269_ (S 1092 0 - 1))
          have e1311_ : S 1100007 (S 1100034 0) = S 1100007 (S 1100025 (S 1100033 0)) := congrArg ((S 1100007)) h57_
          have e1312_ : S 1100025 (g152 57 (S 1092 0 - 1)) = S 1100025 (S 1100033 0 + 1) := congrArg ((S 1100025)) (la_stepOther_35 h49_ h1268_)
          have e1313_ : S 26 (S 1100034 0) = S 26 (S 1100025 (S 1100033 0)) := congrArg ((S 26)) h57_
          have e1314_ : S 63 (400 * (S 1092 0 - 1) + S 58 (S 1092 0 - 1) - 1 - 0) = S 63 (400 * (S 1092 0 - 1) + (S 58 (S 1092 0 - 1) - 1)) := congrArg ((S 63)) la_stepOther_55
          have e1315_ : S 64 (400 * (S 1092 0 - 1) + S 58 (S 1092 0 - 1) - 1 - 0) = S 64 (400 * (S 1092 0 - 1) + (S 58 (S 1092 0 - 1) - 1)) := congrArg ((S 64)) la_stepOther_55
          exact (sm_SK_q (sm_SK_pop h52_ (la_stepOther_136 h1266_)) (la_stepOther_58 h57_ h1072_ e1312_) rfl rfl)
        exact (la_stepOther_43 h4_ h5_ h36_)
      refine ⟨?_, ?_⟩
      · skip
        intro h1316_
        have h1317_ := (h64_.resolve_left (la_stepOther_154 h1316_))
        have h1318_ := (h81_.resolve_left (la_stepOther_155 h1316_))
        have h1319_ := (h83_.resolve_left (la_stepOther_155 h1316_))
        have h1320_ := (h1317_.resolve_left (la_stepOther_156 h1316_))
        have h1321_ := (h1320_.resolve_left (la_stepOther_157 h1316_))
        intro h1322_
        have h1323_ := (h1322_ h25_)
        have h1324_ := (h1323_ h38_)
        have h1325_ := (h1324_ h39_)
        obtain ⟨h1326_, ⟨h1327_, h1328_⟩⟩ := (h1325_ (la_stepOther_158 h62_ h1316_))
        intro h1329_
        have h1330_ := (h1329_ h57_)
        have h1331_ := (h1330_ h56_)
        have h1332_ := (h1331_ h1328_)
        intro h1333_
        have h1334_ := (h1333_ h52_)
        have h1335_ := (h1334_ h26_)
        have h1336_ := (h1335_ (la_stepOther_49 h1321_))
        have h1337_ := (h1336_ la_stepOther_50)
        have h1338_ := (h1337_ h54_)
        have h1339_ := (h1338_ h57_)
        have h1340_ := (h1339_ h56_)
        have h1341_ := (h1340_ h55_)
        have h1342_ := (h1341_ h1328_)
        refine ⟨?_, ?_⟩
        · skip
          refine ⟨h4_, ?_⟩
          refine ⟨h5_, ?_⟩
          refine ⟨h6_, ?_⟩
          refine ⟨h7_, ?_⟩
          refine ⟨h8_, ?_⟩
          refine ⟨h9_, ?_⟩
          refine ⟨h10_, ?_⟩
          refine ⟨h11_, ?_⟩
          refine ⟨h12_, ?_⟩
          refine ⟨h13_, ?_⟩
          refine ⟨h14_, ?_⟩
          refine ⟨h15_, ?_⟩
          refine ⟨h16_, ?_⟩
          refine ⟨h17_, ?_⟩
          refine ⟨h18_, ?_⟩
          refine ⟨h19_, ?_⟩
          refine ⟨h20_, ?_⟩
          refine ⟨h21_, ?_⟩
          refine ⟨h22_, ?_⟩
          refine ⟨h23_, ?_⟩
          refine ⟨h24_, ?_⟩
          refine ⟨h25_, ?_⟩
          refine ⟨h26_, ?_⟩
          refine ⟨h27_, ?_⟩
          refine ⟨h28_, ?_⟩
          refine ⟨h29_, ?_⟩
          refine ⟨h30_, ?_⟩
          refine ⟨h31_, ?_⟩
          refine ⟨h32_, ?_⟩
          refine ⟨h33_, ?_⟩
          refine ⟨h34_, ?_⟩
          refine ⟨h35_, ?_⟩
          refine ⟨h36_, ?_⟩
          refine ⟨h37_, ?_⟩
          refine ⟨h38_, ?_⟩
          refine ⟨h39_, ?_⟩
          refine ⟨h40_, ?_⟩
          refine ⟨h41_, ?_⟩
          refine ⟨h42_, ?_⟩
          refine ⟨h43_, ?_⟩
          refine ⟨h44_, ?_⟩
          refine ⟨h45_, ?_⟩
          refine ⟨h46_, ?_⟩
          refine ⟨h47_, ?_⟩
          refine ⟨h48_, ?_⟩
          refine ⟨h49_, ?_⟩
          refine ⟨h50_, ?_⟩
          refine ⟨h51_, ?_⟩
          refine ⟨h52_, ?_⟩
          refine ⟨h53_, ?_⟩
          refine ⟨h54_, ?_⟩
          refine ⟨h55_, ?_⟩
          refine ⟨h56_, ?_⟩
          refine ⟨h57_, ?_⟩
          refine ⟨h58_, ?_⟩
          refine ⟨h59_, ?_⟩
          have e1343_ : S 1100007 (S 1100034 0) = S 1100007 (S 1100025 (S 1100033 0)) := congrArg ((S 1100007)) h57_
          have e1344_ : S 26 (S 1100034 0) = S 26 (S 1100025 (S 1100033 0)) := congrArg ((S 26)) h57_
          have e1345_ : S 63 (400 * (S 1092 0 - 1) + S 58 (S 1092 0 - 1) - 1 - 0) = S 63 (400 * (S 1092 0 - 1) + (S 58 (S 1092 0 - 1) - 1)) := congrArg ((S 63)) la_stepOther_55
          have e1346_ : S 64 (400 * (S 1092 0 - 1) + S 58 (S 1092 0 - 1) - 1 - 0) = S 64 (400 * (S 1092 0 - 1) + (S 58 (S 1092 0 - 1) - 1)) := congrArg ((S 64)) la_stepOther_55
          exact (sm_VO_eq h1342_ (la_stepOther_87 h1318_ e1345_) (la_stepOther_87 h1319_ e1346_))
        intro g161
        rintro ⟨h1347_, ⟨h1348_, ⟨h1349_, ⟨h1350_, ⟨h1351_, ⟨h1352_, ⟨h1353_, ⟨h1354_, ⟨h1355_, ⟨h1356_, ⟨h1357_, ⟨h1358_, ⟨h1359_, ⟨h1360_, ⟨h1361_, ⟨h1362_, ⟨h1363_, ⟨h1364_, ⟨h1365_, ⟨h1366_, ⟨h1367_, ⟨h1368_, ⟨h1369_, ⟨h1370_, ⟨h1371_, h1372_⟩⟩⟩⟩⟩⟩⟩⟩⟩⟩⟩⟩⟩⟩⟩⟩⟩⟩⟩⟩⟩⟩⟩⟩⟩
        obtain ⟨h1373_, h1374_⟩ := (h1359_ h4_)
        have h1375_ := (h1370_ h4_)
        refine ⟨h7_, ?_⟩
        refine ⟨h8_, ?_⟩
        refine ⟨h9_, ?_⟩
        refine ⟨h10_, ?_⟩
        refine ⟨h11_, ?_⟩
        refine ⟨h12_, ?_⟩
        refine ⟨h13_, ?_⟩
        refine ⟨h14_, ?_⟩
        refine ⟨h15_, ?_⟩
        refine ⟨h16_, ?_⟩
        refine ⟨h17_, ?_⟩
        refine ⟨h18_, ?_⟩
        refine ⟨h1359_, ?_⟩
        refine ⟨h21_, ?_⟩
        refine ⟨h22_, ?_⟩
        refine ⟨h23_, ?_⟩
        refine ⟨h24_, ?_⟩
        refine ⟨h33_, ?_⟩
        refine ⟨h1365_, ?_⟩
        refine ⟨h1366_, ?_⟩
        refine ⟨h1367_, ?_⟩
        refine ⟨h1368_, ?_⟩
        refine ⟨h1369_, ?_⟩
        refine ⟨h1370_, ?_⟩
        exact h1371_
      refine ⟨?_, ?_⟩
      · skip
        intro h1376_
        have h1377_ := (h64_.resolve_left (la_stepOther_159 h1376_))
        have h1378_ := (h81_.resolve_left (la_stepOther_160 h1376_))
        have h1379_ := (h83_.resolve_left (la_stepOther_160 h1376_))
        have h1380_ := (h1377_.resolve_left (la_stepOther_161 h1376_))
        have h1381_ := (h1380_.resolve_left (la_stepOther_162 h1376_))
        intro h1382_
        have h1383_ := (h1382_ h25_)
        have h1384_ := (h1383_ h38_)
        have h1385_ := (h1384_ h39_)
        obtain ⟨h1386_, ⟨h1387_, h1388_⟩⟩ := (h1385_ (la_stepOther_163 h62_ h1376_))
        intro h1389_
        have h1390_ := (h1389_ h57_)
        have h1391_ := (h1390_ h56_)
        have h1392_ := (h1391_ h1388_)
        intro h1393_
        have h1394_ := (h1393_ h52_)
        have h1395_ := (h1394_ h26_)
        have h1396_ := (h1395_ (la_stepOther_49 h1381_))
        have h1397_ := (h1396_ la_stepOther_50)
        have h1398_ := (h1397_ h54_)
        have h1399_ := (h1398_ h57_)
        have h1400_ := (h1399_ h56_)
        have h1401_ := (h1400_ h55_)
        have h1402_ := (h1401_ h1388_)
        refine ⟨?_, ?_⟩
        · skip
          refine ⟨?_, ?_⟩
          · skip
            intro h1403_
            exact h6_
          intro h1404_
          refine ⟨h22_, ?_⟩
          refine ⟨h23_, ?_⟩
          refine ⟨h24_, ?_⟩
          refine ⟨h25_, ?_⟩
          refine ⟨h26_, ?_⟩
          refine ⟨h27_, ?_⟩
          refine ⟨h28_, ?_⟩
          refine ⟨h29_, ?_⟩
          refine ⟨h30_, ?_⟩
          refine ⟨h31_, ?_⟩
          refine ⟨h32_, ?_⟩
          refine ⟨h33_, ?_⟩
          refine ⟨h34_, ?_⟩
          refine ⟨h35_, ?_⟩
          refine ⟨h36_, ?_⟩
          refine ⟨h37_, ?_⟩
          refine ⟨(la_stepOther_112 h38_ h49_), ?_⟩
          refine ⟨(la_stepOther_164 h39_ h49_), ?_⟩
          refine ⟨?_, ?_⟩
          · skip
            have e1405_ : S 1100007 (S 1100034 0) = S 1100007 (S 1100025 (S 1100033 0)) := congrArg ((S 1100007)) h57_
            have e1406_ : S 26 (S 1100034 0) = S 26 (S 1100025 (S 1100033 0)) := congrArg ((S 26)) h57_
            have e1407_ : S 29 (S 57 (S 1092 0 - 1)) = S 29 (S 1100033 0) := congrArg ((S 29)) h49_
            have e1408_ : S 63 (400 * (S 1092 0 - 1) + S 58 (S 1092 0 - 1) - 1 - 0) = S 63 (400 * (S 1092 0 - 1) + (S 58 (S 1092 0 - 1) - 1)) := congrArg ((S 63)) la_stepOther_55
            have e1409_ : S 64 (400 * (S 1092 0 - 1) + S 58 (S 1092 0 - 1) - 1 - 0) = S 64 (400 * (S 1092 0 - 1) + (S 58 (S 1092 0 - 1) - 1)) := congrArg ((S 64)) la_stepOther_55
            exact (la_stepOther_13 h40_ e1407_)
          refine ⟨h41_, ?_⟩
          refine ⟨h42_, ?_⟩
          refine ⟨?_, ?_⟩
          · skip
            have e1410_ : S 1100007 (S 1100034 0) = S 1100007 (S 1100025 (S 1100033 0)) := congrArg ((S 1100007)) h57_
            have e1411_ : S 1100023 (S 57 (S 1092 0 - 1)) = S 1100023 (S 1100033 0) := congrArg ((S 1100023)) h49_
            have e1412_ : S 26 (S 1100034 0) = S 26 (S 1100025 (S 1100033 0)) := congrArg ((S 26)) h57_
            have e1413_ : S 63 (400 * (S 1092 0 - 1) + S 58 (S 1092 0 - 1) - 1 - 0) = S 63 (400 * (S 1092 0 - 1) + (S 58 (S 1092 0 - 1) - 1)) := congrArg ((S 63)) la_stepOther_55
            have e1414_ : S 64 (400 * (S 1092 0 - 1) + S 58 (S 1092 0 - 1) - 1 - 0) = S 64 (400 * (S 1092 0 - 1) + (S 58 (S 1092 0 - 1) - 1)) := congrArg ((S 64)) la_stepOther_55
            have e1415_ : sm_dp (S 1100024) (S 1100023 (S 57 (S 1092 0 - 1))) = sm_dp (S 1100024) (S 1100023 (S 1100033 0)) := congrArg ((sm_dp (S 1100024))) e1411_
            exact (la_stepOther_37 h43_ e1415_)
          refine ⟨?_, ?_⟩
          · skip
            have e1416_ : S 1100007 (S 1100034 0) = S 1100007 (S 1100025 (S 1100033 0)) := congrArg ((S 1100007)) h57_
            have e1417_ : S 1100023 (S 57 (S 1092 0 - 1)) = S 1100023 (S 1100033 0) := congrArg ((S 1100023)) h49_
            have e1418_ : S 26 (S 1100034 0) = S 26 (S 1100025 (S 1100033 0)) := congrArg ((S 26)) h57_
            have e1419_ : S 63 (400 * (S 1092 0 - 1) + S 58 (S 1092 0 - 1) - 1 - 0) = S 63 (400 * (S 1092 0 - 1) + (S 58 (S 1092 0 - 1) - 1)) := congrArg ((S 63)) la_stepOther_55
            have e1420_ : S 64 (400 * (S 1092 0 - 1) + S 58 (S 1092 0 - 1) - 1 - 0) = S 64 (400 * (S 1092 0 - 1) + (S 58 (S 1092 0 - 1) - 1)) := congrArg ((S 64)) la_stepOther_55
            exact (sm_TC_t h44_ (la_stepOther_165 e1417_))
          refine ⟨h45_, ?_⟩
          refine ⟨h46_, ?_⟩
          refine ⟨h47_, ?_⟩
          refine ⟨h48_, ?_⟩
          refine ⟨?_, ?_⟩
          · skip
            have e1421_ : S 1100007 (S 1100034 0) = S 1100007 (S 1100025 (S 1100033 0)) := congrArg ((S 1100007)) h57_
            have e1422_ : S 1100007 (S 57 (S 1092 0 - 1)) = S 1100007 (S 1100033 0) := congrArg ((S 1100007)) h49_
            have e1423_ : S 26 (S 1100034 0) = S 26 (S 1100025 (S 1100033 0)) := congrArg ((S 26)) h57_
            have e1424_ : S 63 (400 * (S 1092 0 - 1) + S 58 (S 1092 0 - 1) - 1 - 0) = S 63 (400 * (S 1092 0 - 1) + (S 58 (S 1092 0 - 1) - 1)) := congrArg ((S 63)) la_stepOther_55
            have e1425_ : S 64 (400 * (S 1092 0 - 1) + S 58 (S 1092 0 - 1) - 1 - 0) = S 64 (400 * (S 1092 0 - 1) + (S 58 (S 1092 0 - 1) - 1)) := congrArg ((S 64)) la_stepOther_55
            exact (la_stepOther_37 h56_ e1422_)
          refine ⟨?_, ?_⟩
          · skip
            have e1426_ : S 1100007 (S 1100034 0) = S 1100007 (S 1100025 (S 1100033 0)) := congrArg ((S 1100007)) h57_
            have e1427_ : S 1100025 (S 57 (S 1092 0 - 1)) = S 1100025 (S 1100033 0) := congrArg ((S 1100025)) h49_
            have e1428_ : S 26 (S 1100034 0) = S 26 (S 1100025 (S 1100033 0)) := congrArg ((S 26)) h57_
            have e1429_ : S 63 (400 * (S 1092 0 - 1) + S 58 (S 1092 0 - 1) - 1 - 0) = S 63 (400 * (S 1092 0 - 1) + (S 58 (S 1092 0 - 1) - 1)) := congrArg ((S 63)) la_stepOther_55
            have e1430_ : S 64 (400 * (S 1092 0 - 1) + S 58 (S 1092 0 - 1) - 1 - 0) = S 64 (400 * (S 1092 0 - 1) + (S 58 (S 1092 0 - 1) - 1)) := congrArg ((S 64)) la_stepOther_55
            exact (sm_SK_q h52_ (la_stepOther_11 h57_ e1427_) rfl rfl)
          refine ⟨?_, ?_⟩
          · skip
            have e1431_ : S 1100007 (S 1100034 0) = S 1100007 (S 1100025 (S 1100033 0)) := congrArg ((S 1100007)) h57_
            have e1432_ : S 26 (S 1100034 0) = S 26 (S 1100025 (S 1100033 0)) := congrArg ((S 26)) h57_
            have e1433_ : S 63 (400 * (S 1092 0 - 1) + S 58 (S 1092 0 - 1) - 1 - 0) = S 63 (400 * (S 1092 0 - 1) + (S 58 (S 1092 0 - 1) - 1)) := congrArg ((S 63)) la_stepOther_55
            have e1434_ : S 64 (400 * (S 1092 0 - 1) + S 58 (S 1092 0 - 1) - 1 - 0) = S 64 (400 * (S 1092 0 - 1) + (S 58 (S 1092 0 - 1) - 1)) := congrArg ((S 64)) la_stepOther_55
            exact (sm_VO_eq h1402_ (la_stepOther_87 h1378_ e1433_) (la_stepOther_87 h1379_ e1434_))
          intro h1435_
          have e1436_ : S 1100007 (S 1100034 0) = S 1100007 (S 1100025 (S 1100033 0)) := congrArg ((S 1100007)) h57_
          have e1437_ : S 1100023 (S 57 (S 1092 0 - 1)) = S 1100023 (S 1100033 0) := congrArg ((S 1100023)) h49_
          have e1438_ : S 26 (S 1100034 0) = S 26 (S 1100025 (S 1100033 0)) := congrArg ((S 26)) h57_
          have e1439_ : S 63 (400 * (S 1092 0 - 1) + S 58 (S 1092 0 - 1) - 1 - 0) = S 63 (400 * (S 1092 0 - 1) + (S 58 (S 1092 0 - 1) - 1)) := congrArg ((S 63)) la_stepOther_55
          have e1440_ : S 64 (400 * (S 1092 0 - 1) + S 58 (S 1092 0 - 1) - 1 - 0) = S 64 (400 * (S 1092 0 - 1) + (S 58 (S 1092 0 - 1) - 1)) := congrArg ((S 64)) la_stepOther_55
          have h1441_ := (h58_ (la_stepOther_166 h1435_ e1437_))
          have h1442_ := (h1387_ (la_stepOther_166 h1435_ e1437_))
          have e1443_ : S 1100007 (S 1100023 (S 57 (S 1092 0 - 1))) = S 1100007 (S 1100023 (S 1100033 0)) := congrArg ((S 1100007)) e1437_
          exact (la_stepOther_167 h56_ h1442_ e1443_)
        intro g170
        rintro ⟨h1444_, ⟨h1445_, ⟨h1446_, ⟨h1447_, h1448_⟩⟩⟩⟩
        have h1449_ := (h1448_ (la_stepOther_27 h36_))
        have h1450_ := (h1445_ h4_)
        refine ⟨h7_, ?_⟩
        refine ⟨h8_, ?_⟩
        refine ⟨h9_, ?_⟩
        refine ⟨h10_, ?_⟩
        refine ⟨h11_, ?_⟩
        refine ⟨h12_, ?_⟩
        refine ⟨h13_, ?_⟩
        refine ⟨h14_, ?_⟩
        refine ⟨h15_, ?_⟩
        refine ⟨h16_, ?_⟩
        refine ⟨h17_, ?_⟩
        refine ⟨h18_, ?_⟩
        refine ⟨?_, ?_⟩
        · skip
          intro h1451_
          refine ⟨h19_, ?_⟩
          exact h20_
        refine ⟨h21_, ?_⟩
        refine ⟨h22_, ?_⟩
        refine ⟨h23_, ?_⟩
        refine ⟨h24_, ?_⟩
        refine ⟨h33_, ?_⟩
        refine ⟨(la_stepOther_26 h4_), ?_⟩
        refine ⟨h1449_, ?_⟩
        refine ⟨(la_stepOther_168 h37_ h1447_), ?_⟩
        refine ⟨la_stepOther_28, ?_⟩
        refine ⟨h1444_, ?_⟩
        refine ⟨?_, ?_⟩
        · skip
          intro h1452_
          intro h1453_
          have h1454_ := (h1446_.resolve_right (la_stepOther_169 h1453_))
          obtain ⟨h1455_, ⟨h1456_, ⟨h1457_, ⟨h1458_, ⟨h1459_, ⟨h1460_, ⟨h1461_, ⟨h1462_, ⟨h1463_, ⟨h1464_, ⟨h1465_, ⟨h1466_, ⟨h1467_, ⟨h1468_, ⟨h1469_, h1470_⟩⟩⟩⟩⟩⟩⟩⟩⟩⟩⟩⟩⟩⟩⟩ := (h1450_ h1453_)
          refine ⟨h1456_, ?_⟩
          refine ⟨h1457_, ?_⟩
          refine ⟨h1458_, ?_⟩
          refine ⟨h1459_, ?_⟩
          refine ⟨h1460_, ?_⟩
          refine ⟨h1461_, ?_⟩
          refine ⟨h1462_, ?_⟩
          refine ⟨h1463_, ?_⟩
          refine ⟨h1464_, ?_⟩
          refine ⟨h1465_, ?_⟩
          refine ⟨h1466_, ?_⟩
          refine ⟨h1467_, ?_⟩
          refine ⟨h1468_, ?_⟩
          refine ⟨h1469_, ?_⟩
          exact h1470_
        have e1471_ : S 1100007 (S 1100034 0) = S 1100007 (S 1100025 (S 1100033 0)) := congrArg ((S 1100007)) h57_
        have e1472_ : S 26 (S 1100034 0) = S 26 (S 1100025 (S 1100033 0)) := congrArg ((S 26)) h57_
        have e1473_ : S 63 (400 * (S 1092 0 - 1) + S 58 (S 1092 0 - 1) - 1 - 0) = S 63 (400 * (S 1092 0 - 1) + (S 58 (S 1092 0 - 1) - 1)) := congrArg ((S 63)) la_stepOther_55
        have e1474_ : S 64 (400 * (S 1092 0 - 1) + S 58 (S 1092 0 - 1) - 1 - 0) = S 64 (400 * (S 1092 0 - 1) + (S 58 (S 1092 0 - 1) - 1)) := congrArg ((S 64)) la_stepOther_55
        exact (la_stepOther_170 h4_ h5_ h1446_ h1449_)
      refine ⟨?_, ?_⟩
      · skip
        intro h1475_
        have h1476_ := (h64_.resolve_left (la_stepOther_171 h1475_))
        intro h1477_
        have h1478_ := (h1477_ h25_)
        have h1479_ := (h1478_ h38_)
        have h1480_ := (h1479_ h39_)
        obtain ⟨h1481_, ⟨⟨h1482_, ⟨h1483_, h1484_⟩⟩, ⟨⟨h1485_, ⟨h1486_, ⟨h1487_, ⟨h1488_, ⟨h1489_, h1490_⟩⟩⟩⟩⟩, ⟨h1491_, ⟨h1492_, ⟨h1493_, ⟨h1494_, ⟨h1495_, h1496_⟩⟩⟩⟩⟩⟩⟩⟩ := (h1480_ (la_stepOther_172 h62_ h1475_))
        have h1497_ := (h79_ h1484_)
        intro h1498_
        have h1499_ := (h1498_ h25_)
        have h1500_ := (h1499_ h38_)
        have h1501_ := (h1500_ h39_)
        intro h1502_
        have h1503_ := (h1502_ h25_)
        have h1504_ := (h1503_ h38_)
        obtain ⟨h1505_, h1506_⟩ := (h1504_ h39_)
        intro h1507_
        have h1508_ := (h1507_ h38_)
        refine ⟨(la_stepOther_121 h36_ h37_), ?_⟩
        intro h1509_
        refine ⟨(la_stepOther_173 h36_ h37_ h43_ h1481_ h1501_ h1505_), ?_⟩
        intro h1510_
        intro h1511_
        have h1512_ := (h1511_ h44_)
        have h1513_ := (h1512_ h38_)
        have h1514_ := (h1513_ (la_stepOther_174 h71_ h72_))
        have h1515_ := (h1514_ h1501_)
        have h1516_ := (h1515_ h63_)
        have h1517_ := (h1516_ h56_)
        have h1518_ := (h1517_ (la_stepOther_175 h43_ h1501_))
        refine ⟨(la_stepOther_176 h43_ h1481_ h1501_ h1505_), ?_⟩
        refine ⟨(la_stepOther_25 h31_ h36_ h37_ h38_ h49_ h1486_), ?_⟩
        intro g192
        rintro ⟨h1519_, h1520_⟩
        refine ⟨h7_, ?_⟩
        refine ⟨h8_, ?_⟩
        refine ⟨h9_, ?_⟩
        refine ⟨h10_, ?_⟩
        refine ⟨h11_, ?_⟩
        refine ⟨h12_, ?_⟩
        refine ⟨h13_, ?_⟩
        refine ⟨h14_, ?_⟩
        refine ⟨h15_, ?_⟩
        refine ⟨h16_, ?_⟩
        refine ⟨h17_, ?_⟩
        refine ⟨h18_, ?_⟩
        refine ⟨?_, ?_⟩
        · skip
          intro h1521_
          refine ⟨h19_, ?_⟩
          exact h20_
        refine ⟨h21_, ?_⟩
        refine ⟨h22_, ?_⟩
        refine ⟨h23_, ?_⟩
        refine ⟨h24_, ?_⟩
        refine ⟨h33_, ?_⟩
        refine ⟨(la_stepOther_26 h4_), ?_⟩
        refine ⟨(la_stepOther_27 h36_), ?_⟩
        refine ⟨h37_, ?_⟩
        refine ⟨la_stepOther_28, ?_⟩
        refine ⟨?_, ?_⟩
        · skip
          intro h1522_
          exact h6_
        refine ⟨?_, ?_⟩
        · skip
          intro h1523_
          intro h1524_
          refine ⟨h36_, ?_⟩
          refine ⟨h37_, ?_⟩
          refine ⟨(la_stepOther_33 h38_ h49_ h1519_), ?_⟩
          refine ⟨(la_stepOther_34 h49_ h1486_ h1519_), ?_⟩
          refine ⟨?_, ?_⟩
          · skip
            have h1525_ := (h1520_ (S 1092 0 - 1))
            have e1526_ : S 1100007 (S 1100034 0) = S 1100007 (S 1100025 (S 1100033 0)) := congrArg ((S 1100007)) h57_
            have e1527_ : S 26 (S 1100034 0) = S 26 (S 1100025 (S 1100033 0)) := congrArg ((S 26)) h57_
            have e1528_ : S 29 (g192 57 (S 1092 0 - 1)) = S 29 (S 1100033 0 + 1) := congrArg ((S 29)) (la_stepOther_35 h49_ h1519_)
            exact (la_stepOther_36 h40_ h1487_ e1528_)
          refine ⟨h41_, ?_⟩
          refine ⟨h42_, ?_⟩
          refine ⟨?_, ?_⟩
          · skip
            have h1529_ := (h1520_ (S 1092 0 - 1))
            have e1530_ : (if S 1092 0 - 1 = S 1092 0 - 1 then S 60 (S 1092 0 - 1) + 1 else S 60 (S 1092 0 - 1) : Int) = S 60 (S 1092 0 - 1) + 1 := if_pos la_stepOther_122
            have e1531_ : S 1100007 (S 1100034 0) = S 1100007 (S 1100025 (S 1100033 0)) := congrArg ((S 1100007)) h57_
            have e1532_ : S 1100023 (g192 57 (S 1092 0 - 1)) = S 1100023 (S 1100033 0 + 1) := congrArg ((S 1100023)) (la_stepOther_35 h49_ h1519_)
            have e1533_ : S 26 (S 1100034 0) = S 26 (S 1100025 (S 1100033 0)) := congrArg ((S 26)) h57_
            have e1534_ : sm_dp (S 1100024) (S 1100033 0) = sm_dp (S 1100024) (S 1100023 (g192 57 (S 1092 0 - 1))) := congrArg ((sm_dp (S 1100024))) (la_stepOther_38 h1489_ e1532_)
            exact (la_stepOther_177 h43_ h1501_ h1508_ e1530_ e1534_)
          refine ⟨?_, ?_⟩
          · skip
            have h1535_ := (h1520_ (S 1092 0 - 1))
            have e1536_ : S 1100007 (S 1100034 0) = S 1100007 (S 1100025 (S 1100033 0)) := congrArg ((S 1100007)) h57_
            have e1537_ : S 1100023 (g192 57 (S 1092 0 - 1)) = S 1100023 (S 1100033 0 + 1) := congrArg ((S 1100023)) (la_stepOther_35 h49_ h1519_)
            have e1538_ : S 26 (S 1100034 0) = S 26 (S 1100025 (S 1100033 0)) := congrArg ((S 26)) h57_
            exact (sm_TC_t h1518_ (la_stepOther_38 h1489_ e1537_))
          refine ⟨h45_, ?_⟩
          refine ⟨h46_, ?_⟩
          refine ⟨h47_, ?_⟩
          refine ⟨(sm_FL_F h48_ sm_F1_rf sm_F1_rf sm_F1_rf sm_F1_rf (sm_F1_le (sm_F1_ne h1520_ (Int.le_refl _)) (Int.le_refl _)) sm_F1_rf sm_F1_rf (sm_F1_up sm_F1_rf (Int.le_refl _)) (sm_F1_up sm_F1_rf (la_stepOther_178 h43_ h1501_ h1505_)) (sm_F1_up sm_F1_rf (la_stepOther_178 h43_ h1501_ h1505_)) sm_F1_rf sm_F1_rf (Int.le_refl _) (Int.le_refl _) sm_F1_rf sm_F1_rf (sm_FL_dp h48_ h25_)), ?_⟩
          refine ⟨?_, ?_⟩
          · skip
            have h1539_ := (h1520_ (S 1092 0 - 1))
            have e1540_ : S 1100007 (S 1100034 0) = S 1100007 (S 1100025 (S 1100033 0)) := congrArg ((S 1100007)) h57_
            have e1541_ : S 1100007 (g192 57 (S 1092 0 - 1)) = S 1100007 (S 1100033 0 + 1) := congrArg ((S 1100007)) (la_stepOther_35 h49_ h1519_)
            have e1542_ : S 26 (S 1100034 0) = S 26 (S 1100025 (S 1100033 0)) := congrArg ((S 26)) h57_
            exact (la_stepOther_125 h56_ h1488_ e1541_)
          have h1543_ := (h1520_ (S 1092 0 - 1))
          have e1544_ : S 1100007 (S 1100034 0) = S 1100007 (S 1100025 (S 1100033 0)) := congrArg ((S 1100007)) h57_
          have e1545_ : S 1100025 (g192 57 (S 1092 0 - 1)) = S 1100025 (S 1100033 0 + 1) := congrArg ((S 1100025)) (la_stepOther_35 h49_ h1519_)
          have e1546_ : S 26 (S 1100034 0) = S 26 (S 1100025 (S 1100033 0)) := congrArg ((S 26)) h57_
          exact (sm_SK_q h52_ (la_stepOther_58 h57_ h1490_ e1545_) rfl rfl)
        exact (la_stepOther_43 h4_ h5_ h36_)
      refine ⟨?_, ?_⟩
      · skip
        intro h1547_
        have h1548_ := (h64_.resolve_left (la_stepOther_179 h1547_))
        have h1549_ := (h1548_.resolve_left (la_stepOther_180 h1547_))
        intro h1550_
        have h1551_ := (h1550_ h25_)
        have h1552_ := (h1551_ h38_)
        have h1553_ := (h1552_ h39_)
        obtain ⟨h1554_, ⟨⟨h1555_, ⟨h1556_, h1557_⟩⟩, ⟨h1558_, ⟨h1559_, ⟨h1560_, ⟨h1561_, ⟨h1562_, h1563_⟩⟩⟩⟩⟩⟩⟩ := (h1553_ (la_stepOther_181 h62_ h1547_))
        have h1564_ := (h58_ h1554_)
        have h1565_ := (h79_ h1557_)
        have h1566_ := (h1556_ h1554_)
        intro h1567_
        have h1568_ := (h1567_ h25_)
        have h1569_ := (h1568_ h38_)
        have h1570_ := (h1569_ h39_)
        obtain ⟨h1571_, ⟨h1572_, h1573_⟩⟩ := (h1570_ h1554_)
        intro h1574_
        have h1575_ := (h1574_ h25_)
        have h1576_ := (h1575_ h44_)
        have h1577_ := (h1576_ h1554_)
        have h1578_ := (h1577_ (la_stepOther_182 h72_ h1559_))
        obtain ⟨⟨h1579_, ⟨h1580_, ⟨h1581_, ⟨h1582_, ⟨h1583_, h1584_⟩⟩⟩⟩⟩, ⟨⟨h1585_, ⟨h1586_, ⟨h1587_, h1588_⟩⟩⟩, ⟨⟨h1589_, ⟨h1590_, ⟨h1591_, ⟨h1592_, ⟨h1593_, h1594_⟩⟩⟩⟩⟩, ⟨h1595_, ⟨h1596_, ⟨h1597_, h1598_⟩⟩⟩⟩⟩⟩ := (h1578_ h1571_)
        refine ⟨(la_stepOther_121 h36_ h37_), ?_⟩
        intro h1599_
        refine ⟨(la_stepOther_183 h43_ h1579_ h1580_ h1581_), ?_⟩
        refine ⟨(la_stepOther_184 h31_ h36_ h37_ h49_ h72_ h1554_ h1559_), ?_⟩
        intro g206
        rintro ⟨h1600_, h1601_⟩
        refine ⟨h7_, ?_⟩
        refine ⟨h8_, ?_⟩
        refine ⟨h9_, ?_⟩
        refine ⟨h10_, ?_⟩
        refine ⟨h11_, ?_⟩
        refine ⟨h12_, ?_⟩
        refine ⟨h13_, ?_⟩
        refine ⟨h14_, ?_⟩
        refine ⟨h15_, ?_⟩
        refine ⟨h16_, ?_⟩
        refine ⟨h17_, ?_⟩
        refine ⟨h18_, ?_⟩
        refine ⟨?_, ?_⟩
        · skip
          intro h1602_
          refine ⟨h19_, ?_⟩
          exact h20_
        refine ⟨h21_, ?_⟩
        refine ⟨h22_, ?_⟩
        refine ⟨h23_, ?_⟩
        refine ⟨h24_, ?_⟩
        refine ⟨h33_, ?_⟩
        refine ⟨(la_stepOther_26 h4_), ?_⟩
        refine ⟨(la_stepOther_27 h36_), ?_⟩
        refine ⟨h37_, ?_⟩
        refine ⟨la_stepOther_28, ?_⟩
        refine ⟨?_, ?_⟩
        · skip
          intro h1603_
          exact h6_
        refine ⟨?_, ?_⟩
        · skip
          intro h1604_
          intro h1605_
          refine ⟨h36_, ?_⟩
          refine ⟨h37_, ?_⟩
          refine ⟨(la_stepOther_33 h38_ h49_ h1600_), ?_⟩
          refine ⟨(la_stepOther_34 h49_ h1559_ h1600_), ?_⟩
          refine ⟨?_, ?_⟩
          · skip
            have h1606_ := (h1601_ (S 1092 0 - 1))
            have e1607_ : S 1100007 (S 1100034 0) = S 1100007 (S 1100025 (S 1100033 0)) := congrArg ((S 1100007)) h57_
            have e1608_ : S 26 (S 1100034 0) = S 26 (S 1100025 (S 1100033 0)) := congrArg ((S 26)) h57_
            have e1609_ : S 29 (g206 57 (S 1092 0 - 1)) = S 29 (S 1100033 0 + 1) := congrArg ((S 29)) (la_stepOther_35 h49_ h1600_)
            exact (la_stepOther_36 h40_ h1560_ e1609_)
          refine ⟨h41_, ?_⟩
          refine ⟨h42_, ?_⟩
          refine ⟨?_, ?_⟩
          · skip
            have h1610_ := (h1601_ (S 1092 0 - 1))
            have e1611_ : (if S 1092 0 - 1 = S 1092 0 - 1 then S 60 (S 1092 0 - 1) - 1 else S 60 (S 1092 0 - 1) : Int) = S 60 (S 1092 0 - 1) - 1 := if_pos la_stepOther_122
            have e1612_ : S 1100007 (S 1100034 0) = S 1100007 (S 1100025 (S 1100033 0)) := congrArg ((S 1100007)) h57_
            have e1613_ : S 1100023 (g206 57 (S 1092 0 - 1)) = S 1100023 (S 1100033 0 + 1) := congrArg ((S 1100023)) (la_stepOther_35 h49_ h1600_)
            have e1614_ : S 26 (S 1100034 0) = S 26 (S 1100025 (S 1100033 0)) := congrArg ((S 26)) h57_
            have e1615_ : sm_dp (S 1100024) (S 1100023 (g206 57 (S 1092 0 - 1))) = sm_dp (S 1100024) (S 1100023 (S 1100023 (S 1100033 0))) := congrArg ((sm_dp (S 1100024))) (la_stepOther_13 h1562_ e1613_)
            exact (la_stepOther_185 h43_ h1581_ h1582_ e1611_ e1615_)
          refine ⟨?_, ?_⟩
          · skip
            have h1616_ := (h1601_ (S 1092 0 - 1))
            have e1617_ : S 1100007 (S 1100034 0) = S 1100007 (S 1100025 (S 1100033 0)) := congrArg ((S 1100007)) h57_
            have e1618_ : S 1100023 (g206 57 (S 1092 0 - 1)) = S 1100023 (S 1100033 0 + 1) := congrArg ((S 1100023)) (la_stepOther_35 h49_ h1600_)
            have e1619_ : S 26 (S 1100034 0) = S 26 (S 1100025 (S 1100033 0)) := congrArg ((S 26)) h57_
            exact (sm_TC_t h1595_ (la_stepOther_38 h1562_ e1618_))
          refine ⟨h45_, ?_⟩
          refine ⟨h46_, ?_⟩
          refine ⟨h47_, ?_⟩
          refine ⟨(sm_FL_F h48_ sm_F1_rf sm_F1_rf sm_F1_rf sm_F1_rf (sm_F1_le (sm_F1_ne h1601_ (Int.le_refl _)) (Int.le_refl _)) sm_F1_rf sm_F1_rf (sm_F1_up sm_F1_rf (Int.le_refl _)) sm_F1_rf sm_F1_rf sm_F1_rf sm_F1_rf (Int.le_refl _) (Int.le_refl _) sm_F1_rf sm_F1_rf (sm_FL_dp h48_ h25_)), ?_⟩
          refine ⟨?_, ?_⟩
          · skip
            have h1620_ := (h1601_ (S 1092 0 - 1))
            have e1621_ : S 1100007 (S 1100034 0) = S 1100007 (S 1100025 (S 1100033 0)) := congrArg ((S 1100007)) h57_
            have e1622_ : S 1100007 (g206 57 (S 1092 0 - 1)) = S 1100007 (S 1100033 0 + 1) := congrArg ((S 1100007)) (la_stepOther_35 h49_ h1600_)
            have e1623_ : S 26 (S 1100034 0) = S 26 (S 1100025 (S 1100033 0)) := congrArg ((S 26)) h57_
            exact (la_stepOther_125 h56_ h1561_ e1622_)
          have h1624_ := (h1601_ (S 1092 0 - 1))
          have e1625_ : S 1100007 (S 1100034 0) = S 1100007 (S 1100025 (S 1100033 0)) := congrArg ((S 1100007)) h57_
          have e1626_ : S 1100025 (g206 57 (S 1092 0 - 1)) = S 1100025 (S 1100033 0 + 1) := congrArg ((S 1100025)) (la_stepOther_35 h49_ h1600_)
          have e1627_ : S 26 (S 1100034 0) = S 26 (S 1100025 (S 1100033 0)) := congrArg ((S 26)) h57_
          exact (sm_SK_q h52_ (la_stepOther_58 h57_ h1563_ e1626_) rfl rfl)
        exact (la_stepOther_43 h4_ h5_ h36_)
      intro h1628_
      have h1629_ := (h64_.resolve_left (la_stepOther_186 h1628_))
      have h1630_ := (h81_.resolve_left (la_stepOther_187 h1628_))
      have h1631_ := (h83_.resolve_left (la_stepOther_187 h1628_))
      have h1632_ := (h1629_.resolve_left (la_stepOther_188 h1628_))
      have h1633_ := (h1632_.resolve_left (la_stepOther_189 h1628_))
      intro h1634_
      have h1635_ := (h1634_ h25_)
      have h1636_ := (h1635_ h38_)
      have h1637_ := (h1636_ h39_)
      obtain ⟨⟨h1638_, ⟨h1639_, h1640_⟩⟩, ⟨h1641_, ⟨h1642_, ⟨h1643_, ⟨h1644_, ⟨h1645_, h1646_⟩⟩⟩⟩⟩⟩ := (h1637_ (la_stepOther_190 h62_ h1628_))
      intro h1647_
      have h1648_ := (h1647_ h57_)
      have h1649_ := (h1648_ h56_)
      have h1650_ := (h1649_ h1640_)
      intro h1651_
      have h1652_ := (h1651_ h52_)
      have h1653_ := (h1652_ h26_)
      have h1654_ := (h1653_ (la_stepOther_49 h1633_))
      have h1655_ := (h1654_ la_stepOther_50)
      have h1656_ := (h1655_ h54_)
      have h1657_ := (h1656_ h57_)
      have h1658_ := (h1657_ h56_)
      have h1659_ := (h1658_ h55_)
      have h1660_ := (h1659_ h1640_)
      refine ⟨(la_stepOther_24 h36_ h37_ h59_ h1633_), ?_⟩
      intro g215
      rintro ⟨h1661_, h1662_⟩
      refine ⟨(la_stepOther_191 h36_ h37_ h59_ h1633_ h1661_), ?_⟩
      refine ⟨(la_stepOther_192 h36_ h37_ h59_ h1633_ h1661_), ?_⟩
      intro h1663_
      refine ⟨?_, ?_⟩
      · skip
        intro h1664_
        refine ⟨(la_stepOther_193 h36_ h37_ h59_ h1633_ h1661_), ?_⟩
        intro g228
        rintro ⟨h1665_, ⟨h1666_, ⟨h1667_, ⟨h1668_, ⟨h1669_, h1670_⟩⟩⟩⟩⟩
        refine ⟨(la_stepOther_25 h31_ h36_ h37_ h38_ h49_ h1642_), ?_⟩
        intro g234
        rintro ⟨h1671_, h1672_⟩
        refine ⟨h7_, ?_⟩
        refine ⟨h8_, ?_⟩
        refine ⟨h9_, ?_⟩
        refine ⟨h10_, ?_⟩
        refine ⟨h11_, ?_⟩
        refine ⟨h12_, ?_⟩
        refine ⟨h13_, ?_⟩
        refine ⟨h14_, ?_⟩
        refine ⟨h15_, ?_⟩
        refine ⟨h16_, ?_⟩
        refine ⟨h17_, ?_⟩
        refine ⟨h18_, ?_⟩
        refine ⟨?_, ?_⟩
        · skip
          intro h1673_
          refine ⟨h19_, ?_⟩
          exact h20_
        refine ⟨h21_, ?_⟩
        refine ⟨h22_, ?_⟩
        refine ⟨h23_, ?_⟩
        refine ⟨h24_, ?_⟩
        refine ⟨h33_, ?_⟩
        refine ⟨(la_stepOther_26 h4_), ?_⟩
        refine ⟨(la_stepOther_27 h36_), ?_⟩
        refine ⟨h37_, ?_⟩
        refine ⟨la_stepOther_28, ?_⟩
        refine ⟨?_, ?_⟩
        · skip
          intro h1674_
          have h1675_ := (h1662_ (S 1092 0 - 1))
          have h1676_ := (h1668_ (S 1092 0 - 1))
          have h1677_ := (h1669_ (400 * (S 1092 0 - 1) + S 58 (S 1092 0 - 1) - 1 - 0))
          have h1678_ := (h1669_ (400 * (S 1092 0 - 1) + g215 58 (S 1092 0 - 1)))
          have h1679_ := (h1669_ (400 * (S 1092 0 - 1) + (S 58 (S 1092 0 - 1) - 1)))
          have h1680_ := (h1670_ (400 * (S 1092 0 - 1) + g215 58 (S 1092 0 - 1)))
          have h1681_ := (h1670_ (400 * (S 1092 0 - 1) + S 58 (S 1092 0 - 1) - 1 - 0))
          have h1682_ := (h1670_ (400 * (S 1092 0 - 1) + (S 58 (S 1092 0 - 1) - 1)))
          have h1683_ := (h1672_ (S 1092 0 - 1))
          have e1684_ : S 1100007 (S 1100034 0) = S 1100007 (S 1100025 (S 1100033 0)) := congrArg ((S 1100007)) h57_
          have e1685_ : S 26 (S 1100034 0) = S 26 (S 1100025 (S 1100033 0)) := congrArg ((S 26)) h57_
          have e1686_ : S 63 (400 * (S 1092 0 - 1) + S 58 (S 1092 0 - 1) - 1 - 0) = S 63 (400 * (S 1092 0 - 1) + (S 58 (S 1092 0 - 1) - 1)) := congrArg ((S 63)) la_stepOther_55
          have e1687_ : S 64 (400 * (S 1092 0 - 1) + S 58 (S 1092 0 - 1) - 1 - 0) = S 64 (400 * (S 1092 0 - 1) + (S 58 (S 1092 0 - 1) - 1)) := congrArg ((S 64)) la_stepOther_55
          exact ((la_stepOther_32 h4_ (la_stepOther_30 (la_stepOther_29 h4_) h1674_))).elim
        refine ⟨?_, ?_⟩
        · skip
          intro h1688_
          intro h1689_
          refine ⟨h36_, ?_⟩
          refine ⟨h37_, ?_⟩
          refine ⟨(la_stepOther_33 h38_ h49_ h1671_), ?_⟩
          refine ⟨(la_stepOther_34 h49_ h1642_ h1671_), ?_⟩
          refine ⟨?_, ?_⟩
          · skip
            have h1690_ := (h1662_ (S 1092 0 - 1))
            have h1691_ := (h1668_ (S 1092 0 - 1))
            have h1692_ := (h1669_ (400 * (S 1092 0 - 1) + S 58 (S 1092 0 - 1) - 1 - 0))
            have h1693_ := (h1669_ (400 * (S 1092 0 - 1) + g215 58 (S 1092 0 - 1)))
            have h1694_ := (h1669_ (400 * (S 1092 0 - 1) + (S 58 (S 1092 0 - 1) - 1)))
            have h1695_ := (h1670_ (400 * (S 1092 0 - 1) + g215 58 (S 1092 0 - 1)))
            have h1696_ := (h1670_ (400 * (S 1092 0 - 1) + S 58 (S 1092 0 - 1) - 1 - 0))
            have h1697_ := (h1670_ (400 * (S 1092 0 - 1) + (S 58 (S 1092 0 - 1) - 1)))
            have h1698_ := (h1672_ (S 1092 0 - 1))
            have e1699_ : S 1100007 (S 1100034 0) = S 1100007 (S 1100025 (S 1100033 0)) := congrArg ((S 1100007)) h57_
            have e1700_ : S 26 (S 1100034 0) = S 26 (S 1100025 (S 1100033 0)) := congrArg ((S 26)) h57_
            have e1701_ : S 29 (g234 57 (S 1092 0 - 1)) = S 29 (S 1100033 0 + 1) := congrArg ((S 29)) (la_stepOther_35 h49_ h1671_)
            have e1702_ : S 63 (400 * (S 1092 0 - 1) + S 58 (S 1092 0 - 1) - 1 - 0) = S 63 (400 * (S 1092 0 - 1) + (S 58 (S 1092 0 - 1) - 1)) := congrArg ((S 63)) la_stepOther_55
            have e1703_ : S 64 (400 * (S 1092 0 - 1) + S 58 (S 1092 0 - 1) - 1 - 0) = S 64 (400 * (S 1092 0 - 1) + (S 58 (S 1092 0 - 1) - 1)) := congrArg ((S 64)) la_stepOther_55
            exact (la_stepOther_36 h40_ h1643_ e1701_)
          refine ⟨h41_, ?_⟩
          refine ⟨h42_, ?_⟩
          refine ⟨?_, ?_⟩
          · skip
            have h1704_ := (h1662_ (S 1092 0 - 1))
            have h1705_ := (h1668_ (S 1092 0 - 1))
            have h1706_ := (h1669_ (400 * (S 1092 0 - 1) + S 58 (S 1092 0 - 1) - 1 - 0))
            have h1707_ := (h1669_ (400 * (S 1092 0 - 1) + g215 58 (S 1092 0 - 1)))
            have h1708_ := (h1669_ (400 * (S 1092 0 - 1) + (S 58 (S 1092 0 - 1) - 1)))
            have h1709_ := (h1670_ (400 * (S 1092 0 - 1) + g215 58 (S 1092 0 - 1)))
            have h1710_ := (h1670_ (400 * (S 1092 0 - 1) + S 58 (S 1092 0 - 1) - 1 - 0))
            have h1711_ := (h1670_ (400 * (S 1092 0 - 1) + (S 58 (S 1092 0 - 1) - 1)))
            have h1712_ := (h1672_ (S 1092 0 - 1))
            have e1713_ : S 1100007 (S 1100034 0) = S 1100007 (S 1100025 (S 1100033 0)) := congrArg ((S 1100007)) h57_
            have e1714_ : S 1100023 (g234 57 (S 1092 0 - 1)) = S 1100023 (S 1100033 0 + 1) := congrArg ((S 1100023)) (la_stepOther_35 h49_ h1671_)
            have e1715_ : S 26 (S 1100034 0) = S 26 (S 1100025 (S 1100033 0)) := congrArg ((S 26)) h57_
            have e1716_ : S 63 (400 * (S 1092 0 - 1) + S 58 (S 1092 0 - 1) - 1 - 0) = S 63 (400 * (S 1092 0 - 1) + (S 58 (S 1092 0 - 1) - 1)) := congrArg ((S 63)) la_stepOther_55
            have e1717_ : S 64 (400 * (S 1092 0 - 1) + S 58 (S 1092 0 - 1) - 1 - 0) = S 64 (400 * (S 1092 0 - 1) + (S 58 (S 1092 0 - 1) - 1)) := congrArg ((S 64)) la_stepOther_55
            have e1718_ : sm_dp (S 1100024) (S 1100023 (g234 57 (S 1092 0 - 1))) = sm_dp (S 1100024) (S 1100023 (S 1100033 0)) := congrArg ((sm_dp (S 1100024))) (la_stepOther_13 h1645_ e1714_)
            exact (la_stepOther_37 h43_ e1718_)
          refine ⟨?_, ?_⟩
          · skip
            have h1719_ := (h1662_ (S 1092 0 - 1))
            have h1720_ := (h1668_ (S 1092 0 - 1))
            have h1721_ := (h1669_ (400 * (S 1092 0 - 1) + S 58 (S 1092 0 - 1) - 1 - 0))
            have h1722_ := (h1669_ (400 * (S 1092 0 - 1) + g215 58 (S 1092 0 - 1)))
            have h1723_ := (h1669_ (400 * (S 1092 0 - 1) + (S 58 (S 1092 0 - 1) - 1)))
            have h1724_ := (h1670_ (400 * (S 1092 0 - 1) + g215 58 (S 1092 0 - 1)))
            have h1725_ := (h1670_ (400 * (S 1092 0 - 1) + S 58 (S 1092 0 - 1) - 1 - 0))
            have h1726_ := (h1670_ (400 * (S 1092 0 - 1) + (S 58 (S 1092 0 - 1) - 1)))
            have h1727_ := (h1672_ (S 1092 0 - 1))
            have e1728_ : S 1100007 (S 1100034 0) = S 1100007 (S 1100025 (S 1100033 0)) := congrArg ((S 1100007)) h57_
            have e1729_ : S 1100023 (g234 57 (S 1092 0 - 1)) = S 1100023 (S 1100033 0 + 1) := congrArg ((S 1100023)) (la_stepOther_35 h49_ h1671_)
            have e1730_ : S 26 (S 1100034 0) = S 26 (S 1100025 (S 1100033 0)) := congrArg ((S 26)) h57_
            have e1731_ : S 63 (400 * (S 1092 0 - 1) + S 58 (S 1092 0 - 1) - 1 - 0) = S 63 (400 * (S 1092 0 - 1) + (S 58 (S 1092 0 - 1) - 1)) := congrArg ((S 63)) la_stepOther_55
            have e1732_ : S 64 (400 * (S 1092 0 - 1) + S 58 (S 1092 0 - 1) - 1 - 0) = S 64 (400 * (S 1092 0 - 1) + (S 58 (S 1092 0 - 1) - 1)) := congrArg ((S 64)) la_stepOther_55
            exact (sm_TC_t h44_ (la_stepOther_38 h1645_ e1729_))
          refine ⟨h45_, ?_⟩
          refine ⟨h46_, ?_⟩
          refine ⟨h47_, ?_⟩
          refine ⟨(sm_FL_F h48_ sm_F1_rf sm_F1_rf sm_F1_rf sm_F1_rf (sm_F1_le (sm_F1_ne h1672_ (Int.le_refl _)) (Int.le_refl _)) (sm_F1_tr (sm_F1_le (sm_F1_ne h1662_ (Int.le_refl _)) (Int.le_refl _)) (sm_F1_ne h1668_ (Int.le_refl _)) (Int.le_refl _)) sm_F1_rf sm_F1_rf sm_F1_rf sm_F1_rf (sm_F1_le (sm_F1_ne h1669_ (Int.le_refl _)) (la_stepOther_198 h1633_ h1661_)) (sm_F1_le (sm_F1_ne h1670_ (Int.le_refl _)) (la_stepOther_198 h1633_ h1661_)) (Int.le_refl _) (Int.le_refl _) sm_F1_rf sm_F1_rf (sm_FL_dp h48_ h25_)), ?_⟩
          refine ⟨?_, ?_⟩
          · skip
            have h1733_ := (h1662_ (S 1092 0 - 1))
            have h1734_ := (h1668_ (S 1092 0 - 1))
            have h1735_ := (h1669_ (400 * (S 1092 0 - 1) + S 58 (S 1092 0 - 1) - 1 - 0))
            have h1736_ := (h1669_ (400 * (S 1092 0 - 1) + g215 58 (S 1092 0 - 1)))
            have h1737_ := (h1669_ (400 * (S 1092 0 - 1) + (S 58 (S 1092 0 - 1) - 1)))
            have h1738_ := (h1670_ (400 * (S 1092 0 - 1) + g215 58 (S 1092 0 - 1)))
            have h1739_ := (h1670_ (400 * (S 1092 0 - 1) + S 58 (S 1092 0 - 1) - 1 - 0))
            have h1740_ := (h1670_ (400 * (S 1092 0 - 1) + (S 58 (S 1092 0 - 1) - 1)))
            have h1741_ := (h1672_ (S 1092 0 - 1))
            have e1742_ : S 1100007 (S 1100034 0) = S 1100007 (S 1100025 (S 1100033 0)) := congrArg ((S 1100007)) h57_
            have e1743_ : S 1100007 (g234 57 (S 1092 0 - 1)) = S 1100007 (S 1100033 0 + 1) := congrArg ((S 1100007)) (la_stepOther_35 h49_ h1671_)
            have e1744_ : S 26 (S 1100034 0) = S 26 (S 1100025 (S 1100033 0)) := congrArg ((S 26)) h57_
            have e1745_ : S 63 (400 * (S 1092 0 - 1) + S 58 (S 1092 0 - 1) - 1 - 0) = S 63 (400 * (S 1092 0 - 1) + (S 58 (S 1092 0 - 1) - 1)) := congrArg ((S 63)) la_stepOther_55
            have e1746_ : S 64 (400 * (S 1092 0 - 1) + S 58 (S 1092 0 - 1) - 1 - 0) = S 64 (400 * (S 1092 0 - 1) + (S 58 (S 1092 0 - 1) - 1)) := congrArg ((S 64)) la_stepOther_55
            exact (la_stepOther_199 h56_ h1644_ h1661_ h1665_ e1743_)
          have h1747_ := (h1662_ (S 1092 0 - 1))
          have h1748_ := (h1668_ (S 1092 0 - 1))
          have h1749_ := (h1669_ (400 * (S 1092 0 - 1) + S 58 (S 1092 0 - 1) - 1 - 0))
          have h1750_ := (h1669_ (400 * (S 1092 0 - 1) + g215 58 (S 1092 0 - 1)))
          have h1751_ := (h1669_ (400 * (S 1092 0 - 1) + (S 58 (S 1092 0 - 1) - 1)))
          have h1752_ := (h1670_ (400 * (S 1092 0 - 1) + g215 58 (S 1092 0 - 1)))
          have h1753_ := (h1670_ (400 * (S 1092 0 - 1) + S 58 (S 1092 0 - 1) - 1 - 0))
          have h1754_ := (h1670_ (400 * (S 1092 0 - 1) + (S 58 (S 1092 0 - 1) - 1)))
          have h1755_ := (h1672_ (S 1092 0 - 1))
          have e1756_ : S 1100007 (S 1100034 0) = S 1100007 (S 1100025 (S 1100033 0)) := congrArg ((S 1100007)) h57_
          have e1757_ : S 1100025 (g234 57 (S 1092 0 - 1)) = S 1100025 (S 1100033 0 + 1) := congrArg ((S 1100025)) (la_stepOther_35 h49_ h1671_)
          have e1758_ : S 26 (S 1100034 0) = S 26 (S 1100025 (S 1100033 0)) := congrArg ((S 26)) h57_
          have e1759_ : S 63 (400 * (S 1092 0 - 1) + S 58 (S 1092 0 - 1) - 1 - 0) = S 63 (400 * (S 1092 0 - 1) + (S 58 (S 1092 0 - 1) - 1)) := congrArg ((S 63)) la_stepOther_55
          have e1760_ : S 64 (400 * (S 1092 0 - 1) + S 58 (S 1092 0 - 1) - 1 - 0) = S 64 (400 * (S 1092 0 - 1) + (S 58 (S 1092 0 - 1) - 1)) := congrArg ((S 64)) la_stepOther_55
          exact (sm_SK_q (sm_SK_q (sm_SK_names (sm_SK_F (sm_SK_pop h52_ la_stepOther_201) (sm_F1_le (sm_F1_ne h1669_ (Int.le_refl _)) (la_stepOther_202 h1661_)) (sm_F1_le (sm_F1_ne h1670_ (Int.le_refl _)) (la_stepOther_202 h1661_)) (Int.le_refl _) (Int.le_refl _)) h26_ h38_ h39_ (la_stepOther_190 h62_ h1628_) (la_stepOther_165 h57_) (la_stepOther_206 h56_) rfl ⟨(((congrArg (g228 63) (la_stepOther_203 h1661_)).trans h1666_)).trans la_stepOther_204, by rw [((congrArg (g228 64) (la_stepOther_203 h1661_)).trans h1667_)]; exact (la_stepOther_205 h21_).1, by rw [((congrArg (g228 64) (la_stepOther_203 h1661_)).trans h1667_)]; exact (la_stepOther_205 h21_).2⟩ rfl) rfl (la_stepOther_200 h1661_ h1665_) rfl) (la_stepOther_13 h1646_ e1757_) rfl rfl)
        exact (la_stepOther_43 h4_ h5_ h36_)
      intro h1761_
      refine ⟨(la_stepOther_193 h36_ h37_ h59_ h1633_ h1661_), ?_⟩
      intro g240
      rintro ⟨h1762_, ⟨h1763_, ⟨h1764_, ⟨h1765_, ⟨h1766_, h1767_⟩⟩⟩⟩⟩
      refine ⟨(la_stepOther_25 h31_ h36_ h37_ h38_ h49_ h1642_), ?_⟩
      intro g246
      rintro ⟨h1768_, h1769_⟩
      refine ⟨h7_, ?_⟩
      refine ⟨h8_, ?_⟩
      refine ⟨h9_, ?_⟩
      refine ⟨h10_, ?_⟩
      refine ⟨h11_, ?_⟩
      refine ⟨h12_, ?_⟩
      refine ⟨h13_, ?_⟩
      refine ⟨h14_, ?_⟩
      refine ⟨h15_, ?_⟩
      refine ⟨h16_, ?_⟩
      refine ⟨h17_, ?_⟩
      refine ⟨h18_, ?_⟩
      refine ⟨?_, ?_⟩
      · skip
        intro h1770_
        refine ⟨h19_, ?_⟩
        exact h20_
      refine ⟨h21_, ?_⟩
      refine ⟨h22_, ?_⟩
      refine ⟨h23_, ?_⟩
      refine ⟨h24_, ?_⟩
      refine ⟨h33_, ?_⟩
      refine ⟨(la_stepOther_26 h4_), ?_⟩
      refine ⟨(la_stepOther_27 h36_), ?_⟩
      refine ⟨h37_, ?_⟩
      refine ⟨la_stepOther_28, ?_⟩
      refine ⟨?_, ?_⟩
      · skip
        intro h1771_
        have h1772_ := (h1662_ (S 1092 0 - 1))
        have h1773_ := (h1765_ (S 1092 0 - 1))
        have h1774_ := (h1766_ (400 * (S 1092 0 - 1) + g215 58 (S 1092 0 - 1)))
        have h1775_ := (h1766_ (400 * (S 1092 0 - 1) + S 58 (S 1092 0 - 1) - 1 - 0))
        have h1776_ := (h1766_ (400 * (S 1092 0 - 1) + (S 58 (S 1092 0 - 1) - 1)))
        have h1777_ := (h1767_ (400 * (S 1092 0 - 1) + g215 58 (S 1092 0 - 1)))
        have h1778_ := (h1767_ (400 * (S 1092 0 - 1) + S 58 (S 1092 0 - 1) - 1 - 0))
        have h1779_ := (h1767_ (400 * (S 1092 0 - 1) + (S 58 (S 1092 0 - 1) - 1)))
        have h1780_ := (h1769_ (S 1092 0 - 1))
        have e1781_ : S 1100007 (S 1100034 0) = S 1100007 (S 1100025 (S 1100033 0)) := congrArg ((S 1100007)) h57_
        have e1782_ : S 26 (S 1100034 0) = S 26 (S 1100025 (S 1100033 0)) := congrArg ((S 26)) h57_
        have e1783_ : S 63 (400 * (S 1092 0 - 1) + S 58 (S 1092 0 - 1) - 1 - 0) = S 63 (400 * (S 1092 0 - 1) + (S 58 (S 1092 0 - 1) - 1)) := congrArg ((S 63)) la_stepOther_55
        have e1784_ : S 64 (400 * (S 1092 0 - 1) + S 58 (S 1092 0 - 1) - 1 - 0) = S 64 (400 * (S 1092 0 - 1) + (S 58 (S 1092 0 - 1) - 1)) := congrArg ((S 64)) la_stepOther_55
        obtain ⟨h1785_, ⟨h1786_, h1787_⟩⟩ := ((sm_VO_e h1660_).2.2.2 (la_stepOther_208 h1630_ (sm_VO_e h1660_).2.1 h1761_ e1783_))
        exact ((la_stepOther_32 h4_ (la_stepOther_30 (la_stepOther_29 h4_) h1771_))).elim
      refine ⟨?_, ?_⟩
      · skip
        intro h1788_
        intro h1789_
        refine ⟨h36_, ?_⟩
        refine ⟨h37_, ?_⟩
        refine ⟨(la_stepOther_33 h38_ h49_ h1768_), ?_⟩
        refine ⟨(la_stepOther_34 h49_ h1642_ h1768_), ?_⟩
        refine ⟨?_, ?_⟩
        · skip
          have h1790_ := (h1662_ (S 1092 0 - 1))
          have h1791_ := (h1765_ (S 1092 0 - 1))
          have h1792_ := (h1766_ (400 * (S 1092 0 - 1) + g215 58 (S 1092 0 - 1)))
          have h1793_ := (h1766_ (400 * (S 1092 0 - 1) + S 58 (S 1092 0 - 1) - 1 - 0))
          have h1794_ := (h1766_ (400 * (S 1092 0 - 1) + (S 58 (S 1092 0 - 1) - 1)))
          have h1795_ := (h1767_ (400 * (S 1092 0 - 1) + g215 58 (S 1092 0 - 1)))
          have h1796_ := (h1767_ (400 * (S 1092 0 - 1) + S 58 (S 1092 0 - 1) - 1 - 0))
          have h1797_ := (h1767_ (400 * (S 1092 0 - 1) + (S 58 (S 1092 0 - 1) - 1)))
          have h1798_ := (h1769_ (S 1092 0 - 1))
          have e1799_ : S 1100007 (S 1100034 0) = S 1100007 (S 1100025 (S 1100033 0)) := congrArg ((S 1100007)) h57_
          have e1800_ : S 26 (S 1100034 0) = S 26 (S 1100025 (S 1100033 0)) := congrArg ((S 26)) h57_
          have e1801_ : S 29 (g246 57 (S 1092 0 - 1)) = S 29 (S 1100033 0 + 1) := congrArg ((S 29)) (la_stepOther_35 h49_ h1768_)
          have e1802_ : S 63 (400 * (S 1092 0 - 1) + S 58 (S 1092 0 - 1) - 1 - 0) = S 63 (400 * (S 1092 0 - 1) + (S 58 (S 1092 0 - 1) - 1)) := congrArg ((S 63)) la_stepOther_55
          have e1803_ : S 64 (400 * (S 1092 0 - 1) + S 58 (S 1092 0 - 1) - 1 - 0) = S 64 (400 * (S 1092 0 - 1) + (S 58 (S 1092 0 - 1) - 1)) := congrArg ((S 64)) la_stepOther_55
          obtain ⟨h1804_, ⟨h1805_, h1806_⟩⟩ := ((sm_VO_e h1660_).2.2.2 (la_stepOther_208 h1630_ (sm_VO_e h1660_).2.1 h1761_ e1802_))
          exact (la_stepOther_36 h40_ h1643_ e1801_)
        refine ⟨h41_, ?_⟩
        refine ⟨h42_, ?_⟩
        refine ⟨?_, ?_⟩
        · skip
          have h1807_ := (h1662_ (S 1092 0 - 1))
          have h1808_ := (h1765_ (S 1092 0 - 1))
          have h1809_ := (h1766_ (400 * (S 1092 0 - 1) + g215 58 (S 1092 0 - 1)))
          have h1810_ := (h1766_ (400 * (S 1092 0 - 1) + S 58 (S 1092 0 - 1) - 1 - 0))
          have h1811_ := (h1766_ (400 * (S 1092 0 - 1) + (S 58 (S 1092 0 - 1) - 1)))
          have h1812_ := (h1767_ (400 * (S 1092 0 - 1) + g215 58 (S 1092 0 - 1)))
          have h1813_ := (h1767_ (400 * (S 1092 0 - 1) + S 58 (S 1092 0 - 1) - 1 - 0))
          have h1814_ := (h1767_ (400 * (S 1092 0 - 1) + (S 58 (S 1092 0 - 1) - 1)))
          have h1815_ := (h1769_ (S 1092 0 - 1))
          have e1816_ : S 1100007 (S 1100034 0) = S 1100007 (S 1100025 (S 1100033 0)) := congrArg ((S 1100007)) h57_
          have e1817_ : S 1100023 (g246 57 (S 1092 0 - 1)) = S 1100023 (S 1100033 0 + 1) := congrArg ((S 1100023)) (la_stepOther_35 h49_ h1768_)
          have e1818_ : S 26 (S 1100034 0) = S 26 (S 1100025 (S 1100033 0)) := congrArg ((S 26)) h57_
          have e1819_ : S 63 (400 * (S 1092 0 - 1) + S 58 (S 1092 0 - 1) - 1 - 0) = S 63 (400 * (S 1092 0 - 1) + (S 58 (S 1092 0 - 1) - 1)) := congrArg ((S 63)) la_stepOther_55
          have e1820_ : S 64 (400 * (S 1092 0 - 1) + S 58 (S 1092 0 - 1) - 1 - 0) = S 64 (400 * (S 1092 0 - 1) + (S 58 (S 1092 0 - 1) - 1)) := congrArg ((S 64)) la_stepOther_55
          have e1821_ : sm_dp (S 1100024) (S 1100023 (g246 57 (S 1092 0 - 1))) = sm_dp (S 1100024) (S 1100023 (S 1100033 0)) := congrArg ((sm_dp (S 1100024))) (la_stepOther_13 h1645_ e1817_)
          obtain ⟨h1822_, ⟨h1823_, h1824_⟩⟩ := ((sm_VO_e h1660_).2.2.2 (la_stepOther_208 h1630_ (sm_VO_e h1660_).2.1 h1761_ e1819_))
          exact (la_stepOther_37 h43_ e1821_)
        refine ⟨?_, ?_⟩
        · skip
          have h1825_ := (h1662_ (S 1092 0 - 1))
          have h1826_ := (h1765_ (S 1092 0 - 1))
          have h1827_ := (h1766_ (400 * (S 1092 0 - 1) + g215 58 (S 1092 0 - 1)))
          have h1828_ := (h1766_ (400 * (S 1092 0 - 1) + S 58 (S 1092 0 - 1) - 1 - 0))
          have h1829_ := (h1766_ (400 * (S 1092 0 - 1) + (S 58 (S 1092 0 - 1) - 1)))
          have h1830_ := (h1767_ (400 * (S 1092 0 - 1) + g215 58 (S 1092 0 - 1)))
          have h1831_ := (h1767_ (400 * (S 1092 0 - 1) + S 58 (S 1092 0 - 1) - 1 - 0))
          have h1832_ := (h1767_ (400 * (S 1092 0 - 1) + (S 58 (S 1092 0 - 1) - 1)))
          have h1833_ := (h1769_ (S 1092 0 - 1))
          have e1834_ : S 1100007 (S 1100034 0) = S 1100007 (S 1100025 (S 1100033 0)) := congrArg ((S 1100007)) h57_
          have e1835_ : S 1100023 (g246 57 (S 1092 0 - 1)) = S 1100023 (S 1100033 0 + 1) := congrArg ((S 1100023)) (la_stepOther_35 h49_ h1768_)
          have e1836_ : S 26 (S 1100034 0) = S 26 (S 1100025 (S 1100033 0)) := congrArg ((S 26)) h57_
          have e1837_ : S 63 (400 * (S 1092 0 - 1) + S 58 (S 1092 0 - 1) - 1 - 0) = S 63 (400 * (S 1092 0 - 1) + (S 58 (S 1092 0 - 1) - 1)) := congrArg ((S 63)) la_stepOther_55
          have e1838_ : S 64 (400 * (S 1092 0 - 1) + S 58 (S 1092 0 - 1) - 1 - 0) = S 64 (400 * (S 1092 0 - 1) + (S 58 (S 1092 0 - 1) - 1)) := congrArg ((S 64)) la_stepOther_55
          obtain ⟨h1839_, ⟨h1840_, h1841_⟩⟩ := ((sm_VO_e h1660_).2.2.2 (la_stepOther_208 h1630_ (sm_VO_e h1660_).2.1 h1761_ e1837_))
          exact (sm_TC_t h44_ (la_stepOther_38 h1645_ e1835_))
        refine ⟨h45_, ?_⟩
        refine ⟨h46_, ?_⟩
        refine ⟨h47_, ?_⟩
        refine ⟨(sm_FL_F h48_ sm_F1_rf sm_F1_rf sm_F1_rf sm_F1_rf (sm_F1_le (sm_F1_ne h1769_ (Int.le_refl _)) (Int.le_refl _)) (sm_F1_tr (sm_F1_le (sm_F1_ne h1662_ (Int.le_refl _)) (Int.le_refl _)) (sm_F1_ne h1765_ (Int.le_refl _)) (Int.le_refl _)) sm_F1_rf sm_F1_rf sm_F1_rf sm_F1_rf (sm_F1_le (sm_F1_ne h1766_ (Int.le_refl _)) (la_stepOther_198 h1633_ h1661_)) (sm_F1_le (sm_F1_ne h1767_ (Int.le_refl _)) (la_stepOther_198 h1633_ h1661_)) (Int.le_refl _) (Int.le_refl _) sm_F1_rf sm_F1_rf (sm_FL_dp h48_ h25_)), ?_⟩
        refine ⟨?_, ?_⟩
        · skip
          have h1842_ := (h1662_ (S 1092 0 - 1))
          have h1843_ := (h1765_ (S 1092 0 - 1))
          have h1844_ := (h1766_ (400 * (S 1092 0 - 1) + g215 58 (S 1092 0 - 1)))
          have h1845_ := (h1766_ (400 * (S 1092 0 - 1) + S 58 (S 1092 0 - 1) - 1 - 0))
          have h1846_ := (h1766_ (400 * (S 1092 0 - 1) + (S 58 (S 1092 0 - 1) - 1)))
          have h1847_ := (h1767_ (400 * (S 1092 0 - 1) + g215 58 (S 1092 0 - 1)))
          have h1848_ := (h1767_ (400 * (S 1092 0 - 1) + S 58 (S 1092 0 - 1) - 1 - 0))
          have h1849_ := (h1767_ (400 * (S 1092 0 - 1) + (S 58 (S 1092 0 - 1) - 1)))
          have h1850_ := (h1769_ (S 1092 0 - 1))
          have e1851_ : S 1100007 (S 1100034 0) = S 1100007 (S 1100025 (S 1100033 0)) := congrArg ((S 1100007)) h57_
          have e1852_ : S 1100007 (g246 57 (S 1092 0 - 1)) = S 1100007 (S 1100033 0 + 1) := congrArg ((S 1100007)) (la_stepOther_35 h49_ h1768_)
          have e1853_ : S 26 (S 1100034 0) = S 26 (S 1100025 (S 1100033 0)) := congrArg ((S 26)) h57_
          have e1854_ : S 63 (400 * (S 1092 0 - 1) + S 58 (S 1092 0 - 1) - 1 - 0) = S 63 (400 * (S 1092 0 - 1) + (S 58 (S 1092 0 - 1) - 1)) := congrArg ((S 63)) la_stepOther_55
          have e1855_ : S 64 (400 * (S 1092 0 - 1) + S 58 (S 1092 0 - 1) - 1 - 0) = S 64 (400 * (S 1092 0 - 1) + (S 58 (S 1092 0 - 1) - 1)) := congrArg ((S 64)) la_stepOther_55
          obtain ⟨h1856_, ⟨h1857_, h1858_⟩⟩ := ((sm_VO_e h1660_).2.2.2 (la_stepOther_208 h1630_ (sm_VO_e h1660_).2.1 h1761_ e1854_))
          exact (la_stepOther_199 h56_ h1644_ h1661_ h1762_ e1852_)
        have h1859_ := (h1662_ (S 1092 0 - 1))
        have h1860_ := (h1765_ (S 1092 0 - 1))
        have h1861_ := (h1766_ (400 * (S 1092 0 - 1) + g215 58 (S 1092 0 - 1)))
        have h1862_ := (h1766_ (400 * (S 1092 0 - 1) + S 58 (S 1092 0 - 1) - 1 - 0))
        have h1863_ := (h1766_ (400 * (S 1092 0 - 1) + (S 58 (S 1092 0 - 1) - 1)))
        have h1864_ := (h1767_ (400 * (S 1092 0 - 1) + g215 58 (S 1092 0 - 1)))
        have h1865_ := (h1767_ (400 * (S 1092 0 - 1) + S 58 (S 1092 0 - 1) - 1 - 0))
        have h1866_ := (h1767_ (400 * (S 1092 0 - 1) + (S 58 (S 1092 0 - 1) - 1)))
        have h1867_ := (h1769_ (S 1092 0 - 1))
        have e1868_ : S 1100007 (S 1100034 0) = S 1100007 (S 1100025 (S 1100033 0)) := congrArg ((S 1100007)) h57_
        have e1869_ : S 1100025 (g246 57 (S 1092 0 - 1)) = S 1100025 (S 1100033 0 + 1) := congrArg ((S 1100025)) (la_stepOther_35 h49_ h1768_)
        have e1870_ : S 26 (S 1100034 0) = S 26 (S 1100025 (S 1100033 0)) := congrArg ((S 26)) h57_
        have e1871_ : S 63 (400 * (S 1092 0 - 1) + S 58 (S 1092 0 - 1) - 1 - 0) = S 63 (400 * (S 1092 0 - 1) + (S 58 (S 1092 0 - 1) - 1)) := congrArg ((S 63)) la_stepOther_55
        have e1872_ : S 64 (400 * (S 1092 0 - 1) + S 58 (S 1092 0 - 1) - 1 - 0) = S 64 (400 * (S 1092 0 - 1) + (S 58 (S 1092 0 - 1) - 1)) := congrArg ((S 64)) la_stepOther_55
        obtain ⟨h1873_, ⟨h1874_, h1875_⟩⟩ := ((sm_VO_e h1660_).2.2.2 (la_stepOther_208 h1630_ (sm_VO_e h1660_).2.1 h1761_ e1871_))
        exact (sm_SK_q (sm_SK_q (sm_SK_names (sm_SK_F (sm_SK_pop h52_ la_stepOther_201) (sm_F1_le (sm_F1_ne h1766_ (Int.le_refl _)) (la_stepOther_202 h1661_)) (sm_F1_le (sm_F1_ne h1767_ (Int.le_refl _)) (la_stepOther_202 h1661_)) (Int.le_refl _) (Int.le_refl _)) h26_ h38_ h39_ (la_stepOther_190 h62_ h1628_) (la_stepOther_165 h57_) (la_stepOther_206 h56_) rfl ⟨(((congrArg (g240 63) (la_stepOther_203 h1661_)).trans h1763_)).trans la_stepOther_204, by rw [((congrArg (g240 64) (la_stepOther_203 h1661_)).trans h1764_)]; exact (la_stepOther_209 h1631_ e1872_ h1873_ h1874_).1, by rw [((congrArg (g240 64) (la_stepOther_203 h1661_)).trans h1764_)]; exact (la_stepOther_209 h1631_ e1872_ h1873_ h1874_).2⟩ rfl) rfl (la_stepOther_200 h1661_ h1762_) rfl) (la_stepOther_13 h1646_ e1869_) rfl rfl)
      exact (la_stepOther_43 h4_ h5_ h36_)
    refine ⟨la_stepOther_210, ?_⟩
    intro h1876_
    have h1877_ := (h64_.resolve_left h1876_)
    refine ⟨la_stepOther_211, ?_⟩
    intro h1878_
    have h1879_ := (h1877_.resolve_left h1878_)
    refine ⟨(la_stepOther_212 h36_ h37_ h50_ h59_ h1878_ h1879_), ?_⟩
    intro h1880_
    exact (la_stepOther_218 h1880_)
  intro h1881_
  intro h1882_
  refine ⟨la_stepOther_210, ?_⟩
  intro h1883_
  have h1884_ := (h64_.resolve_left h1883_)
  refine ⟨la_stepOther_211, ?_⟩
  intro h1885_
  have h1886_ := (h1884_.resolve_left h1885_)
  refine ⟨(la_stepOther_212 h36_ h37_ h50_ h59_ h1885_ h1886_), ?_⟩
  intro h1887_
  exact (la_stepOther_218 h1887_)
set_option maxRecDepth 8000 in
set_option maxHeartbeats 2000000 in
theorem t_stepOther : ∀ (p1 : Int) (p2 : Int) (S : sv_S), sm_ok S → sv_R p1 → sv_R p2 → ((S 1075 0) = 0 ∧ (S 1073 0) = 1 ∧ sm_LX (S 58) (S 63) (S 64) (S 1092 0) (S 1076 0) ∧ sm_PL (S 1100020) (S 51) (S 52) (S 46) (S 47) (S 1076 0) (S 1086 0) ∧ sm_FR (S 1100020) (S 52) (S 1100021) (S 1100022) (3000 - (S 1084 0)) (S 1085 0) ∧ sm_PV (S 1100020) (S 48) (S 49) (S 50) (S 44) (S 1076 0) (S 1007 0) ∧ sm_AL (S 1100020) (S 48) (S 49) (S 50) (S 44) (S 1076 0) (S 1100032 0) ∧ sm_SV (S 1100020) (S 48) (S 1100029) (S 32) (S 33) (S 1076 0) (S 1032 0) ∧ 0 ≤ (S 1076 0) ∧ (S 1076 0) ≤ 300 ∧ 0 ≤ (S 1084 0) ∧ (S 1084 0) ≤ 3000 ∧ 0 ≤ (S 1086 0) ∧ sm_SC (S 1100029) (S 44) (S 45) (S 43) (S 21) (S 1076 0) (S 1032 0) ∧ sm_PO (S 42) (S 1076 0) ∧ (S 1100032 0) = -1 ∧ sm_FO (S 44) (S 45) (S 1076 0) ∧ 23 ≤ (S 1076 0) ∧ 31 ≤ (S 1007 0) ∧ (S 1007 0) ≤ 400 ∧ sm_LN (S 4) 400 (S 1007 0) ∧ sm_CT (S 26) (S 27) (S 28) (S 29) (S 1100007) (S 1100023) (S 1100024) (S 1100025) (S 21) (S 1046 0) (S 1032 0) (S 1008 0) (S 1055 0) ∧ sm_LS (S 26) (S 1100007) (S 1100025) (S 1046 0) ∧ sm_CL (S 1100007) (S 1100023) (S 1100025) (S 1046 0) ∧ 1 ≤ (S 1032 0) ∧ (S 1032 0) ≤ 11 ∧ 0 ≤ (S 1046 0) ∧ (S 1046 0) ≤ 600 ∧ 31 ≤ (S 1008 0) ∧ (S 1008 0) ≤ (S 1007 0) ∧ 0 ≤ (S 1055 0) ∧ (S 1055 0) ≤ 19 ∧ 1 ≤ (S 1092 0) ∧ (S 1092 0) ≤ 24 ∧ 0 ≤ (S 1100033 0) ∧ (S 1100033 0) < (S 1046 0) ∧ (S 29 (S 1100033 0)) = (S 53 ((S 1092 0) - 1)) ∧ 0 ≤ (S 53 ((S 1092 0) - 1)) ∧ (S 53 ((S 1092 0) - 1)) < (S 1032 0) ∧ (S 60 ((S 1092 0) - 1)) = sm_dp (S 1100024) (S 1100023 (S 1100033 0)) ∧ sm_TC (S 61) (S 62) (S 27) (S 1100007) (S 1100023) (S 1100024) (40 * ((S 1092 0) - 1)) (S 1100023 (S 1100033 0)) ∧ sm_LK (S 1100029) (S 1076 0) (S 54 ((S 1092 0) - 1)) (S 53 ((S 1092 0) - 1)) ∧ sm_VO (S 44) (S 1076 0) (S 1007 0) ((S 55 ((S 1092 0) - 1))) ((S 56 ((S 1092 0) - 1))) ∧ sm_FW (S 44) (S 1076 0) (S 59 ((S 1092 0) - 1)) ∧ sm_FL (S 53) (S 54) (S 55) (S 56) (S 57) (S 58) (S 59) (S 60) (S 61) (S 62) (S 63) (S 64) (S 27) (S 29) (S 1100007) (S 1100023) (S 1100024) (S 1100025) (S 26) (S 1100029) (S 44) (S 1046 0) (S 1032 0) (S 1076 0) (S 1007 0) (((S 1092 0) - 1)) ∧ (S 57 ((S 1092 0) - 1)) = (S 1100033 0) ∧ 0 ≤ (S 58 ((S 1092 0) - 1)) ∧ (S 58 ((S 1092 0) - 1)) ≤ 400 ∧ sm_SK (S 63) (S 64) (S 44) (S 1100007) (S 1100025) (S 1076 0) (S 1007 0) (400 * ((S 1092 0) - 1)) ((S 58 ((S 1092 0) - 1))) ((S 1100034 0)) ∧ -1 ≤ (S 1100034 0) ∧ (S 1100034 0) < (S 1046 0) ∧ (0 ≤ (S 1100034 0) → (S 26 (S 1100034 0)) = 29) ∧ (S 58 ((S 1092 0) - 1)) = (S 1100007 (S 1100033 0)) ∧ (S 1100034 0) = (S 1100025 (S 1100033 0)) ∧ (0 ≤ (S 1100023 (S 1100033 0)) → (S 1100007 (S 1100023 (S 1100033 0))) ≤ (S 58 ((S 1092 0) - 1))) ∧ (S 58 ((S 1092 0) - 1)) ≤ 396 ∧ 17 ≤ p1 ∧ p1 ≤ 30 ∧ p1 = (S 26 (S 1100033 0)) ∧ p2 = (S 27 (S 1100033 0)) ∧ (p1 = 21 ∨ p1 = 27 ∨ p1 = 28 ∨ 1 ≤ (S 58 ((S 1092 0) - 1)))) → sv_T sm_XS sm_cs sm_L sm_sh 3 (q_stepOther p1 p2 S) 161 0 (lv_args 0 [.ref 0, sv_I p1, sv_I p2]) [] S := by
  intro p1 p2 S hok hp1 hp2 hpre
  have h := f_stepOther p1 p2 S hok hp1 hp2 hpre
  have hM := sm_h161
  show sv_T sm_XS sm_cs sm_L sm_sh 3 (q_stepOther p1 p2 S) 161 0 [(0, .ref 0), (1, sv_I p1), (2, sv_I p2)] [] S
  have k1 : (sm_CT (S 26) (S 27) (S 28) (S 29) (S 1100007) (S 1100023) (S 1100024) (S 1100025) (S 21) (S 1046 0) (S 1032 0) (S 1008 0) (S 1055 0) → 0 ≤ (S 1100033 0) → (S 1100033 0) < (S 1046 0) → (0 ≤ (S 1100025 (S 1100033 0)) → (S 26 (S 1100025 (S 1100033 0))) = 29 ∧ (S 1100007 (S 1100025 (S 1100033 0))) ≤ (S 1100007 (S 1100033 0))) ∧ (0 ≤ (S 1100007 (S 1100033 0)) ∧ (S 1100007 (S 1100033 0)) ≤ 396 ∧ -1 ≤ (S 1100023 (S 1100033 0)) ∧ (S 1100023 (S 1100033 0)) < (S 1100033 0) ∧ -1 ≤ (S 1100025 (S 1100033 0)) ∧ (S 1100025 (S 1100033 0)) < (S 1100033 0) ∧ 0 ≤ (S 26 (S 1100033 0)) ∧ (S 26 (S 1100033 0)) ≤ 30)) := fun h a b => by have q := sm_ct_0 h _ a b; have w := sm_ct_3 h _ a b; exact ⟨fun z => ⟨(w z).1, (w z).2.2.1⟩, by omega⟩
  have h := h k1
  have k2 : ((S 1100034 0) = (S 1100025 (S 1100033 0)) → (S 58 ((S 1092 0) - 1)) = (S 1100007 (S 1100033 0)) → (0 ≤ (S 1100025 (S 1100033 0)) → (S 1100007 (S 1100025 (S 1100033 0))) ≤ (S 1100007 (S 1100033 0))) → (0 ≤ (S 1100034 0) → (S 1100007 (S 1100034 0)) ≤ (S 58 ((S 1092 0) - 1)))) := fun q f j z => by rw [q] at z ⊢; have := j z; omega
  have h := h k2
  have J253 : ∀ s3 : Int, sv_R s3 → ((p1 = 21 ∨ p1 = 27 ∨ p1 = 28) ∨ s3 = (S 63 ((400 * ((S 1092 0) - 1) + (S 58 ((S 1092 0) - 1))) - 1 - 0))) → sv_T sm_XS sm_cs sm_L sm_sh 3 (q_stepOther p1 p2 S) 161 27 [(0, .ref 0), (1, sv_I p1), (2, sv_I p2)] [sv_I s3] S := by
    intro s3 hs3 hin4
    have h := h.1 s3 hs3 hin4
    refine sv_istore_n hM dX12_stepOther_27 (by decide) rfl ?_
    show sv_T sm_XS sm_cs sm_L sm_sh 3 (q_stepOther p1 p2 S) 161 28 [(0, .ref 0), (1, sv_I p1), (2, sv_I p2), (3, sv_I s3)] [] S
    have J251 : ∀ s5 : Int, sv_R s5 → ((p1 = 21 ∨ p1 = 27 ∨ p1 = 28) ∨ s5 = (S 64 ((400 * ((S 1092 0) - 1) + (S 58 ((S 1092 0) - 1))) - 1 - 0))) → sv_T sm_XS sm_cs sm_L sm_sh 3 (q_stepOther p1 p2 S) 161 55 [(0, .ref 0), (1, sv_I p1), (2, sv_I p2), (3, sv_I s3)] [sv_I s5] S := by
      intro s5 hs5 hin6
      have h := h.1 s5 hs5 hin6
      refine sv_istore hM dX12_stepOther_55 (by decide) rfl ?_
      show sv_T sm_XS sm_cs sm_L sm_sh 3 (q_stepOther p1 p2 S) 161 57 [(0, .ref 0), (1, sv_I p1), (2, sv_I p2), (3, sv_I s3), (4, sv_I s5)] [] S
      refine sv_aload_n hM dX12_stepOther_57 rfl rfl ?_
      have k7 : sv_R (S 1092 0) := sm_okI hok sm_r1092 0
      have h := h k7
      refine sv_getI hM dX12_stepOther_58 sm_fl_872 (sm_a0 _) sm_k92 rfl (x := (S 1092 0)) rfl ?_
      refine sv_iconst (d := (1 : Int)) hM dX12_stepOther_61 rfl rfl ?_
      refine sv_isub hM dX12_stepOther_62 rfl ?_
      refine sv_istore hM dX12_stepOther_63 (by decide) rfl ?_
      show sv_T sm_XS sm_cs sm_L sm_sh 3 (q_stepOther p1 p2 S) 161 65 [(0, .ref 0), (1, sv_I p1), (2, sv_I p2), (3, sv_I s3), (4, sv_I s5), (5, sv_I ((S 1092 0) - (1 : Int)))] [] S
      refine sv_iload_n hM dX12_stepOther_65 rfl rfl ?_
      have hS := h
      have J0 : (p1 < (17 : Int) ∨ (29 : Int) < p1) → sv_T sm_XS sm_cs sm_L sm_sh 3 (q_stepOther p1 p2 S) 161 454 [(0, .ref 0), (1, sv_I p1), (2, sv_I p2), (3, sv_I s3), (4, sv_I s5), (5, sv_I ((S 1092 0) - (1 : Int)))] [] S := by
        intro hc
        have h := hS.1 hc
        have k8 : (sm_CT (S 26) (S 27) (S 28) (S 29) (S 1100007) (S 1100023) (S 1100024) (S 1100025) (S 21) (S 1046 0) (S 1032 0) (S 1008 0) (S 1055 0) → 0 ≤ (S 1100033 0) → (S 1100033 0) < (S 1046 0) → ((S 26 (S 1100033 0)) = 30 → 0 ≤ (S 1100025 (S 1100033 0)) ∧ (S 1100007 ((S 1100025 (S 1100033 0)))) = (S 1100007 (S 1100033 0)) ∧ 1 ≤ (S 1100007 (S 1100033 0)) ∧ (0 ≤ (S 1100023 (S 1100033 0)) → (S 1100007 ((S 1100023 (S 1100033 0)))) ≤ (S 1100007 (S 1100033 0)) - 1) ∧ (0 ≤ ((S 1100033 0) + 1) ∧ ((S 1100033 0) + 1) < (S 1046 0) ∧ (S 29 ((S 1100033 0) + 1)) = ((S 29 (S 1100033 0))) ∧ (S 1100007 ((S 1100033 0) + 1)) = ((S 1100007 (S 1100033 0)) + 1) ∧ (S 1100023 ((S 1100033 0) + 1)) = ((S 1100023 (S 1100033 0))) ∧ (S 1100025 ((S 1100033 0) + 1)) = ((S 1100025 (S 1100033 0)))) ∧ (0 ≤ ((S 27 (S 1100033 0))) ∧ ((S 27 (S 1100033 0))) < (S 1046 0) ∧ (S 29 ((S 27 (S 1100033 0)))) = ((S 29 (S 1100033 0))) ∧ (S 1100007 ((S 27 (S 1100033 0)))) = ((S 1100007 (S 1100033 0)) - 1) ∧ (S 1100023 ((S 27 (S 1100033 0)))) = ((S 1100023 (S 1100033 0))) ∧ (S 1100025 ((S 27 (S 1100033 0)))) = ((S 1100025 ((S 1100025 (S 1100033 0)))))))) := fun h h0 h1 => sm_ct_27 h _ h0 h1
        have h := h k8
        have k9 : (sm_SK (S 63) (S 64) (S 44) (S 1100007) (S 1100025) (S 1076 0) (S 1007 0) (400 * ((S 1092 0) - 1)) ((S 58 ((S 1092 0) - 1))) ((S 1100034 0)) → sm_LS (S 26) (S 1100007) (S 1100025) (S 1046 0) → 0 ≤ (S 1100034 0) → (S 1100034 0) < (S 1046 0) → (S 26 (S 1100034 0)) = 29 → (S 1100007 (S 1100034 0)) = (S 58 ((S 1092 0) - 1)) → (S 63 (400 * ((S 1092 0) - 1) + (S 58 ((S 1092 0) - 1)) - 1)) = 8 ∧ -1 ≤ (S 64 (400 * ((S 1092 0) - 1) + (S 58 ((S 1092 0) - 1)) - 1)) ∧ (S 64 (400 * ((S 1092 0) - 1) + (S 58 ((S 1092 0) - 1)) - 1)) < (S 1076 0)) := fun h l a b e g => sm_SK_list h l a b e g
        have h := h k9
        have k10 : (sm_CT (S 26) (S 27) (S 28) (S 29) (S 1100007) (S 1100023) (S 1100024) (S 1100025) (S 21) (S 1046 0) (S 1032 0) (S 1008 0) (S 1055 0) → 0 ≤ (S 1100033 0) → (S 1100033 0) < (S 1046 0) → (0 ≤ (S 1100025 (S 1100033 0)) → (S 26 ((S 1100025 (S 1100033 0)))) = 29 ∧ (S 29 ((S 1100025 (S 1100033 0)))) = (S 29 (S 1100033 0)) ∧ (S 1100007 ((S 1100025 (S 1100033 0)))) ≤ (S 1100007 (S 1100033 0)) ∧ 1 ≤ (S 1100007 ((S 1100025 (S 1100033 0)))))) := fun h h0 h1 => sm_ct_3 h _ h0 h1
        have h := h k10
        refine sv_aload_n hM dX12_stepOther_454 rfl rfl ?_
        refine sv_iload_n hM dX12_stepOther_455 rfl rfl ?_
        obtain ⟨o11, h⟩ := h
        refine sv_callV hM dX12_stepOther_456 sm_iv_960 (by decide) (sm_a0 _) rfl rfl (Nat.le_of_ble_eq_true rfl) sm_h164 (Nat.le_of_ble_eq_true rfl) (Nat.le_of_ble_eq_true rfl) (F' := 2) (Nat.le_of_ble_eq_true rfl) rfl (t_goNext p2 S hok hp2 o11) (fun v S1 hq => ?_)
        obtain ⟨rfl, ok13, md14, hpo15⟩ := hq
        obtain ⟨g12, rfl⟩ : ∃ g, S1 = sv_sts S [58, 57, 63, 64, 65] g := ⟨_, md14.eq⟩
        show sv_T sm_XS sm_cs sm_L sm_sh 3 (q_stepOther p1 p2 S) 161 459 [(0, .ref 0), (1, sv_I p1), (2, sv_I p2), (3, sv_I s3), (4, sv_I s5), (5, sv_I ((S 1092 0) - (1 : Int)))] [] (sv_sts S [58, 57, 63, 64, 65] g12)
        have md16 : sv_mod [1092, 60, 58, 57, 63, 64, 1073, 1109, 1110, 65, 66, 61, 62] S (sv_sts S [58, 57, 63, 64, 65] g12) := sv_mod.sts sv_mod.rf (by decide)
        have h := h g12 hpo15
        exact sv_vret hM dX12_stepOther_459 rfl ⟨rfl, ok13, md16, h⟩
      have J1 : (p1 = (17 : Int)) → sv_T sm_XS sm_cs sm_L sm_sh 3 (q_stepOther p1 p2 S) 161 132 [(0, .ref 0), (1, sv_I p1), (2, sv_I p2), (3, sv_I s3), (4, sv_I s5), (5, sv_I ((S 1092 0) - (1 : Int)))] [] S := by
        intro hc
        have h := hS.2.1 hc
        have k17 : (sm_CT (S 26) (S 27) (S 28) (S 29) (S 1100007) (S 1100023) (S 1100024) (S 1100025) (S 21) (S 1046 0) (S 1032 0) (S 1008 0) (S 1055 0) → sm_LS (S 26) (S 1100007) (S 1100025) (S 1046 0) → sm_SK (S 63) (S 64) (S 44) (S 1100007) (S 1100025) (S 1076 0) (S 1007 0) (400 * ((S 1092 0) - 1)) ((S 58 ((S 1092 0) - 1))) ((S 1100034 0)) → 0 ≤ (S 1100033 0) → (S 1100033 0) < (S 1046 0) → (S 26 (S 1100033 0)) = 17 → (S 1100034 0) = (S 1100025 (S 1100033 0)) → (S 58 ((S 1092 0) - 1)) = (S 1100007 (S 1100033 0)) → sm_SK (S 63) (S 64) (S 44) (S 1100007) (S 1100025) (S 1076 0) (S 1007 0) (400 * ((S 1092 0) - 1)) ((S 58 ((S 1092 0) - 1)) - 1) ((S 1100025 ((S 1100033 0) + 1))) ∧ (S 1100033 0) + 1 < (S 1046 0) ∧ (S 29 ((S 1100033 0) + 1)) = (S 29 (S 1100033 0)) ∧ (S 1100007 ((S 1100033 0) + 1)) = (S 1100007 (S 1100033 0)) - 1 ∧ (S 1100023 ((S 1100033 0) + 1)) = (S 1100023 (S 1100033 0)) ∧ 1 ≤ (S 1100007 (S 1100033 0)) ∧ -1 ≤ (S 1100025 ((S 1100033 0) + 1))) := fun c l w a b d e f => sm_SK_d17 c l w a b d e f
        have h := h k17
        refine sv_aload_n hM dX12_stepOther_132 rfl rfl ?_
        refine sv_iconst (d := (1 : Int)) hM dX12_stepOther_133 rfl rfl ?_
        obtain ⟨o18, h⟩ := h
        refine sv_callV hM dX12_stepOther_134 sm_iv_882 (by decide) (sm_a0 _) rfl rfl (Nat.le_of_ble_eq_true rfl) sm_h153 (Nat.le_of_ble_eq_true rfl) (Nat.le_of_ble_eq_true rfl) (F' := 0) (Nat.le_of_ble_eq_true rfl) rfl (t_drop (1 : Int) S hok (⟨by decide, by decide⟩ : sv_R (1 : Int)) o18) (fun v S1 hq => ?_)
        obtain ⟨rfl, ok20, md21, hpo22⟩ := hq
        obtain ⟨g19, rfl⟩ : ∃ g, S1 = sv_sts S [58] g := ⟨_, md21.eq⟩
        show sv_T sm_XS sm_cs sm_L sm_sh 3 (q_stepOther p1 p2 S) 161 137 [(0, .ref 0), (1, sv_I p1), (2, sv_I p2), (3, sv_I s3), (4, sv_I s5), (5, sv_I ((S 1092 0) - (1 : Int)))] [] (sv_sts S [58] g19)
        have md23 : sv_mod [1092, 60, 58, 57, 63, 64, 1073, 1109, 1110, 65, 66, 61, 62] S (sv_sts S [58] g19) := sv_mod.sts sv_mod.rf (by decide)
        have h := h g19 hpo22
        refine sv_aload_n hM dX12_stepOther_137 rfl rfl ?_
        obtain ⟨o24, h⟩ := h
        refine sv_callV hM dX12_stepOther_138 sm_iv_888 (by decide) (sm_a0 _) rfl rfl (Nat.le_of_ble_eq_true rfl) sm_h154 (Nat.le_of_ble_eq_true rfl) (Nat.le_of_ble_eq_true rfl) (F' := 0) (Nat.le_of_ble_eq_true rfl) rfl (t_goOn  (sv_sts S [58] g19) ok20 o24) (fun v S1 hq => ?_)
        obtain ⟨rfl, ok26, md27, hpo28⟩ := hq
        obtain ⟨g25, rfl⟩ : ∃ g, S1 = sv_sts (sv_sts S [58] g19) [57] g := ⟨_, md27.eq⟩
        show sv_T sm_XS sm_cs sm_L sm_sh 3 (q_stepOther p1 p2 S) 161 141 [(0, .ref 0), (1, sv_I p1), (2, sv_I p2), (3, sv_I s3), (4, sv_I s5), (5, sv_I ((S 1092 0) - (1 : Int)))] [] (sv_sts (sv_sts S [58] g19) [57] g25)
        have md29 : sv_mod [1092, 60, 58, 57, 63, 64, 1073, 1109, 1110, 65, 66, 61, 62] S (sv_sts (sv_sts S [58] g19) [57] g25) := sv_mod.sts md23 (by decide)
        have h := h g25 hpo28
        refine sv_goto hM dX12_stepOther_141 (pc' := 459) rfl ?_
        exact sv_vret hM dX12_stepOther_459 rfl ⟨rfl, ok26, md29, h⟩
      have J2 : (p1 = (18 : Int)) → sv_T sm_XS sm_cs sm_L sm_sh 3 (q_stepOther p1 p2 S) 161 144 [(0, .ref 0), (1, sv_I p1), (2, sv_I p2), (3, sv_I s3), (4, sv_I s5), (5, sv_I ((S 1092 0) - (1 : Int)))] [] S := by
        intro hc
        have h := hS.2.2.1 hc
        have k30 : (sm_CT (S 26) (S 27) (S 28) (S 29) (S 1100007) (S 1100023) (S 1100024) (S 1100025) (S 21) (S 1046 0) (S 1032 0) (S 1008 0) (S 1055 0) → 0 ≤ (S 1100033 0) → (S 1100033 0) < (S 1046 0) → ((S 26 (S 1100033 0)) = 18 → (0 ≤ ((S 1100007 (S 1100033 0)) - 1) ∧ (0 ≤ (S 1100023 (S 1100033 0)) → (S 1100007 (S 1100023 (S 1100033 0))) ≤ ((S 1100007 (S 1100033 0)) - 1)) ∧ (0 ≤ (S 1100025 (S 1100033 0)) → (S 1100007 (S 1100025 (S 1100033 0))) ≤ ((S 1100007 (S 1100033 0)) - 1))) ∧ (0 ≤ ((S 1100033 0) + 1) ∧ ((S 1100033 0) + 1) < (S 1046 0) ∧ (S 29 ((S 1100033 0) + 1)) = ((S 29 (S 1100033 0))) ∧ (S 1100007 ((S 1100033 0) + 1)) = ((S 1100007 (S 1100033 0)) + 1) ∧ (S 1100023 ((S 1100033 0) + 1)) = ((S 1100023 (S 1100033 0))) ∧ (S 1100025 ((S 1100033 0) + 1)) = ((S 1100025 (S 1100033 0)))))) := fun h h0 h1 => sm_ct_17 h _ h0 h1
        have h := h k30
        have k31 : ((S 1100034 0) = (S 1100025 (S 1100033 0)) → (S 58 ((S 1092 0) - 1)) = (S 1100007 (S 1100033 0)) → (0 ≤ (S 1100025 (S 1100033 0)) → (S 1100007 (S 1100025 (S 1100033 0))) ≤ (S 1100007 (S 1100033 0)) - 1) → (0 ≤ (S 1100034 0) → (S 1100007 (S 1100034 0)) ≤ (S 58 ((S 1092 0) - 1)) - 1)) := fun q f j z => by rw [q] at z ⊢; have := j z; omega
        have h := h k31
        have k32 : (sm_SK (S 63) (S 64) (S 44) (S 1100007) (S 1100025) (S 1076 0) (S 1007 0) (400 * ((S 1092 0) - 1)) ((S 58 ((S 1092 0) - 1))) ((S 1100034 0)) → sm_LS (S 26) (S 1100007) (S 1100025) (S 1046 0) → 0 ≤ (S 58 ((S 1092 0) - 1)) - 1 → (S 58 ((S 1092 0) - 1)) - 1 < (S 58 ((S 1092 0) - 1)) → (S 1100034 0) < (S 1046 0) → (S 1100034 0) = (S 1100025 (S 1100033 0)) → (S 58 ((S 1092 0) - 1)) = (S 1100007 (S 1100033 0)) → (0 ≤ (S 1100034 0) → (S 26 (S 1100034 0)) = 29) → (0 ≤ (S 1100025 (S 1100033 0)) → (S 1100007 (S 1100025 (S 1100033 0))) ≤ (S 1100007 (S 1100033 0)) - 1) → sm_VO (S 44) (S 1076 0) (S 1007 0) ((S 63 (400 * ((S 1092 0) - 1) + ((S 58 ((S 1092 0) - 1)) - 1)))) ((S 64 (400 * ((S 1092 0) - 1) + ((S 58 ((S 1092 0) - 1)) - 1))))) := fun h a b e g q f i j => sm_SK_at h a _ b e g (fun z => ⟨i z, by rw [q]; have := j (by omega); omega⟩)
        have h := h k32
        refine sv_aload_n hM dX12_stepOther_144 rfl rfl ?_
        refine sv_iload_n hM dX12_stepOther_145 rfl rfl ?_
        refine sv_iload hM dX12_stepOther_146 rfl rfl ?_
        obtain ⟨o33, h⟩ := h
        refine sv_callV hM dX12_stepOther_148 sm_iv_885 (by decide) (sm_a0 _) rfl rfl (Nat.le_of_ble_eq_true rfl) sm_h152 (Nat.le_of_ble_eq_true rfl) (Nat.le_of_ble_eq_true rfl) (F' := 1) (Nat.le_of_ble_eq_true rfl) rfl (t_push s3 s5 S hok hs3 hs5 o33) (fun v S1 hq => ?_)
        obtain ⟨rfl, ok35, md36, hpo37⟩ := hq
        obtain ⟨g34, rfl⟩ : ∃ g, S1 = sv_sts S [63, 64, 58] g := ⟨_, md36.eq⟩
        show sv_T sm_XS sm_cs sm_L sm_sh 3 (q_stepOther p1 p2 S) 161 151 [(0, .ref 0), (1, sv_I p1), (2, sv_I p2), (3, sv_I s3), (4, sv_I s5), (5, sv_I ((S 1092 0) - (1 : Int)))] [] (sv_sts S [63, 64, 58] g34)
        have md38 : sv_mod [1092, 60, 58, 57, 63, 64, 1073, 1109, 1110, 65, 66, 61, 62] S (sv_sts S [63, 64, 58] g34) := sv_mod.sts sv_mod.rf (by decide)
        have h := h g34 hpo37
        refine sv_aload_n hM dX12_stepOther_151 rfl rfl ?_
        obtain ⟨o39, h⟩ := h
        refine sv_callV hM dX12_stepOther_152 sm_iv_888 (by decide) (sm_a0 _) rfl rfl (Nat.le_of_ble_eq_true rfl) sm_h154 (Nat.le_of_ble_eq_true rfl) (Nat.le_of_ble_eq_true rfl) (F' := 0) (Nat.le_of_ble_eq_true rfl) rfl (t_goOn  (sv_sts S [63, 64, 58] g34) ok35 o39) (fun v S1 hq => ?_)
        obtain ⟨rfl, ok41, md42, hpo43⟩ := hq
        obtain ⟨g40, rfl⟩ : ∃ g, S1 = sv_sts (sv_sts S [63, 64, 58] g34) [57] g := ⟨_, md42.eq⟩
        show sv_T sm_XS sm_cs sm_L sm_sh 3 (q_stepOther p1 p2 S) 161 155 [(0, .ref 0), (1, sv_I p1), (2, sv_I p2), (3, sv_I s3), (4, sv_I s5), (5, sv_I ((S 1092 0) - (1 : Int)))] [] (sv_sts (sv_sts S [63, 64, 58] g34) [57] g40)
        have md44 : sv_mod [1092, 60, 58, 57, 63, 64, 1073, 1109, 1110, 65, 66, 61, 62] S (sv_sts (sv_sts S [63, 64, 58] g34) [57] g40) := sv_mod.sts md38 (by decide)
        have h := h g40 hpo43
        refine sv_goto hM dX12_stepOther_155 (pc' := 459) rfl ?_
        exact sv_vret hM dX12_stepOther_459 rfl ⟨rfl, ok41, md44, h⟩
      have J3 : (p1 = (19 : Int)) → sv_T sm_XS sm_cs sm_L sm_sh 3 (q_stepOther p1 p2 S) 161 158 [(0, .ref 0), (1, sv_I p1), (2, sv_I p2), (3, sv_I s3), (4, sv_I s5), (5, sv_I ((S 1092 0) - (1 : Int)))] [] S := by
        intro hc
        have h := hS.2.2.2.1 hc
        have k45 : (sm_CT (S 26) (S 27) (S 28) (S 29) (S 1100007) (S 1100023) (S 1100024) (S 1100025) (S 21) (S 1046 0) (S 1032 0) (S 1008 0) (S 1055 0) → 0 ≤ (S 1100033 0) → (S 1100033 0) < (S 1046 0) → ((S 26 (S 1100033 0)) = 19 → (0 ≤ ((S 1100007 (S 1100033 0)) - 2) ∧ (0 ≤ (S 1100023 (S 1100033 0)) → (S 1100007 (S 1100023 (S 1100033 0))) ≤ ((S 1100007 (S 1100033 0)) - 2)) ∧ (0 ≤ (S 1100025 (S 1100033 0)) → (S 1100007 (S 1100025 (S 1100033 0))) ≤ ((S 1100007 (S 1100033 0)) - 2))) ∧ (0 ≤ ((S 1100033 0) + 1) ∧ ((S 1100033 0) + 1) < (S 1046 0) ∧ (S 29 ((S 1100033 0) + 1)) = ((S 29 (S 1100033 0))) ∧ (S 1100007 ((S 1100033 0) + 1)) = ((S 1100007 (S 1100033 0)) + 2) ∧ (S 1100023 ((S 1100033 0) + 1)) = ((S 1100023 (S 1100033 0))) ∧ (S 1100025 ((S 1100033 0) + 1)) = ((S 1100025 (S 1100033 0)))))) := fun h h0 h1 => sm_ct_18 h _ h0 h1
        have h := h k45
        have k46 : ((S 1100034 0) = (S 1100025 (S 1100033 0)) → (S 58 ((S 1092 0) - 1)) = (S 1100007 (S 1100033 0)) → (0 ≤ (S 1100025 (S 1100033 0)) → (S 1100007 (S 1100025 (S 1100033 0))) ≤ (S 1100007 (S 1100033 0)) - 2) → (0 ≤ (S 1100034 0) → (S 1100007 (S 1100034 0)) ≤ (S 58 ((S 1092 0) - 1)) - 2)) := fun q f j z => by rw [q] at z ⊢; have := j z; omega
        have h := h k46
        have k47 : (sm_SK (S 63) (S 64) (S 44) (S 1100007) (S 1100025) (S 1076 0) (S 1007 0) (400 * ((S 1092 0) - 1)) ((S 58 ((S 1092 0) - 1))) ((S 1100034 0)) → sm_LS (S 26) (S 1100007) (S 1100025) (S 1046 0) → 0 ≤ (S 58 ((S 1092 0) - 1)) - 1 → (S 58 ((S 1092 0) - 1)) - 1 < (S 58 ((S 1092 0) - 1)) → (S 1100034 0) < (S 1046 0) → (S 1100034 0) = (S 1100025 (S 1100033 0)) → (S 58 ((S 1092 0) - 1)) = (S 1100007 (S 1100033 0)) → (0 ≤ (S 1100034 0) → (S 26 (S 1100034 0)) = 29) → (0 ≤ (S 1100025 (S 1100033 0)) → (S 1100007 (S 1100025 (S 1100033 0))) ≤ (S 1100007 (S 1100033 0)) - 2) → sm_VO (S 44) (S 1076 0) (S 1007 0) ((S 63 (400 * ((S 1092 0) - 1) + ((S 58 ((S 1092 0) - 1)) - 1)))) ((S 64 (400 * ((S 1092 0) - 1) + ((S 58 ((S 1092 0) - 1)) - 1))))) := fun h a b e g q f i j => sm_SK_at h a _ b e g (fun z => ⟨i z, by rw [q]; have := j (by omega); omega⟩)
        have h := h k47
        have k48 : (sm_SK (S 63) (S 64) (S 44) (S 1100007) (S 1100025) (S 1076 0) (S 1007 0) (400 * ((S 1092 0) - 1)) ((S 58 ((S 1092 0) - 1))) ((S 1100034 0)) → sm_LS (S 26) (S 1100007) (S 1100025) (S 1046 0) → 0 ≤ (S 58 ((S 1092 0) - 1)) - 2 → (S 58 ((S 1092 0) - 1)) - 2 < (S 58 ((S 1092 0) - 1)) → (S 1100034 0) < (S 1046 0) → (S 1100034 0) = (S 1100025 (S 1100033 0)) → (S 58 ((S 1092 0) - 1)) = (S 1100007 (S 1100033 0)) → (0 ≤ (S 1100034 0) → (S 26 (S 1100034 0)) = 29) → (0 ≤ (S 1100025 (S 1100033 0)) → (S 1100007 (S 1100025 (S 1100033 0))) ≤ (S 1100007 (S 1100033 0)) - 2) → sm_VO (S 44) (S 1076 0) (S 1007 0) ((S 63 (400 * ((S 1092 0) - 1) + ((S 58 ((S 1092 0) - 1)) - 2)))) ((S 64 (400 * ((S 1092 0) - 1) + ((S 58 ((S 1092 0) - 1)) - 2))))) := fun h a b e g q f i j => sm_SK_at h a _ b e g (fun z => ⟨i z, by rw [q]; have := j (by omega); omega⟩)
        have h := h k48
        refine sv_aload_n hM dX12_stepOther_158 rfl rfl ?_
        refine sv_iconst (d := (1 : Int)) hM dX12_stepOther_159 rfl rfl ?_
        obtain ⟨o49, h⟩ := h
        refine sv_callV hM dX12_stepOther_160 sm_iv_910 (by decide) (sm_a0 _) rfl rfl (Nat.le_of_ble_eq_true rfl) sm_h150 (Nat.le_of_ble_eq_true rfl) (Nat.le_of_ble_eq_true rfl) (F' := 1) (Nat.le_of_ble_eq_true rfl) rfl (t_sortAt (1 : Int) S hok (⟨by decide, by decide⟩ : sv_R (1 : Int)) o49) (fun v S1 hq => ?_)
        obtain ⟨rfl, hS1⟩ := hq
        obtain rfl : S = S1 := hS1.symm
        show sv_T sm_XS sm_cs sm_L sm_sh 3 (q_stepOther p1 p2 S) 161 163 [(0, .ref 0), (1, sv_I p1), (2, sv_I p2), (3, sv_I s3), (4, sv_I s5), (5, sv_I ((S 1092 0) - (1 : Int)))] [sv_I ((S 63 ((400 * ((S 1092 0) - 1) + (S 58 ((S 1092 0) - 1))) - 1 - (1 : Int))))] S
        obtain ⟨x50, e51⟩ : ∃ x : Int, ((S 63 ((400 * ((S 1092 0) - 1) + (S 58 ((S 1092 0) - 1))) - 1 - (1 : Int)))) = x := ⟨_, rfl⟩
        have h := h x50 e51
        have e51r : sv_R x50 := e51 ▸ (sm_okI hok sm_r63 _)
        refine sv_nameI e51 ?_
        refine sv_istore hM dX12_stepOther_163 (by decide) rfl ?_
        show sv_T sm_XS sm_cs sm_L sm_sh 3 (q_stepOther p1 p2 S) 161 165 [(0, .ref 0), (1, sv_I p1), (2, sv_I p2), (3, sv_I s3), (4, sv_I s5), (5, sv_I ((S 1092 0) - (1 : Int))), (6, sv_I x50)] [] S
        refine sv_aload_n hM dX12_stepOther_165 rfl rfl ?_
        refine sv_iconst (d := (1 : Int)) hM dX12_stepOther_166 rfl rfl ?_
        refine sv_callV hM dX12_stepOther_167 sm_iv_913 (by decide) (sm_a0 _) rfl rfl (Nat.le_of_ble_eq_true rfl) sm_h151 (Nat.le_of_ble_eq_true rfl) (Nat.le_of_ble_eq_true rfl) (F' := 1) (Nat.le_of_ble_eq_true rfl) rfl (t_valueAt (1 : Int) S hok (⟨by decide, by decide⟩ : sv_R (1 : Int)) o49) (fun v S1 hq => ?_)
        obtain ⟨rfl, hS1⟩ := hq
        obtain rfl : S = S1 := hS1.symm
        show sv_T sm_XS sm_cs sm_L sm_sh 3 (q_stepOther p1 p2 S) 161 170 [(0, .ref 0), (1, sv_I p1), (2, sv_I p2), (3, sv_I s3), (4, sv_I s5), (5, sv_I ((S 1092 0) - (1 : Int))), (6, sv_I x50)] [sv_I ((S 64 ((400 * ((S 1092 0) - 1) + (S 58 ((S 1092 0) - 1))) - 1 - (1 : Int))))] S
        obtain ⟨x52, e53⟩ : ∃ x : Int, ((S 64 ((400 * ((S 1092 0) - 1) + (S 58 ((S 1092 0) - 1))) - 1 - (1 : Int)))) = x := ⟨_, rfl⟩
        have h := h x52 e53
        have e53r : sv_R x52 := e53 ▸ (sm_okI hok sm_r64 _)
        refine sv_nameI e53 ?_
        refine sv_istore hM dX12_stepOther_170 (by decide) rfl ?_
        show sv_T sm_XS sm_cs sm_L sm_sh 3 (q_stepOther p1 p2 S) 161 172 [(0, .ref 0), (1, sv_I p1), (2, sv_I p2), (3, sv_I s3), (4, sv_I s5), (5, sv_I ((S 1092 0) - (1 : Int))), (6, sv_I x50), (7, sv_I x52)] [] S
        refine sv_aload_n hM dX12_stepOther_172 rfl rfl ?_
        refine sv_iload hM dX12_stepOther_173 rfl rfl ?_
        refine sv_iload hM dX12_stepOther_175 rfl rfl ?_
        obtain ⟨o54, h⟩ := h
        refine sv_callV hM dX12_stepOther_177 sm_iv_885 (by decide) (sm_a0 _) rfl rfl (Nat.le_of_ble_eq_true rfl) sm_h152 (Nat.le_of_ble_eq_true rfl) (Nat.le_of_ble_eq_true rfl) (F' := 1) (Nat.le_of_ble_eq_true rfl) rfl (t_push x50 x52 S hok e51r e53r o54) (fun v S1 hq => ?_)
        obtain ⟨rfl, ok56, md57, hpo58⟩ := hq
        obtain ⟨g55, rfl⟩ : ∃ g, S1 = sv_sts S [63, 64, 58] g := ⟨_, md57.eq⟩
        show sv_T sm_XS sm_cs sm_L sm_sh 3 (q_stepOther p1 p2 S) 161 180 [(0, .ref 0), (1, sv_I p1), (2, sv_I p2), (3, sv_I s3), (4, sv_I s5), (5, sv_I ((S 1092 0) - (1 : Int))), (6, sv_I x50), (7, sv_I x52)] [] (sv_sts S [63, 64, 58] g55)
        have md59 : sv_mod [1092, 60, 58, 57, 63, 64, 1073, 1109, 1110, 65, 66, 61, 62] S (sv_sts S [63, 64, 58] g55) := sv_mod.sts sv_mod.rf (by decide)
        have h := h g55 hpo58
        refine sv_aload_n hM dX12_stepOther_180 rfl rfl ?_
        refine sv_iload_n hM dX12_stepOther_181 rfl rfl ?_
        refine sv_iload hM dX12_stepOther_182 rfl rfl ?_
        obtain ⟨o60, h⟩ := h
        refine sv_callV hM dX12_stepOther_184 sm_iv_885 (by decide) (sm_a0 _) rfl rfl (Nat.le_of_ble_eq_true rfl) sm_h152 (Nat.le_of_ble_eq_true rfl) (Nat.le_of_ble_eq_true rfl) (F' := 1) (Nat.le_of_ble_eq_true rfl) rfl (t_push s3 s5 (sv_sts S [63, 64, 58] g55) ok56 hs3 hs5 o60) (fun v S1 hq => ?_)
        obtain ⟨rfl, ok62, md63, hpo64⟩ := hq
        obtain ⟨g61, rfl⟩ : ∃ g, S1 = sv_sts (sv_sts S [63, 64, 58] g55) [63, 64, 58] g := ⟨_, md63.eq⟩
        show sv_T sm_XS sm_cs sm_L sm_sh 3 (q_stepOther p1 p2 S) 161 187 [(0, .ref 0), (1, sv_I p1), (2, sv_I p2), (3, sv_I s3), (4, sv_I s5), (5, sv_I ((S 1092 0) - (1 : Int))), (6, sv_I x50), (7, sv_I x52)] [] (sv_sts (sv_sts S [63, 64, 58] g55) [63, 64, 58] g61)
        have md65 : sv_mod [1092, 60, 58, 57, 63, 64, 1073, 1109, 1110, 65, 66, 61, 62] S (sv_sts (sv_sts S [63, 64, 58] g55) [63, 64, 58] g61) := sv_mod.sts md59 (by decide)
        have h := h g61 hpo64
        refine sv_aload_n hM dX12_stepOther_187 rfl rfl ?_
        obtain ⟨o66, h⟩ := h
        refine sv_callV hM dX12_stepOther_188 sm_iv_888 (by decide) (sm_a0 _) rfl rfl (Nat.le_of_ble_eq_true rfl) sm_h154 (Nat.le_of_ble_eq_true rfl) (Nat.le_of_ble_eq_true rfl) (F' := 0) (Nat.le_of_ble_eq_true rfl) rfl (t_goOn  (sv_sts (sv_sts S [63, 64, 58] g55) [63, 64, 58] g61) ok62 o66) (fun v S1 hq => ?_)
        obtain ⟨rfl, ok68, md69, hpo70⟩ := hq
        obtain ⟨g67, rfl⟩ : ∃ g, S1 = sv_sts (sv_sts (sv_sts S [63, 64, 58] g55) [63, 64, 58] g61) [57] g := ⟨_, md69.eq⟩
        show sv_T sm_XS sm_cs sm_L sm_sh 3 (q_stepOther p1 p2 S) 161 191 [(0, .ref 0), (1, sv_I p1), (2, sv_I p2), (3, sv_I s3), (4, sv_I s5), (5, sv_I ((S 1092 0) - (1 : Int))), (6, sv_I x50), (7, sv_I x52)] [] (sv_sts (sv_sts (sv_sts S [63, 64, 58] g55) [63, 64, 58] g61) [57] g67)
        have md71 : sv_mod [1092, 60, 58, 57, 63, 64, 1073, 1109, 1110, 65, 66, 61, 62] S (sv_sts (sv_sts (sv_sts S [63, 64, 58] g55) [63, 64, 58] g61) [57] g67) := sv_mod.sts md65 (by decide)
        have h := h g67 hpo70
        refine sv_goto hM dX12_stepOther_191 (pc' := 459) rfl ?_
        exact sv_vret hM dX12_stepOther_459 rfl ⟨rfl, ok68, md71, h⟩
      have J4 : (p1 = (20 : Int)) → sv_T sm_XS sm_cs sm_L sm_sh 3 (q_stepOther p1 p2 S) 161 194 [(0, .ref 0), (1, sv_I p1), (2, sv_I p2), (3, sv_I s3), (4, sv_I s5), (5, sv_I ((S 1092 0) - (1 : Int)))] [] S := by
        intro hc
        have h := hS.2.2.2.2.1 hc
        have k72 : (sm_CT (S 26) (S 27) (S 28) (S 29) (S 1100007) (S 1100023) (S 1100024) (S 1100025) (S 21) (S 1046 0) (S 1032 0) (S 1008 0) (S 1055 0) → 0 ≤ (S 1100033 0) → (S 1100033 0) < (S 1046 0) → ((S 26 (S 1100033 0)) = 20 → (0 ≤ ((S 1100007 (S 1100033 0)) - 3) ∧ (0 ≤ (S 1100023 (S 1100033 0)) → (S 1100007 (S 1100023 (S 1100033 0))) ≤ ((S 1100007 (S 1100033 0)) - 3)) ∧ (0 ≤ (S 1100025 (S 1100033 0)) → (S 1100007 (S 1100025 (S 1100033 0))) ≤ ((S 1100007 (S 1100033 0)) - 3))) ∧ (0 ≤ ((S 1100033 0) + 1) ∧ ((S 1100033 0) + 1) < (S 1046 0) ∧ (S 29 ((S 1100033 0) + 1)) = ((S 29 (S 1100033 0))) ∧ (S 1100007 ((S 1100033 0) + 1)) = ((S 1100007 (S 1100033 0)) + 1) ∧ (S 1100023 ((S 1100033 0) + 1)) = ((S 1100023 (S 1100033 0))) ∧ (S 1100025 ((S 1100033 0) + 1)) = ((S 1100025 (S 1100033 0)))))) := fun h h0 h1 => sm_ct_19 h _ h0 h1
        have h := h k72
        have k73 : ((S 1100034 0) = (S 1100025 (S 1100033 0)) → (S 58 ((S 1092 0) - 1)) = (S 1100007 (S 1100033 0)) → (0 ≤ (S 1100025 (S 1100033 0)) → (S 1100007 (S 1100025 (S 1100033 0))) ≤ (S 1100007 (S 1100033 0)) - 3) → (0 ≤ (S 1100034 0) → (S 1100007 (S 1100034 0)) ≤ (S 58 ((S 1092 0) - 1)) - 3)) := fun q f j z => by rw [q] at z ⊢; have := j z; omega
        have h := h k73
        have k74 : (sm_SK (S 63) (S 64) (S 44) (S 1100007) (S 1100025) (S 1076 0) (S 1007 0) (400 * ((S 1092 0) - 1)) ((S 58 ((S 1092 0) - 1))) ((S 1100034 0)) → sm_LS (S 26) (S 1100007) (S 1100025) (S 1046 0) → 0 ≤ (S 58 ((S 1092 0) - 1)) - 1 → (S 58 ((S 1092 0) - 1)) - 1 < (S 58 ((S 1092 0) - 1)) → (S 1100034 0) < (S 1046 0) → (S 1100034 0) = (S 1100025 (S 1100033 0)) → (S 58 ((S 1092 0) - 1)) = (S 1100007 (S 1100033 0)) → (0 ≤ (S 1100034 0) → (S 26 (S 1100034 0)) = 29) → (0 ≤ (S 1100025 (S 1100033 0)) → (S 1100007 (S 1100025 (S 1100033 0))) ≤ (S 1100007 (S 1100033 0)) - 3) → sm_VO (S 44) (S 1076 0) (S 1007 0) ((S 63 (400 * ((S 1092 0) - 1) + ((S 58 ((S 1092 0) - 1)) - 1)))) ((S 64 (400 * ((S 1092 0) - 1) + ((S 58 ((S 1092 0) - 1)) - 1))))) := fun h a b e g q f i j => sm_SK_at h a _ b e g (fun z => ⟨i z, by rw [q]; have := j (by omega); omega⟩)
        have h := h k74
        have k75 : (sm_SK (S 63) (S 64) (S 44) (S 1100007) (S 1100025) (S 1076 0) (S 1007 0) (400 * ((S 1092 0) - 1)) ((S 58 ((S 1092 0) - 1))) ((S 1100034 0)) → sm_LS (S 26) (S 1100007) (S 1100025) (S 1046 0) → 0 ≤ (S 58 ((S 1092 0) - 1)) - 2 → (S 58 ((S 1092 0) - 1)) - 2 < (S 58 ((S 1092 0) - 1)) → (S 1100034 0) < (S 1046 0) → (S 1100034 0) = (S 1100025 (S 1100033 0)) → (S 58 ((S 1092 0) - 1)) = (S 1100007 (S 1100033 0)) → (0 ≤ (S 1100034 0) → (S 26 (S 1100034 0)) = 29) → (0 ≤ (S 1100025 (S 1100033 0)) → (S 1100007 (S 1100025 (S 1100033 0))) ≤ (S 1100007 (S 1100033 0)) - 3) → sm_VO (S 44) (S 1076 0) (S 1007 0) ((S 63 (400 * ((S 1092 0) - 1) + ((S 58 ((S 1092 0) - 1)) - 2)))) ((S 64 (400 * ((S 1092 0) - 1) + ((S 58 ((S 1092 0) - 1)) - 2))))) := fun h a b e g q f i j => sm_SK_at h a _ b e g (fun z => ⟨i z, by rw [q]; have := j (by omega); omega⟩)
        have h := h k75
        have k76 : (sm_SK (S 63) (S 64) (S 44) (S 1100007) (S 1100025) (S 1076 0) (S 1007 0) (400 * ((S 1092 0) - 1)) ((S 58 ((S 1092 0) - 1))) ((S 1100034 0)) → sm_LS (S 26) (S 1100007) (S 1100025) (S 1046 0) → 0 ≤ (S 58 ((S 1092 0) - 1)) - 3 → (S 58 ((S 1092 0) - 1)) - 3 < (S 58 ((S 1092 0) - 1)) → (S 1100034 0) < (S 1046 0) → (S 1100034 0) = (S 1100025 (S 1100033 0)) → (S 58 ((S 1092 0) - 1)) = (S 1100007 (S 1100033 0)) → (0 ≤ (S 1100034 0) → (S 26 (S 1100034 0)) = 29) → (0 ≤ (S 1100025 (S 1100033 0)) → (S 1100007 (S 1100025 (S 1100033 0))) ≤ (S 1100007 (S 1100033 0)) - 3) → sm_VO (S 44) (S 1076 0) (S 1007 0) ((S 63 (400 * ((S 1092 0) - 1) + ((S 58 ((S 1092 0) - 1)) - 3)))) ((S 64 (400 * ((S 1092 0) - 1) + ((S 58 ((S 1092 0) - 1)) - 3))))) := fun h a b e g q f i j => sm_SK_at h a _ b e g (fun z => ⟨i z, by rw [q]; have := j (by omega); omega⟩)
        have h := h k76
        refine sv_aload_n hM dX12_stepOther_194 rfl rfl ?_
        refine sv_iload_n hM dX12_stepOther_195 rfl rfl ?_
        refine sv_iload hM dX12_stepOther_196 rfl rfl ?_
        obtain ⟨o77, h⟩ := h
        refine sv_callV hM dX12_stepOther_198 sm_iv_954 (by decide) (sm_a0 _) rfl rfl (Nat.le_of_ble_eq_true rfl) sm_h162 (Nat.le_of_ble_eq_true rfl) (Nat.le_of_ble_eq_true rfl) (F' := 2) (Nat.le_of_ble_eq_true rfl) rfl (t_under s3 s5 S hok hs3 hs5 o77) (fun v S1 hq => ?_)
        obtain ⟨rfl, ok79, md80, hpo81⟩ := hq
        obtain ⟨g78, rfl⟩ : ∃ g, S1 = sv_sts S [63, 64, 58] g := ⟨_, md80.eq⟩
        show sv_T sm_XS sm_cs sm_L sm_sh 3 (q_stepOther p1 p2 S) 161 201 [(0, .ref 0), (1, sv_I p1), (2, sv_I p2), (3, sv_I s3), (4, sv_I s5), (5, sv_I ((S 1092 0) - (1 : Int)))] [] (sv_sts S [63, 64, 58] g78)
        have md82 : sv_mod [1092, 60, 58, 57, 63, 64, 1073, 1109, 1110, 65, 66, 61, 62] S (sv_sts S [63, 64, 58] g78) := sv_mod.sts sv_mod.rf (by decide)
        have h := h g78 hpo81
        refine sv_aload_n hM dX12_stepOther_201 rfl rfl ?_
        obtain ⟨o83, h⟩ := h
        refine sv_callV hM dX12_stepOther_202 sm_iv_888 (by decide) (sm_a0 _) rfl rfl (Nat.le_of_ble_eq_true rfl) sm_h154 (Nat.le_of_ble_eq_true rfl) (Nat.le_of_ble_eq_true rfl) (F' := 0) (Nat.le_of_ble_eq_true rfl) rfl (t_goOn  (sv_sts S [63, 64, 58] g78) ok79 o83) (fun v S1 hq => ?_)
        obtain ⟨rfl, ok85, md86, hpo87⟩ := hq
        obtain ⟨g84, rfl⟩ : ∃ g, S1 = sv_sts (sv_sts S [63, 64, 58] g78) [57] g := ⟨_, md86.eq⟩
        show sv_T sm_XS sm_cs sm_L sm_sh 3 (q_stepOther p1 p2 S) 161 205 [(0, .ref 0), (1, sv_I p1), (2, sv_I p2), (3, sv_I s3), (4, sv_I s5), (5, sv_I ((S 1092 0) - (1 : Int)))] [] (sv_sts (sv_sts S [63, 64, 58] g78) [57] g84)
        have md88 : sv_mod [1092, 60, 58, 57, 63, 64, 1073, 1109, 1110, 65, 66, 61, 62] S (sv_sts (sv_sts S [63, 64, 58] g78) [57] g84) := sv_mod.sts md82 (by decide)
        have h := h g84 hpo87
        refine sv_goto hM dX12_stepOther_205 (pc' := 459) rfl ?_
        exact sv_vret hM dX12_stepOther_459 rfl ⟨rfl, ok85, md88, h⟩
      have J5 : (p1 = (21 : Int)) → sv_T sm_XS sm_cs sm_L sm_sh 3 (q_stepOther p1 p2 S) 161 208 [(0, .ref 0), (1, sv_I p1), (2, sv_I p2), (3, sv_I s3), (4, sv_I s5), (5, sv_I ((S 1092 0) - (1 : Int)))] [] S := by
        intro hc
        have h := hS.2.2.2.2.2.1 hc
        have k89 : (sm_CT (S 26) (S 27) (S 28) (S 29) (S 1100007) (S 1100023) (S 1100024) (S 1100025) (S 21) (S 1046 0) (S 1032 0) (S 1008 0) (S 1055 0) → 0 ≤ (S 1100033 0) → (S 1100033 0) < (S 1046 0) → ((S 26 (S 1100033 0)) = 21 → (0 ≤ ((S 1100007 (S 1100033 0))) ∧ (0 ≤ (S 1100023 (S 1100033 0)) → (S 1100007 (S 1100023 (S 1100033 0))) ≤ ((S 1100007 (S 1100033 0)))) ∧ (0 ≤ (S 1100025 (S 1100033 0)) → (S 1100007 (S 1100025 (S 1100033 0))) ≤ ((S 1100007 (S 1100033 0))))) ∧ (0 ≤ ((S 27 (S 1100033 0))) ∧ ((S 27 (S 1100033 0))) < (S 1046 0) ∧ (S 29 ((S 27 (S 1100033 0)))) = ((S 29 (S 1100033 0))) ∧ (S 1100007 ((S 27 (S 1100033 0)))) = ((S 1100007 (S 1100033 0))) ∧ (S 1100023 ((S 27 (S 1100033 0)))) = ((S 1100023 (S 1100033 0))) ∧ (S 1100025 ((S 27 (S 1100033 0)))) = ((S 1100025 (S 1100033 0)))))) := fun h h0 h1 => sm_ct_20 h _ h0 h1
        have h := h k89
        refine sv_aload_n hM dX12_stepOther_208 rfl rfl ?_
        refine sv_getA hM dX12_stepOther_209 sm_fl_182 (sm_a0 _) sm_k97 rfl ?_
        refine sv_iload hM dX12_stepOther_212 rfl rfl ?_
        refine sv_iload_n hM dX12_stepOther_214 rfl rfl ?_
        obtain ⟨o90, h⟩ := h
        refine sv_iast sm_X hM dX12_stepOther_215 (sm_a57 _) (by decide) o90.1 o90.2 rfl ?_
        have ok91 : sm_ok (sv_up S 57 ((S 1092 0) - (1 : Int)) p2) := sm_upI hok sm_r57 hp2
        have md92 : sv_mod [1092, 60, 58, 57, 63, 64, 1073, 1109, 1110, 65, 66, 61, 62] S (sv_up S 57 ((S 1092 0) - (1 : Int)) p2) := sv_mod.up sv_mod.rf (by decide)
        refine sv_goto hM dX12_stepOther_216 (pc' := 459) rfl ?_
        exact sv_vret hM dX12_stepOther_459 rfl ⟨rfl, ok91, md92, h⟩
      have J6 : (p1 = (22 : Int)) → sv_T sm_XS sm_cs sm_L sm_sh 3 (q_stepOther p1 p2 S) 161 219 [(0, .ref 0), (1, sv_I p1), (2, sv_I p2), (3, sv_I s3), (4, sv_I s5), (5, sv_I ((S 1092 0) - (1 : Int)))] [] S := by
        intro hc
        have h := hS.2.2.2.2.2.2.1 hc
        have k93 : (sm_CT (S 26) (S 27) (S 28) (S 29) (S 1100007) (S 1100023) (S 1100024) (S 1100025) (S 21) (S 1046 0) (S 1032 0) (S 1008 0) (S 1055 0) → 0 ≤ (S 1100033 0) → (S 1100033 0) < (S 1046 0) → ((S 26 (S 1100033 0)) = 22 → (0 ≤ ((S 1100007 (S 1100033 0)) - 1) ∧ (0 ≤ (S 1100023 (S 1100033 0)) → (S 1100007 (S 1100023 (S 1100033 0))) ≤ ((S 1100007 (S 1100033 0)) - 1)) ∧ (0 ≤ (S 1100025 (S 1100033 0)) → (S 1100007 (S 1100025 (S 1100033 0))) ≤ ((S 1100007 (S 1100033 0)) - 1))) ∧ (0 ≤ ((S 1100033 0) + 1) ∧ ((S 1100033 0) + 1) < (S 1046 0) ∧ (S 29 ((S 1100033 0) + 1)) = ((S 29 (S 1100033 0))) ∧ (S 1100007 ((S 1100033 0) + 1)) = ((S 1100007 (S 1100033 0)) - 1) ∧ (S 1100023 ((S 1100033 0) + 1)) = ((S 1100023 (S 1100033 0))) ∧ (S 1100025 ((S 1100033 0) + 1)) = ((S 1100025 (S 1100033 0)))) ∧ (0 ≤ ((S 27 (S 1100033 0))) ∧ ((S 27 (S 1100033 0))) < (S 1046 0) ∧ (S 29 ((S 27 (S 1100033 0)))) = ((S 29 (S 1100033 0))) ∧ (S 1100007 ((S 27 (S 1100033 0)))) = ((S 1100007 (S 1100033 0)) - 1) ∧ (S 1100023 ((S 27 (S 1100033 0)))) = ((S 1100023 (S 1100033 0))) ∧ (S 1100025 ((S 27 (S 1100033 0)))) = ((S 1100025 (S 1100033 0)))))) := fun h h0 h1 => sm_ct_21 h _ h0 h1
        have h := h k93
        have k94 : ((S 1100034 0) = (S 1100025 (S 1100033 0)) → (S 58 ((S 1092 0) - 1)) = (S 1100007 (S 1100033 0)) → (0 ≤ (S 1100025 (S 1100033 0)) → (S 1100007 (S 1100025 (S 1100033 0))) ≤ (S 1100007 (S 1100033 0)) - 1) → (0 ≤ (S 1100034 0) → (S 1100007 (S 1100034 0)) ≤ (S 58 ((S 1092 0) - 1)) - 1)) := fun q f j z => by rw [q] at z ⊢; have := j z; omega
        have h := h k94
        have k95 : (sm_SK (S 63) (S 64) (S 44) (S 1100007) (S 1100025) (S 1076 0) (S 1007 0) (400 * ((S 1092 0) - 1)) ((S 58 ((S 1092 0) - 1))) ((S 1100034 0)) → sm_LS (S 26) (S 1100007) (S 1100025) (S 1046 0) → 0 ≤ (S 58 ((S 1092 0) - 1)) - 1 → (S 58 ((S 1092 0) - 1)) - 1 < (S 58 ((S 1092 0) - 1)) → (S 1100034 0) < (S 1046 0) → (S 1100034 0) = (S 1100025 (S 1100033 0)) → (S 58 ((S 1092 0) - 1)) = (S 1100007 (S 1100033 0)) → (0 ≤ (S 1100034 0) → (S 26 (S 1100034 0)) = 29) → (0 ≤ (S 1100025 (S 1100033 0)) → (S 1100007 (S 1100025 (S 1100033 0))) ≤ (S 1100007 (S 1100033 0)) - 1) → sm_VO (S 44) (S 1076 0) (S 1007 0) ((S 63 (400 * ((S 1092 0) - 1) + ((S 58 ((S 1092 0) - 1)) - 1)))) ((S 64 (400 * ((S 1092 0) - 1) + ((S 58 ((S 1092 0) - 1)) - 1))))) := fun h a b e g q f i j => sm_SK_at h a _ b e g (fun z => ⟨i z, by rw [q]; have := j (by omega); omega⟩)
        have h := h k95
        refine sv_aload_n hM dX12_stepOther_219 rfl rfl ?_
        refine sv_iconst (d := (1 : Int)) hM dX12_stepOther_220 rfl rfl ?_
        obtain ⟨o96, h⟩ := h
        refine sv_callV hM dX12_stepOther_221 sm_iv_882 (by decide) (sm_a0 _) rfl rfl (Nat.le_of_ble_eq_true rfl) sm_h153 (Nat.le_of_ble_eq_true rfl) (Nat.le_of_ble_eq_true rfl) (F' := 0) (Nat.le_of_ble_eq_true rfl) rfl (t_drop (1 : Int) S hok (⟨by decide, by decide⟩ : sv_R (1 : Int)) o96) (fun v S1 hq => ?_)
        obtain ⟨rfl, ok98, md99, hpo100⟩ := hq
        obtain ⟨g97, rfl⟩ : ∃ g, S1 = sv_sts S [58] g := ⟨_, md99.eq⟩
        show sv_T sm_XS sm_cs sm_L sm_sh 3 (q_stepOther p1 p2 S) 161 224 [(0, .ref 0), (1, sv_I p1), (2, sv_I p2), (3, sv_I s3), (4, sv_I s5), (5, sv_I ((S 1092 0) - (1 : Int)))] [] (sv_sts S [58] g97)
        have md101 : sv_mod [1092, 60, 58, 57, 63, 64, 1073, 1109, 1110, 65, 66, 61, 62] S (sv_sts S [58] g97) := sv_mod.sts sv_mod.rf (by decide)
        have h := h g97 hpo100
        refine sv_aload_n hM dX12_stepOther_224 rfl rfl ?_
        refine sv_getA hM dX12_stepOther_225 sm_fl_182 (sm_a0 _) sm_k97 rfl ?_
        refine sv_iload hM dX12_stepOther_228 rfl rfl ?_
        refine sv_aload_n hM dX12_stepOther_230 rfl rfl ?_
        refine sv_iload_n hM dX12_stepOther_231 rfl rfl ?_
        refine sv_iload hM dX12_stepOther_232 rfl rfl ?_
        obtain ⟨o102, h⟩ := h
        refine sv_callV hM dX12_stepOther_234 sm_iv_824 (by decide) (sm_a0 _) rfl rfl (Nat.le_of_ble_eq_true rfl) sm_h129 (Nat.le_of_ble_eq_true rfl) (Nat.le_of_ble_eq_true rfl) (F' := 0) (Nat.le_of_ble_eq_true rfl) rfl (t_isTrue s3 s5 (sv_sts S [58] g97) ok98 hs3 hs5 o102) (fun v S1 hq => ?_)
        obtain ⟨r107, rfl, hr107, ok104, md105, hpo106⟩ := hq
        obtain rfl : (sv_sts S [58] g97) = S1 := (funext fun j => md105 j (by intro q; cases q)).symm
        show sv_T sm_XS sm_cs sm_L sm_sh 3 (q_stepOther p1 p2 S) 161 237 [(0, .ref 0), (1, sv_I p1), (2, sv_I p2), (3, sv_I s3), (4, sv_I s5), (5, sv_I ((S 1092 0) - (1 : Int)))] [sv_I r107, sv_I ((S 1092 0) - (1 : Int)), .ref 57] (sv_sts S [58] g97)
        have h := h r107 hr107 hpo106
        refine sv_cond_eq hM dX12_stepOther_237 hr107 (t := 252) rfl rfl (fun hc => ?_) (fun hc => ?_)
        · have h := h.1 (hc)
          refine sv_iload_n hM dX12_stepOther_252 rfl rfl ?_
          obtain ⟨o108, h⟩ := h
          refine sv_iast sm_X hM dX12_stepOther_253 (sm_a57 _) (by decide) o108.1 o108.2 rfl ?_
          have ok109 : sm_ok (sv_up (sv_sts S [58] g97) 57 ((S 1092 0) - (1 : Int)) p2) := sm_upI ok104 sm_r57 hp2
          have md110 : sv_mod [1092, 60, 58, 57, 63, 64, 1073, 1109, 1110, 65, 66, 61, 62] S (sv_up (sv_sts S [58] g97) 57 ((S 1092 0) - (1 : Int)) p2) := sv_mod.up md101 (by decide)
          refine sv_goto hM dX12_stepOther_254 (pc' := 459) rfl ?_
          exact sv_vret hM dX12_stepOther_459 rfl ⟨rfl, ok109, md110, h⟩
        · have h := h.2 (hc)
          refine sv_aload_n hM dX12_stepOther_240 rfl rfl ?_
          refine sv_getA hM dX12_stepOther_241 sm_fl_182 (sm_a0 _) sm_k97 rfl ?_
          refine sv_iload hM dX12_stepOther_244 rfl rfl ?_
          obtain ⟨o111, h⟩ := h
          have k112 : sv_R (S 57 ((S 1092 0) - (1 : Int))) := sm_okI ok104 sm_r57 ((S 1092 0) - (1 : Int))
          have h := h k112
          refine sv_iald hM dX12_stepOther_246 (sm_a57 _) (by decide) o111.1 o111.2 rfl (x := (S 57 ((S 1092 0) - (1 : Int)))) rfl ?_
          refine sv_iconst (d := (1 : Int)) hM dX12_stepOther_247 rfl rfl ?_
          refine sv_iadd hM dX12_stepOther_248 rfl ?_
          refine sv_goto hM dX12_stepOther_249 (pc' := 253) rfl ?_
          obtain ⟨o113, h⟩ := h
          refine sv_iast sm_X hM dX12_stepOther_253 (sm_a57 _) (by decide) o111.1 o111.2 rfl ?_
          have ok114 : sm_ok (sv_up (sv_sts S [58] g97) 57 ((S 1092 0) - (1 : Int)) ((S 57 ((S 1092 0) - (1 : Int))) + (1 : Int))) := sm_upI ok104 sm_r57 o113
          have md115 : sv_mod [1092, 60, 58, 57, 63, 64, 1073, 1109, 1110, 65, 66, 61, 62] S (sv_up (sv_sts S [58] g97) 57 ((S 1092 0) - (1 : Int)) ((S 57 ((S 1092 0) - (1 : Int))) + (1 : Int))) := sv_mod.up md101 (by decide)
          refine sv_goto hM dX12_stepOther_254 (pc' := 459) rfl ?_
          exact sv_vret hM dX12_stepOther_459 rfl ⟨rfl, ok114, md115, h⟩
      have J7 : (p1 = (23 : Int) ∨ p1 = (24 : Int)) → sv_T sm_XS sm_cs sm_L sm_sh 3 (q_stepOther p1 p2 S) 161 257 [(0, .ref 0), (1, sv_I p1), (2, sv_I p2), (3, sv_I s3), (4, sv_I s5), (5, sv_I ((S 1092 0) - (1 : Int)))] [] S := by
        intro hc
        have h := hS.2.2.2.2.2.2.2.1 hc
        have k116 : (((p1 = 21 ∨ p1 = 27 ∨ p1 = 28) ∨ s3 = (S 63 ((400 * ((S 1092 0) - 1) + (S 58 ((S 1092 0) - 1))) - 1 - 0))) → (p1 = 23 ∨ p1 = 24) → s3 = (S 63 ((400 * ((S 1092 0) - 1) + (S 58 ((S 1092 0) - 1))) - 1 - 0))) := fun a b => a.elim (fun q => absurd b (by omega)) id
        have h := h k116
        have k117 : (((p1 = 21 ∨ p1 = 27 ∨ p1 = 28) ∨ s5 = (S 64 ((400 * ((S 1092 0) - 1) + (S 58 ((S 1092 0) - 1))) - 1 - 0))) → (p1 = 23 ∨ p1 = 24) → s5 = (S 64 ((400 * ((S 1092 0) - 1) + (S 58 ((S 1092 0) - 1))) - 1 - 0))) := fun a b => a.elim (fun q => absurd b (by omega)) id
        have h := h k117
        have k118 : (sm_CT (S 26) (S 27) (S 28) (S 29) (S 1100007) (S 1100023) (S 1100024) (S 1100025) (S 21) (S 1046 0) (S 1032 0) (S 1008 0) (S 1055 0) → 0 ≤ (S 1100033 0) → (S 1100033 0) < (S 1046 0) → ((p1 = 23 ∨ p1 = 24) → p1 = (S 26 (S 1100033 0)) → (0 ≤ ((S 1100007 (S 1100033 0)) - 1) ∧ (0 ≤ (S 1100023 (S 1100033 0)) → (S 1100007 (S 1100023 (S 1100033 0))) ≤ ((S 1100007 (S 1100033 0)) - 1)) ∧ (0 ≤ (S 1100025 (S 1100033 0)) → (S 1100007 (S 1100025 (S 1100033 0))) ≤ ((S 1100007 (S 1100033 0)) - 1))) ∧ (0 ≤ ((S 1100033 0) + 1) ∧ ((S 1100033 0) + 1) < (S 1046 0) ∧ (S 29 ((S 1100033 0) + 1)) = ((S 29 (S 1100033 0))) ∧ (S 1100007 ((S 1100033 0) + 1)) = ((S 1100007 (S 1100033 0)) - 1) ∧ (S 1100023 ((S 1100033 0) + 1)) = ((S 1100023 (S 1100033 0))) ∧ (S 1100025 ((S 1100033 0) + 1)) = ((S 1100025 (S 1100033 0)))) ∧ (0 ≤ ((S 27 (S 1100033 0))) ∧ ((S 27 (S 1100033 0))) < (S 1046 0) ∧ (S 29 ((S 27 (S 1100033 0)))) = ((S 29 (S 1100033 0))) ∧ (S 1100007 ((S 27 (S 1100033 0)))) = ((S 1100007 (S 1100033 0))) ∧ (S 1100023 ((S 27 (S 1100033 0)))) = ((S 1100023 (S 1100033 0))) ∧ (S 1100025 ((S 27 (S 1100033 0)))) = ((S 1100025 (S 1100033 0)))))) := fun h a b w e => sm_ct_22 h _ a b (e ▸ w)
        have h := h k118
        have k119 : ((S 1100034 0) = (S 1100025 (S 1100033 0)) → (S 58 ((S 1092 0) - 1)) = (S 1100007 (S 1100033 0)) → (0 ≤ (S 1100025 (S 1100033 0)) → (S 1100007 (S 1100025 (S 1100033 0))) ≤ (S 1100007 (S 1100033 0)) - 1) → (0 ≤ (S 1100034 0) → (S 1100007 (S 1100034 0)) ≤ (S 58 ((S 1092 0) - 1)) - 1)) := fun q f j z => by rw [q] at z ⊢; have := j z; omega
        have h := h k119
        have k120 : (sm_SK (S 63) (S 64) (S 44) (S 1100007) (S 1100025) (S 1076 0) (S 1007 0) (400 * ((S 1092 0) - 1)) ((S 58 ((S 1092 0) - 1))) ((S 1100034 0)) → sm_LS (S 26) (S 1100007) (S 1100025) (S 1046 0) → 0 ≤ (S 58 ((S 1092 0) - 1)) - 1 → (S 58 ((S 1092 0) - 1)) - 1 < (S 58 ((S 1092 0) - 1)) → (S 1100034 0) < (S 1046 0) → (S 1100034 0) = (S 1100025 (S 1100033 0)) → (S 58 ((S 1092 0) - 1)) = (S 1100007 (S 1100033 0)) → (0 ≤ (S 1100034 0) → (S 26 (S 1100034 0)) = 29) → (0 ≤ (S 1100025 (S 1100033 0)) → (S 1100007 (S 1100025 (S 1100033 0))) ≤ (S 1100007 (S 1100033 0)) - 1) → sm_VO (S 44) (S 1076 0) (S 1007 0) ((S 63 (400 * ((S 1092 0) - 1) + ((S 58 ((S 1092 0) - 1)) - 1)))) ((S 64 (400 * ((S 1092 0) - 1) + ((S 58 ((S 1092 0) - 1)) - 1))))) := fun h a b e g q f i j => sm_SK_at h a _ b e g (fun z => ⟨i z, by rw [q]; have := j (by omega); omega⟩)
        have h := h k120
        refine sv_aload_n hM dX12_stepOther_257 rfl rfl ?_
        refine sv_iload_n hM dX12_stepOther_258 rfl rfl ?_
        refine sv_iload hM dX12_stepOther_259 rfl rfl ?_
        obtain ⟨o121, h⟩ := h
        refine sv_callV hM dX12_stepOther_261 sm_iv_824 (by decide) (sm_a0 _) rfl rfl (Nat.le_of_ble_eq_true rfl) sm_h129 (Nat.le_of_ble_eq_true rfl) (Nat.le_of_ble_eq_true rfl) (F' := 0) (Nat.le_of_ble_eq_true rfl) rfl (t_isTrue s3 s5 S hok hs3 hs5 o121) (fun v S1 hq => ?_)
        obtain ⟨r126, rfl, hr126, ok123, md124, hpo125⟩ := hq
        obtain rfl : S = S1 := (funext fun j => md124 j (by intro q; cases q)).symm
        show sv_T sm_XS sm_cs sm_L sm_sh 3 (q_stepOther p1 p2 S) 161 264 [(0, .ref 0), (1, sv_I p1), (2, sv_I p2), (3, sv_I s3), (4, sv_I s5), (5, sv_I ((S 1092 0) - (1 : Int)))] [sv_I r126] S
        have h := h r126 hr126 hpo125
        refine sv_iload_n hM dX12_stepOther_264 rfl rfl ?_
        refine sv_bipush (d := (23 : Int)) hM dX12_stepOther_265 rfl rfl ?_
        refine sv_icmp_ne hM dX12_stepOther_267 hp1 (⟨by decide, by decide⟩ : sv_R (23 : Int)) (t := 274) rfl rfl (fun hc => ?_) (fun hc => ?_)
        · have h := h.1 (hc)
          refine sv_iconst (d := (0 : Int)) hM dX12_stepOther_274 rfl rfl ?_
          refine sv_icmp_ne hM dX12_stepOther_275 hr126 (⟨by decide, by decide⟩ : sv_R (0 : Int)) (t := 290) rfl rfl (fun hc => ?_) (fun hc => ?_)
          · have h := h.1 (hc)
            refine sv_aload_n hM dX12_stepOther_290 rfl rfl ?_
            refine sv_getA hM dX12_stepOther_291 sm_fl_182 (sm_a0 _) sm_k97 rfl ?_
            refine sv_iload hM dX12_stepOther_294 rfl rfl ?_
            refine sv_iload_n hM dX12_stepOther_296 rfl rfl ?_
            obtain ⟨o127, h⟩ := h
            refine sv_iast sm_X hM dX12_stepOther_297 (sm_a57 _) (by decide) o127.1 o127.2 rfl ?_
            have ok128 : sm_ok (sv_up S 57 ((S 1092 0) - (1 : Int)) p2) := sm_upI ok123 sm_r57 hp2
            have md129 : sv_mod [1092, 60, 58, 57, 63, 64, 1073, 1109, 1110, 65, 66, 61, 62] S (sv_up S 57 ((S 1092 0) - (1 : Int)) p2) := sv_mod.up sv_mod.rf (by decide)
            refine sv_goto hM dX12_stepOther_298 (pc' := 459) rfl ?_
            exact sv_vret hM dX12_stepOther_459 rfl ⟨rfl, ok128, md129, h⟩
          · have h := h.2 (hc)
            refine sv_aload_n hM dX12_stepOther_278 rfl rfl ?_
            refine sv_iconst (d := (1 : Int)) hM dX12_stepOther_279 rfl rfl ?_
            obtain ⟨o130, h⟩ := h
            refine sv_callV hM dX12_stepOther_280 sm_iv_882 (by decide) (sm_a0 _) rfl rfl (Nat.le_of_ble_eq_true rfl) sm_h153 (Nat.le_of_ble_eq_true rfl) (Nat.le_of_ble_eq_true rfl) (F' := 0) (Nat.le_of_ble_eq_true rfl) rfl (t_drop (1 : Int) S ok123 (⟨by decide, by decide⟩ : sv_R (1 : Int)) o130) (fun v S1 hq => ?_)
            obtain ⟨rfl, ok132, md133, hpo134⟩ := hq
            obtain ⟨g131, rfl⟩ : ∃ g, S1 = sv_sts S [58] g := ⟨_, md133.eq⟩
            show sv_T sm_XS sm_cs sm_L sm_sh 3 (q_stepOther p1 p2 S) 161 283 [(0, .ref 0), (1, sv_I p1), (2, sv_I p2), (3, sv_I s3), (4, sv_I s5), (5, sv_I ((S 1092 0) - (1 : Int)))] [] (sv_sts S [58] g131)
            have md135 : sv_mod [1092, 60, 58, 57, 63, 64, 1073, 1109, 1110, 65, 66, 61, 62] S (sv_sts S [58] g131) := sv_mod.sts sv_mod.rf (by decide)
            have h := h g131 hpo134
            refine sv_aload_n hM dX12_stepOther_283 rfl rfl ?_
            obtain ⟨o136, h⟩ := h
            refine sv_callV hM dX12_stepOther_284 sm_iv_888 (by decide) (sm_a0 _) rfl rfl (Nat.le_of_ble_eq_true rfl) sm_h154 (Nat.le_of_ble_eq_true rfl) (Nat.le_of_ble_eq_true rfl) (F' := 0) (Nat.le_of_ble_eq_true rfl) rfl (t_goOn  (sv_sts S [58] g131) ok132 o136) (fun v S1 hq => ?_)
            obtain ⟨rfl, ok138, md139, hpo140⟩ := hq
            obtain ⟨g137, rfl⟩ : ∃ g, S1 = sv_sts (sv_sts S [58] g131) [57] g := ⟨_, md139.eq⟩
            show sv_T sm_XS sm_cs sm_L sm_sh 3 (q_stepOther p1 p2 S) 161 287 [(0, .ref 0), (1, sv_I p1), (2, sv_I p2), (3, sv_I s3), (4, sv_I s5), (5, sv_I ((S 1092 0) - (1 : Int)))] [] (sv_sts (sv_sts S [58] g131) [57] g137)
            have md141 : sv_mod [1092, 60, 58, 57, 63, 64, 1073, 1109, 1110, 65, 66, 61, 62] S (sv_sts (sv_sts S [58] g131) [57] g137) := sv_mod.sts md135 (by decide)
            have h := h g137 hpo140
            refine sv_goto hM dX12_stepOther_287 (pc' := 459) rfl ?_
            exact sv_vret hM dX12_stepOther_459 rfl ⟨rfl, ok138, md141, h⟩
        · have h := h.2 (hc)
          refine sv_iconst (d := (1 : Int)) hM dX12_stepOther_270 rfl rfl ?_
          refine sv_goto hM dX12_stepOther_271 (pc' := 275) rfl ?_
          refine sv_icmp_ne hM dX12_stepOther_275 hr126 (⟨by decide, by decide⟩ : sv_R (1 : Int)) (t := 290) rfl rfl (fun hc => ?_) (fun hc => ?_)
          · have h := h.1 (hc)
            refine sv_aload_n hM dX12_stepOther_290 rfl rfl ?_
            refine sv_getA hM dX12_stepOther_291 sm_fl_182 (sm_a0 _) sm_k97 rfl ?_
            refine sv_iload hM dX12_stepOther_294 rfl rfl ?_
            refine sv_iload_n hM dX12_stepOther_296 rfl rfl ?_
            obtain ⟨o142, h⟩ := h
            refine sv_iast sm_X hM dX12_stepOther_297 (sm_a57 _) (by decide) o142.1 o142.2 rfl ?_
            have ok143 : sm_ok (sv_up S 57 ((S 1092 0) - (1 : Int)) p2) := sm_upI ok123 sm_r57 hp2
            have md144 : sv_mod [1092, 60, 58, 57, 63, 64, 1073, 1109, 1110, 65, 66, 61, 62] S (sv_up S 57 ((S 1092 0) - (1 : Int)) p2) := sv_mod.up sv_mod.rf (by decide)
            refine sv_goto hM dX12_stepOther_298 (pc' := 459) rfl ?_
            exact sv_vret hM dX12_stepOther_459 rfl ⟨rfl, ok143, md144, h⟩
          · have h := h.2 (hc)
            refine sv_aload_n hM dX12_stepOther_278 rfl rfl ?_
            refine sv_iconst (d := (1 : Int)) hM dX12_stepOther_279 rfl rfl ?_
            obtain ⟨o145, h⟩ := h
            refine sv_callV hM dX12_stepOther_280 sm_iv_882 (by decide) (sm_a0 _) rfl rfl (Nat.le_of_ble_eq_true rfl) sm_h153 (Nat.le_of_ble_eq_true rfl) (Nat.le_of_ble_eq_true rfl) (F' := 0) (Nat.le_of_ble_eq_true rfl) rfl (t_drop (1 : Int) S ok123 (⟨by decide, by decide⟩ : sv_R (1 : Int)) o145) (fun v S1 hq => ?_)
            obtain ⟨rfl, ok147, md148, hpo149⟩ := hq
            obtain ⟨g146, rfl⟩ : ∃ g, S1 = sv_sts S [58] g := ⟨_, md148.eq⟩
            show sv_T sm_XS sm_cs sm_L sm_sh 3 (q_stepOther p1 p2 S) 161 283 [(0, .ref 0), (1, sv_I p1), (2, sv_I p2), (3, sv_I s3), (4, sv_I s5), (5, sv_I ((S 1092 0) - (1 : Int)))] [] (sv_sts S [58] g146)
            have md150 : sv_mod [1092, 60, 58, 57, 63, 64, 1073, 1109, 1110, 65, 66, 61, 62] S (sv_sts S [58] g146) := sv_mod.sts sv_mod.rf (by decide)
            have h := h g146 hpo149
            refine sv_aload_n hM dX12_stepOther_283 rfl rfl ?_
            obtain ⟨o151, h⟩ := h
            refine sv_callV hM dX12_stepOther_284 sm_iv_888 (by decide) (sm_a0 _) rfl rfl (Nat.le_of_ble_eq_true rfl) sm_h154 (Nat.le_of_ble_eq_true rfl) (Nat.le_of_ble_eq_true rfl) (F' := 0) (Nat.le_of_ble_eq_true rfl) rfl (t_goOn  (sv_sts S [58] g146) ok147 o151) (fun v S1 hq => ?_)
            obtain ⟨rfl, ok153, md154, hpo155⟩ := hq
            obtain ⟨g152, rfl⟩ : ∃ g, S1 = sv_sts (sv_sts S [58] g146) [57] g := ⟨_, md154.eq⟩
            show sv_T sm_XS sm_cs sm_L sm_sh 3 (q_stepOther p1 p2 S) 161 287 [(0, .ref 0), (1, sv_I p1), (2, sv_I p2), (3, sv_I s3), (4, sv_I s5), (5, sv_I ((S 1092 0) - (1 : Int)))] [] (sv_sts (sv_sts S [58] g146) [57] g152)
            have md156 : sv_mod [1092, 60, 58, 57, 63, 64, 1073, 1109, 1110, 65, 66, 61, 62] S (sv_sts (sv_sts S [58] g146) [57] g152) := sv_mod.sts md150 (by decide)
            have h := h g152 hpo155
            refine sv_goto hM dX12_stepOther_287 (pc' := 459) rfl ?_
            exact sv_vret hM dX12_stepOther_459 rfl ⟨rfl, ok153, md156, h⟩
      have J8 : (p1 = (25 : Int)) → sv_T sm_XS sm_cs sm_L sm_sh 3 (q_stepOther p1 p2 S) 161 301 [(0, .ref 0), (1, sv_I p1), (2, sv_I p2), (3, sv_I s3), (4, sv_I s5), (5, sv_I ((S 1092 0) - (1 : Int)))] [] S := by
        intro hc
        have h := hS.2.2.2.2.2.2.2.2.1 hc
        have k157 : (sm_CT (S 26) (S 27) (S 28) (S 29) (S 1100007) (S 1100023) (S 1100024) (S 1100025) (S 21) (S 1046 0) (S 1032 0) (S 1008 0) (S 1055 0) → 0 ≤ (S 1100033 0) → (S 1100033 0) < (S 1046 0) → (((S 26 (S 1100033 0)) = 25 ∨ (S 26 (S 1100033 0)) = 26) → (0 ≤ ((S 1100007 (S 1100033 0)) - 1) ∧ (0 ≤ (S 1100023 (S 1100033 0)) → (S 1100007 (S 1100023 (S 1100033 0))) ≤ ((S 1100007 (S 1100033 0)) - 1)) ∧ (0 ≤ (S 1100025 (S 1100033 0)) → (S 1100007 (S 1100025 (S 1100033 0))) ≤ ((S 1100007 (S 1100033 0)) - 1))))) := fun h h0 h1 => sm_ct_23 h _ h0 h1
        have h := h k157
        have k158 : ((S 1100034 0) = (S 1100025 (S 1100033 0)) → (S 58 ((S 1092 0) - 1)) = (S 1100007 (S 1100033 0)) → (0 ≤ (S 1100025 (S 1100033 0)) → (S 1100007 (S 1100025 (S 1100033 0))) ≤ (S 1100007 (S 1100033 0)) - 1) → (0 ≤ (S 1100034 0) → (S 1100007 (S 1100034 0)) ≤ (S 58 ((S 1092 0) - 1)) - 1)) := fun q f j z => by rw [q] at z ⊢; have := j z; omega
        have h := h k158
        have k159 : (sm_SK (S 63) (S 64) (S 44) (S 1100007) (S 1100025) (S 1076 0) (S 1007 0) (400 * ((S 1092 0) - 1)) ((S 58 ((S 1092 0) - 1))) ((S 1100034 0)) → sm_LS (S 26) (S 1100007) (S 1100025) (S 1046 0) → 0 ≤ (S 58 ((S 1092 0) - 1)) - 1 → (S 58 ((S 1092 0) - 1)) - 1 < (S 58 ((S 1092 0) - 1)) → (S 1100034 0) < (S 1046 0) → (S 1100034 0) = (S 1100025 (S 1100033 0)) → (S 58 ((S 1092 0) - 1)) = (S 1100007 (S 1100033 0)) → (0 ≤ (S 1100034 0) → (S 26 (S 1100034 0)) = 29) → (0 ≤ (S 1100025 (S 1100033 0)) → (S 1100007 (S 1100025 (S 1100033 0))) ≤ (S 1100007 (S 1100033 0)) - 1) → sm_VO (S 44) (S 1076 0) (S 1007 0) ((S 63 (400 * ((S 1092 0) - 1) + ((S 58 ((S 1092 0) - 1)) - 1)))) ((S 64 (400 * ((S 1092 0) - 1) + ((S 58 ((S 1092 0) - 1)) - 1))))) := fun h a b e g q f i j => sm_SK_at h a _ b e g (fun z => ⟨i z, by rw [q]; have := j (by omega); omega⟩)
        have h := h k159
        refine sv_aload_n hM dX12_stepOther_301 rfl rfl ?_
        refine sv_iload_n hM dX12_stepOther_302 rfl rfl ?_
        refine sv_iload hM dX12_stepOther_303 rfl rfl ?_
        obtain ⟨o160, h⟩ := h
        refine sv_callV hM dX12_stepOther_305 sm_iv_957 (by decide) (sm_a0 _) rfl rfl (Nat.le_of_ble_eq_true rfl) sm_h184 (Nat.le_of_ble_eq_true rfl) (Nat.le_of_ble_eq_true rfl) (F' := 2) (Nat.le_of_ble_eq_true rfl) rfl (t_goBack s3 s5 S hok hs3 hs5 o160) (fun v S1 hq => ?_)
        obtain ⟨rfl, ok162, md163, hpo164⟩ := hq
        obtain ⟨g161, rfl⟩ : ∃ g, S1 = sv_sts S [1092, 1073, 58, 63, 64] g := ⟨_, md163.eq⟩
        show sv_T sm_XS sm_cs sm_L sm_sh 3 (q_stepOther p1 p2 S) 161 308 [(0, .ref 0), (1, sv_I p1), (2, sv_I p2), (3, sv_I s3), (4, sv_I s5), (5, sv_I ((S 1092 0) - (1 : Int)))] [] (sv_sts S [1092, 1073, 58, 63, 64] g161)
        have md165 : sv_mod [1092, 60, 58, 57, 63, 64, 1073, 1109, 1110, 65, 66, 61, 62] S (sv_sts S [1092, 1073, 58, 63, 64] g161) := sv_mod.sts sv_mod.rf (by decide)
        have h := h g161 hpo164
        refine sv_goto hM dX12_stepOther_308 (pc' := 459) rfl ?_
        exact sv_vret hM dX12_stepOther_459 rfl ⟨rfl, ok162, md165, h⟩
      have J9 : (p1 = (26 : Int)) → sv_T sm_XS sm_cs sm_L sm_sh 3 (q_stepOther p1 p2 S) 161 311 [(0, .ref 0), (1, sv_I p1), (2, sv_I p2), (3, sv_I s3), (4, sv_I s5), (5, sv_I ((S 1092 0) - (1 : Int)))] [] S := by
        intro hc
        have h := hS.2.2.2.2.2.2.2.2.2.1 hc
        have k166 : (sm_CT (S 26) (S 27) (S 28) (S 29) (S 1100007) (S 1100023) (S 1100024) (S 1100025) (S 21) (S 1046 0) (S 1032 0) (S 1008 0) (S 1055 0) → 0 ≤ (S 1100033 0) → (S 1100033 0) < (S 1046 0) → (((S 26 (S 1100033 0)) = 25 ∨ (S 26 (S 1100033 0)) = 26) → (0 ≤ ((S 1100007 (S 1100033 0)) - 1) ∧ (0 ≤ (S 1100023 (S 1100033 0)) → (S 1100007 (S 1100023 (S 1100033 0))) ≤ ((S 1100007 (S 1100033 0)) - 1)) ∧ (0 ≤ (S 1100025 (S 1100033 0)) → (S 1100007 (S 1100025 (S 1100033 0))) ≤ ((S 1100007 (S 1100033 0)) - 1))))) := fun h h0 h1 => sm_ct_23 h _ h0 h1
        have h := h k166
        have k167 : ((S 1100034 0) = (S 1100025 (S 1100033 0)) → (S 58 ((S 1092 0) - 1)) = (S 1100007 (S 1100033 0)) → (0 ≤ (S 1100025 (S 1100033 0)) → (S 1100007 (S 1100025 (S 1100033 0))) ≤ (S 1100007 (S 1100033 0)) - 1) → (0 ≤ (S 1100034 0) → (S 1100007 (S 1100034 0)) ≤ (S 58 ((S 1092 0) - 1)) - 1)) := fun q f j z => by rw [q] at z ⊢; have := j z; omega
        have h := h k167
        have k168 : (sm_SK (S 63) (S 64) (S 44) (S 1100007) (S 1100025) (S 1076 0) (S 1007 0) (400 * ((S 1092 0) - 1)) ((S 58 ((S 1092 0) - 1))) ((S 1100034 0)) → sm_LS (S 26) (S 1100007) (S 1100025) (S 1046 0) → 0 ≤ (S 58 ((S 1092 0) - 1)) - 1 → (S 58 ((S 1092 0) - 1)) - 1 < (S 58 ((S 1092 0) - 1)) → (S 1100034 0) < (S 1046 0) → (S 1100034 0) = (S 1100025 (S 1100033 0)) → (S 58 ((S 1092 0) - 1)) = (S 1100007 (S 1100033 0)) → (0 ≤ (S 1100034 0) → (S 26 (S 1100034 0)) = 29) → (0 ≤ (S 1100025 (S 1100033 0)) → (S 1100007 (S 1100025 (S 1100033 0))) ≤ (S 1100007 (S 1100033 0)) - 1) → sm_VO (S 44) (S 1076 0) (S 1007 0) ((S 63 (400 * ((S 1092 0) - 1) + ((S 58 ((S 1092 0) - 1)) - 1)))) ((S 64 (400 * ((S 1092 0) - 1) + ((S 58 ((S 1092 0) - 1)) - 1))))) := fun h a b e g q f i j => sm_SK_at h a _ b e g (fun z => ⟨i z, by rw [q]; have := j (by omega); omega⟩)
        have h := h k168
        refine sv_aload_n hM dX12_stepOther_311 rfl rfl ?_
        refine sv_iload_n hM dX12_stepOther_312 rfl rfl ?_
        refine sv_iload hM dX12_stepOther_313 rfl rfl ?_
        obtain ⟨o169, h⟩ := h
        refine sv_callV hM dX12_stepOther_315 sm_iv_897 (by decide) (sm_a0 _) rfl rfl (Nat.le_of_ble_eq_true rfl) sm_h156 (Nat.le_of_ble_eq_true rfl) (Nat.le_of_ble_eq_true rfl) (F' := 2) (Nat.le_of_ble_eq_true rfl) rfl (t_toss_ s3 s5 S hok hs3 hs5 o169) (fun v S1 hq => ?_)
        obtain ⟨rfl, ok171, md172, hpo173⟩ := hq
        obtain ⟨g170, rfl⟩ : ∃ g, S1 = sv_sts S [1092, 60, 58, 57, 63, 64, 1073, 1109, 1110] g := ⟨_, md172.eq⟩
        show sv_T sm_XS sm_cs sm_L sm_sh 3 (q_stepOther p1 p2 S) 161 318 [(0, .ref 0), (1, sv_I p1), (2, sv_I p2), (3, sv_I s3), (4, sv_I s5), (5, sv_I ((S 1092 0) - (1 : Int)))] [] (sv_sts S [1092, 60, 58, 57, 63, 64, 1073, 1109, 1110] g170)
        have md174 : sv_mod [1092, 60, 58, 57, 63, 64, 1073, 1109, 1110, 65, 66, 61, 62] S (sv_sts S [1092, 60, 58, 57, 63, 64, 1073, 1109, 1110] g170) := sv_mod.sts sv_mod.rf (by decide)
        have h := h g170 hpo173
        refine sv_goto hM dX12_stepOther_318 (pc' := 459) rfl ?_
        exact sv_vret hM dX12_stepOther_459 rfl ⟨rfl, ok171, md174, h⟩
      have J10 : (p1 = (27 : Int)) → sv_T sm_XS sm_cs sm_L sm_sh 3 (q_stepOther p1 p2 S) 161 321 [(0, .ref 0), (1, sv_I p1), (2, sv_I p2), (3, sv_I s3), (4, sv_I s5), (5, sv_I ((S 1092 0) - (1 : Int)))] [] S := by
        intro hc
        have h := hS.2.2.2.2.2.2.2.2.2.2.1 hc
        have k175 : (sm_CT (S 26) (S 27) (S 28) (S 29) (S 1100007) (S 1100023) (S 1100024) (S 1100025) (S 21) (S 1046 0) (S 1032 0) (S 1008 0) (S 1055 0) → 0 ≤ (S 1100033 0) → (S 1100033 0) < (S 1046 0) → ((S 26 (S 1100033 0)) = 27 → (S 1100024 (S 1100033 0)) < 40 ∧ (0 ≤ ((S 1100007 (S 1100033 0))) ∧ (0 ≤ (S 1100023 (S 1100033 0)) → (S 1100007 (S 1100023 (S 1100033 0))) ≤ ((S 1100007 (S 1100033 0)))) ∧ (0 ≤ (S 1100025 (S 1100033 0)) → (S 1100007 (S 1100025 (S 1100033 0))) ≤ ((S 1100007 (S 1100033 0))))) ∧ (0 ≤ ((S 1100033 0) + 1) ∧ ((S 1100033 0) + 1) < (S 1046 0) ∧ (S 29 ((S 1100033 0) + 1)) = ((S 29 (S 1100033 0))) ∧ (S 1100007 ((S 1100033 0) + 1)) = ((S 1100007 (S 1100033 0))) ∧ (S 1100023 ((S 1100033 0) + 1)) = (S 1100033 0) ∧ (S 1100025 ((S 1100033 0) + 1)) = ((S 1100025 (S 1100033 0)))) ∧ (0 ≤ ((S 27 (S 1100033 0))) ∧ ((S 27 (S 1100033 0))) < (S 1046 0) ∧ (S 29 ((S 27 (S 1100033 0)))) = ((S 29 (S 1100033 0))) ∧ (S 1100007 ((S 27 (S 1100033 0)))) = ((S 1100007 (S 1100033 0)) + 1) ∧ (S 1100023 ((S 27 (S 1100033 0)))) = ((S 1100023 (S 1100033 0))) ∧ (S 1100025 ((S 27 (S 1100033 0)))) = ((S 1100025 (S 1100033 0)))))) := fun h h0 h1 => sm_ct_24 h _ h0 h1
        have h := h k175
        have k176 : (sm_CT (S 26) (S 27) (S 28) (S 29) (S 1100007) (S 1100023) (S 1100024) (S 1100025) (S 21) (S 1046 0) (S 1032 0) (S 1008 0) (S 1055 0) → 0 ≤ (S 1100033 0) → (S 1100033 0) < (S 1046 0) → (S 1100024 (S 1100033 0)) = sm_dp (S 1100024) (S 1100023 (S 1100033 0))) := fun h a b => sm_dp_k h _ a b
        have h := h k176
        have k177 : (sm_CT (S 26) (S 27) (S 28) (S 29) (S 1100007) (S 1100023) (S 1100024) (S 1100025) (S 21) (S 1046 0) (S 1032 0) (S 1008 0) (S 1055 0) → 0 ≤ (S 1100033 0) → (S 1100033 0) < (S 1046 0) → 0 ≤ (S 1100024 (S 1100033 0)) ∧ (S 1100024 (S 1100033 0)) ≤ 40) := fun h a b => by have q := sm_ct_0 h _ a b; omega
        have h := h k177
        have k178 : (0 ≤ (S 1100033 0) → sm_dp (S 1100024) (S 1100033 0) = (S 1100024 (S 1100033 0)) + 1) := sm_dp_s
        have h := h k178
        refine sv_aload_n hM dX12_stepOther_321 rfl rfl ?_
        refine sv_getA hM dX12_stepOther_322 sm_fl_194 (sm_a0 _) sm_k101 rfl ?_
        refine sv_bipush (d := (40 : Int)) hM dX12_stepOther_325 rfl rfl ?_
        refine sv_iload hM dX12_stepOther_327 rfl rfl ?_
        refine sv_imul hM dX12_stepOther_329 rfl ?_
        refine sv_aload_n hM dX12_stepOther_330 rfl rfl ?_
        refine sv_getA hM dX12_stepOther_331 sm_fl_191 (sm_a0 _) sm_k100 rfl ?_
        refine sv_iload hM dX12_stepOther_334 rfl rfl ?_
        obtain ⟨o179, h⟩ := h
        have k180 : sv_R (S 60 ((S 1092 0) - (1 : Int))) := sm_okI hok sm_r60 ((S 1092 0) - (1 : Int))
        have h := h k180
        refine sv_iald hM dX12_stepOther_336 (sm_a60 _) (by decide) o179.1 o179.2 rfl (x := (S 60 ((S 1092 0) - (1 : Int)))) rfl ?_
        refine sv_iadd hM dX12_stepOther_337 rfl ?_
        refine sv_iload_n hM dX12_stepOther_338 rfl rfl ?_
        obtain ⟨o181, h⟩ := h
        refine sv_iast sm_X hM dX12_stepOther_339 (sm_a61 _) (by decide) o181.1 o181.2 rfl ?_
        have ok182 : sm_ok (sv_up S 61 (((40 : Int) * ((S 1092 0) - (1 : Int))) + (S 60 ((S 1092 0) - (1 : Int)))) p2) := sm_upI hok sm_r61 hp2
        have md183 : sv_mod [1092, 60, 58, 57, 63, 64, 1073, 1109, 1110, 65, 66, 61, 62] S (sv_up S 61 (((40 : Int) * ((S 1092 0) - (1 : Int))) + (S 60 ((S 1092 0) - (1 : Int)))) p2) := sv_mod.up sv_mod.rf (by decide)
        refine sv_aload_n hM dX12_stepOther_340 rfl rfl ?_
        refine sv_getA hM dX12_stepOther_341 sm_fl_197 (sm_a0 _) sm_k102 rfl ?_
        refine sv_bipush (d := (40 : Int)) hM dX12_stepOther_344 rfl rfl ?_
        refine sv_iload hM dX12_stepOther_346 rfl rfl ?_
        refine sv_imul hM dX12_stepOther_348 rfl ?_
        refine sv_aload_n hM dX12_stepOther_349 rfl rfl ?_
        refine sv_getA hM dX12_stepOther_350 sm_fl_191 (sm_a0 _) sm_k100 rfl ?_
        refine sv_iload hM dX12_stepOther_353 rfl rfl ?_
        refine sv_iald hM dX12_stepOther_355 (sm_a60 _) (by decide) o179.1 o179.2 rfl (x := (S 60 ((S 1092 0) - (1 : Int)))) rfl ?_
        refine sv_iadd hM dX12_stepOther_356 rfl ?_
        refine sv_aload_n hM dX12_stepOther_357 rfl rfl ?_
        refine sv_getA hM dX12_stepOther_358 sm_fl_185 (sm_a0 _) sm_k98 rfl ?_
        refine sv_iload hM dX12_stepOther_361 rfl rfl ?_
        have k184 : sv_R (S 58 ((S 1092 0) - (1 : Int))) := sm_okI ok182 sm_r58 ((S 1092 0) - (1 : Int))
        have h := h k184
        refine sv_iald hM dX12_stepOther_363 (sm_a58 _) (by decide) o179.1 o179.2 rfl (x := (S 58 ((S 1092 0) - (1 : Int)))) rfl ?_
        refine sv_iast sm_X hM dX12_stepOther_364 (sm_a62 _) (by decide) o181.1 o181.2 rfl ?_
        have ok185 : sm_ok (sv_up (sv_up S 61 (((40 : Int) * ((S 1092 0) - (1 : Int))) + (S 60 ((S 1092 0) - (1 : Int)))) p2) 62 (((40 : Int) * ((S 1092 0) - (1 : Int))) + (S 60 ((S 1092 0) - (1 : Int)))) (S 58 ((S 1092 0) - (1 : Int)))) := sm_upI ok182 sm_r62 k184
        have md186 : sv_mod [1092, 60, 58, 57, 63, 64, 1073, 1109, 1110, 65, 66, 61, 62] S (sv_up (sv_up S 61 (((40 : Int) * ((S 1092 0) - (1 : Int))) + (S 60 ((S 1092 0) - (1 : Int)))) p2) 62 (((40 : Int) * ((S 1092 0) - (1 : Int))) + (S 60 ((S 1092 0) - (1 : Int)))) (S 58 ((S 1092 0) - (1 : Int)))) := sv_mod.up md183 (by decide)
        have k187 : (sm_TC (S 61) (S 62) (S 27) (S 1100007) (S 1100023) (S 1100024) (40 * ((S 1092 0) - 1)) (S 1100023 (S 1100033 0)) → 0 ≤ (S 1100033 0) → -1 ≤ (S 1100023 (S 1100033 0)) ∧ (S 1100023 (S 1100033 0)) < (S 1100033 0) → (S 1100024 (S 1100033 0)) = sm_dp (S 1100024) (S 1100023 (S 1100033 0)) → p2 = (S 27 (S 1100033 0)) → (S 58 ((S 1092 0) - 1)) = (S 1100007 (S 1100033 0)) → 40 * ((S 1092 0) - 1) + (S 60 ((S 1092 0) - 1)) = 40 * ((S 1092 0) - 1) + (S 1100024 (S 1100033 0)) → sm_TC (fun i' : Int => if i' = (((40 : Int) * ((S 1092 0) - (1 : Int))) + (S 60 ((S 1092 0) - (1 : Int)))) then p2 else (S 61) i') (fun i' : Int => if i' = (((40 : Int) * ((S 1092 0) - (1 : Int))) + (S 60 ((S 1092 0) - (1 : Int)))) then (S 58 ((S 1092 0) - (1 : Int))) else (S 62) i') (S 27) (S 1100007) (S 1100023) (S 1100024) (40 * ((S 1092 0) - 1)) (S 1100033 0)) := fun h a b c d e f => sm_TC_push h a b c d e f f
        have h := h k187
        refine sv_aload_n hM dX12_stepOther_365 rfl rfl ?_
        refine sv_getA hM dX12_stepOther_366 sm_fl_191 (sm_a0 _) sm_k100 rfl ?_
        refine sv_iload hM dX12_stepOther_369 rfl rfl ?_
        refine sv_dup2 hM dX12_stepOther_371 rfl ?_
        refine sv_iald hM dX12_stepOther_372 (sm_a60 _) (by decide) o179.1 o179.2 rfl (x := (S 60 ((S 1092 0) - (1 : Int)))) rfl ?_
        refine sv_iconst (d := (1 : Int)) hM dX12_stepOther_373 rfl rfl ?_
        refine sv_iadd hM dX12_stepOther_374 rfl ?_
        obtain ⟨o188, h⟩ := h
        refine sv_iast sm_X hM dX12_stepOther_375 (sm_a60 _) (by decide) o179.1 o179.2 rfl ?_
        have ok189 : sm_ok (sv_up (sv_up (sv_up S 61 (((40 : Int) * ((S 1092 0) - (1 : Int))) + (S 60 ((S 1092 0) - (1 : Int)))) p2) 62 (((40 : Int) * ((S 1092 0) - (1 : Int))) + (S 60 ((S 1092 0) - (1 : Int)))) (S 58 ((S 1092 0) - (1 : Int)))) 60 ((S 1092 0) - (1 : Int)) ((S 60 ((S 1092 0) - (1 : Int))) + (1 : Int))) := sm_upI ok185 sm_r60 o188
        have md190 : sv_mod [1092, 60, 58, 57, 63, 64, 1073, 1109, 1110, 65, 66, 61, 62] S (sv_up (sv_up (sv_up S 61 (((40 : Int) * ((S 1092 0) - (1 : Int))) + (S 60 ((S 1092 0) - (1 : Int)))) p2) 62 (((40 : Int) * ((S 1092 0) - (1 : Int))) + (S 60 ((S 1092 0) - (1 : Int)))) (S 58 ((S 1092 0) - (1 : Int)))) 60 ((S 1092 0) - (1 : Int)) ((S 60 ((S 1092 0) - (1 : Int))) + (1 : Int))) := sv_mod.up md186 (by decide)
        refine sv_aload_n hM dX12_stepOther_376 rfl rfl ?_
        obtain ⟨o191, h⟩ := h
        refine sv_callV hM dX12_stepOther_377 sm_iv_888 (by decide) (sm_a0 _) rfl rfl (Nat.le_of_ble_eq_true rfl) sm_h154 (Nat.le_of_ble_eq_true rfl) (Nat.le_of_ble_eq_true rfl) (F' := 0) (Nat.le_of_ble_eq_true rfl) rfl (t_goOn  (sv_up (sv_up (sv_up S 61 (((40 : Int) * ((S 1092 0) - (1 : Int))) + (S 60 ((S 1092 0) - (1 : Int)))) p2) 62 (((40 : Int) * ((S 1092 0) - (1 : Int))) + (S 60 ((S 1092 0) - (1 : Int)))) (S 58 ((S 1092 0) - (1 : Int)))) 60 ((S 1092 0) - (1 : Int)) ((S 60 ((S 1092 0) - (1 : Int))) + (1 : Int))) ok189 o191) (fun v S1 hq => ?_)
        obtain ⟨rfl, ok193, md194, hpo195⟩ := hq
        obtain ⟨g192, rfl⟩ : ∃ g, S1 = sv_sts (sv_up (sv_up (sv_up S 61 (((40 : Int) * ((S 1092 0) - (1 : Int))) + (S 60 ((S 1092 0) - (1 : Int)))) p2) 62 (((40 : Int) * ((S 1092 0) - (1 : Int))) + (S 60 ((S 1092 0) - (1 : Int)))) (S 58 ((S 1092 0) - (1 : Int)))) 60 ((S 1092 0) - (1 : Int)) ((S 60 ((S 1092 0) - (1 : Int))) + (1 : Int))) [57] g := ⟨_, md194.eq⟩
        show sv_T sm_XS sm_cs sm_L sm_sh 3 (q_stepOther p1 p2 S) 161 380 [(0, .ref 0), (1, sv_I p1), (2, sv_I p2), (3, sv_I s3), (4, sv_I s5), (5, sv_I ((S 1092 0) - (1 : Int)))] [] (sv_sts (sv_up (sv_up (sv_up S 61 (((40 : Int) * ((S 1092 0) - (1 : Int))) + (S 60 ((S 1092 0) - (1 : Int)))) p2) 62 (((40 : Int) * ((S 1092 0) - (1 : Int))) + (S 60 ((S 1092 0) - (1 : Int)))) (S 58 ((S 1092 0) - (1 : Int)))) 60 ((S 1092 0) - (1 : Int)) ((S 60 ((S 1092 0) - (1 : Int))) + (1 : Int))) [57] g192)
        have md196 : sv_mod [1092, 60, 58, 57, 63, 64, 1073, 1109, 1110, 65, 66, 61, 62] S (sv_sts (sv_up (sv_up (sv_up S 61 (((40 : Int) * ((S 1092 0) - (1 : Int))) + (S 60 ((S 1092 0) - (1 : Int)))) p2) 62 (((40 : Int) * ((S 1092 0) - (1 : Int))) + (S 60 ((S 1092 0) - (1 : Int)))) (S 58 ((S 1092 0) - (1 : Int)))) 60 ((S 1092 0) - (1 : Int)) ((S 60 ((S 1092 0) - (1 : Int))) + (1 : Int))) [57] g192) := sv_mod.sts md190 (by decide)
        have h := h g192 hpo195
        refine sv_goto hM dX12_stepOther_380 (pc' := 459) rfl ?_
        exact sv_vret hM dX12_stepOther_459 rfl ⟨rfl, ok193, md196, h⟩
      have J11 : (p1 = (28 : Int)) → sv_T sm_XS sm_cs sm_L sm_sh 3 (q_stepOther p1 p2 S) 161 383 [(0, .ref 0), (1, sv_I p1), (2, sv_I p2), (3, sv_I s3), (4, sv_I s5), (5, sv_I ((S 1092 0) - (1 : Int)))] [] S := by
        intro hc
        have h := hS.2.2.2.2.2.2.2.2.2.2.2.1 hc
        have k197 : (sm_CT (S 26) (S 27) (S 28) (S 29) (S 1100007) (S 1100023) (S 1100024) (S 1100025) (S 21) (S 1046 0) (S 1032 0) (S 1008 0) (S 1055 0) → 0 ≤ (S 1100033 0) → (S 1100033 0) < (S 1046 0) → ((S 26 (S 1100033 0)) = 28 → 0 ≤ (S 1100023 (S 1100033 0)) ∧ (0 ≤ ((S 1100007 (S 1100033 0))) ∧ (0 ≤ (S 1100023 (S 1100033 0)) → (S 1100007 (S 1100023 (S 1100033 0))) ≤ ((S 1100007 (S 1100033 0)))) ∧ (0 ≤ (S 1100025 (S 1100033 0)) → (S 1100007 (S 1100025 (S 1100033 0))) ≤ ((S 1100007 (S 1100033 0))))) ∧ (0 ≤ ((S 1100033 0) + 1) ∧ ((S 1100033 0) + 1) < (S 1046 0) ∧ (S 29 ((S 1100033 0) + 1)) = ((S 29 (S 1100033 0))) ∧ (S 1100007 ((S 1100033 0) + 1)) = ((S 1100007 (S 1100033 0))) ∧ (S 1100023 ((S 1100033 0) + 1)) = ((S 1100023 ((S 1100023 (S 1100033 0))))) ∧ (S 1100025 ((S 1100033 0) + 1)) = ((S 1100025 (S 1100033 0)))))) := fun h h0 h1 => sm_ct_25 h _ h0 h1
        have h := h k197
        have k198 : (sm_CT (S 26) (S 27) (S 28) (S 29) (S 1100007) (S 1100023) (S 1100024) (S 1100025) (S 21) (S 1046 0) (S 1032 0) (S 1008 0) (S 1055 0) → 0 ≤ (S 1100033 0) → (S 1100033 0) < (S 1046 0) → (0 ≤ (S 1100023 (S 1100033 0)) → (S 26 ((S 1100023 (S 1100033 0)))) = 27 ∧ (S 29 ((S 1100023 (S 1100033 0)))) = (S 29 (S 1100033 0)) ∧ (S 1100024 (S 1100033 0)) = (S 1100024 ((S 1100023 (S 1100033 0)))) + 1)) := fun h h0 h1 => sm_ct_1 h _ h0 h1
        have h := h k198
        have k199 : (sm_CT (S 26) (S 27) (S 28) (S 29) (S 1100007) (S 1100023) (S 1100024) (S 1100025) (S 21) (S 1046 0) (S 1032 0) (S 1008 0) (S 1055 0) → sm_TC (S 61) (S 62) (S 27) (S 1100007) (S 1100023) (S 1100024) (40 * ((S 1092 0) - 1)) (S 1100023 (S 1100033 0)) → 0 ≤ (S 1100023 (S 1100033 0)) → (S 1100023 (S 1100033 0)) < (S 1046 0) → (S 26 (S 1100023 (S 1100033 0))) = 27 → (0 ≤ (S 1100024 (S 1100023 (S 1100033 0))) ∧ (S 1100024 (S 1100023 (S 1100033 0))) < 40 ∧ sm_dp (S 1100024) (S 1100023 (S 1100033 0)) = (S 1100024 (S 1100023 (S 1100033 0))) + 1 ∧ (S 1100024 (S 1100023 (S 1100033 0))) = sm_dp (S 1100024) (S 1100023 (S 1100023 (S 1100033 0))) ∧ -1 ≤ (S 1100023 (S 1100023 (S 1100033 0))) ∧ (S 1100023 (S 1100023 (S 1100033 0))) < (S 1100023 (S 1100033 0))) ∧ ((S 61 (40 * ((S 1092 0) - 1) + (S 1100024 (S 1100023 (S 1100033 0))))) = (S 27 (S 1100023 (S 1100033 0))) ∧ (S 62 (40 * ((S 1092 0) - 1) + (S 1100024 (S 1100023 (S 1100033 0))))) = (S 1100007 (S 1100023 (S 1100033 0))) ∧ 0 ≤ (S 1100007 (S 1100023 (S 1100033 0))) ∧ (S 1100007 (S 1100023 (S 1100033 0))) ≤ 396) ∧ (0 ≤ (S 27 (S 1100023 (S 1100033 0))) ∧ (S 27 (S 1100023 (S 1100033 0))) < (S 1046 0) ∧ (S 29 (S 27 (S 1100023 (S 1100033 0)))) = (S 29 (S 1100023 (S 1100033 0))) ∧ (S 1100007 (S 27 (S 1100023 (S 1100033 0)))) = (S 1100007 (S 1100023 (S 1100033 0))) + 1 ∧ (S 1100023 (S 27 (S 1100023 (S 1100033 0)))) = (S 1100023 (S 1100023 (S 1100033 0))) ∧ (S 1100025 (S 27 (S 1100023 (S 1100033 0)))) = (S 1100025 (S 1100023 (S 1100033 0)))) ∧ sm_TC (S 61) (S 62) (S 27) (S 1100007) (S 1100023) (S 1100024) (40 * ((S 1092 0) - 1)) (S 1100023 (S 1100023 (S 1100033 0))) ∧ (-1 ≤ (S 1100025 (S 1100023 (S 1100033 0))) ∧ (S 1100025 (S 1100023 (S 1100033 0))) < (S 1100023 (S 1100033 0)) ∧ (0 ≤ (S 1100025 (S 1100023 (S 1100033 0))) → (S 26 (S 1100025 (S 1100023 (S 1100033 0)))) = 29 ∧ (S 1100007 (S 1100025 (S 1100023 (S 1100033 0)))) ≤ (S 1100007 (S 1100023 (S 1100033 0)))))) := fun c q a b d => sm_TC_hand c q a b d
        have h := h k199
        refine sv_aload_n hM dX12_stepOther_383 rfl rfl ?_
        refine sv_getA hM dX12_stepOther_384 sm_fl_191 (sm_a0 _) sm_k100 rfl ?_
        refine sv_iload hM dX12_stepOther_387 rfl rfl ?_
        refine sv_dup2 hM dX12_stepOther_389 rfl ?_
        obtain ⟨o200, h⟩ := h
        have k201 : sv_R (S 60 ((S 1092 0) - (1 : Int))) := sm_okI hok sm_r60 ((S 1092 0) - (1 : Int))
        have h := h k201
        refine sv_iald hM dX12_stepOther_390 (sm_a60 _) (by decide) o200.1 o200.2 rfl (x := (S 60 ((S 1092 0) - (1 : Int)))) rfl ?_
        refine sv_iconst (d := (1 : Int)) hM dX12_stepOther_391 rfl rfl ?_
        refine sv_isub hM dX12_stepOther_392 rfl ?_
        obtain ⟨o202, h⟩ := h
        refine sv_iast sm_X hM dX12_stepOther_393 (sm_a60 _) (by decide) o200.1 o200.2 rfl ?_
        have ok203 : sm_ok (sv_up S 60 ((S 1092 0) - (1 : Int)) ((S 60 ((S 1092 0) - (1 : Int))) - (1 : Int))) := sm_upI hok sm_r60 o202
        have md204 : sv_mod [1092, 60, 58, 57, 63, 64, 1073, 1109, 1110, 65, 66, 61, 62] S (sv_up S 60 ((S 1092 0) - (1 : Int)) ((S 60 ((S 1092 0) - (1 : Int))) - (1 : Int))) := sv_mod.up sv_mod.rf (by decide)
        refine sv_aload_n hM dX12_stepOther_394 rfl rfl ?_
        obtain ⟨o205, h⟩ := h
        refine sv_callV hM dX12_stepOther_395 sm_iv_888 (by decide) (sm_a0 _) rfl rfl (Nat.le_of_ble_eq_true rfl) sm_h154 (Nat.le_of_ble_eq_true rfl) (Nat.le_of_ble_eq_true rfl) (F' := 0) (Nat.le_of_ble_eq_true rfl) rfl (t_goOn  (sv_up S 60 ((S 1092 0) - (1 : Int)) ((S 60 ((S 1092 0) - (1 : Int))) - (1 : Int))) ok203 o205) (fun v S1 hq => ?_)
        obtain ⟨rfl, ok207, md208, hpo209⟩ := hq
        obtain ⟨g206, rfl⟩ : ∃ g, S1 = sv_sts (sv_up S 60 ((S 1092 0) - (1 : Int)) ((S 60 ((S 1092 0) - (1 : Int))) - (1 : Int))) [57] g := ⟨_, md208.eq⟩
        show sv_T sm_XS sm_cs sm_L sm_sh 3 (q_stepOther p1 p2 S) 161 398 [(0, .ref 0), (1, sv_I p1), (2, sv_I p2), (3, sv_I s3), (4, sv_I s5), (5, sv_I ((S 1092 0) - (1 : Int)))] [] (sv_sts (sv_up S 60 ((S 1092 0) - (1 : Int)) ((S 60 ((S 1092 0) - (1 : Int))) - (1 : Int))) [57] g206)
        have md210 : sv_mod [1092, 60, 58, 57, 63, 64, 1073, 1109, 1110, 65, 66, 61, 62] S (sv_sts (sv_up S 60 ((S 1092 0) - (1 : Int)) ((S 60 ((S 1092 0) - (1 : Int))) - (1 : Int))) [57] g206) := sv_mod.sts md204 (by decide)
        have h := h g206 hpo209
        refine sv_goto hM dX12_stepOther_398 (pc' := 459) rfl ?_
        exact sv_vret hM dX12_stepOther_459 rfl ⟨rfl, ok207, md210, h⟩
      have J12 : (p1 = (29 : Int)) → sv_T sm_XS sm_cs sm_L sm_sh 3 (q_stepOther p1 p2 S) 161 401 [(0, .ref 0), (1, sv_I p1), (2, sv_I p2), (3, sv_I s3), (4, sv_I s5), (5, sv_I ((S 1092 0) - (1 : Int)))] [] S := by
        intro hc
        have h := hS.2.2.2.2.2.2.2.2.2.2.2.2 hc
        have k211 : (sm_CT (S 26) (S 27) (S 28) (S 29) (S 1100007) (S 1100023) (S 1100024) (S 1100025) (S 21) (S 1046 0) (S 1032 0) (S 1008 0) (S 1055 0) → 0 ≤ (S 1100033 0) → (S 1100033 0) < (S 1046 0) → ((S 26 (S 1100033 0)) = 29 → (0 ≤ ((S 1100007 (S 1100033 0)) - 1) ∧ (0 ≤ (S 1100023 (S 1100033 0)) → (S 1100007 (S 1100023 (S 1100033 0))) ≤ ((S 1100007 (S 1100033 0)) - 1)) ∧ (0 ≤ (S 1100025 (S 1100033 0)) → (S 1100007 (S 1100025 (S 1100033 0))) ≤ ((S 1100007 (S 1100033 0)) - 1))) ∧ (0 ≤ ((S 1100033 0) + 1) ∧ ((S 1100033 0) + 1) < (S 1046 0) ∧ (S 29 ((S 1100033 0) + 1)) = ((S 29 (S 1100033 0))) ∧ (S 1100007 ((S 1100033 0) + 1)) = ((S 1100007 (S 1100033 0))) ∧ (S 1100023 ((S 1100033 0) + 1)) = ((S 1100023 (S 1100033 0))) ∧ (S 1100025 ((S 1100033 0) + 1)) = (S 1100033 0)))) := fun h h0 h1 => sm_ct_26 h _ h0 h1
        have h := h k211
        have k212 : ((S 1100034 0) = (S 1100025 (S 1100033 0)) → (S 58 ((S 1092 0) - 1)) = (S 1100007 (S 1100033 0)) → (0 ≤ (S 1100025 (S 1100033 0)) → (S 1100007 (S 1100025 (S 1100033 0))) ≤ (S 1100007 (S 1100033 0)) - 1) → (0 ≤ (S 1100034 0) → (S 1100007 (S 1100034 0)) ≤ (S 58 ((S 1092 0) - 1)) - 1)) := fun q f j z => by rw [q] at z ⊢; have := j z; omega
        have h := h k212
        have k213 : (sm_SK (S 63) (S 64) (S 44) (S 1100007) (S 1100025) (S 1076 0) (S 1007 0) (400 * ((S 1092 0) - 1)) ((S 58 ((S 1092 0) - 1))) ((S 1100034 0)) → sm_LS (S 26) (S 1100007) (S 1100025) (S 1046 0) → 0 ≤ (S 58 ((S 1092 0) - 1)) - 1 → (S 58 ((S 1092 0) - 1)) - 1 < (S 58 ((S 1092 0) - 1)) → (S 1100034 0) < (S 1046 0) → (S 1100034 0) = (S 1100025 (S 1100033 0)) → (S 58 ((S 1092 0) - 1)) = (S 1100007 (S 1100033 0)) → (0 ≤ (S 1100034 0) → (S 26 (S 1100034 0)) = 29) → (0 ≤ (S 1100025 (S 1100033 0)) → (S 1100007 (S 1100025 (S 1100033 0))) ≤ (S 1100007 (S 1100033 0)) - 1) → sm_VO (S 44) (S 1076 0) (S 1007 0) ((S 63 (400 * ((S 1092 0) - 1) + ((S 58 ((S 1092 0) - 1)) - 1)))) ((S 64 (400 * ((S 1092 0) - 1) + ((S 58 ((S 1092 0) - 1)) - 1))))) := fun h a b e g q f i j => sm_SK_at h a _ b e g (fun z => ⟨i z, by rw [q]; have := j (by omega); omega⟩)
        have h := h k213
        refine sv_aload_n hM dX12_stepOther_401 rfl rfl ?_
        refine sv_iconst (d := (1 : Int)) hM dX12_stepOther_402 rfl rfl ?_
        obtain ⟨o214, h⟩ := h
        refine sv_callV hM dX12_stepOther_403 sm_iv_882 (by decide) (sm_a0 _) rfl rfl (Nat.le_of_ble_eq_true rfl) sm_h153 (Nat.le_of_ble_eq_true rfl) (Nat.le_of_ble_eq_true rfl) (F' := 0) (Nat.le_of_ble_eq_true rfl) rfl (t_drop (1 : Int) S hok (⟨by decide, by decide⟩ : sv_R (1 : Int)) o214) (fun v S1 hq => ?_)
        obtain ⟨rfl, ok216, md217, hpo218⟩ := hq
        obtain ⟨g215, rfl⟩ : ∃ g, S1 = sv_sts S [58] g := ⟨_, md217.eq⟩
        show sv_T sm_XS sm_cs sm_L sm_sh 3 (q_stepOther p1 p2 S) 161 406 [(0, .ref 0), (1, sv_I p1), (2, sv_I p2), (3, sv_I s3), (4, sv_I s5), (5, sv_I ((S 1092 0) - (1 : Int)))] [] (sv_sts S [58] g215)
        have md219 : sv_mod [1092, 60, 58, 57, 63, 64, 1073, 1109, 1110, 65, 66, 61, 62] S (sv_sts S [58] g215) := sv_mod.sts sv_mod.rf (by decide)
        have h := h g215 hpo218
        refine sv_aload_n hM dX12_stepOther_406 rfl rfl ?_
        refine sv_getA hM dX12_stepOther_407 sm_fl_206 (sm_a0 _) sm_k105 rfl ?_
        refine sv_aload_n hM dX12_stepOther_410 rfl rfl ?_
        obtain ⟨o220, h⟩ := h
        refine sv_callV hM dX12_stepOther_411 sm_iv_879 (by decide) (sm_a0 _) rfl rfl (Nat.le_of_ble_eq_true rfl) sm_h149 (Nat.le_of_ble_eq_true rfl) (Nat.le_of_ble_eq_true rfl) (F' := 0) (Nat.le_of_ble_eq_true rfl) rfl (t_top  (sv_sts S [58] g215) ok216 o220) (fun v S1 hq => ?_)
        obtain ⟨rfl, hS1⟩ := hq
        obtain rfl : (sv_sts S [58] g215) = S1 := hS1.symm
        show sv_T sm_XS sm_cs sm_L sm_sh 3 (q_stepOther p1 p2 S) 161 414 [(0, .ref 0), (1, sv_I p1), (2, sv_I p2), (3, sv_I s3), (4, sv_I s5), (5, sv_I ((S 1092 0) - (1 : Int)))] [sv_I ((400 * ((S 1092 0) - 1) + (g215 58 ((S 1092 0) - 1)))), .ref 65] (sv_sts S [58] g215)
        refine sv_iconst (d := (0 : Int)) hM dX12_stepOther_414 rfl rfl ?_
        obtain ⟨o221, h⟩ := h
        refine sv_iast sm_X hM dX12_stepOther_415 (sm_a65 _) (by decide) o221.1 o221.2 rfl ?_
        have ok222 : sm_ok (sv_up (sv_sts S [58] g215) 65 ((400 * ((S 1092 0) - 1) + (g215 58 ((S 1092 0) - 1)))) (0 : Int)) := sm_upI ok216 sm_r65 (⟨by decide, by decide⟩ : sv_R (0 : Int))
        have md223 : sv_mod [1092, 60, 58, 57, 63, 64, 1073, 1109, 1110, 65, 66, 61, 62] S (sv_up (sv_sts S [58] g215) 65 ((400 * ((S 1092 0) - 1) + (g215 58 ((S 1092 0) - 1)))) (0 : Int)) := sv_mod.up md219 (by decide)
        refine sv_aload_n hM dX12_stepOther_416 rfl rfl ?_
        refine sv_getA hM dX12_stepOther_417 sm_fl_209 (sm_a0 _) sm_k106 rfl ?_
        refine sv_aload_n hM dX12_stepOther_420 rfl rfl ?_
        refine sv_callV hM dX12_stepOther_421 sm_iv_879 (by decide) (sm_a0 _) rfl rfl (Nat.le_of_ble_eq_true rfl) sm_h149 (Nat.le_of_ble_eq_true rfl) (Nat.le_of_ble_eq_true rfl) (F' := 0) (Nat.le_of_ble_eq_true rfl) rfl (t_top  (sv_up (sv_sts S [58] g215) 65 ((400 * ((S 1092 0) - 1) + (g215 58 ((S 1092 0) - 1)))) (0 : Int)) ok222 o220) (fun v S1 hq => ?_)
        obtain ⟨rfl, hS1⟩ := hq
        obtain rfl : (sv_up (sv_sts S [58] g215) 65 ((400 * ((S 1092 0) - 1) + (g215 58 ((S 1092 0) - 1)))) (0 : Int)) = S1 := hS1.symm
        show sv_T sm_XS sm_cs sm_L sm_sh 3 (q_stepOther p1 p2 S) 161 424 [(0, .ref 0), (1, sv_I p1), (2, sv_I p2), (3, sv_I s3), (4, sv_I s5), (5, sv_I ((S 1092 0) - (1 : Int)))] [sv_I ((400 * ((S 1092 0) - 1) + (g215 58 ((S 1092 0) - 1)))), .ref 66] (sv_up (sv_sts S [58] g215) 65 ((400 * ((S 1092 0) - 1) + (g215 58 ((S 1092 0) - 1)))) (0 : Int))
        refine sv_aload_n hM dX12_stepOther_424 rfl rfl ?_
        have k224 : sv_R (S 1086 0) := sm_okI ok222 sm_r1086 0
        have h := h k224
        refine sv_getI hM dX12_stepOther_425 sm_fl_855 (sm_a0 _) sm_k86 rfl (x := (S 1086 0)) rfl ?_
        refine sv_iast sm_X hM dX12_stepOther_428 (sm_a66 _) (by decide) o221.1 o221.2 rfl ?_
        have ok225 : sm_ok (sv_up (sv_up (sv_sts S [58] g215) 65 ((400 * ((S 1092 0) - 1) + (g215 58 ((S 1092 0) - 1)))) (0 : Int)) 66 ((400 * ((S 1092 0) - 1) + (g215 58 ((S 1092 0) - 1)))) (S 1086 0)) := sm_upI ok222 sm_r66 k224
        have md226 : sv_mod [1092, 60, 58, 57, 63, 64, 1073, 1109, 1110, 65, 66, 61, 62] S (sv_up (sv_up (sv_sts S [58] g215) 65 ((400 * ((S 1092 0) - 1) + (g215 58 ((S 1092 0) - 1)))) (0 : Int)) 66 ((400 * ((S 1092 0) - 1) + (g215 58 ((S 1092 0) - 1)))) (S 1086 0)) := sv_mod.up md223 (by decide)
        refine sv_aload_n hM dX12_stepOther_429 rfl rfl ?_
        refine sv_bipush (d := (8 : Int)) hM dX12_stepOther_430 rfl rfl ?_
        refine sv_iload_n hM dX12_stepOther_432 rfl rfl ?_
        refine sv_bipush (d := (7 : Int)) hM dX12_stepOther_433 rfl rfl ?_
        refine sv_icmp_ne hM dX12_stepOther_435 hs3 (⟨by decide, by decide⟩ : sv_R (7 : Int)) (t := 443) rfl rfl (fun hc => ?_) (fun hc => ?_)
        · have h := h.1 (hc)
          refine sv_iconst (d := (-1 : Int)) hM dX12_stepOther_443 rfl rfl ?_
          obtain ⟨o227, h⟩ := h
          refine sv_callV hM dX12_stepOther_444 sm_iv_885 (by decide) (sm_a0 _) rfl rfl (Nat.le_of_ble_eq_true rfl) sm_h152 (Nat.le_of_ble_eq_true rfl) (Nat.le_of_ble_eq_true rfl) (F' := 1) (Nat.le_of_ble_eq_true rfl) rfl (t_push (8 : Int) (-1 : Int) (sv_up (sv_up (sv_sts S [58] g215) 65 ((400 * ((S 1092 0) - 1) + (g215 58 ((S 1092 0) - 1)))) (0 : Int)) 66 ((400 * ((S 1092 0) - 1) + (g215 58 ((S 1092 0) - 1)))) (S 1086 0)) ok225 (⟨by decide, by decide⟩ : sv_R (8 : Int)) (⟨by decide, by decide⟩ : sv_R (-1 : Int)) o227) (fun v S1 hq => ?_)
          obtain ⟨rfl, ok229, md230, hpo231⟩ := hq
          obtain ⟨g228, rfl⟩ : ∃ g, S1 = sv_sts (sv_up (sv_up (sv_sts S [58] g215) 65 ((400 * ((S 1092 0) - 1) + (g215 58 ((S 1092 0) - 1)))) (0 : Int)) 66 ((400 * ((S 1092 0) - 1) + (g215 58 ((S 1092 0) - 1)))) (S 1086 0)) [63, 64, 58] g := ⟨_, md230.eq⟩
          show sv_T sm_XS sm_cs sm_L sm_sh 3 (q_stepOther p1 p2 S) 161 447 [(0, .ref 0), (1, sv_I p1), (2, sv_I p2), (3, sv_I s3), (4, sv_I s5), (5, sv_I ((S 1092 0) - (1 : Int)))] [] (sv_sts (sv_up (sv_up (sv_sts S [58] g215) 65 ((400 * ((S 1092 0) - 1) + (g215 58 ((S 1092 0) - 1)))) (0 : Int)) 66 ((400 * ((S 1092 0) - 1) + (g215 58 ((S 1092 0) - 1)))) (S 1086 0)) [63, 64, 58] g228)
          have md232 : sv_mod [1092, 60, 58, 57, 63, 64, 1073, 1109, 1110, 65, 66, 61, 62] S (sv_sts (sv_up (sv_up (sv_sts S [58] g215) 65 ((400 * ((S 1092 0) - 1) + (g215 58 ((S 1092 0) - 1)))) (0 : Int)) 66 ((400 * ((S 1092 0) - 1) + (g215 58 ((S 1092 0) - 1)))) (S 1086 0)) [63, 64, 58] g228) := sv_mod.sts md226 (by decide)
          have h := h g228 hpo231
          refine sv_aload_n hM dX12_stepOther_447 rfl rfl ?_
          obtain ⟨o233, h⟩ := h
          refine sv_callV hM dX12_stepOther_448 sm_iv_888 (by decide) (sm_a0 _) rfl rfl (Nat.le_of_ble_eq_true rfl) sm_h154 (Nat.le_of_ble_eq_true rfl) (Nat.le_of_ble_eq_true rfl) (F' := 0) (Nat.le_of_ble_eq_true rfl) rfl (t_goOn  (sv_sts (sv_up (sv_up (sv_sts S [58] g215) 65 ((400 * ((S 1092 0) - 1) + (g215 58 ((S 1092 0) - 1)))) (0 : Int)) 66 ((400 * ((S 1092 0) - 1) + (g215 58 ((S 1092 0) - 1)))) (S 1086 0)) [63, 64, 58] g228) ok229 o233) (fun v S1 hq => ?_)
          obtain ⟨rfl, ok235, md236, hpo237⟩ := hq
          obtain ⟨g234, rfl⟩ : ∃ g, S1 = sv_sts (sv_sts (sv_up (sv_up (sv_sts S [58] g215) 65 ((400 * ((S 1092 0) - 1) + (g215 58 ((S 1092 0) - 1)))) (0 : Int)) 66 ((400 * ((S 1092 0) - 1) + (g215 58 ((S 1092 0) - 1)))) (S 1086 0)) [63, 64, 58] g228) [57] g := ⟨_, md236.eq⟩
          show sv_T sm_XS sm_cs sm_L sm_sh 3 (q_stepOther p1 p2 S) 161 451 [(0, .ref 0), (1, sv_I p1), (2, sv_I p2), (3, sv_I s3), (4, sv_I s5), (5, sv_I ((S 1092 0) - (1 : Int)))] [] (sv_sts (sv_sts (sv_up (sv_up (sv_sts S [58] g215) 65 ((400 * ((S 1092 0) - 1) + (g215 58 ((S 1092 0) - 1)))) (0 : Int)) 66 ((400 * ((S 1092 0) - 1) + (g215 58 ((S 1092 0) - 1)))) (S 1086 0)) [63, 64, 58] g228) [57] g234)
          have md238 : sv_mod [1092, 60, 58, 57, 63, 64, 1073, 1109, 1110, 65, 66, 61, 62] S (sv_sts (sv_sts (sv_up (sv_up (sv_sts S [58] g215) 65 ((400 * ((S 1092 0) - 1) + (g215 58 ((S 1092 0) - 1)))) (0 : Int)) 66 ((400 * ((S 1092 0) - 1) + (g215 58 ((S 1092 0) - 1)))) (S 1086 0)) [63, 64, 58] g228) [57] g234) := sv_mod.sts md232 (by decide)
          have h := h g234 hpo237
          refine sv_goto hM dX12_stepOther_451 (pc' := 459) rfl ?_
          exact sv_vret hM dX12_stepOther_459 rfl ⟨rfl, ok235, md238, h⟩
        · have h := h.2 (hc)
          refine sv_iload hM dX12_stepOther_438 rfl rfl ?_
          refine sv_goto hM dX12_stepOther_440 (pc' := 444) rfl ?_
          obtain ⟨o239, h⟩ := h
          refine sv_callV hM dX12_stepOther_444 sm_iv_885 (by decide) (sm_a0 _) rfl rfl (Nat.le_of_ble_eq_true rfl) sm_h152 (Nat.le_of_ble_eq_true rfl) (Nat.le_of_ble_eq_true rfl) (F' := 1) (Nat.le_of_ble_eq_true rfl) rfl (t_push (8 : Int) s5 (sv_up (sv_up (sv_sts S [58] g215) 65 ((400 * ((S 1092 0) - 1) + (g215 58 ((S 1092 0) - 1)))) (0 : Int)) 66 ((400 * ((S 1092 0) - 1) + (g215 58 ((S 1092 0) - 1)))) (S 1086 0)) ok225 (⟨by decide, by decide⟩ : sv_R (8 : Int)) hs5 o239) (fun v S1 hq => ?_)
          obtain ⟨rfl, ok241, md242, hpo243⟩ := hq
          obtain ⟨g240, rfl⟩ : ∃ g, S1 = sv_sts (sv_up (sv_up (sv_sts S [58] g215) 65 ((400 * ((S 1092 0) - 1) + (g215 58 ((S 1092 0) - 1)))) (0 : Int)) 66 ((400 * ((S 1092 0) - 1) + (g215 58 ((S 1092 0) - 1)))) (S 1086 0)) [63, 64, 58] g := ⟨_, md242.eq⟩
          show sv_T sm_XS sm_cs sm_L sm_sh 3 (q_stepOther p1 p2 S) 161 447 [(0, .ref 0), (1, sv_I p1), (2, sv_I p2), (3, sv_I s3), (4, sv_I s5), (5, sv_I ((S 1092 0) - (1 : Int)))] [] (sv_sts (sv_up (sv_up (sv_sts S [58] g215) 65 ((400 * ((S 1092 0) - 1) + (g215 58 ((S 1092 0) - 1)))) (0 : Int)) 66 ((400 * ((S 1092 0) - 1) + (g215 58 ((S 1092 0) - 1)))) (S 1086 0)) [63, 64, 58] g240)
          have md244 : sv_mod [1092, 60, 58, 57, 63, 64, 1073, 1109, 1110, 65, 66, 61, 62] S (sv_sts (sv_up (sv_up (sv_sts S [58] g215) 65 ((400 * ((S 1092 0) - 1) + (g215 58 ((S 1092 0) - 1)))) (0 : Int)) 66 ((400 * ((S 1092 0) - 1) + (g215 58 ((S 1092 0) - 1)))) (S 1086 0)) [63, 64, 58] g240) := sv_mod.sts md226 (by decide)
          have h := h g240 hpo243
          refine sv_aload_n hM dX12_stepOther_447 rfl rfl ?_
          obtain ⟨o245, h⟩ := h
          refine sv_callV hM dX12_stepOther_448 sm_iv_888 (by decide) (sm_a0 _) rfl rfl (Nat.le_of_ble_eq_true rfl) sm_h154 (Nat.le_of_ble_eq_true rfl) (Nat.le_of_ble_eq_true rfl) (F' := 0) (Nat.le_of_ble_eq_true rfl) rfl (t_goOn  (sv_sts (sv_up (sv_up (sv_sts S [58] g215) 65 ((400 * ((S 1092 0) - 1) + (g215 58 ((S 1092 0) - 1)))) (0 : Int)) 66 ((400 * ((S 1092 0) - 1) + (g215 58 ((S 1092 0) - 1)))) (S 1086 0)) [63, 64, 58] g240) ok241 o245) (fun v S1 hq => ?_)
          obtain ⟨rfl, ok247, md248, hpo249⟩ := hq
          obtain ⟨g246, rfl⟩ : ∃ g, S1 = sv_sts (sv_sts (sv_up (sv_up (sv_sts S [58] g215) 65 ((400 * ((S 1092 0) - 1) + (g215 58 ((S 1092 0) - 1)))) (0 : Int)) 66 ((400 * ((S 1092 0) - 1) + (g215 58 ((S 1092 0) - 1)))) (S 1086 0)) [63, 64, 58] g240) [57] g := ⟨_, md248.eq⟩
          show sv_T sm_XS sm_cs sm_L sm_sh 3 (q_stepOther p1 p2 S) 161 451 [(0, .ref 0), (1, sv_I p1), (2, sv_I p2), (3, sv_I s3), (4, sv_I s5), (5, sv_I ((S 1092 0) - (1 : Int)))] [] (sv_sts (sv_sts (sv_up (sv_up (sv_sts S [58] g215) 65 ((400 * ((S 1092 0) - 1) + (g215 58 ((S 1092 0) - 1)))) (0 : Int)) 66 ((400 * ((S 1092 0) - 1) + (g215 58 ((S 1092 0) - 1)))) (S 1086 0)) [63, 64, 58] g240) [57] g246)
          have md250 : sv_mod [1092, 60, 58, 57, 63, 64, 1073, 1109, 1110, 65, 66, 61, 62] S (sv_sts (sv_sts (sv_up (sv_up (sv_sts S [58] g215) 65 ((400 * ((S 1092 0) - 1) + (g215 58 ((S 1092 0) - 1)))) (0 : Int)) 66 ((400 * ((S 1092 0) - 1) + (g215 58 ((S 1092 0) - 1)))) (S 1086 0)) [63, 64, 58] g240) [57] g246) := sv_mod.sts md244 (by decide)
          have h := h g246 hpo249
          refine sv_goto hM dX12_stepOther_451 (pc' := 459) rfl ?_
          exact sv_vret hM dX12_stepOther_459 rfl ⟨rfl, ok247, md250, h⟩
      refine sv_tsw hM dX12_stepOther_66 hp1 (t := 454) rfl (fun hc => J0 (by rcases hc with hc | hc; exact Or.inl hc; exact Or.inr hc)) (fun hc => ?_)
      have hv : p1 = (17 : Int) ∨ p1 = (18 : Int) ∨ p1 = (19 : Int) ∨ p1 = (20 : Int) ∨ p1 = (21 : Int) ∨ p1 = (22 : Int) ∨ p1 = (23 : Int) ∨ p1 = (24 : Int) ∨ p1 = (25 : Int) ∨ p1 = (26 : Int) ∨ p1 = (27 : Int) ∨ p1 = (28 : Int) ∨ p1 = (29 : Int) := by omega
      rcases hv with hv | hv | hv | hv | hv | hv | hv | hv | hv | hv | hv | hv | hv
      · exact ⟨66, 132, by rw [hv]; rfl, rfl, J1 (by omega)⟩
      · exact ⟨78, 144, by rw [hv]; rfl, rfl, J2 (by omega)⟩
      · exact ⟨92, 158, by rw [hv]; rfl, rfl, J3 (by omega)⟩
      · exact ⟨128, 194, by rw [hv]; rfl, rfl, J4 (by omega)⟩
      · exact ⟨142, 208, by rw [hv]; rfl, rfl, J5 (by omega)⟩
      · exact ⟨153, 219, by rw [hv]; rfl, rfl, J6 (by omega)⟩
      · exact ⟨191, 257, by rw [hv]; rfl, rfl, J7 (by omega)⟩
      · exact ⟨191, 257, by rw [hv]; rfl, rfl, J7 (by omega)⟩
      · exact ⟨235, 301, by rw [hv]; rfl, rfl, J8 (by omega)⟩
      · exact ⟨245, 311, by rw [hv]; rfl, rfl, J9 (by omega)⟩
      · exact ⟨255, 321, by rw [hv]; rfl, rfl, J10 (by omega)⟩
      · exact ⟨317, 383, by rw [hv]; rfl, rfl, J11 (by omega)⟩
      · exact ⟨335, 401, by rw [hv]; rfl, rfl, J12 (by omega)⟩
    have h := h.2
    refine sv_iload_n hM dX12_stepOther_28 rfl rfl ?_
    refine sv_bipush (d := (21 : Int)) hM dX12_stepOther_29 rfl rfl ?_
    refine sv_icmp_eq hM dX12_stepOther_31 hp1 (⟨by decide, by decide⟩ : sv_R (21 : Int)) (t := 46) rfl rfl (fun hc => ?_) (fun hc => ?_)
    · have h := h.1 (hc)
      refine sv_iconst (d := (0 : Int)) hM dX12_stepOther_46 rfl rfl ?_
      refine sv_goto hM dX12_stepOther_47 (pc' := 55) rfl ?_
      have hb := J251 (0 : Int) (⟨by decide, by decide⟩ : sv_R (0 : Int)) h
      exact sv_less (lv := [(0, .ref 0), (1, sv_I p1), (2, sv_I p2), (3, sv_I s3)]) (sv_Sub_cons rfl (sv_Sub_cons rfl (sv_Sub_cons rfl (sv_Sub_cons rfl sv_Sub_nil)))) hb
    · have h := h.2 (hc)
      refine sv_iload_n hM dX12_stepOther_34 rfl rfl ?_
      refine sv_bipush (d := (27 : Int)) hM dX12_stepOther_35 rfl rfl ?_
      refine sv_icmp_eq hM dX12_stepOther_37 hp1 (⟨by decide, by decide⟩ : sv_R (27 : Int)) (t := 46) rfl rfl (fun hc => ?_) (fun hc => ?_)
      · have h := h.1 (hc)
        refine sv_iconst (d := (0 : Int)) hM dX12_stepOther_46 rfl rfl ?_
        refine sv_goto hM dX12_stepOther_47 (pc' := 55) rfl ?_
        have hb := J251 (0 : Int) (⟨by decide, by decide⟩ : sv_R (0 : Int)) h
        exact sv_less (lv := [(0, .ref 0), (1, sv_I p1), (2, sv_I p2), (3, sv_I s3)]) (sv_Sub_cons rfl (sv_Sub_cons rfl (sv_Sub_cons rfl (sv_Sub_cons rfl sv_Sub_nil)))) hb
      · have h := h.2 (hc)
        refine sv_iload_n hM dX12_stepOther_40 rfl rfl ?_
        refine sv_bipush (d := (28 : Int)) hM dX12_stepOther_41 rfl rfl ?_
        refine sv_icmp_ne hM dX12_stepOther_43 hp1 (⟨by decide, by decide⟩ : sv_R (28 : Int)) (t := 50) rfl rfl (fun hc => ?_) (fun hc => ?_)
        · have h := h.1 (hc)
          refine sv_aload_n hM dX12_stepOther_50 rfl rfl ?_
          refine sv_iconst (d := (0 : Int)) hM dX12_stepOther_51 rfl rfl ?_
          obtain ⟨o252, h⟩ := h
          refine sv_callV hM dX12_stepOther_52 sm_iv_913 (by decide) (sm_a0 _) rfl rfl (Nat.le_of_ble_eq_true rfl) sm_h151 (Nat.le_of_ble_eq_true rfl) (Nat.le_of_ble_eq_true rfl) (F' := 1) (Nat.le_of_ble_eq_true rfl) rfl (t_valueAt (0 : Int) S hok (⟨by decide, by decide⟩ : sv_R (0 : Int)) o252) (fun v S1 hq => ?_)
          obtain ⟨rfl, hS1⟩ := hq
          obtain rfl : S = S1 := hS1.symm
          show sv_T sm_XS sm_cs sm_L sm_sh 3 (q_stepOther p1 p2 S) 161 55 [(0, .ref 0), (1, sv_I p1), (2, sv_I p2), (3, sv_I s3)] [sv_I ((S 64 ((400 * ((S 1092 0) - 1) + (S 58 ((S 1092 0) - 1))) - 1 - (0 : Int))))] S
          have hb := J251 ((S 64 ((400 * ((S 1092 0) - 1) + (S 58 ((S 1092 0) - 1))) - 1 - (0 : Int)))) (sm_okI hok sm_r64 _) h
          exact sv_less (lv := [(0, .ref 0), (1, sv_I p1), (2, sv_I p2), (3, sv_I s3)]) (sv_Sub_cons rfl (sv_Sub_cons rfl (sv_Sub_cons rfl (sv_Sub_cons rfl sv_Sub_nil)))) hb
        · have h := h.2 (hc)
          refine sv_iconst (d := (0 : Int)) hM dX12_stepOther_46 rfl rfl ?_
          refine sv_goto hM dX12_stepOther_47 (pc' := 55) rfl ?_
          have hb := J251 (0 : Int) (⟨by decide, by decide⟩ : sv_R (0 : Int)) h
          exact sv_less (lv := [(0, .ref 0), (1, sv_I p1), (2, sv_I p2), (3, sv_I s3)]) (sv_Sub_cons rfl (sv_Sub_cons rfl (sv_Sub_cons rfl (sv_Sub_cons rfl sv_Sub_nil)))) hb
  have h := h.2
  have k254 : (sm_CT (S 26) (S 27) (S 28) (S 29) (S 1100007) (S 1100023) (S 1100024) (S 1100025) (S 21) (S 1046 0) (S 1032 0) (S 1008 0) (S 1055 0) → 0 ≤ (S 1100033 0) → (S 1100033 0) < (S 1046 0) → (0 ≤ (S 1100025 (S 1100033 0)) → (S 26 (S 1100025 (S 1100033 0))) = 29 ∧ (S 1100007 (S 1100025 (S 1100033 0))) ≤ (S 1100007 (S 1100033 0))) ∧ (0 ≤ (S 1100007 (S 1100033 0)) ∧ (S 1100007 (S 1100033 0)) ≤ 396 ∧ -1 ≤ (S 1100023 (S 1100033 0)) ∧ (S 1100023 (S 1100033 0)) < (S 1100033 0) ∧ -1 ≤ (S 1100025 (S 1100033 0)) ∧ (S 1100025 (S 1100033 0)) < (S 1100033 0) ∧ 0 ≤ (S 26 (S 1100033 0)) ∧ (S 26 (S 1100033 0)) ≤ 30)) := fun h a b => by have q := sm_ct_0 h _ a b; have w := sm_ct_3 h _ a b; exact ⟨fun z => ⟨(w z).1, (w z).2.2.1⟩, by omega⟩
  have h := h k254
  have k255 : ((S 1100034 0) = (S 1100025 (S 1100033 0)) → (S 58 ((S 1092 0) - 1)) = (S 1100007 (S 1100033 0)) → (0 ≤ (S 1100025 (S 1100033 0)) → (S 1100007 (S 1100025 (S 1100033 0))) ≤ (S 1100007 (S 1100033 0))) → (0 ≤ (S 1100034 0) → (S 1100007 (S 1100034 0)) ≤ (S 58 ((S 1092 0) - 1)))) := fun q f j z => by rw [q] at z ⊢; have := j z; omega
  have h := h k255
  refine sv_iload_n hM dX12_stepOther_0 rfl rfl ?_
  refine sv_bipush (d := (21 : Int)) hM dX12_stepOther_1 rfl rfl ?_
  refine sv_icmp_eq hM dX12_stepOther_3 hp1 (⟨by decide, by decide⟩ : sv_R (21 : Int)) (t := 18) rfl rfl (fun hc => ?_) (fun hc => ?_)
  · have h := h.1 (hc)
    refine sv_iconst (d := (0 : Int)) hM dX12_stepOther_18 rfl rfl ?_
    refine sv_goto hM dX12_stepOther_19 (pc' := 27) rfl ?_
    have hb := J253 (0 : Int) (⟨by decide, by decide⟩ : sv_R (0 : Int)) h
    exact sv_less (lv := [(0, .ref 0), (1, sv_I p1), (2, sv_I p2)]) (sv_Sub_cons rfl (sv_Sub_cons rfl (sv_Sub_cons rfl sv_Sub_nil))) hb
  · have h := h.2 (hc)
    refine sv_iload_n hM dX12_stepOther_6 rfl rfl ?_
    refine sv_bipush (d := (27 : Int)) hM dX12_stepOther_7 rfl rfl ?_
    refine sv_icmp_eq hM dX12_stepOther_9 hp1 (⟨by decide, by decide⟩ : sv_R (27 : Int)) (t := 18) rfl rfl (fun hc => ?_) (fun hc => ?_)
    · have h := h.1 (hc)
      refine sv_iconst (d := (0 : Int)) hM dX12_stepOther_18 rfl rfl ?_
      refine sv_goto hM dX12_stepOther_19 (pc' := 27) rfl ?_
      have hb := J253 (0 : Int) (⟨by decide, by decide⟩ : sv_R (0 : Int)) h
      exact sv_less (lv := [(0, .ref 0), (1, sv_I p1), (2, sv_I p2)]) (sv_Sub_cons rfl (sv_Sub_cons rfl (sv_Sub_cons rfl sv_Sub_nil))) hb
    · have h := h.2 (hc)
      refine sv_iload_n hM dX12_stepOther_12 rfl rfl ?_
      refine sv_bipush (d := (28 : Int)) hM dX12_stepOther_13 rfl rfl ?_
      refine sv_icmp_ne hM dX12_stepOther_15 hp1 (⟨by decide, by decide⟩ : sv_R (28 : Int)) (t := 22) rfl rfl (fun hc => ?_) (fun hc => ?_)
      · have h := h.1 (hc)
        refine sv_aload_n hM dX12_stepOther_22 rfl rfl ?_
        refine sv_iconst (d := (0 : Int)) hM dX12_stepOther_23 rfl rfl ?_
        obtain ⟨o256, h⟩ := h
        refine sv_callV hM dX12_stepOther_24 sm_iv_910 (by decide) (sm_a0 _) rfl rfl (Nat.le_of_ble_eq_true rfl) sm_h150 (Nat.le_of_ble_eq_true rfl) (Nat.le_of_ble_eq_true rfl) (F' := 1) (Nat.le_of_ble_eq_true rfl) rfl (t_sortAt (0 : Int) S hok (⟨by decide, by decide⟩ : sv_R (0 : Int)) o256) (fun v S1 hq => ?_)
        obtain ⟨rfl, hS1⟩ := hq
        obtain rfl : S = S1 := hS1.symm
        show sv_T sm_XS sm_cs sm_L sm_sh 3 (q_stepOther p1 p2 S) 161 27 [(0, .ref 0), (1, sv_I p1), (2, sv_I p2)] [sv_I ((S 63 ((400 * ((S 1092 0) - 1) + (S 58 ((S 1092 0) - 1))) - 1 - (0 : Int))))] S
        have hb := J253 ((S 63 ((400 * ((S 1092 0) - 1) + (S 58 ((S 1092 0) - 1))) - 1 - (0 : Int)))) (sm_okI hok sm_r63 _) h
        exact sv_less (lv := [(0, .ref 0), (1, sv_I p1), (2, sv_I p2)]) (sv_Sub_cons rfl (sv_Sub_cons rfl (sv_Sub_cons rfl sv_Sub_nil))) hb
      · have h := h.2 (hc)
        refine sv_iconst (d := (0 : Int)) hM dX12_stepOther_18 rfl rfl ?_
        refine sv_goto hM dX12_stepOther_19 (pc' := 27) rfl ?_
        have hb := J253 (0 : Int) (⟨by decide, by decide⟩ : sv_R (0 : Int)) h
        exact sv_less (lv := [(0, .ref 0), (1, sv_I p1), (2, sv_I p2)]) (sv_Sub_cons rfl (sv_Sub_cons rfl (sv_Sub_cons rfl sv_Sub_nil))) hb
