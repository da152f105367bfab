/-! THE LAW, 3: its operations -/
theorem hn_285 : (ax_mm 285).2.2.1 = 8 := by decide +kernel
theorem hr_285 : (ax_mm 285).2.2.2.1 = (some .boolean) := by decide +kernel
theorem hk_285_0 : ax_look 285 0 = some (.new 8, (8, 0, 0), .null, [1034, 1035, 1001]) := by decide +kernel
theorem hk_285_3 : ax_look 285 3 = some (.dup, (0, 0, 0), .null, []) := by decide +kernel
theorem hk_285_4 : ax_look 285 4 = some (.invokespecial 130, (69, 0, 0), .null, [1036]) := by decide +kernel
theorem hk_285_7 : ax_look 285 7 = some (.astore_n 1, (0, 0, 0), .null, []) := by decide +kernel
theorem hk_285_8 : ax_look 285 8 = some (.new 131, (9, 0, 0), .null, [6170, 6171, 1015]) := by decide +kernel
theorem hk_285_11 : ax_look 285 11 = some (.dup, (0, 0, 0), .null, []) := by decide +kernel
theorem hk_285_12 : ax_look 285 12 = some (.invokespecial 133, (130, 0, 0), .null, [6172]) := by decide +kernel
theorem hk_285_15 : ax_look 285 15 = some (.astore_n 2, (0, 0, 0), .null, []) := by decide +kernel
theorem hk_285_16 : ax_look 285 16 = some (.iconst 1, (0, 0, 0), .null, []) := by decide +kernel
theorem hk_285_17 : ax_look 285 17 = some (.newarray .long, (1, 0, 0), .null, [1144]) := by decide +kernel
theorem hk_285_19 : ax_look 285 19 = some (.astore_n 3, (0, 0, 0), .null, []) := by decide +kernel
theorem hk_285_20 : ax_look 285 20 = some (.iconst 0, (0, 0, 0), .null, []) := by decide +kernel
theorem hk_285_21 : ax_look 285 21 = some (.istore 4, (0, 0, 0), .null, []) := by decide +kernel
theorem hk_285_23 : ax_look 285 23 = some (.iload 4, (0, 0, 0), .null, []) := by decide +kernel
theorem hk_285_25 : ax_look 285 25 = some (.aload_n 0, (0, 0, 0), .null, []) := by decide +kernel
theorem hk_285_26 : ax_look 285 26 = some (.arraylength, (0, 0, 0), .null, []) := by decide +kernel
theorem hk_285_27 : ax_look 285 27 = some (.bipush 6, (0, 0, 0), .null, []) := by decide +kernel
theorem hk_285_29 : ax_look 285 29 = some (.isub, (0, 0, 0), .null, []) := by decide +kernel
theorem hk_285_30 : ax_look 285 30 = some (.if_icmp .gt 1311, (0, 0, 0), .null, []) := by decide +kernel
theorem hk_285_33 : ax_look 285 33 = some (.aload_n 0, (0, 0, 0), .null, []) := by decide +kernel
theorem hk_285_34 : ax_look 285 34 = some (.iload 4, (0, 0, 0), .null, []) := by decide +kernel
theorem hk_285_36 : ax_look 285 36 = some (.iaload, (0, 0, 0), .null, []) := by decide +kernel
theorem hk_285_37 : ax_look 285 37 = some (.bipush 63, (0, 0, 0), .null, []) := by decide +kernel
theorem hk_285_39 : ax_look 285 39 = some (.iand, (0, 0, 0), .null, []) := by decide +kernel
theorem hk_285_40 : ax_look 285 40 = some (.tableswitch 1295 0 40 #[180, 256, 284, 300, 316, 329, 357, 385, 398, 426, 454, 494, 522, 550, 590, 630, 670, 698, 738, 790, 818, 858, 886, 914, 930, 958, 974, 987, 1000, 1028, 1041, 1069, 1082, 1110, 1150, 1166, 1182, 1222, 1250, 1266, 1282], (0, 0, 0), .null, []) := by decide +kernel
theorem hk_285_220 : ax_look 285 220 = some (.aload_n 1, (0, 0, 0), .null, []) := by decide +kernel
theorem hk_285_221 : ax_look 285 221 = some (.aload_n 0, (0, 0, 0), .null, []) := by decide +kernel
theorem hk_285_222 : ax_look 285 222 = some (.iload 4, (0, 0, 0), .null, []) := by decide +kernel
theorem hk_285_224 : ax_look 285 224 = some (.iconst 1, (0, 0, 0), .null, []) := by decide +kernel
theorem hk_285_225 : ax_look 285 225 = some (.iadd, (0, 0, 0), .null, []) := by decide +kernel
theorem hk_285_226 : ax_look 285 226 = some (.iaload, (0, 0, 0), .null, []) := by decide +kernel
theorem hk_285_227 : ax_look 285 227 = some (.aload_n 0, (0, 0, 0), .null, []) := by decide +kernel
theorem hk_285_228 : ax_look 285 228 = some (.iload 4, (0, 0, 0), .null, []) := by decide +kernel
theorem hk_285_230 : ax_look 285 230 = some (.iconst 2, (0, 0, 0), .null, []) := by decide +kernel
theorem hk_285_231 : ax_look 285 231 = some (.iadd, (0, 0, 0), .null, []) := by decide +kernel
theorem hk_285_232 : ax_look 285 232 = some (.iaload, (0, 0, 0), .null, []) := by decide +kernel
theorem hk_285_233 : ax_look 285 233 = some (.aload_n 0, (0, 0, 0), .null, []) := by decide +kernel
theorem hk_285_234 : ax_look 285 234 = some (.iload 4, (0, 0, 0), .null, []) := by decide +kernel
theorem hk_285_236 : ax_look 285 236 = some (.iconst 3, (0, 0, 0), .null, []) := by decide +kernel
theorem hk_285_237 : ax_look 285 237 = some (.iadd, (0, 0, 0), .null, []) := by decide +kernel
theorem hk_285_238 : ax_look 285 238 = some (.iaload, (0, 0, 0), .null, []) := by decide +kernel
theorem hk_285_239 : ax_look 285 239 = some (.aload_n 0, (0, 0, 0), .null, []) := by decide +kernel
theorem hk_285_240 : ax_look 285 240 = some (.iload 4, (0, 0, 0), .null, []) := by decide +kernel
theorem hk_285_242 : ax_look 285 242 = some (.iconst 4, (0, 0, 0), .null, []) := by decide +kernel
theorem hk_285_243 : ax_look 285 243 = some (.iadd, (0, 0, 0), .null, []) := by decide +kernel
theorem hk_285_244 : ax_look 285 244 = some (.iaload, (0, 0, 0), .null, []) := by decide +kernel
theorem hk_285_245 : ax_look 285 245 = some (.aload_n 0, (0, 0, 0), .null, []) := by decide +kernel
theorem hk_285_246 : ax_look 285 246 = some (.iload 4, (0, 0, 0), .null, []) := by decide +kernel
theorem hk_285_248 : ax_look 285 248 = some (.iconst 5, (0, 0, 0), .null, []) := by decide +kernel
theorem hk_285_249 : ax_look 285 249 = some (.iadd, (0, 0, 0), .null, []) := by decide +kernel
theorem hk_285_250 : ax_look 285 250 = some (.iaload, (0, 0, 0), .null, []) := by decide +kernel
theorem hk_285_251 : ax_look 285 251 = some (.aload_n 3, (0, 0, 0), .null, []) := by decide +kernel
theorem hk_285_252 : ax_look 285 252 = some (.invokestatic 134, (219, 7, 0), .null, [2117]) := by decide +kernel
theorem hk_285_255 : ax_look 285 255 = some (.istore 5, (0, 0, 0), .null, []) := by decide +kernel
theorem hk_285_257 : ax_look 285 257 = some (.aload_n 2, (0, 0, 0), .null, []) := by decide +kernel
theorem hk_285_258 : ax_look 285 258 = some (.aload_n 0, (0, 0, 0), .null, []) := by decide +kernel
theorem hk_285_259 : ax_look 285 259 = some (.iload 4, (0, 0, 0), .null, []) := by decide +kernel
theorem hk_285_261 : ax_look 285 261 = some (.iconst 1, (0, 0, 0), .null, []) := by decide +kernel
theorem hk_285_262 : ax_look 285 262 = some (.iadd, (0, 0, 0), .null, []) := by decide +kernel
theorem hk_285_263 : ax_look 285 263 = some (.iaload, (0, 0, 0), .null, []) := by decide +kernel
theorem hk_285_264 : ax_look 285 264 = some (.aload_n 0, (0, 0, 0), .null, []) := by decide +kernel
theorem hk_285_265 : ax_look 285 265 = some (.iload 4, (0, 0, 0), .null, []) := by decide +kernel
theorem hk_285_267 : ax_look 285 267 = some (.iconst 2, (0, 0, 0), .null, []) := by decide +kernel
theorem hk_285_268 : ax_look 285 268 = some (.iadd, (0, 0, 0), .null, []) := by decide +kernel
theorem hk_285_269 : ax_look 285 269 = some (.iaload, (0, 0, 0), .null, []) := by decide +kernel
theorem hk_285_270 : ax_look 285 270 = some (.aload_n 0, (0, 0, 0), .null, []) := by decide +kernel
theorem hk_285_271 : ax_look 285 271 = some (.iload 4, (0, 0, 0), .null, []) := by decide +kernel
theorem hk_285_273 : ax_look 285 273 = some (.iconst 3, (0, 0, 0), .null, []) := by decide +kernel
theorem hk_285_274 : ax_look 285 274 = some (.iadd, (0, 0, 0), .null, []) := by decide +kernel
theorem hk_285_275 : ax_look 285 275 = some (.iaload, (0, 0, 0), .null, []) := by decide +kernel
theorem hk_285_276 : ax_look 285 276 = some (.aload_n 0, (0, 0, 0), .null, []) := by decide +kernel
theorem hk_285_277 : ax_look 285 277 = some (.iload 4, (0, 0, 0), .null, []) := by decide +kernel
theorem hk_285_279 : ax_look 285 279 = some (.iconst 4, (0, 0, 0), .null, []) := by decide +kernel
theorem hk_285_280 : ax_look 285 280 = some (.iadd, (0, 0, 0), .null, []) := by decide +kernel
theorem hk_285_281 : ax_look 285 281 = some (.iaload, (0, 0, 0), .null, []) := by decide +kernel
theorem hk_285_282 : ax_look 285 282 = some (.aload_n 0, (0, 0, 0), .null, []) := by decide +kernel
theorem hk_285_283 : ax_look 285 283 = some (.iload 4, (0, 0, 0), .null, []) := by decide +kernel
theorem hk_285_285 : ax_look 285 285 = some (.iconst 5, (0, 0, 0), .null, []) := by decide +kernel
theorem hk_285_286 : ax_look 285 286 = some (.iadd, (0, 0, 0), .null, []) := by decide +kernel
theorem hk_285_287 : ax_look 285 287 = some (.iaload, (0, 0, 0), .null, []) := by decide +kernel
theorem hk_285_288 : ax_look 285 288 = some (.invokevirtual 139, (143, 5, 9), .null, [7034, 7036]) := by decide +kernel
theorem hk_285_291 : ax_look 285 291 = some (.istore 6, (0, 0, 0), .null, []) := by decide +kernel
theorem hk_285_293 : ax_look 285 293 = some (.goto 1042, (0, 0, 0), .null, []) := by decide +kernel
theorem hk_285_296 : ax_look 285 296 = some (.aload_n 1, (0, 0, 0), .null, []) := by decide +kernel
theorem hk_285_297 : ax_look 285 297 = some (.aload_n 0, (0, 0, 0), .null, []) := by decide +kernel
theorem hk_285_298 : ax_look 285 298 = some (.iload 4, (0, 0, 0), .null, []) := by decide +kernel
theorem hk_285_300 : ax_look 285 300 = some (.iconst 1, (0, 0, 0), .null, []) := by decide +kernel
theorem hk_285_301 : ax_look 285 301 = some (.iadd, (0, 0, 0), .null, []) := by decide +kernel
theorem hk_285_302 : ax_look 285 302 = some (.iaload, (0, 0, 0), .null, []) := by decide +kernel
theorem hk_285_303 : ax_look 285 303 = some (.aload_n 3, (0, 0, 0), .null, []) := by decide +kernel
theorem hk_285_304 : ax_look 285 304 = some (.invokestatic 140, (220, 3, 0), .null, [2200]) := by decide +kernel
theorem hk_285_307 : ax_look 285 307 = some (.istore 5, (0, 0, 0), .null, []) := by decide +kernel
theorem hk_285_309 : ax_look 285 309 = some (.aload_n 2, (0, 0, 0), .null, []) := by decide +kernel
theorem hk_285_310 : ax_look 285 310 = some (.aload_n 0, (0, 0, 0), .null, []) := by decide +kernel
theorem hk_285_311 : ax_look 285 311 = some (.iload 4, (0, 0, 0), .null, []) := by decide +kernel
theorem hk_285_313 : ax_look 285 313 = some (.iconst 1, (0, 0, 0), .null, []) := by decide +kernel
theorem hk_285_314 : ax_look 285 314 = some (.iadd, (0, 0, 0), .null, []) := by decide +kernel
theorem hk_285_315 : ax_look 285 315 = some (.iaload, (0, 0, 0), .null, []) := by decide +kernel
theorem hk_285_316 : ax_look 285 316 = some (.invokevirtual 143, (144, 1, 9), .null, [7042, 7044]) := by decide +kernel
theorem hk_285_319 : ax_look 285 319 = some (.istore 6, (0, 0, 0), .null, []) := by decide +kernel
theorem hk_285_321 : ax_look 285 321 = some (.goto 1014, (0, 0, 0), .null, []) := by decide +kernel
theorem hk_285_324 : ax_look 285 324 = some (.aload_n 1, (0, 0, 0), .null, []) := by decide +kernel
theorem hk_285_325 : ax_look 285 325 = some (.aload_n 3, (0, 0, 0), .null, []) := by decide +kernel
theorem hk_285_326 : ax_look 285 326 = some (.invokestatic 144, (221, 2, 0), .null, [2224]) := by decide +kernel
theorem hk_285_329 : ax_look 285 329 = some (.istore 5, (0, 0, 0), .null, []) := by decide +kernel
theorem hk_285_331 : ax_look 285 331 = some (.aload_n 2, (0, 0, 0), .null, []) := by decide +kernel
theorem hk_285_332 : ax_look 285 332 = some (.invokevirtual 147, (156, 0, 9), .null, [7046, 7048]) := by decide +kernel
theorem hk_285_335 : ax_look 285 335 = some (.istore 6, (0, 0, 0), .null, []) := by decide +kernel
theorem hk_285_337 : ax_look 285 337 = some (.goto 998, (0, 0, 0), .null, []) := by decide +kernel
theorem hk_285_340 : ax_look 285 340 = some (.aload_n 1, (0, 0, 0), .null, []) := by decide +kernel
theorem hk_285_341 : ax_look 285 341 = some (.aload_n 3, (0, 0, 0), .null, []) := by decide +kernel
theorem hk_285_342 : ax_look 285 342 = some (.invokestatic 148, (222, 2, 0), .null, [3146]) := by decide +kernel
theorem hk_285_345 : ax_look 285 345 = some (.istore 5, (0, 0, 0), .null, []) := by decide +kernel
theorem hk_285_347 : ax_look 285 347 = some (.aload_n 2, (0, 0, 0), .null, []) := by decide +kernel
theorem hk_285_348 : ax_look 285 348 = some (.invokevirtual 150, (159, 0, 9), .null, [7129, 7131]) := by decide +kernel
theorem hk_285_351 : ax_look 285 351 = some (.istore 6, (0, 0, 0), .null, []) := by decide +kernel
theorem hk_285_353 : ax_look 285 353 = some (.goto 982, (0, 0, 0), .null, []) := by decide +kernel
theorem hk_285_356 : ax_look 285 356 = some (.aload_n 1, (0, 0, 0), .null, []) := by decide +kernel
theorem hk_285_357 : ax_look 285 357 = some (.invokevirtual 151, (74, 0, 8), .null, [2043, 2045]) := by decide +kernel
theorem hk_285_360 : ax_look 285 360 = some (.aload_n 2, (0, 0, 0), .null, []) := by decide +kernel
theorem hk_285_361 : ax_look 285 361 = some (.invokevirtual 154, (160, 0, 9), .null, [7148, 7150]) := by decide +kernel
theorem hk_285_364 : ax_look 285 364 = some (.if_icmp .eq 971, (0, 0, 0), .null, []) := by decide +kernel
theorem hk_285_367 : ax_look 285 367 = some (.iconst 0, (0, 0, 0), .null, []) := by decide +kernel
theorem hk_285_368 : ax_look 285 368 = some (.ireturn, (0, 0, 0), .null, []) := by decide +kernel
theorem hk_285_369 : ax_look 285 369 = some (.aload_n 1, (0, 0, 0), .null, []) := by decide +kernel
theorem hk_285_370 : ax_look 285 370 = some (.aload_n 0, (0, 0, 0), .null, []) := by decide +kernel
theorem hk_285_371 : ax_look 285 371 = some (.iload 4, (0, 0, 0), .null, []) := by decide +kernel
theorem hk_285_373 : ax_look 285 373 = some (.iconst 1, (0, 0, 0), .null, []) := by decide +kernel
theorem hk_285_374 : ax_look 285 374 = some (.iadd, (0, 0, 0), .null, []) := by decide +kernel
theorem hk_285_375 : ax_look 285 375 = some (.iaload, (0, 0, 0), .null, []) := by decide +kernel
theorem hk_285_376 : ax_look 285 376 = some (.aload_n 3, (0, 0, 0), .null, []) := by decide +kernel
theorem hk_285_377 : ax_look 285 377 = some (.invokestatic 155, (223, 3, 0), .null, [3161]) := by decide +kernel
theorem hk_285_380 : ax_look 285 380 = some (.istore 5, (0, 0, 0), .null, []) := by decide +kernel
theorem hk_285_382 : ax_look 285 382 = some (.aload_n 2, (0, 0, 0), .null, []) := by decide +kernel
theorem hk_285_383 : ax_look 285 383 = some (.aload_n 0, (0, 0, 0), .null, []) := by decide +kernel
theorem hk_285_384 : ax_look 285 384 = some (.iload 4, (0, 0, 0), .null, []) := by decide +kernel
theorem hk_285_386 : ax_look 285 386 = some (.iconst 1, (0, 0, 0), .null, []) := by decide +kernel
theorem hk_285_387 : ax_look 285 387 = some (.iadd, (0, 0, 0), .null, []) := by decide +kernel
theorem hk_285_388 : ax_look 285 388 = some (.iaload, (0, 0, 0), .null, []) := by decide +kernel
theorem hk_285_389 : ax_look 285 389 = some (.invokevirtual 157, (163, 1, 9), .null, [7152, 7154]) := by decide +kernel
theorem hk_285_392 : ax_look 285 392 = some (.istore 6, (0, 0, 0), .null, []) := by decide +kernel
theorem hk_285_394 : ax_look 285 394 = some (.goto 941, (0, 0, 0), .null, []) := by decide +kernel
theorem hk_285_397 : ax_look 285 397 = some (.aload_n 1, (0, 0, 0), .null, []) := by decide +kernel
theorem hk_285_398 : ax_look 285 398 = some (.aload_n 0, (0, 0, 0), .null, []) := by decide +kernel
theorem hk_285_399 : ax_look 285 399 = some (.iload 4, (0, 0, 0), .null, []) := by decide +kernel
theorem hk_285_401 : ax_look 285 401 = some (.iconst 1, (0, 0, 0), .null, []) := by decide +kernel
theorem hk_285_402 : ax_look 285 402 = some (.iadd, (0, 0, 0), .null, []) := by decide +kernel
theorem hk_285_403 : ax_look 285 403 = some (.iaload, (0, 0, 0), .null, []) := by decide +kernel
theorem hk_285_404 : ax_look 285 404 = some (.aload_n 3, (0, 0, 0), .null, []) := by decide +kernel
theorem hk_285_405 : ax_look 285 405 = some (.invokestatic 158, (224, 3, 0), .null, [5019]) := by decide +kernel
theorem hk_285_408 : ax_look 285 408 = some (.istore 5, (0, 0, 0), .null, []) := by decide +kernel
theorem hk_285_410 : ax_look 285 410 = some (.aload_n 2, (0, 0, 0), .null, []) := by decide +kernel
theorem hk_285_411 : ax_look 285 411 = some (.aload_n 0, (0, 0, 0), .null, []) := by decide +kernel
theorem hk_285_412 : ax_look 285 412 = some (.iload 4, (0, 0, 0), .null, []) := by decide +kernel
theorem hk_285_414 : ax_look 285 414 = some (.iconst 1, (0, 0, 0), .null, []) := by decide +kernel
theorem hk_285_415 : ax_look 285 415 = some (.iadd, (0, 0, 0), .null, []) := by decide +kernel
theorem hk_285_416 : ax_look 285 416 = some (.iaload, (0, 0, 0), .null, []) := by decide +kernel
theorem hk_285_417 : ax_look 285 417 = some (.invokevirtual 160, (164, 1, 9), .null, [7169, 7171]) := by decide +kernel
theorem hk_285_420 : ax_look 285 420 = some (.istore 6, (0, 0, 0), .null, []) := by decide +kernel
theorem hk_285_422 : ax_look 285 422 = some (.goto 913, (0, 0, 0), .null, []) := by decide +kernel
theorem hk_285_425 : ax_look 285 425 = some (.aload_n 1, (0, 0, 0), .null, []) := by decide +kernel
theorem hk_285_426 : ax_look 285 426 = some (.invokevirtual 161, (77, 0, 8), .null, [2047, 2049]) := by decide +kernel
theorem hk_285_429 : ax_look 285 429 = some (.pop, (0, 0, 0), .null, []) := by decide +kernel
theorem hk_285_430 : ax_look 285 430 = some (.aload_n 2, (0, 0, 0), .null, []) := by decide +kernel
theorem hk_285_431 : ax_look 285 431 = some (.invokevirtual 164, (165, 0, 9), .null, [7173, 7175]) := by decide +kernel
theorem hk_285_434 : ax_look 285 434 = some (.pop, (0, 0, 0), .null, []) := by decide +kernel
theorem hk_285_435 : ax_look 285 435 = some (.goto 900, (0, 0, 0), .null, []) := by decide +kernel
theorem hk_285_438 : ax_look 285 438 = some (.aload_n 1, (0, 0, 0), .null, []) := by decide +kernel
theorem hk_285_439 : ax_look 285 439 = some (.aload_n 0, (0, 0, 0), .null, []) := by decide +kernel
theorem hk_285_440 : ax_look 285 440 = some (.iload 4, (0, 0, 0), .null, []) := by decide +kernel
theorem hk_285_442 : ax_look 285 442 = some (.iconst 1, (0, 0, 0), .null, []) := by decide +kernel
theorem hk_285_443 : ax_look 285 443 = some (.iadd, (0, 0, 0), .null, []) := by decide +kernel
theorem hk_285_444 : ax_look 285 444 = some (.iaload, (0, 0, 0), .null, []) := by decide +kernel
theorem hk_285_445 : ax_look 285 445 = some (.aload_n 3, (0, 0, 0), .null, []) := by decide +kernel
theorem hk_285_446 : ax_look 285 446 = some (.invokestatic 165, (225, 3, 0), .null, [5037]) := by decide +kernel
theorem hk_285_449 : ax_look 285 449 = some (.istore 5, (0, 0, 0), .null, []) := by decide +kernel
theorem hk_285_451 : ax_look 285 451 = some (.aload_n 2, (0, 0, 0), .null, []) := by decide +kernel
theorem hk_285_452 : ax_look 285 452 = some (.aload_n 0, (0, 0, 0), .null, []) := by decide +kernel
theorem hk_285_453 : ax_look 285 453 = some (.iload 4, (0, 0, 0), .null, []) := by decide +kernel
theorem hk_285_455 : ax_look 285 455 = some (.iconst 1, (0, 0, 0), .null, []) := by decide +kernel
theorem hk_285_456 : ax_look 285 456 = some (.iadd, (0, 0, 0), .null, []) := by decide +kernel
theorem hk_285_457 : ax_look 285 457 = some (.iaload, (0, 0, 0), .null, []) := by decide +kernel
theorem hk_285_458 : ax_look 285 458 = some (.invokevirtual 167, (167, 1, 9), .null, [7177, 7179]) := by decide +kernel
theorem hk_285_461 : ax_look 285 461 = some (.istore 6, (0, 0, 0), .null, []) := by decide +kernel
theorem hk_285_463 : ax_look 285 463 = some (.goto 872, (0, 0, 0), .null, []) := by decide +kernel
theorem hk_285_466 : ax_look 285 466 = some (.aload_n 1, (0, 0, 0), .null, []) := by decide +kernel
theorem hk_285_467 : ax_look 285 467 = some (.aload_n 0, (0, 0, 0), .null, []) := by decide +kernel
theorem hk_285_468 : ax_look 285 468 = some (.iload 4, (0, 0, 0), .null, []) := by decide +kernel
theorem hk_285_470 : ax_look 285 470 = some (.iconst 1, (0, 0, 0), .null, []) := by decide +kernel
theorem hk_285_471 : ax_look 285 471 = some (.iadd, (0, 0, 0), .null, []) := by decide +kernel
theorem hk_285_472 : ax_look 285 472 = some (.iaload, (0, 0, 0), .null, []) := by decide +kernel
theorem hk_285_473 : ax_look 285 473 = some (.aload_n 3, (0, 0, 0), .null, []) := by decide +kernel
theorem hk_285_474 : ax_look 285 474 = some (.invokestatic 168, (226, 3, 0), .null, [5048]) := by decide +kernel
theorem hk_285_477 : ax_look 285 477 = some (.istore 5, (0, 0, 0), .null, []) := by decide +kernel
theorem hk_285_479 : ax_look 285 479 = some (.aload_n 2, (0, 0, 0), .null, []) := by decide +kernel
theorem hk_285_480 : ax_look 285 480 = some (.aload_n 0, (0, 0, 0), .null, []) := by decide +kernel
theorem hk_285_481 : ax_look 285 481 = some (.iload 4, (0, 0, 0), .null, []) := by decide +kernel
theorem hk_285_483 : ax_look 285 483 = some (.iconst 1, (0, 0, 0), .null, []) := by decide +kernel
theorem hk_285_484 : ax_look 285 484 = some (.iadd, (0, 0, 0), .null, []) := by decide +kernel
theorem hk_285_485 : ax_look 285 485 = some (.iaload, (0, 0, 0), .null, []) := by decide +kernel
theorem hk_285_486 : ax_look 285 486 = some (.invokevirtual 170, (168, 1, 9), .null, [7185, 7187]) := by decide +kernel
theorem hk_285_489 : ax_look 285 489 = some (.istore 6, (0, 0, 0), .null, []) := by decide +kernel
theorem hk_285_491 : ax_look 285 491 = some (.goto 844, (0, 0, 0), .null, []) := by decide +kernel
theorem hk_285_494 : ax_look 285 494 = some (.aload_n 1, (0, 0, 0), .null, []) := by decide +kernel
theorem hk_285_495 : ax_look 285 495 = some (.aload_n 0, (0, 0, 0), .null, []) := by decide +kernel
theorem hk_285_496 : ax_look 285 496 = some (.iload 4, (0, 0, 0), .null, []) := by decide +kernel
theorem hk_285_498 : ax_look 285 498 = some (.iconst 1, (0, 0, 0), .null, []) := by decide +kernel
theorem hk_285_499 : ax_look 285 499 = some (.iadd, (0, 0, 0), .null, []) := by decide +kernel
theorem hk_285_500 : ax_look 285 500 = some (.iaload, (0, 0, 0), .null, []) := by decide +kernel
theorem hk_285_501 : ax_look 285 501 = some (.aload_n 0, (0, 0, 0), .null, []) := by decide +kernel
theorem hk_285_502 : ax_look 285 502 = some (.iload 4, (0, 0, 0), .null, []) := by decide +kernel
theorem hk_285_504 : ax_look 285 504 = some (.iconst 2, (0, 0, 0), .null, []) := by decide +kernel
theorem hk_285_505 : ax_look 285 505 = some (.iadd, (0, 0, 0), .null, []) := by decide +kernel
theorem hk_285_506 : ax_look 285 506 = some (.iaload, (0, 0, 0), .null, []) := by decide +kernel
theorem hk_285_507 : ax_look 285 507 = some (.aload_n 3, (0, 0, 0), .null, []) := by decide +kernel
theorem hk_285_508 : ax_look 285 508 = some (.invokestatic 171, (227, 4, 0), .null, [5055]) := by decide +kernel
theorem hk_285_511 : ax_look 285 511 = some (.istore 5, (0, 0, 0), .null, []) := by decide +kernel
theorem hk_285_513 : ax_look 285 513 = some (.aload_n 2, (0, 0, 0), .null, []) := by decide +kernel
theorem hk_285_514 : ax_look 285 514 = some (.aload_n 0, (0, 0, 0), .null, []) := by decide +kernel
theorem hk_285_515 : ax_look 285 515 = some (.iload 4, (0, 0, 0), .null, []) := by decide +kernel
theorem hk_285_517 : ax_look 285 517 = some (.iconst 1, (0, 0, 0), .null, []) := by decide +kernel
theorem hk_285_518 : ax_look 285 518 = some (.iadd, (0, 0, 0), .null, []) := by decide +kernel
theorem hk_285_519 : ax_look 285 519 = some (.iaload, (0, 0, 0), .null, []) := by decide +kernel
theorem hk_285_520 : ax_look 285 520 = some (.aload_n 0, (0, 0, 0), .null, []) := by decide +kernel
theorem hk_285_521 : ax_look 285 521 = some (.iload 4, (0, 0, 0), .null, []) := by decide +kernel
theorem hk_285_523 : ax_look 285 523 = some (.iconst 2, (0, 0, 0), .null, []) := by decide +kernel
theorem hk_285_524 : ax_look 285 524 = some (.iadd, (0, 0, 0), .null, []) := by decide +kernel
theorem hk_285_525 : ax_look 285 525 = some (.iaload, (0, 0, 0), .null, []) := by decide +kernel
theorem hk_285_526 : ax_look 285 526 = some (.invokevirtual 174, (169, 2, 9), .null, [7189, 7191]) := by decide +kernel
theorem hk_285_529 : ax_look 285 529 = some (.istore 6, (0, 0, 0), .null, []) := by decide +kernel
theorem hk_285_531 : ax_look 285 531 = some (.goto 804, (0, 0, 0), .null, []) := by decide +kernel
theorem hk_285_534 : ax_look 285 534 = some (.aload_n 1, (0, 0, 0), .null, []) := by decide +kernel
theorem hk_285_535 : ax_look 285 535 = some (.aload_n 0, (0, 0, 0), .null, []) := by decide +kernel
theorem hk_285_536 : ax_look 285 536 = some (.iload 4, (0, 0, 0), .null, []) := by decide +kernel
theorem hk_285_538 : ax_look 285 538 = some (.iconst 1, (0, 0, 0), .null, []) := by decide +kernel
theorem hk_285_539 : ax_look 285 539 = some (.iadd, (0, 0, 0), .null, []) := by decide +kernel
theorem hk_285_540 : ax_look 285 540 = some (.iaload, (0, 0, 0), .null, []) := by decide +kernel
theorem hk_285_541 : ax_look 285 541 = some (.aload_n 3, (0, 0, 0), .null, []) := by decide +kernel
theorem hk_285_542 : ax_look 285 542 = some (.invokestatic 175, (228, 3, 0), .null, [5066]) := by decide +kernel
theorem hk_285_545 : ax_look 285 545 = some (.istore 5, (0, 0, 0), .null, []) := by decide +kernel
theorem hk_285_547 : ax_look 285 547 = some (.aload_n 2, (0, 0, 0), .null, []) := by decide +kernel
theorem hk_285_548 : ax_look 285 548 = some (.aload_n 0, (0, 0, 0), .null, []) := by decide +kernel
theorem hk_285_549 : ax_look 285 549 = some (.iload 4, (0, 0, 0), .null, []) := by decide +kernel
theorem hk_285_551 : ax_look 285 551 = some (.iconst 1, (0, 0, 0), .null, []) := by decide +kernel
theorem hk_285_552 : ax_look 285 552 = some (.iadd, (0, 0, 0), .null, []) := by decide +kernel
theorem hk_285_553 : ax_look 285 553 = some (.iaload, (0, 0, 0), .null, []) := by decide +kernel
theorem hk_285_554 : ax_look 285 554 = some (.invokevirtual 177, (171, 1, 9), .null, [7196, 7198]) := by decide +kernel
theorem hk_285_557 : ax_look 285 557 = some (.lstore 6, (0, 0, 0), .null, []) := by decide +kernel
theorem hk_285_559 : ax_look 285 559 = some (.goto 776, (0, 0, 0), .null, []) := by decide +kernel
theorem hk_285_562 : ax_look 285 562 = some (.aload_n 1, (0, 0, 0), .null, []) := by decide +kernel
theorem hk_285_563 : ax_look 285 563 = some (.aload_n 0, (0, 0, 0), .null, []) := by decide +kernel
theorem hk_285_564 : ax_look 285 564 = some (.iload 4, (0, 0, 0), .null, []) := by decide +kernel
theorem hk_285_566 : ax_look 285 566 = some (.iconst 1, (0, 0, 0), .null, []) := by decide +kernel
theorem hk_285_567 : ax_look 285 567 = some (.iadd, (0, 0, 0), .null, []) := by decide +kernel
theorem hk_285_568 : ax_look 285 568 = some (.iaload, (0, 0, 0), .null, []) := by decide +kernel
theorem hk_285_569 : ax_look 285 569 = some (.aload_n 3, (0, 0, 0), .null, []) := by decide +kernel
theorem hk_285_570 : ax_look 285 570 = some (.invokestatic 178, (229, 3, 0), .null, [5074]) := by decide +kernel
theorem hk_285_573 : ax_look 285 573 = some (.istore 5, (0, 0, 0), .null, []) := by decide +kernel
theorem hk_285_575 : ax_look 285 575 = some (.aload_n 2, (0, 0, 0), .null, []) := by decide +kernel
theorem hk_285_576 : ax_look 285 576 = some (.aload_n 0, (0, 0, 0), .null, []) := by decide +kernel
theorem hk_285_577 : ax_look 285 577 = some (.iload 4, (0, 0, 0), .null, []) := by decide +kernel
theorem hk_285_579 : ax_look 285 579 = some (.iconst 1, (0, 0, 0), .null, []) := by decide +kernel
theorem hk_285_580 : ax_look 285 580 = some (.iadd, (0, 0, 0), .null, []) := by decide +kernel
theorem hk_285_581 : ax_look 285 581 = some (.iaload, (0, 0, 0), .null, []) := by decide +kernel
theorem hk_285_582 : ax_look 285 582 = some (.invokevirtual 180, (173, 1, 9), .null, [7200, 7202]) := by decide +kernel
theorem hk_285_585 : ax_look 285 585 = some (.istore 6, (0, 0, 0), .null, []) := by decide +kernel
theorem hk_285_587 : ax_look 285 587 = some (.goto 748, (0, 0, 0), .null, []) := by decide +kernel
theorem hk_285_590 : ax_look 285 590 = some (.aload_n 1, (0, 0, 0), .null, []) := by decide +kernel
theorem hk_285_591 : ax_look 285 591 = some (.aload_n 0, (0, 0, 0), .null, []) := by decide +kernel
theorem hk_285_592 : ax_look 285 592 = some (.iload 4, (0, 0, 0), .null, []) := by decide +kernel
theorem hk_285_594 : ax_look 285 594 = some (.iconst 1, (0, 0, 0), .null, []) := by decide +kernel
theorem hk_285_595 : ax_look 285 595 = some (.iadd, (0, 0, 0), .null, []) := by decide +kernel
theorem hk_285_596 : ax_look 285 596 = some (.iaload, (0, 0, 0), .null, []) := by decide +kernel
theorem hk_285_597 : ax_look 285 597 = some (.aload_n 0, (0, 0, 0), .null, []) := by decide +kernel
theorem hk_285_598 : ax_look 285 598 = some (.iload 4, (0, 0, 0), .null, []) := by decide +kernel
theorem hk_285_600 : ax_look 285 600 = some (.iconst 2, (0, 0, 0), .null, []) := by decide +kernel
theorem hk_285_601 : ax_look 285 601 = some (.iadd, (0, 0, 0), .null, []) := by decide +kernel
theorem hk_285_602 : ax_look 285 602 = some (.iaload, (0, 0, 0), .null, []) := by decide +kernel
theorem hk_285_603 : ax_look 285 603 = some (.aload_n 3, (0, 0, 0), .null, []) := by decide +kernel
theorem hk_285_604 : ax_look 285 604 = some (.invokestatic 181, (230, 4, 0), .null, [5089]) := by decide +kernel
theorem hk_285_607 : ax_look 285 607 = some (.istore 5, (0, 0, 0), .null, []) := by decide +kernel
theorem hk_285_609 : ax_look 285 609 = some (.aload_n 2, (0, 0, 0), .null, []) := by decide +kernel
theorem hk_285_610 : ax_look 285 610 = some (.aload_n 0, (0, 0, 0), .null, []) := by decide +kernel
theorem hk_285_611 : ax_look 285 611 = some (.iload 4, (0, 0, 0), .null, []) := by decide +kernel
theorem hk_285_613 : ax_look 285 613 = some (.iconst 1, (0, 0, 0), .null, []) := by decide +kernel
theorem hk_285_614 : ax_look 285 614 = some (.iadd, (0, 0, 0), .null, []) := by decide +kernel
theorem hk_285_615 : ax_look 285 615 = some (.iaload, (0, 0, 0), .null, []) := by decide +kernel
theorem hk_285_616 : ax_look 285 616 = some (.aload_n 0, (0, 0, 0), .null, []) := by decide +kernel
theorem hk_285_617 : ax_look 285 617 = some (.iload 4, (0, 0, 0), .null, []) := by decide +kernel
theorem hk_285_619 : ax_look 285 619 = some (.iconst 2, (0, 0, 0), .null, []) := by decide +kernel
theorem hk_285_620 : ax_look 285 620 = some (.iadd, (0, 0, 0), .null, []) := by decide +kernel
theorem hk_285_621 : ax_look 285 621 = some (.iaload, (0, 0, 0), .null, []) := by decide +kernel
theorem hk_285_622 : ax_look 285 622 = some (.invokevirtual 183, (175, 2, 9), .null, [7208, 7210]) := by decide +kernel
theorem hk_285_625 : ax_look 285 625 = some (.istore 6, (0, 0, 0), .null, []) := by decide +kernel
theorem hk_285_627 : ax_look 285 627 = some (.goto 708, (0, 0, 0), .null, []) := by decide +kernel
theorem hk_285_630 : ax_look 285 630 = some (.aload_n 1, (0, 0, 0), .null, []) := by decide +kernel
theorem hk_285_631 : ax_look 285 631 = some (.aload_n 0, (0, 0, 0), .null, []) := by decide +kernel
theorem hk_285_632 : ax_look 285 632 = some (.iload 4, (0, 0, 0), .null, []) := by decide +kernel
theorem hk_285_634 : ax_look 285 634 = some (.iconst 1, (0, 0, 0), .null, []) := by decide +kernel
theorem hk_285_635 : ax_look 285 635 = some (.iadd, (0, 0, 0), .null, []) := by decide +kernel
theorem hk_285_636 : ax_look 285 636 = some (.iaload, (0, 0, 0), .null, []) := by decide +kernel
theorem hk_285_637 : ax_look 285 637 = some (.aload_n 0, (0, 0, 0), .null, []) := by decide +kernel
theorem hk_285_638 : ax_look 285 638 = some (.iload 4, (0, 0, 0), .null, []) := by decide +kernel
theorem hk_285_640 : ax_look 285 640 = some (.iconst 2, (0, 0, 0), .null, []) := by decide +kernel
theorem hk_285_641 : ax_look 285 641 = some (.iadd, (0, 0, 0), .null, []) := by decide +kernel
theorem hk_285_642 : ax_look 285 642 = some (.iaload, (0, 0, 0), .null, []) := by decide +kernel
theorem hk_285_643 : ax_look 285 643 = some (.aload_n 3, (0, 0, 0), .null, []) := by decide +kernel
theorem hk_285_644 : ax_look 285 644 = some (.invokestatic 184, (231, 4, 0), .null, [5127]) := by decide +kernel
theorem hk_285_647 : ax_look 285 647 = some (.istore 5, (0, 0, 0), .null, []) := by decide +kernel
theorem hk_285_649 : ax_look 285 649 = some (.aload_n 2, (0, 0, 0), .null, []) := by decide +kernel
theorem hk_285_650 : ax_look 285 650 = some (.aload_n 0, (0, 0, 0), .null, []) := by decide +kernel
theorem hk_285_651 : ax_look 285 651 = some (.iload 4, (0, 0, 0), .null, []) := by decide +kernel
theorem hk_285_653 : ax_look 285 653 = some (.iconst 1, (0, 0, 0), .null, []) := by decide +kernel
theorem hk_285_654 : ax_look 285 654 = some (.iadd, (0, 0, 0), .null, []) := by decide +kernel
theorem hk_285_655 : ax_look 285 655 = some (.iaload, (0, 0, 0), .null, []) := by decide +kernel
theorem hk_285_656 : ax_look 285 656 = some (.aload_n 0, (0, 0, 0), .null, []) := by decide +kernel
theorem hk_285_657 : ax_look 285 657 = some (.iload 4, (0, 0, 0), .null, []) := by decide +kernel
theorem hk_285_659 : ax_look 285 659 = some (.iconst 2, (0, 0, 0), .null, []) := by decide +kernel
theorem hk_285_660 : ax_look 285 660 = some (.iadd, (0, 0, 0), .null, []) := by decide +kernel
theorem hk_285_661 : ax_look 285 661 = some (.iaload, (0, 0, 0), .null, []) := by decide +kernel
theorem hk_285_662 : ax_look 285 662 = some (.invokevirtual 186, (176, 2, 9), .null, [7225, 7227]) := by decide +kernel
theorem hk_285_665 : ax_look 285 665 = some (.istore 6, (0, 0, 0), .null, []) := by decide +kernel
theorem hk_285_667 : ax_look 285 667 = some (.goto 668, (0, 0, 0), .null, []) := by decide +kernel
theorem hk_285_670 : ax_look 285 670 = some (.aload_n 1, (0, 0, 0), .null, []) := by decide +kernel
theorem hk_285_671 : ax_look 285 671 = some (.aload_n 0, (0, 0, 0), .null, []) := by decide +kernel
theorem hk_285_672 : ax_look 285 672 = some (.iload 4, (0, 0, 0), .null, []) := by decide +kernel
theorem hk_285_674 : ax_look 285 674 = some (.iconst 1, (0, 0, 0), .null, []) := by decide +kernel
theorem hk_285_675 : ax_look 285 675 = some (.iadd, (0, 0, 0), .null, []) := by decide +kernel
theorem hk_285_676 : ax_look 285 676 = some (.iaload, (0, 0, 0), .null, []) := by decide +kernel
theorem hk_285_677 : ax_look 285 677 = some (.aload_n 0, (0, 0, 0), .null, []) := by decide +kernel
theorem hk_285_678 : ax_look 285 678 = some (.iload 4, (0, 0, 0), .null, []) := by decide +kernel
theorem hk_285_680 : ax_look 285 680 = some (.iconst 2, (0, 0, 0), .null, []) := by decide +kernel
theorem hk_285_681 : ax_look 285 681 = some (.iadd, (0, 0, 0), .null, []) := by decide +kernel
theorem hk_285_682 : ax_look 285 682 = some (.iaload, (0, 0, 0), .null, []) := by decide +kernel
theorem hk_285_683 : ax_look 285 683 = some (.aload_n 3, (0, 0, 0), .null, []) := by decide +kernel
theorem hk_285_684 : ax_look 285 684 = some (.invokestatic 187, (232, 4, 0), .null, [5135]) := by decide +kernel
theorem hk_285_687 : ax_look 285 687 = some (.istore 5, (0, 0, 0), .null, []) := by decide +kernel
theorem hk_285_689 : ax_look 285 689 = some (.aload_n 2, (0, 0, 0), .null, []) := by decide +kernel
theorem hk_285_690 : ax_look 285 690 = some (.aload_n 0, (0, 0, 0), .null, []) := by decide +kernel
theorem hk_285_691 : ax_look 285 691 = some (.iload 4, (0, 0, 0), .null, []) := by decide +kernel
theorem hk_285_693 : ax_look 285 693 = some (.iconst 1, (0, 0, 0), .null, []) := by decide +kernel
theorem hk_285_694 : ax_look 285 694 = some (.iadd, (0, 0, 0), .null, []) := by decide +kernel
theorem hk_285_695 : ax_look 285 695 = some (.iaload, (0, 0, 0), .null, []) := by decide +kernel
theorem hk_285_696 : ax_look 285 696 = some (.aload_n 0, (0, 0, 0), .null, []) := by decide +kernel
theorem hk_285_697 : ax_look 285 697 = some (.iload 4, (0, 0, 0), .null, []) := by decide +kernel
theorem hk_285_699 : ax_look 285 699 = some (.iconst 2, (0, 0, 0), .null, []) := by decide +kernel
theorem hk_285_700 : ax_look 285 700 = some (.iadd, (0, 0, 0), .null, []) := by decide +kernel
theorem hk_285_701 : ax_look 285 701 = some (.iaload, (0, 0, 0), .null, []) := by decide +kernel
theorem hk_285_702 : ax_look 285 702 = some (.invokevirtual 189, (178, 2, 9), .null, [7229, 7231]) := by decide +kernel
theorem hk_285_705 : ax_look 285 705 = some (.istore 6, (0, 0, 0), .null, []) := by decide +kernel
theorem hk_285_707 : ax_look 285 707 = some (.goto 628, (0, 0, 0), .null, []) := by decide +kernel
theorem hk_285_710 : ax_look 285 710 = some (.aload_n 1, (0, 0, 0), .null, []) := by decide +kernel
theorem hk_285_711 : ax_look 285 711 = some (.aload_n 0, (0, 0, 0), .null, []) := by decide +kernel
theorem hk_285_712 : ax_look 285 712 = some (.iload 4, (0, 0, 0), .null, []) := by decide +kernel
theorem hk_285_714 : ax_look 285 714 = some (.iconst 1, (0, 0, 0), .null, []) := by decide +kernel
theorem hk_285_715 : ax_look 285 715 = some (.iadd, (0, 0, 0), .null, []) := by decide +kernel
theorem hk_285_716 : ax_look 285 716 = some (.iaload, (0, 0, 0), .null, []) := by decide +kernel
theorem hk_285_717 : ax_look 285 717 = some (.aload_n 3, (0, 0, 0), .null, []) := by decide +kernel
theorem hk_285_718 : ax_look 285 718 = some (.invokestatic 190, (233, 3, 0), .null, [5147]) := by decide +kernel
theorem hk_285_721 : ax_look 285 721 = some (.istore 5, (0, 0, 0), .null, []) := by decide +kernel
theorem hk_285_723 : ax_look 285 723 = some (.aload_n 2, (0, 0, 0), .null, []) := by decide +kernel
theorem hk_285_724 : ax_look 285 724 = some (.aload_n 0, (0, 0, 0), .null, []) := by decide +kernel
theorem hk_285_725 : ax_look 285 725 = some (.iload 4, (0, 0, 0), .null, []) := by decide +kernel
theorem hk_285_727 : ax_look 285 727 = some (.iconst 1, (0, 0, 0), .null, []) := by decide +kernel
theorem hk_285_728 : ax_look 285 728 = some (.iadd, (0, 0, 0), .null, []) := by decide +kernel
theorem hk_285_729 : ax_look 285 729 = some (.iaload, (0, 0, 0), .null, []) := by decide +kernel
theorem hk_285_730 : ax_look 285 730 = some (.invokevirtual 192, (179, 1, 9), .null, [7236, 7238]) := by decide +kernel
theorem hk_285_733 : ax_look 285 733 = some (.istore 6, (0, 0, 0), .null, []) := by decide +kernel
theorem hk_285_735 : ax_look 285 735 = some (.goto 600, (0, 0, 0), .null, []) := by decide +kernel
theorem hk_285_738 : ax_look 285 738 = some (.aload_n 1, (0, 0, 0), .null, []) := by decide +kernel
theorem hk_285_739 : ax_look 285 739 = some (.aload_n 0, (0, 0, 0), .null, []) := by decide +kernel
theorem hk_285_740 : ax_look 285 740 = some (.iload 4, (0, 0, 0), .null, []) := by decide +kernel
theorem hk_285_742 : ax_look 285 742 = some (.iconst 1, (0, 0, 0), .null, []) := by decide +kernel
theorem hk_285_743 : ax_look 285 743 = some (.iadd, (0, 0, 0), .null, []) := by decide +kernel
theorem hk_285_744 : ax_look 285 744 = some (.iaload, (0, 0, 0), .null, []) := by decide +kernel
theorem hk_285_745 : ax_look 285 745 = some (.aload_n 0, (0, 0, 0), .null, []) := by decide +kernel
theorem hk_285_746 : ax_look 285 746 = some (.iload 4, (0, 0, 0), .null, []) := by decide +kernel
theorem hk_285_748 : ax_look 285 748 = some (.iconst 2, (0, 0, 0), .null, []) := by decide +kernel
theorem hk_285_749 : ax_look 285 749 = some (.iadd, (0, 0, 0), .null, []) := by decide +kernel
theorem hk_285_750 : ax_look 285 750 = some (.iaload, (0, 0, 0), .null, []) := by decide +kernel
theorem hk_285_751 : ax_look 285 751 = some (.aload_n 3, (0, 0, 0), .null, []) := by decide +kernel
theorem hk_285_752 : ax_look 285 752 = some (.invokestatic 193, (234, 4, 0), .null, [5158]) := by decide +kernel
theorem hk_285_755 : ax_look 285 755 = some (.istore 5, (0, 0, 0), .null, []) := by decide +kernel
theorem hk_285_757 : ax_look 285 757 = some (.aload_n 2, (0, 0, 0), .null, []) := by decide +kernel
theorem hk_285_758 : ax_look 285 758 = some (.aload_n 0, (0, 0, 0), .null, []) := by decide +kernel
theorem hk_285_759 : ax_look 285 759 = some (.iload 4, (0, 0, 0), .null, []) := by decide +kernel
theorem hk_285_761 : ax_look 285 761 = some (.iconst 1, (0, 0, 0), .null, []) := by decide +kernel
theorem hk_285_762 : ax_look 285 762 = some (.iadd, (0, 0, 0), .null, []) := by decide +kernel
theorem hk_285_763 : ax_look 285 763 = some (.iaload, (0, 0, 0), .null, []) := by decide +kernel
theorem hk_285_764 : ax_look 285 764 = some (.aload_n 0, (0, 0, 0), .null, []) := by decide +kernel
theorem hk_285_765 : ax_look 285 765 = some (.iload 4, (0, 0, 0), .null, []) := by decide +kernel
theorem hk_285_767 : ax_look 285 767 = some (.iconst 2, (0, 0, 0), .null, []) := by decide +kernel
theorem hk_285_768 : ax_look 285 768 = some (.iadd, (0, 0, 0), .null, []) := by decide +kernel
theorem hk_285_769 : ax_look 285 769 = some (.iaload, (0, 0, 0), .null, []) := by decide +kernel
theorem hk_285_770 : ax_look 285 770 = some (.invokevirtual 195, (180, 2, 9), .null, [8000, 8002]) := by decide +kernel
theorem hk_285_773 : ax_look 285 773 = some (.istore 6, (0, 0, 0), .null, []) := by decide +kernel
theorem hk_285_775 : ax_look 285 775 = some (.goto 560, (0, 0, 0), .null, []) := by decide +kernel
theorem hk_285_778 : ax_look 285 778 = some (.aload_n 1, (0, 0, 0), .null, []) := by decide +kernel
theorem hk_285_779 : ax_look 285 779 = some (.aload_n 0, (0, 0, 0), .null, []) := by decide +kernel
theorem hk_285_780 : ax_look 285 780 = some (.iload 4, (0, 0, 0), .null, []) := by decide +kernel
theorem hk_285_782 : ax_look 285 782 = some (.iconst 1, (0, 0, 0), .null, []) := by decide +kernel
theorem hk_285_783 : ax_look 285 783 = some (.iadd, (0, 0, 0), .null, []) := by decide +kernel
theorem hk_285_784 : ax_look 285 784 = some (.iaload, (0, 0, 0), .null, []) := by decide +kernel
theorem hk_285_785 : ax_look 285 785 = some (.aload_n 0, (0, 0, 0), .null, []) := by decide +kernel
theorem hk_285_786 : ax_look 285 786 = some (.iload 4, (0, 0, 0), .null, []) := by decide +kernel
theorem hk_285_788 : ax_look 285 788 = some (.iconst 2, (0, 0, 0), .null, []) := by decide +kernel
theorem hk_285_789 : ax_look 285 789 = some (.iadd, (0, 0, 0), .null, []) := by decide +kernel
theorem hk_285_790 : ax_look 285 790 = some (.iaload, (0, 0, 0), .null, []) := by decide +kernel
theorem hk_285_791 : ax_look 285 791 = some (.aload_n 0, (0, 0, 0), .null, []) := by decide +kernel
theorem hk_285_792 : ax_look 285 792 = some (.iload 4, (0, 0, 0), .null, []) := by decide +kernel
theorem hk_285_794 : ax_look 285 794 = some (.iconst 3, (0, 0, 0), .null, []) := by decide +kernel
theorem hk_285_795 : ax_look 285 795 = some (.iadd, (0, 0, 0), .null, []) := by decide +kernel
theorem hk_285_796 : ax_look 285 796 = some (.iaload, (0, 0, 0), .null, []) := by decide +kernel
theorem hk_285_797 : ax_look 285 797 = some (.aload_n 3, (0, 0, 0), .null, []) := by decide +kernel
theorem hk_285_798 : ax_look 285 798 = some (.invokestatic 196, (235, 5, 0), .null, [5182]) := by decide +kernel
theorem hk_285_801 : ax_look 285 801 = some (.istore 5, (0, 0, 0), .null, []) := by decide +kernel
theorem hk_285_803 : ax_look 285 803 = some (.aload_n 2, (0, 0, 0), .null, []) := by decide +kernel
theorem hk_285_804 : ax_look 285 804 = some (.aload_n 0, (0, 0, 0), .null, []) := by decide +kernel
theorem hk_285_805 : ax_look 285 805 = some (.iload 4, (0, 0, 0), .null, []) := by decide +kernel
theorem hk_285_807 : ax_look 285 807 = some (.iconst 1, (0, 0, 0), .null, []) := by decide +kernel
theorem hk_285_808 : ax_look 285 808 = some (.iadd, (0, 0, 0), .null, []) := by decide +kernel
theorem hk_285_809 : ax_look 285 809 = some (.iaload, (0, 0, 0), .null, []) := by decide +kernel
theorem hk_285_810 : ax_look 285 810 = some (.aload_n 0, (0, 0, 0), .null, []) := by decide +kernel
theorem hk_285_811 : ax_look 285 811 = some (.iload 4, (0, 0, 0), .null, []) := by decide +kernel
theorem hk_285_813 : ax_look 285 813 = some (.iconst 2, (0, 0, 0), .null, []) := by decide +kernel
theorem hk_285_814 : ax_look 285 814 = some (.iadd, (0, 0, 0), .null, []) := by decide +kernel
theorem hk_285_815 : ax_look 285 815 = some (.iaload, (0, 0, 0), .null, []) := by decide +kernel
theorem hk_285_816 : ax_look 285 816 = some (.aload_n 0, (0, 0, 0), .null, []) := by decide +kernel
theorem hk_285_817 : ax_look 285 817 = some (.iload 4, (0, 0, 0), .null, []) := by decide +kernel
theorem hk_285_819 : ax_look 285 819 = some (.iconst 3, (0, 0, 0), .null, []) := by decide +kernel
theorem hk_285_820 : ax_look 285 820 = some (.iadd, (0, 0, 0), .null, []) := by decide +kernel
theorem hk_285_821 : ax_look 285 821 = some (.iaload, (0, 0, 0), .null, []) := by decide +kernel
theorem hk_285_822 : ax_look 285 822 = some (.invokevirtual 199, (182, 3, 9), .null, [8007, 8009]) := by decide +kernel
theorem hk_285_825 : ax_look 285 825 = some (.istore 6, (0, 0, 0), .null, []) := by decide +kernel
theorem hk_285_827 : ax_look 285 827 = some (.goto 508, (0, 0, 0), .null, []) := by decide +kernel
theorem hk_285_830 : ax_look 285 830 = some (.aload_n 1, (0, 0, 0), .null, []) := by decide +kernel
theorem hk_285_831 : ax_look 285 831 = some (.aload_n 0, (0, 0, 0), .null, []) := by decide +kernel
theorem hk_285_832 : ax_look 285 832 = some (.iload 4, (0, 0, 0), .null, []) := by decide +kernel
theorem hk_285_834 : ax_look 285 834 = some (.iconst 1, (0, 0, 0), .null, []) := by decide +kernel
theorem hk_285_835 : ax_look 285 835 = some (.iadd, (0, 0, 0), .null, []) := by decide +kernel
theorem hk_285_836 : ax_look 285 836 = some (.iaload, (0, 0, 0), .null, []) := by decide +kernel
theorem hk_285_837 : ax_look 285 837 = some (.aload_n 3, (0, 0, 0), .null, []) := by decide +kernel
theorem hk_285_838 : ax_look 285 838 = some (.invokestatic 200, (236, 3, 0), .null, [5195]) := by decide +kernel
theorem hk_285_841 : ax_look 285 841 = some (.istore 5, (0, 0, 0), .null, []) := by decide +kernel
theorem hk_285_843 : ax_look 285 843 = some (.aload_n 2, (0, 0, 0), .null, []) := by decide +kernel
theorem hk_285_844 : ax_look 285 844 = some (.aload_n 0, (0, 0, 0), .null, []) := by decide +kernel
theorem hk_285_845 : ax_look 285 845 = some (.iload 4, (0, 0, 0), .null, []) := by decide +kernel
theorem hk_285_847 : ax_look 285 847 = some (.iconst 1, (0, 0, 0), .null, []) := by decide +kernel
theorem hk_285_848 : ax_look 285 848 = some (.iadd, (0, 0, 0), .null, []) := by decide +kernel
theorem hk_285_849 : ax_look 285 849 = some (.iaload, (0, 0, 0), .null, []) := by decide +kernel
theorem hk_285_850 : ax_look 285 850 = some (.invokevirtual 202, (183, 1, 9), .null, [8014, 8016]) := by decide +kernel
theorem hk_285_853 : ax_look 285 853 = some (.istore 6, (0, 0, 0), .null, []) := by decide +kernel
theorem hk_285_855 : ax_look 285 855 = some (.goto 480, (0, 0, 0), .null, []) := by decide +kernel
theorem hk_285_858 : ax_look 285 858 = some (.aload_n 1, (0, 0, 0), .null, []) := by decide +kernel
theorem hk_285_859 : ax_look 285 859 = some (.aload_n 0, (0, 0, 0), .null, []) := by decide +kernel
theorem hk_285_860 : ax_look 285 860 = some (.iload 4, (0, 0, 0), .null, []) := by decide +kernel
theorem hk_285_862 : ax_look 285 862 = some (.iconst 1, (0, 0, 0), .null, []) := by decide +kernel
theorem hk_285_863 : ax_look 285 863 = some (.iadd, (0, 0, 0), .null, []) := by decide +kernel
theorem hk_285_864 : ax_look 285 864 = some (.iaload, (0, 0, 0), .null, []) := by decide +kernel
theorem hk_285_865 : ax_look 285 865 = some (.aload_n 0, (0, 0, 0), .null, []) := by decide +kernel
theorem hk_285_866 : ax_look 285 866 = some (.iload 4, (0, 0, 0), .null, []) := by decide +kernel
theorem hk_285_868 : ax_look 285 868 = some (.iconst 2, (0, 0, 0), .null, []) := by decide +kernel
theorem hk_285_869 : ax_look 285 869 = some (.iadd, (0, 0, 0), .null, []) := by decide +kernel
theorem hk_285_870 : ax_look 285 870 = some (.iaload, (0, 0, 0), .null, []) := by decide +kernel
theorem hk_285_871 : ax_look 285 871 = some (.aload_n 3, (0, 0, 0), .null, []) := by decide +kernel
theorem hk_285_872 : ax_look 285 872 = some (.invokestatic 203, (237, 4, 0), .null, [5203]) := by decide +kernel
theorem hk_285_875 : ax_look 285 875 = some (.istore 5, (0, 0, 0), .null, []) := by decide +kernel
theorem hk_285_877 : ax_look 285 877 = some (.aload_n 2, (0, 0, 0), .null, []) := by decide +kernel
theorem hk_285_878 : ax_look 285 878 = some (.aload_n 0, (0, 0, 0), .null, []) := by decide +kernel
theorem hk_285_879 : ax_look 285 879 = some (.iload 4, (0, 0, 0), .null, []) := by decide +kernel
theorem hk_285_881 : ax_look 285 881 = some (.iconst 1, (0, 0, 0), .null, []) := by decide +kernel
theorem hk_285_882 : ax_look 285 882 = some (.iadd, (0, 0, 0), .null, []) := by decide +kernel
theorem hk_285_883 : ax_look 285 883 = some (.iaload, (0, 0, 0), .null, []) := by decide +kernel
theorem hk_285_884 : ax_look 285 884 = some (.aload_n 0, (0, 0, 0), .null, []) := by decide +kernel
theorem hk_285_885 : ax_look 285 885 = some (.iload 4, (0, 0, 0), .null, []) := by decide +kernel
theorem hk_285_887 : ax_look 285 887 = some (.iconst 2, (0, 0, 0), .null, []) := by decide +kernel
theorem hk_285_888 : ax_look 285 888 = some (.iadd, (0, 0, 0), .null, []) := by decide +kernel
theorem hk_285_889 : ax_look 285 889 = some (.iaload, (0, 0, 0), .null, []) := by decide +kernel
theorem hk_285_890 : ax_look 285 890 = some (.invokevirtual 205, (185, 2, 9), .null, [8018, 8020]) := by decide +kernel
theorem hk_285_893 : ax_look 285 893 = some (.istore 6, (0, 0, 0), .null, []) := by decide +kernel
theorem hk_285_895 : ax_look 285 895 = some (.goto 440, (0, 0, 0), .null, []) := by decide +kernel
theorem hk_285_898 : ax_look 285 898 = some (.aload_n 1, (0, 0, 0), .null, []) := by decide +kernel
theorem hk_285_899 : ax_look 285 899 = some (.aload_n 0, (0, 0, 0), .null, []) := by decide +kernel
theorem hk_285_900 : ax_look 285 900 = some (.iload 4, (0, 0, 0), .null, []) := by decide +kernel
theorem hk_285_902 : ax_look 285 902 = some (.iconst 1, (0, 0, 0), .null, []) := by decide +kernel
theorem hk_285_903 : ax_look 285 903 = some (.iadd, (0, 0, 0), .null, []) := by decide +kernel
theorem hk_285_904 : ax_look 285 904 = some (.iaload, (0, 0, 0), .null, []) := by decide +kernel
theorem hk_285_905 : ax_look 285 905 = some (.aload_n 3, (0, 0, 0), .null, []) := by decide +kernel
theorem hk_285_906 : ax_look 285 906 = some (.invokestatic 206, (238, 3, 0), .null, [5218]) := by decide +kernel
theorem hk_285_909 : ax_look 285 909 = some (.istore 5, (0, 0, 0), .null, []) := by decide +kernel
theorem hk_285_911 : ax_look 285 911 = some (.aload_n 2, (0, 0, 0), .null, []) := by decide +kernel
theorem hk_285_912 : ax_look 285 912 = some (.aload_n 0, (0, 0, 0), .null, []) := by decide +kernel
theorem hk_285_913 : ax_look 285 913 = some (.iload 4, (0, 0, 0), .null, []) := by decide +kernel
theorem hk_285_915 : ax_look 285 915 = some (.iconst 1, (0, 0, 0), .null, []) := by decide +kernel
theorem hk_285_916 : ax_look 285 916 = some (.iadd, (0, 0, 0), .null, []) := by decide +kernel
theorem hk_285_917 : ax_look 285 917 = some (.iaload, (0, 0, 0), .null, []) := by decide +kernel
theorem hk_285_918 : ax_look 285 918 = some (.invokevirtual 208, (186, 1, 9), .null, [8026, 8028]) := by decide +kernel
theorem hk_285_921 : ax_look 285 921 = some (.istore 6, (0, 0, 0), .null, []) := by decide +kernel
theorem hk_285_923 : ax_look 285 923 = some (.goto 412, (0, 0, 0), .null, []) := by decide +kernel
theorem hk_285_926 : ax_look 285 926 = some (.aload_n 1, (0, 0, 0), .null, []) := by decide +kernel
theorem hk_285_927 : ax_look 285 927 = some (.aload_n 0, (0, 0, 0), .null, []) := by decide +kernel
theorem hk_285_928 : ax_look 285 928 = some (.iload 4, (0, 0, 0), .null, []) := by decide +kernel
theorem hk_285_930 : ax_look 285 930 = some (.iconst 1, (0, 0, 0), .null, []) := by decide +kernel
theorem hk_285_931 : ax_look 285 931 = some (.iadd, (0, 0, 0), .null, []) := by decide +kernel
theorem hk_285_932 : ax_look 285 932 = some (.iaload, (0, 0, 0), .null, []) := by decide +kernel
theorem hk_285_933 : ax_look 285 933 = some (.aload_n 3, (0, 0, 0), .null, []) := by decide +kernel
theorem hk_285_934 : ax_look 285 934 = some (.invokestatic 209, (239, 3, 0), .null, [5237]) := by decide +kernel
theorem hk_285_937 : ax_look 285 937 = some (.istore 5, (0, 0, 0), .null, []) := by decide +kernel
theorem hk_285_939 : ax_look 285 939 = some (.aload_n 2, (0, 0, 0), .null, []) := by decide +kernel
theorem hk_285_940 : ax_look 285 940 = some (.aload_n 0, (0, 0, 0), .null, []) := by decide +kernel
theorem hk_285_941 : ax_look 285 941 = some (.iload 4, (0, 0, 0), .null, []) := by decide +kernel
theorem hk_285_943 : ax_look 285 943 = some (.iconst 1, (0, 0, 0), .null, []) := by decide +kernel
theorem hk_285_944 : ax_look 285 944 = some (.iadd, (0, 0, 0), .null, []) := by decide +kernel
theorem hk_285_945 : ax_look 285 945 = some (.iaload, (0, 0, 0), .null, []) := by decide +kernel
theorem hk_285_946 : ax_look 285 946 = some (.invokevirtual 211, (189, 1, 9), .null, [8033, 8035]) := by decide +kernel
theorem hk_285_949 : ax_look 285 949 = some (.istore 6, (0, 0, 0), .null, []) := by decide +kernel
theorem hk_285_951 : ax_look 285 951 = some (.goto 384, (0, 0, 0), .null, []) := by decide +kernel
theorem hk_285_954 : ax_look 285 954 = some (.aload_n 1, (0, 0, 0), .null, []) := by decide +kernel
theorem hk_285_955 : ax_look 285 955 = some (.aload_n 3, (0, 0, 0), .null, []) := by decide +kernel
theorem hk_285_956 : ax_look 285 956 = some (.invokestatic 212, (240, 2, 0), .null, [6008]) := by decide +kernel
theorem hk_285_959 : ax_look 285 959 = some (.istore 5, (0, 0, 0), .null, []) := by decide +kernel
theorem hk_285_961 : ax_look 285 961 = some (.aload_n 2, (0, 0, 0), .null, []) := by decide +kernel
theorem hk_285_962 : ax_look 285 962 = some (.invokevirtual 214, (190, 0, 9), .null, [8040, 8042]) := by decide +kernel
theorem hk_285_965 : ax_look 285 965 = some (.istore 6, (0, 0, 0), .null, []) := by decide +kernel
theorem hk_285_967 : ax_look 285 967 = some (.goto 368, (0, 0, 0), .null, []) := by decide +kernel
theorem hk_285_970 : ax_look 285 970 = some (.aload_n 1, (0, 0, 0), .null, []) := by decide +kernel
theorem hk_285_971 : ax_look 285 971 = some (.aload_n 0, (0, 0, 0), .null, []) := by decide +kernel
theorem hk_285_972 : ax_look 285 972 = some (.iload 4, (0, 0, 0), .null, []) := by decide +kernel
theorem hk_285_974 : ax_look 285 974 = some (.iconst 1, (0, 0, 0), .null, []) := by decide +kernel
theorem hk_285_975 : ax_look 285 975 = some (.iadd, (0, 0, 0), .null, []) := by decide +kernel
theorem hk_285_976 : ax_look 285 976 = some (.iaload, (0, 0, 0), .null, []) := by decide +kernel
theorem hk_285_977 : ax_look 285 977 = some (.aload_n 3, (0, 0, 0), .null, []) := by decide +kernel
theorem hk_285_978 : ax_look 285 978 = some (.invokestatic 215, (241, 3, 0), .null, [6032]) := by decide +kernel
theorem hk_285_981 : ax_look 285 981 = some (.istore 5, (0, 0, 0), .null, []) := by decide +kernel
theorem hk_285_983 : ax_look 285 983 = some (.aload_n 2, (0, 0, 0), .null, []) := by decide +kernel
theorem hk_285_984 : ax_look 285 984 = some (.aload_n 0, (0, 0, 0), .null, []) := by decide +kernel
theorem hk_285_985 : ax_look 285 985 = some (.iload 4, (0, 0, 0), .null, []) := by decide +kernel
theorem hk_285_987 : ax_look 285 987 = some (.iconst 1, (0, 0, 0), .null, []) := by decide +kernel
theorem hk_285_988 : ax_look 285 988 = some (.iadd, (0, 0, 0), .null, []) := by decide +kernel
theorem hk_285_989 : ax_look 285 989 = some (.iaload, (0, 0, 0), .null, []) := by decide +kernel
theorem hk_285_990 : ax_look 285 990 = some (.invokevirtual 217, (194, 1, 9), .null, [8044, 8046]) := by decide +kernel
theorem hk_285_993 : ax_look 285 993 = some (.istore 6, (0, 0, 0), .null, []) := by decide +kernel
theorem hk_285_995 : ax_look 285 995 = some (.goto 340, (0, 0, 0), .null, []) := by decide +kernel
theorem hk_285_998 : ax_look 285 998 = some (.aload_n 1, (0, 0, 0), .null, []) := by decide +kernel
theorem hk_285_999 : ax_look 285 999 = some (.aload_n 3, (0, 0, 0), .null, []) := by decide +kernel
theorem hk_285_1000 : ax_look 285 1000 = some (.invokestatic 218, (242, 2, 0), .null, [6051]) := by decide +kernel
theorem hk_285_1003 : ax_look 285 1003 = some (.istore 5, (0, 0, 0), .null, []) := by decide +kernel
theorem hk_285_1005 : ax_look 285 1005 = some (.aload_n 2, (0, 0, 0), .null, []) := by decide +kernel
theorem hk_285_1006 : ax_look 285 1006 = some (.invokevirtual 220, (195, 0, 9), .null, [8052, 8054]) := by decide +kernel
theorem hk_285_1009 : ax_look 285 1009 = some (.istore 6, (0, 0, 0), .null, []) := by decide +kernel
theorem hk_285_1011 : ax_look 285 1011 = some (.goto 324, (0, 0, 0), .null, []) := by decide +kernel
theorem hk_285_1014 : ax_look 285 1014 = some (.aload_n 1, (0, 0, 0), .null, []) := by decide +kernel
theorem hk_285_1015 : ax_look 285 1015 = some (.invokevirtual 221, (96, 0, 8), .null, [2051, 2053]) := by decide +kernel
theorem hk_285_1018 : ax_look 285 1018 = some (.pop, (0, 0, 0), .null, []) := by decide +kernel
theorem hk_285_1019 : ax_look 285 1019 = some (.aload_n 2, (0, 0, 0), .null, []) := by decide +kernel
theorem hk_285_1020 : ax_look 285 1020 = some (.invokevirtual 224, (196, 0, 9), .null, [8056, 8058]) := by decide +kernel
theorem hk_285_1023 : ax_look 285 1023 = some (.pop, (0, 0, 0), .null, []) := by decide +kernel
theorem hk_285_1024 : ax_look 285 1024 = some (.goto 311, (0, 0, 0), .null, []) := by decide +kernel
theorem hk_285_1027 : ax_look 285 1027 = some (.aload_n 1, (0, 0, 0), .null, []) := by decide +kernel
theorem hk_285_1028 : ax_look 285 1028 = some (.invokevirtual 225, (97, 0, 8), .null, [2055, 2057]) := by decide +kernel
theorem hk_285_1031 : ax_look 285 1031 = some (.pop, (0, 0, 0), .null, []) := by decide +kernel
theorem hk_285_1032 : ax_look 285 1032 = some (.aload_n 2, (0, 0, 0), .null, []) := by decide +kernel
theorem hk_285_1033 : ax_look 285 1033 = some (.invokevirtual 228, (197, 0, 9), .null, [8060, 8062]) := by decide +kernel
theorem hk_285_1036 : ax_look 285 1036 = some (.pop, (0, 0, 0), .null, []) := by decide +kernel
theorem hk_285_1037 : ax_look 285 1037 = some (.goto 298, (0, 0, 0), .null, []) := by decide +kernel
theorem hk_285_1040 : ax_look 285 1040 = some (.aload_n 1, (0, 0, 0), .null, []) := by decide +kernel
theorem hk_285_1041 : ax_look 285 1041 = some (.aload_n 0, (0, 0, 0), .null, []) := by decide +kernel
theorem hk_285_1042 : ax_look 285 1042 = some (.iload 4, (0, 0, 0), .null, []) := by decide +kernel
theorem hk_285_1044 : ax_look 285 1044 = some (.iconst 1, (0, 0, 0), .null, []) := by decide +kernel
theorem hk_285_1045 : ax_look 285 1045 = some (.iadd, (0, 0, 0), .null, []) := by decide +kernel
theorem hk_285_1046 : ax_look 285 1046 = some (.iaload, (0, 0, 0), .null, []) := by decide +kernel
theorem hk_285_1047 : ax_look 285 1047 = some (.aload_n 3, (0, 0, 0), .null, []) := by decide +kernel
theorem hk_285_1048 : ax_look 285 1048 = some (.invokestatic 229, (243, 3, 0), .null, [6059]) := by decide +kernel
theorem hk_285_1051 : ax_look 285 1051 = some (.istore 5, (0, 0, 0), .null, []) := by decide +kernel
theorem hk_285_1053 : ax_look 285 1053 = some (.aload_n 2, (0, 0, 0), .null, []) := by decide +kernel
theorem hk_285_1054 : ax_look 285 1054 = some (.aload_n 0, (0, 0, 0), .null, []) := by decide +kernel
theorem hk_285_1055 : ax_look 285 1055 = some (.iload 4, (0, 0, 0), .null, []) := by decide +kernel
theorem hk_285_1057 : ax_look 285 1057 = some (.iconst 1, (0, 0, 0), .null, []) := by decide +kernel
theorem hk_285_1058 : ax_look 285 1058 = some (.iadd, (0, 0, 0), .null, []) := by decide +kernel
theorem hk_285_1059 : ax_look 285 1059 = some (.iaload, (0, 0, 0), .null, []) := by decide +kernel
theorem hk_285_1060 : ax_look 285 1060 = some (.invokevirtual 231, (198, 1, 9), .null, [8064, 8066]) := by decide +kernel
theorem hk_285_1063 : ax_look 285 1063 = some (.istore 6, (0, 0, 0), .null, []) := by decide +kernel
theorem hk_285_1065 : ax_look 285 1065 = some (.goto 270, (0, 0, 0), .null, []) := by decide +kernel
theorem hk_285_1068 : ax_look 285 1068 = some (.aload_n 1, (0, 0, 0), .null, []) := by decide +kernel
theorem hk_285_1069 : ax_look 285 1069 = some (.invokevirtual 232, (99, 0, 8), .null, [2059, 2061]) := by decide +kernel
theorem hk_285_1072 : ax_look 285 1072 = some (.pop, (0, 0, 0), .null, []) := by decide +kernel
theorem hk_285_1073 : ax_look 285 1073 = some (.aload_n 2, (0, 0, 0), .null, []) := by decide +kernel
theorem hk_285_1074 : ax_look 285 1074 = some (.invokevirtual 235, (203, 0, 9), .null, [8068, 8070]) := by decide +kernel
theorem hk_285_1077 : ax_look 285 1077 = some (.pop, (0, 0, 0), .null, []) := by decide +kernel
theorem hk_285_1078 : ax_look 285 1078 = some (.goto 257, (0, 0, 0), .null, []) := by decide +kernel
theorem hk_285_1081 : ax_look 285 1081 = some (.aload_n 1, (0, 0, 0), .null, []) := by decide +kernel
theorem hk_285_1082 : ax_look 285 1082 = some (.aload_n 0, (0, 0, 0), .null, []) := by decide +kernel
theorem hk_285_1083 : ax_look 285 1083 = some (.iload 4, (0, 0, 0), .null, []) := by decide +kernel
theorem hk_285_1085 : ax_look 285 1085 = some (.iconst 1, (0, 0, 0), .null, []) := by decide +kernel
theorem hk_285_1086 : ax_look 285 1086 = some (.iadd, (0, 0, 0), .null, []) := by decide +kernel
theorem hk_285_1087 : ax_look 285 1087 = some (.iaload, (0, 0, 0), .null, []) := by decide +kernel
theorem hk_285_1088 : ax_look 285 1088 = some (.aload_n 3, (0, 0, 0), .null, []) := by decide +kernel
theorem hk_285_1089 : ax_look 285 1089 = some (.invokestatic 236, (244, 3, 0), .null, [6066]) := by decide +kernel
theorem hk_285_1092 : ax_look 285 1092 = some (.istore 5, (0, 0, 0), .null, []) := by decide +kernel
theorem hk_285_1094 : ax_look 285 1094 = some (.aload_n 2, (0, 0, 0), .null, []) := by decide +kernel
theorem hk_285_1095 : ax_look 285 1095 = some (.aload_n 0, (0, 0, 0), .null, []) := by decide +kernel
theorem hk_285_1096 : ax_look 285 1096 = some (.iload 4, (0, 0, 0), .null, []) := by decide +kernel
theorem hk_285_1098 : ax_look 285 1098 = some (.iconst 1, (0, 0, 0), .null, []) := by decide +kernel
theorem hk_285_1099 : ax_look 285 1099 = some (.iadd, (0, 0, 0), .null, []) := by decide +kernel
theorem hk_285_1100 : ax_look 285 1100 = some (.iaload, (0, 0, 0), .null, []) := by decide +kernel
theorem hk_285_1101 : ax_look 285 1101 = some (.invokevirtual 238, (205, 1, 9), .null, [8080, 8082]) := by decide +kernel
theorem hk_285_1104 : ax_look 285 1104 = some (.istore 6, (0, 0, 0), .null, []) := by decide +kernel
theorem hk_285_1106 : ax_look 285 1106 = some (.goto 229, (0, 0, 0), .null, []) := by decide +kernel
theorem hk_285_1109 : ax_look 285 1109 = some (.aload_n 1, (0, 0, 0), .null, []) := by decide +kernel
theorem hk_285_1110 : ax_look 285 1110 = some (.invokevirtual 239, (101, 0, 8), .null, [2098, 2100]) := by decide +kernel
theorem hk_285_1113 : ax_look 285 1113 = some (.pop, (0, 0, 0), .null, []) := by decide +kernel
theorem hk_285_1114 : ax_look 285 1114 = some (.aload_n 2, (0, 0, 0), .null, []) := by decide +kernel
theorem hk_285_1115 : ax_look 285 1115 = some (.invokevirtual 242, (206, 0, 9), .null, [8087, 8089]) := by decide +kernel
theorem hk_285_1118 : ax_look 285 1118 = some (.pop, (0, 0, 0), .null, []) := by decide +kernel
theorem hk_285_1119 : ax_look 285 1119 = some (.goto 216, (0, 0, 0), .null, []) := by decide +kernel
theorem hk_285_1122 : ax_look 285 1122 = some (.aload_n 1, (0, 0, 0), .null, []) := by decide +kernel
theorem hk_285_1123 : ax_look 285 1123 = some (.aload_n 0, (0, 0, 0), .null, []) := by decide +kernel
theorem hk_285_1124 : ax_look 285 1124 = some (.iload 4, (0, 0, 0), .null, []) := by decide +kernel
theorem hk_285_1126 : ax_look 285 1126 = some (.iconst 1, (0, 0, 0), .null, []) := by decide +kernel
theorem hk_285_1127 : ax_look 285 1127 = some (.iadd, (0, 0, 0), .null, []) := by decide +kernel
theorem hk_285_1128 : ax_look 285 1128 = some (.iaload, (0, 0, 0), .null, []) := by decide +kernel
theorem hk_285_1129 : ax_look 285 1129 = some (.aload_n 3, (0, 0, 0), .null, []) := by decide +kernel
theorem hk_285_1130 : ax_look 285 1130 = some (.invokestatic 243, (245, 3, 0), .null, [6077]) := by decide +kernel
theorem hk_285_1133 : ax_look 285 1133 = some (.istore 5, (0, 0, 0), .null, []) := by decide +kernel
theorem hk_285_1135 : ax_look 285 1135 = some (.aload_n 2, (0, 0, 0), .null, []) := by decide +kernel
theorem hk_285_1136 : ax_look 285 1136 = some (.aload_n 0, (0, 0, 0), .null, []) := by decide +kernel
theorem hk_285_1137 : ax_look 285 1137 = some (.iload 4, (0, 0, 0), .null, []) := by decide +kernel
theorem hk_285_1139 : ax_look 285 1139 = some (.iconst 1, (0, 0, 0), .null, []) := by decide +kernel
theorem hk_285_1140 : ax_look 285 1140 = some (.iadd, (0, 0, 0), .null, []) := by decide +kernel
theorem hk_285_1141 : ax_look 285 1141 = some (.iaload, (0, 0, 0), .null, []) := by decide +kernel
theorem hk_285_1142 : ax_look 285 1142 = some (.invokevirtual 245, (207, 1, 9), .null, [8091, 8093]) := by decide +kernel
theorem hk_285_1145 : ax_look 285 1145 = some (.istore 6, (0, 0, 0), .null, []) := by decide +kernel
theorem hk_285_1147 : ax_look 285 1147 = some (.goto 188, (0, 0, 0), .null, []) := by decide +kernel
theorem hk_285_1150 : ax_look 285 1150 = some (.aload_n 1, (0, 0, 0), .null, []) := by decide +kernel
theorem hk_285_1151 : ax_look 285 1151 = some (.aload_n 0, (0, 0, 0), .null, []) := by decide +kernel
theorem hk_285_1152 : ax_look 285 1152 = some (.iload 4, (0, 0, 0), .null, []) := by decide +kernel
theorem hk_285_1154 : ax_look 285 1154 = some (.iconst 1, (0, 0, 0), .null, []) := by decide +kernel
theorem hk_285_1155 : ax_look 285 1155 = some (.iadd, (0, 0, 0), .null, []) := by decide +kernel
theorem hk_285_1156 : ax_look 285 1156 = some (.iaload, (0, 0, 0), .null, []) := by decide +kernel
theorem hk_285_1157 : ax_look 285 1157 = some (.aload_n 0, (0, 0, 0), .null, []) := by decide +kernel
theorem hk_285_1158 : ax_look 285 1158 = some (.iload 4, (0, 0, 0), .null, []) := by decide +kernel
theorem hk_285_1160 : ax_look 285 1160 = some (.iconst 2, (0, 0, 0), .null, []) := by decide +kernel
theorem hk_285_1161 : ax_look 285 1161 = some (.iadd, (0, 0, 0), .null, []) := by decide +kernel
theorem hk_285_1162 : ax_look 285 1162 = some (.iaload, (0, 0, 0), .null, []) := by decide +kernel
theorem hk_285_1163 : ax_look 285 1163 = some (.aload_n 3, (0, 0, 0), .null, []) := by decide +kernel
theorem hk_285_1164 : ax_look 285 1164 = some (.invokestatic 246, (246, 4, 0), .null, [6088]) := by decide +kernel
theorem hk_285_1167 : ax_look 285 1167 = some (.istore 5, (0, 0, 0), .null, []) := by decide +kernel
theorem hk_285_1169 : ax_look 285 1169 = some (.aload_n 2, (0, 0, 0), .null, []) := by decide +kernel
theorem hk_285_1170 : ax_look 285 1170 = some (.aload_n 0, (0, 0, 0), .null, []) := by decide +kernel
theorem hk_285_1171 : ax_look 285 1171 = some (.iload 4, (0, 0, 0), .null, []) := by decide +kernel
theorem hk_285_1173 : ax_look 285 1173 = some (.iconst 1, (0, 0, 0), .null, []) := by decide +kernel
theorem hk_285_1174 : ax_look 285 1174 = some (.iadd, (0, 0, 0), .null, []) := by decide +kernel
theorem hk_285_1175 : ax_look 285 1175 = some (.iaload, (0, 0, 0), .null, []) := by decide +kernel
theorem hk_285_1176 : ax_look 285 1176 = some (.aload_n 0, (0, 0, 0), .null, []) := by decide +kernel
theorem hk_285_1177 : ax_look 285 1177 = some (.iload 4, (0, 0, 0), .null, []) := by decide +kernel
theorem hk_285_1179 : ax_look 285 1179 = some (.iconst 2, (0, 0, 0), .null, []) := by decide +kernel
theorem hk_285_1180 : ax_look 285 1180 = some (.iadd, (0, 0, 0), .null, []) := by decide +kernel
theorem hk_285_1181 : ax_look 285 1181 = some (.iaload, (0, 0, 0), .null, []) := by decide +kernel
theorem hk_285_1182 : ax_look 285 1182 = some (.invokevirtual 248, (208, 2, 9), .null, [8095, 8097]) := by decide +kernel
theorem hk_285_1185 : ax_look 285 1185 = some (.istore 6, (0, 0, 0), .null, []) := by decide +kernel
theorem hk_285_1187 : ax_look 285 1187 = some (.goto 148, (0, 0, 0), .null, []) := by decide +kernel
theorem hk_285_1190 : ax_look 285 1190 = some (.aload_n 1, (0, 0, 0), .null, []) := by decide +kernel
theorem hk_285_1191 : ax_look 285 1191 = some (.aload_n 3, (0, 0, 0), .null, []) := by decide +kernel
theorem hk_285_1192 : ax_look 285 1192 = some (.invokestatic 249, (247, 2, 0), .null, [6096]) := by decide +kernel
theorem hk_285_1195 : ax_look 285 1195 = some (.istore 5, (0, 0, 0), .null, []) := by decide +kernel
theorem hk_285_1197 : ax_look 285 1197 = some (.aload_n 2, (0, 0, 0), .null, []) := by decide +kernel
theorem hk_285_1198 : ax_look 285 1198 = some (.invokevirtual 251, (211, 0, 9), .null, [8099, 8101]) := by decide +kernel
theorem hk_285_1201 : ax_look 285 1201 = some (.istore 6, (0, 0, 0), .null, []) := by decide +kernel
theorem hk_285_1203 : ax_look 285 1203 = some (.goto 132, (0, 0, 0), .null, []) := by decide +kernel
theorem hk_285_1206 : ax_look 285 1206 = some (.aload_n 1, (0, 0, 0), .null, []) := by decide +kernel
theorem hk_285_1207 : ax_look 285 1207 = some (.aload_n 3, (0, 0, 0), .null, []) := by decide +kernel
theorem hk_285_1208 : ax_look 285 1208 = some (.invokestatic 252, (248, 2, 0), .null, [6121]) := by decide +kernel
theorem hk_285_1211 : ax_look 285 1211 = some (.istore 5, (0, 0, 0), .null, []) := by decide +kernel
theorem hk_285_1213 : ax_look 285 1213 = some (.aload_n 2, (0, 0, 0), .null, []) := by decide +kernel
theorem hk_285_1214 : ax_look 285 1214 = some (.invokevirtual 254, (212, 0, 9), .null, [8111, 8113]) := by decide +kernel
theorem hk_285_1217 : ax_look 285 1217 = some (.istore 6, (0, 0, 0), .null, []) := by decide +kernel
theorem hk_285_1219 : ax_look 285 1219 = some (.goto 116, (0, 0, 0), .null, []) := by decide +kernel
theorem hk_285_1222 : ax_look 285 1222 = some (.aload_n 1, (0, 0, 0), .null, []) := by decide +kernel
theorem hk_285_1223 : ax_look 285 1223 = some (.aload_n 0, (0, 0, 0), .null, []) := by decide +kernel
theorem hk_285_1224 : ax_look 285 1224 = some (.iload 4, (0, 0, 0), .null, []) := by decide +kernel
theorem hk_285_1226 : ax_look 285 1226 = some (.iconst 1, (0, 0, 0), .null, []) := by decide +kernel
theorem hk_285_1227 : ax_look 285 1227 = some (.iadd, (0, 0, 0), .null, []) := by decide +kernel
theorem hk_285_1228 : ax_look 285 1228 = some (.iaload, (0, 0, 0), .null, []) := by decide +kernel
theorem hk_285_1229 : ax_look 285 1229 = some (.aload_n 0, (0, 0, 0), .null, []) := by decide +kernel
theorem hk_285_1230 : ax_look 285 1230 = some (.iload 4, (0, 0, 0), .null, []) := by decide +kernel
theorem hk_285_1232 : ax_look 285 1232 = some (.iconst 2, (0, 0, 0), .null, []) := by decide +kernel
theorem hk_285_1233 : ax_look 285 1233 = some (.iadd, (0, 0, 0), .null, []) := by decide +kernel
theorem hk_285_1234 : ax_look 285 1234 = some (.iaload, (0, 0, 0), .null, []) := by decide +kernel
theorem hk_285_1235 : ax_look 285 1235 = some (.aload_n 3, (0, 0, 0), .null, []) := by decide +kernel
theorem hk_285_1236 : ax_look 285 1236 = some (.invokestatic 255, (249, 4, 0), .null, [6128]) := by decide +kernel
theorem hk_285_1239 : ax_look 285 1239 = some (.istore 5, (0, 0, 0), .null, []) := by decide +kernel
theorem hk_285_1241 : ax_look 285 1241 = some (.aload_n 2, (0, 0, 0), .null, []) := by decide +kernel
theorem hk_285_1242 : ax_look 285 1242 = some (.aload_n 0, (0, 0, 0), .null, []) := by decide +kernel
theorem hk_285_1243 : ax_look 285 1243 = some (.iload 4, (0, 0, 0), .null, []) := by decide +kernel
theorem hk_285_1245 : ax_look 285 1245 = some (.iconst 1, (0, 0, 0), .null, []) := by decide +kernel
theorem hk_285_1246 : ax_look 285 1246 = some (.iadd, (0, 0, 0), .null, []) := by decide +kernel
theorem hk_285_1247 : ax_look 285 1247 = some (.iaload, (0, 0, 0), .null, []) := by decide +kernel
theorem hk_285_1248 : ax_look 285 1248 = some (.aload_n 0, (0, 0, 0), .null, []) := by decide +kernel
theorem hk_285_1249 : ax_look 285 1249 = some (.iload 4, (0, 0, 0), .null, []) := by decide +kernel
theorem hk_285_1251 : ax_look 285 1251 = some (.iconst 2, (0, 0, 0), .null, []) := by decide +kernel
theorem hk_285_1252 : ax_look 285 1252 = some (.iadd, (0, 0, 0), .null, []) := by decide +kernel
theorem hk_285_1253 : ax_look 285 1253 = some (.iaload, (0, 0, 0), .null, []) := by decide +kernel
theorem hk_285_1254 : ax_look 285 1254 = some (.invokevirtual 257, (214, 2, 9), .null, [8115, 8117]) := by decide +kernel
theorem hk_285_1257 : ax_look 285 1257 = some (.istore 6, (0, 0, 0), .null, []) := by decide +kernel
theorem hk_285_1259 : ax_look 285 1259 = some (.goto 76, (0, 0, 0), .null, []) := by decide +kernel
theorem hk_285_1262 : ax_look 285 1262 = some (.aload_n 1, (0, 0, 0), .null, []) := by decide +kernel
theorem hk_285_1263 : ax_look 285 1263 = some (.aload_n 0, (0, 0, 0), .null, []) := by decide +kernel
theorem hk_285_1264 : ax_look 285 1264 = some (.iload 4, (0, 0, 0), .null, []) := by decide +kernel
theorem hk_285_1266 : ax_look 285 1266 = some (.iconst 1, (0, 0, 0), .null, []) := by decide +kernel
theorem hk_285_1267 : ax_look 285 1267 = some (.iadd, (0, 0, 0), .null, []) := by decide +kernel
theorem hk_285_1268 : ax_look 285 1268 = some (.iaload, (0, 0, 0), .null, []) := by decide +kernel
theorem hk_285_1269 : ax_look 285 1269 = some (.aload_n 3, (0, 0, 0), .null, []) := by decide +kernel
theorem hk_285_1270 : ax_look 285 1270 = some (.invokestatic 258, (250, 3, 0), .null, [6137]) := by decide +kernel
theorem hk_285_1273 : ax_look 285 1273 = some (.istore 5, (0, 0, 0), .null, []) := by decide +kernel
theorem hk_285_1275 : ax_look 285 1275 = some (.aload_n 2, (0, 0, 0), .null, []) := by decide +kernel
theorem hk_285_1276 : ax_look 285 1276 = some (.aload_n 0, (0, 0, 0), .null, []) := by decide +kernel
theorem hk_285_1277 : ax_look 285 1277 = some (.iload 4, (0, 0, 0), .null, []) := by decide +kernel
theorem hk_285_1279 : ax_look 285 1279 = some (.iconst 1, (0, 0, 0), .null, []) := by decide +kernel
theorem hk_285_1280 : ax_look 285 1280 = some (.iadd, (0, 0, 0), .null, []) := by decide +kernel
theorem hk_285_1281 : ax_look 285 1281 = some (.iaload, (0, 0, 0), .null, []) := by decide +kernel
theorem hk_285_1282 : ax_look 285 1282 = some (.invokevirtual 260, (215, 1, 9), .null, [8123, 8125]) := by decide +kernel
theorem hk_285_1285 : ax_look 285 1285 = some (.istore 6, (0, 0, 0), .null, []) := by decide +kernel
theorem hk_285_1287 : ax_look 285 1287 = some (.goto 48, (0, 0, 0), .null, []) := by decide +kernel
theorem hk_285_1290 : ax_look 285 1290 = some (.aload_n 1, (0, 0, 0), .null, []) := by decide +kernel
theorem hk_285_1291 : ax_look 285 1291 = some (.aload_n 3, (0, 0, 0), .null, []) := by decide +kernel
theorem hk_285_1292 : ax_look 285 1292 = some (.invokestatic 261, (251, 2, 0), .null, [6144]) := by decide +kernel
theorem hk_285_1295 : ax_look 285 1295 = some (.istore 5, (0, 0, 0), .null, []) := by decide +kernel
theorem hk_285_1297 : ax_look 285 1297 = some (.aload_n 2, (0, 0, 0), .null, []) := by decide +kernel
theorem hk_285_1298 : ax_look 285 1298 = some (.invokevirtual 263, (216, 0, 9), .null, [8127, 8129]) := by decide +kernel
theorem hk_285_1301 : ax_look 285 1301 = some (.istore 6, (0, 0, 0), .null, []) := by decide +kernel
theorem hk_285_1303 : ax_look 285 1303 = some (.goto 32, (0, 0, 0), .null, []) := by decide +kernel
theorem hk_285_1306 : ax_look 285 1306 = some (.aload_n 1, (0, 0, 0), .null, []) := by decide +kernel
theorem hk_285_1307 : ax_look 285 1307 = some (.aload_n 3, (0, 0, 0), .null, []) := by decide +kernel
theorem hk_285_1308 : ax_look 285 1308 = some (.invokestatic 264, (252, 2, 0), .null, [6162]) := by decide +kernel
theorem hk_285_1311 : ax_look 285 1311 = some (.istore 5, (0, 0, 0), .null, []) := by decide +kernel
theorem hk_285_1313 : ax_look 285 1313 = some (.aload_n 2, (0, 0, 0), .null, []) := by decide +kernel
theorem hk_285_1314 : ax_look 285 1314 = some (.invokevirtual 266, (217, 0, 9), .null, [8131, 8133]) := by decide +kernel
theorem hk_285_1317 : ax_look 285 1317 = some (.istore 6, (0, 0, 0), .null, []) := by decide +kernel
theorem hk_285_1319 : ax_look 285 1319 = some (.goto 16, (0, 0, 0), .null, []) := by decide +kernel
theorem hk_285_1322 : ax_look 285 1322 = some (.aload_n 1, (0, 0, 0), .null, []) := by decide +kernel
theorem hk_285_1323 : ax_look 285 1323 = some (.invokevirtual 267, (110, 0, 8), .null, [2106, 2108]) := by decide +kernel
theorem hk_285_1326 : ax_look 285 1326 = some (.pop2, (0, 0, 0), .null, []) := by decide +kernel
theorem hk_285_1327 : ax_look 285 1327 = some (.aload_n 2, (0, 0, 0), .null, []) := by decide +kernel
theorem hk_285_1328 : ax_look 285 1328 = some (.invokevirtual 271, (218, 0, 9), .null, [8135, 8137]) := by decide +kernel
theorem hk_285_1331 : ax_look 285 1331 = some (.pop2, (0, 0, 0), .null, []) := by decide +kernel
theorem hk_285_1332 : ax_look 285 1332 = some (.goto 3, (0, 0, 0), .null, []) := by decide +kernel
theorem hk_285_1335 : ax_look 285 1335 = some (.iinc 4 6, (0, 0, 0), .null, []) := by decide +kernel
theorem hk_285_1338 : ax_look 285 1338 = some (.goto (-1315), (0, 0, 0), .null, []) := by decide +kernel
theorem hk_285_1341 : ax_look 285 1341 = some (.iconst 1, (0, 0, 0), .null, []) := by decide +kernel
theorem hk_285_1342 : ax_look 285 1342 = some (.ireturn, (0, 0, 0), .null, []) := by decide +kernel
section LWO
variable {l : Launch} {xs : Nat → Int32} {L : Nat} {P : ax_P} {X : ax_PX} {h : ax_H} {bc bs : Nat} {i : Int32}
theorem lw_op5 (G : ty_G hy_I l) (i0 : 0 ≤ i.toInt) (i1 : i.toInt + 6 ≤ L) (hL : L ≤ 3072) (I : lw_I h) (k : ∀ h', lw_I h' → AR ax_ns l (ax_mm 285) 13 (ax_r L xs) P X 1335 [(4, .int i), (3, .ref 197), (2, .ref 181), (1, .ref 0), (0, .ref 1000000001)] [] h' bc bs) : AR ax_ns l (ax_mm 285) 13 (ax_r L xs) P X 369 [(4, .int i), (3, .ref 197), (2, .ref 181), (1, .ref 0), (0, .ref 1000000001)] [] h (bc + 1177) (bs + 14024) := by
  refine AR.aload_n (ax_look_ok hk_285_369).1 (x := .ref 0) rfl rfl ?_
  refine lw_sc hk_285_370 hk_285_371 hk_285_373 hk_285_374 hk_285_375 rfl rfl (by decide) (by decide) (by decide) i0 i1 hL (fun y1 => ?_)
  show AR _ _ _ _ _ _ _ 376 [(4, .int i), (3, .ref 197), (2, .ref 181), (1, .ref 0), (0, .ref 1000000001)] [.int y1, .ref 0] h _ _
  refine AR.aload_n (ax_look_ok hk_285_376).1 (x := .ref 197) rfl rfl ?_
  refine lw_s (kd := 0) (bc' := bc + 1168) (bs' := bs + 11024) (as := [.ref 0, .int y1, .ref 197]) hk_285_377 (by decide +kernel) rfl rfl (tk_76_ok G) rfl ⟨_, _, rfl, rfl, _, _, rfl, lw_ai _, _, _, rfl, rfl, rfl⟩ I (by decide +kernel) (by decide) (by show _ + 9 ≤ _; omega) (by show _ + 3000 ≤ _; omega) (by decide +kernel) (fun x2 g3 qx2 Ig3 => ?_)
  obtain ⟨z4, rfl⟩ := qx2.1 rfl
  show AR _ _ _ _ _ _ _ 380 [(4, .int i), (3, .ref 197), (2, .ref 181), (1, .ref 0), (0, .ref 1000000001)] [.int z4] g3 _ _
  refine AR.istore (ax_look_ok hk_285_380).1 (by decide +kernel) rfl ?_
  show AR _ _ _ _ _ _ _ 382 [(5, .int z4), (4, .int i), (3, .ref 197), (2, .ref 181), (1, .ref 0), (0, .ref 1000000001)] [] g3 _ _
  refine AR.aload_n (ax_look_ok hk_285_382).1 (x := .ref 181) rfl rfl ?_
  refine lw_sc hk_285_383 hk_285_384 hk_285_386 hk_285_387 hk_285_388 rfl rfl (by decide) (by decide) (by decide) i0 i1 hL (fun y5 => ?_)
  show AR _ _ _ _ _ _ _ 389 [(5, .int z4), (4, .int i), (3, .ref 197), (2, .ref 181), (1, .ref 0), (0, .ref 1000000001)] [.int y5, .ref 181] g3 _ _
  refine lw_v (kd := 0) (bc' := bc + 1168) (bs' := bs + 11024) (r := 181) (as := [.int y5]) hk_285_389 (by decide) (by decide +kernel) (by decide) (by decide +kernel) rfl rfl (tk_1098_ok G) rfl ⟨_, _, rfl, rfl, _, _, rfl, lw_ai _, rfl⟩ Ig3 (by decide +kernel) (by decide) (by show _ + 0 ≤ _; omega) (by show _ + 0 ≤ _; omega) (by decide +kernel) (fun x6 g7 qx6 Ig7 => ?_)
  obtain ⟨z8, rfl⟩ := qx6.1 rfl
  show AR _ _ _ _ _ _ _ 392 [(5, .int z4), (4, .int i), (3, .ref 197), (2, .ref 181), (1, .ref 0), (0, .ref 1000000001)] [.int z8] g7 _ _
  refine AR.istore (ax_look_ok hk_285_392).1 (by decide +kernel) rfl ?_
  show AR _ _ _ _ _ _ _ 394 [(6, .int z8), (5, .int z4), (4, .int i), (3, .ref 197), (2, .ref 181), (1, .ref 0), (0, .ref 1000000001)] [] g7 _ _
  refine AR.goto (ax_look_ok hk_285_394).1 (tgt := 1335) (by decide) ?_
  show AR _ _ _ _ _ _ _ 1335 [(6, .int z8), (5, .int z4), (4, .int i), (3, .ref 197), (2, .ref 181), (1, .ref 0), (0, .ref 1000000001)] [] g7 _ _
  refine AR.lessL (lv' := [(4, .int i), (3, .ref 197), (2, .ref 181), (1, .ref 0), (0, .ref 1000000001)]) (List.forall_mem_cons.mpr ⟨⟨_, by simp, ax_le_rfl rfl⟩, (List.forall_mem_cons.mpr ⟨⟨_, by simp, ax_le_rfl rfl⟩, (List.forall_mem_cons.mpr ⟨⟨_, by simp, ax_le_rfl rfl⟩, (List.forall_mem_cons.mpr ⟨⟨_, by simp, ax_le_rfl rfl⟩, (List.forall_mem_cons.mpr ⟨⟨_, by simp, ax_le_rfl rfl⟩, (fun _ h => absurd h List.not_mem_nil)⟩)⟩)⟩)⟩)⟩) ?_
  exact AR.lt (by omega) (by omega) (k _ Ig7)
theorem lw_op6 (G : ty_G hy_I l) (i0 : 0 ≤ i.toInt) (i1 : i.toInt + 6 ≤ L) (hL : L ≤ 3072) (I : lw_I h) (k : ∀ h', lw_I h' → AR ax_ns l (ax_mm 285) 13 (ax_r L xs) P X 1335 [(4, .int i), (3, .ref 197), (2, .ref 181), (1, .ref 0), (0, .ref 1000000001)] [] h' bc bs) : AR ax_ns l (ax_mm 285) 13 (ax_r L xs) P X 397 [(4, .int i), (3, .ref 197), (2, .ref 181), (1, .ref 0), (0, .ref 1000000001)] [] h (bc + 1177) (bs + 14024) := by
  refine AR.aload_n (ax_look_ok hk_285_397).1 (x := .ref 0) rfl rfl ?_
  refine lw_sc hk_285_398 hk_285_399 hk_285_401 hk_285_402 hk_285_403 rfl rfl (by decide) (by decide) (by decide) i0 i1 hL (fun y1 => ?_)
  show AR _ _ _ _ _ _ _ 404 [(4, .int i), (3, .ref 197), (2, .ref 181), (1, .ref 0), (0, .ref 1000000001)] [.int y1, .ref 0] h _ _
  refine AR.aload_n (ax_look_ok hk_285_404).1 (x := .ref 197) rfl rfl ?_
  refine lw_s (kd := 0) (bc' := bc + 1176) (bs' := bs + 14018) (as := [.ref 0, .int y1, .ref 197]) hk_285_405 (by decide +kernel) rfl rfl (tk_78_ok G) rfl ⟨_, _, rfl, rfl, _, _, rfl, lw_ai _, _, _, rfl, rfl, rfl⟩ I (by decide +kernel) (by decide) (by show _ + 1 ≤ _; omega) (by show _ + 6 ≤ _; omega) (by decide +kernel) (fun x2 g3 qx2 Ig3 => ?_)
  obtain ⟨z4, rfl⟩ := qx2.1 rfl
  show AR _ _ _ _ _ _ _ 408 [(4, .int i), (3, .ref 197), (2, .ref 181), (1, .ref 0), (0, .ref 1000000001)] [.int z4] g3 _ _
  refine AR.istore (ax_look_ok hk_285_408).1 (by decide +kernel) rfl ?_
  show AR _ _ _ _ _ _ _ 410 [(5, .int z4), (4, .int i), (3, .ref 197), (2, .ref 181), (1, .ref 0), (0, .ref 1000000001)] [] g3 _ _
  refine AR.aload_n (ax_look_ok hk_285_410).1 (x := .ref 181) rfl rfl ?_
  refine lw_sc hk_285_411 hk_285_412 hk_285_414 hk_285_415 hk_285_416 rfl rfl (by decide) (by decide) (by decide) i0 i1 hL (fun y5 => ?_)
  show AR _ _ _ _ _ _ _ 417 [(5, .int z4), (4, .int i), (3, .ref 197), (2, .ref 181), (1, .ref 0), (0, .ref 1000000001)] [.int y5, .ref 181] g3 _ _
  refine lw_v (kd := 0) (bc' := bc + 1176) (bs' := bs + 14018) (r := 181) (as := [.int y5]) hk_285_417 (by decide) (by decide +kernel) (by decide) (by decide +kernel) rfl rfl (tk_1099_ok G) rfl ⟨_, _, rfl, rfl, _, _, rfl, lw_ai _, rfl⟩ Ig3 (by decide +kernel) (by decide) (by show _ + 0 ≤ _; omega) (by show _ + 0 ≤ _; omega) (by decide +kernel) (fun x6 g7 qx6 Ig7 => ?_)
  obtain ⟨z8, rfl⟩ := qx6.1 rfl
  show AR _ _ _ _ _ _ _ 420 [(5, .int z4), (4, .int i), (3, .ref 197), (2, .ref 181), (1, .ref 0), (0, .ref 1000000001)] [.int z8] g7 _ _
  refine AR.istore (ax_look_ok hk_285_420).1 (by decide +kernel) rfl ?_
  show AR _ _ _ _ _ _ _ 422 [(6, .int z8), (5, .int z4), (4, .int i), (3, .ref 197), (2, .ref 181), (1, .ref 0), (0, .ref 1000000001)] [] g7 _ _
  refine AR.goto (ax_look_ok hk_285_422).1 (tgt := 1335) (by decide) ?_
  show AR _ _ _ _ _ _ _ 1335 [(6, .int z8), (5, .int z4), (4, .int i), (3, .ref 197), (2, .ref 181), (1, .ref 0), (0, .ref 1000000001)] [] g7 _ _
  refine AR.lessL (lv' := [(4, .int i), (3, .ref 197), (2, .ref 181), (1, .ref 0), (0, .ref 1000000001)]) (List.forall_mem_cons.mpr ⟨⟨_, by simp, ax_le_rfl rfl⟩, (List.forall_mem_cons.mpr ⟨⟨_, by simp, ax_le_rfl rfl⟩, (List.forall_mem_cons.mpr ⟨⟨_, by simp, ax_le_rfl rfl⟩, (List.forall_mem_cons.mpr ⟨⟨_, by simp, ax_le_rfl rfl⟩, (List.forall_mem_cons.mpr ⟨⟨_, by simp, ax_le_rfl rfl⟩, (fun _ h => absurd h List.not_mem_nil)⟩)⟩)⟩)⟩)⟩) ?_
  exact AR.lt (by omega) (by omega) (k _ Ig7)
theorem lw_op7 (G : ty_G hy_I l) (i0 : 0 ≤ i.toInt) (i1 : i.toInt + 6 ≤ L) (hL : L ≤ 3072) (I : lw_I h) (k : ∀ h', lw_I h' → AR ax_ns l (ax_mm 285) 13 (ax_r L xs) P X 1335 [(4, .int i), (3, .ref 197), (2, .ref 181), (1, .ref 0), (0, .ref 1000000001)] [] h' bc bs) : AR ax_ns l (ax_mm 285) 13 (ax_r L xs) P X 425 [(4, .int i), (3, .ref 197), (2, .ref 181), (1, .ref 0), (0, .ref 1000000001)] [] h (bc + 1177) (bs + 14024) := by
  refine AR.aload_n (ax_look_ok hk_285_425).1 (x := .ref 0) rfl rfl ?_
  refine lw_v (kd := 0) (bc' := bc + 1177) (bs' := bs + 14024) (r := 0) (as := []) hk_285_426 (by decide) (by decide +kernel) (by decide) (by decide +kernel) rfl rfl (tk_196_ok G) rfl ⟨_, _, rfl, rfl, rfl⟩ I (by decide +kernel) (by decide) (by show _ + 0 ≤ _; omega) (by show _ + 0 ≤ _; omega) (by decide +kernel) (fun x1 g2 qx1 Ig2 => ?_)
  obtain ⟨z3, rfl⟩ := qx1.1 rfl
  show AR _ _ _ _ _ _ _ 429 [(4, .int i), (3, .ref 197), (2, .ref 181), (1, .ref 0), (0, .ref 1000000001)] [.int z3] g2 _ _
  refine AR.pop (ax_look_ok hk_285_429).1 rfl ?_
  refine AR.aload_n (ax_look_ok hk_285_430).1 (x := .ref 181) rfl rfl ?_
  refine lw_v (kd := 0) (bc' := bc + 1177) (bs' := bs + 14024) (r := 181) (as := []) hk_285_431 (by decide) (by decide +kernel) (by decide) (by decide +kernel) rfl rfl (tk_1100_ok G) rfl ⟨_, _, rfl, rfl, rfl⟩ Ig2 (by decide +kernel) (by decide) (by show _ + 0 ≤ _; omega) (by show _ + 0 ≤ _; omega) (by decide +kernel) (fun x4 g5 qx4 Ig5 => ?_)
  obtain ⟨z6, rfl⟩ := qx4.1 rfl
  show AR _ _ _ _ _ _ _ 434 [(4, .int i), (3, .ref 197), (2, .ref 181), (1, .ref 0), (0, .ref 1000000001)] [.int z6] g5 _ _
  refine AR.pop (ax_look_ok hk_285_434).1 rfl ?_
  refine AR.goto (ax_look_ok hk_285_435).1 (tgt := 1335) (by decide) ?_
  show AR _ _ _ _ _ _ _ 1335 [(4, .int i), (3, .ref 197), (2, .ref 181), (1, .ref 0), (0, .ref 1000000001)] [] g5 _ _
  refine AR.lessL (lv' := [(4, .int i), (3, .ref 197), (2, .ref 181), (1, .ref 0), (0, .ref 1000000001)]) (List.forall_mem_cons.mpr ⟨⟨_, by simp, ax_le_rfl rfl⟩, (List.forall_mem_cons.mpr ⟨⟨_, by simp, ax_le_rfl rfl⟩, (List.forall_mem_cons.mpr ⟨⟨_, by simp, ax_le_rfl rfl⟩, (List.forall_mem_cons.mpr ⟨⟨_, by simp, ax_le_rfl rfl⟩, (List.forall_mem_cons.mpr ⟨⟨_, by simp, ax_le_rfl rfl⟩, (fun _ h => absurd h List.not_mem_nil)⟩)⟩)⟩)⟩)⟩) ?_
  exact AR.lt (by omega) (by omega) (k _ Ig5)
theorem lw_op8 (G : ty_G hy_I l) (i0 : 0 ≤ i.toInt) (i1 : i.toInt + 6 ≤ L) (hL : L ≤ 3072) (I : lw_I h) (k : ∀ h', lw_I h' → AR ax_ns l (ax_mm 285) 13 (ax_r L xs) P X 1335 [(4, .int i), (3, .ref 197), (2, .ref 181), (1, .ref 0), (0, .ref 1000000001)] [] h' bc bs) : AR ax_ns l (ax_mm 285) 13 (ax_r L xs) P X 438 [(4, .int i), (3, .ref 197), (2, .ref 181), (1, .ref 0), (0, .ref 1000000001)] [] h (bc + 1177) (bs + 14024) := by
  refine AR.aload_n (ax_look_ok hk_285_438).1 (x := .ref 0) rfl rfl ?_
  refine lw_sc hk_285_439 hk_285_440 hk_285_442 hk_285_443 hk_285_444 rfl rfl (by decide) (by decide) (by decide) i0 i1 hL (fun y1 => ?_)
  show AR _ _ _ _ _ _ _ 445 [(4, .int i), (3, .ref 197), (2, .ref 181), (1, .ref 0), (0, .ref 1000000001)] [.int y1, .ref 0] h _ _
  refine AR.aload_n (ax_look_ok hk_285_445).1 (x := .ref 197) rfl rfl ?_
  refine lw_s (kd := 0) (bc' := bc + 1176) (bs' := bs + 14018) (as := [.ref 0, .int y1, .ref 197]) hk_285_446 (by decide +kernel) rfl rfl (tk_84_ok G) rfl ⟨_, _, rfl, rfl, _, _, rfl, lw_ai _, _, _, rfl, rfl, rfl⟩ I (by decide +kernel) (by decide) (by show _ + 1 ≤ _; omega) (by show _ + 6 ≤ _; omega) (by decide +kernel) (fun x2 g3 qx2 Ig3 => ?_)
  obtain ⟨z4, rfl⟩ := qx2.1 rfl
  show AR _ _ _ _ _ _ _ 449 [(4, .int i), (3, .ref 197), (2, .ref 181), (1, .ref 0), (0, .ref 1000000001)] [.int z4] g3 _ _
  refine AR.istore (ax_look_ok hk_285_449).1 (by decide +kernel) rfl ?_
  show AR _ _ _ _ _ _ _ 451 [(5, .int z4), (4, .int i), (3, .ref 197), (2, .ref 181), (1, .ref 0), (0, .ref 1000000001)] [] g3 _ _
  refine AR.aload_n (ax_look_ok hk_285_451).1 (x := .ref 181) rfl rfl ?_
  refine lw_sc hk_285_452 hk_285_453 hk_285_455 hk_285_456 hk_285_457 rfl rfl (by decide) (by decide) (by decide) i0 i1 hL (fun y5 => ?_)
  show AR _ _ _ _ _ _ _ 458 [(5, .int z4), (4, .int i), (3, .ref 197), (2, .ref 181), (1, .ref 0), (0, .ref 1000000001)] [.int y5, .ref 181] g3 _ _
  refine lw_v (kd := 0) (bc' := bc + 1176) (bs' := bs + 14018) (r := 181) (as := [.int y5]) hk_285_458 (by decide) (by decide +kernel) (by decide) (by decide +kernel) rfl rfl (tk_1102_ok G) rfl ⟨_, _, rfl, rfl, _, _, rfl, lw_ai _, rfl⟩ Ig3 (by decide +kernel) (by decide) (by show _ + 0 ≤ _; omega) (by show _ + 0 ≤ _; omega) (by decide +kernel) (fun x6 g7 qx6 Ig7 => ?_)
  obtain ⟨z8, rfl⟩ := qx6.1 rfl
  show AR _ _ _ _ _ _ _ 461 [(5, .int z4), (4, .int i), (3, .ref 197), (2, .ref 181), (1, .ref 0), (0, .ref 1000000001)] [.int z8] g7 _ _
  refine AR.istore (ax_look_ok hk_285_461).1 (by decide +kernel) rfl ?_
  show AR _ _ _ _ _ _ _ 463 [(6, .int z8), (5, .int z4), (4, .int i), (3, .ref 197), (2, .ref 181), (1, .ref 0), (0, .ref 1000000001)] [] g7 _ _
  refine AR.goto (ax_look_ok hk_285_463).1 (tgt := 1335) (by decide) ?_
  show AR _ _ _ _ _ _ _ 1335 [(6, .int z8), (5, .int z4), (4, .int i), (3, .ref 197), (2, .ref 181), (1, .ref 0), (0, .ref 1000000001)] [] g7 _ _
  refine AR.lessL (lv' := [(4, .int i), (3, .ref 197), (2, .ref 181), (1, .ref 0), (0, .ref 1000000001)]) (List.forall_mem_cons.mpr ⟨⟨_, by simp, ax_le_rfl rfl⟩, (List.forall_mem_cons.mpr ⟨⟨_, by simp, ax_le_rfl rfl⟩, (List.forall_mem_cons.mpr ⟨⟨_, by simp, ax_le_rfl rfl⟩, (List.forall_mem_cons.mpr ⟨⟨_, by simp, ax_le_rfl rfl⟩, (List.forall_mem_cons.mpr ⟨⟨_, by simp, ax_le_rfl rfl⟩, (fun _ h => absurd h List.not_mem_nil)⟩)⟩)⟩)⟩)⟩) ?_
  exact AR.lt (by omega) (by omega) (k _ Ig7)
theorem lw_op9 (G : ty_G hy_I l) (i0 : 0 ≤ i.toInt) (i1 : i.toInt + 6 ≤ L) (hL : L ≤ 3072) (I : lw_I h) (k : ∀ h', lw_I h' → AR ax_ns l (ax_mm 285) 13 (ax_r L xs) P X 1335 [(4, .int i), (3, .ref 197), (2, .ref 181), (1, .ref 0), (0, .ref 1000000001)] [] h' bc bs) : AR ax_ns l (ax_mm 285) 13 (ax_r L xs) P X 466 [(4, .int i), (3, .ref 197), (2, .ref 181), (1, .ref 0), (0, .ref 1000000001)] [] h (bc + 1177) (bs + 14024) := by
  refine AR.aload_n (ax_look_ok hk_285_466).1 (x := .ref 0) rfl rfl ?_
  refine lw_sc hk_285_467 hk_285_468 hk_285_470 hk_285_471 hk_285_472 rfl rfl (by decide) (by decide) (by decide) i0 i1 hL (fun y1 => ?_)
  show AR _ _ _ _ _ _ _ 473 [(4, .int i), (3, .ref 197), (2, .ref 181), (1, .ref 0), (0, .ref 1000000001)] [.int y1, .ref 0] h _ _
  refine AR.aload_n (ax_look_ok hk_285_473).1 (x := .ref 197) rfl rfl ?_
  refine lw_s (kd := 0) (bc' := bc + 1176) (bs' := bs + 14018) (as := [.ref 0, .int y1, .ref 197]) hk_285_474 (by decide +kernel) rfl rfl (tk_86_ok G) rfl ⟨_, _, rfl, rfl, _, _, rfl, lw_ai _, _, _, rfl, rfl, rfl⟩ I (by decide +kernel) (by decide) (by show _ + 1 ≤ _; omega) (by show _ + 6 ≤ _; omega) (by decide +kernel) (fun x2 g3 qx2 Ig3 => ?_)
  obtain ⟨z4, rfl⟩ := qx2.1 rfl
  show AR _ _ _ _ _ _ _ 477 [(4, .int i), (3, .ref 197), (2, .ref 181), (1, .ref 0), (0, .ref 1000000001)] [.int z4] g3 _ _
  refine AR.istore (ax_look_ok hk_285_477).1 (by decide +kernel) rfl ?_
  show AR _ _ _ _ _ _ _ 479 [(5, .int z4), (4, .int i), (3, .ref 197), (2, .ref 181), (1, .ref 0), (0, .ref 1000000001)] [] g3 _ _
  refine AR.aload_n (ax_look_ok hk_285_479).1 (x := .ref 181) rfl rfl ?_
  refine lw_sc hk_285_480 hk_285_481 hk_285_483 hk_285_484 hk_285_485 rfl rfl (by decide) (by decide) (by decide) i0 i1 hL (fun y5 => ?_)
  show AR _ _ _ _ _ _ _ 486 [(5, .int z4), (4, .int i), (3, .ref 197), (2, .ref 181), (1, .ref 0), (0, .ref 1000000001)] [.int y5, .ref 181] g3 _ _
  refine lw_v (kd := 0) (bc' := bc + 1176) (bs' := bs + 14018) (r := 181) (as := [.int y5]) hk_285_486 (by decide) (by decide +kernel) (by decide) (by decide +kernel) rfl rfl (tk_1103_ok G) rfl ⟨_, _, rfl, rfl, _, _, rfl, lw_ai _, rfl⟩ Ig3 (by decide +kernel) (by decide) (by show _ + 0 ≤ _; omega) (by show _ + 0 ≤ _; omega) (by decide +kernel) (fun x6 g7 qx6 Ig7 => ?_)
  obtain ⟨z8, rfl⟩ := qx6.1 rfl
  show AR _ _ _ _ _ _ _ 489 [(5, .int z4), (4, .int i), (3, .ref 197), (2, .ref 181), (1, .ref 0), (0, .ref 1000000001)] [.int z8] g7 _ _
  refine AR.istore (ax_look_ok hk_285_489).1 (by decide +kernel) rfl ?_
  show AR _ _ _ _ _ _ _ 491 [(6, .int z8), (5, .int z4), (4, .int i), (3, .ref 197), (2, .ref 181), (1, .ref 0), (0, .ref 1000000001)] [] g7 _ _
  refine AR.goto (ax_look_ok hk_285_491).1 (tgt := 1335) (by decide) ?_
  show AR _ _ _ _ _ _ _ 1335 [(6, .int z8), (5, .int z4), (4, .int i), (3, .ref 197), (2, .ref 181), (1, .ref 0), (0, .ref 1000000001)] [] g7 _ _
  refine AR.lessL (lv' := [(4, .int i), (3, .ref 197), (2, .ref 181), (1, .ref 0), (0, .ref 1000000001)]) (List.forall_mem_cons.mpr ⟨⟨_, by simp, ax_le_rfl rfl⟩, (List.forall_mem_cons.mpr ⟨⟨_, by simp, ax_le_rfl rfl⟩, (List.forall_mem_cons.mpr ⟨⟨_, by simp, ax_le_rfl rfl⟩, (List.forall_mem_cons.mpr ⟨⟨_, by simp, ax_le_rfl rfl⟩, (List.forall_mem_cons.mpr ⟨⟨_, by simp, ax_le_rfl rfl⟩, (fun _ h => absurd h List.not_mem_nil)⟩)⟩)⟩)⟩)⟩) ?_
  exact AR.lt (by omega) (by omega) (k _ Ig7)
theorem lw_op10 (G : ty_G hy_I l) (i0 : 0 ≤ i.toInt) (i1 : i.toInt + 6 ≤ L) (hL : L ≤ 3072) (I : lw_I h) (k : ∀ h', lw_I h' → AR ax_ns l (ax_mm 285) 13 (ax_r L xs) P X 1335 [(4, .int i), (3, .ref 197), (2, .ref 181), (1, .ref 0), (0, .ref 1000000001)] [] h' bc bs) : AR ax_ns l (ax_mm 285) 13 (ax_r L xs) P X 494 [(4, .int i), (3, .ref 197), (2, .ref 181), (1, .ref 0), (0, .ref 1000000001)] [] h (bc + 1177) (bs + 14024) := by
  refine AR.aload_n (ax_look_ok hk_285_494).1 (x := .ref 0) rfl rfl ?_
  refine lw_sc hk_285_495 hk_285_496 hk_285_498 hk_285_499 hk_285_500 rfl rfl (by decide) (by decide) (by decide) i0 i1 hL (fun y1 => ?_)
  show AR _ _ _ _ _ _ _ 501 [(4, .int i), (3, .ref 197), (2, .ref 181), (1, .ref 0), (0, .ref 1000000001)] [.int y1, .ref 0] h _ _
  refine lw_sc hk_285_501 hk_285_502 hk_285_504 hk_285_505 hk_285_506 rfl rfl (by decide) (by decide) (by decide) i0 i1 hL (fun y2 => ?_)
  show AR _ _ _ _ _ _ _ 507 [(4, .int i), (3, .ref 197), (2, .ref 181), (1, .ref 0), (0, .ref 1000000001)] [.int y2, .int y1, .ref 0] h _ _
  refine AR.aload_n (ax_look_ok hk_285_507).1 (x := .ref 197) rfl rfl ?_
  refine lw_s (kd := 0) (bc' := bc + 1175) (bs' := bs + 14012) (as := [.ref 0, .int y1, .int y2, .ref 197]) hk_285_508 (by decide +kernel) rfl rfl (tk_91_ok G) rfl ⟨_, _, rfl, rfl, _, _, rfl, lw_ai _, _, _, rfl, lw_ai _, _, _, rfl, rfl, rfl⟩ I (by decide +kernel) (by decide) (by show _ + 2 ≤ _; omega) (by show _ + 12 ≤ _; omega) (by decide +kernel) (fun x3 g4 qx3 Ig4 => ?_)
  obtain ⟨z5, rfl⟩ := qx3.1 rfl
  show AR _ _ _ _ _ _ _ 511 [(4, .int i), (3, .ref 197), (2, .ref 181), (1, .ref 0), (0, .ref 1000000001)] [.int z5] g4 _ _
  refine AR.istore (ax_look_ok hk_285_511).1 (by decide +kernel) rfl ?_
  show AR _ _ _ _ _ _ _ 513 [(5, .int z5), (4, .int i), (3, .ref 197), (2, .ref 181), (1, .ref 0), (0, .ref 1000000001)] [] g4 _ _
  refine AR.aload_n (ax_look_ok hk_285_513).1 (x := .ref 181) rfl rfl ?_
  refine lw_sc hk_285_514 hk_285_515 hk_285_517 hk_285_518 hk_285_519 rfl rfl (by decide) (by decide) (by decide) i0 i1 hL (fun y6 => ?_)
  show AR _ _ _ _ _ _ _ 520 [(5, .int z5), (4, .int i), (3, .ref 197), (2, .ref 181), (1, .ref 0), (0, .ref 1000000001)] [.int y6, .ref 181] g4 _ _
  refine lw_sc hk_285_520 hk_285_521 hk_285_523 hk_285_524 hk_285_525 rfl rfl (by decide) (by decide) (by decide) i0 i1 hL (fun y7 => ?_)
  show AR _ _ _ _ _ _ _ 526 [(5, .int z5), (4, .int i), (3, .ref 197), (2, .ref 181), (1, .ref 0), (0, .ref 1000000001)] [.int y7, .int y6, .ref 181] g4 _ _
  refine lw_v (kd := 0) (bc' := bc + 1175) (bs' := bs + 14012) (r := 181) (as := [.int y6, .int y7]) hk_285_526 (by decide) (by decide +kernel) (by decide) (by decide +kernel) rfl rfl (tk_1107_ok G) rfl ⟨_, _, rfl, rfl, _, _, rfl, lw_ai _, _, _, rfl, lw_ai _, rfl⟩ Ig4 (by decide +kernel) (by decide) (by show _ + 0 ≤ _; omega) (by show _ + 0 ≤ _; omega) (by decide +kernel) (fun x8 g9 qx8 Ig9 => ?_)
  obtain ⟨z10, rfl⟩ := qx8.1 rfl
  show AR _ _ _ _ _ _ _ 529 [(5, .int z5), (4, .int i), (3, .ref 197), (2, .ref 181), (1, .ref 0), (0, .ref 1000000001)] [.int z10] g9 _ _
  refine AR.istore (ax_look_ok hk_285_529).1 (by decide +kernel) rfl ?_
  show AR _ _ _ _ _ _ _ 531 [(6, .int z10), (5, .int z5), (4, .int i), (3, .ref 197), (2, .ref 181), (1, .ref 0), (0, .ref 1000000001)] [] g9 _ _
  refine AR.goto (ax_look_ok hk_285_531).1 (tgt := 1335) (by decide) ?_
  show AR _ _ _ _ _ _ _ 1335 [(6, .int z10), (5, .int z5), (4, .int i), (3, .ref 197), (2, .ref 181), (1, .ref 0), (0, .ref 1000000001)] [] g9 _ _
  refine AR.lessL (lv' := [(4, .int i), (3, .ref 197), (2, .ref 181), (1, .ref 0), (0, .ref 1000000001)]) (List.forall_mem_cons.mpr ⟨⟨_, by simp, ax_le_rfl rfl⟩, (List.forall_mem_cons.mpr ⟨⟨_, by simp, ax_le_rfl rfl⟩, (List.forall_mem_cons.mpr ⟨⟨_, by simp, ax_le_rfl rfl⟩, (List.forall_mem_cons.mpr ⟨⟨_, by simp, ax_le_rfl rfl⟩, (List.forall_mem_cons.mpr ⟨⟨_, by simp, ax_le_rfl rfl⟩, (fun _ h => absurd h List.not_mem_nil)⟩)⟩)⟩)⟩)⟩) ?_
  exact AR.lt (by omega) (by omega) (k _ Ig9)
theorem lw_op11 (G : ty_G hy_I l) (i0 : 0 ≤ i.toInt) (i1 : i.toInt + 6 ≤ L) (hL : L ≤ 3072) (I : lw_I h) (k : ∀ h', lw_I h' → AR ax_ns l (ax_mm 285) 13 (ax_r L xs) P X 1335 [(4, .int i), (3, .ref 197), (2, .ref 181), (1, .ref 0), (0, .ref 1000000001)] [] h' bc bs) : AR ax_ns l (ax_mm 285) 13 (ax_r L xs) P X 534 [(4, .int i), (3, .ref 197), (2, .ref 181), (1, .ref 0), (0, .ref 1000000001)] [] h (bc + 1177) (bs + 14024) := by
  refine AR.aload_n (ax_look_ok hk_285_534).1 (x := .ref 0) rfl rfl ?_
  refine lw_sc hk_285_535 hk_285_536 hk_285_538 hk_285_539 hk_285_540 rfl rfl (by decide) (by decide) (by decide) i0 i1 hL (fun y1 => ?_)
  show AR _ _ _ _ _ _ _ 541 [(4, .int i), (3, .ref 197), (2, .ref 181), (1, .ref 0), (0, .ref 1000000001)] [.int y1, .ref 0] h _ _
  refine AR.aload_n (ax_look_ok hk_285_541).1 (x := .ref 197) rfl rfl ?_
  refine lw_s (kd := 0) (bc' := bc + 1176) (bs' := bs + 14018) (as := [.ref 0, .int y1, .ref 197]) hk_285_542 (by decide +kernel) rfl rfl (tk_93_ok G) rfl ⟨_, _, rfl, rfl, _, _, rfl, lw_ai _, _, _, rfl, rfl, rfl⟩ I (by decide +kernel) (by decide) (by show _ + 1 ≤ _; omega) (by show _ + 6 ≤ _; omega) (by decide +kernel) (fun x2 g3 qx2 Ig3 => ?_)
  obtain ⟨z4, rfl⟩ := qx2.1 rfl
  show AR _ _ _ _ _ _ _ 545 [(4, .int i), (3, .ref 197), (2, .ref 181), (1, .ref 0), (0, .ref 1000000001)] [.int z4] g3 _ _
  refine AR.istore (ax_look_ok hk_285_545).1 (by decide +kernel) rfl ?_
  show AR _ _ _ _ _ _ _ 547 [(5, .int z4), (4, .int i), (3, .ref 197), (2, .ref 181), (1, .ref 0), (0, .ref 1000000001)] [] g3 _ _
  refine AR.aload_n (ax_look_ok hk_285_547).1 (x := .ref 181) rfl rfl ?_
  refine lw_sc hk_285_548 hk_285_549 hk_285_551 hk_285_552 hk_285_553 rfl rfl (by decide) (by decide) (by decide) i0 i1 hL (fun y5 => ?_)
  show AR _ _ _ _ _ _ _ 554 [(5, .int z4), (4, .int i), (3, .ref 197), (2, .ref 181), (1, .ref 0), (0, .ref 1000000001)] [.int y5, .ref 181] g3 _ _
  refine lw_v (kd := 1) (bc' := bc + 1176) (bs' := bs + 14018) (r := 181) (as := [.int y5]) hk_285_554 (by decide) (by decide +kernel) (by decide) (by decide +kernel) rfl rfl (tk_1109_ok G) rfl ⟨_, _, rfl, rfl, _, _, rfl, lw_ai _, rfl⟩ Ig3 (by decide +kernel) (by decide) (by show _ + 0 ≤ _; omega) (by show _ + 0 ≤ _; omega) (by decide +kernel) (fun x6 g7 qx6 Ig7 => ?_)
  obtain ⟨z8, rfl⟩ := qx6.2 rfl
  show AR _ _ _ _ _ _ _ 557 [(5, .int z4), (4, .int i), (3, .ref 197), (2, .ref 181), (1, .ref 0), (0, .ref 1000000001)] [.long z8] g7 _ _
  refine AR.lstore (ax_look_ok hk_285_557).1 (by decide +kernel) rfl ?_
  show AR _ _ _ _ _ _ _ 559 [(6, .long z8), (5, .int z4), (4, .int i), (3, .ref 197), (2, .ref 181), (1, .ref 0), (0, .ref 1000000001)] [] g7 _ _
  refine AR.goto (ax_look_ok hk_285_559).1 (tgt := 1335) (by decide) ?_
  show AR _ _ _ _ _ _ _ 1335 [(6, .long z8), (5, .int z4), (4, .int i), (3, .ref 197), (2, .ref 181), (1, .ref 0), (0, .ref 1000000001)] [] g7 _ _
  refine AR.lessL (lv' := [(4, .int i), (3, .ref 197), (2, .ref 181), (1, .ref 0), (0, .ref 1000000001)]) (List.forall_mem_cons.mpr ⟨⟨_, by simp, ax_le_rfl rfl⟩, (List.forall_mem_cons.mpr ⟨⟨_, by simp, ax_le_rfl rfl⟩, (List.forall_mem_cons.mpr ⟨⟨_, by simp, ax_le_rfl rfl⟩, (List.forall_mem_cons.mpr ⟨⟨_, by simp, ax_le_rfl rfl⟩, (List.forall_mem_cons.mpr ⟨⟨_, by simp, ax_le_rfl rfl⟩, (fun _ h => absurd h List.not_mem_nil)⟩)⟩)⟩)⟩)⟩) ?_
  exact AR.lt (by omega) (by omega) (k _ Ig7)
theorem lw_op12 (G : ty_G hy_I l) (i0 : 0 ≤ i.toInt) (i1 : i.toInt + 6 ≤ L) (hL : L ≤ 3072) (I : lw_I h) (k : ∀ h', lw_I h' → AR ax_ns l (ax_mm 285) 13 (ax_r L xs) P X 1335 [(4, .int i), (3, .ref 197), (2, .ref 181), (1, .ref 0), (0, .ref 1000000001)] [] h' bc bs) : AR ax_ns l (ax_mm 285) 13 (ax_r L xs) P X 562 [(4, .int i), (3, .ref 197), (2, .ref 181), (1, .ref 0), (0, .ref 1000000001)] [] h (bc + 1177) (bs + 14024) := by
  refine AR.aload_n (ax_look_ok hk_285_562).1 (x := .ref 0) rfl rfl ?_
  refine lw_sc hk_285_563 hk_285_564 hk_285_566 hk_285_567 hk_285_568 rfl rfl (by decide) (by decide) (by decide) i0 i1 hL (fun y1 => ?_)
  show AR _ _ _ _ _ _ _ 569 [(4, .int i), (3, .ref 197), (2, .ref 181), (1, .ref 0), (0, .ref 1000000001)] [.int y1, .ref 0] h _ _
  refine AR.aload_n (ax_look_ok hk_285_569).1 (x := .ref 197) rfl rfl ?_
  refine lw_s (kd := 0) (bc' := bc + 1176) (bs' := bs + 14018) (as := [.ref 0, .int y1, .ref 197]) hk_285_570 (by decide +kernel) rfl rfl (tk_97_ok G) rfl ⟨_, _, rfl, rfl, _, _, rfl, lw_ai _, _, _, rfl, rfl, rfl⟩ I (by decide +kernel) (by decide) (by show _ + 1 ≤ _; omega) (by show _ + 6 ≤ _; omega) (by decide +kernel) (fun x2 g3 qx2 Ig3 => ?_)
  obtain ⟨z4, rfl⟩ := qx2.1 rfl
  show AR _ _ _ _ _ _ _ 573 [(4, .int i), (3, .ref 197), (2, .ref 181), (1, .ref 0), (0, .ref 1000000001)] [.int z4] g3 _ _
  refine AR.istore (ax_look_ok hk_285_573).1 (by decide +kernel) rfl ?_
  show AR _ _ _ _ _ _ _ 575 [(5, .int z4), (4, .int i), (3, .ref 197), (2, .ref 181), (1, .ref 0), (0, .ref 1000000001)] [] g3 _ _
  refine AR.aload_n (ax_look_ok hk_285_575).1 (x := .ref 181) rfl rfl ?_
  refine lw_sc hk_285_576 hk_285_577 hk_285_579 hk_285_580 hk_285_581 rfl rfl (by decide) (by decide) (by decide) i0 i1 hL (fun y5 => ?_)
  show AR _ _ _ _ _ _ _ 582 [(5, .int z4), (4, .int i), (3, .ref 197), (2, .ref 181), (1, .ref 0), (0, .ref 1000000001)] [.int y5, .ref 181] g3 _ _
  refine lw_v (kd := 0) (bc' := bc + 1175) (bs' := bs + 13994) (r := 181) (as := [.int y5]) hk_285_582 (by decide) (by decide +kernel) (by decide) (by decide +kernel) rfl rfl (tk_1111_ok G) rfl ⟨_, _, rfl, rfl, _, _, rfl, lw_ai _, rfl⟩ Ig3 (by decide +kernel) (by decide) (by show _ + 1 ≤ _; omega) (by show _ + 24 ≤ _; omega) (by decide +kernel) (fun x6 g7 qx6 Ig7 => ?_)
  obtain ⟨z8, rfl⟩ := qx6.1 rfl
  show AR _ _ _ _ _ _ _ 585 [(5, .int z4), (4, .int i), (3, .ref 197), (2, .ref 181), (1, .ref 0), (0, .ref 1000000001)] [.int z8] g7 _ _
  refine AR.istore (ax_look_ok hk_285_585).1 (by decide +kernel) rfl ?_
  show AR _ _ _ _ _ _ _ 587 [(6, .int z8), (5, .int z4), (4, .int i), (3, .ref 197), (2, .ref 181), (1, .ref 0), (0, .ref 1000000001)] [] g7 _ _
  refine AR.goto (ax_look_ok hk_285_587).1 (tgt := 1335) (by decide) ?_
  show AR _ _ _ _ _ _ _ 1335 [(6, .int z8), (5, .int z4), (4, .int i), (3, .ref 197), (2, .ref 181), (1, .ref 0), (0, .ref 1000000001)] [] g7 _ _
  refine AR.lessL (lv' := [(4, .int i), (3, .ref 197), (2, .ref 181), (1, .ref 0), (0, .ref 1000000001)]) (List.forall_mem_cons.mpr ⟨⟨_, by simp, ax_le_rfl rfl⟩, (List.forall_mem_cons.mpr ⟨⟨_, by simp, ax_le_rfl rfl⟩, (List.forall_mem_cons.mpr ⟨⟨_, by simp, ax_le_rfl rfl⟩, (List.forall_mem_cons.mpr ⟨⟨_, by simp, ax_le_rfl rfl⟩, (List.forall_mem_cons.mpr ⟨⟨_, by simp, ax_le_rfl rfl⟩, (fun _ h => absurd h List.not_mem_nil)⟩)⟩)⟩)⟩)⟩) ?_
  exact AR.lt (by omega) (by omega) (k _ Ig7)
theorem lw_op13 (G : ty_G hy_I l) (i0 : 0 ≤ i.toInt) (i1 : i.toInt + 6 ≤ L) (hL : L ≤ 3072) (I : lw_I h) (k : ∀ h', lw_I h' → AR ax_ns l (ax_mm 285) 13 (ax_r L xs) P X 1335 [(4, .int i), (3, .ref 197), (2, .ref 181), (1, .ref 0), (0, .ref 1000000001)] [] h' bc bs) : AR ax_ns l (ax_mm 285) 13 (ax_r L xs) P X 590 [(4, .int i), (3, .ref 197), (2, .ref 181), (1, .ref 0), (0, .ref 1000000001)] [] h (bc + 1177) (bs + 14024) := by
  refine AR.aload_n (ax_look_ok hk_285_590).1 (x := .ref 0) rfl rfl ?_
  refine lw_sc hk_285_591 hk_285_592 hk_285_594 hk_285_595 hk_285_596 rfl rfl (by decide) (by decide) (by decide) i0 i1 hL (fun y1 => ?_)
  show AR _ _ _ _ _ _ _ 597 [(4, .int i), (3, .ref 197), (2, .ref 181), (1, .ref 0), (0, .ref 1000000001)] [.int y1, .ref 0] h _ _
  refine lw_sc hk_285_597 hk_285_598 hk_285_600 hk_285_601 hk_285_602 rfl rfl (by decide) (by decide) (by decide) i0 i1 hL (fun y2 => ?_)
  show AR _ _ _ _ _ _ _ 603 [(4, .int i), (3, .ref 197), (2, .ref 181), (1, .ref 0), (0, .ref 1000000001)] [.int y2, .int y1, .ref 0] h _ _
  refine AR.aload_n (ax_look_ok hk_285_603).1 (x := .ref 197) rfl rfl ?_
  refine lw_s (kd := 0) (bc' := bc + 1173) (bs' := bs + 14000) (as := [.ref 0, .int y1, .int y2, .ref 197]) hk_285_604 (by decide +kernel) rfl rfl (tk_107_ok G) rfl ⟨_, _, rfl, rfl, _, _, rfl, lw_ai _, _, _, rfl, lw_ai _, _, _, rfl, rfl, rfl⟩ I (by decide +kernel) (by decide) (by show _ + 4 ≤ _; omega) (by show _ + 24 ≤ _; omega) (by decide +kernel) (fun x3 g4 qx3 Ig4 => ?_)
  obtain ⟨z5, rfl⟩ := qx3.1 rfl
  show AR _ _ _ _ _ _ _ 607 [(4, .int i), (3, .ref 197), (2, .ref 181), (1, .ref 0), (0, .ref 1000000001)] [.int z5] g4 _ _
  refine AR.istore (ax_look_ok hk_285_607).1 (by decide +kernel) rfl ?_
  show AR _ _ _ _ _ _ _ 609 [(5, .int z5), (4, .int i), (3, .ref 197), (2, .ref 181), (1, .ref 0), (0, .ref 1000000001)] [] g4 _ _
  refine AR.aload_n (ax_look_ok hk_285_609).1 (x := .ref 181) rfl rfl ?_
  refine lw_sc hk_285_610 hk_285_611 hk_285_613 hk_285_614 hk_285_615 rfl rfl (by decide) (by decide) (by decide) i0 i1 hL (fun y6 => ?_)
  show AR _ _ _ _ _ _ _ 616 [(5, .int z5), (4, .int i), (3, .ref 197), (2, .ref 181), (1, .ref 0), (0, .ref 1000000001)] [.int y6, .ref 181] g4 _ _
  refine lw_sc hk_285_616 hk_285_617 hk_285_619 hk_285_620 hk_285_621 rfl rfl (by decide) (by decide) (by decide) i0 i1 hL (fun y7 => ?_)
  show AR _ _ _ _ _ _ _ 622 [(5, .int z5), (4, .int i), (3, .ref 197), (2, .ref 181), (1, .ref 0), (0, .ref 1000000001)] [.int y7, .int y6, .ref 181] g4 _ _
  refine lw_v (kd := 0) (bc' := bc + 1173) (bs' := bs + 14000) (r := 181) (as := [.int y6, .int y7]) hk_285_622 (by decide) (by decide +kernel) (by decide) (by decide +kernel) rfl rfl (tk_1123_ok G) rfl ⟨_, _, rfl, rfl, _, _, rfl, lw_ai _, _, _, rfl, lw_ai _, rfl⟩ Ig4 (by decide +kernel) (by decide) (by show _ + 0 ≤ _; omega) (by show _ + 0 ≤ _; omega) (by decide +kernel) (fun x8 g9 qx8 Ig9 => ?_)
  obtain ⟨z10, rfl⟩ := qx8.1 rfl
  show AR _ _ _ _ _ _ _ 625 [(5, .int z5), (4, .int i), (3, .ref 197), (2, .ref 181), (1, .ref 0), (0, .ref 1000000001)] [.int z10] g9 _ _
  refine AR.istore (ax_look_ok hk_285_625).1 (by decide +kernel) rfl ?_
  show AR _ _ _ _ _ _ _ 627 [(6, .int z10), (5, .int z5), (4, .int i), (3, .ref 197), (2, .ref 181), (1, .ref 0), (0, .ref 1000000001)] [] g9 _ _
  refine AR.goto (ax_look_ok hk_285_627).1 (tgt := 1335) (by decide) ?_
  show AR _ _ _ _ _ _ _ 1335 [(6, .int z10), (5, .int z5), (4, .int i), (3, .ref 197), (2, .ref 181), (1, .ref 0), (0, .ref 1000000001)] [] g9 _ _
  refine AR.lessL (lv' := [(4, .int i), (3, .ref 197), (2, .ref 181), (1, .ref 0), (0, .ref 1000000001)]) (List.forall_mem_cons.mpr ⟨⟨_, by simp, ax_le_rfl rfl⟩, (List.forall_mem_cons.mpr ⟨⟨_, by simp, ax_le_rfl rfl⟩, (List.forall_mem_cons.mpr ⟨⟨_, by simp, ax_le_rfl rfl⟩, (List.forall_mem_cons.mpr ⟨⟨_, by simp, ax_le_rfl rfl⟩, (List.forall_mem_cons.mpr ⟨⟨_, by simp, ax_le_rfl rfl⟩, (fun _ h => absurd h List.not_mem_nil)⟩)⟩)⟩)⟩)⟩) ?_
  exact AR.lt (by omega) (by omega) (k _ Ig9)
theorem lw_op14 (G : ty_G hy_I l) (i0 : 0 ≤ i.toInt) (i1 : i.toInt + 6 ≤ L) (hL : L ≤ 3072) (I : lw_I h) (k : ∀ h', lw_I h' → AR ax_ns l (ax_mm 285) 13 (ax_r L xs) P X 1335 [(4, .int i), (3, .ref 197), (2, .ref 181), (1, .ref 0), (0, .ref 1000000001)] [] h' bc bs) : AR ax_ns l (ax_mm 285) 13 (ax_r L xs) P X 630 [(4, .int i), (3, .ref 197), (2, .ref 181), (1, .ref 0), (0, .ref 1000000001)] [] h (bc + 1177) (bs + 14024) := by
  refine AR.aload_n (ax_look_ok hk_285_630).1 (x := .ref 0) rfl rfl ?_
  refine lw_sc hk_285_631 hk_285_632 hk_285_634 hk_285_635 hk_285_636 rfl rfl (by decide) (by decide) (by decide) i0 i1 hL (fun y1 => ?_)
  show AR _ _ _ _ _ _ _ 637 [(4, .int i), (3, .ref 197), (2, .ref 181), (1, .ref 0), (0, .ref 1000000001)] [.int y1, .ref 0] h _ _
  refine lw_sc hk_285_637 hk_285_638 hk_285_640 hk_285_641 hk_285_642 rfl rfl (by decide) (by decide) (by decide) i0 i1 hL (fun y2 => ?_)
  show AR _ _ _ _ _ _ _ 643 [(4, .int i), (3, .ref 197), (2, .ref 181), (1, .ref 0), (0, .ref 1000000001)] [.int y2, .int y1, .ref 0] h _ _
  refine AR.aload_n (ax_look_ok hk_285_643).1 (x := .ref 197) rfl rfl ?_
  refine lw_s (kd := 0) (bc' := bc + 1174) (bs' := bs + 14006) (as := [.ref 0, .int y1, .int y2, .ref 197]) hk_285_644 (by decide +kernel) rfl rfl (tk_109_ok G) rfl ⟨_, _, rfl, rfl, _, _, rfl, lw_ai _, _, _, rfl, lw_ai _, _, _, rfl, rfl, rfl⟩ I (by decide +kernel) (by decide) (by show _ + 3 ≤ _; omega) (by show _ + 18 ≤ _; omega) (by decide +kernel) (fun x3 g4 qx3 Ig4 => ?_)
  obtain ⟨z5, rfl⟩ := qx3.1 rfl
  show AR _ _ _ _ _ _ _ 647 [(4, .int i), (3, .ref 197), (2, .ref 181), (1, .ref 0), (0, .ref 1000000001)] [.int z5] g4 _ _
  refine AR.istore (ax_look_ok hk_285_647).1 (by decide +kernel) rfl ?_
  show AR _ _ _ _ _ _ _ 649 [(5, .int z5), (4, .int i), (3, .ref 197), (2, .ref 181), (1, .ref 0), (0, .ref 1000000001)] [] g4 _ _
  refine AR.aload_n (ax_look_ok hk_285_649).1 (x := .ref 181) rfl rfl ?_
  refine lw_sc hk_285_650 hk_285_651 hk_285_653 hk_285_654 hk_285_655 rfl rfl (by decide) (by decide) (by decide) i0 i1 hL (fun y6 => ?_)
  show AR _ _ _ _ _ _ _ 656 [(5, .int z5), (4, .int i), (3, .ref 197), (2, .ref 181), (1, .ref 0), (0, .ref 1000000001)] [.int y6, .ref 181] g4 _ _
  refine lw_sc hk_285_656 hk_285_657 hk_285_659 hk_285_660 hk_285_661 rfl rfl (by decide) (by decide) (by decide) i0 i1 hL (fun y7 => ?_)
  show AR _ _ _ _ _ _ _ 662 [(5, .int z5), (4, .int i), (3, .ref 197), (2, .ref 181), (1, .ref 0), (0, .ref 1000000001)] [.int y7, .int y6, .ref 181] g4 _ _
  refine lw_v (kd := 0) (bc' := bc + 1174) (bs' := bs + 14006) (r := 181) (as := [.int y6, .int y7]) hk_285_662 (by decide) (by decide +kernel) (by decide) (by decide +kernel) rfl rfl (tk_1128_ok G) rfl ⟨_, _, rfl, rfl, _, _, rfl, lw_ai _, _, _, rfl, lw_ai _, rfl⟩ Ig4 (by decide +kernel) (by decide) (by show _ + 0 ≤ _; omega) (by show _ + 0 ≤ _; omega) (by decide +kernel) (fun x8 g9 qx8 Ig9 => ?_)
  obtain ⟨z10, rfl⟩ := qx8.1 rfl
  show AR _ _ _ _ _ _ _ 665 [(5, .int z5), (4, .int i), (3, .ref 197), (2, .ref 181), (1, .ref 0), (0, .ref 1000000001)] [.int z10] g9 _ _
  refine AR.istore (ax_look_ok hk_285_665).1 (by decide +kernel) rfl ?_
  show AR _ _ _ _ _ _ _ 667 [(6, .int z10), (5, .int z5), (4, .int i), (3, .ref 197), (2, .ref 181), (1, .ref 0), (0, .ref 1000000001)] [] g9 _ _
  refine AR.goto (ax_look_ok hk_285_667).1 (tgt := 1335) (by decide) ?_
  show AR _ _ _ _ _ _ _ 1335 [(6, .int z10), (5, .int z5), (4, .int i), (3, .ref 197), (2, .ref 181), (1, .ref 0), (0, .ref 1000000001)] [] g9 _ _
  refine AR.lessL (lv' := [(4, .int i), (3, .ref 197), (2, .ref 181), (1, .ref 0), (0, .ref 1000000001)]) (List.forall_mem_cons.mpr ⟨⟨_, by simp, ax_le_rfl rfl⟩, (List.forall_mem_cons.mpr ⟨⟨_, by simp, ax_le_rfl rfl⟩, (List.forall_mem_cons.mpr ⟨⟨_, by simp, ax_le_rfl rfl⟩, (List.forall_mem_cons.mpr ⟨⟨_, by simp, ax_le_rfl rfl⟩, (List.forall_mem_cons.mpr ⟨⟨_, by simp, ax_le_rfl rfl⟩, (fun _ h => absurd h List.not_mem_nil)⟩)⟩)⟩)⟩)⟩) ?_
  exact AR.lt (by omega) (by omega) (k _ Ig9)
theorem lw_op15 (G : ty_G hy_I l) (i0 : 0 ≤ i.toInt) (i1 : i.toInt + 6 ≤ L) (hL : L ≤ 3072) (I : lw_I h) (k : ∀ h', lw_I h' → AR ax_ns l (ax_mm 285) 13 (ax_r L xs) P X 1335 [(4, .int i), (3, .ref 197), (2, .ref 181), (1, .ref 0), (0, .ref 1000000001)] [] h' bc bs) : AR ax_ns l (ax_mm 285) 13 (ax_r L xs) P X 670 [(4, .int i), (3, .ref 197), (2, .ref 181), (1, .ref 0), (0, .ref 1000000001)] [] h (bc + 1177) (bs + 14024) := by
  refine AR.aload_n (ax_look_ok hk_285_670).1 (x := .ref 0) rfl rfl ?_
  refine lw_sc hk_285_671 hk_285_672 hk_285_674 hk_285_675 hk_285_676 rfl rfl (by decide) (by decide) (by decide) i0 i1 hL (fun y1 => ?_)
  show AR _ _ _ _ _ _ _ 677 [(4, .int i), (3, .ref 197), (2, .ref 181), (1, .ref 0), (0, .ref 1000000001)] [.int y1, .ref 0] h _ _
  refine lw_sc hk_285_677 hk_285_678 hk_285_680 hk_285_681 hk_285_682 rfl rfl (by decide) (by decide) (by decide) i0 i1 hL (fun y2 => ?_)
  show AR _ _ _ _ _ _ _ 683 [(4, .int i), (3, .ref 197), (2, .ref 181), (1, .ref 0), (0, .ref 1000000001)] [.int y2, .int y1, .ref 0] h _ _
  refine AR.aload_n (ax_look_ok hk_285_683).1 (x := .ref 197) rfl rfl ?_
  refine lw_s (kd := 0) (bc' := bc + 1175) (bs' := bs + 14012) (as := [.ref 0, .int y1, .int y2, .ref 197]) hk_285_684 (by decide +kernel) rfl rfl (tk_112_ok G) rfl ⟨_, _, rfl, rfl, _, _, rfl, lw_ai _, _, _, rfl, lw_ai _, _, _, rfl, rfl, rfl⟩ I (by decide +kernel) (by decide) (by show _ + 2 ≤ _; omega) (by show _ + 12 ≤ _; omega) (by decide +kernel) (fun x3 g4 qx3 Ig4 => ?_)
  obtain ⟨z5, rfl⟩ := qx3.1 rfl
  show AR _ _ _ _ _ _ _ 687 [(4, .int i), (3, .ref 197), (2, .ref 181), (1, .ref 0), (0, .ref 1000000001)] [.int z5] g4 _ _
  refine AR.istore (ax_look_ok hk_285_687).1 (by decide +kernel) rfl ?_
  show AR _ _ _ _ _ _ _ 689 [(5, .int z5), (4, .int i), (3, .ref 197), (2, .ref 181), (1, .ref 0), (0, .ref 1000000001)] [] g4 _ _
  refine AR.aload_n (ax_look_ok hk_285_689).1 (x := .ref 181) rfl rfl ?_
  refine lw_sc hk_285_690 hk_285_691 hk_285_693 hk_285_694 hk_285_695 rfl rfl (by decide) (by decide) (by decide) i0 i1 hL (fun y6 => ?_)
  show AR _ _ _ _ _ _ _ 696 [(5, .int z5), (4, .int i), (3, .ref 197), (2, .ref 181), (1, .ref 0), (0, .ref 1000000001)] [.int y6, .ref 181] g4 _ _
  refine lw_sc hk_285_696 hk_285_697 hk_285_699 hk_285_700 hk_285_701 rfl rfl (by decide) (by decide) (by decide) i0 i1 hL (fun y7 => ?_)
  show AR _ _ _ _ _ _ _ 702 [(5, .int z5), (4, .int i), (3, .ref 197), (2, .ref 181), (1, .ref 0), (0, .ref 1000000001)] [.int y7, .int y6, .ref 181] g4 _ _
  refine lw_v (kd := 0) (bc' := bc + 1175) (bs' := bs + 14012) (r := 181) (as := [.int y6, .int y7]) hk_285_702 (by decide) (by decide +kernel) (by decide) (by decide +kernel) rfl rfl (tk_1131_ok G) rfl ⟨_, _, rfl, rfl, _, _, rfl, lw_ai _, _, _, rfl, lw_ai _, rfl⟩ Ig4 (by decide +kernel) (by decide) (by show _ + 0 ≤ _; omega) (by show _ + 0 ≤ _; omega) (by decide +kernel) (fun x8 g9 qx8 Ig9 => ?_)
  obtain ⟨z10, rfl⟩ := qx8.1 rfl
  show AR _ _ _ _ _ _ _ 705 [(5, .int z5), (4, .int i), (3, .ref 197), (2, .ref 181), (1, .ref 0), (0, .ref 1000000001)] [.int z10] g9 _ _
  refine AR.istore (ax_look_ok hk_285_705).1 (by decide +kernel) rfl ?_
  show AR _ _ _ _ _ _ _ 707 [(6, .int z10), (5, .int z5), (4, .int i), (3, .ref 197), (2, .ref 181), (1, .ref 0), (0, .ref 1000000001)] [] g9 _ _
  refine AR.goto (ax_look_ok hk_285_707).1 (tgt := 1335) (by decide) ?_
  show AR _ _ _ _ _ _ _ 1335 [(6, .int z10), (5, .int z5), (4, .int i), (3, .ref 197), (2, .ref 181), (1, .ref 0), (0, .ref 1000000001)] [] g9 _ _
  refine AR.lessL (lv' := [(4, .int i), (3, .ref 197), (2, .ref 181), (1, .ref 0), (0, .ref 1000000001)]) (List.forall_mem_cons.mpr ⟨⟨_, by simp, ax_le_rfl rfl⟩, (List.forall_mem_cons.mpr ⟨⟨_, by simp, ax_le_rfl rfl⟩, (List.forall_mem_cons.mpr ⟨⟨_, by simp, ax_le_rfl rfl⟩, (List.forall_mem_cons.mpr ⟨⟨_, by simp, ax_le_rfl rfl⟩, (List.forall_mem_cons.mpr ⟨⟨_, by simp, ax_le_rfl rfl⟩, (fun _ h => absurd h List.not_mem_nil)⟩)⟩)⟩)⟩)⟩) ?_
  exact AR.lt (by omega) (by omega) (k _ Ig9)
theorem lw_op16 (G : ty_G hy_I l) (i0 : 0 ≤ i.toInt) (i1 : i.toInt + 6 ≤ L) (hL : L ≤ 3072) (I : lw_I h) (k : ∀ h', lw_I h' → AR ax_ns l (ax_mm 285) 13 (ax_r L xs) P X 1335 [(4, .int i), (3, .ref 197), (2, .ref 181), (1, .ref 0), (0, .ref 1000000001)] [] h' bc bs) : AR ax_ns l (ax_mm 285) 13 (ax_r L xs) P X 710 [(4, .int i), (3, .ref 197), (2, .ref 181), (1, .ref 0), (0, .ref 1000000001)] [] h (bc + 1177) (bs + 14024) := by
  refine AR.aload_n (ax_look_ok hk_285_710).1 (x := .ref 0) rfl rfl ?_
  refine lw_sc hk_285_711 hk_285_712 hk_285_714 hk_285_715 hk_285_716 rfl rfl (by decide) (by decide) (by decide) i0 i1 hL (fun y1 => ?_)
  show AR _ _ _ _ _ _ _ 717 [(4, .int i), (3, .ref 197), (2, .ref 181), (1, .ref 0), (0, .ref 1000000001)] [.int y1, .ref 0] h _ _
  refine AR.aload_n (ax_look_ok hk_285_717).1 (x := .ref 197) rfl rfl ?_
  refine lw_s (kd := 0) (bc' := bc + 1175) (bs' := bs + 14012) (as := [.ref 0, .int y1, .ref 197]) hk_285_718 (by decide +kernel) rfl rfl (tk_115_ok G) rfl ⟨_, _, rfl, rfl, _, _, rfl, lw_ai _, _, _, rfl, rfl, rfl⟩ I (by decide +kernel) (by decide) (by show _ + 2 ≤ _; omega) (by show _ + 12 ≤ _; omega) (by decide +kernel) (fun x2 g3 qx2 Ig3 => ?_)
  obtain ⟨z4, rfl⟩ := qx2.1 rfl
  show AR _ _ _ _ _ _ _ 721 [(4, .int i), (3, .ref 197), (2, .ref 181), (1, .ref 0), (0, .ref 1000000001)] [.int z4] g3 _ _
  refine AR.istore (ax_look_ok hk_285_721).1 (by decide +kernel) rfl ?_
  show AR _ _ _ _ _ _ _ 723 [(5, .int z4), (4, .int i), (3, .ref 197), (2, .ref 181), (1, .ref 0), (0, .ref 1000000001)] [] g3 _ _
  refine AR.aload_n (ax_look_ok hk_285_723).1 (x := .ref 181) rfl rfl ?_
  refine lw_sc hk_285_724 hk_285_725 hk_285_727 hk_285_728 hk_285_729 rfl rfl (by decide) (by decide) (by decide) i0 i1 hL (fun y5 => ?_)
  show AR _ _ _ _ _ _ _ 730 [(5, .int z4), (4, .int i), (3, .ref 197), (2, .ref 181), (1, .ref 0), (0, .ref 1000000001)] [.int y5, .ref 181] g3 _ _
  refine lw_v (kd := 0) (bc' := bc + 1175) (bs' := bs + 14012) (r := 181) (as := [.int y5]) hk_285_730 (by decide) (by decide +kernel) (by decide) (by decide +kernel) rfl rfl (tk_1132_ok G) rfl ⟨_, _, rfl, rfl, _, _, rfl, lw_ai _, rfl⟩ Ig3 (by decide +kernel) (by decide) (by show _ + 0 ≤ _; omega) (by show _ + 0 ≤ _; omega) (by decide +kernel) (fun x6 g7 qx6 Ig7 => ?_)
  obtain ⟨z8, rfl⟩ := qx6.1 rfl
  show AR _ _ _ _ _ _ _ 733 [(5, .int z4), (4, .int i), (3, .ref 197), (2, .ref 181), (1, .ref 0), (0, .ref 1000000001)] [.int z8] g7 _ _
  refine AR.istore (ax_look_ok hk_285_733).1 (by decide +kernel) rfl ?_
  show AR _ _ _ _ _ _ _ 735 [(6, .int z8), (5, .int z4), (4, .int i), (3, .ref 197), (2, .ref 181), (1, .ref 0), (0, .ref 1000000001)] [] g7 _ _
  refine AR.goto (ax_look_ok hk_285_735).1 (tgt := 1335) (by decide) ?_
  show AR _ _ _ _ _ _ _ 1335 [(6, .int z8), (5, .int z4), (4, .int i), (3, .ref 197), (2, .ref 181), (1, .ref 0), (0, .ref 1000000001)] [] g7 _ _
  refine AR.lessL (lv' := [(4, .int i), (3, .ref 197), (2, .ref 181), (1, .ref 0), (0, .ref 1000000001)]) (List.forall_mem_cons.mpr ⟨⟨_, by simp, ax_le_rfl rfl⟩, (List.forall_mem_cons.mpr ⟨⟨_, by simp, ax_le_rfl rfl⟩, (List.forall_mem_cons.mpr ⟨⟨_, by simp, ax_le_rfl rfl⟩, (List.forall_mem_cons.mpr ⟨⟨_, by simp, ax_le_rfl rfl⟩, (List.forall_mem_cons.mpr ⟨⟨_, by simp, ax_le_rfl rfl⟩, (fun _ h => absurd h List.not_mem_nil)⟩)⟩)⟩)⟩)⟩) ?_
  exact AR.lt (by omega) (by omega) (k _ Ig7)
theorem lw_op17 (G : ty_G hy_I l) (i0 : 0 ≤ i.toInt) (i1 : i.toInt + 6 ≤ L) (hL : L ≤ 3072) (I : lw_I h) (k : ∀ h', lw_I h' → AR ax_ns l (ax_mm 285) 13 (ax_r L xs) P X 1335 [(4, .int i), (3, .ref 197), (2, .ref 181), (1, .ref 0), (0, .ref 1000000001)] [] h' bc bs) : AR ax_ns l (ax_mm 285) 13 (ax_r L xs) P X 738 [(4, .int i), (3, .ref 197), (2, .ref 181), (1, .ref 0), (0, .ref 1000000001)] [] h (bc + 1177) (bs + 14024) := by
  refine AR.aload_n (ax_look_ok hk_285_738).1 (x := .ref 0) rfl rfl ?_
  refine lw_sc hk_285_739 hk_285_740 hk_285_742 hk_285_743 hk_285_744 rfl rfl (by decide) (by decide) (by decide) i0 i1 hL (fun y1 => ?_)
  show AR _ _ _ _ _ _ _ 745 [(4, .int i), (3, .ref 197), (2, .ref 181), (1, .ref 0), (0, .ref 1000000001)] [.int y1, .ref 0] h _ _
  refine lw_sc hk_285_745 hk_285_746 hk_285_748 hk_285_749 hk_285_750 rfl rfl (by decide) (by decide) (by decide) i0 i1 hL (fun y2 => ?_)
  show AR _ _ _ _ _ _ _ 751 [(4, .int i), (3, .ref 197), (2, .ref 181), (1, .ref 0), (0, .ref 1000000001)] [.int y2, .int y1, .ref 0] h _ _
  refine AR.aload_n (ax_look_ok hk_285_751).1 (x := .ref 197) rfl rfl ?_
  refine lw_s (kd := 0) (bc' := bc + 1175) (bs' := bs + 14012) (as := [.ref 0, .int y1, .int y2, .ref 197]) hk_285_752 (by decide +kernel) rfl rfl (tk_123_ok G) rfl ⟨_, _, rfl, rfl, _, _, rfl, lw_ai _, _, _, rfl, lw_ai _, _, _, rfl, rfl, rfl⟩ I (by decide +kernel) (by decide) (by show _ + 2 ≤ _; omega) (by show _ + 12 ≤ _; omega) (by decide +kernel) (fun x3 g4 qx3 Ig4 => ?_)
  obtain ⟨z5, rfl⟩ := qx3.1 rfl
  show AR _ _ _ _ _ _ _ 755 [(4, .int i), (3, .ref 197), (2, .ref 181), (1, .ref 0), (0, .ref 1000000001)] [.int z5] g4 _ _
  refine AR.istore (ax_look_ok hk_285_755).1 (by decide +kernel) rfl ?_
  show AR _ _ _ _ _ _ _ 757 [(5, .int z5), (4, .int i), (3, .ref 197), (2, .ref 181), (1, .ref 0), (0, .ref 1000000001)] [] g4 _ _
  refine AR.aload_n (ax_look_ok hk_285_757).1 (x := .ref 181) rfl rfl ?_
  refine lw_sc hk_285_758 hk_285_759 hk_285_761 hk_285_762 hk_285_763 rfl rfl (by decide) (by decide) (by decide) i0 i1 hL (fun y6 => ?_)
  show AR _ _ _ _ _ _ _ 764 [(5, .int z5), (4, .int i), (3, .ref 197), (2, .ref 181), (1, .ref 0), (0, .ref 1000000001)] [.int y6, .ref 181] g4 _ _
  refine lw_sc hk_285_764 hk_285_765 hk_285_767 hk_285_768 hk_285_769 rfl rfl (by decide) (by decide) (by decide) i0 i1 hL (fun y7 => ?_)
  show AR _ _ _ _ _ _ _ 770 [(5, .int z5), (4, .int i), (3, .ref 197), (2, .ref 181), (1, .ref 0), (0, .ref 1000000001)] [.int y7, .int y6, .ref 181] g4 _ _
  refine lw_v (kd := 0) (bc' := bc + 1175) (bs' := bs + 14012) (r := 181) (as := [.int y6, .int y7]) hk_285_770 (by decide) (by decide +kernel) (by decide) (by decide +kernel) rfl rfl (tk_1136_ok G) rfl ⟨_, _, rfl, rfl, _, _, rfl, lw_ai _, _, _, rfl, lw_ai _, rfl⟩ Ig4 (by decide +kernel) (by decide) (by show _ + 0 ≤ _; omega) (by show _ + 0 ≤ _; omega) (by decide +kernel) (fun x8 g9 qx8 Ig9 => ?_)
  obtain ⟨z10, rfl⟩ := qx8.1 rfl
  show AR _ _ _ _ _ _ _ 773 [(5, .int z5), (4, .int i), (3, .ref 197), (2, .ref 181), (1, .ref 0), (0, .ref 1000000001)] [.int z10] g9 _ _
  refine AR.istore (ax_look_ok hk_285_773).1 (by decide +kernel) rfl ?_
  show AR _ _ _ _ _ _ _ 775 [(6, .int z10), (5, .int z5), (4, .int i), (3, .ref 197), (2, .ref 181), (1, .ref 0), (0, .ref 1000000001)] [] g9 _ _
  refine AR.goto (ax_look_ok hk_285_775).1 (tgt := 1335) (by decide) ?_
  show AR _ _ _ _ _ _ _ 1335 [(6, .int z10), (5, .int z5), (4, .int i), (3, .ref 197), (2, .ref 181), (1, .ref 0), (0, .ref 1000000001)] [] g9 _ _
  refine AR.lessL (lv' := [(4, .int i), (3, .ref 197), (2, .ref 181), (1, .ref 0), (0, .ref 1000000001)]) (List.forall_mem_cons.mpr ⟨⟨_, by simp, ax_le_rfl rfl⟩, (List.forall_mem_cons.mpr ⟨⟨_, by simp, ax_le_rfl rfl⟩, (List.forall_mem_cons.mpr ⟨⟨_, by simp, ax_le_rfl rfl⟩, (List.forall_mem_cons.mpr ⟨⟨_, by simp, ax_le_rfl rfl⟩, (List.forall_mem_cons.mpr ⟨⟨_, by simp, ax_le_rfl rfl⟩, (fun _ h => absurd h List.not_mem_nil)⟩)⟩)⟩)⟩)⟩) ?_
  exact AR.lt (by omega) (by omega) (k _ Ig9)
theorem lw_op18 (G : ty_G hy_I l) (i0 : 0 ≤ i.toInt) (i1 : i.toInt + 6 ≤ L) (hL : L ≤ 3072) (I : lw_I h) (k : ∀ h', lw_I h' → AR ax_ns l (ax_mm 285) 13 (ax_r L xs) P X 1335 [(4, .int i), (3, .ref 197), (2, .ref 181), (1, .ref 0), (0, .ref 1000000001)] [] h' bc bs) : AR ax_ns l (ax_mm 285) 13 (ax_r L xs) P X 778 [(4, .int i), (3, .ref 197), (2, .ref 181), (1, .ref 0), (0, .ref 1000000001)] [] h (bc + 1177) (bs + 14024) := by
  refine AR.aload_n (ax_look_ok hk_285_778).1 (x := .ref 0) rfl rfl ?_
  refine lw_sc hk_285_779 hk_285_780 hk_285_782 hk_285_783 hk_285_784 rfl rfl (by decide) (by decide) (by decide) i0 i1 hL (fun y1 => ?_)
  show AR _ _ _ _ _ _ _ 785 [(4, .int i), (3, .ref 197), (2, .ref 181), (1, .ref 0), (0, .ref 1000000001)] [.int y1, .ref 0] h _ _
  refine lw_sc hk_285_785 hk_285_786 hk_285_788 hk_285_789 hk_285_790 rfl rfl (by decide) (by decide) (by decide) i0 i1 hL (fun y2 => ?_)
  show AR _ _ _ _ _ _ _ 791 [(4, .int i), (3, .ref 197), (2, .ref 181), (1, .ref 0), (0, .ref 1000000001)] [.int y2, .int y1, .ref 0] h _ _
  refine lw_sc hk_285_791 hk_285_792 hk_285_794 hk_285_795 hk_285_796 rfl rfl (by decide) (by decide) (by decide) i0 i1 hL (fun y3 => ?_)
  show AR _ _ _ _ _ _ _ 797 [(4, .int i), (3, .ref 197), (2, .ref 181), (1, .ref 0), (0, .ref 1000000001)] [.int y3, .int y2, .int y1, .ref 0] h _ _
  refine AR.aload_n (ax_look_ok hk_285_797).1 (x := .ref 197) rfl rfl ?_
  refine lw_s (kd := 0) (bc' := bc + 1173) (bs' := bs + 14000) (as := [.ref 0, .int y1, .int y2, .int y3, .ref 197]) hk_285_798 (by decide +kernel) rfl rfl (tk_126_ok G) rfl ⟨_, _, rfl, rfl, _, _, rfl, lw_ai _, _, _, rfl, lw_ai _, _, _, rfl, lw_ai _, _, _, rfl, rfl, rfl⟩ I (by decide +kernel) (by decide) (by show _ + 4 ≤ _; omega) (by show _ + 24 ≤ _; omega) (by decide +kernel) (fun x4 g5 qx4 Ig5 => ?_)
  obtain ⟨z6, rfl⟩ := qx4.1 rfl
  show AR _ _ _ _ _ _ _ 801 [(4, .int i), (3, .ref 197), (2, .ref 181), (1, .ref 0), (0, .ref 1000000001)] [.int z6] g5 _ _
  refine AR.istore (ax_look_ok hk_285_801).1 (by decide +kernel) rfl ?_
  show AR _ _ _ _ _ _ _ 803 [(5, .int z6), (4, .int i), (3, .ref 197), (2, .ref 181), (1, .ref 0), (0, .ref 1000000001)] [] g5 _ _
  refine AR.aload_n (ax_look_ok hk_285_803).1 (x := .ref 181) rfl rfl ?_
  refine lw_sc hk_285_804 hk_285_805 hk_285_807 hk_285_808 hk_285_809 rfl rfl (by decide) (by decide) (by decide) i0 i1 hL (fun y7 => ?_)
  show AR _ _ _ _ _ _ _ 810 [(5, .int z6), (4, .int i), (3, .ref 197), (2, .ref 181), (1, .ref 0), (0, .ref 1000000001)] [.int y7, .ref 181] g5 _ _
  refine lw_sc hk_285_810 hk_285_811 hk_285_813 hk_285_814 hk_285_815 rfl rfl (by decide) (by decide) (by decide) i0 i1 hL (fun y8 => ?_)
  show AR _ _ _ _ _ _ _ 816 [(5, .int z6), (4, .int i), (3, .ref 197), (2, .ref 181), (1, .ref 0), (0, .ref 1000000001)] [.int y8, .int y7, .ref 181] g5 _ _
  refine lw_sc hk_285_816 hk_285_817 hk_285_819 hk_285_820 hk_285_821 rfl rfl (by decide) (by decide) (by decide) i0 i1 hL (fun y9 => ?_)
  show AR _ _ _ _ _ _ _ 822 [(5, .int z6), (4, .int i), (3, .ref 197), (2, .ref 181), (1, .ref 0), (0, .ref 1000000001)] [.int y9, .int y8, .int y7, .ref 181] g5 _ _
  refine lw_v (kd := 0) (bc' := bc + 1173) (bs' := bs + 14000) (r := 181) (as := [.int y7, .int y8, .int y9]) hk_285_822 (by decide) (by decide +kernel) (by decide) (by decide +kernel) rfl rfl (tk_1147_ok G) rfl ⟨_, _, rfl, rfl, _, _, rfl, lw_ai _, _, _, rfl, lw_ai _, _, _, rfl, lw_ai _, rfl⟩ Ig5 (by decide +kernel) (by decide) (by show _ + 0 ≤ _; omega) (by show _ + 0 ≤ _; omega) (by decide +kernel) (fun x10 g11 qx10 Ig11 => ?_)
  obtain ⟨z12, rfl⟩ := qx10.1 rfl
  show AR _ _ _ _ _ _ _ 825 [(5, .int z6), (4, .int i), (3, .ref 197), (2, .ref 181), (1, .ref 0), (0, .ref 1000000001)] [.int z12] g11 _ _
  refine AR.istore (ax_look_ok hk_285_825).1 (by decide +kernel) rfl ?_
  show AR _ _ _ _ _ _ _ 827 [(6, .int z12), (5, .int z6), (4, .int i), (3, .ref 197), (2, .ref 181), (1, .ref 0), (0, .ref 1000000001)] [] g11 _ _
  refine AR.goto (ax_look_ok hk_285_827).1 (tgt := 1335) (by decide) ?_
  show AR _ _ _ _ _ _ _ 1335 [(6, .int z12), (5, .int z6), (4, .int i), (3, .ref 197), (2, .ref 181), (1, .ref 0), (0, .ref 1000000001)] [] g11 _ _
  refine AR.lessL (lv' := [(4, .int i), (3, .ref 197), (2, .ref 181), (1, .ref 0), (0, .ref 1000000001)]) (List.forall_mem_cons.mpr ⟨⟨_, by simp, ax_le_rfl rfl⟩, (List.forall_mem_cons.mpr ⟨⟨_, by simp, ax_le_rfl rfl⟩, (List.forall_mem_cons.mpr ⟨⟨_, by simp, ax_le_rfl rfl⟩, (List.forall_mem_cons.mpr ⟨⟨_, by simp, ax_le_rfl rfl⟩, (List.forall_mem_cons.mpr ⟨⟨_, by simp, ax_le_rfl rfl⟩, (fun _ h => absurd h List.not_mem_nil)⟩)⟩)⟩)⟩)⟩) ?_
  exact AR.lt (by omega) (by omega) (k _ Ig11)
theorem lw_op19 (G : ty_G hy_I l) (i0 : 0 ≤ i.toInt) (i1 : i.toInt + 6 ≤ L) (hL : L ≤ 3072) (I : lw_I h) (k : ∀ h', lw_I h' → AR ax_ns l (ax_mm 285) 13 (ax_r L xs) P X 1335 [(4, .int i), (3, .ref 197), (2, .ref 181), (1, .ref 0), (0, .ref 1000000001)] [] h' bc bs) : AR ax_ns l (ax_mm 285) 13 (ax_r L xs) P X 830 [(4, .int i), (3, .ref 197), (2, .ref 181), (1, .ref 0), (0, .ref 1000000001)] [] h (bc + 1177) (bs + 14024) := by
  refine AR.aload_n (ax_look_ok hk_285_830).1 (x := .ref 0) rfl rfl ?_
  refine lw_sc hk_285_831 hk_285_832 hk_285_834 hk_285_835 hk_285_836 rfl rfl (by decide) (by decide) (by decide) i0 i1 hL (fun y1 => ?_)
  show AR _ _ _ _ _ _ _ 837 [(4, .int i), (3, .ref 197), (2, .ref 181), (1, .ref 0), (0, .ref 1000000001)] [.int y1, .ref 0] h _ _
  refine AR.aload_n (ax_look_ok hk_285_837).1 (x := .ref 197) rfl rfl ?_
  refine lw_s (kd := 0) (bc' := bc + 1175) (bs' := bs + 14012) (as := [.ref 0, .int y1, .ref 197]) hk_285_838 (by decide +kernel) rfl rfl (tk_128_ok G) rfl ⟨_, _, rfl, rfl, _, _, rfl, lw_ai _, _, _, rfl, rfl, rfl⟩ I (by decide +kernel) (by decide) (by show _ + 2 ≤ _; omega) (by show _ + 12 ≤ _; omega) (by decide +kernel) (fun x2 g3 qx2 Ig3 => ?_)
  obtain ⟨z4, rfl⟩ := qx2.1 rfl
  show AR _ _ _ _ _ _ _ 841 [(4, .int i), (3, .ref 197), (2, .ref 181), (1, .ref 0), (0, .ref 1000000001)] [.int z4] g3 _ _
  refine AR.istore (ax_look_ok hk_285_841).1 (by decide +kernel) rfl ?_
  show AR _ _ _ _ _ _ _ 843 [(5, .int z4), (4, .int i), (3, .ref 197), (2, .ref 181), (1, .ref 0), (0, .ref 1000000001)] [] g3 _ _
  refine AR.aload_n (ax_look_ok hk_285_843).1 (x := .ref 181) rfl rfl ?_
  refine lw_sc hk_285_844 hk_285_845 hk_285_847 hk_285_848 hk_285_849 rfl rfl (by decide) (by decide) (by decide) i0 i1 hL (fun y5 => ?_)
  show AR _ _ _ _ _ _ _ 850 [(5, .int z4), (4, .int i), (3, .ref 197), (2, .ref 181), (1, .ref 0), (0, .ref 1000000001)] [.int y5, .ref 181] g3 _ _
  refine lw_v (kd := 0) (bc' := bc + 1174) (bs' := bs + 13988) (r := 181) (as := [.int y5]) hk_285_850 (by decide) (by decide +kernel) (by decide) (by decide +kernel) rfl rfl (tk_1148_ok G) rfl ⟨_, _, rfl, rfl, _, _, rfl, lw_ai _, rfl⟩ Ig3 (by decide +kernel) (by decide) (by show _ + 1 ≤ _; omega) (by show _ + 24 ≤ _; omega) (by decide +kernel) (fun x6 g7 qx6 Ig7 => ?_)
  obtain ⟨z8, rfl⟩ := qx6.1 rfl
  show AR _ _ _ _ _ _ _ 853 [(5, .int z4), (4, .int i), (3, .ref 197), (2, .ref 181), (1, .ref 0), (0, .ref 1000000001)] [.int z8] g7 _ _
  refine AR.istore (ax_look_ok hk_285_853).1 (by decide +kernel) rfl ?_
  show AR _ _ _ _ _ _ _ 855 [(6, .int z8), (5, .int z4), (4, .int i), (3, .ref 197), (2, .ref 181), (1, .ref 0), (0, .ref 1000000001)] [] g7 _ _
  refine AR.goto (ax_look_ok hk_285_855).1 (tgt := 1335) (by decide) ?_
  show AR _ _ _ _ _ _ _ 1335 [(6, .int z8), (5, .int z4), (4, .int i), (3, .ref 197), (2, .ref 181), (1, .ref 0), (0, .ref 1000000001)] [] g7 _ _
  refine AR.lessL (lv' := [(4, .int i), (3, .ref 197), (2, .ref 181), (1, .ref 0), (0, .ref 1000000001)]) (List.forall_mem_cons.mpr ⟨⟨_, by simp, ax_le_rfl rfl⟩, (List.forall_mem_cons.mpr ⟨⟨_, by simp, ax_le_rfl rfl⟩, (List.forall_mem_cons.mpr ⟨⟨_, by simp, ax_le_rfl rfl⟩, (List.forall_mem_cons.mpr ⟨⟨_, by simp, ax_le_rfl rfl⟩, (List.forall_mem_cons.mpr ⟨⟨_, by simp, ax_le_rfl rfl⟩, (fun _ h => absurd h List.not_mem_nil)⟩)⟩)⟩)⟩)⟩) ?_
  exact AR.lt (by omega) (by omega) (k _ Ig7)
theorem lw_op20 (G : ty_G hy_I l) (i0 : 0 ≤ i.toInt) (i1 : i.toInt + 6 ≤ L) (hL : L ≤ 3072) (I : lw_I h) (k : ∀ h', lw_I h' → AR ax_ns l (ax_mm 285) 13 (ax_r L xs) P X 1335 [(4, .int i), (3, .ref 197), (2, .ref 181), (1, .ref 0), (0, .ref 1000000001)] [] h' bc bs) : AR ax_ns l (ax_mm 285) 13 (ax_r L xs) P X 858 [(4, .int i), (3, .ref 197), (2, .ref 181), (1, .ref 0), (0, .ref 1000000001)] [] h (bc + 1177) (bs + 14024) := by
  refine AR.aload_n (ax_look_ok hk_285_858).1 (x := .ref 0) rfl rfl ?_
  refine lw_sc hk_285_859 hk_285_860 hk_285_862 hk_285_863 hk_285_864 rfl rfl (by decide) (by decide) (by decide) i0 i1 hL (fun y1 => ?_)
  show AR _ _ _ _ _ _ _ 865 [(4, .int i), (3, .ref 197), (2, .ref 181), (1, .ref 0), (0, .ref 1000000001)] [.int y1, .ref 0] h _ _
  refine lw_sc hk_285_865 hk_285_866 hk_285_868 hk_285_869 hk_285_870 rfl rfl (by decide) (by decide) (by decide) i0 i1 hL (fun y2 => ?_)
  show AR _ _ _ _ _ _ _ 871 [(4, .int i), (3, .ref 197), (2, .ref 181), (1, .ref 0), (0, .ref 1000000001)] [.int y2, .int y1, .ref 0] h _ _
  refine AR.aload_n (ax_look_ok hk_285_871).1 (x := .ref 197) rfl rfl ?_
  refine lw_s (kd := 0) (bc' := bc + 1176) (bs' := bs + 14018) (as := [.ref 0, .int y1, .int y2, .ref 197]) hk_285_872 (by decide +kernel) rfl rfl (tk_132_ok G) rfl ⟨_, _, rfl, rfl, _, _, rfl, lw_ai _, _, _, rfl, lw_ai _, _, _, rfl, rfl, rfl⟩ I (by decide +kernel) (by decide) (by show _ + 1 ≤ _; omega) (by show _ + 6 ≤ _; omega) (by decide +kernel) (fun x3 g4 qx3 Ig4 => ?_)
  obtain ⟨z5, rfl⟩ := qx3.1 rfl
  show AR _ _ _ _ _ _ _ 875 [(4, .int i), (3, .ref 197), (2, .ref 181), (1, .ref 0), (0, .ref 1000000001)] [.int z5] g4 _ _
  refine AR.istore (ax_look_ok hk_285_875).1 (by decide +kernel) rfl ?_
  show AR _ _ _ _ _ _ _ 877 [(5, .int z5), (4, .int i), (3, .ref 197), (2, .ref 181), (1, .ref 0), (0, .ref 1000000001)] [] g4 _ _
  refine AR.aload_n (ax_look_ok hk_285_877).1 (x := .ref 181) rfl rfl ?_
  refine lw_sc hk_285_878 hk_285_879 hk_285_881 hk_285_882 hk_285_883 rfl rfl (by decide) (by decide) (by decide) i0 i1 hL (fun y6 => ?_)
  show AR _ _ _ _ _ _ _ 884 [(5, .int z5), (4, .int i), (3, .ref 197), (2, .ref 181), (1, .ref 0), (0, .ref 1000000001)] [.int y6, .ref 181] g4 _ _
  refine lw_sc hk_285_884 hk_285_885 hk_285_887 hk_285_888 hk_285_889 rfl rfl (by decide) (by decide) (by decide) i0 i1 hL (fun y7 => ?_)
  show AR _ _ _ _ _ _ _ 890 [(5, .int z5), (4, .int i), (3, .ref 197), (2, .ref 181), (1, .ref 0), (0, .ref 1000000001)] [.int y7, .int y6, .ref 181] g4 _ _
  refine lw_v (kd := 0) (bc' := bc + 1175) (bs' := bs + 14006) (r := 181) (as := [.int y6, .int y7]) hk_285_890 (by decide) (by decide +kernel) (by decide) (by decide +kernel) rfl rfl (tk_1151_ok G) rfl ⟨_, _, rfl, rfl, _, _, rfl, lw_ai _, _, _, rfl, lw_ai _, rfl⟩ Ig4 (by decide +kernel) (by decide) (by show _ + 1 ≤ _; omega) (by show _ + 12 ≤ _; omega) (by decide +kernel) (fun x8 g9 qx8 Ig9 => ?_)
  obtain ⟨z10, rfl⟩ := qx8.1 rfl
  show AR _ _ _ _ _ _ _ 893 [(5, .int z5), (4, .int i), (3, .ref 197), (2, .ref 181), (1, .ref 0), (0, .ref 1000000001)] [.int z10] g9 _ _
  refine AR.istore (ax_look_ok hk_285_893).1 (by decide +kernel) rfl ?_
  show AR _ _ _ _ _ _ _ 895 [(6, .int z10), (5, .int z5), (4, .int i), (3, .ref 197), (2, .ref 181), (1, .ref 0), (0, .ref 1000000001)] [] g9 _ _
  refine AR.goto (ax_look_ok hk_285_895).1 (tgt := 1335) (by decide) ?_
  show AR _ _ _ _ _ _ _ 1335 [(6, .int z10), (5, .int z5), (4, .int i), (3, .ref 197), (2, .ref 181), (1, .ref 0), (0, .ref 1000000001)] [] g9 _ _
  refine AR.lessL (lv' := [(4, .int i), (3, .ref 197), (2, .ref 181), (1, .ref 0), (0, .ref 1000000001)]) (List.forall_mem_cons.mpr ⟨⟨_, by simp, ax_le_rfl rfl⟩, (List.forall_mem_cons.mpr ⟨⟨_, by simp, ax_le_rfl rfl⟩, (List.forall_mem_cons.mpr ⟨⟨_, by simp, ax_le_rfl rfl⟩, (List.forall_mem_cons.mpr ⟨⟨_, by simp, ax_le_rfl rfl⟩, (List.forall_mem_cons.mpr ⟨⟨_, by simp, ax_le_rfl rfl⟩, (fun _ h => absurd h List.not_mem_nil)⟩)⟩)⟩)⟩)⟩) ?_
  exact AR.lt (by omega) (by omega) (k _ Ig9)
theorem lw_op21 (G : ty_G hy_I l) (i0 : 0 ≤ i.toInt) (i1 : i.toInt + 6 ≤ L) (hL : L ≤ 3072) (I : lw_I h) (k : ∀ h', lw_I h' → AR ax_ns l (ax_mm 285) 13 (ax_r L xs) P X 1335 [(4, .int i), (3, .ref 197), (2, .ref 181), (1, .ref 0), (0, .ref 1000000001)] [] h' bc bs) : AR ax_ns l (ax_mm 285) 13 (ax_r L xs) P X 898 [(4, .int i), (3, .ref 197), (2, .ref 181), (1, .ref 0), (0, .ref 1000000001)] [] h (bc + 1177) (bs + 14024) := by
  refine AR.aload_n (ax_look_ok hk_285_898).1 (x := .ref 0) rfl rfl ?_
  refine lw_sc hk_285_899 hk_285_900 hk_285_902 hk_285_903 hk_285_904 rfl rfl (by decide) (by decide) (by decide) i0 i1 hL (fun y1 => ?_)
  show AR _ _ _ _ _ _ _ 905 [(4, .int i), (3, .ref 197), (2, .ref 181), (1, .ref 0), (0, .ref 1000000001)] [.int y1, .ref 0] h _ _
  refine AR.aload_n (ax_look_ok hk_285_905).1 (x := .ref 197) rfl rfl ?_
  refine lw_s (kd := 0) (bc' := bc + 1176) (bs' := bs + 14018) (as := [.ref 0, .int y1, .ref 197]) hk_285_906 (by decide +kernel) rfl rfl (tk_137_ok G) rfl ⟨_, _, rfl, rfl, _, _, rfl, lw_ai _, _, _, rfl, rfl, rfl⟩ I (by decide +kernel) (by decide) (by show _ + 1 ≤ _; omega) (by show _ + 6 ≤ _; omega) (by decide +kernel) (fun x2 g3 qx2 Ig3 => ?_)
  obtain ⟨z4, rfl⟩ := qx2.1 rfl
  show AR _ _ _ _ _ _ _ 909 [(4, .int i), (3, .ref 197), (2, .ref 181), (1, .ref 0), (0, .ref 1000000001)] [.int z4] g3 _ _
  refine AR.istore (ax_look_ok hk_285_909).1 (by decide +kernel) rfl ?_
  show AR _ _ _ _ _ _ _ 911 [(5, .int z4), (4, .int i), (3, .ref 197), (2, .ref 181), (1, .ref 0), (0, .ref 1000000001)] [] g3 _ _
  refine AR.aload_n (ax_look_ok hk_285_911).1 (x := .ref 181) rfl rfl ?_
  refine lw_sc hk_285_912 hk_285_913 hk_285_915 hk_285_916 hk_285_917 rfl rfl (by decide) (by decide) (by decide) i0 i1 hL (fun y5 => ?_)
  show AR _ _ _ _ _ _ _ 918 [(5, .int z4), (4, .int i), (3, .ref 197), (2, .ref 181), (1, .ref 0), (0, .ref 1000000001)] [.int y5, .ref 181] g3 _ _
  refine lw_v (kd := 0) (bc' := bc + 600) (bs' := bs + 7106) (r := 181) (as := [.int y5]) hk_285_918 (by decide) (by decide +kernel) (by decide) (by decide +kernel) rfl rfl (tk_1153_ok G) rfl ⟨_, _, rfl, rfl, _, _, rfl, lw_ai _, rfl⟩ Ig3 (by decide +kernel) (by decide) (by show _ + 576 ≤ _; omega) (by show _ + 6912 ≤ _; omega) (by decide +kernel) (fun x6 g7 qx6 Ig7 => ?_)
  obtain ⟨z8, rfl⟩ := qx6.1 rfl
  show AR _ _ _ _ _ _ _ 921 [(5, .int z4), (4, .int i), (3, .ref 197), (2, .ref 181), (1, .ref 0), (0, .ref 1000000001)] [.int z8] g7 _ _
  refine AR.istore (ax_look_ok hk_285_921).1 (by decide +kernel) rfl ?_
  show AR _ _ _ _ _ _ _ 923 [(6, .int z8), (5, .int z4), (4, .int i), (3, .ref 197), (2, .ref 181), (1, .ref 0), (0, .ref 1000000001)] [] g7 _ _
  refine AR.goto (ax_look_ok hk_285_923).1 (tgt := 1335) (by decide) ?_
  show AR _ _ _ _ _ _ _ 1335 [(6, .int z8), (5, .int z4), (4, .int i), (3, .ref 197), (2, .ref 181), (1, .ref 0), (0, .ref 1000000001)] [] g7 _ _
  refine AR.lessL (lv' := [(4, .int i), (3, .ref 197), (2, .ref 181), (1, .ref 0), (0, .ref 1000000001)]) (List.forall_mem_cons.mpr ⟨⟨_, by simp, ax_le_rfl rfl⟩, (List.forall_mem_cons.mpr ⟨⟨_, by simp, ax_le_rfl rfl⟩, (List.forall_mem_cons.mpr ⟨⟨_, by simp, ax_le_rfl rfl⟩, (List.forall_mem_cons.mpr ⟨⟨_, by simp, ax_le_rfl rfl⟩, (List.forall_mem_cons.mpr ⟨⟨_, by simp, ax_le_rfl rfl⟩, (fun _ h => absurd h List.not_mem_nil)⟩)⟩)⟩)⟩)⟩) ?_
  exact AR.lt (by omega) (by omega) (k _ Ig7)
theorem lw_op22 (G : ty_G hy_I l) (i0 : 0 ≤ i.toInt) (i1 : i.toInt + 6 ≤ L) (hL : L ≤ 3072) (I : lw_I h) (k : ∀ h', lw_I h' → AR ax_ns l (ax_mm 285) 13 (ax_r L xs) P X 1335 [(4, .int i), (3, .ref 197), (2, .ref 181), (1, .ref 0), (0, .ref 1000000001)] [] h' bc bs) : AR ax_ns l (ax_mm 285) 13 (ax_r L xs) P X 926 [(4, .int i), (3, .ref 197), (2, .ref 181), (1, .ref 0), (0, .ref 1000000001)] [] h (bc + 1177) (bs + 14024) := by
  refine AR.aload_n (ax_look_ok hk_285_926).1 (x := .ref 0) rfl rfl ?_
  refine lw_sc hk_285_927 hk_285_928 hk_285_930 hk_285_931 hk_285_932 rfl rfl (by decide) (by decide) (by decide) i0 i1 hL (fun y1 => ?_)
  show AR _ _ _ _ _ _ _ 933 [(4, .int i), (3, .ref 197), (2, .ref 181), (1, .ref 0), (0, .ref 1000000001)] [.int y1, .ref 0] h _ _
  refine AR.aload_n (ax_look_ok hk_285_933).1 (x := .ref 197) rfl rfl ?_
  refine lw_s (kd := 0) (bc' := bc + 1176) (bs' := bs + 14018) (as := [.ref 0, .int y1, .ref 197]) hk_285_934 (by decide +kernel) rfl rfl (tk_142_ok G) rfl ⟨_, _, rfl, rfl, _, _, rfl, lw_ai _, _, _, rfl, rfl, rfl⟩ I (by decide +kernel) (by decide) (by show _ + 1 ≤ _; omega) (by show _ + 6 ≤ _; omega) (by decide +kernel) (fun x2 g3 qx2 Ig3 => ?_)
  obtain ⟨z4, rfl⟩ := qx2.1 rfl
  show AR _ _ _ _ _ _ _ 937 [(4, .int i), (3, .ref 197), (2, .ref 181), (1, .ref 0), (0, .ref 1000000001)] [.int z4] g3 _ _
  refine AR.istore (ax_look_ok hk_285_937).1 (by decide +kernel) rfl ?_
  show AR _ _ _ _ _ _ _ 939 [(5, .int z4), (4, .int i), (3, .ref 197), (2, .ref 181), (1, .ref 0), (0, .ref 1000000001)] [] g3 _ _
  refine AR.aload_n (ax_look_ok hk_285_939).1 (x := .ref 181) rfl rfl ?_
  refine lw_sc hk_285_940 hk_285_941 hk_285_943 hk_285_944 hk_285_945 rfl rfl (by decide) (by decide) (by decide) i0 i1 hL (fun y5 => ?_)
  show AR _ _ _ _ _ _ _ 946 [(5, .int z4), (4, .int i), (3, .ref 197), (2, .ref 181), (1, .ref 0), (0, .ref 1000000001)] [.int y5, .ref 181] g3 _ _
  refine lw_v (kd := 0) (bc' := bc + 1176) (bs' := bs + 14018) (r := 181) (as := [.int y5]) hk_285_946 (by decide) (by decide +kernel) (by decide) (by decide +kernel) rfl rfl (tk_1155_ok G) rfl ⟨_, _, rfl, rfl, _, _, rfl, lw_ai _, rfl⟩ Ig3 (by decide +kernel) (by decide) (by show _ + 0 ≤ _; omega) (by show _ + 0 ≤ _; omega) (by decide +kernel) (fun x6 g7 qx6 Ig7 => ?_)
  obtain ⟨z8, rfl⟩ := qx6.1 rfl
  show AR _ _ _ _ _ _ _ 949 [(5, .int z4), (4, .int i), (3, .ref 197), (2, .ref 181), (1, .ref 0), (0, .ref 1000000001)] [.int z8] g7 _ _
  refine AR.istore (ax_look_ok hk_285_949).1 (by decide +kernel) rfl ?_
  show AR _ _ _ _ _ _ _ 951 [(6, .int z8), (5, .int z4), (4, .int i), (3, .ref 197), (2, .ref 181), (1, .ref 0), (0, .ref 1000000001)] [] g7 _ _
  refine AR.goto (ax_look_ok hk_285_951).1 (tgt := 1335) (by decide) ?_
  show AR _ _ _ _ _ _ _ 1335 [(6, .int z8), (5, .int z4), (4, .int i), (3, .ref 197), (2, .ref 181), (1, .ref 0), (0, .ref 1000000001)] [] g7 _ _
  refine AR.lessL (lv' := [(4, .int i), (3, .ref 197), (2, .ref 181), (1, .ref 0), (0, .ref 1000000001)]) (List.forall_mem_cons.mpr ⟨⟨_, by simp, ax_le_rfl rfl⟩, (List.forall_mem_cons.mpr ⟨⟨_, by simp, ax_le_rfl rfl⟩, (List.forall_mem_cons.mpr ⟨⟨_, by simp, ax_le_rfl rfl⟩, (List.forall_mem_cons.mpr ⟨⟨_, by simp, ax_le_rfl rfl⟩, (List.forall_mem_cons.mpr ⟨⟨_, by simp, ax_le_rfl rfl⟩, (fun _ h => absurd h List.not_mem_nil)⟩)⟩)⟩)⟩)⟩) ?_
  exact AR.lt (by omega) (by omega) (k _ Ig7)
theorem lw_op23 (G : ty_G hy_I l) (i0 : 0 ≤ i.toInt) (i1 : i.toInt + 6 ≤ L) (hL : L ≤ 3072) (I : lw_I h) (k : ∀ h', lw_I h' → AR ax_ns l (ax_mm 285) 13 (ax_r L xs) P X 1335 [(4, .int i), (3, .ref 197), (2, .ref 181), (1, .ref 0), (0, .ref 1000000001)] [] h' bc bs) : AR ax_ns l (ax_mm 285) 13 (ax_r L xs) P X 954 [(4, .int i), (3, .ref 197), (2, .ref 181), (1, .ref 0), (0, .ref 1000000001)] [] h (bc + 1177) (bs + 14024) := by
  refine AR.aload_n (ax_look_ok hk_285_954).1 (x := .ref 0) rfl rfl ?_
  refine AR.aload_n (ax_look_ok hk_285_955).1 (x := .ref 197) rfl rfl ?_
  refine lw_s (kd := 0) (bc' := bc + 1176) (bs' := bs + 14018) (as := [.ref 0, .ref 197]) hk_285_956 (by decide +kernel) rfl rfl (tk_144_ok G) rfl ⟨_, _, rfl, rfl, _, _, rfl, rfl, rfl⟩ I (by decide +kernel) (by decide) (by show _ + 1 ≤ _; omega) (by show _ + 6 ≤ _; omega) (by decide +kernel) (fun x1 g2 qx1 Ig2 => ?_)
  obtain ⟨z3, rfl⟩ := qx1.1 rfl
  show AR _ _ _ _ _ _ _ 959 [(4, .int i), (3, .ref 197), (2, .ref 181), (1, .ref 0), (0, .ref 1000000001)] [.int z3] g2 _ _
  refine AR.istore (ax_look_ok hk_285_959).1 (by decide +kernel) rfl ?_
  show AR _ _ _ _ _ _ _ 961 [(5, .int z3), (4, .int i), (3, .ref 197), (2, .ref 181), (1, .ref 0), (0, .ref 1000000001)] [] g2 _ _
  refine AR.aload_n (ax_look_ok hk_285_961).1 (x := .ref 181) rfl rfl ?_
  refine lw_v (kd := 0) (bc' := bc + 1176) (bs' := bs + 14018) (r := 181) (as := []) hk_285_962 (by decide) (by decide +kernel) (by decide) (by decide +kernel) rfl rfl (tk_1158_ok G) rfl ⟨_, _, rfl, rfl, rfl⟩ Ig2 (by decide +kernel) (by decide) (by show _ + 0 ≤ _; omega) (by show _ + 0 ≤ _; omega) (by decide +kernel) (fun x4 g5 qx4 Ig5 => ?_)
  obtain ⟨z6, rfl⟩ := qx4.1 rfl
  show AR _ _ _ _ _ _ _ 965 [(5, .int z3), (4, .int i), (3, .ref 197), (2, .ref 181), (1, .ref 0), (0, .ref 1000000001)] [.int z6] g5 _ _
  refine AR.istore (ax_look_ok hk_285_965).1 (by decide +kernel) rfl ?_
  show AR _ _ _ _ _ _ _ 967 [(6, .int z6), (5, .int z3), (4, .int i), (3, .ref 197), (2, .ref 181), (1, .ref 0), (0, .ref 1000000001)] [] g5 _ _
  refine AR.goto (ax_look_ok hk_285_967).1 (tgt := 1335) (by decide) ?_
  show AR _ _ _ _ _ _ _ 1335 [(6, .int z6), (5, .int z3), (4, .int i), (3, .ref 197), (2, .ref 181), (1, .ref 0), (0, .ref 1000000001)] [] g5 _ _
  refine AR.lessL (lv' := [(4, .int i), (3, .ref 197), (2, .ref 181), (1, .ref 0), (0, .ref 1000000001)]) (List.forall_mem_cons.mpr ⟨⟨_, by simp, ax_le_rfl rfl⟩, (List.forall_mem_cons.mpr ⟨⟨_, by simp, ax_le_rfl rfl⟩, (List.forall_mem_cons.mpr ⟨⟨_, by simp, ax_le_rfl rfl⟩, (List.forall_mem_cons.mpr ⟨⟨_, by simp, ax_le_rfl rfl⟩, (List.forall_mem_cons.mpr ⟨⟨_, by simp, ax_le_rfl rfl⟩, (fun _ h => absurd h List.not_mem_nil)⟩)⟩)⟩)⟩)⟩) ?_
  exact AR.lt (by omega) (by omega) (k _ Ig5)
theorem lw_op24 (G : ty_G hy_I l) (i0 : 0 ≤ i.toInt) (i1 : i.toInt + 6 ≤ L) (hL : L ≤ 3072) (I : lw_I h) (k : ∀ h', lw_I h' → AR ax_ns l (ax_mm 285) 13 (ax_r L xs) P X 1335 [(4, .int i), (3, .ref 197), (2, .ref 181), (1, .ref 0), (0, .ref 1000000001)] [] h' bc bs) : AR ax_ns l (ax_mm 285) 13 (ax_r L xs) P X 970 [(4, .int i), (3, .ref 197), (2, .ref 181), (1, .ref 0), (0, .ref 1000000001)] [] h (bc + 1177) (bs + 14024) := by
  refine AR.aload_n (ax_look_ok hk_285_970).1 (x := .ref 0) rfl rfl ?_
  refine lw_sc hk_285_971 hk_285_972 hk_285_974 hk_285_975 hk_285_976 rfl rfl (by decide) (by decide) (by decide) i0 i1 hL (fun y1 => ?_)
  show AR _ _ _ _ _ _ _ 977 [(4, .int i), (3, .ref 197), (2, .ref 181), (1, .ref 0), (0, .ref 1000000001)] [.int y1, .ref 0] h _ _
  refine AR.aload_n (ax_look_ok hk_285_977).1 (x := .ref 197) rfl rfl ?_
  refine lw_s (kd := 0) (bc' := bc + 1176) (bs' := bs + 14018) (as := [.ref 0, .int y1, .ref 197]) hk_285_978 (by decide +kernel) rfl rfl (tk_149_ok G) rfl ⟨_, _, rfl, rfl, _, _, rfl, lw_ai _, _, _, rfl, rfl, rfl⟩ I (by decide +kernel) (by decide) (by show _ + 1 ≤ _; omega) (by show _ + 6 ≤ _; omega) (by decide +kernel) (fun x2 g3 qx2 Ig3 => ?_)
  obtain ⟨z4, rfl⟩ := qx2.1 rfl
  show AR _ _ _ _ _ _ _ 981 [(4, .int i), (3, .ref 197), (2, .ref 181), (1, .ref 0), (0, .ref 1000000001)] [.int z4] g3 _ _
  refine AR.istore (ax_look_ok hk_285_981).1 (by decide +kernel) rfl ?_
  show AR _ _ _ _ _ _ _ 983 [(5, .int z4), (4, .int i), (3, .ref 197), (2, .ref 181), (1, .ref 0), (0, .ref 1000000001)] [] g3 _ _
  refine AR.aload_n (ax_look_ok hk_285_983).1 (x := .ref 181) rfl rfl ?_
  refine lw_sc hk_285_984 hk_285_985 hk_285_987 hk_285_988 hk_285_989 rfl rfl (by decide) (by decide) (by decide) i0 i1 hL (fun y5 => ?_)
  show AR _ _ _ _ _ _ _ 990 [(5, .int z4), (4, .int i), (3, .ref 197), (2, .ref 181), (1, .ref 0), (0, .ref 1000000001)] [.int y5, .ref 181] g3 _ _
  refine lw_v (kd := 0) (bc' := bc + 1176) (bs' := bs + 14018) (r := 181) (as := [.int y5]) hk_285_990 (by decide) (by decide +kernel) (by decide) (by decide +kernel) rfl rfl (tk_1159_ok G) rfl ⟨_, _, rfl, rfl, _, _, rfl, lw_ai _, rfl⟩ Ig3 (by decide +kernel) (by decide) (by show _ + 0 ≤ _; omega) (by show _ + 0 ≤ _; omega) (by decide +kernel) (fun x6 g7 qx6 Ig7 => ?_)
  obtain ⟨z8, rfl⟩ := qx6.1 rfl
  show AR _ _ _ _ _ _ _ 993 [(5, .int z4), (4, .int i), (3, .ref 197), (2, .ref 181), (1, .ref 0), (0, .ref 1000000001)] [.int z8] g7 _ _
  refine AR.istore (ax_look_ok hk_285_993).1 (by decide +kernel) rfl ?_
  show AR _ _ _ _ _ _ _ 995 [(6, .int z8), (5, .int z4), (4, .int i), (3, .ref 197), (2, .ref 181), (1, .ref 0), (0, .ref 1000000001)] [] g7 _ _
  refine AR.goto (ax_look_ok hk_285_995).1 (tgt := 1335) (by decide) ?_
  show AR _ _ _ _ _ _ _ 1335 [(6, .int z8), (5, .int z4), (4, .int i), (3, .ref 197), (2, .ref 181), (1, .ref 0), (0, .ref 1000000001)] [] g7 _ _
  refine AR.lessL (lv' := [(4, .int i), (3, .ref 197), (2, .ref 181), (1, .ref 0), (0, .ref 1000000001)]) (List.forall_mem_cons.mpr ⟨⟨_, by simp, ax_le_rfl rfl⟩, (List.forall_mem_cons.mpr ⟨⟨_, by simp, ax_le_rfl rfl⟩, (List.forall_mem_cons.mpr ⟨⟨_, by simp, ax_le_rfl rfl⟩, (List.forall_mem_cons.mpr ⟨⟨_, by simp, ax_le_rfl rfl⟩, (List.forall_mem_cons.mpr ⟨⟨_, by simp, ax_le_rfl rfl⟩, (fun _ h => absurd h List.not_mem_nil)⟩)⟩)⟩)⟩)⟩) ?_
  exact AR.lt (by omega) (by omega) (k _ Ig7)
theorem lw_op25 (G : ty_G hy_I l) (i0 : 0 ≤ i.toInt) (i1 : i.toInt + 6 ≤ L) (hL : L ≤ 3072) (I : lw_I h) (k : ∀ h', lw_I h' → AR ax_ns l (ax_mm 285) 13 (ax_r L xs) P X 1335 [(4, .int i), (3, .ref 197), (2, .ref 181), (1, .ref 0), (0, .ref 1000000001)] [] h' bc bs) : AR ax_ns l (ax_mm 285) 13 (ax_r L xs) P X 998 [(4, .int i), (3, .ref 197), (2, .ref 181), (1, .ref 0), (0, .ref 1000000001)] [] h (bc + 1177) (bs + 14024) := by
  refine AR.aload_n (ax_look_ok hk_285_998).1 (x := .ref 0) rfl rfl ?_
  refine AR.aload_n (ax_look_ok hk_285_999).1 (x := .ref 197) rfl rfl ?_
  refine lw_s (kd := 0) (bc' := bc + 1176) (bs' := bs + 14018) (as := [.ref 0, .ref 197]) hk_285_1000 (by decide +kernel) rfl rfl (tk_151_ok G) rfl ⟨_, _, rfl, rfl, _, _, rfl, rfl, rfl⟩ I (by decide +kernel) (by decide) (by show _ + 1 ≤ _; omega) (by show _ + 6 ≤ _; omega) (by decide +kernel) (fun x1 g2 qx1 Ig2 => ?_)
  obtain ⟨z3, rfl⟩ := qx1.1 rfl
  show AR _ _ _ _ _ _ _ 1003 [(4, .int i), (3, .ref 197), (2, .ref 181), (1, .ref 0), (0, .ref 1000000001)] [.int z3] g2 _ _
  refine AR.istore (ax_look_ok hk_285_1003).1 (by decide +kernel) rfl ?_
  show AR _ _ _ _ _ _ _ 1005 [(5, .int z3), (4, .int i), (3, .ref 197), (2, .ref 181), (1, .ref 0), (0, .ref 1000000001)] [] g2 _ _
  refine AR.aload_n (ax_look_ok hk_285_1005).1 (x := .ref 181) rfl rfl ?_
  refine lw_v (kd := 0) (bc' := bc + 1176) (bs' := bs + 14018) (r := 181) (as := []) hk_285_1006 (by decide) (by decide +kernel) (by decide) (by decide +kernel) rfl rfl (tk_1160_ok G) rfl ⟨_, _, rfl, rfl, rfl⟩ Ig2 (by decide +kernel) (by decide) (by show _ + 0 ≤ _; omega) (by show _ + 0 ≤ _; omega) (by decide +kernel) (fun x4 g5 qx4 Ig5 => ?_)
  obtain ⟨z6, rfl⟩ := qx4.1 rfl
  show AR _ _ _ _ _ _ _ 1009 [(5, .int z3), (4, .int i), (3, .ref 197), (2, .ref 181), (1, .ref 0), (0, .ref 1000000001)] [.int z6] g5 _ _
  refine AR.istore (ax_look_ok hk_285_1009).1 (by decide +kernel) rfl ?_
  show AR _ _ _ _ _ _ _ 1011 [(6, .int z6), (5, .int z3), (4, .int i), (3, .ref 197), (2, .ref 181), (1, .ref 0), (0, .ref 1000000001)] [] g5 _ _
  refine AR.goto (ax_look_ok hk_285_1011).1 (tgt := 1335) (by decide) ?_
  show AR _ _ _ _ _ _ _ 1335 [(6, .int z6), (5, .int z3), (4, .int i), (3, .ref 197), (2, .ref 181), (1, .ref 0), (0, .ref 1000000001)] [] g5 _ _
  refine AR.lessL (lv' := [(4, .int i), (3, .ref 197), (2, .ref 181), (1, .ref 0), (0, .ref 1000000001)]) (List.forall_mem_cons.mpr ⟨⟨_, by simp, ax_le_rfl rfl⟩, (List.forall_mem_cons.mpr ⟨⟨_, by simp, ax_le_rfl rfl⟩, (List.forall_mem_cons.mpr ⟨⟨_, by simp, ax_le_rfl rfl⟩, (List.forall_mem_cons.mpr ⟨⟨_, by simp, ax_le_rfl rfl⟩, (List.forall_mem_cons.mpr ⟨⟨_, by simp, ax_le_rfl rfl⟩, (fun _ h => absurd h List.not_mem_nil)⟩)⟩)⟩)⟩)⟩) ?_
  exact AR.lt (by omega) (by omega) (k _ Ig5)
theorem lw_op26 (G : ty_G hy_I l) (i0 : 0 ≤ i.toInt) (i1 : i.toInt + 6 ≤ L) (hL : L ≤ 3072) (I : lw_I h) (k : ∀ h', lw_I h' → AR ax_ns l (ax_mm 285) 13 (ax_r L xs) P X 1335 [(4, .int i), (3, .ref 197), (2, .ref 181), (1, .ref 0), (0, .ref 1000000001)] [] h' bc bs) : AR ax_ns l (ax_mm 285) 13 (ax_r L xs) P X 1014 [(4, .int i), (3, .ref 197), (2, .ref 181), (1, .ref 0), (0, .ref 1000000001)] [] h (bc + 1177) (bs + 14024) := by
  refine AR.aload_n (ax_look_ok hk_285_1014).1 (x := .ref 0) rfl rfl ?_
  refine lw_v (kd := 0) (bc' := bc + 1177) (bs' := bs + 14024) (r := 0) (as := []) hk_285_1015 (by decide) (by decide +kernel) (by decide) (by decide +kernel) rfl rfl (tk_197_ok G) rfl ⟨_, _, rfl, rfl, rfl⟩ I (by decide +kernel) (by decide) (by show _ + 0 ≤ _; omega) (by show _ + 0 ≤ _; omega) (by decide +kernel) (fun x1 g2 qx1 Ig2 => ?_)
  obtain ⟨z3, rfl⟩ := qx1.1 rfl
  show AR _ _ _ _ _ _ _ 1018 [(4, .int i), (3, .ref 197), (2, .ref 181), (1, .ref 0), (0, .ref 1000000001)] [.int z3] g2 _ _
  refine AR.pop (ax_look_ok hk_285_1018).1 rfl ?_
  refine AR.aload_n (ax_look_ok hk_285_1019).1 (x := .ref 181) rfl rfl ?_
  refine lw_v (kd := 0) (bc' := bc + 1177) (bs' := bs + 14024) (r := 181) (as := []) hk_285_1020 (by decide) (by decide +kernel) (by decide) (by decide +kernel) rfl rfl (tk_1161_ok G) rfl ⟨_, _, rfl, rfl, rfl⟩ Ig2 (by decide +kernel) (by decide) (by show _ + 0 ≤ _; omega) (by show _ + 0 ≤ _; omega) (by decide +kernel) (fun x4 g5 qx4 Ig5 => ?_)
  obtain ⟨z6, rfl⟩ := qx4.1 rfl
  show AR _ _ _ _ _ _ _ 1023 [(4, .int i), (3, .ref 197), (2, .ref 181), (1, .ref 0), (0, .ref 1000000001)] [.int z6] g5 _ _
  refine AR.pop (ax_look_ok hk_285_1023).1 rfl ?_
  refine AR.goto (ax_look_ok hk_285_1024).1 (tgt := 1335) (by decide) ?_
  show AR _ _ _ _ _ _ _ 1335 [(4, .int i), (3, .ref 197), (2, .ref 181), (1, .ref 0), (0, .ref 1000000001)] [] g5 _ _
  refine AR.lessL (lv' := [(4, .int i), (3, .ref 197), (2, .ref 181), (1, .ref 0), (0, .ref 1000000001)]) (List.forall_mem_cons.mpr ⟨⟨_, by simp, ax_le_rfl rfl⟩, (List.forall_mem_cons.mpr ⟨⟨_, by simp, ax_le_rfl rfl⟩, (List.forall_mem_cons.mpr ⟨⟨_, by simp, ax_le_rfl rfl⟩, (List.forall_mem_cons.mpr ⟨⟨_, by simp, ax_le_rfl rfl⟩, (List.forall_mem_cons.mpr ⟨⟨_, by simp, ax_le_rfl rfl⟩, (fun _ h => absurd h List.not_mem_nil)⟩)⟩)⟩)⟩)⟩) ?_
  exact AR.lt (by omega) (by omega) (k _ Ig5)
theorem lw_op27 (G : ty_G hy_I l) (i0 : 0 ≤ i.toInt) (i1 : i.toInt + 6 ≤ L) (hL : L ≤ 3072) (I : lw_I h) (k : ∀ h', lw_I h' → AR ax_ns l (ax_mm 285) 13 (ax_r L xs) P X 1335 [(4, .int i), (3, .ref 197), (2, .ref 181), (1, .ref 0), (0, .ref 1000000001)] [] h' bc bs) : AR ax_ns l (ax_mm 285) 13 (ax_r L xs) P X 1027 [(4, .int i), (3, .ref 197), (2, .ref 181), (1, .ref 0), (0, .ref 1000000001)] [] h (bc + 1177) (bs + 14024) := by
  refine AR.aload_n (ax_look_ok hk_285_1027).1 (x := .ref 0) rfl rfl ?_
  refine lw_v (kd := 0) (bc' := bc + 1177) (bs' := bs + 14024) (r := 0) (as := []) hk_285_1028 (by decide) (by decide +kernel) (by decide) (by decide +kernel) rfl rfl (tk_198_ok G) rfl ⟨_, _, rfl, rfl, rfl⟩ I (by decide +kernel) (by decide) (by show _ + 0 ≤ _; omega) (by show _ + 0 ≤ _; omega) (by decide +kernel) (fun x1 g2 qx1 Ig2 => ?_)
  obtain ⟨z3, rfl⟩ := qx1.1 rfl
  show AR _ _ _ _ _ _ _ 1031 [(4, .int i), (3, .ref 197), (2, .ref 181), (1, .ref 0), (0, .ref 1000000001)] [.int z3] g2 _ _
  refine AR.pop (ax_look_ok hk_285_1031).1 rfl ?_
  refine AR.aload_n (ax_look_ok hk_285_1032).1 (x := .ref 181) rfl rfl ?_
  refine lw_v (kd := 0) (bc' := bc + 1177) (bs' := bs + 14024) (r := 181) (as := []) hk_285_1033 (by decide) (by decide +kernel) (by decide) (by decide +kernel) rfl rfl (tk_1162_ok G) rfl ⟨_, _, rfl, rfl, rfl⟩ Ig2 (by decide +kernel) (by decide) (by show _ + 0 ≤ _; omega) (by show _ + 0 ≤ _; omega) (by decide +kernel) (fun x4 g5 qx4 Ig5 => ?_)
  obtain ⟨z6, rfl⟩ := qx4.1 rfl
  show AR _ _ _ _ _ _ _ 1036 [(4, .int i), (3, .ref 197), (2, .ref 181), (1, .ref 0), (0, .ref 1000000001)] [.int z6] g5 _ _
  refine AR.pop (ax_look_ok hk_285_1036).1 rfl ?_
  refine AR.goto (ax_look_ok hk_285_1037).1 (tgt := 1335) (by decide) ?_
  show AR _ _ _ _ _ _ _ 1335 [(4, .int i), (3, .ref 197), (2, .ref 181), (1, .ref 0), (0, .ref 1000000001)] [] g5 _ _
  refine AR.lessL (lv' := [(4, .int i), (3, .ref 197), (2, .ref 181), (1, .ref 0), (0, .ref 1000000001)]) (List.forall_mem_cons.mpr ⟨⟨_, by simp, ax_le_rfl rfl⟩, (List.forall_mem_cons.mpr ⟨⟨_, by simp, ax_le_rfl rfl⟩, (List.forall_mem_cons.mpr ⟨⟨_, by simp, ax_le_rfl rfl⟩, (List.forall_mem_cons.mpr ⟨⟨_, by simp, ax_le_rfl rfl⟩, (List.forall_mem_cons.mpr ⟨⟨_, by simp, ax_le_rfl rfl⟩, (fun _ h => absurd h List.not_mem_nil)⟩)⟩)⟩)⟩)⟩) ?_
  exact AR.lt (by omega) (by omega) (k _ Ig5)
theorem lw_op28 (G : ty_G hy_I l) (i0 : 0 ≤ i.toInt) (i1 : i.toInt + 6 ≤ L) (hL : L ≤ 3072) (I : lw_I h) (k : ∀ h', lw_I h' → AR ax_ns l (ax_mm 285) 13 (ax_r L xs) P X 1335 [(4, .int i), (3, .ref 197), (2, .ref 181), (1, .ref 0), (0, .ref 1000000001)] [] h' bc bs) : AR ax_ns l (ax_mm 285) 13 (ax_r L xs) P X 1040 [(4, .int i), (3, .ref 197), (2, .ref 181), (1, .ref 0), (0, .ref 1000000001)] [] h (bc + 1177) (bs + 14024) := by
  refine AR.aload_n (ax_look_ok hk_285_1040).1 (x := .ref 0) rfl rfl ?_
  refine lw_sc hk_285_1041 hk_285_1042 hk_285_1044 hk_285_1045 hk_285_1046 rfl rfl (by decide) (by decide) (by decide) i0 i1 hL (fun y1 => ?_)
  show AR _ _ _ _ _ _ _ 1047 [(4, .int i), (3, .ref 197), (2, .ref 181), (1, .ref 0), (0, .ref 1000000001)] [.int y1, .ref 0] h _ _
  refine AR.aload_n (ax_look_ok hk_285_1047).1 (x := .ref 197) rfl rfl ?_
  refine lw_s (kd := 0) (bc' := bc + 1176) (bs' := bs + 14018) (as := [.ref 0, .int y1, .ref 197]) hk_285_1048 (by decide +kernel) rfl rfl (tk_153_ok G) rfl ⟨_, _, rfl, rfl, _, _, rfl, lw_ai _, _, _, rfl, rfl, rfl⟩ I (by decide +kernel) (by decide) (by show _ + 1 ≤ _; omega) (by show _ + 6 ≤ _; omega) (by decide +kernel) (fun x2 g3 qx2 Ig3 => ?_)
  obtain ⟨z4, rfl⟩ := qx2.1 rfl
  show AR _ _ _ _ _ _ _ 1051 [(4, .int i), (3, .ref 197), (2, .ref 181), (1, .ref 0), (0, .ref 1000000001)] [.int z4] g3 _ _
  refine AR.istore (ax_look_ok hk_285_1051).1 (by decide +kernel) rfl ?_
  show AR _ _ _ _ _ _ _ 1053 [(5, .int z4), (4, .int i), (3, .ref 197), (2, .ref 181), (1, .ref 0), (0, .ref 1000000001)] [] g3 _ _
  refine AR.aload_n (ax_look_ok hk_285_1053).1 (x := .ref 181) rfl rfl ?_
  refine lw_sc hk_285_1054 hk_285_1055 hk_285_1057 hk_285_1058 hk_285_1059 rfl rfl (by decide) (by decide) (by decide) i0 i1 hL (fun y5 => ?_)
  show AR _ _ _ _ _ _ _ 1060 [(5, .int z4), (4, .int i), (3, .ref 197), (2, .ref 181), (1, .ref 0), (0, .ref 1000000001)] [.int y5, .ref 181] g3 _ _
  refine lw_v (kd := 0) (bc' := bc + 1176) (bs' := bs + 14018) (r := 181) (as := [.int y5]) hk_285_1060 (by decide) (by decide +kernel) (by decide) (by decide +kernel) rfl rfl (tk_1163_ok G) rfl ⟨_, _, rfl, rfl, _, _, rfl, lw_ai _, rfl⟩ Ig3 (by decide +kernel) (by decide) (by show _ + 0 ≤ _; omega) (by show _ + 0 ≤ _; omega) (by decide +kernel) (fun x6 g7 qx6 Ig7 => ?_)
  obtain ⟨z8, rfl⟩ := qx6.1 rfl
  show AR _ _ _ _ _ _ _ 1063 [(5, .int z4), (4, .int i), (3, .ref 197), (2, .ref 181), (1, .ref 0), (0, .ref 1000000001)] [.int z8] g7 _ _
  refine AR.istore (ax_look_ok hk_285_1063).1 (by decide +kernel) rfl ?_
  show AR _ _ _ _ _ _ _ 1065 [(6, .int z8), (5, .int z4), (4, .int i), (3, .ref 197), (2, .ref 181), (1, .ref 0), (0, .ref 1000000001)] [] g7 _ _
  refine AR.goto (ax_look_ok hk_285_1065).1 (tgt := 1335) (by decide) ?_
  show AR _ _ _ _ _ _ _ 1335 [(6, .int z8), (5, .int z4), (4, .int i), (3, .ref 197), (2, .ref 181), (1, .ref 0), (0, .ref 1000000001)] [] g7 _ _
  refine AR.lessL (lv' := [(4, .int i), (3, .ref 197), (2, .ref 181), (1, .ref 0), (0, .ref 1000000001)]) (List.forall_mem_cons.mpr ⟨⟨_, by simp, ax_le_rfl rfl⟩, (List.forall_mem_cons.mpr ⟨⟨_, by simp, ax_le_rfl rfl⟩, (List.forall_mem_cons.mpr ⟨⟨_, by simp, ax_le_rfl rfl⟩, (List.forall_mem_cons.mpr ⟨⟨_, by simp, ax_le_rfl rfl⟩, (List.forall_mem_cons.mpr ⟨⟨_, by simp, ax_le_rfl rfl⟩, (fun _ h => absurd h List.not_mem_nil)⟩)⟩)⟩)⟩)⟩) ?_
  exact AR.lt (by omega) (by omega) (k _ Ig7)
theorem lw_op29 (G : ty_G hy_I l) (i0 : 0 ≤ i.toInt) (i1 : i.toInt + 6 ≤ L) (hL : L ≤ 3072) (I : lw_I h) (k : ∀ h', lw_I h' → AR ax_ns l (ax_mm 285) 13 (ax_r L xs) P X 1335 [(4, .int i), (3, .ref 197), (2, .ref 181), (1, .ref 0), (0, .ref 1000000001)] [] h' bc bs) : AR ax_ns l (ax_mm 285) 13 (ax_r L xs) P X 1068 [(4, .int i), (3, .ref 197), (2, .ref 181), (1, .ref 0), (0, .ref 1000000001)] [] h (bc + 1177) (bs + 14024) := by
  refine AR.aload_n (ax_look_ok hk_285_1068).1 (x := .ref 0) rfl rfl ?_
  refine lw_v (kd := 0) (bc' := bc + 1177) (bs' := bs + 14024) (r := 0) (as := []) hk_285_1069 (by decide) (by decide +kernel) (by decide) (by decide +kernel) rfl rfl (tk_199_ok G) rfl ⟨_, _, rfl, rfl, rfl⟩ I (by decide +kernel) (by decide) (by show _ + 0 ≤ _; omega) (by show _ + 0 ≤ _; omega) (by decide +kernel) (fun x1 g2 qx1 Ig2 => ?_)
  obtain ⟨z3, rfl⟩ := qx1.1 rfl
  show AR _ _ _ _ _ _ _ 1072 [(4, .int i), (3, .ref 197), (2, .ref 181), (1, .ref 0), (0, .ref 1000000001)] [.int z3] g2 _ _
  refine AR.pop (ax_look_ok hk_285_1072).1 rfl ?_
  refine AR.aload_n (ax_look_ok hk_285_1073).1 (x := .ref 181) rfl rfl ?_
  refine lw_v (kd := 0) (bc' := bc + 1177) (bs' := bs + 14024) (r := 181) (as := []) hk_285_1074 (by decide) (by decide +kernel) (by decide) (by decide +kernel) rfl rfl (tk_1166_ok G) rfl ⟨_, _, rfl, rfl, rfl⟩ Ig2 (by decide +kernel) (by decide) (by show _ + 0 ≤ _; omega) (by show _ + 0 ≤ _; omega) (by decide +kernel) (fun x4 g5 qx4 Ig5 => ?_)
  obtain ⟨z6, rfl⟩ := qx4.1 rfl
  show AR _ _ _ _ _ _ _ 1077 [(4, .int i), (3, .ref 197), (2, .ref 181), (1, .ref 0), (0, .ref 1000000001)] [.int z6] g5 _ _
  refine AR.pop (ax_look_ok hk_285_1077).1 rfl ?_
  refine AR.goto (ax_look_ok hk_285_1078).1 (tgt := 1335) (by decide) ?_
  show AR _ _ _ _ _ _ _ 1335 [(4, .int i), (3, .ref 197), (2, .ref 181), (1, .ref 0), (0, .ref 1000000001)] [] g5 _ _
  refine AR.lessL (lv' := [(4, .int i), (3, .ref 197), (2, .ref 181), (1, .ref 0), (0, .ref 1000000001)]) (List.forall_mem_cons.mpr ⟨⟨_, by simp, ax_le_rfl rfl⟩, (List.forall_mem_cons.mpr ⟨⟨_, by simp, ax_le_rfl rfl⟩, (List.forall_mem_cons.mpr ⟨⟨_, by simp, ax_le_rfl rfl⟩, (List.forall_mem_cons.mpr ⟨⟨_, by simp, ax_le_rfl rfl⟩, (List.forall_mem_cons.mpr ⟨⟨_, by simp, ax_le_rfl rfl⟩, (fun _ h => absurd h List.not_mem_nil)⟩)⟩)⟩)⟩)⟩) ?_
  exact AR.lt (by omega) (by omega) (k _ Ig5)
theorem lw_op30 (G : ty_G hy_I l) (i0 : 0 ≤ i.toInt) (i1 : i.toInt + 6 ≤ L) (hL : L ≤ 3072) (I : lw_I h) (k : ∀ h', lw_I h' → AR ax_ns l (ax_mm 285) 13 (ax_r L xs) P X 1335 [(4, .int i), (3, .ref 197), (2, .ref 181), (1, .ref 0), (0, .ref 1000000001)] [] h' bc bs) : AR ax_ns l (ax_mm 285) 13 (ax_r L xs) P X 1081 [(4, .int i), (3, .ref 197), (2, .ref 181), (1, .ref 0), (0, .ref 1000000001)] [] h (bc + 1177) (bs + 14024) := by
  refine AR.aload_n (ax_look_ok hk_285_1081).1 (x := .ref 0) rfl rfl ?_
  refine lw_sc hk_285_1082 hk_285_1083 hk_285_1085 hk_285_1086 hk_285_1087 rfl rfl (by decide) (by decide) (by decide) i0 i1 hL (fun y1 => ?_)
  show AR _ _ _ _ _ _ _ 1088 [(4, .int i), (3, .ref 197), (2, .ref 181), (1, .ref 0), (0, .ref 1000000001)] [.int y1, .ref 0] h _ _
  refine AR.aload_n (ax_look_ok hk_285_1088).1 (x := .ref 197) rfl rfl ?_
  refine lw_s (kd := 0) (bc' := bc + 1176) (bs' := bs + 14018) (as := [.ref 0, .int y1, .ref 197]) hk_285_1089 (by decide +kernel) rfl rfl (tk_165_ok G) rfl ⟨_, _, rfl, rfl, _, _, rfl, lw_ai _, _, _, rfl, rfl, rfl⟩ I (by decide +kernel) (by decide) (by show _ + 1 ≤ _; omega) (by show _ + 6 ≤ _; omega) (by decide +kernel) (fun x2 g3 qx2 Ig3 => ?_)
  obtain ⟨z4, rfl⟩ := qx2.1 rfl
  show AR _ _ _ _ _ _ _ 1092 [(4, .int i), (3, .ref 197), (2, .ref 181), (1, .ref 0), (0, .ref 1000000001)] [.int z4] g3 _ _
  refine AR.istore (ax_look_ok hk_285_1092).1 (by decide +kernel) rfl ?_
  show AR _ _ _ _ _ _ _ 1094 [(5, .int z4), (4, .int i), (3, .ref 197), (2, .ref 181), (1, .ref 0), (0, .ref 1000000001)] [] g3 _ _
  refine AR.aload_n (ax_look_ok hk_285_1094).1 (x := .ref 181) rfl rfl ?_
  refine lw_sc hk_285_1095 hk_285_1096 hk_285_1098 hk_285_1099 hk_285_1100 rfl rfl (by decide) (by decide) (by decide) i0 i1 hL (fun y5 => ?_)
  show AR _ _ _ _ _ _ _ 1101 [(5, .int z4), (4, .int i), (3, .ref 197), (2, .ref 181), (1, .ref 0), (0, .ref 1000000001)] [.int y5, .ref 181] g3 _ _
  refine lw_v (kd := 0) (bc' := bc + 1176) (bs' := bs + 14018) (r := 181) (as := [.int y5]) hk_285_1101 (by decide) (by decide +kernel) (by decide) (by decide +kernel) rfl rfl (tk_1170_ok G) rfl ⟨_, _, rfl, rfl, _, _, rfl, lw_ai _, rfl⟩ Ig3 (by decide +kernel) (by decide) (by show _ + 0 ≤ _; omega) (by show _ + 0 ≤ _; omega) (by decide +kernel) (fun x6 g7 qx6 Ig7 => ?_)
  obtain ⟨z8, rfl⟩ := qx6.1 rfl
  show AR _ _ _ _ _ _ _ 1104 [(5, .int z4), (4, .int i), (3, .ref 197), (2, .ref 181), (1, .ref 0), (0, .ref 1000000001)] [.int z8] g7 _ _
  refine AR.istore (ax_look_ok hk_285_1104).1 (by decide +kernel) rfl ?_
  show AR _ _ _ _ _ _ _ 1106 [(6, .int z8), (5, .int z4), (4, .int i), (3, .ref 197), (2, .ref 181), (1, .ref 0), (0, .ref 1000000001)] [] g7 _ _
  refine AR.goto (ax_look_ok hk_285_1106).1 (tgt := 1335) (by decide) ?_
  show AR _ _ _ _ _ _ _ 1335 [(6, .int z8), (5, .int z4), (4, .int i), (3, .ref 197), (2, .ref 181), (1, .ref 0), (0, .ref 1000000001)] [] g7 _ _
  refine AR.lessL (lv' := [(4, .int i), (3, .ref 197), (2, .ref 181), (1, .ref 0), (0, .ref 1000000001)]) (List.forall_mem_cons.mpr ⟨⟨_, by simp, ax_le_rfl rfl⟩, (List.forall_mem_cons.mpr ⟨⟨_, by simp, ax_le_rfl rfl⟩, (List.forall_mem_cons.mpr ⟨⟨_, by simp, ax_le_rfl rfl⟩, (List.forall_mem_cons.mpr ⟨⟨_, by simp, ax_le_rfl rfl⟩, (List.forall_mem_cons.mpr ⟨⟨_, by simp, ax_le_rfl rfl⟩, (fun _ h => absurd h List.not_mem_nil)⟩)⟩)⟩)⟩)⟩) ?_
  exact AR.lt (by omega) (by omega) (k _ Ig7)
theorem lw_op31 (G : ty_G hy_I l) (i0 : 0 ≤ i.toInt) (i1 : i.toInt + 6 ≤ L) (hL : L ≤ 3072) (I : lw_I h) (k : ∀ h', lw_I h' → AR ax_ns l (ax_mm 285) 13 (ax_r L xs) P X 1335 [(4, .int i), (3, .ref 197), (2, .ref 181), (1, .ref 0), (0, .ref 1000000001)] [] h' bc bs) : AR ax_ns l (ax_mm 285) 13 (ax_r L xs) P X 1109 [(4, .int i), (3, .ref 197), (2, .ref 181), (1, .ref 0), (0, .ref 1000000001)] [] h (bc + 1177) (bs + 14024) := by
  refine AR.aload_n (ax_look_ok hk_285_1109).1 (x := .ref 0) rfl rfl ?_
  refine lw_v (kd := 0) (bc' := bc + 1177) (bs' := bs + 14024) (r := 0) (as := []) hk_285_1110 (by decide) (by decide +kernel) (by decide) (by decide +kernel) rfl rfl (tk_201_ok G) rfl ⟨_, _, rfl, rfl, rfl⟩ I (by decide +kernel) (by decide) (by show _ + 0 ≤ _; omega) (by show _ + 0 ≤ _; omega) (by decide +kernel) (fun x1 g2 qx1 Ig2 => ?_)
  obtain ⟨z3, rfl⟩ := qx1.1 rfl
  show AR _ _ _ _ _ _ _ 1113 [(4, .int i), (3, .ref 197), (2, .ref 181), (1, .ref 0), (0, .ref 1000000001)] [.int z3] g2 _ _
  refine AR.pop (ax_look_ok hk_285_1113).1 rfl ?_
  refine AR.aload_n (ax_look_ok hk_285_1114).1 (x := .ref 181) rfl rfl ?_
  refine lw_v (kd := 0) (bc' := bc + 1177) (bs' := bs + 14024) (r := 181) (as := []) hk_285_1115 (by decide) (by decide +kernel) (by decide) (by decide +kernel) rfl rfl (tk_1171_ok G) rfl ⟨_, _, rfl, rfl, rfl⟩ Ig2 (by decide +kernel) (by decide) (by show _ + 0 ≤ _; omega) (by show _ + 0 ≤ _; omega) (by decide +kernel) (fun x4 g5 qx4 Ig5 => ?_)
  obtain ⟨z6, rfl⟩ := qx4.1 rfl
  show AR _ _ _ _ _ _ _ 1118 [(4, .int i), (3, .ref 197), (2, .ref 181), (1, .ref 0), (0, .ref 1000000001)] [.int z6] g5 _ _
  refine AR.pop (ax_look_ok hk_285_1118).1 rfl ?_
  refine AR.goto (ax_look_ok hk_285_1119).1 (tgt := 1335) (by decide) ?_
  show AR _ _ _ _ _ _ _ 1335 [(4, .int i), (3, .ref 197), (2, .ref 181), (1, .ref 0), (0, .ref 1000000001)] [] g5 _ _
  refine AR.lessL (lv' := [(4, .int i), (3, .ref 197), (2, .ref 181), (1, .ref 0), (0, .ref 1000000001)]) (List.forall_mem_cons.mpr ⟨⟨_, by simp, ax_le_rfl rfl⟩, (List.forall_mem_cons.mpr ⟨⟨_, by simp, ax_le_rfl rfl⟩, (List.forall_mem_cons.mpr ⟨⟨_, by simp, ax_le_rfl rfl⟩, (List.forall_mem_cons.mpr ⟨⟨_, by simp, ax_le_rfl rfl⟩, (List.forall_mem_cons.mpr ⟨⟨_, by simp, ax_le_rfl rfl⟩, (fun _ h => absurd h List.not_mem_nil)⟩)⟩)⟩)⟩)⟩) ?_
  exact AR.lt (by omega) (by omega) (k _ Ig5)
theorem lw_op32 (G : ty_G hy_I l) (i0 : 0 ≤ i.toInt) (i1 : i.toInt + 6 ≤ L) (hL : L ≤ 3072) (I : lw_I h) (k : ∀ h', lw_I h' → AR ax_ns l (ax_mm 285) 13 (ax_r L xs) P X 1335 [(4, .int i), (3, .ref 197), (2, .ref 181), (1, .ref 0), (0, .ref 1000000001)] [] h' bc bs) : AR ax_ns l (ax_mm 285) 13 (ax_r L xs) P X 1122 [(4, .int i), (3, .ref 197), (2, .ref 181), (1, .ref 0), (0, .ref 1000000001)] [] h (bc + 1177) (bs + 14024) := by
  refine AR.aload_n (ax_look_ok hk_285_1122).1 (x := .ref 0) rfl rfl ?_
  refine lw_sc hk_285_1123 hk_285_1124 hk_285_1126 hk_285_1127 hk_285_1128 rfl rfl (by decide) (by decide) (by decide) i0 i1 hL (fun y1 => ?_)
  show AR _ _ _ _ _ _ _ 1129 [(4, .int i), (3, .ref 197), (2, .ref 181), (1, .ref 0), (0, .ref 1000000001)] [.int y1, .ref 0] h _ _
  refine AR.aload_n (ax_look_ok hk_285_1129).1 (x := .ref 197) rfl rfl ?_
  refine lw_s (kd := 0) (bc' := bc + 1176) (bs' := bs + 14018) (as := [.ref 0, .int y1, .ref 197]) hk_285_1130 (by decide +kernel) rfl rfl (tk_168_ok G) rfl ⟨_, _, rfl, rfl, _, _, rfl, lw_ai _, _, _, rfl, rfl, rfl⟩ I (by decide +kernel) (by decide) (by show _ + 1 ≤ _; omega) (by show _ + 6 ≤ _; omega) (by decide +kernel) (fun x2 g3 qx2 Ig3 => ?_)
  obtain ⟨z4, rfl⟩ := qx2.1 rfl
  show AR _ _ _ _ _ _ _ 1133 [(4, .int i), (3, .ref 197), (2, .ref 181), (1, .ref 0), (0, .ref 1000000001)] [.int z4] g3 _ _
  refine AR.istore (ax_look_ok hk_285_1133).1 (by decide +kernel) rfl ?_
  show AR _ _ _ _ _ _ _ 1135 [(5, .int z4), (4, .int i), (3, .ref 197), (2, .ref 181), (1, .ref 0), (0, .ref 1000000001)] [] g3 _ _
  refine AR.aload_n (ax_look_ok hk_285_1135).1 (x := .ref 181) rfl rfl ?_
  refine lw_sc hk_285_1136 hk_285_1137 hk_285_1139 hk_285_1140 hk_285_1141 rfl rfl (by decide) (by decide) (by decide) i0 i1 hL (fun y5 => ?_)
  show AR _ _ _ _ _ _ _ 1142 [(5, .int z4), (4, .int i), (3, .ref 197), (2, .ref 181), (1, .ref 0), (0, .ref 1000000001)] [.int y5, .ref 181] g3 _ _
  refine lw_v (kd := 0) (bc' := bc + 1176) (bs' := bs + 14018) (r := 181) (as := [.int y5]) hk_285_1142 (by decide) (by decide +kernel) (by decide) (by decide +kernel) rfl rfl (tk_1172_ok G) rfl ⟨_, _, rfl, rfl, _, _, rfl, lw_ai _, rfl⟩ Ig3 (by decide +kernel) (by decide) (by show _ + 0 ≤ _; omega) (by show _ + 0 ≤ _; omega) (by decide +kernel) (fun x6 g7 qx6 Ig7 => ?_)
  obtain ⟨z8, rfl⟩ := qx6.1 rfl
  show AR _ _ _ _ _ _ _ 1145 [(5, .int z4), (4, .int i), (3, .ref 197), (2, .ref 181), (1, .ref 0), (0, .ref 1000000001)] [.int z8] g7 _ _
  refine AR.istore (ax_look_ok hk_285_1145).1 (by decide +kernel) rfl ?_
  show AR _ _ _ _ _ _ _ 1147 [(6, .int z8), (5, .int z4), (4, .int i), (3, .ref 197), (2, .ref 181), (1, .ref 0), (0, .ref 1000000001)] [] g7 _ _
  refine AR.goto (ax_look_ok hk_285_1147).1 (tgt := 1335) (by decide) ?_
  show AR _ _ _ _ _ _ _ 1335 [(6, .int z8), (5, .int z4), (4, .int i), (3, .ref 197), (2, .ref 181), (1, .ref 0), (0, .ref 1000000001)] [] g7 _ _
  refine AR.lessL (lv' := [(4, .int i), (3, .ref 197), (2, .ref 181), (1, .ref 0), (0, .ref 1000000001)]) (List.forall_mem_cons.mpr ⟨⟨_, by simp, ax_le_rfl rfl⟩, (List.forall_mem_cons.mpr ⟨⟨_, by simp, ax_le_rfl rfl⟩, (List.forall_mem_cons.mpr ⟨⟨_, by simp, ax_le_rfl rfl⟩, (List.forall_mem_cons.mpr ⟨⟨_, by simp, ax_le_rfl rfl⟩, (List.forall_mem_cons.mpr ⟨⟨_, by simp, ax_le_rfl rfl⟩, (fun _ h => absurd h List.not_mem_nil)⟩)⟩)⟩)⟩)⟩) ?_
  exact AR.lt (by omega) (by omega) (k _ Ig7)
theorem lw_op33 (G : ty_G hy_I l) (i0 : 0 ≤ i.toInt) (i1 : i.toInt + 6 ≤ L) (hL : L ≤ 3072) (I : lw_I h) (k : ∀ h', lw_I h' → AR ax_ns l (ax_mm 285) 13 (ax_r L xs) P X 1335 [(4, .int i), (3, .ref 197), (2, .ref 181), (1, .ref 0), (0, .ref 1000000001)] [] h' bc bs) : AR ax_ns l (ax_mm 285) 13 (ax_r L xs) P X 1150 [(4, .int i), (3, .ref 197), (2, .ref 181), (1, .ref 0), (0, .ref 1000000001)] [] h (bc + 1177) (bs + 14024) := by
  refine AR.aload_n (ax_look_ok hk_285_1150).1 (x := .ref 0) rfl rfl ?_
  refine lw_sc hk_285_1151 hk_285_1152 hk_285_1154 hk_285_1155 hk_285_1156 rfl rfl (by decide) (by decide) (by decide) i0 i1 hL (fun y1 => ?_)
  show AR _ _ _ _ _ _ _ 1157 [(4, .int i), (3, .ref 197), (2, .ref 181), (1, .ref 0), (0, .ref 1000000001)] [.int y1, .ref 0] h _ _
  refine lw_sc hk_285_1157 hk_285_1158 hk_285_1160 hk_285_1161 hk_285_1162 rfl rfl (by decide) (by decide) (by decide) i0 i1 hL (fun y2 => ?_)
  show AR _ _ _ _ _ _ _ 1163 [(4, .int i), (3, .ref 197), (2, .ref 181), (1, .ref 0), (0, .ref 1000000001)] [.int y2, .int y1, .ref 0] h _ _
  refine AR.aload_n (ax_look_ok hk_285_1163).1 (x := .ref 197) rfl rfl ?_
  refine lw_s (kd := 0) (bc' := bc + 1176) (bs' := bs + 14018) (as := [.ref 0, .int y1, .int y2, .ref 197]) hk_285_1164 (by decide +kernel) rfl rfl (tk_170_ok G) rfl ⟨_, _, rfl, rfl, _, _, rfl, lw_ai _, _, _, rfl, lw_ai _, _, _, rfl, rfl, rfl⟩ I (by decide +kernel) (by decide) (by show _ + 1 ≤ _; omega) (by show _ + 6 ≤ _; omega) (by decide +kernel) (fun x3 g4 qx3 Ig4 => ?_)
  obtain ⟨z5, rfl⟩ := qx3.1 rfl
  show AR _ _ _ _ _ _ _ 1167 [(4, .int i), (3, .ref 197), (2, .ref 181), (1, .ref 0), (0, .ref 1000000001)] [.int z5] g4 _ _
  refine AR.istore (ax_look_ok hk_285_1167).1 (by decide +kernel) rfl ?_
  show AR _ _ _ _ _ _ _ 1169 [(5, .int z5), (4, .int i), (3, .ref 197), (2, .ref 181), (1, .ref 0), (0, .ref 1000000001)] [] g4 _ _
  refine AR.aload_n (ax_look_ok hk_285_1169).1 (x := .ref 181) rfl rfl ?_
  refine lw_sc hk_285_1170 hk_285_1171 hk_285_1173 hk_285_1174 hk_285_1175 rfl rfl (by decide) (by decide) (by decide) i0 i1 hL (fun y6 => ?_)
  show AR _ _ _ _ _ _ _ 1176 [(5, .int z5), (4, .int i), (3, .ref 197), (2, .ref 181), (1, .ref 0), (0, .ref 1000000001)] [.int y6, .ref 181] g4 _ _
  refine lw_sc hk_285_1176 hk_285_1177 hk_285_1179 hk_285_1180 hk_285_1181 rfl rfl (by decide) (by decide) (by decide) i0 i1 hL (fun y7 => ?_)
  show AR _ _ _ _ _ _ _ 1182 [(5, .int z5), (4, .int i), (3, .ref 197), (2, .ref 181), (1, .ref 0), (0, .ref 1000000001)] [.int y7, .int y6, .ref 181] g4 _ _
  refine lw_v (kd := 0) (bc' := bc + 1176) (bs' := bs + 14018) (r := 181) (as := [.int y6, .int y7]) hk_285_1182 (by decide) (by decide +kernel) (by decide) (by decide +kernel) rfl rfl (tk_1173_ok G) rfl ⟨_, _, rfl, rfl, _, _, rfl, lw_ai _, _, _, rfl, lw_ai _, rfl⟩ Ig4 (by decide +kernel) (by decide) (by show _ + 0 ≤ _; omega) (by show _ + 0 ≤ _; omega) (by decide +kernel) (fun x8 g9 qx8 Ig9 => ?_)
  obtain ⟨z10, rfl⟩ := qx8.1 rfl
  show AR _ _ _ _ _ _ _ 1185 [(5, .int z5), (4, .int i), (3, .ref 197), (2, .ref 181), (1, .ref 0), (0, .ref 1000000001)] [.int z10] g9 _ _
  refine AR.istore (ax_look_ok hk_285_1185).1 (by decide +kernel) rfl ?_
  show AR _ _ _ _ _ _ _ 1187 [(6, .int z10), (5, .int z5), (4, .int i), (3, .ref 197), (2, .ref 181), (1, .ref 0), (0, .ref 1000000001)] [] g9 _ _
  refine AR.goto (ax_look_ok hk_285_1187).1 (tgt := 1335) (by decide) ?_
  show AR _ _ _ _ _ _ _ 1335 [(6, .int z10), (5, .int z5), (4, .int i), (3, .ref 197), (2, .ref 181), (1, .ref 0), (0, .ref 1000000001)] [] g9 _ _
  refine AR.lessL (lv' := [(4, .int i), (3, .ref 197), (2, .ref 181), (1, .ref 0), (0, .ref 1000000001)]) (List.forall_mem_cons.mpr ⟨⟨_, by simp, ax_le_rfl rfl⟩, (List.forall_mem_cons.mpr ⟨⟨_, by simp, ax_le_rfl rfl⟩, (List.forall_mem_cons.mpr ⟨⟨_, by simp, ax_le_rfl rfl⟩, (List.forall_mem_cons.mpr ⟨⟨_, by simp, ax_le_rfl rfl⟩, (List.forall_mem_cons.mpr ⟨⟨_, by simp, ax_le_rfl rfl⟩, (fun _ h => absurd h List.not_mem_nil)⟩)⟩)⟩)⟩)⟩) ?_
  exact AR.lt (by omega) (by omega) (k _ Ig9)
theorem lw_op34 (G : ty_G hy_I l) (i0 : 0 ≤ i.toInt) (i1 : i.toInt + 6 ≤ L) (hL : L ≤ 3072) (I : lw_I h) (k : ∀ h', lw_I h' → AR ax_ns l (ax_mm 285) 13 (ax_r L xs) P X 1335 [(4, .int i), (3, .ref 197), (2, .ref 181), (1, .ref 0), (0, .ref 1000000001)] [] h' bc bs) : AR ax_ns l (ax_mm 285) 13 (ax_r L xs) P X 1190 [(4, .int i), (3, .ref 197), (2, .ref 181), (1, .ref 0), (0, .ref 1000000001)] [] h (bc + 1177) (bs + 14024) := by
  refine AR.aload_n (ax_look_ok hk_285_1190).1 (x := .ref 0) rfl rfl ?_
  refine AR.aload_n (ax_look_ok hk_285_1191).1 (x := .ref 197) rfl rfl ?_
  refine lw_s (kd := 0) (bc' := bc + 1176) (bs' := bs + 14018) (as := [.ref 0, .ref 197]) hk_285_1192 (by decide +kernel) rfl rfl (tk_176_ok G) rfl ⟨_, _, rfl, rfl, _, _, rfl, rfl, rfl⟩ I (by decide +kernel) (by decide) (by show _ + 1 ≤ _; omega) (by show _ + 6 ≤ _; omega) (by decide +kernel) (fun x1 g2 qx1 Ig2 => ?_)
  obtain ⟨z3, rfl⟩ := qx1.1 rfl
  show AR _ _ _ _ _ _ _ 1195 [(4, .int i), (3, .ref 197), (2, .ref 181), (1, .ref 0), (0, .ref 1000000001)] [.int z3] g2 _ _
  refine AR.istore (ax_look_ok hk_285_1195).1 (by decide +kernel) rfl ?_
  show AR _ _ _ _ _ _ _ 1197 [(5, .int z3), (4, .int i), (3, .ref 197), (2, .ref 181), (1, .ref 0), (0, .ref 1000000001)] [] g2 _ _
  refine AR.aload_n (ax_look_ok hk_285_1197).1 (x := .ref 181) rfl rfl ?_
  refine lw_v (kd := 0) (bc' := bc + 1176) (bs' := bs + 14018) (r := 181) (as := []) hk_285_1198 (by decide) (by decide +kernel) (by decide) (by decide +kernel) rfl rfl (tk_1176_ok G) rfl ⟨_, _, rfl, rfl, rfl⟩ Ig2 (by decide +kernel) (by decide) (by show _ + 0 ≤ _; omega) (by show _ + 0 ≤ _; omega) (by decide +kernel) (fun x4 g5 qx4 Ig5 => ?_)
  obtain ⟨z6, rfl⟩ := qx4.1 rfl
  show AR _ _ _ _ _ _ _ 1201 [(5, .int z3), (4, .int i), (3, .ref 197), (2, .ref 181), (1, .ref 0), (0, .ref 1000000001)] [.int z6] g5 _ _
  refine AR.istore (ax_look_ok hk_285_1201).1 (by decide +kernel) rfl ?_
  show AR _ _ _ _ _ _ _ 1203 [(6, .int z6), (5, .int z3), (4, .int i), (3, .ref 197), (2, .ref 181), (1, .ref 0), (0, .ref 1000000001)] [] g5 _ _
  refine AR.goto (ax_look_ok hk_285_1203).1 (tgt := 1335) (by decide) ?_
  show AR _ _ _ _ _ _ _ 1335 [(6, .int z6), (5, .int z3), (4, .int i), (3, .ref 197), (2, .ref 181), (1, .ref 0), (0, .ref 1000000001)] [] g5 _ _
  refine AR.lessL (lv' := [(4, .int i), (3, .ref 197), (2, .ref 181), (1, .ref 0), (0, .ref 1000000001)]) (List.forall_mem_cons.mpr ⟨⟨_, by simp, ax_le_rfl rfl⟩, (List.forall_mem_cons.mpr ⟨⟨_, by simp, ax_le_rfl rfl⟩, (List.forall_mem_cons.mpr ⟨⟨_, by simp, ax_le_rfl rfl⟩, (List.forall_mem_cons.mpr ⟨⟨_, by simp, ax_le_rfl rfl⟩, (List.forall_mem_cons.mpr ⟨⟨_, by simp, ax_le_rfl rfl⟩, (fun _ h => absurd h List.not_mem_nil)⟩)⟩)⟩)⟩)⟩) ?_
  exact AR.lt (by omega) (by omega) (k _ Ig5)
theorem lw_op35 (G : ty_G hy_I l) (i0 : 0 ≤ i.toInt) (i1 : i.toInt + 6 ≤ L) (hL : L ≤ 3072) (I : lw_I h) (k : ∀ h', lw_I h' → AR ax_ns l (ax_mm 285) 13 (ax_r L xs) P X 1335 [(4, .int i), (3, .ref 197), (2, .ref 181), (1, .ref 0), (0, .ref 1000000001)] [] h' bc bs) : AR ax_ns l (ax_mm 285) 13 (ax_r L xs) P X 1206 [(4, .int i), (3, .ref 197), (2, .ref 181), (1, .ref 0), (0, .ref 1000000001)] [] h (bc + 1177) (bs + 14024) := by
  refine AR.aload_n (ax_look_ok hk_285_1206).1 (x := .ref 0) rfl rfl ?_
  refine AR.aload_n (ax_look_ok hk_285_1207).1 (x := .ref 197) rfl rfl ?_
  refine lw_s (kd := 0) (bc' := bc + 1176) (bs' := bs + 14018) (as := [.ref 0, .ref 197]) hk_285_1208 (by decide +kernel) rfl rfl (tk_178_ok G) rfl ⟨_, _, rfl, rfl, _, _, rfl, rfl, rfl⟩ I (by decide +kernel) (by decide) (by show _ + 1 ≤ _; omega) (by show _ + 6 ≤ _; omega) (by decide +kernel) (fun x1 g2 qx1 Ig2 => ?_)
  obtain ⟨z3, rfl⟩ := qx1.1 rfl
  show AR _ _ _ _ _ _ _ 1211 [(4, .int i), (3, .ref 197), (2, .ref 181), (1, .ref 0), (0, .ref 1000000001)] [.int z3] g2 _ _
  refine AR.istore (ax_look_ok hk_285_1211).1 (by decide +kernel) rfl ?_
  show AR _ _ _ _ _ _ _ 1213 [(5, .int z3), (4, .int i), (3, .ref 197), (2, .ref 181), (1, .ref 0), (0, .ref 1000000001)] [] g2 _ _
  refine AR.aload_n (ax_look_ok hk_285_1213).1 (x := .ref 181) rfl rfl ?_
  refine lw_v (kd := 0) (bc' := bc + 1176) (bs' := bs + 14018) (r := 181) (as := []) hk_285_1214 (by decide) (by decide +kernel) (by decide) (by decide +kernel) rfl rfl (tk_1177_ok G) rfl ⟨_, _, rfl, rfl, rfl⟩ Ig2 (by decide +kernel) (by decide) (by show _ + 0 ≤ _; omega) (by show _ + 0 ≤ _; omega) (by decide +kernel) (fun x4 g5 qx4 Ig5 => ?_)
  obtain ⟨z6, rfl⟩ := qx4.1 rfl
  show AR _ _ _ _ _ _ _ 1217 [(5, .int z3), (4, .int i), (3, .ref 197), (2, .ref 181), (1, .ref 0), (0, .ref 1000000001)] [.int z6] g5 _ _
  refine AR.istore (ax_look_ok hk_285_1217).1 (by decide +kernel) rfl ?_
  show AR _ _ _ _ _ _ _ 1219 [(6, .int z6), (5, .int z3), (4, .int i), (3, .ref 197), (2, .ref 181), (1, .ref 0), (0, .ref 1000000001)] [] g5 _ _
  refine AR.goto (ax_look_ok hk_285_1219).1 (tgt := 1335) (by decide) ?_
  show AR _ _ _ _ _ _ _ 1335 [(6, .int z6), (5, .int z3), (4, .int i), (3, .ref 197), (2, .ref 181), (1, .ref 0), (0, .ref 1000000001)] [] g5 _ _
  refine AR.lessL (lv' := [(4, .int i), (3, .ref 197), (2, .ref 181), (1, .ref 0), (0, .ref 1000000001)]) (List.forall_mem_cons.mpr ⟨⟨_, by simp, ax_le_rfl rfl⟩, (List.forall_mem_cons.mpr ⟨⟨_, by simp, ax_le_rfl rfl⟩, (List.forall_mem_cons.mpr ⟨⟨_, by simp, ax_le_rfl rfl⟩, (List.forall_mem_cons.mpr ⟨⟨_, by simp, ax_le_rfl rfl⟩, (List.forall_mem_cons.mpr ⟨⟨_, by simp, ax_le_rfl rfl⟩, (fun _ h => absurd h List.not_mem_nil)⟩)⟩)⟩)⟩)⟩) ?_
  exact AR.lt (by omega) (by omega) (k _ Ig5)
theorem lw_op36 (G : ty_G hy_I l) (i0 : 0 ≤ i.toInt) (i1 : i.toInt + 6 ≤ L) (hL : L ≤ 3072) (I : lw_I h) (k : ∀ h', lw_I h' → AR ax_ns l (ax_mm 285) 13 (ax_r L xs) P X 1335 [(4, .int i), (3, .ref 197), (2, .ref 181), (1, .ref 0), (0, .ref 1000000001)] [] h' bc bs) : AR ax_ns l (ax_mm 285) 13 (ax_r L xs) P X 1222 [(4, .int i), (3, .ref 197), (2, .ref 181), (1, .ref 0), (0, .ref 1000000001)] [] h (bc + 1177) (bs + 14024) := by
  refine AR.aload_n (ax_look_ok hk_285_1222).1 (x := .ref 0) rfl rfl ?_
  refine lw_sc hk_285_1223 hk_285_1224 hk_285_1226 hk_285_1227 hk_285_1228 rfl rfl (by decide) (by decide) (by decide) i0 i1 hL (fun y1 => ?_)
  show AR _ _ _ _ _ _ _ 1229 [(4, .int i), (3, .ref 197), (2, .ref 181), (1, .ref 0), (0, .ref 1000000001)] [.int y1, .ref 0] h _ _
  refine lw_sc hk_285_1229 hk_285_1230 hk_285_1232 hk_285_1233 hk_285_1234 rfl rfl (by decide) (by decide) (by decide) i0 i1 hL (fun y2 => ?_)
  show AR _ _ _ _ _ _ _ 1235 [(4, .int i), (3, .ref 197), (2, .ref 181), (1, .ref 0), (0, .ref 1000000001)] [.int y2, .int y1, .ref 0] h _ _
  refine AR.aload_n (ax_look_ok hk_285_1235).1 (x := .ref 197) rfl rfl ?_
  refine lw_s (kd := 0) (bc' := bc + 1176) (bs' := bs + 14018) (as := [.ref 0, .int y1, .int y2, .ref 197]) hk_285_1236 (by decide +kernel) rfl rfl (tk_182_ok G) rfl ⟨_, _, rfl, rfl, _, _, rfl, lw_ai _, _, _, rfl, lw_ai _, _, _, rfl, rfl, rfl⟩ I (by decide +kernel) (by decide) (by show _ + 1 ≤ _; omega) (by show _ + 6 ≤ _; omega) (by decide +kernel) (fun x3 g4 qx3 Ig4 => ?_)
  obtain ⟨z5, rfl⟩ := qx3.1 rfl
  show AR _ _ _ _ _ _ _ 1239 [(4, .int i), (3, .ref 197), (2, .ref 181), (1, .ref 0), (0, .ref 1000000001)] [.int z5] g4 _ _
  refine AR.istore (ax_look_ok hk_285_1239).1 (by decide +kernel) rfl ?_
  show AR _ _ _ _ _ _ _ 1241 [(5, .int z5), (4, .int i), (3, .ref 197), (2, .ref 181), (1, .ref 0), (0, .ref 1000000001)] [] g4 _ _
  refine AR.aload_n (ax_look_ok hk_285_1241).1 (x := .ref 181) rfl rfl ?_
  refine lw_sc hk_285_1242 hk_285_1243 hk_285_1245 hk_285_1246 hk_285_1247 rfl rfl (by decide) (by decide) (by decide) i0 i1 hL (fun y6 => ?_)
  show AR _ _ _ _ _ _ _ 1248 [(5, .int z5), (4, .int i), (3, .ref 197), (2, .ref 181), (1, .ref 0), (0, .ref 1000000001)] [.int y6, .ref 181] g4 _ _
  refine lw_sc hk_285_1248 hk_285_1249 hk_285_1251 hk_285_1252 hk_285_1253 rfl rfl (by decide) (by decide) (by decide) i0 i1 hL (fun y7 => ?_)
  show AR _ _ _ _ _ _ _ 1254 [(5, .int z5), (4, .int i), (3, .ref 197), (2, .ref 181), (1, .ref 0), (0, .ref 1000000001)] [.int y7, .int y6, .ref 181] g4 _ _
  refine lw_v (kd := 0) (bc' := bc + 1175) (bs' := bs + 13994) (r := 181) (as := [.int y6, .int y7]) hk_285_1254 (by decide) (by decide +kernel) (by decide) (by decide +kernel) rfl rfl (tk_1180_ok G) rfl ⟨_, _, rfl, rfl, _, _, rfl, lw_ai _, _, _, rfl, lw_ai _, rfl⟩ Ig4 (by decide +kernel) (by decide) (by show _ + 1 ≤ _; omega) (by show _ + 24 ≤ _; omega) (by decide +kernel) (fun x8 g9 qx8 Ig9 => ?_)
  obtain ⟨z10, rfl⟩ := qx8.1 rfl
  show AR _ _ _ _ _ _ _ 1257 [(5, .int z5), (4, .int i), (3, .ref 197), (2, .ref 181), (1, .ref 0), (0, .ref 1000000001)] [.int z10] g9 _ _
  refine AR.istore (ax_look_ok hk_285_1257).1 (by decide +kernel) rfl ?_
  show AR _ _ _ _ _ _ _ 1259 [(6, .int z10), (5, .int z5), (4, .int i), (3, .ref 197), (2, .ref 181), (1, .ref 0), (0, .ref 1000000001)] [] g9 _ _
  refine AR.goto (ax_look_ok hk_285_1259).1 (tgt := 1335) (by decide) ?_
  show AR _ _ _ _ _ _ _ 1335 [(6, .int z10), (5, .int z5), (4, .int i), (3, .ref 197), (2, .ref 181), (1, .ref 0), (0, .ref 1000000001)] [] g9 _ _
  refine AR.lessL (lv' := [(4, .int i), (3, .ref 197), (2, .ref 181), (1, .ref 0), (0, .ref 1000000001)]) (List.forall_mem_cons.mpr ⟨⟨_, by simp, ax_le_rfl rfl⟩, (List.forall_mem_cons.mpr ⟨⟨_, by simp, ax_le_rfl rfl⟩, (List.forall_mem_cons.mpr ⟨⟨_, by simp, ax_le_rfl rfl⟩, (List.forall_mem_cons.mpr ⟨⟨_, by simp, ax_le_rfl rfl⟩, (List.forall_mem_cons.mpr ⟨⟨_, by simp, ax_le_rfl rfl⟩, (fun _ h => absurd h List.not_mem_nil)⟩)⟩)⟩)⟩)⟩) ?_
  exact AR.lt (by omega) (by omega) (k _ Ig9)
theorem lw_op37 (G : ty_G hy_I l) (i0 : 0 ≤ i.toInt) (i1 : i.toInt + 6 ≤ L) (hL : L ≤ 3072) (I : lw_I h) (k : ∀ h', lw_I h' → AR ax_ns l (ax_mm 285) 13 (ax_r L xs) P X 1335 [(4, .int i), (3, .ref 197), (2, .ref 181), (1, .ref 0), (0, .ref 1000000001)] [] h' bc bs) : AR ax_ns l (ax_mm 285) 13 (ax_r L xs) P X 1262 [(4, .int i), (3, .ref 197), (2, .ref 181), (1, .ref 0), (0, .ref 1000000001)] [] h (bc + 1177) (bs + 14024) := by
  refine AR.aload_n (ax_look_ok hk_285_1262).1 (x := .ref 0) rfl rfl ?_
  refine lw_sc hk_285_1263 hk_285_1264 hk_285_1266 hk_285_1267 hk_285_1268 rfl rfl (by decide) (by decide) (by decide) i0 i1 hL (fun y1 => ?_)
  show AR _ _ _ _ _ _ _ 1269 [(4, .int i), (3, .ref 197), (2, .ref 181), (1, .ref 0), (0, .ref 1000000001)] [.int y1, .ref 0] h _ _
  refine AR.aload_n (ax_look_ok hk_285_1269).1 (x := .ref 197) rfl rfl ?_
  refine lw_s (kd := 0) (bc' := bc + 1176) (bs' := bs + 14018) (as := [.ref 0, .int y1, .ref 197]) hk_285_1270 (by decide +kernel) rfl rfl (tk_187_ok G) rfl ⟨_, _, rfl, rfl, _, _, rfl, lw_ai _, _, _, rfl, rfl, rfl⟩ I (by decide +kernel) (by decide) (by show _ + 1 ≤ _; omega) (by show _ + 6 ≤ _; omega) (by decide +kernel) (fun x2 g3 qx2 Ig3 => ?_)
  obtain ⟨z4, rfl⟩ := qx2.1 rfl
  show AR _ _ _ _ _ _ _ 1273 [(4, .int i), (3, .ref 197), (2, .ref 181), (1, .ref 0), (0, .ref 1000000001)] [.int z4] g3 _ _
  refine AR.istore (ax_look_ok hk_285_1273).1 (by decide +kernel) rfl ?_
  show AR _ _ _ _ _ _ _ 1275 [(5, .int z4), (4, .int i), (3, .ref 197), (2, .ref 181), (1, .ref 0), (0, .ref 1000000001)] [] g3 _ _
  refine AR.aload_n (ax_look_ok hk_285_1275).1 (x := .ref 181) rfl rfl ?_
  refine lw_sc hk_285_1276 hk_285_1277 hk_285_1279 hk_285_1280 hk_285_1281 rfl rfl (by decide) (by decide) (by decide) i0 i1 hL (fun y5 => ?_)
  show AR _ _ _ _ _ _ _ 1282 [(5, .int z4), (4, .int i), (3, .ref 197), (2, .ref 181), (1, .ref 0), (0, .ref 1000000001)] [.int y5, .ref 181] g3 _ _
  refine lw_v (kd := 0) (bc' := bc + 1176) (bs' := bs + 14018) (r := 181) (as := [.int y5]) hk_285_1282 (by decide) (by decide +kernel) (by decide) (by decide +kernel) rfl rfl (tk_1182_ok G) rfl ⟨_, _, rfl, rfl, _, _, rfl, lw_ai _, rfl⟩ Ig3 (by decide +kernel) (by decide) (by show _ + 0 ≤ _; omega) (by show _ + 0 ≤ _; omega) (by decide +kernel) (fun x6 g7 qx6 Ig7 => ?_)
  obtain ⟨z8, rfl⟩ := qx6.1 rfl
  show AR _ _ _ _ _ _ _ 1285 [(5, .int z4), (4, .int i), (3, .ref 197), (2, .ref 181), (1, .ref 0), (0, .ref 1000000001)] [.int z8] g7 _ _
  refine AR.istore (ax_look_ok hk_285_1285).1 (by decide +kernel) rfl ?_
  show AR _ _ _ _ _ _ _ 1287 [(6, .int z8), (5, .int z4), (4, .int i), (3, .ref 197), (2, .ref 181), (1, .ref 0), (0, .ref 1000000001)] [] g7 _ _
  refine AR.goto (ax_look_ok hk_285_1287).1 (tgt := 1335) (by decide) ?_
  show AR _ _ _ _ _ _ _ 1335 [(6, .int z8), (5, .int z4), (4, .int i), (3, .ref 197), (2, .ref 181), (1, .ref 0), (0, .ref 1000000001)] [] g7 _ _
  refine AR.lessL (lv' := [(4, .int i), (3, .ref 197), (2, .ref 181), (1, .ref 0), (0, .ref 1000000001)]) (List.forall_mem_cons.mpr ⟨⟨_, by simp, ax_le_rfl rfl⟩, (List.forall_mem_cons.mpr ⟨⟨_, by simp, ax_le_rfl rfl⟩, (List.forall_mem_cons.mpr ⟨⟨_, by simp, ax_le_rfl rfl⟩, (List.forall_mem_cons.mpr ⟨⟨_, by simp, ax_le_rfl rfl⟩, (List.forall_mem_cons.mpr ⟨⟨_, by simp, ax_le_rfl rfl⟩, (fun _ h => absurd h List.not_mem_nil)⟩)⟩)⟩)⟩)⟩) ?_
  exact AR.lt (by omega) (by omega) (k _ Ig7)
theorem lw_op38 (G : ty_G hy_I l) (i0 : 0 ≤ i.toInt) (i1 : i.toInt + 6 ≤ L) (hL : L ≤ 3072) (I : lw_I h) (k : ∀ h', lw_I h' → AR ax_ns l (ax_mm 285) 13 (ax_r L xs) P X 1335 [(4, .int i), (3, .ref 197), (2, .ref 181), (1, .ref 0), (0, .ref 1000000001)] [] h' bc bs) : AR ax_ns l (ax_mm 285) 13 (ax_r L xs) P X 1290 [(4, .int i), (3, .ref 197), (2, .ref 181), (1, .ref 0), (0, .ref 1000000001)] [] h (bc + 1177) (bs + 14024) := by
  refine AR.aload_n (ax_look_ok hk_285_1290).1 (x := .ref 0) rfl rfl ?_
  refine AR.aload_n (ax_look_ok hk_285_1291).1 (x := .ref 197) rfl rfl ?_
  refine lw_s (kd := 0) (bc' := bc + 1176) (bs' := bs + 14018) (as := [.ref 0, .ref 197]) hk_285_1292 (by decide +kernel) rfl rfl (tk_191_ok G) rfl ⟨_, _, rfl, rfl, _, _, rfl, rfl, rfl⟩ I (by decide +kernel) (by decide) (by show _ + 1 ≤ _; omega) (by show _ + 6 ≤ _; omega) (by decide +kernel) (fun x1 g2 qx1 Ig2 => ?_)
  obtain ⟨z3, rfl⟩ := qx1.1 rfl
  show AR _ _ _ _ _ _ _ 1295 [(4, .int i), (3, .ref 197), (2, .ref 181), (1, .ref 0), (0, .ref 1000000001)] [.int z3] g2 _ _
  refine AR.istore (ax_look_ok hk_285_1295).1 (by decide +kernel) rfl ?_
  show AR _ _ _ _ _ _ _ 1297 [(5, .int z3), (4, .int i), (3, .ref 197), (2, .ref 181), (1, .ref 0), (0, .ref 1000000001)] [] g2 _ _
  refine AR.aload_n (ax_look_ok hk_285_1297).1 (x := .ref 181) rfl rfl ?_
  refine lw_v (kd := 0) (bc' := bc + 1176) (bs' := bs + 14018) (r := 181) (as := []) hk_285_1298 (by decide) (by decide +kernel) (by decide) (by decide +kernel) rfl rfl (tk_1183_ok G) rfl ⟨_, _, rfl, rfl, rfl⟩ Ig2 (by decide +kernel) (by decide) (by show _ + 0 ≤ _; omega) (by show _ + 0 ≤ _; omega) (by decide +kernel) (fun x4 g5 qx4 Ig5 => ?_)
  obtain ⟨z6, rfl⟩ := qx4.1 rfl
  show AR _ _ _ _ _ _ _ 1301 [(5, .int z3), (4, .int i), (3, .ref 197), (2, .ref 181), (1, .ref 0), (0, .ref 1000000001)] [.int z6] g5 _ _
  refine AR.istore (ax_look_ok hk_285_1301).1 (by decide +kernel) rfl ?_
  show AR _ _ _ _ _ _ _ 1303 [(6, .int z6), (5, .int z3), (4, .int i), (3, .ref 197), (2, .ref 181), (1, .ref 0), (0, .ref 1000000001)] [] g5 _ _
  refine AR.goto (ax_look_ok hk_285_1303).1 (tgt := 1335) (by decide) ?_
  show AR _ _ _ _ _ _ _ 1335 [(6, .int z6), (5, .int z3), (4, .int i), (3, .ref 197), (2, .ref 181), (1, .ref 0), (0, .ref 1000000001)] [] g5 _ _
  refine AR.lessL (lv' := [(4, .int i), (3, .ref 197), (2, .ref 181), (1, .ref 0), (0, .ref 1000000001)]) (List.forall_mem_cons.mpr ⟨⟨_, by simp, ax_le_rfl rfl⟩, (List.forall_mem_cons.mpr ⟨⟨_, by simp, ax_le_rfl rfl⟩, (List.forall_mem_cons.mpr ⟨⟨_, by simp, ax_le_rfl rfl⟩, (List.forall_mem_cons.mpr ⟨⟨_, by simp, ax_le_rfl rfl⟩, (List.forall_mem_cons.mpr ⟨⟨_, by simp, ax_le_rfl rfl⟩, (fun _ h => absurd h List.not_mem_nil)⟩)⟩)⟩)⟩)⟩) ?_
  exact AR.lt (by omega) (by omega) (k _ Ig5)
theorem lw_op39 (G : ty_G hy_I l) (i0 : 0 ≤ i.toInt) (i1 : i.toInt + 6 ≤ L) (hL : L ≤ 3072) (I : lw_I h) (k : ∀ h', lw_I h' → AR ax_ns l (ax_mm 285) 13 (ax_r L xs) P X 1335 [(4, .int i), (3, .ref 197), (2, .ref 181), (1, .ref 0), (0, .ref 1000000001)] [] h' bc bs) : AR ax_ns l (ax_mm 285) 13 (ax_r L xs) P X 1306 [(4, .int i), (3, .ref 197), (2, .ref 181), (1, .ref 0), (0, .ref 1000000001)] [] h (bc + 1177) (bs + 14024) := by
  refine AR.aload_n (ax_look_ok hk_285_1306).1 (x := .ref 0) rfl rfl ?_
  refine AR.aload_n (ax_look_ok hk_285_1307).1 (x := .ref 197) rfl rfl ?_
  refine lw_s (kd := 0) (bc' := bc + 1176) (bs' := bs + 14018) (as := [.ref 0, .ref 197]) hk_285_1308 (by decide +kernel) rfl rfl (tk_194_ok G) rfl ⟨_, _, rfl, rfl, _, _, rfl, rfl, rfl⟩ I (by decide +kernel) (by decide) (by show _ + 1 ≤ _; omega) (by show _ + 6 ≤ _; omega) (by decide +kernel) (fun x1 g2 qx1 Ig2 => ?_)
  obtain ⟨z3, rfl⟩ := qx1.1 rfl
  show AR _ _ _ _ _ _ _ 1311 [(4, .int i), (3, .ref 197), (2, .ref 181), (1, .ref 0), (0, .ref 1000000001)] [.int z3] g2 _ _
  refine AR.istore (ax_look_ok hk_285_1311).1 (by decide +kernel) rfl ?_
  show AR _ _ _ _ _ _ _ 1313 [(5, .int z3), (4, .int i), (3, .ref 197), (2, .ref 181), (1, .ref 0), (0, .ref 1000000001)] [] g2 _ _
  refine AR.aload_n (ax_look_ok hk_285_1313).1 (x := .ref 181) rfl rfl ?_
  refine lw_v (kd := 0) (bc' := bc + 1176) (bs' := bs + 14018) (r := 181) (as := []) hk_285_1314 (by decide) (by decide +kernel) (by decide) (by decide +kernel) rfl rfl (tk_1184_ok G) rfl ⟨_, _, rfl, rfl, rfl⟩ Ig2 (by decide +kernel) (by decide) (by show _ + 0 ≤ _; omega) (by show _ + 0 ≤ _; omega) (by decide +kernel) (fun x4 g5 qx4 Ig5 => ?_)
  obtain ⟨z6, rfl⟩ := qx4.1 rfl
  show AR _ _ _ _ _ _ _ 1317 [(5, .int z3), (4, .int i), (3, .ref 197), (2, .ref 181), (1, .ref 0), (0, .ref 1000000001)] [.int z6] g5 _ _
  refine AR.istore (ax_look_ok hk_285_1317).1 (by decide +kernel) rfl ?_
  show AR _ _ _ _ _ _ _ 1319 [(6, .int z6), (5, .int z3), (4, .int i), (3, .ref 197), (2, .ref 181), (1, .ref 0), (0, .ref 1000000001)] [] g5 _ _
  refine AR.goto (ax_look_ok hk_285_1319).1 (tgt := 1335) (by decide) ?_
  show AR _ _ _ _ _ _ _ 1335 [(6, .int z6), (5, .int z3), (4, .int i), (3, .ref 197), (2, .ref 181), (1, .ref 0), (0, .ref 1000000001)] [] g5 _ _
  refine AR.lessL (lv' := [(4, .int i), (3, .ref 197), (2, .ref 181), (1, .ref 0), (0, .ref 1000000001)]) (List.forall_mem_cons.mpr ⟨⟨_, by simp, ax_le_rfl rfl⟩, (List.forall_mem_cons.mpr ⟨⟨_, by simp, ax_le_rfl rfl⟩, (List.forall_mem_cons.mpr ⟨⟨_, by simp, ax_le_rfl rfl⟩, (List.forall_mem_cons.mpr ⟨⟨_, by simp, ax_le_rfl rfl⟩, (List.forall_mem_cons.mpr ⟨⟨_, by simp, ax_le_rfl rfl⟩, (fun _ h => absurd h List.not_mem_nil)⟩)⟩)⟩)⟩)⟩) ?_
  exact AR.lt (by omega) (by omega) (k _ Ig5)
theorem lw_op40 (G : ty_G hy_I l) (i0 : 0 ≤ i.toInt) (i1 : i.toInt + 6 ≤ L) (hL : L ≤ 3072) (I : lw_I h) (k : ∀ h', lw_I h' → AR ax_ns l (ax_mm 285) 13 (ax_r L xs) P X 1335 [(4, .int i), (3, .ref 197), (2, .ref 181), (1, .ref 0), (0, .ref 1000000001)] [] h' bc bs) : AR ax_ns l (ax_mm 285) 13 (ax_r L xs) P X 1322 [(4, .int i), (3, .ref 197), (2, .ref 181), (1, .ref 0), (0, .ref 1000000001)] [] h (bc + 1177) (bs + 14024) := by
  refine AR.aload_n (ax_look_ok hk_285_1322).1 (x := .ref 0) rfl rfl ?_
  refine lw_v (kd := 1) (bc' := bc + 1177) (bs' := bs + 14024) (r := 0) (as := []) hk_285_1323 (by decide) (by decide +kernel) (by decide) (by decide +kernel) rfl rfl (tk_203_ok G) rfl ⟨_, _, rfl, rfl, rfl⟩ I (by decide +kernel) (by decide) (by show _ + 0 ≤ _; omega) (by show _ + 0 ≤ _; omega) (by decide +kernel) (fun x1 g2 qx1 Ig2 => ?_)
  obtain ⟨z3, rfl⟩ := qx1.2 rfl
  show AR _ _ _ _ _ _ _ 1326 [(4, .int i), (3, .ref 197), (2, .ref 181), (1, .ref 0), (0, .ref 1000000001)] [.long z3] g2 _ _
  refine AR.pop2 (ax_look_ok hk_285_1326).1 rfl ?_
  refine AR.aload_n (ax_look_ok hk_285_1327).1 (x := .ref 181) rfl rfl ?_
  refine lw_v (kd := 1) (bc' := bc + 1177) (bs' := bs + 14024) (r := 181) (as := []) hk_285_1328 (by decide) (by decide +kernel) (by decide) (by decide +kernel) rfl rfl (tk_1185_ok G) rfl ⟨_, _, rfl, rfl, rfl⟩ Ig2 (by decide +kernel) (by decide) (by show _ + 0 ≤ _; omega) (by show _ + 0 ≤ _; omega) (by decide +kernel) (fun x4 g5 qx4 Ig5 => ?_)
  obtain ⟨z6, rfl⟩ := qx4.2 rfl
  show AR _ _ _ _ _ _ _ 1331 [(4, .int i), (3, .ref 197), (2, .ref 181), (1, .ref 0), (0, .ref 1000000001)] [.long z6] g5 _ _
  refine AR.pop2 (ax_look_ok hk_285_1331).1 rfl ?_
  refine AR.goto (ax_look_ok hk_285_1332).1 (tgt := 1335) (by decide) ?_
  show AR _ _ _ _ _ _ _ 1335 [(4, .int i), (3, .ref 197), (2, .ref 181), (1, .ref 0), (0, .ref 1000000001)] [] g5 _ _
  refine AR.lessL (lv' := [(4, .int i), (3, .ref 197), (2, .ref 181), (1, .ref 0), (0, .ref 1000000001)]) (List.forall_mem_cons.mpr ⟨⟨_, by simp, ax_le_rfl rfl⟩, (List.forall_mem_cons.mpr ⟨⟨_, by simp, ax_le_rfl rfl⟩, (List.forall_mem_cons.mpr ⟨⟨_, by simp, ax_le_rfl rfl⟩, (List.forall_mem_cons.mpr ⟨⟨_, by simp, ax_le_rfl rfl⟩, (List.forall_mem_cons.mpr ⟨⟨_, by simp, ax_le_rfl rfl⟩, (fun _ h => absurd h List.not_mem_nil)⟩)⟩)⟩)⟩)⟩) ?_
  exact AR.lt (by omega) (by omega) (k _ Ig5)
end LWO
