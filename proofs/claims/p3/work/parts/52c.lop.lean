/-! THE LAW, 3: its operations -/
theorem hn_285 : (ax_mm 285).2.2.1 = 8 := by decide +kernel
theorem hr_285 : (ax_mm 285).2.2.2.1 = (some .boolean) := by decide +kernel
theorem hk_285_0 : ax_look 285 0 = some (.new 8, (8, 0, 0), .null, [1034, 1035, 1001]) := by decide +kernel
theorem hk_285_3 : ax_look 285 3 = some (.dup, (0, 0, 0), .null, []) := by decide +kernel
theorem hk_285_4 : ax_look 285 4 = some (.invokespecial 130, (69, 0, 0), .null, [1036]) := by decide +kernel
theorem hk_285_7 : ax_look 285 7 = some (.astore_n 1, (0, 0, 0), .null, []) := by decide +kernel
theorem hk_285_8 : ax_look 285 8 = some (.new 131, (9, 0, 0), .null, [6170, 6171, 1015]) := by decide +kernel
theorem hk_285_11 : ax_look 285 11 = some (.dup, (0, 0, 0), .null, []) := by decide +kernel
theorem hk_285_12 : ax_look 285 12 = some (.invokespecial 133, (130, 0, 0), .null, [6172]) := by decide +kernel
theorem hk_285_15 : ax_look 285 15 = some (.astore_n 2, (0, 0, 0), .null, []) := by decide +kernel
theorem hk_285_16 : ax_look 285 16 = some (.iconst 1, (0, 0, 0), .null, []) := by decide +kernel
theorem hk_285_17 : ax_look 285 17 = some (.newarray .long, (1, 0, 0), .null, [1144]) := by decide +kernel
theorem hk_285_19 : ax_look 285 19 = some (.astore_n 3, (0, 0, 0), .null, []) := by decide +kernel
theorem hk_285_20 : ax_look 285 20 = some (.iconst 0, (0, 0, 0), .null, []) := by decide +kernel
theorem hk_285_21 : ax_look 285 21 = some (.istore 4, (0, 0, 0), .null, []) := by decide +kernel
theorem hk_285_23 : ax_look 285 23 = some (.iload 4, (0, 0, 0), .null, []) := by decide +kernel
theorem hk_285_25 : ax_look 285 25 = some (.aload_n 0, (0, 0, 0), .null, []) := by decide +kernel
theorem hk_285_26 : ax_look 285 26 = some (.arraylength, (0, 0, 0), .null, []) := by decide +kernel
theorem hk_285_27 : ax_look 285 27 = some (.bipush 6, (0, 0, 0), .null, []) := by decide +kernel
theorem hk_285_29 : ax_look 285 29 = some (.isub, (0, 0, 0), .null, []) := by decide +kernel
theorem hk_285_30 : ax_look 285 30 = some (.if_icmp .gt 1339, (0, 0, 0), .null, []) := by decide +kernel
theorem hk_285_33 : ax_look 285 33 = some (.aload_n 0, (0, 0, 0), .null, []) := by decide +kernel
theorem hk_285_34 : ax_look 285 34 = some (.iload 4, (0, 0, 0), .null, []) := by decide +kernel
theorem hk_285_36 : ax_look 285 36 = some (.iaload, (0, 0, 0), .null, []) := by decide +kernel
theorem hk_285_37 : ax_look 285 37 = some (.bipush 63, (0, 0, 0), .null, []) := by decide +kernel
theorem hk_285_39 : ax_look 285 39 = some (.iand, (0, 0, 0), .null, []) := by decide +kernel
theorem hk_285_40 : ax_look 285 40 = some (.tableswitch 1323 0 40 #[180, 256, 312, 328, 344, 357, 385, 413, 426, 454, 482, 522, 550, 578, 618, 658, 698, 726, 766, 818, 846, 886, 914, 942, 958, 986, 1002, 1015, 1028, 1056, 1069, 1097, 1110, 1138, 1178, 1194, 1210, 1250, 1278, 1294, 1310], (0, 0, 0), .null, []) := by decide +kernel
theorem hk_285_220 : ax_look 285 220 = some (.aload_n 1, (0, 0, 0), .null, []) := by decide +kernel
theorem hk_285_221 : ax_look 285 221 = some (.aload_n 0, (0, 0, 0), .null, []) := by decide +kernel
theorem hk_285_222 : ax_look 285 222 = some (.iload 4, (0, 0, 0), .null, []) := by decide +kernel
theorem hk_285_224 : ax_look 285 224 = some (.iconst 1, (0, 0, 0), .null, []) := by decide +kernel
theorem hk_285_225 : ax_look 285 225 = some (.iadd, (0, 0, 0), .null, []) := by decide +kernel
theorem hk_285_226 : ax_look 285 226 = some (.iaload, (0, 0, 0), .null, []) := by decide +kernel
theorem hk_285_227 : ax_look 285 227 = some (.aload_n 0, (0, 0, 0), .null, []) := by decide +kernel
theorem hk_285_228 : ax_look 285 228 = some (.iload 4, (0, 0, 0), .null, []) := by decide +kernel
theorem hk_285_230 : ax_look 285 230 = some (.iconst 2, (0, 0, 0), .null, []) := by decide +kernel
theorem hk_285_231 : ax_look 285 231 = some (.iadd, (0, 0, 0), .null, []) := by decide +kernel
theorem hk_285_232 : ax_look 285 232 = some (.iaload, (0, 0, 0), .null, []) := by decide +kernel
theorem hk_285_233 : ax_look 285 233 = some (.aload_n 0, (0, 0, 0), .null, []) := by decide +kernel
theorem hk_285_234 : ax_look 285 234 = some (.iload 4, (0, 0, 0), .null, []) := by decide +kernel
theorem hk_285_236 : ax_look 285 236 = some (.iconst 3, (0, 0, 0), .null, []) := by decide +kernel
theorem hk_285_237 : ax_look 285 237 = some (.iadd, (0, 0, 0), .null, []) := by decide +kernel
theorem hk_285_238 : ax_look 285 238 = some (.iaload, (0, 0, 0), .null, []) := by decide +kernel
theorem hk_285_239 : ax_look 285 239 = some (.aload_n 0, (0, 0, 0), .null, []) := by decide +kernel
theorem hk_285_240 : ax_look 285 240 = some (.iload 4, (0, 0, 0), .null, []) := by decide +kernel
theorem hk_285_242 : ax_look 285 242 = some (.iconst 4, (0, 0, 0), .null, []) := by decide +kernel
theorem hk_285_243 : ax_look 285 243 = some (.iadd, (0, 0, 0), .null, []) := by decide +kernel
theorem hk_285_244 : ax_look 285 244 = some (.iaload, (0, 0, 0), .null, []) := by decide +kernel
theorem hk_285_245 : ax_look 285 245 = some (.aload_n 0, (0, 0, 0), .null, []) := by decide +kernel
theorem hk_285_246 : ax_look 285 246 = some (.iload 4, (0, 0, 0), .null, []) := by decide +kernel
theorem hk_285_248 : ax_look 285 248 = some (.iconst 5, (0, 0, 0), .null, []) := by decide +kernel
theorem hk_285_249 : ax_look 285 249 = some (.iadd, (0, 0, 0), .null, []) := by decide +kernel
theorem hk_285_250 : ax_look 285 250 = some (.iaload, (0, 0, 0), .null, []) := by decide +kernel
theorem hk_285_251 : ax_look 285 251 = some (.aload_n 3, (0, 0, 0), .null, []) := by decide +kernel
theorem hk_285_252 : ax_look 285 252 = some (.invokestatic 134, (219, 7, 0), .null, [2117]) := by decide +kernel
theorem hk_285_255 : ax_look 285 255 = some (.istore 5, (0, 0, 0), .null, []) := by decide +kernel
theorem hk_285_257 : ax_look 285 257 = some (.aload_n 2, (0, 0, 0), .null, []) := by decide +kernel
theorem hk_285_258 : ax_look 285 258 = some (.aload_n 0, (0, 0, 0), .null, []) := by decide +kernel
theorem hk_285_259 : ax_look 285 259 = some (.iload 4, (0, 0, 0), .null, []) := by decide +kernel
theorem hk_285_261 : ax_look 285 261 = some (.iconst 1, (0, 0, 0), .null, []) := by decide +kernel
theorem hk_285_262 : ax_look 285 262 = some (.iadd, (0, 0, 0), .null, []) := by decide +kernel
theorem hk_285_263 : ax_look 285 263 = some (.iaload, (0, 0, 0), .null, []) := by decide +kernel
theorem hk_285_264 : ax_look 285 264 = some (.aload_n 0, (0, 0, 0), .null, []) := by decide +kernel
theorem hk_285_265 : ax_look 285 265 = some (.iload 4, (0, 0, 0), .null, []) := by decide +kernel
theorem hk_285_267 : ax_look 285 267 = some (.iconst 2, (0, 0, 0), .null, []) := by decide +kernel
theorem hk_285_268 : ax_look 285 268 = some (.iadd, (0, 0, 0), .null, []) := by decide +kernel
theorem hk_285_269 : ax_look 285 269 = some (.iaload, (0, 0, 0), .null, []) := by decide +kernel
theorem hk_285_270 : ax_look 285 270 = some (.aload_n 0, (0, 0, 0), .null, []) := by decide +kernel
theorem hk_285_271 : ax_look 285 271 = some (.iload 4, (0, 0, 0), .null, []) := by decide +kernel
theorem hk_285_273 : ax_look 285 273 = some (.iconst 3, (0, 0, 0), .null, []) := by decide +kernel
theorem hk_285_274 : ax_look 285 274 = some (.iadd, (0, 0, 0), .null, []) := by decide +kernel
theorem hk_285_275 : ax_look 285 275 = some (.iaload, (0, 0, 0), .null, []) := by decide +kernel
theorem hk_285_276 : ax_look 285 276 = some (.aload_n 0, (0, 0, 0), .null, []) := by decide +kernel
theorem hk_285_277 : ax_look 285 277 = some (.iload 4, (0, 0, 0), .null, []) := by decide +kernel
theorem hk_285_279 : ax_look 285 279 = some (.iconst 4, (0, 0, 0), .null, []) := by decide +kernel
theorem hk_285_280 : ax_look 285 280 = some (.iadd, (0, 0, 0), .null, []) := by decide +kernel
theorem hk_285_281 : ax_look 285 281 = some (.iaload, (0, 0, 0), .null, []) := by decide +kernel
theorem hk_285_282 : ax_look 285 282 = some (.aload_n 0, (0, 0, 0), .null, []) := by decide +kernel
theorem hk_285_283 : ax_look 285 283 = some (.iload 4, (0, 0, 0), .null, []) := by decide +kernel
theorem hk_285_285 : ax_look 285 285 = some (.iconst 5, (0, 0, 0), .null, []) := by decide +kernel
theorem hk_285_286 : ax_look 285 286 = some (.iadd, (0, 0, 0), .null, []) := by decide +kernel
theorem hk_285_287 : ax_look 285 287 = some (.iaload, (0, 0, 0), .null, []) := by decide +kernel
theorem hk_285_288 : ax_look 285 288 = some (.invokevirtual 139, (143, 5, 9), .null, [7038, 7040]) := by decide +kernel
theorem hk_285_291 : ax_look 285 291 = some (.istore 6, (0, 0, 0), .null, []) := by decide +kernel
theorem hk_285_293 : ax_look 285 293 = some (.goto 1070, (0, 0, 0), .null, []) := by decide +kernel
theorem hk_285_296 : ax_look 285 296 = some (.aload_n 1, (0, 0, 0), .null, []) := by decide +kernel
theorem hk_285_297 : ax_look 285 297 = some (.aload_n 0, (0, 0, 0), .null, []) := by decide +kernel
theorem hk_285_298 : ax_look 285 298 = some (.iload 4, (0, 0, 0), .null, []) := by decide +kernel
theorem hk_285_300 : ax_look 285 300 = some (.iconst 1, (0, 0, 0), .null, []) := by decide +kernel
theorem hk_285_301 : ax_look 285 301 = some (.iadd, (0, 0, 0), .null, []) := by decide +kernel
theorem hk_285_302 : ax_look 285 302 = some (.iaload, (0, 0, 0), .null, []) := by decide +kernel
theorem hk_285_303 : ax_look 285 303 = some (.aload_n 3, (0, 0, 0), .null, []) := by decide +kernel
theorem hk_285_304 : ax_look 285 304 = some (.invokestatic 140, (220, 3, 0), .null, [2200]) := by decide +kernel
theorem hk_285_307 : ax_look 285 307 = some (.istore 5, (0, 0, 0), .null, []) := by decide +kernel
theorem hk_285_309 : ax_look 285 309 = some (.aload_n 2, (0, 0, 0), .null, []) := by decide +kernel
theorem hk_285_310 : ax_look 285 310 = some (.aload_n 0, (0, 0, 0), .null, []) := by decide +kernel
theorem hk_285_311 : ax_look 285 311 = some (.iload 4, (0, 0, 0), .null, []) := by decide +kernel
theorem hk_285_313 : ax_look 285 313 = some (.iconst 1, (0, 0, 0), .null, []) := by decide +kernel
theorem hk_285_314 : ax_look 285 314 = some (.iadd, (0, 0, 0), .null, []) := by decide +kernel
theorem hk_285_315 : ax_look 285 315 = some (.iaload, (0, 0, 0), .null, []) := by decide +kernel
theorem hk_285_316 : ax_look 285 316 = some (.invokevirtual 143, (144, 1, 9), .null, [7046, 7048]) := by decide +kernel
theorem hk_285_319 : ax_look 285 319 = some (.istore 6, (0, 0, 0), .null, []) := by decide +kernel
theorem hk_285_321 : ax_look 285 321 = some (.aload_n 2, (0, 0, 0), .null, []) := by decide +kernel
theorem hk_285_322 : ax_look 285 322 = some (.invokevirtual 144, (131, 0, 9), .null, [7034, 7036]) := by decide +kernel
theorem hk_285_325 : ax_look 285 325 = some (.iload 5, (0, 0, 0), .null, []) := by decide +kernel
theorem hk_285_327 : ax_look 285 327 = some (.if_icmp .eq 5, (0, 0, 0), .null, []) := by decide +kernel
theorem hk_285_330 : ax_look 285 330 = some (.iconst 0, (0, 0, 0), .null, []) := by decide +kernel
theorem hk_285_331 : ax_look 285 331 = some (.ireturn, (0, 0, 0), .null, []) := by decide +kernel
theorem hk_285_332 : ax_look 285 332 = some (.iload 5, (0, 0, 0), .null, []) := by decide +kernel
theorem hk_285_334 : ax_look 285 334 = some (.ifCond .ne 15, (0, 0, 0), .null, []) := by decide +kernel
theorem hk_285_337 : ax_look 285 337 = some (.aload_n 3, (0, 0, 0), .null, []) := by decide +kernel
theorem hk_285_338 : ax_look 285 338 = some (.iconst 0, (0, 0, 0), .null, []) := by decide +kernel
theorem hk_285_339 : ax_look 285 339 = some (.laload, (0, 0, 0), .null, []) := by decide +kernel
theorem hk_285_340 : ax_look 285 340 = some (.iload 6, (0, 0, 0), .null, []) := by decide +kernel
theorem hk_285_342 : ax_look 285 342 = some (.i2l, (0, 0, 0), .null, []) := by decide +kernel
theorem hk_285_343 : ax_look 285 343 = some (.lcmp, (0, 0, 0), .null, []) := by decide +kernel
theorem hk_285_344 : ax_look 285 344 = some (.ifCond .eq 5, (0, 0, 0), .null, []) := by decide +kernel
theorem hk_285_347 : ax_look 285 347 = some (.iconst 0, (0, 0, 0), .null, []) := by decide +kernel
theorem hk_285_348 : ax_look 285 348 = some (.ireturn, (0, 0, 0), .null, []) := by decide +kernel
theorem hk_285_349 : ax_look 285 349 = some (.goto 1014, (0, 0, 0), .null, []) := by decide +kernel
theorem hk_285_352 : ax_look 285 352 = some (.aload_n 1, (0, 0, 0), .null, []) := by decide +kernel
theorem hk_285_353 : ax_look 285 353 = some (.aload_n 3, (0, 0, 0), .null, []) := by decide +kernel
theorem hk_285_354 : ax_look 285 354 = some (.invokestatic 147, (221, 2, 0), .null, [2224]) := by decide +kernel
theorem hk_285_357 : ax_look 285 357 = some (.istore 5, (0, 0, 0), .null, []) := by decide +kernel
theorem hk_285_359 : ax_look 285 359 = some (.aload_n 2, (0, 0, 0), .null, []) := by decide +kernel
theorem hk_285_360 : ax_look 285 360 = some (.invokevirtual 150, (156, 0, 9), .null, [7050, 7052]) := by decide +kernel
theorem hk_285_363 : ax_look 285 363 = some (.istore 6, (0, 0, 0), .null, []) := by decide +kernel
theorem hk_285_365 : ax_look 285 365 = some (.goto 998, (0, 0, 0), .null, []) := by decide +kernel
theorem hk_285_368 : ax_look 285 368 = some (.aload_n 1, (0, 0, 0), .null, []) := by decide +kernel
theorem hk_285_369 : ax_look 285 369 = some (.aload_n 3, (0, 0, 0), .null, []) := by decide +kernel
theorem hk_285_370 : ax_look 285 370 = some (.invokestatic 151, (222, 2, 0), .null, [3146]) := by decide +kernel
theorem hk_285_373 : ax_look 285 373 = some (.istore 5, (0, 0, 0), .null, []) := by decide +kernel
theorem hk_285_375 : ax_look 285 375 = some (.aload_n 2, (0, 0, 0), .null, []) := by decide +kernel
theorem hk_285_376 : ax_look 285 376 = some (.invokevirtual 153, (159, 0, 9), .null, [7133, 7135]) := by decide +kernel
theorem hk_285_379 : ax_look 285 379 = some (.istore 6, (0, 0, 0), .null, []) := by decide +kernel
theorem hk_285_381 : ax_look 285 381 = some (.goto 982, (0, 0, 0), .null, []) := by decide +kernel
theorem hk_285_384 : ax_look 285 384 = some (.aload_n 1, (0, 0, 0), .null, []) := by decide +kernel
theorem hk_285_385 : ax_look 285 385 = some (.invokevirtual 154, (74, 0, 8), .null, [2043, 2045]) := by decide +kernel
theorem hk_285_388 : ax_look 285 388 = some (.pop, (0, 0, 0), .null, []) := by decide +kernel
theorem hk_285_389 : ax_look 285 389 = some (.aload_n 2, (0, 0, 0), .null, []) := by decide +kernel
theorem hk_285_390 : ax_look 285 390 = some (.invokevirtual 157, (160, 0, 9), .null, [7152, 7154]) := by decide +kernel
theorem hk_285_393 : ax_look 285 393 = some (.pop, (0, 0, 0), .null, []) := by decide +kernel
theorem hk_285_394 : ax_look 285 394 = some (.goto 969, (0, 0, 0), .null, []) := by decide +kernel
theorem hk_285_397 : ax_look 285 397 = some (.aload_n 1, (0, 0, 0), .null, []) := by decide +kernel
theorem hk_285_398 : ax_look 285 398 = some (.aload_n 0, (0, 0, 0), .null, []) := by decide +kernel
theorem hk_285_399 : ax_look 285 399 = some (.iload 4, (0, 0, 0), .null, []) := by decide +kernel
theorem hk_285_401 : ax_look 285 401 = some (.iconst 1, (0, 0, 0), .null, []) := by decide +kernel
theorem hk_285_402 : ax_look 285 402 = some (.iadd, (0, 0, 0), .null, []) := by decide +kernel
theorem hk_285_403 : ax_look 285 403 = some (.iaload, (0, 0, 0), .null, []) := by decide +kernel
theorem hk_285_404 : ax_look 285 404 = some (.aload_n 3, (0, 0, 0), .null, []) := by decide +kernel
theorem hk_285_405 : ax_look 285 405 = some (.invokestatic 158, (223, 3, 0), .null, [3161]) := by decide +kernel
theorem hk_285_408 : ax_look 285 408 = some (.istore 5, (0, 0, 0), .null, []) := by decide +kernel
theorem hk_285_410 : ax_look 285 410 = some (.aload_n 2, (0, 0, 0), .null, []) := by decide +kernel
theorem hk_285_411 : ax_look 285 411 = some (.aload_n 0, (0, 0, 0), .null, []) := by decide +kernel
theorem hk_285_412 : ax_look 285 412 = some (.iload 4, (0, 0, 0), .null, []) := by decide +kernel
theorem hk_285_414 : ax_look 285 414 = some (.iconst 1, (0, 0, 0), .null, []) := by decide +kernel
theorem hk_285_415 : ax_look 285 415 = some (.iadd, (0, 0, 0), .null, []) := by decide +kernel
theorem hk_285_416 : ax_look 285 416 = some (.iaload, (0, 0, 0), .null, []) := by decide +kernel
theorem hk_285_417 : ax_look 285 417 = some (.invokevirtual 160, (163, 1, 9), .null, [7156, 7158]) := by decide +kernel
theorem hk_285_420 : ax_look 285 420 = some (.istore 6, (0, 0, 0), .null, []) := by decide +kernel
theorem hk_285_422 : ax_look 285 422 = some (.goto 941, (0, 0, 0), .null, []) := by decide +kernel
theorem hk_285_425 : ax_look 285 425 = some (.aload_n 1, (0, 0, 0), .null, []) := by decide +kernel
theorem hk_285_426 : ax_look 285 426 = some (.aload_n 0, (0, 0, 0), .null, []) := by decide +kernel
theorem hk_285_427 : ax_look 285 427 = some (.iload 4, (0, 0, 0), .null, []) := by decide +kernel
theorem hk_285_429 : ax_look 285 429 = some (.iconst 1, (0, 0, 0), .null, []) := by decide +kernel
theorem hk_285_430 : ax_look 285 430 = some (.iadd, (0, 0, 0), .null, []) := by decide +kernel
theorem hk_285_431 : ax_look 285 431 = some (.iaload, (0, 0, 0), .null, []) := by decide +kernel
theorem hk_285_432 : ax_look 285 432 = some (.aload_n 3, (0, 0, 0), .null, []) := by decide +kernel
theorem hk_285_433 : ax_look 285 433 = some (.invokestatic 161, (224, 3, 0), .null, [5019]) := by decide +kernel
theorem hk_285_436 : ax_look 285 436 = some (.istore 5, (0, 0, 0), .null, []) := by decide +kernel
theorem hk_285_438 : ax_look 285 438 = some (.aload_n 2, (0, 0, 0), .null, []) := by decide +kernel
theorem hk_285_439 : ax_look 285 439 = some (.aload_n 0, (0, 0, 0), .null, []) := by decide +kernel
theorem hk_285_440 : ax_look 285 440 = some (.iload 4, (0, 0, 0), .null, []) := by decide +kernel
theorem hk_285_442 : ax_look 285 442 = some (.iconst 1, (0, 0, 0), .null, []) := by decide +kernel
theorem hk_285_443 : ax_look 285 443 = some (.iadd, (0, 0, 0), .null, []) := by decide +kernel
theorem hk_285_444 : ax_look 285 444 = some (.iaload, (0, 0, 0), .null, []) := by decide +kernel
theorem hk_285_445 : ax_look 285 445 = some (.invokevirtual 163, (164, 1, 9), .null, [7173, 7175]) := by decide +kernel
theorem hk_285_448 : ax_look 285 448 = some (.istore 6, (0, 0, 0), .null, []) := by decide +kernel
theorem hk_285_450 : ax_look 285 450 = some (.goto 913, (0, 0, 0), .null, []) := by decide +kernel
theorem hk_285_453 : ax_look 285 453 = some (.aload_n 1, (0, 0, 0), .null, []) := by decide +kernel
theorem hk_285_454 : ax_look 285 454 = some (.invokevirtual 164, (77, 0, 8), .null, [2047, 2049]) := by decide +kernel
theorem hk_285_457 : ax_look 285 457 = some (.pop, (0, 0, 0), .null, []) := by decide +kernel
theorem hk_285_458 : ax_look 285 458 = some (.aload_n 2, (0, 0, 0), .null, []) := by decide +kernel
theorem hk_285_459 : ax_look 285 459 = some (.invokevirtual 167, (165, 0, 9), .null, [7177, 7179]) := by decide +kernel
theorem hk_285_462 : ax_look 285 462 = some (.pop, (0, 0, 0), .null, []) := by decide +kernel
theorem hk_285_463 : ax_look 285 463 = some (.goto 900, (0, 0, 0), .null, []) := by decide +kernel
theorem hk_285_466 : ax_look 285 466 = some (.aload_n 1, (0, 0, 0), .null, []) := by decide +kernel
theorem hk_285_467 : ax_look 285 467 = some (.aload_n 0, (0, 0, 0), .null, []) := by decide +kernel
theorem hk_285_468 : ax_look 285 468 = some (.iload 4, (0, 0, 0), .null, []) := by decide +kernel
theorem hk_285_470 : ax_look 285 470 = some (.iconst 1, (0, 0, 0), .null, []) := by decide +kernel
theorem hk_285_471 : ax_look 285 471 = some (.iadd, (0, 0, 0), .null, []) := by decide +kernel
theorem hk_285_472 : ax_look 285 472 = some (.iaload, (0, 0, 0), .null, []) := by decide +kernel
theorem hk_285_473 : ax_look 285 473 = some (.aload_n 3, (0, 0, 0), .null, []) := by decide +kernel
theorem hk_285_474 : ax_look 285 474 = some (.invokestatic 168, (225, 3, 0), .null, [5037]) := by decide +kernel
theorem hk_285_477 : ax_look 285 477 = some (.istore 5, (0, 0, 0), .null, []) := by decide +kernel
theorem hk_285_479 : ax_look 285 479 = some (.aload_n 2, (0, 0, 0), .null, []) := by decide +kernel
theorem hk_285_480 : ax_look 285 480 = some (.aload_n 0, (0, 0, 0), .null, []) := by decide +kernel
theorem hk_285_481 : ax_look 285 481 = some (.iload 4, (0, 0, 0), .null, []) := by decide +kernel
theorem hk_285_483 : ax_look 285 483 = some (.iconst 1, (0, 0, 0), .null, []) := by decide +kernel
theorem hk_285_484 : ax_look 285 484 = some (.iadd, (0, 0, 0), .null, []) := by decide +kernel
theorem hk_285_485 : ax_look 285 485 = some (.iaload, (0, 0, 0), .null, []) := by decide +kernel
theorem hk_285_486 : ax_look 285 486 = some (.invokevirtual 170, (167, 1, 9), .null, [7181, 7183]) := by decide +kernel
theorem hk_285_489 : ax_look 285 489 = some (.istore 6, (0, 0, 0), .null, []) := by decide +kernel
theorem hk_285_491 : ax_look 285 491 = some (.goto 872, (0, 0, 0), .null, []) := by decide +kernel
theorem hk_285_494 : ax_look 285 494 = some (.aload_n 1, (0, 0, 0), .null, []) := by decide +kernel
theorem hk_285_495 : ax_look 285 495 = some (.aload_n 0, (0, 0, 0), .null, []) := by decide +kernel
theorem hk_285_496 : ax_look 285 496 = some (.iload 4, (0, 0, 0), .null, []) := by decide +kernel
theorem hk_285_498 : ax_look 285 498 = some (.iconst 1, (0, 0, 0), .null, []) := by decide +kernel
theorem hk_285_499 : ax_look 285 499 = some (.iadd, (0, 0, 0), .null, []) := by decide +kernel
theorem hk_285_500 : ax_look 285 500 = some (.iaload, (0, 0, 0), .null, []) := by decide +kernel
theorem hk_285_501 : ax_look 285 501 = some (.aload_n 3, (0, 0, 0), .null, []) := by decide +kernel
theorem hk_285_502 : ax_look 285 502 = some (.invokestatic 171, (226, 3, 0), .null, [5048]) := by decide +kernel
theorem hk_285_505 : ax_look 285 505 = some (.istore 5, (0, 0, 0), .null, []) := by decide +kernel
theorem hk_285_507 : ax_look 285 507 = some (.aload_n 2, (0, 0, 0), .null, []) := by decide +kernel
theorem hk_285_508 : ax_look 285 508 = some (.aload_n 0, (0, 0, 0), .null, []) := by decide +kernel
theorem hk_285_509 : ax_look 285 509 = some (.iload 4, (0, 0, 0), .null, []) := by decide +kernel
theorem hk_285_511 : ax_look 285 511 = some (.iconst 1, (0, 0, 0), .null, []) := by decide +kernel
theorem hk_285_512 : ax_look 285 512 = some (.iadd, (0, 0, 0), .null, []) := by decide +kernel
theorem hk_285_513 : ax_look 285 513 = some (.iaload, (0, 0, 0), .null, []) := by decide +kernel
theorem hk_285_514 : ax_look 285 514 = some (.invokevirtual 173, (168, 1, 9), .null, [7189, 7191]) := by decide +kernel
theorem hk_285_517 : ax_look 285 517 = some (.istore 6, (0, 0, 0), .null, []) := by decide +kernel
theorem hk_285_519 : ax_look 285 519 = some (.goto 844, (0, 0, 0), .null, []) := by decide +kernel
theorem hk_285_522 : ax_look 285 522 = some (.aload_n 1, (0, 0, 0), .null, []) := by decide +kernel
theorem hk_285_523 : ax_look 285 523 = some (.aload_n 0, (0, 0, 0), .null, []) := by decide +kernel
theorem hk_285_524 : ax_look 285 524 = some (.iload 4, (0, 0, 0), .null, []) := by decide +kernel
theorem hk_285_526 : ax_look 285 526 = some (.iconst 1, (0, 0, 0), .null, []) := by decide +kernel
theorem hk_285_527 : ax_look 285 527 = some (.iadd, (0, 0, 0), .null, []) := by decide +kernel
theorem hk_285_528 : ax_look 285 528 = some (.iaload, (0, 0, 0), .null, []) := by decide +kernel
theorem hk_285_529 : ax_look 285 529 = some (.aload_n 0, (0, 0, 0), .null, []) := by decide +kernel
theorem hk_285_530 : ax_look 285 530 = some (.iload 4, (0, 0, 0), .null, []) := by decide +kernel
theorem hk_285_532 : ax_look 285 532 = some (.iconst 2, (0, 0, 0), .null, []) := by decide +kernel
theorem hk_285_533 : ax_look 285 533 = some (.iadd, (0, 0, 0), .null, []) := by decide +kernel
theorem hk_285_534 : ax_look 285 534 = some (.iaload, (0, 0, 0), .null, []) := by decide +kernel
theorem hk_285_535 : ax_look 285 535 = some (.aload_n 3, (0, 0, 0), .null, []) := by decide +kernel
theorem hk_285_536 : ax_look 285 536 = some (.invokestatic 174, (227, 4, 0), .null, [5055]) := by decide +kernel
theorem hk_285_539 : ax_look 285 539 = some (.istore 5, (0, 0, 0), .null, []) := by decide +kernel
theorem hk_285_541 : ax_look 285 541 = some (.aload_n 2, (0, 0, 0), .null, []) := by decide +kernel
theorem hk_285_542 : ax_look 285 542 = some (.aload_n 0, (0, 0, 0), .null, []) := by decide +kernel
theorem hk_285_543 : ax_look 285 543 = some (.iload 4, (0, 0, 0), .null, []) := by decide +kernel
theorem hk_285_545 : ax_look 285 545 = some (.iconst 1, (0, 0, 0), .null, []) := by decide +kernel
theorem hk_285_546 : ax_look 285 546 = some (.iadd, (0, 0, 0), .null, []) := by decide +kernel
theorem hk_285_547 : ax_look 285 547 = some (.iaload, (0, 0, 0), .null, []) := by decide +kernel
theorem hk_285_548 : ax_look 285 548 = some (.aload_n 0, (0, 0, 0), .null, []) := by decide +kernel
theorem hk_285_549 : ax_look 285 549 = some (.iload 4, (0, 0, 0), .null, []) := by decide +kernel
theorem hk_285_551 : ax_look 285 551 = some (.iconst 2, (0, 0, 0), .null, []) := by decide +kernel
theorem hk_285_552 : ax_look 285 552 = some (.iadd, (0, 0, 0), .null, []) := by decide +kernel
theorem hk_285_553 : ax_look 285 553 = some (.iaload, (0, 0, 0), .null, []) := by decide +kernel
theorem hk_285_554 : ax_look 285 554 = some (.invokevirtual 177, (169, 2, 9), .null, [7193, 7195]) := by decide +kernel
theorem hk_285_557 : ax_look 285 557 = some (.istore 6, (0, 0, 0), .null, []) := by decide +kernel
theorem hk_285_559 : ax_look 285 559 = some (.goto 804, (0, 0, 0), .null, []) := by decide +kernel
theorem hk_285_562 : ax_look 285 562 = some (.aload_n 1, (0, 0, 0), .null, []) := by decide +kernel
theorem hk_285_563 : ax_look 285 563 = some (.aload_n 0, (0, 0, 0), .null, []) := by decide +kernel
theorem hk_285_564 : ax_look 285 564 = some (.iload 4, (0, 0, 0), .null, []) := by decide +kernel
theorem hk_285_566 : ax_look 285 566 = some (.iconst 1, (0, 0, 0), .null, []) := by decide +kernel
theorem hk_285_567 : ax_look 285 567 = some (.iadd, (0, 0, 0), .null, []) := by decide +kernel
theorem hk_285_568 : ax_look 285 568 = some (.iaload, (0, 0, 0), .null, []) := by decide +kernel
theorem hk_285_569 : ax_look 285 569 = some (.aload_n 3, (0, 0, 0), .null, []) := by decide +kernel
theorem hk_285_570 : ax_look 285 570 = some (.invokestatic 178, (228, 3, 0), .null, [5066]) := by decide +kernel
theorem hk_285_573 : ax_look 285 573 = some (.istore 5, (0, 0, 0), .null, []) := by decide +kernel
theorem hk_285_575 : ax_look 285 575 = some (.aload_n 2, (0, 0, 0), .null, []) := by decide +kernel
theorem hk_285_576 : ax_look 285 576 = some (.aload_n 0, (0, 0, 0), .null, []) := by decide +kernel
theorem hk_285_577 : ax_look 285 577 = some (.iload 4, (0, 0, 0), .null, []) := by decide +kernel
theorem hk_285_579 : ax_look 285 579 = some (.iconst 1, (0, 0, 0), .null, []) := by decide +kernel
theorem hk_285_580 : ax_look 285 580 = some (.iadd, (0, 0, 0), .null, []) := by decide +kernel
theorem hk_285_581 : ax_look 285 581 = some (.iaload, (0, 0, 0), .null, []) := by decide +kernel
theorem hk_285_582 : ax_look 285 582 = some (.invokevirtual 180, (171, 1, 9), .null, [7200, 7202]) := by decide +kernel
theorem hk_285_585 : ax_look 285 585 = some (.lstore 6, (0, 0, 0), .null, []) := by decide +kernel
theorem hk_285_587 : ax_look 285 587 = some (.goto 776, (0, 0, 0), .null, []) := by decide +kernel
theorem hk_285_590 : ax_look 285 590 = some (.aload_n 1, (0, 0, 0), .null, []) := by decide +kernel
theorem hk_285_591 : ax_look 285 591 = some (.aload_n 0, (0, 0, 0), .null, []) := by decide +kernel
theorem hk_285_592 : ax_look 285 592 = some (.iload 4, (0, 0, 0), .null, []) := by decide +kernel
theorem hk_285_594 : ax_look 285 594 = some (.iconst 1, (0, 0, 0), .null, []) := by decide +kernel
theorem hk_285_595 : ax_look 285 595 = some (.iadd, (0, 0, 0), .null, []) := by decide +kernel
theorem hk_285_596 : ax_look 285 596 = some (.iaload, (0, 0, 0), .null, []) := by decide +kernel
theorem hk_285_597 : ax_look 285 597 = some (.aload_n 3, (0, 0, 0), .null, []) := by decide +kernel
theorem hk_285_598 : ax_look 285 598 = some (.invokestatic 181, (229, 3, 0), .null, [5074]) := by decide +kernel
theorem hk_285_601 : ax_look 285 601 = some (.istore 5, (0, 0, 0), .null, []) := by decide +kernel
theorem hk_285_603 : ax_look 285 603 = some (.aload_n 2, (0, 0, 0), .null, []) := by decide +kernel
theorem hk_285_604 : ax_look 285 604 = some (.aload_n 0, (0, 0, 0), .null, []) := by decide +kernel
theorem hk_285_605 : ax_look 285 605 = some (.iload 4, (0, 0, 0), .null, []) := by decide +kernel
theorem hk_285_607 : ax_look 285 607 = some (.iconst 1, (0, 0, 0), .null, []) := by decide +kernel
theorem hk_285_608 : ax_look 285 608 = some (.iadd, (0, 0, 0), .null, []) := by decide +kernel
theorem hk_285_609 : ax_look 285 609 = some (.iaload, (0, 0, 0), .null, []) := by decide +kernel
theorem hk_285_610 : ax_look 285 610 = some (.invokevirtual 183, (173, 1, 9), .null, [7204, 7206]) := by decide +kernel
theorem hk_285_613 : ax_look 285 613 = some (.istore 6, (0, 0, 0), .null, []) := by decide +kernel
theorem hk_285_615 : ax_look 285 615 = some (.goto 748, (0, 0, 0), .null, []) := by decide +kernel
theorem hk_285_618 : ax_look 285 618 = some (.aload_n 1, (0, 0, 0), .null, []) := by decide +kernel
theorem hk_285_619 : ax_look 285 619 = some (.aload_n 0, (0, 0, 0), .null, []) := by decide +kernel
theorem hk_285_620 : ax_look 285 620 = some (.iload 4, (0, 0, 0), .null, []) := by decide +kernel
theorem hk_285_622 : ax_look 285 622 = some (.iconst 1, (0, 0, 0), .null, []) := by decide +kernel
theorem hk_285_623 : ax_look 285 623 = some (.iadd, (0, 0, 0), .null, []) := by decide +kernel
theorem hk_285_624 : ax_look 285 624 = some (.iaload, (0, 0, 0), .null, []) := by decide +kernel
theorem hk_285_625 : ax_look 285 625 = some (.aload_n 0, (0, 0, 0), .null, []) := by decide +kernel
theorem hk_285_626 : ax_look 285 626 = some (.iload 4, (0, 0, 0), .null, []) := by decide +kernel
theorem hk_285_628 : ax_look 285 628 = some (.iconst 2, (0, 0, 0), .null, []) := by decide +kernel
theorem hk_285_629 : ax_look 285 629 = some (.iadd, (0, 0, 0), .null, []) := by decide +kernel
theorem hk_285_630 : ax_look 285 630 = some (.iaload, (0, 0, 0), .null, []) := by decide +kernel
theorem hk_285_631 : ax_look 285 631 = some (.aload_n 3, (0, 0, 0), .null, []) := by decide +kernel
theorem hk_285_632 : ax_look 285 632 = some (.invokestatic 184, (230, 4, 0), .null, [5089]) := by decide +kernel
theorem hk_285_635 : ax_look 285 635 = some (.istore 5, (0, 0, 0), .null, []) := by decide +kernel
theorem hk_285_637 : ax_look 285 637 = some (.aload_n 2, (0, 0, 0), .null, []) := by decide +kernel
theorem hk_285_638 : ax_look 285 638 = some (.aload_n 0, (0, 0, 0), .null, []) := by decide +kernel
theorem hk_285_639 : ax_look 285 639 = some (.iload 4, (0, 0, 0), .null, []) := by decide +kernel
theorem hk_285_641 : ax_look 285 641 = some (.iconst 1, (0, 0, 0), .null, []) := by decide +kernel
theorem hk_285_642 : ax_look 285 642 = some (.iadd, (0, 0, 0), .null, []) := by decide +kernel
theorem hk_285_643 : ax_look 285 643 = some (.iaload, (0, 0, 0), .null, []) := by decide +kernel
theorem hk_285_644 : ax_look 285 644 = some (.aload_n 0, (0, 0, 0), .null, []) := by decide +kernel
theorem hk_285_645 : ax_look 285 645 = some (.iload 4, (0, 0, 0), .null, []) := by decide +kernel
theorem hk_285_647 : ax_look 285 647 = some (.iconst 2, (0, 0, 0), .null, []) := by decide +kernel
theorem hk_285_648 : ax_look 285 648 = some (.iadd, (0, 0, 0), .null, []) := by decide +kernel
theorem hk_285_649 : ax_look 285 649 = some (.iaload, (0, 0, 0), .null, []) := by decide +kernel
theorem hk_285_650 : ax_look 285 650 = some (.invokevirtual 186, (175, 2, 9), .null, [7212, 7214]) := by decide +kernel
theorem hk_285_653 : ax_look 285 653 = some (.istore 6, (0, 0, 0), .null, []) := by decide +kernel
theorem hk_285_655 : ax_look 285 655 = some (.goto 708, (0, 0, 0), .null, []) := by decide +kernel
theorem hk_285_658 : ax_look 285 658 = some (.aload_n 1, (0, 0, 0), .null, []) := by decide +kernel
theorem hk_285_659 : ax_look 285 659 = some (.aload_n 0, (0, 0, 0), .null, []) := by decide +kernel
theorem hk_285_660 : ax_look 285 660 = some (.iload 4, (0, 0, 0), .null, []) := by decide +kernel
theorem hk_285_662 : ax_look 285 662 = some (.iconst 1, (0, 0, 0), .null, []) := by decide +kernel
theorem hk_285_663 : ax_look 285 663 = some (.iadd, (0, 0, 0), .null, []) := by decide +kernel
theorem hk_285_664 : ax_look 285 664 = some (.iaload, (0, 0, 0), .null, []) := by decide +kernel
theorem hk_285_665 : ax_look 285 665 = some (.aload_n 0, (0, 0, 0), .null, []) := by decide +kernel
theorem hk_285_666 : ax_look 285 666 = some (.iload 4, (0, 0, 0), .null, []) := by decide +kernel
theorem hk_285_668 : ax_look 285 668 = some (.iconst 2, (0, 0, 0), .null, []) := by decide +kernel
theorem hk_285_669 : ax_look 285 669 = some (.iadd, (0, 0, 0), .null, []) := by decide +kernel
theorem hk_285_670 : ax_look 285 670 = some (.iaload, (0, 0, 0), .null, []) := by decide +kernel
theorem hk_285_671 : ax_look 285 671 = some (.aload_n 3, (0, 0, 0), .null, []) := by decide +kernel
theorem hk_285_672 : ax_look 285 672 = some (.invokestatic 187, (231, 4, 0), .null, [5127]) := by decide +kernel
theorem hk_285_675 : ax_look 285 675 = some (.istore 5, (0, 0, 0), .null, []) := by decide +kernel
theorem hk_285_677 : ax_look 285 677 = some (.aload_n 2, (0, 0, 0), .null, []) := by decide +kernel
theorem hk_285_678 : ax_look 285 678 = some (.aload_n 0, (0, 0, 0), .null, []) := by decide +kernel
theorem hk_285_679 : ax_look 285 679 = some (.iload 4, (0, 0, 0), .null, []) := by decide +kernel
theorem hk_285_681 : ax_look 285 681 = some (.iconst 1, (0, 0, 0), .null, []) := by decide +kernel
theorem hk_285_682 : ax_look 285 682 = some (.iadd, (0, 0, 0), .null, []) := by decide +kernel
theorem hk_285_683 : ax_look 285 683 = some (.iaload, (0, 0, 0), .null, []) := by decide +kernel
theorem hk_285_684 : ax_look 285 684 = some (.aload_n 0, (0, 0, 0), .null, []) := by decide +kernel
theorem hk_285_685 : ax_look 285 685 = some (.iload 4, (0, 0, 0), .null, []) := by decide +kernel
theorem hk_285_687 : ax_look 285 687 = some (.iconst 2, (0, 0, 0), .null, []) := by decide +kernel
theorem hk_285_688 : ax_look 285 688 = some (.iadd, (0, 0, 0), .null, []) := by decide +kernel
theorem hk_285_689 : ax_look 285 689 = some (.iaload, (0, 0, 0), .null, []) := by decide +kernel
theorem hk_285_690 : ax_look 285 690 = some (.invokevirtual 189, (176, 2, 9), .null, [7229, 7231]) := by decide +kernel
theorem hk_285_693 : ax_look 285 693 = some (.istore 6, (0, 0, 0), .null, []) := by decide +kernel
theorem hk_285_695 : ax_look 285 695 = some (.goto 668, (0, 0, 0), .null, []) := by decide +kernel
theorem hk_285_698 : ax_look 285 698 = some (.aload_n 1, (0, 0, 0), .null, []) := by decide +kernel
theorem hk_285_699 : ax_look 285 699 = some (.aload_n 0, (0, 0, 0), .null, []) := by decide +kernel
theorem hk_285_700 : ax_look 285 700 = some (.iload 4, (0, 0, 0), .null, []) := by decide +kernel
theorem hk_285_702 : ax_look 285 702 = some (.iconst 1, (0, 0, 0), .null, []) := by decide +kernel
theorem hk_285_703 : ax_look 285 703 = some (.iadd, (0, 0, 0), .null, []) := by decide +kernel
theorem hk_285_704 : ax_look 285 704 = some (.iaload, (0, 0, 0), .null, []) := by decide +kernel
theorem hk_285_705 : ax_look 285 705 = some (.aload_n 0, (0, 0, 0), .null, []) := by decide +kernel
theorem hk_285_706 : ax_look 285 706 = some (.iload 4, (0, 0, 0), .null, []) := by decide +kernel
theorem hk_285_708 : ax_look 285 708 = some (.iconst 2, (0, 0, 0), .null, []) := by decide +kernel
theorem hk_285_709 : ax_look 285 709 = some (.iadd, (0, 0, 0), .null, []) := by decide +kernel
theorem hk_285_710 : ax_look 285 710 = some (.iaload, (0, 0, 0), .null, []) := by decide +kernel
theorem hk_285_711 : ax_look 285 711 = some (.aload_n 3, (0, 0, 0), .null, []) := by decide +kernel
theorem hk_285_712 : ax_look 285 712 = some (.invokestatic 190, (232, 4, 0), .null, [5135]) := by decide +kernel
theorem hk_285_715 : ax_look 285 715 = some (.istore 5, (0, 0, 0), .null, []) := by decide +kernel
theorem hk_285_717 : ax_look 285 717 = some (.aload_n 2, (0, 0, 0), .null, []) := by decide +kernel
theorem hk_285_718 : ax_look 285 718 = some (.aload_n 0, (0, 0, 0), .null, []) := by decide +kernel
theorem hk_285_719 : ax_look 285 719 = some (.iload 4, (0, 0, 0), .null, []) := by decide +kernel
theorem hk_285_721 : ax_look 285 721 = some (.iconst 1, (0, 0, 0), .null, []) := by decide +kernel
theorem hk_285_722 : ax_look 285 722 = some (.iadd, (0, 0, 0), .null, []) := by decide +kernel
theorem hk_285_723 : ax_look 285 723 = some (.iaload, (0, 0, 0), .null, []) := by decide +kernel
theorem hk_285_724 : ax_look 285 724 = some (.aload_n 0, (0, 0, 0), .null, []) := by decide +kernel
theorem hk_285_725 : ax_look 285 725 = some (.iload 4, (0, 0, 0), .null, []) := by decide +kernel
theorem hk_285_727 : ax_look 285 727 = some (.iconst 2, (0, 0, 0), .null, []) := by decide +kernel
theorem hk_285_728 : ax_look 285 728 = some (.iadd, (0, 0, 0), .null, []) := by decide +kernel
theorem hk_285_729 : ax_look 285 729 = some (.iaload, (0, 0, 0), .null, []) := by decide +kernel
theorem hk_285_730 : ax_look 285 730 = some (.invokevirtual 192, (178, 2, 9), .null, [7233, 7235]) := by decide +kernel
theorem hk_285_733 : ax_look 285 733 = some (.istore 6, (0, 0, 0), .null, []) := by decide +kernel
theorem hk_285_735 : ax_look 285 735 = some (.goto 628, (0, 0, 0), .null, []) := by decide +kernel
theorem hk_285_738 : ax_look 285 738 = some (.aload_n 1, (0, 0, 0), .null, []) := by decide +kernel
theorem hk_285_739 : ax_look 285 739 = some (.aload_n 0, (0, 0, 0), .null, []) := by decide +kernel
theorem hk_285_740 : ax_look 285 740 = some (.iload 4, (0, 0, 0), .null, []) := by decide +kernel
theorem hk_285_742 : ax_look 285 742 = some (.iconst 1, (0, 0, 0), .null, []) := by decide +kernel
theorem hk_285_743 : ax_look 285 743 = some (.iadd, (0, 0, 0), .null, []) := by decide +kernel
theorem hk_285_744 : ax_look 285 744 = some (.iaload, (0, 0, 0), .null, []) := by decide +kernel
theorem hk_285_745 : ax_look 285 745 = some (.aload_n 3, (0, 0, 0), .null, []) := by decide +kernel
theorem hk_285_746 : ax_look 285 746 = some (.invokestatic 193, (233, 3, 0), .null, [5147]) := by decide +kernel
theorem hk_285_749 : ax_look 285 749 = some (.istore 5, (0, 0, 0), .null, []) := by decide +kernel
theorem hk_285_751 : ax_look 285 751 = some (.aload_n 2, (0, 0, 0), .null, []) := by decide +kernel
theorem hk_285_752 : ax_look 285 752 = some (.aload_n 0, (0, 0, 0), .null, []) := by decide +kernel
theorem hk_285_753 : ax_look 285 753 = some (.iload 4, (0, 0, 0), .null, []) := by decide +kernel
theorem hk_285_755 : ax_look 285 755 = some (.iconst 1, (0, 0, 0), .null, []) := by decide +kernel
theorem hk_285_756 : ax_look 285 756 = some (.iadd, (0, 0, 0), .null, []) := by decide +kernel
theorem hk_285_757 : ax_look 285 757 = some (.iaload, (0, 0, 0), .null, []) := by decide +kernel
theorem hk_285_758 : ax_look 285 758 = some (.invokevirtual 195, (179, 1, 9), .null, [8000, 8002]) := by decide +kernel
theorem hk_285_761 : ax_look 285 761 = some (.istore 6, (0, 0, 0), .null, []) := by decide +kernel
theorem hk_285_763 : ax_look 285 763 = some (.goto 600, (0, 0, 0), .null, []) := by decide +kernel
theorem hk_285_766 : ax_look 285 766 = some (.aload_n 1, (0, 0, 0), .null, []) := by decide +kernel
theorem hk_285_767 : ax_look 285 767 = some (.aload_n 0, (0, 0, 0), .null, []) := by decide +kernel
theorem hk_285_768 : ax_look 285 768 = some (.iload 4, (0, 0, 0), .null, []) := by decide +kernel
theorem hk_285_770 : ax_look 285 770 = some (.iconst 1, (0, 0, 0), .null, []) := by decide +kernel
theorem hk_285_771 : ax_look 285 771 = some (.iadd, (0, 0, 0), .null, []) := by decide +kernel
theorem hk_285_772 : ax_look 285 772 = some (.iaload, (0, 0, 0), .null, []) := by decide +kernel
theorem hk_285_773 : ax_look 285 773 = some (.aload_n 0, (0, 0, 0), .null, []) := by decide +kernel
theorem hk_285_774 : ax_look 285 774 = some (.iload 4, (0, 0, 0), .null, []) := by decide +kernel
theorem hk_285_776 : ax_look 285 776 = some (.iconst 2, (0, 0, 0), .null, []) := by decide +kernel
theorem hk_285_777 : ax_look 285 777 = some (.iadd, (0, 0, 0), .null, []) := by decide +kernel
theorem hk_285_778 : ax_look 285 778 = some (.iaload, (0, 0, 0), .null, []) := by decide +kernel
theorem hk_285_779 : ax_look 285 779 = some (.aload_n 3, (0, 0, 0), .null, []) := by decide +kernel
theorem hk_285_780 : ax_look 285 780 = some (.invokestatic 196, (234, 4, 0), .null, [5158]) := by decide +kernel
theorem hk_285_783 : ax_look 285 783 = some (.istore 5, (0, 0, 0), .null, []) := by decide +kernel
theorem hk_285_785 : ax_look 285 785 = some (.aload_n 2, (0, 0, 0), .null, []) := by decide +kernel
theorem hk_285_786 : ax_look 285 786 = some (.aload_n 0, (0, 0, 0), .null, []) := by decide +kernel
theorem hk_285_787 : ax_look 285 787 = some (.iload 4, (0, 0, 0), .null, []) := by decide +kernel
theorem hk_285_789 : ax_look 285 789 = some (.iconst 1, (0, 0, 0), .null, []) := by decide +kernel
theorem hk_285_790 : ax_look 285 790 = some (.iadd, (0, 0, 0), .null, []) := by decide +kernel
theorem hk_285_791 : ax_look 285 791 = some (.iaload, (0, 0, 0), .null, []) := by decide +kernel
theorem hk_285_792 : ax_look 285 792 = some (.aload_n 0, (0, 0, 0), .null, []) := by decide +kernel
theorem hk_285_793 : ax_look 285 793 = some (.iload 4, (0, 0, 0), .null, []) := by decide +kernel
theorem hk_285_795 : ax_look 285 795 = some (.iconst 2, (0, 0, 0), .null, []) := by decide +kernel
theorem hk_285_796 : ax_look 285 796 = some (.iadd, (0, 0, 0), .null, []) := by decide +kernel
theorem hk_285_797 : ax_look 285 797 = some (.iaload, (0, 0, 0), .null, []) := by decide +kernel
theorem hk_285_798 : ax_look 285 798 = some (.invokevirtual 198, (180, 2, 9), .null, [8004, 8006]) := by decide +kernel
theorem hk_285_801 : ax_look 285 801 = some (.istore 6, (0, 0, 0), .null, []) := by decide +kernel
theorem hk_285_803 : ax_look 285 803 = some (.goto 560, (0, 0, 0), .null, []) := by decide +kernel
theorem hk_285_806 : ax_look 285 806 = some (.aload_n 1, (0, 0, 0), .null, []) := by decide +kernel
theorem hk_285_807 : ax_look 285 807 = some (.aload_n 0, (0, 0, 0), .null, []) := by decide +kernel
theorem hk_285_808 : ax_look 285 808 = some (.iload 4, (0, 0, 0), .null, []) := by decide +kernel
theorem hk_285_810 : ax_look 285 810 = some (.iconst 1, (0, 0, 0), .null, []) := by decide +kernel
theorem hk_285_811 : ax_look 285 811 = some (.iadd, (0, 0, 0), .null, []) := by decide +kernel
theorem hk_285_812 : ax_look 285 812 = some (.iaload, (0, 0, 0), .null, []) := by decide +kernel
theorem hk_285_813 : ax_look 285 813 = some (.aload_n 0, (0, 0, 0), .null, []) := by decide +kernel
theorem hk_285_814 : ax_look 285 814 = some (.iload 4, (0, 0, 0), .null, []) := by decide +kernel
theorem hk_285_816 : ax_look 285 816 = some (.iconst 2, (0, 0, 0), .null, []) := by decide +kernel
theorem hk_285_817 : ax_look 285 817 = some (.iadd, (0, 0, 0), .null, []) := by decide +kernel
theorem hk_285_818 : ax_look 285 818 = some (.iaload, (0, 0, 0), .null, []) := by decide +kernel
theorem hk_285_819 : ax_look 285 819 = some (.aload_n 0, (0, 0, 0), .null, []) := by decide +kernel
theorem hk_285_820 : ax_look 285 820 = some (.iload 4, (0, 0, 0), .null, []) := by decide +kernel
theorem hk_285_822 : ax_look 285 822 = some (.iconst 3, (0, 0, 0), .null, []) := by decide +kernel
theorem hk_285_823 : ax_look 285 823 = some (.iadd, (0, 0, 0), .null, []) := by decide +kernel
theorem hk_285_824 : ax_look 285 824 = some (.iaload, (0, 0, 0), .null, []) := by decide +kernel
theorem hk_285_825 : ax_look 285 825 = some (.aload_n 3, (0, 0, 0), .null, []) := by decide +kernel
theorem hk_285_826 : ax_look 285 826 = some (.invokestatic 199, (235, 5, 0), .null, [5182]) := by decide +kernel
theorem hk_285_829 : ax_look 285 829 = some (.istore 5, (0, 0, 0), .null, []) := by decide +kernel
theorem hk_285_831 : ax_look 285 831 = some (.aload_n 2, (0, 0, 0), .null, []) := by decide +kernel
theorem hk_285_832 : ax_look 285 832 = some (.aload_n 0, (0, 0, 0), .null, []) := by decide +kernel
theorem hk_285_833 : ax_look 285 833 = some (.iload 4, (0, 0, 0), .null, []) := by decide +kernel
theorem hk_285_835 : ax_look 285 835 = some (.iconst 1, (0, 0, 0), .null, []) := by decide +kernel
theorem hk_285_836 : ax_look 285 836 = some (.iadd, (0, 0, 0), .null, []) := by decide +kernel
theorem hk_285_837 : ax_look 285 837 = some (.iaload, (0, 0, 0), .null, []) := by decide +kernel
theorem hk_285_838 : ax_look 285 838 = some (.aload_n 0, (0, 0, 0), .null, []) := by decide +kernel
theorem hk_285_839 : ax_look 285 839 = some (.iload 4, (0, 0, 0), .null, []) := by decide +kernel
theorem hk_285_841 : ax_look 285 841 = some (.iconst 2, (0, 0, 0), .null, []) := by decide +kernel
theorem hk_285_842 : ax_look 285 842 = some (.iadd, (0, 0, 0), .null, []) := by decide +kernel
theorem hk_285_843 : ax_look 285 843 = some (.iaload, (0, 0, 0), .null, []) := by decide +kernel
theorem hk_285_844 : ax_look 285 844 = some (.aload_n 0, (0, 0, 0), .null, []) := by decide +kernel
theorem hk_285_845 : ax_look 285 845 = some (.iload 4, (0, 0, 0), .null, []) := by decide +kernel
theorem hk_285_847 : ax_look 285 847 = some (.iconst 3, (0, 0, 0), .null, []) := by decide +kernel
theorem hk_285_848 : ax_look 285 848 = some (.iadd, (0, 0, 0), .null, []) := by decide +kernel
theorem hk_285_849 : ax_look 285 849 = some (.iaload, (0, 0, 0), .null, []) := by decide +kernel
theorem hk_285_850 : ax_look 285 850 = some (.invokevirtual 202, (182, 3, 9), .null, [8011, 8013]) := by decide +kernel
theorem hk_285_853 : ax_look 285 853 = some (.istore 6, (0, 0, 0), .null, []) := by decide +kernel
theorem hk_285_855 : ax_look 285 855 = some (.goto 508, (0, 0, 0), .null, []) := by decide +kernel
theorem hk_285_858 : ax_look 285 858 = some (.aload_n 1, (0, 0, 0), .null, []) := by decide +kernel
theorem hk_285_859 : ax_look 285 859 = some (.aload_n 0, (0, 0, 0), .null, []) := by decide +kernel
theorem hk_285_860 : ax_look 285 860 = some (.iload 4, (0, 0, 0), .null, []) := by decide +kernel
theorem hk_285_862 : ax_look 285 862 = some (.iconst 1, (0, 0, 0), .null, []) := by decide +kernel
theorem hk_285_863 : ax_look 285 863 = some (.iadd, (0, 0, 0), .null, []) := by decide +kernel
theorem hk_285_864 : ax_look 285 864 = some (.iaload, (0, 0, 0), .null, []) := by decide +kernel
theorem hk_285_865 : ax_look 285 865 = some (.aload_n 3, (0, 0, 0), .null, []) := by decide +kernel
theorem hk_285_866 : ax_look 285 866 = some (.invokestatic 203, (236, 3, 0), .null, [5195]) := by decide +kernel
theorem hk_285_869 : ax_look 285 869 = some (.istore 5, (0, 0, 0), .null, []) := by decide +kernel
theorem hk_285_871 : ax_look 285 871 = some (.aload_n 2, (0, 0, 0), .null, []) := by decide +kernel
theorem hk_285_872 : ax_look 285 872 = some (.aload_n 0, (0, 0, 0), .null, []) := by decide +kernel
theorem hk_285_873 : ax_look 285 873 = some (.iload 4, (0, 0, 0), .null, []) := by decide +kernel
theorem hk_285_875 : ax_look 285 875 = some (.iconst 1, (0, 0, 0), .null, []) := by decide +kernel
theorem hk_285_876 : ax_look 285 876 = some (.iadd, (0, 0, 0), .null, []) := by decide +kernel
theorem hk_285_877 : ax_look 285 877 = some (.iaload, (0, 0, 0), .null, []) := by decide +kernel
theorem hk_285_878 : ax_look 285 878 = some (.invokevirtual 205, (183, 1, 9), .null, [8018, 8020]) := by decide +kernel
theorem hk_285_881 : ax_look 285 881 = some (.istore 6, (0, 0, 0), .null, []) := by decide +kernel
theorem hk_285_883 : ax_look 285 883 = some (.goto 480, (0, 0, 0), .null, []) := by decide +kernel
theorem hk_285_886 : ax_look 285 886 = some (.aload_n 1, (0, 0, 0), .null, []) := by decide +kernel
theorem hk_285_887 : ax_look 285 887 = some (.aload_n 0, (0, 0, 0), .null, []) := by decide +kernel
theorem hk_285_888 : ax_look 285 888 = some (.iload 4, (0, 0, 0), .null, []) := by decide +kernel
theorem hk_285_890 : ax_look 285 890 = some (.iconst 1, (0, 0, 0), .null, []) := by decide +kernel
theorem hk_285_891 : ax_look 285 891 = some (.iadd, (0, 0, 0), .null, []) := by decide +kernel
theorem hk_285_892 : ax_look 285 892 = some (.iaload, (0, 0, 0), .null, []) := by decide +kernel
theorem hk_285_893 : ax_look 285 893 = some (.aload_n 0, (0, 0, 0), .null, []) := by decide +kernel
theorem hk_285_894 : ax_look 285 894 = some (.iload 4, (0, 0, 0), .null, []) := by decide +kernel
theorem hk_285_896 : ax_look 285 896 = some (.iconst 2, (0, 0, 0), .null, []) := by decide +kernel
theorem hk_285_897 : ax_look 285 897 = some (.iadd, (0, 0, 0), .null, []) := by decide +kernel
theorem hk_285_898 : ax_look 285 898 = some (.iaload, (0, 0, 0), .null, []) := by decide +kernel
theorem hk_285_899 : ax_look 285 899 = some (.aload_n 3, (0, 0, 0), .null, []) := by decide +kernel
theorem hk_285_900 : ax_look 285 900 = some (.invokestatic 206, (237, 4, 0), .null, [5203]) := by decide +kernel
theorem hk_285_903 : ax_look 285 903 = some (.istore 5, (0, 0, 0), .null, []) := by decide +kernel
theorem hk_285_905 : ax_look 285 905 = some (.aload_n 2, (0, 0, 0), .null, []) := by decide +kernel
theorem hk_285_906 : ax_look 285 906 = some (.aload_n 0, (0, 0, 0), .null, []) := by decide +kernel
theorem hk_285_907 : ax_look 285 907 = some (.iload 4, (0, 0, 0), .null, []) := by decide +kernel
theorem hk_285_909 : ax_look 285 909 = some (.iconst 1, (0, 0, 0), .null, []) := by decide +kernel
theorem hk_285_910 : ax_look 285 910 = some (.iadd, (0, 0, 0), .null, []) := by decide +kernel
theorem hk_285_911 : ax_look 285 911 = some (.iaload, (0, 0, 0), .null, []) := by decide +kernel
theorem hk_285_912 : ax_look 285 912 = some (.aload_n 0, (0, 0, 0), .null, []) := by decide +kernel
theorem hk_285_913 : ax_look 285 913 = some (.iload 4, (0, 0, 0), .null, []) := by decide +kernel
theorem hk_285_915 : ax_look 285 915 = some (.iconst 2, (0, 0, 0), .null, []) := by decide +kernel
theorem hk_285_916 : ax_look 285 916 = some (.iadd, (0, 0, 0), .null, []) := by decide +kernel
theorem hk_285_917 : ax_look 285 917 = some (.iaload, (0, 0, 0), .null, []) := by decide +kernel
theorem hk_285_918 : ax_look 285 918 = some (.invokevirtual 208, (185, 2, 9), .null, [8022, 8024]) := by decide +kernel
theorem hk_285_921 : ax_look 285 921 = some (.istore 6, (0, 0, 0), .null, []) := by decide +kernel
theorem hk_285_923 : ax_look 285 923 = some (.goto 440, (0, 0, 0), .null, []) := by decide +kernel
theorem hk_285_926 : ax_look 285 926 = some (.aload_n 1, (0, 0, 0), .null, []) := by decide +kernel
theorem hk_285_927 : ax_look 285 927 = some (.aload_n 0, (0, 0, 0), .null, []) := by decide +kernel
theorem hk_285_928 : ax_look 285 928 = some (.iload 4, (0, 0, 0), .null, []) := by decide +kernel
theorem hk_285_930 : ax_look 285 930 = some (.iconst 1, (0, 0, 0), .null, []) := by decide +kernel
theorem hk_285_931 : ax_look 285 931 = some (.iadd, (0, 0, 0), .null, []) := by decide +kernel
theorem hk_285_932 : ax_look 285 932 = some (.iaload, (0, 0, 0), .null, []) := by decide +kernel
theorem hk_285_933 : ax_look 285 933 = some (.aload_n 3, (0, 0, 0), .null, []) := by decide +kernel
theorem hk_285_934 : ax_look 285 934 = some (.invokestatic 209, (238, 3, 0), .null, [5218]) := by decide +kernel
theorem hk_285_937 : ax_look 285 937 = some (.istore 5, (0, 0, 0), .null, []) := by decide +kernel
theorem hk_285_939 : ax_look 285 939 = some (.aload_n 2, (0, 0, 0), .null, []) := by decide +kernel
theorem hk_285_940 : ax_look 285 940 = some (.aload_n 0, (0, 0, 0), .null, []) := by decide +kernel
theorem hk_285_941 : ax_look 285 941 = some (.iload 4, (0, 0, 0), .null, []) := by decide +kernel
theorem hk_285_943 : ax_look 285 943 = some (.iconst 1, (0, 0, 0), .null, []) := by decide +kernel
theorem hk_285_944 : ax_look 285 944 = some (.iadd, (0, 0, 0), .null, []) := by decide +kernel
theorem hk_285_945 : ax_look 285 945 = some (.iaload, (0, 0, 0), .null, []) := by decide +kernel
theorem hk_285_946 : ax_look 285 946 = some (.invokevirtual 211, (186, 1, 9), .null, [8030, 8032]) := by decide +kernel
theorem hk_285_949 : ax_look 285 949 = some (.istore 6, (0, 0, 0), .null, []) := by decide +kernel
theorem hk_285_951 : ax_look 285 951 = some (.goto 412, (0, 0, 0), .null, []) := by decide +kernel
theorem hk_285_954 : ax_look 285 954 = some (.aload_n 1, (0, 0, 0), .null, []) := by decide +kernel
theorem hk_285_955 : ax_look 285 955 = some (.aload_n 0, (0, 0, 0), .null, []) := by decide +kernel
theorem hk_285_956 : ax_look 285 956 = some (.iload 4, (0, 0, 0), .null, []) := by decide +kernel
theorem hk_285_958 : ax_look 285 958 = some (.iconst 1, (0, 0, 0), .null, []) := by decide +kernel
theorem hk_285_959 : ax_look 285 959 = some (.iadd, (0, 0, 0), .null, []) := by decide +kernel
theorem hk_285_960 : ax_look 285 960 = some (.iaload, (0, 0, 0), .null, []) := by decide +kernel
theorem hk_285_961 : ax_look 285 961 = some (.aload_n 3, (0, 0, 0), .null, []) := by decide +kernel
theorem hk_285_962 : ax_look 285 962 = some (.invokestatic 212, (239, 3, 0), .null, [5237]) := by decide +kernel
theorem hk_285_965 : ax_look 285 965 = some (.istore 5, (0, 0, 0), .null, []) := by decide +kernel
theorem hk_285_967 : ax_look 285 967 = some (.aload_n 2, (0, 0, 0), .null, []) := by decide +kernel
theorem hk_285_968 : ax_look 285 968 = some (.aload_n 0, (0, 0, 0), .null, []) := by decide +kernel
theorem hk_285_969 : ax_look 285 969 = some (.iload 4, (0, 0, 0), .null, []) := by decide +kernel
theorem hk_285_971 : ax_look 285 971 = some (.iconst 1, (0, 0, 0), .null, []) := by decide +kernel
theorem hk_285_972 : ax_look 285 972 = some (.iadd, (0, 0, 0), .null, []) := by decide +kernel
theorem hk_285_973 : ax_look 285 973 = some (.iaload, (0, 0, 0), .null, []) := by decide +kernel
theorem hk_285_974 : ax_look 285 974 = some (.invokevirtual 214, (189, 1, 9), .null, [8037, 8039]) := by decide +kernel
theorem hk_285_977 : ax_look 285 977 = some (.istore 6, (0, 0, 0), .null, []) := by decide +kernel
theorem hk_285_979 : ax_look 285 979 = some (.goto 384, (0, 0, 0), .null, []) := by decide +kernel
theorem hk_285_982 : ax_look 285 982 = some (.aload_n 1, (0, 0, 0), .null, []) := by decide +kernel
theorem hk_285_983 : ax_look 285 983 = some (.aload_n 3, (0, 0, 0), .null, []) := by decide +kernel
theorem hk_285_984 : ax_look 285 984 = some (.invokestatic 215, (240, 2, 0), .null, [6008]) := by decide +kernel
theorem hk_285_987 : ax_look 285 987 = some (.istore 5, (0, 0, 0), .null, []) := by decide +kernel
theorem hk_285_989 : ax_look 285 989 = some (.aload_n 2, (0, 0, 0), .null, []) := by decide +kernel
theorem hk_285_990 : ax_look 285 990 = some (.invokevirtual 217, (190, 0, 9), .null, [8044, 8046]) := by decide +kernel
theorem hk_285_993 : ax_look 285 993 = some (.istore 6, (0, 0, 0), .null, []) := by decide +kernel
theorem hk_285_995 : ax_look 285 995 = some (.goto 368, (0, 0, 0), .null, []) := by decide +kernel
theorem hk_285_998 : ax_look 285 998 = some (.aload_n 1, (0, 0, 0), .null, []) := by decide +kernel
theorem hk_285_999 : ax_look 285 999 = some (.aload_n 0, (0, 0, 0), .null, []) := by decide +kernel
theorem hk_285_1000 : ax_look 285 1000 = some (.iload 4, (0, 0, 0), .null, []) := by decide +kernel
theorem hk_285_1002 : ax_look 285 1002 = some (.iconst 1, (0, 0, 0), .null, []) := by decide +kernel
theorem hk_285_1003 : ax_look 285 1003 = some (.iadd, (0, 0, 0), .null, []) := by decide +kernel
theorem hk_285_1004 : ax_look 285 1004 = some (.iaload, (0, 0, 0), .null, []) := by decide +kernel
theorem hk_285_1005 : ax_look 285 1005 = some (.aload_n 3, (0, 0, 0), .null, []) := by decide +kernel
theorem hk_285_1006 : ax_look 285 1006 = some (.invokestatic 218, (241, 3, 0), .null, [6032]) := by decide +kernel
theorem hk_285_1009 : ax_look 285 1009 = some (.istore 5, (0, 0, 0), .null, []) := by decide +kernel
theorem hk_285_1011 : ax_look 285 1011 = some (.aload_n 2, (0, 0, 0), .null, []) := by decide +kernel
theorem hk_285_1012 : ax_look 285 1012 = some (.aload_n 0, (0, 0, 0), .null, []) := by decide +kernel
theorem hk_285_1013 : ax_look 285 1013 = some (.iload 4, (0, 0, 0), .null, []) := by decide +kernel
theorem hk_285_1015 : ax_look 285 1015 = some (.iconst 1, (0, 0, 0), .null, []) := by decide +kernel
theorem hk_285_1016 : ax_look 285 1016 = some (.iadd, (0, 0, 0), .null, []) := by decide +kernel
theorem hk_285_1017 : ax_look 285 1017 = some (.iaload, (0, 0, 0), .null, []) := by decide +kernel
theorem hk_285_1018 : ax_look 285 1018 = some (.invokevirtual 220, (194, 1, 9), .null, [8048, 8050]) := by decide +kernel
theorem hk_285_1021 : ax_look 285 1021 = some (.istore 6, (0, 0, 0), .null, []) := by decide +kernel
theorem hk_285_1023 : ax_look 285 1023 = some (.goto 340, (0, 0, 0), .null, []) := by decide +kernel
theorem hk_285_1026 : ax_look 285 1026 = some (.aload_n 1, (0, 0, 0), .null, []) := by decide +kernel
theorem hk_285_1027 : ax_look 285 1027 = some (.aload_n 3, (0, 0, 0), .null, []) := by decide +kernel
theorem hk_285_1028 : ax_look 285 1028 = some (.invokestatic 221, (242, 2, 0), .null, [6051]) := by decide +kernel
theorem hk_285_1031 : ax_look 285 1031 = some (.istore 5, (0, 0, 0), .null, []) := by decide +kernel
theorem hk_285_1033 : ax_look 285 1033 = some (.aload_n 2, (0, 0, 0), .null, []) := by decide +kernel
theorem hk_285_1034 : ax_look 285 1034 = some (.invokevirtual 223, (195, 0, 9), .null, [8056, 8058]) := by decide +kernel
theorem hk_285_1037 : ax_look 285 1037 = some (.istore 6, (0, 0, 0), .null, []) := by decide +kernel
theorem hk_285_1039 : ax_look 285 1039 = some (.goto 324, (0, 0, 0), .null, []) := by decide +kernel
theorem hk_285_1042 : ax_look 285 1042 = some (.aload_n 1, (0, 0, 0), .null, []) := by decide +kernel
theorem hk_285_1043 : ax_look 285 1043 = some (.invokevirtual 224, (96, 0, 8), .null, [2051, 2053]) := by decide +kernel
theorem hk_285_1046 : ax_look 285 1046 = some (.pop, (0, 0, 0), .null, []) := by decide +kernel
theorem hk_285_1047 : ax_look 285 1047 = some (.aload_n 2, (0, 0, 0), .null, []) := by decide +kernel
theorem hk_285_1048 : ax_look 285 1048 = some (.invokevirtual 227, (196, 0, 9), .null, [8060, 8062]) := by decide +kernel
theorem hk_285_1051 : ax_look 285 1051 = some (.pop, (0, 0, 0), .null, []) := by decide +kernel
theorem hk_285_1052 : ax_look 285 1052 = some (.goto 311, (0, 0, 0), .null, []) := by decide +kernel
theorem hk_285_1055 : ax_look 285 1055 = some (.aload_n 1, (0, 0, 0), .null, []) := by decide +kernel
theorem hk_285_1056 : ax_look 285 1056 = some (.invokevirtual 228, (97, 0, 8), .null, [2055, 2057]) := by decide +kernel
theorem hk_285_1059 : ax_look 285 1059 = some (.pop, (0, 0, 0), .null, []) := by decide +kernel
theorem hk_285_1060 : ax_look 285 1060 = some (.aload_n 2, (0, 0, 0), .null, []) := by decide +kernel
theorem hk_285_1061 : ax_look 285 1061 = some (.invokevirtual 231, (197, 0, 9), .null, [8064, 8066]) := by decide +kernel
theorem hk_285_1064 : ax_look 285 1064 = some (.pop, (0, 0, 0), .null, []) := by decide +kernel
theorem hk_285_1065 : ax_look 285 1065 = some (.goto 298, (0, 0, 0), .null, []) := by decide +kernel
theorem hk_285_1068 : ax_look 285 1068 = some (.aload_n 1, (0, 0, 0), .null, []) := by decide +kernel
theorem hk_285_1069 : ax_look 285 1069 = some (.aload_n 0, (0, 0, 0), .null, []) := by decide +kernel
theorem hk_285_1070 : ax_look 285 1070 = some (.iload 4, (0, 0, 0), .null, []) := by decide +kernel
theorem hk_285_1072 : ax_look 285 1072 = some (.iconst 1, (0, 0, 0), .null, []) := by decide +kernel
theorem hk_285_1073 : ax_look 285 1073 = some (.iadd, (0, 0, 0), .null, []) := by decide +kernel
theorem hk_285_1074 : ax_look 285 1074 = some (.iaload, (0, 0, 0), .null, []) := by decide +kernel
theorem hk_285_1075 : ax_look 285 1075 = some (.aload_n 3, (0, 0, 0), .null, []) := by decide +kernel
theorem hk_285_1076 : ax_look 285 1076 = some (.invokestatic 232, (243, 3, 0), .null, [6059]) := by decide +kernel
theorem hk_285_1079 : ax_look 285 1079 = some (.istore 5, (0, 0, 0), .null, []) := by decide +kernel
theorem hk_285_1081 : ax_look 285 1081 = some (.aload_n 2, (0, 0, 0), .null, []) := by decide +kernel
theorem hk_285_1082 : ax_look 285 1082 = some (.aload_n 0, (0, 0, 0), .null, []) := by decide +kernel
theorem hk_285_1083 : ax_look 285 1083 = some (.iload 4, (0, 0, 0), .null, []) := by decide +kernel
theorem hk_285_1085 : ax_look 285 1085 = some (.iconst 1, (0, 0, 0), .null, []) := by decide +kernel
theorem hk_285_1086 : ax_look 285 1086 = some (.iadd, (0, 0, 0), .null, []) := by decide +kernel
theorem hk_285_1087 : ax_look 285 1087 = some (.iaload, (0, 0, 0), .null, []) := by decide +kernel
theorem hk_285_1088 : ax_look 285 1088 = some (.invokevirtual 234, (198, 1, 9), .null, [8068, 8070]) := by decide +kernel
theorem hk_285_1091 : ax_look 285 1091 = some (.istore 6, (0, 0, 0), .null, []) := by decide +kernel
theorem hk_285_1093 : ax_look 285 1093 = some (.goto 270, (0, 0, 0), .null, []) := by decide +kernel
theorem hk_285_1096 : ax_look 285 1096 = some (.aload_n 1, (0, 0, 0), .null, []) := by decide +kernel
theorem hk_285_1097 : ax_look 285 1097 = some (.invokevirtual 235, (99, 0, 8), .null, [2059, 2061]) := by decide +kernel
theorem hk_285_1100 : ax_look 285 1100 = some (.pop, (0, 0, 0), .null, []) := by decide +kernel
theorem hk_285_1101 : ax_look 285 1101 = some (.aload_n 2, (0, 0, 0), .null, []) := by decide +kernel
theorem hk_285_1102 : ax_look 285 1102 = some (.invokevirtual 238, (203, 0, 9), .null, [8072, 8074]) := by decide +kernel
theorem hk_285_1105 : ax_look 285 1105 = some (.pop, (0, 0, 0), .null, []) := by decide +kernel
theorem hk_285_1106 : ax_look 285 1106 = some (.goto 257, (0, 0, 0), .null, []) := by decide +kernel
theorem hk_285_1109 : ax_look 285 1109 = some (.aload_n 1, (0, 0, 0), .null, []) := by decide +kernel
theorem hk_285_1110 : ax_look 285 1110 = some (.aload_n 0, (0, 0, 0), .null, []) := by decide +kernel
theorem hk_285_1111 : ax_look 285 1111 = some (.iload 4, (0, 0, 0), .null, []) := by decide +kernel
theorem hk_285_1113 : ax_look 285 1113 = some (.iconst 1, (0, 0, 0), .null, []) := by decide +kernel
theorem hk_285_1114 : ax_look 285 1114 = some (.iadd, (0, 0, 0), .null, []) := by decide +kernel
theorem hk_285_1115 : ax_look 285 1115 = some (.iaload, (0, 0, 0), .null, []) := by decide +kernel
theorem hk_285_1116 : ax_look 285 1116 = some (.aload_n 3, (0, 0, 0), .null, []) := by decide +kernel
theorem hk_285_1117 : ax_look 285 1117 = some (.invokestatic 239, (244, 3, 0), .null, [6066]) := by decide +kernel
theorem hk_285_1120 : ax_look 285 1120 = some (.istore 5, (0, 0, 0), .null, []) := by decide +kernel
theorem hk_285_1122 : ax_look 285 1122 = some (.aload_n 2, (0, 0, 0), .null, []) := by decide +kernel
theorem hk_285_1123 : ax_look 285 1123 = some (.aload_n 0, (0, 0, 0), .null, []) := by decide +kernel
theorem hk_285_1124 : ax_look 285 1124 = some (.iload 4, (0, 0, 0), .null, []) := by decide +kernel
theorem hk_285_1126 : ax_look 285 1126 = some (.iconst 1, (0, 0, 0), .null, []) := by decide +kernel
theorem hk_285_1127 : ax_look 285 1127 = some (.iadd, (0, 0, 0), .null, []) := by decide +kernel
theorem hk_285_1128 : ax_look 285 1128 = some (.iaload, (0, 0, 0), .null, []) := by decide +kernel
theorem hk_285_1129 : ax_look 285 1129 = some (.invokevirtual 241, (205, 1, 9), .null, [8084, 8086]) := by decide +kernel
theorem hk_285_1132 : ax_look 285 1132 = some (.istore 6, (0, 0, 0), .null, []) := by decide +kernel
theorem hk_285_1134 : ax_look 285 1134 = some (.goto 229, (0, 0, 0), .null, []) := by decide +kernel
theorem hk_285_1137 : ax_look 285 1137 = some (.aload_n 1, (0, 0, 0), .null, []) := by decide +kernel
theorem hk_285_1138 : ax_look 285 1138 = some (.invokevirtual 242, (101, 0, 8), .null, [2098, 2100]) := by decide +kernel
theorem hk_285_1141 : ax_look 285 1141 = some (.pop, (0, 0, 0), .null, []) := by decide +kernel
theorem hk_285_1142 : ax_look 285 1142 = some (.aload_n 2, (0, 0, 0), .null, []) := by decide +kernel
theorem hk_285_1143 : ax_look 285 1143 = some (.invokevirtual 245, (206, 0, 9), .null, [8091, 8093]) := by decide +kernel
theorem hk_285_1146 : ax_look 285 1146 = some (.pop, (0, 0, 0), .null, []) := by decide +kernel
theorem hk_285_1147 : ax_look 285 1147 = some (.goto 216, (0, 0, 0), .null, []) := by decide +kernel
theorem hk_285_1150 : ax_look 285 1150 = some (.aload_n 1, (0, 0, 0), .null, []) := by decide +kernel
theorem hk_285_1151 : ax_look 285 1151 = some (.aload_n 0, (0, 0, 0), .null, []) := by decide +kernel
theorem hk_285_1152 : ax_look 285 1152 = some (.iload 4, (0, 0, 0), .null, []) := by decide +kernel
theorem hk_285_1154 : ax_look 285 1154 = some (.iconst 1, (0, 0, 0), .null, []) := by decide +kernel
theorem hk_285_1155 : ax_look 285 1155 = some (.iadd, (0, 0, 0), .null, []) := by decide +kernel
theorem hk_285_1156 : ax_look 285 1156 = some (.iaload, (0, 0, 0), .null, []) := by decide +kernel
theorem hk_285_1157 : ax_look 285 1157 = some (.aload_n 3, (0, 0, 0), .null, []) := by decide +kernel
theorem hk_285_1158 : ax_look 285 1158 = some (.invokestatic 246, (245, 3, 0), .null, [6077]) := by decide +kernel
theorem hk_285_1161 : ax_look 285 1161 = some (.istore 5, (0, 0, 0), .null, []) := by decide +kernel
theorem hk_285_1163 : ax_look 285 1163 = some (.aload_n 2, (0, 0, 0), .null, []) := by decide +kernel
theorem hk_285_1164 : ax_look 285 1164 = some (.aload_n 0, (0, 0, 0), .null, []) := by decide +kernel
theorem hk_285_1165 : ax_look 285 1165 = some (.iload 4, (0, 0, 0), .null, []) := by decide +kernel
theorem hk_285_1167 : ax_look 285 1167 = some (.iconst 1, (0, 0, 0), .null, []) := by decide +kernel
theorem hk_285_1168 : ax_look 285 1168 = some (.iadd, (0, 0, 0), .null, []) := by decide +kernel
theorem hk_285_1169 : ax_look 285 1169 = some (.iaload, (0, 0, 0), .null, []) := by decide +kernel
theorem hk_285_1170 : ax_look 285 1170 = some (.invokevirtual 248, (207, 1, 9), .null, [8095, 8097]) := by decide +kernel
theorem hk_285_1173 : ax_look 285 1173 = some (.istore 6, (0, 0, 0), .null, []) := by decide +kernel
theorem hk_285_1175 : ax_look 285 1175 = some (.goto 188, (0, 0, 0), .null, []) := by decide +kernel
theorem hk_285_1178 : ax_look 285 1178 = some (.aload_n 1, (0, 0, 0), .null, []) := by decide +kernel
theorem hk_285_1179 : ax_look 285 1179 = some (.aload_n 0, (0, 0, 0), .null, []) := by decide +kernel
theorem hk_285_1180 : ax_look 285 1180 = some (.iload 4, (0, 0, 0), .null, []) := by decide +kernel
theorem hk_285_1182 : ax_look 285 1182 = some (.iconst 1, (0, 0, 0), .null, []) := by decide +kernel
theorem hk_285_1183 : ax_look 285 1183 = some (.iadd, (0, 0, 0), .null, []) := by decide +kernel
theorem hk_285_1184 : ax_look 285 1184 = some (.iaload, (0, 0, 0), .null, []) := by decide +kernel
theorem hk_285_1185 : ax_look 285 1185 = some (.aload_n 0, (0, 0, 0), .null, []) := by decide +kernel
theorem hk_285_1186 : ax_look 285 1186 = some (.iload 4, (0, 0, 0), .null, []) := by decide +kernel
theorem hk_285_1188 : ax_look 285 1188 = some (.iconst 2, (0, 0, 0), .null, []) := by decide +kernel
theorem hk_285_1189 : ax_look 285 1189 = some (.iadd, (0, 0, 0), .null, []) := by decide +kernel
theorem hk_285_1190 : ax_look 285 1190 = some (.iaload, (0, 0, 0), .null, []) := by decide +kernel
theorem hk_285_1191 : ax_look 285 1191 = some (.aload_n 3, (0, 0, 0), .null, []) := by decide +kernel
theorem hk_285_1192 : ax_look 285 1192 = some (.invokestatic 249, (246, 4, 0), .null, [6088]) := by decide +kernel
theorem hk_285_1195 : ax_look 285 1195 = some (.istore 5, (0, 0, 0), .null, []) := by decide +kernel
theorem hk_285_1197 : ax_look 285 1197 = some (.aload_n 2, (0, 0, 0), .null, []) := by decide +kernel
theorem hk_285_1198 : ax_look 285 1198 = some (.aload_n 0, (0, 0, 0), .null, []) := by decide +kernel
theorem hk_285_1199 : ax_look 285 1199 = some (.iload 4, (0, 0, 0), .null, []) := by decide +kernel
theorem hk_285_1201 : ax_look 285 1201 = some (.iconst 1, (0, 0, 0), .null, []) := by decide +kernel
theorem hk_285_1202 : ax_look 285 1202 = some (.iadd, (0, 0, 0), .null, []) := by decide +kernel
theorem hk_285_1203 : ax_look 285 1203 = some (.iaload, (0, 0, 0), .null, []) := by decide +kernel
theorem hk_285_1204 : ax_look 285 1204 = some (.aload_n 0, (0, 0, 0), .null, []) := by decide +kernel
theorem hk_285_1205 : ax_look 285 1205 = some (.iload 4, (0, 0, 0), .null, []) := by decide +kernel
theorem hk_285_1207 : ax_look 285 1207 = some (.iconst 2, (0, 0, 0), .null, []) := by decide +kernel
theorem hk_285_1208 : ax_look 285 1208 = some (.iadd, (0, 0, 0), .null, []) := by decide +kernel
theorem hk_285_1209 : ax_look 285 1209 = some (.iaload, (0, 0, 0), .null, []) := by decide +kernel
theorem hk_285_1210 : ax_look 285 1210 = some (.invokevirtual 251, (208, 2, 9), .null, [8099, 8101]) := by decide +kernel
theorem hk_285_1213 : ax_look 285 1213 = some (.istore 6, (0, 0, 0), .null, []) := by decide +kernel
theorem hk_285_1215 : ax_look 285 1215 = some (.goto 148, (0, 0, 0), .null, []) := by decide +kernel
theorem hk_285_1218 : ax_look 285 1218 = some (.aload_n 1, (0, 0, 0), .null, []) := by decide +kernel
theorem hk_285_1219 : ax_look 285 1219 = some (.aload_n 3, (0, 0, 0), .null, []) := by decide +kernel
theorem hk_285_1220 : ax_look 285 1220 = some (.invokestatic 252, (247, 2, 0), .null, [6096]) := by decide +kernel
theorem hk_285_1223 : ax_look 285 1223 = some (.istore 5, (0, 0, 0), .null, []) := by decide +kernel
theorem hk_285_1225 : ax_look 285 1225 = some (.aload_n 2, (0, 0, 0), .null, []) := by decide +kernel
theorem hk_285_1226 : ax_look 285 1226 = some (.invokevirtual 254, (211, 0, 9), .null, [8103, 8105]) := by decide +kernel
theorem hk_285_1229 : ax_look 285 1229 = some (.istore 6, (0, 0, 0), .null, []) := by decide +kernel
theorem hk_285_1231 : ax_look 285 1231 = some (.goto 132, (0, 0, 0), .null, []) := by decide +kernel
theorem hk_285_1234 : ax_look 285 1234 = some (.aload_n 1, (0, 0, 0), .null, []) := by decide +kernel
theorem hk_285_1235 : ax_look 285 1235 = some (.aload_n 3, (0, 0, 0), .null, []) := by decide +kernel
theorem hk_285_1236 : ax_look 285 1236 = some (.invokestatic 255, (248, 2, 0), .null, [6121]) := by decide +kernel
theorem hk_285_1239 : ax_look 285 1239 = some (.istore 5, (0, 0, 0), .null, []) := by decide +kernel
theorem hk_285_1241 : ax_look 285 1241 = some (.aload_n 2, (0, 0, 0), .null, []) := by decide +kernel
theorem hk_285_1242 : ax_look 285 1242 = some (.invokevirtual 257, (212, 0, 9), .null, [8115, 8117]) := by decide +kernel
theorem hk_285_1245 : ax_look 285 1245 = some (.istore 6, (0, 0, 0), .null, []) := by decide +kernel
theorem hk_285_1247 : ax_look 285 1247 = some (.goto 116, (0, 0, 0), .null, []) := by decide +kernel
theorem hk_285_1250 : ax_look 285 1250 = some (.aload_n 1, (0, 0, 0), .null, []) := by decide +kernel
theorem hk_285_1251 : ax_look 285 1251 = some (.aload_n 0, (0, 0, 0), .null, []) := by decide +kernel
theorem hk_285_1252 : ax_look 285 1252 = some (.iload 4, (0, 0, 0), .null, []) := by decide +kernel
theorem hk_285_1254 : ax_look 285 1254 = some (.iconst 1, (0, 0, 0), .null, []) := by decide +kernel
theorem hk_285_1255 : ax_look 285 1255 = some (.iadd, (0, 0, 0), .null, []) := by decide +kernel
theorem hk_285_1256 : ax_look 285 1256 = some (.iaload, (0, 0, 0), .null, []) := by decide +kernel
theorem hk_285_1257 : ax_look 285 1257 = some (.aload_n 0, (0, 0, 0), .null, []) := by decide +kernel
theorem hk_285_1258 : ax_look 285 1258 = some (.iload 4, (0, 0, 0), .null, []) := by decide +kernel
theorem hk_285_1260 : ax_look 285 1260 = some (.iconst 2, (0, 0, 0), .null, []) := by decide +kernel
theorem hk_285_1261 : ax_look 285 1261 = some (.iadd, (0, 0, 0), .null, []) := by decide +kernel
theorem hk_285_1262 : ax_look 285 1262 = some (.iaload, (0, 0, 0), .null, []) := by decide +kernel
theorem hk_285_1263 : ax_look 285 1263 = some (.aload_n 3, (0, 0, 0), .null, []) := by decide +kernel
theorem hk_285_1264 : ax_look 285 1264 = some (.invokestatic 258, (249, 4, 0), .null, [6128]) := by decide +kernel
theorem hk_285_1267 : ax_look 285 1267 = some (.istore 5, (0, 0, 0), .null, []) := by decide +kernel
theorem hk_285_1269 : ax_look 285 1269 = some (.aload_n 2, (0, 0, 0), .null, []) := by decide +kernel
theorem hk_285_1270 : ax_look 285 1270 = some (.aload_n 0, (0, 0, 0), .null, []) := by decide +kernel
theorem hk_285_1271 : ax_look 285 1271 = some (.iload 4, (0, 0, 0), .null, []) := by decide +kernel
theorem hk_285_1273 : ax_look 285 1273 = some (.iconst 1, (0, 0, 0), .null, []) := by decide +kernel
theorem hk_285_1274 : ax_look 285 1274 = some (.iadd, (0, 0, 0), .null, []) := by decide +kernel
theorem hk_285_1275 : ax_look 285 1275 = some (.iaload, (0, 0, 0), .null, []) := by decide +kernel
theorem hk_285_1276 : ax_look 285 1276 = some (.aload_n 0, (0, 0, 0), .null, []) := by decide +kernel
theorem hk_285_1277 : ax_look 285 1277 = some (.iload 4, (0, 0, 0), .null, []) := by decide +kernel
theorem hk_285_1279 : ax_look 285 1279 = some (.iconst 2, (0, 0, 0), .null, []) := by decide +kernel
theorem hk_285_1280 : ax_look 285 1280 = some (.iadd, (0, 0, 0), .null, []) := by decide +kernel
theorem hk_285_1281 : ax_look 285 1281 = some (.iaload, (0, 0, 0), .null, []) := by decide +kernel
theorem hk_285_1282 : ax_look 285 1282 = some (.invokevirtual 260, (214, 2, 9), .null, [8119, 8121]) := by decide +kernel
theorem hk_285_1285 : ax_look 285 1285 = some (.istore 6, (0, 0, 0), .null, []) := by decide +kernel
theorem hk_285_1287 : ax_look 285 1287 = some (.goto 76, (0, 0, 0), .null, []) := by decide +kernel
theorem hk_285_1290 : ax_look 285 1290 = some (.aload_n 1, (0, 0, 0), .null, []) := by decide +kernel
theorem hk_285_1291 : ax_look 285 1291 = some (.aload_n 0, (0, 0, 0), .null, []) := by decide +kernel
theorem hk_285_1292 : ax_look 285 1292 = some (.iload 4, (0, 0, 0), .null, []) := by decide +kernel
theorem hk_285_1294 : ax_look 285 1294 = some (.iconst 1, (0, 0, 0), .null, []) := by decide +kernel
theorem hk_285_1295 : ax_look 285 1295 = some (.iadd, (0, 0, 0), .null, []) := by decide +kernel
theorem hk_285_1296 : ax_look 285 1296 = some (.iaload, (0, 0, 0), .null, []) := by decide +kernel
theorem hk_285_1297 : ax_look 285 1297 = some (.aload_n 3, (0, 0, 0), .null, []) := by decide +kernel
theorem hk_285_1298 : ax_look 285 1298 = some (.invokestatic 261, (250, 3, 0), .null, [6137]) := by decide +kernel
theorem hk_285_1301 : ax_look 285 1301 = some (.istore 5, (0, 0, 0), .null, []) := by decide +kernel
theorem hk_285_1303 : ax_look 285 1303 = some (.aload_n 2, (0, 0, 0), .null, []) := by decide +kernel
theorem hk_285_1304 : ax_look 285 1304 = some (.aload_n 0, (0, 0, 0), .null, []) := by decide +kernel
theorem hk_285_1305 : ax_look 285 1305 = some (.iload 4, (0, 0, 0), .null, []) := by decide +kernel
theorem hk_285_1307 : ax_look 285 1307 = some (.iconst 1, (0, 0, 0), .null, []) := by decide +kernel
theorem hk_285_1308 : ax_look 285 1308 = some (.iadd, (0, 0, 0), .null, []) := by decide +kernel
theorem hk_285_1309 : ax_look 285 1309 = some (.iaload, (0, 0, 0), .null, []) := by decide +kernel
theorem hk_285_1310 : ax_look 285 1310 = some (.invokevirtual 263, (215, 1, 9), .null, [8127, 8129]) := by decide +kernel
theorem hk_285_1313 : ax_look 285 1313 = some (.istore 6, (0, 0, 0), .null, []) := by decide +kernel
theorem hk_285_1315 : ax_look 285 1315 = some (.goto 48, (0, 0, 0), .null, []) := by decide +kernel
theorem hk_285_1318 : ax_look 285 1318 = some (.aload_n 1, (0, 0, 0), .null, []) := by decide +kernel
theorem hk_285_1319 : ax_look 285 1319 = some (.aload_n 3, (0, 0, 0), .null, []) := by decide +kernel
theorem hk_285_1320 : ax_look 285 1320 = some (.invokestatic 264, (251, 2, 0), .null, [6144]) := by decide +kernel
theorem hk_285_1323 : ax_look 285 1323 = some (.istore 5, (0, 0, 0), .null, []) := by decide +kernel
theorem hk_285_1325 : ax_look 285 1325 = some (.aload_n 2, (0, 0, 0), .null, []) := by decide +kernel
theorem hk_285_1326 : ax_look 285 1326 = some (.invokevirtual 266, (216, 0, 9), .null, [8131, 8133]) := by decide +kernel
theorem hk_285_1329 : ax_look 285 1329 = some (.istore 6, (0, 0, 0), .null, []) := by decide +kernel
theorem hk_285_1331 : ax_look 285 1331 = some (.goto 32, (0, 0, 0), .null, []) := by decide +kernel
theorem hk_285_1334 : ax_look 285 1334 = some (.aload_n 1, (0, 0, 0), .null, []) := by decide +kernel
theorem hk_285_1335 : ax_look 285 1335 = some (.aload_n 3, (0, 0, 0), .null, []) := by decide +kernel
theorem hk_285_1336 : ax_look 285 1336 = some (.invokestatic 267, (252, 2, 0), .null, [6162]) := by decide +kernel
theorem hk_285_1339 : ax_look 285 1339 = some (.istore 5, (0, 0, 0), .null, []) := by decide +kernel
theorem hk_285_1341 : ax_look 285 1341 = some (.aload_n 2, (0, 0, 0), .null, []) := by decide +kernel
theorem hk_285_1342 : ax_look 285 1342 = some (.invokevirtual 269, (217, 0, 9), .null, [8135, 8137]) := by decide +kernel
theorem hk_285_1345 : ax_look 285 1345 = some (.istore 6, (0, 0, 0), .null, []) := by decide +kernel
theorem hk_285_1347 : ax_look 285 1347 = some (.goto 16, (0, 0, 0), .null, []) := by decide +kernel
theorem hk_285_1350 : ax_look 285 1350 = some (.aload_n 1, (0, 0, 0), .null, []) := by decide +kernel
theorem hk_285_1351 : ax_look 285 1351 = some (.invokevirtual 270, (110, 0, 8), .null, [2106, 2108]) := by decide +kernel
theorem hk_285_1354 : ax_look 285 1354 = some (.pop2, (0, 0, 0), .null, []) := by decide +kernel
theorem hk_285_1355 : ax_look 285 1355 = some (.aload_n 2, (0, 0, 0), .null, []) := by decide +kernel
theorem hk_285_1356 : ax_look 285 1356 = some (.invokevirtual 274, (218, 0, 9), .null, [8139, 8141]) := by decide +kernel
theorem hk_285_1359 : ax_look 285 1359 = some (.pop2, (0, 0, 0), .null, []) := by decide +kernel
theorem hk_285_1360 : ax_look 285 1360 = some (.goto 3, (0, 0, 0), .null, []) := by decide +kernel
theorem hk_285_1363 : ax_look 285 1363 = some (.iinc 4 6, (0, 0, 0), .null, []) := by decide +kernel
theorem hk_285_1366 : ax_look 285 1366 = some (.goto (-1343), (0, 0, 0), .null, []) := by decide +kernel
theorem hk_285_1369 : ax_look 285 1369 = some (.iconst 1, (0, 0, 0), .null, []) := by decide +kernel
theorem hk_285_1370 : ax_look 285 1370 = some (.ireturn, (0, 0, 0), .null, []) := by decide +kernel
section LWO
variable {l : Launch} {xs : Nat → Int32} {L : Nat} {P : ax_P} {X : ax_PX} {h : ax_H} {bc bs : Nat} {i : Int32}
theorem lw_op4 (G : ty_G hy_I l) (i0 : 0 ≤ i.toInt) (i1 : i.toInt + 6 ≤ L) (hL : L ≤ 3072) (I : lw_I h) (k : ∀ h', lw_I h' → AR ax_ns l (ax_mm 285) 13 (ax_r L xs) P X 1363 [(4, .int i), (3, .ref 197), (2, .ref 181), (1, .ref 0), (0, .ref 1000000001)] [] h' bc bs) : AR ax_ns l (ax_mm 285) 13 (ax_r L xs) P X 384 [(4, .int i), (3, .ref 197), (2, .ref 181), (1, .ref 0), (0, .ref 1000000001)] [] h (bc + 1177) (bs + 14024) := by
  refine AR.aload_n (ax_look_ok hk_285_384).1 (x := .ref 0) rfl rfl ?_
  refine lw_v (kd := 0) (bc' := bc + 1177) (bs' := bs + 14024) (r := 0) (as := []) hk_285_385 (by decide) (by decide +kernel) (by decide) (by decide +kernel) rfl rfl (tk_195_ok G) rfl ⟨_, _, rfl, rfl, rfl⟩ I (by decide +kernel) (by decide) (by show _ + 0 ≤ _; omega) (by show _ + 0 ≤ _; omega) (by decide +kernel) (fun x1 g2 qx1 Ig2 => ?_)
  obtain ⟨z3, rfl⟩ := qx1.1 rfl
  show AR _ _ _ _ _ _ _ 388 [(4, .int i), (3, .ref 197), (2, .ref 181), (1, .ref 0), (0, .ref 1000000001)] [.int z3] g2 _ _
  refine AR.pop (ax_look_ok hk_285_388).1 rfl ?_
  refine AR.aload_n (ax_look_ok hk_285_389).1 (x := .ref 181) rfl rfl ?_
  refine lw_v (kd := 0) (bc' := bc + 1177) (bs' := bs + 14024) (r := 181) (as := []) hk_285_390 (by decide) (by decide +kernel) (by decide) (by decide +kernel) rfl rfl (tk_450_ok G) rfl ⟨_, _, rfl, rfl, rfl⟩ Ig2 (by decide +kernel) (by decide) (by show _ + 0 ≤ _; omega) (by show _ + 0 ≤ _; omega) (by decide +kernel) (fun x4 g5 qx4 Ig5 => ?_)
  obtain ⟨z6, rfl⟩ := qx4.1 rfl
  show AR _ _ _ _ _ _ _ 393 [(4, .int i), (3, .ref 197), (2, .ref 181), (1, .ref 0), (0, .ref 1000000001)] [.int z6] g5 _ _
  refine AR.pop (ax_look_ok hk_285_393).1 rfl ?_
  refine AR.goto (ax_look_ok hk_285_394).1 (tgt := 1363) (by decide) ?_
  show AR _ _ _ _ _ _ _ 1363 [(4, .int i), (3, .ref 197), (2, .ref 181), (1, .ref 0), (0, .ref 1000000001)] [] g5 _ _
  refine AR.lessL (lv' := [(4, .int i), (3, .ref 197), (2, .ref 181), (1, .ref 0), (0, .ref 1000000001)]) (List.forall_mem_cons.mpr ⟨⟨_, by simp, ax_le_rfl rfl⟩, (List.forall_mem_cons.mpr ⟨⟨_, by simp, ax_le_rfl rfl⟩, (List.forall_mem_cons.mpr ⟨⟨_, by simp, ax_le_rfl rfl⟩, (List.forall_mem_cons.mpr ⟨⟨_, by simp, ax_le_rfl rfl⟩, (List.forall_mem_cons.mpr ⟨⟨_, by simp, ax_le_rfl rfl⟩, (fun _ h => absurd h List.not_mem_nil)⟩)⟩)⟩)⟩)⟩) ?_
  exact AR.lt (by omega) (by omega) (k _ Ig5)
theorem lw_op5 (G : ty_G hy_I l) (i0 : 0 ≤ i.toInt) (i1 : i.toInt + 6 ≤ L) (hL : L ≤ 3072) (I : lw_I h) (k : ∀ h', lw_I h' → AR ax_ns l (ax_mm 285) 13 (ax_r L xs) P X 1363 [(4, .int i), (3, .ref 197), (2, .ref 181), (1, .ref 0), (0, .ref 1000000001)] [] h' bc bs) : AR ax_ns l (ax_mm 285) 13 (ax_r L xs) P X 397 [(4, .int i), (3, .ref 197), (2, .ref 181), (1, .ref 0), (0, .ref 1000000001)] [] h (bc + 1177) (bs + 14024) := by
  refine AR.aload_n (ax_look_ok hk_285_397).1 (x := .ref 0) rfl rfl ?_
  refine lw_sc hk_285_398 hk_285_399 hk_285_401 hk_285_402 hk_285_403 rfl rfl (by decide) (by decide) (by decide) i0 i1 hL (fun y1 => ?_)
  show AR _ _ _ _ _ _ _ 404 [(4, .int i), (3, .ref 197), (2, .ref 181), (1, .ref 0), (0, .ref 1000000001)] [.int y1, .ref 0] h _ _
  refine AR.aload_n (ax_look_ok hk_285_404).1 (x := .ref 197) rfl rfl ?_
  refine lw_s (kd := 0) (bc' := bc + 1168) (bs' := bs + 11024) (as := [.ref 0, .int y1, .ref 197]) hk_285_405 (by decide +kernel) rfl rfl (tk_76_ok G) rfl ⟨_, _, rfl, rfl, _, _, rfl, lw_ai _, _, _, rfl, rfl, rfl⟩ I (by decide +kernel) (by decide) (by show _ + 9 ≤ _; omega) (by show _ + 3000 ≤ _; omega) (by decide +kernel) (fun x2 g3 qx2 Ig3 => ?_)
  obtain ⟨z4, rfl⟩ := qx2.1 rfl
  show AR _ _ _ _ _ _ _ 408 [(4, .int i), (3, .ref 197), (2, .ref 181), (1, .ref 0), (0, .ref 1000000001)] [.int z4] g3 _ _
  refine AR.istore (ax_look_ok hk_285_408).1 (by decide +kernel) rfl ?_
  show AR _ _ _ _ _ _ _ 410 [(5, .int z4), (4, .int i), (3, .ref 197), (2, .ref 181), (1, .ref 0), (0, .ref 1000000001)] [] g3 _ _
  refine AR.aload_n (ax_look_ok hk_285_410).1 (x := .ref 181) rfl rfl ?_
  refine lw_sc hk_285_411 hk_285_412 hk_285_414 hk_285_415 hk_285_416 rfl rfl (by decide) (by decide) (by decide) i0 i1 hL (fun y5 => ?_)
  show AR _ _ _ _ _ _ _ 417 [(5, .int z4), (4, .int i), (3, .ref 197), (2, .ref 181), (1, .ref 0), (0, .ref 1000000001)] [.int y5, .ref 181] g3 _ _
  refine lw_v (kd := 0) (bc' := bc + 1168) (bs' := bs + 11024) (r := 181) (as := [.int y5]) hk_285_417 (by decide) (by decide +kernel) (by decide) (by decide +kernel) rfl rfl (tk_1098_ok G) rfl ⟨_, _, rfl, rfl, _, _, rfl, lw_ai _, rfl⟩ Ig3 (by decide +kernel) (by decide) (by show _ + 0 ≤ _; omega) (by show _ + 0 ≤ _; omega) (by decide +kernel) (fun x6 g7 qx6 Ig7 => ?_)
  obtain ⟨z8, rfl⟩ := qx6.1 rfl
  show AR _ _ _ _ _ _ _ 420 [(5, .int z4), (4, .int i), (3, .ref 197), (2, .ref 181), (1, .ref 0), (0, .ref 1000000001)] [.int z8] g7 _ _
  refine AR.istore (ax_look_ok hk_285_420).1 (by decide +kernel) rfl ?_
  show AR _ _ _ _ _ _ _ 422 [(6, .int z8), (5, .int z4), (4, .int i), (3, .ref 197), (2, .ref 181), (1, .ref 0), (0, .ref 1000000001)] [] g7 _ _
  refine AR.goto (ax_look_ok hk_285_422).1 (tgt := 1363) (by decide) ?_
  show AR _ _ _ _ _ _ _ 1363 [(6, .int z8), (5, .int z4), (4, .int i), (3, .ref 197), (2, .ref 181), (1, .ref 0), (0, .ref 1000000001)] [] g7 _ _
  refine AR.lessL (lv' := [(4, .int i), (3, .ref 197), (2, .ref 181), (1, .ref 0), (0, .ref 1000000001)]) (List.forall_mem_cons.mpr ⟨⟨_, by simp, ax_le_rfl rfl⟩, (List.forall_mem_cons.mpr ⟨⟨_, by simp, ax_le_rfl rfl⟩, (List.forall_mem_cons.mpr ⟨⟨_, by simp, ax_le_rfl rfl⟩, (List.forall_mem_cons.mpr ⟨⟨_, by simp, ax_le_rfl rfl⟩, (List.forall_mem_cons.mpr ⟨⟨_, by simp, ax_le_rfl rfl⟩, (fun _ h => absurd h List.not_mem_nil)⟩)⟩)⟩)⟩)⟩) ?_
  exact AR.lt (by omega) (by omega) (k _ Ig7)
theorem lw_op6 (G : ty_G hy_I l) (i0 : 0 ≤ i.toInt) (i1 : i.toInt + 6 ≤ L) (hL : L ≤ 3072) (I : lw_I h) (k : ∀ h', lw_I h' → AR ax_ns l (ax_mm 285) 13 (ax_r L xs) P X 1363 [(4, .int i), (3, .ref 197), (2, .ref 181), (1, .ref 0), (0, .ref 1000000001)] [] h' bc bs) : AR ax_ns l (ax_mm 285) 13 (ax_r L xs) P X 425 [(4, .int i), (3, .ref 197), (2, .ref 181), (1, .ref 0), (0, .ref 1000000001)] [] h (bc + 1177) (bs + 14024) := by
  refine AR.aload_n (ax_look_ok hk_285_425).1 (x := .ref 0) rfl rfl ?_
  refine lw_sc hk_285_426 hk_285_427 hk_285_429 hk_285_430 hk_285_431 rfl rfl (by decide) (by decide) (by decide) i0 i1 hL (fun y1 => ?_)
  show AR _ _ _ _ _ _ _ 432 [(4, .int i), (3, .ref 197), (2, .ref 181), (1, .ref 0), (0, .ref 1000000001)] [.int y1, .ref 0] h _ _
  refine AR.aload_n (ax_look_ok hk_285_432).1 (x := .ref 197) rfl rfl ?_
  refine lw_s (kd := 0) (bc' := bc + 1176) (bs' := bs + 14018) (as := [.ref 0, .int y1, .ref 197]) hk_285_433 (by decide +kernel) rfl rfl (tk_78_ok G) rfl ⟨_, _, rfl, rfl, _, _, rfl, lw_ai _, _, _, rfl, rfl, rfl⟩ I (by decide +kernel) (by decide) (by show _ + 1 ≤ _; omega) (by show _ + 6 ≤ _; omega) (by decide +kernel) (fun x2 g3 qx2 Ig3 => ?_)
  obtain ⟨z4, rfl⟩ := qx2.1 rfl
  show AR _ _ _ _ _ _ _ 436 [(4, .int i), (3, .ref 197), (2, .ref 181), (1, .ref 0), (0, .ref 1000000001)] [.int z4] g3 _ _
  refine AR.istore (ax_look_ok hk_285_436).1 (by decide +kernel) rfl ?_
  show AR _ _ _ _ _ _ _ 438 [(5, .int z4), (4, .int i), (3, .ref 197), (2, .ref 181), (1, .ref 0), (0, .ref 1000000001)] [] g3 _ _
  refine AR.aload_n (ax_look_ok hk_285_438).1 (x := .ref 181) rfl rfl ?_
  refine lw_sc hk_285_439 hk_285_440 hk_285_442 hk_285_443 hk_285_444 rfl rfl (by decide) (by decide) (by decide) i0 i1 hL (fun y5 => ?_)
  show AR _ _ _ _ _ _ _ 445 [(5, .int z4), (4, .int i), (3, .ref 197), (2, .ref 181), (1, .ref 0), (0, .ref 1000000001)] [.int y5, .ref 181] g3 _ _
  refine lw_v (kd := 0) (bc' := bc + 1176) (bs' := bs + 14018) (r := 181) (as := [.int y5]) hk_285_445 (by decide) (by decide +kernel) (by decide) (by decide +kernel) rfl rfl (tk_1099_ok G) rfl ⟨_, _, rfl, rfl, _, _, rfl, lw_ai _, rfl⟩ Ig3 (by decide +kernel) (by decide) (by show _ + 0 ≤ _; omega) (by show _ + 0 ≤ _; omega) (by decide +kernel) (fun x6 g7 qx6 Ig7 => ?_)
  obtain ⟨z8, rfl⟩ := qx6.1 rfl
  show AR _ _ _ _ _ _ _ 448 [(5, .int z4), (4, .int i), (3, .ref 197), (2, .ref 181), (1, .ref 0), (0, .ref 1000000001)] [.int z8] g7 _ _
  refine AR.istore (ax_look_ok hk_285_448).1 (by decide +kernel) rfl ?_
  show AR _ _ _ _ _ _ _ 450 [(6, .int z8), (5, .int z4), (4, .int i), (3, .ref 197), (2, .ref 181), (1, .ref 0), (0, .ref 1000000001)] [] g7 _ _
  refine AR.goto (ax_look_ok hk_285_450).1 (tgt := 1363) (by decide) ?_
  show AR _ _ _ _ _ _ _ 1363 [(6, .int z8), (5, .int z4), (4, .int i), (3, .ref 197), (2, .ref 181), (1, .ref 0), (0, .ref 1000000001)] [] g7 _ _
  refine AR.lessL (lv' := [(4, .int i), (3, .ref 197), (2, .ref 181), (1, .ref 0), (0, .ref 1000000001)]) (List.forall_mem_cons.mpr ⟨⟨_, by simp, ax_le_rfl rfl⟩, (List.forall_mem_cons.mpr ⟨⟨_, by simp, ax_le_rfl rfl⟩, (List.forall_mem_cons.mpr ⟨⟨_, by simp, ax_le_rfl rfl⟩, (List.forall_mem_cons.mpr ⟨⟨_, by simp, ax_le_rfl rfl⟩, (List.forall_mem_cons.mpr ⟨⟨_, by simp, ax_le_rfl rfl⟩, (fun _ h => absurd h List.not_mem_nil)⟩)⟩)⟩)⟩)⟩) ?_
  exact AR.lt (by omega) (by omega) (k _ Ig7)
theorem lw_op7 (G : ty_G hy_I l) (i0 : 0 ≤ i.toInt) (i1 : i.toInt + 6 ≤ L) (hL : L ≤ 3072) (I : lw_I h) (k : ∀ h', lw_I h' → AR ax_ns l (ax_mm 285) 13 (ax_r L xs) P X 1363 [(4, .int i), (3, .ref 197), (2, .ref 181), (1, .ref 0), (0, .ref 1000000001)] [] h' bc bs) : AR ax_ns l (ax_mm 285) 13 (ax_r L xs) P X 453 [(4, .int i), (3, .ref 197), (2, .ref 181), (1, .ref 0), (0, .ref 1000000001)] [] h (bc + 1177) (bs + 14024) := by
  refine AR.aload_n (ax_look_ok hk_285_453).1 (x := .ref 0) rfl rfl ?_
  refine lw_v (kd := 0) (bc' := bc + 1177) (bs' := bs + 14024) (r := 0) (as := []) hk_285_454 (by decide) (by decide +kernel) (by decide) (by decide +kernel) rfl rfl (tk_196_ok G) rfl ⟨_, _, rfl, rfl, rfl⟩ I (by decide +kernel) (by decide) (by show _ + 0 ≤ _; omega) (by show _ + 0 ≤ _; omega) (by decide +kernel) (fun x1 g2 qx1 Ig2 => ?_)
  obtain ⟨z3, rfl⟩ := qx1.1 rfl
  show AR _ _ _ _ _ _ _ 457 [(4, .int i), (3, .ref 197), (2, .ref 181), (1, .ref 0), (0, .ref 1000000001)] [.int z3] g2 _ _
  refine AR.pop (ax_look_ok hk_285_457).1 rfl ?_
  refine AR.aload_n (ax_look_ok hk_285_458).1 (x := .ref 181) rfl rfl ?_
  refine lw_v (kd := 0) (bc' := bc + 1177) (bs' := bs + 14024) (r := 181) (as := []) hk_285_459 (by decide) (by decide +kernel) (by decide) (by decide +kernel) rfl rfl (tk_1100_ok G) rfl ⟨_, _, rfl, rfl, rfl⟩ Ig2 (by decide +kernel) (by decide) (by show _ + 0 ≤ _; omega) (by show _ + 0 ≤ _; omega) (by decide +kernel) (fun x4 g5 qx4 Ig5 => ?_)
  obtain ⟨z6, rfl⟩ := qx4.1 rfl
  show AR _ _ _ _ _ _ _ 462 [(4, .int i), (3, .ref 197), (2, .ref 181), (1, .ref 0), (0, .ref 1000000001)] [.int z6] g5 _ _
  refine AR.pop (ax_look_ok hk_285_462).1 rfl ?_
  refine AR.goto (ax_look_ok hk_285_463).1 (tgt := 1363) (by decide) ?_
  show AR _ _ _ _ _ _ _ 1363 [(4, .int i), (3, .ref 197), (2, .ref 181), (1, .ref 0), (0, .ref 1000000001)] [] g5 _ _
  refine AR.lessL (lv' := [(4, .int i), (3, .ref 197), (2, .ref 181), (1, .ref 0), (0, .ref 1000000001)]) (List.forall_mem_cons.mpr ⟨⟨_, by simp, ax_le_rfl rfl⟩, (List.forall_mem_cons.mpr ⟨⟨_, by simp, ax_le_rfl rfl⟩, (List.forall_mem_cons.mpr ⟨⟨_, by simp, ax_le_rfl rfl⟩, (List.forall_mem_cons.mpr ⟨⟨_, by simp, ax_le_rfl rfl⟩, (List.forall_mem_cons.mpr ⟨⟨_, by simp, ax_le_rfl rfl⟩, (fun _ h => absurd h List.not_mem_nil)⟩)⟩)⟩)⟩)⟩) ?_
  exact AR.lt (by omega) (by omega) (k _ Ig5)
theorem lw_op8 (G : ty_G hy_I l) (i0 : 0 ≤ i.toInt) (i1 : i.toInt + 6 ≤ L) (hL : L ≤ 3072) (I : lw_I h) (k : ∀ h', lw_I h' → AR ax_ns l (ax_mm 285) 13 (ax_r L xs) P X 1363 [(4, .int i), (3, .ref 197), (2, .ref 181), (1, .ref 0), (0, .ref 1000000001)] [] h' bc bs) : AR ax_ns l (ax_mm 285) 13 (ax_r L xs) P X 466 [(4, .int i), (3, .ref 197), (2, .ref 181), (1, .ref 0), (0, .ref 1000000001)] [] h (bc + 1177) (bs + 14024) := by
  refine AR.aload_n (ax_look_ok hk_285_466).1 (x := .ref 0) rfl rfl ?_
  refine lw_sc hk_285_467 hk_285_468 hk_285_470 hk_285_471 hk_285_472 rfl rfl (by decide) (by decide) (by decide) i0 i1 hL (fun y1 => ?_)
  show AR _ _ _ _ _ _ _ 473 [(4, .int i), (3, .ref 197), (2, .ref 181), (1, .ref 0), (0, .ref 1000000001)] [.int y1, .ref 0] h _ _
  refine AR.aload_n (ax_look_ok hk_285_473).1 (x := .ref 197) rfl rfl ?_
  refine lw_s (kd := 0) (bc' := bc + 1176) (bs' := bs + 14018) (as := [.ref 0, .int y1, .ref 197]) hk_285_474 (by decide +kernel) rfl rfl (tk_84_ok G) rfl ⟨_, _, rfl, rfl, _, _, rfl, lw_ai _, _, _, rfl, rfl, rfl⟩ I (by decide +kernel) (by decide) (by show _ + 1 ≤ _; omega) (by show _ + 6 ≤ _; omega) (by decide +kernel) (fun x2 g3 qx2 Ig3 => ?_)
  obtain ⟨z4, rfl⟩ := qx2.1 rfl
  show AR _ _ _ _ _ _ _ 477 [(4, .int i), (3, .ref 197), (2, .ref 181), (1, .ref 0), (0, .ref 1000000001)] [.int z4] g3 _ _
  refine AR.istore (ax_look_ok hk_285_477).1 (by decide +kernel) rfl ?_
  show AR _ _ _ _ _ _ _ 479 [(5, .int z4), (4, .int i), (3, .ref 197), (2, .ref 181), (1, .ref 0), (0, .ref 1000000001)] [] g3 _ _
  refine AR.aload_n (ax_look_ok hk_285_479).1 (x := .ref 181) rfl rfl ?_
  refine lw_sc hk_285_480 hk_285_481 hk_285_483 hk_285_484 hk_285_485 rfl rfl (by decide) (by decide) (by decide) i0 i1 hL (fun y5 => ?_)
  show AR _ _ _ _ _ _ _ 486 [(5, .int z4), (4, .int i), (3, .ref 197), (2, .ref 181), (1, .ref 0), (0, .ref 1000000001)] [.int y5, .ref 181] g3 _ _
  refine lw_v (kd := 0) (bc' := bc + 1176) (bs' := bs + 14018) (r := 181) (as := [.int y5]) hk_285_486 (by decide) (by decide +kernel) (by decide) (by decide +kernel) rfl rfl (tk_1102_ok G) rfl ⟨_, _, rfl, rfl, _, _, rfl, lw_ai _, rfl⟩ Ig3 (by decide +kernel) (by decide) (by show _ + 0 ≤ _; omega) (by show _ + 0 ≤ _; omega) (by decide +kernel) (fun x6 g7 qx6 Ig7 => ?_)
  obtain ⟨z8, rfl⟩ := qx6.1 rfl
  show AR _ _ _ _ _ _ _ 489 [(5, .int z4), (4, .int i), (3, .ref 197), (2, .ref 181), (1, .ref 0), (0, .ref 1000000001)] [.int z8] g7 _ _
  refine AR.istore (ax_look_ok hk_285_489).1 (by decide +kernel) rfl ?_
  show AR _ _ _ _ _ _ _ 491 [(6, .int z8), (5, .int z4), (4, .int i), (3, .ref 197), (2, .ref 181), (1, .ref 0), (0, .ref 1000000001)] [] g7 _ _
  refine AR.goto (ax_look_ok hk_285_491).1 (tgt := 1363) (by decide) ?_
  show AR _ _ _ _ _ _ _ 1363 [(6, .int z8), (5, .int z4), (4, .int i), (3, .ref 197), (2, .ref 181), (1, .ref 0), (0, .ref 1000000001)] [] g7 _ _
  refine AR.lessL (lv' := [(4, .int i), (3, .ref 197), (2, .ref 181), (1, .ref 0), (0, .ref 1000000001)]) (List.forall_mem_cons.mpr ⟨⟨_, by simp, ax_le_rfl rfl⟩, (List.forall_mem_cons.mpr ⟨⟨_, by simp, ax_le_rfl rfl⟩, (List.forall_mem_cons.mpr ⟨⟨_, by simp, ax_le_rfl rfl⟩, (List.forall_mem_cons.mpr ⟨⟨_, by simp, ax_le_rfl rfl⟩, (List.forall_mem_cons.mpr ⟨⟨_, by simp, ax_le_rfl rfl⟩, (fun _ h => absurd h List.not_mem_nil)⟩)⟩)⟩)⟩)⟩) ?_
  exact AR.lt (by omega) (by omega) (k _ Ig7)
theorem lw_op9 (G : ty_G hy_I l) (i0 : 0 ≤ i.toInt) (i1 : i.toInt + 6 ≤ L) (hL : L ≤ 3072) (I : lw_I h) (k : ∀ h', lw_I h' → AR ax_ns l (ax_mm 285) 13 (ax_r L xs) P X 1363 [(4, .int i), (3, .ref 197), (2, .ref 181), (1, .ref 0), (0, .ref 1000000001)] [] h' bc bs) : AR ax_ns l (ax_mm 285) 13 (ax_r L xs) P X 494 [(4, .int i), (3, .ref 197), (2, .ref 181), (1, .ref 0), (0, .ref 1000000001)] [] h (bc + 1177) (bs + 14024) := by
  refine AR.aload_n (ax_look_ok hk_285_494).1 (x := .ref 0) rfl rfl ?_
  refine lw_sc hk_285_495 hk_285_496 hk_285_498 hk_285_499 hk_285_500 rfl rfl (by decide) (by decide) (by decide) i0 i1 hL (fun y1 => ?_)
  show AR _ _ _ _ _ _ _ 501 [(4, .int i), (3, .ref 197), (2, .ref 181), (1, .ref 0), (0, .ref 1000000001)] [.int y1, .ref 0] h _ _
  refine AR.aload_n (ax_look_ok hk_285_501).1 (x := .ref 197) rfl rfl ?_
  refine lw_s (kd := 0) (bc' := bc + 1176) (bs' := bs + 14018) (as := [.ref 0, .int y1, .ref 197]) hk_285_502 (by decide +kernel) rfl rfl (tk_86_ok G) rfl ⟨_, _, rfl, rfl, _, _, rfl, lw_ai _, _, _, rfl, rfl, rfl⟩ I (by decide +kernel) (by decide) (by show _ + 1 ≤ _; omega) (by show _ + 6 ≤ _; omega) (by decide +kernel) (fun x2 g3 qx2 Ig3 => ?_)
  obtain ⟨z4, rfl⟩ := qx2.1 rfl
  show AR _ _ _ _ _ _ _ 505 [(4, .int i), (3, .ref 197), (2, .ref 181), (1, .ref 0), (0, .ref 1000000001)] [.int z4] g3 _ _
  refine AR.istore (ax_look_ok hk_285_505).1 (by decide +kernel) rfl ?_
  show AR _ _ _ _ _ _ _ 507 [(5, .int z4), (4, .int i), (3, .ref 197), (2, .ref 181), (1, .ref 0), (0, .ref 1000000001)] [] g3 _ _
  refine AR.aload_n (ax_look_ok hk_285_507).1 (x := .ref 181) rfl rfl ?_
  refine lw_sc hk_285_508 hk_285_509 hk_285_511 hk_285_512 hk_285_513 rfl rfl (by decide) (by decide) (by decide) i0 i1 hL (fun y5 => ?_)
  show AR _ _ _ _ _ _ _ 514 [(5, .int z4), (4, .int i), (3, .ref 197), (2, .ref 181), (1, .ref 0), (0, .ref 1000000001)] [.int y5, .ref 181] g3 _ _
  refine lw_v (kd := 0) (bc' := bc + 1176) (bs' := bs + 14018) (r := 181) (as := [.int y5]) hk_285_514 (by decide) (by decide +kernel) (by decide) (by decide +kernel) rfl rfl (tk_1103_ok G) rfl ⟨_, _, rfl, rfl, _, _, rfl, lw_ai _, rfl⟩ Ig3 (by decide +kernel) (by decide) (by show _ + 0 ≤ _; omega) (by show _ + 0 ≤ _; omega) (by decide +kernel) (fun x6 g7 qx6 Ig7 => ?_)
  obtain ⟨z8, rfl⟩ := qx6.1 rfl
  show AR _ _ _ _ _ _ _ 517 [(5, .int z4), (4, .int i), (3, .ref 197), (2, .ref 181), (1, .ref 0), (0, .ref 1000000001)] [.int z8] g7 _ _
  refine AR.istore (ax_look_ok hk_285_517).1 (by decide +kernel) rfl ?_
  show AR _ _ _ _ _ _ _ 519 [(6, .int z8), (5, .int z4), (4, .int i), (3, .ref 197), (2, .ref 181), (1, .ref 0), (0, .ref 1000000001)] [] g7 _ _
  refine AR.goto (ax_look_ok hk_285_519).1 (tgt := 1363) (by decide) ?_
  show AR _ _ _ _ _ _ _ 1363 [(6, .int z8), (5, .int z4), (4, .int i), (3, .ref 197), (2, .ref 181), (1, .ref 0), (0, .ref 1000000001)] [] g7 _ _
  refine AR.lessL (lv' := [(4, .int i), (3, .ref 197), (2, .ref 181), (1, .ref 0), (0, .ref 1000000001)]) (List.forall_mem_cons.mpr ⟨⟨_, by simp, ax_le_rfl rfl⟩, (List.forall_mem_cons.mpr ⟨⟨_, by simp, ax_le_rfl rfl⟩, (List.forall_mem_cons.mpr ⟨⟨_, by simp, ax_le_rfl rfl⟩, (List.forall_mem_cons.mpr ⟨⟨_, by simp, ax_le_rfl rfl⟩, (List.forall_mem_cons.mpr ⟨⟨_, by simp, ax_le_rfl rfl⟩, (fun _ h => absurd h List.not_mem_nil)⟩)⟩)⟩)⟩)⟩) ?_
  exact AR.lt (by omega) (by omega) (k _ Ig7)
theorem lw_op10 (G : ty_G hy_I l) (i0 : 0 ≤ i.toInt) (i1 : i.toInt + 6 ≤ L) (hL : L ≤ 3072) (I : lw_I h) (k : ∀ h', lw_I h' → AR ax_ns l (ax_mm 285) 13 (ax_r L xs) P X 1363 [(4, .int i), (3, .ref 197), (2, .ref 181), (1, .ref 0), (0, .ref 1000000001)] [] h' bc bs) : AR ax_ns l (ax_mm 285) 13 (ax_r L xs) P X 522 [(4, .int i), (3, .ref 197), (2, .ref 181), (1, .ref 0), (0, .ref 1000000001)] [] h (bc + 1177) (bs + 14024) := by
  refine AR.aload_n (ax_look_ok hk_285_522).1 (x := .ref 0) rfl rfl ?_
  refine lw_sc hk_285_523 hk_285_524 hk_285_526 hk_285_527 hk_285_528 rfl rfl (by decide) (by decide) (by decide) i0 i1 hL (fun y1 => ?_)
  show AR _ _ _ _ _ _ _ 529 [(4, .int i), (3, .ref 197), (2, .ref 181), (1, .ref 0), (0, .ref 1000000001)] [.int y1, .ref 0] h _ _
  refine lw_sc hk_285_529 hk_285_530 hk_285_532 hk_285_533 hk_285_534 rfl rfl (by decide) (by decide) (by decide) i0 i1 hL (fun y2 => ?_)
  show AR _ _ _ _ _ _ _ 535 [(4, .int i), (3, .ref 197), (2, .ref 181), (1, .ref 0), (0, .ref 1000000001)] [.int y2, .int y1, .ref 0] h _ _
  refine AR.aload_n (ax_look_ok hk_285_535).1 (x := .ref 197) rfl rfl ?_
  refine lw_s (kd := 0) (bc' := bc + 1175) (bs' := bs + 14012) (as := [.ref 0, .int y1, .int y2, .ref 197]) hk_285_536 (by decide +kernel) rfl rfl (tk_91_ok G) rfl ⟨_, _, rfl, rfl, _, _, rfl, lw_ai _, _, _, rfl, lw_ai _, _, _, rfl, rfl, rfl⟩ I (by decide +kernel) (by decide) (by show _ + 2 ≤ _; omega) (by show _ + 12 ≤ _; omega) (by decide +kernel) (fun x3 g4 qx3 Ig4 => ?_)
  obtain ⟨z5, rfl⟩ := qx3.1 rfl
  show AR _ _ _ _ _ _ _ 539 [(4, .int i), (3, .ref 197), (2, .ref 181), (1, .ref 0), (0, .ref 1000000001)] [.int z5] g4 _ _
  refine AR.istore (ax_look_ok hk_285_539).1 (by decide +kernel) rfl ?_
  show AR _ _ _ _ _ _ _ 541 [(5, .int z5), (4, .int i), (3, .ref 197), (2, .ref 181), (1, .ref 0), (0, .ref 1000000001)] [] g4 _ _
  refine AR.aload_n (ax_look_ok hk_285_541).1 (x := .ref 181) rfl rfl ?_
  refine lw_sc hk_285_542 hk_285_543 hk_285_545 hk_285_546 hk_285_547 rfl rfl (by decide) (by decide) (by decide) i0 i1 hL (fun y6 => ?_)
  show AR _ _ _ _ _ _ _ 548 [(5, .int z5), (4, .int i), (3, .ref 197), (2, .ref 181), (1, .ref 0), (0, .ref 1000000001)] [.int y6, .ref 181] g4 _ _
  refine lw_sc hk_285_548 hk_285_549 hk_285_551 hk_285_552 hk_285_553 rfl rfl (by decide) (by decide) (by decide) i0 i1 hL (fun y7 => ?_)
  show AR _ _ _ _ _ _ _ 554 [(5, .int z5), (4, .int i), (3, .ref 197), (2, .ref 181), (1, .ref 0), (0, .ref 1000000001)] [.int y7, .int y6, .ref 181] g4 _ _
  refine lw_v (kd := 0) (bc' := bc + 1175) (bs' := bs + 14012) (r := 181) (as := [.int y6, .int y7]) hk_285_554 (by decide) (by decide +kernel) (by decide) (by decide +kernel) rfl rfl (tk_1107_ok G) rfl ⟨_, _, rfl, rfl, _, _, rfl, lw_ai _, _, _, rfl, lw_ai _, rfl⟩ Ig4 (by decide +kernel) (by decide) (by show _ + 0 ≤ _; omega) (by show _ + 0 ≤ _; omega) (by decide +kernel) (fun x8 g9 qx8 Ig9 => ?_)
  obtain ⟨z10, rfl⟩ := qx8.1 rfl
  show AR _ _ _ _ _ _ _ 557 [(5, .int z5), (4, .int i), (3, .ref 197), (2, .ref 181), (1, .ref 0), (0, .ref 1000000001)] [.int z10] g9 _ _
  refine AR.istore (ax_look_ok hk_285_557).1 (by decide +kernel) rfl ?_
  show AR _ _ _ _ _ _ _ 559 [(6, .int z10), (5, .int z5), (4, .int i), (3, .ref 197), (2, .ref 181), (1, .ref 0), (0, .ref 1000000001)] [] g9 _ _
  refine AR.goto (ax_look_ok hk_285_559).1 (tgt := 1363) (by decide) ?_
  show AR _ _ _ _ _ _ _ 1363 [(6, .int z10), (5, .int z5), (4, .int i), (3, .ref 197), (2, .ref 181), (1, .ref 0), (0, .ref 1000000001)] [] g9 _ _
  refine AR.lessL (lv' := [(4, .int i), (3, .ref 197), (2, .ref 181), (1, .ref 0), (0, .ref 1000000001)]) (List.forall_mem_cons.mpr ⟨⟨_, by simp, ax_le_rfl rfl⟩, (List.forall_mem_cons.mpr ⟨⟨_, by simp, ax_le_rfl rfl⟩, (List.forall_mem_cons.mpr ⟨⟨_, by simp, ax_le_rfl rfl⟩, (List.forall_mem_cons.mpr ⟨⟨_, by simp, ax_le_rfl rfl⟩, (List.forall_mem_cons.mpr ⟨⟨_, by simp, ax_le_rfl rfl⟩, (fun _ h => absurd h List.not_mem_nil)⟩)⟩)⟩)⟩)⟩) ?_
  exact AR.lt (by omega) (by omega) (k _ Ig9)
theorem lw_op11 (G : ty_G hy_I l) (i0 : 0 ≤ i.toInt) (i1 : i.toInt + 6 ≤ L) (hL : L ≤ 3072) (I : lw_I h) (k : ∀ h', lw_I h' → AR ax_ns l (ax_mm 285) 13 (ax_r L xs) P X 1363 [(4, .int i), (3, .ref 197), (2, .ref 181), (1, .ref 0), (0, .ref 1000000001)] [] h' bc bs) : AR ax_ns l (ax_mm 285) 13 (ax_r L xs) P X 562 [(4, .int i), (3, .ref 197), (2, .ref 181), (1, .ref 0), (0, .ref 1000000001)] [] h (bc + 1177) (bs + 14024) := by
  refine AR.aload_n (ax_look_ok hk_285_562).1 (x := .ref 0) rfl rfl ?_
  refine lw_sc hk_285_563 hk_285_564 hk_285_566 hk_285_567 hk_285_568 rfl rfl (by decide) (by decide) (by decide) i0 i1 hL (fun y1 => ?_)
  show AR _ _ _ _ _ _ _ 569 [(4, .int i), (3, .ref 197), (2, .ref 181), (1, .ref 0), (0, .ref 1000000001)] [.int y1, .ref 0] h _ _
  refine AR.aload_n (ax_look_ok hk_285_569).1 (x := .ref 197) rfl rfl ?_
  refine lw_s (kd := 0) (bc' := bc + 1176) (bs' := bs + 14018) (as := [.ref 0, .int y1, .ref 197]) hk_285_570 (by decide +kernel) rfl rfl (tk_93_ok G) rfl ⟨_, _, rfl, rfl, _, _, rfl, lw_ai _, _, _, rfl, rfl, rfl⟩ I (by decide +kernel) (by decide) (by show _ + 1 ≤ _; omega) (by show _ + 6 ≤ _; omega) (by decide +kernel) (fun x2 g3 qx2 Ig3 => ?_)
  obtain ⟨z4, rfl⟩ := qx2.1 rfl
  show AR _ _ _ _ _ _ _ 573 [(4, .int i), (3, .ref 197), (2, .ref 181), (1, .ref 0), (0, .ref 1000000001)] [.int z4] g3 _ _
  refine AR.istore (ax_look_ok hk_285_573).1 (by decide +kernel) rfl ?_
  show AR _ _ _ _ _ _ _ 575 [(5, .int z4), (4, .int i), (3, .ref 197), (2, .ref 181), (1, .ref 0), (0, .ref 1000000001)] [] g3 _ _
  refine AR.aload_n (ax_look_ok hk_285_575).1 (x := .ref 181) rfl rfl ?_
  refine lw_sc hk_285_576 hk_285_577 hk_285_579 hk_285_580 hk_285_581 rfl rfl (by decide) (by decide) (by decide) i0 i1 hL (fun y5 => ?_)
  show AR _ _ _ _ _ _ _ 582 [(5, .int z4), (4, .int i), (3, .ref 197), (2, .ref 181), (1, .ref 0), (0, .ref 1000000001)] [.int y5, .ref 181] g3 _ _
  refine lw_v (kd := 1) (bc' := bc + 1176) (bs' := bs + 14018) (r := 181) (as := [.int y5]) hk_285_582 (by decide) (by decide +kernel) (by decide) (by decide +kernel) rfl rfl (tk_1109_ok G) rfl ⟨_, _, rfl, rfl, _, _, rfl, lw_ai _, rfl⟩ Ig3 (by decide +kernel) (by decide) (by show _ + 0 ≤ _; omega) (by show _ + 0 ≤ _; omega) (by decide +kernel) (fun x6 g7 qx6 Ig7 => ?_)
  obtain ⟨z8, rfl⟩ := qx6.2 rfl
  show AR _ _ _ _ _ _ _ 585 [(5, .int z4), (4, .int i), (3, .ref 197), (2, .ref 181), (1, .ref 0), (0, .ref 1000000001)] [.long z8] g7 _ _
  refine AR.lstore (ax_look_ok hk_285_585).1 (by decide +kernel) rfl ?_
  show AR _ _ _ _ _ _ _ 587 [(6, .long z8), (5, .int z4), (4, .int i), (3, .ref 197), (2, .ref 181), (1, .ref 0), (0, .ref 1000000001)] [] g7 _ _
  refine AR.goto (ax_look_ok hk_285_587).1 (tgt := 1363) (by decide) ?_
  show AR _ _ _ _ _ _ _ 1363 [(6, .long z8), (5, .int z4), (4, .int i), (3, .ref 197), (2, .ref 181), (1, .ref 0), (0, .ref 1000000001)] [] g7 _ _
  refine AR.lessL (lv' := [(4, .int i), (3, .ref 197), (2, .ref 181), (1, .ref 0), (0, .ref 1000000001)]) (List.forall_mem_cons.mpr ⟨⟨_, by simp, ax_le_rfl rfl⟩, (List.forall_mem_cons.mpr ⟨⟨_, by simp, ax_le_rfl rfl⟩, (List.forall_mem_cons.mpr ⟨⟨_, by simp, ax_le_rfl rfl⟩, (List.forall_mem_cons.mpr ⟨⟨_, by simp, ax_le_rfl rfl⟩, (List.forall_mem_cons.mpr ⟨⟨_, by simp, ax_le_rfl rfl⟩, (fun _ h => absurd h List.not_mem_nil)⟩)⟩)⟩)⟩)⟩) ?_
  exact AR.lt (by omega) (by omega) (k _ Ig7)
theorem lw_op12 (G : ty_G hy_I l) (i0 : 0 ≤ i.toInt) (i1 : i.toInt + 6 ≤ L) (hL : L ≤ 3072) (I : lw_I h) (k : ∀ h', lw_I h' → AR ax_ns l (ax_mm 285) 13 (ax_r L xs) P X 1363 [(4, .int i), (3, .ref 197), (2, .ref 181), (1, .ref 0), (0, .ref 1000000001)] [] h' bc bs) : AR ax_ns l (ax_mm 285) 13 (ax_r L xs) P X 590 [(4, .int i), (3, .ref 197), (2, .ref 181), (1, .ref 0), (0, .ref 1000000001)] [] h (bc + 1177) (bs + 14024) := by
  refine AR.aload_n (ax_look_ok hk_285_590).1 (x := .ref 0) rfl rfl ?_
  refine lw_sc hk_285_591 hk_285_592 hk_285_594 hk_285_595 hk_285_596 rfl rfl (by decide) (by decide) (by decide) i0 i1 hL (fun y1 => ?_)
  show AR _ _ _ _ _ _ _ 597 [(4, .int i), (3, .ref 197), (2, .ref 181), (1, .ref 0), (0, .ref 1000000001)] [.int y1, .ref 0] h _ _
  refine AR.aload_n (ax_look_ok hk_285_597).1 (x := .ref 197) rfl rfl ?_
  refine lw_s (kd := 0) (bc' := bc + 1176) (bs' := bs + 14018) (as := [.ref 0, .int y1, .ref 197]) hk_285_598 (by decide +kernel) rfl rfl (tk_97_ok G) rfl ⟨_, _, rfl, rfl, _, _, rfl, lw_ai _, _, _, rfl, rfl, rfl⟩ I (by decide +kernel) (by decide) (by show _ + 1 ≤ _; omega) (by show _ + 6 ≤ _; omega) (by decide +kernel) (fun x2 g3 qx2 Ig3 => ?_)
  obtain ⟨z4, rfl⟩ := qx2.1 rfl
  show AR _ _ _ _ _ _ _ 601 [(4, .int i), (3, .ref 197), (2, .ref 181), (1, .ref 0), (0, .ref 1000000001)] [.int z4] g3 _ _
  refine AR.istore (ax_look_ok hk_285_601).1 (by decide +kernel) rfl ?_
  show AR _ _ _ _ _ _ _ 603 [(5, .int z4), (4, .int i), (3, .ref 197), (2, .ref 181), (1, .ref 0), (0, .ref 1000000001)] [] g3 _ _
  refine AR.aload_n (ax_look_ok hk_285_603).1 (x := .ref 181) rfl rfl ?_
  refine lw_sc hk_285_604 hk_285_605 hk_285_607 hk_285_608 hk_285_609 rfl rfl (by decide) (by decide) (by decide) i0 i1 hL (fun y5 => ?_)
  show AR _ _ _ _ _ _ _ 610 [(5, .int z4), (4, .int i), (3, .ref 197), (2, .ref 181), (1, .ref 0), (0, .ref 1000000001)] [.int y5, .ref 181] g3 _ _
  refine lw_v (kd := 0) (bc' := bc + 1175) (bs' := bs + 13994) (r := 181) (as := [.int y5]) hk_285_610 (by decide) (by decide +kernel) (by decide) (by decide +kernel) rfl rfl (tk_1111_ok G) rfl ⟨_, _, rfl, rfl, _, _, rfl, lw_ai _, rfl⟩ Ig3 (by decide +kernel) (by decide) (by show _ + 1 ≤ _; omega) (by show _ + 24 ≤ _; omega) (by decide +kernel) (fun x6 g7 qx6 Ig7 => ?_)
  obtain ⟨z8, rfl⟩ := qx6.1 rfl
  show AR _ _ _ _ _ _ _ 613 [(5, .int z4), (4, .int i), (3, .ref 197), (2, .ref 181), (1, .ref 0), (0, .ref 1000000001)] [.int z8] g7 _ _
  refine AR.istore (ax_look_ok hk_285_613).1 (by decide +kernel) rfl ?_
  show AR _ _ _ _ _ _ _ 615 [(6, .int z8), (5, .int z4), (4, .int i), (3, .ref 197), (2, .ref 181), (1, .ref 0), (0, .ref 1000000001)] [] g7 _ _
  refine AR.goto (ax_look_ok hk_285_615).1 (tgt := 1363) (by decide) ?_
  show AR _ _ _ _ _ _ _ 1363 [(6, .int z8), (5, .int z4), (4, .int i), (3, .ref 197), (2, .ref 181), (1, .ref 0), (0, .ref 1000000001)] [] g7 _ _
  refine AR.lessL (lv' := [(4, .int i), (3, .ref 197), (2, .ref 181), (1, .ref 0), (0, .ref 1000000001)]) (List.forall_mem_cons.mpr ⟨⟨_, by simp, ax_le_rfl rfl⟩, (List.forall_mem_cons.mpr ⟨⟨_, by simp, ax_le_rfl rfl⟩, (List.forall_mem_cons.mpr ⟨⟨_, by simp, ax_le_rfl rfl⟩, (List.forall_mem_cons.mpr ⟨⟨_, by simp, ax_le_rfl rfl⟩, (List.forall_mem_cons.mpr ⟨⟨_, by simp, ax_le_rfl rfl⟩, (fun _ h => absurd h List.not_mem_nil)⟩)⟩)⟩)⟩)⟩) ?_
  exact AR.lt (by omega) (by omega) (k _ Ig7)
theorem lw_op13 (G : ty_G hy_I l) (i0 : 0 ≤ i.toInt) (i1 : i.toInt + 6 ≤ L) (hL : L ≤ 3072) (I : lw_I h) (k : ∀ h', lw_I h' → AR ax_ns l (ax_mm 285) 13 (ax_r L xs) P X 1363 [(4, .int i), (3, .ref 197), (2, .ref 181), (1, .ref 0), (0, .ref 1000000001)] [] h' bc bs) : AR ax_ns l (ax_mm 285) 13 (ax_r L xs) P X 618 [(4, .int i), (3, .ref 197), (2, .ref 181), (1, .ref 0), (0, .ref 1000000001)] [] h (bc + 1177) (bs + 14024) := by
  refine AR.aload_n (ax_look_ok hk_285_618).1 (x := .ref 0) rfl rfl ?_
  refine lw_sc hk_285_619 hk_285_620 hk_285_622 hk_285_623 hk_285_624 rfl rfl (by decide) (by decide) (by decide) i0 i1 hL (fun y1 => ?_)
  show AR _ _ _ _ _ _ _ 625 [(4, .int i), (3, .ref 197), (2, .ref 181), (1, .ref 0), (0, .ref 1000000001)] [.int y1, .ref 0] h _ _
  refine lw_sc hk_285_625 hk_285_626 hk_285_628 hk_285_629 hk_285_630 rfl rfl (by decide) (by decide) (by decide) i0 i1 hL (fun y2 => ?_)
  show AR _ _ _ _ _ _ _ 631 [(4, .int i), (3, .ref 197), (2, .ref 181), (1, .ref 0), (0, .ref 1000000001)] [.int y2, .int y1, .ref 0] h _ _
  refine AR.aload_n (ax_look_ok hk_285_631).1 (x := .ref 197) rfl rfl ?_
  refine lw_s (kd := 0) (bc' := bc + 1173) (bs' := bs + 14000) (as := [.ref 0, .int y1, .int y2, .ref 197]) hk_285_632 (by decide +kernel) rfl rfl (tk_107_ok G) rfl ⟨_, _, rfl, rfl, _, _, rfl, lw_ai _, _, _, rfl, lw_ai _, _, _, rfl, rfl, rfl⟩ I (by decide +kernel) (by decide) (by show _ + 4 ≤ _; omega) (by show _ + 24 ≤ _; omega) (by decide +kernel) (fun x3 g4 qx3 Ig4 => ?_)
  obtain ⟨z5, rfl⟩ := qx3.1 rfl
  show AR _ _ _ _ _ _ _ 635 [(4, .int i), (3, .ref 197), (2, .ref 181), (1, .ref 0), (0, .ref 1000000001)] [.int z5] g4 _ _
  refine AR.istore (ax_look_ok hk_285_635).1 (by decide +kernel) rfl ?_
  show AR _ _ _ _ _ _ _ 637 [(5, .int z5), (4, .int i), (3, .ref 197), (2, .ref 181), (1, .ref 0), (0, .ref 1000000001)] [] g4 _ _
  refine AR.aload_n (ax_look_ok hk_285_637).1 (x := .ref 181) rfl rfl ?_
  refine lw_sc hk_285_638 hk_285_639 hk_285_641 hk_285_642 hk_285_643 rfl rfl (by decide) (by decide) (by decide) i0 i1 hL (fun y6 => ?_)
  show AR _ _ _ _ _ _ _ 644 [(5, .int z5), (4, .int i), (3, .ref 197), (2, .ref 181), (1, .ref 0), (0, .ref 1000000001)] [.int y6, .ref 181] g4 _ _
  refine lw_sc hk_285_644 hk_285_645 hk_285_647 hk_285_648 hk_285_649 rfl rfl (by decide) (by decide) (by decide) i0 i1 hL (fun y7 => ?_)
  show AR _ _ _ _ _ _ _ 650 [(5, .int z5), (4, .int i), (3, .ref 197), (2, .ref 181), (1, .ref 0), (0, .ref 1000000001)] [.int y7, .int y6, .ref 181] g4 _ _
  refine lw_v (kd := 0) (bc' := bc + 1173) (bs' := bs + 14000) (r := 181) (as := [.int y6, .int y7]) hk_285_650 (by decide) (by decide +kernel) (by decide) (by decide +kernel) rfl rfl (tk_1123_ok G) rfl ⟨_, _, rfl, rfl, _, _, rfl, lw_ai _, _, _, rfl, lw_ai _, rfl⟩ Ig4 (by decide +kernel) (by decide) (by show _ + 0 ≤ _; omega) (by show _ + 0 ≤ _; omega) (by decide +kernel) (fun x8 g9 qx8 Ig9 => ?_)
  obtain ⟨z10, rfl⟩ := qx8.1 rfl
  show AR _ _ _ _ _ _ _ 653 [(5, .int z5), (4, .int i), (3, .ref 197), (2, .ref 181), (1, .ref 0), (0, .ref 1000000001)] [.int z10] g9 _ _
  refine AR.istore (ax_look_ok hk_285_653).1 (by decide +kernel) rfl ?_
  show AR _ _ _ _ _ _ _ 655 [(6, .int z10), (5, .int z5), (4, .int i), (3, .ref 197), (2, .ref 181), (1, .ref 0), (0, .ref 1000000001)] [] g9 _ _
  refine AR.goto (ax_look_ok hk_285_655).1 (tgt := 1363) (by decide) ?_
  show AR _ _ _ _ _ _ _ 1363 [(6, .int z10), (5, .int z5), (4, .int i), (3, .ref 197), (2, .ref 181), (1, .ref 0), (0, .ref 1000000001)] [] g9 _ _
  refine AR.lessL (lv' := [(4, .int i), (3, .ref 197), (2, .ref 181), (1, .ref 0), (0, .ref 1000000001)]) (List.forall_mem_cons.mpr ⟨⟨_, by simp, ax_le_rfl rfl⟩, (List.forall_mem_cons.mpr ⟨⟨_, by simp, ax_le_rfl rfl⟩, (List.forall_mem_cons.mpr ⟨⟨_, by simp, ax_le_rfl rfl⟩, (List.forall_mem_cons.mpr ⟨⟨_, by simp, ax_le_rfl rfl⟩, (List.forall_mem_cons.mpr ⟨⟨_, by simp, ax_le_rfl rfl⟩, (fun _ h => absurd h List.not_mem_nil)⟩)⟩)⟩)⟩)⟩) ?_
  exact AR.lt (by omega) (by omega) (k _ Ig9)
theorem lw_op14 (G : ty_G hy_I l) (i0 : 0 ≤ i.toInt) (i1 : i.toInt + 6 ≤ L) (hL : L ≤ 3072) (I : lw_I h) (k : ∀ h', lw_I h' → AR ax_ns l (ax_mm 285) 13 (ax_r L xs) P X 1363 [(4, .int i), (3, .ref 197), (2, .ref 181), (1, .ref 0), (0, .ref 1000000001)] [] h' bc bs) : AR ax_ns l (ax_mm 285) 13 (ax_r L xs) P X 658 [(4, .int i), (3, .ref 197), (2, .ref 181), (1, .ref 0), (0, .ref 1000000001)] [] h (bc + 1177) (bs + 14024) := by
  refine AR.aload_n (ax_look_ok hk_285_658).1 (x := .ref 0) rfl rfl ?_
  refine lw_sc hk_285_659 hk_285_660 hk_285_662 hk_285_663 hk_285_664 rfl rfl (by decide) (by decide) (by decide) i0 i1 hL (fun y1 => ?_)
  show AR _ _ _ _ _ _ _ 665 [(4, .int i), (3, .ref 197), (2, .ref 181), (1, .ref 0), (0, .ref 1000000001)] [.int y1, .ref 0] h _ _
  refine lw_sc hk_285_665 hk_285_666 hk_285_668 hk_285_669 hk_285_670 rfl rfl (by decide) (by decide) (by decide) i0 i1 hL (fun y2 => ?_)
  show AR _ _ _ _ _ _ _ 671 [(4, .int i), (3, .ref 197), (2, .ref 181), (1, .ref 0), (0, .ref 1000000001)] [.int y2, .int y1, .ref 0] h _ _
  refine AR.aload_n (ax_look_ok hk_285_671).1 (x := .ref 197) rfl rfl ?_
  refine lw_s (kd := 0) (bc' := bc + 1174) (bs' := bs + 14006) (as := [.ref 0, .int y1, .int y2, .ref 197]) hk_285_672 (by decide +kernel) rfl rfl (tk_109_ok G) rfl ⟨_, _, rfl, rfl, _, _, rfl, lw_ai _, _, _, rfl, lw_ai _, _, _, rfl, rfl, rfl⟩ I (by decide +kernel) (by decide) (by show _ + 3 ≤ _; omega) (by show _ + 18 ≤ _; omega) (by decide +kernel) (fun x3 g4 qx3 Ig4 => ?_)
  obtain ⟨z5, rfl⟩ := qx3.1 rfl
  show AR _ _ _ _ _ _ _ 675 [(4, .int i), (3, .ref 197), (2, .ref 181), (1, .ref 0), (0, .ref 1000000001)] [.int z5] g4 _ _
  refine AR.istore (ax_look_ok hk_285_675).1 (by decide +kernel) rfl ?_
  show AR _ _ _ _ _ _ _ 677 [(5, .int z5), (4, .int i), (3, .ref 197), (2, .ref 181), (1, .ref 0), (0, .ref 1000000001)] [] g4 _ _
  refine AR.aload_n (ax_look_ok hk_285_677).1 (x := .ref 181) rfl rfl ?_
  refine lw_sc hk_285_678 hk_285_679 hk_285_681 hk_285_682 hk_285_683 rfl rfl (by decide) (by decide) (by decide) i0 i1 hL (fun y6 => ?_)
  show AR _ _ _ _ _ _ _ 684 [(5, .int z5), (4, .int i), (3, .ref 197), (2, .ref 181), (1, .ref 0), (0, .ref 1000000001)] [.int y6, .ref 181] g4 _ _
  refine lw_sc hk_285_684 hk_285_685 hk_285_687 hk_285_688 hk_285_689 rfl rfl (by decide) (by decide) (by decide) i0 i1 hL (fun y7 => ?_)
  show AR _ _ _ _ _ _ _ 690 [(5, .int z5), (4, .int i), (3, .ref 197), (2, .ref 181), (1, .ref 0), (0, .ref 1000000001)] [.int y7, .int y6, .ref 181] g4 _ _
  refine lw_v (kd := 0) (bc' := bc + 1174) (bs' := bs + 14006) (r := 181) (as := [.int y6, .int y7]) hk_285_690 (by decide) (by decide +kernel) (by decide) (by decide +kernel) rfl rfl (tk_1128_ok G) rfl ⟨_, _, rfl, rfl, _, _, rfl, lw_ai _, _, _, rfl, lw_ai _, rfl⟩ Ig4 (by decide +kernel) (by decide) (by show _ + 0 ≤ _; omega) (by show _ + 0 ≤ _; omega) (by decide +kernel) (fun x8 g9 qx8 Ig9 => ?_)
  obtain ⟨z10, rfl⟩ := qx8.1 rfl
  show AR _ _ _ _ _ _ _ 693 [(5, .int z5), (4, .int i), (3, .ref 197), (2, .ref 181), (1, .ref 0), (0, .ref 1000000001)] [.int z10] g9 _ _
  refine AR.istore (ax_look_ok hk_285_693).1 (by decide +kernel) rfl ?_
  show AR _ _ _ _ _ _ _ 695 [(6, .int z10), (5, .int z5), (4, .int i), (3, .ref 197), (2, .ref 181), (1, .ref 0), (0, .ref 1000000001)] [] g9 _ _
  refine AR.goto (ax_look_ok hk_285_695).1 (tgt := 1363) (by decide) ?_
  show AR _ _ _ _ _ _ _ 1363 [(6, .int z10), (5, .int z5), (4, .int i), (3, .ref 197), (2, .ref 181), (1, .ref 0), (0, .ref 1000000001)] [] g9 _ _
  refine AR.lessL (lv' := [(4, .int i), (3, .ref 197), (2, .ref 181), (1, .ref 0), (0, .ref 1000000001)]) (List.forall_mem_cons.mpr ⟨⟨_, by simp, ax_le_rfl rfl⟩, (List.forall_mem_cons.mpr ⟨⟨_, by simp, ax_le_rfl rfl⟩, (List.forall_mem_cons.mpr ⟨⟨_, by simp, ax_le_rfl rfl⟩, (List.forall_mem_cons.mpr ⟨⟨_, by simp, ax_le_rfl rfl⟩, (List.forall_mem_cons.mpr ⟨⟨_, by simp, ax_le_rfl rfl⟩, (fun _ h => absurd h List.not_mem_nil)⟩)⟩)⟩)⟩)⟩) ?_
  exact AR.lt (by omega) (by omega) (k _ Ig9)
theorem lw_op15 (G : ty_G hy_I l) (i0 : 0 ≤ i.toInt) (i1 : i.toInt + 6 ≤ L) (hL : L ≤ 3072) (I : lw_I h) (k : ∀ h', lw_I h' → AR ax_ns l (ax_mm 285) 13 (ax_r L xs) P X 1363 [(4, .int i), (3, .ref 197), (2, .ref 181), (1, .ref 0), (0, .ref 1000000001)] [] h' bc bs) : AR ax_ns l (ax_mm 285) 13 (ax_r L xs) P X 698 [(4, .int i), (3, .ref 197), (2, .ref 181), (1, .ref 0), (0, .ref 1000000001)] [] h (bc + 1177) (bs + 14024) := by
  refine AR.aload_n (ax_look_ok hk_285_698).1 (x := .ref 0) rfl rfl ?_
  refine lw_sc hk_285_699 hk_285_700 hk_285_702 hk_285_703 hk_285_704 rfl rfl (by decide) (by decide) (by decide) i0 i1 hL (fun y1 => ?_)
  show AR _ _ _ _ _ _ _ 705 [(4, .int i), (3, .ref 197), (2, .ref 181), (1, .ref 0), (0, .ref 1000000001)] [.int y1, .ref 0] h _ _
  refine lw_sc hk_285_705 hk_285_706 hk_285_708 hk_285_709 hk_285_710 rfl rfl (by decide) (by decide) (by decide) i0 i1 hL (fun y2 => ?_)
  show AR _ _ _ _ _ _ _ 711 [(4, .int i), (3, .ref 197), (2, .ref 181), (1, .ref 0), (0, .ref 1000000001)] [.int y2, .int y1, .ref 0] h _ _
  refine AR.aload_n (ax_look_ok hk_285_711).1 (x := .ref 197) rfl rfl ?_
  refine lw_s (kd := 0) (bc' := bc + 1175) (bs' := bs + 14012) (as := [.ref 0, .int y1, .int y2, .ref 197]) hk_285_712 (by decide +kernel) rfl rfl (tk_112_ok G) rfl ⟨_, _, rfl, rfl, _, _, rfl, lw_ai _, _, _, rfl, lw_ai _, _, _, rfl, rfl, rfl⟩ I (by decide +kernel) (by decide) (by show _ + 2 ≤ _; omega) (by show _ + 12 ≤ _; omega) (by decide +kernel) (fun x3 g4 qx3 Ig4 => ?_)
  obtain ⟨z5, rfl⟩ := qx3.1 rfl
  show AR _ _ _ _ _ _ _ 715 [(4, .int i), (3, .ref 197), (2, .ref 181), (1, .ref 0), (0, .ref 1000000001)] [.int z5] g4 _ _
  refine AR.istore (ax_look_ok hk_285_715).1 (by decide +kernel) rfl ?_
  show AR _ _ _ _ _ _ _ 717 [(5, .int z5), (4, .int i), (3, .ref 197), (2, .ref 181), (1, .ref 0), (0, .ref 1000000001)] [] g4 _ _
  refine AR.aload_n (ax_look_ok hk_285_717).1 (x := .ref 181) rfl rfl ?_
  refine lw_sc hk_285_718 hk_285_719 hk_285_721 hk_285_722 hk_285_723 rfl rfl (by decide) (by decide) (by decide) i0 i1 hL (fun y6 => ?_)
  show AR _ _ _ _ _ _ _ 724 [(5, .int z5), (4, .int i), (3, .ref 197), (2, .ref 181), (1, .ref 0), (0, .ref 1000000001)] [.int y6, .ref 181] g4 _ _
  refine lw_sc hk_285_724 hk_285_725 hk_285_727 hk_285_728 hk_285_729 rfl rfl (by decide) (by decide) (by decide) i0 i1 hL (fun y7 => ?_)
  show AR _ _ _ _ _ _ _ 730 [(5, .int z5), (4, .int i), (3, .ref 197), (2, .ref 181), (1, .ref 0), (0, .ref 1000000001)] [.int y7, .int y6, .ref 181] g4 _ _
  refine lw_v (kd := 0) (bc' := bc + 1175) (bs' := bs + 14012) (r := 181) (as := [.int y6, .int y7]) hk_285_730 (by decide) (by decide +kernel) (by decide) (by decide +kernel) rfl rfl (tk_1131_ok G) rfl ⟨_, _, rfl, rfl, _, _, rfl, lw_ai _, _, _, rfl, lw_ai _, rfl⟩ Ig4 (by decide +kernel) (by decide) (by show _ + 0 ≤ _; omega) (by show _ + 0 ≤ _; omega) (by decide +kernel) (fun x8 g9 qx8 Ig9 => ?_)
  obtain ⟨z10, rfl⟩ := qx8.1 rfl
  show AR _ _ _ _ _ _ _ 733 [(5, .int z5), (4, .int i), (3, .ref 197), (2, .ref 181), (1, .ref 0), (0, .ref 1000000001)] [.int z10] g9 _ _
  refine AR.istore (ax_look_ok hk_285_733).1 (by decide +kernel) rfl ?_
  show AR _ _ _ _ _ _ _ 735 [(6, .int z10), (5, .int z5), (4, .int i), (3, .ref 197), (2, .ref 181), (1, .ref 0), (0, .ref 1000000001)] [] g9 _ _
  refine AR.goto (ax_look_ok hk_285_735).1 (tgt := 1363) (by decide) ?_
  show AR _ _ _ _ _ _ _ 1363 [(6, .int z10), (5, .int z5), (4, .int i), (3, .ref 197), (2, .ref 181), (1, .ref 0), (0, .ref 1000000001)] [] g9 _ _
  refine AR.lessL (lv' := [(4, .int i), (3, .ref 197), (2, .ref 181), (1, .ref 0), (0, .ref 1000000001)]) (List.forall_mem_cons.mpr ⟨⟨_, by simp, ax_le_rfl rfl⟩, (List.forall_mem_cons.mpr ⟨⟨_, by simp, ax_le_rfl rfl⟩, (List.forall_mem_cons.mpr ⟨⟨_, by simp, ax_le_rfl rfl⟩, (List.forall_mem_cons.mpr ⟨⟨_, by simp, ax_le_rfl rfl⟩, (List.forall_mem_cons.mpr ⟨⟨_, by simp, ax_le_rfl rfl⟩, (fun _ h => absurd h List.not_mem_nil)⟩)⟩)⟩)⟩)⟩) ?_
  exact AR.lt (by omega) (by omega) (k _ Ig9)
theorem lw_op16 (G : ty_G hy_I l) (i0 : 0 ≤ i.toInt) (i1 : i.toInt + 6 ≤ L) (hL : L ≤ 3072) (I : lw_I h) (k : ∀ h', lw_I h' → AR ax_ns l (ax_mm 285) 13 (ax_r L xs) P X 1363 [(4, .int i), (3, .ref 197), (2, .ref 181), (1, .ref 0), (0, .ref 1000000001)] [] h' bc bs) : AR ax_ns l (ax_mm 285) 13 (ax_r L xs) P X 738 [(4, .int i), (3, .ref 197), (2, .ref 181), (1, .ref 0), (0, .ref 1000000001)] [] h (bc + 1177) (bs + 14024) := by
  refine AR.aload_n (ax_look_ok hk_285_738).1 (x := .ref 0) rfl rfl ?_
  refine lw_sc hk_285_739 hk_285_740 hk_285_742 hk_285_743 hk_285_744 rfl rfl (by decide) (by decide) (by decide) i0 i1 hL (fun y1 => ?_)
  show AR _ _ _ _ _ _ _ 745 [(4, .int i), (3, .ref 197), (2, .ref 181), (1, .ref 0), (0, .ref 1000000001)] [.int y1, .ref 0] h _ _
  refine AR.aload_n (ax_look_ok hk_285_745).1 (x := .ref 197) rfl rfl ?_
  refine lw_s (kd := 0) (bc' := bc + 1175) (bs' := bs + 14012) (as := [.ref 0, .int y1, .ref 197]) hk_285_746 (by decide +kernel) rfl rfl (tk_115_ok G) rfl ⟨_, _, rfl, rfl, _, _, rfl, lw_ai _, _, _, rfl, rfl, rfl⟩ I (by decide +kernel) (by decide) (by show _ + 2 ≤ _; omega) (by show _ + 12 ≤ _; omega) (by decide +kernel) (fun x2 g3 qx2 Ig3 => ?_)
  obtain ⟨z4, rfl⟩ := qx2.1 rfl
  show AR _ _ _ _ _ _ _ 749 [(4, .int i), (3, .ref 197), (2, .ref 181), (1, .ref 0), (0, .ref 1000000001)] [.int z4] g3 _ _
  refine AR.istore (ax_look_ok hk_285_749).1 (by decide +kernel) rfl ?_
  show AR _ _ _ _ _ _ _ 751 [(5, .int z4), (4, .int i), (3, .ref 197), (2, .ref 181), (1, .ref 0), (0, .ref 1000000001)] [] g3 _ _
  refine AR.aload_n (ax_look_ok hk_285_751).1 (x := .ref 181) rfl rfl ?_
  refine lw_sc hk_285_752 hk_285_753 hk_285_755 hk_285_756 hk_285_757 rfl rfl (by decide) (by decide) (by decide) i0 i1 hL (fun y5 => ?_)
  show AR _ _ _ _ _ _ _ 758 [(5, .int z4), (4, .int i), (3, .ref 197), (2, .ref 181), (1, .ref 0), (0, .ref 1000000001)] [.int y5, .ref 181] g3 _ _
  refine lw_v (kd := 0) (bc' := bc + 1175) (bs' := bs + 14012) (r := 181) (as := [.int y5]) hk_285_758 (by decide) (by decide +kernel) (by decide) (by decide +kernel) rfl rfl (tk_1132_ok G) rfl ⟨_, _, rfl, rfl, _, _, rfl, lw_ai _, rfl⟩ Ig3 (by decide +kernel) (by decide) (by show _ + 0 ≤ _; omega) (by show _ + 0 ≤ _; omega) (by decide +kernel) (fun x6 g7 qx6 Ig7 => ?_)
  obtain ⟨z8, rfl⟩ := qx6.1 rfl
  show AR _ _ _ _ _ _ _ 761 [(5, .int z4), (4, .int i), (3, .ref 197), (2, .ref 181), (1, .ref 0), (0, .ref 1000000001)] [.int z8] g7 _ _
  refine AR.istore (ax_look_ok hk_285_761).1 (by decide +kernel) rfl ?_
  show AR _ _ _ _ _ _ _ 763 [(6, .int z8), (5, .int z4), (4, .int i), (3, .ref 197), (2, .ref 181), (1, .ref 0), (0, .ref 1000000001)] [] g7 _ _
  refine AR.goto (ax_look_ok hk_285_763).1 (tgt := 1363) (by decide) ?_
  show AR _ _ _ _ _ _ _ 1363 [(6, .int z8), (5, .int z4), (4, .int i), (3, .ref 197), (2, .ref 181), (1, .ref 0), (0, .ref 1000000001)] [] g7 _ _
  refine AR.lessL (lv' := [(4, .int i), (3, .ref 197), (2, .ref 181), (1, .ref 0), (0, .ref 1000000001)]) (List.forall_mem_cons.mpr ⟨⟨_, by simp, ax_le_rfl rfl⟩, (List.forall_mem_cons.mpr ⟨⟨_, by simp, ax_le_rfl rfl⟩, (List.forall_mem_cons.mpr ⟨⟨_, by simp, ax_le_rfl rfl⟩, (List.forall_mem_cons.mpr ⟨⟨_, by simp, ax_le_rfl rfl⟩, (List.forall_mem_cons.mpr ⟨⟨_, by simp, ax_le_rfl rfl⟩, (fun _ h => absurd h List.not_mem_nil)⟩)⟩)⟩)⟩)⟩) ?_
  exact AR.lt (by omega) (by omega) (k _ Ig7)
theorem lw_op17 (G : ty_G hy_I l) (i0 : 0 ≤ i.toInt) (i1 : i.toInt + 6 ≤ L) (hL : L ≤ 3072) (I : lw_I h) (k : ∀ h', lw_I h' → AR ax_ns l (ax_mm 285) 13 (ax_r L xs) P X 1363 [(4, .int i), (3, .ref 197), (2, .ref 181), (1, .ref 0), (0, .ref 1000000001)] [] h' bc bs) : AR ax_ns l (ax_mm 285) 13 (ax_r L xs) P X 766 [(4, .int i), (3, .ref 197), (2, .ref 181), (1, .ref 0), (0, .ref 1000000001)] [] h (bc + 1177) (bs + 14024) := by
  refine AR.aload_n (ax_look_ok hk_285_766).1 (x := .ref 0) rfl rfl ?_
  refine lw_sc hk_285_767 hk_285_768 hk_285_770 hk_285_771 hk_285_772 rfl rfl (by decide) (by decide) (by decide) i0 i1 hL (fun y1 => ?_)
  show AR _ _ _ _ _ _ _ 773 [(4, .int i), (3, .ref 197), (2, .ref 181), (1, .ref 0), (0, .ref 1000000001)] [.int y1, .ref 0] h _ _
  refine lw_sc hk_285_773 hk_285_774 hk_285_776 hk_285_777 hk_285_778 rfl rfl (by decide) (by decide) (by decide) i0 i1 hL (fun y2 => ?_)
  show AR _ _ _ _ _ _ _ 779 [(4, .int i), (3, .ref 197), (2, .ref 181), (1, .ref 0), (0, .ref 1000000001)] [.int y2, .int y1, .ref 0] h _ _
  refine AR.aload_n (ax_look_ok hk_285_779).1 (x := .ref 197) rfl rfl ?_
  refine lw_s (kd := 0) (bc' := bc + 1175) (bs' := bs + 14012) (as := [.ref 0, .int y1, .int y2, .ref 197]) hk_285_780 (by decide +kernel) rfl rfl (tk_123_ok G) rfl ⟨_, _, rfl, rfl, _, _, rfl, lw_ai _, _, _, rfl, lw_ai _, _, _, rfl, rfl, rfl⟩ I (by decide +kernel) (by decide) (by show _ + 2 ≤ _; omega) (by show _ + 12 ≤ _; omega) (by decide +kernel) (fun x3 g4 qx3 Ig4 => ?_)
  obtain ⟨z5, rfl⟩ := qx3.1 rfl
  show AR _ _ _ _ _ _ _ 783 [(4, .int i), (3, .ref 197), (2, .ref 181), (1, .ref 0), (0, .ref 1000000001)] [.int z5] g4 _ _
  refine AR.istore (ax_look_ok hk_285_783).1 (by decide +kernel) rfl ?_
  show AR _ _ _ _ _ _ _ 785 [(5, .int z5), (4, .int i), (3, .ref 197), (2, .ref 181), (1, .ref 0), (0, .ref 1000000001)] [] g4 _ _
  refine AR.aload_n (ax_look_ok hk_285_785).1 (x := .ref 181) rfl rfl ?_
  refine lw_sc hk_285_786 hk_285_787 hk_285_789 hk_285_790 hk_285_791 rfl rfl (by decide) (by decide) (by decide) i0 i1 hL (fun y6 => ?_)
  show AR _ _ _ _ _ _ _ 792 [(5, .int z5), (4, .int i), (3, .ref 197), (2, .ref 181), (1, .ref 0), (0, .ref 1000000001)] [.int y6, .ref 181] g4 _ _
  refine lw_sc hk_285_792 hk_285_793 hk_285_795 hk_285_796 hk_285_797 rfl rfl (by decide) (by decide) (by decide) i0 i1 hL (fun y7 => ?_)
  show AR _ _ _ _ _ _ _ 798 [(5, .int z5), (4, .int i), (3, .ref 197), (2, .ref 181), (1, .ref 0), (0, .ref 1000000001)] [.int y7, .int y6, .ref 181] g4 _ _
  refine lw_v (kd := 0) (bc' := bc + 1175) (bs' := bs + 14012) (r := 181) (as := [.int y6, .int y7]) hk_285_798 (by decide) (by decide +kernel) (by decide) (by decide +kernel) rfl rfl (tk_1136_ok G) rfl ⟨_, _, rfl, rfl, _, _, rfl, lw_ai _, _, _, rfl, lw_ai _, rfl⟩ Ig4 (by decide +kernel) (by decide) (by show _ + 0 ≤ _; omega) (by show _ + 0 ≤ _; omega) (by decide +kernel) (fun x8 g9 qx8 Ig9 => ?_)
  obtain ⟨z10, rfl⟩ := qx8.1 rfl
  show AR _ _ _ _ _ _ _ 801 [(5, .int z5), (4, .int i), (3, .ref 197), (2, .ref 181), (1, .ref 0), (0, .ref 1000000001)] [.int z10] g9 _ _
  refine AR.istore (ax_look_ok hk_285_801).1 (by decide +kernel) rfl ?_
  show AR _ _ _ _ _ _ _ 803 [(6, .int z10), (5, .int z5), (4, .int i), (3, .ref 197), (2, .ref 181), (1, .ref 0), (0, .ref 1000000001)] [] g9 _ _
  refine AR.goto (ax_look_ok hk_285_803).1 (tgt := 1363) (by decide) ?_
  show AR _ _ _ _ _ _ _ 1363 [(6, .int z10), (5, .int z5), (4, .int i), (3, .ref 197), (2, .ref 181), (1, .ref 0), (0, .ref 1000000001)] [] g9 _ _
  refine AR.lessL (lv' := [(4, .int i), (3, .ref 197), (2, .ref 181), (1, .ref 0), (0, .ref 1000000001)]) (List.forall_mem_cons.mpr ⟨⟨_, by simp, ax_le_rfl rfl⟩, (List.forall_mem_cons.mpr ⟨⟨_, by simp, ax_le_rfl rfl⟩, (List.forall_mem_cons.mpr ⟨⟨_, by simp, ax_le_rfl rfl⟩, (List.forall_mem_cons.mpr ⟨⟨_, by simp, ax_le_rfl rfl⟩, (List.forall_mem_cons.mpr ⟨⟨_, by simp, ax_le_rfl rfl⟩, (fun _ h => absurd h List.not_mem_nil)⟩)⟩)⟩)⟩)⟩) ?_
  exact AR.lt (by omega) (by omega) (k _ Ig9)
theorem lw_op18 (G : ty_G hy_I l) (i0 : 0 ≤ i.toInt) (i1 : i.toInt + 6 ≤ L) (hL : L ≤ 3072) (I : lw_I h) (k : ∀ h', lw_I h' → AR ax_ns l (ax_mm 285) 13 (ax_r L xs) P X 1363 [(4, .int i), (3, .ref 197), (2, .ref 181), (1, .ref 0), (0, .ref 1000000001)] [] h' bc bs) : AR ax_ns l (ax_mm 285) 13 (ax_r L xs) P X 806 [(4, .int i), (3, .ref 197), (2, .ref 181), (1, .ref 0), (0, .ref 1000000001)] [] h (bc + 1177) (bs + 14024) := by
  refine AR.aload_n (ax_look_ok hk_285_806).1 (x := .ref 0) rfl rfl ?_
  refine lw_sc hk_285_807 hk_285_808 hk_285_810 hk_285_811 hk_285_812 rfl rfl (by decide) (by decide) (by decide) i0 i1 hL (fun y1 => ?_)
  show AR _ _ _ _ _ _ _ 813 [(4, .int i), (3, .ref 197), (2, .ref 181), (1, .ref 0), (0, .ref 1000000001)] [.int y1, .ref 0] h _ _
  refine lw_sc hk_285_813 hk_285_814 hk_285_816 hk_285_817 hk_285_818 rfl rfl (by decide) (by decide) (by decide) i0 i1 hL (fun y2 => ?_)
  show AR _ _ _ _ _ _ _ 819 [(4, .int i), (3, .ref 197), (2, .ref 181), (1, .ref 0), (0, .ref 1000000001)] [.int y2, .int y1, .ref 0] h _ _
  refine lw_sc hk_285_819 hk_285_820 hk_285_822 hk_285_823 hk_285_824 rfl rfl (by decide) (by decide) (by decide) i0 i1 hL (fun y3 => ?_)
  show AR _ _ _ _ _ _ _ 825 [(4, .int i), (3, .ref 197), (2, .ref 181), (1, .ref 0), (0, .ref 1000000001)] [.int y3, .int y2, .int y1, .ref 0] h _ _
  refine AR.aload_n (ax_look_ok hk_285_825).1 (x := .ref 197) rfl rfl ?_
  refine lw_s (kd := 0) (bc' := bc + 1173) (bs' := bs + 14000) (as := [.ref 0, .int y1, .int y2, .int y3, .ref 197]) hk_285_826 (by decide +kernel) rfl rfl (tk_126_ok G) rfl ⟨_, _, rfl, rfl, _, _, rfl, lw_ai _, _, _, rfl, lw_ai _, _, _, rfl, lw_ai _, _, _, rfl, rfl, rfl⟩ I (by decide +kernel) (by decide) (by show _ + 4 ≤ _; omega) (by show _ + 24 ≤ _; omega) (by decide +kernel) (fun x4 g5 qx4 Ig5 => ?_)
  obtain ⟨z6, rfl⟩ := qx4.1 rfl
  show AR _ _ _ _ _ _ _ 829 [(4, .int i), (3, .ref 197), (2, .ref 181), (1, .ref 0), (0, .ref 1000000001)] [.int z6] g5 _ _
  refine AR.istore (ax_look_ok hk_285_829).1 (by decide +kernel) rfl ?_
  show AR _ _ _ _ _ _ _ 831 [(5, .int z6), (4, .int i), (3, .ref 197), (2, .ref 181), (1, .ref 0), (0, .ref 1000000001)] [] g5 _ _
  refine AR.aload_n (ax_look_ok hk_285_831).1 (x := .ref 181) rfl rfl ?_
  refine lw_sc hk_285_832 hk_285_833 hk_285_835 hk_285_836 hk_285_837 rfl rfl (by decide) (by decide) (by decide) i0 i1 hL (fun y7 => ?_)
  show AR _ _ _ _ _ _ _ 838 [(5, .int z6), (4, .int i), (3, .ref 197), (2, .ref 181), (1, .ref 0), (0, .ref 1000000001)] [.int y7, .ref 181] g5 _ _
  refine lw_sc hk_285_838 hk_285_839 hk_285_841 hk_285_842 hk_285_843 rfl rfl (by decide) (by decide) (by decide) i0 i1 hL (fun y8 => ?_)
  show AR _ _ _ _ _ _ _ 844 [(5, .int z6), (4, .int i), (3, .ref 197), (2, .ref 181), (1, .ref 0), (0, .ref 1000000001)] [.int y8, .int y7, .ref 181] g5 _ _
  refine lw_sc hk_285_844 hk_285_845 hk_285_847 hk_285_848 hk_285_849 rfl rfl (by decide) (by decide) (by decide) i0 i1 hL (fun y9 => ?_)
  show AR _ _ _ _ _ _ _ 850 [(5, .int z6), (4, .int i), (3, .ref 197), (2, .ref 181), (1, .ref 0), (0, .ref 1000000001)] [.int y9, .int y8, .int y7, .ref 181] g5 _ _
  refine lw_v (kd := 0) (bc' := bc + 1173) (bs' := bs + 14000) (r := 181) (as := [.int y7, .int y8, .int y9]) hk_285_850 (by decide) (by decide +kernel) (by decide) (by decide +kernel) rfl rfl (tk_1147_ok G) rfl ⟨_, _, rfl, rfl, _, _, rfl, lw_ai _, _, _, rfl, lw_ai _, _, _, rfl, lw_ai _, rfl⟩ Ig5 (by decide +kernel) (by decide) (by show _ + 0 ≤ _; omega) (by show _ + 0 ≤ _; omega) (by decide +kernel) (fun x10 g11 qx10 Ig11 => ?_)
  obtain ⟨z12, rfl⟩ := qx10.1 rfl
  show AR _ _ _ _ _ _ _ 853 [(5, .int z6), (4, .int i), (3, .ref 197), (2, .ref 181), (1, .ref 0), (0, .ref 1000000001)] [.int z12] g11 _ _
  refine AR.istore (ax_look_ok hk_285_853).1 (by decide +kernel) rfl ?_
  show AR _ _ _ _ _ _ _ 855 [(6, .int z12), (5, .int z6), (4, .int i), (3, .ref 197), (2, .ref 181), (1, .ref 0), (0, .ref 1000000001)] [] g11 _ _
  refine AR.goto (ax_look_ok hk_285_855).1 (tgt := 1363) (by decide) ?_
  show AR _ _ _ _ _ _ _ 1363 [(6, .int z12), (5, .int z6), (4, .int i), (3, .ref 197), (2, .ref 181), (1, .ref 0), (0, .ref 1000000001)] [] g11 _ _
  refine AR.lessL (lv' := [(4, .int i), (3, .ref 197), (2, .ref 181), (1, .ref 0), (0, .ref 1000000001)]) (List.forall_mem_cons.mpr ⟨⟨_, by simp, ax_le_rfl rfl⟩, (List.forall_mem_cons.mpr ⟨⟨_, by simp, ax_le_rfl rfl⟩, (List.forall_mem_cons.mpr ⟨⟨_, by simp, ax_le_rfl rfl⟩, (List.forall_mem_cons.mpr ⟨⟨_, by simp, ax_le_rfl rfl⟩, (List.forall_mem_cons.mpr ⟨⟨_, by simp, ax_le_rfl rfl⟩, (fun _ h => absurd h List.not_mem_nil)⟩)⟩)⟩)⟩)⟩) ?_
  exact AR.lt (by omega) (by omega) (k _ Ig11)
theorem lw_op19 (G : ty_G hy_I l) (i0 : 0 ≤ i.toInt) (i1 : i.toInt + 6 ≤ L) (hL : L ≤ 3072) (I : lw_I h) (k : ∀ h', lw_I h' → AR ax_ns l (ax_mm 285) 13 (ax_r L xs) P X 1363 [(4, .int i), (3, .ref 197), (2, .ref 181), (1, .ref 0), (0, .ref 1000000001)] [] h' bc bs) : AR ax_ns l (ax_mm 285) 13 (ax_r L xs) P X 858 [(4, .int i), (3, .ref 197), (2, .ref 181), (1, .ref 0), (0, .ref 1000000001)] [] h (bc + 1177) (bs + 14024) := by
  refine AR.aload_n (ax_look_ok hk_285_858).1 (x := .ref 0) rfl rfl ?_
  refine lw_sc hk_285_859 hk_285_860 hk_285_862 hk_285_863 hk_285_864 rfl rfl (by decide) (by decide) (by decide) i0 i1 hL (fun y1 => ?_)
  show AR _ _ _ _ _ _ _ 865 [(4, .int i), (3, .ref 197), (2, .ref 181), (1, .ref 0), (0, .ref 1000000001)] [.int y1, .ref 0] h _ _
  refine AR.aload_n (ax_look_ok hk_285_865).1 (x := .ref 197) rfl rfl ?_
  refine lw_s (kd := 0) (bc' := bc + 1175) (bs' := bs + 14012) (as := [.ref 0, .int y1, .ref 197]) hk_285_866 (by decide +kernel) rfl rfl (tk_128_ok G) rfl ⟨_, _, rfl, rfl, _, _, rfl, lw_ai _, _, _, rfl, rfl, rfl⟩ I (by decide +kernel) (by decide) (by show _ + 2 ≤ _; omega) (by show _ + 12 ≤ _; omega) (by decide +kernel) (fun x2 g3 qx2 Ig3 => ?_)
  obtain ⟨z4, rfl⟩ := qx2.1 rfl
  show AR _ _ _ _ _ _ _ 869 [(4, .int i), (3, .ref 197), (2, .ref 181), (1, .ref 0), (0, .ref 1000000001)] [.int z4] g3 _ _
  refine AR.istore (ax_look_ok hk_285_869).1 (by decide +kernel) rfl ?_
  show AR _ _ _ _ _ _ _ 871 [(5, .int z4), (4, .int i), (3, .ref 197), (2, .ref 181), (1, .ref 0), (0, .ref 1000000001)] [] g3 _ _
  refine AR.aload_n (ax_look_ok hk_285_871).1 (x := .ref 181) rfl rfl ?_
  refine lw_sc hk_285_872 hk_285_873 hk_285_875 hk_285_876 hk_285_877 rfl rfl (by decide) (by decide) (by decide) i0 i1 hL (fun y5 => ?_)
  show AR _ _ _ _ _ _ _ 878 [(5, .int z4), (4, .int i), (3, .ref 197), (2, .ref 181), (1, .ref 0), (0, .ref 1000000001)] [.int y5, .ref 181] g3 _ _
  refine lw_v (kd := 0) (bc' := bc + 1174) (bs' := bs + 13988) (r := 181) (as := [.int y5]) hk_285_878 (by decide) (by decide +kernel) (by decide) (by decide +kernel) rfl rfl (tk_1148_ok G) rfl ⟨_, _, rfl, rfl, _, _, rfl, lw_ai _, rfl⟩ Ig3 (by decide +kernel) (by decide) (by show _ + 1 ≤ _; omega) (by show _ + 24 ≤ _; omega) (by decide +kernel) (fun x6 g7 qx6 Ig7 => ?_)
  obtain ⟨z8, rfl⟩ := qx6.1 rfl
  show AR _ _ _ _ _ _ _ 881 [(5, .int z4), (4, .int i), (3, .ref 197), (2, .ref 181), (1, .ref 0), (0, .ref 1000000001)] [.int z8] g7 _ _
  refine AR.istore (ax_look_ok hk_285_881).1 (by decide +kernel) rfl ?_
  show AR _ _ _ _ _ _ _ 883 [(6, .int z8), (5, .int z4), (4, .int i), (3, .ref 197), (2, .ref 181), (1, .ref 0), (0, .ref 1000000001)] [] g7 _ _
  refine AR.goto (ax_look_ok hk_285_883).1 (tgt := 1363) (by decide) ?_
  show AR _ _ _ _ _ _ _ 1363 [(6, .int z8), (5, .int z4), (4, .int i), (3, .ref 197), (2, .ref 181), (1, .ref 0), (0, .ref 1000000001)] [] g7 _ _
  refine AR.lessL (lv' := [(4, .int i), (3, .ref 197), (2, .ref 181), (1, .ref 0), (0, .ref 1000000001)]) (List.forall_mem_cons.mpr ⟨⟨_, by simp, ax_le_rfl rfl⟩, (List.forall_mem_cons.mpr ⟨⟨_, by simp, ax_le_rfl rfl⟩, (List.forall_mem_cons.mpr ⟨⟨_, by simp, ax_le_rfl rfl⟩, (List.forall_mem_cons.mpr ⟨⟨_, by simp, ax_le_rfl rfl⟩, (List.forall_mem_cons.mpr ⟨⟨_, by simp, ax_le_rfl rfl⟩, (fun _ h => absurd h List.not_mem_nil)⟩)⟩)⟩)⟩)⟩) ?_
  exact AR.lt (by omega) (by omega) (k _ Ig7)
theorem lw_op20 (G : ty_G hy_I l) (i0 : 0 ≤ i.toInt) (i1 : i.toInt + 6 ≤ L) (hL : L ≤ 3072) (I : lw_I h) (k : ∀ h', lw_I h' → AR ax_ns l (ax_mm 285) 13 (ax_r L xs) P X 1363 [(4, .int i), (3, .ref 197), (2, .ref 181), (1, .ref 0), (0, .ref 1000000001)] [] h' bc bs) : AR ax_ns l (ax_mm 285) 13 (ax_r L xs) P X 886 [(4, .int i), (3, .ref 197), (2, .ref 181), (1, .ref 0), (0, .ref 1000000001)] [] h (bc + 1177) (bs + 14024) := by
  refine AR.aload_n (ax_look_ok hk_285_886).1 (x := .ref 0) rfl rfl ?_
  refine lw_sc hk_285_887 hk_285_888 hk_285_890 hk_285_891 hk_285_892 rfl rfl (by decide) (by decide) (by decide) i0 i1 hL (fun y1 => ?_)
  show AR _ _ _ _ _ _ _ 893 [(4, .int i), (3, .ref 197), (2, .ref 181), (1, .ref 0), (0, .ref 1000000001)] [.int y1, .ref 0] h _ _
  refine lw_sc hk_285_893 hk_285_894 hk_285_896 hk_285_897 hk_285_898 rfl rfl (by decide) (by decide) (by decide) i0 i1 hL (fun y2 => ?_)
  show AR _ _ _ _ _ _ _ 899 [(4, .int i), (3, .ref 197), (2, .ref 181), (1, .ref 0), (0, .ref 1000000001)] [.int y2, .int y1, .ref 0] h _ _
  refine AR.aload_n (ax_look_ok hk_285_899).1 (x := .ref 197) rfl rfl ?_
  refine lw_s (kd := 0) (bc' := bc + 1176) (bs' := bs + 14018) (as := [.ref 0, .int y1, .int y2, .ref 197]) hk_285_900 (by decide +kernel) rfl rfl (tk_132_ok G) rfl ⟨_, _, rfl, rfl, _, _, rfl, lw_ai _, _, _, rfl, lw_ai _, _, _, rfl, rfl, rfl⟩ I (by decide +kernel) (by decide) (by show _ + 1 ≤ _; omega) (by show _ + 6 ≤ _; omega) (by decide +kernel) (fun x3 g4 qx3 Ig4 => ?_)
  obtain ⟨z5, rfl⟩ := qx3.1 rfl
  show AR _ _ _ _ _ _ _ 903 [(4, .int i), (3, .ref 197), (2, .ref 181), (1, .ref 0), (0, .ref 1000000001)] [.int z5] g4 _ _
  refine AR.istore (ax_look_ok hk_285_903).1 (by decide +kernel) rfl ?_
  show AR _ _ _ _ _ _ _ 905 [(5, .int z5), (4, .int i), (3, .ref 197), (2, .ref 181), (1, .ref 0), (0, .ref 1000000001)] [] g4 _ _
  refine AR.aload_n (ax_look_ok hk_285_905).1 (x := .ref 181) rfl rfl ?_
  refine lw_sc hk_285_906 hk_285_907 hk_285_909 hk_285_910 hk_285_911 rfl rfl (by decide) (by decide) (by decide) i0 i1 hL (fun y6 => ?_)
  show AR _ _ _ _ _ _ _ 912 [(5, .int z5), (4, .int i), (3, .ref 197), (2, .ref 181), (1, .ref 0), (0, .ref 1000000001)] [.int y6, .ref 181] g4 _ _
  refine lw_sc hk_285_912 hk_285_913 hk_285_915 hk_285_916 hk_285_917 rfl rfl (by decide) (by decide) (by decide) i0 i1 hL (fun y7 => ?_)
  show AR _ _ _ _ _ _ _ 918 [(5, .int z5), (4, .int i), (3, .ref 197), (2, .ref 181), (1, .ref 0), (0, .ref 1000000001)] [.int y7, .int y6, .ref 181] g4 _ _
  refine lw_v (kd := 0) (bc' := bc + 1175) (bs' := bs + 14006) (r := 181) (as := [.int y6, .int y7]) hk_285_918 (by decide) (by decide +kernel) (by decide) (by decide +kernel) rfl rfl (tk_1151_ok G) rfl ⟨_, _, rfl, rfl, _, _, rfl, lw_ai _, _, _, rfl, lw_ai _, rfl⟩ Ig4 (by decide +kernel) (by decide) (by show _ + 1 ≤ _; omega) (by show _ + 12 ≤ _; omega) (by decide +kernel) (fun x8 g9 qx8 Ig9 => ?_)
  obtain ⟨z10, rfl⟩ := qx8.1 rfl
  show AR _ _ _ _ _ _ _ 921 [(5, .int z5), (4, .int i), (3, .ref 197), (2, .ref 181), (1, .ref 0), (0, .ref 1000000001)] [.int z10] g9 _ _
  refine AR.istore (ax_look_ok hk_285_921).1 (by decide +kernel) rfl ?_
  show AR _ _ _ _ _ _ _ 923 [(6, .int z10), (5, .int z5), (4, .int i), (3, .ref 197), (2, .ref 181), (1, .ref 0), (0, .ref 1000000001)] [] g9 _ _
  refine AR.goto (ax_look_ok hk_285_923).1 (tgt := 1363) (by decide) ?_
  show AR _ _ _ _ _ _ _ 1363 [(6, .int z10), (5, .int z5), (4, .int i), (3, .ref 197), (2, .ref 181), (1, .ref 0), (0, .ref 1000000001)] [] g9 _ _
  refine AR.lessL (lv' := [(4, .int i), (3, .ref 197), (2, .ref 181), (1, .ref 0), (0, .ref 1000000001)]) (List.forall_mem_cons.mpr ⟨⟨_, by simp, ax_le_rfl rfl⟩, (List.forall_mem_cons.mpr ⟨⟨_, by simp, ax_le_rfl rfl⟩, (List.forall_mem_cons.mpr ⟨⟨_, by simp, ax_le_rfl rfl⟩, (List.forall_mem_cons.mpr ⟨⟨_, by simp, ax_le_rfl rfl⟩, (List.forall_mem_cons.mpr ⟨⟨_, by simp, ax_le_rfl rfl⟩, (fun _ h => absurd h List.not_mem_nil)⟩)⟩)⟩)⟩)⟩) ?_
  exact AR.lt (by omega) (by omega) (k _ Ig9)
theorem lw_op21 (G : ty_G hy_I l) (i0 : 0 ≤ i.toInt) (i1 : i.toInt + 6 ≤ L) (hL : L ≤ 3072) (I : lw_I h) (k : ∀ h', lw_I h' → AR ax_ns l (ax_mm 285) 13 (ax_r L xs) P X 1363 [(4, .int i), (3, .ref 197), (2, .ref 181), (1, .ref 0), (0, .ref 1000000001)] [] h' bc bs) : AR ax_ns l (ax_mm 285) 13 (ax_r L xs) P X 926 [(4, .int i), (3, .ref 197), (2, .ref 181), (1, .ref 0), (0, .ref 1000000001)] [] h (bc + 1177) (bs + 14024) := by
  refine AR.aload_n (ax_look_ok hk_285_926).1 (x := .ref 0) rfl rfl ?_
  refine lw_sc hk_285_927 hk_285_928 hk_285_930 hk_285_931 hk_285_932 rfl rfl (by decide) (by decide) (by decide) i0 i1 hL (fun y1 => ?_)
  show AR _ _ _ _ _ _ _ 933 [(4, .int i), (3, .ref 197), (2, .ref 181), (1, .ref 0), (0, .ref 1000000001)] [.int y1, .ref 0] h _ _
  refine AR.aload_n (ax_look_ok hk_285_933).1 (x := .ref 197) rfl rfl ?_
  refine lw_s (kd := 0) (bc' := bc + 1176) (bs' := bs + 14018) (as := [.ref 0, .int y1, .ref 197]) hk_285_934 (by decide +kernel) rfl rfl (tk_137_ok G) rfl ⟨_, _, rfl, rfl, _, _, rfl, lw_ai _, _, _, rfl, rfl, rfl⟩ I (by decide +kernel) (by decide) (by show _ + 1 ≤ _; omega) (by show _ + 6 ≤ _; omega) (by decide +kernel) (fun x2 g3 qx2 Ig3 => ?_)
  obtain ⟨z4, rfl⟩ := qx2.1 rfl
  show AR _ _ _ _ _ _ _ 937 [(4, .int i), (3, .ref 197), (2, .ref 181), (1, .ref 0), (0, .ref 1000000001)] [.int z4] g3 _ _
  refine AR.istore (ax_look_ok hk_285_937).1 (by decide +kernel) rfl ?_
  show AR _ _ _ _ _ _ _ 939 [(5, .int z4), (4, .int i), (3, .ref 197), (2, .ref 181), (1, .ref 0), (0, .ref 1000000001)] [] g3 _ _
  refine AR.aload_n (ax_look_ok hk_285_939).1 (x := .ref 181) rfl rfl ?_
  refine lw_sc hk_285_940 hk_285_941 hk_285_943 hk_285_944 hk_285_945 rfl rfl (by decide) (by decide) (by decide) i0 i1 hL (fun y5 => ?_)
  show AR _ _ _ _ _ _ _ 946 [(5, .int z4), (4, .int i), (3, .ref 197), (2, .ref 181), (1, .ref 0), (0, .ref 1000000001)] [.int y5, .ref 181] g3 _ _
  refine lw_v (kd := 0) (bc' := bc + 600) (bs' := bs + 7106) (r := 181) (as := [.int y5]) hk_285_946 (by decide) (by decide +kernel) (by decide) (by decide +kernel) rfl rfl (tk_1153_ok G) rfl ⟨_, _, rfl, rfl, _, _, rfl, lw_ai _, rfl⟩ Ig3 (by decide +kernel) (by decide) (by show _ + 576 ≤ _; omega) (by show _ + 6912 ≤ _; omega) (by decide +kernel) (fun x6 g7 qx6 Ig7 => ?_)
  obtain ⟨z8, rfl⟩ := qx6.1 rfl
  show AR _ _ _ _ _ _ _ 949 [(5, .int z4), (4, .int i), (3, .ref 197), (2, .ref 181), (1, .ref 0), (0, .ref 1000000001)] [.int z8] g7 _ _
  refine AR.istore (ax_look_ok hk_285_949).1 (by decide +kernel) rfl ?_
  show AR _ _ _ _ _ _ _ 951 [(6, .int z8), (5, .int z4), (4, .int i), (3, .ref 197), (2, .ref 181), (1, .ref 0), (0, .ref 1000000001)] [] g7 _ _
  refine AR.goto (ax_look_ok hk_285_951).1 (tgt := 1363) (by decide) ?_
  show AR _ _ _ _ _ _ _ 1363 [(6, .int z8), (5, .int z4), (4, .int i), (3, .ref 197), (2, .ref 181), (1, .ref 0), (0, .ref 1000000001)] [] g7 _ _
  refine AR.lessL (lv' := [(4, .int i), (3, .ref 197), (2, .ref 181), (1, .ref 0), (0, .ref 1000000001)]) (List.forall_mem_cons.mpr ⟨⟨_, by simp, ax_le_rfl rfl⟩, (List.forall_mem_cons.mpr ⟨⟨_, by simp, ax_le_rfl rfl⟩, (List.forall_mem_cons.mpr ⟨⟨_, by simp, ax_le_rfl rfl⟩, (List.forall_mem_cons.mpr ⟨⟨_, by simp, ax_le_rfl rfl⟩, (List.forall_mem_cons.mpr ⟨⟨_, by simp, ax_le_rfl rfl⟩, (fun _ h => absurd h List.not_mem_nil)⟩)⟩)⟩)⟩)⟩) ?_
  exact AR.lt (by omega) (by omega) (k _ Ig7)
theorem lw_op22 (G : ty_G hy_I l) (i0 : 0 ≤ i.toInt) (i1 : i.toInt + 6 ≤ L) (hL : L ≤ 3072) (I : lw_I h) (k : ∀ h', lw_I h' → AR ax_ns l (ax_mm 285) 13 (ax_r L xs) P X 1363 [(4, .int i), (3, .ref 197), (2, .ref 181), (1, .ref 0), (0, .ref 1000000001)] [] h' bc bs) : AR ax_ns l (ax_mm 285) 13 (ax_r L xs) P X 954 [(4, .int i), (3, .ref 197), (2, .ref 181), (1, .ref 0), (0, .ref 1000000001)] [] h (bc + 1177) (bs + 14024) := by
  refine AR.aload_n (ax_look_ok hk_285_954).1 (x := .ref 0) rfl rfl ?_
  refine lw_sc hk_285_955 hk_285_956 hk_285_958 hk_285_959 hk_285_960 rfl rfl (by decide) (by decide) (by decide) i0 i1 hL (fun y1 => ?_)
  show AR _ _ _ _ _ _ _ 961 [(4, .int i), (3, .ref 197), (2, .ref 181), (1, .ref 0), (0, .ref 1000000001)] [.int y1, .ref 0] h _ _
  refine AR.aload_n (ax_look_ok hk_285_961).1 (x := .ref 197) rfl rfl ?_
  refine lw_s (kd := 0) (bc' := bc + 1176) (bs' := bs + 14018) (as := [.ref 0, .int y1, .ref 197]) hk_285_962 (by decide +kernel) rfl rfl (tk_142_ok G) rfl ⟨_, _, rfl, rfl, _, _, rfl, lw_ai _, _, _, rfl, rfl, rfl⟩ I (by decide +kernel) (by decide) (by show _ + 1 ≤ _; omega) (by show _ + 6 ≤ _; omega) (by decide +kernel) (fun x2 g3 qx2 Ig3 => ?_)
  obtain ⟨z4, rfl⟩ := qx2.1 rfl
  show AR _ _ _ _ _ _ _ 965 [(4, .int i), (3, .ref 197), (2, .ref 181), (1, .ref 0), (0, .ref 1000000001)] [.int z4] g3 _ _
  refine AR.istore (ax_look_ok hk_285_965).1 (by decide +kernel) rfl ?_
  show AR _ _ _ _ _ _ _ 967 [(5, .int z4), (4, .int i), (3, .ref 197), (2, .ref 181), (1, .ref 0), (0, .ref 1000000001)] [] g3 _ _
  refine AR.aload_n (ax_look_ok hk_285_967).1 (x := .ref 181) rfl rfl ?_
  refine lw_sc hk_285_968 hk_285_969 hk_285_971 hk_285_972 hk_285_973 rfl rfl (by decide) (by decide) (by decide) i0 i1 hL (fun y5 => ?_)
  show AR _ _ _ _ _ _ _ 974 [(5, .int z4), (4, .int i), (3, .ref 197), (2, .ref 181), (1, .ref 0), (0, .ref 1000000001)] [.int y5, .ref 181] g3 _ _
  refine lw_v (kd := 0) (bc' := bc + 1176) (bs' := bs + 14018) (r := 181) (as := [.int y5]) hk_285_974 (by decide) (by decide +kernel) (by decide) (by decide +kernel) rfl rfl (tk_1155_ok G) rfl ⟨_, _, rfl, rfl, _, _, rfl, lw_ai _, rfl⟩ Ig3 (by decide +kernel) (by decide) (by show _ + 0 ≤ _; omega) (by show _ + 0 ≤ _; omega) (by decide +kernel) (fun x6 g7 qx6 Ig7 => ?_)
  obtain ⟨z8, rfl⟩ := qx6.1 rfl
  show AR _ _ _ _ _ _ _ 977 [(5, .int z4), (4, .int i), (3, .ref 197), (2, .ref 181), (1, .ref 0), (0, .ref 1000000001)] [.int z8] g7 _ _
  refine AR.istore (ax_look_ok hk_285_977).1 (by decide +kernel) rfl ?_
  show AR _ _ _ _ _ _ _ 979 [(6, .int z8), (5, .int z4), (4, .int i), (3, .ref 197), (2, .ref 181), (1, .ref 0), (0, .ref 1000000001)] [] g7 _ _
  refine AR.goto (ax_look_ok hk_285_979).1 (tgt := 1363) (by decide) ?_
  show AR _ _ _ _ _ _ _ 1363 [(6, .int z8), (5, .int z4), (4, .int i), (3, .ref 197), (2, .ref 181), (1, .ref 0), (0, .ref 1000000001)] [] g7 _ _
  refine AR.lessL (lv' := [(4, .int i), (3, .ref 197), (2, .ref 181), (1, .ref 0), (0, .ref 1000000001)]) (List.forall_mem_cons.mpr ⟨⟨_, by simp, ax_le_rfl rfl⟩, (List.forall_mem_cons.mpr ⟨⟨_, by simp, ax_le_rfl rfl⟩, (List.forall_mem_cons.mpr ⟨⟨_, by simp, ax_le_rfl rfl⟩, (List.forall_mem_cons.mpr ⟨⟨_, by simp, ax_le_rfl rfl⟩, (List.forall_mem_cons.mpr ⟨⟨_, by simp, ax_le_rfl rfl⟩, (fun _ h => absurd h List.not_mem_nil)⟩)⟩)⟩)⟩)⟩) ?_
  exact AR.lt (by omega) (by omega) (k _ Ig7)
theorem lw_op23 (G : ty_G hy_I l) (i0 : 0 ≤ i.toInt) (i1 : i.toInt + 6 ≤ L) (hL : L ≤ 3072) (I : lw_I h) (k : ∀ h', lw_I h' → AR ax_ns l (ax_mm 285) 13 (ax_r L xs) P X 1363 [(4, .int i), (3, .ref 197), (2, .ref 181), (1, .ref 0), (0, .ref 1000000001)] [] h' bc bs) : AR ax_ns l (ax_mm 285) 13 (ax_r L xs) P X 982 [(4, .int i), (3, .ref 197), (2, .ref 181), (1, .ref 0), (0, .ref 1000000001)] [] h (bc + 1177) (bs + 14024) := by
  refine AR.aload_n (ax_look_ok hk_285_982).1 (x := .ref 0) rfl rfl ?_
  refine AR.aload_n (ax_look_ok hk_285_983).1 (x := .ref 197) rfl rfl ?_
  refine lw_s (kd := 0) (bc' := bc + 1176) (bs' := bs + 14018) (as := [.ref 0, .ref 197]) hk_285_984 (by decide +kernel) rfl rfl (tk_144_ok G) rfl ⟨_, _, rfl, rfl, _, _, rfl, rfl, rfl⟩ I (by decide +kernel) (by decide) (by show _ + 1 ≤ _; omega) (by show _ + 6 ≤ _; omega) (by decide +kernel) (fun x1 g2 qx1 Ig2 => ?_)
  obtain ⟨z3, rfl⟩ := qx1.1 rfl
  show AR _ _ _ _ _ _ _ 987 [(4, .int i), (3, .ref 197), (2, .ref 181), (1, .ref 0), (0, .ref 1000000001)] [.int z3] g2 _ _
  refine AR.istore (ax_look_ok hk_285_987).1 (by decide +kernel) rfl ?_
  show AR _ _ _ _ _ _ _ 989 [(5, .int z3), (4, .int i), (3, .ref 197), (2, .ref 181), (1, .ref 0), (0, .ref 1000000001)] [] g2 _ _
  refine AR.aload_n (ax_look_ok hk_285_989).1 (x := .ref 181) rfl rfl ?_
  refine lw_v (kd := 0) (bc' := bc + 1176) (bs' := bs + 14018) (r := 181) (as := []) hk_285_990 (by decide) (by decide +kernel) (by decide) (by decide +kernel) rfl rfl (tk_1158_ok G) rfl ⟨_, _, rfl, rfl, rfl⟩ Ig2 (by decide +kernel) (by decide) (by show _ + 0 ≤ _; omega) (by show _ + 0 ≤ _; omega) (by decide +kernel) (fun x4 g5 qx4 Ig5 => ?_)
  obtain ⟨z6, rfl⟩ := qx4.1 rfl
  show AR _ _ _ _ _ _ _ 993 [(5, .int z3), (4, .int i), (3, .ref 197), (2, .ref 181), (1, .ref 0), (0, .ref 1000000001)] [.int z6] g5 _ _
  refine AR.istore (ax_look_ok hk_285_993).1 (by decide +kernel) rfl ?_
  show AR _ _ _ _ _ _ _ 995 [(6, .int z6), (5, .int z3), (4, .int i), (3, .ref 197), (2, .ref 181), (1, .ref 0), (0, .ref 1000000001)] [] g5 _ _
  refine AR.goto (ax_look_ok hk_285_995).1 (tgt := 1363) (by decide) ?_
  show AR _ _ _ _ _ _ _ 1363 [(6, .int z6), (5, .int z3), (4, .int i), (3, .ref 197), (2, .ref 181), (1, .ref 0), (0, .ref 1000000001)] [] g5 _ _
  refine AR.lessL (lv' := [(4, .int i), (3, .ref 197), (2, .ref 181), (1, .ref 0), (0, .ref 1000000001)]) (List.forall_mem_cons.mpr ⟨⟨_, by simp, ax_le_rfl rfl⟩, (List.forall_mem_cons.mpr ⟨⟨_, by simp, ax_le_rfl rfl⟩, (List.forall_mem_cons.mpr ⟨⟨_, by simp, ax_le_rfl rfl⟩, (List.forall_mem_cons.mpr ⟨⟨_, by simp, ax_le_rfl rfl⟩, (List.forall_mem_cons.mpr ⟨⟨_, by simp, ax_le_rfl rfl⟩, (fun _ h => absurd h List.not_mem_nil)⟩)⟩)⟩)⟩)⟩) ?_
  exact AR.lt (by omega) (by omega) (k _ Ig5)
theorem lw_op24 (G : ty_G hy_I l) (i0 : 0 ≤ i.toInt) (i1 : i.toInt + 6 ≤ L) (hL : L ≤ 3072) (I : lw_I h) (k : ∀ h', lw_I h' → AR ax_ns l (ax_mm 285) 13 (ax_r L xs) P X 1363 [(4, .int i), (3, .ref 197), (2, .ref 181), (1, .ref 0), (0, .ref 1000000001)] [] h' bc bs) : AR ax_ns l (ax_mm 285) 13 (ax_r L xs) P X 998 [(4, .int i), (3, .ref 197), (2, .ref 181), (1, .ref 0), (0, .ref 1000000001)] [] h (bc + 1177) (bs + 14024) := by
  refine AR.aload_n (ax_look_ok hk_285_998).1 (x := .ref 0) rfl rfl ?_
  refine lw_sc hk_285_999 hk_285_1000 hk_285_1002 hk_285_1003 hk_285_1004 rfl rfl (by decide) (by decide) (by decide) i0 i1 hL (fun y1 => ?_)
  show AR _ _ _ _ _ _ _ 1005 [(4, .int i), (3, .ref 197), (2, .ref 181), (1, .ref 0), (0, .ref 1000000001)] [.int y1, .ref 0] h _ _
  refine AR.aload_n (ax_look_ok hk_285_1005).1 (x := .ref 197) rfl rfl ?_
  refine lw_s (kd := 0) (bc' := bc + 1176) (bs' := bs + 14018) (as := [.ref 0, .int y1, .ref 197]) hk_285_1006 (by decide +kernel) rfl rfl (tk_149_ok G) rfl ⟨_, _, rfl, rfl, _, _, rfl, lw_ai _, _, _, rfl, rfl, rfl⟩ I (by decide +kernel) (by decide) (by show _ + 1 ≤ _; omega) (by show _ + 6 ≤ _; omega) (by decide +kernel) (fun x2 g3 qx2 Ig3 => ?_)
  obtain ⟨z4, rfl⟩ := qx2.1 rfl
  show AR _ _ _ _ _ _ _ 1009 [(4, .int i), (3, .ref 197), (2, .ref 181), (1, .ref 0), (0, .ref 1000000001)] [.int z4] g3 _ _
  refine AR.istore (ax_look_ok hk_285_1009).1 (by decide +kernel) rfl ?_
  show AR _ _ _ _ _ _ _ 1011 [(5, .int z4), (4, .int i), (3, .ref 197), (2, .ref 181), (1, .ref 0), (0, .ref 1000000001)] [] g3 _ _
  refine AR.aload_n (ax_look_ok hk_285_1011).1 (x := .ref 181) rfl rfl ?_
  refine lw_sc hk_285_1012 hk_285_1013 hk_285_1015 hk_285_1016 hk_285_1017 rfl rfl (by decide) (by decide) (by decide) i0 i1 hL (fun y5 => ?_)
  show AR _ _ _ _ _ _ _ 1018 [(5, .int z4), (4, .int i), (3, .ref 197), (2, .ref 181), (1, .ref 0), (0, .ref 1000000001)] [.int y5, .ref 181] g3 _ _
  refine lw_v (kd := 0) (bc' := bc + 1176) (bs' := bs + 14018) (r := 181) (as := [.int y5]) hk_285_1018 (by decide) (by decide +kernel) (by decide) (by decide +kernel) rfl rfl (tk_1159_ok G) rfl ⟨_, _, rfl, rfl, _, _, rfl, lw_ai _, rfl⟩ Ig3 (by decide +kernel) (by decide) (by show _ + 0 ≤ _; omega) (by show _ + 0 ≤ _; omega) (by decide +kernel) (fun x6 g7 qx6 Ig7 => ?_)
  obtain ⟨z8, rfl⟩ := qx6.1 rfl
  show AR _ _ _ _ _ _ _ 1021 [(5, .int z4), (4, .int i), (3, .ref 197), (2, .ref 181), (1, .ref 0), (0, .ref 1000000001)] [.int z8] g7 _ _
  refine AR.istore (ax_look_ok hk_285_1021).1 (by decide +kernel) rfl ?_
  show AR _ _ _ _ _ _ _ 1023 [(6, .int z8), (5, .int z4), (4, .int i), (3, .ref 197), (2, .ref 181), (1, .ref 0), (0, .ref 1000000001)] [] g7 _ _
  refine AR.goto (ax_look_ok hk_285_1023).1 (tgt := 1363) (by decide) ?_
  show AR _ _ _ _ _ _ _ 1363 [(6, .int z8), (5, .int z4), (4, .int i), (3, .ref 197), (2, .ref 181), (1, .ref 0), (0, .ref 1000000001)] [] g7 _ _
  refine AR.lessL (lv' := [(4, .int i), (3, .ref 197), (2, .ref 181), (1, .ref 0), (0, .ref 1000000001)]) (List.forall_mem_cons.mpr ⟨⟨_, by simp, ax_le_rfl rfl⟩, (List.forall_mem_cons.mpr ⟨⟨_, by simp, ax_le_rfl rfl⟩, (List.forall_mem_cons.mpr ⟨⟨_, by simp, ax_le_rfl rfl⟩, (List.forall_mem_cons.mpr ⟨⟨_, by simp, ax_le_rfl rfl⟩, (List.forall_mem_cons.mpr ⟨⟨_, by simp, ax_le_rfl rfl⟩, (fun _ h => absurd h List.not_mem_nil)⟩)⟩)⟩)⟩)⟩) ?_
  exact AR.lt (by omega) (by omega) (k _ Ig7)
theorem lw_op25 (G : ty_G hy_I l) (i0 : 0 ≤ i.toInt) (i1 : i.toInt + 6 ≤ L) (hL : L ≤ 3072) (I : lw_I h) (k : ∀ h', lw_I h' → AR ax_ns l (ax_mm 285) 13 (ax_r L xs) P X 1363 [(4, .int i), (3, .ref 197), (2, .ref 181), (1, .ref 0), (0, .ref 1000000001)] [] h' bc bs) : AR ax_ns l (ax_mm 285) 13 (ax_r L xs) P X 1026 [(4, .int i), (3, .ref 197), (2, .ref 181), (1, .ref 0), (0, .ref 1000000001)] [] h (bc + 1177) (bs + 14024) := by
  refine AR.aload_n (ax_look_ok hk_285_1026).1 (x := .ref 0) rfl rfl ?_
  refine AR.aload_n (ax_look_ok hk_285_1027).1 (x := .ref 197) rfl rfl ?_
  refine lw_s (kd := 0) (bc' := bc + 1176) (bs' := bs + 14018) (as := [.ref 0, .ref 197]) hk_285_1028 (by decide +kernel) rfl rfl (tk_151_ok G) rfl ⟨_, _, rfl, rfl, _, _, rfl, rfl, rfl⟩ I (by decide +kernel) (by decide) (by show _ + 1 ≤ _; omega) (by show _ + 6 ≤ _; omega) (by decide +kernel) (fun x1 g2 qx1 Ig2 => ?_)
  obtain ⟨z3, rfl⟩ := qx1.1 rfl
  show AR _ _ _ _ _ _ _ 1031 [(4, .int i), (3, .ref 197), (2, .ref 181), (1, .ref 0), (0, .ref 1000000001)] [.int z3] g2 _ _
  refine AR.istore (ax_look_ok hk_285_1031).1 (by decide +kernel) rfl ?_
  show AR _ _ _ _ _ _ _ 1033 [(5, .int z3), (4, .int i), (3, .ref 197), (2, .ref 181), (1, .ref 0), (0, .ref 1000000001)] [] g2 _ _
  refine AR.aload_n (ax_look_ok hk_285_1033).1 (x := .ref 181) rfl rfl ?_
  refine lw_v (kd := 0) (bc' := bc + 1176) (bs' := bs + 14018) (r := 181) (as := []) hk_285_1034 (by decide) (by decide +kernel) (by decide) (by decide +kernel) rfl rfl (tk_1160_ok G) rfl ⟨_, _, rfl, rfl, rfl⟩ Ig2 (by decide +kernel) (by decide) (by show _ + 0 ≤ _; omega) (by show _ + 0 ≤ _; omega) (by decide +kernel) (fun x4 g5 qx4 Ig5 => ?_)
  obtain ⟨z6, rfl⟩ := qx4.1 rfl
  show AR _ _ _ _ _ _ _ 1037 [(5, .int z3), (4, .int i), (3, .ref 197), (2, .ref 181), (1, .ref 0), (0, .ref 1000000001)] [.int z6] g5 _ _
  refine AR.istore (ax_look_ok hk_285_1037).1 (by decide +kernel) rfl ?_
  show AR _ _ _ _ _ _ _ 1039 [(6, .int z6), (5, .int z3), (4, .int i), (3, .ref 197), (2, .ref 181), (1, .ref 0), (0, .ref 1000000001)] [] g5 _ _
  refine AR.goto (ax_look_ok hk_285_1039).1 (tgt := 1363) (by decide) ?_
  show AR _ _ _ _ _ _ _ 1363 [(6, .int z6), (5, .int z3), (4, .int i), (3, .ref 197), (2, .ref 181), (1, .ref 0), (0, .ref 1000000001)] [] g5 _ _
  refine AR.lessL (lv' := [(4, .int i), (3, .ref 197), (2, .ref 181), (1, .ref 0), (0, .ref 1000000001)]) (List.forall_mem_cons.mpr ⟨⟨_, by simp, ax_le_rfl rfl⟩, (List.forall_mem_cons.mpr ⟨⟨_, by simp, ax_le_rfl rfl⟩, (List.forall_mem_cons.mpr ⟨⟨_, by simp, ax_le_rfl rfl⟩, (List.forall_mem_cons.mpr ⟨⟨_, by simp, ax_le_rfl rfl⟩, (List.forall_mem_cons.mpr ⟨⟨_, by simp, ax_le_rfl rfl⟩, (fun _ h => absurd h List.not_mem_nil)⟩)⟩)⟩)⟩)⟩) ?_
  exact AR.lt (by omega) (by omega) (k _ Ig5)
theorem lw_op26 (G : ty_G hy_I l) (i0 : 0 ≤ i.toInt) (i1 : i.toInt + 6 ≤ L) (hL : L ≤ 3072) (I : lw_I h) (k : ∀ h', lw_I h' → AR ax_ns l (ax_mm 285) 13 (ax_r L xs) P X 1363 [(4, .int i), (3, .ref 197), (2, .ref 181), (1, .ref 0), (0, .ref 1000000001)] [] h' bc bs) : AR ax_ns l (ax_mm 285) 13 (ax_r L xs) P X 1042 [(4, .int i), (3, .ref 197), (2, .ref 181), (1, .ref 0), (0, .ref 1000000001)] [] h (bc + 1177) (bs + 14024) := by
  refine AR.aload_n (ax_look_ok hk_285_1042).1 (x := .ref 0) rfl rfl ?_
  refine lw_v (kd := 0) (bc' := bc + 1177) (bs' := bs + 14024) (r := 0) (as := []) hk_285_1043 (by decide) (by decide +kernel) (by decide) (by decide +kernel) rfl rfl (tk_197_ok G) rfl ⟨_, _, rfl, rfl, rfl⟩ I (by decide +kernel) (by decide) (by show _ + 0 ≤ _; omega) (by show _ + 0 ≤ _; omega) (by decide +kernel) (fun x1 g2 qx1 Ig2 => ?_)
  obtain ⟨z3, rfl⟩ := qx1.1 rfl
  show AR _ _ _ _ _ _ _ 1046 [(4, .int i), (3, .ref 197), (2, .ref 181), (1, .ref 0), (0, .ref 1000000001)] [.int z3] g2 _ _
  refine AR.pop (ax_look_ok hk_285_1046).1 rfl ?_
  refine AR.aload_n (ax_look_ok hk_285_1047).1 (x := .ref 181) rfl rfl ?_
  refine lw_v (kd := 0) (bc' := bc + 1177) (bs' := bs + 14024) (r := 181) (as := []) hk_285_1048 (by decide) (by decide +kernel) (by decide) (by decide +kernel) rfl rfl (tk_1161_ok G) rfl ⟨_, _, rfl, rfl, rfl⟩ Ig2 (by decide +kernel) (by decide) (by show _ + 0 ≤ _; omega) (by show _ + 0 ≤ _; omega) (by decide +kernel) (fun x4 g5 qx4 Ig5 => ?_)
  obtain ⟨z6, rfl⟩ := qx4.1 rfl
  show AR _ _ _ _ _ _ _ 1051 [(4, .int i), (3, .ref 197), (2, .ref 181), (1, .ref 0), (0, .ref 1000000001)] [.int z6] g5 _ _
  refine AR.pop (ax_look_ok hk_285_1051).1 rfl ?_
  refine AR.goto (ax_look_ok hk_285_1052).1 (tgt := 1363) (by decide) ?_
  show AR _ _ _ _ _ _ _ 1363 [(4, .int i), (3, .ref 197), (2, .ref 181), (1, .ref 0), (0, .ref 1000000001)] [] g5 _ _
  refine AR.lessL (lv' := [(4, .int i), (3, .ref 197), (2, .ref 181), (1, .ref 0), (0, .ref 1000000001)]) (List.forall_mem_cons.mpr ⟨⟨_, by simp, ax_le_rfl rfl⟩, (List.forall_mem_cons.mpr ⟨⟨_, by simp, ax_le_rfl rfl⟩, (List.forall_mem_cons.mpr ⟨⟨_, by simp, ax_le_rfl rfl⟩, (List.forall_mem_cons.mpr ⟨⟨_, by simp, ax_le_rfl rfl⟩, (List.forall_mem_cons.mpr ⟨⟨_, by simp, ax_le_rfl rfl⟩, (fun _ h => absurd h List.not_mem_nil)⟩)⟩)⟩)⟩)⟩) ?_
  exact AR.lt (by omega) (by omega) (k _ Ig5)
theorem lw_op27 (G : ty_G hy_I l) (i0 : 0 ≤ i.toInt) (i1 : i.toInt + 6 ≤ L) (hL : L ≤ 3072) (I : lw_I h) (k : ∀ h', lw_I h' → AR ax_ns l (ax_mm 285) 13 (ax_r L xs) P X 1363 [(4, .int i), (3, .ref 197), (2, .ref 181), (1, .ref 0), (0, .ref 1000000001)] [] h' bc bs) : AR ax_ns l (ax_mm 285) 13 (ax_r L xs) P X 1055 [(4, .int i), (3, .ref 197), (2, .ref 181), (1, .ref 0), (0, .ref 1000000001)] [] h (bc + 1177) (bs + 14024) := by
  refine AR.aload_n (ax_look_ok hk_285_1055).1 (x := .ref 0) rfl rfl ?_
  refine lw_v (kd := 0) (bc' := bc + 1177) (bs' := bs + 14024) (r := 0) (as := []) hk_285_1056 (by decide) (by decide +kernel) (by decide) (by decide +kernel) rfl rfl (tk_198_ok G) rfl ⟨_, _, rfl, rfl, rfl⟩ I (by decide +kernel) (by decide) (by show _ + 0 ≤ _; omega) (by show _ + 0 ≤ _; omega) (by decide +kernel) (fun x1 g2 qx1 Ig2 => ?_)
  obtain ⟨z3, rfl⟩ := qx1.1 rfl
  show AR _ _ _ _ _ _ _ 1059 [(4, .int i), (3, .ref 197), (2, .ref 181), (1, .ref 0), (0, .ref 1000000001)] [.int z3] g2 _ _
  refine AR.pop (ax_look_ok hk_285_1059).1 rfl ?_
  refine AR.aload_n (ax_look_ok hk_285_1060).1 (x := .ref 181) rfl rfl ?_
  refine lw_v (kd := 0) (bc' := bc + 1177) (bs' := bs + 14024) (r := 181) (as := []) hk_285_1061 (by decide) (by decide +kernel) (by decide) (by decide +kernel) rfl rfl (tk_1162_ok G) rfl ⟨_, _, rfl, rfl, rfl⟩ Ig2 (by decide +kernel) (by decide) (by show _ + 0 ≤ _; omega) (by show _ + 0 ≤ _; omega) (by decide +kernel) (fun x4 g5 qx4 Ig5 => ?_)
  obtain ⟨z6, rfl⟩ := qx4.1 rfl
  show AR _ _ _ _ _ _ _ 1064 [(4, .int i), (3, .ref 197), (2, .ref 181), (1, .ref 0), (0, .ref 1000000001)] [.int z6] g5 _ _
  refine AR.pop (ax_look_ok hk_285_1064).1 rfl ?_
  refine AR.goto (ax_look_ok hk_285_1065).1 (tgt := 1363) (by decide) ?_
  show AR _ _ _ _ _ _ _ 1363 [(4, .int i), (3, .ref 197), (2, .ref 181), (1, .ref 0), (0, .ref 1000000001)] [] g5 _ _
  refine AR.lessL (lv' := [(4, .int i), (3, .ref 197), (2, .ref 181), (1, .ref 0), (0, .ref 1000000001)]) (List.forall_mem_cons.mpr ⟨⟨_, by simp, ax_le_rfl rfl⟩, (List.forall_mem_cons.mpr ⟨⟨_, by simp, ax_le_rfl rfl⟩, (List.forall_mem_cons.mpr ⟨⟨_, by simp, ax_le_rfl rfl⟩, (List.forall_mem_cons.mpr ⟨⟨_, by simp, ax_le_rfl rfl⟩, (List.forall_mem_cons.mpr ⟨⟨_, by simp, ax_le_rfl rfl⟩, (fun _ h => absurd h List.not_mem_nil)⟩)⟩)⟩)⟩)⟩) ?_
  exact AR.lt (by omega) (by omega) (k _ Ig5)
theorem lw_op28 (G : ty_G hy_I l) (i0 : 0 ≤ i.toInt) (i1 : i.toInt + 6 ≤ L) (hL : L ≤ 3072) (I : lw_I h) (k : ∀ h', lw_I h' → AR ax_ns l (ax_mm 285) 13 (ax_r L xs) P X 1363 [(4, .int i), (3, .ref 197), (2, .ref 181), (1, .ref 0), (0, .ref 1000000001)] [] h' bc bs) : AR ax_ns l (ax_mm 285) 13 (ax_r L xs) P X 1068 [(4, .int i), (3, .ref 197), (2, .ref 181), (1, .ref 0), (0, .ref 1000000001)] [] h (bc + 1177) (bs + 14024) := by
  refine AR.aload_n (ax_look_ok hk_285_1068).1 (x := .ref 0) rfl rfl ?_
  refine lw_sc hk_285_1069 hk_285_1070 hk_285_1072 hk_285_1073 hk_285_1074 rfl rfl (by decide) (by decide) (by decide) i0 i1 hL (fun y1 => ?_)
  show AR _ _ _ _ _ _ _ 1075 [(4, .int i), (3, .ref 197), (2, .ref 181), (1, .ref 0), (0, .ref 1000000001)] [.int y1, .ref 0] h _ _
  refine AR.aload_n (ax_look_ok hk_285_1075).1 (x := .ref 197) rfl rfl ?_
  refine lw_s (kd := 0) (bc' := bc + 1176) (bs' := bs + 14018) (as := [.ref 0, .int y1, .ref 197]) hk_285_1076 (by decide +kernel) rfl rfl (tk_153_ok G) rfl ⟨_, _, rfl, rfl, _, _, rfl, lw_ai _, _, _, rfl, rfl, rfl⟩ I (by decide +kernel) (by decide) (by show _ + 1 ≤ _; omega) (by show _ + 6 ≤ _; omega) (by decide +kernel) (fun x2 g3 qx2 Ig3 => ?_)
  obtain ⟨z4, rfl⟩ := qx2.1 rfl
  show AR _ _ _ _ _ _ _ 1079 [(4, .int i), (3, .ref 197), (2, .ref 181), (1, .ref 0), (0, .ref 1000000001)] [.int z4] g3 _ _
  refine AR.istore (ax_look_ok hk_285_1079).1 (by decide +kernel) rfl ?_
  show AR _ _ _ _ _ _ _ 1081 [(5, .int z4), (4, .int i), (3, .ref 197), (2, .ref 181), (1, .ref 0), (0, .ref 1000000001)] [] g3 _ _
  refine AR.aload_n (ax_look_ok hk_285_1081).1 (x := .ref 181) rfl rfl ?_
  refine lw_sc hk_285_1082 hk_285_1083 hk_285_1085 hk_285_1086 hk_285_1087 rfl rfl (by decide) (by decide) (by decide) i0 i1 hL (fun y5 => ?_)
  show AR _ _ _ _ _ _ _ 1088 [(5, .int z4), (4, .int i), (3, .ref 197), (2, .ref 181), (1, .ref 0), (0, .ref 1000000001)] [.int y5, .ref 181] g3 _ _
  refine lw_v (kd := 0) (bc' := bc + 1176) (bs' := bs + 14018) (r := 181) (as := [.int y5]) hk_285_1088 (by decide) (by decide +kernel) (by decide) (by decide +kernel) rfl rfl (tk_1163_ok G) rfl ⟨_, _, rfl, rfl, _, _, rfl, lw_ai _, rfl⟩ Ig3 (by decide +kernel) (by decide) (by show _ + 0 ≤ _; omega) (by show _ + 0 ≤ _; omega) (by decide +kernel) (fun x6 g7 qx6 Ig7 => ?_)
  obtain ⟨z8, rfl⟩ := qx6.1 rfl
  show AR _ _ _ _ _ _ _ 1091 [(5, .int z4), (4, .int i), (3, .ref 197), (2, .ref 181), (1, .ref 0), (0, .ref 1000000001)] [.int z8] g7 _ _
  refine AR.istore (ax_look_ok hk_285_1091).1 (by decide +kernel) rfl ?_
  show AR _ _ _ _ _ _ _ 1093 [(6, .int z8), (5, .int z4), (4, .int i), (3, .ref 197), (2, .ref 181), (1, .ref 0), (0, .ref 1000000001)] [] g7 _ _
  refine AR.goto (ax_look_ok hk_285_1093).1 (tgt := 1363) (by decide) ?_
  show AR _ _ _ _ _ _ _ 1363 [(6, .int z8), (5, .int z4), (4, .int i), (3, .ref 197), (2, .ref 181), (1, .ref 0), (0, .ref 1000000001)] [] g7 _ _
  refine AR.lessL (lv' := [(4, .int i), (3, .ref 197), (2, .ref 181), (1, .ref 0), (0, .ref 1000000001)]) (List.forall_mem_cons.mpr ⟨⟨_, by simp, ax_le_rfl rfl⟩, (List.forall_mem_cons.mpr ⟨⟨_, by simp, ax_le_rfl rfl⟩, (List.forall_mem_cons.mpr ⟨⟨_, by simp, ax_le_rfl rfl⟩, (List.forall_mem_cons.mpr ⟨⟨_, by simp, ax_le_rfl rfl⟩, (List.forall_mem_cons.mpr ⟨⟨_, by simp, ax_le_rfl rfl⟩, (fun _ h => absurd h List.not_mem_nil)⟩)⟩)⟩)⟩)⟩) ?_
  exact AR.lt (by omega) (by omega) (k _ Ig7)
theorem lw_op29 (G : ty_G hy_I l) (i0 : 0 ≤ i.toInt) (i1 : i.toInt + 6 ≤ L) (hL : L ≤ 3072) (I : lw_I h) (k : ∀ h', lw_I h' → AR ax_ns l (ax_mm 285) 13 (ax_r L xs) P X 1363 [(4, .int i), (3, .ref 197), (2, .ref 181), (1, .ref 0), (0, .ref 1000000001)] [] h' bc bs) : AR ax_ns l (ax_mm 285) 13 (ax_r L xs) P X 1096 [(4, .int i), (3, .ref 197), (2, .ref 181), (1, .ref 0), (0, .ref 1000000001)] [] h (bc + 1177) (bs + 14024) := by
  refine AR.aload_n (ax_look_ok hk_285_1096).1 (x := .ref 0) rfl rfl ?_
  refine lw_v (kd := 0) (bc' := bc + 1177) (bs' := bs + 14024) (r := 0) (as := []) hk_285_1097 (by decide) (by decide +kernel) (by decide) (by decide +kernel) rfl rfl (tk_199_ok G) rfl ⟨_, _, rfl, rfl, rfl⟩ I (by decide +kernel) (by decide) (by show _ + 0 ≤ _; omega) (by show _ + 0 ≤ _; omega) (by decide +kernel) (fun x1 g2 qx1 Ig2 => ?_)
  obtain ⟨z3, rfl⟩ := qx1.1 rfl
  show AR _ _ _ _ _ _ _ 1100 [(4, .int i), (3, .ref 197), (2, .ref 181), (1, .ref 0), (0, .ref 1000000001)] [.int z3] g2 _ _
  refine AR.pop (ax_look_ok hk_285_1100).1 rfl ?_
  refine AR.aload_n (ax_look_ok hk_285_1101).1 (x := .ref 181) rfl rfl ?_
  refine lw_v (kd := 0) (bc' := bc + 1177) (bs' := bs + 14024) (r := 181) (as := []) hk_285_1102 (by decide) (by decide +kernel) (by decide) (by decide +kernel) rfl rfl (tk_1166_ok G) rfl ⟨_, _, rfl, rfl, rfl⟩ Ig2 (by decide +kernel) (by decide) (by show _ + 0 ≤ _; omega) (by show _ + 0 ≤ _; omega) (by decide +kernel) (fun x4 g5 qx4 Ig5 => ?_)
  obtain ⟨z6, rfl⟩ := qx4.1 rfl
  show AR _ _ _ _ _ _ _ 1105 [(4, .int i), (3, .ref 197), (2, .ref 181), (1, .ref 0), (0, .ref 1000000001)] [.int z6] g5 _ _
  refine AR.pop (ax_look_ok hk_285_1105).1 rfl ?_
  refine AR.goto (ax_look_ok hk_285_1106).1 (tgt := 1363) (by decide) ?_
  show AR _ _ _ _ _ _ _ 1363 [(4, .int i), (3, .ref 197), (2, .ref 181), (1, .ref 0), (0, .ref 1000000001)] [] g5 _ _
  refine AR.lessL (lv' := [(4, .int i), (3, .ref 197), (2, .ref 181), (1, .ref 0), (0, .ref 1000000001)]) (List.forall_mem_cons.mpr ⟨⟨_, by simp, ax_le_rfl rfl⟩, (List.forall_mem_cons.mpr ⟨⟨_, by simp, ax_le_rfl rfl⟩, (List.forall_mem_cons.mpr ⟨⟨_, by simp, ax_le_rfl rfl⟩, (List.forall_mem_cons.mpr ⟨⟨_, by simp, ax_le_rfl rfl⟩, (List.forall_mem_cons.mpr ⟨⟨_, by simp, ax_le_rfl rfl⟩, (fun _ h => absurd h List.not_mem_nil)⟩)⟩)⟩)⟩)⟩) ?_
  exact AR.lt (by omega) (by omega) (k _ Ig5)
theorem lw_op30 (G : ty_G hy_I l) (i0 : 0 ≤ i.toInt) (i1 : i.toInt + 6 ≤ L) (hL : L ≤ 3072) (I : lw_I h) (k : ∀ h', lw_I h' → AR ax_ns l (ax_mm 285) 13 (ax_r L xs) P X 1363 [(4, .int i), (3, .ref 197), (2, .ref 181), (1, .ref 0), (0, .ref 1000000001)] [] h' bc bs) : AR ax_ns l (ax_mm 285) 13 (ax_r L xs) P X 1109 [(4, .int i), (3, .ref 197), (2, .ref 181), (1, .ref 0), (0, .ref 1000000001)] [] h (bc + 1177) (bs + 14024) := by
  refine AR.aload_n (ax_look_ok hk_285_1109).1 (x := .ref 0) rfl rfl ?_
  refine lw_sc hk_285_1110 hk_285_1111 hk_285_1113 hk_285_1114 hk_285_1115 rfl rfl (by decide) (by decide) (by decide) i0 i1 hL (fun y1 => ?_)
  show AR _ _ _ _ _ _ _ 1116 [(4, .int i), (3, .ref 197), (2, .ref 181), (1, .ref 0), (0, .ref 1000000001)] [.int y1, .ref 0] h _ _
  refine AR.aload_n (ax_look_ok hk_285_1116).1 (x := .ref 197) rfl rfl ?_
  refine lw_s (kd := 0) (bc' := bc + 1176) (bs' := bs + 14018) (as := [.ref 0, .int y1, .ref 197]) hk_285_1117 (by decide +kernel) rfl rfl (tk_165_ok G) rfl ⟨_, _, rfl, rfl, _, _, rfl, lw_ai _, _, _, rfl, rfl, rfl⟩ I (by decide +kernel) (by decide) (by show _ + 1 ≤ _; omega) (by show _ + 6 ≤ _; omega) (by decide +kernel) (fun x2 g3 qx2 Ig3 => ?_)
  obtain ⟨z4, rfl⟩ := qx2.1 rfl
  show AR _ _ _ _ _ _ _ 1120 [(4, .int i), (3, .ref 197), (2, .ref 181), (1, .ref 0), (0, .ref 1000000001)] [.int z4] g3 _ _
  refine AR.istore (ax_look_ok hk_285_1120).1 (by decide +kernel) rfl ?_
  show AR _ _ _ _ _ _ _ 1122 [(5, .int z4), (4, .int i), (3, .ref 197), (2, .ref 181), (1, .ref 0), (0, .ref 1000000001)] [] g3 _ _
  refine AR.aload_n (ax_look_ok hk_285_1122).1 (x := .ref 181) rfl rfl ?_
  refine lw_sc hk_285_1123 hk_285_1124 hk_285_1126 hk_285_1127 hk_285_1128 rfl rfl (by decide) (by decide) (by decide) i0 i1 hL (fun y5 => ?_)
  show AR _ _ _ _ _ _ _ 1129 [(5, .int z4), (4, .int i), (3, .ref 197), (2, .ref 181), (1, .ref 0), (0, .ref 1000000001)] [.int y5, .ref 181] g3 _ _
  refine lw_v (kd := 0) (bc' := bc + 1176) (bs' := bs + 14018) (r := 181) (as := [.int y5]) hk_285_1129 (by decide) (by decide +kernel) (by decide) (by decide +kernel) rfl rfl (tk_1170_ok G) rfl ⟨_, _, rfl, rfl, _, _, rfl, lw_ai _, rfl⟩ Ig3 (by decide +kernel) (by decide) (by show _ + 0 ≤ _; omega) (by show _ + 0 ≤ _; omega) (by decide +kernel) (fun x6 g7 qx6 Ig7 => ?_)
  obtain ⟨z8, rfl⟩ := qx6.1 rfl
  show AR _ _ _ _ _ _ _ 1132 [(5, .int z4), (4, .int i), (3, .ref 197), (2, .ref 181), (1, .ref 0), (0, .ref 1000000001)] [.int z8] g7 _ _
  refine AR.istore (ax_look_ok hk_285_1132).1 (by decide +kernel) rfl ?_
  show AR _ _ _ _ _ _ _ 1134 [(6, .int z8), (5, .int z4), (4, .int i), (3, .ref 197), (2, .ref 181), (1, .ref 0), (0, .ref 1000000001)] [] g7 _ _
  refine AR.goto (ax_look_ok hk_285_1134).1 (tgt := 1363) (by decide) ?_
  show AR _ _ _ _ _ _ _ 1363 [(6, .int z8), (5, .int z4), (4, .int i), (3, .ref 197), (2, .ref 181), (1, .ref 0), (0, .ref 1000000001)] [] g7 _ _
  refine AR.lessL (lv' := [(4, .int i), (3, .ref 197), (2, .ref 181), (1, .ref 0), (0, .ref 1000000001)]) (List.forall_mem_cons.mpr ⟨⟨_, by simp, ax_le_rfl rfl⟩, (List.forall_mem_cons.mpr ⟨⟨_, by simp, ax_le_rfl rfl⟩, (List.forall_mem_cons.mpr ⟨⟨_, by simp, ax_le_rfl rfl⟩, (List.forall_mem_cons.mpr ⟨⟨_, by simp, ax_le_rfl rfl⟩, (List.forall_mem_cons.mpr ⟨⟨_, by simp, ax_le_rfl rfl⟩, (fun _ h => absurd h List.not_mem_nil)⟩)⟩)⟩)⟩)⟩) ?_
  exact AR.lt (by omega) (by omega) (k _ Ig7)
theorem lw_op31 (G : ty_G hy_I l) (i0 : 0 ≤ i.toInt) (i1 : i.toInt + 6 ≤ L) (hL : L ≤ 3072) (I : lw_I h) (k : ∀ h', lw_I h' → AR ax_ns l (ax_mm 285) 13 (ax_r L xs) P X 1363 [(4, .int i), (3, .ref 197), (2, .ref 181), (1, .ref 0), (0, .ref 1000000001)] [] h' bc bs) : AR ax_ns l (ax_mm 285) 13 (ax_r L xs) P X 1137 [(4, .int i), (3, .ref 197), (2, .ref 181), (1, .ref 0), (0, .ref 1000000001)] [] h (bc + 1177) (bs + 14024) := by
  refine AR.aload_n (ax_look_ok hk_285_1137).1 (x := .ref 0) rfl rfl ?_
  refine lw_v (kd := 0) (bc' := bc + 1177) (bs' := bs + 14024) (r := 0) (as := []) hk_285_1138 (by decide) (by decide +kernel) (by decide) (by decide +kernel) rfl rfl (tk_201_ok G) rfl ⟨_, _, rfl, rfl, rfl⟩ I (by decide +kernel) (by decide) (by show _ + 0 ≤ _; omega) (by show _ + 0 ≤ _; omega) (by decide +kernel) (fun x1 g2 qx1 Ig2 => ?_)
  obtain ⟨z3, rfl⟩ := qx1.1 rfl
  show AR _ _ _ _ _ _ _ 1141 [(4, .int i), (3, .ref 197), (2, .ref 181), (1, .ref 0), (0, .ref 1000000001)] [.int z3] g2 _ _
  refine AR.pop (ax_look_ok hk_285_1141).1 rfl ?_
  refine AR.aload_n (ax_look_ok hk_285_1142).1 (x := .ref 181) rfl rfl ?_
  refine lw_v (kd := 0) (bc' := bc + 1177) (bs' := bs + 14024) (r := 181) (as := []) hk_285_1143 (by decide) (by decide +kernel) (by decide) (by decide +kernel) rfl rfl (tk_1171_ok G) rfl ⟨_, _, rfl, rfl, rfl⟩ Ig2 (by decide +kernel) (by decide) (by show _ + 0 ≤ _; omega) (by show _ + 0 ≤ _; omega) (by decide +kernel) (fun x4 g5 qx4 Ig5 => ?_)
  obtain ⟨z6, rfl⟩ := qx4.1 rfl
  show AR _ _ _ _ _ _ _ 1146 [(4, .int i), (3, .ref 197), (2, .ref 181), (1, .ref 0), (0, .ref 1000000001)] [.int z6] g5 _ _
  refine AR.pop (ax_look_ok hk_285_1146).1 rfl ?_
  refine AR.goto (ax_look_ok hk_285_1147).1 (tgt := 1363) (by decide) ?_
  show AR _ _ _ _ _ _ _ 1363 [(4, .int i), (3, .ref 197), (2, .ref 181), (1, .ref 0), (0, .ref 1000000001)] [] g5 _ _
  refine AR.lessL (lv' := [(4, .int i), (3, .ref 197), (2, .ref 181), (1, .ref 0), (0, .ref 1000000001)]) (List.forall_mem_cons.mpr ⟨⟨_, by simp, ax_le_rfl rfl⟩, (List.forall_mem_cons.mpr ⟨⟨_, by simp, ax_le_rfl rfl⟩, (List.forall_mem_cons.mpr ⟨⟨_, by simp, ax_le_rfl rfl⟩, (List.forall_mem_cons.mpr ⟨⟨_, by simp, ax_le_rfl rfl⟩, (List.forall_mem_cons.mpr ⟨⟨_, by simp, ax_le_rfl rfl⟩, (fun _ h => absurd h List.not_mem_nil)⟩)⟩)⟩)⟩)⟩) ?_
  exact AR.lt (by omega) (by omega) (k _ Ig5)
theorem lw_op32 (G : ty_G hy_I l) (i0 : 0 ≤ i.toInt) (i1 : i.toInt + 6 ≤ L) (hL : L ≤ 3072) (I : lw_I h) (k : ∀ h', lw_I h' → AR ax_ns l (ax_mm 285) 13 (ax_r L xs) P X 1363 [(4, .int i), (3, .ref 197), (2, .ref 181), (1, .ref 0), (0, .ref 1000000001)] [] h' bc bs) : AR ax_ns l (ax_mm 285) 13 (ax_r L xs) P X 1150 [(4, .int i), (3, .ref 197), (2, .ref 181), (1, .ref 0), (0, .ref 1000000001)] [] h (bc + 1177) (bs + 14024) := by
  refine AR.aload_n (ax_look_ok hk_285_1150).1 (x := .ref 0) rfl rfl ?_
  refine lw_sc hk_285_1151 hk_285_1152 hk_285_1154 hk_285_1155 hk_285_1156 rfl rfl (by decide) (by decide) (by decide) i0 i1 hL (fun y1 => ?_)
  show AR _ _ _ _ _ _ _ 1157 [(4, .int i), (3, .ref 197), (2, .ref 181), (1, .ref 0), (0, .ref 1000000001)] [.int y1, .ref 0] h _ _
  refine AR.aload_n (ax_look_ok hk_285_1157).1 (x := .ref 197) rfl rfl ?_
  refine lw_s (kd := 0) (bc' := bc + 1176) (bs' := bs + 14018) (as := [.ref 0, .int y1, .ref 197]) hk_285_1158 (by decide +kernel) rfl rfl (tk_168_ok G) rfl ⟨_, _, rfl, rfl, _, _, rfl, lw_ai _, _, _, rfl, rfl, rfl⟩ I (by decide +kernel) (by decide) (by show _ + 1 ≤ _; omega) (by show _ + 6 ≤ _; omega) (by decide +kernel) (fun x2 g3 qx2 Ig3 => ?_)
  obtain ⟨z4, rfl⟩ := qx2.1 rfl
  show AR _ _ _ _ _ _ _ 1161 [(4, .int i), (3, .ref 197), (2, .ref 181), (1, .ref 0), (0, .ref 1000000001)] [.int z4] g3 _ _
  refine AR.istore (ax_look_ok hk_285_1161).1 (by decide +kernel) rfl ?_
  show AR _ _ _ _ _ _ _ 1163 [(5, .int z4), (4, .int i), (3, .ref 197), (2, .ref 181), (1, .ref 0), (0, .ref 1000000001)] [] g3 _ _
  refine AR.aload_n (ax_look_ok hk_285_1163).1 (x := .ref 181) rfl rfl ?_
  refine lw_sc hk_285_1164 hk_285_1165 hk_285_1167 hk_285_1168 hk_285_1169 rfl rfl (by decide) (by decide) (by decide) i0 i1 hL (fun y5 => ?_)
  show AR _ _ _ _ _ _ _ 1170 [(5, .int z4), (4, .int i), (3, .ref 197), (2, .ref 181), (1, .ref 0), (0, .ref 1000000001)] [.int y5, .ref 181] g3 _ _
  refine lw_v (kd := 0) (bc' := bc + 1176) (bs' := bs + 14018) (r := 181) (as := [.int y5]) hk_285_1170 (by decide) (by decide +kernel) (by decide) (by decide +kernel) rfl rfl (tk_1172_ok G) rfl ⟨_, _, rfl, rfl, _, _, rfl, lw_ai _, rfl⟩ Ig3 (by decide +kernel) (by decide) (by show _ + 0 ≤ _; omega) (by show _ + 0 ≤ _; omega) (by decide +kernel) (fun x6 g7 qx6 Ig7 => ?_)
  obtain ⟨z8, rfl⟩ := qx6.1 rfl
  show AR _ _ _ _ _ _ _ 1173 [(5, .int z4), (4, .int i), (3, .ref 197), (2, .ref 181), (1, .ref 0), (0, .ref 1000000001)] [.int z8] g7 _ _
  refine AR.istore (ax_look_ok hk_285_1173).1 (by decide +kernel) rfl ?_
  show AR _ _ _ _ _ _ _ 1175 [(6, .int z8), (5, .int z4), (4, .int i), (3, .ref 197), (2, .ref 181), (1, .ref 0), (0, .ref 1000000001)] [] g7 _ _
  refine AR.goto (ax_look_ok hk_285_1175).1 (tgt := 1363) (by decide) ?_
  show AR _ _ _ _ _ _ _ 1363 [(6, .int z8), (5, .int z4), (4, .int i), (3, .ref 197), (2, .ref 181), (1, .ref 0), (0, .ref 1000000001)] [] g7 _ _
  refine AR.lessL (lv' := [(4, .int i), (3, .ref 197), (2, .ref 181), (1, .ref 0), (0, .ref 1000000001)]) (List.forall_mem_cons.mpr ⟨⟨_, by simp, ax_le_rfl rfl⟩, (List.forall_mem_cons.mpr ⟨⟨_, by simp, ax_le_rfl rfl⟩, (List.forall_mem_cons.mpr ⟨⟨_, by simp, ax_le_rfl rfl⟩, (List.forall_mem_cons.mpr ⟨⟨_, by simp, ax_le_rfl rfl⟩, (List.forall_mem_cons.mpr ⟨⟨_, by simp, ax_le_rfl rfl⟩, (fun _ h => absurd h List.not_mem_nil)⟩)⟩)⟩)⟩)⟩) ?_
  exact AR.lt (by omega) (by omega) (k _ Ig7)
theorem lw_op33 (G : ty_G hy_I l) (i0 : 0 ≤ i.toInt) (i1 : i.toInt + 6 ≤ L) (hL : L ≤ 3072) (I : lw_I h) (k : ∀ h', lw_I h' → AR ax_ns l (ax_mm 285) 13 (ax_r L xs) P X 1363 [(4, .int i), (3, .ref 197), (2, .ref 181), (1, .ref 0), (0, .ref 1000000001)] [] h' bc bs) : AR ax_ns l (ax_mm 285) 13 (ax_r L xs) P X 1178 [(4, .int i), (3, .ref 197), (2, .ref 181), (1, .ref 0), (0, .ref 1000000001)] [] h (bc + 1177) (bs + 14024) := by
  refine AR.aload_n (ax_look_ok hk_285_1178).1 (x := .ref 0) rfl rfl ?_
  refine lw_sc hk_285_1179 hk_285_1180 hk_285_1182 hk_285_1183 hk_285_1184 rfl rfl (by decide) (by decide) (by decide) i0 i1 hL (fun y1 => ?_)
  show AR _ _ _ _ _ _ _ 1185 [(4, .int i), (3, .ref 197), (2, .ref 181), (1, .ref 0), (0, .ref 1000000001)] [.int y1, .ref 0] h _ _
  refine lw_sc hk_285_1185 hk_285_1186 hk_285_1188 hk_285_1189 hk_285_1190 rfl rfl (by decide) (by decide) (by decide) i0 i1 hL (fun y2 => ?_)
  show AR _ _ _ _ _ _ _ 1191 [(4, .int i), (3, .ref 197), (2, .ref 181), (1, .ref 0), (0, .ref 1000000001)] [.int y2, .int y1, .ref 0] h _ _
  refine AR.aload_n (ax_look_ok hk_285_1191).1 (x := .ref 197) rfl rfl ?_
  refine lw_s (kd := 0) (bc' := bc + 1176) (bs' := bs + 14018) (as := [.ref 0, .int y1, .int y2, .ref 197]) hk_285_1192 (by decide +kernel) rfl rfl (tk_170_ok G) rfl ⟨_, _, rfl, rfl, _, _, rfl, lw_ai _, _, _, rfl, lw_ai _, _, _, rfl, rfl, rfl⟩ I (by decide +kernel) (by decide) (by show _ + 1 ≤ _; omega) (by show _ + 6 ≤ _; omega) (by decide +kernel) (fun x3 g4 qx3 Ig4 => ?_)
  obtain ⟨z5, rfl⟩ := qx3.1 rfl
  show AR _ _ _ _ _ _ _ 1195 [(4, .int i), (3, .ref 197), (2, .ref 181), (1, .ref 0), (0, .ref 1000000001)] [.int z5] g4 _ _
  refine AR.istore (ax_look_ok hk_285_1195).1 (by decide +kernel) rfl ?_
  show AR _ _ _ _ _ _ _ 1197 [(5, .int z5), (4, .int i), (3, .ref 197), (2, .ref 181), (1, .ref 0), (0, .ref 1000000001)] [] g4 _ _
  refine AR.aload_n (ax_look_ok hk_285_1197).1 (x := .ref 181) rfl rfl ?_
  refine lw_sc hk_285_1198 hk_285_1199 hk_285_1201 hk_285_1202 hk_285_1203 rfl rfl (by decide) (by decide) (by decide) i0 i1 hL (fun y6 => ?_)
  show AR _ _ _ _ _ _ _ 1204 [(5, .int z5), (4, .int i), (3, .ref 197), (2, .ref 181), (1, .ref 0), (0, .ref 1000000001)] [.int y6, .ref 181] g4 _ _
  refine lw_sc hk_285_1204 hk_285_1205 hk_285_1207 hk_285_1208 hk_285_1209 rfl rfl (by decide) (by decide) (by decide) i0 i1 hL (fun y7 => ?_)
  show AR _ _ _ _ _ _ _ 1210 [(5, .int z5), (4, .int i), (3, .ref 197), (2, .ref 181), (1, .ref 0), (0, .ref 1000000001)] [.int y7, .int y6, .ref 181] g4 _ _
  refine lw_v (kd := 0) (bc' := bc + 1176) (bs' := bs + 14018) (r := 181) (as := [.int y6, .int y7]) hk_285_1210 (by decide) (by decide +kernel) (by decide) (by decide +kernel) rfl rfl (tk_1173_ok G) rfl ⟨_, _, rfl, rfl, _, _, rfl, lw_ai _, _, _, rfl, lw_ai _, rfl⟩ Ig4 (by decide +kernel) (by decide) (by show _ + 0 ≤ _; omega) (by show _ + 0 ≤ _; omega) (by decide +kernel) (fun x8 g9 qx8 Ig9 => ?_)
  obtain ⟨z10, rfl⟩ := qx8.1 rfl
  show AR _ _ _ _ _ _ _ 1213 [(5, .int z5), (4, .int i), (3, .ref 197), (2, .ref 181), (1, .ref 0), (0, .ref 1000000001)] [.int z10] g9 _ _
  refine AR.istore (ax_look_ok hk_285_1213).1 (by decide +kernel) rfl ?_
  show AR _ _ _ _ _ _ _ 1215 [(6, .int z10), (5, .int z5), (4, .int i), (3, .ref 197), (2, .ref 181), (1, .ref 0), (0, .ref 1000000001)] [] g9 _ _
  refine AR.goto (ax_look_ok hk_285_1215).1 (tgt := 1363) (by decide) ?_
  show AR _ _ _ _ _ _ _ 1363 [(6, .int z10), (5, .int z5), (4, .int i), (3, .ref 197), (2, .ref 181), (1, .ref 0), (0, .ref 1000000001)] [] g9 _ _
  refine AR.lessL (lv' := [(4, .int i), (3, .ref 197), (2, .ref 181), (1, .ref 0), (0, .ref 1000000001)]) (List.forall_mem_cons.mpr ⟨⟨_, by simp, ax_le_rfl rfl⟩, (List.forall_mem_cons.mpr ⟨⟨_, by simp, ax_le_rfl rfl⟩, (List.forall_mem_cons.mpr ⟨⟨_, by simp, ax_le_rfl rfl⟩, (List.forall_mem_cons.mpr ⟨⟨_, by simp, ax_le_rfl rfl⟩, (List.forall_mem_cons.mpr ⟨⟨_, by simp, ax_le_rfl rfl⟩, (fun _ h => absurd h List.not_mem_nil)⟩)⟩)⟩)⟩)⟩) ?_
  exact AR.lt (by omega) (by omega) (k _ Ig9)
theorem lw_op34 (G : ty_G hy_I l) (i0 : 0 ≤ i.toInt) (i1 : i.toInt + 6 ≤ L) (hL : L ≤ 3072) (I : lw_I h) (k : ∀ h', lw_I h' → AR ax_ns l (ax_mm 285) 13 (ax_r L xs) P X 1363 [(4, .int i), (3, .ref 197), (2, .ref 181), (1, .ref 0), (0, .ref 1000000001)] [] h' bc bs) : AR ax_ns l (ax_mm 285) 13 (ax_r L xs) P X 1218 [(4, .int i), (3, .ref 197), (2, .ref 181), (1, .ref 0), (0, .ref 1000000001)] [] h (bc + 1177) (bs + 14024) := by
  refine AR.aload_n (ax_look_ok hk_285_1218).1 (x := .ref 0) rfl rfl ?_
  refine AR.aload_n (ax_look_ok hk_285_1219).1 (x := .ref 197) rfl rfl ?_
  refine lw_s (kd := 0) (bc' := bc + 1176) (bs' := bs + 14018) (as := [.ref 0, .ref 197]) hk_285_1220 (by decide +kernel) rfl rfl (tk_176_ok G) rfl ⟨_, _, rfl, rfl, _, _, rfl, rfl, rfl⟩ I (by decide +kernel) (by decide) (by show _ + 1 ≤ _; omega) (by show _ + 6 ≤ _; omega) (by decide +kernel) (fun x1 g2 qx1 Ig2 => ?_)
  obtain ⟨z3, rfl⟩ := qx1.1 rfl
  show AR _ _ _ _ _ _ _ 1223 [(4, .int i), (3, .ref 197), (2, .ref 181), (1, .ref 0), (0, .ref 1000000001)] [.int z3] g2 _ _
  refine AR.istore (ax_look_ok hk_285_1223).1 (by decide +kernel) rfl ?_
  show AR _ _ _ _ _ _ _ 1225 [(5, .int z3), (4, .int i), (3, .ref 197), (2, .ref 181), (1, .ref 0), (0, .ref 1000000001)] [] g2 _ _
  refine AR.aload_n (ax_look_ok hk_285_1225).1 (x := .ref 181) rfl rfl ?_
  refine lw_v (kd := 0) (bc' := bc + 1176) (bs' := bs + 14018) (r := 181) (as := []) hk_285_1226 (by decide) (by decide +kernel) (by decide) (by decide +kernel) rfl rfl (tk_1176_ok G) rfl ⟨_, _, rfl, rfl, rfl⟩ Ig2 (by decide +kernel) (by decide) (by show _ + 0 ≤ _; omega) (by show _ + 0 ≤ _; omega) (by decide +kernel) (fun x4 g5 qx4 Ig5 => ?_)
  obtain ⟨z6, rfl⟩ := qx4.1 rfl
  show AR _ _ _ _ _ _ _ 1229 [(5, .int z3), (4, .int i), (3, .ref 197), (2, .ref 181), (1, .ref 0), (0, .ref 1000000001)] [.int z6] g5 _ _
  refine AR.istore (ax_look_ok hk_285_1229).1 (by decide +kernel) rfl ?_
  show AR _ _ _ _ _ _ _ 1231 [(6, .int z6), (5, .int z3), (4, .int i), (3, .ref 197), (2, .ref 181), (1, .ref 0), (0, .ref 1000000001)] [] g5 _ _
  refine AR.goto (ax_look_ok hk_285_1231).1 (tgt := 1363) (by decide) ?_
  show AR _ _ _ _ _ _ _ 1363 [(6, .int z6), (5, .int z3), (4, .int i), (3, .ref 197), (2, .ref 181), (1, .ref 0), (0, .ref 1000000001)] [] g5 _ _
  refine AR.lessL (lv' := [(4, .int i), (3, .ref 197), (2, .ref 181), (1, .ref 0), (0, .ref 1000000001)]) (List.forall_mem_cons.mpr ⟨⟨_, by simp, ax_le_rfl rfl⟩, (List.forall_mem_cons.mpr ⟨⟨_, by simp, ax_le_rfl rfl⟩, (List.forall_mem_cons.mpr ⟨⟨_, by simp, ax_le_rfl rfl⟩, (List.forall_mem_cons.mpr ⟨⟨_, by simp, ax_le_rfl rfl⟩, (List.forall_mem_cons.mpr ⟨⟨_, by simp, ax_le_rfl rfl⟩, (fun _ h => absurd h List.not_mem_nil)⟩)⟩)⟩)⟩)⟩) ?_
  exact AR.lt (by omega) (by omega) (k _ Ig5)
theorem lw_op35 (G : ty_G hy_I l) (i0 : 0 ≤ i.toInt) (i1 : i.toInt + 6 ≤ L) (hL : L ≤ 3072) (I : lw_I h) (k : ∀ h', lw_I h' → AR ax_ns l (ax_mm 285) 13 (ax_r L xs) P X 1363 [(4, .int i), (3, .ref 197), (2, .ref 181), (1, .ref 0), (0, .ref 1000000001)] [] h' bc bs) : AR ax_ns l (ax_mm 285) 13 (ax_r L xs) P X 1234 [(4, .int i), (3, .ref 197), (2, .ref 181), (1, .ref 0), (0, .ref 1000000001)] [] h (bc + 1177) (bs + 14024) := by
  refine AR.aload_n (ax_look_ok hk_285_1234).1 (x := .ref 0) rfl rfl ?_
  refine AR.aload_n (ax_look_ok hk_285_1235).1 (x := .ref 197) rfl rfl ?_
  refine lw_s (kd := 0) (bc' := bc + 1176) (bs' := bs + 14018) (as := [.ref 0, .ref 197]) hk_285_1236 (by decide +kernel) rfl rfl (tk_178_ok G) rfl ⟨_, _, rfl, rfl, _, _, rfl, rfl, rfl⟩ I (by decide +kernel) (by decide) (by show _ + 1 ≤ _; omega) (by show _ + 6 ≤ _; omega) (by decide +kernel) (fun x1 g2 qx1 Ig2 => ?_)
  obtain ⟨z3, rfl⟩ := qx1.1 rfl
  show AR _ _ _ _ _ _ _ 1239 [(4, .int i), (3, .ref 197), (2, .ref 181), (1, .ref 0), (0, .ref 1000000001)] [.int z3] g2 _ _
  refine AR.istore (ax_look_ok hk_285_1239).1 (by decide +kernel) rfl ?_
  show AR _ _ _ _ _ _ _ 1241 [(5, .int z3), (4, .int i), (3, .ref 197), (2, .ref 181), (1, .ref 0), (0, .ref 1000000001)] [] g2 _ _
  refine AR.aload_n (ax_look_ok hk_285_1241).1 (x := .ref 181) rfl rfl ?_
  refine lw_v (kd := 0) (bc' := bc + 1176) (bs' := bs + 14018) (r := 181) (as := []) hk_285_1242 (by decide) (by decide +kernel) (by decide) (by decide +kernel) rfl rfl (tk_1177_ok G) rfl ⟨_, _, rfl, rfl, rfl⟩ Ig2 (by decide +kernel) (by decide) (by show _ + 0 ≤ _; omega) (by show _ + 0 ≤ _; omega) (by decide +kernel) (fun x4 g5 qx4 Ig5 => ?_)
  obtain ⟨z6, rfl⟩ := qx4.1 rfl
  show AR _ _ _ _ _ _ _ 1245 [(5, .int z3), (4, .int i), (3, .ref 197), (2, .ref 181), (1, .ref 0), (0, .ref 1000000001)] [.int z6] g5 _ _
  refine AR.istore (ax_look_ok hk_285_1245).1 (by decide +kernel) rfl ?_
  show AR _ _ _ _ _ _ _ 1247 [(6, .int z6), (5, .int z3), (4, .int i), (3, .ref 197), (2, .ref 181), (1, .ref 0), (0, .ref 1000000001)] [] g5 _ _
  refine AR.goto (ax_look_ok hk_285_1247).1 (tgt := 1363) (by decide) ?_
  show AR _ _ _ _ _ _ _ 1363 [(6, .int z6), (5, .int z3), (4, .int i), (3, .ref 197), (2, .ref 181), (1, .ref 0), (0, .ref 1000000001)] [] g5 _ _
  refine AR.lessL (lv' := [(4, .int i), (3, .ref 197), (2, .ref 181), (1, .ref 0), (0, .ref 1000000001)]) (List.forall_mem_cons.mpr ⟨⟨_, by simp, ax_le_rfl rfl⟩, (List.forall_mem_cons.mpr ⟨⟨_, by simp, ax_le_rfl rfl⟩, (List.forall_mem_cons.mpr ⟨⟨_, by simp, ax_le_rfl rfl⟩, (List.forall_mem_cons.mpr ⟨⟨_, by simp, ax_le_rfl rfl⟩, (List.forall_mem_cons.mpr ⟨⟨_, by simp, ax_le_rfl rfl⟩, (fun _ h => absurd h List.not_mem_nil)⟩)⟩)⟩)⟩)⟩) ?_
  exact AR.lt (by omega) (by omega) (k _ Ig5)
theorem lw_op36 (G : ty_G hy_I l) (i0 : 0 ≤ i.toInt) (i1 : i.toInt + 6 ≤ L) (hL : L ≤ 3072) (I : lw_I h) (k : ∀ h', lw_I h' → AR ax_ns l (ax_mm 285) 13 (ax_r L xs) P X 1363 [(4, .int i), (3, .ref 197), (2, .ref 181), (1, .ref 0), (0, .ref 1000000001)] [] h' bc bs) : AR ax_ns l (ax_mm 285) 13 (ax_r L xs) P X 1250 [(4, .int i), (3, .ref 197), (2, .ref 181), (1, .ref 0), (0, .ref 1000000001)] [] h (bc + 1177) (bs + 14024) := by
  refine AR.aload_n (ax_look_ok hk_285_1250).1 (x := .ref 0) rfl rfl ?_
  refine lw_sc hk_285_1251 hk_285_1252 hk_285_1254 hk_285_1255 hk_285_1256 rfl rfl (by decide) (by decide) (by decide) i0 i1 hL (fun y1 => ?_)
  show AR _ _ _ _ _ _ _ 1257 [(4, .int i), (3, .ref 197), (2, .ref 181), (1, .ref 0), (0, .ref 1000000001)] [.int y1, .ref 0] h _ _
  refine lw_sc hk_285_1257 hk_285_1258 hk_285_1260 hk_285_1261 hk_285_1262 rfl rfl (by decide) (by decide) (by decide) i0 i1 hL (fun y2 => ?_)
  show AR _ _ _ _ _ _ _ 1263 [(4, .int i), (3, .ref 197), (2, .ref 181), (1, .ref 0), (0, .ref 1000000001)] [.int y2, .int y1, .ref 0] h _ _
  refine AR.aload_n (ax_look_ok hk_285_1263).1 (x := .ref 197) rfl rfl ?_
  refine lw_s (kd := 0) (bc' := bc + 1176) (bs' := bs + 14018) (as := [.ref 0, .int y1, .int y2, .ref 197]) hk_285_1264 (by decide +kernel) rfl rfl (tk_182_ok G) rfl ⟨_, _, rfl, rfl, _, _, rfl, lw_ai _, _, _, rfl, lw_ai _, _, _, rfl, rfl, rfl⟩ I (by decide +kernel) (by decide) (by show _ + 1 ≤ _; omega) (by show _ + 6 ≤ _; omega) (by decide +kernel) (fun x3 g4 qx3 Ig4 => ?_)
  obtain ⟨z5, rfl⟩ := qx3.1 rfl
  show AR _ _ _ _ _ _ _ 1267 [(4, .int i), (3, .ref 197), (2, .ref 181), (1, .ref 0), (0, .ref 1000000001)] [.int z5] g4 _ _
  refine AR.istore (ax_look_ok hk_285_1267).1 (by decide +kernel) rfl ?_
  show AR _ _ _ _ _ _ _ 1269 [(5, .int z5), (4, .int i), (3, .ref 197), (2, .ref 181), (1, .ref 0), (0, .ref 1000000001)] [] g4 _ _
  refine AR.aload_n (ax_look_ok hk_285_1269).1 (x := .ref 181) rfl rfl ?_
  refine lw_sc hk_285_1270 hk_285_1271 hk_285_1273 hk_285_1274 hk_285_1275 rfl rfl (by decide) (by decide) (by decide) i0 i1 hL (fun y6 => ?_)
  show AR _ _ _ _ _ _ _ 1276 [(5, .int z5), (4, .int i), (3, .ref 197), (2, .ref 181), (1, .ref 0), (0, .ref 1000000001)] [.int y6, .ref 181] g4 _ _
  refine lw_sc hk_285_1276 hk_285_1277 hk_285_1279 hk_285_1280 hk_285_1281 rfl rfl (by decide) (by decide) (by decide) i0 i1 hL (fun y7 => ?_)
  show AR _ _ _ _ _ _ _ 1282 [(5, .int z5), (4, .int i), (3, .ref 197), (2, .ref 181), (1, .ref 0), (0, .ref 1000000001)] [.int y7, .int y6, .ref 181] g4 _ _
  refine lw_v (kd := 0) (bc' := bc + 1175) (bs' := bs + 13994) (r := 181) (as := [.int y6, .int y7]) hk_285_1282 (by decide) (by decide +kernel) (by decide) (by decide +kernel) rfl rfl (tk_1180_ok G) rfl ⟨_, _, rfl, rfl, _, _, rfl, lw_ai _, _, _, rfl, lw_ai _, rfl⟩ Ig4 (by decide +kernel) (by decide) (by show _ + 1 ≤ _; omega) (by show _ + 24 ≤ _; omega) (by decide +kernel) (fun x8 g9 qx8 Ig9 => ?_)
  obtain ⟨z10, rfl⟩ := qx8.1 rfl
  show AR _ _ _ _ _ _ _ 1285 [(5, .int z5), (4, .int i), (3, .ref 197), (2, .ref 181), (1, .ref 0), (0, .ref 1000000001)] [.int z10] g9 _ _
  refine AR.istore (ax_look_ok hk_285_1285).1 (by decide +kernel) rfl ?_
  show AR _ _ _ _ _ _ _ 1287 [(6, .int z10), (5, .int z5), (4, .int i), (3, .ref 197), (2, .ref 181), (1, .ref 0), (0, .ref 1000000001)] [] g9 _ _
  refine AR.goto (ax_look_ok hk_285_1287).1 (tgt := 1363) (by decide) ?_
  show AR _ _ _ _ _ _ _ 1363 [(6, .int z10), (5, .int z5), (4, .int i), (3, .ref 197), (2, .ref 181), (1, .ref 0), (0, .ref 1000000001)] [] g9 _ _
  refine AR.lessL (lv' := [(4, .int i), (3, .ref 197), (2, .ref 181), (1, .ref 0), (0, .ref 1000000001)]) (List.forall_mem_cons.mpr ⟨⟨_, by simp, ax_le_rfl rfl⟩, (List.forall_mem_cons.mpr ⟨⟨_, by simp, ax_le_rfl rfl⟩, (List.forall_mem_cons.mpr ⟨⟨_, by simp, ax_le_rfl rfl⟩, (List.forall_mem_cons.mpr ⟨⟨_, by simp, ax_le_rfl rfl⟩, (List.forall_mem_cons.mpr ⟨⟨_, by simp, ax_le_rfl rfl⟩, (fun _ h => absurd h List.not_mem_nil)⟩)⟩)⟩)⟩)⟩) ?_
  exact AR.lt (by omega) (by omega) (k _ Ig9)
theorem lw_op37 (G : ty_G hy_I l) (i0 : 0 ≤ i.toInt) (i1 : i.toInt + 6 ≤ L) (hL : L ≤ 3072) (I : lw_I h) (k : ∀ h', lw_I h' → AR ax_ns l (ax_mm 285) 13 (ax_r L xs) P X 1363 [(4, .int i), (3, .ref 197), (2, .ref 181), (1, .ref 0), (0, .ref 1000000001)] [] h' bc bs) : AR ax_ns l (ax_mm 285) 13 (ax_r L xs) P X 1290 [(4, .int i), (3, .ref 197), (2, .ref 181), (1, .ref 0), (0, .ref 1000000001)] [] h (bc + 1177) (bs + 14024) := by
  refine AR.aload_n (ax_look_ok hk_285_1290).1 (x := .ref 0) rfl rfl ?_
  refine lw_sc hk_285_1291 hk_285_1292 hk_285_1294 hk_285_1295 hk_285_1296 rfl rfl (by decide) (by decide) (by decide) i0 i1 hL (fun y1 => ?_)
  show AR _ _ _ _ _ _ _ 1297 [(4, .int i), (3, .ref 197), (2, .ref 181), (1, .ref 0), (0, .ref 1000000001)] [.int y1, .ref 0] h _ _
  refine AR.aload_n (ax_look_ok hk_285_1297).1 (x := .ref 197) rfl rfl ?_
  refine lw_s (kd := 0) (bc' := bc + 1176) (bs' := bs + 14018) (as := [.ref 0, .int y1, .ref 197]) hk_285_1298 (by decide +kernel) rfl rfl (tk_187_ok G) rfl ⟨_, _, rfl, rfl, _, _, rfl, lw_ai _, _, _, rfl, rfl, rfl⟩ I (by decide +kernel) (by decide) (by show _ + 1 ≤ _; omega) (by show _ + 6 ≤ _; omega) (by decide +kernel) (fun x2 g3 qx2 Ig3 => ?_)
  obtain ⟨z4, rfl⟩ := qx2.1 rfl
  show AR _ _ _ _ _ _ _ 1301 [(4, .int i), (3, .ref 197), (2, .ref 181), (1, .ref 0), (0, .ref 1000000001)] [.int z4] g3 _ _
  refine AR.istore (ax_look_ok hk_285_1301).1 (by decide +kernel) rfl ?_
  show AR _ _ _ _ _ _ _ 1303 [(5, .int z4), (4, .int i), (3, .ref 197), (2, .ref 181), (1, .ref 0), (0, .ref 1000000001)] [] g3 _ _
  refine AR.aload_n (ax_look_ok hk_285_1303).1 (x := .ref 181) rfl rfl ?_
  refine lw_sc hk_285_1304 hk_285_1305 hk_285_1307 hk_285_1308 hk_285_1309 rfl rfl (by decide) (by decide) (by decide) i0 i1 hL (fun y5 => ?_)
  show AR _ _ _ _ _ _ _ 1310 [(5, .int z4), (4, .int i), (3, .ref 197), (2, .ref 181), (1, .ref 0), (0, .ref 1000000001)] [.int y5, .ref 181] g3 _ _
  refine lw_v (kd := 0) (bc' := bc + 1176) (bs' := bs + 14018) (r := 181) (as := [.int y5]) hk_285_1310 (by decide) (by decide +kernel) (by decide) (by decide +kernel) rfl rfl (tk_1182_ok G) rfl ⟨_, _, rfl, rfl, _, _, rfl, lw_ai _, rfl⟩ Ig3 (by decide +kernel) (by decide) (by show _ + 0 ≤ _; omega) (by show _ + 0 ≤ _; omega) (by decide +kernel) (fun x6 g7 qx6 Ig7 => ?_)
  obtain ⟨z8, rfl⟩ := qx6.1 rfl
  show AR _ _ _ _ _ _ _ 1313 [(5, .int z4), (4, .int i), (3, .ref 197), (2, .ref 181), (1, .ref 0), (0, .ref 1000000001)] [.int z8] g7 _ _
  refine AR.istore (ax_look_ok hk_285_1313).1 (by decide +kernel) rfl ?_
  show AR _ _ _ _ _ _ _ 1315 [(6, .int z8), (5, .int z4), (4, .int i), (3, .ref 197), (2, .ref 181), (1, .ref 0), (0, .ref 1000000001)] [] g7 _ _
  refine AR.goto (ax_look_ok hk_285_1315).1 (tgt := 1363) (by decide) ?_
  show AR _ _ _ _ _ _ _ 1363 [(6, .int z8), (5, .int z4), (4, .int i), (3, .ref 197), (2, .ref 181), (1, .ref 0), (0, .ref 1000000001)] [] g7 _ _
  refine AR.lessL (lv' := [(4, .int i), (3, .ref 197), (2, .ref 181), (1, .ref 0), (0, .ref 1000000001)]) (List.forall_mem_cons.mpr ⟨⟨_, by simp, ax_le_rfl rfl⟩, (List.forall_mem_cons.mpr ⟨⟨_, by simp, ax_le_rfl rfl⟩, (List.forall_mem_cons.mpr ⟨⟨_, by simp, ax_le_rfl rfl⟩, (List.forall_mem_cons.mpr ⟨⟨_, by simp, ax_le_rfl rfl⟩, (List.forall_mem_cons.mpr ⟨⟨_, by simp, ax_le_rfl rfl⟩, (fun _ h => absurd h List.not_mem_nil)⟩)⟩)⟩)⟩)⟩) ?_
  exact AR.lt (by omega) (by omega) (k _ Ig7)
theorem lw_op38 (G : ty_G hy_I l) (i0 : 0 ≤ i.toInt) (i1 : i.toInt + 6 ≤ L) (hL : L ≤ 3072) (I : lw_I h) (k : ∀ h', lw_I h' → AR ax_ns l (ax_mm 285) 13 (ax_r L xs) P X 1363 [(4, .int i), (3, .ref 197), (2, .ref 181), (1, .ref 0), (0, .ref 1000000001)] [] h' bc bs) : AR ax_ns l (ax_mm 285) 13 (ax_r L xs) P X 1318 [(4, .int i), (3, .ref 197), (2, .ref 181), (1, .ref 0), (0, .ref 1000000001)] [] h (bc + 1177) (bs + 14024) := by
  refine AR.aload_n (ax_look_ok hk_285_1318).1 (x := .ref 0) rfl rfl ?_
  refine AR.aload_n (ax_look_ok hk_285_1319).1 (x := .ref 197) rfl rfl ?_
  refine lw_s (kd := 0) (bc' := bc + 1176) (bs' := bs + 14018) (as := [.ref 0, .ref 197]) hk_285_1320 (by decide +kernel) rfl rfl (tk_191_ok G) rfl ⟨_, _, rfl, rfl, _, _, rfl, rfl, rfl⟩ I (by decide +kernel) (by decide) (by show _ + 1 ≤ _; omega) (by show _ + 6 ≤ _; omega) (by decide +kernel) (fun x1 g2 qx1 Ig2 => ?_)
  obtain ⟨z3, rfl⟩ := qx1.1 rfl
  show AR _ _ _ _ _ _ _ 1323 [(4, .int i), (3, .ref 197), (2, .ref 181), (1, .ref 0), (0, .ref 1000000001)] [.int z3] g2 _ _
  refine AR.istore (ax_look_ok hk_285_1323).1 (by decide +kernel) rfl ?_
  show AR _ _ _ _ _ _ _ 1325 [(5, .int z3), (4, .int i), (3, .ref 197), (2, .ref 181), (1, .ref 0), (0, .ref 1000000001)] [] g2 _ _
  refine AR.aload_n (ax_look_ok hk_285_1325).1 (x := .ref 181) rfl rfl ?_
  refine lw_v (kd := 0) (bc' := bc + 1176) (bs' := bs + 14018) (r := 181) (as := []) hk_285_1326 (by decide) (by decide +kernel) (by decide) (by decide +kernel) rfl rfl (tk_1183_ok G) rfl ⟨_, _, rfl, rfl, rfl⟩ Ig2 (by decide +kernel) (by decide) (by show _ + 0 ≤ _; omega) (by show _ + 0 ≤ _; omega) (by decide +kernel) (fun x4 g5 qx4 Ig5 => ?_)
  obtain ⟨z6, rfl⟩ := qx4.1 rfl
  show AR _ _ _ _ _ _ _ 1329 [(5, .int z3), (4, .int i), (3, .ref 197), (2, .ref 181), (1, .ref 0), (0, .ref 1000000001)] [.int z6] g5 _ _
  refine AR.istore (ax_look_ok hk_285_1329).1 (by decide +kernel) rfl ?_
  show AR _ _ _ _ _ _ _ 1331 [(6, .int z6), (5, .int z3), (4, .int i), (3, .ref 197), (2, .ref 181), (1, .ref 0), (0, .ref 1000000001)] [] g5 _ _
  refine AR.goto (ax_look_ok hk_285_1331).1 (tgt := 1363) (by decide) ?_
  show AR _ _ _ _ _ _ _ 1363 [(6, .int z6), (5, .int z3), (4, .int i), (3, .ref 197), (2, .ref 181), (1, .ref 0), (0, .ref 1000000001)] [] g5 _ _
  refine AR.lessL (lv' := [(4, .int i), (3, .ref 197), (2, .ref 181), (1, .ref 0), (0, .ref 1000000001)]) (List.forall_mem_cons.mpr ⟨⟨_, by simp, ax_le_rfl rfl⟩, (List.forall_mem_cons.mpr ⟨⟨_, by simp, ax_le_rfl rfl⟩, (List.forall_mem_cons.mpr ⟨⟨_, by simp, ax_le_rfl rfl⟩, (List.forall_mem_cons.mpr ⟨⟨_, by simp, ax_le_rfl rfl⟩, (List.forall_mem_cons.mpr ⟨⟨_, by simp, ax_le_rfl rfl⟩, (fun _ h => absurd h List.not_mem_nil)⟩)⟩)⟩)⟩)⟩) ?_
  exact AR.lt (by omega) (by omega) (k _ Ig5)
theorem lw_op39 (G : ty_G hy_I l) (i0 : 0 ≤ i.toInt) (i1 : i.toInt + 6 ≤ L) (hL : L ≤ 3072) (I : lw_I h) (k : ∀ h', lw_I h' → AR ax_ns l (ax_mm 285) 13 (ax_r L xs) P X 1363 [(4, .int i), (3, .ref 197), (2, .ref 181), (1, .ref 0), (0, .ref 1000000001)] [] h' bc bs) : AR ax_ns l (ax_mm 285) 13 (ax_r L xs) P X 1334 [(4, .int i), (3, .ref 197), (2, .ref 181), (1, .ref 0), (0, .ref 1000000001)] [] h (bc + 1177) (bs + 14024) := by
  refine AR.aload_n (ax_look_ok hk_285_1334).1 (x := .ref 0) rfl rfl ?_
  refine AR.aload_n (ax_look_ok hk_285_1335).1 (x := .ref 197) rfl rfl ?_
  refine lw_s (kd := 0) (bc' := bc + 1176) (bs' := bs + 14018) (as := [.ref 0, .ref 197]) hk_285_1336 (by decide +kernel) rfl rfl (tk_194_ok G) rfl ⟨_, _, rfl, rfl, _, _, rfl, rfl, rfl⟩ I (by decide +kernel) (by decide) (by show _ + 1 ≤ _; omega) (by show _ + 6 ≤ _; omega) (by decide +kernel) (fun x1 g2 qx1 Ig2 => ?_)
  obtain ⟨z3, rfl⟩ := qx1.1 rfl
  show AR _ _ _ _ _ _ _ 1339 [(4, .int i), (3, .ref 197), (2, .ref 181), (1, .ref 0), (0, .ref 1000000001)] [.int z3] g2 _ _
  refine AR.istore (ax_look_ok hk_285_1339).1 (by decide +kernel) rfl ?_
  show AR _ _ _ _ _ _ _ 1341 [(5, .int z3), (4, .int i), (3, .ref 197), (2, .ref 181), (1, .ref 0), (0, .ref 1000000001)] [] g2 _ _
  refine AR.aload_n (ax_look_ok hk_285_1341).1 (x := .ref 181) rfl rfl ?_
  refine lw_v (kd := 0) (bc' := bc + 1176) (bs' := bs + 14018) (r := 181) (as := []) hk_285_1342 (by decide) (by decide +kernel) (by decide) (by decide +kernel) rfl rfl (tk_1184_ok G) rfl ⟨_, _, rfl, rfl, rfl⟩ Ig2 (by decide +kernel) (by decide) (by show _ + 0 ≤ _; omega) (by show _ + 0 ≤ _; omega) (by decide +kernel) (fun x4 g5 qx4 Ig5 => ?_)
  obtain ⟨z6, rfl⟩ := qx4.1 rfl
  show AR _ _ _ _ _ _ _ 1345 [(5, .int z3), (4, .int i), (3, .ref 197), (2, .ref 181), (1, .ref 0), (0, .ref 1000000001)] [.int z6] g5 _ _
  refine AR.istore (ax_look_ok hk_285_1345).1 (by decide +kernel) rfl ?_
  show AR _ _ _ _ _ _ _ 1347 [(6, .int z6), (5, .int z3), (4, .int i), (3, .ref 197), (2, .ref 181), (1, .ref 0), (0, .ref 1000000001)] [] g5 _ _
  refine AR.goto (ax_look_ok hk_285_1347).1 (tgt := 1363) (by decide) ?_
  show AR _ _ _ _ _ _ _ 1363 [(6, .int z6), (5, .int z3), (4, .int i), (3, .ref 197), (2, .ref 181), (1, .ref 0), (0, .ref 1000000001)] [] g5 _ _
  refine AR.lessL (lv' := [(4, .int i), (3, .ref 197), (2, .ref 181), (1, .ref 0), (0, .ref 1000000001)]) (List.forall_mem_cons.mpr ⟨⟨_, by simp, ax_le_rfl rfl⟩, (List.forall_mem_cons.mpr ⟨⟨_, by simp, ax_le_rfl rfl⟩, (List.forall_mem_cons.mpr ⟨⟨_, by simp, ax_le_rfl rfl⟩, (List.forall_mem_cons.mpr ⟨⟨_, by simp, ax_le_rfl rfl⟩, (List.forall_mem_cons.mpr ⟨⟨_, by simp, ax_le_rfl rfl⟩, (fun _ h => absurd h List.not_mem_nil)⟩)⟩)⟩)⟩)⟩) ?_
  exact AR.lt (by omega) (by omega) (k _ Ig5)
theorem lw_op40 (G : ty_G hy_I l) (i0 : 0 ≤ i.toInt) (i1 : i.toInt + 6 ≤ L) (hL : L ≤ 3072) (I : lw_I h) (k : ∀ h', lw_I h' → AR ax_ns l (ax_mm 285) 13 (ax_r L xs) P X 1363 [(4, .int i), (3, .ref 197), (2, .ref 181), (1, .ref 0), (0, .ref 1000000001)] [] h' bc bs) : AR ax_ns l (ax_mm 285) 13 (ax_r L xs) P X 1350 [(4, .int i), (3, .ref 197), (2, .ref 181), (1, .ref 0), (0, .ref 1000000001)] [] h (bc + 1177) (bs + 14024) := by
  refine AR.aload_n (ax_look_ok hk_285_1350).1 (x := .ref 0) rfl rfl ?_
  refine lw_v (kd := 1) (bc' := bc + 1177) (bs' := bs + 14024) (r := 0) (as := []) hk_285_1351 (by decide) (by decide +kernel) (by decide) (by decide +kernel) rfl rfl (tk_203_ok G) rfl ⟨_, _, rfl, rfl, rfl⟩ I (by decide +kernel) (by decide) (by show _ + 0 ≤ _; omega) (by show _ + 0 ≤ _; omega) (by decide +kernel) (fun x1 g2 qx1 Ig2 => ?_)
  obtain ⟨z3, rfl⟩ := qx1.2 rfl
  show AR _ _ _ _ _ _ _ 1354 [(4, .int i), (3, .ref 197), (2, .ref 181), (1, .ref 0), (0, .ref 1000000001)] [.long z3] g2 _ _
  refine AR.pop2 (ax_look_ok hk_285_1354).1 rfl ?_
  refine AR.aload_n (ax_look_ok hk_285_1355).1 (x := .ref 181) rfl rfl ?_
  refine lw_v (kd := 1) (bc' := bc + 1177) (bs' := bs + 14024) (r := 181) (as := []) hk_285_1356 (by decide) (by decide +kernel) (by decide) (by decide +kernel) rfl rfl (tk_1185_ok G) rfl ⟨_, _, rfl, rfl, rfl⟩ Ig2 (by decide +kernel) (by decide) (by show _ + 0 ≤ _; omega) (by show _ + 0 ≤ _; omega) (by decide +kernel) (fun x4 g5 qx4 Ig5 => ?_)
  obtain ⟨z6, rfl⟩ := qx4.2 rfl
  show AR _ _ _ _ _ _ _ 1359 [(4, .int i), (3, .ref 197), (2, .ref 181), (1, .ref 0), (0, .ref 1000000001)] [.long z6] g5 _ _
  refine AR.pop2 (ax_look_ok hk_285_1359).1 rfl ?_
  refine AR.goto (ax_look_ok hk_285_1360).1 (tgt := 1363) (by decide) ?_
  show AR _ _ _ _ _ _ _ 1363 [(4, .int i), (3, .ref 197), (2, .ref 181), (1, .ref 0), (0, .ref 1000000001)] [] g5 _ _
  refine AR.lessL (lv' := [(4, .int i), (3, .ref 197), (2, .ref 181), (1, .ref 0), (0, .ref 1000000001)]) (List.forall_mem_cons.mpr ⟨⟨_, by simp, ax_le_rfl rfl⟩, (List.forall_mem_cons.mpr ⟨⟨_, by simp, ax_le_rfl rfl⟩, (List.forall_mem_cons.mpr ⟨⟨_, by simp, ax_le_rfl rfl⟩, (List.forall_mem_cons.mpr ⟨⟨_, by simp, ax_le_rfl rfl⟩, (List.forall_mem_cons.mpr ⟨⟨_, by simp, ax_le_rfl rfl⟩, (fun _ h => absurd h List.not_mem_nil)⟩)⟩)⟩)⟩)⟩) ?_
  exact AR.lt (by omega) (by omega) (k _ Ig5)
end LWO
