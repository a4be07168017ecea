theorem dX12_mapBy_262 : decode cX12_mapBy 262 = .ok (.istore 6, 2) := by decide +kernel
theorem dX12_mapBy_264 : decode cX12_mapBy 264 = .ok (.iconst 0, 1) := by decide +kernel
theorem dX12_mapBy_265 : decode cX12_mapBy 265 = .ok (.istore 7, 2) := by decide +kernel
theorem dX12_mapBy_267 : decode cX12_mapBy 267 = .ok (.iload 7, 2) := by decide +kernel
theorem dX12_mapBy_269 : decode cX12_mapBy 269 = .ok (.iload 6, 2) := by decide +kernel
theorem dX12_mapBy_271 : decode cX12_mapBy 271 = .ok (.iconst 2, 1) := by decide +kernel
theorem dX12_mapBy_272 : decode cX12_mapBy 272 = .ok (.idiv, 1) := by decide +kernel
theorem dX12_mapBy_273 : decode cX12_mapBy 273 = .ok (.if_icmp .ge 39, 3) := by decide +kernel
theorem dX12_mapBy_276 : decode cX12_mapBy 276 = .ok (.aload_n 0, 1) := by decide +kernel
theorem dX12_mapBy_277 : decode cX12_mapBy 277 = .ok (.getfield 114, 3) := by decide +kernel
theorem dX12_mapBy_280 : decode cX12_mapBy 280 = .ok (.ifCond .ne 32, 3) := by decide +kernel
theorem dX12_mapBy_283 : decode cX12_mapBy 283 = .ok (.aload_n 0, 1) := by decide +kernel
theorem dX12_mapBy_284 : decode cX12_mapBy 284 = .ok (.iload_n 1, 1) := by decide +kernel
theorem dX12_mapBy_285 : decode cX12_mapBy 285 = .ok (.lload_n 2, 1) := by decide +kernel
theorem dX12_mapBy_286 : decode cX12_mapBy 286 = .ok (.ldc2_w 273, 3) := by decide +kernel
theorem dX12_mapBy_289 : decode cX12_mapBy 289 = .ok (.ladd, 1) := by decide +kernel
theorem dX12_mapBy_290 : decode cX12_mapBy 290 = .ok (.ldc2_w 181, 3) := by decide +kernel
theorem dX12_mapBy_293 : decode cX12_mapBy 293 = .ok (.iload 7, 2) := by decide +kernel
theorem dX12_mapBy_295 : decode cX12_mapBy 295 = .ok (.i2l, 1) := by decide +kernel
theorem dX12_mapBy_296 : decode cX12_mapBy 296 = .ok (.lmul, 1) := by decide +kernel
theorem dX12_mapBy_297 : decode cX12_mapBy 297 = .ok (.ladd, 1) := by decide +kernel
theorem dX12_mapBy_298 : decode cX12_mapBy 298 = .ok (.invokevirtual 169, 3) := by decide +kernel
theorem dX12_mapBy_301 : decode cX12_mapBy 301 = .ok (.iload 5, 2) := by decide +kernel
theorem dX12_mapBy_303 : decode cX12_mapBy 303 = .ok (.if_icmp .ge 9, 3) := by decide +kernel
theorem dX12_mapBy_306 : decode cX12_mapBy 306 = .ok (.iinc 7 1, 3) := by decide +kernel
theorem dX12_mapBy_309 : decode cX12_mapBy 309 = .ok (.goto (-42), 3) := by decide +kernel
theorem dX12_mapBy_312 : decode cX12_mapBy 312 = .ok (.aload_n 0, 1) := by decide +kernel
theorem dX12_mapBy_313 : decode cX12_mapBy 313 = .ok (.getfield 114, 3) := by decide +kernel
theorem dX12_mapBy_316 : decode cX12_mapBy 316 = .ok (.ifCond .ne 12, 3) := by decide +kernel
theorem dX12_mapBy_319 : decode cX12_mapBy 319 = .ok (.iload 7, 2) := by decide +kernel
theorem dX12_mapBy_321 : decode cX12_mapBy 321 = .ok (.iload 6, 2) := by decide +kernel
theorem dX12_mapBy_323 : decode cX12_mapBy 323 = .ok (.iconst 2, 1) := by decide +kernel
theorem dX12_mapBy_324 : decode cX12_mapBy 324 = .ok (.idiv, 1) := by decide +kernel
theorem dX12_mapBy_325 : decode cX12_mapBy 325 = .ok (.if_icmp .lt 5, 3) := by decide +kernel
theorem dX12_mapBy_328 : decode cX12_mapBy 328 = .ok (.lconst 0, 1) := by decide +kernel
theorem dX12_mapBy_329 : decode cX12_mapBy 329 = .ok (.lreturn, 1) := by decide +kernel
theorem dX12_mapBy_330 : decode cX12_mapBy 330 = .ok (.aload_n 0, 1) := by decide +kernel
theorem dX12_mapBy_331 : decode cX12_mapBy 331 = .ok (.iload_n 1, 1) := by decide +kernel
theorem dX12_mapBy_332 : decode cX12_mapBy 332 = .ok (.lload_n 2, 1) := by decide +kernel
theorem dX12_mapBy_333 : decode cX12_mapBy 333 = .ok (.ldc2_w 267, 3) := by decide +kernel
theorem dX12_mapBy_336 : decode cX12_mapBy 336 = .ok (.ladd, 1) := by decide +kernel
theorem dX12_mapBy_337 : decode cX12_mapBy 337 = .ok (.iload 6, 2) := by decide +kernel
theorem dX12_mapBy_339 : decode cX12_mapBy 339 = .ok (.i2l, 1) := by decide +kernel
theorem dX12_mapBy_340 : decode cX12_mapBy 340 = .ok (.ladd, 1) := by decide +kernel
theorem dX12_mapBy_341 : decode cX12_mapBy 341 = .ok (.ldc2_w 181, 3) := by decide +kernel
theorem dX12_mapBy_344 : decode cX12_mapBy 344 = .ok (.iload 7, 2) := by decide +kernel
theorem dX12_mapBy_346 : decode cX12_mapBy 346 = .ok (.i2l, 1) := by decide +kernel
theorem dX12_mapBy_347 : decode cX12_mapBy 347 = .ok (.lmul, 1) := by decide +kernel
theorem dX12_mapBy_348 : decode cX12_mapBy 348 = .ok (.ladd, 1) := by decide +kernel
theorem dX12_mapBy_349 : decode cX12_mapBy 349 = .ok (.invokevirtual 169, 3) := by decide +kernel
theorem dX12_mapBy_352 : decode cX12_mapBy 352 = .ok (.istore 8, 2) := by decide +kernel
theorem dX12_mapBy_354 : decode cX12_mapBy 354 = .ok (.aload_n 0, 1) := by decide +kernel
theorem dX12_mapBy_355 : decode cX12_mapBy 355 = .ok (.iload_n 1, 1) := by decide +kernel
theorem dX12_mapBy_356 : decode cX12_mapBy 356 = .ok (.lload_n 2, 1) := by decide +kernel
theorem dX12_mapBy_357 : decode cX12_mapBy 357 = .ok (.ldc2_w 267, 3) := by decide +kernel
theorem dX12_mapBy_360 : decode cX12_mapBy 360 = .ok (.ladd, 1) := by decide +kernel
theorem dX12_mapBy_361 : decode cX12_mapBy 361 = .ok (.ldc2_w 181, 3) := by decide +kernel
theorem dX12_mapBy_364 : decode cX12_mapBy 364 = .ok (.iload 6, 2) := by decide +kernel
theorem dX12_mapBy_366 : decode cX12_mapBy 366 = .ok (.i2l, 1) := by decide +kernel
theorem dX12_mapBy_367 : decode cX12_mapBy 367 = .ok (.lmul, 1) := by decide +kernel
theorem dX12_mapBy_368 : decode cX12_mapBy 368 = .ok (.ladd, 1) := by decide +kernel
theorem dX12_mapBy_369 : decode cX12_mapBy 369 = .ok (.ldc2_w 181, 3) := by decide +kernel
theorem dX12_mapBy_372 : decode cX12_mapBy 372 = .ok (.iload 7, 2) := by decide +kernel
theorem dX12_mapBy_374 : decode cX12_mapBy 374 = .ok (.i2l, 1) := by decide +kernel
theorem dX12_mapBy_375 : decode cX12_mapBy 375 = .ok (.lmul, 1) := by decide +kernel
theorem dX12_mapBy_376 : decode cX12_mapBy 376 = .ok (.ladd, 1) := by decide +kernel
theorem dX12_mapBy_377 : decode cX12_mapBy 377 = .ok (.invokevirtual 169, 3) := by decide +kernel
theorem dX12_mapBy_380 : decode cX12_mapBy 380 = .ok (.istore 9, 2) := by decide +kernel
theorem dX12_mapBy_382 : decode cX12_mapBy 382 = .ok (.lload_n 2, 1) := by decide +kernel
theorem dX12_mapBy_383 : decode cX12_mapBy 383 = .ok (.ldc2_w 267, 3) := by decide +kernel
theorem dX12_mapBy_386 : decode cX12_mapBy 386 = .ok (.ladd, 1) := by decide +kernel
theorem dX12_mapBy_387 : decode cX12_mapBy 387 = .ok (.ldc2_w 275, 3) := by decide +kernel
theorem dX12_mapBy_390 : decode cX12_mapBy 390 = .ok (.iload 6, 2) := by decide +kernel
theorem dX12_mapBy_392 : decode cX12_mapBy 392 = .ok (.i2l, 1) := by decide +kernel
theorem dX12_mapBy_393 : decode cX12_mapBy 393 = .ok (.lmul, 1) := by decide +kernel
theorem dX12_mapBy_394 : decode cX12_mapBy 394 = .ok (.ladd, 1) := by decide +kernel
theorem dX12_mapBy_395 : decode cX12_mapBy 395 = .ok (.ldc2_w 181, 3) := by decide +kernel
theorem dX12_mapBy_398 : decode cX12_mapBy 398 = .ok (.iload 7, 2) := by decide +kernel
theorem dX12_mapBy_400 : decode cX12_mapBy 400 = .ok (.i2l, 1) := by decide +kernel
theorem dX12_mapBy_401 : decode cX12_mapBy 401 = .ok (.lmul, 1) := by decide +kernel
theorem dX12_mapBy_402 : decode cX12_mapBy 402 = .ok (.ladd, 1) := by decide +kernel
theorem dX12_mapBy_403 : decode cX12_mapBy 403 = .ok (.lstore 10, 2) := by decide +kernel
theorem dX12_mapBy_405 : decode cX12_mapBy 405 = .ok (.aload_n 0, 1) := by decide +kernel
theorem dX12_mapBy_406 : decode cX12_mapBy 406 = .ok (.getfield 114, 3) := by decide +kernel
theorem dX12_mapBy_409 : decode cX12_mapBy 409 = .ok (.ifCond .ne 10, 3) := by decide +kernel
theorem dX12_mapBy_412 : decode cX12_mapBy 412 = .ok (.iload 8, 2) := by decide +kernel
theorem dX12_mapBy_414 : decode cX12_mapBy 414 = .ok (.iload 5, 2) := by decide +kernel
theorem dX12_mapBy_416 : decode cX12_mapBy 416 = .ok (.if_icmp .le 5, 3) := by decide +kernel
theorem dX12_mapBy_419 : decode cX12_mapBy 419 = .ok (.lconst 0, 1) := by decide +kernel
theorem dX12_mapBy_420 : decode cX12_mapBy 420 = .ok (.lreturn, 1) := by decide +kernel
theorem dX12_mapBy_421 : decode cX12_mapBy 421 = .ok (.aload_n 0, 1) := by decide +kernel
theorem dX12_mapBy_422 : decode cX12_mapBy 422 = .ok (.iload_n 1, 1) := by decide +kernel
theorem dX12_mapBy_423 : decode cX12_mapBy 423 = .ok (.lload 10, 2) := by decide +kernel
theorem dX12_mapBy_425 : decode cX12_mapBy 425 = .ok (.invokevirtual 169, 3) := by decide +kernel
theorem dX12_mapBy_428 : decode cX12_mapBy 428 = .ok (.istore 12, 2) := by decide +kernel
theorem dX12_mapBy_430 : decode cX12_mapBy 430 = .ok (.iload 12, 2) := by decide +kernel
theorem dX12_mapBy_432 : decode cX12_mapBy 432 = .ok (.ifCond .ne 14, 3) := by decide +kernel
theorem dX12_mapBy_435 : decode cX12_mapBy 435 = .ok (.iload 5, 2) := by decide +kernel
theorem dX12_mapBy_437 : decode cX12_mapBy 437 = .ok (.iload 9, 2) := by decide +kernel
theorem dX12_mapBy_439 : decode cX12_mapBy 439 = .ok (.iadd, 1) := by decide +kernel
theorem dX12_mapBy_440 : decode cX12_mapBy 440 = .ok (.ldc_w 277, 3) := by decide +kernel
theorem dX12_mapBy_443 : decode cX12_mapBy 443 = .ok (.iand, 1) := by decide +kernel
theorem dX12_mapBy_444 : decode cX12_mapBy 444 = .ok (.i2l, 1) := by decide +kernel
theorem dX12_mapBy_445 : decode cX12_mapBy 445 = .ok (.lreturn, 1) := by decide +kernel
theorem dX12_mapBy_446 : decode cX12_mapBy 446 = .ok (.aload_n 0, 1) := by decide +kernel
theorem dX12_mapBy_447 : decode cX12_mapBy 447 = .ok (.iload_n 1, 1) := by decide +kernel
theorem dX12_mapBy_448 : decode cX12_mapBy 448 = .ok (.lload 10, 2) := by decide +kernel
theorem dX12_mapBy_450 : decode cX12_mapBy 450 = .ok (.iload 12, 2) := by decide +kernel
theorem dX12_mapBy_452 : decode cX12_mapBy 452 = .ok (.i2l, 1) := by decide +kernel
theorem dX12_mapBy_453 : decode cX12_mapBy 453 = .ok (.ladd, 1) := by decide +kernel
theorem dX12_mapBy_454 : decode cX12_mapBy 454 = .ok (.ldc2_w 181, 3) := by decide +kernel
theorem dX12_mapBy_457 : decode cX12_mapBy 457 = .ok (.iload 5, 2) := by decide +kernel
theorem dX12_mapBy_459 : decode cX12_mapBy 459 = .ok (.iload 8, 2) := by decide +kernel
theorem dX12_mapBy_461 : decode cX12_mapBy 461 = .ok (.isub, 1) := by decide +kernel
theorem dX12_mapBy_462 : decode cX12_mapBy 462 = .ok (.i2l, 1) := by decide +kernel
theorem dX12_mapBy_463 : decode cX12_mapBy 463 = .ok (.lmul, 1) := by decide +kernel
theorem dX12_mapBy_464 : decode cX12_mapBy 464 = .ok (.ladd, 1) := by decide +kernel
theorem dX12_mapBy_465 : decode cX12_mapBy 465 = .ok (.invokevirtual 169, 3) := by decide +kernel
theorem dX12_mapBy_468 : decode cX12_mapBy 468 = .ok (.istore 13, 2) := by decide +kernel
theorem dX12_mapBy_470 : decode cX12_mapBy 470 = .ok (.iload 13, 2) := by decide +kernel
theorem dX12_mapBy_472 : decode cX12_mapBy 472 = .ok (.ifCond .ne 7, 3) := by decide +kernel
theorem dX12_mapBy_475 : decode cX12_mapBy 475 = .ok (.lconst 0, 1) := by decide +kernel
theorem dX12_mapBy_476 : decode cX12_mapBy 476 = .ok (.goto 13, 3) := by decide +kernel
theorem dX12_mapBy_479 : decode cX12_mapBy 479 = .ok (.iload 13, 2) := by decide +kernel
theorem dX12_mapBy_481 : decode cX12_mapBy 481 = .ok (.iload 9, 2) := by decide +kernel
theorem dX12_mapBy_483 : decode cX12_mapBy 483 = .ok (.iadd, 1) := by decide +kernel
theorem dX12_mapBy_484 : decode cX12_mapBy 484 = .ok (.ldc_w 277, 3) := by decide +kernel
theorem dX12_mapBy_487 : decode cX12_mapBy 487 = .ok (.iand, 1) := by decide +kernel
theorem dX12_mapBy_488 : decode cX12_mapBy 488 = .ok (.i2l, 1) := by decide +kernel
theorem dX12_mapBy_489 : decode cX12_mapBy 489 = .ok (.lreturn, 1) := by decide +kernel
theorem dX12_map_0 : decode cX12_map 0 = .ok (.aload_n 0, 1) := by decide +kernel
theorem dX12_map_1 : decode cX12_map 1 = .ok (.iconst 0, 1) := by decide +kernel
theorem dX12_map_2 : decode cX12_map 2 = .ok (.putfield 96, 3) := by decide +kernel
theorem dX12_map_5 : decode cX12_map 5 = .ok (.aload_n 0, 1) := by decide +kernel
theorem dX12_map_6 : decode cX12_map 6 = .ok (.iconst 0, 1) := by decide +kernel
theorem dX12_map_7 : decode cX12_map 7 = .ok (.putfield 114, 3) := by decide +kernel
theorem dX12_map_10 : decode cX12_map 10 = .ok (.aload_n 0, 1) := by decide +kernel
theorem dX12_map_11 : decode cX12_map 11 = .ok (.ldc2_w 278, 3) := by decide +kernel
theorem dX12_map_14 : decode cX12_map 14 = .ok (.invokevirtual 127, 3) := by decide +kernel
theorem dX12_map_17 : decode cX12_map 17 = .ok (.istore_n 2, 1) := by decide +kernel
theorem dX12_map_18 : decode cX12_map 18 = .ok (.aload_n 0, 1) := by decide +kernel
theorem dX12_map_19 : decode cX12_map 19 = .ok (.iload_n 2, 1) := by decide +kernel
theorem dX12_map_20 : decode cX12_map 20 = .ok (.ldc2_w 181, 3) := by decide +kernel
theorem dX12_map_23 : decode cX12_map 23 = .ok (.invokevirtual 169, 3) := by decide +kernel
theorem dX12_map_26 : decode cX12_map 26 = .ok (.istore_n 3, 1) := by decide +kernel
theorem dX12_map_27 : decode cX12_map 27 = .ok (.iconst 0, 1) := by decide +kernel
theorem dX12_map_28 : decode cX12_map 28 = .ok (.istore 4, 2) := by decide +kernel
theorem dX12_map_30 : decode cX12_map 30 = .ok (.iload 4, 2) := by decide +kernel
theorem dX12_map_32 : decode cX12_map 32 = .ok (.iload_n 3, 1) := by decide +kernel
theorem dX12_map_33 : decode cX12_map 33 = .ok (.if_icmp .ge 133, 3) := by decide +kernel
theorem dX12_map_36 : decode cX12_map 36 = .ok (.aload_n 0, 1) := by decide +kernel
theorem dX12_map_37 : decode cX12_map 37 = .ok (.getfield 114, 3) := by decide +kernel
theorem dX12_map_40 : decode cX12_map 40 = .ok (.ifCond .ne 126, 3) := by decide +kernel
theorem dX12_map_43 : decode cX12_map 43 = .ok (.iload_n 1, 1) := by decide +kernel
theorem dX12_map_44 : decode cX12_map 44 = .ok (.ifCond .lt 122, 3) := by decide +kernel
theorem dX12_map_47 : decode cX12_map 47 = .ok (.aload_n 0, 1) := by decide +kernel
theorem dX12_map_48 : decode cX12_map 48 = .ok (.iload_n 2, 1) := by decide +kernel
theorem dX12_map_49 : decode cX12_map 49 = .ok (.ldc2_w 167, 3) := by decide +kernel
theorem dX12_map_52 : decode cX12_map 52 = .ok (.ldc2_w 100, 3) := by decide +kernel
theorem dX12_map_55 : decode cX12_map 55 = .ok (.iload 4, 2) := by decide +kernel
theorem dX12_map_57 : decode cX12_map 57 = .ok (.i2l, 1) := by decide +kernel
theorem dX12_map_58 : decode cX12_map 58 = .ok (.lmul, 1) := by decide +kernel
theorem dX12_map_59 : decode cX12_map 59 = .ok (.ladd, 1) := by decide +kernel
theorem dX12_map_60 : decode cX12_map 60 = .ok (.ldc2_w 167, 3) := by decide +kernel
theorem dX12_map_63 : decode cX12_map 63 = .ok (.ladd, 1) := by decide +kernel
theorem dX12_map_64 : decode cX12_map 64 = .ok (.iconst 4, 1) := by decide +kernel
theorem dX12_map_65 : decode cX12_map 65 = .ok (.invokevirtual 120, 3) := by decide +kernel
theorem dX12_map_68 : decode cX12_map 68 = .ok (.lstore 5, 2) := by decide +kernel
theorem dX12_map_70 : decode cX12_map 70 = .ok (.aload_n 0, 1) := by decide +kernel
theorem dX12_map_71 : decode cX12_map 71 = .ok (.getfield 114, 3) := by decide +kernel
theorem dX12_map_74 : decode cX12_map 74 = .ok (.ifCond .eq 7, 3) := by decide +kernel
theorem dX12_map_77 : decode cX12_map 77 = .ok (.iconst 0, 1) := by decide +kernel
theorem dX12_map_78 : decode cX12_map 78 = .ok (.goto 10, 3) := by decide +kernel
theorem dX12_map_81 : decode cX12_map 81 = .ok (.aload_n 0, 1) := by decide +kernel
theorem dX12_map_82 : decode cX12_map 82 = .ok (.iload_n 2, 1) := by decide +kernel
theorem dX12_map_83 : decode cX12_map 83 = .ok (.lload 5, 2) := by decide +kernel
theorem dX12_map_85 : decode cX12_map 85 = .ok (.invokevirtual 169, 3) := by decide +kernel
theorem dX12_map_88 : decode cX12_map 88 = .ok (.istore 7, 2) := by decide +kernel
theorem dX12_map_90 : decode cX12_map 90 = .ok (.aload_n 0, 1) := by decide +kernel
theorem dX12_map_91 : decode cX12_map 91 = .ok (.getfield 114, 3) := by decide +kernel
theorem dX12_map_94 : decode cX12_map 94 = .ok (.ifCond .ne 66, 3) := by decide +kernel
theorem dX12_map_97 : decode cX12_map 97 = .ok (.iload 7, 2) := by decide +kernel
theorem dX12_map_99 : decode cX12_map 99 = .ok (.ifCond .eq 23, 3) := by decide +kernel
theorem dX12_map_102 : decode cX12_map 102 = .ok (.iload 7, 2) := by decide +kernel
theorem dX12_map_104 : decode cX12_map 104 = .ok (.iconst 4, 1) := by decide +kernel
theorem dX12_map_105 : decode cX12_map 105 = .ok (.if_icmp .eq 17, 3) := by decide +kernel
theorem dX12_map_108 : decode cX12_map 108 = .ok (.iload 7, 2) := by decide +kernel
theorem dX12_map_110 : decode cX12_map 110 = .ok (.bipush 6, 2) := by decide +kernel
theorem dX12_map_112 : decode cX12_map 112 = .ok (.if_icmp .eq 10, 3) := by decide +kernel
theorem dX12_map_115 : decode cX12_map 115 = .ok (.iload 7, 2) := by decide +kernel
theorem dX12_map_117 : decode cX12_map 117 = .ok (.bipush 12, 2) := by decide +kernel
theorem dX12_map_119 : decode cX12_map 119 = .ok (.if_icmp .ne 41, 3) := by decide +kernel
theorem dX12_map_122 : decode cX12_map 122 = .ok (.aload_n 0, 1) := by decide +kernel
theorem dX12_map_123 : decode cX12_map 123 = .ok (.iload_n 2, 1) := by decide +kernel
theorem dX12_map_124 : decode cX12_map 124 = .ok (.lload 5, 2) := by decide +kernel
theorem dX12_map_126 : decode cX12_map 126 = .ok (.iload 7, 2) := by decide +kernel
theorem dX12_map_128 : decode cX12_map 128 = .ok (.iload_n 1, 1) := by decide +kernel
theorem dX12_map_129 : decode cX12_map 129 = .ok (.invokevirtual 280, 3) := by decide +kernel
theorem dX12_map_132 : decode cX12_map 132 = .ok (.lstore 8, 2) := by decide +kernel
theorem dX12_map_134 : decode cX12_map 134 = .ok (.aload_n 0, 1) := by decide +kernel
theorem dX12_map_135 : decode cX12_map 135 = .ok (.getfield 114, 3) := by decide +kernel
theorem dX12_map_138 : decode cX12_map 138 = .ok (.ifCond .ne 20, 3) := by decide +kernel
theorem dX12_map_141 : decode cX12_map 141 = .ok (.lload 8, 2) := by decide +kernel
theorem dX12_map_143 : decode cX12_map 143 = .ok (.aload_n 0, 1) := by decide +kernel
theorem dX12_map_144 : decode cX12_map 144 = .ok (.invokevirtual 173, 3) := by decide +kernel
theorem dX12_map_147 : decode cX12_map 147 = .ok (.i2l, 1) := by decide +kernel
theorem dX12_map_148 : decode cX12_map 148 = .ok (.lcmp, 1) := by decide +kernel
theorem dX12_map_149 : decode cX12_map 149 = .ok (.ifCond .ge 9, 3) := by decide +kernel
theorem dX12_map_152 : decode cX12_map 152 = .ok (.lload 8, 2) := by decide +kernel
theorem dX12_map_154 : decode cX12_map 154 = .ok (.l2i, 1) := by decide +kernel
theorem dX12_map_155 : decode cX12_map 155 = .ok (.goto 4, 3) := by decide +kernel
theorem dX12_map_158 : decode cX12_map 158 = .ok (.iconst 0, 1) := by decide +kernel
theorem dX12_map_159 : decode cX12_map 159 = .ok (.ireturn, 1) := by decide +kernel
theorem dX12_map_160 : decode cX12_map 160 = .ok (.iinc 4 1, 3) := by decide +kernel
theorem dX12_map_163 : decode cX12_map 163 = .ok (.goto (-133), 3) := by decide +kernel
theorem dX12_map_166 : decode cX12_map 166 = .ok (.iconst 0, 1) := by decide +kernel
theorem dX12_map_167 : decode cX12_map 167 = .ok (.ireturn, 1) := by decide +kernel
theorem dX12_width_0 : decode cX12_width 0 = .ok (.aload_n 0, 1) := by decide +kernel
theorem dX12_width_1 : decode cX12_width 1 = .ok (.iconst 0, 1) := by decide +kernel
theorem dX12_width_2 : decode cX12_width 2 = .ok (.putfield 96, 3) := by decide +kernel
theorem dX12_width_5 : decode cX12_width 5 = .ok (.aload_n 0, 1) := by decide +kernel
theorem dX12_width_6 : decode cX12_width 6 = .ok (.iload_n 1, 1) := by decide +kernel
theorem dX12_width_7 : decode cX12_width 7 = .ok (.invokevirtual 239, 3) := by decide +kernel
theorem dX12_width_10 : decode cX12_width 10 = .ok (.ifCond .ne 5, 3) := by decide +kernel
theorem dX12_width_13 : decode cX12_width 13 = .ok (.iconst 0, 1) := by decide +kernel
theorem dX12_width_14 : decode cX12_width 14 = .ok (.ireturn, 1) := by decide +kernel
theorem dX12_width_15 : decode cX12_width 15 = .ok (.aload_n 0, 1) := by decide +kernel
theorem dX12_width_16 : decode cX12_width 16 = .ok (.iconst 0, 1) := by decide +kernel
theorem dX12_width_17 : decode cX12_width 17 = .ok (.putfield 114, 3) := by decide +kernel
theorem dX12_width_20 : decode cX12_width 20 = .ok (.aload_n 0, 1) := by decide +kernel
theorem dX12_width_21 : decode cX12_width 21 = .ok (.aload_n 0, 1) := by decide +kernel
theorem dX12_width_22 : decode cX12_width 22 = .ok (.ldc2_w 284, 3) := by decide +kernel
theorem dX12_width_25 : decode cX12_width 25 = .ok (.invokevirtual 127, 3) := by decide +kernel
theorem dX12_width_28 : decode cX12_width 28 = .ok (.ldc2_w 286, 3) := by decide +kernel
theorem dX12_width_31 : decode cX12_width 31 = .ok (.invokevirtual 169, 3) := by decide +kernel
theorem dX12_width_34 : decode cX12_width 34 = .ok (.istore_n 2, 1) := by decide +kernel
theorem dX12_width_35 : decode cX12_width 35 = .ok (.iload_n 2, 1) := by decide +kernel
theorem dX12_width_36 : decode cX12_width 36 = .ok (.ifCond .ne 7, 3) := by decide +kernel
theorem dX12_width_39 : decode cX12_width 39 = .ok (.iconst 0, 1) := by decide +kernel
theorem dX12_width_40 : decode cX12_width 40 = .ok (.goto 33, 3) := by decide +kernel
theorem dX12_width_43 : decode cX12_width 43 = .ok (.aload_n 0, 1) := by decide +kernel
theorem dX12_width_44 : decode cX12_width 44 = .ok (.aload_n 0, 1) := by decide +kernel
theorem dX12_width_45 : decode cX12_width 45 = .ok (.ldc2_w 288, 3) := by decide +kernel
theorem dX12_width_48 : decode cX12_width 48 = .ok (.invokevirtual 127, 3) := by decide +kernel
theorem dX12_width_51 : decode cX12_width 51 = .ok (.ldc2_w 167, 3) := by decide +kernel
theorem dX12_width_54 : decode cX12_width 54 = .ok (.iload_n 1, 1) := by decide +kernel
theorem dX12_width_55 : decode cX12_width 55 = .ok (.iload_n 2, 1) := by decide +kernel
theorem dX12_width_56 : decode cX12_width 56 = .ok (.iconst 1, 1) := by decide +kernel
theorem dX12_width_57 : decode cX12_width 57 = .ok (.isub, 1) := by decide +kernel
theorem dX12_width_58 : decode cX12_width 58 = .ok (.if_icmp .ge 7, 3) := by decide +kernel
theorem dX12_width_61 : decode cX12_width 61 = .ok (.iload_n 1, 1) := by decide +kernel
theorem dX12_width_62 : decode cX12_width 62 = .ok (.goto 6, 3) := by decide +kernel
theorem dX12_width_65 : decode cX12_width 65 = .ok (.iload_n 2, 1) := by decide +kernel
theorem dX12_width_66 : decode cX12_width 66 = .ok (.iconst 1, 1) := by decide +kernel
theorem dX12_width_67 : decode cX12_width 67 = .ok (.isub, 1) := by decide +kernel
theorem dX12_width_68 : decode cX12_width 68 = .ok (.i2l, 1) := by decide +kernel
theorem dX12_width_69 : decode cX12_width 69 = .ok (.lmul, 1) := by decide +kernel
theorem dX12_width_70 : decode cX12_width 70 = .ok (.invokevirtual 169, 3) := by decide +kernel
theorem dX12_width_73 : decode cX12_width 73 = .ok (.istore_n 3, 1) := by decide +kernel
theorem dX12_width_74 : decode cX12_width 74 = .ok (.aload_n 0, 1) := by decide +kernel
theorem dX12_width_75 : decode cX12_width 75 = .ok (.getfield 114, 3) := by decide +kernel
theorem dX12_width_78 : decode cX12_width 78 = .ok (.ifCond .eq 7, 3) := by decide +kernel
theorem dX12_width_81 : decode cX12_width 81 = .ok (.iconst 0, 1) := by decide +kernel
theorem dX12_width_82 : decode cX12_width 82 = .ok (.goto 4, 3) := by decide +kernel
theorem dX12_width_85 : decode cX12_width 85 = .ok (.iload_n 3, 1) := by decide +kernel
theorem dX12_width_86 : decode cX12_width 86 = .ok (.ireturn, 1) := by decide +kernel
theorem dX12_kern_0 : decode cX12_kern 0 = .ok (.aload_n 0, 1) := by decide +kernel
theorem dX12_kern_1 : decode cX12_kern 1 = .ok (.iconst 0, 1) := by decide +kernel
theorem dX12_kern_2 : decode cX12_kern 2 = .ok (.putfield 96, 3) := by decide +kernel
theorem dX12_kern_5 : decode cX12_kern 5 = .ok (.aload_n 0, 1) := by decide +kernel
theorem dX12_kern_6 : decode cX12_kern 6 = .ok (.iconst 0, 1) := by decide +kernel
theorem dX12_kern_7 : decode cX12_kern 7 = .ok (.putfield 114, 3) := by decide +kernel
theorem dX12_kern_10 : decode cX12_kern 10 = .ok (.aload_n 0, 1) := by decide +kernel
theorem dX12_kern_11 : decode cX12_kern 11 = .ok (.ldc2_w 290, 3) := by decide +kernel
theorem dX12_kern_14 : decode cX12_kern 14 = .ok (.invokevirtual 127, 3) := by decide +kernel
theorem dX12_kern_17 : decode cX12_kern 17 = .ok (.istore_n 3, 1) := by decide +kernel
theorem dX12_kern_18 : decode cX12_kern 18 = .ok (.aload_n 0, 1) := by decide +kernel
theorem dX12_kern_19 : decode cX12_kern 19 = .ok (.iload_n 3, 1) := by decide +kernel
theorem dX12_kern_20 : decode cX12_kern 20 = .ok (.ldc2_w 263, 3) := by decide +kernel
theorem dX12_kern_23 : decode cX12_kern 23 = .ok (.invokevirtual 169, 3) := by decide +kernel
theorem dX12_kern_26 : decode cX12_kern 26 = .ok (.istore 4, 2) := by decide +kernel
theorem dX12_kern_28 : decode cX12_kern 28 = .ok (.iconst 0, 1) := by decide +kernel
theorem dX12_kern_29 : decode cX12_kern 29 = .ok (.istore 5, 2) := by decide +kernel
theorem dX12_kern_31 : decode cX12_kern 31 = .ok (.iload 5, 2) := by decide +kernel
theorem dX12_kern_33 : decode cX12_kern 33 = .ok (.iload 4, 2) := by decide +kernel
theorem dX12_kern_35 : decode cX12_kern 35 = .ok (.if_icmp .ge 95, 3) := by decide +kernel
theorem dX12_kern_38 : decode cX12_kern 38 = .ok (.aload_n 0, 1) := by decide +kernel
theorem dX12_kern_39 : decode cX12_kern 39 = .ok (.getfield 114, 3) := by decide +kernel
theorem dX12_kern_42 : decode cX12_kern 42 = .ok (.ifCond .ne 88, 3) := by decide +kernel
theorem dX12_kern_45 : decode cX12_kern 45 = .ok (.aload_n 0, 1) := by decide +kernel
theorem dX12_kern_46 : decode cX12_kern 46 = .ok (.iload_n 3, 1) := by decide +kernel
theorem dX12_kern_47 : decode cX12_kern 47 = .ok (.ldc2_w 292, 3) := by decide +kernel
theorem dX12_kern_50 : decode cX12_kern 50 = .ok (.ldc2_w 261, 3) := by decide +kernel
theorem dX12_kern_53 : decode cX12_kern 53 = .ok (.iload 5, 2) := by decide +kernel
theorem dX12_kern_55 : decode cX12_kern 55 = .ok (.i2l, 1) := by decide +kernel
theorem dX12_kern_56 : decode cX12_kern 56 = .ok (.lmul, 1) := by decide +kernel
theorem dX12_kern_57 : decode cX12_kern 57 = .ok (.ladd, 1) := by decide +kernel
theorem dX12_kern_58 : decode cX12_kern 58 = .ok (.invokevirtual 169, 3) := by decide +kernel
theorem dX12_kern_61 : decode cX12_kern 61 = .ok (.istore 6, 2) := by decide +kernel
theorem dX12_kern_63 : decode cX12_kern 63 = .ok (.aload_n 0, 1) := by decide +kernel
theorem dX12_kern_64 : decode cX12_kern 64 = .ok (.iload_n 3, 1) := by decide +kernel
theorem dX12_kern_65 : decode cX12_kern 65 = .ok (.ldc2_w 269, 3) := by decide +kernel
theorem dX12_kern_68 : decode cX12_kern 68 = .ok (.ldc2_w 261, 3) := by decide +kernel
theorem dX12_kern_71 : decode cX12_kern 71 = .ok (.iload 5, 2) := by decide +kernel
theorem dX12_kern_73 : decode cX12_kern 73 = .ok (.i2l, 1) := by decide +kernel
theorem dX12_kern_74 : decode cX12_kern 74 = .ok (.lmul, 1) := by decide +kernel
theorem dX12_kern_75 : decode cX12_kern 75 = .ok (.ladd, 1) := by decide +kernel
theorem dX12_kern_76 : decode cX12_kern 76 = .ok (.invokevirtual 169, 3) := by decide +kernel
theorem dX12_kern_79 : decode cX12_kern 79 = .ok (.istore 7, 2) := by decide +kernel
theorem dX12_kern_81 : decode cX12_kern 81 = .ok (.aload_n 0, 1) := by decide +kernel
theorem dX12_kern_82 : decode cX12_kern 82 = .ok (.iload_n 3, 1) := by decide +kernel
theorem dX12_kern_83 : decode cX12_kern 83 = .ok (.ldc2_w 294, 3) := by decide +kernel
theorem dX12_kern_86 : decode cX12_kern 86 = .ok (.ldc2_w 261, 3) := by decide +kernel
theorem dX12_kern_89 : decode cX12_kern 89 = .ok (.iload 5, 2) := by decide +kernel
theorem dX12_kern_91 : decode cX12_kern 91 = .ok (.i2l, 1) := by decide +kernel
theorem dX12_kern_92 : decode cX12_kern 92 = .ok (.lmul, 1) := by decide +kernel
theorem dX12_kern_93 : decode cX12_kern 93 = .ok (.ladd, 1) := by decide +kernel
theorem dX12_kern_94 : decode cX12_kern 94 = .ok (.invokevirtual 169, 3) := by decide +kernel
theorem dX12_kern_97 : decode cX12_kern 97 = .ok (.istore 8, 2) := by decide +kernel
theorem dX12_kern_99 : decode cX12_kern 99 = .ok (.aload_n 0, 1) := by decide +kernel
theorem dX12_kern_100 : decode cX12_kern 100 = .ok (.getfield 114, 3) := by decide +kernel
theorem dX12_kern_103 : decode cX12_kern 103 = .ok (.ifCond .ne 21, 3) := by decide +kernel
theorem dX12_kern_106 : decode cX12_kern 106 = .ok (.iload 6, 2) := by decide +kernel
theorem dX12_kern_108 : decode cX12_kern 108 = .ok (.iload_n 1, 1) := by decide +kernel
theorem dX12_kern_109 : decode cX12_kern 109 = .ok (.if_icmp .ne 15, 3) := by decide +kernel
theorem dX12_kern_112 : decode cX12_kern 112 = .ok (.iload 7, 2) := by decide +kernel
theorem dX12_kern_114 : decode cX12_kern 114 = .ok (.iload_n 2, 1) := by decide +kernel
theorem dX12_kern_115 : decode cX12_kern 115 = .ok (.if_icmp .ne 9, 3) := by decide +kernel
theorem dX12_kern_118 : decode cX12_kern 118 = .ok (.iload 8, 2) := by decide +kernel
theorem dX12_kern_120 : decode cX12_kern 120 = .ok (.invokestatic 210, 3) := by decide +kernel
theorem dX12_kern_123 : decode cX12_kern 123 = .ok (.ireturn, 1) := by decide +kernel
theorem dX12_kern_124 : decode cX12_kern 124 = .ok (.iinc 5 1, 3) := by decide +kernel
theorem dX12_kern_127 : decode cX12_kern 127 = .ok (.goto (-96), 3) := by decide +kernel
theorem dX12_kern_130 : decode cX12_kern 130 = .ok (.iconst 0, 1) := by decide +kernel
theorem dX12_kern_131 : decode cX12_kern 131 = .ok (.ireturn, 1) := by decide +kernel
theorem dX12_scaled_0 : decode cX12_scaled 0 = .ok (.aload_n 0, 1) := by decide +kernel
theorem dX12_scaled_1 : decode cX12_scaled 1 = .ok (.iconst 0, 1) := by decide +kernel
theorem dX12_scaled_2 : decode cX12_scaled 2 = .ok (.putfield 96, 3) := by decide +kernel
theorem dX12_scaled_5 : decode cX12_scaled 5 = .ok (.iload_n 2, 1) := by decide +kernel
theorem dX12_scaled_6 : decode cX12_scaled 6 = .ok (.i2l, 1) := by decide +kernel
theorem dX12_scaled_7 : decode cX12_scaled 7 = .ok (.lconst 0, 1) := by decide +kernel
theorem dX12_scaled_8 : decode cX12_scaled 8 = .ok (.ldc2_w 296, 3) := by decide +kernel
theorem dX12_scaled_11 : decode cX12_scaled 11 = .ok (.invokestatic 102, 3) := by decide +kernel
theorem dX12_scaled_14 : decode cX12_scaled 14 = .ok (.ifCond .ne 7, 3) := by decide +kernel
theorem dX12_scaled_17 : decode cX12_scaled 17 = .ok (.ldc2_w 163, 3) := by decide +kernel
theorem dX12_scaled_20 : decode cX12_scaled 20 = .ok (.lreturn, 1) := by decide +kernel
theorem dX12_scaled_21 : decode cX12_scaled 21 = .ok (.aload_n 0, 1) := by decide +kernel
theorem dX12_scaled_22 : decode cX12_scaled 22 = .ok (.iconst 0, 1) := by decide +kernel
theorem dX12_scaled_23 : decode cX12_scaled 23 = .ok (.putfield 114, 3) := by decide +kernel
theorem dX12_scaled_26 : decode cX12_scaled 26 = .ok (.aload_n 0, 1) := by decide +kernel
theorem dX12_scaled_27 : decode cX12_scaled 27 = .ok (.aload_n 0, 1) := by decide +kernel
theorem dX12_scaled_28 : decode cX12_scaled 28 = .ok (.ldc2_w 125, 3) := by decide +kernel
theorem dX12_scaled_31 : decode cX12_scaled 31 = .ok (.invokevirtual 127, 3) := by decide +kernel
theorem dX12_scaled_34 : decode cX12_scaled 34 = .ok (.ldc2_w 292, 3) := by decide +kernel
theorem dX12_scaled_37 : decode cX12_scaled 37 = .ok (.invokevirtual 169, 3) := by decide +kernel
theorem dX12_scaled_40 : decode cX12_scaled 40 = .ok (.i2l, 1) := by decide +kernel
theorem dX12_scaled_41 : decode cX12_scaled 41 = .ok (.lstore_n 3, 1) := by decide +kernel
theorem dX12_scaled_42 : decode cX12_scaled 42 = .ok (.aload_n 0, 1) := by decide +kernel
theorem dX12_scaled_43 : decode cX12_scaled 43 = .ok (.getfield 114, 3) := by decide +kernel
theorem dX12_scaled_46 : decode cX12_scaled 46 = .ok (.ifCond .ne 9, 3) := by decide +kernel
theorem dX12_scaled_49 : decode cX12_scaled 49 = .ok (.lload_n 3, 1) := by decide +kernel
theorem dX12_scaled_50 : decode cX12_scaled 50 = .ok (.lconst 0, 1) := by decide +kernel
theorem dX12_scaled_51 : decode cX12_scaled 51 = .ok (.lcmp, 1) := by decide +kernel
theorem dX12_scaled_52 : decode cX12_scaled 52 = .ok (.ifCond .ne 5, 3) := by decide +kernel
theorem dX12_scaled_55 : decode cX12_scaled 55 = .ok (.lconst 0, 1) := by decide +kernel
theorem dX12_scaled_56 : decode cX12_scaled 56 = .ok (.lreturn, 1) := by decide +kernel
theorem dX12_scaled_57 : decode cX12_scaled 57 = .ok (.ldc2_w 298, 3) := by decide +kernel
theorem dX12_scaled_60 : decode cX12_scaled 60 = .ok (.iload_n 2, 1) := by decide +kernel
theorem dX12_scaled_61 : decode cX12_scaled 61 = .ok (.i2l, 1) := by decide +kernel
theorem dX12_scaled_62 : decode cX12_scaled 62 = .ok (.lmul, 1) := by decide +kernel
theorem dX12_scaled_63 : decode cX12_scaled 63 = .ok (.iload_n 1, 1) := by decide +kernel
theorem dX12_scaled_64 : decode cX12_scaled 64 = .ok (.i2l, 1) := by decide +kernel
theorem dX12_scaled_65 : decode cX12_scaled 65 = .ok (.lmul, 1) := by decide +kernel
theorem dX12_scaled_66 : decode cX12_scaled 66 = .ok (.lload_n 3, 1) := by decide +kernel
theorem dX12_scaled_67 : decode cX12_scaled 67 = .ok (.ladd, 1) := by decide +kernel
theorem dX12_scaled_68 : decode cX12_scaled 68 = .ok (.lstore 5, 2) := by decide +kernel
theorem dX12_scaled_70 : decode cX12_scaled 70 = .ok (.lload 5, 2) := by decide +kernel
theorem dX12_scaled_72 : decode cX12_scaled 72 = .ok (.ldc2_w 181, 3) := by decide +kernel
theorem dX12_scaled_75 : decode cX12_scaled 75 = .ok (.lload_n 3, 1) := by decide +kernel
theorem dX12_scaled_76 : decode cX12_scaled 76 = .ok (.lmul, 1) := by decide +kernel
theorem dX12_scaled_77 : decode cX12_scaled 77 = .ok (.ldiv, 1) := by decide +kernel
theorem dX12_scaled_78 : decode cX12_scaled 78 = .ok (.lstore 7, 2) := by decide +kernel
theorem dX12_scaled_80 : decode cX12_scaled 80 = .ok (.lload 5, 2) := by decide +kernel
theorem dX12_scaled_82 : decode cX12_scaled 82 = .ok (.ldc2_w 181, 3) := by decide +kernel
theorem dX12_scaled_85 : decode cX12_scaled 85 = .ok (.lload_n 3, 1) := by decide +kernel
theorem dX12_scaled_86 : decode cX12_scaled 86 = .ok (.lmul, 1) := by decide +kernel
theorem dX12_scaled_87 : decode cX12_scaled 87 = .ok (.lrem, 1) := by decide +kernel
theorem dX12_scaled_88 : decode cX12_scaled 88 = .ok (.lconst 0, 1) := by decide +kernel
theorem dX12_scaled_89 : decode cX12_scaled 89 = .ok (.lcmp, 1) := by decide +kernel
theorem dX12_scaled_90 : decode cX12_scaled 90 = .ok (.ifCond .ge 10, 3) := by decide +kernel
theorem dX12_scaled_93 : decode cX12_scaled 93 = .ok (.lload 7, 2) := by decide +kernel
theorem dX12_scaled_95 : decode cX12_scaled 95 = .ok (.lconst 1, 1) := by decide +kernel
theorem dX12_scaled_96 : decode cX12_scaled 96 = .ok (.lsub, 1) := by decide +kernel
theorem dX12_scaled_97 : decode cX12_scaled 97 = .ok (.goto 5, 3) := by decide +kernel
theorem dX12_scaled_100 : decode cX12_scaled 100 = .ok (.lload 7, 2) := by decide +kernel
theorem dX12_scaled_102 : decode cX12_scaled 102 = .ok (.lreturn, 1) := by decide +kernel
theorem dX12_useParts_0 : decode cX12_useParts 0 = .ok (.iconst 0, 1) := by decide +kernel
theorem dX12_useParts_1 : decode cX12_useParts 1 = .ok (.istore_n 2, 1) := by decide +kernel
theorem dX12_useParts_2 : decode cX12_useParts 2 = .ok (.aload_n 0, 1) := by decide +kernel
theorem dX12_useParts_3 : decode cX12_useParts 3 = .ok (.iload_n 1, 1) := by decide +kernel
theorem dX12_useParts_4 : decode cX12_useParts 4 = .ok (.invokevirtual 216, 3) := by decide +kernel
theorem dX12_useParts_7 : decode cX12_useParts 7 = .ok (.ifCond .eq 26, 3) := by decide +kernel
theorem dX12_useParts_10 : decode cX12_useParts 10 = .ok (.aload_n 0, 1) := by decide +kernel
theorem dX12_useParts_11 : decode cX12_useParts 11 = .ok (.getfield 186, 3) := by decide +kernel
theorem dX12_useParts_14 : decode cX12_useParts 14 = .ok (.ifCond .ne 19, 3) := by decide +kernel
theorem dX12_useParts_17 : decode cX12_useParts 17 = .ok (.aload_n 0, 1) := by decide +kernel
theorem dX12_useParts_18 : decode cX12_useParts 18 = .ok (.iconst 0, 1) := by decide +kernel
theorem dX12_useParts_19 : decode cX12_useParts 19 = .ok (.iconst 2, 1) := by decide +kernel
theorem dX12_useParts_20 : decode cX12_useParts 20 = .ok (.invokevirtual 199, 3) := by decide +kernel
theorem dX12_useParts_23 : decode cX12_useParts 23 = .ok (.invokestatic 210, 3) := by decide +kernel
theorem dX12_useParts_26 : decode cX12_useParts 26 = .ok (.ifCond .ge 7, 3) := by decide +kernel
theorem dX12_useParts_29 : decode cX12_useParts 29 = .ok (.iconst 1, 1) := by decide +kernel
theorem dX12_useParts_30 : decode cX12_useParts 30 = .ok (.goto 4, 3) := by decide +kernel
theorem dX12_useParts_33 : decode cX12_useParts 33 = .ok (.iconst 0, 1) := by decide +kernel
theorem dX12_useParts_34 : decode cX12_useParts 34 = .ok (.istore_n 3, 1) := by decide +kernel
theorem dX12_useParts_35 : decode cX12_useParts 35 = .ok (.bipush 10, 2) := by decide +kernel
theorem dX12_useParts_37 : decode cX12_useParts 37 = .ok (.istore 4, 2) := by decide +kernel
theorem dX12_useParts_39 : decode cX12_useParts 39 = .ok (.iload_n 3, 1) := by decide +kernel
theorem dX12_useParts_40 : decode cX12_useParts 40 = .ok (.ifCond .eq 107, 3) := by decide +kernel
theorem dX12_useParts_43 : decode cX12_useParts 43 = .ok (.aload_n 0, 1) := by decide +kernel
theorem dX12_useParts_44 : decode cX12_useParts 44 = .ok (.getfield 114, 3) := by decide +kernel
theorem dX12_useParts_47 : decode cX12_useParts 47 = .ok (.ifCond .ne 100, 3) := by decide +kernel
theorem dX12_useParts_50 : decode cX12_useParts 50 = .ok (.iload 4, 2) := by decide +kernel
theorem dX12_useParts_52 : decode cX12_useParts 52 = .ok (.aload_n 0, 1) := by decide +kernel
theorem dX12_useParts_53 : decode cX12_useParts 53 = .ok (.bipush 7, 2) := by decide +kernel
theorem dX12_useParts_55 : decode cX12_useParts 55 = .ok (.iload 4, 2) := by decide +kernel
theorem dX12_useParts_57 : decode cX12_useParts 57 = .ok (.invokevirtual 236, 3) := by decide +kernel
theorem dX12_useParts_60 : decode cX12_useParts 60 = .ok (.iadd, 1) := by decide +kernel
theorem dX12_useParts_61 : decode cX12_useParts 61 = .ok (.istore 4, 2) := by decide +kernel
theorem dX12_useParts_63 : decode cX12_useParts 63 = .ok (.aload_n 0, 1) := by decide +kernel
theorem dX12_useParts_64 : decode cX12_useParts 64 = .ok (.getfield 114, 3) := by decide +kernel
theorem dX12_useParts_67 : decode cX12_useParts 67 = .ok (.ifCond .ne (-28), 3) := by decide +kernel
theorem dX12_useParts_70 : decode cX12_useParts 70 = .ok (.aload_n 0, 1) := by decide +kernel
theorem dX12_useParts_71 : decode cX12_useParts 71 = .ok (.getfield 69, 3) := by decide +kernel
theorem dX12_useParts_74 : decode cX12_useParts 74 = .ok (.bipush 7, 2) := by decide +kernel
theorem dX12_useParts_76 : decode cX12_useParts 76 = .ok (.iaload, 1) := by decide +kernel
theorem dX12_useParts_77 : decode cX12_useParts 77 = .ok (.istore 5, 2) := by decide +kernel
theorem dX12_useParts_79 : decode cX12_useParts 79 = .ok (.aload_n 0, 1) := by decide +kernel
theorem dX12_useParts_80 : decode cX12_useParts 80 = .ok (.iload 5, 2) := by decide +kernel
theorem dX12_useParts_82 : decode cX12_useParts 82 = .ok (.invokevirtual 239, 3) := by decide +kernel
theorem dX12_useParts_85 : decode cX12_useParts 85 = .ok (.istore 6, 2) := by decide +kernel
theorem dX12_useParts_87 : decode cX12_useParts 87 = .ok (.iload_n 2, 1) := by decide +kernel
theorem dX12_useParts_88 : decode cX12_useParts 88 = .ok (.ifCond .ne 18, 3) := by decide +kernel
theorem dX12_useParts_91 : decode cX12_useParts 91 = .ok (.iload 6, 2) := by decide +kernel
theorem dX12_useParts_93 : decode cX12_useParts 93 = .ok (.ifCond .eq 17, 3) := by decide +kernel
theorem dX12_useParts_96 : decode cX12_useParts 96 = .ok (.aload_n 0, 1) := by decide +kernel
theorem dX12_useParts_97 : decode cX12_useParts 97 = .ok (.getfield 26, 3) := by decide +kernel
theorem dX12_useParts_100 : decode cX12_useParts 100 = .ok (.iload 5, 2) := by decide +kernel
theorem dX12_useParts_102 : decode cX12_useParts 102 = .ok (.baload, 1) := by decide +kernel
theorem dX12_useParts_103 : decode cX12_useParts 103 = .ok (.ifCond .ne 7, 3) := by decide +kernel
theorem dX12_useParts_106 : decode cX12_useParts 106 = .ok (.iconst 1, 1) := by decide +kernel
theorem dX12_useParts_107 : decode cX12_useParts 107 = .ok (.goto 4, 3) := by decide +kernel
theorem dX12_useParts_110 : decode cX12_useParts 110 = .ok (.iconst 0, 1) := by decide +kernel
theorem dX12_useParts_111 : decode cX12_useParts 111 = .ok (.istore_n 2, 1) := by decide +kernel
theorem dX12_useParts_112 : decode cX12_useParts 112 = .ok (.iload 6, 2) := by decide +kernel
theorem dX12_useParts_114 : decode cX12_useParts 114 = .ok (.ifCond .eq 11, 3) := by decide +kernel
theorem dX12_useParts_117 : decode cX12_useParts 117 = .ok (.aload_n 0, 1) := by decide +kernel
theorem dX12_useParts_118 : decode cX12_useParts 118 = .ok (.getfield 26, 3) := by decide +kernel
theorem dX12_useParts_121 : decode cX12_useParts 121 = .ok (.iload 5, 2) := by decide +kernel
theorem dX12_useParts_123 : decode cX12_useParts 123 = .ok (.iconst 1, 1) := by decide +kernel
theorem dX12_useParts_124 : decode cX12_useParts 124 = .ok (.bastore, 1) := by decide +kernel
theorem dX12_useParts_125 : decode cX12_useParts 125 = .ok (.aload_n 0, 1) := by decide +kernel
theorem dX12_useParts_126 : decode cX12_useParts 126 = .ok (.getfield 75, 3) := by decide +kernel
theorem dX12_useParts_129 : decode cX12_useParts 129 = .ok (.bipush 7, 2) := by decide +kernel
theorem dX12_useParts_131 : decode cX12_useParts 131 = .ok (.iaload, 1) := by decide +kernel
theorem dX12_useParts_132 : decode cX12_useParts 132 = .ok (.bipush 32, 2) := by decide +kernel
theorem dX12_useParts_134 : decode cX12_useParts 134 = .ok (.iand, 1) := by decide +kernel
theorem dX12_useParts_135 : decode cX12_useParts 135 = .ok (.ifCond .eq 7, 3) := by decide +kernel
theorem dX12_useParts_138 : decode cX12_useParts 138 = .ok (.iconst 1, 1) := by decide +kernel
theorem dX12_useParts_139 : decode cX12_useParts 139 = .ok (.goto 4, 3) := by decide +kernel
theorem dX12_useParts_142 : decode cX12_useParts 142 = .ok (.iconst 0, 1) := by decide +kernel
theorem dX12_useParts_143 : decode cX12_useParts 143 = .ok (.istore_n 3, 1) := by decide +kernel
theorem dX12_useParts_144 : decode cX12_useParts 144 = .ok (.goto (-105), 3) := by decide +kernel
theorem dX12_useParts_147 : decode cX12_useParts 147 = .ok (.iload_n 2, 1) := by decide +kernel
theorem dX12_useParts_148 : decode cX12_useParts 148 = .ok (.ireturn, 1) := by decide +kernel
theorem dX12_cut_0 : decode cX12_cut 0 = .ok (.aload_n 0, 1) := by decide +kernel
theorem dX12_cut_1 : decode cX12_cut 1 = .ok (.iconst 0, 1) := by decide +kernel
theorem dX12_cut_2 : decode cX12_cut 2 = .ok (.putfield 96, 3) := by decide +kernel
theorem dX12_cut_5 : decode cX12_cut 5 = .ok (.aload_n 0, 1) := by decide +kernel
theorem dX12_cut_6 : decode cX12_cut 6 = .ok (.iload_n 1, 1) := by decide +kernel
theorem dX12_cut_7 : decode cX12_cut 7 = .ok (.invokevirtual 239, 3) := by decide +kernel
theorem dX12_cut_10 : decode cX12_cut 10 = .ok (.ifCond .ne 5, 3) := by decide +kernel
theorem dX12_cut_13 : decode cX12_cut 13 = .ok (.iconst (-1), 1) := by decide +kernel
theorem dX12_cut_14 : decode cX12_cut 14 = .ok (.ireturn, 1) := by decide +kernel
theorem dX12_cut_15 : decode cX12_cut 15 = .ok (.aload_n 0, 1) := by decide +kernel
theorem dX12_cut_16 : decode cX12_cut 16 = .ok (.getfield 26, 3) := by decide +kernel
theorem dX12_cut_19 : decode cX12_cut 19 = .ok (.iload_n 1, 1) := by decide +kernel
theorem dX12_cut_20 : decode cX12_cut 20 = .ok (.iconst 1, 1) := by decide +kernel
theorem dX12_cut_21 : decode cX12_cut 21 = .ok (.bastore, 1) := by decide +kernel
theorem dX12_cut_22 : decode cX12_cut 22 = .ok (.iconst 1, 1) := by decide +kernel
theorem dX12_cut_23 : decode cX12_cut 23 = .ok (.istore_n 2, 1) := by decide +kernel
theorem dX12_cut_24 : decode cX12_cut 24 = .ok (.iload_n 2, 1) := by decide +kernel
theorem dX12_cut_25 : decode cX12_cut 25 = .ok (.ifCond .eq 50, 3) := by decide +kernel
theorem dX12_cut_28 : decode cX12_cut 28 = .ok (.iconst 0, 1) := by decide +kernel
theorem dX12_cut_29 : decode cX12_cut 29 = .ok (.istore_n 2, 1) := by decide +kernel
theorem dX12_cut_30 : decode cX12_cut 30 = .ok (.iconst 0, 1) := by decide +kernel
theorem dX12_cut_31 : decode cX12_cut 31 = .ok (.istore_n 3, 1) := by decide +kernel
theorem dX12_cut_32 : decode cX12_cut 32 = .ok (.iload_n 3, 1) := by decide +kernel
theorem dX12_cut_33 : decode cX12_cut 33 = .ok (.sipush 200, 3) := by decide +kernel
theorem dX12_cut_36 : decode cX12_cut 36 = .ok (.if_icmp .ge 36, 3) := by decide +kernel
theorem dX12_cut_39 : decode cX12_cut 39 = .ok (.aload_n 0, 1) := by decide +kernel
theorem dX12_cut_40 : decode cX12_cut 40 = .ok (.getfield 26, 3) := by decide +kernel
theorem dX12_cut_43 : decode cX12_cut 43 = .ok (.iload_n 3, 1) := by decide +kernel
theorem dX12_cut_44 : decode cX12_cut 44 = .ok (.baload, 1) := by decide +kernel
theorem dX12_cut_45 : decode cX12_cut 45 = .ok (.ifCond .eq 11, 3) := by decide +kernel
theorem dX12_cut_48 : decode cX12_cut 48 = .ok (.aload_n 0, 1) := by decide +kernel
theorem dX12_cut_49 : decode cX12_cut 49 = .ok (.iload_n 3, 1) := by decide +kernel
theorem dX12_cut_50 : decode cX12_cut 50 = .ok (.invokevirtual 300, 3) := by decide +kernel
theorem dX12_cut_53 : decode cX12_cut 53 = .ok (.ifCond .ne 7, 3) := by decide +kernel
theorem dX12_cut_56 : decode cX12_cut 56 = .ok (.iload_n 2, 1) := by decide +kernel
theorem dX12_cut_57 : decode cX12_cut 57 = .ok (.ifCond .eq 7, 3) := by decide +kernel
theorem dX12_cut_60 : decode cX12_cut 60 = .ok (.iconst 1, 1) := by decide +kernel
theorem dX12_cut_61 : decode cX12_cut 61 = .ok (.goto 4, 3) := by decide +kernel
theorem dX12_cut_64 : decode cX12_cut 64 = .ok (.iconst 0, 1) := by decide +kernel
theorem dX12_cut_65 : decode cX12_cut 65 = .ok (.istore_n 2, 1) := by decide +kernel
theorem dX12_cut_66 : decode cX12_cut 66 = .ok (.iinc 3 1, 3) := by decide +kernel
theorem dX12_cut_69 : decode cX12_cut 69 = .ok (.goto (-37), 3) := by decide +kernel
theorem dX12_cut_72 : decode cX12_cut 72 = .ok (.goto (-48), 3) := by decide +kernel
theorem dX12_cut_75 : decode cX12_cut 75 = .ok (.aload_n 0, 1) := by decide +kernel
theorem dX12_cut_76 : decode cX12_cut 76 = .ok (.iconst 2, 1) := by decide +kernel
theorem dX12_cut_77 : decode cX12_cut 77 = .ok (.invokevirtual 303, 3) := by decide +kernel
theorem dX12_cut_80 : decode cX12_cut 80 = .ok (.ireturn, 1) := by decide +kernel
theorem dX12_put_0 : decode cX12_put 0 = .ok (.aload_n 0, 1) := by decide +kernel
theorem dX12_put_1 : decode cX12_put 1 = .ok (.getfield 306, 3) := by decide +kernel
theorem dX12_put_4 : decode cX12_put 4 = .ok (.sipush 2400, 3) := by decide +kernel
theorem dX12_put_7 : decode cX12_put 7 = .ok (.if_icmp .ge 26, 3) := by decide +kernel
theorem dX12_put_10 : decode cX12_put 10 = .ok (.aload_n 0, 1) := by decide +kernel
theorem dX12_put_11 : decode cX12_put 11 = .ok (.getfield 90, 3) := by decide +kernel
theorem dX12_put_14 : decode cX12_put 14 = .ok (.aload_n 0, 1) := by decide +kernel
theorem dX12_put_15 : decode cX12_put 15 = .ok (.getfield 306, 3) := by decide +kernel
theorem dX12_put_18 : decode cX12_put 18 = .ok (.iload_n 1, 1) := by decide +kernel
theorem dX12_put_19 : decode cX12_put 19 = .ok (.iastore, 1) := by decide +kernel
theorem dX12_put_20 : decode cX12_put 20 = .ok (.aload_n 0, 1) := by decide +kernel
theorem dX12_put_21 : decode cX12_put 21 = .ok (.dup, 1) := by decide +kernel
theorem dX12_put_22 : decode cX12_put 22 = .ok (.getfield 306, 3) := by decide +kernel
theorem dX12_put_25 : decode cX12_put 25 = .ok (.iconst 1, 1) := by decide +kernel
theorem dX12_put_26 : decode cX12_put 26 = .ok (.iadd, 1) := by decide +kernel
theorem dX12_put_27 : decode cX12_put 27 = .ok (.putfield 306, 3) := by decide +kernel
theorem dX12_put_30 : decode cX12_put 30 = .ok (.goto 8, 3) := by decide +kernel
theorem dX12_put_33 : decode cX12_put 33 = .ok (.aload_n 0, 1) := by decide +kernel
theorem dX12_put_34 : decode cX12_put 34 = .ok (.iconst 1, 1) := by decide +kernel
theorem dX12_put_35 : decode cX12_put 35 = .ok (.putfield 309, 3) := by decide +kernel
theorem dX12_put_38 : decode cX12_put 38 = .ok (.return_, 1) := by decide +kernel
theorem dX12_putNumber_0 : decode cX12_putNumber 0 = .ok (.iload_n 3, 1) := by decide +kernel
theorem dX12_putNumber_1 : decode cX12_putNumber 1 = .ok (.iconst 1, 1) := by decide +kernel
theorem dX12_putNumber_2 : decode cX12_putNumber 2 = .ok (.isub, 1) := by decide +kernel
theorem dX12_putNumber_3 : decode cX12_putNumber 3 = .ok (.istore 4, 2) := by decide +kernel
theorem dX12_putNumber_5 : decode cX12_putNumber 5 = .ok (.iload 4, 2) := by decide +kernel
theorem dX12_putNumber_7 : decode cX12_putNumber 7 = .ok (.ifCond .lt 25, 3) := by decide +kernel
theorem dX12_putNumber_10 : decode cX12_putNumber 10 = .ok (.aload_n 0, 1) := by decide +kernel
theorem dX12_putNumber_11 : decode cX12_putNumber 11 = .ok (.lload_n 1, 1) := by decide +kernel
theorem dX12_putNumber_12 : decode cX12_putNumber 12 = .ok (.bipush 8, 2) := by decide +kernel
theorem dX12_putNumber_14 : decode cX12_putNumber 14 = .ok (.iload 4, 2) := by decide +kernel
theorem dX12_putNumber_16 : decode cX12_putNumber 16 = .ok (.imul, 1) := by decide +kernel
theorem dX12_putNumber_17 : decode cX12_putNumber 17 = .ok (.lshr, 1) := by decide +kernel
theorem dX12_putNumber_18 : decode cX12_putNumber 18 = .ok (.ldc2_w 109, 3) := by decide +kernel
theorem dX12_putNumber_21 : decode cX12_putNumber 21 = .ok (.land, 1) := by decide +kernel
theorem dX12_putNumber_22 : decode cX12_putNumber 22 = .ok (.l2i, 1) := by decide +kernel
theorem dX12_putNumber_23 : decode cX12_putNumber 23 = .ok (.invokevirtual 312, 3) := by decide +kernel
theorem dX12_putNumber_26 : decode cX12_putNumber 26 = .ok (.iinc 4 (-1), 3) := by decide +kernel
theorem dX12_putNumber_29 : decode cX12_putNumber 29 = .ok (.goto (-24), 3) := by decide +kernel
theorem dX12_putNumber_32 : decode cX12_putNumber 32 = .ok (.return_, 1) := by decide +kernel
theorem dX12_setFour_0 : decode cX12_setFour 0 = .ok (.iconst 0, 1) := by decide +kernel
theorem dX12_setFour_1 : decode cX12_setFour 1 = .ok (.istore 4, 2) := by decide +kernel
theorem dX12_setFour_3 : decode cX12_setFour 3 = .ok (.iload 4, 2) := by decide +kernel
theorem dX12_setFour_5 : decode cX12_setFour 5 = .ok (.iconst 4, 1) := by decide +kernel
theorem dX12_setFour_6 : decode cX12_setFour 6 = .ok (.if_icmp .ge 43, 3) := by decide +kernel
theorem dX12_setFour_9 : decode cX12_setFour 9 = .ok (.iload_n 1, 1) := by decide +kernel
theorem dX12_setFour_10 : decode cX12_setFour 10 = .ok (.iload 4, 2) := by decide +kernel
theorem dX12_setFour_12 : decode cX12_setFour 12 = .ok (.iadd, 1) := by decide +kernel
theorem dX12_setFour_13 : decode cX12_setFour 13 = .ok (.sipush 2400, 3) := by decide +kernel
theorem dX12_setFour_16 : decode cX12_setFour 16 = .ok (.if_icmp .ge 33, 3) := by decide +kernel
theorem dX12_setFour_19 : decode cX12_setFour 19 = .ok (.aload_n 0, 1) := by decide +kernel
theorem dX12_setFour_20 : decode cX12_setFour 20 = .ok (.getfield 90, 3) := by decide +kernel
theorem dX12_setFour_23 : decode cX12_setFour 23 = .ok (.iload_n 1, 1) := by decide +kernel
theorem dX12_setFour_24 : decode cX12_setFour 24 = .ok (.iload 4, 2) := by decide +kernel
theorem dX12_setFour_26 : decode cX12_setFour 26 = .ok (.iadd, 1) := by decide +kernel
theorem dX12_setFour_27 : decode cX12_setFour 27 = .ok (.lload_n 2, 1) := by decide +kernel
theorem dX12_setFour_28 : decode cX12_setFour 28 = .ok (.bipush 24, 2) := by decide +kernel
theorem dX12_setFour_30 : decode cX12_setFour 30 = .ok (.bipush 8, 2) := by decide +kernel
theorem dX12_setFour_32 : decode cX12_setFour 32 = .ok (.iload 4, 2) := by decide +kernel
theorem dX12_setFour_34 : decode cX12_setFour 34 = .ok (.imul, 1) := by decide +kernel
theorem dX12_setFour_35 : decode cX12_setFour 35 = .ok (.isub, 1) := by decide +kernel
theorem dX12_setFour_36 : decode cX12_setFour 36 = .ok (.lshr, 1) := by decide +kernel
theorem dX12_setFour_37 : decode cX12_setFour 37 = .ok (.ldc2_w 109, 3) := by decide +kernel
theorem dX12_setFour_40 : decode cX12_setFour 40 = .ok (.land, 1) := by decide +kernel
theorem dX12_setFour_41 : decode cX12_setFour 41 = .ok (.l2i, 1) := by decide +kernel
theorem dX12_setFour_42 : decode cX12_setFour 42 = .ok (.iastore, 1) := by decide +kernel
theorem dX12_setFour_43 : decode cX12_setFour 43 = .ok (.iinc 4 1, 3) := by decide +kernel
theorem dX12_setFour_46 : decode cX12_setFour 46 = .ok (.goto (-43), 3) := by decide +kernel
theorem dX12_setFour_49 : decode cX12_setFour 49 = .ok (.return_, 1) := by decide +kernel
theorem dX12_even_0 : decode cX12_even 0 = .ok (.aload_n 0, 1) := by decide +kernel
theorem dX12_even_1 : decode cX12_even 1 = .ok (.getfield 306, 3) := by decide +kernel
theorem dX12_even_4 : decode cX12_even 4 = .ok (.iconst 4, 1) := by decide +kernel
theorem dX12_even_5 : decode cX12_even 5 = .ok (.irem, 1) := by decide +kernel
theorem dX12_even_6 : decode cX12_even 6 = .ok (.ifCond .eq 18, 3) := by decide +kernel
theorem dX12_even_9 : decode cX12_even 9 = .ok (.aload_n 0, 1) := by decide +kernel
theorem dX12_even_10 : decode cX12_even 10 = .ok (.getfield 309, 3) := by decide +kernel
theorem dX12_even_13 : decode cX12_even 13 = .ok (.ifCond .ne 11, 3) := by decide +kernel
theorem dX12_even_16 : decode cX12_even 16 = .ok (.aload_n 0, 1) := by decide +kernel
theorem dX12_even_17 : decode cX12_even 17 = .ok (.iconst 0, 1) := by decide +kernel
theorem dX12_even_18 : decode cX12_even 18 = .ok (.invokevirtual 312, 3) := by decide +kernel
theorem dX12_even_21 : decode cX12_even 21 = .ok (.goto (-21), 3) := by decide +kernel
theorem dX12_even_24 : decode cX12_even 24 = .ok (.return_, 1) := by decide +kernel
theorem dX12_goes_0 : decode cX12_goes 0 = .ok (.aload_n 0, 1) := by decide +kernel
theorem dX12_goes_1 : decode cX12_goes 1 = .ok (.getfield 26, 3) := by decide +kernel
theorem dX12_goes_4 : decode cX12_goes 4 = .ok (.iload_n 1, 1) := by decide +kernel
theorem dX12_goes_5 : decode cX12_goes 5 = .ok (.baload, 1) := by decide +kernel
theorem dX12_goes_6 : decode cX12_goes 6 = .ok (.ifCond .eq 45, 3) := by decide +kernel
theorem dX12_goes_9 : decode cX12_goes 9 = .ok (.aload_n 0, 1) := by decide +kernel
theorem dX12_goes_10 : decode cX12_goes 10 = .ok (.iload_n 1, 1) := by decide +kernel
theorem dX12_goes_11 : decode cX12_goes 11 = .ok (.invokevirtual 216, 3) := by decide +kernel
theorem dX12_goes_14 : decode cX12_goes 14 = .ok (.ifCond .eq 37, 3) := by decide +kernel
theorem dX12_goes_17 : decode cX12_goes 17 = .ok (.aload_n 0, 1) := by decide +kernel
theorem dX12_goes_18 : decode cX12_goes 18 = .ok (.getfield 191, 3) := by decide +kernel
theorem dX12_goes_21 : decode cX12_goes 21 = .ok (.aload_n 0, 1) := by decide +kernel
theorem dX12_goes_22 : decode cX12_goes 22 = .ok (.getfield 194, 3) := by decide +kernel
theorem dX12_goes_25 : decode cX12_goes 25 = .ok (.if_icmp .ge 26, 3) := by decide +kernel
theorem dX12_goes_28 : decode cX12_goes 28 = .ok (.aload_n 0, 1) := by decide +kernel
theorem dX12_goes_29 : decode cX12_goes 29 = .ok (.getfield 194, 3) := by decide +kernel
theorem dX12_goes_32 : decode cX12_goes 32 = .ok (.aload_n 0, 1) := by decide +kernel
theorem dX12_goes_33 : decode cX12_goes 33 = .ok (.getfield 23, 3) := by decide +kernel
theorem dX12_goes_36 : decode cX12_goes 36 = .ok (.aload_n 0, 1) := by decide +kernel
theorem dX12_goes_37 : decode cX12_goes 37 = .ok (.ldc2_w 197, 3) := by decide +kernel
theorem dX12_goes_40 : decode cX12_goes 40 = .ok (.invokevirtual 127, 3) := by decide +kernel
theorem dX12_goes_43 : decode cX12_goes 43 = .ok (.iaload, 1) := by decide +kernel
theorem dX12_goes_44 : decode cX12_goes 44 = .ok (.if_icmp .gt 7, 3) := by decide +kernel
theorem dX12_goes_47 : decode cX12_goes 47 = .ok (.iconst 1, 1) := by decide +kernel
theorem dX12_goes_48 : decode cX12_goes 48 = .ok (.goto 4, 3) := by decide +kernel
theorem dX12_goes_51 : decode cX12_goes 51 = .ok (.iconst 0, 1) := by decide +kernel
theorem dX12_goes_52 : decode cX12_goes 52 = .ok (.ireturn, 1) := by decide +kernel
theorem dX12_putGlyf_0 : decode cX12_putGlyf 0 = .ok (.iconst 0, 1) := by decide +kernel
theorem dX12_putGlyf_1 : decode cX12_putGlyf 1 = .ok (.istore_n 2, 1) := by decide +kernel
theorem dX12_putGlyf_2 : decode cX12_putGlyf 2 = .ok (.iload_n 2, 1) := by decide +kernel
theorem dX12_putGlyf_3 : decode cX12_putGlyf 3 = .ok (.iload_n 1, 1) := by decide +kernel
theorem dX12_putGlyf_4 : decode cX12_putGlyf 4 = .ok (.if_icmp .ge 83, 3) := by decide +kernel
theorem dX12_putGlyf_7 : decode cX12_putGlyf 7 = .ok (.aload_n 0, 1) := by decide +kernel
theorem dX12_putGlyf_8 : decode cX12_putGlyf 8 = .ok (.iload_n 2, 1) := by decide +kernel
theorem dX12_putGlyf_9 : decode cX12_putGlyf 9 = .ok (.invokevirtual 315, 3) := by decide +kernel
theorem dX12_putGlyf_12 : decode cX12_putGlyf 12 = .ok (.ifCond .eq 69, 3) := by decide +kernel
theorem dX12_putGlyf_15 : decode cX12_putGlyf 15 = .ok (.aload_n 0, 1) := by decide +kernel
theorem dX12_putGlyf_16 : decode cX12_putGlyf 16 = .ok (.getfield 191, 3) := by decide +kernel
theorem dX12_putGlyf_19 : decode cX12_putGlyf 19 = .ok (.istore_n 3, 1) := by decide +kernel
theorem dX12_putGlyf_20 : decode cX12_putGlyf 20 = .ok (.aload_n 0, 1) := by decide +kernel
theorem dX12_putGlyf_21 : decode cX12_putGlyf 21 = .ok (.getfield 194, 3) := by decide +kernel
theorem dX12_putGlyf_24 : decode cX12_putGlyf 24 = .ok (.istore 4, 2) := by decide +kernel
theorem dX12_putGlyf_26 : decode cX12_putGlyf 26 = .ok (.iload_n 3, 1) := by decide +kernel
theorem dX12_putGlyf_27 : decode cX12_putGlyf 27 = .ok (.istore 5, 2) := by decide +kernel
theorem dX12_putGlyf_29 : decode cX12_putGlyf 29 = .ok (.iload 5, 2) := by decide +kernel
theorem dX12_putGlyf_31 : decode cX12_putGlyf 31 = .ok (.iload 4, 2) := by decide +kernel
theorem dX12_putGlyf_33 : decode cX12_putGlyf 33 = .ok (.if_icmp .ge 33, 3) := by decide +kernel
theorem dX12_putGlyf_36 : decode cX12_putGlyf 36 = .ok (.aload_n 0, 1) := by decide +kernel
theorem dX12_putGlyf_37 : decode cX12_putGlyf 37 = .ok (.aload_n 0, 1) := by decide +kernel
theorem dX12_putGlyf_38 : decode cX12_putGlyf 38 = .ok (.getfield 7, 3) := by decide +kernel
theorem dX12_putGlyf_41 : decode cX12_putGlyf 41 = .ok (.aload_n 0, 1) := by decide +kernel
theorem dX12_putGlyf_42 : decode cX12_putGlyf 42 = .ok (.getfield 20, 3) := by decide +kernel
theorem dX12_putGlyf_45 : decode cX12_putGlyf 45 = .ok (.aload_n 0, 1) := by decide +kernel
theorem dX12_putGlyf_46 : decode cX12_putGlyf 46 = .ok (.ldc2_w 197, 3) := by decide +kernel
theorem dX12_putGlyf_49 : decode cX12_putGlyf 49 = .ok (.invokevirtual 127, 3) := by decide +kernel
theorem dX12_putGlyf_52 : decode cX12_putGlyf 52 = .ok (.iaload, 1) := by decide +kernel
theorem dX12_putGlyf_53 : decode cX12_putGlyf 53 = .ok (.iload 5, 2) := by decide +kernel
theorem dX12_putGlyf_55 : decode cX12_putGlyf 55 = .ok (.iadd, 1) := by decide +kernel
theorem dX12_putGlyf_56 : decode cX12_putGlyf 56 = .ok (.iaload, 1) := by decide +kernel
theorem dX12_putGlyf_57 : decode cX12_putGlyf 57 = .ok (.invokevirtual 312, 3) := by decide +kernel
theorem dX12_putGlyf_60 : decode cX12_putGlyf 60 = .ok (.iinc 5 1, 3) := by decide +kernel
theorem dX12_putGlyf_63 : decode cX12_putGlyf 63 = .ok (.goto (-34), 3) := by decide +kernel
theorem dX12_putGlyf_66 : decode cX12_putGlyf 66 = .ok (.iload 4, 2) := by decide +kernel
theorem dX12_putGlyf_68 : decode cX12_putGlyf 68 = .ok (.iload_n 3, 1) := by decide +kernel
theorem dX12_putGlyf_69 : decode cX12_putGlyf 69 = .ok (.isub, 1) := by decide +kernel
theorem dX12_putGlyf_70 : decode cX12_putGlyf 70 = .ok (.iconst 2, 1) := by decide +kernel
theorem dX12_putGlyf_71 : decode cX12_putGlyf 71 = .ok (.irem, 1) := by decide +kernel
theorem dX12_putGlyf_72 : decode cX12_putGlyf 72 = .ok (.iconst 1, 1) := by decide +kernel
theorem dX12_putGlyf_73 : decode cX12_putGlyf 73 = .ok (.if_icmp .ne 8, 3) := by decide +kernel
theorem dX12_putGlyf_76 : decode cX12_putGlyf 76 = .ok (.aload_n 0, 1) := by decide +kernel
theorem dX12_putGlyf_77 : decode cX12_putGlyf 77 = .ok (.iconst 0, 1) := by decide +kernel
theorem dX12_putGlyf_78 : decode cX12_putGlyf 78 = .ok (.invokevirtual 312, 3) := by decide +kernel
theorem dX12_putGlyf_81 : decode cX12_putGlyf 81 = .ok (.iinc 2 1, 3) := by decide +kernel
theorem dX12_putGlyf_84 : decode cX12_putGlyf 84 = .ok (.goto (-82), 3) := by decide +kernel
theorem dX12_putGlyf_87 : decode cX12_putGlyf 87 = .ok (.return_, 1) := by decide +kernel
theorem dX12_putLoca_0 : decode cX12_putLoca 0 = .ok (.lconst 0, 1) := by decide +kernel
theorem dX12_putLoca_1 : decode cX12_putLoca 1 = .ok (.lstore_n 3, 1) := by decide +kernel
theorem dX12_putLoca_2 : decode cX12_putLoca 2 = .ok (.iconst 0, 1) := by decide +kernel
theorem dX12_putLoca_3 : decode cX12_putLoca 3 = .ok (.istore 5, 2) := by decide +kernel
theorem dX12_putLoca_5 : decode cX12_putLoca 5 = .ok (.iload 5, 2) := by decide +kernel
theorem dX12_putLoca_7 : decode cX12_putLoca 7 = .ok (.iload_n 1, 1) := by decide +kernel
theorem dX12_putLoca_8 : decode cX12_putLoca 8 = .ok (.if_icmp .gt 69, 3) := by decide +kernel
theorem dX12_putLoca_11 : decode cX12_putLoca 11 = .ok (.aload_n 0, 1) := by decide +kernel
theorem dX12_putLoca_12 : decode cX12_putLoca 12 = .ok (.iload_n 2, 1) := by decide +kernel
theorem dX12_putLoca_13 : decode cX12_putLoca 13 = .ok (.ifCond .eq 7, 3) := by decide +kernel
theorem dX12_putLoca_16 : decode cX12_putLoca 16 = .ok (.lload_n 3, 1) := by decide +kernel
theorem dX12_putLoca_17 : decode cX12_putLoca 17 = .ok (.goto 8, 3) := by decide +kernel
theorem dX12_putLoca_20 : decode cX12_putLoca 20 = .ok (.lload_n 3, 1) := by decide +kernel
theorem dX12_putLoca_21 : decode cX12_putLoca 21 = .ok (.ldc2_w 181, 3) := by decide +kernel
theorem dX12_putLoca_24 : decode cX12_putLoca 24 = .ok (.ldiv, 1) := by decide +kernel
theorem dX12_putLoca_25 : decode cX12_putLoca 25 = .ok (.iload_n 2, 1) := by decide +kernel
theorem dX12_putLoca_26 : decode cX12_putLoca 26 = .ok (.ifCond .eq 7, 3) := by decide +kernel
theorem dX12_putLoca_29 : decode cX12_putLoca 29 = .ok (.iconst 4, 1) := by decide +kernel
theorem dX12_putLoca_30 : decode cX12_putLoca 30 = .ok (.goto 4, 3) := by decide +kernel
theorem dX12_putLoca_33 : decode cX12_putLoca 33 = .ok (.iconst 2, 1) := by decide +kernel
theorem dX12_putLoca_34 : decode cX12_putLoca 34 = .ok (.invokevirtual 318, 3) := by decide +kernel
theorem dX12_putLoca_37 : decode cX12_putLoca 37 = .ok (.iload 5, 2) := by decide +kernel
theorem dX12_putLoca_39 : decode cX12_putLoca 39 = .ok (.iload_n 1, 1) := by decide +kernel
theorem dX12_putLoca_40 : decode cX12_putLoca 40 = .ok (.if_icmp .ge 31, 3) := by decide +kernel
theorem dX12_putLoca_43 : decode cX12_putLoca 43 = .ok (.aload_n 0, 1) := by decide +kernel
theorem dX12_putLoca_44 : decode cX12_putLoca 44 = .ok (.iload 5, 2) := by decide +kernel
theorem dX12_putLoca_46 : decode cX12_putLoca 46 = .ok (.invokevirtual 315, 3) := by decide +kernel
theorem dX12_putLoca_49 : decode cX12_putLoca 49 = .ok (.ifCond .eq 22, 3) := by decide +kernel
theorem dX12_putLoca_52 : decode cX12_putLoca 52 = .ok (.lload_n 3, 1) := by decide +kernel
theorem dX12_putLoca_53 : decode cX12_putLoca 53 = .ok (.aload_n 0, 1) := by decide +kernel
theorem dX12_putLoca_54 : decode cX12_putLoca 54 = .ok (.getfield 194, 3) := by decide +kernel
theorem dX12_putLoca_57 : decode cX12_putLoca 57 = .ok (.aload_n 0, 1) := by decide +kernel
theorem dX12_putLoca_58 : decode cX12_putLoca 58 = .ok (.getfield 191, 3) := by decide +kernel
theorem dX12_putLoca_61 : decode cX12_putLoca 61 = .ok (.isub, 1) := by decide +kernel
theorem dX12_putLoca_62 : decode cX12_putLoca 62 = .ok (.iconst 1, 1) := by decide +kernel
theorem dX12_putLoca_63 : decode cX12_putLoca 63 = .ok (.iadd, 1) := by decide +kernel
theorem dX12_putLoca_64 : decode cX12_putLoca 64 = .ok (.iconst 2, 1) := by decide +kernel
theorem dX12_putLoca_65 : decode cX12_putLoca 65 = .ok (.idiv, 1) := by decide +kernel
theorem dX12_putLoca_66 : decode cX12_putLoca 66 = .ok (.iconst 2, 1) := by decide +kernel
theorem dX12_putLoca_67 : decode cX12_putLoca 67 = .ok (.imul, 1) := by decide +kernel
theorem dX12_putLoca_68 : decode cX12_putLoca 68 = .ok (.i2l, 1) := by decide +kernel
theorem dX12_putLoca_69 : decode cX12_putLoca 69 = .ok (.ladd, 1) := by decide +kernel
theorem dX12_putLoca_70 : decode cX12_putLoca 70 = .ok (.lstore_n 3, 1) := by decide +kernel
theorem dX12_putLoca_71 : decode cX12_putLoca 71 = .ok (.iinc 5 1, 3) := by decide +kernel
theorem dX12_putLoca_74 : decode cX12_putLoca 74 = .ok (.goto (-69), 3) := by decide +kernel
theorem dX12_putLoca_77 : decode cX12_putLoca 77 = .ok (.return_, 1) := by decide +kernel
theorem dX12_sumWritten_0 : decode cX12_sumWritten 0 = .ok (.lconst 0, 1) := by decide +kernel
theorem dX12_sumWritten_1 : decode cX12_sumWritten 1 = .ok (.lstore_n 3, 1) := by decide +kernel
theorem dX12_sumWritten_2 : decode cX12_sumWritten 2 = .ok (.iload_n 1, 1) := by decide +kernel
theorem dX12_sumWritten_3 : decode cX12_sumWritten 3 = .ok (.istore 5, 2) := by decide +kernel
theorem dX12_sumWritten_5 : decode cX12_sumWritten 5 = .ok (.iload 5, 2) := by decide +kernel
theorem dX12_sumWritten_7 : decode cX12_sumWritten 7 = .ok (.iload_n 2, 1) := by decide +kernel
theorem dX12_sumWritten_8 : decode cX12_sumWritten 8 = .ok (.if_icmp .ge 33, 3) := by decide +kernel
theorem dX12_sumWritten_11 : decode cX12_sumWritten 11 = .ok (.lload_n 3, 1) := by decide +kernel
theorem dX12_sumWritten_12 : decode cX12_sumWritten 12 = .ok (.aload_n 0, 1) := by decide +kernel
theorem dX12_sumWritten_13 : decode cX12_sumWritten 13 = .ok (.getfield 90, 3) := by decide +kernel
theorem dX12_sumWritten_16 : decode cX12_sumWritten 16 = .ok (.iload 5, 2) := by decide +kernel
theorem dX12_sumWritten_18 : decode cX12_sumWritten 18 = .ok (.iaload, 1) := by decide +kernel
theorem dX12_sumWritten_19 : decode cX12_sumWritten 19 = .ok (.i2l, 1) := by decide +kernel
theorem dX12_sumWritten_20 : decode cX12_sumWritten 20 = .ok (.bipush 24, 2) := by decide +kernel
theorem dX12_sumWritten_22 : decode cX12_sumWritten 22 = .ok (.bipush 8, 2) := by decide +kernel
theorem dX12_sumWritten_24 : decode cX12_sumWritten 24 = .ok (.iload 5, 2) := by decide +kernel
theorem dX12_sumWritten_26 : decode cX12_sumWritten 26 = .ok (.iload_n 1, 1) := by decide +kernel
theorem dX12_sumWritten_27 : decode cX12_sumWritten 27 = .ok (.isub, 1) := by decide +kernel
theorem dX12_sumWritten_28 : decode cX12_sumWritten 28 = .ok (.iconst 4, 1) := by decide +kernel
theorem dX12_sumWritten_29 : decode cX12_sumWritten 29 = .ok (.irem, 1) := by decide +kernel
theorem dX12_sumWritten_30 : decode cX12_sumWritten 30 = .ok (.imul, 1) := by decide +kernel
theorem dX12_sumWritten_31 : decode cX12_sumWritten 31 = .ok (.isub, 1) := by decide +kernel
theorem dX12_sumWritten_32 : decode cX12_sumWritten 32 = .ok (.lshl, 1) := by decide +kernel
theorem dX12_sumWritten_33 : decode cX12_sumWritten 33 = .ok (.ladd, 1) := by decide +kernel
theorem dX12_sumWritten_34 : decode cX12_sumWritten 34 = .ok (.lstore_n 3, 1) := by decide +kernel
theorem dX12_sumWritten_35 : decode cX12_sumWritten 35 = .ok (.iinc 5 1, 3) := by decide +kernel
theorem dX12_sumWritten_38 : decode cX12_sumWritten 38 = .ok (.goto (-33), 3) := by decide +kernel
theorem dX12_sumWritten_41 : decode cX12_sumWritten 41 = .ok (.lload_n 3, 1) := by decide +kernel
theorem dX12_sumWritten_42 : decode cX12_sumWritten 42 = .ok (.ldc2_w 131, 3) := by decide +kernel
theorem dX12_sumWritten_45 : decode cX12_sumWritten 45 = .ok (.land, 1) := by decide +kernel
theorem dX12_sumWritten_46 : decode cX12_sumWritten 46 = .ok (.lreturn, 1) := by decide +kernel
theorem dX12_sort_0 : decode cX12_sort 0 = .ok (.iconst 0, 1) := by decide +kernel
theorem dX12_sort_1 : decode cX12_sort 1 = .ok (.istore_n 1, 1) := by decide +kernel
theorem dX12_sort_2 : decode cX12_sort 2 = .ok (.iload_n 1, 1) := by decide +kernel
theorem dX12_sort_3 : decode cX12_sort 3 = .ok (.aload_n 0, 1) := by decide +kernel
theorem dX12_sort_4 : decode cX12_sort 4 = .ok (.getfield 111, 3) := by decide +kernel
theorem dX12_sort_7 : decode cX12_sort 7 = .ok (.if_icmp .ge 79, 3) := by decide +kernel
theorem dX12_sort_10 : decode cX12_sort 10 = .ok (.iconst 0, 1) := by decide +kernel
theorem dX12_sort_11 : decode cX12_sort 11 = .ok (.istore_n 2, 1) := by decide +kernel
theorem dX12_sort_12 : decode cX12_sort 12 = .ok (.iconst 0, 1) := by decide +kernel
theorem dX12_sort_13 : decode cX12_sort 13 = .ok (.istore_n 3, 1) := by decide +kernel
theorem dX12_sort_14 : decode cX12_sort 14 = .ok (.iload_n 3, 1) := by decide +kernel
theorem dX12_sort_15 : decode cX12_sort 15 = .ok (.aload_n 0, 1) := by decide +kernel
theorem dX12_sort_16 : decode cX12_sort 16 = .ok (.getfield 111, 3) := by decide +kernel
theorem dX12_sort_19 : decode cX12_sort 19 = .ok (.if_icmp .ge 54, 3) := by decide +kernel
theorem dX12_sort_22 : decode cX12_sort 22 = .ok (.iload_n 2, 1) := by decide +kernel
theorem dX12_sort_23 : decode cX12_sort 23 = .ok (.aload_n 0, 1) := by decide +kernel
theorem dX12_sort_24 : decode cX12_sort 24 = .ok (.getfield 13, 3) := by decide +kernel
theorem dX12_sort_27 : decode cX12_sort 27 = .ok (.iload_n 3, 1) := by decide +kernel
theorem dX12_sort_28 : decode cX12_sort 28 = .ok (.laload, 1) := by decide +kernel
theorem dX12_sort_29 : decode cX12_sort 29 = .ok (.aload_n 0, 1) := by decide +kernel
theorem dX12_sort_30 : decode cX12_sort 30 = .ok (.getfield 13, 3) := by decide +kernel
theorem dX12_sort_33 : decode cX12_sort 33 = .ok (.iload_n 1, 1) := by decide +kernel
theorem dX12_sort_34 : decode cX12_sort 34 = .ok (.laload, 1) := by decide +kernel
theorem dX12_sort_35 : decode cX12_sort 35 = .ok (.lcmp, 1) := by decide +kernel
theorem dX12_sort_36 : decode cX12_sort 36 = .ok (.ifCond .lt 24, 3) := by decide +kernel
theorem dX12_sort_39 : decode cX12_sort 39 = .ok (.aload_n 0, 1) := by decide +kernel
theorem dX12_sort_40 : decode cX12_sort 40 = .ok (.getfield 13, 3) := by decide +kernel
theorem dX12_sort_43 : decode cX12_sort 43 = .ok (.iload_n 3, 1) := by decide +kernel
theorem dX12_sort_44 : decode cX12_sort 44 = .ok (.laload, 1) := by decide +kernel
theorem dX12_sort_45 : decode cX12_sort 45 = .ok (.aload_n 0, 1) := by decide +kernel
theorem dX12_sort_46 : decode cX12_sort 46 = .ok (.getfield 13, 3) := by decide +kernel
theorem dX12_sort_49 : decode cX12_sort 49 = .ok (.iload_n 1, 1) := by decide +kernel
theorem dX12_sort_50 : decode cX12_sort 50 = .ok (.laload, 1) := by decide +kernel
theorem dX12_sort_51 : decode cX12_sort 51 = .ok (.lcmp, 1) := by decide +kernel
theorem dX12_sort_52 : decode cX12_sort 52 = .ok (.ifCond .ne 12, 3) := by decide +kernel
theorem dX12_sort_55 : decode cX12_sort 55 = .ok (.iload_n 3, 1) := by decide +kernel
theorem dX12_sort_56 : decode cX12_sort 56 = .ok (.iload_n 1, 1) := by decide +kernel
theorem dX12_sort_57 : decode cX12_sort 57 = .ok (.if_icmp .ge 7, 3) := by decide +kernel
theorem dX12_sort_60 : decode cX12_sort 60 = .ok (.iconst 1, 1) := by decide +kernel
theorem dX12_sort_61 : decode cX12_sort 61 = .ok (.goto 4, 3) := by decide +kernel
theorem dX12_sort_64 : decode cX12_sort 64 = .ok (.iconst 0, 1) := by decide +kernel
theorem dX12_sort_65 : decode cX12_sort 65 = .ok (.iadd, 1) := by decide +kernel
theorem dX12_sort_66 : decode cX12_sort 66 = .ok (.istore_n 2, 1) := by decide +kernel
theorem dX12_sort_67 : decode cX12_sort 67 = .ok (.iinc 3 1, 3) := by decide +kernel
theorem dX12_sort_70 : decode cX12_sort 70 = .ok (.goto (-56), 3) := by decide +kernel
theorem dX12_sort_73 : decode cX12_sort 73 = .ok (.aload_n 0, 1) := by decide +kernel
theorem dX12_sort_74 : decode cX12_sort 74 = .ok (.getfield 93, 3) := by decide +kernel
theorem dX12_sort_77 : decode cX12_sort 77 = .ok (.iload_n 2, 1) := by decide +kernel
theorem dX12_sort_78 : decode cX12_sort 78 = .ok (.iload_n 1, 1) := by decide +kernel
theorem dX12_sort_79 : decode cX12_sort 79 = .ok (.iastore, 1) := by decide +kernel
theorem dX12_sort_80 : decode cX12_sort 80 = .ok (.iinc 1 1, 3) := by decide +kernel
theorem dX12_sort_83 : decode cX12_sort 83 = .ok (.goto (-81), 3) := by decide +kernel
theorem dX12_sort_86 : decode cX12_sort 86 = .ok (.return_, 1) := by decide +kernel
theorem dX12_write_0 : decode cX12_write 0 = .ok (.aload_n 0, 1) := by decide +kernel
theorem dX12_write_1 : decode cX12_write 1 = .ok (.iconst 0, 1) := by decide +kernel
theorem dX12_write_2 : decode cX12_write 2 = .ok (.putfield 96, 3) := by decide +kernel
theorem dX12_write_5 : decode cX12_write 5 = .ok (.aload_n 0, 1) := by decide +kernel
theorem dX12_write_6 : decode cX12_write 6 = .ok (.iconst 0, 1) := by decide +kernel
theorem dX12_write_7 : decode cX12_write 7 = .ok (.putfield 306, 3) := by decide +kernel
theorem dX12_write_10 : decode cX12_write 10 = .ok (.aload_n 0, 1) := by decide +kernel
theorem dX12_write_11 : decode cX12_write 11 = .ok (.iconst 0, 1) := by decide +kernel
theorem dX12_write_12 : decode cX12_write 12 = .ok (.putfield 309, 3) := by decide +kernel
theorem dX12_write_15 : decode cX12_write 15 = .ok (.aload_n 0, 1) := by decide +kernel
theorem dX12_write_16 : decode cX12_write 16 = .ok (.iconst 0, 1) := by decide +kernel
theorem dX12_write_17 : decode cX12_write 17 = .ok (.putfield 114, 3) := by decide +kernel
theorem dX12_write_20 : decode cX12_write 20 = .ok (.aload_n 0, 1) := by decide +kernel
theorem dX12_write_21 : decode cX12_write 21 = .ok (.ldc2_w 125, 3) := by decide +kernel
theorem dX12_write_24 : decode cX12_write 24 = .ok (.invokevirtual 127, 3) := by decide +kernel
theorem dX12_write_27 : decode cX12_write 27 = .ok (.istore_n 1, 1) := by decide +kernel
theorem dX12_write_28 : decode cX12_write 28 = .ok (.aload_n 0, 1) := by decide +kernel
theorem dX12_write_29 : decode cX12_write 29 = .ok (.aload_n 0, 1) := by decide +kernel
theorem dX12_write_30 : decode cX12_write 30 = .ok (.ldc2_w 165, 3) := by decide +kernel
theorem dX12_write_33 : decode cX12_write 33 = .ok (.invokevirtual 127, 3) := by decide +kernel
theorem dX12_write_36 : decode cX12_write 36 = .ok (.ldc2_w 167, 3) := by decide +kernel
theorem dX12_write_39 : decode cX12_write 39 = .ok (.invokevirtual 169, 3) := by decide +kernel
theorem dX12_write_42 : decode cX12_write 42 = .ok (.istore_n 2, 1) := by decide +kernel
theorem dX12_write_43 : decode cX12_write 43 = .ok (.aload_n 0, 1) := by decide +kernel
theorem dX12_write_44 : decode cX12_write 44 = .ok (.getfield 114, 3) := by decide +kernel
theorem dX12_write_47 : decode cX12_write 47 = .ok (.ifCond .ne 14, 3) := by decide +kernel
theorem dX12_write_50 : decode cX12_write 50 = .ok (.iload_n 2, 1) := by decide +kernel
theorem dX12_write_51 : decode cX12_write 51 = .ok (.sipush 200, 3) := by decide +kernel
theorem dX12_write_54 : decode cX12_write 54 = .ok (.if_icmp .le 7, 3) := by decide +kernel
theorem dX12_write_57 : decode cX12_write 57 = .ok (.iconst 1, 1) := by decide +kernel
theorem dX12_write_58 : decode cX12_write 58 = .ok (.goto 4, 3) := by decide +kernel
theorem dX12_write_61 : decode cX12_write 61 = .ok (.iconst 0, 1) := by decide +kernel
theorem dX12_write_62 : decode cX12_write 62 = .ok (.istore_n 3, 1) := by decide +kernel
theorem dX12_write_63 : decode cX12_write 63 = .ok (.iload_n 1, 1) := by decide +kernel
theorem dX12_write_64 : decode cX12_write 64 = .ok (.iconst (-1), 1) := by decide +kernel
theorem dX12_write_65 : decode cX12_write 65 = .ok (.if_icmp .eq 51, 3) := by decide +kernel
theorem dX12_write_68 : decode cX12_write 68 = .ok (.aload_n 0, 1) := by decide +kernel
theorem dX12_write_69 : decode cX12_write 69 = .ok (.ldc2_w 165, 3) := by decide +kernel
theorem dX12_write_72 : decode cX12_write 72 = .ok (.invokevirtual 127, 3) := by decide +kernel
theorem dX12_write_75 : decode cX12_write 75 = .ok (.iconst (-1), 1) := by decide +kernel
theorem dX12_write_76 : decode cX12_write 76 = .ok (.if_icmp .eq 40, 3) := by decide +kernel
theorem dX12_write_79 : decode cX12_write 79 = .ok (.aload_n 0, 1) := by decide +kernel
theorem dX12_write_80 : decode cX12_write 80 = .ok (.ldc2_w 179, 3) := by decide +kernel
theorem dX12_write_83 : decode cX12_write 83 = .ok (.invokevirtual 127, 3) := by decide +kernel
theorem dX12_write_86 : decode cX12_write 86 = .ok (.iconst (-1), 1) := by decide +kernel
theorem dX12_write_87 : decode cX12_write 87 = .ok (.if_icmp .eq 29, 3) := by decide +kernel
theorem dX12_write_90 : decode cX12_write 90 = .ok (.aload_n 0, 1) := by decide +kernel
theorem dX12_write_91 : decode cX12_write 91 = .ok (.ldc2_w 197, 3) := by decide +kernel
theorem dX12_write_94 : decode cX12_write 94 = .ok (.invokevirtual 127, 3) := by decide +kernel
theorem dX12_write_97 : decode cX12_write 97 = .ok (.iconst (-1), 1) := by decide +kernel
theorem dX12_write_98 : decode cX12_write 98 = .ok (.if_icmp .eq 18, 3) := by decide +kernel
theorem dX12_write_101 : decode cX12_write 101 = .ok (.aload_n 0, 1) := by decide +kernel
theorem dX12_write_102 : decode cX12_write 102 = .ok (.getfield 23, 3) := by decide +kernel
theorem dX12_write_105 : decode cX12_write 105 = .ok (.iload_n 1, 1) := by decide +kernel
theorem dX12_write_106 : decode cX12_write 106 = .ok (.iaload, 1) := by decide +kernel
theorem dX12_write_107 : decode cX12_write 107 = .ok (.bipush 52, 2) := by decide +kernel
theorem dX12_write_109 : decode cX12_write 109 = .ok (.if_icmp .lt 7, 3) := by decide +kernel
theorem dX12_write_112 : decode cX12_write 112 = .ok (.iload_n 3, 1) := by decide +kernel
theorem dX12_write_113 : decode cX12_write 113 = .ok (.ifCond .eq 5, 3) := by decide +kernel
theorem dX12_write_116 : decode cX12_write 116 = .ok (.iconst (-1), 1) := by decide +kernel
theorem dX12_write_117 : decode cX12_write 117 = .ok (.ireturn, 1) := by decide +kernel
theorem dX12_write_118 : decode cX12_write 118 = .ok (.aload_n 0, 1) := by decide +kernel
theorem dX12_write_119 : decode cX12_write 119 = .ok (.invokevirtual 173, 3) := by decide +kernel
theorem dX12_write_122 : decode cX12_write 122 = .ok (.istore_n 2, 1) := by decide +kernel
theorem dX12_write_123 : decode cX12_write 123 = .ok (.aload_n 0, 1) := by decide +kernel
theorem dX12_write_124 : decode cX12_write 124 = .ok (.iload_n 1, 1) := by decide +kernel
theorem dX12_write_125 : decode cX12_write 125 = .ok (.ldc2_w 177, 3) := by decide +kernel
theorem dX12_write_128 : decode cX12_write 128 = .ok (.invokevirtual 169, 3) := by decide +kernel
theorem dX12_write_131 : decode cX12_write 131 = .ok (.iconst 1, 1) := by decide +kernel
theorem dX12_write_132 : decode cX12_write 132 = .ok (.if_icmp .ne 7, 3) := by decide +kernel
theorem dX12_write_135 : decode cX12_write 135 = .ok (.iconst 1, 1) := by decide +kernel
theorem dX12_write_136 : decode cX12_write 136 = .ok (.goto 4, 3) := by decide +kernel
theorem dX12_write_139 : decode cX12_write 139 = .ok (.iconst 0, 1) := by decide +kernel
theorem dX12_write_140 : decode cX12_write 140 = .ok (.istore 4, 2) := by decide +kernel
theorem dX12_write_142 : decode cX12_write 142 = .ok (.aload_n 0, 1) := by decide +kernel
theorem dX12_write_143 : decode cX12_write 143 = .ok (.invokevirtual 322, 3) := by decide +kernel
theorem dX12_write_146 : decode cX12_write 146 = .ok (.iconst 0, 1) := by decide +kernel
theorem dX12_write_147 : decode cX12_write 147 = .ok (.istore 5, 2) := by decide +kernel
theorem dX12_write_149 : decode cX12_write 149 = .ok (.iload 5, 2) := by decide +kernel
theorem dX12_write_151 : decode cX12_write 151 = .ok (.bipush 12, 2) := by decide +kernel
theorem dX12_write_153 : decode cX12_write 153 = .ok (.if_icmp .ge 20, 3) := by decide +kernel
theorem dX12_write_156 : decode cX12_write 156 = .ok (.aload_n 0, 1) := by decide +kernel
theorem dX12_write_157 : decode cX12_write 157 = .ok (.aload_n 0, 1) := by decide +kernel
theorem dX12_write_158 : decode cX12_write 158 = .ok (.getfield 7, 3) := by decide +kernel
theorem dX12_write_161 : decode cX12_write 161 = .ok (.iload 5, 2) := by decide +kernel
theorem dX12_write_163 : decode cX12_write 163 = .ok (.iaload, 1) := by decide +kernel
theorem dX12_write_164 : decode cX12_write 164 = .ok (.invokevirtual 312, 3) := by decide +kernel
theorem dX12_write_167 : decode cX12_write 167 = .ok (.iinc 5 1, 3) := by decide +kernel
theorem dX12_write_170 : decode cX12_write 170 = .ok (.goto (-21), 3) := by decide +kernel
theorem dX12_write_173 : decode cX12_write 173 = .ok (.iconst 0, 1) := by decide +kernel
theorem dX12_write_174 : decode cX12_write 174 = .ok (.istore 5, 2) := by decide +kernel
theorem dX12_write_176 : decode cX12_write 176 = .ok (.iload 5, 2) := by decide +kernel
theorem dX12_write_178 : decode cX12_write 178 = .ok (.bipush 16, 2) := by decide +kernel
theorem dX12_write_180 : decode cX12_write 180 = .ok (.aload_n 0, 1) := by decide +kernel
theorem dX12_write_181 : decode cX12_write 181 = .ok (.getfield 111, 3) := by decide +kernel
theorem dX12_write_184 : decode cX12_write 184 = .ok (.imul, 1) := by decide +kernel
theorem dX12_write_185 : decode cX12_write 185 = .ok (.if_icmp .ge 14, 3) := by decide +kernel
theorem dX12_write_188 : decode cX12_write 188 = .ok (.aload_n 0, 1) := by decide +kernel
theorem dX12_write_189 : decode cX12_write 189 = .ok (.iconst 0, 1) := by decide +kernel
theorem dX12_write_190 : decode cX12_write 190 = .ok (.invokevirtual 312, 3) := by decide +kernel
theorem dX12_write_193 : decode cX12_write 193 = .ok (.iinc 5 1, 3) := by decide +kernel
theorem dX12_write_196 : decode cX12_write 196 = .ok (.goto (-20), 3) := by decide +kernel
theorem dX12_write_199 : decode cX12_write 199 = .ok (.iconst 0, 1) := by decide +kernel
theorem dX12_write_200 : decode cX12_write 200 = .ok (.istore 5, 2) := by decide +kernel
theorem dX12_write_202 : decode cX12_write 202 = .ok (.iconst 0, 1) := by decide +kernel
theorem dX12_write_203 : decode cX12_write 203 = .ok (.istore 6, 2) := by decide +kernel
theorem dX12_write_205 : decode cX12_write 205 = .ok (.iload 6, 2) := by decide +kernel
theorem dX12_write_207 : decode cX12_write 207 = .ok (.aload_n 0, 1) := by decide +kernel
theorem dX12_write_208 : decode cX12_write 208 = .ok (.getfield 111, 3) := by decide +kernel
theorem dX12_write_211 : decode cX12_write 211 = .ok (.if_icmp .ge 228, 3) := by decide +kernel
theorem dX12_write_214 : decode cX12_write 214 = .ok (.aload_n 0, 1) := by decide +kernel
theorem dX12_write_215 : decode cX12_write 215 = .ok (.getfield 93, 3) := by decide +kernel
theorem dX12_write_218 : decode cX12_write 218 = .ok (.iload 6, 2) := by decide +kernel
theorem dX12_write_220 : decode cX12_write 220 = .ok (.iaload, 1) := by decide +kernel
theorem dX12_write_221 : decode cX12_write 221 = .ok (.istore 7, 2) := by decide +kernel
theorem dX12_write_223 : decode cX12_write 223 = .ok (.aload_n 0, 1) := by decide +kernel
theorem dX12_write_224 : decode cX12_write 224 = .ok (.invokevirtual 325, 3) := by decide +kernel
theorem dX12_write_227 : decode cX12_write 227 = .ok (.aload_n 0, 1) := by decide +kernel
theorem dX12_write_228 : decode cX12_write 228 = .ok (.getfield 306, 3) := by decide +kernel
theorem dX12_write_231 : decode cX12_write 231 = .ok (.istore 8, 2) := by decide +kernel
theorem dX12_write_233 : decode cX12_write 233 = .ok (.iload 7, 2) := by decide +kernel
theorem dX12_write_235 : decode cX12_write 235 = .ok (.aload_n 0, 1) := by decide +kernel
theorem dX12_write_236 : decode cX12_write 236 = .ok (.ldc2_w 197, 3) := by decide +kernel
theorem dX12_write_239 : decode cX12_write 239 = .ok (.invokevirtual 127, 3) := by decide +kernel
theorem dX12_write_242 : decode cX12_write 242 = .ok (.if_icmp .ne 11, 3) := by decide +kernel
theorem dX12_write_245 : decode cX12_write 245 = .ok (.aload_n 0, 1) := by decide +kernel
theorem dX12_write_246 : decode cX12_write 246 = .ok (.iload_n 2, 1) := by decide +kernel
theorem dX12_write_247 : decode cX12_write 247 = .ok (.invokevirtual 328, 3) := by decide +kernel
theorem dX12_write_250 : decode cX12_write 250 = .ok (.goto 89, 3) := by decide +kernel
theorem dX12_write_253 : decode cX12_write 253 = .ok (.iload 7, 2) := by decide +kernel
theorem dX12_write_255 : decode cX12_write 255 = .ok (.aload_n 0, 1) := by decide +kernel
theorem dX12_write_256 : decode cX12_write 256 = .ok (.ldc2_w 179, 3) := by decide +kernel
theorem dX12_write_259 : decode cX12_write 259 = .ok (.invokevirtual 127, 3) := by decide +kernel
theorem dX12_write_262 : decode cX12_write 262 = .ok (.if_icmp .ne 13, 3) := by decide +kernel
theorem dX12_write_265 : decode cX12_write 265 = .ok (.aload_n 0, 1) := by decide +kernel
theorem dX12_write_266 : decode cX12_write 266 = .ok (.iload_n 2, 1) := by decide +kernel
theorem dX12_write_267 : decode cX12_write 267 = .ok (.iload 4, 2) := by decide +kernel
theorem dX12_write_269 : decode cX12_write 269 = .ok (.invokevirtual 331, 3) := by decide +kernel
theorem dX12_write_272 : decode cX12_write 272 = .ok (.goto 67, 3) := by decide +kernel
theorem dX12_write_275 : decode cX12_write 275 = .ok (.iconst 0, 1) := by decide +kernel
theorem dX12_write_276 : decode cX12_write 276 = .ok (.istore 9, 2) := by decide +kernel
theorem dX12_write_278 : decode cX12_write 278 = .ok (.iload 9, 2) := by decide +kernel
theorem dX12_write_280 : decode cX12_write 280 = .ok (.aload_n 0, 1) := by decide +kernel
theorem dX12_write_281 : decode cX12_write 281 = .ok (.getfield 23, 3) := by decide +kernel
theorem dX12_write_284 : decode cX12_write 284 = .ok (.iload 7, 2) := by decide +kernel
theorem dX12_write_286 : decode cX12_write 286 = .ok (.iaload, 1) := by decide +kernel
theorem dX12_write_287 : decode cX12_write 287 = .ok (.if_icmp .ge 52, 3) := by decide +kernel
theorem dX12_write_290 : decode cX12_write 290 = .ok (.aload_n 0, 1) := by decide +kernel
theorem dX12_write_291 : decode cX12_write 291 = .ok (.iload 7, 2) := by decide +kernel
theorem dX12_write_293 : decode cX12_write 293 = .ok (.iload_n 1, 1) := by decide +kernel
theorem dX12_write_294 : decode cX12_write 294 = .ok (.if_icmp .ne 21, 3) := by decide +kernel
theorem dX12_write_297 : decode cX12_write 297 = .ok (.iload 9, 2) := by decide +kernel
theorem dX12_write_299 : decode cX12_write 299 = .ok (.bipush 8, 2) := by decide +kernel
theorem dX12_write_301 : decode cX12_write 301 = .ok (.if_icmp .lt 14, 3) := by decide +kernel
theorem dX12_write_304 : decode cX12_write 304 = .ok (.iload 9, 2) := by decide +kernel
theorem dX12_write_306 : decode cX12_write 306 = .ok (.bipush 12, 2) := by decide +kernel
theorem dX12_write_308 : decode cX12_write 308 = .ok (.if_icmp .ge 7, 3) := by decide +kernel
theorem dX12_write_311 : decode cX12_write 311 = .ok (.iconst 0, 1) := by decide +kernel
theorem dX12_write_312 : decode cX12_write 312 = .ok (.goto 18, 3) := by decide +kernel
theorem dX12_write_315 : decode cX12_write 315 = .ok (.aload_n 0, 1) := by decide +kernel
theorem dX12_write_316 : decode cX12_write 316 = .ok (.getfield 7, 3) := by decide +kernel
theorem dX12_write_319 : decode cX12_write 319 = .ok (.aload_n 0, 1) := by decide +kernel
theorem dX12_write_320 : decode cX12_write 320 = .ok (.getfield 20, 3) := by decide +kernel
theorem dX12_write_323 : decode cX12_write 323 = .ok (.iload 7, 2) := by decide +kernel
theorem dX12_write_325 : decode cX12_write 325 = .ok (.iaload, 1) := by decide +kernel
theorem dX12_write_326 : decode cX12_write 326 = .ok (.iload 9, 2) := by decide +kernel
theorem dX12_write_328 : decode cX12_write 328 = .ok (.iadd, 1) := by decide +kernel
theorem dX12_write_329 : decode cX12_write 329 = .ok (.iaload, 1) := by decide +kernel
theorem dX12_write_330 : decode cX12_write 330 = .ok (.invokevirtual 312, 3) := by decide +kernel
theorem dX12_write_333 : decode cX12_write 333 = .ok (.iinc 9 1, 3) := by decide +kernel
theorem dX12_write_336 : decode cX12_write 336 = .ok (.goto (-58), 3) := by decide +kernel
theorem dX12_write_339 : decode cX12_write 339 = .ok (.iload 7, 2) := by decide +kernel
theorem dX12_write_341 : decode cX12_write 341 = .ok (.iload_n 1, 1) := by decide +kernel
theorem dX12_write_342 : decode cX12_write 342 = .ok (.if_icmp .ne 11, 3) := by decide +kernel
theorem dX12_write_345 : decode cX12_write 345 = .ok (.iload 8, 2) := by decide +kernel
theorem dX12_write_347 : decode cX12_write 347 = .ok (.bipush 8, 2) := by decide +kernel
theorem dX12_write_349 : decode cX12_write 349 = .ok (.iadd, 1) := by decide +kernel
theorem dX12_write_350 : decode cX12_write 350 = .ok (.goto 5, 3) := by decide +kernel
theorem dX12_write_353 : decode cX12_write 353 = .ok (.iload 5, 2) := by decide +kernel
theorem dX12_write_355 : decode cX12_write 355 = .ok (.istore 5, 2) := by decide +kernel
theorem dX12_write_357 : decode cX12_write 357 = .ok (.aload_n 0, 1) := by decide +kernel
theorem dX12_write_358 : decode cX12_write 358 = .ok (.bipush 12, 2) := by decide +kernel
theorem dX12_write_360 : decode cX12_write 360 = .ok (.bipush 16, 2) := by decide +kernel
theorem dX12_write_362 : decode cX12_write 362 = .ok (.iload 6, 2) := by decide +kernel
theorem dX12_write_364 : decode cX12_write 364 = .ok (.imul, 1) := by decide +kernel
theorem dX12_write_365 : decode cX12_write 365 = .ok (.iadd, 1) := by decide +kernel
theorem dX12_write_366 : decode cX12_write 366 = .ok (.aload_n 0, 1) := by decide +kernel
theorem dX12_write_367 : decode cX12_write 367 = .ok (.getfield 13, 3) := by decide +kernel
theorem dX12_write_370 : decode cX12_write 370 = .ok (.iload 7, 2) := by decide +kernel
theorem dX12_write_372 : decode cX12_write 372 = .ok (.laload, 1) := by decide +kernel
theorem dX12_write_373 : decode cX12_write 373 = .ok (.invokevirtual 335, 3) := by decide +kernel
theorem dX12_write_376 : decode cX12_write 376 = .ok (.aload_n 0, 1) := by decide +kernel
theorem dX12_write_377 : decode cX12_write 377 = .ok (.bipush 16, 2) := by decide +kernel
theorem dX12_write_379 : decode cX12_write 379 = .ok (.bipush 16, 2) := by decide +kernel
theorem dX12_write_381 : decode cX12_write 381 = .ok (.iload 6, 2) := by decide +kernel
theorem dX12_write_383 : decode cX12_write 383 = .ok (.imul, 1) := by decide +kernel
theorem dX12_write_384 : decode cX12_write 384 = .ok (.iadd, 1) := by decide +kernel
theorem dX12_write_385 : decode cX12_write 385 = .ok (.aload_n 0, 1) := by decide +kernel
theorem dX12_write_386 : decode cX12_write 386 = .ok (.iload 8, 2) := by decide +kernel
theorem dX12_write_388 : decode cX12_write 388 = .ok (.aload_n 0, 1) := by decide +kernel
theorem dX12_write_389 : decode cX12_write 389 = .ok (.getfield 306, 3) := by decide +kernel
theorem dX12_write_392 : decode cX12_write 392 = .ok (.invokevirtual 339, 3) := by decide +kernel
theorem dX12_write_395 : decode cX12_write 395 = .ok (.invokevirtual 335, 3) := by decide +kernel
theorem dX12_write_398 : decode cX12_write 398 = .ok (.aload_n 0, 1) := by decide +kernel
theorem dX12_write_399 : decode cX12_write 399 = .ok (.bipush 20, 2) := by decide +kernel
theorem dX12_write_401 : decode cX12_write 401 = .ok (.bipush 16, 2) := by decide +kernel
theorem dX12_write_403 : decode cX12_write 403 = .ok (.iload 6, 2) := by decide +kernel
theorem dX12_write_405 : decode cX12_write 405 = .ok (.imul, 1) := by decide +kernel
theorem dX12_write_406 : decode cX12_write 406 = .ok (.iadd, 1) := by decide +kernel
theorem dX12_write_407 : decode cX12_write 407 = .ok (.iload 8, 2) := by decide +kernel
theorem dX12_write_409 : decode cX12_write 409 = .ok (.i2l, 1) := by decide +kernel
theorem dX12_write_410 : decode cX12_write 410 = .ok (.invokevirtual 335, 3) := by decide +kernel
theorem dX12_write_413 : decode cX12_write 413 = .ok (.aload_n 0, 1) := by decide +kernel
theorem dX12_write_414 : decode cX12_write 414 = .ok (.bipush 24, 2) := by decide +kernel
theorem dX12_write_416 : decode cX12_write 416 = .ok (.bipush 16, 2) := by decide +kernel
theorem dX12_write_418 : decode cX12_write 418 = .ok (.iload 6, 2) := by decide +kernel
theorem dX12_write_420 : decode cX12_write 420 = .ok (.imul, 1) := by decide +kernel
theorem dX12_write_421 : decode cX12_write 421 = .ok (.iadd, 1) := by decide +kernel
theorem dX12_write_422 : decode cX12_write 422 = .ok (.aload_n 0, 1) := by decide +kernel
theorem dX12_write_423 : decode cX12_write 423 = .ok (.getfield 306, 3) := by decide +kernel
theorem dX12_write_426 : decode cX12_write 426 = .ok (.iload 8, 2) := by decide +kernel
theorem dX12_write_428 : decode cX12_write 428 = .ok (.isub, 1) := by decide +kernel
theorem dX12_write_429 : decode cX12_write 429 = .ok (.i2l, 1) := by decide +kernel
theorem dX12_write_430 : decode cX12_write 430 = .ok (.invokevirtual 335, 3) := by decide +kernel
theorem dX12_write_433 : decode cX12_write 433 = .ok (.iinc 6 1, 3) := by decide +kernel
theorem dX12_write_436 : decode cX12_write 436 = .ok (.goto (-231), 3) := by decide +kernel
theorem dX12_write_439 : decode cX12_write 439 = .ok (.aload_n 0, 1) := by decide +kernel
theorem dX12_write_440 : decode cX12_write 440 = .ok (.invokevirtual 325, 3) := by decide +kernel
theorem dX12_write_443 : decode cX12_write 443 = .ok (.aload_n 0, 1) := by decide +kernel
theorem dX12_write_444 : decode cX12_write 444 = .ok (.getfield 309, 3) := by decide +kernel
theorem dX12_write_447 : decode cX12_write 447 = .ok (.ifCond .eq 10, 3) := by decide +kernel
theorem dX12_write_450 : decode cX12_write 450 = .ok (.aload_n 0, 1) := by decide +kernel
theorem dX12_write_451 : decode cX12_write 451 = .ok (.iconst 0, 1) := by decide +kernel
theorem dX12_write_452 : decode cX12_write 452 = .ok (.putfield 306, 3) := by decide +kernel
theorem dX12_write_455 : decode cX12_write 455 = .ok (.iconst (-1), 1) := by decide +kernel
theorem dX12_write_456 : decode cX12_write 456 = .ok (.ireturn, 1) := by decide +kernel
theorem dX12_write_457 : decode cX12_write 457 = .ok (.aload_n 0, 1) := by decide +kernel
theorem dX12_write_458 : decode cX12_write 458 = .ok (.iload 5, 2) := by decide +kernel
theorem dX12_write_460 : decode cX12_write 460 = .ok (.ldc2_w 343, 3) := by decide +kernel
theorem dX12_write_463 : decode cX12_write 463 = .ok (.aload_n 0, 1) := by decide +kernel
theorem dX12_write_464 : decode cX12_write 464 = .ok (.iconst 0, 1) := by decide +kernel
theorem dX12_write_465 : decode cX12_write 465 = .ok (.aload_n 0, 1) := by decide +kernel
theorem dX12_write_466 : decode cX12_write 466 = .ok (.getfield 306, 3) := by decide +kernel
theorem dX12_write_469 : decode cX12_write 469 = .ok (.invokevirtual 339, 3) := by decide +kernel
theorem dX12_write_472 : decode cX12_write 472 = .ok (.lsub, 1) := by decide +kernel
theorem dX12_write_473 : decode cX12_write 473 = .ok (.ldc2_w 131, 3) := by decide +kernel
theorem dX12_write_476 : decode cX12_write 476 = .ok (.land, 1) := by decide +kernel
theorem dX12_write_477 : decode cX12_write 477 = .ok (.invokevirtual 335, 3) := by decide +kernel
theorem dX12_write_480 : decode cX12_write 480 = .ok (.aload_n 0, 1) := by decide +kernel
theorem dX12_write_481 : decode cX12_write 481 = .ok (.getfield 306, 3) := by decide +kernel
theorem dX12_write_484 : decode cX12_write 484 = .ok (.ireturn, 1) := by decide +kernel
theorem dX12_at_0 : decode cX12_at 0 = .ok (.aload_n 0, 1) := by decide +kernel
theorem dX12_at_1 : decode cX12_at 1 = .ok (.iconst 0, 1) := by decide +kernel
theorem dX12_at_2 : decode cX12_at 2 = .ok (.putfield 96, 3) := by decide +kernel
theorem dX12_at_5 : decode cX12_at 5 = .ok (.iload_n 1, 1) := by decide +kernel
theorem dX12_at_6 : decode cX12_at 6 = .ok (.i2l, 1) := by decide +kernel
theorem dX12_at_7 : decode cX12_at 7 = .ok (.lconst 0, 1) := by decide +kernel
theorem dX12_at_8 : decode cX12_at 8 = .ok (.aload_n 0, 1) := by decide +kernel
theorem dX12_at_9 : decode cX12_at 9 = .ok (.getfield 306, 3) := by decide +kernel
theorem dX12_at_12 : decode cX12_at 12 = .ok (.iconst 1, 1) := by decide +kernel
theorem dX12_at_13 : decode cX12_at 13 = .ok (.isub, 1) := by decide +kernel
theorem dX12_at_14 : decode cX12_at 14 = .ok (.i2l, 1) := by decide +kernel
theorem dX12_at_15 : decode cX12_at 15 = .ok (.invokestatic 102, 3) := by decide +kernel
theorem dX12_at_18 : decode cX12_at 18 = .ok (.ifCond .eq 12, 3) := by decide +kernel
theorem dX12_at_21 : decode cX12_at 21 = .ok (.aload_n 0, 1) := by decide +kernel
theorem dX12_at_22 : decode cX12_at 22 = .ok (.getfield 90, 3) := by decide +kernel
theorem dX12_at_25 : decode cX12_at 25 = .ok (.iload_n 1, 1) := by decide +kernel
theorem dX12_at_26 : decode cX12_at 26 = .ok (.iaload, 1) := by decide +kernel
theorem dX12_at_27 : decode cX12_at 27 = .ok (.goto 4, 3) := by decide +kernel
theorem dX12_at_30 : decode cX12_at 30 = .ok (.iconst (-1), 1) := by decide +kernel
theorem dX12_at_31 : decode cX12_at 31 = .ok (.ireturn, 1) := by decide +kernel
theorem dJx00060_init_a7421_0 : decode cJx00060_init_a7421 0 = .ok (.aload_n 0, 1) := by decide +kernel
theorem dJx00060_init_a7421_1 : decode cJx00060_init_a7421 1 = .ok (.aload_n 1, 1) := by decide +kernel
theorem dJx00060_init_a7421_2 : decode cJx00060_init_a7421 2 = .ok (.invokespecial 7, 3) := by decide +kernel
theorem dJx00060_init_a7421_5 : decode cJx00060_init_a7421 5 = .ok (.return_, 1) := by decide +kernel
theorem dJ9_floorDiv_f86c9_0 : decode cJ9_floorDiv_f86c9 0 = .ok (.lload_n 0, 1) := by decide +kernel
theorem dJ9_floorDiv_f86c9_1 : decode cJ9_floorDiv_f86c9 1 = .ok (.lload_n 2, 1) := by decide +kernel
theorem dJ9_floorDiv_f86c9_2 : decode cJ9_floorDiv_f86c9 2 = .ok (.ldiv, 1) := by decide +kernel
theorem dJ9_floorDiv_f86c9_3 : decode cJ9_floorDiv_f86c9 3 = .ok (.lstore 4, 2) := by decide +kernel
theorem dJ9_floorDiv_f86c9_5 : decode cJ9_floorDiv_f86c9 5 = .ok (.lload_n 0, 1) := by decide +kernel
theorem dJ9_floorDiv_f86c9_6 : decode cJ9_floorDiv_f86c9 6 = .ok (.lload_n 2, 1) := by decide +kernel
theorem dJ9_floorDiv_f86c9_7 : decode cJ9_floorDiv_f86c9 7 = .ok (.lxor, 1) := by decide +kernel
theorem dJ9_floorDiv_f86c9_8 : decode cJ9_floorDiv_f86c9 8 = .ok (.lconst 0, 1) := by decide +kernel
theorem dJ9_floorDiv_f86c9_9 : decode cJ9_floorDiv_f86c9 9 = .ok (.lcmp, 1) := by decide +kernel
theorem dJ9_floorDiv_f86c9_10 : decode cJ9_floorDiv_f86c9 10 = .ok (.ifCond .ge 17, 3) := by decide +kernel
theorem dJ9_floorDiv_f86c9_13 : decode cJ9_floorDiv_f86c9 13 = .ok (.lload 4, 2) := by decide +kernel
theorem dJ9_floorDiv_f86c9_15 : decode cJ9_floorDiv_f86c9 15 = .ok (.lload_n 2, 1) := by decide +kernel
theorem dJ9_floorDiv_f86c9_16 : decode cJ9_floorDiv_f86c9 16 = .ok (.lmul, 1) := by decide +kernel
theorem dJ9_floorDiv_f86c9_17 : decode cJ9_floorDiv_f86c9 17 = .ok (.lload_n 0, 1) := by decide +kernel
theorem dJ9_floorDiv_f86c9_18 : decode cJ9_floorDiv_f86c9 18 = .ok (.lcmp, 1) := by decide +kernel
theorem dJ9_floorDiv_f86c9_19 : decode cJ9_floorDiv_f86c9 19 = .ok (.ifCond .eq 8, 3) := by decide +kernel
theorem dJ9_floorDiv_f86c9_22 : decode cJ9_floorDiv_f86c9 22 = .ok (.lload 4, 2) := by decide +kernel
theorem dJ9_floorDiv_f86c9_24 : decode cJ9_floorDiv_f86c9 24 = .ok (.lconst 1, 1) := by decide +kernel
theorem dJ9_floorDiv_f86c9_25 : decode cJ9_floorDiv_f86c9 25 = .ok (.lsub, 1) := by decide +kernel
theorem dJ9_floorDiv_f86c9_26 : decode cJ9_floorDiv_f86c9 26 = .ok (.lreturn, 1) := by decide +kernel
theorem dJ9_floorDiv_f86c9_27 : decode cJ9_floorDiv_f86c9 27 = .ok (.lload 4, 2) := by decide +kernel
theorem dJ9_floorDiv_f86c9_29 : decode cJ9_floorDiv_f86c9 29 = .ok (.lreturn, 1) := by decide +kernel
theorem dJ9_max_7cf53_0 : decode cJ9_max_7cf53 0 = .ok (.iload_n 0, 1) := by decide +kernel
theorem dJ9_max_7cf53_1 : decode cJ9_max_7cf53 1 = .ok (.iload_n 1, 1) := by decide +kernel
theorem dJ9_max_7cf53_2 : decode cJ9_max_7cf53 2 = .ok (.if_icmp .lt 7, 3) := by decide +kernel
theorem dJ9_max_7cf53_5 : decode cJ9_max_7cf53 5 = .ok (.iload_n 0, 1) := by decide +kernel
theorem dJ9_max_7cf53_6 : decode cJ9_max_7cf53 6 = .ok (.goto 4, 3) := by decide +kernel
theorem dJ9_max_7cf53_9 : decode cJ9_max_7cf53 9 = .ok (.iload_n 1, 1) := by decide +kernel
theorem dJ9_max_7cf53_10 : decode cJ9_max_7cf53 10 = .ok (.ireturn, 1) := by decide +kernel
theorem dJ9_min_7cf53_0 : decode cJ9_min_7cf53 0 = .ok (.iload_n 0, 1) := by decide +kernel
theorem dJ9_min_7cf53_1 : decode cJ9_min_7cf53 1 = .ok (.iload_n 1, 1) := by decide +kernel
theorem dJ9_min_7cf53_2 : decode cJ9_min_7cf53 2 = .ok (.if_icmp .gt 7, 3) := by decide +kernel
theorem dJ9_min_7cf53_5 : decode cJ9_min_7cf53 5 = .ok (.iload_n 0, 1) := by decide +kernel
theorem dJ9_min_7cf53_6 : decode cJ9_min_7cf53 6 = .ok (.goto 4, 3) := by decide +kernel
theorem dJ9_min_7cf53_9 : decode cJ9_min_7cf53 9 = .ok (.iload_n 1, 1) := by decide +kernel
theorem dJ9_min_7cf53_10 : decode cJ9_min_7cf53 10 = .ok (.ireturn, 1) := by decide +kernel
theorem dJ9_min_f86c9_0 : decode cJ9_min_f86c9 0 = .ok (.lload_n 0, 1) := by decide +kernel
theorem dJ9_min_f86c9_1 : decode cJ9_min_f86c9 1 = .ok (.lload_n 2, 1) := by decide +kernel
theorem dJ9_min_f86c9_2 : decode cJ9_min_f86c9 2 = .ok (.lcmp, 1) := by decide +kernel
theorem dJ9_min_f86c9_3 : decode cJ9_min_f86c9 3 = .ok (.ifCond .gt 7, 3) := by decide +kernel
theorem dJ9_min_f86c9_6 : decode cJ9_min_f86c9 6 = .ok (.lload_n 0, 1) := by decide +kernel
theorem dJ9_min_f86c9_7 : decode cJ9_min_f86c9 7 = .ok (.goto 4, 3) := by decide +kernel
theorem dJ9_min_f86c9_10 : decode cJ9_min_f86c9 10 = .ok (.lload_n 2, 1) := by decide +kernel
theorem dJ9_min_f86c9_11 : decode cJ9_min_f86c9 11 = .ok (.lreturn, 1) := by decide +kernel
theorem dL_octet_0 : decode cL_octet 0 = .ok (.aload_n 3, 1) := by decide +kernel
theorem dL_octet_1 : decode cL_octet 1 = .ok (.iconst 0, 1) := by decide +kernel
theorem dL_octet_2 : decode cL_octet 2 = .ok (.aload_n 0, 1) := by decide +kernel
theorem dL_octet_3 : decode cL_octet 3 = .ok (.iload_n 1, 1) := by decide +kernel
theorem dL_octet_4 : decode cL_octet 4 = .ok (.iload_n 2, 1) := by decide +kernel
theorem dL_octet_5 : decode cL_octet 5 = .ok (.invokevirtual 7, 3) := by decide +kernel
theorem dL_octet_8 : decode cL_octet 8 = .ok (.i2l, 1) := by decide +kernel
theorem dL_octet_9 : decode cL_octet 9 = .ok (.lastore, 1) := by decide +kernel
theorem dL_octet_10 : decode cL_octet 10 = .ok (.goto 7, 3) := by decide +kernel
theorem dL_octet_13 : decode cL_octet 13 = .ok (.astore 4, 2) := by decide +kernel
theorem dL_octet_15 : decode cL_octet 15 = .ok (.iconst 1, 1) := by decide +kernel
theorem dL_octet_16 : decode cL_octet 16 = .ok (.ireturn, 1) := by decide +kernel
theorem dL_octet_17 : decode cL_octet 17 = .ok (.iconst 0, 1) := by decide +kernel
theorem dL_octet_18 : decode cL_octet 18 = .ok (.ireturn, 1) := by decide +kernel
theorem dL_piece_0 : decode cL_piece 0 = .ok (.aload_n 3, 1) := by decide +kernel
theorem dL_piece_1 : decode cL_piece 1 = .ok (.iconst 0, 1) := by decide +kernel
theorem dL_piece_2 : decode cL_piece 2 = .ok (.aload_n 0, 1) := by decide +kernel
theorem dL_piece_3 : decode cL_piece 3 = .ok (.iload_n 1, 1) := by decide +kernel
theorem dL_piece_4 : decode cL_piece 4 = .ok (.iload_n 2, 1) := by decide +kernel
theorem dL_piece_5 : decode cL_piece 5 = .ok (.invokevirtual 15, 3) := by decide +kernel
theorem dL_piece_8 : decode cL_piece 8 = .ok (.i2l, 1) := by decide +kernel
theorem dL_piece_9 : decode cL_piece 9 = .ok (.lastore, 1) := by decide +kernel
theorem dL_piece_10 : decode cL_piece 10 = .ok (.goto 7, 3) := by decide +kernel
theorem dL_piece_13 : decode cL_piece 13 = .ok (.astore 4, 2) := by decide +kernel
theorem dL_piece_15 : decode cL_piece 15 = .ok (.iconst 1, 1) := by decide +kernel
theorem dL_piece_16 : decode cL_piece 16 = .ok (.ireturn, 1) := by decide +kernel
theorem dL_piece_17 : decode cL_piece 17 = .ok (.iconst 0, 1) := by decide +kernel
theorem dL_piece_18 : decode cL_piece 18 = .ok (.ireturn, 1) := by decide +kernel
theorem dL_told_0 : decode cL_told 0 = .ok (.aload_n 3, 1) := by decide +kernel
theorem dL_told_1 : decode cL_told 1 = .ok (.iconst 0, 1) := by decide +kernel
theorem dL_told_2 : decode cL_told 2 = .ok (.aload_n 0, 1) := by decide +kernel
theorem dL_told_3 : decode cL_told 3 = .ok (.iload_n 1, 1) := by decide +kernel
theorem dL_told_4 : decode cL_told 4 = .ok (.iload_n 2, 1) := by decide +kernel
theorem dL_told_5 : decode cL_told 5 = .ok (.invokevirtual 20, 3) := by decide +kernel
theorem dL_told_8 : decode cL_told 8 = .ok (.i2l, 1) := by decide +kernel
theorem dL_told_9 : decode cL_told 9 = .ok (.lastore, 1) := by decide +kernel
theorem dL_told_10 : decode cL_told 10 = .ok (.goto 7, 3) := by decide +kernel
theorem dL_told_13 : decode cL_told 13 = .ok (.astore 4, 2) := by decide +kernel
theorem dL_told_15 : decode cL_told 15 = .ok (.iconst 1, 1) := by decide +kernel
theorem dL_told_16 : decode cL_told 16 = .ok (.ireturn, 1) := by decide +kernel
theorem dL_told_17 : decode cL_told 17 = .ok (.iconst 0, 1) := by decide +kernel
theorem dL_told_18 : decode cL_told 18 = .ok (.ireturn, 1) := by decide +kernel
theorem dL_law_0 : decode cL_law 0 = .ok (.new 8, 3) := by decide +kernel
theorem dL_law_3 : decode cL_law 3 = .ok (.dup, 1) := by decide +kernel
theorem dL_law_4 : decode cL_law 4 = .ok (.invokespecial 23, 3) := by decide +kernel
theorem dL_law_7 : decode cL_law 7 = .ok (.astore_n 1, 1) := by decide +kernel
theorem dL_law_8 : decode cL_law 8 = .ok (.new 24, 3) := by decide +kernel
theorem dL_law_11 : decode cL_law 11 = .ok (.dup, 1) := by decide +kernel
theorem dL_law_12 : decode cL_law 12 = .ok (.invokespecial 26, 3) := by decide +kernel
theorem dL_law_15 : decode cL_law 15 = .ok (.astore_n 2, 1) := by decide +kernel
theorem dL_law_16 : decode cL_law 16 = .ok (.iconst 1, 1) := by decide +kernel
theorem dL_law_17 : decode cL_law 17 = .ok (.newarray .long, 2) := by decide +kernel
theorem dL_law_19 : decode cL_law 19 = .ok (.astore_n 3, 1) := by decide +kernel
theorem dL_law_20 : decode cL_law 20 = .ok (.iconst 0, 1) := by decide +kernel
theorem dL_law_21 : decode cL_law 21 = .ok (.istore 4, 2) := by decide +kernel
theorem dL_law_23 : decode cL_law 23 = .ok (.iload 4, 2) := by decide +kernel
theorem dL_law_25 : decode cL_law 25 = .ok (.aload_n 0, 1) := by decide +kernel
theorem dL_law_26 : decode cL_law 26 = .ok (.arraylength, 1) := by decide +kernel
theorem dL_law_27 : decode cL_law 27 = .ok (.iconst 4, 1) := by decide +kernel
theorem dL_law_28 : decode cL_law 28 = .ok (.isub, 1) := by decide +kernel
theorem dL_law_29 : decode cL_law 29 = .ok (.if_icmp .gt 553, 3) := by decide +kernel
theorem dL_law_32 : decode cL_law 32 = .ok (.aload_n 0, 1) := by decide +kernel
theorem dL_law_33 : decode cL_law 33 = .ok (.iload 4, 2) := by decide +kernel
theorem dL_law_35 : decode cL_law 35 = .ok (.iaload, 1) := by decide +kernel
theorem dL_law_36 : decode cL_law 36 = .ok (.bipush 15, 2) := by decide +kernel
theorem dL_law_38 : decode cL_law 38 = .ok (.iand, 1) := by decide +kernel
theorem dL_law_39 : decode cL_law 39 = .ok (.tableswitch 537 0 14 #[73, 142, 155, 195, 220, 245, 270, 295, 335, 375, 400, 437, 474, 499, 512], 73) := by decide +kernel
theorem dL_law_112 : decode cL_law 112 = .ok (.aload_n 1, 1) := by decide +kernel
theorem dL_law_113 : decode cL_law 113 = .ok (.aload_n 0, 1) := by decide +kernel
theorem dL_law_114 : decode cL_law 114 = .ok (.iload 4, 2) := by decide +kernel
theorem dL_law_116 : decode cL_law 116 = .ok (.iconst 1, 1) := by decide +kernel
theorem dL_law_117 : decode cL_law 117 = .ok (.iadd, 1) := by decide +kernel
theorem dL_law_118 : decode cL_law 118 = .ok (.iaload, 1) := by decide +kernel
theorem dL_law_119 : decode cL_law 119 = .ok (.i2l, 1) := by decide +kernel
theorem dL_law_120 : decode cL_law 120 = .ok (.bipush 32, 2) := by decide +kernel
theorem dL_law_122 : decode cL_law 122 = .ok (.lshl, 1) := by decide +kernel
theorem dL_law_123 : decode cL_law 123 = .ok (.aload_n 0, 1) := by decide +kernel
theorem dL_law_124 : decode cL_law 124 = .ok (.iload 4, 2) := by decide +kernel
theorem dL_law_126 : decode cL_law 126 = .ok (.iconst 2, 1) := by decide +kernel
theorem dL_law_127 : decode cL_law 127 = .ok (.iadd, 1) := by decide +kernel
theorem dL_law_128 : decode cL_law 128 = .ok (.iaload, 1) := by decide +kernel
theorem dL_law_129 : decode cL_law 129 = .ok (.i2l, 1) := by decide +kernel
theorem dL_law_130 : decode cL_law 130 = .ok (.ldc2_w 27, 3) := by decide +kernel
theorem dL_law_133 : decode cL_law 133 = .ok (.land, 1) := by decide +kernel
theorem dL_law_134 : decode cL_law 134 = .ok (.lor, 1) := by decide +kernel
theorem dL_law_135 : decode cL_law 135 = .ok (.aload_n 0, 1) := by decide +kernel
theorem dL_law_136 : decode cL_law 136 = .ok (.iload 4, 2) := by decide +kernel
theorem dL_law_138 : decode cL_law 138 = .ok (.iconst 3, 1) := by decide +kernel
theorem dL_law_139 : decode cL_law 139 = .ok (.iadd, 1) := by decide +kernel
theorem dL_law_140 : decode cL_law 140 = .ok (.iaload, 1) := by decide +kernel
theorem dL_law_141 : decode cL_law 141 = .ok (.invokevirtual 29, 3) := by decide +kernel
theorem dL_law_144 : decode cL_law 144 = .ok (.pop, 1) := by decide +kernel
theorem dL_law_145 : decode cL_law 145 = .ok (.aload_n 2, 1) := by decide +kernel
theorem dL_law_146 : decode cL_law 146 = .ok (.aload_n 0, 1) := by decide +kernel
theorem dL_law_147 : decode cL_law 147 = .ok (.iload 4, 2) := by decide +kernel
theorem dL_law_149 : decode cL_law 149 = .ok (.iconst 1, 1) := by decide +kernel
theorem dL_law_150 : decode cL_law 150 = .ok (.iadd, 1) := by decide +kernel
theorem dL_law_151 : decode cL_law 151 = .ok (.iaload, 1) := by decide +kernel
theorem dL_law_152 : decode cL_law 152 = .ok (.i2l, 1) := by decide +kernel
theorem dL_law_153 : decode cL_law 153 = .ok (.bipush 32, 2) := by decide +kernel
theorem dL_law_155 : decode cL_law 155 = .ok (.lshl, 1) := by decide +kernel
theorem dL_law_156 : decode cL_law 156 = .ok (.aload_n 0, 1) := by decide +kernel
theorem dL_law_157 : decode cL_law 157 = .ok (.iload 4, 2) := by decide +kernel
theorem dL_law_159 : decode cL_law 159 = .ok (.iconst 2, 1) := by decide +kernel
theorem dL_law_160 : decode cL_law 160 = .ok (.iadd, 1) := by decide +kernel
theorem dL_law_161 : decode cL_law 161 = .ok (.iaload, 1) := by decide +kernel
theorem dL_law_162 : decode cL_law 162 = .ok (.i2l, 1) := by decide +kernel
theorem dL_law_163 : decode cL_law 163 = .ok (.ldc2_w 27, 3) := by decide +kernel
theorem dL_law_166 : decode cL_law 166 = .ok (.land, 1) := by decide +kernel
theorem dL_law_167 : decode cL_law 167 = .ok (.lor, 1) := by decide +kernel
theorem dL_law_168 : decode cL_law 168 = .ok (.aload_n 0, 1) := by decide +kernel
theorem dL_law_169 : decode cL_law 169 = .ok (.iload 4, 2) := by decide +kernel
theorem dL_law_171 : decode cL_law 171 = .ok (.iconst 3, 1) := by decide +kernel
theorem dL_law_172 : decode cL_law 172 = .ok (.iadd, 1) := by decide +kernel
theorem dL_law_173 : decode cL_law 173 = .ok (.iaload, 1) := by decide +kernel
theorem dL_law_174 : decode cL_law 174 = .ok (.invokevirtual 33, 3) := by decide +kernel
theorem dL_law_177 : decode cL_law 177 = .ok (.pop, 1) := by decide +kernel
theorem dL_law_178 : decode cL_law 178 = .ok (.goto 398, 3) := by decide +kernel
theorem dL_law_181 : decode cL_law 181 = .ok (.aload_n 1, 1) := by decide +kernel
theorem dL_law_182 : decode cL_law 182 = .ok (.invokevirtual 34, 3) := by decide +kernel
theorem dL_law_185 : decode cL_law 185 = .ok (.pop, 1) := by decide +kernel
theorem dL_law_186 : decode cL_law 186 = .ok (.aload_n 2, 1) := by decide +kernel
theorem dL_law_187 : decode cL_law 187 = .ok (.invokevirtual 38, 3) := by decide +kernel
theorem dL_law_190 : decode cL_law 190 = .ok (.pop, 1) := by decide +kernel
theorem dL_law_191 : decode cL_law 191 = .ok (.goto 385, 3) := by decide +kernel
theorem dL_law_194 : decode cL_law 194 = .ok (.aload_n 1, 1) := by decide +kernel
theorem dL_law_195 : decode cL_law 195 = .ok (.aload_n 0, 1) := by decide +kernel
theorem dL_law_196 : decode cL_law 196 = .ok (.iload 4, 2) := by decide +kernel
theorem dL_law_198 : decode cL_law 198 = .ok (.iconst 1, 1) := by decide +kernel
theorem dL_law_199 : decode cL_law 199 = .ok (.iadd, 1) := by decide +kernel
theorem dL_law_200 : decode cL_law 200 = .ok (.iaload, 1) := by decide +kernel
theorem dL_law_201 : decode cL_law 201 = .ok (.aload_n 0, 1) := by decide +kernel
theorem dL_law_202 : decode cL_law 202 = .ok (.iload 4, 2) := by decide +kernel
theorem dL_law_204 : decode cL_law 204 = .ok (.iconst 2, 1) := by decide +kernel
theorem dL_law_205 : decode cL_law 205 = .ok (.iadd, 1) := by decide +kernel
theorem dL_law_206 : decode cL_law 206 = .ok (.iaload, 1) := by decide +kernel
theorem dL_law_207 : decode cL_law 207 = .ok (.aload_n 3, 1) := by decide +kernel
theorem dL_law_208 : decode cL_law 208 = .ok (.invokestatic 39, 3) := by decide +kernel
theorem dL_law_211 : decode cL_law 211 = .ok (.istore 5, 2) := by decide +kernel
theorem dL_law_213 : decode cL_law 213 = .ok (.aload_n 2, 1) := by decide +kernel
theorem dL_law_214 : decode cL_law 214 = .ok (.aload_n 0, 1) := by decide +kernel
theorem dL_law_215 : decode cL_law 215 = .ok (.iload 4, 2) := by decide +kernel
theorem dL_law_217 : decode cL_law 217 = .ok (.iconst 1, 1) := by decide +kernel
theorem dL_law_218 : decode cL_law 218 = .ok (.iadd, 1) := by decide +kernel
theorem dL_law_219 : decode cL_law 219 = .ok (.iaload, 1) := by decide +kernel
theorem dL_law_220 : decode cL_law 220 = .ok (.aload_n 0, 1) := by decide +kernel
theorem dL_law_221 : decode cL_law 221 = .ok (.iload 4, 2) := by decide +kernel
theorem dL_law_223 : decode cL_law 223 = .ok (.iconst 2, 1) := by decide +kernel
theorem dL_law_224 : decode cL_law 224 = .ok (.iadd, 1) := by decide +kernel
theorem dL_law_225 : decode cL_law 225 = .ok (.iaload, 1) := by decide +kernel
theorem dL_law_226 : decode cL_law 226 = .ok (.invokevirtual 44, 3) := by decide +kernel
theorem dL_law_229 : decode cL_law 229 = .ok (.istore 6, 2) := by decide +kernel
theorem dL_law_231 : decode cL_law 231 = .ok (.goto 345, 3) := by decide +kernel
theorem dL_law_234 : decode cL_law 234 = .ok (.aload_n 1, 1) := by decide +kernel
theorem dL_law_235 : decode cL_law 235 = .ok (.aload_n 0, 1) := by decide +kernel
theorem dL_law_236 : decode cL_law 236 = .ok (.iload 4, 2) := by decide +kernel
theorem dL_law_238 : decode cL_law 238 = .ok (.iconst 1, 1) := by decide +kernel
theorem dL_law_239 : decode cL_law 239 = .ok (.iadd, 1) := by decide +kernel
theorem dL_law_240 : decode cL_law 240 = .ok (.iaload, 1) := by decide +kernel
theorem dL_law_241 : decode cL_law 241 = .ok (.invokevirtual 45, 3) := by decide +kernel
theorem dL_law_244 : decode cL_law 244 = .ok (.pop2, 1) := by decide +kernel
theorem dL_law_245 : decode cL_law 245 = .ok (.aload_n 2, 1) := by decide +kernel
theorem dL_law_246 : decode cL_law 246 = .ok (.aload_n 0, 1) := by decide +kernel
theorem dL_law_247 : decode cL_law 247 = .ok (.iload 4, 2) := by decide +kernel
theorem dL_law_249 : decode cL_law 249 = .ok (.iconst 1, 1) := by decide +kernel
theorem dL_law_250 : decode cL_law 250 = .ok (.iadd, 1) := by decide +kernel
theorem dL_law_251 : decode cL_law 251 = .ok (.iaload, 1) := by decide +kernel
theorem dL_law_252 : decode cL_law 252 = .ok (.invokevirtual 49, 3) := by decide +kernel
theorem dL_law_255 : decode cL_law 255 = .ok (.pop2, 1) := by decide +kernel
theorem dL_law_256 : decode cL_law 256 = .ok (.goto 320, 3) := by decide +kernel
theorem dL_law_259 : decode cL_law 259 = .ok (.aload_n 1, 1) := by decide +kernel
theorem dL_law_260 : decode cL_law 260 = .ok (.aload_n 0, 1) := by decide +kernel
theorem dL_law_261 : decode cL_law 261 = .ok (.iload 4, 2) := by decide +kernel
theorem dL_law_263 : decode cL_law 263 = .ok (.iconst 1, 1) := by decide +kernel
theorem dL_law_264 : decode cL_law 264 = .ok (.iadd, 1) := by decide +kernel
theorem dL_law_265 : decode cL_law 265 = .ok (.iaload, 1) := by decide +kernel
theorem dL_law_266 : decode cL_law 266 = .ok (.invokevirtual 50, 3) := by decide +kernel
theorem dL_law_269 : decode cL_law 269 = .ok (.pop, 1) := by decide +kernel
theorem dL_law_270 : decode cL_law 270 = .ok (.aload_n 2, 1) := by decide +kernel
theorem dL_law_271 : decode cL_law 271 = .ok (.aload_n 0, 1) := by decide +kernel
theorem dL_law_272 : decode cL_law 272 = .ok (.iload 4, 2) := by decide +kernel
theorem dL_law_274 : decode cL_law 274 = .ok (.iconst 1, 1) := by decide +kernel
theorem dL_law_275 : decode cL_law 275 = .ok (.iadd, 1) := by decide +kernel
theorem dL_law_276 : decode cL_law 276 = .ok (.iaload, 1) := by decide +kernel
theorem dL_law_277 : decode cL_law 277 = .ok (.invokevirtual 54, 3) := by decide +kernel
theorem dL_law_280 : decode cL_law 280 = .ok (.pop, 1) := by decide +kernel
theorem dL_law_281 : decode cL_law 281 = .ok (.goto 295, 3) := by decide +kernel
theorem dL_law_284 : decode cL_law 284 = .ok (.aload_n 1, 1) := by decide +kernel
theorem dL_law_285 : decode cL_law 285 = .ok (.aload_n 0, 1) := by decide +kernel
theorem dL_law_286 : decode cL_law 286 = .ok (.iload 4, 2) := by decide +kernel
theorem dL_law_288 : decode cL_law 288 = .ok (.iconst 1, 1) := by decide +kernel
theorem dL_law_289 : decode cL_law 289 = .ok (.iadd, 1) := by decide +kernel
theorem dL_law_290 : decode cL_law 290 = .ok (.iaload, 1) := by decide +kernel
theorem dL_law_291 : decode cL_law 291 = .ok (.invokevirtual 55, 3) := by decide +kernel
theorem dL_law_294 : decode cL_law 294 = .ok (.pop, 1) := by decide +kernel
theorem dL_law_295 : decode cL_law 295 = .ok (.aload_n 2, 1) := by decide +kernel
theorem dL_law_296 : decode cL_law 296 = .ok (.aload_n 0, 1) := by decide +kernel
theorem dL_law_297 : decode cL_law 297 = .ok (.iload 4, 2) := by decide +kernel
theorem dL_law_299 : decode cL_law 299 = .ok (.iconst 1, 1) := by decide +kernel
theorem dL_law_300 : decode cL_law 300 = .ok (.iadd, 1) := by decide +kernel
theorem dL_law_301 : decode cL_law 301 = .ok (.iaload, 1) := by decide +kernel
theorem dL_law_302 : decode cL_law 302 = .ok (.invokevirtual 58, 3) := by decide +kernel
theorem dL_law_305 : decode cL_law 305 = .ok (.pop, 1) := by decide +kernel
theorem dL_law_306 : decode cL_law 306 = .ok (.goto 270, 3) := by decide +kernel
theorem dL_law_309 : decode cL_law 309 = .ok (.aload_n 1, 1) := by decide +kernel
theorem dL_law_310 : decode cL_law 310 = .ok (.aload_n 0, 1) := by decide +kernel
theorem dL_law_311 : decode cL_law 311 = .ok (.iload 4, 2) := by decide +kernel
theorem dL_law_313 : decode cL_law 313 = .ok (.iconst 1, 1) := by decide +kernel
theorem dL_law_314 : decode cL_law 314 = .ok (.iadd, 1) := by decide +kernel
theorem dL_law_315 : decode cL_law 315 = .ok (.iaload, 1) := by decide +kernel
theorem dL_law_316 : decode cL_law 316 = .ok (.invokevirtual 59, 3) := by decide +kernel
theorem dL_law_319 : decode cL_law 319 = .ok (.pop, 1) := by decide +kernel
theorem dL_law_320 : decode cL_law 320 = .ok (.aload_n 2, 1) := by decide +kernel
theorem dL_law_321 : decode cL_law 321 = .ok (.aload_n 0, 1) := by decide +kernel
theorem dL_law_322 : decode cL_law 322 = .ok (.iload 4, 2) := by decide +kernel
theorem dL_law_324 : decode cL_law 324 = .ok (.iconst 1, 1) := by decide +kernel
theorem dL_law_325 : decode cL_law 325 = .ok (.iadd, 1) := by decide +kernel
theorem dL_law_326 : decode cL_law 326 = .ok (.iaload, 1) := by decide +kernel
theorem dL_law_327 : decode cL_law 327 = .ok (.invokevirtual 62, 3) := by decide +kernel
theorem dL_law_330 : decode cL_law 330 = .ok (.pop, 1) := by decide +kernel
theorem dL_law_331 : decode cL_law 331 = .ok (.goto 245, 3) := by decide +kernel
theorem dL_law_334 : decode cL_law 334 = .ok (.aload_n 1, 1) := by decide +kernel
theorem dL_law_335 : decode cL_law 335 = .ok (.aload_n 0, 1) := by decide +kernel
theorem dL_law_336 : decode cL_law 336 = .ok (.iload 4, 2) := by decide +kernel
theorem dL_law_338 : decode cL_law 338 = .ok (.iconst 1, 1) := by decide +kernel
theorem dL_law_339 : decode cL_law 339 = .ok (.iadd, 1) := by decide +kernel
theorem dL_law_340 : decode cL_law 340 = .ok (.iaload, 1) := by decide +kernel
theorem dL_law_341 : decode cL_law 341 = .ok (.aload_n 0, 1) := by decide +kernel
theorem dL_law_342 : decode cL_law 342 = .ok (.iload 4, 2) := by decide +kernel
theorem dL_law_344 : decode cL_law 344 = .ok (.iconst 2, 1) := by decide +kernel
theorem dL_law_345 : decode cL_law 345 = .ok (.iadd, 1) := by decide +kernel
theorem dL_law_346 : decode cL_law 346 = .ok (.iaload, 1) := by decide +kernel
theorem dL_law_347 : decode cL_law 347 = .ok (.aload_n 3, 1) := by decide +kernel
theorem dL_law_348 : decode cL_law 348 = .ok (.invokestatic 63, 3) := by decide +kernel
theorem dL_law_351 : decode cL_law 351 = .ok (.istore 5, 2) := by decide +kernel
theorem dL_law_353 : decode cL_law 353 = .ok (.aload_n 2, 1) := by decide +kernel
theorem dL_law_354 : decode cL_law 354 = .ok (.aload_n 0, 1) := by decide +kernel
theorem dL_law_355 : decode cL_law 355 = .ok (.iload 4, 2) := by decide +kernel
theorem dL_law_357 : decode cL_law 357 = .ok (.iconst 1, 1) := by decide +kernel
theorem dL_law_358 : decode cL_law 358 = .ok (.iadd, 1) := by decide +kernel
theorem dL_law_359 : decode cL_law 359 = .ok (.iaload, 1) := by decide +kernel
theorem dL_law_360 : decode cL_law 360 = .ok (.aload_n 0, 1) := by decide +kernel
theorem dL_law_361 : decode cL_law 361 = .ok (.iload 4, 2) := by decide +kernel
theorem dL_law_363 : decode cL_law 363 = .ok (.iconst 2, 1) := by decide +kernel
theorem dL_law_364 : decode cL_law 364 = .ok (.iadd, 1) := by decide +kernel
theorem dL_law_365 : decode cL_law 365 = .ok (.iaload, 1) := by decide +kernel
theorem dL_law_366 : decode cL_law 366 = .ok (.invokevirtual 65, 3) := by decide +kernel
theorem dL_law_369 : decode cL_law 369 = .ok (.istore 6, 2) := by decide +kernel
theorem dL_law_371 : decode cL_law 371 = .ok (.goto 205, 3) := by decide +kernel
theorem dL_law_374 : decode cL_law 374 = .ok (.aload_n 1, 1) := by decide +kernel
theorem dL_law_375 : decode cL_law 375 = .ok (.aload_n 0, 1) := by decide +kernel
theorem dL_law_376 : decode cL_law 376 = .ok (.iload 4, 2) := by decide +kernel
theorem dL_law_378 : decode cL_law 378 = .ok (.iconst 1, 1) := by decide +kernel
theorem dL_law_379 : decode cL_law 379 = .ok (.iadd, 1) := by decide +kernel
theorem dL_law_380 : decode cL_law 380 = .ok (.iaload, 1) := by decide +kernel
theorem dL_law_381 : decode cL_law 381 = .ok (.aload_n 0, 1) := by decide +kernel
theorem dL_law_382 : decode cL_law 382 = .ok (.iload 4, 2) := by decide +kernel
theorem dL_law_384 : decode cL_law 384 = .ok (.iconst 2, 1) := by decide +kernel
theorem dL_law_385 : decode cL_law 385 = .ok (.iadd, 1) := by decide +kernel
theorem dL_law_386 : decode cL_law 386 = .ok (.iaload, 1) := by decide +kernel
theorem dL_law_387 : decode cL_law 387 = .ok (.aload_n 3, 1) := by decide +kernel
theorem dL_law_388 : decode cL_law 388 = .ok (.invokestatic 66, 3) := by decide +kernel
theorem dL_law_391 : decode cL_law 391 = .ok (.istore 5, 2) := by decide +kernel
theorem dL_law_393 : decode cL_law 393 = .ok (.aload_n 2, 1) := by decide +kernel
theorem dL_law_394 : decode cL_law 394 = .ok (.aload_n 0, 1) := by decide +kernel
theorem dL_law_395 : decode cL_law 395 = .ok (.iload 4, 2) := by decide +kernel
theorem dL_law_397 : decode cL_law 397 = .ok (.iconst 1, 1) := by decide +kernel
theorem dL_law_398 : decode cL_law 398 = .ok (.iadd, 1) := by decide +kernel
theorem dL_law_399 : decode cL_law 399 = .ok (.iaload, 1) := by decide +kernel
theorem dL_law_400 : decode cL_law 400 = .ok (.aload_n 0, 1) := by decide +kernel
theorem dL_law_401 : decode cL_law 401 = .ok (.iload 4, 2) := by decide +kernel
theorem dL_law_403 : decode cL_law 403 = .ok (.iconst 2, 1) := by decide +kernel
theorem dL_law_404 : decode cL_law 404 = .ok (.iadd, 1) := by decide +kernel
theorem dL_law_405 : decode cL_law 405 = .ok (.iaload, 1) := by decide +kernel
theorem dL_law_406 : decode cL_law 406 = .ok (.invokevirtual 68, 3) := by decide +kernel
theorem dL_law_409 : decode cL_law 409 = .ok (.istore 6, 2) := by decide +kernel
theorem dL_law_411 : decode cL_law 411 = .ok (.goto 165, 3) := by decide +kernel
theorem dL_law_414 : decode cL_law 414 = .ok (.aload_n 1, 1) := by decide +kernel
theorem dL_law_415 : decode cL_law 415 = .ok (.aload_n 0, 1) := by decide +kernel
theorem dL_law_416 : decode cL_law 416 = .ok (.iload 4, 2) := by decide +kernel
theorem dL_law_418 : decode cL_law 418 = .ok (.iconst 1, 1) := by decide +kernel
theorem dL_law_419 : decode cL_law 419 = .ok (.iadd, 1) := by decide +kernel
theorem dL_law_420 : decode cL_law 420 = .ok (.iaload, 1) := by decide +kernel
theorem dL_law_421 : decode cL_law 421 = .ok (.invokevirtual 69, 3) := by decide +kernel
theorem dL_law_424 : decode cL_law 424 = .ok (.pop, 1) := by decide +kernel
theorem dL_law_425 : decode cL_law 425 = .ok (.aload_n 2, 1) := by decide +kernel
theorem dL_law_426 : decode cL_law 426 = .ok (.aload_n 0, 1) := by decide +kernel
theorem dL_law_427 : decode cL_law 427 = .ok (.iload 4, 2) := by decide +kernel
theorem dL_law_429 : decode cL_law 429 = .ok (.iconst 1, 1) := by decide +kernel
theorem dL_law_430 : decode cL_law 430 = .ok (.iadd, 1) := by decide +kernel
theorem dL_law_431 : decode cL_law 431 = .ok (.iaload, 1) := by decide +kernel
theorem dL_law_432 : decode cL_law 432 = .ok (.invokevirtual 72, 3) := by decide +kernel
theorem dL_law_435 : decode cL_law 435 = .ok (.pop, 1) := by decide +kernel
theorem dL_law_436 : decode cL_law 436 = .ok (.goto 140, 3) := by decide +kernel
theorem dL_law_439 : decode cL_law 439 = .ok (.aload_n 1, 1) := by decide +kernel
theorem dL_law_440 : decode cL_law 440 = .ok (.aload_n 0, 1) := by decide +kernel
theorem dL_law_441 : decode cL_law 441 = .ok (.iload 4, 2) := by decide +kernel
theorem dL_law_443 : decode cL_law 443 = .ok (.iconst 1, 1) := by decide +kernel
theorem dL_law_444 : decode cL_law 444 = .ok (.iadd, 1) := by decide +kernel
theorem dL_law_445 : decode cL_law 445 = .ok (.iaload, 1) := by decide +kernel
theorem dL_law_446 : decode cL_law 446 = .ok (.aload_n 0, 1) := by decide +kernel
theorem dL_law_447 : decode cL_law 447 = .ok (.iload 4, 2) := by decide +kernel
theorem dL_law_449 : decode cL_law 449 = .ok (.iconst 2, 1) := by decide +kernel
theorem dL_law_450 : decode cL_law 450 = .ok (.iadd, 1) := by decide +kernel
theorem dL_law_451 : decode cL_law 451 = .ok (.iaload, 1) := by decide +kernel
theorem dL_law_452 : decode cL_law 452 = .ok (.invokevirtual 73, 3) := by decide +kernel
theorem dL_law_455 : decode cL_law 455 = .ok (.pop, 1) := by decide +kernel
theorem dL_law_456 : decode cL_law 456 = .ok (.aload_n 2, 1) := by decide +kernel
theorem dL_law_457 : decode cL_law 457 = .ok (.aload_n 0, 1) := by decide +kernel
theorem dL_law_458 : decode cL_law 458 = .ok (.iload 4, 2) := by decide +kernel
theorem dL_law_460 : decode cL_law 460 = .ok (.iconst 1, 1) := by decide +kernel
theorem dL_law_461 : decode cL_law 461 = .ok (.iadd, 1) := by decide +kernel
theorem dL_law_462 : decode cL_law 462 = .ok (.iaload, 1) := by decide +kernel
theorem dL_law_463 : decode cL_law 463 = .ok (.aload_n 0, 1) := by decide +kernel
theorem dL_law_464 : decode cL_law 464 = .ok (.iload 4, 2) := by decide +kernel
theorem dL_law_466 : decode cL_law 466 = .ok (.iconst 2, 1) := by decide +kernel
theorem dL_law_467 : decode cL_law 467 = .ok (.iadd, 1) := by decide +kernel
theorem dL_law_468 : decode cL_law 468 = .ok (.iaload, 1) := by decide +kernel
theorem dL_law_469 : decode cL_law 469 = .ok (.invokevirtual 76, 3) := by decide +kernel
theorem dL_law_472 : decode cL_law 472 = .ok (.pop, 1) := by decide +kernel
theorem dL_law_473 : decode cL_law 473 = .ok (.goto 103, 3) := by decide +kernel
theorem dL_law_476 : decode cL_law 476 = .ok (.aload_n 1, 1) := by decide +kernel
theorem dL_law_477 : decode cL_law 477 = .ok (.aload_n 0, 1) := by decide +kernel
theorem dL_law_478 : decode cL_law 478 = .ok (.iload 4, 2) := by decide +kernel
theorem dL_law_480 : decode cL_law 480 = .ok (.iconst 1, 1) := by decide +kernel
theorem dL_law_481 : decode cL_law 481 = .ok (.iadd, 1) := by decide +kernel
theorem dL_law_482 : decode cL_law 482 = .ok (.iaload, 1) := by decide +kernel
theorem dL_law_483 : decode cL_law 483 = .ok (.aload_n 0, 1) := by decide +kernel
theorem dL_law_484 : decode cL_law 484 = .ok (.iload 4, 2) := by decide +kernel
theorem dL_law_486 : decode cL_law 486 = .ok (.iconst 2, 1) := by decide +kernel
theorem dL_law_487 : decode cL_law 487 = .ok (.iadd, 1) := by decide +kernel
theorem dL_law_488 : decode cL_law 488 = .ok (.iaload, 1) := by decide +kernel
theorem dL_law_489 : decode cL_law 489 = .ok (.invokevirtual 77, 3) := by decide +kernel
theorem dL_law_492 : decode cL_law 492 = .ok (.pop2, 1) := by decide +kernel
theorem dL_law_493 : decode cL_law 493 = .ok (.aload_n 2, 1) := by decide +kernel
theorem dL_law_494 : decode cL_law 494 = .ok (.aload_n 0, 1) := by decide +kernel
theorem dL_law_495 : decode cL_law 495 = .ok (.iload 4, 2) := by decide +kernel
theorem dL_law_497 : decode cL_law 497 = .ok (.iconst 1, 1) := by decide +kernel
theorem dL_law_498 : decode cL_law 498 = .ok (.iadd, 1) := by decide +kernel
theorem dL_law_499 : decode cL_law 499 = .ok (.iaload, 1) := by decide +kernel
theorem dL_law_500 : decode cL_law 500 = .ok (.aload_n 0, 1) := by decide +kernel
theorem dL_law_501 : decode cL_law 501 = .ok (.iload 4, 2) := by decide +kernel
theorem dL_law_503 : decode cL_law 503 = .ok (.iconst 2, 1) := by decide +kernel
theorem dL_law_504 : decode cL_law 504 = .ok (.iadd, 1) := by decide +kernel
theorem dL_law_505 : decode cL_law 505 = .ok (.iaload, 1) := by decide +kernel
theorem dL_law_506 : decode cL_law 506 = .ok (.invokevirtual 81, 3) := by decide +kernel
theorem dL_law_509 : decode cL_law 509 = .ok (.pop2, 1) := by decide +kernel
theorem dL_law_510 : decode cL_law 510 = .ok (.goto 66, 3) := by decide +kernel
theorem dL_law_513 : decode cL_law 513 = .ok (.aload_n 1, 1) := by decide +kernel
theorem dL_law_514 : decode cL_law 514 = .ok (.aload_n 0, 1) := by decide +kernel
theorem dL_law_515 : decode cL_law 515 = .ok (.iload 4, 2) := by decide +kernel
theorem dL_law_517 : decode cL_law 517 = .ok (.iconst 1, 1) := by decide +kernel
theorem dL_law_518 : decode cL_law 518 = .ok (.iadd, 1) := by decide +kernel
theorem dL_law_519 : decode cL_law 519 = .ok (.iaload, 1) := by decide +kernel
theorem dL_law_520 : decode cL_law 520 = .ok (.invokevirtual 82, 3) := by decide +kernel
theorem dL_law_523 : decode cL_law 523 = .ok (.pop, 1) := by decide +kernel
theorem dL_law_524 : decode cL_law 524 = .ok (.aload_n 2, 1) := by decide +kernel
theorem dL_law_525 : decode cL_law 525 = .ok (.aload_n 0, 1) := by decide +kernel
theorem dL_law_526 : decode cL_law 526 = .ok (.iload 4, 2) := by decide +kernel
theorem dL_law_528 : decode cL_law 528 = .ok (.iconst 1, 1) := by decide +kernel
theorem dL_law_529 : decode cL_law 529 = .ok (.iadd, 1) := by decide +kernel
theorem dL_law_530 : decode cL_law 530 = .ok (.iaload, 1) := by decide +kernel
theorem dL_law_531 : decode cL_law 531 = .ok (.invokevirtual 85, 3) := by decide +kernel
theorem dL_law_534 : decode cL_law 534 = .ok (.pop, 1) := by decide +kernel
theorem dL_law_535 : decode cL_law 535 = .ok (.goto 41, 3) := by decide +kernel
theorem dL_law_538 : decode cL_law 538 = .ok (.aload_n 1, 1) := by decide +kernel
theorem dL_law_539 : decode cL_law 539 = .ok (.invokevirtual 86, 3) := by decide +kernel
theorem dL_law_542 : decode cL_law 542 = .ok (.aload_n 2, 1) := by decide +kernel
theorem dL_law_543 : decode cL_law 543 = .ok (.invokevirtual 89, 3) := by decide +kernel
theorem dL_law_546 : decode cL_law 546 = .ok (.if_icmp .eq 30, 3) := by decide +kernel
theorem dL_law_549 : decode cL_law 549 = .ok (.iconst 0, 1) := by decide +kernel
theorem dL_law_550 : decode cL_law 550 = .ok (.ireturn, 1) := by decide +kernel
theorem dL_law_551 : decode cL_law 551 = .ok (.aload_n 1, 1) := by decide +kernel
theorem dL_law_552 : decode cL_law 552 = .ok (.aload_n 0, 1) := by decide +kernel
theorem dL_law_553 : decode cL_law 553 = .ok (.iload 4, 2) := by decide +kernel
theorem dL_law_555 : decode cL_law 555 = .ok (.iconst 1, 1) := by decide +kernel
theorem dL_law_556 : decode cL_law 556 = .ok (.iadd, 1) := by decide +kernel
theorem dL_law_557 : decode cL_law 557 = .ok (.iaload, 1) := by decide +kernel
theorem dL_law_558 : decode cL_law 558 = .ok (.invokevirtual 90, 3) := by decide +kernel
theorem dL_law_561 : decode cL_law 561 = .ok (.pop, 1) := by decide +kernel
theorem dL_law_562 : decode cL_law 562 = .ok (.aload_n 2, 1) := by decide +kernel
theorem dL_law_563 : decode cL_law 563 = .ok (.aload_n 0, 1) := by decide +kernel
theorem dL_law_564 : decode cL_law 564 = .ok (.iload 4, 2) := by decide +kernel
theorem dL_law_566 : decode cL_law 566 = .ok (.iconst 1, 1) := by decide +kernel
theorem dL_law_567 : decode cL_law 567 = .ok (.iadd, 1) := by decide +kernel
theorem dL_law_568 : decode cL_law 568 = .ok (.iaload, 1) := by decide +kernel
theorem dL_law_569 : decode cL_law 569 = .ok (.invokevirtual 93, 3) := by decide +kernel
theorem dL_law_572 : decode cL_law 572 = .ok (.pop, 1) := by decide +kernel
theorem dL_law_573 : decode cL_law 573 = .ok (.goto 3, 3) := by decide +kernel
theorem dL_law_576 : decode cL_law 576 = .ok (.iinc 4 4, 3) := by decide +kernel
theorem dL_law_579 : decode cL_law 579 = .ok (.goto (-556), 3) := by decide +kernel
theorem dL_law_582 : decode cL_law 582 = .ok (.iconst 1, 1) := by decide +kernel
theorem dL_law_583 : decode cL_law 583 = .ok (.ireturn, 1) := by decide +kernel
abbrev vwCl : List vw_C := [(RJx00060, TJx00060, 6), (RX0, TX0, 3), (RX1, TX1, 14), (RX2, TX2, 4), (RX3, TX3, 6), (RX4, TX4, 2), (RX5, TX5, 10), (RX6, TX6, 10), (RX7, TX7, 5), (RX8, TX8, 4), (RX9, TX9, 3), (RX10, TX10, 9), (RX11, TX11, 8), (RX12, TX12, 43)]
