theorem dX3_compress_285 : decode cX3_compress 285 = .ok (.ladd, 1) := by decide +kernel
theorem dX3_compress_286 : decode cX3_compress 286 = .ok (.aload_n 0, 1) := by decide +kernel
theorem dX3_compress_287 : decode cX3_compress 287 = .ok (.getfield 41, 3) := by decide +kernel
theorem dX3_compress_290 : decode cX3_compress 290 = .ok (.land, 1) := by decide +kernel
theorem dX3_compress_291 : decode cX3_compress 291 = .ok (.lastore, 1) := by decide +kernel
theorem dX3_compress_292 : decode cX3_compress 292 = .ok (.aload_n 0, 1) := by decide +kernel
theorem dX3_compress_293 : decode cX3_compress 293 = .ok (.getfield 13, 3) := by decide +kernel
theorem dX3_compress_296 : decode cX3_compress 296 = .ok (.iconst 1, 1) := by decide +kernel
theorem dX3_compress_297 : decode cX3_compress 297 = .ok (.aload_n 0, 1) := by decide +kernel
theorem dX3_compress_298 : decode cX3_compress 298 = .ok (.getfield 13, 3) := by decide +kernel
theorem dX3_compress_301 : decode cX3_compress 301 = .ok (.iconst 1, 1) := by decide +kernel
theorem dX3_compress_302 : decode cX3_compress 302 = .ok (.laload, 1) := by decide +kernel
theorem dX3_compress_303 : decode cX3_compress 303 = .ok (.lload_n 3, 1) := by decide +kernel
theorem dX3_compress_304 : decode cX3_compress 304 = .ok (.ladd, 1) := by decide +kernel
theorem dX3_compress_305 : decode cX3_compress 305 = .ok (.aload_n 0, 1) := by decide +kernel
theorem dX3_compress_306 : decode cX3_compress 306 = .ok (.getfield 41, 3) := by decide +kernel
theorem dX3_compress_309 : decode cX3_compress 309 = .ok (.land, 1) := by decide +kernel
theorem dX3_compress_310 : decode cX3_compress 310 = .ok (.lastore, 1) := by decide +kernel
theorem dX3_compress_311 : decode cX3_compress 311 = .ok (.aload_n 0, 1) := by decide +kernel
theorem dX3_compress_312 : decode cX3_compress 312 = .ok (.getfield 13, 3) := by decide +kernel
theorem dX3_compress_315 : decode cX3_compress 315 = .ok (.iconst 2, 1) := by decide +kernel
theorem dX3_compress_316 : decode cX3_compress 316 = .ok (.aload_n 0, 1) := by decide +kernel
theorem dX3_compress_317 : decode cX3_compress 317 = .ok (.getfield 13, 3) := by decide +kernel
theorem dX3_compress_320 : decode cX3_compress 320 = .ok (.iconst 2, 1) := by decide +kernel
theorem dX3_compress_321 : decode cX3_compress 321 = .ok (.laload, 1) := by decide +kernel
theorem dX3_compress_322 : decode cX3_compress 322 = .ok (.lload 5, 2) := by decide +kernel
theorem dX3_compress_324 : decode cX3_compress 324 = .ok (.ladd, 1) := by decide +kernel
theorem dX3_compress_325 : decode cX3_compress 325 = .ok (.aload_n 0, 1) := by decide +kernel
theorem dX3_compress_326 : decode cX3_compress 326 = .ok (.getfield 41, 3) := by decide +kernel
theorem dX3_compress_329 : decode cX3_compress 329 = .ok (.land, 1) := by decide +kernel
theorem dX3_compress_330 : decode cX3_compress 330 = .ok (.lastore, 1) := by decide +kernel
theorem dX3_compress_331 : decode cX3_compress 331 = .ok (.aload_n 0, 1) := by decide +kernel
theorem dX3_compress_332 : decode cX3_compress 332 = .ok (.getfield 13, 3) := by decide +kernel
theorem dX3_compress_335 : decode cX3_compress 335 = .ok (.iconst 3, 1) := by decide +kernel
theorem dX3_compress_336 : decode cX3_compress 336 = .ok (.aload_n 0, 1) := by decide +kernel
theorem dX3_compress_337 : decode cX3_compress 337 = .ok (.getfield 13, 3) := by decide +kernel
theorem dX3_compress_340 : decode cX3_compress 340 = .ok (.iconst 3, 1) := by decide +kernel
theorem dX3_compress_341 : decode cX3_compress 341 = .ok (.laload, 1) := by decide +kernel
theorem dX3_compress_342 : decode cX3_compress 342 = .ok (.lload 7, 2) := by decide +kernel
theorem dX3_compress_344 : decode cX3_compress 344 = .ok (.ladd, 1) := by decide +kernel
theorem dX3_compress_345 : decode cX3_compress 345 = .ok (.aload_n 0, 1) := by decide +kernel
theorem dX3_compress_346 : decode cX3_compress 346 = .ok (.getfield 41, 3) := by decide +kernel
theorem dX3_compress_349 : decode cX3_compress 349 = .ok (.land, 1) := by decide +kernel
theorem dX3_compress_350 : decode cX3_compress 350 = .ok (.lastore, 1) := by decide +kernel
theorem dX3_compress_351 : decode cX3_compress 351 = .ok (.aload_n 0, 1) := by decide +kernel
theorem dX3_compress_352 : decode cX3_compress 352 = .ok (.getfield 13, 3) := by decide +kernel
theorem dX3_compress_355 : decode cX3_compress 355 = .ok (.iconst 4, 1) := by decide +kernel
theorem dX3_compress_356 : decode cX3_compress 356 = .ok (.aload_n 0, 1) := by decide +kernel
theorem dX3_compress_357 : decode cX3_compress 357 = .ok (.getfield 13, 3) := by decide +kernel
theorem dX3_compress_360 : decode cX3_compress 360 = .ok (.iconst 4, 1) := by decide +kernel
theorem dX3_compress_361 : decode cX3_compress 361 = .ok (.laload, 1) := by decide +kernel
theorem dX3_compress_362 : decode cX3_compress 362 = .ok (.lload 9, 2) := by decide +kernel
theorem dX3_compress_364 : decode cX3_compress 364 = .ok (.ladd, 1) := by decide +kernel
theorem dX3_compress_365 : decode cX3_compress 365 = .ok (.aload_n 0, 1) := by decide +kernel
theorem dX3_compress_366 : decode cX3_compress 366 = .ok (.getfield 41, 3) := by decide +kernel
theorem dX3_compress_369 : decode cX3_compress 369 = .ok (.land, 1) := by decide +kernel
theorem dX3_compress_370 : decode cX3_compress 370 = .ok (.lastore, 1) := by decide +kernel
theorem dX3_compress_371 : decode cX3_compress 371 = .ok (.aload_n 0, 1) := by decide +kernel
theorem dX3_compress_372 : decode cX3_compress 372 = .ok (.getfield 13, 3) := by decide +kernel
theorem dX3_compress_375 : decode cX3_compress 375 = .ok (.iconst 5, 1) := by decide +kernel
theorem dX3_compress_376 : decode cX3_compress 376 = .ok (.aload_n 0, 1) := by decide +kernel
theorem dX3_compress_377 : decode cX3_compress 377 = .ok (.getfield 13, 3) := by decide +kernel
theorem dX3_compress_380 : decode cX3_compress 380 = .ok (.iconst 5, 1) := by decide +kernel
theorem dX3_compress_381 : decode cX3_compress 381 = .ok (.laload, 1) := by decide +kernel
theorem dX3_compress_382 : decode cX3_compress 382 = .ok (.lload 11, 2) := by decide +kernel
theorem dX3_compress_384 : decode cX3_compress 384 = .ok (.ladd, 1) := by decide +kernel
theorem dX3_compress_385 : decode cX3_compress 385 = .ok (.aload_n 0, 1) := by decide +kernel
theorem dX3_compress_386 : decode cX3_compress 386 = .ok (.getfield 41, 3) := by decide +kernel
theorem dX3_compress_389 : decode cX3_compress 389 = .ok (.land, 1) := by decide +kernel
theorem dX3_compress_390 : decode cX3_compress 390 = .ok (.lastore, 1) := by decide +kernel
theorem dX3_compress_391 : decode cX3_compress 391 = .ok (.aload_n 0, 1) := by decide +kernel
theorem dX3_compress_392 : decode cX3_compress 392 = .ok (.getfield 13, 3) := by decide +kernel
theorem dX3_compress_395 : decode cX3_compress 395 = .ok (.bipush 6, 2) := by decide +kernel
theorem dX3_compress_397 : decode cX3_compress 397 = .ok (.aload_n 0, 1) := by decide +kernel
theorem dX3_compress_398 : decode cX3_compress 398 = .ok (.getfield 13, 3) := by decide +kernel
theorem dX3_compress_401 : decode cX3_compress 401 = .ok (.bipush 6, 2) := by decide +kernel
theorem dX3_compress_403 : decode cX3_compress 403 = .ok (.laload, 1) := by decide +kernel
theorem dX3_compress_404 : decode cX3_compress 404 = .ok (.lload 13, 2) := by decide +kernel
theorem dX3_compress_406 : decode cX3_compress 406 = .ok (.ladd, 1) := by decide +kernel
theorem dX3_compress_407 : decode cX3_compress 407 = .ok (.aload_n 0, 1) := by decide +kernel
theorem dX3_compress_408 : decode cX3_compress 408 = .ok (.getfield 41, 3) := by decide +kernel
theorem dX3_compress_411 : decode cX3_compress 411 = .ok (.land, 1) := by decide +kernel
theorem dX3_compress_412 : decode cX3_compress 412 = .ok (.lastore, 1) := by decide +kernel
theorem dX3_compress_413 : decode cX3_compress 413 = .ok (.aload_n 0, 1) := by decide +kernel
theorem dX3_compress_414 : decode cX3_compress 414 = .ok (.getfield 13, 3) := by decide +kernel
theorem dX3_compress_417 : decode cX3_compress 417 = .ok (.bipush 7, 2) := by decide +kernel
theorem dX3_compress_419 : decode cX3_compress 419 = .ok (.aload_n 0, 1) := by decide +kernel
theorem dX3_compress_420 : decode cX3_compress 420 = .ok (.getfield 13, 3) := by decide +kernel
theorem dX3_compress_423 : decode cX3_compress 423 = .ok (.bipush 7, 2) := by decide +kernel
theorem dX3_compress_425 : decode cX3_compress 425 = .ok (.laload, 1) := by decide +kernel
theorem dX3_compress_426 : decode cX3_compress 426 = .ok (.lload 15, 2) := by decide +kernel
theorem dX3_compress_428 : decode cX3_compress 428 = .ok (.ladd, 1) := by decide +kernel
theorem dX3_compress_429 : decode cX3_compress 429 = .ok (.aload_n 0, 1) := by decide +kernel
theorem dX3_compress_430 : decode cX3_compress 430 = .ok (.getfield 41, 3) := by decide +kernel
theorem dX3_compress_433 : decode cX3_compress 433 = .ok (.land, 1) := by decide +kernel
theorem dX3_compress_434 : decode cX3_compress 434 = .ok (.lastore, 1) := by decide +kernel
theorem dX3_compress_435 : decode cX3_compress 435 = .ok (.return_, 1) := by decide +kernel
theorem dX3_turned_0 : decode cX3_turned 0 = .ok (.lload_n 1, 1) := by decide +kernel
theorem dX3_turned_1 : decode cX3_turned 1 = .ok (.iload_n 3, 1) := by decide +kernel
theorem dX3_turned_2 : decode cX3_turned 2 = .ok (.lushr, 1) := by decide +kernel
theorem dX3_turned_3 : decode cX3_turned 3 = .ok (.lload_n 1, 1) := by decide +kernel
theorem dX3_turned_4 : decode cX3_turned 4 = .ok (.aload_n 0, 1) := by decide +kernel
theorem dX3_turned_5 : decode cX3_turned 5 = .ok (.getfield 36, 3) := by decide +kernel
theorem dX3_turned_8 : decode cX3_turned 8 = .ok (.iload_n 3, 1) := by decide +kernel
theorem dX3_turned_9 : decode cX3_turned 9 = .ok (.isub, 1) := by decide +kernel
theorem dX3_turned_10 : decode cX3_turned 10 = .ok (.lshl, 1) := by decide +kernel
theorem dX3_turned_11 : decode cX3_turned 11 = .ok (.lor, 1) := by decide +kernel
theorem dX3_turned_12 : decode cX3_turned 12 = .ok (.aload_n 0, 1) := by decide +kernel
theorem dX3_turned_13 : decode cX3_turned 13 = .ok (.getfield 41, 3) := by decide +kernel
theorem dX3_turned_16 : decode cX3_turned 16 = .ok (.land, 1) := by decide +kernel
theorem dX3_turned_17 : decode cX3_turned 17 = .ok (.lreturn, 1) := by decide +kernel
theorem dX3_keyed_0 : decode cX3_keyed 0 = .ok (.aload_n 0, 1) := by decide +kernel
theorem dX3_keyed_1 : decode cX3_keyed 1 = .ok (.aload_n 1, 1) := by decide +kernel
theorem dX3_keyed_2 : decode cX3_keyed 2 = .ok (.bipush 54, 2) := by decide +kernel
theorem dX3_keyed_4 : decode cX3_keyed 4 = .ok (.invokevirtual 94, 3) := by decide +kernel
theorem dX3_keyed_7 : decode cX3_keyed 7 = .ok (.aload_n 0, 1) := by decide +kernel
theorem dX3_keyed_8 : decode cX3_keyed 8 = .ok (.getfield 25, 3) := by decide +kernel
theorem dX3_keyed_11 : decode cX3_keyed 11 = .ok (.aload_n 2, 1) := by decide +kernel
theorem dX3_keyed_12 : decode cX3_keyed 12 = .ok (.invokevirtual 98, 3) := by decide +kernel
theorem dX3_keyed_15 : decode cX3_keyed 15 = .ok (.aload_n 0, 1) := by decide +kernel
theorem dX3_keyed_16 : decode cX3_keyed 16 = .ok (.aload_n 0, 1) := by decide +kernel
theorem dX3_keyed_17 : decode cX3_keyed 17 = .ok (.getfield 25, 3) := by decide +kernel
theorem dX3_keyed_20 : decode cX3_keyed 20 = .ok (.aload_n 0, 1) := by decide +kernel
theorem dX3_keyed_21 : decode cX3_keyed 21 = .ok (.getfield 29, 3) := by decide +kernel
theorem dX3_keyed_24 : decode cX3_keyed 24 = .ok (.invokevirtual 102, 3) := by decide +kernel
theorem dX3_keyed_27 : decode cX3_keyed 27 = .ok (.aload_n 0, 1) := by decide +kernel
theorem dX3_keyed_28 : decode cX3_keyed 28 = .ok (.aload_n 1, 1) := by decide +kernel
theorem dX3_keyed_29 : decode cX3_keyed 29 = .ok (.bipush 92, 2) := by decide +kernel
theorem dX3_keyed_31 : decode cX3_keyed 31 = .ok (.invokevirtual 94, 3) := by decide +kernel
theorem dX3_keyed_34 : decode cX3_keyed 34 = .ok (.aload_n 0, 1) := by decide +kernel
theorem dX3_keyed_35 : decode cX3_keyed 35 = .ok (.getfield 25, 3) := by decide +kernel
theorem dX3_keyed_38 : decode cX3_keyed 38 = .ok (.aload_n 0, 1) := by decide +kernel
theorem dX3_keyed_39 : decode cX3_keyed 39 = .ok (.getfield 29, 3) := by decide +kernel
theorem dX3_keyed_42 : decode cX3_keyed 42 = .ok (.invokevirtual 98, 3) := by decide +kernel
theorem dX3_keyed_45 : decode cX3_keyed 45 = .ok (.aload_n 0, 1) := by decide +kernel
theorem dX3_keyed_46 : decode cX3_keyed 46 = .ok (.aload_n 0, 1) := by decide +kernel
theorem dX3_keyed_47 : decode cX3_keyed 47 = .ok (.getfield 25, 3) := by decide +kernel
theorem dX3_keyed_50 : decode cX3_keyed 50 = .ok (.aload_n 3, 1) := by decide +kernel
theorem dX3_keyed_51 : decode cX3_keyed 51 = .ok (.invokevirtual 102, 3) := by decide +kernel
theorem dX3_keyed_54 : decode cX3_keyed 54 = .ok (.return_, 1) := by decide +kernel
theorem dX3_beginWithKey_0 : decode cX3_beginWithKey 0 = .ok (.aload_n 0, 1) := by decide +kernel
theorem dX3_beginWithKey_1 : decode cX3_beginWithKey 1 = .ok (.getfield 25, 3) := by decide +kernel
theorem dX3_beginWithKey_4 : decode cX3_beginWithKey 4 = .ok (.invokevirtual 80, 3) := by decide +kernel
theorem dX3_beginWithKey_7 : decode cX3_beginWithKey 7 = .ok (.iconst 0, 1) := by decide +kernel
theorem dX3_beginWithKey_8 : decode cX3_beginWithKey 8 = .ok (.istore_n 3, 1) := by decide +kernel
theorem dX3_beginWithKey_9 : decode cX3_beginWithKey 9 = .ok (.iload_n 3, 1) := by decide +kernel
theorem dX3_beginWithKey_10 : decode cX3_beginWithKey 10 = .ok (.aload_n 0, 1) := by decide +kernel
theorem dX3_beginWithKey_11 : decode cX3_beginWithKey 11 = .ok (.getfield 48, 3) := by decide +kernel
theorem dX3_beginWithKey_14 : decode cX3_beginWithKey 14 = .ok (.if_icmp .ge 39, 3) := by decide +kernel
theorem dX3_beginWithKey_17 : decode cX3_beginWithKey 17 = .ok (.iload_n 3, 1) := by decide +kernel
theorem dX3_beginWithKey_18 : decode cX3_beginWithKey 18 = .ok (.aload_n 1, 1) := by decide +kernel
theorem dX3_beginWithKey_19 : decode cX3_beginWithKey 19 = .ok (.invokevirtual 106, 3) := by decide +kernel
theorem dX3_beginWithKey_22 : decode cX3_beginWithKey 22 = .ok (.if_icmp .ge 11, 3) := by decide +kernel
theorem dX3_beginWithKey_25 : decode cX3_beginWithKey 25 = .ok (.aload_n 1, 1) := by decide +kernel
theorem dX3_beginWithKey_26 : decode cX3_beginWithKey 26 = .ok (.iload_n 3, 1) := by decide +kernel
theorem dX3_beginWithKey_27 : decode cX3_beginWithKey 27 = .ok (.invokevirtual 109, 3) := by decide +kernel
theorem dX3_beginWithKey_30 : decode cX3_beginWithKey 30 = .ok (.goto 4, 3) := by decide +kernel
theorem dX3_beginWithKey_33 : decode cX3_beginWithKey 33 = .ok (.iconst 0, 1) := by decide +kernel
theorem dX3_beginWithKey_34 : decode cX3_beginWithKey 34 = .ok (.istore 4, 2) := by decide +kernel
theorem dX3_beginWithKey_36 : decode cX3_beginWithKey 36 = .ok (.aload_n 0, 1) := by decide +kernel
theorem dX3_beginWithKey_37 : decode cX3_beginWithKey 37 = .ok (.getfield 25, 3) := by decide +kernel
theorem dX3_beginWithKey_40 : decode cX3_beginWithKey 40 = .ok (.iload 4, 2) := by decide +kernel
theorem dX3_beginWithKey_42 : decode cX3_beginWithKey 42 = .ok (.iload_n 2, 1) := by decide +kernel
theorem dX3_beginWithKey_43 : decode cX3_beginWithKey 43 = .ok (.ixor, 1) := by decide +kernel
theorem dX3_beginWithKey_44 : decode cX3_beginWithKey 44 = .ok (.invokevirtual 112, 3) := by decide +kernel
theorem dX3_beginWithKey_47 : decode cX3_beginWithKey 47 = .ok (.iinc 3 1, 3) := by decide +kernel
theorem dX3_beginWithKey_50 : decode cX3_beginWithKey 50 = .ok (.goto (-41), 3) := by decide +kernel
theorem dX3_beginWithKey_53 : decode cX3_beginWithKey 53 = .ok (.return_, 1) := by decide +kernel
theorem dX3_stretch_0 : decode cX3_stretch 0 = .ok (.aload_n 0, 1) := by decide +kernel
theorem dX3_stretch_1 : decode cX3_stretch 1 = .ok (.getfield 25, 3) := by decide +kernel
theorem dX3_stretch_4 : decode cX3_stretch 4 = .ok (.invokevirtual 80, 3) := by decide +kernel
theorem dX3_stretch_7 : decode cX3_stretch 7 = .ok (.aload_n 0, 1) := by decide +kernel
theorem dX3_stretch_8 : decode cX3_stretch 8 = .ok (.getfield 25, 3) := by decide +kernel
theorem dX3_stretch_11 : decode cX3_stretch 11 = .ok (.iconst 0, 1) := by decide +kernel
theorem dX3_stretch_12 : decode cX3_stretch 12 = .ok (.invokevirtual 112, 3) := by decide +kernel
theorem dX3_stretch_15 : decode cX3_stretch 15 = .ok (.aload_n 0, 1) := by decide +kernel
theorem dX3_stretch_16 : decode cX3_stretch 16 = .ok (.getfield 25, 3) := by decide +kernel
theorem dX3_stretch_19 : decode cX3_stretch 19 = .ok (.ldc2_w 115, 3) := by decide +kernel
theorem dX3_stretch_22 : decode cX3_stretch 22 = .ok (.iload_n 2, 1) := by decide +kernel
theorem dX3_stretch_23 : decode cX3_stretch 23 = .ok (.i2l, 1) := by decide +kernel
theorem dX3_stretch_24 : decode cX3_stretch 24 = .ok (.lmul, 1) := by decide +kernel
theorem dX3_stretch_25 : decode cX3_stretch 25 = .ok (.iconst 4, 1) := by decide +kernel
theorem dX3_stretch_26 : decode cX3_stretch 26 = .ok (.invokevirtual 83, 3) := by decide +kernel
theorem dX3_stretch_29 : decode cX3_stretch 29 = .ok (.aload_n 0, 1) := by decide +kernel
theorem dX3_stretch_30 : decode cX3_stretch 30 = .ok (.getfield 25, 3) := by decide +kernel
theorem dX3_stretch_33 : decode cX3_stretch 33 = .ok (.aload_n 1, 1) := by decide +kernel
theorem dX3_stretch_34 : decode cX3_stretch 34 = .ok (.invokevirtual 98, 3) := by decide +kernel
theorem dX3_stretch_37 : decode cX3_stretch 37 = .ok (.aload_n 3, 1) := by decide +kernel
theorem dX3_stretch_38 : decode cX3_stretch 38 = .ok (.invokevirtual 80, 3) := by decide +kernel
theorem dX3_stretch_41 : decode cX3_stretch 41 = .ok (.iconst 1, 1) := by decide +kernel
theorem dX3_stretch_42 : decode cX3_stretch 42 = .ok (.istore 4, 2) := by decide +kernel
theorem dX3_stretch_44 : decode cX3_stretch 44 = .ok (.iload 4, 2) := by decide +kernel
theorem dX3_stretch_46 : decode cX3_stretch 46 = .ok (.iload_n 2, 1) := by decide +kernel
theorem dX3_stretch_47 : decode cX3_stretch 47 = .ok (.if_icmp .gt 54, 3) := by decide +kernel
theorem dX3_stretch_50 : decode cX3_stretch 50 = .ok (.aload_n 3, 1) := by decide +kernel
theorem dX3_stretch_51 : decode cX3_stretch 51 = .ok (.invokevirtual 106, 3) := by decide +kernel
theorem dX3_stretch_54 : decode cX3_stretch 54 = .ok (.iload_n 2, 1) := by decide +kernel
theorem dX3_stretch_55 : decode cX3_stretch 55 = .ok (.if_icmp .ge 46, 3) := by decide +kernel
theorem dX3_stretch_58 : decode cX3_stretch 58 = .ok (.aload_n 0, 1) := by decide +kernel
theorem dX3_stretch_59 : decode cX3_stretch 59 = .ok (.getfield 25, 3) := by decide +kernel
theorem dX3_stretch_62 : decode cX3_stretch 62 = .ok (.iconst 0, 1) := by decide +kernel
theorem dX3_stretch_63 : decode cX3_stretch 63 = .ok (.iload 4, 2) := by decide +kernel
theorem dX3_stretch_65 : decode cX3_stretch 65 = .ok (.invokevirtual 117, 3) := by decide +kernel
theorem dX3_stretch_68 : decode cX3_stretch 68 = .ok (.aload_n 0, 1) := by decide +kernel
theorem dX3_stretch_69 : decode cX3_stretch 69 = .ok (.aload_n 0, 1) := by decide +kernel
theorem dX3_stretch_70 : decode cX3_stretch 70 = .ok (.getfield 25, 3) := by decide +kernel
theorem dX3_stretch_73 : decode cX3_stretch 73 = .ok (.aload_n 0, 1) := by decide +kernel
theorem dX3_stretch_74 : decode cX3_stretch 74 = .ok (.getfield 29, 3) := by decide +kernel
theorem dX3_stretch_77 : decode cX3_stretch 77 = .ok (.invokevirtual 102, 3) := by decide +kernel
theorem dX3_stretch_80 : decode cX3_stretch 80 = .ok (.aload_n 3, 1) := by decide +kernel
theorem dX3_stretch_81 : decode cX3_stretch 81 = .ok (.aload_n 0, 1) := by decide +kernel
theorem dX3_stretch_82 : decode cX3_stretch 82 = .ok (.getfield 29, 3) := by decide +kernel
theorem dX3_stretch_85 : decode cX3_stretch 85 = .ok (.iconst 0, 1) := by decide +kernel
theorem dX3_stretch_86 : decode cX3_stretch 86 = .ok (.iload_n 2, 1) := by decide +kernel
theorem dX3_stretch_87 : decode cX3_stretch 87 = .ok (.aload_n 3, 1) := by decide +kernel
theorem dX3_stretch_88 : decode cX3_stretch 88 = .ok (.invokevirtual 106, 3) := by decide +kernel
theorem dX3_stretch_91 : decode cX3_stretch 91 = .ok (.isub, 1) := by decide +kernel
theorem dX3_stretch_92 : decode cX3_stretch 92 = .ok (.invokevirtual 121, 3) := by decide +kernel
theorem dX3_stretch_95 : decode cX3_stretch 95 = .ok (.iinc 4 1, 3) := by decide +kernel
theorem dX3_stretch_98 : decode cX3_stretch 98 = .ok (.goto (-54), 3) := by decide +kernel
theorem dX3_stretch_101 : decode cX3_stretch 101 = .ok (.return_, 1) := by decide +kernel
theorem dX4_init_0 : decode cX4_init 0 = .ok (.aload_n 0, 1) := by decide +kernel
theorem dX4_init_1 : decode cX4_init 1 = .ok (.iload_n 1, 1) := by decide +kernel
theorem dX4_init_2 : decode cX4_init 2 = .ok (.iload_n 2, 1) := by decide +kernel
theorem dX4_init_3 : decode cX4_init 3 = .ok (.iload_n 3, 1) := by decide +kernel
theorem dX4_init_4 : decode cX4_init 4 = .ok (.iload 4, 2) := by decide +kernel
theorem dX4_init_6 : decode cX4_init 6 = .ok (.aload 5, 2) := by decide +kernel
theorem dX4_init_8 : decode cX4_init 8 = .ok (.invokespecial 1, 3) := by decide +kernel
theorem dX4_init_11 : decode cX4_init 11 = .ok (.aload_n 0, 1) := by decide +kernel
theorem dX4_init_12 : decode cX4_init 12 = .ok (.aload 5, 2) := by decide +kernel
theorem dX4_init_14 : decode cX4_init 14 = .ok (.iload_n 1, 1) := by decide +kernel
theorem dX4_init_15 : decode cX4_init 15 = .ok (.invokestatic 7, 3) := by decide +kernel
theorem dX4_init_18 : decode cX4_init 18 = .ok (.invokevirtual 13, 3) := by decide +kernel
theorem dX4_init_21 : decode cX4_init 21 = .ok (.putfield 19, 3) := by decide +kernel
theorem dX4_init_24 : decode cX4_init 24 = .ok (.return_, 1) := by decide +kernel
theorem dX4_plant_0 : decode cX4_plant 0 = .ok (.aload_n 0, 1) := by decide +kernel
theorem dX4_plant_1 : decode cX4_plant 1 = .ok (.getfield 23, 3) := by decide +kernel
theorem dX4_plant_4 : decode cX4_plant 4 = .ok (.getfield 27, 3) := by decide +kernel
theorem dX4_plant_7 : decode cX4_plant 7 = .ok (.invokevirtual 31, 3) := by decide +kernel
theorem dX4_plant_10 : decode cX4_plant 10 = .ok (.aload_n 0, 1) := by decide +kernel
theorem dX4_plant_11 : decode cX4_plant 11 = .ok (.invokevirtual 37, 3) := by decide +kernel
theorem dX4_plant_14 : decode cX4_plant 14 = .ok (.ifCond .ne 8, 3) := by decide +kernel
theorem dX4_plant_17 : decode cX4_plant 17 = .ok (.aload_n 0, 1) := by decide +kernel
theorem dX4_plant_18 : decode cX4_plant 18 = .ok (.iconst 1, 1) := by decide +kernel
theorem dX4_plant_19 : decode cX4_plant 19 = .ok (.invokevirtual 41, 3) := by decide +kernel
theorem dX4_plant_22 : decode cX4_plant 22 = .ok (.aload_n 0, 1) := by decide +kernel
theorem dX4_plant_23 : decode cX4_plant 23 = .ok (.getfield 23, 3) := by decide +kernel
theorem dX4_plant_26 : decode cX4_plant 26 = .ok (.getfield 27, 3) := by decide +kernel
theorem dX4_plant_29 : decode cX4_plant 29 = .ok (.aload_n 1, 1) := by decide +kernel
theorem dX4_plant_30 : decode cX4_plant 30 = .ok (.invokevirtual 45, 3) := by decide +kernel
theorem dX4_plant_33 : decode cX4_plant 33 = .ok (.aload_n 0, 1) := by decide +kernel
theorem dX4_plant_34 : decode cX4_plant 34 = .ok (.getfield 23, 3) := by decide +kernel
theorem dX4_plant_37 : decode cX4_plant 37 = .ok (.getfield 27, 3) := by decide +kernel
theorem dX4_plant_40 : decode cX4_plant 40 = .ok (.aload_n 2, 1) := by decide +kernel
theorem dX4_plant_41 : decode cX4_plant 41 = .ok (.invokevirtual 45, 3) := by decide +kernel
theorem dX4_plant_44 : decode cX4_plant 44 = .ok (.aload_n 0, 1) := by decide +kernel
theorem dX4_plant_45 : decode cX4_plant 45 = .ok (.getfield 19, 3) := by decide +kernel
theorem dX4_plant_48 : decode cX4_plant 48 = .ok (.aload_n 0, 1) := by decide +kernel
theorem dX4_plant_49 : decode cX4_plant 49 = .ok (.getfield 23, 3) := by decide +kernel
theorem dX4_plant_52 : decode cX4_plant 52 = .ok (.getfield 27, 3) := by decide +kernel
theorem dX4_plant_55 : decode cX4_plant 55 = .ok (.aload_n 0, 1) := by decide +kernel
theorem dX4_plant_56 : decode cX4_plant 56 = .ok (.getfield 49, 3) := by decide +kernel
theorem dX4_plant_59 : decode cX4_plant 59 = .ok (.aload_n 0, 1) := by decide +kernel
theorem dX4_plant_60 : decode cX4_plant 60 = .ok (.getfield 53, 3) := by decide +kernel
theorem dX4_plant_63 : decode cX4_plant 63 = .ok (.invokevirtual 56, 3) := by decide +kernel
theorem dX4_plant_66 : decode cX4_plant 66 = .ok (.aload_n 0, 1) := by decide +kernel
theorem dX4_plant_67 : decode cX4_plant 67 = .ok (.iconst 0, 1) := by decide +kernel
theorem dX4_plant_68 : decode cX4_plant 68 = .ok (.invokevirtual 41, 3) := by decide +kernel
theorem dX4_plant_71 : decode cX4_plant 71 = .ok (.aload_n 0, 1) := by decide +kernel
theorem dX4_plant_72 : decode cX4_plant 72 = .ok (.getfield 19, 3) := by decide +kernel
theorem dX4_plant_75 : decode cX4_plant 75 = .ok (.aload_n 0, 1) := by decide +kernel
theorem dX4_plant_76 : decode cX4_plant 76 = .ok (.getfield 23, 3) := by decide +kernel
theorem dX4_plant_79 : decode cX4_plant 79 = .ok (.getfield 27, 3) := by decide +kernel
theorem dX4_plant_82 : decode cX4_plant 82 = .ok (.aload_n 0, 1) := by decide +kernel
theorem dX4_plant_83 : decode cX4_plant 83 = .ok (.getfield 49, 3) := by decide +kernel
theorem dX4_plant_86 : decode cX4_plant 86 = .ok (.aload_n 0, 1) := by decide +kernel
theorem dX4_plant_87 : decode cX4_plant 87 = .ok (.getfield 62, 3) := by decide +kernel
theorem dX4_plant_90 : decode cX4_plant 90 = .ok (.invokevirtual 56, 3) := by decide +kernel
theorem dX4_plant_93 : decode cX4_plant 93 = .ok (.aload_n 0, 1) := by decide +kernel
theorem dX4_plant_94 : decode cX4_plant 94 = .ok (.invokevirtual 65, 3) := by decide +kernel
theorem dX4_plant_97 : decode cX4_plant 97 = .ok (.return_, 1) := by decide +kernel
theorem dX4_produce_0 : decode cX4_produce 0 = .ok (.aload_n 2, 1) := by decide +kernel
theorem dX4_produce_1 : decode cX4_produce 1 = .ok (.invokevirtual 68, 3) := by decide +kernel
theorem dX4_produce_4 : decode cX4_produce 4 = .ok (.ifCond .le 23, 3) := by decide +kernel
theorem dX4_produce_7 : decode cX4_produce 7 = .ok (.aload_n 0, 1) := by decide +kernel
theorem dX4_produce_8 : decode cX4_produce 8 = .ok (.iconst 2, 1) := by decide +kernel
theorem dX4_produce_9 : decode cX4_produce 9 = .ok (.invokevirtual 41, 3) := by decide +kernel
theorem dX4_produce_12 : decode cX4_produce 12 = .ok (.aload_n 0, 1) := by decide +kernel
theorem dX4_produce_13 : decode cX4_produce 13 = .ok (.getfield 23, 3) := by decide +kernel
theorem dX4_produce_16 : decode cX4_produce 16 = .ok (.getfield 27, 3) := by decide +kernel
theorem dX4_produce_19 : decode cX4_produce 19 = .ok (.aload_n 2, 1) := by decide +kernel
theorem dX4_produce_20 : decode cX4_produce 20 = .ok (.invokevirtual 45, 3) := by decide +kernel
theorem dX4_produce_23 : decode cX4_produce 23 = .ok (.aload_n 0, 1) := by decide +kernel
theorem dX4_produce_24 : decode cX4_produce 24 = .ok (.invokevirtual 72, 3) := by decide +kernel
theorem dX4_produce_27 : decode cX4_produce 27 = .ok (.aload_n 0, 1) := by decide +kernel
theorem dX4_produce_28 : decode cX4_produce 28 = .ok (.getfield 23, 3) := by decide +kernel
theorem dX4_produce_31 : decode cX4_produce 31 = .ok (.getfield 75, 3) := by decide +kernel
theorem dX4_produce_34 : decode cX4_produce 34 = .ok (.astore 4, 2) := by decide +kernel
theorem dX4_produce_36 : decode cX4_produce 36 = .ok (.aload 4, 2) := by decide +kernel
theorem dX4_produce_38 : decode cX4_produce 38 = .ok (.aload_n 0, 1) := by decide +kernel
theorem dX4_produce_39 : decode cX4_produce 39 = .ok (.getfield 53, 3) := by decide +kernel
theorem dX4_produce_42 : decode cX4_produce 42 = .ok (.iconst 0, 1) := by decide +kernel
theorem dX4_produce_43 : decode cX4_produce 43 = .ok (.aload_n 0, 1) := by decide +kernel
theorem dX4_produce_44 : decode cX4_produce 44 = .ok (.getfield 53, 3) := by decide +kernel
theorem dX4_produce_47 : decode cX4_produce 47 = .ok (.invokevirtual 68, 3) := by decide +kernel
theorem dX4_produce_50 : decode cX4_produce 50 = .ok (.invokevirtual 78, 3) := by decide +kernel
theorem dX4_produce_53 : decode cX4_produce 53 = .ok (.iconst 0, 1) := by decide +kernel
theorem dX4_produce_54 : decode cX4_produce 54 = .ok (.istore 5, 2) := by decide +kernel
theorem dX4_produce_56 : decode cX4_produce 56 = .ok (.iload 5, 2) := by decide +kernel
theorem dX4_produce_58 : decode cX4_produce 58 = .ok (.iload_n 1, 1) := by decide +kernel
theorem dX4_produce_59 : decode cX4_produce 59 = .ok (.if_icmp .ge 57, 3) := by decide +kernel
theorem dX4_produce_62 : decode cX4_produce 62 = .ok (.aload_n 3, 1) := by decide +kernel
theorem dX4_produce_63 : decode cX4_produce 63 = .ok (.invokevirtual 68, 3) := by decide +kernel
theorem dX4_produce_66 : decode cX4_produce 66 = .ok (.iload_n 1, 1) := by decide +kernel
theorem dX4_produce_67 : decode cX4_produce 67 = .ok (.if_icmp .ge 49, 3) := by decide +kernel
theorem dX4_produce_70 : decode cX4_produce 70 = .ok (.aload_n 0, 1) := by decide +kernel
theorem dX4_produce_71 : decode cX4_produce 71 = .ok (.getfield 19, 3) := by decide +kernel
theorem dX4_produce_74 : decode cX4_produce 74 = .ok (.aload 4, 2) := by decide +kernel
theorem dX4_produce_76 : decode cX4_produce 76 = .ok (.aload_n 0, 1) := by decide +kernel
theorem dX4_produce_77 : decode cX4_produce 77 = .ok (.getfield 23, 3) := by decide +kernel
theorem dX4_produce_80 : decode cX4_produce 80 = .ok (.getfield 82, 3) := by decide +kernel
theorem dX4_produce_83 : decode cX4_produce 83 = .ok (.invokevirtual 85, 3) := by decide +kernel
theorem dX4_produce_86 : decode cX4_produce 86 = .ok (.aload_n 3, 1) := by decide +kernel
theorem dX4_produce_87 : decode cX4_produce 87 = .ok (.aload_n 0, 1) := by decide +kernel
theorem dX4_produce_88 : decode cX4_produce 88 = .ok (.getfield 23, 3) := by decide +kernel
theorem dX4_produce_91 : decode cX4_produce 91 = .ok (.getfield 82, 3) := by decide +kernel
theorem dX4_produce_94 : decode cX4_produce 94 = .ok (.iconst 0, 1) := by decide +kernel
theorem dX4_produce_95 : decode cX4_produce 95 = .ok (.iload_n 1, 1) := by decide +kernel
theorem dX4_produce_96 : decode cX4_produce 96 = .ok (.aload_n 3, 1) := by decide +kernel
theorem dX4_produce_97 : decode cX4_produce 97 = .ok (.invokevirtual 68, 3) := by decide +kernel
theorem dX4_produce_100 : decode cX4_produce 100 = .ok (.isub, 1) := by decide +kernel
theorem dX4_produce_101 : decode cX4_produce 101 = .ok (.invokevirtual 89, 3) := by decide +kernel
theorem dX4_produce_104 : decode cX4_produce 104 = .ok (.aload 4, 2) := by decide +kernel
theorem dX4_produce_106 : decode cX4_produce 106 = .ok (.iconst 1, 1) := by decide +kernel
theorem dX4_produce_107 : decode cX4_produce 107 = .ok (.invokevirtual 92, 3) := by decide +kernel
theorem dX4_produce_110 : decode cX4_produce 110 = .ok (.iinc 5 1, 3) := by decide +kernel
theorem dX4_produce_113 : decode cX4_produce 113 = .ok (.goto (-57), 3) := by decide +kernel
theorem dX4_produce_116 : decode cX4_produce 116 = .ok (.aload_n 0, 1) := by decide +kernel
theorem dX4_produce_117 : decode cX4_produce 117 = .ok (.iconst 3, 1) := by decide +kernel
theorem dX4_produce_118 : decode cX4_produce 118 = .ok (.invokevirtual 41, 3) := by decide +kernel
theorem dX4_produce_121 : decode cX4_produce 121 = .ok (.aload_n 0, 1) := by decide +kernel
theorem dX4_produce_122 : decode cX4_produce 122 = .ok (.invokevirtual 72, 3) := by decide +kernel
theorem dX4_produce_125 : decode cX4_produce 125 = .ok (.aload_n 0, 1) := by decide +kernel
theorem dX4_produce_126 : decode cX4_produce 126 = .ok (.getfield 53, 3) := by decide +kernel
theorem dX4_produce_129 : decode cX4_produce 129 = .ok (.aload_n 0, 1) := by decide +kernel
theorem dX4_produce_130 : decode cX4_produce 130 = .ok (.getfield 62, 3) := by decide +kernel
theorem dX4_produce_133 : decode cX4_produce 133 = .ok (.invokevirtual 95, 3) := by decide +kernel
theorem dX4_produce_136 : decode cX4_produce 136 = .ok (.aload_n 0, 1) := by decide +kernel
theorem dX4_produce_137 : decode cX4_produce 137 = .ok (.getfield 53, 3) := by decide +kernel
theorem dX4_produce_140 : decode cX4_produce 140 = .ok (.aload_n 0, 1) := by decide +kernel
theorem dX4_produce_141 : decode cX4_produce 141 = .ok (.invokevirtual 98, 3) := by decide +kernel
theorem dX4_produce_144 : decode cX4_produce 144 = .ok (.invokevirtual 92, 3) := by decide +kernel
theorem dX4_produce_147 : decode cX4_produce 147 = .ok (.aload_n 0, 1) := by decide +kernel
theorem dX4_produce_148 : decode cX4_produce 148 = .ok (.iload_n 1, 1) := by decide +kernel
theorem dX4_produce_149 : decode cX4_produce 149 = .ok (.invokevirtual 101, 3) := by decide +kernel
theorem dX4_produce_152 : decode cX4_produce 152 = .ok (.return_, 1) := by decide +kernel
theorem dX4_beginMessage_0 : decode cX4_beginMessage 0 = .ok (.aload_n 0, 1) := by decide +kernel
theorem dX4_beginMessage_1 : decode cX4_beginMessage 1 = .ok (.getfield 23, 3) := by decide +kernel
theorem dX4_beginMessage_4 : decode cX4_beginMessage 4 = .ok (.getfield 27, 3) := by decide +kernel
theorem dX4_beginMessage_7 : decode cX4_beginMessage 7 = .ok (.invokevirtual 31, 3) := by decide +kernel
theorem dX4_beginMessage_10 : decode cX4_beginMessage 10 = .ok (.aload_n 0, 1) := by decide +kernel
theorem dX4_beginMessage_11 : decode cX4_beginMessage 11 = .ok (.getfield 23, 3) := by decide +kernel
theorem dX4_beginMessage_14 : decode cX4_beginMessage 14 = .ok (.getfield 27, 3) := by decide +kernel
theorem dX4_beginMessage_17 : decode cX4_beginMessage 17 = .ok (.iload_n 1, 1) := by decide +kernel
theorem dX4_beginMessage_18 : decode cX4_beginMessage 18 = .ok (.invokevirtual 104, 3) := by decide +kernel
theorem dX4_beginMessage_21 : decode cX4_beginMessage 21 = .ok (.aload_n 0, 1) := by decide +kernel
theorem dX4_beginMessage_22 : decode cX4_beginMessage 22 = .ok (.getfield 23, 3) := by decide +kernel
theorem dX4_beginMessage_25 : decode cX4_beginMessage 25 = .ok (.getfield 27, 3) := by decide +kernel
theorem dX4_beginMessage_28 : decode cX4_beginMessage 28 = .ok (.aload_n 0, 1) := by decide +kernel
theorem dX4_beginMessage_29 : decode cX4_beginMessage 29 = .ok (.getfield 53, 3) := by decide +kernel
theorem dX4_beginMessage_32 : decode cX4_beginMessage 32 = .ok (.invokevirtual 45, 3) := by decide +kernel
theorem dX4_beginMessage_35 : decode cX4_beginMessage 35 = .ok (.return_, 1) := by decide +kernel
theorem dX4_addDigest_0 : decode cX4_addDigest 0 = .ok (.aload_n 0, 1) := by decide +kernel
theorem dX4_addDigest_1 : decode cX4_addDigest 1 = .ok (.getfield 19, 3) := by decide +kernel
theorem dX4_addDigest_4 : decode cX4_addDigest 4 = .ok (.aload_n 0, 1) := by decide +kernel
theorem dX4_addDigest_5 : decode cX4_addDigest 5 = .ok (.getfield 23, 3) := by decide +kernel
theorem dX4_addDigest_8 : decode cX4_addDigest 8 = .ok (.getfield 27, 3) := by decide +kernel
theorem dX4_addDigest_11 : decode cX4_addDigest 11 = .ok (.aload_n 0, 1) := by decide +kernel
theorem dX4_addDigest_12 : decode cX4_addDigest 12 = .ok (.getfield 23, 3) := by decide +kernel
theorem dX4_addDigest_15 : decode cX4_addDigest 15 = .ok (.getfield 82, 3) := by decide +kernel
theorem dX4_addDigest_18 : decode cX4_addDigest 18 = .ok (.invokevirtual 85, 3) := by decide +kernel
theorem dX4_addDigest_21 : decode cX4_addDigest 21 = .ok (.aload_n 0, 1) := by decide +kernel
theorem dX4_addDigest_22 : decode cX4_addDigest 22 = .ok (.getfield 53, 3) := by decide +kernel
theorem dX4_addDigest_25 : decode cX4_addDigest 25 = .ok (.aload_n 0, 1) := by decide +kernel
theorem dX4_addDigest_26 : decode cX4_addDigest 26 = .ok (.getfield 23, 3) := by decide +kernel
theorem dX4_addDigest_29 : decode cX4_addDigest 29 = .ok (.getfield 82, 3) := by decide +kernel
theorem dX4_addDigest_32 : decode cX4_addDigest 32 = .ok (.invokevirtual 95, 3) := by decide +kernel
theorem dX4_addDigest_35 : decode cX4_addDigest 35 = .ok (.return_, 1) := by decide +kernel
theorem dX5_init_0 : decode cX5_init 0 = .ok (.aload_n 0, 1) := by decide +kernel
theorem dX5_init_1 : decode cX5_init 1 = .ok (.invokespecial 3, 3) := by decide +kernel
theorem dX5_init_4 : decode cX5_init 4 = .ok (.aload_n 0, 1) := by decide +kernel
theorem dX5_init_5 : decode cX5_init 5 = .ok (.iconst 0, 1) := by decide +kernel
theorem dX5_init_6 : decode cX5_init 6 = .ok (.putfield 9, 3) := by decide +kernel
theorem dX5_init_9 : decode cX5_init 9 = .ok (.aload_n 0, 1) := by decide +kernel
theorem dX5_init_10 : decode cX5_init 10 = .ok (.iconst 0, 1) := by decide +kernel
theorem dX5_init_11 : decode cX5_init 11 = .ok (.putfield 15, 3) := by decide +kernel
theorem dX5_init_14 : decode cX5_init 14 = .ok (.aload_n 0, 1) := by decide +kernel
theorem dX5_init_15 : decode cX5_init 15 = .ok (.iconst 0, 1) := by decide +kernel
theorem dX5_init_16 : decode cX5_init 16 = .ok (.putfield 18, 3) := by decide +kernel
theorem dX5_init_19 : decode cX5_init 19 = .ok (.aload_n 0, 1) := by decide +kernel
theorem dX5_init_20 : decode cX5_init 20 = .ok (.iload_n 1, 1) := by decide +kernel
theorem dX5_init_21 : decode cX5_init 21 = .ok (.putfield 21, 3) := by decide +kernel
theorem dX5_init_24 : decode cX5_init 24 = .ok (.aload_n 0, 1) := by decide +kernel
theorem dX5_init_25 : decode cX5_init 25 = .ok (.iload_n 2, 1) := by decide +kernel
theorem dX5_init_26 : decode cX5_init 26 = .ok (.putfield 24, 3) := by decide +kernel
theorem dX5_init_29 : decode cX5_init 29 = .ok (.aload_n 0, 1) := by decide +kernel
theorem dX5_init_30 : decode cX5_init 30 = .ok (.iload_n 3, 1) := by decide +kernel
theorem dX5_init_31 : decode cX5_init 31 = .ok (.putfield 27, 3) := by decide +kernel
theorem dX5_init_34 : decode cX5_init 34 = .ok (.aload_n 0, 1) := by decide +kernel
theorem dX5_init_35 : decode cX5_init 35 = .ok (.iload 4, 2) := by decide +kernel
theorem dX5_init_37 : decode cX5_init 37 = .ok (.putfield 31, 3) := by decide +kernel
theorem dX5_init_40 : decode cX5_init 40 = .ok (.aload_n 0, 1) := by decide +kernel
theorem dX5_init_41 : decode cX5_init 41 = .ok (.aload 5, 2) := by decide +kernel
theorem dX5_init_43 : decode cX5_init 43 = .ok (.putfield 34, 3) := by decide +kernel
theorem dX5_init_46 : decode cX5_init 46 = .ok (.aload_n 0, 1) := by decide +kernel
theorem dX5_init_47 : decode cX5_init 47 = .ok (.iload_n 1, 1) := by decide +kernel
theorem dX5_init_48 : decode cX5_init 48 = .ok (.invokestatic 38, 3) := by decide +kernel
theorem dX5_init_51 : decode cX5_init 51 = .ok (.putfield 42, 3) := by decide +kernel
theorem dX5_init_54 : decode cX5_init 54 = .ok (.iload_n 1, 1) := by decide +kernel
theorem dX5_init_55 : decode cX5_init 55 = .ok (.iconst 4, 1) := by decide +kernel
theorem dX5_init_56 : decode cX5_init 56 = .ok (.if_icmp .lt 7, 3) := by decide +kernel
theorem dX5_init_59 : decode cX5_init 59 = .ok (.iconst 1, 1) := by decide +kernel
theorem dX5_init_60 : decode cX5_init 60 = .ok (.goto 4, 3) := by decide +kernel
theorem dX5_init_63 : decode cX5_init 63 = .ok (.iconst 0, 1) := by decide +kernel
theorem dX5_init_64 : decode cX5_init 64 = .ok (.istore 6, 2) := by decide +kernel
theorem dX5_init_66 : decode cX5_init 66 = .ok (.aload_n 0, 1) := by decide +kernel
theorem dX5_init_67 : decode cX5_init 67 = .ok (.new 45, 3) := by decide +kernel
theorem dX5_init_70 : decode cX5_init 70 = .ok (.dup, 1) := by decide +kernel
theorem dX5_init_71 : decode cX5_init 71 = .ok (.iload 6, 2) := by decide +kernel
theorem dX5_init_73 : decode cX5_init 73 = .ok (.ifCond .eq 8, 3) := by decide +kernel
theorem dX5_init_76 : decode cX5_init 76 = .ok (.bipush 16, 2) := by decide +kernel
theorem dX5_init_78 : decode cX5_init 78 = .ok (.goto 7, 3) := by decide +kernel
theorem dX5_init_81 : decode cX5_init 81 = .ok (.aload_n 0, 1) := by decide +kernel
theorem dX5_init_82 : decode cX5_init 82 = .ok (.getfield 42, 3) := by decide +kernel
theorem dX5_init_85 : decode cX5_init 85 = .ok (.invokespecial 49, 3) := by decide +kernel
theorem dX5_init_88 : decode cX5_init 88 = .ok (.putfield 52, 3) := by decide +kernel
theorem dX5_init_91 : decode cX5_init 91 = .ok (.aload_n 0, 1) := by decide +kernel
theorem dX5_init_92 : decode cX5_init 92 = .ok (.new 45, 3) := by decide +kernel
theorem dX5_init_95 : decode cX5_init 95 = .ok (.dup, 1) := by decide +kernel
theorem dX5_init_96 : decode cX5_init 96 = .ok (.iload 6, 2) := by decide +kernel
theorem dX5_init_98 : decode cX5_init 98 = .ok (.ifCond .eq 13, 3) := by decide +kernel
theorem dX5_init_101 : decode cX5_init 101 = .ok (.aload_n 0, 1) := by decide +kernel
theorem dX5_init_102 : decode cX5_init 102 = .ok (.getfield 42, 3) := by decide +kernel
theorem dX5_init_105 : decode cX5_init 105 = .ok (.bipush 16, 2) := by decide +kernel
theorem dX5_init_107 : decode cX5_init 107 = .ok (.isub, 1) := by decide +kernel
theorem dX5_init_108 : decode cX5_init 108 = .ok (.goto 7, 3) := by decide +kernel
theorem dX5_init_111 : decode cX5_init 111 = .ok (.aload_n 0, 1) := by decide +kernel
theorem dX5_init_112 : decode cX5_init 112 = .ok (.getfield 42, 3) := by decide +kernel
theorem dX5_init_115 : decode cX5_init 115 = .ok (.invokespecial 49, 3) := by decide +kernel
theorem dX5_init_118 : decode cX5_init 118 = .ok (.putfield 56, 3) := by decide +kernel
theorem dX5_init_121 : decode cX5_init 121 = .ok (.return_, 1) := by decide +kernel
theorem dX5_strongest_0 : decode cX5_strongest 0 = .ok (.iload_n 0, 1) := by decide +kernel
theorem dX5_strongest_1 : decode cX5_strongest 1 = .ok (.ifCond .lt 17, 3) := by decide +kernel
theorem dX5_strongest_4 : decode cX5_strongest 4 = .ok (.iload_n 0, 1) := by decide +kernel
theorem dX5_strongest_5 : decode cX5_strongest 5 = .ok (.bipush 8, 2) := by decide +kernel
theorem dX5_strongest_7 : decode cX5_strongest 7 = .ok (.if_icmp .ge 11, 3) := by decide +kernel
theorem dX5_strongest_10 : decode cX5_strongest 10 = .ok (.getstatic 59, 3) := by decide +kernel
theorem dX5_strongest_13 : decode cX5_strongest 13 = .ok (.iload_n 0, 1) := by decide +kernel
theorem dX5_strongest_14 : decode cX5_strongest 14 = .ok (.iaload, 1) := by decide +kernel
theorem dX5_strongest_15 : decode cX5_strongest 15 = .ok (.goto 4, 3) := by decide +kernel
theorem dX5_strongest_18 : decode cX5_strongest 18 = .ok (.iconst 0, 1) := by decide +kernel
theorem dX5_strongest_19 : decode cX5_strongest 19 = .ok (.ireturn, 1) := by decide +kernel
theorem dX5_leastStrength_0 : decode cX5_leastStrength 0 = .ok (.iconst 0, 1) := by decide +kernel
theorem dX5_leastStrength_1 : decode cX5_leastStrength 1 = .ok (.istore_n 1, 1) := by decide +kernel
theorem dX5_leastStrength_2 : decode cX5_leastStrength 2 = .ok (.iload_n 1, 1) := by decide +kernel
theorem dX5_leastStrength_3 : decode cX5_leastStrength 3 = .ok (.getstatic 63, 3) := by decide +kernel
theorem dX5_leastStrength_6 : decode cX5_leastStrength 6 = .ok (.arraylength, 1) := by decide +kernel
theorem dX5_leastStrength_7 : decode cX5_leastStrength 7 = .ok (.if_icmp .ge 24, 3) := by decide +kernel
theorem dX5_leastStrength_10 : decode cX5_leastStrength 10 = .ok (.getstatic 63, 3) := by decide +kernel
theorem dX5_leastStrength_13 : decode cX5_leastStrength 13 = .ok (.iload_n 1, 1) := by decide +kernel
theorem dX5_leastStrength_14 : decode cX5_leastStrength 14 = .ok (.iaload, 1) := by decide +kernel
theorem dX5_leastStrength_15 : decode cX5_leastStrength 15 = .ok (.iload_n 0, 1) := by decide +kernel
theorem dX5_leastStrength_16 : decode cX5_leastStrength 16 = .ok (.if_icmp .lt 9, 3) := by decide +kernel
theorem dX5_leastStrength_19 : decode cX5_leastStrength 19 = .ok (.getstatic 63, 3) := by decide +kernel
theorem dX5_leastStrength_22 : decode cX5_leastStrength 22 = .ok (.iload_n 1, 1) := by decide +kernel
theorem dX5_leastStrength_23 : decode cX5_leastStrength 23 = .ok (.iaload, 1) := by decide +kernel
theorem dX5_leastStrength_24 : decode cX5_leastStrength 24 = .ok (.ireturn, 1) := by decide +kernel
theorem dX5_leastStrength_25 : decode cX5_leastStrength 25 = .ok (.iinc 1 1, 3) := by decide +kernel
theorem dX5_leastStrength_28 : decode cX5_leastStrength 28 = .ok (.goto (-26), 3) := by decide +kernel
theorem dX5_leastStrength_31 : decode cX5_leastStrength 31 = .ok (.iconst (-1), 1) := by decide +kernel
theorem dX5_leastStrength_32 : decode cX5_leastStrength 32 = .ok (.ireturn, 1) := by decide +kernel
theorem dX5_seedLengthOf_0 : decode cX5_seedLengthOf 0 = .ok (.iload_n 0, 1) := by decide +kernel
theorem dX5_seedLengthOf_1 : decode cX5_seedLengthOf 1 = .ok (.ifCond .lt 17, 3) := by decide +kernel
theorem dX5_seedLengthOf_4 : decode cX5_seedLengthOf 4 = .ok (.iload_n 0, 1) := by decide +kernel
theorem dX5_seedLengthOf_5 : decode cX5_seedLengthOf 5 = .ok (.bipush 8, 2) := by decide +kernel
theorem dX5_seedLengthOf_7 : decode cX5_seedLengthOf 7 = .ok (.if_icmp .ge 11, 3) := by decide +kernel
theorem dX5_seedLengthOf_10 : decode cX5_seedLengthOf 10 = .ok (.getstatic 66, 3) := by decide +kernel
theorem dX5_seedLengthOf_13 : decode cX5_seedLengthOf 13 = .ok (.iload_n 0, 1) := by decide +kernel
theorem dX5_seedLengthOf_14 : decode cX5_seedLengthOf 14 = .ok (.iaload, 1) := by decide +kernel
theorem dX5_seedLengthOf_15 : decode cX5_seedLengthOf 15 = .ok (.goto 4, 3) := by decide +kernel
theorem dX5_seedLengthOf_18 : decode cX5_seedLengthOf 18 = .ok (.iconst 0, 1) := by decide +kernel
theorem dX5_seedLengthOf_19 : decode cX5_seedLengthOf 19 = .ok (.ireturn, 1) := by decide +kernel
theorem dX5_isGreat_0 : decode cX5_isGreat 0 = .ok (.iload_n 0, 1) := by decide +kernel
theorem dX5_isGreat_1 : decode cX5_isGreat 1 = .ok (.iconst 1, 1) := by decide +kernel
theorem dX5_isGreat_2 : decode cX5_isGreat 2 = .ok (.iand, 1) := by decide +kernel
theorem dX5_isGreat_3 : decode cX5_isGreat 3 = .ok (.iconst 1, 1) := by decide +kernel
theorem dX5_isGreat_4 : decode cX5_isGreat 4 = .ok (.if_icmp .ne 7, 3) := by decide +kernel
theorem dX5_isGreat_7 : decode cX5_isGreat 7 = .ok (.iconst 1, 1) := by decide +kernel
theorem dX5_isGreat_8 : decode cX5_isGreat 8 = .ok (.goto 4, 3) := by decide +kernel
theorem dX5_isGreat_11 : decode cX5_isGreat 11 = .ok (.iconst 0, 1) := by decide +kernel
theorem dX5_isGreat_12 : decode cX5_isGreat 12 = .ok (.ireturn, 1) := by decide +kernel
theorem dX5_derives_0 : decode cX5_derives 0 = .ok (.aload_n 0, 1) := by decide +kernel
theorem dX5_derives_1 : decode cX5_derives 1 = .ok (.getfield 21, 3) := by decide +kernel
theorem dX5_derives_4 : decode cX5_derives 4 = .ok (.bipush 6, 2) := by decide +kernel
theorem dX5_derives_6 : decode cX5_derives 6 = .ok (.if_icmp .ge 7, 3) := by decide +kernel
theorem dX5_derives_9 : decode cX5_derives 9 = .ok (.iconst 1, 1) := by decide +kernel
theorem dX5_derives_10 : decode cX5_derives 10 = .ok (.goto 4, 3) := by decide +kernel
theorem dX5_derives_13 : decode cX5_derives 13 = .ok (.iconst 0, 1) := by decide +kernel
theorem dX5_derives_14 : decode cX5_derives 14 = .ok (.ireturn, 1) := by decide +kernel
theorem dX5_isNew_0 : decode cX5_isNew 0 = .ok (.aload_n 0, 1) := by decide +kernel
theorem dX5_isNew_1 : decode cX5_isNew 1 = .ok (.getfield 18, 3) := by decide +kernel
theorem dX5_isNew_4 : decode cX5_isNew 4 = .ok (.ifCond .ne 7, 3) := by decide +kernel
theorem dX5_isNew_7 : decode cX5_isNew 7 = .ok (.iconst 1, 1) := by decide +kernel
theorem dX5_isNew_8 : decode cX5_isNew 8 = .ok (.goto 4, 3) := by decide +kernel
theorem dX5_isNew_11 : decode cX5_isNew 11 = .ok (.iconst 0, 1) := by decide +kernel
theorem dX5_isNew_12 : decode cX5_isNew 12 = .ok (.ireturn, 1) := by decide +kernel
theorem dX5_isDue_0 : decode cX5_isDue 0 = .ok (.aload_n 0, 1) := by decide +kernel
theorem dX5_isDue_1 : decode cX5_isDue 1 = .ok (.getfield 9, 3) := by decide +kernel
theorem dX5_isDue_4 : decode cX5_isDue 4 = .ok (.aload_n 0, 1) := by decide +kernel
theorem dX5_isDue_5 : decode cX5_isDue 5 = .ok (.getfield 31, 3) := by decide +kernel
theorem dX5_isDue_8 : decode cX5_isDue 8 = .ok (.if_icmp .le 7, 3) := by decide +kernel
theorem dX5_isDue_11 : decode cX5_isDue 11 = .ok (.iconst 1, 1) := by decide +kernel
theorem dX5_isDue_12 : decode cX5_isDue 12 = .ok (.goto 4, 3) := by decide +kernel
theorem dX5_isDue_15 : decode cX5_isDue 15 = .ok (.iconst 0, 1) := by decide +kernel
theorem dX5_isDue_16 : decode cX5_isDue 16 = .ok (.ireturn, 1) := by decide +kernel
theorem dX5_isTooLong_0 : decode cX5_isTooLong 0 = .ok (.aload_n 0, 1) := by decide +kernel
theorem dX5_isTooLong_1 : decode cX5_isTooLong 1 = .ok (.invokevirtual 69, 3) := by decide +kernel
theorem dX5_isTooLong_4 : decode cX5_isTooLong 4 = .ok (.ifCond .ne 18, 3) := by decide +kernel
theorem dX5_isTooLong_7 : decode cX5_isTooLong 7 = .ok (.aload_n 1, 1) := by decide +kernel
theorem dX5_isTooLong_8 : decode cX5_isTooLong 8 = .ok (.invokevirtual 73, 3) := by decide +kernel
theorem dX5_isTooLong_11 : decode cX5_isTooLong 11 = .ok (.aload_n 0, 1) := by decide +kernel
theorem dX5_isTooLong_12 : decode cX5_isTooLong 12 = .ok (.getfield 42, 3) := by decide +kernel
theorem dX5_isTooLong_15 : decode cX5_isTooLong 15 = .ok (.if_icmp .le 7, 3) := by decide +kernel
theorem dX5_isTooLong_18 : decode cX5_isTooLong 18 = .ok (.iconst 1, 1) := by decide +kernel
theorem dX5_isTooLong_19 : decode cX5_isTooLong 19 = .ok (.goto 4, 3) := by decide +kernel
theorem dX5_isTooLong_22 : decode cX5_isTooLong 22 = .ok (.iconst 0, 1) := by decide +kernel
theorem dX5_isTooLong_23 : decode cX5_isTooLong 23 = .ok (.ireturn, 1) := by decide +kernel
theorem dX5_demand_0 : decode cX5_demand 0 = .ok (.aload_n 0, 1) := by decide +kernel
theorem dX5_demand_1 : decode cX5_demand 1 = .ok (.invokevirtual 69, 3) := by decide +kernel
theorem dX5_demand_4 : decode cX5_demand 4 = .ok (.ifCond .ne 8, 3) := by decide +kernel
theorem dX5_demand_7 : decode cX5_demand 7 = .ok (.aload_n 0, 1) := by decide +kernel
theorem dX5_demand_8 : decode cX5_demand 8 = .ok (.getfield 42, 3) := by decide +kernel
theorem dX5_demand_11 : decode cX5_demand 11 = .ok (.ireturn, 1) := by decide +kernel
theorem dX5_demand_12 : decode cX5_demand 12 = .ok (.aload_n 0, 1) := by decide +kernel
theorem dX5_demand_13 : decode cX5_demand 13 = .ok (.getfield 24, 3) := by decide +kernel
theorem dX5_demand_16 : decode cX5_demand 16 = .ok (.bipush 8, 2) := by decide +kernel
theorem dX5_demand_18 : decode cX5_demand 18 = .ok (.idiv, 1) := by decide +kernel
theorem dX5_demand_19 : decode cX5_demand 19 = .ok (.istore_n 1, 1) := by decide +kernel
theorem dX5_demand_20 : decode cX5_demand 20 = .ok (.aload_n 0, 1) := by decide +kernel
theorem dX5_demand_21 : decode cX5_demand 21 = .ok (.invokevirtual 77, 3) := by decide +kernel
theorem dX5_demand_24 : decode cX5_demand 24 = .ok (.ifCond .eq 11, 3) := by decide +kernel
theorem dX5_demand_27 : decode cX5_demand 27 = .ok (.iload_n 1, 1) := by decide +kernel
theorem dX5_demand_28 : decode cX5_demand 28 = .ok (.iload_n 1, 1) := by decide +kernel
theorem dX5_demand_29 : decode cX5_demand 29 = .ok (.iconst 2, 1) := by decide +kernel
theorem dX5_demand_30 : decode cX5_demand 30 = .ok (.idiv, 1) := by decide +kernel
theorem dX5_demand_31 : decode cX5_demand 31 = .ok (.iadd, 1) := by decide +kernel
theorem dX5_demand_32 : decode cX5_demand 32 = .ok (.goto 4, 3) := by decide +kernel
theorem dX5_demand_35 : decode cX5_demand 35 = .ok (.iload_n 1, 1) := by decide +kernel
theorem dX5_demand_36 : decode cX5_demand 36 = .ok (.ireturn, 1) := by decide +kernel
theorem dX5_count_0 : decode cX5_count 0 = .ok (.aload_n 0, 1) := by decide +kernel
theorem dX5_count_1 : decode cX5_count 1 = .ok (.getfield 9, 3) := by decide +kernel
theorem dX5_count_4 : decode cX5_count 4 = .ok (.ireturn, 1) := by decide +kernel
theorem dX5_noteSeeding_0 : decode cX5_noteSeeding 0 = .ok (.aload_n 0, 1) := by decide +kernel
theorem dX5_noteSeeding_1 : decode cX5_noteSeeding 1 = .ok (.iconst 1, 1) := by decide +kernel
theorem dX5_noteSeeding_2 : decode cX5_noteSeeding 2 = .ok (.putfield 9, 3) := by decide +kernel
theorem dX5_noteSeeding_5 : decode cX5_noteSeeding 5 = .ok (.aload_n 0, 1) := by decide +kernel
theorem dX5_noteSeeding_6 : decode cX5_noteSeeding 6 = .ok (.dup, 1) := by decide +kernel
theorem dX5_noteSeeding_7 : decode cX5_noteSeeding 7 = .ok (.getfield 18, 3) := by decide +kernel
theorem dX5_noteSeeding_10 : decode cX5_noteSeeding 10 = .ok (.iconst 1, 1) := by decide +kernel
theorem dX5_noteSeeding_11 : decode cX5_noteSeeding 11 = .ok (.iadd, 1) := by decide +kernel
theorem dX5_noteSeeding_12 : decode cX5_noteSeeding 12 = .ok (.putfield 18, 3) := by decide +kernel
theorem dX5_noteSeeding_15 : decode cX5_noteSeeding 15 = .ok (.return_, 1) := by decide +kernel
theorem dX5_noteDrawing_0 : decode cX5_noteDrawing 0 = .ok (.aload_n 0, 1) := by decide +kernel
theorem dX5_noteDrawing_1 : decode cX5_noteDrawing 1 = .ok (.dup, 1) := by decide +kernel
theorem dX5_noteDrawing_2 : decode cX5_noteDrawing 2 = .ok (.getfield 9, 3) := by decide +kernel
theorem dX5_noteDrawing_5 : decode cX5_noteDrawing 5 = .ok (.iconst 1, 1) := by decide +kernel
theorem dX5_noteDrawing_6 : decode cX5_noteDrawing 6 = .ok (.iadd, 1) := by decide +kernel
theorem dX5_noteDrawing_7 : decode cX5_noteDrawing 7 = .ok (.putfield 9, 3) := by decide +kernel
theorem dX5_noteDrawing_10 : decode cX5_noteDrawing 10 = .ok (.aload_n 0, 1) := by decide +kernel
theorem dX5_noteDrawing_11 : decode cX5_noteDrawing 11 = .ok (.dup, 1) := by decide +kernel
theorem dX5_noteDrawing_12 : decode cX5_noteDrawing 12 = .ok (.getfield 15, 3) := by decide +kernel
theorem dX5_noteDrawing_15 : decode cX5_noteDrawing 15 = .ok (.iload_n 1, 1) := by decide +kernel
theorem dX5_noteDrawing_16 : decode cX5_noteDrawing 16 = .ok (.iadd, 1) := by decide +kernel
theorem dX5_noteDrawing_17 : decode cX5_noteDrawing 17 = .ok (.putfield 15, 3) := by decide +kernel
theorem dX5_noteDrawing_20 : decode cX5_noteDrawing 20 = .ok (.return_, 1) := by decide +kernel
theorem dX5_wipe_0 : decode cX5_wipe 0 = .ok (.aload_n 0, 1) := by decide +kernel
theorem dX5_wipe_1 : decode cX5_wipe 1 = .ok (.getfield 52, 3) := by decide +kernel
theorem dX5_wipe_4 : decode cX5_wipe 4 = .ok (.iconst 0, 1) := by decide +kernel
theorem dX5_wipe_5 : decode cX5_wipe 5 = .ok (.aload_n 0, 1) := by decide +kernel
theorem dX5_wipe_6 : decode cX5_wipe 6 = .ok (.getfield 52, 3) := by decide +kernel
theorem dX5_wipe_9 : decode cX5_wipe 9 = .ok (.invokevirtual 73, 3) := by decide +kernel
theorem dX5_wipe_12 : decode cX5_wipe 12 = .ok (.invokevirtual 80, 3) := by decide +kernel
theorem dX5_wipe_15 : decode cX5_wipe 15 = .ok (.aload_n 0, 1) := by decide +kernel
theorem dX5_wipe_16 : decode cX5_wipe 16 = .ok (.getfield 56, 3) := by decide +kernel
theorem dX5_wipe_19 : decode cX5_wipe 19 = .ok (.iconst 0, 1) := by decide +kernel
theorem dX5_wipe_20 : decode cX5_wipe 20 = .ok (.aload_n 0, 1) := by decide +kernel
theorem dX5_wipe_21 : decode cX5_wipe 21 = .ok (.getfield 56, 3) := by decide +kernel
theorem dX5_wipe_24 : decode cX5_wipe 24 = .ok (.invokevirtual 73, 3) := by decide +kernel
theorem dX5_wipe_27 : decode cX5_wipe 27 = .ok (.invokevirtual 80, 3) := by decide +kernel
theorem dX5_wipe_30 : decode cX5_wipe 30 = .ok (.return_, 1) := by decide +kernel
theorem dX5_look_0 : decode cX5_look 0 = .ok (.iload_n 1, 1) := by decide +kernel
theorem dX5_look_1 : decode cX5_look 1 = .ok (.tableswitch 95 0 7 #[47, 52, 57, 62, 67, 80, 85, 90], 47) := by decide +kernel
theorem dX5_look_48 : decode cX5_look 48 = .ok (.aload_n 0, 1) := by decide +kernel
theorem dX5_look_49 : decode cX5_look 49 = .ok (.getfield 21, 3) := by decide +kernel
theorem dX5_look_52 : decode cX5_look 52 = .ok (.ireturn, 1) := by decide +kernel
theorem dX5_look_53 : decode cX5_look 53 = .ok (.aload_n 0, 1) := by decide +kernel
theorem dX5_look_54 : decode cX5_look 54 = .ok (.getfield 24, 3) := by decide +kernel
theorem dX5_look_57 : decode cX5_look 57 = .ok (.ireturn, 1) := by decide +kernel
theorem dX5_look_58 : decode cX5_look 58 = .ok (.aload_n 0, 1) := by decide +kernel
theorem dX5_look_59 : decode cX5_look 59 = .ok (.getfield 9, 3) := by decide +kernel
theorem dX5_look_62 : decode cX5_look 62 = .ok (.ireturn, 1) := by decide +kernel
theorem dX5_look_63 : decode cX5_look 63 = .ok (.aload_n 0, 1) := by decide +kernel
theorem dX5_look_64 : decode cX5_look 64 = .ok (.getfield 31, 3) := by decide +kernel
theorem dX5_look_67 : decode cX5_look 67 = .ok (.ireturn, 1) := by decide +kernel
theorem dX5_look_68 : decode cX5_look 68 = .ok (.aload_n 0, 1) := by decide +kernel
theorem dX5_look_69 : decode cX5_look 69 = .ok (.getfield 27, 3) := by decide +kernel
theorem dX5_look_72 : decode cX5_look 72 = .ok (.ifCond .eq 7, 3) := by decide +kernel
theorem dX5_look_75 : decode cX5_look 75 = .ok (.iconst 1, 1) := by decide +kernel
theorem dX5_look_76 : decode cX5_look 76 = .ok (.goto 4, 3) := by decide +kernel
theorem dX5_look_79 : decode cX5_look 79 = .ok (.iconst 0, 1) := by decide +kernel
theorem dX5_look_80 : decode cX5_look 80 = .ok (.ireturn, 1) := by decide +kernel
theorem dX5_look_81 : decode cX5_look 81 = .ok (.aload_n 0, 1) := by decide +kernel
theorem dX5_look_82 : decode cX5_look 82 = .ok (.getfield 42, 3) := by decide +kernel
theorem dX5_look_85 : decode cX5_look 85 = .ok (.ireturn, 1) := by decide +kernel
theorem dX5_look_86 : decode cX5_look 86 = .ok (.aload_n 0, 1) := by decide +kernel
theorem dX5_look_87 : decode cX5_look 87 = .ok (.getfield 15, 3) := by decide +kernel
theorem dX5_look_90 : decode cX5_look 90 = .ok (.ireturn, 1) := by decide +kernel
theorem dX5_look_91 : decode cX5_look 91 = .ok (.aload_n 0, 1) := by decide +kernel
theorem dX5_look_92 : decode cX5_look 92 = .ok (.getfield 18, 3) := by decide +kernel
theorem dX5_look_95 : decode cX5_look 95 = .ok (.ireturn, 1) := by decide +kernel
theorem dX5_look_96 : decode cX5_look 96 = .ok (.iconst (-1), 1) := by decide +kernel
theorem dX5_look_97 : decode cX5_look 97 = .ok (.ireturn, 1) := by decide +kernel
theorem dX6_init_0 : decode cX6_init 0 = .ok (.aload_n 0, 1) := by decide +kernel
theorem dX6_init_1 : decode cX6_init 1 = .ok (.iload_n 1, 1) := by decide +kernel
theorem dX6_init_2 : decode cX6_init 2 = .ok (.iload_n 2, 1) := by decide +kernel
theorem dX6_init_3 : decode cX6_init 3 = .ok (.iload_n 3, 1) := by decide +kernel
theorem dX6_init_4 : decode cX6_init 4 = .ok (.iload 4, 2) := by decide +kernel
theorem dX6_init_6 : decode cX6_init 6 = .ok (.aload 5, 2) := by decide +kernel
theorem dX6_init_8 : decode cX6_init 8 = .ok (.invokespecial 1, 3) := by decide +kernel
theorem dX6_init_11 : decode cX6_init 11 = .ok (.aload_n 0, 1) := by decide +kernel
theorem dX6_init_12 : decode cX6_init 12 = .ok (.aload 5, 2) := by decide +kernel
theorem dX6_init_14 : decode cX6_init 14 = .ok (.iload_n 1, 1) := by decide +kernel
theorem dX6_init_15 : decode cX6_init 15 = .ok (.invokestatic 7, 3) := by decide +kernel
theorem dX6_init_18 : decode cX6_init 18 = .ok (.invokevirtual 13, 3) := by decide +kernel
theorem dX6_init_21 : decode cX6_init 21 = .ok (.putfield 19, 3) := by decide +kernel
theorem dX6_init_24 : decode cX6_init 24 = .ok (.return_, 1) := by decide +kernel
theorem dX6_plant_0 : decode cX6_plant 0 = .ok (.aload_n 0, 1) := by decide +kernel
theorem dX6_plant_1 : decode cX6_plant 1 = .ok (.invokevirtual 23, 3) := by decide +kernel
theorem dX6_plant_4 : decode cX6_plant 4 = .ok (.ifCond .eq 27, 3) := by decide +kernel
theorem dX6_plant_7 : decode cX6_plant 7 = .ok (.aload_n 0, 1) := by decide +kernel
theorem dX6_plant_8 : decode cX6_plant 8 = .ok (.getfield 27, 3) := by decide +kernel
theorem dX6_plant_11 : decode cX6_plant 11 = .ok (.iconst 0, 1) := by decide +kernel
theorem dX6_plant_12 : decode cX6_plant 12 = .ok (.aload_n 0, 1) := by decide +kernel
theorem dX6_plant_13 : decode cX6_plant 13 = .ok (.getfield 31, 3) := by decide +kernel
theorem dX6_plant_16 : decode cX6_plant 16 = .ok (.invokevirtual 35, 3) := by decide +kernel
theorem dX6_plant_19 : decode cX6_plant 19 = .ok (.aload_n 0, 1) := by decide +kernel
theorem dX6_plant_20 : decode cX6_plant 20 = .ok (.getfield 41, 3) := by decide +kernel
theorem dX6_plant_23 : decode cX6_plant 23 = .ok (.iconst 1, 1) := by decide +kernel
theorem dX6_plant_24 : decode cX6_plant 24 = .ok (.aload_n 0, 1) := by decide +kernel
theorem dX6_plant_25 : decode cX6_plant 25 = .ok (.getfield 31, 3) := by decide +kernel
theorem dX6_plant_28 : decode cX6_plant 28 = .ok (.invokevirtual 35, 3) := by decide +kernel
theorem dX6_plant_31 : decode cX6_plant 31 = .ok (.aload_n 0, 1) := by decide +kernel
theorem dX6_plant_32 : decode cX6_plant 32 = .ok (.getfield 44, 3) := by decide +kernel
theorem dX6_plant_35 : decode cX6_plant 35 = .ok (.aload_n 1, 1) := by decide +kernel
theorem dX6_plant_36 : decode cX6_plant 36 = .ok (.aload_n 2, 1) := by decide +kernel
theorem dX6_plant_37 : decode cX6_plant 37 = .ok (.invokevirtual 48, 3) := by decide +kernel
theorem dX6_plant_40 : decode cX6_plant 40 = .ok (.aload_n 0, 1) := by decide +kernel
theorem dX6_plant_41 : decode cX6_plant 41 = .ok (.aload_n 0, 1) := by decide +kernel
theorem dX6_plant_42 : decode cX6_plant 42 = .ok (.getfield 44, 3) := by decide +kernel
theorem dX6_plant_45 : decode cX6_plant 45 = .ok (.getfield 52, 3) := by decide +kernel
theorem dX6_plant_48 : decode cX6_plant 48 = .ok (.invokevirtual 55, 3) := by decide +kernel
theorem dX6_plant_51 : decode cX6_plant 51 = .ok (.aload_n 0, 1) := by decide +kernel
theorem dX6_plant_52 : decode cX6_plant 52 = .ok (.invokevirtual 59, 3) := by decide +kernel
theorem dX6_plant_55 : decode cX6_plant 55 = .ok (.return_, 1) := by decide +kernel
theorem dX6_produce_0 : decode cX6_produce 0 = .ok (.aload_n 2, 1) := by decide +kernel
theorem dX6_produce_1 : decode cX6_produce 1 = .ok (.invokevirtual 63, 3) := by decide +kernel
theorem dX6_produce_4 : decode cX6_produce 4 = .ok (.ifCond .le 8, 3) := by decide +kernel
theorem dX6_produce_7 : decode cX6_produce 7 = .ok (.aload_n 0, 1) := by decide +kernel
theorem dX6_produce_8 : decode cX6_produce 8 = .ok (.aload_n 2, 1) := by decide +kernel
theorem dX6_produce_9 : decode cX6_produce 9 = .ok (.invokevirtual 55, 3) := by decide +kernel
theorem dX6_produce_12 : decode cX6_produce 12 = .ok (.iconst 0, 1) := by decide +kernel
theorem dX6_produce_13 : decode cX6_produce 13 = .ok (.istore 4, 2) := by decide +kernel
theorem dX6_produce_15 : decode cX6_produce 15 = .ok (.iload 4, 2) := by decide +kernel
theorem dX6_produce_17 : decode cX6_produce 17 = .ok (.iload_n 1, 1) := by decide +kernel
theorem dX6_produce_18 : decode cX6_produce 18 = .ok (.if_icmp .ge 51, 3) := by decide +kernel
theorem dX6_produce_21 : decode cX6_produce 21 = .ok (.aload_n 3, 1) := by decide +kernel
theorem dX6_produce_22 : decode cX6_produce 22 = .ok (.invokevirtual 63, 3) := by decide +kernel
theorem dX6_produce_25 : decode cX6_produce 25 = .ok (.iload_n 1, 1) := by decide +kernel
theorem dX6_produce_26 : decode cX6_produce 26 = .ok (.if_icmp .ge 43, 3) := by decide +kernel
theorem dX6_produce_29 : decode cX6_produce 29 = .ok (.aload_n 0, 1) := by decide +kernel
theorem dX6_produce_30 : decode cX6_produce 30 = .ok (.getfield 19, 3) := by decide +kernel
theorem dX6_produce_33 : decode cX6_produce 33 = .ok (.aload_n 0, 1) := by decide +kernel
theorem dX6_produce_34 : decode cX6_produce 34 = .ok (.getfield 27, 3) := by decide +kernel
theorem dX6_produce_37 : decode cX6_produce 37 = .ok (.aload_n 0, 1) := by decide +kernel
theorem dX6_produce_38 : decode cX6_produce 38 = .ok (.getfield 41, 3) := by decide +kernel
theorem dX6_produce_41 : decode cX6_produce 41 = .ok (.aload_n 0, 1) := by decide +kernel
theorem dX6_produce_42 : decode cX6_produce 42 = .ok (.getfield 41, 3) := by decide +kernel
theorem dX6_produce_45 : decode cX6_produce 45 = .ok (.invokevirtual 67, 3) := by decide +kernel
theorem dX6_produce_48 : decode cX6_produce 48 = .ok (.aload_n 3, 1) := by decide +kernel
theorem dX6_produce_49 : decode cX6_produce 49 = .ok (.aload_n 0, 1) := by decide +kernel
theorem dX6_produce_50 : decode cX6_produce 50 = .ok (.getfield 41, 3) := by decide +kernel
theorem dX6_produce_53 : decode cX6_produce 53 = .ok (.iconst 0, 1) := by decide +kernel
theorem dX6_produce_54 : decode cX6_produce 54 = .ok (.iload_n 1, 1) := by decide +kernel
theorem dX6_produce_55 : decode cX6_produce 55 = .ok (.aload_n 3, 1) := by decide +kernel
theorem dX6_produce_56 : decode cX6_produce 56 = .ok (.invokevirtual 63, 3) := by decide +kernel
theorem dX6_produce_59 : decode cX6_produce 59 = .ok (.isub, 1) := by decide +kernel
theorem dX6_produce_60 : decode cX6_produce 60 = .ok (.invokevirtual 73, 3) := by decide +kernel
theorem dX6_produce_63 : decode cX6_produce 63 = .ok (.iinc 4 1, 3) := by decide +kernel
theorem dX6_produce_66 : decode cX6_produce 66 = .ok (.goto (-51), 3) := by decide +kernel
theorem dX6_produce_69 : decode cX6_produce 69 = .ok (.aload_n 0, 1) := by decide +kernel
theorem dX6_produce_70 : decode cX6_produce 70 = .ok (.aload_n 2, 1) := by decide +kernel
theorem dX6_produce_71 : decode cX6_produce 71 = .ok (.invokevirtual 55, 3) := by decide +kernel
theorem dX6_produce_74 : decode cX6_produce 74 = .ok (.aload_n 0, 1) := by decide +kernel
theorem dX6_produce_75 : decode cX6_produce 75 = .ok (.iload_n 1, 1) := by decide +kernel
theorem dX6_produce_76 : decode cX6_produce 76 = .ok (.invokevirtual 77, 3) := by decide +kernel
theorem dX6_produce_79 : decode cX6_produce 79 = .ok (.return_, 1) := by decide +kernel
theorem dX6_mix_0 : decode cX6_mix 0 = .ok (.aload_n 1, 1) := by decide +kernel
theorem dX6_mix_1 : decode cX6_mix 1 = .ok (.invokevirtual 63, 3) := by decide +kernel
theorem dX6_mix_4 : decode cX6_mix 4 = .ok (.ifCond .le 7, 3) := by decide +kernel
theorem dX6_mix_7 : decode cX6_mix 7 = .ok (.iconst 2, 1) := by decide +kernel
theorem dX6_mix_8 : decode cX6_mix 8 = .ok (.goto 4, 3) := by decide +kernel
theorem dX6_mix_11 : decode cX6_mix 11 = .ok (.iconst 1, 1) := by decide +kernel
theorem dX6_mix_12 : decode cX6_mix 12 = .ok (.istore_n 2, 1) := by decide +kernel
theorem dX6_mix_13 : decode cX6_mix 13 = .ok (.iconst 0, 1) := by decide +kernel
theorem dX6_mix_14 : decode cX6_mix 14 = .ok (.istore_n 3, 1) := by decide +kernel
theorem dX6_mix_15 : decode cX6_mix 15 = .ok (.iload_n 3, 1) := by decide +kernel
theorem dX6_mix_16 : decode cX6_mix 16 = .ok (.iload_n 2, 1) := by decide +kernel
theorem dX6_mix_17 : decode cX6_mix 17 = .ok (.if_icmp .ge 96, 3) := by decide +kernel
theorem dX6_mix_20 : decode cX6_mix 20 = .ok (.aload_n 0, 1) := by decide +kernel
theorem dX6_mix_21 : decode cX6_mix 21 = .ok (.getfield 44, 3) := by decide +kernel
theorem dX6_mix_24 : decode cX6_mix 24 = .ok (.getfield 81, 3) := by decide +kernel
theorem dX6_mix_27 : decode cX6_mix 27 = .ok (.invokevirtual 84, 3) := by decide +kernel
theorem dX6_mix_30 : decode cX6_mix 30 = .ok (.aload_n 0, 1) := by decide +kernel
theorem dX6_mix_31 : decode cX6_mix 31 = .ok (.getfield 44, 3) := by decide +kernel
theorem dX6_mix_34 : decode cX6_mix 34 = .ok (.getfield 81, 3) := by decide +kernel
theorem dX6_mix_37 : decode cX6_mix 37 = .ok (.aload_n 0, 1) := by decide +kernel
theorem dX6_mix_38 : decode cX6_mix 38 = .ok (.getfield 41, 3) := by decide +kernel
theorem dX6_mix_41 : decode cX6_mix 41 = .ok (.invokevirtual 87, 3) := by decide +kernel
theorem dX6_mix_44 : decode cX6_mix 44 = .ok (.aload_n 0, 1) := by decide +kernel
theorem dX6_mix_45 : decode cX6_mix 45 = .ok (.getfield 44, 3) := by decide +kernel
theorem dX6_mix_48 : decode cX6_mix 48 = .ok (.getfield 81, 3) := by decide +kernel
theorem dX6_mix_51 : decode cX6_mix 51 = .ok (.iload_n 3, 1) := by decide +kernel
theorem dX6_mix_52 : decode cX6_mix 52 = .ok (.invokevirtual 90, 3) := by decide +kernel
theorem dX6_mix_55 : decode cX6_mix 55 = .ok (.aload_n 0, 1) := by decide +kernel
theorem dX6_mix_56 : decode cX6_mix 56 = .ok (.getfield 44, 3) := by decide +kernel
theorem dX6_mix_59 : decode cX6_mix 59 = .ok (.getfield 81, 3) := by decide +kernel
theorem dX6_mix_62 : decode cX6_mix 62 = .ok (.aload_n 1, 1) := by decide +kernel
theorem dX6_mix_63 : decode cX6_mix 63 = .ok (.invokevirtual 87, 3) := by decide +kernel
theorem dX6_mix_66 : decode cX6_mix 66 = .ok (.aload_n 0, 1) := by decide +kernel
theorem dX6_mix_67 : decode cX6_mix 67 = .ok (.getfield 19, 3) := by decide +kernel
theorem dX6_mix_70 : decode cX6_mix 70 = .ok (.aload_n 0, 1) := by decide +kernel
theorem dX6_mix_71 : decode cX6_mix 71 = .ok (.getfield 27, 3) := by decide +kernel
theorem dX6_mix_74 : decode cX6_mix 74 = .ok (.aload_n 0, 1) := by decide +kernel
theorem dX6_mix_75 : decode cX6_mix 75 = .ok (.getfield 44, 3) := by decide +kernel
theorem dX6_mix_78 : decode cX6_mix 78 = .ok (.getfield 81, 3) := by decide +kernel
theorem dX6_mix_81 : decode cX6_mix 81 = .ok (.aload_n 0, 1) := by decide +kernel
theorem dX6_mix_82 : decode cX6_mix 82 = .ok (.getfield 27, 3) := by decide +kernel
theorem dX6_mix_85 : decode cX6_mix 85 = .ok (.invokevirtual 67, 3) := by decide +kernel
theorem dX6_mix_88 : decode cX6_mix 88 = .ok (.aload_n 0, 1) := by decide +kernel
theorem dX6_mix_89 : decode cX6_mix 89 = .ok (.getfield 19, 3) := by decide +kernel
theorem dX6_mix_92 : decode cX6_mix 92 = .ok (.aload_n 0, 1) := by decide +kernel
theorem dX6_mix_93 : decode cX6_mix 93 = .ok (.getfield 27, 3) := by decide +kernel
theorem dX6_mix_96 : decode cX6_mix 96 = .ok (.aload_n 0, 1) := by decide +kernel
theorem dX6_mix_97 : decode cX6_mix 97 = .ok (.getfield 41, 3) := by decide +kernel
theorem dX6_mix_100 : decode cX6_mix 100 = .ok (.aload_n 0, 1) := by decide +kernel
theorem dX6_mix_101 : decode cX6_mix 101 = .ok (.getfield 41, 3) := by decide +kernel
theorem dX6_mix_104 : decode cX6_mix 104 = .ok (.invokevirtual 67, 3) := by decide +kernel
theorem dX6_mix_107 : decode cX6_mix 107 = .ok (.iinc 3 1, 3) := by decide +kernel
theorem dX6_mix_110 : decode cX6_mix 110 = .ok (.goto (-95), 3) := by decide +kernel
theorem dX6_mix_113 : decode cX6_mix 113 = .ok (.return_, 1) := by decide +kernel
theorem dX7_init_0 : decode cX7_init 0 = .ok (.aload_n 0, 1) := by decide +kernel
theorem dX7_init_1 : decode cX7_init 1 = .ok (.invokespecial 3, 3) := by decide +kernel
theorem dX7_init_4 : decode cX7_init 4 = .ok (.aload_n 0, 1) := by decide +kernel
theorem dX7_init_5 : decode cX7_init 5 = .ok (.iconst 0, 1) := by decide +kernel
theorem dX7_init_6 : decode cX7_init 6 = .ok (.putfield 9, 3) := by decide +kernel
theorem dX7_init_9 : decode cX7_init 9 = .ok (.aload_n 0, 1) := by decide +kernel
theorem dX7_init_10 : decode cX7_init 10 = .ok (.iload_n 1, 1) := by decide +kernel
theorem dX7_init_11 : decode cX7_init 11 = .ok (.iconst 0, 1) := by decide +kernel
theorem dX7_init_12 : decode cX7_init 12 = .ok (.invokestatic 15, 3) := by decide +kernel
theorem dX7_init_15 : decode cX7_init 15 = .ok (.newarray .int, 2) := by decide +kernel
theorem dX7_init_17 : decode cX7_init 17 = .ok (.putfield 21, 3) := by decide +kernel
theorem dX7_init_20 : decode cX7_init 20 = .ok (.return_, 1) := by decide +kernel
theorem dX7_length_0 : decode cX7_length 0 = .ok (.aload_n 0, 1) := by decide +kernel
theorem dX7_length_1 : decode cX7_length 1 = .ok (.getfield 9, 3) := by decide +kernel
theorem dX7_length_4 : decode cX7_length 4 = .ok (.ireturn, 1) := by decide +kernel
theorem dX7_at_0 : decode cX7_at 0 = .ok (.iload_n 1, 1) := by decide +kernel
theorem dX7_at_1 : decode cX7_at 1 = .ok (.ifCond .lt 20, 3) := by decide +kernel
theorem dX7_at_4 : decode cX7_at 4 = .ok (.iload_n 1, 1) := by decide +kernel
theorem dX7_at_5 : decode cX7_at 5 = .ok (.aload_n 0, 1) := by decide +kernel
theorem dX7_at_6 : decode cX7_at 6 = .ok (.getfield 9, 3) := by decide +kernel
theorem dX7_at_9 : decode cX7_at 9 = .ok (.if_icmp .ge 12, 3) := by decide +kernel
theorem dX7_at_12 : decode cX7_at 12 = .ok (.aload_n 0, 1) := by decide +kernel
theorem dX7_at_13 : decode cX7_at 13 = .ok (.getfield 21, 3) := by decide +kernel
theorem dX7_at_16 : decode cX7_at 16 = .ok (.iload_n 1, 1) := by decide +kernel
theorem dX7_at_17 : decode cX7_at 17 = .ok (.iaload, 1) := by decide +kernel
theorem dX7_at_18 : decode cX7_at 18 = .ok (.goto 4, 3) := by decide +kernel
theorem dX7_at_21 : decode cX7_at 21 = .ok (.iconst (-1), 1) := by decide +kernel
theorem dX7_at_22 : decode cX7_at 22 = .ok (.ireturn, 1) := by decide +kernel
theorem dX7_put_0 : decode cX7_put 0 = .ok (.iload_n 1, 1) := by decide +kernel
theorem dX7_put_1 : decode cX7_put 1 = .ok (.ifCond .lt 22, 3) := by decide +kernel
theorem dX7_put_4 : decode cX7_put 4 = .ok (.iload_n 1, 1) := by decide +kernel
theorem dX7_put_5 : decode cX7_put 5 = .ok (.aload_n 0, 1) := by decide +kernel
theorem dX7_put_6 : decode cX7_put 6 = .ok (.getfield 9, 3) := by decide +kernel
theorem dX7_put_9 : decode cX7_put 9 = .ok (.if_icmp .ge 14, 3) := by decide +kernel
theorem dX7_put_12 : decode cX7_put 12 = .ok (.aload_n 0, 1) := by decide +kernel
theorem dX7_put_13 : decode cX7_put 13 = .ok (.getfield 21, 3) := by decide +kernel
theorem dX7_put_16 : decode cX7_put 16 = .ok (.iload_n 1, 1) := by decide +kernel
theorem dX7_put_17 : decode cX7_put 17 = .ok (.iload_n 2, 1) := by decide +kernel
theorem dX7_put_18 : decode cX7_put 18 = .ok (.sipush 255, 3) := by decide +kernel
theorem dX7_put_21 : decode cX7_put 21 = .ok (.iand, 1) := by decide +kernel
theorem dX7_put_22 : decode cX7_put 22 = .ok (.iastore, 1) := by decide +kernel
theorem dX7_put_23 : decode cX7_put 23 = .ok (.return_, 1) := by decide +kernel
theorem dX7_clear_0 : decode cX7_clear 0 = .ok (.aload_n 0, 1) := by decide +kernel
theorem dX7_clear_1 : decode cX7_clear 1 = .ok (.iconst 0, 1) := by decide +kernel
theorem dX7_clear_2 : decode cX7_clear 2 = .ok (.putfield 9, 3) := by decide +kernel
theorem dX7_clear_5 : decode cX7_clear 5 = .ok (.return_, 1) := by decide +kernel
theorem dX7_cut_0 : decode cX7_cut 0 = .ok (.iload_n 1, 1) := by decide +kernel
theorem dX7_cut_1 : decode cX7_cut 1 = .ok (.ifCond .lt 16, 3) := by decide +kernel
theorem dX7_cut_4 : decode cX7_cut 4 = .ok (.iload_n 1, 1) := by decide +kernel
theorem dX7_cut_5 : decode cX7_cut 5 = .ok (.aload_n 0, 1) := by decide +kernel
theorem dX7_cut_6 : decode cX7_cut 6 = .ok (.getfield 9, 3) := by decide +kernel
theorem dX7_cut_9 : decode cX7_cut 9 = .ok (.if_icmp .ge 8, 3) := by decide +kernel
theorem dX7_cut_12 : decode cX7_cut 12 = .ok (.aload_n 0, 1) := by decide +kernel
theorem dX7_cut_13 : decode cX7_cut 13 = .ok (.iload_n 1, 1) := by decide +kernel
theorem dX7_cut_14 : decode cX7_cut 14 = .ok (.putfield 9, 3) := by decide +kernel
theorem dX7_cut_17 : decode cX7_cut 17 = .ok (.return_, 1) := by decide +kernel
theorem dX7_append_0 : decode cX7_append 0 = .ok (.aload_n 0, 1) := by decide +kernel
theorem dX7_append_1 : decode cX7_append 1 = .ok (.getfield 9, 3) := by decide +kernel
theorem dX7_append_4 : decode cX7_append 4 = .ok (.aload_n 0, 1) := by decide +kernel
theorem dX7_append_5 : decode cX7_append 5 = .ok (.getfield 21, 3) := by decide +kernel
theorem dX7_append_8 : decode cX7_append 8 = .ok (.arraylength, 1) := by decide +kernel
theorem dX7_append_9 : decode cX7_append 9 = .ok (.if_icmp .ge 27, 3) := by decide +kernel
theorem dX7_append_12 : decode cX7_append 12 = .ok (.aload_n 0, 1) := by decide +kernel
theorem dX7_append_13 : decode cX7_append 13 = .ok (.getfield 21, 3) := by decide +kernel
theorem dX7_append_16 : decode cX7_append 16 = .ok (.aload_n 0, 1) := by decide +kernel
theorem dX7_append_17 : decode cX7_append 17 = .ok (.getfield 9, 3) := by decide +kernel
theorem dX7_append_20 : decode cX7_append 20 = .ok (.iload_n 1, 1) := by decide +kernel
theorem dX7_append_21 : decode cX7_append 21 = .ok (.sipush 255, 3) := by decide +kernel
theorem dX7_append_24 : decode cX7_append 24 = .ok (.iand, 1) := by decide +kernel
theorem dX7_append_25 : decode cX7_append 25 = .ok (.iastore, 1) := by decide +kernel
theorem dX7_append_26 : decode cX7_append 26 = .ok (.aload_n 0, 1) := by decide +kernel
theorem dX7_append_27 : decode cX7_append 27 = .ok (.dup, 1) := by decide +kernel
theorem dX7_append_28 : decode cX7_append 28 = .ok (.getfield 9, 3) := by decide +kernel
theorem dX7_append_31 : decode cX7_append 31 = .ok (.iconst 1, 1) := by decide +kernel
theorem dX7_append_32 : decode cX7_append 32 = .ok (.iadd, 1) := by decide +kernel
theorem dX7_append_33 : decode cX7_append 33 = .ok (.putfield 9, 3) := by decide +kernel
theorem dX7_append_36 : decode cX7_append 36 = .ok (.return_, 1) := by decide +kernel
theorem dX7_appendNumber_0 : decode cX7_appendNumber 0 = .ok (.iload_n 3, 1) := by decide +kernel
theorem dX7_appendNumber_1 : decode cX7_appendNumber 1 = .ok (.iconst 1, 1) := by decide +kernel
theorem dX7_appendNumber_2 : decode cX7_appendNumber 2 = .ok (.isub, 1) := by decide +kernel
theorem dX7_appendNumber_3 : decode cX7_appendNumber 3 = .ok (.istore 4, 2) := by decide +kernel
theorem dX7_appendNumber_5 : decode cX7_appendNumber 5 = .ok (.iload 4, 2) := by decide +kernel
theorem dX7_appendNumber_7 : decode cX7_appendNumber 7 = .ok (.ifCond .lt 52, 3) := by decide +kernel
theorem dX7_appendNumber_10 : decode cX7_appendNumber 10 = .ok (.aload_n 0, 1) := by decide +kernel
theorem dX7_appendNumber_11 : decode cX7_appendNumber 11 = .ok (.getfield 9, 3) := by decide +kernel
theorem dX7_appendNumber_14 : decode cX7_appendNumber 14 = .ok (.aload_n 0, 1) := by decide +kernel
theorem dX7_appendNumber_15 : decode cX7_appendNumber 15 = .ok (.getfield 21, 3) := by decide +kernel
theorem dX7_appendNumber_18 : decode cX7_appendNumber 18 = .ok (.arraylength, 1) := by decide +kernel
theorem dX7_appendNumber_19 : decode cX7_appendNumber 19 = .ok (.if_icmp .ge 40, 3) := by decide +kernel
theorem dX7_appendNumber_22 : decode cX7_appendNumber 22 = .ok (.aload_n 0, 1) := by decide +kernel
theorem dX7_appendNumber_23 : decode cX7_appendNumber 23 = .ok (.getfield 21, 3) := by decide +kernel
theorem dX7_appendNumber_26 : decode cX7_appendNumber 26 = .ok (.aload_n 0, 1) := by decide +kernel
theorem dX7_appendNumber_27 : decode cX7_appendNumber 27 = .ok (.getfield 9, 3) := by decide +kernel
theorem dX7_appendNumber_30 : decode cX7_appendNumber 30 = .ok (.lload_n 1, 1) := by decide +kernel
theorem dX7_appendNumber_31 : decode cX7_appendNumber 31 = .ok (.bipush 8, 2) := by decide +kernel
theorem dX7_appendNumber_33 : decode cX7_appendNumber 33 = .ok (.iload 4, 2) := by decide +kernel
theorem dX7_appendNumber_35 : decode cX7_appendNumber 35 = .ok (.imul, 1) := by decide +kernel
theorem dX7_appendNumber_36 : decode cX7_appendNumber 36 = .ok (.lushr, 1) := by decide +kernel
theorem dX7_appendNumber_37 : decode cX7_appendNumber 37 = .ok (.l2i, 1) := by decide +kernel
theorem dX7_appendNumber_38 : decode cX7_appendNumber 38 = .ok (.sipush 255, 3) := by decide +kernel
theorem dX7_appendNumber_41 : decode cX7_appendNumber 41 = .ok (.iand, 1) := by decide +kernel
theorem dX7_appendNumber_42 : decode cX7_appendNumber 42 = .ok (.iastore, 1) := by decide +kernel
theorem dX7_appendNumber_43 : decode cX7_appendNumber 43 = .ok (.aload_n 0, 1) := by decide +kernel
theorem dX7_appendNumber_44 : decode cX7_appendNumber 44 = .ok (.dup, 1) := by decide +kernel
theorem dX7_appendNumber_45 : decode cX7_appendNumber 45 = .ok (.getfield 9, 3) := by decide +kernel
theorem dX7_appendNumber_48 : decode cX7_appendNumber 48 = .ok (.iconst 1, 1) := by decide +kernel
theorem dX7_appendNumber_49 : decode cX7_appendNumber 49 = .ok (.iadd, 1) := by decide +kernel
theorem dX7_appendNumber_50 : decode cX7_appendNumber 50 = .ok (.putfield 9, 3) := by decide +kernel
theorem dX7_appendNumber_53 : decode cX7_appendNumber 53 = .ok (.iinc 4 (-1), 3) := by decide +kernel
theorem dX7_appendNumber_56 : decode cX7_appendNumber 56 = .ok (.goto (-51), 3) := by decide +kernel
theorem dX7_appendNumber_59 : decode cX7_appendNumber 59 = .ok (.return_, 1) := by decide +kernel
theorem dX7_appendSame_0 : decode cX7_appendSame 0 = .ok (.iconst 0, 1) := by decide +kernel
theorem dX7_appendSame_1 : decode cX7_appendSame 1 = .ok (.istore_n 3, 1) := by decide +kernel
theorem dX7_appendSame_2 : decode cX7_appendSame 2 = .ok (.iload_n 3, 1) := by decide +kernel
theorem dX7_appendSame_3 : decode cX7_appendSame 3 = .ok (.iload_n 2, 1) := by decide +kernel
theorem dX7_appendSame_4 : decode cX7_appendSame 4 = .ok (.if_icmp .ge 45, 3) := by decide +kernel
theorem dX7_appendSame_7 : decode cX7_appendSame 7 = .ok (.aload_n 0, 1) := by decide +kernel
theorem dX7_appendSame_8 : decode cX7_appendSame 8 = .ok (.getfield 9, 3) := by decide +kernel
theorem dX7_appendSame_11 : decode cX7_appendSame 11 = .ok (.aload_n 0, 1) := by decide +kernel
theorem dX7_appendSame_12 : decode cX7_appendSame 12 = .ok (.getfield 21, 3) := by decide +kernel
theorem dX7_appendSame_15 : decode cX7_appendSame 15 = .ok (.arraylength, 1) := by decide +kernel
theorem dX7_appendSame_16 : decode cX7_appendSame 16 = .ok (.if_icmp .ge 33, 3) := by decide +kernel
theorem dX7_appendSame_19 : decode cX7_appendSame 19 = .ok (.aload_n 0, 1) := by decide +kernel
theorem dX7_appendSame_20 : decode cX7_appendSame 20 = .ok (.getfield 21, 3) := by decide +kernel
theorem dX7_appendSame_23 : decode cX7_appendSame 23 = .ok (.aload_n 0, 1) := by decide +kernel
theorem dX7_appendSame_24 : decode cX7_appendSame 24 = .ok (.getfield 9, 3) := by decide +kernel
theorem dX7_appendSame_27 : decode cX7_appendSame 27 = .ok (.iload_n 1, 1) := by decide +kernel
theorem dX7_appendSame_28 : decode cX7_appendSame 28 = .ok (.sipush 255, 3) := by decide +kernel
theorem dX7_appendSame_31 : decode cX7_appendSame 31 = .ok (.iand, 1) := by decide +kernel
theorem dX7_appendSame_32 : decode cX7_appendSame 32 = .ok (.iastore, 1) := by decide +kernel
theorem dX7_appendSame_33 : decode cX7_appendSame 33 = .ok (.aload_n 0, 1) := by decide +kernel
theorem dX7_appendSame_34 : decode cX7_appendSame 34 = .ok (.dup, 1) := by decide +kernel
theorem dX7_appendSame_35 : decode cX7_appendSame 35 = .ok (.getfield 9, 3) := by decide +kernel
theorem dX7_appendSame_38 : decode cX7_appendSame 38 = .ok (.iconst 1, 1) := by decide +kernel
theorem dX7_appendSame_39 : decode cX7_appendSame 39 = .ok (.iadd, 1) := by decide +kernel
theorem dX7_appendSame_40 : decode cX7_appendSame 40 = .ok (.putfield 9, 3) := by decide +kernel
theorem dX7_appendSame_43 : decode cX7_appendSame 43 = .ok (.iinc 3 1, 3) := by decide +kernel
theorem dX7_appendSame_46 : decode cX7_appendSame 46 = .ok (.goto (-44), 3) := by decide +kernel
theorem dX7_appendSame_49 : decode cX7_appendSame 49 = .ok (.return_, 1) := by decide +kernel
theorem dX7_appendRow_0 : decode cX7_appendRow 0 = .ok (.aload_n 0, 1) := by decide +kernel
theorem dX7_appendRow_1 : decode cX7_appendRow 1 = .ok (.aload_n 1, 1) := by decide +kernel
theorem dX7_appendRow_2 : decode cX7_appendRow 2 = .ok (.iconst 0, 1) := by decide +kernel
theorem dX7_appendRow_3 : decode cX7_appendRow 3 = .ok (.aload_n 1, 1) := by decide +kernel
theorem dX7_appendRow_4 : decode cX7_appendRow 4 = .ok (.getfield 9, 3) := by decide +kernel
theorem dX7_appendRow_7 : decode cX7_appendRow 7 = .ok (.invokevirtual 25, 3) := by decide +kernel
theorem dX7_appendRow_10 : decode cX7_appendRow 10 = .ok (.return_, 1) := by decide +kernel
theorem dX7_appendPart_0 : decode cX7_appendPart 0 = .ok (.aload_n 1, 1) := by decide +kernel
theorem dX7_appendPart_1 : decode cX7_appendPart 1 = .ok (.getfield 9, 3) := by decide +kernel
theorem dX7_appendPart_4 : decode cX7_appendPart 4 = .ok (.iload_n 2, 1) := by decide +kernel
theorem dX7_appendPart_5 : decode cX7_appendPart 5 = .ok (.iload_n 3, 1) := by decide +kernel
theorem dX7_appendPart_6 : decode cX7_appendPart 6 = .ok (.iadd, 1) := by decide +kernel
theorem dX7_appendPart_7 : decode cX7_appendPart 7 = .ok (.invokestatic 29, 3) := by decide +kernel
theorem dX7_appendPart_10 : decode cX7_appendPart 10 = .ok (.istore 4, 2) := by decide +kernel
theorem dX7_appendPart_12 : decode cX7_appendPart 12 = .ok (.iload_n 2, 1) := by decide +kernel
theorem dX7_appendPart_13 : decode cX7_appendPart 13 = .ok (.iconst 0, 1) := by decide +kernel
theorem dX7_appendPart_14 : decode cX7_appendPart 14 = .ok (.invokestatic 15, 3) := by decide +kernel
theorem dX7_appendPart_17 : decode cX7_appendPart 17 = .ok (.istore 5, 2) := by decide +kernel
theorem dX7_appendPart_19 : decode cX7_appendPart 19 = .ok (.iload 5, 2) := by decide +kernel
theorem dX7_appendPart_21 : decode cX7_appendPart 21 = .ok (.iload 4, 2) := by decide +kernel
theorem dX7_appendPart_23 : decode cX7_appendPart 23 = .ok (.if_icmp .ge 47, 3) := by decide +kernel
theorem dX7_appendPart_26 : decode cX7_appendPart 26 = .ok (.aload_n 0, 1) := by decide +kernel
theorem dX7_appendPart_27 : decode cX7_appendPart 27 = .ok (.getfield 9, 3) := by decide +kernel
theorem dX7_appendPart_30 : decode cX7_appendPart 30 = .ok (.aload_n 0, 1) := by decide +kernel
theorem dX7_appendPart_31 : decode cX7_appendPart 31 = .ok (.getfield 21, 3) := by decide +kernel
theorem dX7_appendPart_34 : decode cX7_appendPart 34 = .ok (.arraylength, 1) := by decide +kernel
theorem dX7_appendPart_35 : decode cX7_appendPart 35 = .ok (.if_icmp .ge 35, 3) := by decide +kernel
theorem dX7_appendPart_38 : decode cX7_appendPart 38 = .ok (.aload_n 0, 1) := by decide +kernel
theorem dX7_appendPart_39 : decode cX7_appendPart 39 = .ok (.getfield 21, 3) := by decide +kernel
theorem dX7_appendPart_42 : decode cX7_appendPart 42 = .ok (.aload_n 0, 1) := by decide +kernel
theorem dX7_appendPart_43 : decode cX7_appendPart 43 = .ok (.getfield 9, 3) := by decide +kernel
theorem dX7_appendPart_46 : decode cX7_appendPart 46 = .ok (.aload_n 1, 1) := by decide +kernel
theorem dX7_appendPart_47 : decode cX7_appendPart 47 = .ok (.getfield 21, 3) := by decide +kernel
theorem dX7_appendPart_50 : decode cX7_appendPart 50 = .ok (.iload 5, 2) := by decide +kernel
theorem dX7_appendPart_52 : decode cX7_appendPart 52 = .ok (.iaload, 1) := by decide +kernel
theorem dX7_appendPart_53 : decode cX7_appendPart 53 = .ok (.iastore, 1) := by decide +kernel
theorem dX7_appendPart_54 : decode cX7_appendPart 54 = .ok (.aload_n 0, 1) := by decide +kernel
theorem dX7_appendPart_55 : decode cX7_appendPart 55 = .ok (.dup, 1) := by decide +kernel
theorem dX7_appendPart_56 : decode cX7_appendPart 56 = .ok (.getfield 9, 3) := by decide +kernel
theorem dX7_appendPart_59 : decode cX7_appendPart 59 = .ok (.iconst 1, 1) := by decide +kernel
theorem dX7_appendPart_60 : decode cX7_appendPart 60 = .ok (.iadd, 1) := by decide +kernel
theorem dX7_appendPart_61 : decode cX7_appendPart 61 = .ok (.putfield 9, 3) := by decide +kernel
theorem dX7_appendPart_64 : decode cX7_appendPart 64 = .ok (.iinc 5 1, 3) := by decide +kernel
theorem dX7_appendPart_67 : decode cX7_appendPart 67 = .ok (.goto (-48), 3) := by decide +kernel
theorem dX7_appendPart_70 : decode cX7_appendPart 70 = .ok (.return_, 1) := by decide +kernel
theorem dX7_becomePart_0 : decode cX7_becomePart 0 = .ok (.aload_n 0, 1) := by decide +kernel
theorem dX7_becomePart_1 : decode cX7_becomePart 1 = .ok (.iconst 0, 1) := by decide +kernel
theorem dX7_becomePart_2 : decode cX7_becomePart 2 = .ok (.putfield 9, 3) := by decide +kernel
theorem dX7_becomePart_5 : decode cX7_becomePart 5 = .ok (.aload_n 0, 1) := by decide +kernel
theorem dX7_becomePart_6 : decode cX7_becomePart 6 = .ok (.aload_n 1, 1) := by decide +kernel
theorem dX7_becomePart_7 : decode cX7_becomePart 7 = .ok (.iload_n 2, 1) := by decide +kernel
theorem dX7_becomePart_8 : decode cX7_becomePart 8 = .ok (.iload_n 3, 1) := by decide +kernel
theorem dX7_becomePart_9 : decode cX7_becomePart 9 = .ok (.invokevirtual 25, 3) := by decide +kernel
theorem dX7_becomePart_12 : decode cX7_becomePart 12 = .ok (.return_, 1) := by decide +kernel
theorem dX7_becomeSame_0 : decode cX7_becomeSame 0 = .ok (.aload_n 0, 1) := by decide +kernel
theorem dX7_becomeSame_1 : decode cX7_becomeSame 1 = .ok (.iconst 0, 1) := by decide +kernel
theorem dX7_becomeSame_2 : decode cX7_becomeSame 2 = .ok (.putfield 9, 3) := by decide +kernel
theorem dX7_becomeSame_5 : decode cX7_becomeSame 5 = .ok (.aload_n 0, 1) := by decide +kernel
theorem dX7_becomeSame_6 : decode cX7_becomeSame 6 = .ok (.iload_n 1, 1) := by decide +kernel
theorem dX7_becomeSame_7 : decode cX7_becomeSame 7 = .ok (.iload_n 2, 1) := by decide +kernel
theorem dX7_becomeSame_8 : decode cX7_becomeSame 8 = .ok (.invokevirtual 32, 3) := by decide +kernel
theorem dX7_becomeSame_11 : decode cX7_becomeSame 11 = .ok (.return_, 1) := by decide +kernel
theorem dX7_dropFirst_0 : decode cX7_dropFirst 0 = .ok (.iload_n 1, 1) := by decide +kernel
theorem dX7_dropFirst_1 : decode cX7_dropFirst 1 = .ok (.ifCond .lt 11, 3) := by decide +kernel
theorem dX7_dropFirst_4 : decode cX7_dropFirst 4 = .ok (.iload_n 1, 1) := by decide +kernel
theorem dX7_dropFirst_5 : decode cX7_dropFirst 5 = .ok (.aload_n 0, 1) := by decide +kernel
theorem dX7_dropFirst_6 : decode cX7_dropFirst 6 = .ok (.getfield 9, 3) := by decide +kernel
theorem dX7_dropFirst_9 : decode cX7_dropFirst 9 = .ok (.if_icmp .le 4, 3) := by decide +kernel
theorem dX7_dropFirst_12 : decode cX7_dropFirst 12 = .ok (.return_, 1) := by decide +kernel
theorem dX7_dropFirst_13 : decode cX7_dropFirst 13 = .ok (.iload_n 1, 1) := by decide +kernel
theorem dX7_dropFirst_14 : decode cX7_dropFirst 14 = .ok (.istore_n 2, 1) := by decide +kernel
theorem dX7_dropFirst_15 : decode cX7_dropFirst 15 = .ok (.iload_n 2, 1) := by decide +kernel
theorem dX7_dropFirst_16 : decode cX7_dropFirst 16 = .ok (.aload_n 0, 1) := by decide +kernel
theorem dX7_dropFirst_17 : decode cX7_dropFirst 17 = .ok (.getfield 9, 3) := by decide +kernel
theorem dX7_dropFirst_20 : decode cX7_dropFirst 20 = .ok (.if_icmp .ge 23, 3) := by decide +kernel
theorem dX7_dropFirst_23 : decode cX7_dropFirst 23 = .ok (.aload_n 0, 1) := by decide +kernel
theorem dX7_dropFirst_24 : decode cX7_dropFirst 24 = .ok (.getfield 21, 3) := by decide +kernel
theorem dX7_dropFirst_27 : decode cX7_dropFirst 27 = .ok (.iload_n 2, 1) := by decide +kernel
theorem dX7_dropFirst_28 : decode cX7_dropFirst 28 = .ok (.iload_n 1, 1) := by decide +kernel
theorem dX7_dropFirst_29 : decode cX7_dropFirst 29 = .ok (.isub, 1) := by decide +kernel
theorem dX7_dropFirst_30 : decode cX7_dropFirst 30 = .ok (.aload_n 0, 1) := by decide +kernel
theorem dX7_dropFirst_31 : decode cX7_dropFirst 31 = .ok (.getfield 21, 3) := by decide +kernel
theorem dX7_dropFirst_34 : decode cX7_dropFirst 34 = .ok (.iload_n 2, 1) := by decide +kernel
theorem dX7_dropFirst_35 : decode cX7_dropFirst 35 = .ok (.iaload, 1) := by decide +kernel
theorem dX7_dropFirst_36 : decode cX7_dropFirst 36 = .ok (.iastore, 1) := by decide +kernel
theorem dX7_dropFirst_37 : decode cX7_dropFirst 37 = .ok (.iinc 2 1, 3) := by decide +kernel
theorem dX7_dropFirst_40 : decode cX7_dropFirst 40 = .ok (.goto (-25), 3) := by decide +kernel
theorem dX7_dropFirst_43 : decode cX7_dropFirst 43 = .ok (.aload_n 0, 1) := by decide +kernel
theorem dX7_dropFirst_44 : decode cX7_dropFirst 44 = .ok (.dup, 1) := by decide +kernel
theorem dX7_dropFirst_45 : decode cX7_dropFirst 45 = .ok (.getfield 9, 3) := by decide +kernel
theorem dX7_dropFirst_48 : decode cX7_dropFirst 48 = .ok (.iload_n 1, 1) := by decide +kernel
theorem dX7_dropFirst_49 : decode cX7_dropFirst 49 = .ok (.isub, 1) := by decide +kernel
theorem dX7_dropFirst_50 : decode cX7_dropFirst 50 = .ok (.putfield 9, 3) := by decide +kernel
theorem dX7_dropFirst_53 : decode cX7_dropFirst 53 = .ok (.return_, 1) := by decide +kernel
theorem dX7_xorPart_0 : decode cX7_xorPart 0 = .ok (.iconst 0, 1) := by decide +kernel
theorem dX7_xorPart_1 : decode cX7_xorPart 1 = .ok (.istore_n 3, 1) := by decide +kernel
theorem dX7_xorPart_2 : decode cX7_xorPart 2 = .ok (.iload_n 3, 1) := by decide +kernel
theorem dX7_xorPart_3 : decode cX7_xorPart 3 = .ok (.aload_n 0, 1) := by decide +kernel
theorem dX7_xorPart_4 : decode cX7_xorPart 4 = .ok (.getfield 9, 3) := by decide +kernel
theorem dX7_xorPart_7 : decode cX7_xorPart 7 = .ok (.if_icmp .ge 44, 3) := by decide +kernel
theorem dX7_xorPart_10 : decode cX7_xorPart 10 = .ok (.iload_n 2, 1) := by decide +kernel
theorem dX7_xorPart_11 : decode cX7_xorPart 11 = .ok (.iload_n 3, 1) := by decide +kernel
theorem dX7_xorPart_12 : decode cX7_xorPart 12 = .ok (.iadd, 1) := by decide +kernel
theorem dX7_xorPart_13 : decode cX7_xorPart 13 = .ok (.istore 4, 2) := by decide +kernel
theorem dX7_xorPart_15 : decode cX7_xorPart 15 = .ok (.iload 4, 2) := by decide +kernel
theorem dX7_xorPart_17 : decode cX7_xorPart 17 = .ok (.ifCond .lt 28, 3) := by decide +kernel
theorem dX7_xorPart_20 : decode cX7_xorPart 20 = .ok (.iload 4, 2) := by decide +kernel
theorem dX7_xorPart_22 : decode cX7_xorPart 22 = .ok (.aload_n 1, 1) := by decide +kernel
theorem dX7_xorPart_23 : decode cX7_xorPart 23 = .ok (.getfield 9, 3) := by decide +kernel
theorem dX7_xorPart_26 : decode cX7_xorPart 26 = .ok (.if_icmp .ge 19, 3) := by decide +kernel
theorem dX7_xorPart_29 : decode cX7_xorPart 29 = .ok (.aload_n 0, 1) := by decide +kernel
theorem dX7_xorPart_30 : decode cX7_xorPart 30 = .ok (.getfield 21, 3) := by decide +kernel
theorem dX7_xorPart_33 : decode cX7_xorPart 33 = .ok (.iload_n 3, 1) := by decide +kernel
theorem dX7_xorPart_34 : decode cX7_xorPart 34 = .ok (.dup2, 1) := by decide +kernel
theorem dX7_xorPart_35 : decode cX7_xorPart 35 = .ok (.iaload, 1) := by decide +kernel
theorem dX7_xorPart_36 : decode cX7_xorPart 36 = .ok (.aload_n 1, 1) := by decide +kernel
theorem dX7_xorPart_37 : decode cX7_xorPart 37 = .ok (.getfield 21, 3) := by decide +kernel
theorem dX7_xorPart_40 : decode cX7_xorPart 40 = .ok (.iload 4, 2) := by decide +kernel
theorem dX7_xorPart_42 : decode cX7_xorPart 42 = .ok (.iaload, 1) := by decide +kernel
theorem dX7_xorPart_43 : decode cX7_xorPart 43 = .ok (.ixor, 1) := by decide +kernel
theorem dX7_xorPart_44 : decode cX7_xorPart 44 = .ok (.iastore, 1) := by decide +kernel
theorem dX7_xorPart_45 : decode cX7_xorPart 45 = .ok (.iinc 3 1, 3) := by decide +kernel
theorem dX7_xorPart_48 : decode cX7_xorPart 48 = .ok (.goto (-46), 3) := by decide +kernel
theorem dX7_xorPart_51 : decode cX7_xorPart 51 = .ok (.return_, 1) := by decide +kernel
theorem dX7_plusRow_0 : decode cX7_plusRow 0 = .ok (.iconst 0, 1) := by decide +kernel
theorem dX7_plusRow_1 : decode cX7_plusRow 1 = .ok (.istore_n 2, 1) := by decide +kernel
theorem dX7_plusRow_2 : decode cX7_plusRow 2 = .ok (.iconst 1, 1) := by decide +kernel
theorem dX7_plusRow_3 : decode cX7_plusRow 3 = .ok (.istore_n 3, 1) := by decide +kernel
theorem dX7_plusRow_4 : decode cX7_plusRow 4 = .ok (.iload_n 3, 1) := by decide +kernel
theorem dX7_plusRow_5 : decode cX7_plusRow 5 = .ok (.aload_n 0, 1) := by decide +kernel
theorem dX7_plusRow_6 : decode cX7_plusRow 6 = .ok (.getfield 9, 3) := by decide +kernel
theorem dX7_plusRow_9 : decode cX7_plusRow 9 = .ok (.if_icmp .gt 69, 3) := by decide +kernel
theorem dX7_plusRow_12 : decode cX7_plusRow 12 = .ok (.aload_n 1, 1) := by decide +kernel
theorem dX7_plusRow_13 : decode cX7_plusRow 13 = .ok (.getfield 9, 3) := by decide +kernel
theorem dX7_plusRow_16 : decode cX7_plusRow 16 = .ok (.iload_n 3, 1) := by decide +kernel
theorem dX7_plusRow_17 : decode cX7_plusRow 17 = .ok (.isub, 1) := by decide +kernel
theorem dX7_plusRow_18 : decode cX7_plusRow 18 = .ok (.istore 4, 2) := by decide +kernel
theorem dX7_plusRow_20 : decode cX7_plusRow 20 = .ok (.iload_n 2, 1) := by decide +kernel
theorem dX7_plusRow_21 : decode cX7_plusRow 21 = .ok (.aload_n 0, 1) := by decide +kernel
theorem dX7_plusRow_22 : decode cX7_plusRow 22 = .ok (.getfield 21, 3) := by decide +kernel
theorem dX7_plusRow_25 : decode cX7_plusRow 25 = .ok (.aload_n 0, 1) := by decide +kernel
theorem dX7_plusRow_26 : decode cX7_plusRow 26 = .ok (.getfield 9, 3) := by decide +kernel
theorem dX7_plusRow_29 : decode cX7_plusRow 29 = .ok (.iload_n 3, 1) := by decide +kernel
theorem dX7_plusRow_30 : decode cX7_plusRow 30 = .ok (.isub, 1) := by decide +kernel
theorem dX7_plusRow_31 : decode cX7_plusRow 31 = .ok (.iaload, 1) := by decide +kernel
theorem dX7_plusRow_32 : decode cX7_plusRow 32 = .ok (.iload 4, 2) := by decide +kernel
theorem dX7_plusRow_34 : decode cX7_plusRow 34 = .ok (.ifCond .lt 13, 3) := by decide +kernel
theorem dX7_plusRow_37 : decode cX7_plusRow 37 = .ok (.aload_n 1, 1) := by decide +kernel
theorem dX7_plusRow_38 : decode cX7_plusRow 38 = .ok (.getfield 21, 3) := by decide +kernel
theorem dX7_plusRow_41 : decode cX7_plusRow 41 = .ok (.iload 4, 2) := by decide +kernel
theorem dX7_plusRow_43 : decode cX7_plusRow 43 = .ok (.iaload, 1) := by decide +kernel
theorem dX7_plusRow_44 : decode cX7_plusRow 44 = .ok (.goto 4, 3) := by decide +kernel
theorem dX7_plusRow_47 : decode cX7_plusRow 47 = .ok (.iconst 0, 1) := by decide +kernel
theorem dX7_plusRow_48 : decode cX7_plusRow 48 = .ok (.iadd, 1) := by decide +kernel
theorem dX7_plusRow_49 : decode cX7_plusRow 49 = .ok (.iadd, 1) := by decide +kernel
theorem dX7_plusRow_50 : decode cX7_plusRow 50 = .ok (.istore_n 2, 1) := by decide +kernel
theorem dX7_plusRow_51 : decode cX7_plusRow 51 = .ok (.aload_n 0, 1) := by decide +kernel
theorem dX7_plusRow_52 : decode cX7_plusRow 52 = .ok (.getfield 21, 3) := by decide +kernel
theorem dX7_plusRow_55 : decode cX7_plusRow 55 = .ok (.aload_n 0, 1) := by decide +kernel
theorem dX7_plusRow_56 : decode cX7_plusRow 56 = .ok (.getfield 9, 3) := by decide +kernel
theorem dX7_plusRow_59 : decode cX7_plusRow 59 = .ok (.iload_n 3, 1) := by decide +kernel
theorem dX7_plusRow_60 : decode cX7_plusRow 60 = .ok (.isub, 1) := by decide +kernel
theorem dX7_plusRow_61 : decode cX7_plusRow 61 = .ok (.iload_n 2, 1) := by decide +kernel
theorem dX7_plusRow_62 : decode cX7_plusRow 62 = .ok (.sipush 255, 3) := by decide +kernel
theorem dX7_plusRow_65 : decode cX7_plusRow 65 = .ok (.iand, 1) := by decide +kernel
theorem dX7_plusRow_66 : decode cX7_plusRow 66 = .ok (.iastore, 1) := by decide +kernel
theorem dX7_plusRow_67 : decode cX7_plusRow 67 = .ok (.iload_n 2, 1) := by decide +kernel
theorem dX7_plusRow_68 : decode cX7_plusRow 68 = .ok (.bipush 8, 2) := by decide +kernel
theorem dX7_plusRow_70 : decode cX7_plusRow 70 = .ok (.iushr, 1) := by decide +kernel
theorem dX7_plusRow_71 : decode cX7_plusRow 71 = .ok (.istore_n 2, 1) := by decide +kernel
theorem dX7_plusRow_72 : decode cX7_plusRow 72 = .ok (.iinc 3 1, 3) := by decide +kernel
theorem dX7_plusRow_75 : decode cX7_plusRow 75 = .ok (.goto (-71), 3) := by decide +kernel
theorem dX7_plusRow_78 : decode cX7_plusRow 78 = .ok (.return_, 1) := by decide +kernel
theorem dX7_plusNumber_0 : decode cX7_plusNumber 0 = .ok (.iload_n 1, 1) := by decide +kernel
theorem dX7_plusNumber_1 : decode cX7_plusNumber 1 = .ok (.istore_n 2, 1) := by decide +kernel
theorem dX7_plusNumber_2 : decode cX7_plusNumber 2 = .ok (.aload_n 0, 1) := by decide +kernel
theorem dX7_plusNumber_3 : decode cX7_plusNumber 3 = .ok (.getfield 9, 3) := by decide +kernel
theorem dX7_plusNumber_6 : decode cX7_plusNumber 6 = .ok (.iconst 1, 1) := by decide +kernel
theorem dX7_plusNumber_7 : decode cX7_plusNumber 7 = .ok (.isub, 1) := by decide +kernel
theorem dX7_plusNumber_8 : decode cX7_plusNumber 8 = .ok (.istore_n 3, 1) := by decide +kernel
theorem dX7_plusNumber_9 : decode cX7_plusNumber 9 = .ok (.iload_n 3, 1) := by decide +kernel
theorem dX7_plusNumber_10 : decode cX7_plusNumber 10 = .ok (.ifCond .lt 34, 3) := by decide +kernel
theorem dX7_plusNumber_13 : decode cX7_plusNumber 13 = .ok (.iload_n 2, 1) := by decide +kernel
theorem dX7_plusNumber_14 : decode cX7_plusNumber 14 = .ok (.aload_n 0, 1) := by decide +kernel
theorem dX7_plusNumber_15 : decode cX7_plusNumber 15 = .ok (.getfield 21, 3) := by decide +kernel
theorem dX7_plusNumber_18 : decode cX7_plusNumber 18 = .ok (.iload_n 3, 1) := by decide +kernel
theorem dX7_plusNumber_19 : decode cX7_plusNumber 19 = .ok (.iaload, 1) := by decide +kernel
theorem dX7_plusNumber_20 : decode cX7_plusNumber 20 = .ok (.iadd, 1) := by decide +kernel
theorem dX7_plusNumber_21 : decode cX7_plusNumber 21 = .ok (.istore_n 2, 1) := by decide +kernel
theorem dX7_plusNumber_22 : decode cX7_plusNumber 22 = .ok (.aload_n 0, 1) := by decide +kernel
theorem dX7_plusNumber_23 : decode cX7_plusNumber 23 = .ok (.getfield 21, 3) := by decide +kernel
theorem dX7_plusNumber_26 : decode cX7_plusNumber 26 = .ok (.iload_n 3, 1) := by decide +kernel
theorem dX7_plusNumber_27 : decode cX7_plusNumber 27 = .ok (.iload_n 2, 1) := by decide +kernel
theorem dX7_plusNumber_28 : decode cX7_plusNumber 28 = .ok (.sipush 255, 3) := by decide +kernel
theorem dX7_plusNumber_31 : decode cX7_plusNumber 31 = .ok (.iand, 1) := by decide +kernel
theorem dX7_plusNumber_32 : decode cX7_plusNumber 32 = .ok (.iastore, 1) := by decide +kernel
theorem dX7_plusNumber_33 : decode cX7_plusNumber 33 = .ok (.iload_n 2, 1) := by decide +kernel
theorem dX7_plusNumber_34 : decode cX7_plusNumber 34 = .ok (.bipush 8, 2) := by decide +kernel
theorem dX7_plusNumber_36 : decode cX7_plusNumber 36 = .ok (.iushr, 1) := by decide +kernel
theorem dX7_plusNumber_37 : decode cX7_plusNumber 37 = .ok (.istore_n 2, 1) := by decide +kernel
theorem dX7_plusNumber_38 : decode cX7_plusNumber 38 = .ok (.iinc 3 (-1), 3) := by decide +kernel
theorem dX7_plusNumber_41 : decode cX7_plusNumber 41 = .ok (.goto (-32), 3) := by decide +kernel
theorem dX7_plusNumber_44 : decode cX7_plusNumber 44 = .ok (.return_, 1) := by decide +kernel
theorem dX7_copyTo_0 : decode cX7_copyTo 0 = .ok (.aload_n 0, 1) := by decide +kernel
theorem dX7_copyTo_1 : decode cX7_copyTo 1 = .ok (.getfield 9, 3) := by decide +kernel
theorem dX7_copyTo_4 : decode cX7_copyTo 4 = .ok (.aload_n 1, 1) := by decide +kernel
theorem dX7_copyTo_5 : decode cX7_copyTo 5 = .ok (.arraylength, 1) := by decide +kernel
theorem dX7_copyTo_6 : decode cX7_copyTo 6 = .ok (.invokestatic 29, 3) := by decide +kernel
theorem dX7_copyTo_9 : decode cX7_copyTo 9 = .ok (.iload_n 2, 1) := by decide +kernel
theorem dX7_copyTo_10 : decode cX7_copyTo 10 = .ok (.invokestatic 29, 3) := by decide +kernel
theorem dX7_copyTo_13 : decode cX7_copyTo 13 = .ok (.istore_n 3, 1) := by decide +kernel
theorem dX7_copyTo_14 : decode cX7_copyTo 14 = .ok (.iconst 0, 1) := by decide +kernel
theorem dX7_copyTo_15 : decode cX7_copyTo 15 = .ok (.istore 4, 2) := by decide +kernel
theorem dX7_copyTo_17 : decode cX7_copyTo 17 = .ok (.iload 4, 2) := by decide +kernel
theorem dX7_copyTo_19 : decode cX7_copyTo 19 = .ok (.iload_n 3, 1) := by decide +kernel
theorem dX7_copyTo_20 : decode cX7_copyTo 20 = .ok (.if_icmp .ge 20, 3) := by decide +kernel
theorem dX7_copyTo_23 : decode cX7_copyTo 23 = .ok (.aload_n 1, 1) := by decide +kernel
theorem dX7_copyTo_24 : decode cX7_copyTo 24 = .ok (.iload 4, 2) := by decide +kernel
theorem dX7_copyTo_26 : decode cX7_copyTo 26 = .ok (.aload_n 0, 1) := by decide +kernel
theorem dX7_copyTo_27 : decode cX7_copyTo 27 = .ok (.getfield 21, 3) := by decide +kernel
theorem dX7_copyTo_30 : decode cX7_copyTo 30 = .ok (.iload 4, 2) := by decide +kernel
theorem dX7_copyTo_32 : decode cX7_copyTo 32 = .ok (.iaload, 1) := by decide +kernel
theorem dX7_copyTo_33 : decode cX7_copyTo 33 = .ok (.iastore, 1) := by decide +kernel
theorem dX7_copyTo_34 : decode cX7_copyTo 34 = .ok (.iinc 4 1, 3) := by decide +kernel
theorem dX7_copyTo_37 : decode cX7_copyTo 37 = .ok (.goto (-20), 3) := by decide +kernel
theorem dX7_copyTo_40 : decode cX7_copyTo 40 = .ok (.iload_n 3, 1) := by decide +kernel
theorem dX7_copyTo_41 : decode cX7_copyTo 41 = .ok (.ireturn, 1) := by decide +kernel
theorem dX8_init_0 : decode cX8_init 0 = .ok (.aload_n 0, 1) := by decide +kernel
theorem dX8_init_1 : decode cX8_init 1 = .ok (.invokespecial 3, 3) := by decide +kernel
theorem dX8_init_4 : decode cX8_init 4 = .ok (.aload_n 0, 1) := by decide +kernel
theorem dX8_init_5 : decode cX8_init 5 = .ok (.new 9, 3) := by decide +kernel
theorem dX8_init_8 : decode cX8_init 8 = .ok (.dup, 1) := by decide +kernel
theorem dX8_init_9 : decode cX8_init 9 = .ok (.sipush 1000, 3) := by decide +kernel
theorem dX8_init_12 : decode cX8_init 12 = .ok (.invokespecial 13, 3) := by decide +kernel
theorem dX8_init_15 : decode cX8_init 15 = .ok (.putfield 16, 3) := by decide +kernel
theorem dX8_init_18 : decode cX8_init 18 = .ok (.aload_n 0, 1) := by decide +kernel
theorem dX8_init_19 : decode cX8_init 19 = .ok (.new 9, 3) := by decide +kernel
theorem dX8_init_22 : decode cX8_init 22 = .ok (.dup, 1) := by decide +kernel
theorem dX8_init_23 : decode cX8_init 23 = .ok (.bipush 48, 2) := by decide +kernel
theorem dX8_init_25 : decode cX8_init 25 = .ok (.invokespecial 13, 3) := by decide +kernel
theorem dX8_init_28 : decode cX8_init 28 = .ok (.putfield 22, 3) := by decide +kernel
theorem dX8_init_31 : decode cX8_init 31 = .ok (.aload_n 0, 1) := by decide +kernel
theorem dX8_init_32 : decode cX8_init 32 = .ok (.iconst 5, 1) := by decide +kernel
theorem dX8_init_33 : decode cX8_init 33 = .ok (.putfield 25, 3) := by decide +kernel
theorem dX8_init_36 : decode cX8_init 36 = .ok (.aload_n 0, 1) := by decide +kernel
theorem dX8_init_37 : decode cX8_init 37 = .ok (.sipush 512, 3) := by decide +kernel
theorem dX8_init_40 : decode cX8_init 40 = .ok (.putfield 29, 3) := by decide +kernel
theorem dX8_init_43 : decode cX8_init 43 = .ok (.aload_n 0, 1) := by decide +kernel
theorem dX8_init_44 : decode cX8_init 44 = .ok (.bipush 40, 2) := by decide +kernel
theorem dX8_init_46 : decode cX8_init 46 = .ok (.putfield 32, 3) := by decide +kernel
theorem dX8_init_49 : decode cX8_init 49 = .ok (.aload_n 0, 1) := by decide +kernel
theorem dX8_init_50 : decode cX8_init 50 = .ok (.iconst 0, 1) := by decide +kernel
theorem dX8_init_51 : decode cX8_init 51 = .ok (.putfield 35, 3) := by decide +kernel
theorem dX8_init_54 : decode cX8_init 54 = .ok (.aload_n 0, 1) := by decide +kernel
theorem dX8_init_55 : decode cX8_init 55 = .ok (.iconst (-1), 1) := by decide +kernel
theorem dX8_init_56 : decode cX8_init 56 = .ok (.putfield 39, 3) := by decide +kernel
theorem dX8_init_59 : decode cX8_init 59 = .ok (.aload_n 0, 1) := by decide +kernel
theorem dX8_init_60 : decode cX8_init 60 = .ok (.iconst 0, 1) := by decide +kernel
theorem dX8_init_61 : decode cX8_init 61 = .ok (.putfield 42, 3) := by decide +kernel
theorem dX8_init_64 : decode cX8_init 64 = .ok (.aload_n 0, 1) := by decide +kernel
theorem dX8_init_65 : decode cX8_init 65 = .ok (.iconst (-1), 1) := by decide +kernel
theorem dX8_init_66 : decode cX8_init 66 = .ok (.putfield 45, 3) := by decide +kernel
theorem dX8_init_69 : decode cX8_init 69 = .ok (.aload_n 0, 1) := by decide +kernel
theorem dX8_init_70 : decode cX8_init 70 = .ok (.iconst 0, 1) := by decide +kernel
theorem dX8_init_71 : decode cX8_init 71 = .ok (.putfield 48, 3) := by decide +kernel
theorem dX8_init_74 : decode cX8_init 74 = .ok (.aload_n 0, 1) := by decide +kernel
theorem dX8_init_75 : decode cX8_init 75 = .ok (.iconst 0, 1) := by decide +kernel
theorem dX8_init_76 : decode cX8_init 76 = .ok (.putfield 51, 3) := by decide +kernel
theorem dX8_init_79 : decode cX8_init 79 = .ok (.aload_n 0, 1) := by decide +kernel
theorem dX8_init_80 : decode cX8_init 80 = .ok (.iconst 0, 1) := by decide +kernel
theorem dX8_init_81 : decode cX8_init 81 = .ok (.putfield 54, 3) := by decide +kernel
theorem dX8_init_84 : decode cX8_init 84 = .ok (.aload_n 0, 1) := by decide +kernel
theorem dX8_init_85 : decode cX8_init 85 = .ok (.iconst 0, 1) := by decide +kernel
theorem dX8_init_86 : decode cX8_init 86 = .ok (.putfield 57, 3) := by decide +kernel
theorem dX8_init_89 : decode cX8_init 89 = .ok (.return_, 1) := by decide +kernel
theorem dX8_waiting_0 : decode cX8_waiting 0 = .ok (.aload_n 0, 1) := by decide +kernel
theorem dX8_waiting_1 : decode cX8_waiting 1 = .ok (.getfield 16, 3) := by decide +kernel
theorem dX8_waiting_4 : decode cX8_waiting 4 = .ok (.invokevirtual 60, 3) := by decide +kernel
theorem dX8_waiting_7 : decode cX8_waiting 7 = .ok (.ireturn, 1) := by decide +kernel
theorem dX8_isUnsound_0 : decode cX8_isUnsound 0 = .ok (.aload_n 0, 1) := by decide +kernel
theorem dX8_isUnsound_1 : decode cX8_isUnsound 1 = .ok (.getfield 35, 3) := by decide +kernel
theorem dX8_isUnsound_4 : decode cX8_isUnsound 4 = .ok (.ireturn, 1) := by decide +kernel
theorem dX8_set_0 : decode cX8_set 0 = .ok (.iload_n 1, 1) := by decide +kernel
theorem dX8_set_1 : decode cX8_set 1 = .ok (.iconst 2, 1) := by decide +kernel
theorem dX8_set_2 : decode cX8_set 2 = .ok (.if_icmp .lt 9, 3) := by decide +kernel
theorem dX8_set_5 : decode cX8_set 5 = .ok (.iload_n 1, 1) := by decide +kernel
theorem dX8_set_6 : decode cX8_set 6 = .ok (.bipush 40, 2) := by decide +kernel
theorem dX8_set_8 : decode cX8_set 8 = .ok (.if_icmp .le 5, 3) := by decide +kernel
theorem dX8_set_11 : decode cX8_set 11 = .ok (.iconst 0, 1) := by decide +kernel
theorem dX8_set_12 : decode cX8_set 12 = .ok (.ireturn, 1) := by decide +kernel
theorem dX8_set_13 : decode cX8_set 13 = .ok (.iload_n 2, 1) := by decide +kernel
theorem dX8_set_14 : decode cX8_set 14 = .ok (.bipush 16, 2) := by decide +kernel
theorem dX8_set_16 : decode cX8_set 16 = .ok (.if_icmp .lt 10, 3) := by decide +kernel
theorem dX8_set_19 : decode cX8_set 19 = .ok (.iload_n 2, 1) := by decide +kernel
theorem dX8_set_20 : decode cX8_set 20 = .ok (.sipush 1024, 3) := by decide +kernel
theorem dX8_set_23 : decode cX8_set 23 = .ok (.if_icmp .le 5, 3) := by decide +kernel
theorem dX8_set_26 : decode cX8_set 26 = .ok (.iconst 0, 1) := by decide +kernel
theorem dX8_set_27 : decode cX8_set 27 = .ok (.ireturn, 1) := by decide +kernel
theorem dX8_set_28 : decode cX8_set 28 = .ok (.iload_n 3, 1) := by decide +kernel
theorem dX8_set_29 : decode cX8_set 29 = .ok (.iconst 2, 1) := by decide +kernel
theorem dX8_set_30 : decode cX8_set 30 = .ok (.if_icmp .lt 8, 3) := by decide +kernel
theorem dX8_set_33 : decode cX8_set 33 = .ok (.iload_n 3, 1) := by decide +kernel
theorem dX8_set_34 : decode cX8_set 34 = .ok (.iload_n 2, 1) := by decide +kernel
theorem dX8_set_35 : decode cX8_set 35 = .ok (.if_icmp .le 5, 3) := by decide +kernel
theorem dX8_set_38 : decode cX8_set 38 = .ok (.iconst 0, 1) := by decide +kernel
theorem dX8_set_39 : decode cX8_set 39 = .ok (.ireturn, 1) := by decide +kernel
theorem dX8_set_40 : decode cX8_set 40 = .ok (.aload_n 0, 1) := by decide +kernel
theorem dX8_set_41 : decode cX8_set 41 = .ok (.iload_n 1, 1) := by decide +kernel
theorem dX8_set_42 : decode cX8_set 42 = .ok (.putfield 25, 3) := by decide +kernel
theorem dX8_set_45 : decode cX8_set 45 = .ok (.aload_n 0, 1) := by decide +kernel
theorem dX8_set_46 : decode cX8_set 46 = .ok (.iload_n 2, 1) := by decide +kernel
theorem dX8_set_47 : decode cX8_set 47 = .ok (.putfield 29, 3) := by decide +kernel
theorem dX8_set_50 : decode cX8_set 50 = .ok (.aload_n 0, 1) := by decide +kernel
theorem dX8_set_51 : decode cX8_set 51 = .ok (.iload_n 3, 1) := by decide +kernel
theorem dX8_set_52 : decode cX8_set 52 = .ok (.putfield 32, 3) := by decide +kernel
theorem dX8_set_55 : decode cX8_set 55 = .ok (.aload_n 0, 1) := by decide +kernel
theorem dX8_set_56 : decode cX8_set 56 = .ok (.invokevirtual 64, 3) := by decide +kernel
theorem dX8_set_59 : decode cX8_set 59 = .ok (.iconst 1, 1) := by decide +kernel
theorem dX8_set_60 : decode cX8_set 60 = .ok (.ireturn, 1) := by decide +kernel
theorem dX8_beginAnew_0 : decode cX8_beginAnew 0 = .ok (.aload_n 0, 1) := by decide +kernel
theorem dX8_beginAnew_1 : decode cX8_beginAnew 1 = .ok (.getfield 16, 3) := by decide +kernel
theorem dX8_beginAnew_4 : decode cX8_beginAnew 4 = .ok (.invokevirtual 67, 3) := by decide +kernel
theorem dX8_beginAnew_7 : decode cX8_beginAnew 7 = .ok (.aload_n 0, 1) := by decide +kernel
theorem dX8_beginAnew_8 : decode cX8_beginAnew 8 = .ok (.iconst 0, 1) := by decide +kernel
theorem dX8_beginAnew_9 : decode cX8_beginAnew 9 = .ok (.putfield 35, 3) := by decide +kernel
theorem dX8_beginAnew_12 : decode cX8_beginAnew 12 = .ok (.aload_n 0, 1) := by decide +kernel
theorem dX8_beginAnew_13 : decode cX8_beginAnew 13 = .ok (.iconst (-1), 1) := by decide +kernel
theorem dX8_beginAnew_14 : decode cX8_beginAnew 14 = .ok (.putfield 39, 3) := by decide +kernel
theorem dX8_beginAnew_17 : decode cX8_beginAnew 17 = .ok (.aload_n 0, 1) := by decide +kernel
theorem dX8_beginAnew_18 : decode cX8_beginAnew 18 = .ok (.iconst 0, 1) := by decide +kernel
theorem dX8_beginAnew_19 : decode cX8_beginAnew 19 = .ok (.putfield 42, 3) := by decide +kernel
theorem dX8_beginAnew_22 : decode cX8_beginAnew 22 = .ok (.aload_n 0, 1) := by decide +kernel
theorem dX8_beginAnew_23 : decode cX8_beginAnew 23 = .ok (.invokevirtual 70, 3) := by decide +kernel
theorem dX8_beginAnew_26 : decode cX8_beginAnew 26 = .ok (.return_, 1) := by decide +kernel
theorem dX8_receive_0 : decode cX8_receive 0 = .ok (.iconst 0, 1) := by decide +kernel
theorem dX8_receive_1 : decode cX8_receive 1 = .ok (.istore_n 2, 1) := by decide +kernel
theorem dX8_receive_2 : decode cX8_receive 2 = .ok (.iload_n 2, 1) := by decide +kernel
theorem dX8_receive_3 : decode cX8_receive 3 = .ok (.aload_n 1, 1) := by decide +kernel
theorem dX8_receive_4 : decode cX8_receive 4 = .ok (.invokevirtual 60, 3) := by decide +kernel
theorem dX8_receive_7 : decode cX8_receive 7 = .ok (.if_icmp .ge 61, 3) := by decide +kernel
theorem dX8_receive_10 : decode cX8_receive 10 = .ok (.aload_n 0, 1) := by decide +kernel
theorem dX8_receive_11 : decode cX8_receive 11 = .ok (.getfield 35, 3) := by decide +kernel
theorem dX8_receive_14 : decode cX8_receive 14 = .ok (.ifCond .ne 54, 3) := by decide +kernel
theorem dX8_receive_17 : decode cX8_receive 17 = .ok (.aload_n 1, 1) := by decide +kernel
theorem dX8_receive_18 : decode cX8_receive 18 = .ok (.iload_n 2, 1) := by decide +kernel
theorem dX8_receive_19 : decode cX8_receive 19 = .ok (.invokevirtual 73, 3) := by decide +kernel
theorem dX8_receive_22 : decode cX8_receive 22 = .ok (.istore_n 3, 1) := by decide +kernel
theorem dX8_receive_23 : decode cX8_receive 23 = .ok (.aload_n 0, 1) := by decide +kernel
theorem dX8_receive_24 : decode cX8_receive 24 = .ok (.iload_n 3, 1) := by decide +kernel
theorem dX8_receive_25 : decode cX8_receive 25 = .ok (.invokevirtual 77, 3) := by decide +kernel
theorem dX8_receive_28 : decode cX8_receive 28 = .ok (.istore 4, 2) := by decide +kernel
theorem dX8_receive_30 : decode cX8_receive 30 = .ok (.aload_n 0, 1) := by decide +kernel
theorem dX8_receive_31 : decode cX8_receive 31 = .ok (.iload_n 3, 1) := by decide +kernel
theorem dX8_receive_32 : decode cX8_receive 32 = .ok (.invokevirtual 81, 3) := by decide +kernel
theorem dX8_receive_35 : decode cX8_receive 35 = .ok (.istore 5, 2) := by decide +kernel
theorem dX8_receive_37 : decode cX8_receive 37 = .ok (.iload 4, 2) := by decide +kernel
theorem dX8_receive_39 : decode cX8_receive 39 = .ok (.ifCond .ne 8, 3) := by decide +kernel
theorem dX8_receive_42 : decode cX8_receive 42 = .ok (.iload 5, 2) := by decide +kernel
theorem dX8_receive_44 : decode cX8_receive 44 = .ok (.ifCond .eq 10, 3) := by decide +kernel
theorem dX8_receive_47 : decode cX8_receive 47 = .ok (.aload_n 0, 1) := by decide +kernel
theorem dX8_receive_48 : decode cX8_receive 48 = .ok (.invokevirtual 84, 3) := by decide +kernel
theorem dX8_receive_51 : decode cX8_receive 51 = .ok (.goto 11, 3) := by decide +kernel
theorem dX8_receive_54 : decode cX8_receive 54 = .ok (.aload_n 0, 1) := by decide +kernel
theorem dX8_receive_55 : decode cX8_receive 55 = .ok (.getfield 16, 3) := by decide +kernel
theorem dX8_receive_58 : decode cX8_receive 58 = .ok (.iload_n 3, 1) := by decide +kernel
theorem dX8_receive_59 : decode cX8_receive 59 = .ok (.invokevirtual 87, 3) := by decide +kernel
theorem dX8_receive_62 : decode cX8_receive 62 = .ok (.iinc 2 1, 3) := by decide +kernel
theorem dX8_receive_65 : decode cX8_receive 65 = .ok (.goto (-63), 3) := by decide +kernel
theorem dX8_receive_68 : decode cX8_receive 68 = .ok (.return_, 1) := by decide +kernel
theorem dX8_repeatsTooOften_0 : decode cX8_repeatsTooOften 0 = .ok (.aload_n 0, 1) := by decide +kernel
theorem dX8_repeatsTooOften_1 : decode cX8_repeatsTooOften 1 = .ok (.iload_n 1, 1) := by decide +kernel
theorem dX8_repeatsTooOften_2 : decode cX8_repeatsTooOften 2 = .ok (.aload_n 0, 1) := by decide +kernel
theorem dX8_repeatsTooOften_3 : decode cX8_repeatsTooOften 3 = .ok (.getfield 39, 3) := by decide +kernel
theorem dX8_repeatsTooOften_6 : decode cX8_repeatsTooOften 6 = .ok (.if_icmp .ne 12, 3) := by decide +kernel
theorem dX8_repeatsTooOften_9 : decode cX8_repeatsTooOften 9 = .ok (.aload_n 0, 1) := by decide +kernel
theorem dX8_repeatsTooOften_10 : decode cX8_repeatsTooOften 10 = .ok (.getfield 42, 3) := by decide +kernel
theorem dX8_repeatsTooOften_13 : decode cX8_repeatsTooOften 13 = .ok (.iconst 1, 1) := by decide +kernel
theorem dX8_repeatsTooOften_14 : decode cX8_repeatsTooOften 14 = .ok (.iadd, 1) := by decide +kernel
theorem dX8_repeatsTooOften_15 : decode cX8_repeatsTooOften 15 = .ok (.goto 4, 3) := by decide +kernel
theorem dX8_repeatsTooOften_18 : decode cX8_repeatsTooOften 18 = .ok (.iconst 1, 1) := by decide +kernel
theorem dX8_repeatsTooOften_19 : decode cX8_repeatsTooOften 19 = .ok (.putfield 42, 3) := by decide +kernel
theorem dX8_repeatsTooOften_22 : decode cX8_repeatsTooOften 22 = .ok (.aload_n 0, 1) := by decide +kernel
theorem dX8_repeatsTooOften_23 : decode cX8_repeatsTooOften 23 = .ok (.iload_n 1, 1) := by decide +kernel
theorem dX8_repeatsTooOften_24 : decode cX8_repeatsTooOften 24 = .ok (.putfield 39, 3) := by decide +kernel
theorem dX8_repeatsTooOften_27 : decode cX8_repeatsTooOften 27 = .ok (.aload_n 0, 1) := by decide +kernel
theorem dX8_repeatsTooOften_28 : decode cX8_repeatsTooOften 28 = .ok (.getfield 42, 3) := by decide +kernel
theorem dX8_repeatsTooOften_31 : decode cX8_repeatsTooOften 31 = .ok (.aload_n 0, 1) := by decide +kernel
theorem dX8_repeatsTooOften_32 : decode cX8_repeatsTooOften 32 = .ok (.getfield 25, 3) := by decide +kernel
theorem dX8_repeatsTooOften_35 : decode cX8_repeatsTooOften 35 = .ok (.if_icmp .ne 7, 3) := by decide +kernel
theorem dX8_repeatsTooOften_38 : decode cX8_repeatsTooOften 38 = .ok (.iconst 1, 1) := by decide +kernel
theorem dX8_repeatsTooOften_39 : decode cX8_repeatsTooOften 39 = .ok (.goto 4, 3) := by decide +kernel
