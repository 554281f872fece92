theorem kqdL_law_0 : kq cL_law [(0, .new 7, 3), (3, .dup, 1), (4, .invokespecial 9, 3), (7, .astore_n 1, 1), (8, .new 10, 3), (11, .dup, 1), (12, .invokespecial 12, 3), (15, .astore_n 2, 1), (17, .istore_n 3, 1), (20, .arraylength, 1), (21, .bipush 6, 2), (23, .isub, 1), (24, .if_icmp .gt 1938, 3), (30, .bipush 127, 2), (32, .iand, 1), (33, .tableswitch 1923 0 65 #[279, 292, 305, 318, 361, 434, 467, 530, 593, 616, 639, 662, 685, 718, 751, 784, 833, 846, 869, 892, 915, 948, 991, 1004, 1027, 1040, 1053, 1066, 1079, 1102, 1115, 1148, 1171, 1194, 1227, 1240, 1263, 1286, 1299, 1312, 1335, 1358, 1381, 1404, 1417, 1430, 1443, 1476, 1509, 1532, 1545, 1578, 1621, 1644, 1667, 1680, 1713, 1746, 1759, 1772, 1785, 1798, 1831, 1854, 1897, 1910], 279), (329, .pop2, 1), (334, .pop2, 1), (342, .pop2, 1), (347, .pop2, 1), (410, .i2l, 1), (411, .bipush 32, 2), (413, .lshl, 1), (419, .i2l, 1), (420, .ldc2_w 32, 3), (423, .land, 1), (424, .lor, 1), (445, .i2l, 1), (446, .bipush 32, 2), (448, .lshl, 1), (454, .i2l, 1), (455, .ldc2_w 32, 3), (458, .land, 1), (459, .lor, 1), (481, .pop2, 1), (496, .pop2, 1), (828, .ifCond .eq 7, 3), (851, .ifCond .eq 7, 3), (1606, .if_icmp .eq 350, 3), (1610, .ireturn, 1), (1956, .iinc 3 6, 3), (1963, .ireturn, 1)] = true := by decide +kernel
theorem dL_law_0 : decode cL_law 0 = .ok (.new 7, 3) := kq.at kqdL_law_0 0 rfl
theorem dL_law_3 : decode cL_law 3 = .ok (.dup, 1) := kq.at kqdL_law_0 1 rfl
theorem dL_law_4 : decode cL_law 4 = .ok (.invokespecial 9, 3) := kq.at kqdL_law_0 2 rfl
theorem dL_law_7 : decode cL_law 7 = .ok (.astore_n 1, 1) := kq.at kqdL_law_0 3 rfl
theorem dL_law_8 : decode cL_law 8 = .ok (.new 10, 3) := kq.at kqdL_law_0 4 rfl
theorem dL_law_11 : decode cL_law 11 = .ok (.dup, 1) := kq.at kqdL_law_0 5 rfl
theorem dL_law_12 : decode cL_law 12 = .ok (.invokespecial 12, 3) := kq.at kqdL_law_0 6 rfl
theorem dL_law_15 : decode cL_law 15 = .ok (.astore_n 2, 1) := kq.at kqdL_law_0 7 rfl
theorem dL_law_17 : decode cL_law 17 = .ok (.istore_n 3, 1) := kq.at kqdL_law_0 8 rfl
theorem dL_law_20 : decode cL_law 20 = .ok (.arraylength, 1) := kq.at kqdL_law_0 9 rfl
theorem dL_law_21 : decode cL_law 21 = .ok (.bipush 6, 2) := kq.at kqdL_law_0 10 rfl
theorem dL_law_23 : decode cL_law 23 = .ok (.isub, 1) := kq.at kqdL_law_0 11 rfl
theorem dL_law_24 : decode cL_law 24 = .ok (.if_icmp .gt 1938, 3) := kq.at kqdL_law_0 12 rfl
theorem dL_law_30 : decode cL_law 30 = .ok (.bipush 127, 2) := kq.at kqdL_law_0 13 rfl
theorem dL_law_32 : decode cL_law 32 = .ok (.iand, 1) := kq.at kqdL_law_0 14 rfl
theorem dL_law_33 : decode cL_law 33 = .ok (.tableswitch 1923 0 65 #[279, 292, 305, 318, 361, 434, 467, 530, 593, 616, 639, 662, 685, 718, 751, 784, 833, 846, 869, 892, 915, 948, 991, 1004, 1027, 1040, 1053, 1066, 1079, 1102, 1115, 1148, 1171, 1194, 1227, 1240, 1263, 1286, 1299, 1312, 1335, 1358, 1381, 1404, 1417, 1430, 1443, 1476, 1509, 1532, 1545, 1578, 1621, 1644, 1667, 1680, 1713, 1746, 1759, 1772, 1785, 1798, 1831, 1854, 1897, 1910], 279) := kq.at kqdL_law_0 15 rfl
theorem dL_law_329 : decode cL_law 329 = .ok (.pop2, 1) := kq.at kqdL_law_0 16 rfl
theorem dL_law_334 : decode cL_law 334 = .ok (.pop2, 1) := kq.at kqdL_law_0 17 rfl
theorem dL_law_342 : decode cL_law 342 = .ok (.pop2, 1) := kq.at kqdL_law_0 18 rfl
theorem dL_law_347 : decode cL_law 347 = .ok (.pop2, 1) := kq.at kqdL_law_0 19 rfl
theorem dL_law_410 : decode cL_law 410 = .ok (.i2l, 1) := kq.at kqdL_law_0 20 rfl
theorem dL_law_411 : decode cL_law 411 = .ok (.bipush 32, 2) := kq.at kqdL_law_0 21 rfl
theorem dL_law_413 : decode cL_law 413 = .ok (.lshl, 1) := kq.at kqdL_law_0 22 rfl
theorem dL_law_419 : decode cL_law 419 = .ok (.i2l, 1) := kq.at kqdL_law_0 23 rfl
theorem dL_law_420 : decode cL_law 420 = .ok (.ldc2_w 32, 3) := kq.at kqdL_law_0 24 rfl
theorem dL_law_423 : decode cL_law 423 = .ok (.land, 1) := kq.at kqdL_law_0 25 rfl
theorem dL_law_424 : decode cL_law 424 = .ok (.lor, 1) := kq.at kqdL_law_0 26 rfl
theorem dL_law_445 : decode cL_law 445 = .ok (.i2l, 1) := kq.at kqdL_law_0 27 rfl
theorem dL_law_446 : decode cL_law 446 = .ok (.bipush 32, 2) := kq.at kqdL_law_0 28 rfl
theorem dL_law_448 : decode cL_law 448 = .ok (.lshl, 1) := kq.at kqdL_law_0 29 rfl
theorem dL_law_454 : decode cL_law 454 = .ok (.i2l, 1) := kq.at kqdL_law_0 30 rfl
theorem dL_law_455 : decode cL_law 455 = .ok (.ldc2_w 32, 3) := kq.at kqdL_law_0 31 rfl
theorem dL_law_458 : decode cL_law 458 = .ok (.land, 1) := kq.at kqdL_law_0 32 rfl
theorem dL_law_459 : decode cL_law 459 = .ok (.lor, 1) := kq.at kqdL_law_0 33 rfl
theorem dL_law_481 : decode cL_law 481 = .ok (.pop2, 1) := kq.at kqdL_law_0 34 rfl
theorem dL_law_496 : decode cL_law 496 = .ok (.pop2, 1) := kq.at kqdL_law_0 35 rfl
theorem dL_law_828 : decode cL_law 828 = .ok (.ifCond .eq 7, 3) := kq.at kqdL_law_0 36 rfl
theorem dL_law_851 : decode cL_law 851 = .ok (.ifCond .eq 7, 3) := kq.at kqdL_law_0 37 rfl
theorem dL_law_1606 : decode cL_law 1606 = .ok (.if_icmp .eq 350, 3) := kq.at kqdL_law_0 38 rfl
theorem dL_law_1610 : decode cL_law 1610 = .ok (.ireturn, 1) := kq.at kqdL_law_0 39 rfl
theorem dL_law_1956 : decode cL_law 1956 = .ok (.iinc 3 6, 3) := kq.at kqdL_law_0 40 rfl
theorem dL_law_1963 : decode cL_law 1963 = .ok (.ireturn, 1) := kq.at kqdL_law_0 41 rfl
def kxd16 : ByteArray := .mk #[0x3, 0x3e, 0x1d, 0x2a, 0xbe, 0x10, 0x6, 0x64, 0xa3, 0x7, 0x92, 0x2a, 0x1d, 0x2e]
theorem kxa16 : kxA cL_law kxd16 16 := kxA.of (List.isPrefixOf_iff_prefix.1 (by decide +kernel))
theorem kxq16 : kqx kxd16 [(0, .iconst 0, 1), (2, .iload_n 3, 1), (3, .aload_n 0, 1), (11, .aload_n 0, 1), (12, .iload_n 3, 1), (13, .iaload, 1)] = true := by decide +kernel
theorem dL_law_16 : decode cL_law 16 = .ok (.iconst 0, 1) := kqx.at kxa16 kxq16 0 rfl rfl
theorem dL_law_18 : decode cL_law 18 = .ok (.iload_n 3, 1) := kqx.at kxa16 kxq16 1 rfl rfl
theorem dL_law_19 : decode cL_law 19 = .ok (.aload_n 0, 1) := kqx.at kxa16 kxq16 2 rfl rfl
theorem dL_law_27 : decode cL_law 27 = .ok (.aload_n 0, 1) := kqx.at kxa16 kxq16 3 rfl rfl
theorem dL_law_28 : decode cL_law 28 = .ok (.iload_n 3, 1) := kqx.at kxa16 kxq16 4 rfl rfl
theorem dL_law_29 : decode cL_law 29 = .ok (.iaload, 1) := kqx.at kxa16 kxq16 5 rfl rfl
def kxd312 : ByteArray := .mk #[0x2b, 0xb6, 0x0, 0xd, 0x57, 0x2c, 0xb6, 0x0, 0x11, 0x57, 0xa7, 0x6, 0x62, 0x2b, 0xb6, 0x0, 0x12, 0x58, 0x2c, 0xb6, 0x0, 0x16, 0x58, 0xa7, 0x6, 0x55, 0x2b, 0xb6, 0x0, 0x17, 0x58, 0x2c, 0xb6, 0x0, 0x1a, 0x58, 0xa7, 0x6, 0x48, 0x2b, 0x2a, 0x1d, 0x4, 0x60, 0x2e, 0x2a, 0x1d, 0x5, 0x60, 0x2e, 0x2a, 0x1d, 0x6, 0x60, 0x2e, 0xb6, 0x0, 0x1b, 0x57, 0x2c, 0x2a, 0x1d, 0x4, 0x60, 0x2e, 0x2a, 0x1d, 0x5, 0x60, 0x2e, 0x2a, 0x1d, 0x6, 0x60, 0x2e, 0xb6, 0x0, 0x1f, 0x57, 0xa7, 0x6, 0x1d, 0x2b, 0x2a, 0x1d, 0x4, 0x60, 0x2e, 0x2a, 0x1d, 0x5, 0x60, 0x2e, 0x2a, 0x1d, 0x6]
theorem kxa312 : kxA cL_law kxd312 312 := kxA.of (List.isPrefixOf_iff_prefix.1 (by decide +kernel))
theorem kxq312 : kqx kxd312 [(0, .aload_n 1, 1), (1, .invokevirtual 13, 3), (4, .pop, 1), (5, .aload_n 2, 1), (6, .invokevirtual 17, 3), (9, .pop, 1), (10, .goto 1634, 3), (13, .aload_n 1, 1), (14, .invokevirtual 18, 3), (18, .aload_n 2, 1), (19, .invokevirtual 22, 3), (23, .goto 1621, 3), (26, .aload_n 1, 1), (27, .invokevirtual 23, 3), (31, .aload_n 2, 1), (32, .invokevirtual 26, 3), (36, .goto 1608, 3), (39, .aload_n 1, 1), (40, .aload_n 0, 1), (41, .iload_n 3, 1), (42, .iconst 1, 1), (43, .iadd, 1), (44, .iaload, 1), (45, .aload_n 0, 1), (46, .iload_n 3, 1), (47, .iconst 2, 1), (48, .iadd, 1), (49, .iaload, 1), (50, .aload_n 0, 1), (51, .iload_n 3, 1), (52, .iconst 3, 1), (53, .iadd, 1), (54, .iaload, 1), (55, .invokevirtual 27, 3), (58, .pop, 1), (59, .aload_n 2, 1), (60, .aload_n 0, 1), (61, .iload_n 3, 1), (62, .iconst 1, 1), (63, .iadd, 1), (64, .iaload, 1), (65, .aload_n 0, 1), (66, .iload_n 3, 1), (67, .iconst 2, 1), (68, .iadd, 1), (69, .iaload, 1), (70, .aload_n 0, 1), (71, .iload_n 3, 1), (72, .iconst 3, 1), (73, .iadd, 1), (74, .iaload, 1), (75, .invokevirtual 31, 3), (78, .pop, 1), (79, .goto 1565, 3), (82, .aload_n 1, 1), (83, .aload_n 0, 1), (84, .iload_n 3, 1), (85, .iconst 1, 1), (86, .iadd, 1), (87, .iaload, 1), (88, .aload_n 0, 1), (89, .iload_n 3, 1), (90, .iconst 2, 1), (91, .iadd, 1), (92, .iaload, 1), (93, .aload_n 0, 1), (94, .iload_n 3, 1), (95, .iconst 3, 1)] = true := by decide +kernel
theorem dL_law_312 : decode cL_law 312 = .ok (.aload_n 1, 1) := kqx.at kxa312 kxq312 0 rfl rfl
theorem dL_law_313 : decode cL_law 313 = .ok (.invokevirtual 13, 3) := kqx.at kxa312 kxq312 1 rfl rfl
theorem dL_law_316 : decode cL_law 316 = .ok (.pop, 1) := kqx.at kxa312 kxq312 2 rfl rfl
theorem dL_law_317 : decode cL_law 317 = .ok (.aload_n 2, 1) := kqx.at kxa312 kxq312 3 rfl rfl
theorem dL_law_318 : decode cL_law 318 = .ok (.invokevirtual 17, 3) := kqx.at kxa312 kxq312 4 rfl rfl
theorem dL_law_321 : decode cL_law 321 = .ok (.pop, 1) := kqx.at kxa312 kxq312 5 rfl rfl
theorem dL_law_322 : decode cL_law 322 = .ok (.goto 1634, 3) := kqx.at kxa312 kxq312 6 rfl rfl
theorem dL_law_325 : decode cL_law 325 = .ok (.aload_n 1, 1) := kqx.at kxa312 kxq312 7 rfl rfl
theorem dL_law_326 : decode cL_law 326 = .ok (.invokevirtual 18, 3) := kqx.at kxa312 kxq312 8 rfl rfl
theorem dL_law_330 : decode cL_law 330 = .ok (.aload_n 2, 1) := kqx.at kxa312 kxq312 9 rfl rfl
theorem dL_law_331 : decode cL_law 331 = .ok (.invokevirtual 22, 3) := kqx.at kxa312 kxq312 10 rfl rfl
theorem dL_law_335 : decode cL_law 335 = .ok (.goto 1621, 3) := kqx.at kxa312 kxq312 11 rfl rfl
theorem dL_law_338 : decode cL_law 338 = .ok (.aload_n 1, 1) := kqx.at kxa312 kxq312 12 rfl rfl
theorem dL_law_339 : decode cL_law 339 = .ok (.invokevirtual 23, 3) := kqx.at kxa312 kxq312 13 rfl rfl
theorem dL_law_343 : decode cL_law 343 = .ok (.aload_n 2, 1) := kqx.at kxa312 kxq312 14 rfl rfl
theorem dL_law_344 : decode cL_law 344 = .ok (.invokevirtual 26, 3) := kqx.at kxa312 kxq312 15 rfl rfl
theorem dL_law_348 : decode cL_law 348 = .ok (.goto 1608, 3) := kqx.at kxa312 kxq312 16 rfl rfl
theorem dL_law_351 : decode cL_law 351 = .ok (.aload_n 1, 1) := kqx.at kxa312 kxq312 17 rfl rfl
theorem dL_law_352 : decode cL_law 352 = .ok (.aload_n 0, 1) := kqx.at kxa312 kxq312 18 rfl rfl
theorem dL_law_353 : decode cL_law 353 = .ok (.iload_n 3, 1) := kqx.at kxa312 kxq312 19 rfl rfl
theorem dL_law_354 : decode cL_law 354 = .ok (.iconst 1, 1) := kqx.at kxa312 kxq312 20 rfl rfl
theorem dL_law_355 : decode cL_law 355 = .ok (.iadd, 1) := kqx.at kxa312 kxq312 21 rfl rfl
theorem dL_law_356 : decode cL_law 356 = .ok (.iaload, 1) := kqx.at kxa312 kxq312 22 rfl rfl
theorem dL_law_357 : decode cL_law 357 = .ok (.aload_n 0, 1) := kqx.at kxa312 kxq312 23 rfl rfl
theorem dL_law_358 : decode cL_law 358 = .ok (.iload_n 3, 1) := kqx.at kxa312 kxq312 24 rfl rfl
theorem dL_law_359 : decode cL_law 359 = .ok (.iconst 2, 1) := kqx.at kxa312 kxq312 25 rfl rfl
theorem dL_law_360 : decode cL_law 360 = .ok (.iadd, 1) := kqx.at kxa312 kxq312 26 rfl rfl
theorem dL_law_361 : decode cL_law 361 = .ok (.iaload, 1) := kqx.at kxa312 kxq312 27 rfl rfl
theorem dL_law_362 : decode cL_law 362 = .ok (.aload_n 0, 1) := kqx.at kxa312 kxq312 28 rfl rfl
theorem dL_law_363 : decode cL_law 363 = .ok (.iload_n 3, 1) := kqx.at kxa312 kxq312 29 rfl rfl
theorem dL_law_364 : decode cL_law 364 = .ok (.iconst 3, 1) := kqx.at kxa312 kxq312 30 rfl rfl
theorem dL_law_365 : decode cL_law 365 = .ok (.iadd, 1) := kqx.at kxa312 kxq312 31 rfl rfl
theorem dL_law_366 : decode cL_law 366 = .ok (.iaload, 1) := kqx.at kxa312 kxq312 32 rfl rfl
theorem dL_law_367 : decode cL_law 367 = .ok (.invokevirtual 27, 3) := kqx.at kxa312 kxq312 33 rfl rfl
theorem dL_law_370 : decode cL_law 370 = .ok (.pop, 1) := kqx.at kxa312 kxq312 34 rfl rfl
theorem dL_law_371 : decode cL_law 371 = .ok (.aload_n 2, 1) := kqx.at kxa312 kxq312 35 rfl rfl
theorem dL_law_372 : decode cL_law 372 = .ok (.aload_n 0, 1) := kqx.at kxa312 kxq312 36 rfl rfl
theorem dL_law_373 : decode cL_law 373 = .ok (.iload_n 3, 1) := kqx.at kxa312 kxq312 37 rfl rfl
theorem dL_law_374 : decode cL_law 374 = .ok (.iconst 1, 1) := kqx.at kxa312 kxq312 38 rfl rfl
theorem dL_law_375 : decode cL_law 375 = .ok (.iadd, 1) := kqx.at kxa312 kxq312 39 rfl rfl
theorem dL_law_376 : decode cL_law 376 = .ok (.iaload, 1) := kqx.at kxa312 kxq312 40 rfl rfl
theorem dL_law_377 : decode cL_law 377 = .ok (.aload_n 0, 1) := kqx.at kxa312 kxq312 41 rfl rfl
theorem dL_law_378 : decode cL_law 378 = .ok (.iload_n 3, 1) := kqx.at kxa312 kxq312 42 rfl rfl
theorem dL_law_379 : decode cL_law 379 = .ok (.iconst 2, 1) := kqx.at kxa312 kxq312 43 rfl rfl
theorem dL_law_380 : decode cL_law 380 = .ok (.iadd, 1) := kqx.at kxa312 kxq312 44 rfl rfl
theorem dL_law_381 : decode cL_law 381 = .ok (.iaload, 1) := kqx.at kxa312 kxq312 45 rfl rfl
theorem dL_law_382 : decode cL_law 382 = .ok (.aload_n 0, 1) := kqx.at kxa312 kxq312 46 rfl rfl
theorem dL_law_383 : decode cL_law 383 = .ok (.iload_n 3, 1) := kqx.at kxa312 kxq312 47 rfl rfl
theorem dL_law_384 : decode cL_law 384 = .ok (.iconst 3, 1) := kqx.at kxa312 kxq312 48 rfl rfl
theorem dL_law_385 : decode cL_law 385 = .ok (.iadd, 1) := kqx.at kxa312 kxq312 49 rfl rfl
theorem dL_law_386 : decode cL_law 386 = .ok (.iaload, 1) := kqx.at kxa312 kxq312 50 rfl rfl
theorem dL_law_387 : decode cL_law 387 = .ok (.invokevirtual 31, 3) := kqx.at kxa312 kxq312 51 rfl rfl
theorem dL_law_390 : decode cL_law 390 = .ok (.pop, 1) := kqx.at kxa312 kxq312 52 rfl rfl
theorem dL_law_391 : decode cL_law 391 = .ok (.goto 1565, 3) := kqx.at kxa312 kxq312 53 rfl rfl
theorem dL_law_394 : decode cL_law 394 = .ok (.aload_n 1, 1) := kqx.at kxa312 kxq312 54 rfl rfl
theorem dL_law_395 : decode cL_law 395 = .ok (.aload_n 0, 1) := kqx.at kxa312 kxq312 55 rfl rfl
theorem dL_law_396 : decode cL_law 396 = .ok (.iload_n 3, 1) := kqx.at kxa312 kxq312 56 rfl rfl
theorem dL_law_397 : decode cL_law 397 = .ok (.iconst 1, 1) := kqx.at kxa312 kxq312 57 rfl rfl
theorem dL_law_398 : decode cL_law 398 = .ok (.iadd, 1) := kqx.at kxa312 kxq312 58 rfl rfl
theorem dL_law_399 : decode cL_law 399 = .ok (.iaload, 1) := kqx.at kxa312 kxq312 59 rfl rfl
theorem dL_law_400 : decode cL_law 400 = .ok (.aload_n 0, 1) := kqx.at kxa312 kxq312 60 rfl rfl
theorem dL_law_401 : decode cL_law 401 = .ok (.iload_n 3, 1) := kqx.at kxa312 kxq312 61 rfl rfl
theorem dL_law_402 : decode cL_law 402 = .ok (.iconst 2, 1) := kqx.at kxa312 kxq312 62 rfl rfl
theorem dL_law_403 : decode cL_law 403 = .ok (.iadd, 1) := kqx.at kxa312 kxq312 63 rfl rfl
theorem dL_law_404 : decode cL_law 404 = .ok (.iaload, 1) := kqx.at kxa312 kxq312 64 rfl rfl
theorem dL_law_405 : decode cL_law 405 = .ok (.aload_n 0, 1) := kqx.at kxa312 kxq312 65 rfl rfl
theorem dL_law_406 : decode cL_law 406 = .ok (.iload_n 3, 1) := kqx.at kxa312 kxq312 66 rfl rfl
theorem dL_law_407 : decode cL_law 407 = .ok (.iconst 3, 1) := kqx.at kxa312 kxq312 67 rfl rfl
def kxd408 : ByteArray := .mk #[0x60, 0x2e, 0x85, 0x10, 0x20, 0x79, 0x2a, 0x1d, 0x7, 0x60, 0x2e, 0x85, 0x14, 0x0, 0x20, 0x7f, 0x81, 0xb6, 0x0, 0x22, 0x57, 0x2c, 0x2a, 0x1d, 0x4, 0x60, 0x2e, 0x2a, 0x1d, 0x5, 0x60, 0x2e, 0x2a, 0x1d, 0x6, 0x60, 0x2e, 0x85, 0x10, 0x20, 0x79, 0x2a, 0x1d, 0x7, 0x60, 0x2e, 0x85, 0x14, 0x0, 0x20, 0x7f, 0x81, 0xb6, 0x0, 0x26, 0x57, 0xa7, 0x5, 0xd4, 0x2b, 0x2a, 0x1d, 0x4, 0x60, 0x2e, 0x2a, 0x1d, 0x5, 0x60, 0x2e, 0xb6, 0x0, 0x27, 0x58, 0x2c, 0x2a, 0x1d, 0x4, 0x60, 0x2e, 0x2a, 0x1d, 0x5, 0x60, 0x2e, 0xb6, 0x0, 0x2b, 0x58, 0xa7, 0x5, 0xb3, 0x2b, 0x2a, 0x1d, 0x4]
theorem kxa408 : kxA cL_law kxd408 408 := kxA.of (List.isPrefixOf_iff_prefix.1 (by decide +kernel))
theorem kxq408 : kqx kxd408 [(0, .iadd, 1), (1, .iaload, 1), (6, .aload_n 0, 1), (7, .iload_n 3, 1), (8, .iconst 4, 1), (9, .iadd, 1), (10, .iaload, 1), (17, .invokevirtual 34, 3), (20, .pop, 1), (21, .aload_n 2, 1), (22, .aload_n 0, 1), (23, .iload_n 3, 1), (24, .iconst 1, 1), (25, .iadd, 1), (26, .iaload, 1), (27, .aload_n 0, 1), (28, .iload_n 3, 1), (29, .iconst 2, 1), (30, .iadd, 1), (31, .iaload, 1), (32, .aload_n 0, 1), (33, .iload_n 3, 1), (34, .iconst 3, 1), (35, .iadd, 1), (36, .iaload, 1), (41, .aload_n 0, 1), (42, .iload_n 3, 1), (43, .iconst 4, 1), (44, .iadd, 1), (45, .iaload, 1), (52, .invokevirtual 38, 3), (55, .pop, 1), (56, .goto 1492, 3), (59, .aload_n 1, 1), (60, .aload_n 0, 1), (61, .iload_n 3, 1), (62, .iconst 1, 1), (63, .iadd, 1), (64, .iaload, 1), (65, .aload_n 0, 1), (66, .iload_n 3, 1), (67, .iconst 2, 1), (68, .iadd, 1), (69, .iaload, 1), (70, .invokevirtual 39, 3), (74, .aload_n 2, 1), (75, .aload_n 0, 1), (76, .iload_n 3, 1), (77, .iconst 1, 1), (78, .iadd, 1), (79, .iaload, 1), (80, .aload_n 0, 1), (81, .iload_n 3, 1), (82, .iconst 2, 1), (83, .iadd, 1), (84, .iaload, 1), (85, .invokevirtual 43, 3), (89, .goto 1459, 3), (92, .aload_n 1, 1), (93, .aload_n 0, 1), (94, .iload_n 3, 1), (95, .iconst 1, 1)] = true := by decide +kernel
theorem dL_law_408 : decode cL_law 408 = .ok (.iadd, 1) := kqx.at kxa408 kxq408 0 rfl rfl
theorem dL_law_409 : decode cL_law 409 = .ok (.iaload, 1) := kqx.at kxa408 kxq408 1 rfl rfl
theorem dL_law_414 : decode cL_law 414 = .ok (.aload_n 0, 1) := kqx.at kxa408 kxq408 2 rfl rfl
theorem dL_law_415 : decode cL_law 415 = .ok (.iload_n 3, 1) := kqx.at kxa408 kxq408 3 rfl rfl
theorem dL_law_416 : decode cL_law 416 = .ok (.iconst 4, 1) := kqx.at kxa408 kxq408 4 rfl rfl
theorem dL_law_417 : decode cL_law 417 = .ok (.iadd, 1) := kqx.at kxa408 kxq408 5 rfl rfl
theorem dL_law_418 : decode cL_law 418 = .ok (.iaload, 1) := kqx.at kxa408 kxq408 6 rfl rfl
theorem dL_law_425 : decode cL_law 425 = .ok (.invokevirtual 34, 3) := kqx.at kxa408 kxq408 7 rfl rfl
theorem dL_law_428 : decode cL_law 428 = .ok (.pop, 1) := kqx.at kxa408 kxq408 8 rfl rfl
theorem dL_law_429 : decode cL_law 429 = .ok (.aload_n 2, 1) := kqx.at kxa408 kxq408 9 rfl rfl
theorem dL_law_430 : decode cL_law 430 = .ok (.aload_n 0, 1) := kqx.at kxa408 kxq408 10 rfl rfl
theorem dL_law_431 : decode cL_law 431 = .ok (.iload_n 3, 1) := kqx.at kxa408 kxq408 11 rfl rfl
theorem dL_law_432 : decode cL_law 432 = .ok (.iconst 1, 1) := kqx.at kxa408 kxq408 12 rfl rfl
theorem dL_law_433 : decode cL_law 433 = .ok (.iadd, 1) := kqx.at kxa408 kxq408 13 rfl rfl
theorem dL_law_434 : decode cL_law 434 = .ok (.iaload, 1) := kqx.at kxa408 kxq408 14 rfl rfl
theorem dL_law_435 : decode cL_law 435 = .ok (.aload_n 0, 1) := kqx.at kxa408 kxq408 15 rfl rfl
theorem dL_law_436 : decode cL_law 436 = .ok (.iload_n 3, 1) := kqx.at kxa408 kxq408 16 rfl rfl
theorem dL_law_437 : decode cL_law 437 = .ok (.iconst 2, 1) := kqx.at kxa408 kxq408 17 rfl rfl
theorem dL_law_438 : decode cL_law 438 = .ok (.iadd, 1) := kqx.at kxa408 kxq408 18 rfl rfl
theorem dL_law_439 : decode cL_law 439 = .ok (.iaload, 1) := kqx.at kxa408 kxq408 19 rfl rfl
theorem dL_law_440 : decode cL_law 440 = .ok (.aload_n 0, 1) := kqx.at kxa408 kxq408 20 rfl rfl
theorem dL_law_441 : decode cL_law 441 = .ok (.iload_n 3, 1) := kqx.at kxa408 kxq408 21 rfl rfl
theorem dL_law_442 : decode cL_law 442 = .ok (.iconst 3, 1) := kqx.at kxa408 kxq408 22 rfl rfl
theorem dL_law_443 : decode cL_law 443 = .ok (.iadd, 1) := kqx.at kxa408 kxq408 23 rfl rfl
theorem dL_law_444 : decode cL_law 444 = .ok (.iaload, 1) := kqx.at kxa408 kxq408 24 rfl rfl
theorem dL_law_449 : decode cL_law 449 = .ok (.aload_n 0, 1) := kqx.at kxa408 kxq408 25 rfl rfl
theorem dL_law_450 : decode cL_law 450 = .ok (.iload_n 3, 1) := kqx.at kxa408 kxq408 26 rfl rfl
theorem dL_law_451 : decode cL_law 451 = .ok (.iconst 4, 1) := kqx.at kxa408 kxq408 27 rfl rfl
theorem dL_law_452 : decode cL_law 452 = .ok (.iadd, 1) := kqx.at kxa408 kxq408 28 rfl rfl
theorem dL_law_453 : decode cL_law 453 = .ok (.iaload, 1) := kqx.at kxa408 kxq408 29 rfl rfl
theorem dL_law_460 : decode cL_law 460 = .ok (.invokevirtual 38, 3) := kqx.at kxa408 kxq408 30 rfl rfl
theorem dL_law_463 : decode cL_law 463 = .ok (.pop, 1) := kqx.at kxa408 kxq408 31 rfl rfl
theorem dL_law_464 : decode cL_law 464 = .ok (.goto 1492, 3) := kqx.at kxa408 kxq408 32 rfl rfl
theorem dL_law_467 : decode cL_law 467 = .ok (.aload_n 1, 1) := kqx.at kxa408 kxq408 33 rfl rfl
theorem dL_law_468 : decode cL_law 468 = .ok (.aload_n 0, 1) := kqx.at kxa408 kxq408 34 rfl rfl
theorem dL_law_469 : decode cL_law 469 = .ok (.iload_n 3, 1) := kqx.at kxa408 kxq408 35 rfl rfl
theorem dL_law_470 : decode cL_law 470 = .ok (.iconst 1, 1) := kqx.at kxa408 kxq408 36 rfl rfl
theorem dL_law_471 : decode cL_law 471 = .ok (.iadd, 1) := kqx.at kxa408 kxq408 37 rfl rfl
theorem dL_law_472 : decode cL_law 472 = .ok (.iaload, 1) := kqx.at kxa408 kxq408 38 rfl rfl
theorem dL_law_473 : decode cL_law 473 = .ok (.aload_n 0, 1) := kqx.at kxa408 kxq408 39 rfl rfl
theorem dL_law_474 : decode cL_law 474 = .ok (.iload_n 3, 1) := kqx.at kxa408 kxq408 40 rfl rfl
theorem dL_law_475 : decode cL_law 475 = .ok (.iconst 2, 1) := kqx.at kxa408 kxq408 41 rfl rfl
theorem dL_law_476 : decode cL_law 476 = .ok (.iadd, 1) := kqx.at kxa408 kxq408 42 rfl rfl
theorem dL_law_477 : decode cL_law 477 = .ok (.iaload, 1) := kqx.at kxa408 kxq408 43 rfl rfl
theorem dL_law_478 : decode cL_law 478 = .ok (.invokevirtual 39, 3) := kqx.at kxa408 kxq408 44 rfl rfl
theorem dL_law_482 : decode cL_law 482 = .ok (.aload_n 2, 1) := kqx.at kxa408 kxq408 45 rfl rfl
theorem dL_law_483 : decode cL_law 483 = .ok (.aload_n 0, 1) := kqx.at kxa408 kxq408 46 rfl rfl
theorem dL_law_484 : decode cL_law 484 = .ok (.iload_n 3, 1) := kqx.at kxa408 kxq408 47 rfl rfl
theorem dL_law_485 : decode cL_law 485 = .ok (.iconst 1, 1) := kqx.at kxa408 kxq408 48 rfl rfl
theorem dL_law_486 : decode cL_law 486 = .ok (.iadd, 1) := kqx.at kxa408 kxq408 49 rfl rfl
theorem dL_law_487 : decode cL_law 487 = .ok (.iaload, 1) := kqx.at kxa408 kxq408 50 rfl rfl
theorem dL_law_488 : decode cL_law 488 = .ok (.aload_n 0, 1) := kqx.at kxa408 kxq408 51 rfl rfl
theorem dL_law_489 : decode cL_law 489 = .ok (.iload_n 3, 1) := kqx.at kxa408 kxq408 52 rfl rfl
theorem dL_law_490 : decode cL_law 490 = .ok (.iconst 2, 1) := kqx.at kxa408 kxq408 53 rfl rfl
theorem dL_law_491 : decode cL_law 491 = .ok (.iadd, 1) := kqx.at kxa408 kxq408 54 rfl rfl
theorem dL_law_492 : decode cL_law 492 = .ok (.iaload, 1) := kqx.at kxa408 kxq408 55 rfl rfl
theorem dL_law_493 : decode cL_law 493 = .ok (.invokevirtual 43, 3) := kqx.at kxa408 kxq408 56 rfl rfl
theorem dL_law_497 : decode cL_law 497 = .ok (.goto 1459, 3) := kqx.at kxa408 kxq408 57 rfl rfl
theorem dL_law_500 : decode cL_law 500 = .ok (.aload_n 1, 1) := kqx.at kxa408 kxq408 58 rfl rfl
theorem dL_law_501 : decode cL_law 501 = .ok (.aload_n 0, 1) := kqx.at kxa408 kxq408 59 rfl rfl
theorem dL_law_502 : decode cL_law 502 = .ok (.iload_n 3, 1) := kqx.at kxa408 kxq408 60 rfl rfl
theorem dL_law_503 : decode cL_law 503 = .ok (.iconst 1, 1) := kqx.at kxa408 kxq408 61 rfl rfl
def kxd504 : ByteArray := .mk #[0x60, 0x2e, 0x2a, 0x1d, 0x5, 0x60, 0x2e, 0x2a, 0x1d, 0x6, 0x60, 0x2e, 0x2a, 0x1d, 0x7, 0x60, 0x2e, 0x2a, 0x1d, 0x8, 0x60, 0x2e, 0xb6, 0x0, 0x2c, 0x57, 0x2c, 0x2a, 0x1d, 0x4, 0x60, 0x2e, 0x2a, 0x1d, 0x5, 0x60, 0x2e, 0x2a, 0x1d, 0x6, 0x60, 0x2e, 0x2a, 0x1d, 0x7, 0x60, 0x2e, 0x2a, 0x1d, 0x8, 0x60, 0x2e, 0xb6, 0x0, 0x30, 0x57, 0xa7, 0x5, 0x74, 0x2b, 0x2a, 0x1d, 0x4, 0x60, 0x2e, 0x2a, 0x1d, 0x5, 0x60, 0x2e, 0x2a, 0x1d, 0x6, 0x60, 0x2e, 0x2a, 0x1d, 0x7, 0x60, 0x2e, 0x2a, 0x1d, 0x8, 0x60, 0x2e, 0xb6, 0x0, 0x31, 0x57, 0x2c, 0x2a, 0x1d, 0x4, 0x60, 0x2e, 0x2a]
theorem kxa504 : kxA cL_law kxd504 504 := kxA.of (List.isPrefixOf_iff_prefix.1 (by decide +kernel))
theorem kxq504 : kqx kxd504 [(0, .iadd, 1), (1, .iaload, 1), (2, .aload_n 0, 1), (3, .iload_n 3, 1), (4, .iconst 2, 1), (5, .iadd, 1), (6, .iaload, 1), (7, .aload_n 0, 1), (8, .iload_n 3, 1), (9, .iconst 3, 1), (10, .iadd, 1), (11, .iaload, 1), (12, .aload_n 0, 1), (13, .iload_n 3, 1), (14, .iconst 4, 1), (15, .iadd, 1), (16, .iaload, 1), (17, .aload_n 0, 1), (18, .iload_n 3, 1), (19, .iconst 5, 1), (20, .iadd, 1), (21, .iaload, 1), (22, .invokevirtual 44, 3), (25, .pop, 1), (26, .aload_n 2, 1), (27, .aload_n 0, 1), (28, .iload_n 3, 1), (29, .iconst 1, 1), (30, .iadd, 1), (31, .iaload, 1), (32, .aload_n 0, 1), (33, .iload_n 3, 1), (34, .iconst 2, 1), (35, .iadd, 1), (36, .iaload, 1), (37, .aload_n 0, 1), (38, .iload_n 3, 1), (39, .iconst 3, 1), (40, .iadd, 1), (41, .iaload, 1), (42, .aload_n 0, 1), (43, .iload_n 3, 1), (44, .iconst 4, 1), (45, .iadd, 1), (46, .iaload, 1), (47, .aload_n 0, 1), (48, .iload_n 3, 1), (49, .iconst 5, 1), (50, .iadd, 1), (51, .iaload, 1), (52, .invokevirtual 48, 3), (55, .pop, 1), (56, .goto 1396, 3), (59, .aload_n 1, 1), (60, .aload_n 0, 1), (61, .iload_n 3, 1), (62, .iconst 1, 1), (63, .iadd, 1), (64, .iaload, 1), (65, .aload_n 0, 1), (66, .iload_n 3, 1), (67, .iconst 2, 1), (68, .iadd, 1), (69, .iaload, 1), (70, .aload_n 0, 1), (71, .iload_n 3, 1), (72, .iconst 3, 1), (73, .iadd, 1), (74, .iaload, 1), (75, .aload_n 0, 1), (76, .iload_n 3, 1), (77, .iconst 4, 1), (78, .iadd, 1), (79, .iaload, 1), (80, .aload_n 0, 1), (81, .iload_n 3, 1), (82, .iconst 5, 1), (83, .iadd, 1), (84, .iaload, 1), (85, .invokevirtual 49, 3), (88, .pop, 1), (89, .aload_n 2, 1), (90, .aload_n 0, 1), (91, .iload_n 3, 1), (92, .iconst 1, 1), (93, .iadd, 1), (94, .iaload, 1), (95, .aload_n 0, 1)] = true := by decide +kernel
theorem dL_law_504 : decode cL_law 504 = .ok (.iadd, 1) := kqx.at kxa504 kxq504 0 rfl rfl
theorem dL_law_505 : decode cL_law 505 = .ok (.iaload, 1) := kqx.at kxa504 kxq504 1 rfl rfl
theorem dL_law_506 : decode cL_law 506 = .ok (.aload_n 0, 1) := kqx.at kxa504 kxq504 2 rfl rfl
theorem dL_law_507 : decode cL_law 507 = .ok (.iload_n 3, 1) := kqx.at kxa504 kxq504 3 rfl rfl
theorem dL_law_508 : decode cL_law 508 = .ok (.iconst 2, 1) := kqx.at kxa504 kxq504 4 rfl rfl
theorem dL_law_509 : decode cL_law 509 = .ok (.iadd, 1) := kqx.at kxa504 kxq504 5 rfl rfl
theorem dL_law_510 : decode cL_law 510 = .ok (.iaload, 1) := kqx.at kxa504 kxq504 6 rfl rfl
theorem dL_law_511 : decode cL_law 511 = .ok (.aload_n 0, 1) := kqx.at kxa504 kxq504 7 rfl rfl
theorem dL_law_512 : decode cL_law 512 = .ok (.iload_n 3, 1) := kqx.at kxa504 kxq504 8 rfl rfl
theorem dL_law_513 : decode cL_law 513 = .ok (.iconst 3, 1) := kqx.at kxa504 kxq504 9 rfl rfl
theorem dL_law_514 : decode cL_law 514 = .ok (.iadd, 1) := kqx.at kxa504 kxq504 10 rfl rfl
theorem dL_law_515 : decode cL_law 515 = .ok (.iaload, 1) := kqx.at kxa504 kxq504 11 rfl rfl
theorem dL_law_516 : decode cL_law 516 = .ok (.aload_n 0, 1) := kqx.at kxa504 kxq504 12 rfl rfl
theorem dL_law_517 : decode cL_law 517 = .ok (.iload_n 3, 1) := kqx.at kxa504 kxq504 13 rfl rfl
theorem dL_law_518 : decode cL_law 518 = .ok (.iconst 4, 1) := kqx.at kxa504 kxq504 14 rfl rfl
theorem dL_law_519 : decode cL_law 519 = .ok (.iadd, 1) := kqx.at kxa504 kxq504 15 rfl rfl
theorem dL_law_520 : decode cL_law 520 = .ok (.iaload, 1) := kqx.at kxa504 kxq504 16 rfl rfl
theorem dL_law_521 : decode cL_law 521 = .ok (.aload_n 0, 1) := kqx.at kxa504 kxq504 17 rfl rfl
theorem dL_law_522 : decode cL_law 522 = .ok (.iload_n 3, 1) := kqx.at kxa504 kxq504 18 rfl rfl
theorem dL_law_523 : decode cL_law 523 = .ok (.iconst 5, 1) := kqx.at kxa504 kxq504 19 rfl rfl
theorem dL_law_524 : decode cL_law 524 = .ok (.iadd, 1) := kqx.at kxa504 kxq504 20 rfl rfl
theorem dL_law_525 : decode cL_law 525 = .ok (.iaload, 1) := kqx.at kxa504 kxq504 21 rfl rfl
theorem dL_law_526 : decode cL_law 526 = .ok (.invokevirtual 44, 3) := kqx.at kxa504 kxq504 22 rfl rfl
theorem dL_law_529 : decode cL_law 529 = .ok (.pop, 1) := kqx.at kxa504 kxq504 23 rfl rfl
theorem dL_law_530 : decode cL_law 530 = .ok (.aload_n 2, 1) := kqx.at kxa504 kxq504 24 rfl rfl
theorem dL_law_531 : decode cL_law 531 = .ok (.aload_n 0, 1) := kqx.at kxa504 kxq504 25 rfl rfl
theorem dL_law_532 : decode cL_law 532 = .ok (.iload_n 3, 1) := kqx.at kxa504 kxq504 26 rfl rfl
theorem dL_law_533 : decode cL_law 533 = .ok (.iconst 1, 1) := kqx.at kxa504 kxq504 27 rfl rfl
theorem dL_law_534 : decode cL_law 534 = .ok (.iadd, 1) := kqx.at kxa504 kxq504 28 rfl rfl
theorem dL_law_535 : decode cL_law 535 = .ok (.iaload, 1) := kqx.at kxa504 kxq504 29 rfl rfl
theorem dL_law_536 : decode cL_law 536 = .ok (.aload_n 0, 1) := kqx.at kxa504 kxq504 30 rfl rfl
theorem dL_law_537 : decode cL_law 537 = .ok (.iload_n 3, 1) := kqx.at kxa504 kxq504 31 rfl rfl
theorem dL_law_538 : decode cL_law 538 = .ok (.iconst 2, 1) := kqx.at kxa504 kxq504 32 rfl rfl
theorem dL_law_539 : decode cL_law 539 = .ok (.iadd, 1) := kqx.at kxa504 kxq504 33 rfl rfl
theorem dL_law_540 : decode cL_law 540 = .ok (.iaload, 1) := kqx.at kxa504 kxq504 34 rfl rfl
theorem dL_law_541 : decode cL_law 541 = .ok (.aload_n 0, 1) := kqx.at kxa504 kxq504 35 rfl rfl
theorem dL_law_542 : decode cL_law 542 = .ok (.iload_n 3, 1) := kqx.at kxa504 kxq504 36 rfl rfl
theorem dL_law_543 : decode cL_law 543 = .ok (.iconst 3, 1) := kqx.at kxa504 kxq504 37 rfl rfl
theorem dL_law_544 : decode cL_law 544 = .ok (.iadd, 1) := kqx.at kxa504 kxq504 38 rfl rfl
theorem dL_law_545 : decode cL_law 545 = .ok (.iaload, 1) := kqx.at kxa504 kxq504 39 rfl rfl
theorem dL_law_546 : decode cL_law 546 = .ok (.aload_n 0, 1) := kqx.at kxa504 kxq504 40 rfl rfl
theorem dL_law_547 : decode cL_law 547 = .ok (.iload_n 3, 1) := kqx.at kxa504 kxq504 41 rfl rfl
theorem dL_law_548 : decode cL_law 548 = .ok (.iconst 4, 1) := kqx.at kxa504 kxq504 42 rfl rfl
theorem dL_law_549 : decode cL_law 549 = .ok (.iadd, 1) := kqx.at kxa504 kxq504 43 rfl rfl
theorem dL_law_550 : decode cL_law 550 = .ok (.iaload, 1) := kqx.at kxa504 kxq504 44 rfl rfl
theorem dL_law_551 : decode cL_law 551 = .ok (.aload_n 0, 1) := kqx.at kxa504 kxq504 45 rfl rfl
theorem dL_law_552 : decode cL_law 552 = .ok (.iload_n 3, 1) := kqx.at kxa504 kxq504 46 rfl rfl
theorem dL_law_553 : decode cL_law 553 = .ok (.iconst 5, 1) := kqx.at kxa504 kxq504 47 rfl rfl
theorem dL_law_554 : decode cL_law 554 = .ok (.iadd, 1) := kqx.at kxa504 kxq504 48 rfl rfl
theorem dL_law_555 : decode cL_law 555 = .ok (.iaload, 1) := kqx.at kxa504 kxq504 49 rfl rfl
theorem dL_law_556 : decode cL_law 556 = .ok (.invokevirtual 48, 3) := kqx.at kxa504 kxq504 50 rfl rfl
theorem dL_law_559 : decode cL_law 559 = .ok (.pop, 1) := kqx.at kxa504 kxq504 51 rfl rfl
theorem dL_law_560 : decode cL_law 560 = .ok (.goto 1396, 3) := kqx.at kxa504 kxq504 52 rfl rfl
theorem dL_law_563 : decode cL_law 563 = .ok (.aload_n 1, 1) := kqx.at kxa504 kxq504 53 rfl rfl
theorem dL_law_564 : decode cL_law 564 = .ok (.aload_n 0, 1) := kqx.at kxa504 kxq504 54 rfl rfl
theorem dL_law_565 : decode cL_law 565 = .ok (.iload_n 3, 1) := kqx.at kxa504 kxq504 55 rfl rfl
theorem dL_law_566 : decode cL_law 566 = .ok (.iconst 1, 1) := kqx.at kxa504 kxq504 56 rfl rfl
theorem dL_law_567 : decode cL_law 567 = .ok (.iadd, 1) := kqx.at kxa504 kxq504 57 rfl rfl
theorem dL_law_568 : decode cL_law 568 = .ok (.iaload, 1) := kqx.at kxa504 kxq504 58 rfl rfl
theorem dL_law_569 : decode cL_law 569 = .ok (.aload_n 0, 1) := kqx.at kxa504 kxq504 59 rfl rfl
theorem dL_law_570 : decode cL_law 570 = .ok (.iload_n 3, 1) := kqx.at kxa504 kxq504 60 rfl rfl
theorem dL_law_571 : decode cL_law 571 = .ok (.iconst 2, 1) := kqx.at kxa504 kxq504 61 rfl rfl
theorem dL_law_572 : decode cL_law 572 = .ok (.iadd, 1) := kqx.at kxa504 kxq504 62 rfl rfl
theorem dL_law_573 : decode cL_law 573 = .ok (.iaload, 1) := kqx.at kxa504 kxq504 63 rfl rfl
theorem dL_law_574 : decode cL_law 574 = .ok (.aload_n 0, 1) := kqx.at kxa504 kxq504 64 rfl rfl
theorem dL_law_575 : decode cL_law 575 = .ok (.iload_n 3, 1) := kqx.at kxa504 kxq504 65 rfl rfl
theorem dL_law_576 : decode cL_law 576 = .ok (.iconst 3, 1) := kqx.at kxa504 kxq504 66 rfl rfl
theorem dL_law_577 : decode cL_law 577 = .ok (.iadd, 1) := kqx.at kxa504 kxq504 67 rfl rfl
theorem dL_law_578 : decode cL_law 578 = .ok (.iaload, 1) := kqx.at kxa504 kxq504 68 rfl rfl
theorem dL_law_579 : decode cL_law 579 = .ok (.aload_n 0, 1) := kqx.at kxa504 kxq504 69 rfl rfl
theorem dL_law_580 : decode cL_law 580 = .ok (.iload_n 3, 1) := kqx.at kxa504 kxq504 70 rfl rfl
theorem dL_law_581 : decode cL_law 581 = .ok (.iconst 4, 1) := kqx.at kxa504 kxq504 71 rfl rfl
theorem dL_law_582 : decode cL_law 582 = .ok (.iadd, 1) := kqx.at kxa504 kxq504 72 rfl rfl
theorem dL_law_583 : decode cL_law 583 = .ok (.iaload, 1) := kqx.at kxa504 kxq504 73 rfl rfl
theorem dL_law_584 : decode cL_law 584 = .ok (.aload_n 0, 1) := kqx.at kxa504 kxq504 74 rfl rfl
theorem dL_law_585 : decode cL_law 585 = .ok (.iload_n 3, 1) := kqx.at kxa504 kxq504 75 rfl rfl
theorem dL_law_586 : decode cL_law 586 = .ok (.iconst 5, 1) := kqx.at kxa504 kxq504 76 rfl rfl
theorem dL_law_587 : decode cL_law 587 = .ok (.iadd, 1) := kqx.at kxa504 kxq504 77 rfl rfl
theorem dL_law_588 : decode cL_law 588 = .ok (.iaload, 1) := kqx.at kxa504 kxq504 78 rfl rfl
theorem dL_law_589 : decode cL_law 589 = .ok (.invokevirtual 49, 3) := kqx.at kxa504 kxq504 79 rfl rfl
theorem dL_law_592 : decode cL_law 592 = .ok (.pop, 1) := kqx.at kxa504 kxq504 80 rfl rfl
theorem dL_law_593 : decode cL_law 593 = .ok (.aload_n 2, 1) := kqx.at kxa504 kxq504 81 rfl rfl
theorem dL_law_594 : decode cL_law 594 = .ok (.aload_n 0, 1) := kqx.at kxa504 kxq504 82 rfl rfl
theorem dL_law_595 : decode cL_law 595 = .ok (.iload_n 3, 1) := kqx.at kxa504 kxq504 83 rfl rfl
theorem dL_law_596 : decode cL_law 596 = .ok (.iconst 1, 1) := kqx.at kxa504 kxq504 84 rfl rfl
theorem dL_law_597 : decode cL_law 597 = .ok (.iadd, 1) := kqx.at kxa504 kxq504 85 rfl rfl
theorem dL_law_598 : decode cL_law 598 = .ok (.iaload, 1) := kqx.at kxa504 kxq504 86 rfl rfl
theorem dL_law_599 : decode cL_law 599 = .ok (.aload_n 0, 1) := kqx.at kxa504 kxq504 87 rfl rfl
def kxd600 : ByteArray := .mk #[0x1d, 0x5, 0x60, 0x2e, 0x2a, 0x1d, 0x6, 0x60, 0x2e, 0x2a, 0x1d, 0x7, 0x60, 0x2e, 0x2a, 0x1d, 0x8, 0x60, 0x2e, 0xb6, 0x0, 0x35, 0x57, 0xa7, 0x5, 0x35, 0x2b, 0x2a, 0x1d, 0x4, 0x60, 0x2e, 0xb6, 0x0, 0x36, 0x57, 0x2c, 0x2a, 0x1d, 0x4, 0x60, 0x2e, 0xb6, 0x0, 0x3a, 0x57, 0xa7, 0x5, 0x1e, 0x2b, 0x2a, 0x1d, 0x4, 0x60, 0x2e, 0xb6, 0x0, 0x3b, 0x57, 0x2c, 0x2a, 0x1d, 0x4, 0x60, 0x2e, 0xb6, 0x0, 0x3e, 0x57, 0xa7, 0x5, 0x7, 0x2b, 0x2a, 0x1d, 0x4, 0x60, 0x2e, 0xb6, 0x0, 0x3f, 0x57, 0x2c, 0x2a, 0x1d, 0x4, 0x60, 0x2e, 0xb6, 0x0, 0x42, 0x57, 0xa7, 0x4, 0xf0, 0x2b]
theorem kxa600 : kxA cL_law kxd600 600 := kxA.of (List.isPrefixOf_iff_prefix.1 (by decide +kernel))
theorem kxq600 : kqx kxd600 [(0, .iload_n 3, 1), (1, .iconst 2, 1), (2, .iadd, 1), (3, .iaload, 1), (4, .aload_n 0, 1), (5, .iload_n 3, 1), (6, .iconst 3, 1), (7, .iadd, 1), (8, .iaload, 1), (9, .aload_n 0, 1), (10, .iload_n 3, 1), (11, .iconst 4, 1), (12, .iadd, 1), (13, .iaload, 1), (14, .aload_n 0, 1), (15, .iload_n 3, 1), (16, .iconst 5, 1), (17, .iadd, 1), (18, .iaload, 1), (19, .invokevirtual 53, 3), (22, .pop, 1), (23, .goto 1333, 3), (26, .aload_n 1, 1), (27, .aload_n 0, 1), (28, .iload_n 3, 1), (29, .iconst 1, 1), (30, .iadd, 1), (31, .iaload, 1), (32, .invokevirtual 54, 3), (35, .pop, 1), (36, .aload_n 2, 1), (37, .aload_n 0, 1), (38, .iload_n 3, 1), (39, .iconst 1, 1), (40, .iadd, 1), (41, .iaload, 1), (42, .invokevirtual 58, 3), (45, .pop, 1), (46, .goto 1310, 3), (49, .aload_n 1, 1), (50, .aload_n 0, 1), (51, .iload_n 3, 1), (52, .iconst 1, 1), (53, .iadd, 1), (54, .iaload, 1), (55, .invokevirtual 59, 3), (58, .pop, 1), (59, .aload_n 2, 1), (60, .aload_n 0, 1), (61, .iload_n 3, 1), (62, .iconst 1, 1), (63, .iadd, 1), (64, .iaload, 1), (65, .invokevirtual 62, 3), (68, .pop, 1), (69, .goto 1287, 3), (72, .aload_n 1, 1), (73, .aload_n 0, 1), (74, .iload_n 3, 1), (75, .iconst 1, 1), (76, .iadd, 1), (77, .iaload, 1), (78, .invokevirtual 63, 3), (81, .pop, 1), (82, .aload_n 2, 1), (83, .aload_n 0, 1), (84, .iload_n 3, 1), (85, .iconst 1, 1), (86, .iadd, 1), (87, .iaload, 1), (88, .invokevirtual 66, 3), (91, .pop, 1), (92, .goto 1264, 3), (95, .aload_n 1, 1)] = true := by decide +kernel
theorem dL_law_600 : decode cL_law 600 = .ok (.iload_n 3, 1) := kqx.at kxa600 kxq600 0 rfl rfl
theorem dL_law_601 : decode cL_law 601 = .ok (.iconst 2, 1) := kqx.at kxa600 kxq600 1 rfl rfl
theorem dL_law_602 : decode cL_law 602 = .ok (.iadd, 1) := kqx.at kxa600 kxq600 2 rfl rfl
theorem dL_law_603 : decode cL_law 603 = .ok (.iaload, 1) := kqx.at kxa600 kxq600 3 rfl rfl
theorem dL_law_604 : decode cL_law 604 = .ok (.aload_n 0, 1) := kqx.at kxa600 kxq600 4 rfl rfl
theorem dL_law_605 : decode cL_law 605 = .ok (.iload_n 3, 1) := kqx.at kxa600 kxq600 5 rfl rfl
theorem dL_law_606 : decode cL_law 606 = .ok (.iconst 3, 1) := kqx.at kxa600 kxq600 6 rfl rfl
theorem dL_law_607 : decode cL_law 607 = .ok (.iadd, 1) := kqx.at kxa600 kxq600 7 rfl rfl
theorem dL_law_608 : decode cL_law 608 = .ok (.iaload, 1) := kqx.at kxa600 kxq600 8 rfl rfl
theorem dL_law_609 : decode cL_law 609 = .ok (.aload_n 0, 1) := kqx.at kxa600 kxq600 9 rfl rfl
theorem dL_law_610 : decode cL_law 610 = .ok (.iload_n 3, 1) := kqx.at kxa600 kxq600 10 rfl rfl
theorem dL_law_611 : decode cL_law 611 = .ok (.iconst 4, 1) := kqx.at kxa600 kxq600 11 rfl rfl
theorem dL_law_612 : decode cL_law 612 = .ok (.iadd, 1) := kqx.at kxa600 kxq600 12 rfl rfl
theorem dL_law_613 : decode cL_law 613 = .ok (.iaload, 1) := kqx.at kxa600 kxq600 13 rfl rfl
theorem dL_law_614 : decode cL_law 614 = .ok (.aload_n 0, 1) := kqx.at kxa600 kxq600 14 rfl rfl
theorem dL_law_615 : decode cL_law 615 = .ok (.iload_n 3, 1) := kqx.at kxa600 kxq600 15 rfl rfl
theorem dL_law_616 : decode cL_law 616 = .ok (.iconst 5, 1) := kqx.at kxa600 kxq600 16 rfl rfl
theorem dL_law_617 : decode cL_law 617 = .ok (.iadd, 1) := kqx.at kxa600 kxq600 17 rfl rfl
theorem dL_law_618 : decode cL_law 618 = .ok (.iaload, 1) := kqx.at kxa600 kxq600 18 rfl rfl
theorem dL_law_619 : decode cL_law 619 = .ok (.invokevirtual 53, 3) := kqx.at kxa600 kxq600 19 rfl rfl
theorem dL_law_622 : decode cL_law 622 = .ok (.pop, 1) := kqx.at kxa600 kxq600 20 rfl rfl
theorem dL_law_623 : decode cL_law 623 = .ok (.goto 1333, 3) := kqx.at kxa600 kxq600 21 rfl rfl
theorem dL_law_626 : decode cL_law 626 = .ok (.aload_n 1, 1) := kqx.at kxa600 kxq600 22 rfl rfl
theorem dL_law_627 : decode cL_law 627 = .ok (.aload_n 0, 1) := kqx.at kxa600 kxq600 23 rfl rfl
theorem dL_law_628 : decode cL_law 628 = .ok (.iload_n 3, 1) := kqx.at kxa600 kxq600 24 rfl rfl
theorem dL_law_629 : decode cL_law 629 = .ok (.iconst 1, 1) := kqx.at kxa600 kxq600 25 rfl rfl
theorem dL_law_630 : decode cL_law 630 = .ok (.iadd, 1) := kqx.at kxa600 kxq600 26 rfl rfl
theorem dL_law_631 : decode cL_law 631 = .ok (.iaload, 1) := kqx.at kxa600 kxq600 27 rfl rfl
theorem dL_law_632 : decode cL_law 632 = .ok (.invokevirtual 54, 3) := kqx.at kxa600 kxq600 28 rfl rfl
theorem dL_law_635 : decode cL_law 635 = .ok (.pop, 1) := kqx.at kxa600 kxq600 29 rfl rfl
theorem dL_law_636 : decode cL_law 636 = .ok (.aload_n 2, 1) := kqx.at kxa600 kxq600 30 rfl rfl
theorem dL_law_637 : decode cL_law 637 = .ok (.aload_n 0, 1) := kqx.at kxa600 kxq600 31 rfl rfl
theorem dL_law_638 : decode cL_law 638 = .ok (.iload_n 3, 1) := kqx.at kxa600 kxq600 32 rfl rfl
theorem dL_law_639 : decode cL_law 639 = .ok (.iconst 1, 1) := kqx.at kxa600 kxq600 33 rfl rfl
theorem dL_law_640 : decode cL_law 640 = .ok (.iadd, 1) := kqx.at kxa600 kxq600 34 rfl rfl
theorem dL_law_641 : decode cL_law 641 = .ok (.iaload, 1) := kqx.at kxa600 kxq600 35 rfl rfl
theorem dL_law_642 : decode cL_law 642 = .ok (.invokevirtual 58, 3) := kqx.at kxa600 kxq600 36 rfl rfl
theorem dL_law_645 : decode cL_law 645 = .ok (.pop, 1) := kqx.at kxa600 kxq600 37 rfl rfl
theorem dL_law_646 : decode cL_law 646 = .ok (.goto 1310, 3) := kqx.at kxa600 kxq600 38 rfl rfl
theorem dL_law_649 : decode cL_law 649 = .ok (.aload_n 1, 1) := kqx.at kxa600 kxq600 39 rfl rfl
theorem dL_law_650 : decode cL_law 650 = .ok (.aload_n 0, 1) := kqx.at kxa600 kxq600 40 rfl rfl
theorem dL_law_651 : decode cL_law 651 = .ok (.iload_n 3, 1) := kqx.at kxa600 kxq600 41 rfl rfl
theorem dL_law_652 : decode cL_law 652 = .ok (.iconst 1, 1) := kqx.at kxa600 kxq600 42 rfl rfl
theorem dL_law_653 : decode cL_law 653 = .ok (.iadd, 1) := kqx.at kxa600 kxq600 43 rfl rfl
theorem dL_law_654 : decode cL_law 654 = .ok (.iaload, 1) := kqx.at kxa600 kxq600 44 rfl rfl
theorem dL_law_655 : decode cL_law 655 = .ok (.invokevirtual 59, 3) := kqx.at kxa600 kxq600 45 rfl rfl
theorem dL_law_658 : decode cL_law 658 = .ok (.pop, 1) := kqx.at kxa600 kxq600 46 rfl rfl
theorem dL_law_659 : decode cL_law 659 = .ok (.aload_n 2, 1) := kqx.at kxa600 kxq600 47 rfl rfl
theorem dL_law_660 : decode cL_law 660 = .ok (.aload_n 0, 1) := kqx.at kxa600 kxq600 48 rfl rfl
theorem dL_law_661 : decode cL_law 661 = .ok (.iload_n 3, 1) := kqx.at kxa600 kxq600 49 rfl rfl
theorem dL_law_662 : decode cL_law 662 = .ok (.iconst 1, 1) := kqx.at kxa600 kxq600 50 rfl rfl
theorem dL_law_663 : decode cL_law 663 = .ok (.iadd, 1) := kqx.at kxa600 kxq600 51 rfl rfl
theorem dL_law_664 : decode cL_law 664 = .ok (.iaload, 1) := kqx.at kxa600 kxq600 52 rfl rfl
theorem dL_law_665 : decode cL_law 665 = .ok (.invokevirtual 62, 3) := kqx.at kxa600 kxq600 53 rfl rfl
theorem dL_law_668 : decode cL_law 668 = .ok (.pop, 1) := kqx.at kxa600 kxq600 54 rfl rfl
theorem dL_law_669 : decode cL_law 669 = .ok (.goto 1287, 3) := kqx.at kxa600 kxq600 55 rfl rfl
theorem dL_law_672 : decode cL_law 672 = .ok (.aload_n 1, 1) := kqx.at kxa600 kxq600 56 rfl rfl
theorem dL_law_673 : decode cL_law 673 = .ok (.aload_n 0, 1) := kqx.at kxa600 kxq600 57 rfl rfl
theorem dL_law_674 : decode cL_law 674 = .ok (.iload_n 3, 1) := kqx.at kxa600 kxq600 58 rfl rfl
theorem dL_law_675 : decode cL_law 675 = .ok (.iconst 1, 1) := kqx.at kxa600 kxq600 59 rfl rfl
theorem dL_law_676 : decode cL_law 676 = .ok (.iadd, 1) := kqx.at kxa600 kxq600 60 rfl rfl
theorem dL_law_677 : decode cL_law 677 = .ok (.iaload, 1) := kqx.at kxa600 kxq600 61 rfl rfl
theorem dL_law_678 : decode cL_law 678 = .ok (.invokevirtual 63, 3) := kqx.at kxa600 kxq600 62 rfl rfl
theorem dL_law_681 : decode cL_law 681 = .ok (.pop, 1) := kqx.at kxa600 kxq600 63 rfl rfl
theorem dL_law_682 : decode cL_law 682 = .ok (.aload_n 2, 1) := kqx.at kxa600 kxq600 64 rfl rfl
theorem dL_law_683 : decode cL_law 683 = .ok (.aload_n 0, 1) := kqx.at kxa600 kxq600 65 rfl rfl
theorem dL_law_684 : decode cL_law 684 = .ok (.iload_n 3, 1) := kqx.at kxa600 kxq600 66 rfl rfl
theorem dL_law_685 : decode cL_law 685 = .ok (.iconst 1, 1) := kqx.at kxa600 kxq600 67 rfl rfl
theorem dL_law_686 : decode cL_law 686 = .ok (.iadd, 1) := kqx.at kxa600 kxq600 68 rfl rfl
theorem dL_law_687 : decode cL_law 687 = .ok (.iaload, 1) := kqx.at kxa600 kxq600 69 rfl rfl
theorem dL_law_688 : decode cL_law 688 = .ok (.invokevirtual 66, 3) := kqx.at kxa600 kxq600 70 rfl rfl
theorem dL_law_691 : decode cL_law 691 = .ok (.pop, 1) := kqx.at kxa600 kxq600 71 rfl rfl
theorem dL_law_692 : decode cL_law 692 = .ok (.goto 1264, 3) := kqx.at kxa600 kxq600 72 rfl rfl
theorem dL_law_695 : decode cL_law 695 = .ok (.aload_n 1, 1) := kqx.at kxa600 kxq600 73 rfl rfl
def kxd696 : ByteArray := .mk #[0x2a, 0x1d, 0x4, 0x60, 0x2e, 0xb6, 0x0, 0x43, 0x57, 0x2c, 0x2a, 0x1d, 0x4, 0x60, 0x2e, 0xb6, 0x0, 0x46, 0x57, 0xa7, 0x4, 0xd9, 0x2b, 0x2a, 0x1d, 0x4, 0x60, 0x2e, 0x2a, 0x1d, 0x5, 0x60, 0x2e, 0xb6, 0x0, 0x47, 0x57, 0x2c, 0x2a, 0x1d, 0x4, 0x60, 0x2e, 0x2a, 0x1d, 0x5, 0x60, 0x2e, 0xb6, 0x0, 0x4b, 0x57, 0xa7, 0x4, 0xb8, 0x2b, 0x2a, 0x1d, 0x4, 0x60, 0x2e, 0x2a, 0x1d, 0x5, 0x60, 0x2e, 0xb6, 0x0, 0x4c, 0x57, 0x2c, 0x2a, 0x1d, 0x4, 0x60, 0x2e, 0x2a, 0x1d, 0x5, 0x60, 0x2e, 0xb6, 0x0, 0x4f, 0x57, 0xa7, 0x4, 0x97, 0x2b, 0x2a, 0x1d, 0x4, 0x60, 0x2e, 0x2a, 0x1d]
theorem kxa696 : kxA cL_law kxd696 696 := kxA.of (List.isPrefixOf_iff_prefix.1 (by decide +kernel))
theorem kxq696 : kqx kxd696 [(0, .aload_n 0, 1), (1, .iload_n 3, 1), (2, .iconst 1, 1), (3, .iadd, 1), (4, .iaload, 1), (5, .invokevirtual 67, 3), (8, .pop, 1), (9, .aload_n 2, 1), (10, .aload_n 0, 1), (11, .iload_n 3, 1), (12, .iconst 1, 1), (13, .iadd, 1), (14, .iaload, 1), (15, .invokevirtual 70, 3), (18, .pop, 1), (19, .goto 1241, 3), (22, .aload_n 1, 1), (23, .aload_n 0, 1), (24, .iload_n 3, 1), (25, .iconst 1, 1), (26, .iadd, 1), (27, .iaload, 1), (28, .aload_n 0, 1), (29, .iload_n 3, 1), (30, .iconst 2, 1), (31, .iadd, 1), (32, .iaload, 1), (33, .invokevirtual 71, 3), (36, .pop, 1), (37, .aload_n 2, 1), (38, .aload_n 0, 1), (39, .iload_n 3, 1), (40, .iconst 1, 1), (41, .iadd, 1), (42, .iaload, 1), (43, .aload_n 0, 1), (44, .iload_n 3, 1), (45, .iconst 2, 1), (46, .iadd, 1), (47, .iaload, 1), (48, .invokevirtual 75, 3), (51, .pop, 1), (52, .goto 1208, 3), (55, .aload_n 1, 1), (56, .aload_n 0, 1), (57, .iload_n 3, 1), (58, .iconst 1, 1), (59, .iadd, 1), (60, .iaload, 1), (61, .aload_n 0, 1), (62, .iload_n 3, 1), (63, .iconst 2, 1), (64, .iadd, 1), (65, .iaload, 1), (66, .invokevirtual 76, 3), (69, .pop, 1), (70, .aload_n 2, 1), (71, .aload_n 0, 1), (72, .iload_n 3, 1), (73, .iconst 1, 1), (74, .iadd, 1), (75, .iaload, 1), (76, .aload_n 0, 1), (77, .iload_n 3, 1), (78, .iconst 2, 1), (79, .iadd, 1), (80, .iaload, 1), (81, .invokevirtual 79, 3), (84, .pop, 1), (85, .goto 1175, 3), (88, .aload_n 1, 1), (89, .aload_n 0, 1), (90, .iload_n 3, 1), (91, .iconst 1, 1), (92, .iadd, 1), (93, .iaload, 1), (94, .aload_n 0, 1), (95, .iload_n 3, 1)] = true := by decide +kernel
theorem dL_law_696 : decode cL_law 696 = .ok (.aload_n 0, 1) := kqx.at kxa696 kxq696 0 rfl rfl
theorem dL_law_697 : decode cL_law 697 = .ok (.iload_n 3, 1) := kqx.at kxa696 kxq696 1 rfl rfl
theorem dL_law_698 : decode cL_law 698 = .ok (.iconst 1, 1) := kqx.at kxa696 kxq696 2 rfl rfl
theorem dL_law_699 : decode cL_law 699 = .ok (.iadd, 1) := kqx.at kxa696 kxq696 3 rfl rfl
theorem dL_law_700 : decode cL_law 700 = .ok (.iaload, 1) := kqx.at kxa696 kxq696 4 rfl rfl
theorem dL_law_701 : decode cL_law 701 = .ok (.invokevirtual 67, 3) := kqx.at kxa696 kxq696 5 rfl rfl
theorem dL_law_704 : decode cL_law 704 = .ok (.pop, 1) := kqx.at kxa696 kxq696 6 rfl rfl
theorem dL_law_705 : decode cL_law 705 = .ok (.aload_n 2, 1) := kqx.at kxa696 kxq696 7 rfl rfl
theorem dL_law_706 : decode cL_law 706 = .ok (.aload_n 0, 1) := kqx.at kxa696 kxq696 8 rfl rfl
theorem dL_law_707 : decode cL_law 707 = .ok (.iload_n 3, 1) := kqx.at kxa696 kxq696 9 rfl rfl
theorem dL_law_708 : decode cL_law 708 = .ok (.iconst 1, 1) := kqx.at kxa696 kxq696 10 rfl rfl
theorem dL_law_709 : decode cL_law 709 = .ok (.iadd, 1) := kqx.at kxa696 kxq696 11 rfl rfl
theorem dL_law_710 : decode cL_law 710 = .ok (.iaload, 1) := kqx.at kxa696 kxq696 12 rfl rfl
theorem dL_law_711 : decode cL_law 711 = .ok (.invokevirtual 70, 3) := kqx.at kxa696 kxq696 13 rfl rfl
theorem dL_law_714 : decode cL_law 714 = .ok (.pop, 1) := kqx.at kxa696 kxq696 14 rfl rfl
theorem dL_law_715 : decode cL_law 715 = .ok (.goto 1241, 3) := kqx.at kxa696 kxq696 15 rfl rfl
theorem dL_law_718 : decode cL_law 718 = .ok (.aload_n 1, 1) := kqx.at kxa696 kxq696 16 rfl rfl
theorem dL_law_719 : decode cL_law 719 = .ok (.aload_n 0, 1) := kqx.at kxa696 kxq696 17 rfl rfl
theorem dL_law_720 : decode cL_law 720 = .ok (.iload_n 3, 1) := kqx.at kxa696 kxq696 18 rfl rfl
theorem dL_law_721 : decode cL_law 721 = .ok (.iconst 1, 1) := kqx.at kxa696 kxq696 19 rfl rfl
theorem dL_law_722 : decode cL_law 722 = .ok (.iadd, 1) := kqx.at kxa696 kxq696 20 rfl rfl
theorem dL_law_723 : decode cL_law 723 = .ok (.iaload, 1) := kqx.at kxa696 kxq696 21 rfl rfl
theorem dL_law_724 : decode cL_law 724 = .ok (.aload_n 0, 1) := kqx.at kxa696 kxq696 22 rfl rfl
theorem dL_law_725 : decode cL_law 725 = .ok (.iload_n 3, 1) := kqx.at kxa696 kxq696 23 rfl rfl
theorem dL_law_726 : decode cL_law 726 = .ok (.iconst 2, 1) := kqx.at kxa696 kxq696 24 rfl rfl
theorem dL_law_727 : decode cL_law 727 = .ok (.iadd, 1) := kqx.at kxa696 kxq696 25 rfl rfl
theorem dL_law_728 : decode cL_law 728 = .ok (.iaload, 1) := kqx.at kxa696 kxq696 26 rfl rfl
theorem dL_law_729 : decode cL_law 729 = .ok (.invokevirtual 71, 3) := kqx.at kxa696 kxq696 27 rfl rfl
theorem dL_law_732 : decode cL_law 732 = .ok (.pop, 1) := kqx.at kxa696 kxq696 28 rfl rfl
theorem dL_law_733 : decode cL_law 733 = .ok (.aload_n 2, 1) := kqx.at kxa696 kxq696 29 rfl rfl
theorem dL_law_734 : decode cL_law 734 = .ok (.aload_n 0, 1) := kqx.at kxa696 kxq696 30 rfl rfl
theorem dL_law_735 : decode cL_law 735 = .ok (.iload_n 3, 1) := kqx.at kxa696 kxq696 31 rfl rfl
theorem dL_law_736 : decode cL_law 736 = .ok (.iconst 1, 1) := kqx.at kxa696 kxq696 32 rfl rfl
theorem dL_law_737 : decode cL_law 737 = .ok (.iadd, 1) := kqx.at kxa696 kxq696 33 rfl rfl
theorem dL_law_738 : decode cL_law 738 = .ok (.iaload, 1) := kqx.at kxa696 kxq696 34 rfl rfl
theorem dL_law_739 : decode cL_law 739 = .ok (.aload_n 0, 1) := kqx.at kxa696 kxq696 35 rfl rfl
theorem dL_law_740 : decode cL_law 740 = .ok (.iload_n 3, 1) := kqx.at kxa696 kxq696 36 rfl rfl
theorem dL_law_741 : decode cL_law 741 = .ok (.iconst 2, 1) := kqx.at kxa696 kxq696 37 rfl rfl
theorem dL_law_742 : decode cL_law 742 = .ok (.iadd, 1) := kqx.at kxa696 kxq696 38 rfl rfl
theorem dL_law_743 : decode cL_law 743 = .ok (.iaload, 1) := kqx.at kxa696 kxq696 39 rfl rfl
theorem dL_law_744 : decode cL_law 744 = .ok (.invokevirtual 75, 3) := kqx.at kxa696 kxq696 40 rfl rfl
theorem dL_law_747 : decode cL_law 747 = .ok (.pop, 1) := kqx.at kxa696 kxq696 41 rfl rfl
theorem dL_law_748 : decode cL_law 748 = .ok (.goto 1208, 3) := kqx.at kxa696 kxq696 42 rfl rfl
theorem dL_law_751 : decode cL_law 751 = .ok (.aload_n 1, 1) := kqx.at kxa696 kxq696 43 rfl rfl
theorem dL_law_752 : decode cL_law 752 = .ok (.aload_n 0, 1) := kqx.at kxa696 kxq696 44 rfl rfl
theorem dL_law_753 : decode cL_law 753 = .ok (.iload_n 3, 1) := kqx.at kxa696 kxq696 45 rfl rfl
theorem dL_law_754 : decode cL_law 754 = .ok (.iconst 1, 1) := kqx.at kxa696 kxq696 46 rfl rfl
theorem dL_law_755 : decode cL_law 755 = .ok (.iadd, 1) := kqx.at kxa696 kxq696 47 rfl rfl
theorem dL_law_756 : decode cL_law 756 = .ok (.iaload, 1) := kqx.at kxa696 kxq696 48 rfl rfl
theorem dL_law_757 : decode cL_law 757 = .ok (.aload_n 0, 1) := kqx.at kxa696 kxq696 49 rfl rfl
theorem dL_law_758 : decode cL_law 758 = .ok (.iload_n 3, 1) := kqx.at kxa696 kxq696 50 rfl rfl
theorem dL_law_759 : decode cL_law 759 = .ok (.iconst 2, 1) := kqx.at kxa696 kxq696 51 rfl rfl
theorem dL_law_760 : decode cL_law 760 = .ok (.iadd, 1) := kqx.at kxa696 kxq696 52 rfl rfl
theorem dL_law_761 : decode cL_law 761 = .ok (.iaload, 1) := kqx.at kxa696 kxq696 53 rfl rfl
theorem dL_law_762 : decode cL_law 762 = .ok (.invokevirtual 76, 3) := kqx.at kxa696 kxq696 54 rfl rfl
theorem dL_law_765 : decode cL_law 765 = .ok (.pop, 1) := kqx.at kxa696 kxq696 55 rfl rfl
theorem dL_law_766 : decode cL_law 766 = .ok (.aload_n 2, 1) := kqx.at kxa696 kxq696 56 rfl rfl
theorem dL_law_767 : decode cL_law 767 = .ok (.aload_n 0, 1) := kqx.at kxa696 kxq696 57 rfl rfl
theorem dL_law_768 : decode cL_law 768 = .ok (.iload_n 3, 1) := kqx.at kxa696 kxq696 58 rfl rfl
theorem dL_law_769 : decode cL_law 769 = .ok (.iconst 1, 1) := kqx.at kxa696 kxq696 59 rfl rfl
theorem dL_law_770 : decode cL_law 770 = .ok (.iadd, 1) := kqx.at kxa696 kxq696 60 rfl rfl
theorem dL_law_771 : decode cL_law 771 = .ok (.iaload, 1) := kqx.at kxa696 kxq696 61 rfl rfl
theorem dL_law_772 : decode cL_law 772 = .ok (.aload_n 0, 1) := kqx.at kxa696 kxq696 62 rfl rfl
theorem dL_law_773 : decode cL_law 773 = .ok (.iload_n 3, 1) := kqx.at kxa696 kxq696 63 rfl rfl
theorem dL_law_774 : decode cL_law 774 = .ok (.iconst 2, 1) := kqx.at kxa696 kxq696 64 rfl rfl
theorem dL_law_775 : decode cL_law 775 = .ok (.iadd, 1) := kqx.at kxa696 kxq696 65 rfl rfl
theorem dL_law_776 : decode cL_law 776 = .ok (.iaload, 1) := kqx.at kxa696 kxq696 66 rfl rfl
theorem dL_law_777 : decode cL_law 777 = .ok (.invokevirtual 79, 3) := kqx.at kxa696 kxq696 67 rfl rfl
theorem dL_law_780 : decode cL_law 780 = .ok (.pop, 1) := kqx.at kxa696 kxq696 68 rfl rfl
theorem dL_law_781 : decode cL_law 781 = .ok (.goto 1175, 3) := kqx.at kxa696 kxq696 69 rfl rfl
theorem dL_law_784 : decode cL_law 784 = .ok (.aload_n 1, 1) := kqx.at kxa696 kxq696 70 rfl rfl
theorem dL_law_785 : decode cL_law 785 = .ok (.aload_n 0, 1) := kqx.at kxa696 kxq696 71 rfl rfl
theorem dL_law_786 : decode cL_law 786 = .ok (.iload_n 3, 1) := kqx.at kxa696 kxq696 72 rfl rfl
theorem dL_law_787 : decode cL_law 787 = .ok (.iconst 1, 1) := kqx.at kxa696 kxq696 73 rfl rfl
theorem dL_law_788 : decode cL_law 788 = .ok (.iadd, 1) := kqx.at kxa696 kxq696 74 rfl rfl
theorem dL_law_789 : decode cL_law 789 = .ok (.iaload, 1) := kqx.at kxa696 kxq696 75 rfl rfl
theorem dL_law_790 : decode cL_law 790 = .ok (.aload_n 0, 1) := kqx.at kxa696 kxq696 76 rfl rfl
theorem dL_law_791 : decode cL_law 791 = .ok (.iload_n 3, 1) := kqx.at kxa696 kxq696 77 rfl rfl
def kxd792 : ByteArray := .mk #[0x5, 0x60, 0x2e, 0xb6, 0x0, 0x50, 0x57, 0x2c, 0x2a, 0x1d, 0x4, 0x60, 0x2e, 0x2a, 0x1d, 0x5, 0x60, 0x2e, 0xb6, 0x0, 0x53, 0x57, 0xa7, 0x4, 0x76, 0x2b, 0x2a, 0x1d, 0x4, 0x60, 0x2e, 0x2a, 0x1d, 0x5, 0x60, 0x2e, 0x99, 0x0, 0x7, 0x4, 0xa7, 0x0, 0x4, 0x3, 0xb6, 0x0, 0x54, 0x57, 0x2c, 0x2a, 0x1d, 0x4, 0x60, 0x2e, 0x2a, 0x1d, 0x5, 0x60, 0x2e, 0x99, 0x0, 0x7, 0x4, 0xa7, 0x0, 0x4, 0x3, 0xb6, 0x0, 0x58, 0x57, 0xa7, 0x4, 0x45, 0x2b, 0xb6, 0x0, 0x59, 0x57, 0x2c, 0xb6, 0x0, 0x5c, 0x57, 0xa7, 0x4, 0x38, 0x2b, 0x2a, 0x1d, 0x4, 0x60, 0x2e, 0xb6, 0x0, 0x5d]
theorem kxa792 : kxA cL_law kxd792 792 := kxA.of (List.isPrefixOf_iff_prefix.1 (by decide +kernel))
theorem kxq792 : kqx kxd792 [(0, .iconst 2, 1), (1, .iadd, 1), (2, .iaload, 1), (3, .invokevirtual 80, 3), (6, .pop, 1), (7, .aload_n 2, 1), (8, .aload_n 0, 1), (9, .iload_n 3, 1), (10, .iconst 1, 1), (11, .iadd, 1), (12, .iaload, 1), (13, .aload_n 0, 1), (14, .iload_n 3, 1), (15, .iconst 2, 1), (16, .iadd, 1), (17, .iaload, 1), (18, .invokevirtual 83, 3), (21, .pop, 1), (22, .goto 1142, 3), (25, .aload_n 1, 1), (26, .aload_n 0, 1), (27, .iload_n 3, 1), (28, .iconst 1, 1), (29, .iadd, 1), (30, .iaload, 1), (31, .aload_n 0, 1), (32, .iload_n 3, 1), (33, .iconst 2, 1), (34, .iadd, 1), (35, .iaload, 1), (39, .iconst 1, 1), (40, .goto 4, 3), (43, .iconst 0, 1), (44, .invokevirtual 84, 3), (47, .pop, 1), (48, .aload_n 2, 1), (49, .aload_n 0, 1), (50, .iload_n 3, 1), (51, .iconst 1, 1), (52, .iadd, 1), (53, .iaload, 1), (54, .aload_n 0, 1), (55, .iload_n 3, 1), (56, .iconst 2, 1), (57, .iadd, 1), (58, .iaload, 1), (62, .iconst 1, 1), (63, .goto 4, 3), (66, .iconst 0, 1), (67, .invokevirtual 88, 3), (70, .pop, 1), (71, .goto 1093, 3), (74, .aload_n 1, 1), (75, .invokevirtual 89, 3), (78, .pop, 1), (79, .aload_n 2, 1), (80, .invokevirtual 92, 3), (83, .pop, 1), (84, .goto 1080, 3), (87, .aload_n 1, 1), (88, .aload_n 0, 1), (89, .iload_n 3, 1), (90, .iconst 1, 1), (91, .iadd, 1), (92, .iaload, 1), (93, .invokevirtual 93, 3)] = true := by decide +kernel
theorem dL_law_792 : decode cL_law 792 = .ok (.iconst 2, 1) := kqx.at kxa792 kxq792 0 rfl rfl
theorem dL_law_793 : decode cL_law 793 = .ok (.iadd, 1) := kqx.at kxa792 kxq792 1 rfl rfl
theorem dL_law_794 : decode cL_law 794 = .ok (.iaload, 1) := kqx.at kxa792 kxq792 2 rfl rfl
theorem dL_law_795 : decode cL_law 795 = .ok (.invokevirtual 80, 3) := kqx.at kxa792 kxq792 3 rfl rfl
theorem dL_law_798 : decode cL_law 798 = .ok (.pop, 1) := kqx.at kxa792 kxq792 4 rfl rfl
theorem dL_law_799 : decode cL_law 799 = .ok (.aload_n 2, 1) := kqx.at kxa792 kxq792 5 rfl rfl
theorem dL_law_800 : decode cL_law 800 = .ok (.aload_n 0, 1) := kqx.at kxa792 kxq792 6 rfl rfl
theorem dL_law_801 : decode cL_law 801 = .ok (.iload_n 3, 1) := kqx.at kxa792 kxq792 7 rfl rfl
theorem dL_law_802 : decode cL_law 802 = .ok (.iconst 1, 1) := kqx.at kxa792 kxq792 8 rfl rfl
theorem dL_law_803 : decode cL_law 803 = .ok (.iadd, 1) := kqx.at kxa792 kxq792 9 rfl rfl
theorem dL_law_804 : decode cL_law 804 = .ok (.iaload, 1) := kqx.at kxa792 kxq792 10 rfl rfl
theorem dL_law_805 : decode cL_law 805 = .ok (.aload_n 0, 1) := kqx.at kxa792 kxq792 11 rfl rfl
theorem dL_law_806 : decode cL_law 806 = .ok (.iload_n 3, 1) := kqx.at kxa792 kxq792 12 rfl rfl
theorem dL_law_807 : decode cL_law 807 = .ok (.iconst 2, 1) := kqx.at kxa792 kxq792 13 rfl rfl
theorem dL_law_808 : decode cL_law 808 = .ok (.iadd, 1) := kqx.at kxa792 kxq792 14 rfl rfl
theorem dL_law_809 : decode cL_law 809 = .ok (.iaload, 1) := kqx.at kxa792 kxq792 15 rfl rfl
theorem dL_law_810 : decode cL_law 810 = .ok (.invokevirtual 83, 3) := kqx.at kxa792 kxq792 16 rfl rfl
theorem dL_law_813 : decode cL_law 813 = .ok (.pop, 1) := kqx.at kxa792 kxq792 17 rfl rfl
theorem dL_law_814 : decode cL_law 814 = .ok (.goto 1142, 3) := kqx.at kxa792 kxq792 18 rfl rfl
theorem dL_law_817 : decode cL_law 817 = .ok (.aload_n 1, 1) := kqx.at kxa792 kxq792 19 rfl rfl
theorem dL_law_818 : decode cL_law 818 = .ok (.aload_n 0, 1) := kqx.at kxa792 kxq792 20 rfl rfl
theorem dL_law_819 : decode cL_law 819 = .ok (.iload_n 3, 1) := kqx.at kxa792 kxq792 21 rfl rfl
theorem dL_law_820 : decode cL_law 820 = .ok (.iconst 1, 1) := kqx.at kxa792 kxq792 22 rfl rfl
theorem dL_law_821 : decode cL_law 821 = .ok (.iadd, 1) := kqx.at kxa792 kxq792 23 rfl rfl
theorem dL_law_822 : decode cL_law 822 = .ok (.iaload, 1) := kqx.at kxa792 kxq792 24 rfl rfl
theorem dL_law_823 : decode cL_law 823 = .ok (.aload_n 0, 1) := kqx.at kxa792 kxq792 25 rfl rfl
theorem dL_law_824 : decode cL_law 824 = .ok (.iload_n 3, 1) := kqx.at kxa792 kxq792 26 rfl rfl
theorem dL_law_825 : decode cL_law 825 = .ok (.iconst 2, 1) := kqx.at kxa792 kxq792 27 rfl rfl
theorem dL_law_826 : decode cL_law 826 = .ok (.iadd, 1) := kqx.at kxa792 kxq792 28 rfl rfl
theorem dL_law_827 : decode cL_law 827 = .ok (.iaload, 1) := kqx.at kxa792 kxq792 29 rfl rfl
theorem dL_law_831 : decode cL_law 831 = .ok (.iconst 1, 1) := kqx.at kxa792 kxq792 30 rfl rfl
theorem dL_law_832 : decode cL_law 832 = .ok (.goto 4, 3) := kqx.at kxa792 kxq792 31 rfl rfl
theorem dL_law_835 : decode cL_law 835 = .ok (.iconst 0, 1) := kqx.at kxa792 kxq792 32 rfl rfl
theorem dL_law_836 : decode cL_law 836 = .ok (.invokevirtual 84, 3) := kqx.at kxa792 kxq792 33 rfl rfl
theorem dL_law_839 : decode cL_law 839 = .ok (.pop, 1) := kqx.at kxa792 kxq792 34 rfl rfl
theorem dL_law_840 : decode cL_law 840 = .ok (.aload_n 2, 1) := kqx.at kxa792 kxq792 35 rfl rfl
theorem dL_law_841 : decode cL_law 841 = .ok (.aload_n 0, 1) := kqx.at kxa792 kxq792 36 rfl rfl
theorem dL_law_842 : decode cL_law 842 = .ok (.iload_n 3, 1) := kqx.at kxa792 kxq792 37 rfl rfl
theorem dL_law_843 : decode cL_law 843 = .ok (.iconst 1, 1) := kqx.at kxa792 kxq792 38 rfl rfl
theorem dL_law_844 : decode cL_law 844 = .ok (.iadd, 1) := kqx.at kxa792 kxq792 39 rfl rfl
theorem dL_law_845 : decode cL_law 845 = .ok (.iaload, 1) := kqx.at kxa792 kxq792 40 rfl rfl
theorem dL_law_846 : decode cL_law 846 = .ok (.aload_n 0, 1) := kqx.at kxa792 kxq792 41 rfl rfl
theorem dL_law_847 : decode cL_law 847 = .ok (.iload_n 3, 1) := kqx.at kxa792 kxq792 42 rfl rfl
theorem dL_law_848 : decode cL_law 848 = .ok (.iconst 2, 1) := kqx.at kxa792 kxq792 43 rfl rfl
theorem dL_law_849 : decode cL_law 849 = .ok (.iadd, 1) := kqx.at kxa792 kxq792 44 rfl rfl
theorem dL_law_850 : decode cL_law 850 = .ok (.iaload, 1) := kqx.at kxa792 kxq792 45 rfl rfl
theorem dL_law_854 : decode cL_law 854 = .ok (.iconst 1, 1) := kqx.at kxa792 kxq792 46 rfl rfl
theorem dL_law_855 : decode cL_law 855 = .ok (.goto 4, 3) := kqx.at kxa792 kxq792 47 rfl rfl
theorem dL_law_858 : decode cL_law 858 = .ok (.iconst 0, 1) := kqx.at kxa792 kxq792 48 rfl rfl
theorem dL_law_859 : decode cL_law 859 = .ok (.invokevirtual 88, 3) := kqx.at kxa792 kxq792 49 rfl rfl
theorem dL_law_862 : decode cL_law 862 = .ok (.pop, 1) := kqx.at kxa792 kxq792 50 rfl rfl
theorem dL_law_863 : decode cL_law 863 = .ok (.goto 1093, 3) := kqx.at kxa792 kxq792 51 rfl rfl
theorem dL_law_866 : decode cL_law 866 = .ok (.aload_n 1, 1) := kqx.at kxa792 kxq792 52 rfl rfl
theorem dL_law_867 : decode cL_law 867 = .ok (.invokevirtual 89, 3) := kqx.at kxa792 kxq792 53 rfl rfl
theorem dL_law_870 : decode cL_law 870 = .ok (.pop, 1) := kqx.at kxa792 kxq792 54 rfl rfl
theorem dL_law_871 : decode cL_law 871 = .ok (.aload_n 2, 1) := kqx.at kxa792 kxq792 55 rfl rfl
theorem dL_law_872 : decode cL_law 872 = .ok (.invokevirtual 92, 3) := kqx.at kxa792 kxq792 56 rfl rfl
theorem dL_law_875 : decode cL_law 875 = .ok (.pop, 1) := kqx.at kxa792 kxq792 57 rfl rfl
theorem dL_law_876 : decode cL_law 876 = .ok (.goto 1080, 3) := kqx.at kxa792 kxq792 58 rfl rfl
theorem dL_law_879 : decode cL_law 879 = .ok (.aload_n 1, 1) := kqx.at kxa792 kxq792 59 rfl rfl
theorem dL_law_880 : decode cL_law 880 = .ok (.aload_n 0, 1) := kqx.at kxa792 kxq792 60 rfl rfl
theorem dL_law_881 : decode cL_law 881 = .ok (.iload_n 3, 1) := kqx.at kxa792 kxq792 61 rfl rfl
theorem dL_law_882 : decode cL_law 882 = .ok (.iconst 1, 1) := kqx.at kxa792 kxq792 62 rfl rfl
theorem dL_law_883 : decode cL_law 883 = .ok (.iadd, 1) := kqx.at kxa792 kxq792 63 rfl rfl
theorem dL_law_884 : decode cL_law 884 = .ok (.iaload, 1) := kqx.at kxa792 kxq792 64 rfl rfl
theorem dL_law_885 : decode cL_law 885 = .ok (.invokevirtual 93, 3) := kqx.at kxa792 kxq792 65 rfl rfl
def kxd888 : ByteArray := .mk #[0x57, 0x2c, 0x2a, 0x1d, 0x4, 0x60, 0x2e, 0xb6, 0x0, 0x60, 0x57, 0xa7, 0x4, 0x21, 0x2b, 0x2a, 0x1d, 0x4, 0x60, 0x2e, 0xb6, 0x0, 0x61, 0x57, 0x2c, 0x2a, 0x1d, 0x4, 0x60, 0x2e, 0xb6, 0x0, 0x64, 0x57, 0xa7, 0x4, 0xa, 0x2b, 0x2a, 0x1d, 0x4, 0x60, 0x2e, 0xb6, 0x0, 0x65, 0x57, 0x2c, 0x2a, 0x1d, 0x4, 0x60, 0x2e, 0xb6, 0x0, 0x68, 0x57, 0xa7, 0x3, 0xf3, 0x2b, 0x2a, 0x1d, 0x4, 0x60, 0x2e, 0x2a, 0x1d, 0x5, 0x60, 0x2e, 0xb6, 0x0, 0x69, 0x57, 0x2c, 0x2a, 0x1d, 0x4, 0x60, 0x2e, 0x2a, 0x1d, 0x5, 0x60, 0x2e, 0xb6, 0x0, 0x6c, 0x57, 0xa7, 0x3, 0xd2, 0x2b, 0x2a, 0x1d]
theorem kxa888 : kxA cL_law kxd888 888 := kxA.of (List.isPrefixOf_iff_prefix.1 (by decide +kernel))
theorem kxq888 : kqx kxd888 [(0, .pop, 1), (1, .aload_n 2, 1), (2, .aload_n 0, 1), (3, .iload_n 3, 1), (4, .iconst 1, 1), (5, .iadd, 1), (6, .iaload, 1), (7, .invokevirtual 96, 3), (10, .pop, 1), (11, .goto 1057, 3), (14, .aload_n 1, 1), (15, .aload_n 0, 1), (16, .iload_n 3, 1), (17, .iconst 1, 1), (18, .iadd, 1), (19, .iaload, 1), (20, .invokevirtual 97, 3), (23, .pop, 1), (24, .aload_n 2, 1), (25, .aload_n 0, 1), (26, .iload_n 3, 1), (27, .iconst 1, 1), (28, .iadd, 1), (29, .iaload, 1), (30, .invokevirtual 100, 3), (33, .pop, 1), (34, .goto 1034, 3), (37, .aload_n 1, 1), (38, .aload_n 0, 1), (39, .iload_n 3, 1), (40, .iconst 1, 1), (41, .iadd, 1), (42, .iaload, 1), (43, .invokevirtual 101, 3), (46, .pop, 1), (47, .aload_n 2, 1), (48, .aload_n 0, 1), (49, .iload_n 3, 1), (50, .iconst 1, 1), (51, .iadd, 1), (52, .iaload, 1), (53, .invokevirtual 104, 3), (56, .pop, 1), (57, .goto 1011, 3), (60, .aload_n 1, 1), (61, .aload_n 0, 1), (62, .iload_n 3, 1), (63, .iconst 1, 1), (64, .iadd, 1), (65, .iaload, 1), (66, .aload_n 0, 1), (67, .iload_n 3, 1), (68, .iconst 2, 1), (69, .iadd, 1), (70, .iaload, 1), (71, .invokevirtual 105, 3), (74, .pop, 1), (75, .aload_n 2, 1), (76, .aload_n 0, 1), (77, .iload_n 3, 1), (78, .iconst 1, 1), (79, .iadd, 1), (80, .iaload, 1), (81, .aload_n 0, 1), (82, .iload_n 3, 1), (83, .iconst 2, 1), (84, .iadd, 1), (85, .iaload, 1), (86, .invokevirtual 108, 3), (89, .pop, 1), (90, .goto 978, 3), (93, .aload_n 1, 1), (94, .aload_n 0, 1), (95, .iload_n 3, 1)] = true := by decide +kernel
theorem dL_law_888 : decode cL_law 888 = .ok (.pop, 1) := kqx.at kxa888 kxq888 0 rfl rfl
theorem dL_law_889 : decode cL_law 889 = .ok (.aload_n 2, 1) := kqx.at kxa888 kxq888 1 rfl rfl
theorem dL_law_890 : decode cL_law 890 = .ok (.aload_n 0, 1) := kqx.at kxa888 kxq888 2 rfl rfl
theorem dL_law_891 : decode cL_law 891 = .ok (.iload_n 3, 1) := kqx.at kxa888 kxq888 3 rfl rfl
theorem dL_law_892 : decode cL_law 892 = .ok (.iconst 1, 1) := kqx.at kxa888 kxq888 4 rfl rfl
theorem dL_law_893 : decode cL_law 893 = .ok (.iadd, 1) := kqx.at kxa888 kxq888 5 rfl rfl
theorem dL_law_894 : decode cL_law 894 = .ok (.iaload, 1) := kqx.at kxa888 kxq888 6 rfl rfl
theorem dL_law_895 : decode cL_law 895 = .ok (.invokevirtual 96, 3) := kqx.at kxa888 kxq888 7 rfl rfl
theorem dL_law_898 : decode cL_law 898 = .ok (.pop, 1) := kqx.at kxa888 kxq888 8 rfl rfl
theorem dL_law_899 : decode cL_law 899 = .ok (.goto 1057, 3) := kqx.at kxa888 kxq888 9 rfl rfl
theorem dL_law_902 : decode cL_law 902 = .ok (.aload_n 1, 1) := kqx.at kxa888 kxq888 10 rfl rfl
theorem dL_law_903 : decode cL_law 903 = .ok (.aload_n 0, 1) := kqx.at kxa888 kxq888 11 rfl rfl
theorem dL_law_904 : decode cL_law 904 = .ok (.iload_n 3, 1) := kqx.at kxa888 kxq888 12 rfl rfl
theorem dL_law_905 : decode cL_law 905 = .ok (.iconst 1, 1) := kqx.at kxa888 kxq888 13 rfl rfl
theorem dL_law_906 : decode cL_law 906 = .ok (.iadd, 1) := kqx.at kxa888 kxq888 14 rfl rfl
theorem dL_law_907 : decode cL_law 907 = .ok (.iaload, 1) := kqx.at kxa888 kxq888 15 rfl rfl
theorem dL_law_908 : decode cL_law 908 = .ok (.invokevirtual 97, 3) := kqx.at kxa888 kxq888 16 rfl rfl
theorem dL_law_911 : decode cL_law 911 = .ok (.pop, 1) := kqx.at kxa888 kxq888 17 rfl rfl
theorem dL_law_912 : decode cL_law 912 = .ok (.aload_n 2, 1) := kqx.at kxa888 kxq888 18 rfl rfl
theorem dL_law_913 : decode cL_law 913 = .ok (.aload_n 0, 1) := kqx.at kxa888 kxq888 19 rfl rfl
theorem dL_law_914 : decode cL_law 914 = .ok (.iload_n 3, 1) := kqx.at kxa888 kxq888 20 rfl rfl
theorem dL_law_915 : decode cL_law 915 = .ok (.iconst 1, 1) := kqx.at kxa888 kxq888 21 rfl rfl
theorem dL_law_916 : decode cL_law 916 = .ok (.iadd, 1) := kqx.at kxa888 kxq888 22 rfl rfl
theorem dL_law_917 : decode cL_law 917 = .ok (.iaload, 1) := kqx.at kxa888 kxq888 23 rfl rfl
theorem dL_law_918 : decode cL_law 918 = .ok (.invokevirtual 100, 3) := kqx.at kxa888 kxq888 24 rfl rfl
theorem dL_law_921 : decode cL_law 921 = .ok (.pop, 1) := kqx.at kxa888 kxq888 25 rfl rfl
theorem dL_law_922 : decode cL_law 922 = .ok (.goto 1034, 3) := kqx.at kxa888 kxq888 26 rfl rfl
theorem dL_law_925 : decode cL_law 925 = .ok (.aload_n 1, 1) := kqx.at kxa888 kxq888 27 rfl rfl
theorem dL_law_926 : decode cL_law 926 = .ok (.aload_n 0, 1) := kqx.at kxa888 kxq888 28 rfl rfl
theorem dL_law_927 : decode cL_law 927 = .ok (.iload_n 3, 1) := kqx.at kxa888 kxq888 29 rfl rfl
theorem dL_law_928 : decode cL_law 928 = .ok (.iconst 1, 1) := kqx.at kxa888 kxq888 30 rfl rfl
theorem dL_law_929 : decode cL_law 929 = .ok (.iadd, 1) := kqx.at kxa888 kxq888 31 rfl rfl
theorem dL_law_930 : decode cL_law 930 = .ok (.iaload, 1) := kqx.at kxa888 kxq888 32 rfl rfl
theorem dL_law_931 : decode cL_law 931 = .ok (.invokevirtual 101, 3) := kqx.at kxa888 kxq888 33 rfl rfl
theorem dL_law_934 : decode cL_law 934 = .ok (.pop, 1) := kqx.at kxa888 kxq888 34 rfl rfl
theorem dL_law_935 : decode cL_law 935 = .ok (.aload_n 2, 1) := kqx.at kxa888 kxq888 35 rfl rfl
theorem dL_law_936 : decode cL_law 936 = .ok (.aload_n 0, 1) := kqx.at kxa888 kxq888 36 rfl rfl
theorem dL_law_937 : decode cL_law 937 = .ok (.iload_n 3, 1) := kqx.at kxa888 kxq888 37 rfl rfl
theorem dL_law_938 : decode cL_law 938 = .ok (.iconst 1, 1) := kqx.at kxa888 kxq888 38 rfl rfl
theorem dL_law_939 : decode cL_law 939 = .ok (.iadd, 1) := kqx.at kxa888 kxq888 39 rfl rfl
theorem dL_law_940 : decode cL_law 940 = .ok (.iaload, 1) := kqx.at kxa888 kxq888 40 rfl rfl
theorem dL_law_941 : decode cL_law 941 = .ok (.invokevirtual 104, 3) := kqx.at kxa888 kxq888 41 rfl rfl
theorem dL_law_944 : decode cL_law 944 = .ok (.pop, 1) := kqx.at kxa888 kxq888 42 rfl rfl
theorem dL_law_945 : decode cL_law 945 = .ok (.goto 1011, 3) := kqx.at kxa888 kxq888 43 rfl rfl
theorem dL_law_948 : decode cL_law 948 = .ok (.aload_n 1, 1) := kqx.at kxa888 kxq888 44 rfl rfl
theorem dL_law_949 : decode cL_law 949 = .ok (.aload_n 0, 1) := kqx.at kxa888 kxq888 45 rfl rfl
theorem dL_law_950 : decode cL_law 950 = .ok (.iload_n 3, 1) := kqx.at kxa888 kxq888 46 rfl rfl
theorem dL_law_951 : decode cL_law 951 = .ok (.iconst 1, 1) := kqx.at kxa888 kxq888 47 rfl rfl
theorem dL_law_952 : decode cL_law 952 = .ok (.iadd, 1) := kqx.at kxa888 kxq888 48 rfl rfl
theorem dL_law_953 : decode cL_law 953 = .ok (.iaload, 1) := kqx.at kxa888 kxq888 49 rfl rfl
theorem dL_law_954 : decode cL_law 954 = .ok (.aload_n 0, 1) := kqx.at kxa888 kxq888 50 rfl rfl
theorem dL_law_955 : decode cL_law 955 = .ok (.iload_n 3, 1) := kqx.at kxa888 kxq888 51 rfl rfl
theorem dL_law_956 : decode cL_law 956 = .ok (.iconst 2, 1) := kqx.at kxa888 kxq888 52 rfl rfl
theorem dL_law_957 : decode cL_law 957 = .ok (.iadd, 1) := kqx.at kxa888 kxq888 53 rfl rfl
theorem dL_law_958 : decode cL_law 958 = .ok (.iaload, 1) := kqx.at kxa888 kxq888 54 rfl rfl
theorem dL_law_959 : decode cL_law 959 = .ok (.invokevirtual 105, 3) := kqx.at kxa888 kxq888 55 rfl rfl
theorem dL_law_962 : decode cL_law 962 = .ok (.pop, 1) := kqx.at kxa888 kxq888 56 rfl rfl
theorem dL_law_963 : decode cL_law 963 = .ok (.aload_n 2, 1) := kqx.at kxa888 kxq888 57 rfl rfl
theorem dL_law_964 : decode cL_law 964 = .ok (.aload_n 0, 1) := kqx.at kxa888 kxq888 58 rfl rfl
theorem dL_law_965 : decode cL_law 965 = .ok (.iload_n 3, 1) := kqx.at kxa888 kxq888 59 rfl rfl
theorem dL_law_966 : decode cL_law 966 = .ok (.iconst 1, 1) := kqx.at kxa888 kxq888 60 rfl rfl
theorem dL_law_967 : decode cL_law 967 = .ok (.iadd, 1) := kqx.at kxa888 kxq888 61 rfl rfl
theorem dL_law_968 : decode cL_law 968 = .ok (.iaload, 1) := kqx.at kxa888 kxq888 62 rfl rfl
theorem dL_law_969 : decode cL_law 969 = .ok (.aload_n 0, 1) := kqx.at kxa888 kxq888 63 rfl rfl
theorem dL_law_970 : decode cL_law 970 = .ok (.iload_n 3, 1) := kqx.at kxa888 kxq888 64 rfl rfl
theorem dL_law_971 : decode cL_law 971 = .ok (.iconst 2, 1) := kqx.at kxa888 kxq888 65 rfl rfl
theorem dL_law_972 : decode cL_law 972 = .ok (.iadd, 1) := kqx.at kxa888 kxq888 66 rfl rfl
theorem dL_law_973 : decode cL_law 973 = .ok (.iaload, 1) := kqx.at kxa888 kxq888 67 rfl rfl
theorem dL_law_974 : decode cL_law 974 = .ok (.invokevirtual 108, 3) := kqx.at kxa888 kxq888 68 rfl rfl
theorem dL_law_977 : decode cL_law 977 = .ok (.pop, 1) := kqx.at kxa888 kxq888 69 rfl rfl
theorem dL_law_978 : decode cL_law 978 = .ok (.goto 978, 3) := kqx.at kxa888 kxq888 70 rfl rfl
theorem dL_law_981 : decode cL_law 981 = .ok (.aload_n 1, 1) := kqx.at kxa888 kxq888 71 rfl rfl
theorem dL_law_982 : decode cL_law 982 = .ok (.aload_n 0, 1) := kqx.at kxa888 kxq888 72 rfl rfl
theorem dL_law_983 : decode cL_law 983 = .ok (.iload_n 3, 1) := kqx.at kxa888 kxq888 73 rfl rfl
def kxd984 : ByteArray := .mk #[0x4, 0x60, 0x2e, 0x2a, 0x1d, 0x5, 0x60, 0x2e, 0x2a, 0x1d, 0x6, 0x60, 0x2e, 0xb6, 0x0, 0x6d, 0x57, 0x2c, 0x2a, 0x1d, 0x4, 0x60, 0x2e, 0x2a, 0x1d, 0x5, 0x60, 0x2e, 0x2a, 0x1d, 0x6, 0x60, 0x2e, 0xb6, 0x0, 0x71, 0x57, 0xa7, 0x3, 0xa7, 0x2b, 0xb6, 0x0, 0x72, 0x57, 0x2c, 0xb6, 0x0, 0x75, 0x57, 0xa7, 0x3, 0x9a, 0x2b, 0x2a, 0x1d, 0x4, 0x60, 0x2e, 0xb6, 0x0, 0x76, 0x57, 0x2c, 0x2a, 0x1d, 0x4, 0x60, 0x2e, 0xb6, 0x0, 0x79, 0x57, 0xa7, 0x3, 0x83, 0x2b, 0xb6, 0x0, 0x7a, 0x57, 0x2c, 0xb6, 0x0, 0x7d, 0x57, 0xa7, 0x3, 0x76, 0x2b, 0xb6, 0x0, 0x7e, 0x57, 0x2c]
theorem kxa984 : kxA cL_law kxd984 984 := kxA.of (List.isPrefixOf_iff_prefix.1 (by decide +kernel))
theorem kxq984 : kqx kxd984 [(0, .iconst 1, 1), (1, .iadd, 1), (2, .iaload, 1), (3, .aload_n 0, 1), (4, .iload_n 3, 1), (5, .iconst 2, 1), (6, .iadd, 1), (7, .iaload, 1), (8, .aload_n 0, 1), (9, .iload_n 3, 1), (10, .iconst 3, 1), (11, .iadd, 1), (12, .iaload, 1), (13, .invokevirtual 109, 3), (16, .pop, 1), (17, .aload_n 2, 1), (18, .aload_n 0, 1), (19, .iload_n 3, 1), (20, .iconst 1, 1), (21, .iadd, 1), (22, .iaload, 1), (23, .aload_n 0, 1), (24, .iload_n 3, 1), (25, .iconst 2, 1), (26, .iadd, 1), (27, .iaload, 1), (28, .aload_n 0, 1), (29, .iload_n 3, 1), (30, .iconst 3, 1), (31, .iadd, 1), (32, .iaload, 1), (33, .invokevirtual 113, 3), (36, .pop, 1), (37, .goto 935, 3), (40, .aload_n 1, 1), (41, .invokevirtual 114, 3), (44, .pop, 1), (45, .aload_n 2, 1), (46, .invokevirtual 117, 3), (49, .pop, 1), (50, .goto 922, 3), (53, .aload_n 1, 1), (54, .aload_n 0, 1), (55, .iload_n 3, 1), (56, .iconst 1, 1), (57, .iadd, 1), (58, .iaload, 1), (59, .invokevirtual 118, 3), (62, .pop, 1), (63, .aload_n 2, 1), (64, .aload_n 0, 1), (65, .iload_n 3, 1), (66, .iconst 1, 1), (67, .iadd, 1), (68, .iaload, 1), (69, .invokevirtual 121, 3), (72, .pop, 1), (73, .goto 899, 3), (76, .aload_n 1, 1), (77, .invokevirtual 122, 3), (80, .pop, 1), (81, .aload_n 2, 1), (82, .invokevirtual 125, 3), (85, .pop, 1), (86, .goto 886, 3), (89, .aload_n 1, 1), (90, .invokevirtual 126, 3), (93, .pop, 1), (94, .aload_n 2, 1)] = true := by decide +kernel
theorem dL_law_984 : decode cL_law 984 = .ok (.iconst 1, 1) := kqx.at kxa984 kxq984 0 rfl rfl
theorem dL_law_985 : decode cL_law 985 = .ok (.iadd, 1) := kqx.at kxa984 kxq984 1 rfl rfl
theorem dL_law_986 : decode cL_law 986 = .ok (.iaload, 1) := kqx.at kxa984 kxq984 2 rfl rfl
theorem dL_law_987 : decode cL_law 987 = .ok (.aload_n 0, 1) := kqx.at kxa984 kxq984 3 rfl rfl
theorem dL_law_988 : decode cL_law 988 = .ok (.iload_n 3, 1) := kqx.at kxa984 kxq984 4 rfl rfl
theorem dL_law_989 : decode cL_law 989 = .ok (.iconst 2, 1) := kqx.at kxa984 kxq984 5 rfl rfl
theorem dL_law_990 : decode cL_law 990 = .ok (.iadd, 1) := kqx.at kxa984 kxq984 6 rfl rfl
theorem dL_law_991 : decode cL_law 991 = .ok (.iaload, 1) := kqx.at kxa984 kxq984 7 rfl rfl
theorem dL_law_992 : decode cL_law 992 = .ok (.aload_n 0, 1) := kqx.at kxa984 kxq984 8 rfl rfl
theorem dL_law_993 : decode cL_law 993 = .ok (.iload_n 3, 1) := kqx.at kxa984 kxq984 9 rfl rfl
theorem dL_law_994 : decode cL_law 994 = .ok (.iconst 3, 1) := kqx.at kxa984 kxq984 10 rfl rfl
theorem dL_law_995 : decode cL_law 995 = .ok (.iadd, 1) := kqx.at kxa984 kxq984 11 rfl rfl
theorem dL_law_996 : decode cL_law 996 = .ok (.iaload, 1) := kqx.at kxa984 kxq984 12 rfl rfl
theorem dL_law_997 : decode cL_law 997 = .ok (.invokevirtual 109, 3) := kqx.at kxa984 kxq984 13 rfl rfl
theorem dL_law_1000 : decode cL_law 1000 = .ok (.pop, 1) := kqx.at kxa984 kxq984 14 rfl rfl
theorem dL_law_1001 : decode cL_law 1001 = .ok (.aload_n 2, 1) := kqx.at kxa984 kxq984 15 rfl rfl
theorem dL_law_1002 : decode cL_law 1002 = .ok (.aload_n 0, 1) := kqx.at kxa984 kxq984 16 rfl rfl
theorem dL_law_1003 : decode cL_law 1003 = .ok (.iload_n 3, 1) := kqx.at kxa984 kxq984 17 rfl rfl
theorem dL_law_1004 : decode cL_law 1004 = .ok (.iconst 1, 1) := kqx.at kxa984 kxq984 18 rfl rfl
theorem dL_law_1005 : decode cL_law 1005 = .ok (.iadd, 1) := kqx.at kxa984 kxq984 19 rfl rfl
theorem dL_law_1006 : decode cL_law 1006 = .ok (.iaload, 1) := kqx.at kxa984 kxq984 20 rfl rfl
theorem dL_law_1007 : decode cL_law 1007 = .ok (.aload_n 0, 1) := kqx.at kxa984 kxq984 21 rfl rfl
theorem dL_law_1008 : decode cL_law 1008 = .ok (.iload_n 3, 1) := kqx.at kxa984 kxq984 22 rfl rfl
theorem dL_law_1009 : decode cL_law 1009 = .ok (.iconst 2, 1) := kqx.at kxa984 kxq984 23 rfl rfl
theorem dL_law_1010 : decode cL_law 1010 = .ok (.iadd, 1) := kqx.at kxa984 kxq984 24 rfl rfl
theorem dL_law_1011 : decode cL_law 1011 = .ok (.iaload, 1) := kqx.at kxa984 kxq984 25 rfl rfl
theorem dL_law_1012 : decode cL_law 1012 = .ok (.aload_n 0, 1) := kqx.at kxa984 kxq984 26 rfl rfl
theorem dL_law_1013 : decode cL_law 1013 = .ok (.iload_n 3, 1) := kqx.at kxa984 kxq984 27 rfl rfl
theorem dL_law_1014 : decode cL_law 1014 = .ok (.iconst 3, 1) := kqx.at kxa984 kxq984 28 rfl rfl
theorem dL_law_1015 : decode cL_law 1015 = .ok (.iadd, 1) := kqx.at kxa984 kxq984 29 rfl rfl
theorem dL_law_1016 : decode cL_law 1016 = .ok (.iaload, 1) := kqx.at kxa984 kxq984 30 rfl rfl
theorem dL_law_1017 : decode cL_law 1017 = .ok (.invokevirtual 113, 3) := kqx.at kxa984 kxq984 31 rfl rfl
theorem dL_law_1020 : decode cL_law 1020 = .ok (.pop, 1) := kqx.at kxa984 kxq984 32 rfl rfl
theorem dL_law_1021 : decode cL_law 1021 = .ok (.goto 935, 3) := kqx.at kxa984 kxq984 33 rfl rfl
theorem dL_law_1024 : decode cL_law 1024 = .ok (.aload_n 1, 1) := kqx.at kxa984 kxq984 34 rfl rfl
theorem dL_law_1025 : decode cL_law 1025 = .ok (.invokevirtual 114, 3) := kqx.at kxa984 kxq984 35 rfl rfl
theorem dL_law_1028 : decode cL_law 1028 = .ok (.pop, 1) := kqx.at kxa984 kxq984 36 rfl rfl
theorem dL_law_1029 : decode cL_law 1029 = .ok (.aload_n 2, 1) := kqx.at kxa984 kxq984 37 rfl rfl
theorem dL_law_1030 : decode cL_law 1030 = .ok (.invokevirtual 117, 3) := kqx.at kxa984 kxq984 38 rfl rfl
theorem dL_law_1033 : decode cL_law 1033 = .ok (.pop, 1) := kqx.at kxa984 kxq984 39 rfl rfl
theorem dL_law_1034 : decode cL_law 1034 = .ok (.goto 922, 3) := kqx.at kxa984 kxq984 40 rfl rfl
theorem dL_law_1037 : decode cL_law 1037 = .ok (.aload_n 1, 1) := kqx.at kxa984 kxq984 41 rfl rfl
theorem dL_law_1038 : decode cL_law 1038 = .ok (.aload_n 0, 1) := kqx.at kxa984 kxq984 42 rfl rfl
theorem dL_law_1039 : decode cL_law 1039 = .ok (.iload_n 3, 1) := kqx.at kxa984 kxq984 43 rfl rfl
theorem dL_law_1040 : decode cL_law 1040 = .ok (.iconst 1, 1) := kqx.at kxa984 kxq984 44 rfl rfl
theorem dL_law_1041 : decode cL_law 1041 = .ok (.iadd, 1) := kqx.at kxa984 kxq984 45 rfl rfl
theorem dL_law_1042 : decode cL_law 1042 = .ok (.iaload, 1) := kqx.at kxa984 kxq984 46 rfl rfl
theorem dL_law_1043 : decode cL_law 1043 = .ok (.invokevirtual 118, 3) := kqx.at kxa984 kxq984 47 rfl rfl
theorem dL_law_1046 : decode cL_law 1046 = .ok (.pop, 1) := kqx.at kxa984 kxq984 48 rfl rfl
theorem dL_law_1047 : decode cL_law 1047 = .ok (.aload_n 2, 1) := kqx.at kxa984 kxq984 49 rfl rfl
theorem dL_law_1048 : decode cL_law 1048 = .ok (.aload_n 0, 1) := kqx.at kxa984 kxq984 50 rfl rfl
theorem dL_law_1049 : decode cL_law 1049 = .ok (.iload_n 3, 1) := kqx.at kxa984 kxq984 51 rfl rfl
theorem dL_law_1050 : decode cL_law 1050 = .ok (.iconst 1, 1) := kqx.at kxa984 kxq984 52 rfl rfl
theorem dL_law_1051 : decode cL_law 1051 = .ok (.iadd, 1) := kqx.at kxa984 kxq984 53 rfl rfl
theorem dL_law_1052 : decode cL_law 1052 = .ok (.iaload, 1) := kqx.at kxa984 kxq984 54 rfl rfl
theorem dL_law_1053 : decode cL_law 1053 = .ok (.invokevirtual 121, 3) := kqx.at kxa984 kxq984 55 rfl rfl
theorem dL_law_1056 : decode cL_law 1056 = .ok (.pop, 1) := kqx.at kxa984 kxq984 56 rfl rfl
theorem dL_law_1057 : decode cL_law 1057 = .ok (.goto 899, 3) := kqx.at kxa984 kxq984 57 rfl rfl
theorem dL_law_1060 : decode cL_law 1060 = .ok (.aload_n 1, 1) := kqx.at kxa984 kxq984 58 rfl rfl
theorem dL_law_1061 : decode cL_law 1061 = .ok (.invokevirtual 122, 3) := kqx.at kxa984 kxq984 59 rfl rfl
theorem dL_law_1064 : decode cL_law 1064 = .ok (.pop, 1) := kqx.at kxa984 kxq984 60 rfl rfl
theorem dL_law_1065 : decode cL_law 1065 = .ok (.aload_n 2, 1) := kqx.at kxa984 kxq984 61 rfl rfl
theorem dL_law_1066 : decode cL_law 1066 = .ok (.invokevirtual 125, 3) := kqx.at kxa984 kxq984 62 rfl rfl
theorem dL_law_1069 : decode cL_law 1069 = .ok (.pop, 1) := kqx.at kxa984 kxq984 63 rfl rfl
theorem dL_law_1070 : decode cL_law 1070 = .ok (.goto 886, 3) := kqx.at kxa984 kxq984 64 rfl rfl
theorem dL_law_1073 : decode cL_law 1073 = .ok (.aload_n 1, 1) := kqx.at kxa984 kxq984 65 rfl rfl
theorem dL_law_1074 : decode cL_law 1074 = .ok (.invokevirtual 126, 3) := kqx.at kxa984 kxq984 66 rfl rfl
theorem dL_law_1077 : decode cL_law 1077 = .ok (.pop, 1) := kqx.at kxa984 kxq984 67 rfl rfl
theorem dL_law_1078 : decode cL_law 1078 = .ok (.aload_n 2, 1) := kqx.at kxa984 kxq984 68 rfl rfl
def kxd1079 : ByteArray := .mk #[0xb6, 0x0, 0x81, 0x57, 0xa7, 0x3, 0x69, 0x2b, 0xb6, 0x0, 0x82, 0x57, 0x2c, 0xb6, 0x0, 0x85, 0x57, 0xa7, 0x3, 0x5c, 0x2b, 0xb6, 0x0, 0x86, 0x57, 0x2c, 0xb6, 0x0, 0x89, 0x57, 0xa7, 0x3, 0x4f, 0x2b, 0x2a, 0x1d, 0x4, 0x60, 0x2e, 0xb6, 0x0, 0x8a, 0x57, 0x2c, 0x2a, 0x1d, 0x4, 0x60, 0x2e, 0xb6, 0x0, 0x8d, 0x57, 0xa7, 0x3, 0x38, 0x2b, 0xb6, 0x0, 0x8e, 0x57, 0x2c, 0xb6, 0x0, 0x91, 0x57, 0xa7, 0x3, 0x2b, 0x2b, 0x2a, 0x1d, 0x4, 0x60, 0x2e, 0x2a, 0x1d, 0x5, 0x60, 0x2e, 0xb6, 0x0, 0x92, 0x57, 0x2c, 0x2a, 0x1d, 0x4, 0x60, 0x2e, 0x2a, 0x1d, 0x5, 0x60, 0x2e]
theorem kxa1079 : kxA cL_law kxd1079 1079 := kxA.of (List.isPrefixOf_iff_prefix.1 (by decide +kernel))
theorem kxq1079 : kqx kxd1079 [(0, .invokevirtual 129, 3), (3, .pop, 1), (4, .goto 873, 3), (7, .aload_n 1, 1), (8, .invokevirtual 130, 3), (11, .pop, 1), (12, .aload_n 2, 1), (13, .invokevirtual 133, 3), (16, .pop, 1), (17, .goto 860, 3), (20, .aload_n 1, 1), (21, .invokevirtual 134, 3), (24, .pop, 1), (25, .aload_n 2, 1), (26, .invokevirtual 137, 3), (29, .pop, 1), (30, .goto 847, 3), (33, .aload_n 1, 1), (34, .aload_n 0, 1), (35, .iload_n 3, 1), (36, .iconst 1, 1), (37, .iadd, 1), (38, .iaload, 1), (39, .invokevirtual 138, 3), (42, .pop, 1), (43, .aload_n 2, 1), (44, .aload_n 0, 1), (45, .iload_n 3, 1), (46, .iconst 1, 1), (47, .iadd, 1), (48, .iaload, 1), (49, .invokevirtual 141, 3), (52, .pop, 1), (53, .goto 824, 3), (56, .aload_n 1, 1), (57, .invokevirtual 142, 3), (60, .pop, 1), (61, .aload_n 2, 1), (62, .invokevirtual 145, 3), (65, .pop, 1), (66, .goto 811, 3), (69, .aload_n 1, 1), (70, .aload_n 0, 1), (71, .iload_n 3, 1), (72, .iconst 1, 1), (73, .iadd, 1), (74, .iaload, 1), (75, .aload_n 0, 1), (76, .iload_n 3, 1), (77, .iconst 2, 1), (78, .iadd, 1), (79, .iaload, 1), (80, .invokevirtual 146, 3), (83, .pop, 1), (84, .aload_n 2, 1), (85, .aload_n 0, 1), (86, .iload_n 3, 1), (87, .iconst 1, 1), (88, .iadd, 1), (89, .iaload, 1), (90, .aload_n 0, 1), (91, .iload_n 3, 1), (92, .iconst 2, 1), (93, .iadd, 1), (94, .iaload, 1)] = true := by decide +kernel
theorem dL_law_1079 : decode cL_law 1079 = .ok (.invokevirtual 129, 3) := kqx.at kxa1079 kxq1079 0 rfl rfl
theorem dL_law_1082 : decode cL_law 1082 = .ok (.pop, 1) := kqx.at kxa1079 kxq1079 1 rfl rfl
theorem dL_law_1083 : decode cL_law 1083 = .ok (.goto 873, 3) := kqx.at kxa1079 kxq1079 2 rfl rfl
theorem dL_law_1086 : decode cL_law 1086 = .ok (.aload_n 1, 1) := kqx.at kxa1079 kxq1079 3 rfl rfl
theorem dL_law_1087 : decode cL_law 1087 = .ok (.invokevirtual 130, 3) := kqx.at kxa1079 kxq1079 4 rfl rfl
theorem dL_law_1090 : decode cL_law 1090 = .ok (.pop, 1) := kqx.at kxa1079 kxq1079 5 rfl rfl
theorem dL_law_1091 : decode cL_law 1091 = .ok (.aload_n 2, 1) := kqx.at kxa1079 kxq1079 6 rfl rfl
theorem dL_law_1092 : decode cL_law 1092 = .ok (.invokevirtual 133, 3) := kqx.at kxa1079 kxq1079 7 rfl rfl
theorem dL_law_1095 : decode cL_law 1095 = .ok (.pop, 1) := kqx.at kxa1079 kxq1079 8 rfl rfl
theorem dL_law_1096 : decode cL_law 1096 = .ok (.goto 860, 3) := kqx.at kxa1079 kxq1079 9 rfl rfl
theorem dL_law_1099 : decode cL_law 1099 = .ok (.aload_n 1, 1) := kqx.at kxa1079 kxq1079 10 rfl rfl
theorem dL_law_1100 : decode cL_law 1100 = .ok (.invokevirtual 134, 3) := kqx.at kxa1079 kxq1079 11 rfl rfl
theorem dL_law_1103 : decode cL_law 1103 = .ok (.pop, 1) := kqx.at kxa1079 kxq1079 12 rfl rfl
theorem dL_law_1104 : decode cL_law 1104 = .ok (.aload_n 2, 1) := kqx.at kxa1079 kxq1079 13 rfl rfl
theorem dL_law_1105 : decode cL_law 1105 = .ok (.invokevirtual 137, 3) := kqx.at kxa1079 kxq1079 14 rfl rfl
theorem dL_law_1108 : decode cL_law 1108 = .ok (.pop, 1) := kqx.at kxa1079 kxq1079 15 rfl rfl
theorem dL_law_1109 : decode cL_law 1109 = .ok (.goto 847, 3) := kqx.at kxa1079 kxq1079 16 rfl rfl
theorem dL_law_1112 : decode cL_law 1112 = .ok (.aload_n 1, 1) := kqx.at kxa1079 kxq1079 17 rfl rfl
theorem dL_law_1113 : decode cL_law 1113 = .ok (.aload_n 0, 1) := kqx.at kxa1079 kxq1079 18 rfl rfl
theorem dL_law_1114 : decode cL_law 1114 = .ok (.iload_n 3, 1) := kqx.at kxa1079 kxq1079 19 rfl rfl
theorem dL_law_1115 : decode cL_law 1115 = .ok (.iconst 1, 1) := kqx.at kxa1079 kxq1079 20 rfl rfl
theorem dL_law_1116 : decode cL_law 1116 = .ok (.iadd, 1) := kqx.at kxa1079 kxq1079 21 rfl rfl
theorem dL_law_1117 : decode cL_law 1117 = .ok (.iaload, 1) := kqx.at kxa1079 kxq1079 22 rfl rfl
theorem dL_law_1118 : decode cL_law 1118 = .ok (.invokevirtual 138, 3) := kqx.at kxa1079 kxq1079 23 rfl rfl
theorem dL_law_1121 : decode cL_law 1121 = .ok (.pop, 1) := kqx.at kxa1079 kxq1079 24 rfl rfl
theorem dL_law_1122 : decode cL_law 1122 = .ok (.aload_n 2, 1) := kqx.at kxa1079 kxq1079 25 rfl rfl
theorem dL_law_1123 : decode cL_law 1123 = .ok (.aload_n 0, 1) := kqx.at kxa1079 kxq1079 26 rfl rfl
theorem dL_law_1124 : decode cL_law 1124 = .ok (.iload_n 3, 1) := kqx.at kxa1079 kxq1079 27 rfl rfl
theorem dL_law_1125 : decode cL_law 1125 = .ok (.iconst 1, 1) := kqx.at kxa1079 kxq1079 28 rfl rfl
theorem dL_law_1126 : decode cL_law 1126 = .ok (.iadd, 1) := kqx.at kxa1079 kxq1079 29 rfl rfl
theorem dL_law_1127 : decode cL_law 1127 = .ok (.iaload, 1) := kqx.at kxa1079 kxq1079 30 rfl rfl
theorem dL_law_1128 : decode cL_law 1128 = .ok (.invokevirtual 141, 3) := kqx.at kxa1079 kxq1079 31 rfl rfl
theorem dL_law_1131 : decode cL_law 1131 = .ok (.pop, 1) := kqx.at kxa1079 kxq1079 32 rfl rfl
theorem dL_law_1132 : decode cL_law 1132 = .ok (.goto 824, 3) := kqx.at kxa1079 kxq1079 33 rfl rfl
theorem dL_law_1135 : decode cL_law 1135 = .ok (.aload_n 1, 1) := kqx.at kxa1079 kxq1079 34 rfl rfl
theorem dL_law_1136 : decode cL_law 1136 = .ok (.invokevirtual 142, 3) := kqx.at kxa1079 kxq1079 35 rfl rfl
theorem dL_law_1139 : decode cL_law 1139 = .ok (.pop, 1) := kqx.at kxa1079 kxq1079 36 rfl rfl
theorem dL_law_1140 : decode cL_law 1140 = .ok (.aload_n 2, 1) := kqx.at kxa1079 kxq1079 37 rfl rfl
theorem dL_law_1141 : decode cL_law 1141 = .ok (.invokevirtual 145, 3) := kqx.at kxa1079 kxq1079 38 rfl rfl
theorem dL_law_1144 : decode cL_law 1144 = .ok (.pop, 1) := kqx.at kxa1079 kxq1079 39 rfl rfl
theorem dL_law_1145 : decode cL_law 1145 = .ok (.goto 811, 3) := kqx.at kxa1079 kxq1079 40 rfl rfl
theorem dL_law_1148 : decode cL_law 1148 = .ok (.aload_n 1, 1) := kqx.at kxa1079 kxq1079 41 rfl rfl
theorem dL_law_1149 : decode cL_law 1149 = .ok (.aload_n 0, 1) := kqx.at kxa1079 kxq1079 42 rfl rfl
theorem dL_law_1150 : decode cL_law 1150 = .ok (.iload_n 3, 1) := kqx.at kxa1079 kxq1079 43 rfl rfl
theorem dL_law_1151 : decode cL_law 1151 = .ok (.iconst 1, 1) := kqx.at kxa1079 kxq1079 44 rfl rfl
theorem dL_law_1152 : decode cL_law 1152 = .ok (.iadd, 1) := kqx.at kxa1079 kxq1079 45 rfl rfl
theorem dL_law_1153 : decode cL_law 1153 = .ok (.iaload, 1) := kqx.at kxa1079 kxq1079 46 rfl rfl
theorem dL_law_1154 : decode cL_law 1154 = .ok (.aload_n 0, 1) := kqx.at kxa1079 kxq1079 47 rfl rfl
theorem dL_law_1155 : decode cL_law 1155 = .ok (.iload_n 3, 1) := kqx.at kxa1079 kxq1079 48 rfl rfl
theorem dL_law_1156 : decode cL_law 1156 = .ok (.iconst 2, 1) := kqx.at kxa1079 kxq1079 49 rfl rfl
theorem dL_law_1157 : decode cL_law 1157 = .ok (.iadd, 1) := kqx.at kxa1079 kxq1079 50 rfl rfl
theorem dL_law_1158 : decode cL_law 1158 = .ok (.iaload, 1) := kqx.at kxa1079 kxq1079 51 rfl rfl
theorem dL_law_1159 : decode cL_law 1159 = .ok (.invokevirtual 146, 3) := kqx.at kxa1079 kxq1079 52 rfl rfl
theorem dL_law_1162 : decode cL_law 1162 = .ok (.pop, 1) := kqx.at kxa1079 kxq1079 53 rfl rfl
theorem dL_law_1163 : decode cL_law 1163 = .ok (.aload_n 2, 1) := kqx.at kxa1079 kxq1079 54 rfl rfl
theorem dL_law_1164 : decode cL_law 1164 = .ok (.aload_n 0, 1) := kqx.at kxa1079 kxq1079 55 rfl rfl
theorem dL_law_1165 : decode cL_law 1165 = .ok (.iload_n 3, 1) := kqx.at kxa1079 kxq1079 56 rfl rfl
theorem dL_law_1166 : decode cL_law 1166 = .ok (.iconst 1, 1) := kqx.at kxa1079 kxq1079 57 rfl rfl
theorem dL_law_1167 : decode cL_law 1167 = .ok (.iadd, 1) := kqx.at kxa1079 kxq1079 58 rfl rfl
theorem dL_law_1168 : decode cL_law 1168 = .ok (.iaload, 1) := kqx.at kxa1079 kxq1079 59 rfl rfl
theorem dL_law_1169 : decode cL_law 1169 = .ok (.aload_n 0, 1) := kqx.at kxa1079 kxq1079 60 rfl rfl
theorem dL_law_1170 : decode cL_law 1170 = .ok (.iload_n 3, 1) := kqx.at kxa1079 kxq1079 61 rfl rfl
theorem dL_law_1171 : decode cL_law 1171 = .ok (.iconst 2, 1) := kqx.at kxa1079 kxq1079 62 rfl rfl
theorem dL_law_1172 : decode cL_law 1172 = .ok (.iadd, 1) := kqx.at kxa1079 kxq1079 63 rfl rfl
theorem dL_law_1173 : decode cL_law 1173 = .ok (.iaload, 1) := kqx.at kxa1079 kxq1079 64 rfl rfl
def kxd1174 : ByteArray := .mk #[0xb6, 0x0, 0x95, 0x57, 0xa7, 0x3, 0xa, 0x2b, 0x2a, 0x1d, 0x4, 0x60, 0x2e, 0xb6, 0x0, 0x96, 0x57, 0x2c, 0x2a, 0x1d, 0x4, 0x60, 0x2e, 0xb6, 0x0, 0x99, 0x57, 0xa7, 0x2, 0xf3, 0x2b, 0x2a, 0x1d, 0x4, 0x60, 0x2e, 0xb6, 0x0, 0x9a, 0x57, 0x2c, 0x2a, 0x1d, 0x4, 0x60, 0x2e, 0xb6, 0x0, 0x9d, 0x57, 0xa7, 0x2, 0xdc, 0x2b, 0x2a, 0x1d, 0x4, 0x60, 0x2e, 0x2a, 0x1d, 0x5, 0x60, 0x2e, 0xb6, 0x0, 0x9e, 0x57, 0x2c, 0x2a, 0x1d, 0x4, 0x60, 0x2e, 0x2a, 0x1d, 0x5, 0x60, 0x2e, 0xb6, 0x0, 0xa1, 0x57, 0xa7, 0x2, 0xbb, 0x2b, 0xb6, 0x0, 0xa2, 0x57, 0x2c, 0xb6, 0x0, 0xa5, 0x57]
theorem kxa1174 : kxA cL_law kxd1174 1174 := kxA.of (List.isPrefixOf_iff_prefix.1 (by decide +kernel))
theorem kxq1174 : kqx kxd1174 [(0, .invokevirtual 149, 3), (3, .pop, 1), (4, .goto 778, 3), (7, .aload_n 1, 1), (8, .aload_n 0, 1), (9, .iload_n 3, 1), (10, .iconst 1, 1), (11, .iadd, 1), (12, .iaload, 1), (13, .invokevirtual 150, 3), (16, .pop, 1), (17, .aload_n 2, 1), (18, .aload_n 0, 1), (19, .iload_n 3, 1), (20, .iconst 1, 1), (21, .iadd, 1), (22, .iaload, 1), (23, .invokevirtual 153, 3), (26, .pop, 1), (27, .goto 755, 3), (30, .aload_n 1, 1), (31, .aload_n 0, 1), (32, .iload_n 3, 1), (33, .iconst 1, 1), (34, .iadd, 1), (35, .iaload, 1), (36, .invokevirtual 154, 3), (39, .pop, 1), (40, .aload_n 2, 1), (41, .aload_n 0, 1), (42, .iload_n 3, 1), (43, .iconst 1, 1), (44, .iadd, 1), (45, .iaload, 1), (46, .invokevirtual 157, 3), (49, .pop, 1), (50, .goto 732, 3), (53, .aload_n 1, 1), (54, .aload_n 0, 1), (55, .iload_n 3, 1), (56, .iconst 1, 1), (57, .iadd, 1), (58, .iaload, 1), (59, .aload_n 0, 1), (60, .iload_n 3, 1), (61, .iconst 2, 1), (62, .iadd, 1), (63, .iaload, 1), (64, .invokevirtual 158, 3), (67, .pop, 1), (68, .aload_n 2, 1), (69, .aload_n 0, 1), (70, .iload_n 3, 1), (71, .iconst 1, 1), (72, .iadd, 1), (73, .iaload, 1), (74, .aload_n 0, 1), (75, .iload_n 3, 1), (76, .iconst 2, 1), (77, .iadd, 1), (78, .iaload, 1), (79, .invokevirtual 161, 3), (82, .pop, 1), (83, .goto 699, 3), (86, .aload_n 1, 1), (87, .invokevirtual 162, 3), (90, .pop, 1), (91, .aload_n 2, 1), (92, .invokevirtual 165, 3), (95, .pop, 1)] = true := by decide +kernel
theorem dL_law_1174 : decode cL_law 1174 = .ok (.invokevirtual 149, 3) := kqx.at kxa1174 kxq1174 0 rfl rfl
theorem dL_law_1177 : decode cL_law 1177 = .ok (.pop, 1) := kqx.at kxa1174 kxq1174 1 rfl rfl
theorem dL_law_1178 : decode cL_law 1178 = .ok (.goto 778, 3) := kqx.at kxa1174 kxq1174 2 rfl rfl
theorem dL_law_1181 : decode cL_law 1181 = .ok (.aload_n 1, 1) := kqx.at kxa1174 kxq1174 3 rfl rfl
theorem dL_law_1182 : decode cL_law 1182 = .ok (.aload_n 0, 1) := kqx.at kxa1174 kxq1174 4 rfl rfl
theorem dL_law_1183 : decode cL_law 1183 = .ok (.iload_n 3, 1) := kqx.at kxa1174 kxq1174 5 rfl rfl
theorem dL_law_1184 : decode cL_law 1184 = .ok (.iconst 1, 1) := kqx.at kxa1174 kxq1174 6 rfl rfl
theorem dL_law_1185 : decode cL_law 1185 = .ok (.iadd, 1) := kqx.at kxa1174 kxq1174 7 rfl rfl
theorem dL_law_1186 : decode cL_law 1186 = .ok (.iaload, 1) := kqx.at kxa1174 kxq1174 8 rfl rfl
theorem dL_law_1187 : decode cL_law 1187 = .ok (.invokevirtual 150, 3) := kqx.at kxa1174 kxq1174 9 rfl rfl
theorem dL_law_1190 : decode cL_law 1190 = .ok (.pop, 1) := kqx.at kxa1174 kxq1174 10 rfl rfl
theorem dL_law_1191 : decode cL_law 1191 = .ok (.aload_n 2, 1) := kqx.at kxa1174 kxq1174 11 rfl rfl
theorem dL_law_1192 : decode cL_law 1192 = .ok (.aload_n 0, 1) := kqx.at kxa1174 kxq1174 12 rfl rfl
theorem dL_law_1193 : decode cL_law 1193 = .ok (.iload_n 3, 1) := kqx.at kxa1174 kxq1174 13 rfl rfl
theorem dL_law_1194 : decode cL_law 1194 = .ok (.iconst 1, 1) := kqx.at kxa1174 kxq1174 14 rfl rfl
theorem dL_law_1195 : decode cL_law 1195 = .ok (.iadd, 1) := kqx.at kxa1174 kxq1174 15 rfl rfl
theorem dL_law_1196 : decode cL_law 1196 = .ok (.iaload, 1) := kqx.at kxa1174 kxq1174 16 rfl rfl
theorem dL_law_1197 : decode cL_law 1197 = .ok (.invokevirtual 153, 3) := kqx.at kxa1174 kxq1174 17 rfl rfl
theorem dL_law_1200 : decode cL_law 1200 = .ok (.pop, 1) := kqx.at kxa1174 kxq1174 18 rfl rfl
theorem dL_law_1201 : decode cL_law 1201 = .ok (.goto 755, 3) := kqx.at kxa1174 kxq1174 19 rfl rfl
theorem dL_law_1204 : decode cL_law 1204 = .ok (.aload_n 1, 1) := kqx.at kxa1174 kxq1174 20 rfl rfl
theorem dL_law_1205 : decode cL_law 1205 = .ok (.aload_n 0, 1) := kqx.at kxa1174 kxq1174 21 rfl rfl
theorem dL_law_1206 : decode cL_law 1206 = .ok (.iload_n 3, 1) := kqx.at kxa1174 kxq1174 22 rfl rfl
theorem dL_law_1207 : decode cL_law 1207 = .ok (.iconst 1, 1) := kqx.at kxa1174 kxq1174 23 rfl rfl
theorem dL_law_1208 : decode cL_law 1208 = .ok (.iadd, 1) := kqx.at kxa1174 kxq1174 24 rfl rfl
theorem dL_law_1209 : decode cL_law 1209 = .ok (.iaload, 1) := kqx.at kxa1174 kxq1174 25 rfl rfl
theorem dL_law_1210 : decode cL_law 1210 = .ok (.invokevirtual 154, 3) := kqx.at kxa1174 kxq1174 26 rfl rfl
theorem dL_law_1213 : decode cL_law 1213 = .ok (.pop, 1) := kqx.at kxa1174 kxq1174 27 rfl rfl
theorem dL_law_1214 : decode cL_law 1214 = .ok (.aload_n 2, 1) := kqx.at kxa1174 kxq1174 28 rfl rfl
theorem dL_law_1215 : decode cL_law 1215 = .ok (.aload_n 0, 1) := kqx.at kxa1174 kxq1174 29 rfl rfl
theorem dL_law_1216 : decode cL_law 1216 = .ok (.iload_n 3, 1) := kqx.at kxa1174 kxq1174 30 rfl rfl
theorem dL_law_1217 : decode cL_law 1217 = .ok (.iconst 1, 1) := kqx.at kxa1174 kxq1174 31 rfl rfl
theorem dL_law_1218 : decode cL_law 1218 = .ok (.iadd, 1) := kqx.at kxa1174 kxq1174 32 rfl rfl
theorem dL_law_1219 : decode cL_law 1219 = .ok (.iaload, 1) := kqx.at kxa1174 kxq1174 33 rfl rfl
theorem dL_law_1220 : decode cL_law 1220 = .ok (.invokevirtual 157, 3) := kqx.at kxa1174 kxq1174 34 rfl rfl
theorem dL_law_1223 : decode cL_law 1223 = .ok (.pop, 1) := kqx.at kxa1174 kxq1174 35 rfl rfl
theorem dL_law_1224 : decode cL_law 1224 = .ok (.goto 732, 3) := kqx.at kxa1174 kxq1174 36 rfl rfl
theorem dL_law_1227 : decode cL_law 1227 = .ok (.aload_n 1, 1) := kqx.at kxa1174 kxq1174 37 rfl rfl
theorem dL_law_1228 : decode cL_law 1228 = .ok (.aload_n 0, 1) := kqx.at kxa1174 kxq1174 38 rfl rfl
theorem dL_law_1229 : decode cL_law 1229 = .ok (.iload_n 3, 1) := kqx.at kxa1174 kxq1174 39 rfl rfl
theorem dL_law_1230 : decode cL_law 1230 = .ok (.iconst 1, 1) := kqx.at kxa1174 kxq1174 40 rfl rfl
theorem dL_law_1231 : decode cL_law 1231 = .ok (.iadd, 1) := kqx.at kxa1174 kxq1174 41 rfl rfl
theorem dL_law_1232 : decode cL_law 1232 = .ok (.iaload, 1) := kqx.at kxa1174 kxq1174 42 rfl rfl
theorem dL_law_1233 : decode cL_law 1233 = .ok (.aload_n 0, 1) := kqx.at kxa1174 kxq1174 43 rfl rfl
theorem dL_law_1234 : decode cL_law 1234 = .ok (.iload_n 3, 1) := kqx.at kxa1174 kxq1174 44 rfl rfl
theorem dL_law_1235 : decode cL_law 1235 = .ok (.iconst 2, 1) := kqx.at kxa1174 kxq1174 45 rfl rfl
theorem dL_law_1236 : decode cL_law 1236 = .ok (.iadd, 1) := kqx.at kxa1174 kxq1174 46 rfl rfl
theorem dL_law_1237 : decode cL_law 1237 = .ok (.iaload, 1) := kqx.at kxa1174 kxq1174 47 rfl rfl
theorem dL_law_1238 : decode cL_law 1238 = .ok (.invokevirtual 158, 3) := kqx.at kxa1174 kxq1174 48 rfl rfl
theorem dL_law_1241 : decode cL_law 1241 = .ok (.pop, 1) := kqx.at kxa1174 kxq1174 49 rfl rfl
theorem dL_law_1242 : decode cL_law 1242 = .ok (.aload_n 2, 1) := kqx.at kxa1174 kxq1174 50 rfl rfl
theorem dL_law_1243 : decode cL_law 1243 = .ok (.aload_n 0, 1) := kqx.at kxa1174 kxq1174 51 rfl rfl
theorem dL_law_1244 : decode cL_law 1244 = .ok (.iload_n 3, 1) := kqx.at kxa1174 kxq1174 52 rfl rfl
theorem dL_law_1245 : decode cL_law 1245 = .ok (.iconst 1, 1) := kqx.at kxa1174 kxq1174 53 rfl rfl
theorem dL_law_1246 : decode cL_law 1246 = .ok (.iadd, 1) := kqx.at kxa1174 kxq1174 54 rfl rfl
theorem dL_law_1247 : decode cL_law 1247 = .ok (.iaload, 1) := kqx.at kxa1174 kxq1174 55 rfl rfl
theorem dL_law_1248 : decode cL_law 1248 = .ok (.aload_n 0, 1) := kqx.at kxa1174 kxq1174 56 rfl rfl
theorem dL_law_1249 : decode cL_law 1249 = .ok (.iload_n 3, 1) := kqx.at kxa1174 kxq1174 57 rfl rfl
theorem dL_law_1250 : decode cL_law 1250 = .ok (.iconst 2, 1) := kqx.at kxa1174 kxq1174 58 rfl rfl
theorem dL_law_1251 : decode cL_law 1251 = .ok (.iadd, 1) := kqx.at kxa1174 kxq1174 59 rfl rfl
theorem dL_law_1252 : decode cL_law 1252 = .ok (.iaload, 1) := kqx.at kxa1174 kxq1174 60 rfl rfl
theorem dL_law_1253 : decode cL_law 1253 = .ok (.invokevirtual 161, 3) := kqx.at kxa1174 kxq1174 61 rfl rfl
theorem dL_law_1256 : decode cL_law 1256 = .ok (.pop, 1) := kqx.at kxa1174 kxq1174 62 rfl rfl
theorem dL_law_1257 : decode cL_law 1257 = .ok (.goto 699, 3) := kqx.at kxa1174 kxq1174 63 rfl rfl
theorem dL_law_1260 : decode cL_law 1260 = .ok (.aload_n 1, 1) := kqx.at kxa1174 kxq1174 64 rfl rfl
theorem dL_law_1261 : decode cL_law 1261 = .ok (.invokevirtual 162, 3) := kqx.at kxa1174 kxq1174 65 rfl rfl
theorem dL_law_1264 : decode cL_law 1264 = .ok (.pop, 1) := kqx.at kxa1174 kxq1174 66 rfl rfl
theorem dL_law_1265 : decode cL_law 1265 = .ok (.aload_n 2, 1) := kqx.at kxa1174 kxq1174 67 rfl rfl
theorem dL_law_1266 : decode cL_law 1266 = .ok (.invokevirtual 165, 3) := kqx.at kxa1174 kxq1174 68 rfl rfl
theorem dL_law_1269 : decode cL_law 1269 = .ok (.pop, 1) := kqx.at kxa1174 kxq1174 69 rfl rfl
def kxd1270 : ByteArray := .mk #[0xa7, 0x2, 0xae, 0x2b, 0x2a, 0x1d, 0x4, 0x60, 0x2e, 0xb6, 0x0, 0xa6, 0x57, 0x2c, 0x2a, 0x1d, 0x4, 0x60, 0x2e, 0xb6, 0x0, 0xa9, 0x57, 0xa7, 0x2, 0x97, 0x2b, 0x2a, 0x1d, 0x4, 0x60, 0x2e, 0xb6, 0x0, 0xaa, 0x57, 0x2c, 0x2a, 0x1d, 0x4, 0x60, 0x2e, 0xb6, 0x0, 0xad, 0x57, 0xa7, 0x2, 0x80, 0x2b, 0xb6, 0x0, 0xae, 0x57, 0x2c, 0xb6, 0x0, 0xb1, 0x57, 0xa7, 0x2, 0x73, 0x2b, 0xb6, 0x0, 0xb2, 0x57, 0x2c, 0xb6, 0x0, 0xb5, 0x57, 0xa7, 0x2, 0x66, 0x2b, 0x2a, 0x1d, 0x4, 0x60, 0x2e, 0xb6, 0x0, 0xb6, 0x57, 0x2c, 0x2a, 0x1d, 0x4, 0x60, 0x2e, 0xb6, 0x0, 0xb9, 0x57]
theorem kxa1270 : kxA cL_law kxd1270 1270 := kxA.of (List.isPrefixOf_iff_prefix.1 (by decide +kernel))
theorem kxq1270 : kqx kxd1270 [(0, .goto 686, 3), (3, .aload_n 1, 1), (4, .aload_n 0, 1), (5, .iload_n 3, 1), (6, .iconst 1, 1), (7, .iadd, 1), (8, .iaload, 1), (9, .invokevirtual 166, 3), (12, .pop, 1), (13, .aload_n 2, 1), (14, .aload_n 0, 1), (15, .iload_n 3, 1), (16, .iconst 1, 1), (17, .iadd, 1), (18, .iaload, 1), (19, .invokevirtual 169, 3), (22, .pop, 1), (23, .goto 663, 3), (26, .aload_n 1, 1), (27, .aload_n 0, 1), (28, .iload_n 3, 1), (29, .iconst 1, 1), (30, .iadd, 1), (31, .iaload, 1), (32, .invokevirtual 170, 3), (35, .pop, 1), (36, .aload_n 2, 1), (37, .aload_n 0, 1), (38, .iload_n 3, 1), (39, .iconst 1, 1), (40, .iadd, 1), (41, .iaload, 1), (42, .invokevirtual 173, 3), (45, .pop, 1), (46, .goto 640, 3), (49, .aload_n 1, 1), (50, .invokevirtual 174, 3), (53, .pop, 1), (54, .aload_n 2, 1), (55, .invokevirtual 177, 3), (58, .pop, 1), (59, .goto 627, 3), (62, .aload_n 1, 1), (63, .invokevirtual 178, 3), (66, .pop, 1), (67, .aload_n 2, 1), (68, .invokevirtual 181, 3), (71, .pop, 1), (72, .goto 614, 3), (75, .aload_n 1, 1), (76, .aload_n 0, 1), (77, .iload_n 3, 1), (78, .iconst 1, 1), (79, .iadd, 1), (80, .iaload, 1), (81, .invokevirtual 182, 3), (84, .pop, 1), (85, .aload_n 2, 1), (86, .aload_n 0, 1), (87, .iload_n 3, 1), (88, .iconst 1, 1), (89, .iadd, 1), (90, .iaload, 1), (91, .invokevirtual 185, 3), (94, .pop, 1)] = true := by decide +kernel
theorem dL_law_1270 : decode cL_law 1270 = .ok (.goto 686, 3) := kqx.at kxa1270 kxq1270 0 rfl rfl
theorem dL_law_1273 : decode cL_law 1273 = .ok (.aload_n 1, 1) := kqx.at kxa1270 kxq1270 1 rfl rfl
theorem dL_law_1274 : decode cL_law 1274 = .ok (.aload_n 0, 1) := kqx.at kxa1270 kxq1270 2 rfl rfl
theorem dL_law_1275 : decode cL_law 1275 = .ok (.iload_n 3, 1) := kqx.at kxa1270 kxq1270 3 rfl rfl
theorem dL_law_1276 : decode cL_law 1276 = .ok (.iconst 1, 1) := kqx.at kxa1270 kxq1270 4 rfl rfl
theorem dL_law_1277 : decode cL_law 1277 = .ok (.iadd, 1) := kqx.at kxa1270 kxq1270 5 rfl rfl
theorem dL_law_1278 : decode cL_law 1278 = .ok (.iaload, 1) := kqx.at kxa1270 kxq1270 6 rfl rfl
theorem dL_law_1279 : decode cL_law 1279 = .ok (.invokevirtual 166, 3) := kqx.at kxa1270 kxq1270 7 rfl rfl
theorem dL_law_1282 : decode cL_law 1282 = .ok (.pop, 1) := kqx.at kxa1270 kxq1270 8 rfl rfl
theorem dL_law_1283 : decode cL_law 1283 = .ok (.aload_n 2, 1) := kqx.at kxa1270 kxq1270 9 rfl rfl
theorem dL_law_1284 : decode cL_law 1284 = .ok (.aload_n 0, 1) := kqx.at kxa1270 kxq1270 10 rfl rfl
theorem dL_law_1285 : decode cL_law 1285 = .ok (.iload_n 3, 1) := kqx.at kxa1270 kxq1270 11 rfl rfl
theorem dL_law_1286 : decode cL_law 1286 = .ok (.iconst 1, 1) := kqx.at kxa1270 kxq1270 12 rfl rfl
theorem dL_law_1287 : decode cL_law 1287 = .ok (.iadd, 1) := kqx.at kxa1270 kxq1270 13 rfl rfl
theorem dL_law_1288 : decode cL_law 1288 = .ok (.iaload, 1) := kqx.at kxa1270 kxq1270 14 rfl rfl
theorem dL_law_1289 : decode cL_law 1289 = .ok (.invokevirtual 169, 3) := kqx.at kxa1270 kxq1270 15 rfl rfl
theorem dL_law_1292 : decode cL_law 1292 = .ok (.pop, 1) := kqx.at kxa1270 kxq1270 16 rfl rfl
theorem dL_law_1293 : decode cL_law 1293 = .ok (.goto 663, 3) := kqx.at kxa1270 kxq1270 17 rfl rfl
theorem dL_law_1296 : decode cL_law 1296 = .ok (.aload_n 1, 1) := kqx.at kxa1270 kxq1270 18 rfl rfl
theorem dL_law_1297 : decode cL_law 1297 = .ok (.aload_n 0, 1) := kqx.at kxa1270 kxq1270 19 rfl rfl
theorem dL_law_1298 : decode cL_law 1298 = .ok (.iload_n 3, 1) := kqx.at kxa1270 kxq1270 20 rfl rfl
theorem dL_law_1299 : decode cL_law 1299 = .ok (.iconst 1, 1) := kqx.at kxa1270 kxq1270 21 rfl rfl
theorem dL_law_1300 : decode cL_law 1300 = .ok (.iadd, 1) := kqx.at kxa1270 kxq1270 22 rfl rfl
theorem dL_law_1301 : decode cL_law 1301 = .ok (.iaload, 1) := kqx.at kxa1270 kxq1270 23 rfl rfl
theorem dL_law_1302 : decode cL_law 1302 = .ok (.invokevirtual 170, 3) := kqx.at kxa1270 kxq1270 24 rfl rfl
theorem dL_law_1305 : decode cL_law 1305 = .ok (.pop, 1) := kqx.at kxa1270 kxq1270 25 rfl rfl
theorem dL_law_1306 : decode cL_law 1306 = .ok (.aload_n 2, 1) := kqx.at kxa1270 kxq1270 26 rfl rfl
theorem dL_law_1307 : decode cL_law 1307 = .ok (.aload_n 0, 1) := kqx.at kxa1270 kxq1270 27 rfl rfl
theorem dL_law_1308 : decode cL_law 1308 = .ok (.iload_n 3, 1) := kqx.at kxa1270 kxq1270 28 rfl rfl
theorem dL_law_1309 : decode cL_law 1309 = .ok (.iconst 1, 1) := kqx.at kxa1270 kxq1270 29 rfl rfl
theorem dL_law_1310 : decode cL_law 1310 = .ok (.iadd, 1) := kqx.at kxa1270 kxq1270 30 rfl rfl
theorem dL_law_1311 : decode cL_law 1311 = .ok (.iaload, 1) := kqx.at kxa1270 kxq1270 31 rfl rfl
theorem dL_law_1312 : decode cL_law 1312 = .ok (.invokevirtual 173, 3) := kqx.at kxa1270 kxq1270 32 rfl rfl
theorem dL_law_1315 : decode cL_law 1315 = .ok (.pop, 1) := kqx.at kxa1270 kxq1270 33 rfl rfl
theorem dL_law_1316 : decode cL_law 1316 = .ok (.goto 640, 3) := kqx.at kxa1270 kxq1270 34 rfl rfl
theorem dL_law_1319 : decode cL_law 1319 = .ok (.aload_n 1, 1) := kqx.at kxa1270 kxq1270 35 rfl rfl
theorem dL_law_1320 : decode cL_law 1320 = .ok (.invokevirtual 174, 3) := kqx.at kxa1270 kxq1270 36 rfl rfl
theorem dL_law_1323 : decode cL_law 1323 = .ok (.pop, 1) := kqx.at kxa1270 kxq1270 37 rfl rfl
theorem dL_law_1324 : decode cL_law 1324 = .ok (.aload_n 2, 1) := kqx.at kxa1270 kxq1270 38 rfl rfl
theorem dL_law_1325 : decode cL_law 1325 = .ok (.invokevirtual 177, 3) := kqx.at kxa1270 kxq1270 39 rfl rfl
theorem dL_law_1328 : decode cL_law 1328 = .ok (.pop, 1) := kqx.at kxa1270 kxq1270 40 rfl rfl
theorem dL_law_1329 : decode cL_law 1329 = .ok (.goto 627, 3) := kqx.at kxa1270 kxq1270 41 rfl rfl
theorem dL_law_1332 : decode cL_law 1332 = .ok (.aload_n 1, 1) := kqx.at kxa1270 kxq1270 42 rfl rfl
theorem dL_law_1333 : decode cL_law 1333 = .ok (.invokevirtual 178, 3) := kqx.at kxa1270 kxq1270 43 rfl rfl
theorem dL_law_1336 : decode cL_law 1336 = .ok (.pop, 1) := kqx.at kxa1270 kxq1270 44 rfl rfl
theorem dL_law_1337 : decode cL_law 1337 = .ok (.aload_n 2, 1) := kqx.at kxa1270 kxq1270 45 rfl rfl
theorem dL_law_1338 : decode cL_law 1338 = .ok (.invokevirtual 181, 3) := kqx.at kxa1270 kxq1270 46 rfl rfl
theorem dL_law_1341 : decode cL_law 1341 = .ok (.pop, 1) := kqx.at kxa1270 kxq1270 47 rfl rfl
theorem dL_law_1342 : decode cL_law 1342 = .ok (.goto 614, 3) := kqx.at kxa1270 kxq1270 48 rfl rfl
theorem dL_law_1345 : decode cL_law 1345 = .ok (.aload_n 1, 1) := kqx.at kxa1270 kxq1270 49 rfl rfl
theorem dL_law_1346 : decode cL_law 1346 = .ok (.aload_n 0, 1) := kqx.at kxa1270 kxq1270 50 rfl rfl
theorem dL_law_1347 : decode cL_law 1347 = .ok (.iload_n 3, 1) := kqx.at kxa1270 kxq1270 51 rfl rfl
theorem dL_law_1348 : decode cL_law 1348 = .ok (.iconst 1, 1) := kqx.at kxa1270 kxq1270 52 rfl rfl
theorem dL_law_1349 : decode cL_law 1349 = .ok (.iadd, 1) := kqx.at kxa1270 kxq1270 53 rfl rfl
theorem dL_law_1350 : decode cL_law 1350 = .ok (.iaload, 1) := kqx.at kxa1270 kxq1270 54 rfl rfl
theorem dL_law_1351 : decode cL_law 1351 = .ok (.invokevirtual 182, 3) := kqx.at kxa1270 kxq1270 55 rfl rfl
theorem dL_law_1354 : decode cL_law 1354 = .ok (.pop, 1) := kqx.at kxa1270 kxq1270 56 rfl rfl
theorem dL_law_1355 : decode cL_law 1355 = .ok (.aload_n 2, 1) := kqx.at kxa1270 kxq1270 57 rfl rfl
theorem dL_law_1356 : decode cL_law 1356 = .ok (.aload_n 0, 1) := kqx.at kxa1270 kxq1270 58 rfl rfl
theorem dL_law_1357 : decode cL_law 1357 = .ok (.iload_n 3, 1) := kqx.at kxa1270 kxq1270 59 rfl rfl
theorem dL_law_1358 : decode cL_law 1358 = .ok (.iconst 1, 1) := kqx.at kxa1270 kxq1270 60 rfl rfl
theorem dL_law_1359 : decode cL_law 1359 = .ok (.iadd, 1) := kqx.at kxa1270 kxq1270 61 rfl rfl
theorem dL_law_1360 : decode cL_law 1360 = .ok (.iaload, 1) := kqx.at kxa1270 kxq1270 62 rfl rfl
theorem dL_law_1361 : decode cL_law 1361 = .ok (.invokevirtual 185, 3) := kqx.at kxa1270 kxq1270 63 rfl rfl
theorem dL_law_1364 : decode cL_law 1364 = .ok (.pop, 1) := kqx.at kxa1270 kxq1270 64 rfl rfl
def kxd1365 : ByteArray := .mk #[0xa7, 0x2, 0x4f, 0x2b, 0x2a, 0x1d, 0x4, 0x60, 0x2e, 0xb6, 0x0, 0xba, 0x57, 0x2c, 0x2a, 0x1d, 0x4, 0x60, 0x2e, 0xb6, 0x0, 0xbd, 0x57, 0xa7, 0x2, 0x38, 0x2b, 0x2a, 0x1d, 0x4, 0x60, 0x2e, 0xb6, 0x0, 0xbe, 0x57, 0x2c, 0x2a, 0x1d, 0x4, 0x60, 0x2e, 0xb6, 0x0, 0xc1, 0x57, 0xa7, 0x2, 0x21, 0x2b, 0x2a, 0x1d, 0x4, 0x60, 0x2e, 0xb6, 0x0, 0xc2, 0x57, 0x2c, 0x2a, 0x1d, 0x4, 0x60, 0x2e, 0xb6, 0x0, 0xc5, 0x57, 0xa7, 0x2, 0xa, 0x2b, 0xb6, 0x0, 0xc6, 0x57, 0x2c, 0xb6, 0x0, 0xc9, 0x57, 0xa7, 0x1, 0xfd, 0x2b, 0xb6, 0x0, 0xca, 0x57, 0x2c, 0xb6, 0x0, 0xcd, 0x57]
theorem kxa1365 : kxA cL_law kxd1365 1365 := kxA.of (List.isPrefixOf_iff_prefix.1 (by decide +kernel))
theorem kxq1365 : kqx kxd1365 [(0, .goto 591, 3), (3, .aload_n 1, 1), (4, .aload_n 0, 1), (5, .iload_n 3, 1), (6, .iconst 1, 1), (7, .iadd, 1), (8, .iaload, 1), (9, .invokevirtual 186, 3), (12, .pop, 1), (13, .aload_n 2, 1), (14, .aload_n 0, 1), (15, .iload_n 3, 1), (16, .iconst 1, 1), (17, .iadd, 1), (18, .iaload, 1), (19, .invokevirtual 189, 3), (22, .pop, 1), (23, .goto 568, 3), (26, .aload_n 1, 1), (27, .aload_n 0, 1), (28, .iload_n 3, 1), (29, .iconst 1, 1), (30, .iadd, 1), (31, .iaload, 1), (32, .invokevirtual 190, 3), (35, .pop, 1), (36, .aload_n 2, 1), (37, .aload_n 0, 1), (38, .iload_n 3, 1), (39, .iconst 1, 1), (40, .iadd, 1), (41, .iaload, 1), (42, .invokevirtual 193, 3), (45, .pop, 1), (46, .goto 545, 3), (49, .aload_n 1, 1), (50, .aload_n 0, 1), (51, .iload_n 3, 1), (52, .iconst 1, 1), (53, .iadd, 1), (54, .iaload, 1), (55, .invokevirtual 194, 3), (58, .pop, 1), (59, .aload_n 2, 1), (60, .aload_n 0, 1), (61, .iload_n 3, 1), (62, .iconst 1, 1), (63, .iadd, 1), (64, .iaload, 1), (65, .invokevirtual 197, 3), (68, .pop, 1), (69, .goto 522, 3), (72, .aload_n 1, 1), (73, .invokevirtual 198, 3), (76, .pop, 1), (77, .aload_n 2, 1), (78, .invokevirtual 201, 3), (81, .pop, 1), (82, .goto 509, 3), (85, .aload_n 1, 1), (86, .invokevirtual 202, 3), (89, .pop, 1), (90, .aload_n 2, 1), (91, .invokevirtual 205, 3), (94, .pop, 1)] = true := by decide +kernel
theorem dL_law_1365 : decode cL_law 1365 = .ok (.goto 591, 3) := kqx.at kxa1365 kxq1365 0 rfl rfl
theorem dL_law_1368 : decode cL_law 1368 = .ok (.aload_n 1, 1) := kqx.at kxa1365 kxq1365 1 rfl rfl
theorem dL_law_1369 : decode cL_law 1369 = .ok (.aload_n 0, 1) := kqx.at kxa1365 kxq1365 2 rfl rfl
theorem dL_law_1370 : decode cL_law 1370 = .ok (.iload_n 3, 1) := kqx.at kxa1365 kxq1365 3 rfl rfl
theorem dL_law_1371 : decode cL_law 1371 = .ok (.iconst 1, 1) := kqx.at kxa1365 kxq1365 4 rfl rfl
theorem dL_law_1372 : decode cL_law 1372 = .ok (.iadd, 1) := kqx.at kxa1365 kxq1365 5 rfl rfl
theorem dL_law_1373 : decode cL_law 1373 = .ok (.iaload, 1) := kqx.at kxa1365 kxq1365 6 rfl rfl
theorem dL_law_1374 : decode cL_law 1374 = .ok (.invokevirtual 186, 3) := kqx.at kxa1365 kxq1365 7 rfl rfl
theorem dL_law_1377 : decode cL_law 1377 = .ok (.pop, 1) := kqx.at kxa1365 kxq1365 8 rfl rfl
theorem dL_law_1378 : decode cL_law 1378 = .ok (.aload_n 2, 1) := kqx.at kxa1365 kxq1365 9 rfl rfl
theorem dL_law_1379 : decode cL_law 1379 = .ok (.aload_n 0, 1) := kqx.at kxa1365 kxq1365 10 rfl rfl
theorem dL_law_1380 : decode cL_law 1380 = .ok (.iload_n 3, 1) := kqx.at kxa1365 kxq1365 11 rfl rfl
theorem dL_law_1381 : decode cL_law 1381 = .ok (.iconst 1, 1) := kqx.at kxa1365 kxq1365 12 rfl rfl
theorem dL_law_1382 : decode cL_law 1382 = .ok (.iadd, 1) := kqx.at kxa1365 kxq1365 13 rfl rfl
theorem dL_law_1383 : decode cL_law 1383 = .ok (.iaload, 1) := kqx.at kxa1365 kxq1365 14 rfl rfl
theorem dL_law_1384 : decode cL_law 1384 = .ok (.invokevirtual 189, 3) := kqx.at kxa1365 kxq1365 15 rfl rfl
theorem dL_law_1387 : decode cL_law 1387 = .ok (.pop, 1) := kqx.at kxa1365 kxq1365 16 rfl rfl
theorem dL_law_1388 : decode cL_law 1388 = .ok (.goto 568, 3) := kqx.at kxa1365 kxq1365 17 rfl rfl
theorem dL_law_1391 : decode cL_law 1391 = .ok (.aload_n 1, 1) := kqx.at kxa1365 kxq1365 18 rfl rfl
theorem dL_law_1392 : decode cL_law 1392 = .ok (.aload_n 0, 1) := kqx.at kxa1365 kxq1365 19 rfl rfl
theorem dL_law_1393 : decode cL_law 1393 = .ok (.iload_n 3, 1) := kqx.at kxa1365 kxq1365 20 rfl rfl
theorem dL_law_1394 : decode cL_law 1394 = .ok (.iconst 1, 1) := kqx.at kxa1365 kxq1365 21 rfl rfl
theorem dL_law_1395 : decode cL_law 1395 = .ok (.iadd, 1) := kqx.at kxa1365 kxq1365 22 rfl rfl
theorem dL_law_1396 : decode cL_law 1396 = .ok (.iaload, 1) := kqx.at kxa1365 kxq1365 23 rfl rfl
theorem dL_law_1397 : decode cL_law 1397 = .ok (.invokevirtual 190, 3) := kqx.at kxa1365 kxq1365 24 rfl rfl
theorem dL_law_1400 : decode cL_law 1400 = .ok (.pop, 1) := kqx.at kxa1365 kxq1365 25 rfl rfl
theorem dL_law_1401 : decode cL_law 1401 = .ok (.aload_n 2, 1) := kqx.at kxa1365 kxq1365 26 rfl rfl
theorem dL_law_1402 : decode cL_law 1402 = .ok (.aload_n 0, 1) := kqx.at kxa1365 kxq1365 27 rfl rfl
theorem dL_law_1403 : decode cL_law 1403 = .ok (.iload_n 3, 1) := kqx.at kxa1365 kxq1365 28 rfl rfl
theorem dL_law_1404 : decode cL_law 1404 = .ok (.iconst 1, 1) := kqx.at kxa1365 kxq1365 29 rfl rfl
theorem dL_law_1405 : decode cL_law 1405 = .ok (.iadd, 1) := kqx.at kxa1365 kxq1365 30 rfl rfl
theorem dL_law_1406 : decode cL_law 1406 = .ok (.iaload, 1) := kqx.at kxa1365 kxq1365 31 rfl rfl
theorem dL_law_1407 : decode cL_law 1407 = .ok (.invokevirtual 193, 3) := kqx.at kxa1365 kxq1365 32 rfl rfl
theorem dL_law_1410 : decode cL_law 1410 = .ok (.pop, 1) := kqx.at kxa1365 kxq1365 33 rfl rfl
theorem dL_law_1411 : decode cL_law 1411 = .ok (.goto 545, 3) := kqx.at kxa1365 kxq1365 34 rfl rfl
theorem dL_law_1414 : decode cL_law 1414 = .ok (.aload_n 1, 1) := kqx.at kxa1365 kxq1365 35 rfl rfl
theorem dL_law_1415 : decode cL_law 1415 = .ok (.aload_n 0, 1) := kqx.at kxa1365 kxq1365 36 rfl rfl
theorem dL_law_1416 : decode cL_law 1416 = .ok (.iload_n 3, 1) := kqx.at kxa1365 kxq1365 37 rfl rfl
theorem dL_law_1417 : decode cL_law 1417 = .ok (.iconst 1, 1) := kqx.at kxa1365 kxq1365 38 rfl rfl
theorem dL_law_1418 : decode cL_law 1418 = .ok (.iadd, 1) := kqx.at kxa1365 kxq1365 39 rfl rfl
theorem dL_law_1419 : decode cL_law 1419 = .ok (.iaload, 1) := kqx.at kxa1365 kxq1365 40 rfl rfl
theorem dL_law_1420 : decode cL_law 1420 = .ok (.invokevirtual 194, 3) := kqx.at kxa1365 kxq1365 41 rfl rfl
theorem dL_law_1423 : decode cL_law 1423 = .ok (.pop, 1) := kqx.at kxa1365 kxq1365 42 rfl rfl
theorem dL_law_1424 : decode cL_law 1424 = .ok (.aload_n 2, 1) := kqx.at kxa1365 kxq1365 43 rfl rfl
theorem dL_law_1425 : decode cL_law 1425 = .ok (.aload_n 0, 1) := kqx.at kxa1365 kxq1365 44 rfl rfl
theorem dL_law_1426 : decode cL_law 1426 = .ok (.iload_n 3, 1) := kqx.at kxa1365 kxq1365 45 rfl rfl
theorem dL_law_1427 : decode cL_law 1427 = .ok (.iconst 1, 1) := kqx.at kxa1365 kxq1365 46 rfl rfl
theorem dL_law_1428 : decode cL_law 1428 = .ok (.iadd, 1) := kqx.at kxa1365 kxq1365 47 rfl rfl
theorem dL_law_1429 : decode cL_law 1429 = .ok (.iaload, 1) := kqx.at kxa1365 kxq1365 48 rfl rfl
theorem dL_law_1430 : decode cL_law 1430 = .ok (.invokevirtual 197, 3) := kqx.at kxa1365 kxq1365 49 rfl rfl
theorem dL_law_1433 : decode cL_law 1433 = .ok (.pop, 1) := kqx.at kxa1365 kxq1365 50 rfl rfl
theorem dL_law_1434 : decode cL_law 1434 = .ok (.goto 522, 3) := kqx.at kxa1365 kxq1365 51 rfl rfl
theorem dL_law_1437 : decode cL_law 1437 = .ok (.aload_n 1, 1) := kqx.at kxa1365 kxq1365 52 rfl rfl
theorem dL_law_1438 : decode cL_law 1438 = .ok (.invokevirtual 198, 3) := kqx.at kxa1365 kxq1365 53 rfl rfl
theorem dL_law_1441 : decode cL_law 1441 = .ok (.pop, 1) := kqx.at kxa1365 kxq1365 54 rfl rfl
theorem dL_law_1442 : decode cL_law 1442 = .ok (.aload_n 2, 1) := kqx.at kxa1365 kxq1365 55 rfl rfl
theorem dL_law_1443 : decode cL_law 1443 = .ok (.invokevirtual 201, 3) := kqx.at kxa1365 kxq1365 56 rfl rfl
theorem dL_law_1446 : decode cL_law 1446 = .ok (.pop, 1) := kqx.at kxa1365 kxq1365 57 rfl rfl
theorem dL_law_1447 : decode cL_law 1447 = .ok (.goto 509, 3) := kqx.at kxa1365 kxq1365 58 rfl rfl
theorem dL_law_1450 : decode cL_law 1450 = .ok (.aload_n 1, 1) := kqx.at kxa1365 kxq1365 59 rfl rfl
theorem dL_law_1451 : decode cL_law 1451 = .ok (.invokevirtual 202, 3) := kqx.at kxa1365 kxq1365 60 rfl rfl
theorem dL_law_1454 : decode cL_law 1454 = .ok (.pop, 1) := kqx.at kxa1365 kxq1365 61 rfl rfl
theorem dL_law_1455 : decode cL_law 1455 = .ok (.aload_n 2, 1) := kqx.at kxa1365 kxq1365 62 rfl rfl
theorem dL_law_1456 : decode cL_law 1456 = .ok (.invokevirtual 205, 3) := kqx.at kxa1365 kxq1365 63 rfl rfl
theorem dL_law_1459 : decode cL_law 1459 = .ok (.pop, 1) := kqx.at kxa1365 kxq1365 64 rfl rfl
def kxd1460 : ByteArray := .mk #[0xa7, 0x1, 0xf0, 0x2b, 0xb6, 0x0, 0xce, 0x57, 0x2c, 0xb6, 0x0, 0xd1, 0x57, 0xa7, 0x1, 0xe3, 0x2b, 0x2a, 0x1d, 0x4, 0x60, 0x2e, 0x2a, 0x1d, 0x5, 0x60, 0x2e, 0xb6, 0x0, 0xd2, 0x57, 0x2c, 0x2a, 0x1d, 0x4, 0x60, 0x2e, 0x2a, 0x1d, 0x5, 0x60, 0x2e, 0xb6, 0x0, 0xd5, 0x57, 0xa7, 0x1, 0xc2, 0x2b, 0x2a, 0x1d, 0x4, 0x60, 0x2e, 0x2a, 0x1d, 0x5, 0x60, 0x2e, 0xb6, 0x0, 0xd6, 0x57, 0x2c, 0x2a, 0x1d, 0x4, 0x60, 0x2e, 0x2a, 0x1d, 0x5, 0x60, 0x2e, 0xb6, 0x0, 0xd9, 0x57, 0xa7, 0x1, 0xa1, 0x2b, 0x2a, 0x1d, 0x4, 0x60, 0x2e, 0xb6, 0x0, 0xda, 0x57, 0x2c, 0x2a, 0x1d, 0x4]
theorem kxa1460 : kxA cL_law kxd1460 1460 := kxA.of (List.isPrefixOf_iff_prefix.1 (by decide +kernel))
theorem kxq1460 : kqx kxd1460 [(0, .goto 496, 3), (3, .aload_n 1, 1), (4, .invokevirtual 206, 3), (7, .pop, 1), (8, .aload_n 2, 1), (9, .invokevirtual 209, 3), (12, .pop, 1), (13, .goto 483, 3), (16, .aload_n 1, 1), (17, .aload_n 0, 1), (18, .iload_n 3, 1), (19, .iconst 1, 1), (20, .iadd, 1), (21, .iaload, 1), (22, .aload_n 0, 1), (23, .iload_n 3, 1), (24, .iconst 2, 1), (25, .iadd, 1), (26, .iaload, 1), (27, .invokevirtual 210, 3), (30, .pop, 1), (31, .aload_n 2, 1), (32, .aload_n 0, 1), (33, .iload_n 3, 1), (34, .iconst 1, 1), (35, .iadd, 1), (36, .iaload, 1), (37, .aload_n 0, 1), (38, .iload_n 3, 1), (39, .iconst 2, 1), (40, .iadd, 1), (41, .iaload, 1), (42, .invokevirtual 213, 3), (45, .pop, 1), (46, .goto 450, 3), (49, .aload_n 1, 1), (50, .aload_n 0, 1), (51, .iload_n 3, 1), (52, .iconst 1, 1), (53, .iadd, 1), (54, .iaload, 1), (55, .aload_n 0, 1), (56, .iload_n 3, 1), (57, .iconst 2, 1), (58, .iadd, 1), (59, .iaload, 1), (60, .invokevirtual 214, 3), (63, .pop, 1), (64, .aload_n 2, 1), (65, .aload_n 0, 1), (66, .iload_n 3, 1), (67, .iconst 1, 1), (68, .iadd, 1), (69, .iaload, 1), (70, .aload_n 0, 1), (71, .iload_n 3, 1), (72, .iconst 2, 1), (73, .iadd, 1), (74, .iaload, 1), (75, .invokevirtual 217, 3), (78, .pop, 1), (79, .goto 417, 3), (82, .aload_n 1, 1), (83, .aload_n 0, 1), (84, .iload_n 3, 1), (85, .iconst 1, 1), (86, .iadd, 1), (87, .iaload, 1), (88, .invokevirtual 218, 3), (91, .pop, 1), (92, .aload_n 2, 1), (93, .aload_n 0, 1), (94, .iload_n 3, 1), (95, .iconst 1, 1)] = true := by decide +kernel
theorem dL_law_1460 : decode cL_law 1460 = .ok (.goto 496, 3) := kqx.at kxa1460 kxq1460 0 rfl rfl
theorem dL_law_1463 : decode cL_law 1463 = .ok (.aload_n 1, 1) := kqx.at kxa1460 kxq1460 1 rfl rfl
theorem dL_law_1464 : decode cL_law 1464 = .ok (.invokevirtual 206, 3) := kqx.at kxa1460 kxq1460 2 rfl rfl
theorem dL_law_1467 : decode cL_law 1467 = .ok (.pop, 1) := kqx.at kxa1460 kxq1460 3 rfl rfl
theorem dL_law_1468 : decode cL_law 1468 = .ok (.aload_n 2, 1) := kqx.at kxa1460 kxq1460 4 rfl rfl
theorem dL_law_1469 : decode cL_law 1469 = .ok (.invokevirtual 209, 3) := kqx.at kxa1460 kxq1460 5 rfl rfl
theorem dL_law_1472 : decode cL_law 1472 = .ok (.pop, 1) := kqx.at kxa1460 kxq1460 6 rfl rfl
theorem dL_law_1473 : decode cL_law 1473 = .ok (.goto 483, 3) := kqx.at kxa1460 kxq1460 7 rfl rfl
theorem dL_law_1476 : decode cL_law 1476 = .ok (.aload_n 1, 1) := kqx.at kxa1460 kxq1460 8 rfl rfl
theorem dL_law_1477 : decode cL_law 1477 = .ok (.aload_n 0, 1) := kqx.at kxa1460 kxq1460 9 rfl rfl
theorem dL_law_1478 : decode cL_law 1478 = .ok (.iload_n 3, 1) := kqx.at kxa1460 kxq1460 10 rfl rfl
theorem dL_law_1479 : decode cL_law 1479 = .ok (.iconst 1, 1) := kqx.at kxa1460 kxq1460 11 rfl rfl
theorem dL_law_1480 : decode cL_law 1480 = .ok (.iadd, 1) := kqx.at kxa1460 kxq1460 12 rfl rfl
theorem dL_law_1481 : decode cL_law 1481 = .ok (.iaload, 1) := kqx.at kxa1460 kxq1460 13 rfl rfl
theorem dL_law_1482 : decode cL_law 1482 = .ok (.aload_n 0, 1) := kqx.at kxa1460 kxq1460 14 rfl rfl
theorem dL_law_1483 : decode cL_law 1483 = .ok (.iload_n 3, 1) := kqx.at kxa1460 kxq1460 15 rfl rfl
theorem dL_law_1484 : decode cL_law 1484 = .ok (.iconst 2, 1) := kqx.at kxa1460 kxq1460 16 rfl rfl
theorem dL_law_1485 : decode cL_law 1485 = .ok (.iadd, 1) := kqx.at kxa1460 kxq1460 17 rfl rfl
theorem dL_law_1486 : decode cL_law 1486 = .ok (.iaload, 1) := kqx.at kxa1460 kxq1460 18 rfl rfl
theorem dL_law_1487 : decode cL_law 1487 = .ok (.invokevirtual 210, 3) := kqx.at kxa1460 kxq1460 19 rfl rfl
theorem dL_law_1490 : decode cL_law 1490 = .ok (.pop, 1) := kqx.at kxa1460 kxq1460 20 rfl rfl
theorem dL_law_1491 : decode cL_law 1491 = .ok (.aload_n 2, 1) := kqx.at kxa1460 kxq1460 21 rfl rfl
theorem dL_law_1492 : decode cL_law 1492 = .ok (.aload_n 0, 1) := kqx.at kxa1460 kxq1460 22 rfl rfl
theorem dL_law_1493 : decode cL_law 1493 = .ok (.iload_n 3, 1) := kqx.at kxa1460 kxq1460 23 rfl rfl
theorem dL_law_1494 : decode cL_law 1494 = .ok (.iconst 1, 1) := kqx.at kxa1460 kxq1460 24 rfl rfl
theorem dL_law_1495 : decode cL_law 1495 = .ok (.iadd, 1) := kqx.at kxa1460 kxq1460 25 rfl rfl
theorem dL_law_1496 : decode cL_law 1496 = .ok (.iaload, 1) := kqx.at kxa1460 kxq1460 26 rfl rfl
theorem dL_law_1497 : decode cL_law 1497 = .ok (.aload_n 0, 1) := kqx.at kxa1460 kxq1460 27 rfl rfl
theorem dL_law_1498 : decode cL_law 1498 = .ok (.iload_n 3, 1) := kqx.at kxa1460 kxq1460 28 rfl rfl
theorem dL_law_1499 : decode cL_law 1499 = .ok (.iconst 2, 1) := kqx.at kxa1460 kxq1460 29 rfl rfl
theorem dL_law_1500 : decode cL_law 1500 = .ok (.iadd, 1) := kqx.at kxa1460 kxq1460 30 rfl rfl
theorem dL_law_1501 : decode cL_law 1501 = .ok (.iaload, 1) := kqx.at kxa1460 kxq1460 31 rfl rfl
theorem dL_law_1502 : decode cL_law 1502 = .ok (.invokevirtual 213, 3) := kqx.at kxa1460 kxq1460 32 rfl rfl
theorem dL_law_1505 : decode cL_law 1505 = .ok (.pop, 1) := kqx.at kxa1460 kxq1460 33 rfl rfl
theorem dL_law_1506 : decode cL_law 1506 = .ok (.goto 450, 3) := kqx.at kxa1460 kxq1460 34 rfl rfl
theorem dL_law_1509 : decode cL_law 1509 = .ok (.aload_n 1, 1) := kqx.at kxa1460 kxq1460 35 rfl rfl
theorem dL_law_1510 : decode cL_law 1510 = .ok (.aload_n 0, 1) := kqx.at kxa1460 kxq1460 36 rfl rfl
theorem dL_law_1511 : decode cL_law 1511 = .ok (.iload_n 3, 1) := kqx.at kxa1460 kxq1460 37 rfl rfl
theorem dL_law_1512 : decode cL_law 1512 = .ok (.iconst 1, 1) := kqx.at kxa1460 kxq1460 38 rfl rfl
theorem dL_law_1513 : decode cL_law 1513 = .ok (.iadd, 1) := kqx.at kxa1460 kxq1460 39 rfl rfl
theorem dL_law_1514 : decode cL_law 1514 = .ok (.iaload, 1) := kqx.at kxa1460 kxq1460 40 rfl rfl
theorem dL_law_1515 : decode cL_law 1515 = .ok (.aload_n 0, 1) := kqx.at kxa1460 kxq1460 41 rfl rfl
theorem dL_law_1516 : decode cL_law 1516 = .ok (.iload_n 3, 1) := kqx.at kxa1460 kxq1460 42 rfl rfl
theorem dL_law_1517 : decode cL_law 1517 = .ok (.iconst 2, 1) := kqx.at kxa1460 kxq1460 43 rfl rfl
theorem dL_law_1518 : decode cL_law 1518 = .ok (.iadd, 1) := kqx.at kxa1460 kxq1460 44 rfl rfl
theorem dL_law_1519 : decode cL_law 1519 = .ok (.iaload, 1) := kqx.at kxa1460 kxq1460 45 rfl rfl
theorem dL_law_1520 : decode cL_law 1520 = .ok (.invokevirtual 214, 3) := kqx.at kxa1460 kxq1460 46 rfl rfl
theorem dL_law_1523 : decode cL_law 1523 = .ok (.pop, 1) := kqx.at kxa1460 kxq1460 47 rfl rfl
theorem dL_law_1524 : decode cL_law 1524 = .ok (.aload_n 2, 1) := kqx.at kxa1460 kxq1460 48 rfl rfl
theorem dL_law_1525 : decode cL_law 1525 = .ok (.aload_n 0, 1) := kqx.at kxa1460 kxq1460 49 rfl rfl
theorem dL_law_1526 : decode cL_law 1526 = .ok (.iload_n 3, 1) := kqx.at kxa1460 kxq1460 50 rfl rfl
theorem dL_law_1527 : decode cL_law 1527 = .ok (.iconst 1, 1) := kqx.at kxa1460 kxq1460 51 rfl rfl
theorem dL_law_1528 : decode cL_law 1528 = .ok (.iadd, 1) := kqx.at kxa1460 kxq1460 52 rfl rfl
theorem dL_law_1529 : decode cL_law 1529 = .ok (.iaload, 1) := kqx.at kxa1460 kxq1460 53 rfl rfl
theorem dL_law_1530 : decode cL_law 1530 = .ok (.aload_n 0, 1) := kqx.at kxa1460 kxq1460 54 rfl rfl
theorem dL_law_1531 : decode cL_law 1531 = .ok (.iload_n 3, 1) := kqx.at kxa1460 kxq1460 55 rfl rfl
theorem dL_law_1532 : decode cL_law 1532 = .ok (.iconst 2, 1) := kqx.at kxa1460 kxq1460 56 rfl rfl
theorem dL_law_1533 : decode cL_law 1533 = .ok (.iadd, 1) := kqx.at kxa1460 kxq1460 57 rfl rfl
theorem dL_law_1534 : decode cL_law 1534 = .ok (.iaload, 1) := kqx.at kxa1460 kxq1460 58 rfl rfl
theorem dL_law_1535 : decode cL_law 1535 = .ok (.invokevirtual 217, 3) := kqx.at kxa1460 kxq1460 59 rfl rfl
theorem dL_law_1538 : decode cL_law 1538 = .ok (.pop, 1) := kqx.at kxa1460 kxq1460 60 rfl rfl
theorem dL_law_1539 : decode cL_law 1539 = .ok (.goto 417, 3) := kqx.at kxa1460 kxq1460 61 rfl rfl
theorem dL_law_1542 : decode cL_law 1542 = .ok (.aload_n 1, 1) := kqx.at kxa1460 kxq1460 62 rfl rfl
theorem dL_law_1543 : decode cL_law 1543 = .ok (.aload_n 0, 1) := kqx.at kxa1460 kxq1460 63 rfl rfl
theorem dL_law_1544 : decode cL_law 1544 = .ok (.iload_n 3, 1) := kqx.at kxa1460 kxq1460 64 rfl rfl
theorem dL_law_1545 : decode cL_law 1545 = .ok (.iconst 1, 1) := kqx.at kxa1460 kxq1460 65 rfl rfl
theorem dL_law_1546 : decode cL_law 1546 = .ok (.iadd, 1) := kqx.at kxa1460 kxq1460 66 rfl rfl
theorem dL_law_1547 : decode cL_law 1547 = .ok (.iaload, 1) := kqx.at kxa1460 kxq1460 67 rfl rfl
theorem dL_law_1548 : decode cL_law 1548 = .ok (.invokevirtual 218, 3) := kqx.at kxa1460 kxq1460 68 rfl rfl
theorem dL_law_1551 : decode cL_law 1551 = .ok (.pop, 1) := kqx.at kxa1460 kxq1460 69 rfl rfl
theorem dL_law_1552 : decode cL_law 1552 = .ok (.aload_n 2, 1) := kqx.at kxa1460 kxq1460 70 rfl rfl
theorem dL_law_1553 : decode cL_law 1553 = .ok (.aload_n 0, 1) := kqx.at kxa1460 kxq1460 71 rfl rfl
theorem dL_law_1554 : decode cL_law 1554 = .ok (.iload_n 3, 1) := kqx.at kxa1460 kxq1460 72 rfl rfl
theorem dL_law_1555 : decode cL_law 1555 = .ok (.iconst 1, 1) := kqx.at kxa1460 kxq1460 73 rfl rfl
def kxd1556 : ByteArray := .mk #[0x60, 0x2e, 0xb6, 0x0, 0xdd, 0x57, 0xa7, 0x1, 0x8a, 0x2b, 0xb6, 0x0, 0xde, 0x57, 0x2c, 0xb6, 0x0, 0xe1, 0x57, 0xa7, 0x1, 0x7d, 0x2b, 0x2a, 0x1d, 0x4, 0x60, 0x2e, 0x2a, 0x1d, 0x5, 0x60, 0x2e, 0xb6, 0x0, 0xe2, 0x2c, 0x2a, 0x1d, 0x4, 0x60, 0x2e, 0x2a, 0x1d, 0x5, 0x60, 0x2e, 0xb6, 0x0, 0xe5, 0x9f, 0x1, 0x5e, 0x3, 0xac, 0x2b, 0x2a, 0x1d, 0x4, 0x60, 0x2e, 0x2a, 0x1d, 0x5, 0x60, 0x2e, 0x2a, 0x1d, 0x6, 0x60, 0x2e, 0xb6, 0x0, 0xe6, 0x57, 0x2c, 0x2a, 0x1d, 0x4, 0x60, 0x2e, 0x2a, 0x1d, 0x5, 0x60, 0x2e, 0x2a, 0x1d, 0x6, 0x60, 0x2e, 0xb6, 0x0, 0xe9, 0x57]
theorem kxa1556 : kxA cL_law kxd1556 1556 := kxA.of (List.isPrefixOf_iff_prefix.1 (by decide +kernel))
theorem kxq1556 : kqx kxd1556 [(0, .iadd, 1), (1, .iaload, 1), (2, .invokevirtual 221, 3), (5, .pop, 1), (6, .goto 394, 3), (9, .aload_n 1, 1), (10, .invokevirtual 222, 3), (13, .pop, 1), (14, .aload_n 2, 1), (15, .invokevirtual 225, 3), (18, .pop, 1), (19, .goto 381, 3), (22, .aload_n 1, 1), (23, .aload_n 0, 1), (24, .iload_n 3, 1), (25, .iconst 1, 1), (26, .iadd, 1), (27, .iaload, 1), (28, .aload_n 0, 1), (29, .iload_n 3, 1), (30, .iconst 2, 1), (31, .iadd, 1), (32, .iaload, 1), (33, .invokevirtual 226, 3), (36, .aload_n 2, 1), (37, .aload_n 0, 1), (38, .iload_n 3, 1), (39, .iconst 1, 1), (40, .iadd, 1), (41, .iaload, 1), (42, .aload_n 0, 1), (43, .iload_n 3, 1), (44, .iconst 2, 1), (45, .iadd, 1), (46, .iaload, 1), (47, .invokevirtual 229, 3), (53, .iconst 0, 1), (55, .aload_n 1, 1), (56, .aload_n 0, 1), (57, .iload_n 3, 1), (58, .iconst 1, 1), (59, .iadd, 1), (60, .iaload, 1), (61, .aload_n 0, 1), (62, .iload_n 3, 1), (63, .iconst 2, 1), (64, .iadd, 1), (65, .iaload, 1), (66, .aload_n 0, 1), (67, .iload_n 3, 1), (68, .iconst 3, 1), (69, .iadd, 1), (70, .iaload, 1), (71, .invokevirtual 230, 3), (74, .pop, 1), (75, .aload_n 2, 1), (76, .aload_n 0, 1), (77, .iload_n 3, 1), (78, .iconst 1, 1), (79, .iadd, 1), (80, .iaload, 1), (81, .aload_n 0, 1), (82, .iload_n 3, 1), (83, .iconst 2, 1), (84, .iadd, 1), (85, .iaload, 1), (86, .aload_n 0, 1), (87, .iload_n 3, 1), (88, .iconst 3, 1), (89, .iadd, 1), (90, .iaload, 1), (91, .invokevirtual 233, 3), (94, .pop, 1)] = true := by decide +kernel
theorem dL_law_1556 : decode cL_law 1556 = .ok (.iadd, 1) := kqx.at kxa1556 kxq1556 0 rfl rfl
theorem dL_law_1557 : decode cL_law 1557 = .ok (.iaload, 1) := kqx.at kxa1556 kxq1556 1 rfl rfl
theorem dL_law_1558 : decode cL_law 1558 = .ok (.invokevirtual 221, 3) := kqx.at kxa1556 kxq1556 2 rfl rfl
theorem dL_law_1561 : decode cL_law 1561 = .ok (.pop, 1) := kqx.at kxa1556 kxq1556 3 rfl rfl
theorem dL_law_1562 : decode cL_law 1562 = .ok (.goto 394, 3) := kqx.at kxa1556 kxq1556 4 rfl rfl
theorem dL_law_1565 : decode cL_law 1565 = .ok (.aload_n 1, 1) := kqx.at kxa1556 kxq1556 5 rfl rfl
theorem dL_law_1566 : decode cL_law 1566 = .ok (.invokevirtual 222, 3) := kqx.at kxa1556 kxq1556 6 rfl rfl
theorem dL_law_1569 : decode cL_law 1569 = .ok (.pop, 1) := kqx.at kxa1556 kxq1556 7 rfl rfl
theorem dL_law_1570 : decode cL_law 1570 = .ok (.aload_n 2, 1) := kqx.at kxa1556 kxq1556 8 rfl rfl
theorem dL_law_1571 : decode cL_law 1571 = .ok (.invokevirtual 225, 3) := kqx.at kxa1556 kxq1556 9 rfl rfl
theorem dL_law_1574 : decode cL_law 1574 = .ok (.pop, 1) := kqx.at kxa1556 kxq1556 10 rfl rfl
theorem dL_law_1575 : decode cL_law 1575 = .ok (.goto 381, 3) := kqx.at kxa1556 kxq1556 11 rfl rfl
theorem dL_law_1578 : decode cL_law 1578 = .ok (.aload_n 1, 1) := kqx.at kxa1556 kxq1556 12 rfl rfl
theorem dL_law_1579 : decode cL_law 1579 = .ok (.aload_n 0, 1) := kqx.at kxa1556 kxq1556 13 rfl rfl
theorem dL_law_1580 : decode cL_law 1580 = .ok (.iload_n 3, 1) := kqx.at kxa1556 kxq1556 14 rfl rfl
theorem dL_law_1581 : decode cL_law 1581 = .ok (.iconst 1, 1) := kqx.at kxa1556 kxq1556 15 rfl rfl
theorem dL_law_1582 : decode cL_law 1582 = .ok (.iadd, 1) := kqx.at kxa1556 kxq1556 16 rfl rfl
theorem dL_law_1583 : decode cL_law 1583 = .ok (.iaload, 1) := kqx.at kxa1556 kxq1556 17 rfl rfl
theorem dL_law_1584 : decode cL_law 1584 = .ok (.aload_n 0, 1) := kqx.at kxa1556 kxq1556 18 rfl rfl
theorem dL_law_1585 : decode cL_law 1585 = .ok (.iload_n 3, 1) := kqx.at kxa1556 kxq1556 19 rfl rfl
theorem dL_law_1586 : decode cL_law 1586 = .ok (.iconst 2, 1) := kqx.at kxa1556 kxq1556 20 rfl rfl
theorem dL_law_1587 : decode cL_law 1587 = .ok (.iadd, 1) := kqx.at kxa1556 kxq1556 21 rfl rfl
theorem dL_law_1588 : decode cL_law 1588 = .ok (.iaload, 1) := kqx.at kxa1556 kxq1556 22 rfl rfl
theorem dL_law_1589 : decode cL_law 1589 = .ok (.invokevirtual 226, 3) := kqx.at kxa1556 kxq1556 23 rfl rfl
theorem dL_law_1592 : decode cL_law 1592 = .ok (.aload_n 2, 1) := kqx.at kxa1556 kxq1556 24 rfl rfl
theorem dL_law_1593 : decode cL_law 1593 = .ok (.aload_n 0, 1) := kqx.at kxa1556 kxq1556 25 rfl rfl
theorem dL_law_1594 : decode cL_law 1594 = .ok (.iload_n 3, 1) := kqx.at kxa1556 kxq1556 26 rfl rfl
theorem dL_law_1595 : decode cL_law 1595 = .ok (.iconst 1, 1) := kqx.at kxa1556 kxq1556 27 rfl rfl
theorem dL_law_1596 : decode cL_law 1596 = .ok (.iadd, 1) := kqx.at kxa1556 kxq1556 28 rfl rfl
theorem dL_law_1597 : decode cL_law 1597 = .ok (.iaload, 1) := kqx.at kxa1556 kxq1556 29 rfl rfl
theorem dL_law_1598 : decode cL_law 1598 = .ok (.aload_n 0, 1) := kqx.at kxa1556 kxq1556 30 rfl rfl
theorem dL_law_1599 : decode cL_law 1599 = .ok (.iload_n 3, 1) := kqx.at kxa1556 kxq1556 31 rfl rfl
theorem dL_law_1600 : decode cL_law 1600 = .ok (.iconst 2, 1) := kqx.at kxa1556 kxq1556 32 rfl rfl
theorem dL_law_1601 : decode cL_law 1601 = .ok (.iadd, 1) := kqx.at kxa1556 kxq1556 33 rfl rfl
theorem dL_law_1602 : decode cL_law 1602 = .ok (.iaload, 1) := kqx.at kxa1556 kxq1556 34 rfl rfl
theorem dL_law_1603 : decode cL_law 1603 = .ok (.invokevirtual 229, 3) := kqx.at kxa1556 kxq1556 35 rfl rfl
theorem dL_law_1609 : decode cL_law 1609 = .ok (.iconst 0, 1) := kqx.at kxa1556 kxq1556 36 rfl rfl
theorem dL_law_1611 : decode cL_law 1611 = .ok (.aload_n 1, 1) := kqx.at kxa1556 kxq1556 37 rfl rfl
theorem dL_law_1612 : decode cL_law 1612 = .ok (.aload_n 0, 1) := kqx.at kxa1556 kxq1556 38 rfl rfl
theorem dL_law_1613 : decode cL_law 1613 = .ok (.iload_n 3, 1) := kqx.at kxa1556 kxq1556 39 rfl rfl
theorem dL_law_1614 : decode cL_law 1614 = .ok (.iconst 1, 1) := kqx.at kxa1556 kxq1556 40 rfl rfl
theorem dL_law_1615 : decode cL_law 1615 = .ok (.iadd, 1) := kqx.at kxa1556 kxq1556 41 rfl rfl
theorem dL_law_1616 : decode cL_law 1616 = .ok (.iaload, 1) := kqx.at kxa1556 kxq1556 42 rfl rfl
theorem dL_law_1617 : decode cL_law 1617 = .ok (.aload_n 0, 1) := kqx.at kxa1556 kxq1556 43 rfl rfl
theorem dL_law_1618 : decode cL_law 1618 = .ok (.iload_n 3, 1) := kqx.at kxa1556 kxq1556 44 rfl rfl
theorem dL_law_1619 : decode cL_law 1619 = .ok (.iconst 2, 1) := kqx.at kxa1556 kxq1556 45 rfl rfl
theorem dL_law_1620 : decode cL_law 1620 = .ok (.iadd, 1) := kqx.at kxa1556 kxq1556 46 rfl rfl
theorem dL_law_1621 : decode cL_law 1621 = .ok (.iaload, 1) := kqx.at kxa1556 kxq1556 47 rfl rfl
theorem dL_law_1622 : decode cL_law 1622 = .ok (.aload_n 0, 1) := kqx.at kxa1556 kxq1556 48 rfl rfl
theorem dL_law_1623 : decode cL_law 1623 = .ok (.iload_n 3, 1) := kqx.at kxa1556 kxq1556 49 rfl rfl
theorem dL_law_1624 : decode cL_law 1624 = .ok (.iconst 3, 1) := kqx.at kxa1556 kxq1556 50 rfl rfl
theorem dL_law_1625 : decode cL_law 1625 = .ok (.iadd, 1) := kqx.at kxa1556 kxq1556 51 rfl rfl
theorem dL_law_1626 : decode cL_law 1626 = .ok (.iaload, 1) := kqx.at kxa1556 kxq1556 52 rfl rfl
theorem dL_law_1627 : decode cL_law 1627 = .ok (.invokevirtual 230, 3) := kqx.at kxa1556 kxq1556 53 rfl rfl
theorem dL_law_1630 : decode cL_law 1630 = .ok (.pop, 1) := kqx.at kxa1556 kxq1556 54 rfl rfl
theorem dL_law_1631 : decode cL_law 1631 = .ok (.aload_n 2, 1) := kqx.at kxa1556 kxq1556 55 rfl rfl
theorem dL_law_1632 : decode cL_law 1632 = .ok (.aload_n 0, 1) := kqx.at kxa1556 kxq1556 56 rfl rfl
theorem dL_law_1633 : decode cL_law 1633 = .ok (.iload_n 3, 1) := kqx.at kxa1556 kxq1556 57 rfl rfl
theorem dL_law_1634 : decode cL_law 1634 = .ok (.iconst 1, 1) := kqx.at kxa1556 kxq1556 58 rfl rfl
theorem dL_law_1635 : decode cL_law 1635 = .ok (.iadd, 1) := kqx.at kxa1556 kxq1556 59 rfl rfl
theorem dL_law_1636 : decode cL_law 1636 = .ok (.iaload, 1) := kqx.at kxa1556 kxq1556 60 rfl rfl
theorem dL_law_1637 : decode cL_law 1637 = .ok (.aload_n 0, 1) := kqx.at kxa1556 kxq1556 61 rfl rfl
theorem dL_law_1638 : decode cL_law 1638 = .ok (.iload_n 3, 1) := kqx.at kxa1556 kxq1556 62 rfl rfl
theorem dL_law_1639 : decode cL_law 1639 = .ok (.iconst 2, 1) := kqx.at kxa1556 kxq1556 63 rfl rfl
theorem dL_law_1640 : decode cL_law 1640 = .ok (.iadd, 1) := kqx.at kxa1556 kxq1556 64 rfl rfl
theorem dL_law_1641 : decode cL_law 1641 = .ok (.iaload, 1) := kqx.at kxa1556 kxq1556 65 rfl rfl
theorem dL_law_1642 : decode cL_law 1642 = .ok (.aload_n 0, 1) := kqx.at kxa1556 kxq1556 66 rfl rfl
theorem dL_law_1643 : decode cL_law 1643 = .ok (.iload_n 3, 1) := kqx.at kxa1556 kxq1556 67 rfl rfl
theorem dL_law_1644 : decode cL_law 1644 = .ok (.iconst 3, 1) := kqx.at kxa1556 kxq1556 68 rfl rfl
theorem dL_law_1645 : decode cL_law 1645 = .ok (.iadd, 1) := kqx.at kxa1556 kxq1556 69 rfl rfl
theorem dL_law_1646 : decode cL_law 1646 = .ok (.iaload, 1) := kqx.at kxa1556 kxq1556 70 rfl rfl
theorem dL_law_1647 : decode cL_law 1647 = .ok (.invokevirtual 233, 3) := kqx.at kxa1556 kxq1556 71 rfl rfl
theorem dL_law_1650 : decode cL_law 1650 = .ok (.pop, 1) := kqx.at kxa1556 kxq1556 72 rfl rfl
def kxd1651 : ByteArray := .mk #[0xa7, 0x1, 0x31, 0x2b, 0x2a, 0x1d, 0x4, 0x60, 0x2e, 0xb6, 0x0, 0xea, 0x57, 0x2c, 0x2a, 0x1d, 0x4, 0x60, 0x2e, 0xb6, 0x0, 0xed, 0x57, 0xa7, 0x1, 0x1a, 0x2b, 0x2a, 0x1d, 0x4, 0x60, 0x2e, 0xb6, 0x0, 0xee, 0x57, 0x2c, 0x2a, 0x1d, 0x4, 0x60, 0x2e, 0xb6, 0x0, 0xf1, 0x57, 0xa7, 0x1, 0x3, 0x2b, 0xb6, 0x0, 0xf2, 0x57, 0x2c, 0xb6, 0x0, 0xf5, 0x57, 0xa7, 0x0, 0xf6, 0x2b, 0x2a, 0x1d, 0x4, 0x60, 0x2e, 0x2a, 0x1d, 0x5, 0x60, 0x2e, 0xb6, 0x0, 0xf6, 0x57, 0x2c, 0x2a, 0x1d, 0x4, 0x60, 0x2e, 0x2a, 0x1d, 0x5, 0x60, 0x2e, 0xb6, 0x0, 0xf9, 0x57, 0xa7, 0x0, 0xd5, 0x2b]
theorem kxa1651 : kxA cL_law kxd1651 1651 := kxA.of (List.isPrefixOf_iff_prefix.1 (by decide +kernel))
theorem kxq1651 : kqx kxd1651 [(0, .goto 305, 3), (3, .aload_n 1, 1), (4, .aload_n 0, 1), (5, .iload_n 3, 1), (6, .iconst 1, 1), (7, .iadd, 1), (8, .iaload, 1), (9, .invokevirtual 234, 3), (12, .pop, 1), (13, .aload_n 2, 1), (14, .aload_n 0, 1), (15, .iload_n 3, 1), (16, .iconst 1, 1), (17, .iadd, 1), (18, .iaload, 1), (19, .invokevirtual 237, 3), (22, .pop, 1), (23, .goto 282, 3), (26, .aload_n 1, 1), (27, .aload_n 0, 1), (28, .iload_n 3, 1), (29, .iconst 1, 1), (30, .iadd, 1), (31, .iaload, 1), (32, .invokevirtual 238, 3), (35, .pop, 1), (36, .aload_n 2, 1), (37, .aload_n 0, 1), (38, .iload_n 3, 1), (39, .iconst 1, 1), (40, .iadd, 1), (41, .iaload, 1), (42, .invokevirtual 241, 3), (45, .pop, 1), (46, .goto 259, 3), (49, .aload_n 1, 1), (50, .invokevirtual 242, 3), (53, .pop, 1), (54, .aload_n 2, 1), (55, .invokevirtual 245, 3), (58, .pop, 1), (59, .goto 246, 3), (62, .aload_n 1, 1), (63, .aload_n 0, 1), (64, .iload_n 3, 1), (65, .iconst 1, 1), (66, .iadd, 1), (67, .iaload, 1), (68, .aload_n 0, 1), (69, .iload_n 3, 1), (70, .iconst 2, 1), (71, .iadd, 1), (72, .iaload, 1), (73, .invokevirtual 246, 3), (76, .pop, 1), (77, .aload_n 2, 1), (78, .aload_n 0, 1), (79, .iload_n 3, 1), (80, .iconst 1, 1), (81, .iadd, 1), (82, .iaload, 1), (83, .aload_n 0, 1), (84, .iload_n 3, 1), (85, .iconst 2, 1), (86, .iadd, 1), (87, .iaload, 1), (88, .invokevirtual 249, 3), (91, .pop, 1), (92, .goto 213, 3), (95, .aload_n 1, 1)] = true := by decide +kernel
theorem dL_law_1651 : decode cL_law 1651 = .ok (.goto 305, 3) := kqx.at kxa1651 kxq1651 0 rfl rfl
theorem dL_law_1654 : decode cL_law 1654 = .ok (.aload_n 1, 1) := kqx.at kxa1651 kxq1651 1 rfl rfl
theorem dL_law_1655 : decode cL_law 1655 = .ok (.aload_n 0, 1) := kqx.at kxa1651 kxq1651 2 rfl rfl
theorem dL_law_1656 : decode cL_law 1656 = .ok (.iload_n 3, 1) := kqx.at kxa1651 kxq1651 3 rfl rfl
theorem dL_law_1657 : decode cL_law 1657 = .ok (.iconst 1, 1) := kqx.at kxa1651 kxq1651 4 rfl rfl
theorem dL_law_1658 : decode cL_law 1658 = .ok (.iadd, 1) := kqx.at kxa1651 kxq1651 5 rfl rfl
theorem dL_law_1659 : decode cL_law 1659 = .ok (.iaload, 1) := kqx.at kxa1651 kxq1651 6 rfl rfl
theorem dL_law_1660 : decode cL_law 1660 = .ok (.invokevirtual 234, 3) := kqx.at kxa1651 kxq1651 7 rfl rfl
theorem dL_law_1663 : decode cL_law 1663 = .ok (.pop, 1) := kqx.at kxa1651 kxq1651 8 rfl rfl
theorem dL_law_1664 : decode cL_law 1664 = .ok (.aload_n 2, 1) := kqx.at kxa1651 kxq1651 9 rfl rfl
theorem dL_law_1665 : decode cL_law 1665 = .ok (.aload_n 0, 1) := kqx.at kxa1651 kxq1651 10 rfl rfl
theorem dL_law_1666 : decode cL_law 1666 = .ok (.iload_n 3, 1) := kqx.at kxa1651 kxq1651 11 rfl rfl
theorem dL_law_1667 : decode cL_law 1667 = .ok (.iconst 1, 1) := kqx.at kxa1651 kxq1651 12 rfl rfl
theorem dL_law_1668 : decode cL_law 1668 = .ok (.iadd, 1) := kqx.at kxa1651 kxq1651 13 rfl rfl
theorem dL_law_1669 : decode cL_law 1669 = .ok (.iaload, 1) := kqx.at kxa1651 kxq1651 14 rfl rfl
theorem dL_law_1670 : decode cL_law 1670 = .ok (.invokevirtual 237, 3) := kqx.at kxa1651 kxq1651 15 rfl rfl
theorem dL_law_1673 : decode cL_law 1673 = .ok (.pop, 1) := kqx.at kxa1651 kxq1651 16 rfl rfl
theorem dL_law_1674 : decode cL_law 1674 = .ok (.goto 282, 3) := kqx.at kxa1651 kxq1651 17 rfl rfl
theorem dL_law_1677 : decode cL_law 1677 = .ok (.aload_n 1, 1) := kqx.at kxa1651 kxq1651 18 rfl rfl
theorem dL_law_1678 : decode cL_law 1678 = .ok (.aload_n 0, 1) := kqx.at kxa1651 kxq1651 19 rfl rfl
theorem dL_law_1679 : decode cL_law 1679 = .ok (.iload_n 3, 1) := kqx.at kxa1651 kxq1651 20 rfl rfl
theorem dL_law_1680 : decode cL_law 1680 = .ok (.iconst 1, 1) := kqx.at kxa1651 kxq1651 21 rfl rfl
theorem dL_law_1681 : decode cL_law 1681 = .ok (.iadd, 1) := kqx.at kxa1651 kxq1651 22 rfl rfl
theorem dL_law_1682 : decode cL_law 1682 = .ok (.iaload, 1) := kqx.at kxa1651 kxq1651 23 rfl rfl
theorem dL_law_1683 : decode cL_law 1683 = .ok (.invokevirtual 238, 3) := kqx.at kxa1651 kxq1651 24 rfl rfl
theorem dL_law_1686 : decode cL_law 1686 = .ok (.pop, 1) := kqx.at kxa1651 kxq1651 25 rfl rfl
theorem dL_law_1687 : decode cL_law 1687 = .ok (.aload_n 2, 1) := kqx.at kxa1651 kxq1651 26 rfl rfl
theorem dL_law_1688 : decode cL_law 1688 = .ok (.aload_n 0, 1) := kqx.at kxa1651 kxq1651 27 rfl rfl
theorem dL_law_1689 : decode cL_law 1689 = .ok (.iload_n 3, 1) := kqx.at kxa1651 kxq1651 28 rfl rfl
theorem dL_law_1690 : decode cL_law 1690 = .ok (.iconst 1, 1) := kqx.at kxa1651 kxq1651 29 rfl rfl
theorem dL_law_1691 : decode cL_law 1691 = .ok (.iadd, 1) := kqx.at kxa1651 kxq1651 30 rfl rfl
theorem dL_law_1692 : decode cL_law 1692 = .ok (.iaload, 1) := kqx.at kxa1651 kxq1651 31 rfl rfl
theorem dL_law_1693 : decode cL_law 1693 = .ok (.invokevirtual 241, 3) := kqx.at kxa1651 kxq1651 32 rfl rfl
theorem dL_law_1696 : decode cL_law 1696 = .ok (.pop, 1) := kqx.at kxa1651 kxq1651 33 rfl rfl
theorem dL_law_1697 : decode cL_law 1697 = .ok (.goto 259, 3) := kqx.at kxa1651 kxq1651 34 rfl rfl
theorem dL_law_1700 : decode cL_law 1700 = .ok (.aload_n 1, 1) := kqx.at kxa1651 kxq1651 35 rfl rfl
theorem dL_law_1701 : decode cL_law 1701 = .ok (.invokevirtual 242, 3) := kqx.at kxa1651 kxq1651 36 rfl rfl
theorem dL_law_1704 : decode cL_law 1704 = .ok (.pop, 1) := kqx.at kxa1651 kxq1651 37 rfl rfl
theorem dL_law_1705 : decode cL_law 1705 = .ok (.aload_n 2, 1) := kqx.at kxa1651 kxq1651 38 rfl rfl
theorem dL_law_1706 : decode cL_law 1706 = .ok (.invokevirtual 245, 3) := kqx.at kxa1651 kxq1651 39 rfl rfl
theorem dL_law_1709 : decode cL_law 1709 = .ok (.pop, 1) := kqx.at kxa1651 kxq1651 40 rfl rfl
theorem dL_law_1710 : decode cL_law 1710 = .ok (.goto 246, 3) := kqx.at kxa1651 kxq1651 41 rfl rfl
theorem dL_law_1713 : decode cL_law 1713 = .ok (.aload_n 1, 1) := kqx.at kxa1651 kxq1651 42 rfl rfl
theorem dL_law_1714 : decode cL_law 1714 = .ok (.aload_n 0, 1) := kqx.at kxa1651 kxq1651 43 rfl rfl
theorem dL_law_1715 : decode cL_law 1715 = .ok (.iload_n 3, 1) := kqx.at kxa1651 kxq1651 44 rfl rfl
theorem dL_law_1716 : decode cL_law 1716 = .ok (.iconst 1, 1) := kqx.at kxa1651 kxq1651 45 rfl rfl
theorem dL_law_1717 : decode cL_law 1717 = .ok (.iadd, 1) := kqx.at kxa1651 kxq1651 46 rfl rfl
theorem dL_law_1718 : decode cL_law 1718 = .ok (.iaload, 1) := kqx.at kxa1651 kxq1651 47 rfl rfl
theorem dL_law_1719 : decode cL_law 1719 = .ok (.aload_n 0, 1) := kqx.at kxa1651 kxq1651 48 rfl rfl
theorem dL_law_1720 : decode cL_law 1720 = .ok (.iload_n 3, 1) := kqx.at kxa1651 kxq1651 49 rfl rfl
theorem dL_law_1721 : decode cL_law 1721 = .ok (.iconst 2, 1) := kqx.at kxa1651 kxq1651 50 rfl rfl
theorem dL_law_1722 : decode cL_law 1722 = .ok (.iadd, 1) := kqx.at kxa1651 kxq1651 51 rfl rfl
theorem dL_law_1723 : decode cL_law 1723 = .ok (.iaload, 1) := kqx.at kxa1651 kxq1651 52 rfl rfl
theorem dL_law_1724 : decode cL_law 1724 = .ok (.invokevirtual 246, 3) := kqx.at kxa1651 kxq1651 53 rfl rfl
theorem dL_law_1727 : decode cL_law 1727 = .ok (.pop, 1) := kqx.at kxa1651 kxq1651 54 rfl rfl
theorem dL_law_1728 : decode cL_law 1728 = .ok (.aload_n 2, 1) := kqx.at kxa1651 kxq1651 55 rfl rfl
theorem dL_law_1729 : decode cL_law 1729 = .ok (.aload_n 0, 1) := kqx.at kxa1651 kxq1651 56 rfl rfl
theorem dL_law_1730 : decode cL_law 1730 = .ok (.iload_n 3, 1) := kqx.at kxa1651 kxq1651 57 rfl rfl
theorem dL_law_1731 : decode cL_law 1731 = .ok (.iconst 1, 1) := kqx.at kxa1651 kxq1651 58 rfl rfl
theorem dL_law_1732 : decode cL_law 1732 = .ok (.iadd, 1) := kqx.at kxa1651 kxq1651 59 rfl rfl
theorem dL_law_1733 : decode cL_law 1733 = .ok (.iaload, 1) := kqx.at kxa1651 kxq1651 60 rfl rfl
theorem dL_law_1734 : decode cL_law 1734 = .ok (.aload_n 0, 1) := kqx.at kxa1651 kxq1651 61 rfl rfl
theorem dL_law_1735 : decode cL_law 1735 = .ok (.iload_n 3, 1) := kqx.at kxa1651 kxq1651 62 rfl rfl
theorem dL_law_1736 : decode cL_law 1736 = .ok (.iconst 2, 1) := kqx.at kxa1651 kxq1651 63 rfl rfl
theorem dL_law_1737 : decode cL_law 1737 = .ok (.iadd, 1) := kqx.at kxa1651 kxq1651 64 rfl rfl
theorem dL_law_1738 : decode cL_law 1738 = .ok (.iaload, 1) := kqx.at kxa1651 kxq1651 65 rfl rfl
theorem dL_law_1739 : decode cL_law 1739 = .ok (.invokevirtual 249, 3) := kqx.at kxa1651 kxq1651 66 rfl rfl
theorem dL_law_1742 : decode cL_law 1742 = .ok (.pop, 1) := kqx.at kxa1651 kxq1651 67 rfl rfl
theorem dL_law_1743 : decode cL_law 1743 = .ok (.goto 213, 3) := kqx.at kxa1651 kxq1651 68 rfl rfl
theorem dL_law_1746 : decode cL_law 1746 = .ok (.aload_n 1, 1) := kqx.at kxa1651 kxq1651 69 rfl rfl
def kxd1747 : ByteArray := .mk #[0x2a, 0x1d, 0x4, 0x60, 0x2e, 0x2a, 0x1d, 0x5, 0x60, 0x2e, 0xb6, 0x0, 0xfa, 0x57, 0x2c, 0x2a, 0x1d, 0x4, 0x60, 0x2e, 0x2a, 0x1d, 0x5, 0x60, 0x2e, 0xb6, 0x0, 0xfd, 0x57, 0xa7, 0x0, 0xb4, 0x2b, 0xb6, 0x0, 0xfe, 0x57, 0x2c, 0xb6, 0x1, 0x1, 0x57, 0xa7, 0x0, 0xa7, 0x2b, 0xb6, 0x1, 0x2, 0x57, 0x2c, 0xb6, 0x1, 0x5, 0x57, 0xa7, 0x0, 0x9a, 0x2b, 0xb6, 0x1, 0x6, 0x57, 0x2c, 0xb6, 0x1, 0x9, 0x57, 0xa7, 0x0, 0x8d, 0x2b, 0xb6, 0x1, 0xa, 0x57, 0x2c, 0xb6, 0x1, 0xd, 0x57, 0xa7, 0x0, 0x80, 0x2b, 0x2a, 0x1d, 0x4, 0x60, 0x2e, 0x2a, 0x1d, 0x5, 0x60, 0x2e]
theorem kxa1747 : kxA cL_law kxd1747 1747 := kxA.of (List.isPrefixOf_iff_prefix.1 (by decide +kernel))
theorem kxq1747 : kqx kxd1747 [(0, .aload_n 0, 1), (1, .iload_n 3, 1), (2, .iconst 1, 1), (3, .iadd, 1), (4, .iaload, 1), (5, .aload_n 0, 1), (6, .iload_n 3, 1), (7, .iconst 2, 1), (8, .iadd, 1), (9, .iaload, 1), (10, .invokevirtual 250, 3), (13, .pop, 1), (14, .aload_n 2, 1), (15, .aload_n 0, 1), (16, .iload_n 3, 1), (17, .iconst 1, 1), (18, .iadd, 1), (19, .iaload, 1), (20, .aload_n 0, 1), (21, .iload_n 3, 1), (22, .iconst 2, 1), (23, .iadd, 1), (24, .iaload, 1), (25, .invokevirtual 253, 3), (28, .pop, 1), (29, .goto 180, 3), (32, .aload_n 1, 1), (33, .invokevirtual 254, 3), (36, .pop, 1), (37, .aload_n 2, 1), (38, .invokevirtual 257, 3), (41, .pop, 1), (42, .goto 167, 3), (45, .aload_n 1, 1), (46, .invokevirtual 258, 3), (49, .pop, 1), (50, .aload_n 2, 1), (51, .invokevirtual 261, 3), (54, .pop, 1), (55, .goto 154, 3), (58, .aload_n 1, 1), (59, .invokevirtual 262, 3), (62, .pop, 1), (63, .aload_n 2, 1), (64, .invokevirtual 265, 3), (67, .pop, 1), (68, .goto 141, 3), (71, .aload_n 1, 1), (72, .invokevirtual 266, 3), (75, .pop, 1), (76, .aload_n 2, 1), (77, .invokevirtual 269, 3), (80, .pop, 1), (81, .goto 128, 3), (84, .aload_n 1, 1), (85, .aload_n 0, 1), (86, .iload_n 3, 1), (87, .iconst 1, 1), (88, .iadd, 1), (89, .iaload, 1), (90, .aload_n 0, 1), (91, .iload_n 3, 1), (92, .iconst 2, 1), (93, .iadd, 1), (94, .iaload, 1)] = true := by decide +kernel
theorem dL_law_1747 : decode cL_law 1747 = .ok (.aload_n 0, 1) := kqx.at kxa1747 kxq1747 0 rfl rfl
theorem dL_law_1748 : decode cL_law 1748 = .ok (.iload_n 3, 1) := kqx.at kxa1747 kxq1747 1 rfl rfl
theorem dL_law_1749 : decode cL_law 1749 = .ok (.iconst 1, 1) := kqx.at kxa1747 kxq1747 2 rfl rfl
theorem dL_law_1750 : decode cL_law 1750 = .ok (.iadd, 1) := kqx.at kxa1747 kxq1747 3 rfl rfl
theorem dL_law_1751 : decode cL_law 1751 = .ok (.iaload, 1) := kqx.at kxa1747 kxq1747 4 rfl rfl
theorem dL_law_1752 : decode cL_law 1752 = .ok (.aload_n 0, 1) := kqx.at kxa1747 kxq1747 5 rfl rfl
theorem dL_law_1753 : decode cL_law 1753 = .ok (.iload_n 3, 1) := kqx.at kxa1747 kxq1747 6 rfl rfl
theorem dL_law_1754 : decode cL_law 1754 = .ok (.iconst 2, 1) := kqx.at kxa1747 kxq1747 7 rfl rfl
theorem dL_law_1755 : decode cL_law 1755 = .ok (.iadd, 1) := kqx.at kxa1747 kxq1747 8 rfl rfl
theorem dL_law_1756 : decode cL_law 1756 = .ok (.iaload, 1) := kqx.at kxa1747 kxq1747 9 rfl rfl
theorem dL_law_1757 : decode cL_law 1757 = .ok (.invokevirtual 250, 3) := kqx.at kxa1747 kxq1747 10 rfl rfl
theorem dL_law_1760 : decode cL_law 1760 = .ok (.pop, 1) := kqx.at kxa1747 kxq1747 11 rfl rfl
theorem dL_law_1761 : decode cL_law 1761 = .ok (.aload_n 2, 1) := kqx.at kxa1747 kxq1747 12 rfl rfl
theorem dL_law_1762 : decode cL_law 1762 = .ok (.aload_n 0, 1) := kqx.at kxa1747 kxq1747 13 rfl rfl
theorem dL_law_1763 : decode cL_law 1763 = .ok (.iload_n 3, 1) := kqx.at kxa1747 kxq1747 14 rfl rfl
theorem dL_law_1764 : decode cL_law 1764 = .ok (.iconst 1, 1) := kqx.at kxa1747 kxq1747 15 rfl rfl
theorem dL_law_1765 : decode cL_law 1765 = .ok (.iadd, 1) := kqx.at kxa1747 kxq1747 16 rfl rfl
theorem dL_law_1766 : decode cL_law 1766 = .ok (.iaload, 1) := kqx.at kxa1747 kxq1747 17 rfl rfl
theorem dL_law_1767 : decode cL_law 1767 = .ok (.aload_n 0, 1) := kqx.at kxa1747 kxq1747 18 rfl rfl
theorem dL_law_1768 : decode cL_law 1768 = .ok (.iload_n 3, 1) := kqx.at kxa1747 kxq1747 19 rfl rfl
theorem dL_law_1769 : decode cL_law 1769 = .ok (.iconst 2, 1) := kqx.at kxa1747 kxq1747 20 rfl rfl
theorem dL_law_1770 : decode cL_law 1770 = .ok (.iadd, 1) := kqx.at kxa1747 kxq1747 21 rfl rfl
theorem dL_law_1771 : decode cL_law 1771 = .ok (.iaload, 1) := kqx.at kxa1747 kxq1747 22 rfl rfl
theorem dL_law_1772 : decode cL_law 1772 = .ok (.invokevirtual 253, 3) := kqx.at kxa1747 kxq1747 23 rfl rfl
theorem dL_law_1775 : decode cL_law 1775 = .ok (.pop, 1) := kqx.at kxa1747 kxq1747 24 rfl rfl
theorem dL_law_1776 : decode cL_law 1776 = .ok (.goto 180, 3) := kqx.at kxa1747 kxq1747 25 rfl rfl
theorem dL_law_1779 : decode cL_law 1779 = .ok (.aload_n 1, 1) := kqx.at kxa1747 kxq1747 26 rfl rfl
theorem dL_law_1780 : decode cL_law 1780 = .ok (.invokevirtual 254, 3) := kqx.at kxa1747 kxq1747 27 rfl rfl
theorem dL_law_1783 : decode cL_law 1783 = .ok (.pop, 1) := kqx.at kxa1747 kxq1747 28 rfl rfl
theorem dL_law_1784 : decode cL_law 1784 = .ok (.aload_n 2, 1) := kqx.at kxa1747 kxq1747 29 rfl rfl
theorem dL_law_1785 : decode cL_law 1785 = .ok (.invokevirtual 257, 3) := kqx.at kxa1747 kxq1747 30 rfl rfl
theorem dL_law_1788 : decode cL_law 1788 = .ok (.pop, 1) := kqx.at kxa1747 kxq1747 31 rfl rfl
theorem dL_law_1789 : decode cL_law 1789 = .ok (.goto 167, 3) := kqx.at kxa1747 kxq1747 32 rfl rfl
theorem dL_law_1792 : decode cL_law 1792 = .ok (.aload_n 1, 1) := kqx.at kxa1747 kxq1747 33 rfl rfl
theorem dL_law_1793 : decode cL_law 1793 = .ok (.invokevirtual 258, 3) := kqx.at kxa1747 kxq1747 34 rfl rfl
theorem dL_law_1796 : decode cL_law 1796 = .ok (.pop, 1) := kqx.at kxa1747 kxq1747 35 rfl rfl
theorem dL_law_1797 : decode cL_law 1797 = .ok (.aload_n 2, 1) := kqx.at kxa1747 kxq1747 36 rfl rfl
theorem dL_law_1798 : decode cL_law 1798 = .ok (.invokevirtual 261, 3) := kqx.at kxa1747 kxq1747 37 rfl rfl
theorem dL_law_1801 : decode cL_law 1801 = .ok (.pop, 1) := kqx.at kxa1747 kxq1747 38 rfl rfl
theorem dL_law_1802 : decode cL_law 1802 = .ok (.goto 154, 3) := kqx.at kxa1747 kxq1747 39 rfl rfl
theorem dL_law_1805 : decode cL_law 1805 = .ok (.aload_n 1, 1) := kqx.at kxa1747 kxq1747 40 rfl rfl
theorem dL_law_1806 : decode cL_law 1806 = .ok (.invokevirtual 262, 3) := kqx.at kxa1747 kxq1747 41 rfl rfl
theorem dL_law_1809 : decode cL_law 1809 = .ok (.pop, 1) := kqx.at kxa1747 kxq1747 42 rfl rfl
theorem dL_law_1810 : decode cL_law 1810 = .ok (.aload_n 2, 1) := kqx.at kxa1747 kxq1747 43 rfl rfl
theorem dL_law_1811 : decode cL_law 1811 = .ok (.invokevirtual 265, 3) := kqx.at kxa1747 kxq1747 44 rfl rfl
theorem dL_law_1814 : decode cL_law 1814 = .ok (.pop, 1) := kqx.at kxa1747 kxq1747 45 rfl rfl
theorem dL_law_1815 : decode cL_law 1815 = .ok (.goto 141, 3) := kqx.at kxa1747 kxq1747 46 rfl rfl
theorem dL_law_1818 : decode cL_law 1818 = .ok (.aload_n 1, 1) := kqx.at kxa1747 kxq1747 47 rfl rfl
theorem dL_law_1819 : decode cL_law 1819 = .ok (.invokevirtual 266, 3) := kqx.at kxa1747 kxq1747 48 rfl rfl
theorem dL_law_1822 : decode cL_law 1822 = .ok (.pop, 1) := kqx.at kxa1747 kxq1747 49 rfl rfl
theorem dL_law_1823 : decode cL_law 1823 = .ok (.aload_n 2, 1) := kqx.at kxa1747 kxq1747 50 rfl rfl
theorem dL_law_1824 : decode cL_law 1824 = .ok (.invokevirtual 269, 3) := kqx.at kxa1747 kxq1747 51 rfl rfl
theorem dL_law_1827 : decode cL_law 1827 = .ok (.pop, 1) := kqx.at kxa1747 kxq1747 52 rfl rfl
theorem dL_law_1828 : decode cL_law 1828 = .ok (.goto 128, 3) := kqx.at kxa1747 kxq1747 53 rfl rfl
theorem dL_law_1831 : decode cL_law 1831 = .ok (.aload_n 1, 1) := kqx.at kxa1747 kxq1747 54 rfl rfl
theorem dL_law_1832 : decode cL_law 1832 = .ok (.aload_n 0, 1) := kqx.at kxa1747 kxq1747 55 rfl rfl
theorem dL_law_1833 : decode cL_law 1833 = .ok (.iload_n 3, 1) := kqx.at kxa1747 kxq1747 56 rfl rfl
theorem dL_law_1834 : decode cL_law 1834 = .ok (.iconst 1, 1) := kqx.at kxa1747 kxq1747 57 rfl rfl
theorem dL_law_1835 : decode cL_law 1835 = .ok (.iadd, 1) := kqx.at kxa1747 kxq1747 58 rfl rfl
theorem dL_law_1836 : decode cL_law 1836 = .ok (.iaload, 1) := kqx.at kxa1747 kxq1747 59 rfl rfl
theorem dL_law_1837 : decode cL_law 1837 = .ok (.aload_n 0, 1) := kqx.at kxa1747 kxq1747 60 rfl rfl
theorem dL_law_1838 : decode cL_law 1838 = .ok (.iload_n 3, 1) := kqx.at kxa1747 kxq1747 61 rfl rfl
theorem dL_law_1839 : decode cL_law 1839 = .ok (.iconst 2, 1) := kqx.at kxa1747 kxq1747 62 rfl rfl
theorem dL_law_1840 : decode cL_law 1840 = .ok (.iadd, 1) := kqx.at kxa1747 kxq1747 63 rfl rfl
theorem dL_law_1841 : decode cL_law 1841 = .ok (.iaload, 1) := kqx.at kxa1747 kxq1747 64 rfl rfl
def kxd1842 : ByteArray := .mk #[0xb6, 0x1, 0xe, 0x57, 0x2c, 0x2a, 0x1d, 0x4, 0x60, 0x2e, 0x2a, 0x1d, 0x5, 0x60, 0x2e, 0xb6, 0x1, 0x11, 0x57, 0xa7, 0x0, 0x5f, 0x2b, 0x2a, 0x1d, 0x4, 0x60, 0x2e, 0xb6, 0x1, 0x12, 0x57, 0x2c, 0x2a, 0x1d, 0x4, 0x60, 0x2e, 0xb6, 0x1, 0x15, 0x57, 0xa7, 0x0, 0x48, 0x2b, 0x2a, 0x1d, 0x4, 0x60, 0x2e, 0x2a, 0x1d, 0x5, 0x60, 0x2e, 0x2a, 0x1d, 0x6, 0x60, 0x2e, 0xb6, 0x1, 0x16, 0x57, 0x2c, 0x2a, 0x1d, 0x4, 0x60, 0x2e, 0x2a, 0x1d, 0x5, 0x60, 0x2e, 0x2a, 0x1d, 0x6, 0x60, 0x2e, 0xb6, 0x1, 0x19, 0x57, 0xa7, 0x0, 0x1d, 0x2b, 0xb6, 0x1, 0x1a, 0x57, 0x2c]
theorem kxa1842 : kxA cL_law kxd1842 1842 := kxA.of (List.isPrefixOf_iff_prefix.1 (by decide +kernel))
theorem kxq1842 : kqx kxd1842 [(0, .invokevirtual 270, 3), (3, .pop, 1), (4, .aload_n 2, 1), (5, .aload_n 0, 1), (6, .iload_n 3, 1), (7, .iconst 1, 1), (8, .iadd, 1), (9, .iaload, 1), (10, .aload_n 0, 1), (11, .iload_n 3, 1), (12, .iconst 2, 1), (13, .iadd, 1), (14, .iaload, 1), (15, .invokevirtual 273, 3), (18, .pop, 1), (19, .goto 95, 3), (22, .aload_n 1, 1), (23, .aload_n 0, 1), (24, .iload_n 3, 1), (25, .iconst 1, 1), (26, .iadd, 1), (27, .iaload, 1), (28, .invokevirtual 274, 3), (31, .pop, 1), (32, .aload_n 2, 1), (33, .aload_n 0, 1), (34, .iload_n 3, 1), (35, .iconst 1, 1), (36, .iadd, 1), (37, .iaload, 1), (38, .invokevirtual 277, 3), (41, .pop, 1), (42, .goto 72, 3), (45, .aload_n 1, 1), (46, .aload_n 0, 1), (47, .iload_n 3, 1), (48, .iconst 1, 1), (49, .iadd, 1), (50, .iaload, 1), (51, .aload_n 0, 1), (52, .iload_n 3, 1), (53, .iconst 2, 1), (54, .iadd, 1), (55, .iaload, 1), (56, .aload_n 0, 1), (57, .iload_n 3, 1), (58, .iconst 3, 1), (59, .iadd, 1), (60, .iaload, 1), (61, .invokevirtual 278, 3), (64, .pop, 1), (65, .aload_n 2, 1), (66, .aload_n 0, 1), (67, .iload_n 3, 1), (68, .iconst 1, 1), (69, .iadd, 1), (70, .iaload, 1), (71, .aload_n 0, 1), (72, .iload_n 3, 1), (73, .iconst 2, 1), (74, .iadd, 1), (75, .iaload, 1), (76, .aload_n 0, 1), (77, .iload_n 3, 1), (78, .iconst 3, 1), (79, .iadd, 1), (80, .iaload, 1), (81, .invokevirtual 281, 3), (84, .pop, 1), (85, .goto 29, 3), (88, .aload_n 1, 1), (89, .invokevirtual 282, 3), (92, .pop, 1), (93, .aload_n 2, 1)] = true := by decide +kernel
theorem dL_law_1842 : decode cL_law 1842 = .ok (.invokevirtual 270, 3) := kqx.at kxa1842 kxq1842 0 rfl rfl
theorem dL_law_1845 : decode cL_law 1845 = .ok (.pop, 1) := kqx.at kxa1842 kxq1842 1 rfl rfl
theorem dL_law_1846 : decode cL_law 1846 = .ok (.aload_n 2, 1) := kqx.at kxa1842 kxq1842 2 rfl rfl
theorem dL_law_1847 : decode cL_law 1847 = .ok (.aload_n 0, 1) := kqx.at kxa1842 kxq1842 3 rfl rfl
theorem dL_law_1848 : decode cL_law 1848 = .ok (.iload_n 3, 1) := kqx.at kxa1842 kxq1842 4 rfl rfl
theorem dL_law_1849 : decode cL_law 1849 = .ok (.iconst 1, 1) := kqx.at kxa1842 kxq1842 5 rfl rfl
theorem dL_law_1850 : decode cL_law 1850 = .ok (.iadd, 1) := kqx.at kxa1842 kxq1842 6 rfl rfl
theorem dL_law_1851 : decode cL_law 1851 = .ok (.iaload, 1) := kqx.at kxa1842 kxq1842 7 rfl rfl
theorem dL_law_1852 : decode cL_law 1852 = .ok (.aload_n 0, 1) := kqx.at kxa1842 kxq1842 8 rfl rfl
theorem dL_law_1853 : decode cL_law 1853 = .ok (.iload_n 3, 1) := kqx.at kxa1842 kxq1842 9 rfl rfl
theorem dL_law_1854 : decode cL_law 1854 = .ok (.iconst 2, 1) := kqx.at kxa1842 kxq1842 10 rfl rfl
theorem dL_law_1855 : decode cL_law 1855 = .ok (.iadd, 1) := kqx.at kxa1842 kxq1842 11 rfl rfl
theorem dL_law_1856 : decode cL_law 1856 = .ok (.iaload, 1) := kqx.at kxa1842 kxq1842 12 rfl rfl
theorem dL_law_1857 : decode cL_law 1857 = .ok (.invokevirtual 273, 3) := kqx.at kxa1842 kxq1842 13 rfl rfl
theorem dL_law_1860 : decode cL_law 1860 = .ok (.pop, 1) := kqx.at kxa1842 kxq1842 14 rfl rfl
theorem dL_law_1861 : decode cL_law 1861 = .ok (.goto 95, 3) := kqx.at kxa1842 kxq1842 15 rfl rfl
theorem dL_law_1864 : decode cL_law 1864 = .ok (.aload_n 1, 1) := kqx.at kxa1842 kxq1842 16 rfl rfl
theorem dL_law_1865 : decode cL_law 1865 = .ok (.aload_n 0, 1) := kqx.at kxa1842 kxq1842 17 rfl rfl
theorem dL_law_1866 : decode cL_law 1866 = .ok (.iload_n 3, 1) := kqx.at kxa1842 kxq1842 18 rfl rfl
theorem dL_law_1867 : decode cL_law 1867 = .ok (.iconst 1, 1) := kqx.at kxa1842 kxq1842 19 rfl rfl
theorem dL_law_1868 : decode cL_law 1868 = .ok (.iadd, 1) := kqx.at kxa1842 kxq1842 20 rfl rfl
theorem dL_law_1869 : decode cL_law 1869 = .ok (.iaload, 1) := kqx.at kxa1842 kxq1842 21 rfl rfl
theorem dL_law_1870 : decode cL_law 1870 = .ok (.invokevirtual 274, 3) := kqx.at kxa1842 kxq1842 22 rfl rfl
theorem dL_law_1873 : decode cL_law 1873 = .ok (.pop, 1) := kqx.at kxa1842 kxq1842 23 rfl rfl
theorem dL_law_1874 : decode cL_law 1874 = .ok (.aload_n 2, 1) := kqx.at kxa1842 kxq1842 24 rfl rfl
theorem dL_law_1875 : decode cL_law 1875 = .ok (.aload_n 0, 1) := kqx.at kxa1842 kxq1842 25 rfl rfl
theorem dL_law_1876 : decode cL_law 1876 = .ok (.iload_n 3, 1) := kqx.at kxa1842 kxq1842 26 rfl rfl
theorem dL_law_1877 : decode cL_law 1877 = .ok (.iconst 1, 1) := kqx.at kxa1842 kxq1842 27 rfl rfl
theorem dL_law_1878 : decode cL_law 1878 = .ok (.iadd, 1) := kqx.at kxa1842 kxq1842 28 rfl rfl
theorem dL_law_1879 : decode cL_law 1879 = .ok (.iaload, 1) := kqx.at kxa1842 kxq1842 29 rfl rfl
theorem dL_law_1880 : decode cL_law 1880 = .ok (.invokevirtual 277, 3) := kqx.at kxa1842 kxq1842 30 rfl rfl
theorem dL_law_1883 : decode cL_law 1883 = .ok (.pop, 1) := kqx.at kxa1842 kxq1842 31 rfl rfl
theorem dL_law_1884 : decode cL_law 1884 = .ok (.goto 72, 3) := kqx.at kxa1842 kxq1842 32 rfl rfl
theorem dL_law_1887 : decode cL_law 1887 = .ok (.aload_n 1, 1) := kqx.at kxa1842 kxq1842 33 rfl rfl
theorem dL_law_1888 : decode cL_law 1888 = .ok (.aload_n 0, 1) := kqx.at kxa1842 kxq1842 34 rfl rfl
theorem dL_law_1889 : decode cL_law 1889 = .ok (.iload_n 3, 1) := kqx.at kxa1842 kxq1842 35 rfl rfl
theorem dL_law_1890 : decode cL_law 1890 = .ok (.iconst 1, 1) := kqx.at kxa1842 kxq1842 36 rfl rfl
theorem dL_law_1891 : decode cL_law 1891 = .ok (.iadd, 1) := kqx.at kxa1842 kxq1842 37 rfl rfl
theorem dL_law_1892 : decode cL_law 1892 = .ok (.iaload, 1) := kqx.at kxa1842 kxq1842 38 rfl rfl
theorem dL_law_1893 : decode cL_law 1893 = .ok (.aload_n 0, 1) := kqx.at kxa1842 kxq1842 39 rfl rfl
theorem dL_law_1894 : decode cL_law 1894 = .ok (.iload_n 3, 1) := kqx.at kxa1842 kxq1842 40 rfl rfl
theorem dL_law_1895 : decode cL_law 1895 = .ok (.iconst 2, 1) := kqx.at kxa1842 kxq1842 41 rfl rfl
theorem dL_law_1896 : decode cL_law 1896 = .ok (.iadd, 1) := kqx.at kxa1842 kxq1842 42 rfl rfl
theorem dL_law_1897 : decode cL_law 1897 = .ok (.iaload, 1) := kqx.at kxa1842 kxq1842 43 rfl rfl
theorem dL_law_1898 : decode cL_law 1898 = .ok (.aload_n 0, 1) := kqx.at kxa1842 kxq1842 44 rfl rfl
theorem dL_law_1899 : decode cL_law 1899 = .ok (.iload_n 3, 1) := kqx.at kxa1842 kxq1842 45 rfl rfl
theorem dL_law_1900 : decode cL_law 1900 = .ok (.iconst 3, 1) := kqx.at kxa1842 kxq1842 46 rfl rfl
theorem dL_law_1901 : decode cL_law 1901 = .ok (.iadd, 1) := kqx.at kxa1842 kxq1842 47 rfl rfl
theorem dL_law_1902 : decode cL_law 1902 = .ok (.iaload, 1) := kqx.at kxa1842 kxq1842 48 rfl rfl
theorem dL_law_1903 : decode cL_law 1903 = .ok (.invokevirtual 278, 3) := kqx.at kxa1842 kxq1842 49 rfl rfl
theorem dL_law_1906 : decode cL_law 1906 = .ok (.pop, 1) := kqx.at kxa1842 kxq1842 50 rfl rfl
theorem dL_law_1907 : decode cL_law 1907 = .ok (.aload_n 2, 1) := kqx.at kxa1842 kxq1842 51 rfl rfl
theorem dL_law_1908 : decode cL_law 1908 = .ok (.aload_n 0, 1) := kqx.at kxa1842 kxq1842 52 rfl rfl
theorem dL_law_1909 : decode cL_law 1909 = .ok (.iload_n 3, 1) := kqx.at kxa1842 kxq1842 53 rfl rfl
theorem dL_law_1910 : decode cL_law 1910 = .ok (.iconst 1, 1) := kqx.at kxa1842 kxq1842 54 rfl rfl
theorem dL_law_1911 : decode cL_law 1911 = .ok (.iadd, 1) := kqx.at kxa1842 kxq1842 55 rfl rfl
theorem dL_law_1912 : decode cL_law 1912 = .ok (.iaload, 1) := kqx.at kxa1842 kxq1842 56 rfl rfl
theorem dL_law_1913 : decode cL_law 1913 = .ok (.aload_n 0, 1) := kqx.at kxa1842 kxq1842 57 rfl rfl
theorem dL_law_1914 : decode cL_law 1914 = .ok (.iload_n 3, 1) := kqx.at kxa1842 kxq1842 58 rfl rfl
theorem dL_law_1915 : decode cL_law 1915 = .ok (.iconst 2, 1) := kqx.at kxa1842 kxq1842 59 rfl rfl
theorem dL_law_1916 : decode cL_law 1916 = .ok (.iadd, 1) := kqx.at kxa1842 kxq1842 60 rfl rfl
theorem dL_law_1917 : decode cL_law 1917 = .ok (.iaload, 1) := kqx.at kxa1842 kxq1842 61 rfl rfl
theorem dL_law_1918 : decode cL_law 1918 = .ok (.aload_n 0, 1) := kqx.at kxa1842 kxq1842 62 rfl rfl
theorem dL_law_1919 : decode cL_law 1919 = .ok (.iload_n 3, 1) := kqx.at kxa1842 kxq1842 63 rfl rfl
theorem dL_law_1920 : decode cL_law 1920 = .ok (.iconst 3, 1) := kqx.at kxa1842 kxq1842 64 rfl rfl
theorem dL_law_1921 : decode cL_law 1921 = .ok (.iadd, 1) := kqx.at kxa1842 kxq1842 65 rfl rfl
theorem dL_law_1922 : decode cL_law 1922 = .ok (.iaload, 1) := kqx.at kxa1842 kxq1842 66 rfl rfl
theorem dL_law_1923 : decode cL_law 1923 = .ok (.invokevirtual 281, 3) := kqx.at kxa1842 kxq1842 67 rfl rfl
theorem dL_law_1926 : decode cL_law 1926 = .ok (.pop, 1) := kqx.at kxa1842 kxq1842 68 rfl rfl
theorem dL_law_1927 : decode cL_law 1927 = .ok (.goto 29, 3) := kqx.at kxa1842 kxq1842 69 rfl rfl
theorem dL_law_1930 : decode cL_law 1930 = .ok (.aload_n 1, 1) := kqx.at kxa1842 kxq1842 70 rfl rfl
theorem dL_law_1931 : decode cL_law 1931 = .ok (.invokevirtual 282, 3) := kqx.at kxa1842 kxq1842 71 rfl rfl
theorem dL_law_1934 : decode cL_law 1934 = .ok (.pop, 1) := kqx.at kxa1842 kxq1842 72 rfl rfl
theorem dL_law_1935 : decode cL_law 1935 = .ok (.aload_n 2, 1) := kqx.at kxa1842 kxq1842 73 rfl rfl
def kxd1936 : ByteArray := .mk #[0xb6, 0x1, 0x1d, 0x57, 0xa7, 0x0, 0x10, 0x2b, 0xb6, 0x1, 0x1e, 0x57, 0x2c, 0xb6, 0x1, 0x21, 0x57, 0xa7, 0x0, 0x3, 0x84, 0x3, 0x6, 0xa7, 0xf8, 0x6b, 0x4]
theorem kxa1936 : kxA cL_law kxd1936 1936 := kxA.of (List.isPrefixOf_iff_prefix.1 (by decide +kernel))
theorem kxq1936 : kqx kxd1936 [(0, .invokevirtual 285, 3), (3, .pop, 1), (4, .goto 16, 3), (7, .aload_n 1, 1), (8, .invokevirtual 286, 3), (11, .pop, 1), (12, .aload_n 2, 1), (13, .invokevirtual 289, 3), (16, .pop, 1), (17, .goto 3, 3), (23, .goto (-1941), 3), (26, .iconst 1, 1)] = true := by decide +kernel
theorem dL_law_1936 : decode cL_law 1936 = .ok (.invokevirtual 285, 3) := kqx.at kxa1936 kxq1936 0 rfl rfl
theorem dL_law_1939 : decode cL_law 1939 = .ok (.pop, 1) := kqx.at kxa1936 kxq1936 1 rfl rfl
theorem dL_law_1940 : decode cL_law 1940 = .ok (.goto 16, 3) := kqx.at kxa1936 kxq1936 2 rfl rfl
theorem dL_law_1943 : decode cL_law 1943 = .ok (.aload_n 1, 1) := kqx.at kxa1936 kxq1936 3 rfl rfl
theorem dL_law_1944 : decode cL_law 1944 = .ok (.invokevirtual 286, 3) := kqx.at kxa1936 kxq1936 4 rfl rfl
theorem dL_law_1947 : decode cL_law 1947 = .ok (.pop, 1) := kqx.at kxa1936 kxq1936 5 rfl rfl
theorem dL_law_1948 : decode cL_law 1948 = .ok (.aload_n 2, 1) := kqx.at kxa1936 kxq1936 6 rfl rfl
theorem dL_law_1949 : decode cL_law 1949 = .ok (.invokevirtual 289, 3) := kqx.at kxa1936 kxq1936 7 rfl rfl
theorem dL_law_1952 : decode cL_law 1952 = .ok (.pop, 1) := kqx.at kxa1936 kxq1936 8 rfl rfl
theorem dL_law_1953 : decode cL_law 1953 = .ok (.goto 3, 3) := kqx.at kxa1936 kxq1936 9 rfl rfl
theorem dL_law_1959 : decode cL_law 1959 = .ok (.goto (-1941), 3) := kqx.at kxa1936 kxq1936 10 rfl rfl
theorem dL_law_1962 : decode cL_law 1962 = .ok (.iconst 1, 1) := kqx.at kxa1936 kxq1936 11 rfl rfl
