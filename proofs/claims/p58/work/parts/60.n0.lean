theorem kqdL_law_0 : kq cL_law [(0, .new 7, 3), (3, .dup, 1), (4, .invokespecial 9, 3), (7, .astore_n 1, 1), (8, .new 10, 3), (11, .dup, 1), (12, .invokespecial 12, 3), (15, .astore_n 2, 1), (16, .iconst 0, 1), (17, .istore_n 3, 1), (18, .iload_n 3, 1), (19, .aload_n 0, 1), (20, .arraylength, 1), (21, .bipush 6, 2), (23, .isub, 1), (24, .if_icmp .gt 1938, 3), (27, .aload_n 0, 1), (28, .iload_n 3, 1), (29, .iaload, 1), (30, .bipush 127, 2), (32, .iand, 1), (33, .tableswitch 1923 0 65 #[279, 292, 305, 318, 361, 434, 467, 530, 593, 616, 639, 662, 685, 718, 751, 784, 833, 846, 869, 892, 915, 948, 991, 1004, 1027, 1040, 1053, 1066, 1079, 1102, 1115, 1148, 1171, 1194, 1227, 1240, 1263, 1286, 1299, 1312, 1335, 1358, 1381, 1404, 1417, 1430, 1443, 1476, 1509, 1532, 1545, 1578, 1621, 1644, 1667, 1680, 1713, 1746, 1759, 1772, 1785, 1798, 1831, 1854, 1897, 1910], 279), (312, .aload_n 1, 1), (313, .invokevirtual 13, 3), (316, .pop, 1), (317, .aload_n 2, 1), (318, .invokevirtual 17, 3), (321, .pop, 1), (322, .goto 1634, 3), (325, .aload_n 1, 1), (326, .invokevirtual 18, 3), (329, .pop2, 1), (330, .aload_n 2, 1), (331, .invokevirtual 22, 3), (334, .pop2, 1), (335, .goto 1621, 3), (338, .aload_n 1, 1), (339, .invokevirtual 23, 3), (342, .pop2, 1), (343, .aload_n 2, 1), (344, .invokevirtual 26, 3), (347, .pop2, 1), (348, .goto 1608, 3), (351, .aload_n 1, 1), (352, .aload_n 0, 1), (353, .iload_n 3, 1), (354, .iconst 1, 1), (355, .iadd, 1), (356, .iaload, 1), (357, .aload_n 0, 1), (358, .iload_n 3, 1), (359, .iconst 2, 1), (360, .iadd, 1), (361, .iaload, 1), (362, .aload_n 0, 1), (363, .iload_n 3, 1), (364, .iconst 3, 1), (365, .iadd, 1), (366, .iaload, 1), (367, .invokevirtual 27, 3), (370, .pop, 1), (371, .aload_n 2, 1), (372, .aload_n 0, 1), (373, .iload_n 3, 1)] = true := by decide +kernel
theorem dL_law_0 : decode cL_law 0 = .ok (.new 7, 3) := kq.at kqdL_law_0 0 rfl
theorem dL_law_3 : decode cL_law 3 = .ok (.dup, 1) := kq.at kqdL_law_0 1 rfl
theorem dL_law_4 : decode cL_law 4 = .ok (.invokespecial 9, 3) := kq.at kqdL_law_0 2 rfl
theorem dL_law_7 : decode cL_law 7 = .ok (.astore_n 1, 1) := kq.at kqdL_law_0 3 rfl
theorem dL_law_8 : decode cL_law 8 = .ok (.new 10, 3) := kq.at kqdL_law_0 4 rfl
theorem dL_law_11 : decode cL_law 11 = .ok (.dup, 1) := kq.at kqdL_law_0 5 rfl
theorem dL_law_12 : decode cL_law 12 = .ok (.invokespecial 12, 3) := kq.at kqdL_law_0 6 rfl
theorem dL_law_15 : decode cL_law 15 = .ok (.astore_n 2, 1) := kq.at kqdL_law_0 7 rfl
theorem dL_law_16 : decode cL_law 16 = .ok (.iconst 0, 1) := kq.at kqdL_law_0 8 rfl
theorem dL_law_17 : decode cL_law 17 = .ok (.istore_n 3, 1) := kq.at kqdL_law_0 9 rfl
theorem dL_law_18 : decode cL_law 18 = .ok (.iload_n 3, 1) := kq.at kqdL_law_0 10 rfl
theorem dL_law_19 : decode cL_law 19 = .ok (.aload_n 0, 1) := kq.at kqdL_law_0 11 rfl
theorem dL_law_20 : decode cL_law 20 = .ok (.arraylength, 1) := kq.at kqdL_law_0 12 rfl
theorem dL_law_21 : decode cL_law 21 = .ok (.bipush 6, 2) := kq.at kqdL_law_0 13 rfl
theorem dL_law_23 : decode cL_law 23 = .ok (.isub, 1) := kq.at kqdL_law_0 14 rfl
theorem dL_law_24 : decode cL_law 24 = .ok (.if_icmp .gt 1938, 3) := kq.at kqdL_law_0 15 rfl
theorem dL_law_27 : decode cL_law 27 = .ok (.aload_n 0, 1) := kq.at kqdL_law_0 16 rfl
theorem dL_law_28 : decode cL_law 28 = .ok (.iload_n 3, 1) := kq.at kqdL_law_0 17 rfl
theorem dL_law_29 : decode cL_law 29 = .ok (.iaload, 1) := kq.at kqdL_law_0 18 rfl
theorem dL_law_30 : decode cL_law 30 = .ok (.bipush 127, 2) := kq.at kqdL_law_0 19 rfl
theorem dL_law_32 : decode cL_law 32 = .ok (.iand, 1) := kq.at kqdL_law_0 20 rfl
theorem dL_law_33 : decode cL_law 33 = .ok (.tableswitch 1923 0 65 #[279, 292, 305, 318, 361, 434, 467, 530, 593, 616, 639, 662, 685, 718, 751, 784, 833, 846, 869, 892, 915, 948, 991, 1004, 1027, 1040, 1053, 1066, 1079, 1102, 1115, 1148, 1171, 1194, 1227, 1240, 1263, 1286, 1299, 1312, 1335, 1358, 1381, 1404, 1417, 1430, 1443, 1476, 1509, 1532, 1545, 1578, 1621, 1644, 1667, 1680, 1713, 1746, 1759, 1772, 1785, 1798, 1831, 1854, 1897, 1910], 279) := kq.at kqdL_law_0 21 rfl
theorem dL_law_312 : decode cL_law 312 = .ok (.aload_n 1, 1) := kq.at kqdL_law_0 22 rfl
theorem dL_law_313 : decode cL_law 313 = .ok (.invokevirtual 13, 3) := kq.at kqdL_law_0 23 rfl
theorem dL_law_316 : decode cL_law 316 = .ok (.pop, 1) := kq.at kqdL_law_0 24 rfl
theorem dL_law_317 : decode cL_law 317 = .ok (.aload_n 2, 1) := kq.at kqdL_law_0 25 rfl
theorem dL_law_318 : decode cL_law 318 = .ok (.invokevirtual 17, 3) := kq.at kqdL_law_0 26 rfl
theorem dL_law_321 : decode cL_law 321 = .ok (.pop, 1) := kq.at kqdL_law_0 27 rfl
theorem dL_law_322 : decode cL_law 322 = .ok (.goto 1634, 3) := kq.at kqdL_law_0 28 rfl
theorem dL_law_325 : decode cL_law 325 = .ok (.aload_n 1, 1) := kq.at kqdL_law_0 29 rfl
theorem dL_law_326 : decode cL_law 326 = .ok (.invokevirtual 18, 3) := kq.at kqdL_law_0 30 rfl
theorem dL_law_329 : decode cL_law 329 = .ok (.pop2, 1) := kq.at kqdL_law_0 31 rfl
theorem dL_law_330 : decode cL_law 330 = .ok (.aload_n 2, 1) := kq.at kqdL_law_0 32 rfl
theorem dL_law_331 : decode cL_law 331 = .ok (.invokevirtual 22, 3) := kq.at kqdL_law_0 33 rfl
theorem dL_law_334 : decode cL_law 334 = .ok (.pop2, 1) := kq.at kqdL_law_0 34 rfl
theorem dL_law_335 : decode cL_law 335 = .ok (.goto 1621, 3) := kq.at kqdL_law_0 35 rfl
theorem dL_law_338 : decode cL_law 338 = .ok (.aload_n 1, 1) := kq.at kqdL_law_0 36 rfl
theorem dL_law_339 : decode cL_law 339 = .ok (.invokevirtual 23, 3) := kq.at kqdL_law_0 37 rfl
theorem dL_law_342 : decode cL_law 342 = .ok (.pop2, 1) := kq.at kqdL_law_0 38 rfl
theorem dL_law_343 : decode cL_law 343 = .ok (.aload_n 2, 1) := kq.at kqdL_law_0 39 rfl
theorem dL_law_344 : decode cL_law 344 = .ok (.invokevirtual 26, 3) := kq.at kqdL_law_0 40 rfl
theorem dL_law_347 : decode cL_law 347 = .ok (.pop2, 1) := kq.at kqdL_law_0 41 rfl
theorem dL_law_348 : decode cL_law 348 = .ok (.goto 1608, 3) := kq.at kqdL_law_0 42 rfl
theorem dL_law_351 : decode cL_law 351 = .ok (.aload_n 1, 1) := kq.at kqdL_law_0 43 rfl
theorem dL_law_352 : decode cL_law 352 = .ok (.aload_n 0, 1) := kq.at kqdL_law_0 44 rfl
theorem dL_law_353 : decode cL_law 353 = .ok (.iload_n 3, 1) := kq.at kqdL_law_0 45 rfl
theorem dL_law_354 : decode cL_law 354 = .ok (.iconst 1, 1) := kq.at kqdL_law_0 46 rfl
theorem dL_law_355 : decode cL_law 355 = .ok (.iadd, 1) := kq.at kqdL_law_0 47 rfl
theorem dL_law_356 : decode cL_law 356 = .ok (.iaload, 1) := kq.at kqdL_law_0 48 rfl
theorem dL_law_357 : decode cL_law 357 = .ok (.aload_n 0, 1) := kq.at kqdL_law_0 49 rfl
theorem dL_law_358 : decode cL_law 358 = .ok (.iload_n 3, 1) := kq.at kqdL_law_0 50 rfl
theorem dL_law_359 : decode cL_law 359 = .ok (.iconst 2, 1) := kq.at kqdL_law_0 51 rfl
theorem dL_law_360 : decode cL_law 360 = .ok (.iadd, 1) := kq.at kqdL_law_0 52 rfl
theorem dL_law_361 : decode cL_law 361 = .ok (.iaload, 1) := kq.at kqdL_law_0 53 rfl
theorem dL_law_362 : decode cL_law 362 = .ok (.aload_n 0, 1) := kq.at kqdL_law_0 54 rfl
theorem dL_law_363 : decode cL_law 363 = .ok (.iload_n 3, 1) := kq.at kqdL_law_0 55 rfl
theorem dL_law_364 : decode cL_law 364 = .ok (.iconst 3, 1) := kq.at kqdL_law_0 56 rfl
theorem dL_law_365 : decode cL_law 365 = .ok (.iadd, 1) := kq.at kqdL_law_0 57 rfl
theorem dL_law_366 : decode cL_law 366 = .ok (.iaload, 1) := kq.at kqdL_law_0 58 rfl
theorem dL_law_367 : decode cL_law 367 = .ok (.invokevirtual 27, 3) := kq.at kqdL_law_0 59 rfl
theorem dL_law_370 : decode cL_law 370 = .ok (.pop, 1) := kq.at kqdL_law_0 60 rfl
theorem dL_law_371 : decode cL_law 371 = .ok (.aload_n 2, 1) := kq.at kqdL_law_0 61 rfl
theorem dL_law_372 : decode cL_law 372 = .ok (.aload_n 0, 1) := kq.at kqdL_law_0 62 rfl
theorem dL_law_373 : decode cL_law 373 = .ok (.iload_n 3, 1) := kq.at kqdL_law_0 63 rfl
theorem kqdL_law_374 : kq cL_law [(374, .iconst 1, 1), (375, .iadd, 1), (376, .iaload, 1), (377, .aload_n 0, 1), (378, .iload_n 3, 1), (379, .iconst 2, 1), (380, .iadd, 1), (381, .iaload, 1), (382, .aload_n 0, 1), (383, .iload_n 3, 1), (384, .iconst 3, 1), (385, .iadd, 1), (386, .iaload, 1), (387, .invokevirtual 31, 3), (390, .pop, 1), (391, .goto 1565, 3), (394, .aload_n 1, 1), (395, .aload_n 0, 1), (396, .iload_n 3, 1), (397, .iconst 1, 1), (398, .iadd, 1), (399, .iaload, 1), (400, .aload_n 0, 1), (401, .iload_n 3, 1), (402, .iconst 2, 1), (403, .iadd, 1), (404, .iaload, 1), (405, .aload_n 0, 1), (406, .iload_n 3, 1), (407, .iconst 3, 1), (408, .iadd, 1), (409, .iaload, 1), (410, .i2l, 1), (411, .bipush 32, 2), (413, .lshl, 1), (414, .aload_n 0, 1), (415, .iload_n 3, 1), (416, .iconst 4, 1), (417, .iadd, 1), (418, .iaload, 1), (419, .i2l, 1), (420, .ldc2_w 32, 3), (423, .land, 1), (424, .lor, 1), (425, .invokevirtual 34, 3), (428, .pop, 1), (429, .aload_n 2, 1), (430, .aload_n 0, 1), (431, .iload_n 3, 1), (432, .iconst 1, 1), (433, .iadd, 1), (434, .iaload, 1), (435, .aload_n 0, 1), (436, .iload_n 3, 1), (437, .iconst 2, 1), (438, .iadd, 1), (439, .iaload, 1), (440, .aload_n 0, 1), (441, .iload_n 3, 1), (442, .iconst 3, 1), (443, .iadd, 1), (444, .iaload, 1), (445, .i2l, 1), (446, .bipush 32, 2)] = true := by decide +kernel
theorem dL_law_374 : decode cL_law 374 = .ok (.iconst 1, 1) := kq.at kqdL_law_374 0 rfl
theorem dL_law_375 : decode cL_law 375 = .ok (.iadd, 1) := kq.at kqdL_law_374 1 rfl
theorem dL_law_376 : decode cL_law 376 = .ok (.iaload, 1) := kq.at kqdL_law_374 2 rfl
theorem dL_law_377 : decode cL_law 377 = .ok (.aload_n 0, 1) := kq.at kqdL_law_374 3 rfl
theorem dL_law_378 : decode cL_law 378 = .ok (.iload_n 3, 1) := kq.at kqdL_law_374 4 rfl
theorem dL_law_379 : decode cL_law 379 = .ok (.iconst 2, 1) := kq.at kqdL_law_374 5 rfl
theorem dL_law_380 : decode cL_law 380 = .ok (.iadd, 1) := kq.at kqdL_law_374 6 rfl
theorem dL_law_381 : decode cL_law 381 = .ok (.iaload, 1) := kq.at kqdL_law_374 7 rfl
theorem dL_law_382 : decode cL_law 382 = .ok (.aload_n 0, 1) := kq.at kqdL_law_374 8 rfl
theorem dL_law_383 : decode cL_law 383 = .ok (.iload_n 3, 1) := kq.at kqdL_law_374 9 rfl
theorem dL_law_384 : decode cL_law 384 = .ok (.iconst 3, 1) := kq.at kqdL_law_374 10 rfl
theorem dL_law_385 : decode cL_law 385 = .ok (.iadd, 1) := kq.at kqdL_law_374 11 rfl
theorem dL_law_386 : decode cL_law 386 = .ok (.iaload, 1) := kq.at kqdL_law_374 12 rfl
theorem dL_law_387 : decode cL_law 387 = .ok (.invokevirtual 31, 3) := kq.at kqdL_law_374 13 rfl
theorem dL_law_390 : decode cL_law 390 = .ok (.pop, 1) := kq.at kqdL_law_374 14 rfl
theorem dL_law_391 : decode cL_law 391 = .ok (.goto 1565, 3) := kq.at kqdL_law_374 15 rfl
theorem dL_law_394 : decode cL_law 394 = .ok (.aload_n 1, 1) := kq.at kqdL_law_374 16 rfl
theorem dL_law_395 : decode cL_law 395 = .ok (.aload_n 0, 1) := kq.at kqdL_law_374 17 rfl
theorem dL_law_396 : decode cL_law 396 = .ok (.iload_n 3, 1) := kq.at kqdL_law_374 18 rfl
theorem dL_law_397 : decode cL_law 397 = .ok (.iconst 1, 1) := kq.at kqdL_law_374 19 rfl
theorem dL_law_398 : decode cL_law 398 = .ok (.iadd, 1) := kq.at kqdL_law_374 20 rfl
theorem dL_law_399 : decode cL_law 399 = .ok (.iaload, 1) := kq.at kqdL_law_374 21 rfl
theorem dL_law_400 : decode cL_law 400 = .ok (.aload_n 0, 1) := kq.at kqdL_law_374 22 rfl
theorem dL_law_401 : decode cL_law 401 = .ok (.iload_n 3, 1) := kq.at kqdL_law_374 23 rfl
theorem dL_law_402 : decode cL_law 402 = .ok (.iconst 2, 1) := kq.at kqdL_law_374 24 rfl
theorem dL_law_403 : decode cL_law 403 = .ok (.iadd, 1) := kq.at kqdL_law_374 25 rfl
theorem dL_law_404 : decode cL_law 404 = .ok (.iaload, 1) := kq.at kqdL_law_374 26 rfl
theorem dL_law_405 : decode cL_law 405 = .ok (.aload_n 0, 1) := kq.at kqdL_law_374 27 rfl
theorem dL_law_406 : decode cL_law 406 = .ok (.iload_n 3, 1) := kq.at kqdL_law_374 28 rfl
theorem dL_law_407 : decode cL_law 407 = .ok (.iconst 3, 1) := kq.at kqdL_law_374 29 rfl
theorem dL_law_408 : decode cL_law 408 = .ok (.iadd, 1) := kq.at kqdL_law_374 30 rfl
theorem dL_law_409 : decode cL_law 409 = .ok (.iaload, 1) := kq.at kqdL_law_374 31 rfl
theorem dL_law_410 : decode cL_law 410 = .ok (.i2l, 1) := kq.at kqdL_law_374 32 rfl
theorem dL_law_411 : decode cL_law 411 = .ok (.bipush 32, 2) := kq.at kqdL_law_374 33 rfl
theorem dL_law_413 : decode cL_law 413 = .ok (.lshl, 1) := kq.at kqdL_law_374 34 rfl
theorem dL_law_414 : decode cL_law 414 = .ok (.aload_n 0, 1) := kq.at kqdL_law_374 35 rfl
theorem dL_law_415 : decode cL_law 415 = .ok (.iload_n 3, 1) := kq.at kqdL_law_374 36 rfl
theorem dL_law_416 : decode cL_law 416 = .ok (.iconst 4, 1) := kq.at kqdL_law_374 37 rfl
theorem dL_law_417 : decode cL_law 417 = .ok (.iadd, 1) := kq.at kqdL_law_374 38 rfl
theorem dL_law_418 : decode cL_law 418 = .ok (.iaload, 1) := kq.at kqdL_law_374 39 rfl
theorem dL_law_419 : decode cL_law 419 = .ok (.i2l, 1) := kq.at kqdL_law_374 40 rfl
theorem dL_law_420 : decode cL_law 420 = .ok (.ldc2_w 32, 3) := kq.at kqdL_law_374 41 rfl
theorem dL_law_423 : decode cL_law 423 = .ok (.land, 1) := kq.at kqdL_law_374 42 rfl
theorem dL_law_424 : decode cL_law 424 = .ok (.lor, 1) := kq.at kqdL_law_374 43 rfl
theorem dL_law_425 : decode cL_law 425 = .ok (.invokevirtual 34, 3) := kq.at kqdL_law_374 44 rfl
theorem dL_law_428 : decode cL_law 428 = .ok (.pop, 1) := kq.at kqdL_law_374 45 rfl
theorem dL_law_429 : decode cL_law 429 = .ok (.aload_n 2, 1) := kq.at kqdL_law_374 46 rfl
theorem dL_law_430 : decode cL_law 430 = .ok (.aload_n 0, 1) := kq.at kqdL_law_374 47 rfl
theorem dL_law_431 : decode cL_law 431 = .ok (.iload_n 3, 1) := kq.at kqdL_law_374 48 rfl
theorem dL_law_432 : decode cL_law 432 = .ok (.iconst 1, 1) := kq.at kqdL_law_374 49 rfl
theorem dL_law_433 : decode cL_law 433 = .ok (.iadd, 1) := kq.at kqdL_law_374 50 rfl
theorem dL_law_434 : decode cL_law 434 = .ok (.iaload, 1) := kq.at kqdL_law_374 51 rfl
theorem dL_law_435 : decode cL_law 435 = .ok (.aload_n 0, 1) := kq.at kqdL_law_374 52 rfl
theorem dL_law_436 : decode cL_law 436 = .ok (.iload_n 3, 1) := kq.at kqdL_law_374 53 rfl
theorem dL_law_437 : decode cL_law 437 = .ok (.iconst 2, 1) := kq.at kqdL_law_374 54 rfl
theorem dL_law_438 : decode cL_law 438 = .ok (.iadd, 1) := kq.at kqdL_law_374 55 rfl
theorem dL_law_439 : decode cL_law 439 = .ok (.iaload, 1) := kq.at kqdL_law_374 56 rfl
theorem dL_law_440 : decode cL_law 440 = .ok (.aload_n 0, 1) := kq.at kqdL_law_374 57 rfl
theorem dL_law_441 : decode cL_law 441 = .ok (.iload_n 3, 1) := kq.at kqdL_law_374 58 rfl
theorem dL_law_442 : decode cL_law 442 = .ok (.iconst 3, 1) := kq.at kqdL_law_374 59 rfl
theorem dL_law_443 : decode cL_law 443 = .ok (.iadd, 1) := kq.at kqdL_law_374 60 rfl
theorem dL_law_444 : decode cL_law 444 = .ok (.iaload, 1) := kq.at kqdL_law_374 61 rfl
theorem dL_law_445 : decode cL_law 445 = .ok (.i2l, 1) := kq.at kqdL_law_374 62 rfl
theorem dL_law_446 : decode cL_law 446 = .ok (.bipush 32, 2) := kq.at kqdL_law_374 63 rfl
theorem kqdL_law_448 : kq cL_law [(448, .lshl, 1), (449, .aload_n 0, 1), (450, .iload_n 3, 1), (451, .iconst 4, 1), (452, .iadd, 1), (453, .iaload, 1), (454, .i2l, 1), (455, .ldc2_w 32, 3), (458, .land, 1), (459, .lor, 1), (460, .invokevirtual 38, 3), (463, .pop, 1), (464, .goto 1492, 3), (467, .aload_n 1, 1), (468, .aload_n 0, 1), (469, .iload_n 3, 1), (470, .iconst 1, 1), (471, .iadd, 1), (472, .iaload, 1), (473, .aload_n 0, 1), (474, .iload_n 3, 1), (475, .iconst 2, 1), (476, .iadd, 1), (477, .iaload, 1), (478, .invokevirtual 39, 3), (481, .pop2, 1), (482, .aload_n 2, 1), (483, .aload_n 0, 1), (484, .iload_n 3, 1), (485, .iconst 1, 1), (486, .iadd, 1), (487, .iaload, 1), (488, .aload_n 0, 1), (489, .iload_n 3, 1), (490, .iconst 2, 1), (491, .iadd, 1), (492, .iaload, 1), (493, .invokevirtual 43, 3), (496, .pop2, 1), (497, .goto 1459, 3), (500, .aload_n 1, 1), (501, .aload_n 0, 1), (502, .iload_n 3, 1), (503, .iconst 1, 1), (504, .iadd, 1), (505, .iaload, 1), (506, .aload_n 0, 1), (507, .iload_n 3, 1), (508, .iconst 2, 1), (509, .iadd, 1), (510, .iaload, 1), (511, .aload_n 0, 1), (512, .iload_n 3, 1), (513, .iconst 3, 1), (514, .iadd, 1), (515, .iaload, 1), (516, .aload_n 0, 1), (517, .iload_n 3, 1), (518, .iconst 4, 1), (519, .iadd, 1), (520, .iaload, 1), (521, .aload_n 0, 1), (522, .iload_n 3, 1), (523, .iconst 5, 1)] = true := by decide +kernel
theorem dL_law_448 : decode cL_law 448 = .ok (.lshl, 1) := kq.at kqdL_law_448 0 rfl
theorem dL_law_449 : decode cL_law 449 = .ok (.aload_n 0, 1) := kq.at kqdL_law_448 1 rfl
theorem dL_law_450 : decode cL_law 450 = .ok (.iload_n 3, 1) := kq.at kqdL_law_448 2 rfl
theorem dL_law_451 : decode cL_law 451 = .ok (.iconst 4, 1) := kq.at kqdL_law_448 3 rfl
theorem dL_law_452 : decode cL_law 452 = .ok (.iadd, 1) := kq.at kqdL_law_448 4 rfl
theorem dL_law_453 : decode cL_law 453 = .ok (.iaload, 1) := kq.at kqdL_law_448 5 rfl
theorem dL_law_454 : decode cL_law 454 = .ok (.i2l, 1) := kq.at kqdL_law_448 6 rfl
theorem dL_law_455 : decode cL_law 455 = .ok (.ldc2_w 32, 3) := kq.at kqdL_law_448 7 rfl
theorem dL_law_458 : decode cL_law 458 = .ok (.land, 1) := kq.at kqdL_law_448 8 rfl
theorem dL_law_459 : decode cL_law 459 = .ok (.lor, 1) := kq.at kqdL_law_448 9 rfl
theorem dL_law_460 : decode cL_law 460 = .ok (.invokevirtual 38, 3) := kq.at kqdL_law_448 10 rfl
theorem dL_law_463 : decode cL_law 463 = .ok (.pop, 1) := kq.at kqdL_law_448 11 rfl
theorem dL_law_464 : decode cL_law 464 = .ok (.goto 1492, 3) := kq.at kqdL_law_448 12 rfl
theorem dL_law_467 : decode cL_law 467 = .ok (.aload_n 1, 1) := kq.at kqdL_law_448 13 rfl
theorem dL_law_468 : decode cL_law 468 = .ok (.aload_n 0, 1) := kq.at kqdL_law_448 14 rfl
theorem dL_law_469 : decode cL_law 469 = .ok (.iload_n 3, 1) := kq.at kqdL_law_448 15 rfl
theorem dL_law_470 : decode cL_law 470 = .ok (.iconst 1, 1) := kq.at kqdL_law_448 16 rfl
theorem dL_law_471 : decode cL_law 471 = .ok (.iadd, 1) := kq.at kqdL_law_448 17 rfl
theorem dL_law_472 : decode cL_law 472 = .ok (.iaload, 1) := kq.at kqdL_law_448 18 rfl
theorem dL_law_473 : decode cL_law 473 = .ok (.aload_n 0, 1) := kq.at kqdL_law_448 19 rfl
theorem dL_law_474 : decode cL_law 474 = .ok (.iload_n 3, 1) := kq.at kqdL_law_448 20 rfl
theorem dL_law_475 : decode cL_law 475 = .ok (.iconst 2, 1) := kq.at kqdL_law_448 21 rfl
theorem dL_law_476 : decode cL_law 476 = .ok (.iadd, 1) := kq.at kqdL_law_448 22 rfl
theorem dL_law_477 : decode cL_law 477 = .ok (.iaload, 1) := kq.at kqdL_law_448 23 rfl
theorem dL_law_478 : decode cL_law 478 = .ok (.invokevirtual 39, 3) := kq.at kqdL_law_448 24 rfl
theorem dL_law_481 : decode cL_law 481 = .ok (.pop2, 1) := kq.at kqdL_law_448 25 rfl
theorem dL_law_482 : decode cL_law 482 = .ok (.aload_n 2, 1) := kq.at kqdL_law_448 26 rfl
theorem dL_law_483 : decode cL_law 483 = .ok (.aload_n 0, 1) := kq.at kqdL_law_448 27 rfl
theorem dL_law_484 : decode cL_law 484 = .ok (.iload_n 3, 1) := kq.at kqdL_law_448 28 rfl
theorem dL_law_485 : decode cL_law 485 = .ok (.iconst 1, 1) := kq.at kqdL_law_448 29 rfl
theorem dL_law_486 : decode cL_law 486 = .ok (.iadd, 1) := kq.at kqdL_law_448 30 rfl
theorem dL_law_487 : decode cL_law 487 = .ok (.iaload, 1) := kq.at kqdL_law_448 31 rfl
theorem dL_law_488 : decode cL_law 488 = .ok (.aload_n 0, 1) := kq.at kqdL_law_448 32 rfl
theorem dL_law_489 : decode cL_law 489 = .ok (.iload_n 3, 1) := kq.at kqdL_law_448 33 rfl
theorem dL_law_490 : decode cL_law 490 = .ok (.iconst 2, 1) := kq.at kqdL_law_448 34 rfl
theorem dL_law_491 : decode cL_law 491 = .ok (.iadd, 1) := kq.at kqdL_law_448 35 rfl
theorem dL_law_492 : decode cL_law 492 = .ok (.iaload, 1) := kq.at kqdL_law_448 36 rfl
theorem dL_law_493 : decode cL_law 493 = .ok (.invokevirtual 43, 3) := kq.at kqdL_law_448 37 rfl
theorem dL_law_496 : decode cL_law 496 = .ok (.pop2, 1) := kq.at kqdL_law_448 38 rfl
theorem dL_law_497 : decode cL_law 497 = .ok (.goto 1459, 3) := kq.at kqdL_law_448 39 rfl
theorem dL_law_500 : decode cL_law 500 = .ok (.aload_n 1, 1) := kq.at kqdL_law_448 40 rfl
theorem dL_law_501 : decode cL_law 501 = .ok (.aload_n 0, 1) := kq.at kqdL_law_448 41 rfl
theorem dL_law_502 : decode cL_law 502 = .ok (.iload_n 3, 1) := kq.at kqdL_law_448 42 rfl
theorem dL_law_503 : decode cL_law 503 = .ok (.iconst 1, 1) := kq.at kqdL_law_448 43 rfl
theorem dL_law_504 : decode cL_law 504 = .ok (.iadd, 1) := kq.at kqdL_law_448 44 rfl
theorem dL_law_505 : decode cL_law 505 = .ok (.iaload, 1) := kq.at kqdL_law_448 45 rfl
theorem dL_law_506 : decode cL_law 506 = .ok (.aload_n 0, 1) := kq.at kqdL_law_448 46 rfl
theorem dL_law_507 : decode cL_law 507 = .ok (.iload_n 3, 1) := kq.at kqdL_law_448 47 rfl
theorem dL_law_508 : decode cL_law 508 = .ok (.iconst 2, 1) := kq.at kqdL_law_448 48 rfl
theorem dL_law_509 : decode cL_law 509 = .ok (.iadd, 1) := kq.at kqdL_law_448 49 rfl
theorem dL_law_510 : decode cL_law 510 = .ok (.iaload, 1) := kq.at kqdL_law_448 50 rfl
theorem dL_law_511 : decode cL_law 511 = .ok (.aload_n 0, 1) := kq.at kqdL_law_448 51 rfl
theorem dL_law_512 : decode cL_law 512 = .ok (.iload_n 3, 1) := kq.at kqdL_law_448 52 rfl
theorem dL_law_513 : decode cL_law 513 = .ok (.iconst 3, 1) := kq.at kqdL_law_448 53 rfl
theorem dL_law_514 : decode cL_law 514 = .ok (.iadd, 1) := kq.at kqdL_law_448 54 rfl
theorem dL_law_515 : decode cL_law 515 = .ok (.iaload, 1) := kq.at kqdL_law_448 55 rfl
theorem dL_law_516 : decode cL_law 516 = .ok (.aload_n 0, 1) := kq.at kqdL_law_448 56 rfl
theorem dL_law_517 : decode cL_law 517 = .ok (.iload_n 3, 1) := kq.at kqdL_law_448 57 rfl
theorem dL_law_518 : decode cL_law 518 = .ok (.iconst 4, 1) := kq.at kqdL_law_448 58 rfl
theorem dL_law_519 : decode cL_law 519 = .ok (.iadd, 1) := kq.at kqdL_law_448 59 rfl
theorem dL_law_520 : decode cL_law 520 = .ok (.iaload, 1) := kq.at kqdL_law_448 60 rfl
theorem dL_law_521 : decode cL_law 521 = .ok (.aload_n 0, 1) := kq.at kqdL_law_448 61 rfl
theorem dL_law_522 : decode cL_law 522 = .ok (.iload_n 3, 1) := kq.at kqdL_law_448 62 rfl
theorem dL_law_523 : decode cL_law 523 = .ok (.iconst 5, 1) := kq.at kqdL_law_448 63 rfl
theorem kqdL_law_524 : kq cL_law [(524, .iadd, 1), (525, .iaload, 1), (526, .invokevirtual 44, 3), (529, .pop, 1), (530, .aload_n 2, 1), (531, .aload_n 0, 1), (532, .iload_n 3, 1), (533, .iconst 1, 1), (534, .iadd, 1), (535, .iaload, 1), (536, .aload_n 0, 1), (537, .iload_n 3, 1), (538, .iconst 2, 1), (539, .iadd, 1), (540, .iaload, 1), (541, .aload_n 0, 1), (542, .iload_n 3, 1), (543, .iconst 3, 1), (544, .iadd, 1), (545, .iaload, 1), (546, .aload_n 0, 1), (547, .iload_n 3, 1), (548, .iconst 4, 1), (549, .iadd, 1), (550, .iaload, 1), (551, .aload_n 0, 1), (552, .iload_n 3, 1), (553, .iconst 5, 1), (554, .iadd, 1), (555, .iaload, 1), (556, .invokevirtual 48, 3), (559, .pop, 1), (560, .goto 1396, 3), (563, .aload_n 1, 1), (564, .aload_n 0, 1), (565, .iload_n 3, 1), (566, .iconst 1, 1), (567, .iadd, 1), (568, .iaload, 1), (569, .aload_n 0, 1), (570, .iload_n 3, 1), (571, .iconst 2, 1), (572, .iadd, 1), (573, .iaload, 1), (574, .aload_n 0, 1), (575, .iload_n 3, 1), (576, .iconst 3, 1), (577, .iadd, 1), (578, .iaload, 1), (579, .aload_n 0, 1), (580, .iload_n 3, 1), (581, .iconst 4, 1), (582, .iadd, 1), (583, .iaload, 1), (584, .aload_n 0, 1), (585, .iload_n 3, 1), (586, .iconst 5, 1), (587, .iadd, 1), (588, .iaload, 1), (589, .invokevirtual 49, 3), (592, .pop, 1), (593, .aload_n 2, 1), (594, .aload_n 0, 1), (595, .iload_n 3, 1)] = true := by decide +kernel
theorem dL_law_524 : decode cL_law 524 = .ok (.iadd, 1) := kq.at kqdL_law_524 0 rfl
theorem dL_law_525 : decode cL_law 525 = .ok (.iaload, 1) := kq.at kqdL_law_524 1 rfl
theorem dL_law_526 : decode cL_law 526 = .ok (.invokevirtual 44, 3) := kq.at kqdL_law_524 2 rfl
theorem dL_law_529 : decode cL_law 529 = .ok (.pop, 1) := kq.at kqdL_law_524 3 rfl
theorem dL_law_530 : decode cL_law 530 = .ok (.aload_n 2, 1) := kq.at kqdL_law_524 4 rfl
theorem dL_law_531 : decode cL_law 531 = .ok (.aload_n 0, 1) := kq.at kqdL_law_524 5 rfl
theorem dL_law_532 : decode cL_law 532 = .ok (.iload_n 3, 1) := kq.at kqdL_law_524 6 rfl
theorem dL_law_533 : decode cL_law 533 = .ok (.iconst 1, 1) := kq.at kqdL_law_524 7 rfl
theorem dL_law_534 : decode cL_law 534 = .ok (.iadd, 1) := kq.at kqdL_law_524 8 rfl
theorem dL_law_535 : decode cL_law 535 = .ok (.iaload, 1) := kq.at kqdL_law_524 9 rfl
theorem dL_law_536 : decode cL_law 536 = .ok (.aload_n 0, 1) := kq.at kqdL_law_524 10 rfl
theorem dL_law_537 : decode cL_law 537 = .ok (.iload_n 3, 1) := kq.at kqdL_law_524 11 rfl
theorem dL_law_538 : decode cL_law 538 = .ok (.iconst 2, 1) := kq.at kqdL_law_524 12 rfl
theorem dL_law_539 : decode cL_law 539 = .ok (.iadd, 1) := kq.at kqdL_law_524 13 rfl
theorem dL_law_540 : decode cL_law 540 = .ok (.iaload, 1) := kq.at kqdL_law_524 14 rfl
theorem dL_law_541 : decode cL_law 541 = .ok (.aload_n 0, 1) := kq.at kqdL_law_524 15 rfl
theorem dL_law_542 : decode cL_law 542 = .ok (.iload_n 3, 1) := kq.at kqdL_law_524 16 rfl
theorem dL_law_543 : decode cL_law 543 = .ok (.iconst 3, 1) := kq.at kqdL_law_524 17 rfl
theorem dL_law_544 : decode cL_law 544 = .ok (.iadd, 1) := kq.at kqdL_law_524 18 rfl
theorem dL_law_545 : decode cL_law 545 = .ok (.iaload, 1) := kq.at kqdL_law_524 19 rfl
theorem dL_law_546 : decode cL_law 546 = .ok (.aload_n 0, 1) := kq.at kqdL_law_524 20 rfl
theorem dL_law_547 : decode cL_law 547 = .ok (.iload_n 3, 1) := kq.at kqdL_law_524 21 rfl
theorem dL_law_548 : decode cL_law 548 = .ok (.iconst 4, 1) := kq.at kqdL_law_524 22 rfl
theorem dL_law_549 : decode cL_law 549 = .ok (.iadd, 1) := kq.at kqdL_law_524 23 rfl
theorem dL_law_550 : decode cL_law 550 = .ok (.iaload, 1) := kq.at kqdL_law_524 24 rfl
theorem dL_law_551 : decode cL_law 551 = .ok (.aload_n 0, 1) := kq.at kqdL_law_524 25 rfl
theorem dL_law_552 : decode cL_law 552 = .ok (.iload_n 3, 1) := kq.at kqdL_law_524 26 rfl
theorem dL_law_553 : decode cL_law 553 = .ok (.iconst 5, 1) := kq.at kqdL_law_524 27 rfl
theorem dL_law_554 : decode cL_law 554 = .ok (.iadd, 1) := kq.at kqdL_law_524 28 rfl
theorem dL_law_555 : decode cL_law 555 = .ok (.iaload, 1) := kq.at kqdL_law_524 29 rfl
theorem dL_law_556 : decode cL_law 556 = .ok (.invokevirtual 48, 3) := kq.at kqdL_law_524 30 rfl
theorem dL_law_559 : decode cL_law 559 = .ok (.pop, 1) := kq.at kqdL_law_524 31 rfl
theorem dL_law_560 : decode cL_law 560 = .ok (.goto 1396, 3) := kq.at kqdL_law_524 32 rfl
theorem dL_law_563 : decode cL_law 563 = .ok (.aload_n 1, 1) := kq.at kqdL_law_524 33 rfl
theorem dL_law_564 : decode cL_law 564 = .ok (.aload_n 0, 1) := kq.at kqdL_law_524 34 rfl
theorem dL_law_565 : decode cL_law 565 = .ok (.iload_n 3, 1) := kq.at kqdL_law_524 35 rfl
theorem dL_law_566 : decode cL_law 566 = .ok (.iconst 1, 1) := kq.at kqdL_law_524 36 rfl
theorem dL_law_567 : decode cL_law 567 = .ok (.iadd, 1) := kq.at kqdL_law_524 37 rfl
theorem dL_law_568 : decode cL_law 568 = .ok (.iaload, 1) := kq.at kqdL_law_524 38 rfl
theorem dL_law_569 : decode cL_law 569 = .ok (.aload_n 0, 1) := kq.at kqdL_law_524 39 rfl
theorem dL_law_570 : decode cL_law 570 = .ok (.iload_n 3, 1) := kq.at kqdL_law_524 40 rfl
theorem dL_law_571 : decode cL_law 571 = .ok (.iconst 2, 1) := kq.at kqdL_law_524 41 rfl
theorem dL_law_572 : decode cL_law 572 = .ok (.iadd, 1) := kq.at kqdL_law_524 42 rfl
theorem dL_law_573 : decode cL_law 573 = .ok (.iaload, 1) := kq.at kqdL_law_524 43 rfl
theorem dL_law_574 : decode cL_law 574 = .ok (.aload_n 0, 1) := kq.at kqdL_law_524 44 rfl
theorem dL_law_575 : decode cL_law 575 = .ok (.iload_n 3, 1) := kq.at kqdL_law_524 45 rfl
theorem dL_law_576 : decode cL_law 576 = .ok (.iconst 3, 1) := kq.at kqdL_law_524 46 rfl
theorem dL_law_577 : decode cL_law 577 = .ok (.iadd, 1) := kq.at kqdL_law_524 47 rfl
theorem dL_law_578 : decode cL_law 578 = .ok (.iaload, 1) := kq.at kqdL_law_524 48 rfl
theorem dL_law_579 : decode cL_law 579 = .ok (.aload_n 0, 1) := kq.at kqdL_law_524 49 rfl
theorem dL_law_580 : decode cL_law 580 = .ok (.iload_n 3, 1) := kq.at kqdL_law_524 50 rfl
theorem dL_law_581 : decode cL_law 581 = .ok (.iconst 4, 1) := kq.at kqdL_law_524 51 rfl
theorem dL_law_582 : decode cL_law 582 = .ok (.iadd, 1) := kq.at kqdL_law_524 52 rfl
theorem dL_law_583 : decode cL_law 583 = .ok (.iaload, 1) := kq.at kqdL_law_524 53 rfl
theorem dL_law_584 : decode cL_law 584 = .ok (.aload_n 0, 1) := kq.at kqdL_law_524 54 rfl
theorem dL_law_585 : decode cL_law 585 = .ok (.iload_n 3, 1) := kq.at kqdL_law_524 55 rfl
theorem dL_law_586 : decode cL_law 586 = .ok (.iconst 5, 1) := kq.at kqdL_law_524 56 rfl
theorem dL_law_587 : decode cL_law 587 = .ok (.iadd, 1) := kq.at kqdL_law_524 57 rfl
theorem dL_law_588 : decode cL_law 588 = .ok (.iaload, 1) := kq.at kqdL_law_524 58 rfl
theorem dL_law_589 : decode cL_law 589 = .ok (.invokevirtual 49, 3) := kq.at kqdL_law_524 59 rfl
theorem dL_law_592 : decode cL_law 592 = .ok (.pop, 1) := kq.at kqdL_law_524 60 rfl
theorem dL_law_593 : decode cL_law 593 = .ok (.aload_n 2, 1) := kq.at kqdL_law_524 61 rfl
theorem dL_law_594 : decode cL_law 594 = .ok (.aload_n 0, 1) := kq.at kqdL_law_524 62 rfl
theorem dL_law_595 : decode cL_law 595 = .ok (.iload_n 3, 1) := kq.at kqdL_law_524 63 rfl
theorem kqdL_law_596 : kq cL_law [(596, .iconst 1, 1), (597, .iadd, 1), (598, .iaload, 1), (599, .aload_n 0, 1), (600, .iload_n 3, 1), (601, .iconst 2, 1), (602, .iadd, 1), (603, .iaload, 1), (604, .aload_n 0, 1), (605, .iload_n 3, 1), (606, .iconst 3, 1), (607, .iadd, 1), (608, .iaload, 1), (609, .aload_n 0, 1), (610, .iload_n 3, 1), (611, .iconst 4, 1), (612, .iadd, 1), (613, .iaload, 1), (614, .aload_n 0, 1), (615, .iload_n 3, 1), (616, .iconst 5, 1), (617, .iadd, 1), (618, .iaload, 1), (619, .invokevirtual 53, 3), (622, .pop, 1), (623, .goto 1333, 3), (626, .aload_n 1, 1), (627, .aload_n 0, 1), (628, .iload_n 3, 1), (629, .iconst 1, 1), (630, .iadd, 1), (631, .iaload, 1), (632, .invokevirtual 54, 3), (635, .pop, 1), (636, .aload_n 2, 1), (637, .aload_n 0, 1), (638, .iload_n 3, 1), (639, .iconst 1, 1), (640, .iadd, 1), (641, .iaload, 1), (642, .invokevirtual 58, 3), (645, .pop, 1), (646, .goto 1310, 3), (649, .aload_n 1, 1), (650, .aload_n 0, 1), (651, .iload_n 3, 1), (652, .iconst 1, 1), (653, .iadd, 1), (654, .iaload, 1), (655, .invokevirtual 59, 3), (658, .pop, 1), (659, .aload_n 2, 1), (660, .aload_n 0, 1), (661, .iload_n 3, 1), (662, .iconst 1, 1), (663, .iadd, 1), (664, .iaload, 1), (665, .invokevirtual 62, 3), (668, .pop, 1), (669, .goto 1287, 3), (672, .aload_n 1, 1), (673, .aload_n 0, 1), (674, .iload_n 3, 1), (675, .iconst 1, 1)] = true := by decide +kernel
theorem dL_law_596 : decode cL_law 596 = .ok (.iconst 1, 1) := kq.at kqdL_law_596 0 rfl
theorem dL_law_597 : decode cL_law 597 = .ok (.iadd, 1) := kq.at kqdL_law_596 1 rfl
theorem dL_law_598 : decode cL_law 598 = .ok (.iaload, 1) := kq.at kqdL_law_596 2 rfl
theorem dL_law_599 : decode cL_law 599 = .ok (.aload_n 0, 1) := kq.at kqdL_law_596 3 rfl
theorem dL_law_600 : decode cL_law 600 = .ok (.iload_n 3, 1) := kq.at kqdL_law_596 4 rfl
theorem dL_law_601 : decode cL_law 601 = .ok (.iconst 2, 1) := kq.at kqdL_law_596 5 rfl
theorem dL_law_602 : decode cL_law 602 = .ok (.iadd, 1) := kq.at kqdL_law_596 6 rfl
theorem dL_law_603 : decode cL_law 603 = .ok (.iaload, 1) := kq.at kqdL_law_596 7 rfl
theorem dL_law_604 : decode cL_law 604 = .ok (.aload_n 0, 1) := kq.at kqdL_law_596 8 rfl
theorem dL_law_605 : decode cL_law 605 = .ok (.iload_n 3, 1) := kq.at kqdL_law_596 9 rfl
theorem dL_law_606 : decode cL_law 606 = .ok (.iconst 3, 1) := kq.at kqdL_law_596 10 rfl
theorem dL_law_607 : decode cL_law 607 = .ok (.iadd, 1) := kq.at kqdL_law_596 11 rfl
theorem dL_law_608 : decode cL_law 608 = .ok (.iaload, 1) := kq.at kqdL_law_596 12 rfl
theorem dL_law_609 : decode cL_law 609 = .ok (.aload_n 0, 1) := kq.at kqdL_law_596 13 rfl
theorem dL_law_610 : decode cL_law 610 = .ok (.iload_n 3, 1) := kq.at kqdL_law_596 14 rfl
theorem dL_law_611 : decode cL_law 611 = .ok (.iconst 4, 1) := kq.at kqdL_law_596 15 rfl
theorem dL_law_612 : decode cL_law 612 = .ok (.iadd, 1) := kq.at kqdL_law_596 16 rfl
theorem dL_law_613 : decode cL_law 613 = .ok (.iaload, 1) := kq.at kqdL_law_596 17 rfl
theorem dL_law_614 : decode cL_law 614 = .ok (.aload_n 0, 1) := kq.at kqdL_law_596 18 rfl
theorem dL_law_615 : decode cL_law 615 = .ok (.iload_n 3, 1) := kq.at kqdL_law_596 19 rfl
theorem dL_law_616 : decode cL_law 616 = .ok (.iconst 5, 1) := kq.at kqdL_law_596 20 rfl
theorem dL_law_617 : decode cL_law 617 = .ok (.iadd, 1) := kq.at kqdL_law_596 21 rfl
theorem dL_law_618 : decode cL_law 618 = .ok (.iaload, 1) := kq.at kqdL_law_596 22 rfl
theorem dL_law_619 : decode cL_law 619 = .ok (.invokevirtual 53, 3) := kq.at kqdL_law_596 23 rfl
theorem dL_law_622 : decode cL_law 622 = .ok (.pop, 1) := kq.at kqdL_law_596 24 rfl
theorem dL_law_623 : decode cL_law 623 = .ok (.goto 1333, 3) := kq.at kqdL_law_596 25 rfl
theorem dL_law_626 : decode cL_law 626 = .ok (.aload_n 1, 1) := kq.at kqdL_law_596 26 rfl
theorem dL_law_627 : decode cL_law 627 = .ok (.aload_n 0, 1) := kq.at kqdL_law_596 27 rfl
theorem dL_law_628 : decode cL_law 628 = .ok (.iload_n 3, 1) := kq.at kqdL_law_596 28 rfl
theorem dL_law_629 : decode cL_law 629 = .ok (.iconst 1, 1) := kq.at kqdL_law_596 29 rfl
theorem dL_law_630 : decode cL_law 630 = .ok (.iadd, 1) := kq.at kqdL_law_596 30 rfl
theorem dL_law_631 : decode cL_law 631 = .ok (.iaload, 1) := kq.at kqdL_law_596 31 rfl
theorem dL_law_632 : decode cL_law 632 = .ok (.invokevirtual 54, 3) := kq.at kqdL_law_596 32 rfl
theorem dL_law_635 : decode cL_law 635 = .ok (.pop, 1) := kq.at kqdL_law_596 33 rfl
theorem dL_law_636 : decode cL_law 636 = .ok (.aload_n 2, 1) := kq.at kqdL_law_596 34 rfl
theorem dL_law_637 : decode cL_law 637 = .ok (.aload_n 0, 1) := kq.at kqdL_law_596 35 rfl
theorem dL_law_638 : decode cL_law 638 = .ok (.iload_n 3, 1) := kq.at kqdL_law_596 36 rfl
theorem dL_law_639 : decode cL_law 639 = .ok (.iconst 1, 1) := kq.at kqdL_law_596 37 rfl
theorem dL_law_640 : decode cL_law 640 = .ok (.iadd, 1) := kq.at kqdL_law_596 38 rfl
theorem dL_law_641 : decode cL_law 641 = .ok (.iaload, 1) := kq.at kqdL_law_596 39 rfl
theorem dL_law_642 : decode cL_law 642 = .ok (.invokevirtual 58, 3) := kq.at kqdL_law_596 40 rfl
theorem dL_law_645 : decode cL_law 645 = .ok (.pop, 1) := kq.at kqdL_law_596 41 rfl
theorem dL_law_646 : decode cL_law 646 = .ok (.goto 1310, 3) := kq.at kqdL_law_596 42 rfl
theorem dL_law_649 : decode cL_law 649 = .ok (.aload_n 1, 1) := kq.at kqdL_law_596 43 rfl
theorem dL_law_650 : decode cL_law 650 = .ok (.aload_n 0, 1) := kq.at kqdL_law_596 44 rfl
theorem dL_law_651 : decode cL_law 651 = .ok (.iload_n 3, 1) := kq.at kqdL_law_596 45 rfl
theorem dL_law_652 : decode cL_law 652 = .ok (.iconst 1, 1) := kq.at kqdL_law_596 46 rfl
theorem dL_law_653 : decode cL_law 653 = .ok (.iadd, 1) := kq.at kqdL_law_596 47 rfl
theorem dL_law_654 : decode cL_law 654 = .ok (.iaload, 1) := kq.at kqdL_law_596 48 rfl
theorem dL_law_655 : decode cL_law 655 = .ok (.invokevirtual 59, 3) := kq.at kqdL_law_596 49 rfl
theorem dL_law_658 : decode cL_law 658 = .ok (.pop, 1) := kq.at kqdL_law_596 50 rfl
theorem dL_law_659 : decode cL_law 659 = .ok (.aload_n 2, 1) := kq.at kqdL_law_596 51 rfl
theorem dL_law_660 : decode cL_law 660 = .ok (.aload_n 0, 1) := kq.at kqdL_law_596 52 rfl
theorem dL_law_661 : decode cL_law 661 = .ok (.iload_n 3, 1) := kq.at kqdL_law_596 53 rfl
theorem dL_law_662 : decode cL_law 662 = .ok (.iconst 1, 1) := kq.at kqdL_law_596 54 rfl
theorem dL_law_663 : decode cL_law 663 = .ok (.iadd, 1) := kq.at kqdL_law_596 55 rfl
theorem dL_law_664 : decode cL_law 664 = .ok (.iaload, 1) := kq.at kqdL_law_596 56 rfl
theorem dL_law_665 : decode cL_law 665 = .ok (.invokevirtual 62, 3) := kq.at kqdL_law_596 57 rfl
theorem dL_law_668 : decode cL_law 668 = .ok (.pop, 1) := kq.at kqdL_law_596 58 rfl
theorem dL_law_669 : decode cL_law 669 = .ok (.goto 1287, 3) := kq.at kqdL_law_596 59 rfl
theorem dL_law_672 : decode cL_law 672 = .ok (.aload_n 1, 1) := kq.at kqdL_law_596 60 rfl
theorem dL_law_673 : decode cL_law 673 = .ok (.aload_n 0, 1) := kq.at kqdL_law_596 61 rfl
theorem dL_law_674 : decode cL_law 674 = .ok (.iload_n 3, 1) := kq.at kqdL_law_596 62 rfl
theorem dL_law_675 : decode cL_law 675 = .ok (.iconst 1, 1) := kq.at kqdL_law_596 63 rfl
