set_option maxRecDepth 20000 in
theorem zdL_law_351 : dAll cL_law [(351, .iconst 4, 1), (352, .iadd, 1), (353, .iaload, 1), (354, .aload_n 3, 1), (355, .invokestatic 80, 3), (358, .istore 5, 2), (360, .aload_n 2, 1), (361, .aload_n 0, 1), (362, .iload 4, 2), (364, .iconst 1, 1), (365, .iadd, 1), (366, .iaload, 1), (367, .aload_n 0, 1), (368, .iload 4, 2), (370, .iconst 2, 1), (371, .iadd, 1), (372, .iaload, 1), (373, .aload_n 0, 1), (374, .iload 4, 2), (376, .iconst 3, 1), (377, .iadd, 1), (378, .iaload, 1), (379, .aload_n 0, 1), (380, .iload 4, 2), (382, .iconst 4, 1), (383, .iadd, 1), (384, .iaload, 1), (385, .invokevirtual 83, 3), (388, .istore 6, 2), (390, .goto 185, 3)] := dAll_of (by decide +kernel)
theorem dL_law_351 : decode cL_law 351 = .ok (.iconst 4, 1) := zdL_law_351.1
theorem dL_law_352 : decode cL_law 352 = .ok (.iadd, 1) := zdL_law_351.2.1
theorem dL_law_353 : decode cL_law 353 = .ok (.iaload, 1) := zdL_law_351.2.2.1
theorem dL_law_354 : decode cL_law 354 = .ok (.aload_n 3, 1) := zdL_law_351.2.2.2.1
theorem dL_law_355 : decode cL_law 355 = .ok (.invokestatic 80, 3) := zdL_law_351.2.2.2.2.1
theorem dL_law_358 : decode cL_law 358 = .ok (.istore 5, 2) := zdL_law_351.2.2.2.2.2.1
theorem dL_law_360 : decode cL_law 360 = .ok (.aload_n 2, 1) := zdL_law_351.2.2.2.2.2.2.1
theorem dL_law_361 : decode cL_law 361 = .ok (.aload_n 0, 1) := zdL_law_351.2.2.2.2.2.2.2.1
theorem dL_law_362 : decode cL_law 362 = .ok (.iload 4, 2) := zdL_law_351.2.2.2.2.2.2.2.2.1
theorem dL_law_364 : decode cL_law 364 = .ok (.iconst 1, 1) := zdL_law_351.2.2.2.2.2.2.2.2.2.1
theorem dL_law_365 : decode cL_law 365 = .ok (.iadd, 1) := zdL_law_351.2.2.2.2.2.2.2.2.2.2.1
theorem dL_law_366 : decode cL_law 366 = .ok (.iaload, 1) := zdL_law_351.2.2.2.2.2.2.2.2.2.2.2.1
theorem dL_law_367 : decode cL_law 367 = .ok (.aload_n 0, 1) := zdL_law_351.2.2.2.2.2.2.2.2.2.2.2.2.1
theorem dL_law_368 : decode cL_law 368 = .ok (.iload 4, 2) := zdL_law_351.2.2.2.2.2.2.2.2.2.2.2.2.2.1
theorem dL_law_370 : decode cL_law 370 = .ok (.iconst 2, 1) := zdL_law_351.2.2.2.2.2.2.2.2.2.2.2.2.2.2.1
theorem dL_law_371 : decode cL_law 371 = .ok (.iadd, 1) := zdL_law_351.2.2.2.2.2.2.2.2.2.2.2.2.2.2.2.1
theorem dL_law_372 : decode cL_law 372 = .ok (.iaload, 1) := zdL_law_351.2.2.2.2.2.2.2.2.2.2.2.2.2.2.2.2.1
theorem dL_law_373 : decode cL_law 373 = .ok (.aload_n 0, 1) := zdL_law_351.2.2.2.2.2.2.2.2.2.2.2.2.2.2.2.2.2.1
theorem dL_law_374 : decode cL_law 374 = .ok (.iload 4, 2) := zdL_law_351.2.2.2.2.2.2.2.2.2.2.2.2.2.2.2.2.2.2.1
theorem dL_law_376 : decode cL_law 376 = .ok (.iconst 3, 1) := zdL_law_351.2.2.2.2.2.2.2.2.2.2.2.2.2.2.2.2.2.2.2.1
theorem dL_law_377 : decode cL_law 377 = .ok (.iadd, 1) := zdL_law_351.2.2.2.2.2.2.2.2.2.2.2.2.2.2.2.2.2.2.2.2.1
theorem dL_law_378 : decode cL_law 378 = .ok (.iaload, 1) := zdL_law_351.2.2.2.2.2.2.2.2.2.2.2.2.2.2.2.2.2.2.2.2.2.1
theorem dL_law_379 : decode cL_law 379 = .ok (.aload_n 0, 1) := zdL_law_351.2.2.2.2.2.2.2.2.2.2.2.2.2.2.2.2.2.2.2.2.2.2.1
theorem dL_law_380 : decode cL_law 380 = .ok (.iload 4, 2) := zdL_law_351.2.2.2.2.2.2.2.2.2.2.2.2.2.2.2.2.2.2.2.2.2.2.2.1
theorem dL_law_382 : decode cL_law 382 = .ok (.iconst 4, 1) := zdL_law_351.2.2.2.2.2.2.2.2.2.2.2.2.2.2.2.2.2.2.2.2.2.2.2.2.1
theorem dL_law_383 : decode cL_law 383 = .ok (.iadd, 1) := zdL_law_351.2.2.2.2.2.2.2.2.2.2.2.2.2.2.2.2.2.2.2.2.2.2.2.2.2.1
theorem dL_law_384 : decode cL_law 384 = .ok (.iaload, 1) := zdL_law_351.2.2.2.2.2.2.2.2.2.2.2.2.2.2.2.2.2.2.2.2.2.2.2.2.2.2.1
theorem dL_law_385 : decode cL_law 385 = .ok (.invokevirtual 83, 3) := zdL_law_351.2.2.2.2.2.2.2.2.2.2.2.2.2.2.2.2.2.2.2.2.2.2.2.2.2.2.2.1
theorem dL_law_388 : decode cL_law 388 = .ok (.istore 6, 2) := zdL_law_351.2.2.2.2.2.2.2.2.2.2.2.2.2.2.2.2.2.2.2.2.2.2.2.2.2.2.2.2.1
theorem dL_law_390 : decode cL_law 390 = .ok (.goto 185, 3) := zdL_law_351.2.2.2.2.2.2.2.2.2.2.2.2.2.2.2.2.2.2.2.2.2.2.2.2.2.2.2.2.2.1
set_option maxRecDepth 20000 in
theorem zdL_law_393 : dAll cL_law [(393, .aload_n 1, 1), (394, .invokevirtual 84, 3), (397, .pop, 1), (398, .aload_n 2, 1), (399, .invokevirtual 88, 3), (402, .pop, 1), (403, .goto 172, 3), (406, .aload_n 1, 1), (407, .aload_n 0, 1), (408, .iload 4, 2), (410, .iconst 1, 1), (411, .iadd, 1), (412, .iaload, 1), (413, .aload_n 3, 1), (414, .invokestatic 89, 3), (417, .istore 5, 2), (419, .aload_n 2, 1), (420, .aload_n 0, 1), (421, .iload 4, 2), (423, .iconst 1, 1), (424, .iadd, 1), (425, .iaload, 1), (426, .invokevirtual 91, 3), (429, .istore 6, 2), (431, .goto 144, 3), (434, .aload_n 1, 1), (435, .aload_n 0, 1), (436, .iload 4, 2), (438, .iconst 1, 1), (439, .iadd, 1)] := dAll_of (by decide +kernel)
theorem dL_law_393 : decode cL_law 393 = .ok (.aload_n 1, 1) := zdL_law_393.1
theorem dL_law_394 : decode cL_law 394 = .ok (.invokevirtual 84, 3) := zdL_law_393.2.1
theorem dL_law_397 : decode cL_law 397 = .ok (.pop, 1) := zdL_law_393.2.2.1
theorem dL_law_398 : decode cL_law 398 = .ok (.aload_n 2, 1) := zdL_law_393.2.2.2.1
theorem dL_law_399 : decode cL_law 399 = .ok (.invokevirtual 88, 3) := zdL_law_393.2.2.2.2.1
theorem dL_law_402 : decode cL_law 402 = .ok (.pop, 1) := zdL_law_393.2.2.2.2.2.1
theorem dL_law_403 : decode cL_law 403 = .ok (.goto 172, 3) := zdL_law_393.2.2.2.2.2.2.1
theorem dL_law_406 : decode cL_law 406 = .ok (.aload_n 1, 1) := zdL_law_393.2.2.2.2.2.2.2.1
theorem dL_law_407 : decode cL_law 407 = .ok (.aload_n 0, 1) := zdL_law_393.2.2.2.2.2.2.2.2.1
theorem dL_law_408 : decode cL_law 408 = .ok (.iload 4, 2) := zdL_law_393.2.2.2.2.2.2.2.2.2.1
theorem dL_law_410 : decode cL_law 410 = .ok (.iconst 1, 1) := zdL_law_393.2.2.2.2.2.2.2.2.2.2.1
theorem dL_law_411 : decode cL_law 411 = .ok (.iadd, 1) := zdL_law_393.2.2.2.2.2.2.2.2.2.2.2.1
theorem dL_law_412 : decode cL_law 412 = .ok (.iaload, 1) := zdL_law_393.2.2.2.2.2.2.2.2.2.2.2.2.1
theorem dL_law_413 : decode cL_law 413 = .ok (.aload_n 3, 1) := zdL_law_393.2.2.2.2.2.2.2.2.2.2.2.2.2.1
theorem dL_law_414 : decode cL_law 414 = .ok (.invokestatic 89, 3) := zdL_law_393.2.2.2.2.2.2.2.2.2.2.2.2.2.2.1
theorem dL_law_417 : decode cL_law 417 = .ok (.istore 5, 2) := zdL_law_393.2.2.2.2.2.2.2.2.2.2.2.2.2.2.2.1
theorem dL_law_419 : decode cL_law 419 = .ok (.aload_n 2, 1) := zdL_law_393.2.2.2.2.2.2.2.2.2.2.2.2.2.2.2.2.1
theorem dL_law_420 : decode cL_law 420 = .ok (.aload_n 0, 1) := zdL_law_393.2.2.2.2.2.2.2.2.2.2.2.2.2.2.2.2.2.1
theorem dL_law_421 : decode cL_law 421 = .ok (.iload 4, 2) := zdL_law_393.2.2.2.2.2.2.2.2.2.2.2.2.2.2.2.2.2.2.1
theorem dL_law_423 : decode cL_law 423 = .ok (.iconst 1, 1) := zdL_law_393.2.2.2.2.2.2.2.2.2.2.2.2.2.2.2.2.2.2.2.1
theorem dL_law_424 : decode cL_law 424 = .ok (.iadd, 1) := zdL_law_393.2.2.2.2.2.2.2.2.2.2.2.2.2.2.2.2.2.2.2.2.1
theorem dL_law_425 : decode cL_law 425 = .ok (.iaload, 1) := zdL_law_393.2.2.2.2.2.2.2.2.2.2.2.2.2.2.2.2.2.2.2.2.2.1
theorem dL_law_426 : decode cL_law 426 = .ok (.invokevirtual 91, 3) := zdL_law_393.2.2.2.2.2.2.2.2.2.2.2.2.2.2.2.2.2.2.2.2.2.2.1
theorem dL_law_429 : decode cL_law 429 = .ok (.istore 6, 2) := zdL_law_393.2.2.2.2.2.2.2.2.2.2.2.2.2.2.2.2.2.2.2.2.2.2.2.1
theorem dL_law_431 : decode cL_law 431 = .ok (.goto 144, 3) := zdL_law_393.2.2.2.2.2.2.2.2.2.2.2.2.2.2.2.2.2.2.2.2.2.2.2.2.1
theorem dL_law_434 : decode cL_law 434 = .ok (.aload_n 1, 1) := zdL_law_393.2.2.2.2.2.2.2.2.2.2.2.2.2.2.2.2.2.2.2.2.2.2.2.2.2.1
theorem dL_law_435 : decode cL_law 435 = .ok (.aload_n 0, 1) := zdL_law_393.2.2.2.2.2.2.2.2.2.2.2.2.2.2.2.2.2.2.2.2.2.2.2.2.2.2.1
theorem dL_law_436 : decode cL_law 436 = .ok (.iload 4, 2) := zdL_law_393.2.2.2.2.2.2.2.2.2.2.2.2.2.2.2.2.2.2.2.2.2.2.2.2.2.2.2.1
theorem dL_law_438 : decode cL_law 438 = .ok (.iconst 1, 1) := zdL_law_393.2.2.2.2.2.2.2.2.2.2.2.2.2.2.2.2.2.2.2.2.2.2.2.2.2.2.2.2.1
theorem dL_law_439 : decode cL_law 439 = .ok (.iadd, 1) := zdL_law_393.2.2.2.2.2.2.2.2.2.2.2.2.2.2.2.2.2.2.2.2.2.2.2.2.2.2.2.2.2.1
set_option maxRecDepth 20000 in
theorem zdL_law_440 : dAll cL_law [(440, .iaload, 1), (441, .i2l, 1), (442, .bipush 32, 2), (444, .lshl, 1), (445, .aload_n 0, 1), (446, .iload 4, 2), (448, .iconst 2, 1), (449, .iadd, 1), (450, .iaload, 1), (451, .i2l, 1), (452, .ldc2_w 92, 3), (455, .land, 1), (456, .lor, 1), (457, .aload_n 0, 1), (458, .iload 4, 2), (460, .iconst 3, 1), (461, .iadd, 1), (462, .iaload, 1), (463, .aload_n 3, 1), (464, .invokestatic 94, 3), (467, .istore 5, 2), (469, .aload_n 2, 1), (470, .aload_n 0, 1), (471, .iload 4, 2), (473, .iconst 1, 1), (474, .iadd, 1), (475, .iaload, 1), (476, .i2l, 1), (477, .bipush 32, 2), (479, .lshl, 1)] := dAll_of (by decide +kernel)
theorem dL_law_440 : decode cL_law 440 = .ok (.iaload, 1) := zdL_law_440.1
theorem dL_law_441 : decode cL_law 441 = .ok (.i2l, 1) := zdL_law_440.2.1
theorem dL_law_442 : decode cL_law 442 = .ok (.bipush 32, 2) := zdL_law_440.2.2.1
theorem dL_law_444 : decode cL_law 444 = .ok (.lshl, 1) := zdL_law_440.2.2.2.1
theorem dL_law_445 : decode cL_law 445 = .ok (.aload_n 0, 1) := zdL_law_440.2.2.2.2.1
theorem dL_law_446 : decode cL_law 446 = .ok (.iload 4, 2) := zdL_law_440.2.2.2.2.2.1
theorem dL_law_448 : decode cL_law 448 = .ok (.iconst 2, 1) := zdL_law_440.2.2.2.2.2.2.1
theorem dL_law_449 : decode cL_law 449 = .ok (.iadd, 1) := zdL_law_440.2.2.2.2.2.2.2.1
theorem dL_law_450 : decode cL_law 450 = .ok (.iaload, 1) := zdL_law_440.2.2.2.2.2.2.2.2.1
theorem dL_law_451 : decode cL_law 451 = .ok (.i2l, 1) := zdL_law_440.2.2.2.2.2.2.2.2.2.1
theorem dL_law_452 : decode cL_law 452 = .ok (.ldc2_w 92, 3) := zdL_law_440.2.2.2.2.2.2.2.2.2.2.1
theorem dL_law_455 : decode cL_law 455 = .ok (.land, 1) := zdL_law_440.2.2.2.2.2.2.2.2.2.2.2.1
theorem dL_law_456 : decode cL_law 456 = .ok (.lor, 1) := zdL_law_440.2.2.2.2.2.2.2.2.2.2.2.2.1
theorem dL_law_457 : decode cL_law 457 = .ok (.aload_n 0, 1) := zdL_law_440.2.2.2.2.2.2.2.2.2.2.2.2.2.1
theorem dL_law_458 : decode cL_law 458 = .ok (.iload 4, 2) := zdL_law_440.2.2.2.2.2.2.2.2.2.2.2.2.2.2.1
theorem dL_law_460 : decode cL_law 460 = .ok (.iconst 3, 1) := zdL_law_440.2.2.2.2.2.2.2.2.2.2.2.2.2.2.2.1
theorem dL_law_461 : decode cL_law 461 = .ok (.iadd, 1) := zdL_law_440.2.2.2.2.2.2.2.2.2.2.2.2.2.2.2.2.1
theorem dL_law_462 : decode cL_law 462 = .ok (.iaload, 1) := zdL_law_440.2.2.2.2.2.2.2.2.2.2.2.2.2.2.2.2.2.1
theorem dL_law_463 : decode cL_law 463 = .ok (.aload_n 3, 1) := zdL_law_440.2.2.2.2.2.2.2.2.2.2.2.2.2.2.2.2.2.2.1
theorem dL_law_464 : decode cL_law 464 = .ok (.invokestatic 94, 3) := zdL_law_440.2.2.2.2.2.2.2.2.2.2.2.2.2.2.2.2.2.2.2.1
theorem dL_law_467 : decode cL_law 467 = .ok (.istore 5, 2) := zdL_law_440.2.2.2.2.2.2.2.2.2.2.2.2.2.2.2.2.2.2.2.2.1
theorem dL_law_469 : decode cL_law 469 = .ok (.aload_n 2, 1) := zdL_law_440.2.2.2.2.2.2.2.2.2.2.2.2.2.2.2.2.2.2.2.2.2.1
theorem dL_law_470 : decode cL_law 470 = .ok (.aload_n 0, 1) := zdL_law_440.2.2.2.2.2.2.2.2.2.2.2.2.2.2.2.2.2.2.2.2.2.2.1
theorem dL_law_471 : decode cL_law 471 = .ok (.iload 4, 2) := zdL_law_440.2.2.2.2.2.2.2.2.2.2.2.2.2.2.2.2.2.2.2.2.2.2.2.1
theorem dL_law_473 : decode cL_law 473 = .ok (.iconst 1, 1) := zdL_law_440.2.2.2.2.2.2.2.2.2.2.2.2.2.2.2.2.2.2.2.2.2.2.2.2.1
theorem dL_law_474 : decode cL_law 474 = .ok (.iadd, 1) := zdL_law_440.2.2.2.2.2.2.2.2.2.2.2.2.2.2.2.2.2.2.2.2.2.2.2.2.2.1
theorem dL_law_475 : decode cL_law 475 = .ok (.iaload, 1) := zdL_law_440.2.2.2.2.2.2.2.2.2.2.2.2.2.2.2.2.2.2.2.2.2.2.2.2.2.2.1
theorem dL_law_476 : decode cL_law 476 = .ok (.i2l, 1) := zdL_law_440.2.2.2.2.2.2.2.2.2.2.2.2.2.2.2.2.2.2.2.2.2.2.2.2.2.2.2.1
theorem dL_law_477 : decode cL_law 477 = .ok (.bipush 32, 2) := zdL_law_440.2.2.2.2.2.2.2.2.2.2.2.2.2.2.2.2.2.2.2.2.2.2.2.2.2.2.2.2.1
theorem dL_law_479 : decode cL_law 479 = .ok (.lshl, 1) := zdL_law_440.2.2.2.2.2.2.2.2.2.2.2.2.2.2.2.2.2.2.2.2.2.2.2.2.2.2.2.2.2.1
set_option maxRecDepth 20000 in
theorem zdL_law_480 : dAll cL_law [(480, .aload_n 0, 1), (481, .iload 4, 2), (483, .iconst 2, 1), (484, .iadd, 1), (485, .iaload, 1), (486, .i2l, 1), (487, .ldc2_w 92, 3), (490, .land, 1), (491, .lor, 1), (492, .aload_n 0, 1), (493, .iload 4, 2), (495, .iconst 3, 1), (496, .iadd, 1), (497, .iaload, 1), (498, .invokevirtual 97, 3), (501, .istore 6, 2), (503, .aload_n 2, 1), (504, .invokevirtual 98, 3), (507, .iload 5, 2), (509, .if_icmp .eq 5, 3), (512, .iconst 0, 1), (513, .ireturn, 1), (514, .iload 5, 2), (516, .ifCond .ne 15, 3), (519, .aload_n 3, 1), (520, .iconst 0, 1), (521, .laload, 1), (522, .iload 6, 2), (524, .i2l, 1), (525, .lcmp, 1)] := dAll_of (by decide +kernel)
theorem dL_law_480 : decode cL_law 480 = .ok (.aload_n 0, 1) := zdL_law_480.1
theorem dL_law_481 : decode cL_law 481 = .ok (.iload 4, 2) := zdL_law_480.2.1
theorem dL_law_483 : decode cL_law 483 = .ok (.iconst 2, 1) := zdL_law_480.2.2.1
theorem dL_law_484 : decode cL_law 484 = .ok (.iadd, 1) := zdL_law_480.2.2.2.1
theorem dL_law_485 : decode cL_law 485 = .ok (.iaload, 1) := zdL_law_480.2.2.2.2.1
theorem dL_law_486 : decode cL_law 486 = .ok (.i2l, 1) := zdL_law_480.2.2.2.2.2.1
theorem dL_law_487 : decode cL_law 487 = .ok (.ldc2_w 92, 3) := zdL_law_480.2.2.2.2.2.2.1
theorem dL_law_490 : decode cL_law 490 = .ok (.land, 1) := zdL_law_480.2.2.2.2.2.2.2.1
theorem dL_law_491 : decode cL_law 491 = .ok (.lor, 1) := zdL_law_480.2.2.2.2.2.2.2.2.1
theorem dL_law_492 : decode cL_law 492 = .ok (.aload_n 0, 1) := zdL_law_480.2.2.2.2.2.2.2.2.2.1
theorem dL_law_493 : decode cL_law 493 = .ok (.iload 4, 2) := zdL_law_480.2.2.2.2.2.2.2.2.2.2.1
theorem dL_law_495 : decode cL_law 495 = .ok (.iconst 3, 1) := zdL_law_480.2.2.2.2.2.2.2.2.2.2.2.1
theorem dL_law_496 : decode cL_law 496 = .ok (.iadd, 1) := zdL_law_480.2.2.2.2.2.2.2.2.2.2.2.2.1
theorem dL_law_497 : decode cL_law 497 = .ok (.iaload, 1) := zdL_law_480.2.2.2.2.2.2.2.2.2.2.2.2.2.1
theorem dL_law_498 : decode cL_law 498 = .ok (.invokevirtual 97, 3) := zdL_law_480.2.2.2.2.2.2.2.2.2.2.2.2.2.2.1
theorem dL_law_501 : decode cL_law 501 = .ok (.istore 6, 2) := zdL_law_480.2.2.2.2.2.2.2.2.2.2.2.2.2.2.2.1
theorem dL_law_503 : decode cL_law 503 = .ok (.aload_n 2, 1) := zdL_law_480.2.2.2.2.2.2.2.2.2.2.2.2.2.2.2.2.1
theorem dL_law_504 : decode cL_law 504 = .ok (.invokevirtual 98, 3) := zdL_law_480.2.2.2.2.2.2.2.2.2.2.2.2.2.2.2.2.2.1
theorem dL_law_507 : decode cL_law 507 = .ok (.iload 5, 2) := zdL_law_480.2.2.2.2.2.2.2.2.2.2.2.2.2.2.2.2.2.2.1
theorem dL_law_509 : decode cL_law 509 = .ok (.if_icmp .eq 5, 3) := zdL_law_480.2.2.2.2.2.2.2.2.2.2.2.2.2.2.2.2.2.2.2.1
theorem dL_law_512 : decode cL_law 512 = .ok (.iconst 0, 1) := zdL_law_480.2.2.2.2.2.2.2.2.2.2.2.2.2.2.2.2.2.2.2.2.1
theorem dL_law_513 : decode cL_law 513 = .ok (.ireturn, 1) := zdL_law_480.2.2.2.2.2.2.2.2.2.2.2.2.2.2.2.2.2.2.2.2.2.1
theorem dL_law_514 : decode cL_law 514 = .ok (.iload 5, 2) := zdL_law_480.2.2.2.2.2.2.2.2.2.2.2.2.2.2.2.2.2.2.2.2.2.2.1
theorem dL_law_516 : decode cL_law 516 = .ok (.ifCond .ne 15, 3) := zdL_law_480.2.2.2.2.2.2.2.2.2.2.2.2.2.2.2.2.2.2.2.2.2.2.2.1
theorem dL_law_519 : decode cL_law 519 = .ok (.aload_n 3, 1) := zdL_law_480.2.2.2.2.2.2.2.2.2.2.2.2.2.2.2.2.2.2.2.2.2.2.2.2.1
theorem dL_law_520 : decode cL_law 520 = .ok (.iconst 0, 1) := zdL_law_480.2.2.2.2.2.2.2.2.2.2.2.2.2.2.2.2.2.2.2.2.2.2.2.2.2.1
theorem dL_law_521 : decode cL_law 521 = .ok (.laload, 1) := zdL_law_480.2.2.2.2.2.2.2.2.2.2.2.2.2.2.2.2.2.2.2.2.2.2.2.2.2.2.1
theorem dL_law_522 : decode cL_law 522 = .ok (.iload 6, 2) := zdL_law_480.2.2.2.2.2.2.2.2.2.2.2.2.2.2.2.2.2.2.2.2.2.2.2.2.2.2.2.1
theorem dL_law_524 : decode cL_law 524 = .ok (.i2l, 1) := zdL_law_480.2.2.2.2.2.2.2.2.2.2.2.2.2.2.2.2.2.2.2.2.2.2.2.2.2.2.2.2.1
theorem dL_law_525 : decode cL_law 525 = .ok (.lcmp, 1) := zdL_law_480.2.2.2.2.2.2.2.2.2.2.2.2.2.2.2.2.2.2.2.2.2.2.2.2.2.2.2.2.2.1
set_option maxRecDepth 20000 in
theorem zdL_law_526 : dAll cL_law [(526, .ifCond .eq 5, 3), (529, .iconst 0, 1), (530, .ireturn, 1), (531, .goto 44, 3), (534, .aload_n 1, 1), (535, .invokevirtual 101, 3), (538, .pop, 1), (539, .aload_n 2, 1), (540, .invokevirtual 104, 3), (543, .pop, 1), (544, .goto 31, 3), (547, .aload_n 1, 1), (548, .aload_n 0, 1), (549, .iload 4, 2), (551, .iconst 1, 1), (552, .iadd, 1), (553, .iaload, 1), (554, .aload_n 3, 1), (555, .invokestatic 105, 3), (558, .istore 5, 2), (560, .aload_n 2, 1), (561, .aload_n 0, 1), (562, .iload 4, 2), (564, .iconst 1, 1), (565, .iadd, 1), (566, .iaload, 1), (567, .invokevirtual 107, 3), (570, .istore 6, 2), (572, .goto 3, 3), (575, .iinc 4 5, 3)] := dAll_of (by decide +kernel)
theorem dL_law_526 : decode cL_law 526 = .ok (.ifCond .eq 5, 3) := zdL_law_526.1
theorem dL_law_529 : decode cL_law 529 = .ok (.iconst 0, 1) := zdL_law_526.2.1
theorem dL_law_530 : decode cL_law 530 = .ok (.ireturn, 1) := zdL_law_526.2.2.1
theorem dL_law_531 : decode cL_law 531 = .ok (.goto 44, 3) := zdL_law_526.2.2.2.1
theorem dL_law_534 : decode cL_law 534 = .ok (.aload_n 1, 1) := zdL_law_526.2.2.2.2.1
theorem dL_law_535 : decode cL_law 535 = .ok (.invokevirtual 101, 3) := zdL_law_526.2.2.2.2.2.1
theorem dL_law_538 : decode cL_law 538 = .ok (.pop, 1) := zdL_law_526.2.2.2.2.2.2.1
theorem dL_law_539 : decode cL_law 539 = .ok (.aload_n 2, 1) := zdL_law_526.2.2.2.2.2.2.2.1
theorem dL_law_540 : decode cL_law 540 = .ok (.invokevirtual 104, 3) := zdL_law_526.2.2.2.2.2.2.2.2.1
theorem dL_law_543 : decode cL_law 543 = .ok (.pop, 1) := zdL_law_526.2.2.2.2.2.2.2.2.2.1
theorem dL_law_544 : decode cL_law 544 = .ok (.goto 31, 3) := zdL_law_526.2.2.2.2.2.2.2.2.2.2.1
theorem dL_law_547 : decode cL_law 547 = .ok (.aload_n 1, 1) := zdL_law_526.2.2.2.2.2.2.2.2.2.2.2.1
theorem dL_law_548 : decode cL_law 548 = .ok (.aload_n 0, 1) := zdL_law_526.2.2.2.2.2.2.2.2.2.2.2.2.1
theorem dL_law_549 : decode cL_law 549 = .ok (.iload 4, 2) := zdL_law_526.2.2.2.2.2.2.2.2.2.2.2.2.2.1
theorem dL_law_551 : decode cL_law 551 = .ok (.iconst 1, 1) := zdL_law_526.2.2.2.2.2.2.2.2.2.2.2.2.2.2.1
theorem dL_law_552 : decode cL_law 552 = .ok (.iadd, 1) := zdL_law_526.2.2.2.2.2.2.2.2.2.2.2.2.2.2.2.1
theorem dL_law_553 : decode cL_law 553 = .ok (.iaload, 1) := zdL_law_526.2.2.2.2.2.2.2.2.2.2.2.2.2.2.2.2.1
theorem dL_law_554 : decode cL_law 554 = .ok (.aload_n 3, 1) := zdL_law_526.2.2.2.2.2.2.2.2.2.2.2.2.2.2.2.2.2.1
theorem dL_law_555 : decode cL_law 555 = .ok (.invokestatic 105, 3) := zdL_law_526.2.2.2.2.2.2.2.2.2.2.2.2.2.2.2.2.2.2.1
theorem dL_law_558 : decode cL_law 558 = .ok (.istore 5, 2) := zdL_law_526.2.2.2.2.2.2.2.2.2.2.2.2.2.2.2.2.2.2.2.1
theorem dL_law_560 : decode cL_law 560 = .ok (.aload_n 2, 1) := zdL_law_526.2.2.2.2.2.2.2.2.2.2.2.2.2.2.2.2.2.2.2.2.1
theorem dL_law_561 : decode cL_law 561 = .ok (.aload_n 0, 1) := zdL_law_526.2.2.2.2.2.2.2.2.2.2.2.2.2.2.2.2.2.2.2.2.2.1
theorem dL_law_562 : decode cL_law 562 = .ok (.iload 4, 2) := zdL_law_526.2.2.2.2.2.2.2.2.2.2.2.2.2.2.2.2.2.2.2.2.2.2.1
theorem dL_law_564 : decode cL_law 564 = .ok (.iconst 1, 1) := zdL_law_526.2.2.2.2.2.2.2.2.2.2.2.2.2.2.2.2.2.2.2.2.2.2.2.1
theorem dL_law_565 : decode cL_law 565 = .ok (.iadd, 1) := zdL_law_526.2.2.2.2.2.2.2.2.2.2.2.2.2.2.2.2.2.2.2.2.2.2.2.2.1
theorem dL_law_566 : decode cL_law 566 = .ok (.iaload, 1) := zdL_law_526.2.2.2.2.2.2.2.2.2.2.2.2.2.2.2.2.2.2.2.2.2.2.2.2.2.1
theorem dL_law_567 : decode cL_law 567 = .ok (.invokevirtual 107, 3) := zdL_law_526.2.2.2.2.2.2.2.2.2.2.2.2.2.2.2.2.2.2.2.2.2.2.2.2.2.2.1
theorem dL_law_570 : decode cL_law 570 = .ok (.istore 6, 2) := zdL_law_526.2.2.2.2.2.2.2.2.2.2.2.2.2.2.2.2.2.2.2.2.2.2.2.2.2.2.2.1
theorem dL_law_572 : decode cL_law 572 = .ok (.goto 3, 3) := zdL_law_526.2.2.2.2.2.2.2.2.2.2.2.2.2.2.2.2.2.2.2.2.2.2.2.2.2.2.2.2.1
theorem dL_law_575 : decode cL_law 575 = .ok (.iinc 4 5, 3) := zdL_law_526.2.2.2.2.2.2.2.2.2.2.2.2.2.2.2.2.2.2.2.2.2.2.2.2.2.2.2.2.2.1
set_option maxRecDepth 20000 in
theorem zdL_law_578 : dAll cL_law [(578, .goto (-555), 3), (581, .iconst 1, 1), (582, .ireturn, 1)] := dAll_of (by decide +kernel)
theorem dL_law_578 : decode cL_law 578 = .ok (.goto (-555), 3) := zdL_law_578.1
theorem dL_law_581 : decode cL_law 581 = .ok (.iconst 1, 1) := zdL_law_578.2.1
theorem dL_law_582 : decode cL_law 582 = .ok (.ireturn, 1) := zdL_law_578.2.2.1
