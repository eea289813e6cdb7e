set_option maxRecDepth 20000 in
theorem zdL_law_353 : dAll cL_law [(353, .iaload, 1), (354, .aload_n 3, 1), (355, .invokestatic 80, 3), (358, .istore 5, 2), (360, .aload_n 2, 1), (361, .aload_n 0, 1), (362, .iload 4, 2), (364, .iconst 1, 1), (365, .iadd, 1), (366, .iaload, 1), (367, .aload_n 0, 1), (368, .iload 4, 2), (370, .iconst 2, 1), (371, .iadd, 1), (372, .iaload, 1), (373, .aload_n 0, 1), (374, .iload 4, 2), (376, .iconst 3, 1), (377, .iadd, 1), (378, .iaload, 1), (379, .aload_n 0, 1), (380, .iload 4, 2), (382, .iconst 4, 1), (383, .iadd, 1), (384, .iaload, 1), (385, .invokevirtual 83, 3), (388, .istore 6, 2), (390, .goto 157, 3), (393, .aload_n 1, 1), (394, .invokevirtual 84, 3)] := dAll_of (by decide +kernel)
theorem dL_law_353 : decode cL_law 353 = .ok (.iaload, 1) := zdL_law_353.1
theorem dL_law_354 : decode cL_law 354 = .ok (.aload_n 3, 1) := zdL_law_353.2.1
theorem dL_law_355 : decode cL_law 355 = .ok (.invokestatic 80, 3) := zdL_law_353.2.2.1
theorem dL_law_358 : decode cL_law 358 = .ok (.istore 5, 2) := zdL_law_353.2.2.2.1
theorem dL_law_360 : decode cL_law 360 = .ok (.aload_n 2, 1) := zdL_law_353.2.2.2.2.1
theorem dL_law_361 : decode cL_law 361 = .ok (.aload_n 0, 1) := zdL_law_353.2.2.2.2.2.1
theorem dL_law_362 : decode cL_law 362 = .ok (.iload 4, 2) := zdL_law_353.2.2.2.2.2.2.1
theorem dL_law_364 : decode cL_law 364 = .ok (.iconst 1, 1) := zdL_law_353.2.2.2.2.2.2.2.1
theorem dL_law_365 : decode cL_law 365 = .ok (.iadd, 1) := zdL_law_353.2.2.2.2.2.2.2.2.1
theorem dL_law_366 : decode cL_law 366 = .ok (.iaload, 1) := zdL_law_353.2.2.2.2.2.2.2.2.2.1
theorem dL_law_367 : decode cL_law 367 = .ok (.aload_n 0, 1) := zdL_law_353.2.2.2.2.2.2.2.2.2.2.1
theorem dL_law_368 : decode cL_law 368 = .ok (.iload 4, 2) := zdL_law_353.2.2.2.2.2.2.2.2.2.2.2.1
theorem dL_law_370 : decode cL_law 370 = .ok (.iconst 2, 1) := zdL_law_353.2.2.2.2.2.2.2.2.2.2.2.2.1
theorem dL_law_371 : decode cL_law 371 = .ok (.iadd, 1) := zdL_law_353.2.2.2.2.2.2.2.2.2.2.2.2.2.1
theorem dL_law_372 : decode cL_law 372 = .ok (.iaload, 1) := zdL_law_353.2.2.2.2.2.2.2.2.2.2.2.2.2.2.1
theorem dL_law_373 : decode cL_law 373 = .ok (.aload_n 0, 1) := zdL_law_353.2.2.2.2.2.2.2.2.2.2.2.2.2.2.2.1
theorem dL_law_374 : decode cL_law 374 = .ok (.iload 4, 2) := zdL_law_353.2.2.2.2.2.2.2.2.2.2.2.2.2.2.2.2.1
theorem dL_law_376 : decode cL_law 376 = .ok (.iconst 3, 1) := zdL_law_353.2.2.2.2.2.2.2.2.2.2.2.2.2.2.2.2.2.1
theorem dL_law_377 : decode cL_law 377 = .ok (.iadd, 1) := zdL_law_353.2.2.2.2.2.2.2.2.2.2.2.2.2.2.2.2.2.2.1
theorem dL_law_378 : decode cL_law 378 = .ok (.iaload, 1) := zdL_law_353.2.2.2.2.2.2.2.2.2.2.2.2.2.2.2.2.2.2.2.1
theorem dL_law_379 : decode cL_law 379 = .ok (.aload_n 0, 1) := zdL_law_353.2.2.2.2.2.2.2.2.2.2.2.2.2.2.2.2.2.2.2.2.1
theorem dL_law_380 : decode cL_law 380 = .ok (.iload 4, 2) := zdL_law_353.2.2.2.2.2.2.2.2.2.2.2.2.2.2.2.2.2.2.2.2.2.1
theorem dL_law_382 : decode cL_law 382 = .ok (.iconst 4, 1) := zdL_law_353.2.2.2.2.2.2.2.2.2.2.2.2.2.2.2.2.2.2.2.2.2.2.1
theorem dL_law_383 : decode cL_law 383 = .ok (.iadd, 1) := zdL_law_353.2.2.2.2.2.2.2.2.2.2.2.2.2.2.2.2.2.2.2.2.2.2.2.1
theorem dL_law_384 : decode cL_law 384 = .ok (.iaload, 1) := zdL_law_353.2.2.2.2.2.2.2.2.2.2.2.2.2.2.2.2.2.2.2.2.2.2.2.2.1
theorem dL_law_385 : decode cL_law 385 = .ok (.invokevirtual 83, 3) := zdL_law_353.2.2.2.2.2.2.2.2.2.2.2.2.2.2.2.2.2.2.2.2.2.2.2.2.2.1
theorem dL_law_388 : decode cL_law 388 = .ok (.istore 6, 2) := zdL_law_353.2.2.2.2.2.2.2.2.2.2.2.2.2.2.2.2.2.2.2.2.2.2.2.2.2.2.1
theorem dL_law_390 : decode cL_law 390 = .ok (.goto 157, 3) := zdL_law_353.2.2.2.2.2.2.2.2.2.2.2.2.2.2.2.2.2.2.2.2.2.2.2.2.2.2.2.1
theorem dL_law_393 : decode cL_law 393 = .ok (.aload_n 1, 1) := zdL_law_353.2.2.2.2.2.2.2.2.2.2.2.2.2.2.2.2.2.2.2.2.2.2.2.2.2.2.2.2.1
theorem dL_law_394 : decode cL_law 394 = .ok (.invokevirtual 84, 3) := zdL_law_353.2.2.2.2.2.2.2.2.2.2.2.2.2.2.2.2.2.2.2.2.2.2.2.2.2.2.2.2.2.1
set_option maxRecDepth 20000 in
theorem zdL_law_397 : dAll cL_law [(397, .pop, 1), (398, .aload_n 2, 1), (399, .invokevirtual 88, 3), (402, .pop, 1), (403, .goto 144, 3), (406, .aload_n 1, 1), (407, .aload_n 0, 1), (408, .iload 4, 2), (410, .iconst 1, 1), (411, .iadd, 1), (412, .iaload, 1), (413, .aload_n 3, 1), (414, .invokestatic 89, 3), (417, .istore 5, 2), (419, .aload_n 2, 1), (420, .aload_n 0, 1), (421, .iload 4, 2), (423, .iconst 1, 1), (424, .iadd, 1), (425, .iaload, 1), (426, .invokevirtual 91, 3), (429, .istore 6, 2), (431, .goto 116, 3), (434, .aload_n 1, 1), (435, .aload_n 0, 1), (436, .iload 4, 2), (438, .iconst 1, 1), (439, .iadd, 1), (440, .iaload, 1), (441, .i2l, 1)] := dAll_of (by decide +kernel)
theorem dL_law_397 : decode cL_law 397 = .ok (.pop, 1) := zdL_law_397.1
theorem dL_law_398 : decode cL_law 398 = .ok (.aload_n 2, 1) := zdL_law_397.2.1
theorem dL_law_399 : decode cL_law 399 = .ok (.invokevirtual 88, 3) := zdL_law_397.2.2.1
theorem dL_law_402 : decode cL_law 402 = .ok (.pop, 1) := zdL_law_397.2.2.2.1
theorem dL_law_403 : decode cL_law 403 = .ok (.goto 144, 3) := zdL_law_397.2.2.2.2.1
theorem dL_law_406 : decode cL_law 406 = .ok (.aload_n 1, 1) := zdL_law_397.2.2.2.2.2.1
theorem dL_law_407 : decode cL_law 407 = .ok (.aload_n 0, 1) := zdL_law_397.2.2.2.2.2.2.1
theorem dL_law_408 : decode cL_law 408 = .ok (.iload 4, 2) := zdL_law_397.2.2.2.2.2.2.2.1
theorem dL_law_410 : decode cL_law 410 = .ok (.iconst 1, 1) := zdL_law_397.2.2.2.2.2.2.2.2.1
theorem dL_law_411 : decode cL_law 411 = .ok (.iadd, 1) := zdL_law_397.2.2.2.2.2.2.2.2.2.1
theorem dL_law_412 : decode cL_law 412 = .ok (.iaload, 1) := zdL_law_397.2.2.2.2.2.2.2.2.2.2.1
theorem dL_law_413 : decode cL_law 413 = .ok (.aload_n 3, 1) := zdL_law_397.2.2.2.2.2.2.2.2.2.2.2.1
theorem dL_law_414 : decode cL_law 414 = .ok (.invokestatic 89, 3) := zdL_law_397.2.2.2.2.2.2.2.2.2.2.2.2.1
theorem dL_law_417 : decode cL_law 417 = .ok (.istore 5, 2) := zdL_law_397.2.2.2.2.2.2.2.2.2.2.2.2.2.1
theorem dL_law_419 : decode cL_law 419 = .ok (.aload_n 2, 1) := zdL_law_397.2.2.2.2.2.2.2.2.2.2.2.2.2.2.1
theorem dL_law_420 : decode cL_law 420 = .ok (.aload_n 0, 1) := zdL_law_397.2.2.2.2.2.2.2.2.2.2.2.2.2.2.2.1
theorem dL_law_421 : decode cL_law 421 = .ok (.iload 4, 2) := zdL_law_397.2.2.2.2.2.2.2.2.2.2.2.2.2.2.2.2.1
theorem dL_law_423 : decode cL_law 423 = .ok (.iconst 1, 1) := zdL_law_397.2.2.2.2.2.2.2.2.2.2.2.2.2.2.2.2.2.1
theorem dL_law_424 : decode cL_law 424 = .ok (.iadd, 1) := zdL_law_397.2.2.2.2.2.2.2.2.2.2.2.2.2.2.2.2.2.2.1
theorem dL_law_425 : decode cL_law 425 = .ok (.iaload, 1) := zdL_law_397.2.2.2.2.2.2.2.2.2.2.2.2.2.2.2.2.2.2.2.1
theorem dL_law_426 : decode cL_law 426 = .ok (.invokevirtual 91, 3) := zdL_law_397.2.2.2.2.2.2.2.2.2.2.2.2.2.2.2.2.2.2.2.2.1
theorem dL_law_429 : decode cL_law 429 = .ok (.istore 6, 2) := zdL_law_397.2.2.2.2.2.2.2.2.2.2.2.2.2.2.2.2.2.2.2.2.2.1
theorem dL_law_431 : decode cL_law 431 = .ok (.goto 116, 3) := zdL_law_397.2.2.2.2.2.2.2.2.2.2.2.2.2.2.2.2.2.2.2.2.2.2.1
theorem dL_law_434 : decode cL_law 434 = .ok (.aload_n 1, 1) := zdL_law_397.2.2.2.2.2.2.2.2.2.2.2.2.2.2.2.2.2.2.2.2.2.2.2.1
theorem dL_law_435 : decode cL_law 435 = .ok (.aload_n 0, 1) := zdL_law_397.2.2.2.2.2.2.2.2.2.2.2.2.2.2.2.2.2.2.2.2.2.2.2.2.1
theorem dL_law_436 : decode cL_law 436 = .ok (.iload 4, 2) := zdL_law_397.2.2.2.2.2.2.2.2.2.2.2.2.2.2.2.2.2.2.2.2.2.2.2.2.2.1
theorem dL_law_438 : decode cL_law 438 = .ok (.iconst 1, 1) := zdL_law_397.2.2.2.2.2.2.2.2.2.2.2.2.2.2.2.2.2.2.2.2.2.2.2.2.2.2.1
theorem dL_law_439 : decode cL_law 439 = .ok (.iadd, 1) := zdL_law_397.2.2.2.2.2.2.2.2.2.2.2.2.2.2.2.2.2.2.2.2.2.2.2.2.2.2.2.1
theorem dL_law_440 : decode cL_law 440 = .ok (.iaload, 1) := zdL_law_397.2.2.2.2.2.2.2.2.2.2.2.2.2.2.2.2.2.2.2.2.2.2.2.2.2.2.2.2.1
theorem dL_law_441 : decode cL_law 441 = .ok (.i2l, 1) := zdL_law_397.2.2.2.2.2.2.2.2.2.2.2.2.2.2.2.2.2.2.2.2.2.2.2.2.2.2.2.2.2.1
set_option maxRecDepth 20000 in
theorem zdL_law_442 : dAll cL_law [(442, .bipush 32, 2), (444, .lshl, 1), (445, .aload_n 0, 1), (446, .iload 4, 2), (448, .iconst 2, 1), (449, .iadd, 1), (450, .iaload, 1), (451, .i2l, 1), (452, .ldc2_w 92, 3), (455, .land, 1), (456, .lor, 1), (457, .aload_n 0, 1), (458, .iload 4, 2), (460, .iconst 3, 1), (461, .iadd, 1), (462, .iaload, 1), (463, .aload_n 3, 1), (464, .invokestatic 94, 3), (467, .istore 5, 2), (469, .aload_n 2, 1), (470, .aload_n 0, 1), (471, .iload 4, 2), (473, .iconst 1, 1), (474, .iadd, 1), (475, .iaload, 1), (476, .i2l, 1), (477, .bipush 32, 2), (479, .lshl, 1), (480, .aload_n 0, 1), (481, .iload 4, 2)] := dAll_of (by decide +kernel)
theorem dL_law_442 : decode cL_law 442 = .ok (.bipush 32, 2) := zdL_law_442.1
theorem dL_law_444 : decode cL_law 444 = .ok (.lshl, 1) := zdL_law_442.2.1
theorem dL_law_445 : decode cL_law 445 = .ok (.aload_n 0, 1) := zdL_law_442.2.2.1
theorem dL_law_446 : decode cL_law 446 = .ok (.iload 4, 2) := zdL_law_442.2.2.2.1
theorem dL_law_448 : decode cL_law 448 = .ok (.iconst 2, 1) := zdL_law_442.2.2.2.2.1
theorem dL_law_449 : decode cL_law 449 = .ok (.iadd, 1) := zdL_law_442.2.2.2.2.2.1
theorem dL_law_450 : decode cL_law 450 = .ok (.iaload, 1) := zdL_law_442.2.2.2.2.2.2.1
theorem dL_law_451 : decode cL_law 451 = .ok (.i2l, 1) := zdL_law_442.2.2.2.2.2.2.2.1
theorem dL_law_452 : decode cL_law 452 = .ok (.ldc2_w 92, 3) := zdL_law_442.2.2.2.2.2.2.2.2.1
theorem dL_law_455 : decode cL_law 455 = .ok (.land, 1) := zdL_law_442.2.2.2.2.2.2.2.2.2.1
theorem dL_law_456 : decode cL_law 456 = .ok (.lor, 1) := zdL_law_442.2.2.2.2.2.2.2.2.2.2.1
theorem dL_law_457 : decode cL_law 457 = .ok (.aload_n 0, 1) := zdL_law_442.2.2.2.2.2.2.2.2.2.2.2.1
theorem dL_law_458 : decode cL_law 458 = .ok (.iload 4, 2) := zdL_law_442.2.2.2.2.2.2.2.2.2.2.2.2.1
theorem dL_law_460 : decode cL_law 460 = .ok (.iconst 3, 1) := zdL_law_442.2.2.2.2.2.2.2.2.2.2.2.2.2.1
theorem dL_law_461 : decode cL_law 461 = .ok (.iadd, 1) := zdL_law_442.2.2.2.2.2.2.2.2.2.2.2.2.2.2.1
theorem dL_law_462 : decode cL_law 462 = .ok (.iaload, 1) := zdL_law_442.2.2.2.2.2.2.2.2.2.2.2.2.2.2.2.1
theorem dL_law_463 : decode cL_law 463 = .ok (.aload_n 3, 1) := zdL_law_442.2.2.2.2.2.2.2.2.2.2.2.2.2.2.2.2.1
theorem dL_law_464 : decode cL_law 464 = .ok (.invokestatic 94, 3) := zdL_law_442.2.2.2.2.2.2.2.2.2.2.2.2.2.2.2.2.2.1
theorem dL_law_467 : decode cL_law 467 = .ok (.istore 5, 2) := zdL_law_442.2.2.2.2.2.2.2.2.2.2.2.2.2.2.2.2.2.2.1
theorem dL_law_469 : decode cL_law 469 = .ok (.aload_n 2, 1) := zdL_law_442.2.2.2.2.2.2.2.2.2.2.2.2.2.2.2.2.2.2.2.1
theorem dL_law_470 : decode cL_law 470 = .ok (.aload_n 0, 1) := zdL_law_442.2.2.2.2.2.2.2.2.2.2.2.2.2.2.2.2.2.2.2.2.1
theorem dL_law_471 : decode cL_law 471 = .ok (.iload 4, 2) := zdL_law_442.2.2.2.2.2.2.2.2.2.2.2.2.2.2.2.2.2.2.2.2.2.1
theorem dL_law_473 : decode cL_law 473 = .ok (.iconst 1, 1) := zdL_law_442.2.2.2.2.2.2.2.2.2.2.2.2.2.2.2.2.2.2.2.2.2.2.1
theorem dL_law_474 : decode cL_law 474 = .ok (.iadd, 1) := zdL_law_442.2.2.2.2.2.2.2.2.2.2.2.2.2.2.2.2.2.2.2.2.2.2.2.1
theorem dL_law_475 : decode cL_law 475 = .ok (.iaload, 1) := zdL_law_442.2.2.2.2.2.2.2.2.2.2.2.2.2.2.2.2.2.2.2.2.2.2.2.2.1
theorem dL_law_476 : decode cL_law 476 = .ok (.i2l, 1) := zdL_law_442.2.2.2.2.2.2.2.2.2.2.2.2.2.2.2.2.2.2.2.2.2.2.2.2.2.1
theorem dL_law_477 : decode cL_law 477 = .ok (.bipush 32, 2) := zdL_law_442.2.2.2.2.2.2.2.2.2.2.2.2.2.2.2.2.2.2.2.2.2.2.2.2.2.2.1
theorem dL_law_479 : decode cL_law 479 = .ok (.lshl, 1) := zdL_law_442.2.2.2.2.2.2.2.2.2.2.2.2.2.2.2.2.2.2.2.2.2.2.2.2.2.2.2.1
theorem dL_law_480 : decode cL_law 480 = .ok (.aload_n 0, 1) := zdL_law_442.2.2.2.2.2.2.2.2.2.2.2.2.2.2.2.2.2.2.2.2.2.2.2.2.2.2.2.2.1
theorem dL_law_481 : decode cL_law 481 = .ok (.iload 4, 2) := zdL_law_442.2.2.2.2.2.2.2.2.2.2.2.2.2.2.2.2.2.2.2.2.2.2.2.2.2.2.2.2.2.1
set_option maxRecDepth 20000 in
theorem zdL_law_483 : dAll cL_law [(483, .iconst 2, 1), (484, .iadd, 1), (485, .iaload, 1), (486, .i2l, 1), (487, .ldc2_w 92, 3), (490, .land, 1), (491, .lor, 1), (492, .aload_n 0, 1), (493, .iload 4, 2), (495, .iconst 3, 1), (496, .iadd, 1), (497, .iaload, 1), (498, .invokevirtual 97, 3), (501, .istore 6, 2), (503, .goto 44, 3), (506, .aload_n 1, 1), (507, .invokevirtual 98, 3), (510, .aload_n 2, 1), (511, .invokevirtual 101, 3), (514, .if_icmp .eq 33, 3), (517, .iconst 0, 1), (518, .ireturn, 1), (519, .aload_n 1, 1), (520, .aload_n 0, 1), (521, .iload 4, 2), (523, .iconst 1, 1), (524, .iadd, 1), (525, .iaload, 1), (526, .aload_n 3, 1), (527, .invokestatic 102, 3)] := dAll_of (by decide +kernel)
theorem dL_law_483 : decode cL_law 483 = .ok (.iconst 2, 1) := zdL_law_483.1
theorem dL_law_484 : decode cL_law 484 = .ok (.iadd, 1) := zdL_law_483.2.1
theorem dL_law_485 : decode cL_law 485 = .ok (.iaload, 1) := zdL_law_483.2.2.1
theorem dL_law_486 : decode cL_law 486 = .ok (.i2l, 1) := zdL_law_483.2.2.2.1
theorem dL_law_487 : decode cL_law 487 = .ok (.ldc2_w 92, 3) := zdL_law_483.2.2.2.2.1
theorem dL_law_490 : decode cL_law 490 = .ok (.land, 1) := zdL_law_483.2.2.2.2.2.1
theorem dL_law_491 : decode cL_law 491 = .ok (.lor, 1) := zdL_law_483.2.2.2.2.2.2.1
theorem dL_law_492 : decode cL_law 492 = .ok (.aload_n 0, 1) := zdL_law_483.2.2.2.2.2.2.2.1
theorem dL_law_493 : decode cL_law 493 = .ok (.iload 4, 2) := zdL_law_483.2.2.2.2.2.2.2.2.1
theorem dL_law_495 : decode cL_law 495 = .ok (.iconst 3, 1) := zdL_law_483.2.2.2.2.2.2.2.2.2.1
theorem dL_law_496 : decode cL_law 496 = .ok (.iadd, 1) := zdL_law_483.2.2.2.2.2.2.2.2.2.2.1
theorem dL_law_497 : decode cL_law 497 = .ok (.iaload, 1) := zdL_law_483.2.2.2.2.2.2.2.2.2.2.2.1
theorem dL_law_498 : decode cL_law 498 = .ok (.invokevirtual 97, 3) := zdL_law_483.2.2.2.2.2.2.2.2.2.2.2.2.1
theorem dL_law_501 : decode cL_law 501 = .ok (.istore 6, 2) := zdL_law_483.2.2.2.2.2.2.2.2.2.2.2.2.2.1
theorem dL_law_503 : decode cL_law 503 = .ok (.goto 44, 3) := zdL_law_483.2.2.2.2.2.2.2.2.2.2.2.2.2.2.1
theorem dL_law_506 : decode cL_law 506 = .ok (.aload_n 1, 1) := zdL_law_483.2.2.2.2.2.2.2.2.2.2.2.2.2.2.2.1
theorem dL_law_507 : decode cL_law 507 = .ok (.invokevirtual 98, 3) := zdL_law_483.2.2.2.2.2.2.2.2.2.2.2.2.2.2.2.2.1
theorem dL_law_510 : decode cL_law 510 = .ok (.aload_n 2, 1) := zdL_law_483.2.2.2.2.2.2.2.2.2.2.2.2.2.2.2.2.2.1
theorem dL_law_511 : decode cL_law 511 = .ok (.invokevirtual 101, 3) := zdL_law_483.2.2.2.2.2.2.2.2.2.2.2.2.2.2.2.2.2.2.1
theorem dL_law_514 : decode cL_law 514 = .ok (.if_icmp .eq 33, 3) := zdL_law_483.2.2.2.2.2.2.2.2.2.2.2.2.2.2.2.2.2.2.2.1
theorem dL_law_517 : decode cL_law 517 = .ok (.iconst 0, 1) := zdL_law_483.2.2.2.2.2.2.2.2.2.2.2.2.2.2.2.2.2.2.2.2.1
theorem dL_law_518 : decode cL_law 518 = .ok (.ireturn, 1) := zdL_law_483.2.2.2.2.2.2.2.2.2.2.2.2.2.2.2.2.2.2.2.2.2.1
theorem dL_law_519 : decode cL_law 519 = .ok (.aload_n 1, 1) := zdL_law_483.2.2.2.2.2.2.2.2.2.2.2.2.2.2.2.2.2.2.2.2.2.2.1
theorem dL_law_520 : decode cL_law 520 = .ok (.aload_n 0, 1) := zdL_law_483.2.2.2.2.2.2.2.2.2.2.2.2.2.2.2.2.2.2.2.2.2.2.2.1
theorem dL_law_521 : decode cL_law 521 = .ok (.iload 4, 2) := zdL_law_483.2.2.2.2.2.2.2.2.2.2.2.2.2.2.2.2.2.2.2.2.2.2.2.2.1
theorem dL_law_523 : decode cL_law 523 = .ok (.iconst 1, 1) := zdL_law_483.2.2.2.2.2.2.2.2.2.2.2.2.2.2.2.2.2.2.2.2.2.2.2.2.2.1
theorem dL_law_524 : decode cL_law 524 = .ok (.iadd, 1) := zdL_law_483.2.2.2.2.2.2.2.2.2.2.2.2.2.2.2.2.2.2.2.2.2.2.2.2.2.2.1
theorem dL_law_525 : decode cL_law 525 = .ok (.iaload, 1) := zdL_law_483.2.2.2.2.2.2.2.2.2.2.2.2.2.2.2.2.2.2.2.2.2.2.2.2.2.2.2.1
theorem dL_law_526 : decode cL_law 526 = .ok (.aload_n 3, 1) := zdL_law_483.2.2.2.2.2.2.2.2.2.2.2.2.2.2.2.2.2.2.2.2.2.2.2.2.2.2.2.2.1
theorem dL_law_527 : decode cL_law 527 = .ok (.invokestatic 102, 3) := zdL_law_483.2.2.2.2.2.2.2.2.2.2.2.2.2.2.2.2.2.2.2.2.2.2.2.2.2.2.2.2.2.1
set_option maxRecDepth 20000 in
theorem zdL_law_530 : dAll cL_law [(530, .istore 5, 2), (532, .aload_n 2, 1), (533, .aload_n 0, 1), (534, .iload 4, 2), (536, .iconst 1, 1), (537, .iadd, 1), (538, .iaload, 1), (539, .invokevirtual 104, 3), (542, .istore 6, 2), (544, .goto 3, 3), (547, .iinc 4 5, 3), (550, .goto (-527), 3), (553, .iconst 1, 1), (554, .ireturn, 1)] := dAll_of (by decide +kernel)
theorem dL_law_530 : decode cL_law 530 = .ok (.istore 5, 2) := zdL_law_530.1
theorem dL_law_532 : decode cL_law 532 = .ok (.aload_n 2, 1) := zdL_law_530.2.1
theorem dL_law_533 : decode cL_law 533 = .ok (.aload_n 0, 1) := zdL_law_530.2.2.1
theorem dL_law_534 : decode cL_law 534 = .ok (.iload 4, 2) := zdL_law_530.2.2.2.1
theorem dL_law_536 : decode cL_law 536 = .ok (.iconst 1, 1) := zdL_law_530.2.2.2.2.1
theorem dL_law_537 : decode cL_law 537 = .ok (.iadd, 1) := zdL_law_530.2.2.2.2.2.1
theorem dL_law_538 : decode cL_law 538 = .ok (.iaload, 1) := zdL_law_530.2.2.2.2.2.2.1
theorem dL_law_539 : decode cL_law 539 = .ok (.invokevirtual 104, 3) := zdL_law_530.2.2.2.2.2.2.2.1
theorem dL_law_542 : decode cL_law 542 = .ok (.istore 6, 2) := zdL_law_530.2.2.2.2.2.2.2.2.1
theorem dL_law_544 : decode cL_law 544 = .ok (.goto 3, 3) := zdL_law_530.2.2.2.2.2.2.2.2.2.1
theorem dL_law_547 : decode cL_law 547 = .ok (.iinc 4 5, 3) := zdL_law_530.2.2.2.2.2.2.2.2.2.2.1
theorem dL_law_550 : decode cL_law 550 = .ok (.goto (-527), 3) := zdL_law_530.2.2.2.2.2.2.2.2.2.2.2.1
theorem dL_law_553 : decode cL_law 553 = .ok (.iconst 1, 1) := zdL_law_530.2.2.2.2.2.2.2.2.2.2.2.2.1
theorem dL_law_554 : decode cL_law 554 = .ok (.ireturn, 1) := zdL_law_530.2.2.2.2.2.2.2.2.2.2.2.2.2.1
