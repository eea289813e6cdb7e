set_option maxRecDepth 20000 in
theorem zdL_law_351 : dAll cL_law [(351, .iconst 4, 1), (352, .iadd, 1), (353, .iaload, 1), (354, .aload_n 3, 1), (355, .invokestatic 80, 3), (358, .istore 5, 2), (360, .aload_n 2, 1), (361, .aload_n 0, 1), (362, .iload 4, 2), (364, .iconst 1, 1), (365, .iadd, 1), (366, .iaload, 1), (367, .aload_n 0, 1), (368, .iload 4, 2), (370, .iconst 2, 1), (371, .iadd, 1), (372, .iaload, 1), (373, .aload_n 0, 1), (374, .iload 4, 2), (376, .iconst 3, 1), (377, .iadd, 1), (378, .iaload, 1), (379, .aload_n 0, 1), (380, .iload 4, 2), (382, .iconst 4, 1), (383, .iadd, 1), (384, .iaload, 1), (385, .invokevirtual 83, 3), (388, .istore 6, 2), (390, .aload_n 2, 1)] := dAll_of (by decide +kernel)
theorem dL_law_351 : decode cL_law 351 = .ok (.iconst 4, 1) := zdL_law_351.1
theorem dL_law_352 : decode cL_law 352 = .ok (.iadd, 1) := zdL_law_351.2.1
theorem dL_law_353 : decode cL_law 353 = .ok (.iaload, 1) := zdL_law_351.2.2.1
theorem dL_law_354 : decode cL_law 354 = .ok (.aload_n 3, 1) := zdL_law_351.2.2.2.1
theorem dL_law_355 : decode cL_law 355 = .ok (.invokestatic 80, 3) := zdL_law_351.2.2.2.2.1
theorem dL_law_358 : decode cL_law 358 = .ok (.istore 5, 2) := zdL_law_351.2.2.2.2.2.1
theorem dL_law_360 : decode cL_law 360 = .ok (.aload_n 2, 1) := zdL_law_351.2.2.2.2.2.2.1
theorem dL_law_361 : decode cL_law 361 = .ok (.aload_n 0, 1) := zdL_law_351.2.2.2.2.2.2.2.1
theorem dL_law_362 : decode cL_law 362 = .ok (.iload 4, 2) := zdL_law_351.2.2.2.2.2.2.2.2.1
theorem dL_law_364 : decode cL_law 364 = .ok (.iconst 1, 1) := zdL_law_351.2.2.2.2.2.2.2.2.2.1
theorem dL_law_365 : decode cL_law 365 = .ok (.iadd, 1) := zdL_law_351.2.2.2.2.2.2.2.2.2.2.1
theorem dL_law_366 : decode cL_law 366 = .ok (.iaload, 1) := zdL_law_351.2.2.2.2.2.2.2.2.2.2.2.1
theorem dL_law_367 : decode cL_law 367 = .ok (.aload_n 0, 1) := zdL_law_351.2.2.2.2.2.2.2.2.2.2.2.2.1
theorem dL_law_368 : decode cL_law 368 = .ok (.iload 4, 2) := zdL_law_351.2.2.2.2.2.2.2.2.2.2.2.2.2.1
theorem dL_law_370 : decode cL_law 370 = .ok (.iconst 2, 1) := zdL_law_351.2.2.2.2.2.2.2.2.2.2.2.2.2.2.1
theorem dL_law_371 : decode cL_law 371 = .ok (.iadd, 1) := zdL_law_351.2.2.2.2.2.2.2.2.2.2.2.2.2.2.2.1
theorem dL_law_372 : decode cL_law 372 = .ok (.iaload, 1) := zdL_law_351.2.2.2.2.2.2.2.2.2.2.2.2.2.2.2.2.1
theorem dL_law_373 : decode cL_law 373 = .ok (.aload_n 0, 1) := zdL_law_351.2.2.2.2.2.2.2.2.2.2.2.2.2.2.2.2.2.1
theorem dL_law_374 : decode cL_law 374 = .ok (.iload 4, 2) := zdL_law_351.2.2.2.2.2.2.2.2.2.2.2.2.2.2.2.2.2.2.1
theorem dL_law_376 : decode cL_law 376 = .ok (.iconst 3, 1) := zdL_law_351.2.2.2.2.2.2.2.2.2.2.2.2.2.2.2.2.2.2.2.1
theorem dL_law_377 : decode cL_law 377 = .ok (.iadd, 1) := zdL_law_351.2.2.2.2.2.2.2.2.2.2.2.2.2.2.2.2.2.2.2.2.1
theorem dL_law_378 : decode cL_law 378 = .ok (.iaload, 1) := zdL_law_351.2.2.2.2.2.2.2.2.2.2.2.2.2.2.2.2.2.2.2.2.2.1
theorem dL_law_379 : decode cL_law 379 = .ok (.aload_n 0, 1) := zdL_law_351.2.2.2.2.2.2.2.2.2.2.2.2.2.2.2.2.2.2.2.2.2.2.1
theorem dL_law_380 : decode cL_law 380 = .ok (.iload 4, 2) := zdL_law_351.2.2.2.2.2.2.2.2.2.2.2.2.2.2.2.2.2.2.2.2.2.2.2.1
theorem dL_law_382 : decode cL_law 382 = .ok (.iconst 4, 1) := zdL_law_351.2.2.2.2.2.2.2.2.2.2.2.2.2.2.2.2.2.2.2.2.2.2.2.2.1
theorem dL_law_383 : decode cL_law 383 = .ok (.iadd, 1) := zdL_law_351.2.2.2.2.2.2.2.2.2.2.2.2.2.2.2.2.2.2.2.2.2.2.2.2.2.1
theorem dL_law_384 : decode cL_law 384 = .ok (.iaload, 1) := zdL_law_351.2.2.2.2.2.2.2.2.2.2.2.2.2.2.2.2.2.2.2.2.2.2.2.2.2.2.1
theorem dL_law_385 : decode cL_law 385 = .ok (.invokevirtual 83, 3) := zdL_law_351.2.2.2.2.2.2.2.2.2.2.2.2.2.2.2.2.2.2.2.2.2.2.2.2.2.2.2.1
theorem dL_law_388 : decode cL_law 388 = .ok (.istore 6, 2) := zdL_law_351.2.2.2.2.2.2.2.2.2.2.2.2.2.2.2.2.2.2.2.2.2.2.2.2.2.2.2.2.1
theorem dL_law_390 : decode cL_law 390 = .ok (.aload_n 2, 1) := zdL_law_351.2.2.2.2.2.2.2.2.2.2.2.2.2.2.2.2.2.2.2.2.2.2.2.2.2.2.2.2.2.1
set_option maxRecDepth 20000 in
theorem zdL_law_391 : dAll cL_law [(391, .invokevirtual 84, 3), (394, .iload 5, 2), (396, .if_icmp .eq 5, 3), (399, .iconst 0, 1), (400, .ireturn, 1), (401, .iload 5, 2), (403, .ifCond .ne 15, 3), (406, .aload_n 3, 1), (407, .iconst 0, 1), (408, .laload, 1), (409, .iload 6, 2), (411, .i2l, 1), (412, .lcmp, 1), (413, .ifCond .eq 5, 3), (416, .iconst 0, 1), (417, .ireturn, 1), (418, .goto 157, 3), (421, .aload_n 1, 1), (422, .invokevirtual 88, 3), (425, .pop, 1), (426, .aload_n 2, 1), (427, .invokevirtual 91, 3), (430, .pop, 1), (431, .goto 144, 3), (434, .aload_n 1, 1), (435, .aload_n 0, 1), (436, .iload 4, 2), (438, .iconst 1, 1), (439, .iadd, 1), (440, .iaload, 1)] := dAll_of (by decide +kernel)
theorem dL_law_391 : decode cL_law 391 = .ok (.invokevirtual 84, 3) := zdL_law_391.1
theorem dL_law_394 : decode cL_law 394 = .ok (.iload 5, 2) := zdL_law_391.2.1
theorem dL_law_396 : decode cL_law 396 = .ok (.if_icmp .eq 5, 3) := zdL_law_391.2.2.1
theorem dL_law_399 : decode cL_law 399 = .ok (.iconst 0, 1) := zdL_law_391.2.2.2.1
theorem dL_law_400 : decode cL_law 400 = .ok (.ireturn, 1) := zdL_law_391.2.2.2.2.1
theorem dL_law_401 : decode cL_law 401 = .ok (.iload 5, 2) := zdL_law_391.2.2.2.2.2.1
theorem dL_law_403 : decode cL_law 403 = .ok (.ifCond .ne 15, 3) := zdL_law_391.2.2.2.2.2.2.1
theorem dL_law_406 : decode cL_law 406 = .ok (.aload_n 3, 1) := zdL_law_391.2.2.2.2.2.2.2.1
theorem dL_law_407 : decode cL_law 407 = .ok (.iconst 0, 1) := zdL_law_391.2.2.2.2.2.2.2.2.1
theorem dL_law_408 : decode cL_law 408 = .ok (.laload, 1) := zdL_law_391.2.2.2.2.2.2.2.2.2.1
theorem dL_law_409 : decode cL_law 409 = .ok (.iload 6, 2) := zdL_law_391.2.2.2.2.2.2.2.2.2.2.1
theorem dL_law_411 : decode cL_law 411 = .ok (.i2l, 1) := zdL_law_391.2.2.2.2.2.2.2.2.2.2.2.1
theorem dL_law_412 : decode cL_law 412 = .ok (.lcmp, 1) := zdL_law_391.2.2.2.2.2.2.2.2.2.2.2.2.1
theorem dL_law_413 : decode cL_law 413 = .ok (.ifCond .eq 5, 3) := zdL_law_391.2.2.2.2.2.2.2.2.2.2.2.2.2.1
theorem dL_law_416 : decode cL_law 416 = .ok (.iconst 0, 1) := zdL_law_391.2.2.2.2.2.2.2.2.2.2.2.2.2.2.1
theorem dL_law_417 : decode cL_law 417 = .ok (.ireturn, 1) := zdL_law_391.2.2.2.2.2.2.2.2.2.2.2.2.2.2.2.1
theorem dL_law_418 : decode cL_law 418 = .ok (.goto 157, 3) := zdL_law_391.2.2.2.2.2.2.2.2.2.2.2.2.2.2.2.2.1
theorem dL_law_421 : decode cL_law 421 = .ok (.aload_n 1, 1) := zdL_law_391.2.2.2.2.2.2.2.2.2.2.2.2.2.2.2.2.2.1
theorem dL_law_422 : decode cL_law 422 = .ok (.invokevirtual 88, 3) := zdL_law_391.2.2.2.2.2.2.2.2.2.2.2.2.2.2.2.2.2.2.1
theorem dL_law_425 : decode cL_law 425 = .ok (.pop, 1) := zdL_law_391.2.2.2.2.2.2.2.2.2.2.2.2.2.2.2.2.2.2.2.1
theorem dL_law_426 : decode cL_law 426 = .ok (.aload_n 2, 1) := zdL_law_391.2.2.2.2.2.2.2.2.2.2.2.2.2.2.2.2.2.2.2.2.1
theorem dL_law_427 : decode cL_law 427 = .ok (.invokevirtual 91, 3) := zdL_law_391.2.2.2.2.2.2.2.2.2.2.2.2.2.2.2.2.2.2.2.2.2.1
theorem dL_law_430 : decode cL_law 430 = .ok (.pop, 1) := zdL_law_391.2.2.2.2.2.2.2.2.2.2.2.2.2.2.2.2.2.2.2.2.2.2.1
theorem dL_law_431 : decode cL_law 431 = .ok (.goto 144, 3) := zdL_law_391.2.2.2.2.2.2.2.2.2.2.2.2.2.2.2.2.2.2.2.2.2.2.2.1
theorem dL_law_434 : decode cL_law 434 = .ok (.aload_n 1, 1) := zdL_law_391.2.2.2.2.2.2.2.2.2.2.2.2.2.2.2.2.2.2.2.2.2.2.2.2.1
theorem dL_law_435 : decode cL_law 435 = .ok (.aload_n 0, 1) := zdL_law_391.2.2.2.2.2.2.2.2.2.2.2.2.2.2.2.2.2.2.2.2.2.2.2.2.2.1
theorem dL_law_436 : decode cL_law 436 = .ok (.iload 4, 2) := zdL_law_391.2.2.2.2.2.2.2.2.2.2.2.2.2.2.2.2.2.2.2.2.2.2.2.2.2.2.1
theorem dL_law_438 : decode cL_law 438 = .ok (.iconst 1, 1) := zdL_law_391.2.2.2.2.2.2.2.2.2.2.2.2.2.2.2.2.2.2.2.2.2.2.2.2.2.2.2.1
theorem dL_law_439 : decode cL_law 439 = .ok (.iadd, 1) := zdL_law_391.2.2.2.2.2.2.2.2.2.2.2.2.2.2.2.2.2.2.2.2.2.2.2.2.2.2.2.2.1
theorem dL_law_440 : decode cL_law 440 = .ok (.iaload, 1) := zdL_law_391.2.2.2.2.2.2.2.2.2.2.2.2.2.2.2.2.2.2.2.2.2.2.2.2.2.2.2.2.2.1
set_option maxRecDepth 20000 in
theorem zdL_law_441 : dAll cL_law [(441, .aload_n 3, 1), (442, .invokestatic 92, 3), (445, .istore 5, 2), (447, .aload_n 2, 1), (448, .aload_n 0, 1), (449, .iload 4, 2), (451, .iconst 1, 1), (452, .iadd, 1), (453, .iaload, 1), (454, .invokevirtual 94, 3), (457, .istore 6, 2), (459, .goto 116, 3), (462, .aload_n 1, 1), (463, .aload_n 0, 1), (464, .iload 4, 2), (466, .iconst 1, 1), (467, .iadd, 1), (468, .iaload, 1), (469, .i2l, 1), (470, .bipush 32, 2), (472, .lshl, 1), (473, .aload_n 0, 1), (474, .iload 4, 2), (476, .iconst 2, 1), (477, .iadd, 1), (478, .iaload, 1), (479, .i2l, 1), (480, .ldc2_w 95, 3), (483, .land, 1), (484, .lor, 1)] := dAll_of (by decide +kernel)
theorem dL_law_441 : decode cL_law 441 = .ok (.aload_n 3, 1) := zdL_law_441.1
theorem dL_law_442 : decode cL_law 442 = .ok (.invokestatic 92, 3) := zdL_law_441.2.1
theorem dL_law_445 : decode cL_law 445 = .ok (.istore 5, 2) := zdL_law_441.2.2.1
theorem dL_law_447 : decode cL_law 447 = .ok (.aload_n 2, 1) := zdL_law_441.2.2.2.1
theorem dL_law_448 : decode cL_law 448 = .ok (.aload_n 0, 1) := zdL_law_441.2.2.2.2.1
theorem dL_law_449 : decode cL_law 449 = .ok (.iload 4, 2) := zdL_law_441.2.2.2.2.2.1
theorem dL_law_451 : decode cL_law 451 = .ok (.iconst 1, 1) := zdL_law_441.2.2.2.2.2.2.1
theorem dL_law_452 : decode cL_law 452 = .ok (.iadd, 1) := zdL_law_441.2.2.2.2.2.2.2.1
theorem dL_law_453 : decode cL_law 453 = .ok (.iaload, 1) := zdL_law_441.2.2.2.2.2.2.2.2.1
theorem dL_law_454 : decode cL_law 454 = .ok (.invokevirtual 94, 3) := zdL_law_441.2.2.2.2.2.2.2.2.2.1
theorem dL_law_457 : decode cL_law 457 = .ok (.istore 6, 2) := zdL_law_441.2.2.2.2.2.2.2.2.2.2.1
theorem dL_law_459 : decode cL_law 459 = .ok (.goto 116, 3) := zdL_law_441.2.2.2.2.2.2.2.2.2.2.2.1
theorem dL_law_462 : decode cL_law 462 = .ok (.aload_n 1, 1) := zdL_law_441.2.2.2.2.2.2.2.2.2.2.2.2.1
theorem dL_law_463 : decode cL_law 463 = .ok (.aload_n 0, 1) := zdL_law_441.2.2.2.2.2.2.2.2.2.2.2.2.2.1
theorem dL_law_464 : decode cL_law 464 = .ok (.iload 4, 2) := zdL_law_441.2.2.2.2.2.2.2.2.2.2.2.2.2.2.1
theorem dL_law_466 : decode cL_law 466 = .ok (.iconst 1, 1) := zdL_law_441.2.2.2.2.2.2.2.2.2.2.2.2.2.2.2.1
theorem dL_law_467 : decode cL_law 467 = .ok (.iadd, 1) := zdL_law_441.2.2.2.2.2.2.2.2.2.2.2.2.2.2.2.2.1
theorem dL_law_468 : decode cL_law 468 = .ok (.iaload, 1) := zdL_law_441.2.2.2.2.2.2.2.2.2.2.2.2.2.2.2.2.2.1
theorem dL_law_469 : decode cL_law 469 = .ok (.i2l, 1) := zdL_law_441.2.2.2.2.2.2.2.2.2.2.2.2.2.2.2.2.2.2.1
theorem dL_law_470 : decode cL_law 470 = .ok (.bipush 32, 2) := zdL_law_441.2.2.2.2.2.2.2.2.2.2.2.2.2.2.2.2.2.2.2.1
theorem dL_law_472 : decode cL_law 472 = .ok (.lshl, 1) := zdL_law_441.2.2.2.2.2.2.2.2.2.2.2.2.2.2.2.2.2.2.2.2.1
theorem dL_law_473 : decode cL_law 473 = .ok (.aload_n 0, 1) := zdL_law_441.2.2.2.2.2.2.2.2.2.2.2.2.2.2.2.2.2.2.2.2.2.1
theorem dL_law_474 : decode cL_law 474 = .ok (.iload 4, 2) := zdL_law_441.2.2.2.2.2.2.2.2.2.2.2.2.2.2.2.2.2.2.2.2.2.2.1
theorem dL_law_476 : decode cL_law 476 = .ok (.iconst 2, 1) := zdL_law_441.2.2.2.2.2.2.2.2.2.2.2.2.2.2.2.2.2.2.2.2.2.2.2.1
theorem dL_law_477 : decode cL_law 477 = .ok (.iadd, 1) := zdL_law_441.2.2.2.2.2.2.2.2.2.2.2.2.2.2.2.2.2.2.2.2.2.2.2.2.1
theorem dL_law_478 : decode cL_law 478 = .ok (.iaload, 1) := zdL_law_441.2.2.2.2.2.2.2.2.2.2.2.2.2.2.2.2.2.2.2.2.2.2.2.2.2.1
theorem dL_law_479 : decode cL_law 479 = .ok (.i2l, 1) := zdL_law_441.2.2.2.2.2.2.2.2.2.2.2.2.2.2.2.2.2.2.2.2.2.2.2.2.2.2.1
theorem dL_law_480 : decode cL_law 480 = .ok (.ldc2_w 95, 3) := zdL_law_441.2.2.2.2.2.2.2.2.2.2.2.2.2.2.2.2.2.2.2.2.2.2.2.2.2.2.2.1
theorem dL_law_483 : decode cL_law 483 = .ok (.land, 1) := zdL_law_441.2.2.2.2.2.2.2.2.2.2.2.2.2.2.2.2.2.2.2.2.2.2.2.2.2.2.2.2.1
theorem dL_law_484 : decode cL_law 484 = .ok (.lor, 1) := zdL_law_441.2.2.2.2.2.2.2.2.2.2.2.2.2.2.2.2.2.2.2.2.2.2.2.2.2.2.2.2.2.1
set_option maxRecDepth 20000 in
theorem zdL_law_485 : dAll cL_law [(485, .aload_n 0, 1), (486, .iload 4, 2), (488, .iconst 3, 1), (489, .iadd, 1), (490, .iaload, 1), (491, .aload_n 3, 1), (492, .invokestatic 97, 3), (495, .istore 5, 2), (497, .aload_n 2, 1), (498, .aload_n 0, 1), (499, .iload 4, 2), (501, .iconst 1, 1), (502, .iadd, 1), (503, .iaload, 1), (504, .i2l, 1), (505, .bipush 32, 2), (507, .lshl, 1), (508, .aload_n 0, 1), (509, .iload 4, 2), (511, .iconst 2, 1), (512, .iadd, 1), (513, .iaload, 1), (514, .i2l, 1), (515, .ldc2_w 95, 3), (518, .land, 1), (519, .lor, 1), (520, .aload_n 0, 1), (521, .iload 4, 2), (523, .iconst 3, 1), (524, .iadd, 1)] := dAll_of (by decide +kernel)
theorem dL_law_485 : decode cL_law 485 = .ok (.aload_n 0, 1) := zdL_law_485.1
theorem dL_law_486 : decode cL_law 486 = .ok (.iload 4, 2) := zdL_law_485.2.1
theorem dL_law_488 : decode cL_law 488 = .ok (.iconst 3, 1) := zdL_law_485.2.2.1
theorem dL_law_489 : decode cL_law 489 = .ok (.iadd, 1) := zdL_law_485.2.2.2.1
theorem dL_law_490 : decode cL_law 490 = .ok (.iaload, 1) := zdL_law_485.2.2.2.2.1
theorem dL_law_491 : decode cL_law 491 = .ok (.aload_n 3, 1) := zdL_law_485.2.2.2.2.2.1
theorem dL_law_492 : decode cL_law 492 = .ok (.invokestatic 97, 3) := zdL_law_485.2.2.2.2.2.2.1
theorem dL_law_495 : decode cL_law 495 = .ok (.istore 5, 2) := zdL_law_485.2.2.2.2.2.2.2.1
theorem dL_law_497 : decode cL_law 497 = .ok (.aload_n 2, 1) := zdL_law_485.2.2.2.2.2.2.2.2.1
theorem dL_law_498 : decode cL_law 498 = .ok (.aload_n 0, 1) := zdL_law_485.2.2.2.2.2.2.2.2.2.1
theorem dL_law_499 : decode cL_law 499 = .ok (.iload 4, 2) := zdL_law_485.2.2.2.2.2.2.2.2.2.2.1
theorem dL_law_501 : decode cL_law 501 = .ok (.iconst 1, 1) := zdL_law_485.2.2.2.2.2.2.2.2.2.2.2.1
theorem dL_law_502 : decode cL_law 502 = .ok (.iadd, 1) := zdL_law_485.2.2.2.2.2.2.2.2.2.2.2.2.1
theorem dL_law_503 : decode cL_law 503 = .ok (.iaload, 1) := zdL_law_485.2.2.2.2.2.2.2.2.2.2.2.2.2.1
theorem dL_law_504 : decode cL_law 504 = .ok (.i2l, 1) := zdL_law_485.2.2.2.2.2.2.2.2.2.2.2.2.2.2.1
theorem dL_law_505 : decode cL_law 505 = .ok (.bipush 32, 2) := zdL_law_485.2.2.2.2.2.2.2.2.2.2.2.2.2.2.2.1
theorem dL_law_507 : decode cL_law 507 = .ok (.lshl, 1) := zdL_law_485.2.2.2.2.2.2.2.2.2.2.2.2.2.2.2.2.1
theorem dL_law_508 : decode cL_law 508 = .ok (.aload_n 0, 1) := zdL_law_485.2.2.2.2.2.2.2.2.2.2.2.2.2.2.2.2.2.1
theorem dL_law_509 : decode cL_law 509 = .ok (.iload 4, 2) := zdL_law_485.2.2.2.2.2.2.2.2.2.2.2.2.2.2.2.2.2.2.1
theorem dL_law_511 : decode cL_law 511 = .ok (.iconst 2, 1) := zdL_law_485.2.2.2.2.2.2.2.2.2.2.2.2.2.2.2.2.2.2.2.1
theorem dL_law_512 : decode cL_law 512 = .ok (.iadd, 1) := zdL_law_485.2.2.2.2.2.2.2.2.2.2.2.2.2.2.2.2.2.2.2.2.1
theorem dL_law_513 : decode cL_law 513 = .ok (.iaload, 1) := zdL_law_485.2.2.2.2.2.2.2.2.2.2.2.2.2.2.2.2.2.2.2.2.2.1
theorem dL_law_514 : decode cL_law 514 = .ok (.i2l, 1) := zdL_law_485.2.2.2.2.2.2.2.2.2.2.2.2.2.2.2.2.2.2.2.2.2.2.1
theorem dL_law_515 : decode cL_law 515 = .ok (.ldc2_w 95, 3) := zdL_law_485.2.2.2.2.2.2.2.2.2.2.2.2.2.2.2.2.2.2.2.2.2.2.2.1
theorem dL_law_518 : decode cL_law 518 = .ok (.land, 1) := zdL_law_485.2.2.2.2.2.2.2.2.2.2.2.2.2.2.2.2.2.2.2.2.2.2.2.2.1
theorem dL_law_519 : decode cL_law 519 = .ok (.lor, 1) := zdL_law_485.2.2.2.2.2.2.2.2.2.2.2.2.2.2.2.2.2.2.2.2.2.2.2.2.2.1
theorem dL_law_520 : decode cL_law 520 = .ok (.aload_n 0, 1) := zdL_law_485.2.2.2.2.2.2.2.2.2.2.2.2.2.2.2.2.2.2.2.2.2.2.2.2.2.2.1
theorem dL_law_521 : decode cL_law 521 = .ok (.iload 4, 2) := zdL_law_485.2.2.2.2.2.2.2.2.2.2.2.2.2.2.2.2.2.2.2.2.2.2.2.2.2.2.2.1
theorem dL_law_523 : decode cL_law 523 = .ok (.iconst 3, 1) := zdL_law_485.2.2.2.2.2.2.2.2.2.2.2.2.2.2.2.2.2.2.2.2.2.2.2.2.2.2.2.2.1
theorem dL_law_524 : decode cL_law 524 = .ok (.iadd, 1) := zdL_law_485.2.2.2.2.2.2.2.2.2.2.2.2.2.2.2.2.2.2.2.2.2.2.2.2.2.2.2.2.2.1
set_option maxRecDepth 20000 in
theorem zdL_law_525 : dAll cL_law [(525, .iaload, 1), (526, .invokevirtual 100, 3), (529, .istore 6, 2), (531, .goto 44, 3), (534, .aload_n 1, 1), (535, .invokevirtual 101, 3), (538, .pop, 1), (539, .aload_n 2, 1), (540, .invokevirtual 104, 3), (543, .pop, 1), (544, .goto 31, 3), (547, .aload_n 1, 1), (548, .aload_n 0, 1), (549, .iload 4, 2), (551, .iconst 1, 1), (552, .iadd, 1), (553, .iaload, 1), (554, .aload_n 3, 1), (555, .invokestatic 105, 3), (558, .istore 5, 2), (560, .aload_n 2, 1), (561, .aload_n 0, 1), (562, .iload 4, 2), (564, .iconst 1, 1), (565, .iadd, 1), (566, .iaload, 1), (567, .invokevirtual 107, 3), (570, .istore 6, 2), (572, .goto 3, 3), (575, .iinc 4 5, 3)] := dAll_of (by decide +kernel)
theorem dL_law_525 : decode cL_law 525 = .ok (.iaload, 1) := zdL_law_525.1
theorem dL_law_526 : decode cL_law 526 = .ok (.invokevirtual 100, 3) := zdL_law_525.2.1
theorem dL_law_529 : decode cL_law 529 = .ok (.istore 6, 2) := zdL_law_525.2.2.1
theorem dL_law_531 : decode cL_law 531 = .ok (.goto 44, 3) := zdL_law_525.2.2.2.1
theorem dL_law_534 : decode cL_law 534 = .ok (.aload_n 1, 1) := zdL_law_525.2.2.2.2.1
theorem dL_law_535 : decode cL_law 535 = .ok (.invokevirtual 101, 3) := zdL_law_525.2.2.2.2.2.1
theorem dL_law_538 : decode cL_law 538 = .ok (.pop, 1) := zdL_law_525.2.2.2.2.2.2.1
theorem dL_law_539 : decode cL_law 539 = .ok (.aload_n 2, 1) := zdL_law_525.2.2.2.2.2.2.2.1
theorem dL_law_540 : decode cL_law 540 = .ok (.invokevirtual 104, 3) := zdL_law_525.2.2.2.2.2.2.2.2.1
theorem dL_law_543 : decode cL_law 543 = .ok (.pop, 1) := zdL_law_525.2.2.2.2.2.2.2.2.2.1
theorem dL_law_544 : decode cL_law 544 = .ok (.goto 31, 3) := zdL_law_525.2.2.2.2.2.2.2.2.2.2.1
theorem dL_law_547 : decode cL_law 547 = .ok (.aload_n 1, 1) := zdL_law_525.2.2.2.2.2.2.2.2.2.2.2.1
theorem dL_law_548 : decode cL_law 548 = .ok (.aload_n 0, 1) := zdL_law_525.2.2.2.2.2.2.2.2.2.2.2.2.1
theorem dL_law_549 : decode cL_law 549 = .ok (.iload 4, 2) := zdL_law_525.2.2.2.2.2.2.2.2.2.2.2.2.2.1
theorem dL_law_551 : decode cL_law 551 = .ok (.iconst 1, 1) := zdL_law_525.2.2.2.2.2.2.2.2.2.2.2.2.2.2.1
theorem dL_law_552 : decode cL_law 552 = .ok (.iadd, 1) := zdL_law_525.2.2.2.2.2.2.2.2.2.2.2.2.2.2.2.1
theorem dL_law_553 : decode cL_law 553 = .ok (.iaload, 1) := zdL_law_525.2.2.2.2.2.2.2.2.2.2.2.2.2.2.2.2.1
theorem dL_law_554 : decode cL_law 554 = .ok (.aload_n 3, 1) := zdL_law_525.2.2.2.2.2.2.2.2.2.2.2.2.2.2.2.2.2.1
theorem dL_law_555 : decode cL_law 555 = .ok (.invokestatic 105, 3) := zdL_law_525.2.2.2.2.2.2.2.2.2.2.2.2.2.2.2.2.2.2.1
theorem dL_law_558 : decode cL_law 558 = .ok (.istore 5, 2) := zdL_law_525.2.2.2.2.2.2.2.2.2.2.2.2.2.2.2.2.2.2.2.1
theorem dL_law_560 : decode cL_law 560 = .ok (.aload_n 2, 1) := zdL_law_525.2.2.2.2.2.2.2.2.2.2.2.2.2.2.2.2.2.2.2.2.1
theorem dL_law_561 : decode cL_law 561 = .ok (.aload_n 0, 1) := zdL_law_525.2.2.2.2.2.2.2.2.2.2.2.2.2.2.2.2.2.2.2.2.2.1
theorem dL_law_562 : decode cL_law 562 = .ok (.iload 4, 2) := zdL_law_525.2.2.2.2.2.2.2.2.2.2.2.2.2.2.2.2.2.2.2.2.2.2.1
theorem dL_law_564 : decode cL_law 564 = .ok (.iconst 1, 1) := zdL_law_525.2.2.2.2.2.2.2.2.2.2.2.2.2.2.2.2.2.2.2.2.2.2.2.1
theorem dL_law_565 : decode cL_law 565 = .ok (.iadd, 1) := zdL_law_525.2.2.2.2.2.2.2.2.2.2.2.2.2.2.2.2.2.2.2.2.2.2.2.2.1
theorem dL_law_566 : decode cL_law 566 = .ok (.iaload, 1) := zdL_law_525.2.2.2.2.2.2.2.2.2.2.2.2.2.2.2.2.2.2.2.2.2.2.2.2.2.1
theorem dL_law_567 : decode cL_law 567 = .ok (.invokevirtual 107, 3) := zdL_law_525.2.2.2.2.2.2.2.2.2.2.2.2.2.2.2.2.2.2.2.2.2.2.2.2.2.2.1
theorem dL_law_570 : decode cL_law 570 = .ok (.istore 6, 2) := zdL_law_525.2.2.2.2.2.2.2.2.2.2.2.2.2.2.2.2.2.2.2.2.2.2.2.2.2.2.2.1
theorem dL_law_572 : decode cL_law 572 = .ok (.goto 3, 3) := zdL_law_525.2.2.2.2.2.2.2.2.2.2.2.2.2.2.2.2.2.2.2.2.2.2.2.2.2.2.2.2.1
theorem dL_law_575 : decode cL_law 575 = .ok (.iinc 4 5, 3) := zdL_law_525.2.2.2.2.2.2.2.2.2.2.2.2.2.2.2.2.2.2.2.2.2.2.2.2.2.2.2.2.2.1
set_option maxRecDepth 20000 in
theorem zdL_law_578 : dAll cL_law [(578, .goto (-555), 3), (581, .iconst 1, 1), (582, .ireturn, 1)] := dAll_of (by decide +kernel)
theorem dL_law_578 : decode cL_law 578 = .ok (.goto (-555), 3) := zdL_law_578.1
theorem dL_law_581 : decode cL_law 581 = .ok (.iconst 1, 1) := zdL_law_578.2.1
theorem dL_law_582 : decode cL_law 582 = .ok (.ireturn, 1) := zdL_law_578.2.2.1
