set_option maxRecDepth 20000 in
theorem zdL_law_358 : dAll cL_law [(358, .aload_n 0, 1), (359, .iload 4, 2), (361, .iconst 1, 1), (362, .iadd, 1), (363, .iaload, 1), (364, .aload_n 0, 1), (365, .iload 4, 2), (367, .iconst 2, 1), (368, .iadd, 1), (369, .iaload, 1), (370, .aload_n 0, 1), (371, .iload 4, 2), (373, .iconst 3, 1), (374, .iadd, 1), (375, .iaload, 1), (376, .aload_n 0, 1), (377, .iload 4, 2), (379, .iconst 4, 1), (380, .iadd, 1), (381, .iaload, 1), (382, .aload_n 3, 1), (383, .invokestatic 84, 3), (386, .istore 5, 2), (388, .aload_n 2, 1), (389, .aload_n 0, 1), (390, .iload 4, 2), (392, .iconst 1, 1), (393, .iadd, 1), (394, .iaload, 1), (395, .aload_n 0, 1)] := dAll_of (by decide +kernel)
theorem dL_law_358 : decode cL_law 358 = .ok (.aload_n 0, 1) := zdL_law_358.1
theorem dL_law_359 : decode cL_law 359 = .ok (.iload 4, 2) := zdL_law_358.2.1
theorem dL_law_361 : decode cL_law 361 = .ok (.iconst 1, 1) := zdL_law_358.2.2.1
theorem dL_law_362 : decode cL_law 362 = .ok (.iadd, 1) := zdL_law_358.2.2.2.1
theorem dL_law_363 : decode cL_law 363 = .ok (.iaload, 1) := zdL_law_358.2.2.2.2.1
theorem dL_law_364 : decode cL_law 364 = .ok (.aload_n 0, 1) := zdL_law_358.2.2.2.2.2.1
theorem dL_law_365 : decode cL_law 365 = .ok (.iload 4, 2) := zdL_law_358.2.2.2.2.2.2.1
theorem dL_law_367 : decode cL_law 367 = .ok (.iconst 2, 1) := zdL_law_358.2.2.2.2.2.2.2.1
theorem dL_law_368 : decode cL_law 368 = .ok (.iadd, 1) := zdL_law_358.2.2.2.2.2.2.2.2.1
theorem dL_law_369 : decode cL_law 369 = .ok (.iaload, 1) := zdL_law_358.2.2.2.2.2.2.2.2.2.1
theorem dL_law_370 : decode cL_law 370 = .ok (.aload_n 0, 1) := zdL_law_358.2.2.2.2.2.2.2.2.2.2.1
theorem dL_law_371 : decode cL_law 371 = .ok (.iload 4, 2) := zdL_law_358.2.2.2.2.2.2.2.2.2.2.2.1
theorem dL_law_373 : decode cL_law 373 = .ok (.iconst 3, 1) := zdL_law_358.2.2.2.2.2.2.2.2.2.2.2.2.1
theorem dL_law_374 : decode cL_law 374 = .ok (.iadd, 1) := zdL_law_358.2.2.2.2.2.2.2.2.2.2.2.2.2.1
theorem dL_law_375 : decode cL_law 375 = .ok (.iaload, 1) := zdL_law_358.2.2.2.2.2.2.2.2.2.2.2.2.2.2.1
theorem dL_law_376 : decode cL_law 376 = .ok (.aload_n 0, 1) := zdL_law_358.2.2.2.2.2.2.2.2.2.2.2.2.2.2.2.1
theorem dL_law_377 : decode cL_law 377 = .ok (.iload 4, 2) := zdL_law_358.2.2.2.2.2.2.2.2.2.2.2.2.2.2.2.2.1
theorem dL_law_379 : decode cL_law 379 = .ok (.iconst 4, 1) := zdL_law_358.2.2.2.2.2.2.2.2.2.2.2.2.2.2.2.2.2.1
theorem dL_law_380 : decode cL_law 380 = .ok (.iadd, 1) := zdL_law_358.2.2.2.2.2.2.2.2.2.2.2.2.2.2.2.2.2.2.1
theorem dL_law_381 : decode cL_law 381 = .ok (.iaload, 1) := zdL_law_358.2.2.2.2.2.2.2.2.2.2.2.2.2.2.2.2.2.2.2.1
theorem dL_law_382 : decode cL_law 382 = .ok (.aload_n 3, 1) := zdL_law_358.2.2.2.2.2.2.2.2.2.2.2.2.2.2.2.2.2.2.2.2.1
theorem dL_law_383 : decode cL_law 383 = .ok (.invokestatic 84, 3) := zdL_law_358.2.2.2.2.2.2.2.2.2.2.2.2.2.2.2.2.2.2.2.2.2.1
theorem dL_law_386 : decode cL_law 386 = .ok (.istore 5, 2) := zdL_law_358.2.2.2.2.2.2.2.2.2.2.2.2.2.2.2.2.2.2.2.2.2.2.1
theorem dL_law_388 : decode cL_law 388 = .ok (.aload_n 2, 1) := zdL_law_358.2.2.2.2.2.2.2.2.2.2.2.2.2.2.2.2.2.2.2.2.2.2.2.1
theorem dL_law_389 : decode cL_law 389 = .ok (.aload_n 0, 1) := zdL_law_358.2.2.2.2.2.2.2.2.2.2.2.2.2.2.2.2.2.2.2.2.2.2.2.2.1
theorem dL_law_390 : decode cL_law 390 = .ok (.iload 4, 2) := zdL_law_358.2.2.2.2.2.2.2.2.2.2.2.2.2.2.2.2.2.2.2.2.2.2.2.2.2.1
theorem dL_law_392 : decode cL_law 392 = .ok (.iconst 1, 1) := zdL_law_358.2.2.2.2.2.2.2.2.2.2.2.2.2.2.2.2.2.2.2.2.2.2.2.2.2.2.1
theorem dL_law_393 : decode cL_law 393 = .ok (.iadd, 1) := zdL_law_358.2.2.2.2.2.2.2.2.2.2.2.2.2.2.2.2.2.2.2.2.2.2.2.2.2.2.2.1
theorem dL_law_394 : decode cL_law 394 = .ok (.iaload, 1) := zdL_law_358.2.2.2.2.2.2.2.2.2.2.2.2.2.2.2.2.2.2.2.2.2.2.2.2.2.2.2.2.1
theorem dL_law_395 : decode cL_law 395 = .ok (.aload_n 0, 1) := zdL_law_358.2.2.2.2.2.2.2.2.2.2.2.2.2.2.2.2.2.2.2.2.2.2.2.2.2.2.2.2.2.1
set_option maxRecDepth 20000 in
theorem zdL_law_396 : dAll cL_law [(396, .iload 4, 2), (398, .iconst 2, 1), (399, .iadd, 1), (400, .iaload, 1), (401, .aload_n 0, 1), (402, .iload 4, 2), (404, .iconst 3, 1), (405, .iadd, 1), (406, .iaload, 1), (407, .aload_n 0, 1), (408, .iload 4, 2), (410, .iconst 4, 1), (411, .iadd, 1), (412, .iaload, 1), (413, .invokevirtual 87, 3), (416, .istore 6, 2), (418, .goto 157, 3), (421, .aload_n 1, 1), (422, .invokevirtual 88, 3), (425, .pop, 1), (426, .aload_n 2, 1), (427, .invokevirtual 91, 3), (430, .pop, 1), (431, .goto 144, 3), (434, .aload_n 1, 1), (435, .aload_n 0, 1), (436, .iload 4, 2), (438, .iconst 1, 1), (439, .iadd, 1), (440, .iaload, 1)] := dAll_of (by decide +kernel)
theorem dL_law_396 : decode cL_law 396 = .ok (.iload 4, 2) := zdL_law_396.1
theorem dL_law_398 : decode cL_law 398 = .ok (.iconst 2, 1) := zdL_law_396.2.1
theorem dL_law_399 : decode cL_law 399 = .ok (.iadd, 1) := zdL_law_396.2.2.1
theorem dL_law_400 : decode cL_law 400 = .ok (.iaload, 1) := zdL_law_396.2.2.2.1
theorem dL_law_401 : decode cL_law 401 = .ok (.aload_n 0, 1) := zdL_law_396.2.2.2.2.1
theorem dL_law_402 : decode cL_law 402 = .ok (.iload 4, 2) := zdL_law_396.2.2.2.2.2.1
theorem dL_law_404 : decode cL_law 404 = .ok (.iconst 3, 1) := zdL_law_396.2.2.2.2.2.2.1
theorem dL_law_405 : decode cL_law 405 = .ok (.iadd, 1) := zdL_law_396.2.2.2.2.2.2.2.1
theorem dL_law_406 : decode cL_law 406 = .ok (.iaload, 1) := zdL_law_396.2.2.2.2.2.2.2.2.1
theorem dL_law_407 : decode cL_law 407 = .ok (.aload_n 0, 1) := zdL_law_396.2.2.2.2.2.2.2.2.2.1
theorem dL_law_408 : decode cL_law 408 = .ok (.iload 4, 2) := zdL_law_396.2.2.2.2.2.2.2.2.2.2.1
theorem dL_law_410 : decode cL_law 410 = .ok (.iconst 4, 1) := zdL_law_396.2.2.2.2.2.2.2.2.2.2.2.1
theorem dL_law_411 : decode cL_law 411 = .ok (.iadd, 1) := zdL_law_396.2.2.2.2.2.2.2.2.2.2.2.2.1
theorem dL_law_412 : decode cL_law 412 = .ok (.iaload, 1) := zdL_law_396.2.2.2.2.2.2.2.2.2.2.2.2.2.1
theorem dL_law_413 : decode cL_law 413 = .ok (.invokevirtual 87, 3) := zdL_law_396.2.2.2.2.2.2.2.2.2.2.2.2.2.2.1
theorem dL_law_416 : decode cL_law 416 = .ok (.istore 6, 2) := zdL_law_396.2.2.2.2.2.2.2.2.2.2.2.2.2.2.2.1
theorem dL_law_418 : decode cL_law 418 = .ok (.goto 157, 3) := zdL_law_396.2.2.2.2.2.2.2.2.2.2.2.2.2.2.2.2.1
theorem dL_law_421 : decode cL_law 421 = .ok (.aload_n 1, 1) := zdL_law_396.2.2.2.2.2.2.2.2.2.2.2.2.2.2.2.2.2.1
theorem dL_law_422 : decode cL_law 422 = .ok (.invokevirtual 88, 3) := zdL_law_396.2.2.2.2.2.2.2.2.2.2.2.2.2.2.2.2.2.2.1
theorem dL_law_425 : decode cL_law 425 = .ok (.pop, 1) := zdL_law_396.2.2.2.2.2.2.2.2.2.2.2.2.2.2.2.2.2.2.2.1
theorem dL_law_426 : decode cL_law 426 = .ok (.aload_n 2, 1) := zdL_law_396.2.2.2.2.2.2.2.2.2.2.2.2.2.2.2.2.2.2.2.2.1
theorem dL_law_427 : decode cL_law 427 = .ok (.invokevirtual 91, 3) := zdL_law_396.2.2.2.2.2.2.2.2.2.2.2.2.2.2.2.2.2.2.2.2.2.1
theorem dL_law_430 : decode cL_law 430 = .ok (.pop, 1) := zdL_law_396.2.2.2.2.2.2.2.2.2.2.2.2.2.2.2.2.2.2.2.2.2.2.1
theorem dL_law_431 : decode cL_law 431 = .ok (.goto 144, 3) := zdL_law_396.2.2.2.2.2.2.2.2.2.2.2.2.2.2.2.2.2.2.2.2.2.2.2.1
theorem dL_law_434 : decode cL_law 434 = .ok (.aload_n 1, 1) := zdL_law_396.2.2.2.2.2.2.2.2.2.2.2.2.2.2.2.2.2.2.2.2.2.2.2.2.1
theorem dL_law_435 : decode cL_law 435 = .ok (.aload_n 0, 1) := zdL_law_396.2.2.2.2.2.2.2.2.2.2.2.2.2.2.2.2.2.2.2.2.2.2.2.2.2.1
theorem dL_law_436 : decode cL_law 436 = .ok (.iload 4, 2) := zdL_law_396.2.2.2.2.2.2.2.2.2.2.2.2.2.2.2.2.2.2.2.2.2.2.2.2.2.2.1
theorem dL_law_438 : decode cL_law 438 = .ok (.iconst 1, 1) := zdL_law_396.2.2.2.2.2.2.2.2.2.2.2.2.2.2.2.2.2.2.2.2.2.2.2.2.2.2.2.1
theorem dL_law_439 : decode cL_law 439 = .ok (.iadd, 1) := zdL_law_396.2.2.2.2.2.2.2.2.2.2.2.2.2.2.2.2.2.2.2.2.2.2.2.2.2.2.2.2.1
theorem dL_law_440 : decode cL_law 440 = .ok (.iaload, 1) := zdL_law_396.2.2.2.2.2.2.2.2.2.2.2.2.2.2.2.2.2.2.2.2.2.2.2.2.2.2.2.2.2.1
set_option maxRecDepth 20000 in
theorem zdL_law_441 : dAll cL_law [(441, .aload_n 3, 1), (442, .invokestatic 92, 3), (445, .istore 5, 2), (447, .aload_n 2, 1), (448, .aload_n 0, 1), (449, .iload 4, 2), (451, .iconst 1, 1), (452, .iadd, 1), (453, .iaload, 1), (454, .invokevirtual 94, 3), (457, .istore 6, 2), (459, .goto 116, 3), (462, .aload_n 1, 1), (463, .aload_n 0, 1), (464, .iload 4, 2), (466, .iconst 1, 1), (467, .iadd, 1), (468, .iaload, 1), (469, .i2l, 1), (470, .bipush 32, 2), (472, .lshl, 1), (473, .aload_n 0, 1), (474, .iload 4, 2), (476, .iconst 2, 1), (477, .iadd, 1), (478, .iaload, 1), (479, .i2l, 1), (480, .ldc2_w 95, 3), (483, .land, 1), (484, .lor, 1)] := dAll_of (by decide +kernel)
theorem dL_law_441 : decode cL_law 441 = .ok (.aload_n 3, 1) := zdL_law_441.1
theorem dL_law_442 : decode cL_law 442 = .ok (.invokestatic 92, 3) := zdL_law_441.2.1
theorem dL_law_445 : decode cL_law 445 = .ok (.istore 5, 2) := zdL_law_441.2.2.1
theorem dL_law_447 : decode cL_law 447 = .ok (.aload_n 2, 1) := zdL_law_441.2.2.2.1
theorem dL_law_448 : decode cL_law 448 = .ok (.aload_n 0, 1) := zdL_law_441.2.2.2.2.1
theorem dL_law_449 : decode cL_law 449 = .ok (.iload 4, 2) := zdL_law_441.2.2.2.2.2.1
theorem dL_law_451 : decode cL_law 451 = .ok (.iconst 1, 1) := zdL_law_441.2.2.2.2.2.2.1
theorem dL_law_452 : decode cL_law 452 = .ok (.iadd, 1) := zdL_law_441.2.2.2.2.2.2.2.1
theorem dL_law_453 : decode cL_law 453 = .ok (.iaload, 1) := zdL_law_441.2.2.2.2.2.2.2.2.1
theorem dL_law_454 : decode cL_law 454 = .ok (.invokevirtual 94, 3) := zdL_law_441.2.2.2.2.2.2.2.2.2.1
theorem dL_law_457 : decode cL_law 457 = .ok (.istore 6, 2) := zdL_law_441.2.2.2.2.2.2.2.2.2.2.1
theorem dL_law_459 : decode cL_law 459 = .ok (.goto 116, 3) := zdL_law_441.2.2.2.2.2.2.2.2.2.2.2.1
theorem dL_law_462 : decode cL_law 462 = .ok (.aload_n 1, 1) := zdL_law_441.2.2.2.2.2.2.2.2.2.2.2.2.1
theorem dL_law_463 : decode cL_law 463 = .ok (.aload_n 0, 1) := zdL_law_441.2.2.2.2.2.2.2.2.2.2.2.2.2.1
theorem dL_law_464 : decode cL_law 464 = .ok (.iload 4, 2) := zdL_law_441.2.2.2.2.2.2.2.2.2.2.2.2.2.2.1
theorem dL_law_466 : decode cL_law 466 = .ok (.iconst 1, 1) := zdL_law_441.2.2.2.2.2.2.2.2.2.2.2.2.2.2.2.1
theorem dL_law_467 : decode cL_law 467 = .ok (.iadd, 1) := zdL_law_441.2.2.2.2.2.2.2.2.2.2.2.2.2.2.2.2.1
theorem dL_law_468 : decode cL_law 468 = .ok (.iaload, 1) := zdL_law_441.2.2.2.2.2.2.2.2.2.2.2.2.2.2.2.2.2.1
theorem dL_law_469 : decode cL_law 469 = .ok (.i2l, 1) := zdL_law_441.2.2.2.2.2.2.2.2.2.2.2.2.2.2.2.2.2.2.1
theorem dL_law_470 : decode cL_law 470 = .ok (.bipush 32, 2) := zdL_law_441.2.2.2.2.2.2.2.2.2.2.2.2.2.2.2.2.2.2.2.1
theorem dL_law_472 : decode cL_law 472 = .ok (.lshl, 1) := zdL_law_441.2.2.2.2.2.2.2.2.2.2.2.2.2.2.2.2.2.2.2.2.1
theorem dL_law_473 : decode cL_law 473 = .ok (.aload_n 0, 1) := zdL_law_441.2.2.2.2.2.2.2.2.2.2.2.2.2.2.2.2.2.2.2.2.2.1
theorem dL_law_474 : decode cL_law 474 = .ok (.iload 4, 2) := zdL_law_441.2.2.2.2.2.2.2.2.2.2.2.2.2.2.2.2.2.2.2.2.2.2.1
theorem dL_law_476 : decode cL_law 476 = .ok (.iconst 2, 1) := zdL_law_441.2.2.2.2.2.2.2.2.2.2.2.2.2.2.2.2.2.2.2.2.2.2.2.1
theorem dL_law_477 : decode cL_law 477 = .ok (.iadd, 1) := zdL_law_441.2.2.2.2.2.2.2.2.2.2.2.2.2.2.2.2.2.2.2.2.2.2.2.2.1
theorem dL_law_478 : decode cL_law 478 = .ok (.iaload, 1) := zdL_law_441.2.2.2.2.2.2.2.2.2.2.2.2.2.2.2.2.2.2.2.2.2.2.2.2.2.1
theorem dL_law_479 : decode cL_law 479 = .ok (.i2l, 1) := zdL_law_441.2.2.2.2.2.2.2.2.2.2.2.2.2.2.2.2.2.2.2.2.2.2.2.2.2.2.1
theorem dL_law_480 : decode cL_law 480 = .ok (.ldc2_w 95, 3) := zdL_law_441.2.2.2.2.2.2.2.2.2.2.2.2.2.2.2.2.2.2.2.2.2.2.2.2.2.2.2.1
theorem dL_law_483 : decode cL_law 483 = .ok (.land, 1) := zdL_law_441.2.2.2.2.2.2.2.2.2.2.2.2.2.2.2.2.2.2.2.2.2.2.2.2.2.2.2.2.1
theorem dL_law_484 : decode cL_law 484 = .ok (.lor, 1) := zdL_law_441.2.2.2.2.2.2.2.2.2.2.2.2.2.2.2.2.2.2.2.2.2.2.2.2.2.2.2.2.2.1
set_option maxRecDepth 20000 in
theorem zdL_law_485 : dAll cL_law [(485, .aload_n 0, 1), (486, .iload 4, 2), (488, .iconst 3, 1), (489, .iadd, 1), (490, .iaload, 1), (491, .aload_n 3, 1), (492, .invokestatic 97, 3), (495, .istore 5, 2), (497, .aload_n 2, 1), (498, .aload_n 0, 1), (499, .iload 4, 2), (501, .iconst 1, 1), (502, .iadd, 1), (503, .iaload, 1), (504, .i2l, 1), (505, .bipush 32, 2), (507, .lshl, 1), (508, .aload_n 0, 1), (509, .iload 4, 2), (511, .iconst 2, 1), (512, .iadd, 1), (513, .iaload, 1), (514, .i2l, 1), (515, .ldc2_w 95, 3), (518, .land, 1), (519, .lor, 1), (520, .aload_n 0, 1), (521, .iload 4, 2), (523, .iconst 3, 1), (524, .iadd, 1)] := dAll_of (by decide +kernel)
theorem dL_law_485 : decode cL_law 485 = .ok (.aload_n 0, 1) := zdL_law_485.1
theorem dL_law_486 : decode cL_law 486 = .ok (.iload 4, 2) := zdL_law_485.2.1
theorem dL_law_488 : decode cL_law 488 = .ok (.iconst 3, 1) := zdL_law_485.2.2.1
theorem dL_law_489 : decode cL_law 489 = .ok (.iadd, 1) := zdL_law_485.2.2.2.1
theorem dL_law_490 : decode cL_law 490 = .ok (.iaload, 1) := zdL_law_485.2.2.2.2.1
theorem dL_law_491 : decode cL_law 491 = .ok (.aload_n 3, 1) := zdL_law_485.2.2.2.2.2.1
theorem dL_law_492 : decode cL_law 492 = .ok (.invokestatic 97, 3) := zdL_law_485.2.2.2.2.2.2.1
theorem dL_law_495 : decode cL_law 495 = .ok (.istore 5, 2) := zdL_law_485.2.2.2.2.2.2.2.1
theorem dL_law_497 : decode cL_law 497 = .ok (.aload_n 2, 1) := zdL_law_485.2.2.2.2.2.2.2.2.1
theorem dL_law_498 : decode cL_law 498 = .ok (.aload_n 0, 1) := zdL_law_485.2.2.2.2.2.2.2.2.2.1
theorem dL_law_499 : decode cL_law 499 = .ok (.iload 4, 2) := zdL_law_485.2.2.2.2.2.2.2.2.2.2.1
theorem dL_law_501 : decode cL_law 501 = .ok (.iconst 1, 1) := zdL_law_485.2.2.2.2.2.2.2.2.2.2.2.1
theorem dL_law_502 : decode cL_law 502 = .ok (.iadd, 1) := zdL_law_485.2.2.2.2.2.2.2.2.2.2.2.2.1
theorem dL_law_503 : decode cL_law 503 = .ok (.iaload, 1) := zdL_law_485.2.2.2.2.2.2.2.2.2.2.2.2.2.1
theorem dL_law_504 : decode cL_law 504 = .ok (.i2l, 1) := zdL_law_485.2.2.2.2.2.2.2.2.2.2.2.2.2.2.1
theorem dL_law_505 : decode cL_law 505 = .ok (.bipush 32, 2) := zdL_law_485.2.2.2.2.2.2.2.2.2.2.2.2.2.2.2.1
theorem dL_law_507 : decode cL_law 507 = .ok (.lshl, 1) := zdL_law_485.2.2.2.2.2.2.2.2.2.2.2.2.2.2.2.2.1
theorem dL_law_508 : decode cL_law 508 = .ok (.aload_n 0, 1) := zdL_law_485.2.2.2.2.2.2.2.2.2.2.2.2.2.2.2.2.2.1
theorem dL_law_509 : decode cL_law 509 = .ok (.iload 4, 2) := zdL_law_485.2.2.2.2.2.2.2.2.2.2.2.2.2.2.2.2.2.2.1
theorem dL_law_511 : decode cL_law 511 = .ok (.iconst 2, 1) := zdL_law_485.2.2.2.2.2.2.2.2.2.2.2.2.2.2.2.2.2.2.2.1
theorem dL_law_512 : decode cL_law 512 = .ok (.iadd, 1) := zdL_law_485.2.2.2.2.2.2.2.2.2.2.2.2.2.2.2.2.2.2.2.2.1
theorem dL_law_513 : decode cL_law 513 = .ok (.iaload, 1) := zdL_law_485.2.2.2.2.2.2.2.2.2.2.2.2.2.2.2.2.2.2.2.2.2.1
theorem dL_law_514 : decode cL_law 514 = .ok (.i2l, 1) := zdL_law_485.2.2.2.2.2.2.2.2.2.2.2.2.2.2.2.2.2.2.2.2.2.2.1
theorem dL_law_515 : decode cL_law 515 = .ok (.ldc2_w 95, 3) := zdL_law_485.2.2.2.2.2.2.2.2.2.2.2.2.2.2.2.2.2.2.2.2.2.2.2.1
theorem dL_law_518 : decode cL_law 518 = .ok (.land, 1) := zdL_law_485.2.2.2.2.2.2.2.2.2.2.2.2.2.2.2.2.2.2.2.2.2.2.2.2.1
theorem dL_law_519 : decode cL_law 519 = .ok (.lor, 1) := zdL_law_485.2.2.2.2.2.2.2.2.2.2.2.2.2.2.2.2.2.2.2.2.2.2.2.2.2.1
theorem dL_law_520 : decode cL_law 520 = .ok (.aload_n 0, 1) := zdL_law_485.2.2.2.2.2.2.2.2.2.2.2.2.2.2.2.2.2.2.2.2.2.2.2.2.2.2.1
theorem dL_law_521 : decode cL_law 521 = .ok (.iload 4, 2) := zdL_law_485.2.2.2.2.2.2.2.2.2.2.2.2.2.2.2.2.2.2.2.2.2.2.2.2.2.2.2.1
theorem dL_law_523 : decode cL_law 523 = .ok (.iconst 3, 1) := zdL_law_485.2.2.2.2.2.2.2.2.2.2.2.2.2.2.2.2.2.2.2.2.2.2.2.2.2.2.2.2.1
theorem dL_law_524 : decode cL_law 524 = .ok (.iadd, 1) := zdL_law_485.2.2.2.2.2.2.2.2.2.2.2.2.2.2.2.2.2.2.2.2.2.2.2.2.2.2.2.2.2.1
set_option maxRecDepth 20000 in
theorem zdL_law_525 : dAll cL_law [(525, .iaload, 1), (526, .invokevirtual 100, 3), (529, .istore 6, 2), (531, .goto 44, 3), (534, .aload_n 1, 1), (535, .invokevirtual 101, 3), (538, .pop, 1), (539, .aload_n 2, 1), (540, .invokevirtual 104, 3), (543, .pop, 1), (544, .goto 31, 3), (547, .aload_n 1, 1), (548, .aload_n 0, 1), (549, .iload 4, 2), (551, .iconst 1, 1), (552, .iadd, 1), (553, .iaload, 1), (554, .aload_n 3, 1), (555, .invokestatic 105, 3), (558, .istore 5, 2), (560, .aload_n 2, 1), (561, .aload_n 0, 1), (562, .iload 4, 2), (564, .iconst 1, 1), (565, .iadd, 1), (566, .iaload, 1), (567, .invokevirtual 107, 3), (570, .istore 6, 2), (572, .goto 3, 3), (575, .iinc 4 5, 3)] := dAll_of (by decide +kernel)
theorem dL_law_525 : decode cL_law 525 = .ok (.iaload, 1) := zdL_law_525.1
theorem dL_law_526 : decode cL_law 526 = .ok (.invokevirtual 100, 3) := zdL_law_525.2.1
theorem dL_law_529 : decode cL_law 529 = .ok (.istore 6, 2) := zdL_law_525.2.2.1
theorem dL_law_531 : decode cL_law 531 = .ok (.goto 44, 3) := zdL_law_525.2.2.2.1
theorem dL_law_534 : decode cL_law 534 = .ok (.aload_n 1, 1) := zdL_law_525.2.2.2.2.1
theorem dL_law_535 : decode cL_law 535 = .ok (.invokevirtual 101, 3) := zdL_law_525.2.2.2.2.2.1
theorem dL_law_538 : decode cL_law 538 = .ok (.pop, 1) := zdL_law_525.2.2.2.2.2.2.1
theorem dL_law_539 : decode cL_law 539 = .ok (.aload_n 2, 1) := zdL_law_525.2.2.2.2.2.2.2.1
theorem dL_law_540 : decode cL_law 540 = .ok (.invokevirtual 104, 3) := zdL_law_525.2.2.2.2.2.2.2.2.1
theorem dL_law_543 : decode cL_law 543 = .ok (.pop, 1) := zdL_law_525.2.2.2.2.2.2.2.2.2.1
theorem dL_law_544 : decode cL_law 544 = .ok (.goto 31, 3) := zdL_law_525.2.2.2.2.2.2.2.2.2.2.1
theorem dL_law_547 : decode cL_law 547 = .ok (.aload_n 1, 1) := zdL_law_525.2.2.2.2.2.2.2.2.2.2.2.1
theorem dL_law_548 : decode cL_law 548 = .ok (.aload_n 0, 1) := zdL_law_525.2.2.2.2.2.2.2.2.2.2.2.2.1
theorem dL_law_549 : decode cL_law 549 = .ok (.iload 4, 2) := zdL_law_525.2.2.2.2.2.2.2.2.2.2.2.2.2.1
theorem dL_law_551 : decode cL_law 551 = .ok (.iconst 1, 1) := zdL_law_525.2.2.2.2.2.2.2.2.2.2.2.2.2.2.1
theorem dL_law_552 : decode cL_law 552 = .ok (.iadd, 1) := zdL_law_525.2.2.2.2.2.2.2.2.2.2.2.2.2.2.2.1
theorem dL_law_553 : decode cL_law 553 = .ok (.iaload, 1) := zdL_law_525.2.2.2.2.2.2.2.2.2.2.2.2.2.2.2.2.1
theorem dL_law_554 : decode cL_law 554 = .ok (.aload_n 3, 1) := zdL_law_525.2.2.2.2.2.2.2.2.2.2.2.2.2.2.2.2.2.1
theorem dL_law_555 : decode cL_law 555 = .ok (.invokestatic 105, 3) := zdL_law_525.2.2.2.2.2.2.2.2.2.2.2.2.2.2.2.2.2.2.1
theorem dL_law_558 : decode cL_law 558 = .ok (.istore 5, 2) := zdL_law_525.2.2.2.2.2.2.2.2.2.2.2.2.2.2.2.2.2.2.2.1
theorem dL_law_560 : decode cL_law 560 = .ok (.aload_n 2, 1) := zdL_law_525.2.2.2.2.2.2.2.2.2.2.2.2.2.2.2.2.2.2.2.2.1
theorem dL_law_561 : decode cL_law 561 = .ok (.aload_n 0, 1) := zdL_law_525.2.2.2.2.2.2.2.2.2.2.2.2.2.2.2.2.2.2.2.2.2.1
theorem dL_law_562 : decode cL_law 562 = .ok (.iload 4, 2) := zdL_law_525.2.2.2.2.2.2.2.2.2.2.2.2.2.2.2.2.2.2.2.2.2.2.1
theorem dL_law_564 : decode cL_law 564 = .ok (.iconst 1, 1) := zdL_law_525.2.2.2.2.2.2.2.2.2.2.2.2.2.2.2.2.2.2.2.2.2.2.2.1
theorem dL_law_565 : decode cL_law 565 = .ok (.iadd, 1) := zdL_law_525.2.2.2.2.2.2.2.2.2.2.2.2.2.2.2.2.2.2.2.2.2.2.2.2.1
theorem dL_law_566 : decode cL_law 566 = .ok (.iaload, 1) := zdL_law_525.2.2.2.2.2.2.2.2.2.2.2.2.2.2.2.2.2.2.2.2.2.2.2.2.2.1
theorem dL_law_567 : decode cL_law 567 = .ok (.invokevirtual 107, 3) := zdL_law_525.2.2.2.2.2.2.2.2.2.2.2.2.2.2.2.2.2.2.2.2.2.2.2.2.2.2.1
theorem dL_law_570 : decode cL_law 570 = .ok (.istore 6, 2) := zdL_law_525.2.2.2.2.2.2.2.2.2.2.2.2.2.2.2.2.2.2.2.2.2.2.2.2.2.2.2.1
theorem dL_law_572 : decode cL_law 572 = .ok (.goto 3, 3) := zdL_law_525.2.2.2.2.2.2.2.2.2.2.2.2.2.2.2.2.2.2.2.2.2.2.2.2.2.2.2.2.1
theorem dL_law_575 : decode cL_law 575 = .ok (.iinc 4 5, 3) := zdL_law_525.2.2.2.2.2.2.2.2.2.2.2.2.2.2.2.2.2.2.2.2.2.2.2.2.2.2.2.2.2.1
set_option maxRecDepth 20000 in
theorem zdL_law_578 : dAll cL_law [(578, .goto (-555), 3), (581, .iconst 1, 1), (582, .ireturn, 1)] := dAll_of (by decide +kernel)
theorem dL_law_578 : decode cL_law 578 = .ok (.goto (-555), 3) := zdL_law_578.1
theorem dL_law_581 : decode cL_law 581 = .ok (.iconst 1, 1) := zdL_law_578.2.1
theorem dL_law_582 : decode cL_law 582 = .ok (.ireturn, 1) := zdL_law_578.2.2.1
