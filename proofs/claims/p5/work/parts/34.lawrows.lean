set_option maxRecDepth 20000 in
theorem zdL_law_359 : dAll cL_law [(359, .istore 6, 2), (361, .goto 221, 3), (364, .aload_n 1, 1), (365, .aload_n 0, 1), (366, .iload 4, 2), (368, .iconst 1, 1), (369, .iadd, 1), (370, .iaload, 1), (371, .aload_n 0, 1), (372, .iload 4, 2), (374, .iconst 2, 1), (375, .iadd, 1), (376, .iaload, 1), (377, .aload_n 0, 1), (378, .iload 4, 2), (380, .iconst 3, 1), (381, .iadd, 1), (382, .iaload, 1), (383, .aload_n 0, 1), (384, .iload 4, 2), (386, .iconst 4, 1), (387, .iadd, 1), (388, .iaload, 1), (389, .aload_n 3, 1), (390, .invokestatic 84, 3), (393, .istore 5, 2), (395, .aload_n 2, 1), (396, .aload_n 0, 1), (397, .iload 4, 2), (399, .iconst 1, 1)] := dAll_of (by decide +kernel)
theorem dL_law_359 : decode cL_law 359 = .ok (.istore 6, 2) := zdL_law_359.1
theorem dL_law_361 : decode cL_law 361 = .ok (.goto 221, 3) := zdL_law_359.2.1
theorem dL_law_364 : decode cL_law 364 = .ok (.aload_n 1, 1) := zdL_law_359.2.2.1
theorem dL_law_365 : decode cL_law 365 = .ok (.aload_n 0, 1) := zdL_law_359.2.2.2.1
theorem dL_law_366 : decode cL_law 366 = .ok (.iload 4, 2) := zdL_law_359.2.2.2.2.1
theorem dL_law_368 : decode cL_law 368 = .ok (.iconst 1, 1) := zdL_law_359.2.2.2.2.2.1
theorem dL_law_369 : decode cL_law 369 = .ok (.iadd, 1) := zdL_law_359.2.2.2.2.2.2.1
theorem dL_law_370 : decode cL_law 370 = .ok (.iaload, 1) := zdL_law_359.2.2.2.2.2.2.2.1
theorem dL_law_371 : decode cL_law 371 = .ok (.aload_n 0, 1) := zdL_law_359.2.2.2.2.2.2.2.2.1
theorem dL_law_372 : decode cL_law 372 = .ok (.iload 4, 2) := zdL_law_359.2.2.2.2.2.2.2.2.2.1
theorem dL_law_374 : decode cL_law 374 = .ok (.iconst 2, 1) := zdL_law_359.2.2.2.2.2.2.2.2.2.2.1
theorem dL_law_375 : decode cL_law 375 = .ok (.iadd, 1) := zdL_law_359.2.2.2.2.2.2.2.2.2.2.2.1
theorem dL_law_376 : decode cL_law 376 = .ok (.iaload, 1) := zdL_law_359.2.2.2.2.2.2.2.2.2.2.2.2.1
theorem dL_law_377 : decode cL_law 377 = .ok (.aload_n 0, 1) := zdL_law_359.2.2.2.2.2.2.2.2.2.2.2.2.2.1
theorem dL_law_378 : decode cL_law 378 = .ok (.iload 4, 2) := zdL_law_359.2.2.2.2.2.2.2.2.2.2.2.2.2.2.1
theorem dL_law_380 : decode cL_law 380 = .ok (.iconst 3, 1) := zdL_law_359.2.2.2.2.2.2.2.2.2.2.2.2.2.2.2.1
theorem dL_law_381 : decode cL_law 381 = .ok (.iadd, 1) := zdL_law_359.2.2.2.2.2.2.2.2.2.2.2.2.2.2.2.2.1
theorem dL_law_382 : decode cL_law 382 = .ok (.iaload, 1) := zdL_law_359.2.2.2.2.2.2.2.2.2.2.2.2.2.2.2.2.2.1
theorem dL_law_383 : decode cL_law 383 = .ok (.aload_n 0, 1) := zdL_law_359.2.2.2.2.2.2.2.2.2.2.2.2.2.2.2.2.2.2.1
theorem dL_law_384 : decode cL_law 384 = .ok (.iload 4, 2) := zdL_law_359.2.2.2.2.2.2.2.2.2.2.2.2.2.2.2.2.2.2.2.1
theorem dL_law_386 : decode cL_law 386 = .ok (.iconst 4, 1) := zdL_law_359.2.2.2.2.2.2.2.2.2.2.2.2.2.2.2.2.2.2.2.2.1
theorem dL_law_387 : decode cL_law 387 = .ok (.iadd, 1) := zdL_law_359.2.2.2.2.2.2.2.2.2.2.2.2.2.2.2.2.2.2.2.2.2.1
theorem dL_law_388 : decode cL_law 388 = .ok (.iaload, 1) := zdL_law_359.2.2.2.2.2.2.2.2.2.2.2.2.2.2.2.2.2.2.2.2.2.2.1
theorem dL_law_389 : decode cL_law 389 = .ok (.aload_n 3, 1) := zdL_law_359.2.2.2.2.2.2.2.2.2.2.2.2.2.2.2.2.2.2.2.2.2.2.2.1
theorem dL_law_390 : decode cL_law 390 = .ok (.invokestatic 84, 3) := zdL_law_359.2.2.2.2.2.2.2.2.2.2.2.2.2.2.2.2.2.2.2.2.2.2.2.2.1
theorem dL_law_393 : decode cL_law 393 = .ok (.istore 5, 2) := zdL_law_359.2.2.2.2.2.2.2.2.2.2.2.2.2.2.2.2.2.2.2.2.2.2.2.2.2.1
theorem dL_law_395 : decode cL_law 395 = .ok (.aload_n 2, 1) := zdL_law_359.2.2.2.2.2.2.2.2.2.2.2.2.2.2.2.2.2.2.2.2.2.2.2.2.2.2.1
theorem dL_law_396 : decode cL_law 396 = .ok (.aload_n 0, 1) := zdL_law_359.2.2.2.2.2.2.2.2.2.2.2.2.2.2.2.2.2.2.2.2.2.2.2.2.2.2.2.1
theorem dL_law_397 : decode cL_law 397 = .ok (.iload 4, 2) := zdL_law_359.2.2.2.2.2.2.2.2.2.2.2.2.2.2.2.2.2.2.2.2.2.2.2.2.2.2.2.2.1
theorem dL_law_399 : decode cL_law 399 = .ok (.iconst 1, 1) := zdL_law_359.2.2.2.2.2.2.2.2.2.2.2.2.2.2.2.2.2.2.2.2.2.2.2.2.2.2.2.2.2.1
set_option maxRecDepth 20000 in
theorem zdL_law_400 : dAll cL_law [(400, .iadd, 1), (401, .iaload, 1), (402, .aload_n 0, 1), (403, .iload 4, 2), (405, .iconst 2, 1), (406, .iadd, 1), (407, .iaload, 1), (408, .aload_n 0, 1), (409, .iload 4, 2), (411, .iconst 3, 1), (412, .iadd, 1), (413, .iaload, 1), (414, .aload_n 0, 1), (415, .iload 4, 2), (417, .iconst 4, 1), (418, .iadd, 1), (419, .iaload, 1), (420, .invokevirtual 87, 3), (423, .istore 6, 2), (425, .goto 157, 3), (428, .aload_n 1, 1), (429, .invokevirtual 88, 3), (432, .pop, 1), (433, .aload_n 2, 1), (434, .invokevirtual 91, 3), (437, .pop, 1), (438, .goto 144, 3), (441, .aload_n 1, 1), (442, .aload_n 0, 1), (443, .iload 4, 2)] := dAll_of (by decide +kernel)
theorem dL_law_400 : decode cL_law 400 = .ok (.iadd, 1) := zdL_law_400.1
theorem dL_law_401 : decode cL_law 401 = .ok (.iaload, 1) := zdL_law_400.2.1
theorem dL_law_402 : decode cL_law 402 = .ok (.aload_n 0, 1) := zdL_law_400.2.2.1
theorem dL_law_403 : decode cL_law 403 = .ok (.iload 4, 2) := zdL_law_400.2.2.2.1
theorem dL_law_405 : decode cL_law 405 = .ok (.iconst 2, 1) := zdL_law_400.2.2.2.2.1
theorem dL_law_406 : decode cL_law 406 = .ok (.iadd, 1) := zdL_law_400.2.2.2.2.2.1
theorem dL_law_407 : decode cL_law 407 = .ok (.iaload, 1) := zdL_law_400.2.2.2.2.2.2.1
theorem dL_law_408 : decode cL_law 408 = .ok (.aload_n 0, 1) := zdL_law_400.2.2.2.2.2.2.2.1
theorem dL_law_409 : decode cL_law 409 = .ok (.iload 4, 2) := zdL_law_400.2.2.2.2.2.2.2.2.1
theorem dL_law_411 : decode cL_law 411 = .ok (.iconst 3, 1) := zdL_law_400.2.2.2.2.2.2.2.2.2.1
theorem dL_law_412 : decode cL_law 412 = .ok (.iadd, 1) := zdL_law_400.2.2.2.2.2.2.2.2.2.2.1
theorem dL_law_413 : decode cL_law 413 = .ok (.iaload, 1) := zdL_law_400.2.2.2.2.2.2.2.2.2.2.2.1
theorem dL_law_414 : decode cL_law 414 = .ok (.aload_n 0, 1) := zdL_law_400.2.2.2.2.2.2.2.2.2.2.2.2.1
theorem dL_law_415 : decode cL_law 415 = .ok (.iload 4, 2) := zdL_law_400.2.2.2.2.2.2.2.2.2.2.2.2.2.1
theorem dL_law_417 : decode cL_law 417 = .ok (.iconst 4, 1) := zdL_law_400.2.2.2.2.2.2.2.2.2.2.2.2.2.2.1
theorem dL_law_418 : decode cL_law 418 = .ok (.iadd, 1) := zdL_law_400.2.2.2.2.2.2.2.2.2.2.2.2.2.2.2.1
theorem dL_law_419 : decode cL_law 419 = .ok (.iaload, 1) := zdL_law_400.2.2.2.2.2.2.2.2.2.2.2.2.2.2.2.2.1
theorem dL_law_420 : decode cL_law 420 = .ok (.invokevirtual 87, 3) := zdL_law_400.2.2.2.2.2.2.2.2.2.2.2.2.2.2.2.2.2.1
theorem dL_law_423 : decode cL_law 423 = .ok (.istore 6, 2) := zdL_law_400.2.2.2.2.2.2.2.2.2.2.2.2.2.2.2.2.2.2.1
theorem dL_law_425 : decode cL_law 425 = .ok (.goto 157, 3) := zdL_law_400.2.2.2.2.2.2.2.2.2.2.2.2.2.2.2.2.2.2.2.1
theorem dL_law_428 : decode cL_law 428 = .ok (.aload_n 1, 1) := zdL_law_400.2.2.2.2.2.2.2.2.2.2.2.2.2.2.2.2.2.2.2.2.1
theorem dL_law_429 : decode cL_law 429 = .ok (.invokevirtual 88, 3) := zdL_law_400.2.2.2.2.2.2.2.2.2.2.2.2.2.2.2.2.2.2.2.2.2.1
theorem dL_law_432 : decode cL_law 432 = .ok (.pop, 1) := zdL_law_400.2.2.2.2.2.2.2.2.2.2.2.2.2.2.2.2.2.2.2.2.2.2.1
theorem dL_law_433 : decode cL_law 433 = .ok (.aload_n 2, 1) := zdL_law_400.2.2.2.2.2.2.2.2.2.2.2.2.2.2.2.2.2.2.2.2.2.2.2.1
theorem dL_law_434 : decode cL_law 434 = .ok (.invokevirtual 91, 3) := zdL_law_400.2.2.2.2.2.2.2.2.2.2.2.2.2.2.2.2.2.2.2.2.2.2.2.2.1
theorem dL_law_437 : decode cL_law 437 = .ok (.pop, 1) := zdL_law_400.2.2.2.2.2.2.2.2.2.2.2.2.2.2.2.2.2.2.2.2.2.2.2.2.2.1
theorem dL_law_438 : decode cL_law 438 = .ok (.goto 144, 3) := zdL_law_400.2.2.2.2.2.2.2.2.2.2.2.2.2.2.2.2.2.2.2.2.2.2.2.2.2.2.1
theorem dL_law_441 : decode cL_law 441 = .ok (.aload_n 1, 1) := zdL_law_400.2.2.2.2.2.2.2.2.2.2.2.2.2.2.2.2.2.2.2.2.2.2.2.2.2.2.2.1
theorem dL_law_442 : decode cL_law 442 = .ok (.aload_n 0, 1) := zdL_law_400.2.2.2.2.2.2.2.2.2.2.2.2.2.2.2.2.2.2.2.2.2.2.2.2.2.2.2.2.1
theorem dL_law_443 : decode cL_law 443 = .ok (.iload 4, 2) := zdL_law_400.2.2.2.2.2.2.2.2.2.2.2.2.2.2.2.2.2.2.2.2.2.2.2.2.2.2.2.2.2.1
set_option maxRecDepth 20000 in
theorem zdL_law_445 : dAll cL_law [(445, .iconst 1, 1), (446, .iadd, 1), (447, .iaload, 1), (448, .aload_n 3, 1), (449, .invokestatic 92, 3), (452, .istore 5, 2), (454, .aload_n 2, 1), (455, .aload_n 0, 1), (456, .iload 4, 2), (458, .iconst 1, 1), (459, .iadd, 1), (460, .iaload, 1), (461, .invokevirtual 94, 3), (464, .istore 6, 2), (466, .goto 116, 3), (469, .aload_n 1, 1), (470, .aload_n 0, 1), (471, .iload 4, 2), (473, .iconst 1, 1), (474, .iadd, 1), (475, .iaload, 1), (476, .i2l, 1), (477, .bipush 32, 2), (479, .lshl, 1), (480, .aload_n 0, 1), (481, .iload 4, 2), (483, .iconst 2, 1), (484, .iadd, 1), (485, .iaload, 1), (486, .i2l, 1)] := dAll_of (by decide +kernel)
theorem dL_law_445 : decode cL_law 445 = .ok (.iconst 1, 1) := zdL_law_445.1
theorem dL_law_446 : decode cL_law 446 = .ok (.iadd, 1) := zdL_law_445.2.1
theorem dL_law_447 : decode cL_law 447 = .ok (.iaload, 1) := zdL_law_445.2.2.1
theorem dL_law_448 : decode cL_law 448 = .ok (.aload_n 3, 1) := zdL_law_445.2.2.2.1
theorem dL_law_449 : decode cL_law 449 = .ok (.invokestatic 92, 3) := zdL_law_445.2.2.2.2.1
theorem dL_law_452 : decode cL_law 452 = .ok (.istore 5, 2) := zdL_law_445.2.2.2.2.2.1
theorem dL_law_454 : decode cL_law 454 = .ok (.aload_n 2, 1) := zdL_law_445.2.2.2.2.2.2.1
theorem dL_law_455 : decode cL_law 455 = .ok (.aload_n 0, 1) := zdL_law_445.2.2.2.2.2.2.2.1
theorem dL_law_456 : decode cL_law 456 = .ok (.iload 4, 2) := zdL_law_445.2.2.2.2.2.2.2.2.1
theorem dL_law_458 : decode cL_law 458 = .ok (.iconst 1, 1) := zdL_law_445.2.2.2.2.2.2.2.2.2.1
theorem dL_law_459 : decode cL_law 459 = .ok (.iadd, 1) := zdL_law_445.2.2.2.2.2.2.2.2.2.2.1
theorem dL_law_460 : decode cL_law 460 = .ok (.iaload, 1) := zdL_law_445.2.2.2.2.2.2.2.2.2.2.2.1
theorem dL_law_461 : decode cL_law 461 = .ok (.invokevirtual 94, 3) := zdL_law_445.2.2.2.2.2.2.2.2.2.2.2.2.1
theorem dL_law_464 : decode cL_law 464 = .ok (.istore 6, 2) := zdL_law_445.2.2.2.2.2.2.2.2.2.2.2.2.2.1
theorem dL_law_466 : decode cL_law 466 = .ok (.goto 116, 3) := zdL_law_445.2.2.2.2.2.2.2.2.2.2.2.2.2.2.1
theorem dL_law_469 : decode cL_law 469 = .ok (.aload_n 1, 1) := zdL_law_445.2.2.2.2.2.2.2.2.2.2.2.2.2.2.2.1
theorem dL_law_470 : decode cL_law 470 = .ok (.aload_n 0, 1) := zdL_law_445.2.2.2.2.2.2.2.2.2.2.2.2.2.2.2.2.1
theorem dL_law_471 : decode cL_law 471 = .ok (.iload 4, 2) := zdL_law_445.2.2.2.2.2.2.2.2.2.2.2.2.2.2.2.2.2.1
theorem dL_law_473 : decode cL_law 473 = .ok (.iconst 1, 1) := zdL_law_445.2.2.2.2.2.2.2.2.2.2.2.2.2.2.2.2.2.2.1
theorem dL_law_474 : decode cL_law 474 = .ok (.iadd, 1) := zdL_law_445.2.2.2.2.2.2.2.2.2.2.2.2.2.2.2.2.2.2.2.1
theorem dL_law_475 : decode cL_law 475 = .ok (.iaload, 1) := zdL_law_445.2.2.2.2.2.2.2.2.2.2.2.2.2.2.2.2.2.2.2.2.1
theorem dL_law_476 : decode cL_law 476 = .ok (.i2l, 1) := zdL_law_445.2.2.2.2.2.2.2.2.2.2.2.2.2.2.2.2.2.2.2.2.2.1
theorem dL_law_477 : decode cL_law 477 = .ok (.bipush 32, 2) := zdL_law_445.2.2.2.2.2.2.2.2.2.2.2.2.2.2.2.2.2.2.2.2.2.2.1
theorem dL_law_479 : decode cL_law 479 = .ok (.lshl, 1) := zdL_law_445.2.2.2.2.2.2.2.2.2.2.2.2.2.2.2.2.2.2.2.2.2.2.2.1
theorem dL_law_480 : decode cL_law 480 = .ok (.aload_n 0, 1) := zdL_law_445.2.2.2.2.2.2.2.2.2.2.2.2.2.2.2.2.2.2.2.2.2.2.2.2.1
theorem dL_law_481 : decode cL_law 481 = .ok (.iload 4, 2) := zdL_law_445.2.2.2.2.2.2.2.2.2.2.2.2.2.2.2.2.2.2.2.2.2.2.2.2.2.1
theorem dL_law_483 : decode cL_law 483 = .ok (.iconst 2, 1) := zdL_law_445.2.2.2.2.2.2.2.2.2.2.2.2.2.2.2.2.2.2.2.2.2.2.2.2.2.2.1
theorem dL_law_484 : decode cL_law 484 = .ok (.iadd, 1) := zdL_law_445.2.2.2.2.2.2.2.2.2.2.2.2.2.2.2.2.2.2.2.2.2.2.2.2.2.2.2.1
theorem dL_law_485 : decode cL_law 485 = .ok (.iaload, 1) := zdL_law_445.2.2.2.2.2.2.2.2.2.2.2.2.2.2.2.2.2.2.2.2.2.2.2.2.2.2.2.2.1
theorem dL_law_486 : decode cL_law 486 = .ok (.i2l, 1) := zdL_law_445.2.2.2.2.2.2.2.2.2.2.2.2.2.2.2.2.2.2.2.2.2.2.2.2.2.2.2.2.2.1
set_option maxRecDepth 20000 in
theorem zdL_law_487 : dAll cL_law [(487, .ldc2_w 95, 3), (490, .land, 1), (491, .lor, 1), (492, .aload_n 0, 1), (493, .iload 4, 2), (495, .iconst 3, 1), (496, .iadd, 1), (497, .iaload, 1), (498, .aload_n 3, 1), (499, .invokestatic 97, 3), (502, .istore 5, 2), (504, .aload_n 2, 1), (505, .aload_n 0, 1), (506, .iload 4, 2), (508, .iconst 1, 1), (509, .iadd, 1), (510, .iaload, 1), (511, .i2l, 1), (512, .bipush 32, 2), (514, .lshl, 1), (515, .aload_n 0, 1), (516, .iload 4, 2), (518, .iconst 2, 1), (519, .iadd, 1), (520, .iaload, 1), (521, .i2l, 1), (522, .ldc2_w 95, 3), (525, .land, 1), (526, .lor, 1), (527, .aload_n 0, 1)] := dAll_of (by decide +kernel)
theorem dL_law_487 : decode cL_law 487 = .ok (.ldc2_w 95, 3) := zdL_law_487.1
theorem dL_law_490 : decode cL_law 490 = .ok (.land, 1) := zdL_law_487.2.1
theorem dL_law_491 : decode cL_law 491 = .ok (.lor, 1) := zdL_law_487.2.2.1
theorem dL_law_492 : decode cL_law 492 = .ok (.aload_n 0, 1) := zdL_law_487.2.2.2.1
theorem dL_law_493 : decode cL_law 493 = .ok (.iload 4, 2) := zdL_law_487.2.2.2.2.1
theorem dL_law_495 : decode cL_law 495 = .ok (.iconst 3, 1) := zdL_law_487.2.2.2.2.2.1
theorem dL_law_496 : decode cL_law 496 = .ok (.iadd, 1) := zdL_law_487.2.2.2.2.2.2.1
theorem dL_law_497 : decode cL_law 497 = .ok (.iaload, 1) := zdL_law_487.2.2.2.2.2.2.2.1
theorem dL_law_498 : decode cL_law 498 = .ok (.aload_n 3, 1) := zdL_law_487.2.2.2.2.2.2.2.2.1
theorem dL_law_499 : decode cL_law 499 = .ok (.invokestatic 97, 3) := zdL_law_487.2.2.2.2.2.2.2.2.2.1
theorem dL_law_502 : decode cL_law 502 = .ok (.istore 5, 2) := zdL_law_487.2.2.2.2.2.2.2.2.2.2.1
theorem dL_law_504 : decode cL_law 504 = .ok (.aload_n 2, 1) := zdL_law_487.2.2.2.2.2.2.2.2.2.2.2.1
theorem dL_law_505 : decode cL_law 505 = .ok (.aload_n 0, 1) := zdL_law_487.2.2.2.2.2.2.2.2.2.2.2.2.1
theorem dL_law_506 : decode cL_law 506 = .ok (.iload 4, 2) := zdL_law_487.2.2.2.2.2.2.2.2.2.2.2.2.2.1
theorem dL_law_508 : decode cL_law 508 = .ok (.iconst 1, 1) := zdL_law_487.2.2.2.2.2.2.2.2.2.2.2.2.2.2.1
theorem dL_law_509 : decode cL_law 509 = .ok (.iadd, 1) := zdL_law_487.2.2.2.2.2.2.2.2.2.2.2.2.2.2.2.1
theorem dL_law_510 : decode cL_law 510 = .ok (.iaload, 1) := zdL_law_487.2.2.2.2.2.2.2.2.2.2.2.2.2.2.2.2.1
theorem dL_law_511 : decode cL_law 511 = .ok (.i2l, 1) := zdL_law_487.2.2.2.2.2.2.2.2.2.2.2.2.2.2.2.2.2.1
theorem dL_law_512 : decode cL_law 512 = .ok (.bipush 32, 2) := zdL_law_487.2.2.2.2.2.2.2.2.2.2.2.2.2.2.2.2.2.2.1
theorem dL_law_514 : decode cL_law 514 = .ok (.lshl, 1) := zdL_law_487.2.2.2.2.2.2.2.2.2.2.2.2.2.2.2.2.2.2.2.1
theorem dL_law_515 : decode cL_law 515 = .ok (.aload_n 0, 1) := zdL_law_487.2.2.2.2.2.2.2.2.2.2.2.2.2.2.2.2.2.2.2.2.1
theorem dL_law_516 : decode cL_law 516 = .ok (.iload 4, 2) := zdL_law_487.2.2.2.2.2.2.2.2.2.2.2.2.2.2.2.2.2.2.2.2.2.1
theorem dL_law_518 : decode cL_law 518 = .ok (.iconst 2, 1) := zdL_law_487.2.2.2.2.2.2.2.2.2.2.2.2.2.2.2.2.2.2.2.2.2.2.1
theorem dL_law_519 : decode cL_law 519 = .ok (.iadd, 1) := zdL_law_487.2.2.2.2.2.2.2.2.2.2.2.2.2.2.2.2.2.2.2.2.2.2.2.1
theorem dL_law_520 : decode cL_law 520 = .ok (.iaload, 1) := zdL_law_487.2.2.2.2.2.2.2.2.2.2.2.2.2.2.2.2.2.2.2.2.2.2.2.2.1
theorem dL_law_521 : decode cL_law 521 = .ok (.i2l, 1) := zdL_law_487.2.2.2.2.2.2.2.2.2.2.2.2.2.2.2.2.2.2.2.2.2.2.2.2.2.1
theorem dL_law_522 : decode cL_law 522 = .ok (.ldc2_w 95, 3) := zdL_law_487.2.2.2.2.2.2.2.2.2.2.2.2.2.2.2.2.2.2.2.2.2.2.2.2.2.2.1
theorem dL_law_525 : decode cL_law 525 = .ok (.land, 1) := zdL_law_487.2.2.2.2.2.2.2.2.2.2.2.2.2.2.2.2.2.2.2.2.2.2.2.2.2.2.2.1
theorem dL_law_526 : decode cL_law 526 = .ok (.lor, 1) := zdL_law_487.2.2.2.2.2.2.2.2.2.2.2.2.2.2.2.2.2.2.2.2.2.2.2.2.2.2.2.2.1
theorem dL_law_527 : decode cL_law 527 = .ok (.aload_n 0, 1) := zdL_law_487.2.2.2.2.2.2.2.2.2.2.2.2.2.2.2.2.2.2.2.2.2.2.2.2.2.2.2.2.2.1
set_option maxRecDepth 20000 in
theorem zdL_law_528 : dAll cL_law [(528, .iload 4, 2), (530, .iconst 3, 1), (531, .iadd, 1), (532, .iaload, 1), (533, .invokevirtual 100, 3), (536, .istore 6, 2), (538, .goto 44, 3), (541, .aload_n 1, 1), (542, .invokevirtual 101, 3), (545, .pop, 1), (546, .aload_n 2, 1), (547, .invokevirtual 104, 3), (550, .pop, 1), (551, .goto 31, 3), (554, .aload_n 1, 1), (555, .aload_n 0, 1), (556, .iload 4, 2), (558, .iconst 1, 1), (559, .iadd, 1), (560, .iaload, 1), (561, .aload_n 3, 1), (562, .invokestatic 105, 3), (565, .istore 5, 2), (567, .aload_n 2, 1), (568, .aload_n 0, 1), (569, .iload 4, 2), (571, .iconst 1, 1), (572, .iadd, 1), (573, .iaload, 1), (574, .invokevirtual 107, 3)] := dAll_of (by decide +kernel)
theorem dL_law_528 : decode cL_law 528 = .ok (.iload 4, 2) := zdL_law_528.1
theorem dL_law_530 : decode cL_law 530 = .ok (.iconst 3, 1) := zdL_law_528.2.1
theorem dL_law_531 : decode cL_law 531 = .ok (.iadd, 1) := zdL_law_528.2.2.1
theorem dL_law_532 : decode cL_law 532 = .ok (.iaload, 1) := zdL_law_528.2.2.2.1
theorem dL_law_533 : decode cL_law 533 = .ok (.invokevirtual 100, 3) := zdL_law_528.2.2.2.2.1
theorem dL_law_536 : decode cL_law 536 = .ok (.istore 6, 2) := zdL_law_528.2.2.2.2.2.1
theorem dL_law_538 : decode cL_law 538 = .ok (.goto 44, 3) := zdL_law_528.2.2.2.2.2.2.1
theorem dL_law_541 : decode cL_law 541 = .ok (.aload_n 1, 1) := zdL_law_528.2.2.2.2.2.2.2.1
theorem dL_law_542 : decode cL_law 542 = .ok (.invokevirtual 101, 3) := zdL_law_528.2.2.2.2.2.2.2.2.1
theorem dL_law_545 : decode cL_law 545 = .ok (.pop, 1) := zdL_law_528.2.2.2.2.2.2.2.2.2.1
theorem dL_law_546 : decode cL_law 546 = .ok (.aload_n 2, 1) := zdL_law_528.2.2.2.2.2.2.2.2.2.2.1
theorem dL_law_547 : decode cL_law 547 = .ok (.invokevirtual 104, 3) := zdL_law_528.2.2.2.2.2.2.2.2.2.2.2.1
theorem dL_law_550 : decode cL_law 550 = .ok (.pop, 1) := zdL_law_528.2.2.2.2.2.2.2.2.2.2.2.2.1
theorem dL_law_551 : decode cL_law 551 = .ok (.goto 31, 3) := zdL_law_528.2.2.2.2.2.2.2.2.2.2.2.2.2.1
theorem dL_law_554 : decode cL_law 554 = .ok (.aload_n 1, 1) := zdL_law_528.2.2.2.2.2.2.2.2.2.2.2.2.2.2.1
theorem dL_law_555 : decode cL_law 555 = .ok (.aload_n 0, 1) := zdL_law_528.2.2.2.2.2.2.2.2.2.2.2.2.2.2.2.1
theorem dL_law_556 : decode cL_law 556 = .ok (.iload 4, 2) := zdL_law_528.2.2.2.2.2.2.2.2.2.2.2.2.2.2.2.2.1
theorem dL_law_558 : decode cL_law 558 = .ok (.iconst 1, 1) := zdL_law_528.2.2.2.2.2.2.2.2.2.2.2.2.2.2.2.2.2.1
theorem dL_law_559 : decode cL_law 559 = .ok (.iadd, 1) := zdL_law_528.2.2.2.2.2.2.2.2.2.2.2.2.2.2.2.2.2.2.1
theorem dL_law_560 : decode cL_law 560 = .ok (.iaload, 1) := zdL_law_528.2.2.2.2.2.2.2.2.2.2.2.2.2.2.2.2.2.2.2.1
theorem dL_law_561 : decode cL_law 561 = .ok (.aload_n 3, 1) := zdL_law_528.2.2.2.2.2.2.2.2.2.2.2.2.2.2.2.2.2.2.2.2.1
theorem dL_law_562 : decode cL_law 562 = .ok (.invokestatic 105, 3) := zdL_law_528.2.2.2.2.2.2.2.2.2.2.2.2.2.2.2.2.2.2.2.2.2.1
theorem dL_law_565 : decode cL_law 565 = .ok (.istore 5, 2) := zdL_law_528.2.2.2.2.2.2.2.2.2.2.2.2.2.2.2.2.2.2.2.2.2.2.1
theorem dL_law_567 : decode cL_law 567 = .ok (.aload_n 2, 1) := zdL_law_528.2.2.2.2.2.2.2.2.2.2.2.2.2.2.2.2.2.2.2.2.2.2.2.1
theorem dL_law_568 : decode cL_law 568 = .ok (.aload_n 0, 1) := zdL_law_528.2.2.2.2.2.2.2.2.2.2.2.2.2.2.2.2.2.2.2.2.2.2.2.2.1
theorem dL_law_569 : decode cL_law 569 = .ok (.iload 4, 2) := zdL_law_528.2.2.2.2.2.2.2.2.2.2.2.2.2.2.2.2.2.2.2.2.2.2.2.2.2.1
theorem dL_law_571 : decode cL_law 571 = .ok (.iconst 1, 1) := zdL_law_528.2.2.2.2.2.2.2.2.2.2.2.2.2.2.2.2.2.2.2.2.2.2.2.2.2.2.1
theorem dL_law_572 : decode cL_law 572 = .ok (.iadd, 1) := zdL_law_528.2.2.2.2.2.2.2.2.2.2.2.2.2.2.2.2.2.2.2.2.2.2.2.2.2.2.2.1
theorem dL_law_573 : decode cL_law 573 = .ok (.iaload, 1) := zdL_law_528.2.2.2.2.2.2.2.2.2.2.2.2.2.2.2.2.2.2.2.2.2.2.2.2.2.2.2.2.1
theorem dL_law_574 : decode cL_law 574 = .ok (.invokevirtual 107, 3) := zdL_law_528.2.2.2.2.2.2.2.2.2.2.2.2.2.2.2.2.2.2.2.2.2.2.2.2.2.2.2.2.2.1
set_option maxRecDepth 20000 in
theorem zdL_law_577 : dAll cL_law [(577, .istore 6, 2), (579, .goto 3, 3), (582, .iinc 4 5, 3), (585, .goto (-562), 3), (588, .iconst 1, 1), (589, .ireturn, 1)] := dAll_of (by decide +kernel)
theorem dL_law_577 : decode cL_law 577 = .ok (.istore 6, 2) := zdL_law_577.1
theorem dL_law_579 : decode cL_law 579 = .ok (.goto 3, 3) := zdL_law_577.2.1
theorem dL_law_582 : decode cL_law 582 = .ok (.iinc 4 5, 3) := zdL_law_577.2.2.1
theorem dL_law_585 : decode cL_law 585 = .ok (.goto (-562), 3) := zdL_law_577.2.2.2.1
theorem dL_law_588 : decode cL_law 588 = .ok (.iconst 1, 1) := zdL_law_577.2.2.2.2.1
theorem dL_law_589 : decode cL_law 589 = .ok (.ireturn, 1) := zdL_law_577.2.2.2.2.2.1
