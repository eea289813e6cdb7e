set_option maxRecDepth 20000 in
theorem zdL_law_368 : dAll cL_law [(368, .iadd, 1), (369, .iaload, 1), (370, .aload_n 0, 1), (371, .iload 4, 2), (373, .iconst 2, 1), (374, .iadd, 1), (375, .iaload, 1), (376, .aload_n 3, 1), (377, .invokestatic 78, 3), (380, .istore 5, 2), (382, .aload_n 2, 1), (383, .aload_n 0, 1), (384, .iload 4, 2), (386, .iconst 1, 1), (387, .iadd, 1), (388, .iaload, 1), (389, .aload_n 0, 1), (390, .iload 4, 2), (392, .iconst 2, 1), (393, .iadd, 1), (394, .iaload, 1), (395, .invokevirtual 80, 3), (398, .istore 6, 2), (400, .aload_n 2, 1), (401, .invokevirtual 63, 3), (404, .iload 5, 2), (406, .if_icmp .eq 5, 3), (409, .iconst 0, 1), (410, .ireturn, 1), (411, .iload 5, 2)] := dAll_of (by decide +kernel)
theorem dL_law_368 : decode cL_law 368 = .ok (.iadd, 1) := zdL_law_368.1
theorem dL_law_369 : decode cL_law 369 = .ok (.iaload, 1) := zdL_law_368.2.1
theorem dL_law_370 : decode cL_law 370 = .ok (.aload_n 0, 1) := zdL_law_368.2.2.1
theorem dL_law_371 : decode cL_law 371 = .ok (.iload 4, 2) := zdL_law_368.2.2.2.1
theorem dL_law_373 : decode cL_law 373 = .ok (.iconst 2, 1) := zdL_law_368.2.2.2.2.1
theorem dL_law_374 : decode cL_law 374 = .ok (.iadd, 1) := zdL_law_368.2.2.2.2.2.1
theorem dL_law_375 : decode cL_law 375 = .ok (.iaload, 1) := zdL_law_368.2.2.2.2.2.2.1
theorem dL_law_376 : decode cL_law 376 = .ok (.aload_n 3, 1) := zdL_law_368.2.2.2.2.2.2.2.1
theorem dL_law_377 : decode cL_law 377 = .ok (.invokestatic 78, 3) := zdL_law_368.2.2.2.2.2.2.2.2.1
theorem dL_law_380 : decode cL_law 380 = .ok (.istore 5, 2) := zdL_law_368.2.2.2.2.2.2.2.2.2.1
theorem dL_law_382 : decode cL_law 382 = .ok (.aload_n 2, 1) := zdL_law_368.2.2.2.2.2.2.2.2.2.2.1
theorem dL_law_383 : decode cL_law 383 = .ok (.aload_n 0, 1) := zdL_law_368.2.2.2.2.2.2.2.2.2.2.2.1
theorem dL_law_384 : decode cL_law 384 = .ok (.iload 4, 2) := zdL_law_368.2.2.2.2.2.2.2.2.2.2.2.2.1
theorem dL_law_386 : decode cL_law 386 = .ok (.iconst 1, 1) := zdL_law_368.2.2.2.2.2.2.2.2.2.2.2.2.2.1
theorem dL_law_387 : decode cL_law 387 = .ok (.iadd, 1) := zdL_law_368.2.2.2.2.2.2.2.2.2.2.2.2.2.2.1
theorem dL_law_388 : decode cL_law 388 = .ok (.iaload, 1) := zdL_law_368.2.2.2.2.2.2.2.2.2.2.2.2.2.2.2.1
theorem dL_law_389 : decode cL_law 389 = .ok (.aload_n 0, 1) := zdL_law_368.2.2.2.2.2.2.2.2.2.2.2.2.2.2.2.2.1
theorem dL_law_390 : decode cL_law 390 = .ok (.iload 4, 2) := zdL_law_368.2.2.2.2.2.2.2.2.2.2.2.2.2.2.2.2.2.1
theorem dL_law_392 : decode cL_law 392 = .ok (.iconst 2, 1) := zdL_law_368.2.2.2.2.2.2.2.2.2.2.2.2.2.2.2.2.2.2.1
theorem dL_law_393 : decode cL_law 393 = .ok (.iadd, 1) := zdL_law_368.2.2.2.2.2.2.2.2.2.2.2.2.2.2.2.2.2.2.2.1
theorem dL_law_394 : decode cL_law 394 = .ok (.iaload, 1) := zdL_law_368.2.2.2.2.2.2.2.2.2.2.2.2.2.2.2.2.2.2.2.2.1
theorem dL_law_395 : decode cL_law 395 = .ok (.invokevirtual 80, 3) := zdL_law_368.2.2.2.2.2.2.2.2.2.2.2.2.2.2.2.2.2.2.2.2.2.1
theorem dL_law_398 : decode cL_law 398 = .ok (.istore 6, 2) := zdL_law_368.2.2.2.2.2.2.2.2.2.2.2.2.2.2.2.2.2.2.2.2.2.2.1
theorem dL_law_400 : decode cL_law 400 = .ok (.aload_n 2, 1) := zdL_law_368.2.2.2.2.2.2.2.2.2.2.2.2.2.2.2.2.2.2.2.2.2.2.2.1
theorem dL_law_401 : decode cL_law 401 = .ok (.invokevirtual 63, 3) := zdL_law_368.2.2.2.2.2.2.2.2.2.2.2.2.2.2.2.2.2.2.2.2.2.2.2.2.1
theorem dL_law_404 : decode cL_law 404 = .ok (.iload 5, 2) := zdL_law_368.2.2.2.2.2.2.2.2.2.2.2.2.2.2.2.2.2.2.2.2.2.2.2.2.2.1
theorem dL_law_406 : decode cL_law 406 = .ok (.if_icmp .eq 5, 3) := zdL_law_368.2.2.2.2.2.2.2.2.2.2.2.2.2.2.2.2.2.2.2.2.2.2.2.2.2.2.1
theorem dL_law_409 : decode cL_law 409 = .ok (.iconst 0, 1) := zdL_law_368.2.2.2.2.2.2.2.2.2.2.2.2.2.2.2.2.2.2.2.2.2.2.2.2.2.2.2.1
theorem dL_law_410 : decode cL_law 410 = .ok (.ireturn, 1) := zdL_law_368.2.2.2.2.2.2.2.2.2.2.2.2.2.2.2.2.2.2.2.2.2.2.2.2.2.2.2.2.1
theorem dL_law_411 : decode cL_law 411 = .ok (.iload 5, 2) := zdL_law_368.2.2.2.2.2.2.2.2.2.2.2.2.2.2.2.2.2.2.2.2.2.2.2.2.2.2.2.2.2.1
set_option maxRecDepth 20000 in
theorem zdL_law_413 : dAll cL_law [(413, .ifCond .ne 15, 3), (416, .aload_n 3, 1), (417, .iconst 0, 1), (418, .laload, 1), (419, .iload 6, 2), (421, .i2l, 1), (422, .lcmp, 1), (423, .ifCond .eq 5, 3), (426, .iconst 0, 1), (427, .ireturn, 1), (428, .goto 389, 3), (431, .aload_n 1, 1), (432, .aload_n 0, 1), (433, .iload 4, 2), (435, .iconst 1, 1), (436, .iadd, 1), (437, .iaload, 1), (438, .aload_n 3, 1), (439, .invokestatic 81, 3), (442, .istore 5, 2), (444, .aload_n 2, 1), (445, .aload_n 0, 1), (446, .iload 4, 2), (448, .iconst 1, 1), (449, .iadd, 1), (450, .iaload, 1), (451, .invokevirtual 83, 3), (454, .istore 6, 2), (456, .aload_n 2, 1), (457, .invokevirtual 63, 3)] := dAll_of (by decide +kernel)
theorem dL_law_413 : decode cL_law 413 = .ok (.ifCond .ne 15, 3) := zdL_law_413.1
theorem dL_law_416 : decode cL_law 416 = .ok (.aload_n 3, 1) := zdL_law_413.2.1
theorem dL_law_417 : decode cL_law 417 = .ok (.iconst 0, 1) := zdL_law_413.2.2.1
theorem dL_law_418 : decode cL_law 418 = .ok (.laload, 1) := zdL_law_413.2.2.2.1
theorem dL_law_419 : decode cL_law 419 = .ok (.iload 6, 2) := zdL_law_413.2.2.2.2.1
theorem dL_law_421 : decode cL_law 421 = .ok (.i2l, 1) := zdL_law_413.2.2.2.2.2.1
theorem dL_law_422 : decode cL_law 422 = .ok (.lcmp, 1) := zdL_law_413.2.2.2.2.2.2.1
theorem dL_law_423 : decode cL_law 423 = .ok (.ifCond .eq 5, 3) := zdL_law_413.2.2.2.2.2.2.2.1
theorem dL_law_426 : decode cL_law 426 = .ok (.iconst 0, 1) := zdL_law_413.2.2.2.2.2.2.2.2.1
theorem dL_law_427 : decode cL_law 427 = .ok (.ireturn, 1) := zdL_law_413.2.2.2.2.2.2.2.2.2.1
theorem dL_law_428 : decode cL_law 428 = .ok (.goto 389, 3) := zdL_law_413.2.2.2.2.2.2.2.2.2.2.1
theorem dL_law_431 : decode cL_law 431 = .ok (.aload_n 1, 1) := zdL_law_413.2.2.2.2.2.2.2.2.2.2.2.1
theorem dL_law_432 : decode cL_law 432 = .ok (.aload_n 0, 1) := zdL_law_413.2.2.2.2.2.2.2.2.2.2.2.2.1
theorem dL_law_433 : decode cL_law 433 = .ok (.iload 4, 2) := zdL_law_413.2.2.2.2.2.2.2.2.2.2.2.2.2.1
theorem dL_law_435 : decode cL_law 435 = .ok (.iconst 1, 1) := zdL_law_413.2.2.2.2.2.2.2.2.2.2.2.2.2.2.1
theorem dL_law_436 : decode cL_law 436 = .ok (.iadd, 1) := zdL_law_413.2.2.2.2.2.2.2.2.2.2.2.2.2.2.2.1
theorem dL_law_437 : decode cL_law 437 = .ok (.iaload, 1) := zdL_law_413.2.2.2.2.2.2.2.2.2.2.2.2.2.2.2.2.1
theorem dL_law_438 : decode cL_law 438 = .ok (.aload_n 3, 1) := zdL_law_413.2.2.2.2.2.2.2.2.2.2.2.2.2.2.2.2.2.1
theorem dL_law_439 : decode cL_law 439 = .ok (.invokestatic 81, 3) := zdL_law_413.2.2.2.2.2.2.2.2.2.2.2.2.2.2.2.2.2.2.1
theorem dL_law_442 : decode cL_law 442 = .ok (.istore 5, 2) := zdL_law_413.2.2.2.2.2.2.2.2.2.2.2.2.2.2.2.2.2.2.2.1
theorem dL_law_444 : decode cL_law 444 = .ok (.aload_n 2, 1) := zdL_law_413.2.2.2.2.2.2.2.2.2.2.2.2.2.2.2.2.2.2.2.2.1
theorem dL_law_445 : decode cL_law 445 = .ok (.aload_n 0, 1) := zdL_law_413.2.2.2.2.2.2.2.2.2.2.2.2.2.2.2.2.2.2.2.2.2.1
theorem dL_law_446 : decode cL_law 446 = .ok (.iload 4, 2) := zdL_law_413.2.2.2.2.2.2.2.2.2.2.2.2.2.2.2.2.2.2.2.2.2.2.1
theorem dL_law_448 : decode cL_law 448 = .ok (.iconst 1, 1) := zdL_law_413.2.2.2.2.2.2.2.2.2.2.2.2.2.2.2.2.2.2.2.2.2.2.2.1
theorem dL_law_449 : decode cL_law 449 = .ok (.iadd, 1) := zdL_law_413.2.2.2.2.2.2.2.2.2.2.2.2.2.2.2.2.2.2.2.2.2.2.2.2.1
theorem dL_law_450 : decode cL_law 450 = .ok (.iaload, 1) := zdL_law_413.2.2.2.2.2.2.2.2.2.2.2.2.2.2.2.2.2.2.2.2.2.2.2.2.2.1
theorem dL_law_451 : decode cL_law 451 = .ok (.invokevirtual 83, 3) := zdL_law_413.2.2.2.2.2.2.2.2.2.2.2.2.2.2.2.2.2.2.2.2.2.2.2.2.2.2.1
theorem dL_law_454 : decode cL_law 454 = .ok (.istore 6, 2) := zdL_law_413.2.2.2.2.2.2.2.2.2.2.2.2.2.2.2.2.2.2.2.2.2.2.2.2.2.2.2.1
theorem dL_law_456 : decode cL_law 456 = .ok (.aload_n 2, 1) := zdL_law_413.2.2.2.2.2.2.2.2.2.2.2.2.2.2.2.2.2.2.2.2.2.2.2.2.2.2.2.2.1
theorem dL_law_457 : decode cL_law 457 = .ok (.invokevirtual 63, 3) := zdL_law_413.2.2.2.2.2.2.2.2.2.2.2.2.2.2.2.2.2.2.2.2.2.2.2.2.2.2.2.2.2.1
set_option maxRecDepth 20000 in
theorem zdL_law_460 : dAll cL_law [(460, .iload 5, 2), (462, .if_icmp .eq 5, 3), (465, .iconst 0, 1), (466, .ireturn, 1), (467, .iload 5, 2), (469, .ifCond .ne 15, 3), (472, .aload_n 3, 1), (473, .iconst 0, 1), (474, .laload, 1), (475, .iload 6, 2), (477, .i2l, 1), (478, .lcmp, 1), (479, .ifCond .eq 5, 3), (482, .iconst 0, 1), (483, .ireturn, 1), (484, .goto 333, 3), (487, .aload_n 1, 1), (488, .aload_n 0, 1), (489, .iload 4, 2), (491, .iconst 1, 1), (492, .iadd, 1), (493, .iaload, 1), (494, .aload_n 0, 1), (495, .iload 4, 2), (497, .iconst 2, 1), (498, .iadd, 1), (499, .iaload, 1), (500, .aload_n 0, 1), (501, .iload 4, 2), (503, .iconst 3, 1)] := dAll_of (by decide +kernel)
theorem dL_law_460 : decode cL_law 460 = .ok (.iload 5, 2) := zdL_law_460.1
theorem dL_law_462 : decode cL_law 462 = .ok (.if_icmp .eq 5, 3) := zdL_law_460.2.1
theorem dL_law_465 : decode cL_law 465 = .ok (.iconst 0, 1) := zdL_law_460.2.2.1
theorem dL_law_466 : decode cL_law 466 = .ok (.ireturn, 1) := zdL_law_460.2.2.2.1
theorem dL_law_467 : decode cL_law 467 = .ok (.iload 5, 2) := zdL_law_460.2.2.2.2.1
theorem dL_law_469 : decode cL_law 469 = .ok (.ifCond .ne 15, 3) := zdL_law_460.2.2.2.2.2.1
theorem dL_law_472 : decode cL_law 472 = .ok (.aload_n 3, 1) := zdL_law_460.2.2.2.2.2.2.1
theorem dL_law_473 : decode cL_law 473 = .ok (.iconst 0, 1) := zdL_law_460.2.2.2.2.2.2.2.1
theorem dL_law_474 : decode cL_law 474 = .ok (.laload, 1) := zdL_law_460.2.2.2.2.2.2.2.2.1
theorem dL_law_475 : decode cL_law 475 = .ok (.iload 6, 2) := zdL_law_460.2.2.2.2.2.2.2.2.2.1
theorem dL_law_477 : decode cL_law 477 = .ok (.i2l, 1) := zdL_law_460.2.2.2.2.2.2.2.2.2.2.1
theorem dL_law_478 : decode cL_law 478 = .ok (.lcmp, 1) := zdL_law_460.2.2.2.2.2.2.2.2.2.2.2.1
theorem dL_law_479 : decode cL_law 479 = .ok (.ifCond .eq 5, 3) := zdL_law_460.2.2.2.2.2.2.2.2.2.2.2.2.1
theorem dL_law_482 : decode cL_law 482 = .ok (.iconst 0, 1) := zdL_law_460.2.2.2.2.2.2.2.2.2.2.2.2.2.1
theorem dL_law_483 : decode cL_law 483 = .ok (.ireturn, 1) := zdL_law_460.2.2.2.2.2.2.2.2.2.2.2.2.2.2.1
theorem dL_law_484 : decode cL_law 484 = .ok (.goto 333, 3) := zdL_law_460.2.2.2.2.2.2.2.2.2.2.2.2.2.2.2.1
theorem dL_law_487 : decode cL_law 487 = .ok (.aload_n 1, 1) := zdL_law_460.2.2.2.2.2.2.2.2.2.2.2.2.2.2.2.2.1
theorem dL_law_488 : decode cL_law 488 = .ok (.aload_n 0, 1) := zdL_law_460.2.2.2.2.2.2.2.2.2.2.2.2.2.2.2.2.2.1
theorem dL_law_489 : decode cL_law 489 = .ok (.iload 4, 2) := zdL_law_460.2.2.2.2.2.2.2.2.2.2.2.2.2.2.2.2.2.2.1
theorem dL_law_491 : decode cL_law 491 = .ok (.iconst 1, 1) := zdL_law_460.2.2.2.2.2.2.2.2.2.2.2.2.2.2.2.2.2.2.2.1
theorem dL_law_492 : decode cL_law 492 = .ok (.iadd, 1) := zdL_law_460.2.2.2.2.2.2.2.2.2.2.2.2.2.2.2.2.2.2.2.2.1
theorem dL_law_493 : decode cL_law 493 = .ok (.iaload, 1) := zdL_law_460.2.2.2.2.2.2.2.2.2.2.2.2.2.2.2.2.2.2.2.2.2.1
theorem dL_law_494 : decode cL_law 494 = .ok (.aload_n 0, 1) := zdL_law_460.2.2.2.2.2.2.2.2.2.2.2.2.2.2.2.2.2.2.2.2.2.2.1
theorem dL_law_495 : decode cL_law 495 = .ok (.iload 4, 2) := zdL_law_460.2.2.2.2.2.2.2.2.2.2.2.2.2.2.2.2.2.2.2.2.2.2.2.1
theorem dL_law_497 : decode cL_law 497 = .ok (.iconst 2, 1) := zdL_law_460.2.2.2.2.2.2.2.2.2.2.2.2.2.2.2.2.2.2.2.2.2.2.2.2.1
theorem dL_law_498 : decode cL_law 498 = .ok (.iadd, 1) := zdL_law_460.2.2.2.2.2.2.2.2.2.2.2.2.2.2.2.2.2.2.2.2.2.2.2.2.2.1
theorem dL_law_499 : decode cL_law 499 = .ok (.iaload, 1) := zdL_law_460.2.2.2.2.2.2.2.2.2.2.2.2.2.2.2.2.2.2.2.2.2.2.2.2.2.2.1
theorem dL_law_500 : decode cL_law 500 = .ok (.aload_n 0, 1) := zdL_law_460.2.2.2.2.2.2.2.2.2.2.2.2.2.2.2.2.2.2.2.2.2.2.2.2.2.2.2.1
theorem dL_law_501 : decode cL_law 501 = .ok (.iload 4, 2) := zdL_law_460.2.2.2.2.2.2.2.2.2.2.2.2.2.2.2.2.2.2.2.2.2.2.2.2.2.2.2.2.1
theorem dL_law_503 : decode cL_law 503 = .ok (.iconst 3, 1) := zdL_law_460.2.2.2.2.2.2.2.2.2.2.2.2.2.2.2.2.2.2.2.2.2.2.2.2.2.2.2.2.2.1
set_option maxRecDepth 20000 in
theorem zdL_law_504 : dAll cL_law [(504, .iadd, 1), (505, .iaload, 1), (506, .aload_n 0, 1), (507, .iload 4, 2), (509, .iconst 4, 1), (510, .iadd, 1), (511, .iaload, 1), (512, .aload_n 3, 1), (513, .invokestatic 84, 3), (516, .istore 5, 2), (518, .aload_n 2, 1), (519, .aload_n 0, 1), (520, .iload 4, 2), (522, .iconst 1, 1), (523, .iadd, 1), (524, .iaload, 1), (525, .aload_n 0, 1), (526, .iload 4, 2), (528, .iconst 2, 1), (529, .iadd, 1), (530, .iaload, 1), (531, .aload_n 0, 1), (532, .iload 4, 2), (534, .iconst 3, 1), (535, .iadd, 1), (536, .iaload, 1), (537, .aload_n 0, 1), (538, .iload 4, 2), (540, .iconst 4, 1), (541, .iadd, 1)] := dAll_of (by decide +kernel)
theorem dL_law_504 : decode cL_law 504 = .ok (.iadd, 1) := zdL_law_504.1
theorem dL_law_505 : decode cL_law 505 = .ok (.iaload, 1) := zdL_law_504.2.1
theorem dL_law_506 : decode cL_law 506 = .ok (.aload_n 0, 1) := zdL_law_504.2.2.1
theorem dL_law_507 : decode cL_law 507 = .ok (.iload 4, 2) := zdL_law_504.2.2.2.1
theorem dL_law_509 : decode cL_law 509 = .ok (.iconst 4, 1) := zdL_law_504.2.2.2.2.1
theorem dL_law_510 : decode cL_law 510 = .ok (.iadd, 1) := zdL_law_504.2.2.2.2.2.1
theorem dL_law_511 : decode cL_law 511 = .ok (.iaload, 1) := zdL_law_504.2.2.2.2.2.2.1
theorem dL_law_512 : decode cL_law 512 = .ok (.aload_n 3, 1) := zdL_law_504.2.2.2.2.2.2.2.1
theorem dL_law_513 : decode cL_law 513 = .ok (.invokestatic 84, 3) := zdL_law_504.2.2.2.2.2.2.2.2.1
theorem dL_law_516 : decode cL_law 516 = .ok (.istore 5, 2) := zdL_law_504.2.2.2.2.2.2.2.2.2.1
theorem dL_law_518 : decode cL_law 518 = .ok (.aload_n 2, 1) := zdL_law_504.2.2.2.2.2.2.2.2.2.2.1
theorem dL_law_519 : decode cL_law 519 = .ok (.aload_n 0, 1) := zdL_law_504.2.2.2.2.2.2.2.2.2.2.2.1
theorem dL_law_520 : decode cL_law 520 = .ok (.iload 4, 2) := zdL_law_504.2.2.2.2.2.2.2.2.2.2.2.2.1
theorem dL_law_522 : decode cL_law 522 = .ok (.iconst 1, 1) := zdL_law_504.2.2.2.2.2.2.2.2.2.2.2.2.2.1
theorem dL_law_523 : decode cL_law 523 = .ok (.iadd, 1) := zdL_law_504.2.2.2.2.2.2.2.2.2.2.2.2.2.2.1
theorem dL_law_524 : decode cL_law 524 = .ok (.iaload, 1) := zdL_law_504.2.2.2.2.2.2.2.2.2.2.2.2.2.2.2.1
theorem dL_law_525 : decode cL_law 525 = .ok (.aload_n 0, 1) := zdL_law_504.2.2.2.2.2.2.2.2.2.2.2.2.2.2.2.2.1
theorem dL_law_526 : decode cL_law 526 = .ok (.iload 4, 2) := zdL_law_504.2.2.2.2.2.2.2.2.2.2.2.2.2.2.2.2.2.1
theorem dL_law_528 : decode cL_law 528 = .ok (.iconst 2, 1) := zdL_law_504.2.2.2.2.2.2.2.2.2.2.2.2.2.2.2.2.2.2.1
theorem dL_law_529 : decode cL_law 529 = .ok (.iadd, 1) := zdL_law_504.2.2.2.2.2.2.2.2.2.2.2.2.2.2.2.2.2.2.2.1
theorem dL_law_530 : decode cL_law 530 = .ok (.iaload, 1) := zdL_law_504.2.2.2.2.2.2.2.2.2.2.2.2.2.2.2.2.2.2.2.2.1
theorem dL_law_531 : decode cL_law 531 = .ok (.aload_n 0, 1) := zdL_law_504.2.2.2.2.2.2.2.2.2.2.2.2.2.2.2.2.2.2.2.2.2.1
theorem dL_law_532 : decode cL_law 532 = .ok (.iload 4, 2) := zdL_law_504.2.2.2.2.2.2.2.2.2.2.2.2.2.2.2.2.2.2.2.2.2.2.1
theorem dL_law_534 : decode cL_law 534 = .ok (.iconst 3, 1) := zdL_law_504.2.2.2.2.2.2.2.2.2.2.2.2.2.2.2.2.2.2.2.2.2.2.2.1
theorem dL_law_535 : decode cL_law 535 = .ok (.iadd, 1) := zdL_law_504.2.2.2.2.2.2.2.2.2.2.2.2.2.2.2.2.2.2.2.2.2.2.2.2.1
theorem dL_law_536 : decode cL_law 536 = .ok (.iaload, 1) := zdL_law_504.2.2.2.2.2.2.2.2.2.2.2.2.2.2.2.2.2.2.2.2.2.2.2.2.2.1
theorem dL_law_537 : decode cL_law 537 = .ok (.aload_n 0, 1) := zdL_law_504.2.2.2.2.2.2.2.2.2.2.2.2.2.2.2.2.2.2.2.2.2.2.2.2.2.2.1
theorem dL_law_538 : decode cL_law 538 = .ok (.iload 4, 2) := zdL_law_504.2.2.2.2.2.2.2.2.2.2.2.2.2.2.2.2.2.2.2.2.2.2.2.2.2.2.2.1
theorem dL_law_540 : decode cL_law 540 = .ok (.iconst 4, 1) := zdL_law_504.2.2.2.2.2.2.2.2.2.2.2.2.2.2.2.2.2.2.2.2.2.2.2.2.2.2.2.2.1
theorem dL_law_541 : decode cL_law 541 = .ok (.iadd, 1) := zdL_law_504.2.2.2.2.2.2.2.2.2.2.2.2.2.2.2.2.2.2.2.2.2.2.2.2.2.2.2.2.2.1
set_option maxRecDepth 20000 in
theorem zdL_law_542 : dAll cL_law [(542, .iaload, 1), (543, .invokevirtual 87, 3), (546, .istore 6, 2), (548, .aload_n 2, 1), (549, .invokevirtual 63, 3), (552, .iload 5, 2), (554, .if_icmp .eq 5, 3), (557, .iconst 0, 1), (558, .ireturn, 1), (559, .iload 5, 2), (561, .ifCond .ne 15, 3), (564, .aload_n 3, 1), (565, .iconst 0, 1), (566, .laload, 1), (567, .iload 6, 2), (569, .i2l, 1), (570, .lcmp, 1), (571, .ifCond .eq 5, 3), (574, .iconst 0, 1), (575, .ireturn, 1), (576, .goto 241, 3), (579, .aload_n 1, 1), (580, .invokevirtual 88, 3), (583, .aload_n 2, 1), (584, .invokevirtual 91, 3), (587, .if_icmp .eq 230, 3), (590, .iconst 0, 1), (591, .ireturn, 1), (592, .aload_n 1, 1), (593, .aload_n 0, 1)] := dAll_of (by decide +kernel)
theorem dL_law_542 : decode cL_law 542 = .ok (.iaload, 1) := zdL_law_542.1
theorem dL_law_543 : decode cL_law 543 = .ok (.invokevirtual 87, 3) := zdL_law_542.2.1
theorem dL_law_546 : decode cL_law 546 = .ok (.istore 6, 2) := zdL_law_542.2.2.1
theorem dL_law_548 : decode cL_law 548 = .ok (.aload_n 2, 1) := zdL_law_542.2.2.2.1
theorem dL_law_549 : decode cL_law 549 = .ok (.invokevirtual 63, 3) := zdL_law_542.2.2.2.2.1
theorem dL_law_552 : decode cL_law 552 = .ok (.iload 5, 2) := zdL_law_542.2.2.2.2.2.1
theorem dL_law_554 : decode cL_law 554 = .ok (.if_icmp .eq 5, 3) := zdL_law_542.2.2.2.2.2.2.1
theorem dL_law_557 : decode cL_law 557 = .ok (.iconst 0, 1) := zdL_law_542.2.2.2.2.2.2.2.1
theorem dL_law_558 : decode cL_law 558 = .ok (.ireturn, 1) := zdL_law_542.2.2.2.2.2.2.2.2.1
theorem dL_law_559 : decode cL_law 559 = .ok (.iload 5, 2) := zdL_law_542.2.2.2.2.2.2.2.2.2.1
theorem dL_law_561 : decode cL_law 561 = .ok (.ifCond .ne 15, 3) := zdL_law_542.2.2.2.2.2.2.2.2.2.2.1
theorem dL_law_564 : decode cL_law 564 = .ok (.aload_n 3, 1) := zdL_law_542.2.2.2.2.2.2.2.2.2.2.2.1
theorem dL_law_565 : decode cL_law 565 = .ok (.iconst 0, 1) := zdL_law_542.2.2.2.2.2.2.2.2.2.2.2.2.1
theorem dL_law_566 : decode cL_law 566 = .ok (.laload, 1) := zdL_law_542.2.2.2.2.2.2.2.2.2.2.2.2.2.1
theorem dL_law_567 : decode cL_law 567 = .ok (.iload 6, 2) := zdL_law_542.2.2.2.2.2.2.2.2.2.2.2.2.2.2.1
theorem dL_law_569 : decode cL_law 569 = .ok (.i2l, 1) := zdL_law_542.2.2.2.2.2.2.2.2.2.2.2.2.2.2.2.1
theorem dL_law_570 : decode cL_law 570 = .ok (.lcmp, 1) := zdL_law_542.2.2.2.2.2.2.2.2.2.2.2.2.2.2.2.2.1
theorem dL_law_571 : decode cL_law 571 = .ok (.ifCond .eq 5, 3) := zdL_law_542.2.2.2.2.2.2.2.2.2.2.2.2.2.2.2.2.2.1
theorem dL_law_574 : decode cL_law 574 = .ok (.iconst 0, 1) := zdL_law_542.2.2.2.2.2.2.2.2.2.2.2.2.2.2.2.2.2.2.1
theorem dL_law_575 : decode cL_law 575 = .ok (.ireturn, 1) := zdL_law_542.2.2.2.2.2.2.2.2.2.2.2.2.2.2.2.2.2.2.2.1
theorem dL_law_576 : decode cL_law 576 = .ok (.goto 241, 3) := zdL_law_542.2.2.2.2.2.2.2.2.2.2.2.2.2.2.2.2.2.2.2.2.1
theorem dL_law_579 : decode cL_law 579 = .ok (.aload_n 1, 1) := zdL_law_542.2.2.2.2.2.2.2.2.2.2.2.2.2.2.2.2.2.2.2.2.2.1
theorem dL_law_580 : decode cL_law 580 = .ok (.invokevirtual 88, 3) := zdL_law_542.2.2.2.2.2.2.2.2.2.2.2.2.2.2.2.2.2.2.2.2.2.2.1
theorem dL_law_583 : decode cL_law 583 = .ok (.aload_n 2, 1) := zdL_law_542.2.2.2.2.2.2.2.2.2.2.2.2.2.2.2.2.2.2.2.2.2.2.2.1
theorem dL_law_584 : decode cL_law 584 = .ok (.invokevirtual 91, 3) := zdL_law_542.2.2.2.2.2.2.2.2.2.2.2.2.2.2.2.2.2.2.2.2.2.2.2.2.1
theorem dL_law_587 : decode cL_law 587 = .ok (.if_icmp .eq 230, 3) := zdL_law_542.2.2.2.2.2.2.2.2.2.2.2.2.2.2.2.2.2.2.2.2.2.2.2.2.2.1
theorem dL_law_590 : decode cL_law 590 = .ok (.iconst 0, 1) := zdL_law_542.2.2.2.2.2.2.2.2.2.2.2.2.2.2.2.2.2.2.2.2.2.2.2.2.2.2.1
theorem dL_law_591 : decode cL_law 591 = .ok (.ireturn, 1) := zdL_law_542.2.2.2.2.2.2.2.2.2.2.2.2.2.2.2.2.2.2.2.2.2.2.2.2.2.2.2.1
theorem dL_law_592 : decode cL_law 592 = .ok (.aload_n 1, 1) := zdL_law_542.2.2.2.2.2.2.2.2.2.2.2.2.2.2.2.2.2.2.2.2.2.2.2.2.2.2.2.2.1
theorem dL_law_593 : decode cL_law 593 = .ok (.aload_n 0, 1) := zdL_law_542.2.2.2.2.2.2.2.2.2.2.2.2.2.2.2.2.2.2.2.2.2.2.2.2.2.2.2.2.2.1
set_option maxRecDepth 20000 in
theorem zdL_law_594 : dAll cL_law [(594, .iload 4, 2), (596, .iconst 1, 1), (597, .iadd, 1), (598, .iaload, 1), (599, .aload_n 3, 1), (600, .invokestatic 92, 3), (603, .istore 5, 2), (605, .aload_n 2, 1), (606, .aload_n 0, 1), (607, .iload 4, 2), (609, .iconst 1, 1), (610, .iadd, 1), (611, .iaload, 1), (612, .invokevirtual 94, 3), (615, .istore 6, 2), (617, .aload_n 2, 1), (618, .invokevirtual 63, 3), (621, .iload 5, 2), (623, .if_icmp .eq 5, 3), (626, .iconst 0, 1), (627, .ireturn, 1), (628, .iload 5, 2), (630, .ifCond .ne 15, 3), (633, .aload_n 3, 1), (634, .iconst 0, 1), (635, .laload, 1), (636, .iload 6, 2), (638, .i2l, 1), (639, .lcmp, 1), (640, .ifCond .eq 5, 3)] := dAll_of (by decide +kernel)
theorem dL_law_594 : decode cL_law 594 = .ok (.iload 4, 2) := zdL_law_594.1
theorem dL_law_596 : decode cL_law 596 = .ok (.iconst 1, 1) := zdL_law_594.2.1
theorem dL_law_597 : decode cL_law 597 = .ok (.iadd, 1) := zdL_law_594.2.2.1
theorem dL_law_598 : decode cL_law 598 = .ok (.iaload, 1) := zdL_law_594.2.2.2.1
theorem dL_law_599 : decode cL_law 599 = .ok (.aload_n 3, 1) := zdL_law_594.2.2.2.2.1
theorem dL_law_600 : decode cL_law 600 = .ok (.invokestatic 92, 3) := zdL_law_594.2.2.2.2.2.1
theorem dL_law_603 : decode cL_law 603 = .ok (.istore 5, 2) := zdL_law_594.2.2.2.2.2.2.1
theorem dL_law_605 : decode cL_law 605 = .ok (.aload_n 2, 1) := zdL_law_594.2.2.2.2.2.2.2.1
theorem dL_law_606 : decode cL_law 606 = .ok (.aload_n 0, 1) := zdL_law_594.2.2.2.2.2.2.2.2.1
theorem dL_law_607 : decode cL_law 607 = .ok (.iload 4, 2) := zdL_law_594.2.2.2.2.2.2.2.2.2.1
theorem dL_law_609 : decode cL_law 609 = .ok (.iconst 1, 1) := zdL_law_594.2.2.2.2.2.2.2.2.2.2.1
theorem dL_law_610 : decode cL_law 610 = .ok (.iadd, 1) := zdL_law_594.2.2.2.2.2.2.2.2.2.2.2.1
theorem dL_law_611 : decode cL_law 611 = .ok (.iaload, 1) := zdL_law_594.2.2.2.2.2.2.2.2.2.2.2.2.1
theorem dL_law_612 : decode cL_law 612 = .ok (.invokevirtual 94, 3) := zdL_law_594.2.2.2.2.2.2.2.2.2.2.2.2.2.1
theorem dL_law_615 : decode cL_law 615 = .ok (.istore 6, 2) := zdL_law_594.2.2.2.2.2.2.2.2.2.2.2.2.2.2.1
theorem dL_law_617 : decode cL_law 617 = .ok (.aload_n 2, 1) := zdL_law_594.2.2.2.2.2.2.2.2.2.2.2.2.2.2.2.1
theorem dL_law_618 : decode cL_law 618 = .ok (.invokevirtual 63, 3) := zdL_law_594.2.2.2.2.2.2.2.2.2.2.2.2.2.2.2.2.1
theorem dL_law_621 : decode cL_law 621 = .ok (.iload 5, 2) := zdL_law_594.2.2.2.2.2.2.2.2.2.2.2.2.2.2.2.2.2.1
theorem dL_law_623 : decode cL_law 623 = .ok (.if_icmp .eq 5, 3) := zdL_law_594.2.2.2.2.2.2.2.2.2.2.2.2.2.2.2.2.2.2.1
theorem dL_law_626 : decode cL_law 626 = .ok (.iconst 0, 1) := zdL_law_594.2.2.2.2.2.2.2.2.2.2.2.2.2.2.2.2.2.2.2.1
theorem dL_law_627 : decode cL_law 627 = .ok (.ireturn, 1) := zdL_law_594.2.2.2.2.2.2.2.2.2.2.2.2.2.2.2.2.2.2.2.2.1
theorem dL_law_628 : decode cL_law 628 = .ok (.iload 5, 2) := zdL_law_594.2.2.2.2.2.2.2.2.2.2.2.2.2.2.2.2.2.2.2.2.2.1
theorem dL_law_630 : decode cL_law 630 = .ok (.ifCond .ne 15, 3) := zdL_law_594.2.2.2.2.2.2.2.2.2.2.2.2.2.2.2.2.2.2.2.2.2.2.1
theorem dL_law_633 : decode cL_law 633 = .ok (.aload_n 3, 1) := zdL_law_594.2.2.2.2.2.2.2.2.2.2.2.2.2.2.2.2.2.2.2.2.2.2.2.1
theorem dL_law_634 : decode cL_law 634 = .ok (.iconst 0, 1) := zdL_law_594.2.2.2.2.2.2.2.2.2.2.2.2.2.2.2.2.2.2.2.2.2.2.2.2.1
theorem dL_law_635 : decode cL_law 635 = .ok (.laload, 1) := zdL_law_594.2.2.2.2.2.2.2.2.2.2.2.2.2.2.2.2.2.2.2.2.2.2.2.2.2.1
theorem dL_law_636 : decode cL_law 636 = .ok (.iload 6, 2) := zdL_law_594.2.2.2.2.2.2.2.2.2.2.2.2.2.2.2.2.2.2.2.2.2.2.2.2.2.2.1
theorem dL_law_638 : decode cL_law 638 = .ok (.i2l, 1) := zdL_law_594.2.2.2.2.2.2.2.2.2.2.2.2.2.2.2.2.2.2.2.2.2.2.2.2.2.2.2.1
theorem dL_law_639 : decode cL_law 639 = .ok (.lcmp, 1) := zdL_law_594.2.2.2.2.2.2.2.2.2.2.2.2.2.2.2.2.2.2.2.2.2.2.2.2.2.2.2.2.1
theorem dL_law_640 : decode cL_law 640 = .ok (.ifCond .eq 5, 3) := zdL_law_594.2.2.2.2.2.2.2.2.2.2.2.2.2.2.2.2.2.2.2.2.2.2.2.2.2.2.2.2.2.1
set_option maxRecDepth 20000 in
theorem zdL_law_643 : dAll cL_law [(643, .iconst 0, 1), (644, .ireturn, 1), (645, .goto 172, 3), (648, .aload_n 1, 1), (649, .aload_n 0, 1), (650, .iload 4, 2), (652, .iconst 1, 1), (653, .iadd, 1), (654, .iaload, 1), (655, .i2l, 1), (656, .bipush 32, 2), (658, .lshl, 1), (659, .aload_n 0, 1), (660, .iload 4, 2), (662, .iconst 2, 1), (663, .iadd, 1), (664, .iaload, 1), (665, .i2l, 1), (666, .ldc2_w 95, 3), (669, .land, 1), (670, .lor, 1), (671, .aload_n 0, 1), (672, .iload 4, 2), (674, .iconst 3, 1), (675, .iadd, 1), (676, .iaload, 1), (677, .aload_n 3, 1), (678, .invokestatic 97, 3), (681, .istore 5, 2), (683, .aload_n 2, 1)] := dAll_of (by decide +kernel)
theorem dL_law_643 : decode cL_law 643 = .ok (.iconst 0, 1) := zdL_law_643.1
theorem dL_law_644 : decode cL_law 644 = .ok (.ireturn, 1) := zdL_law_643.2.1
theorem dL_law_645 : decode cL_law 645 = .ok (.goto 172, 3) := zdL_law_643.2.2.1
theorem dL_law_648 : decode cL_law 648 = .ok (.aload_n 1, 1) := zdL_law_643.2.2.2.1
theorem dL_law_649 : decode cL_law 649 = .ok (.aload_n 0, 1) := zdL_law_643.2.2.2.2.1
theorem dL_law_650 : decode cL_law 650 = .ok (.iload 4, 2) := zdL_law_643.2.2.2.2.2.1
theorem dL_law_652 : decode cL_law 652 = .ok (.iconst 1, 1) := zdL_law_643.2.2.2.2.2.2.1
theorem dL_law_653 : decode cL_law 653 = .ok (.iadd, 1) := zdL_law_643.2.2.2.2.2.2.2.1
theorem dL_law_654 : decode cL_law 654 = .ok (.iaload, 1) := zdL_law_643.2.2.2.2.2.2.2.2.1
theorem dL_law_655 : decode cL_law 655 = .ok (.i2l, 1) := zdL_law_643.2.2.2.2.2.2.2.2.2.1
theorem dL_law_656 : decode cL_law 656 = .ok (.bipush 32, 2) := zdL_law_643.2.2.2.2.2.2.2.2.2.2.1
theorem dL_law_658 : decode cL_law 658 = .ok (.lshl, 1) := zdL_law_643.2.2.2.2.2.2.2.2.2.2.2.1
theorem dL_law_659 : decode cL_law 659 = .ok (.aload_n 0, 1) := zdL_law_643.2.2.2.2.2.2.2.2.2.2.2.2.1
theorem dL_law_660 : decode cL_law 660 = .ok (.iload 4, 2) := zdL_law_643.2.2.2.2.2.2.2.2.2.2.2.2.2.1
theorem dL_law_662 : decode cL_law 662 = .ok (.iconst 2, 1) := zdL_law_643.2.2.2.2.2.2.2.2.2.2.2.2.2.2.1
theorem dL_law_663 : decode cL_law 663 = .ok (.iadd, 1) := zdL_law_643.2.2.2.2.2.2.2.2.2.2.2.2.2.2.2.1
theorem dL_law_664 : decode cL_law 664 = .ok (.iaload, 1) := zdL_law_643.2.2.2.2.2.2.2.2.2.2.2.2.2.2.2.2.1
theorem dL_law_665 : decode cL_law 665 = .ok (.i2l, 1) := zdL_law_643.2.2.2.2.2.2.2.2.2.2.2.2.2.2.2.2.2.1
theorem dL_law_666 : decode cL_law 666 = .ok (.ldc2_w 95, 3) := zdL_law_643.2.2.2.2.2.2.2.2.2.2.2.2.2.2.2.2.2.2.1
theorem dL_law_669 : decode cL_law 669 = .ok (.land, 1) := zdL_law_643.2.2.2.2.2.2.2.2.2.2.2.2.2.2.2.2.2.2.2.1
theorem dL_law_670 : decode cL_law 670 = .ok (.lor, 1) := zdL_law_643.2.2.2.2.2.2.2.2.2.2.2.2.2.2.2.2.2.2.2.2.1
theorem dL_law_671 : decode cL_law 671 = .ok (.aload_n 0, 1) := zdL_law_643.2.2.2.2.2.2.2.2.2.2.2.2.2.2.2.2.2.2.2.2.2.1
theorem dL_law_672 : decode cL_law 672 = .ok (.iload 4, 2) := zdL_law_643.2.2.2.2.2.2.2.2.2.2.2.2.2.2.2.2.2.2.2.2.2.2.1
theorem dL_law_674 : decode cL_law 674 = .ok (.iconst 3, 1) := zdL_law_643.2.2.2.2.2.2.2.2.2.2.2.2.2.2.2.2.2.2.2.2.2.2.2.1
theorem dL_law_675 : decode cL_law 675 = .ok (.iadd, 1) := zdL_law_643.2.2.2.2.2.2.2.2.2.2.2.2.2.2.2.2.2.2.2.2.2.2.2.2.1
theorem dL_law_676 : decode cL_law 676 = .ok (.iaload, 1) := zdL_law_643.2.2.2.2.2.2.2.2.2.2.2.2.2.2.2.2.2.2.2.2.2.2.2.2.2.1
theorem dL_law_677 : decode cL_law 677 = .ok (.aload_n 3, 1) := zdL_law_643.2.2.2.2.2.2.2.2.2.2.2.2.2.2.2.2.2.2.2.2.2.2.2.2.2.2.1
theorem dL_law_678 : decode cL_law 678 = .ok (.invokestatic 97, 3) := zdL_law_643.2.2.2.2.2.2.2.2.2.2.2.2.2.2.2.2.2.2.2.2.2.2.2.2.2.2.2.1
theorem dL_law_681 : decode cL_law 681 = .ok (.istore 5, 2) := zdL_law_643.2.2.2.2.2.2.2.2.2.2.2.2.2.2.2.2.2.2.2.2.2.2.2.2.2.2.2.2.1
theorem dL_law_683 : decode cL_law 683 = .ok (.aload_n 2, 1) := zdL_law_643.2.2.2.2.2.2.2.2.2.2.2.2.2.2.2.2.2.2.2.2.2.2.2.2.2.2.2.2.2.1
set_option maxRecDepth 20000 in
theorem zdL_law_684 : dAll cL_law [(684, .aload_n 0, 1), (685, .iload 4, 2), (687, .iconst 1, 1), (688, .iadd, 1), (689, .iaload, 1), (690, .i2l, 1), (691, .bipush 32, 2), (693, .lshl, 1), (694, .aload_n 0, 1), (695, .iload 4, 2), (697, .iconst 2, 1), (698, .iadd, 1), (699, .iaload, 1), (700, .i2l, 1), (701, .ldc2_w 95, 3), (704, .land, 1), (705, .lor, 1), (706, .aload_n 0, 1), (707, .iload 4, 2), (709, .iconst 3, 1), (710, .iadd, 1), (711, .iaload, 1), (712, .invokevirtual 100, 3), (715, .istore 6, 2), (717, .aload_n 2, 1), (718, .invokevirtual 63, 3), (721, .iload 5, 2), (723, .if_icmp .eq 5, 3), (726, .iconst 0, 1), (727, .ireturn, 1)] := dAll_of (by decide +kernel)
theorem dL_law_684 : decode cL_law 684 = .ok (.aload_n 0, 1) := zdL_law_684.1
theorem dL_law_685 : decode cL_law 685 = .ok (.iload 4, 2) := zdL_law_684.2.1
theorem dL_law_687 : decode cL_law 687 = .ok (.iconst 1, 1) := zdL_law_684.2.2.1
theorem dL_law_688 : decode cL_law 688 = .ok (.iadd, 1) := zdL_law_684.2.2.2.1
theorem dL_law_689 : decode cL_law 689 = .ok (.iaload, 1) := zdL_law_684.2.2.2.2.1
theorem dL_law_690 : decode cL_law 690 = .ok (.i2l, 1) := zdL_law_684.2.2.2.2.2.1
theorem dL_law_691 : decode cL_law 691 = .ok (.bipush 32, 2) := zdL_law_684.2.2.2.2.2.2.1
theorem dL_law_693 : decode cL_law 693 = .ok (.lshl, 1) := zdL_law_684.2.2.2.2.2.2.2.1
theorem dL_law_694 : decode cL_law 694 = .ok (.aload_n 0, 1) := zdL_law_684.2.2.2.2.2.2.2.2.1
theorem dL_law_695 : decode cL_law 695 = .ok (.iload 4, 2) := zdL_law_684.2.2.2.2.2.2.2.2.2.1
theorem dL_law_697 : decode cL_law 697 = .ok (.iconst 2, 1) := zdL_law_684.2.2.2.2.2.2.2.2.2.2.1
theorem dL_law_698 : decode cL_law 698 = .ok (.iadd, 1) := zdL_law_684.2.2.2.2.2.2.2.2.2.2.2.1
theorem dL_law_699 : decode cL_law 699 = .ok (.iaload, 1) := zdL_law_684.2.2.2.2.2.2.2.2.2.2.2.2.1
theorem dL_law_700 : decode cL_law 700 = .ok (.i2l, 1) := zdL_law_684.2.2.2.2.2.2.2.2.2.2.2.2.2.1
theorem dL_law_701 : decode cL_law 701 = .ok (.ldc2_w 95, 3) := zdL_law_684.2.2.2.2.2.2.2.2.2.2.2.2.2.2.1
theorem dL_law_704 : decode cL_law 704 = .ok (.land, 1) := zdL_law_684.2.2.2.2.2.2.2.2.2.2.2.2.2.2.2.1
theorem dL_law_705 : decode cL_law 705 = .ok (.lor, 1) := zdL_law_684.2.2.2.2.2.2.2.2.2.2.2.2.2.2.2.2.1
theorem dL_law_706 : decode cL_law 706 = .ok (.aload_n 0, 1) := zdL_law_684.2.2.2.2.2.2.2.2.2.2.2.2.2.2.2.2.2.1
theorem dL_law_707 : decode cL_law 707 = .ok (.iload 4, 2) := zdL_law_684.2.2.2.2.2.2.2.2.2.2.2.2.2.2.2.2.2.2.1
theorem dL_law_709 : decode cL_law 709 = .ok (.iconst 3, 1) := zdL_law_684.2.2.2.2.2.2.2.2.2.2.2.2.2.2.2.2.2.2.2.1
theorem dL_law_710 : decode cL_law 710 = .ok (.iadd, 1) := zdL_law_684.2.2.2.2.2.2.2.2.2.2.2.2.2.2.2.2.2.2.2.2.1
theorem dL_law_711 : decode cL_law 711 = .ok (.iaload, 1) := zdL_law_684.2.2.2.2.2.2.2.2.2.2.2.2.2.2.2.2.2.2.2.2.2.1
theorem dL_law_712 : decode cL_law 712 = .ok (.invokevirtual 100, 3) := zdL_law_684.2.2.2.2.2.2.2.2.2.2.2.2.2.2.2.2.2.2.2.2.2.2.1
theorem dL_law_715 : decode cL_law 715 = .ok (.istore 6, 2) := zdL_law_684.2.2.2.2.2.2.2.2.2.2.2.2.2.2.2.2.2.2.2.2.2.2.2.1
theorem dL_law_717 : decode cL_law 717 = .ok (.aload_n 2, 1) := zdL_law_684.2.2.2.2.2.2.2.2.2.2.2.2.2.2.2.2.2.2.2.2.2.2.2.2.1
theorem dL_law_718 : decode cL_law 718 = .ok (.invokevirtual 63, 3) := zdL_law_684.2.2.2.2.2.2.2.2.2.2.2.2.2.2.2.2.2.2.2.2.2.2.2.2.2.1
theorem dL_law_721 : decode cL_law 721 = .ok (.iload 5, 2) := zdL_law_684.2.2.2.2.2.2.2.2.2.2.2.2.2.2.2.2.2.2.2.2.2.2.2.2.2.2.1
theorem dL_law_723 : decode cL_law 723 = .ok (.if_icmp .eq 5, 3) := zdL_law_684.2.2.2.2.2.2.2.2.2.2.2.2.2.2.2.2.2.2.2.2.2.2.2.2.2.2.2.1
theorem dL_law_726 : decode cL_law 726 = .ok (.iconst 0, 1) := zdL_law_684.2.2.2.2.2.2.2.2.2.2.2.2.2.2.2.2.2.2.2.2.2.2.2.2.2.2.2.2.1
theorem dL_law_727 : decode cL_law 727 = .ok (.ireturn, 1) := zdL_law_684.2.2.2.2.2.2.2.2.2.2.2.2.2.2.2.2.2.2.2.2.2.2.2.2.2.2.2.2.2.1
set_option maxRecDepth 20000 in
theorem zdL_law_728 : dAll cL_law [(728, .iload 5, 2), (730, .ifCond .ne 15, 3), (733, .aload_n 3, 1), (734, .iconst 0, 1), (735, .laload, 1), (736, .iload 6, 2), (738, .i2l, 1), (739, .lcmp, 1), (740, .ifCond .eq 5, 3), (743, .iconst 0, 1), (744, .ireturn, 1), (745, .goto 72, 3), (748, .aload_n 1, 1), (749, .invokevirtual 101, 3), (752, .aload_n 2, 1), (753, .invokevirtual 104, 3), (756, .if_icmp .eq 61, 3), (759, .iconst 0, 1), (760, .ireturn, 1), (761, .aload_n 1, 1), (762, .aload_n 0, 1), (763, .iload 4, 2), (765, .iconst 1, 1), (766, .iadd, 1), (767, .iaload, 1), (768, .aload_n 3, 1), (769, .invokestatic 105, 3), (772, .istore 5, 2), (774, .aload_n 2, 1), (775, .aload_n 0, 1)] := dAll_of (by decide +kernel)
theorem dL_law_728 : decode cL_law 728 = .ok (.iload 5, 2) := zdL_law_728.1
theorem dL_law_730 : decode cL_law 730 = .ok (.ifCond .ne 15, 3) := zdL_law_728.2.1
theorem dL_law_733 : decode cL_law 733 = .ok (.aload_n 3, 1) := zdL_law_728.2.2.1
theorem dL_law_734 : decode cL_law 734 = .ok (.iconst 0, 1) := zdL_law_728.2.2.2.1
theorem dL_law_735 : decode cL_law 735 = .ok (.laload, 1) := zdL_law_728.2.2.2.2.1
theorem dL_law_736 : decode cL_law 736 = .ok (.iload 6, 2) := zdL_law_728.2.2.2.2.2.1
theorem dL_law_738 : decode cL_law 738 = .ok (.i2l, 1) := zdL_law_728.2.2.2.2.2.2.1
theorem dL_law_739 : decode cL_law 739 = .ok (.lcmp, 1) := zdL_law_728.2.2.2.2.2.2.2.1
theorem dL_law_740 : decode cL_law 740 = .ok (.ifCond .eq 5, 3) := zdL_law_728.2.2.2.2.2.2.2.2.1
theorem dL_law_743 : decode cL_law 743 = .ok (.iconst 0, 1) := zdL_law_728.2.2.2.2.2.2.2.2.2.1
theorem dL_law_744 : decode cL_law 744 = .ok (.ireturn, 1) := zdL_law_728.2.2.2.2.2.2.2.2.2.2.1
theorem dL_law_745 : decode cL_law 745 = .ok (.goto 72, 3) := zdL_law_728.2.2.2.2.2.2.2.2.2.2.2.1
theorem dL_law_748 : decode cL_law 748 = .ok (.aload_n 1, 1) := zdL_law_728.2.2.2.2.2.2.2.2.2.2.2.2.1
theorem dL_law_749 : decode cL_law 749 = .ok (.invokevirtual 101, 3) := zdL_law_728.2.2.2.2.2.2.2.2.2.2.2.2.2.1
theorem dL_law_752 : decode cL_law 752 = .ok (.aload_n 2, 1) := zdL_law_728.2.2.2.2.2.2.2.2.2.2.2.2.2.2.1
theorem dL_law_753 : decode cL_law 753 = .ok (.invokevirtual 104, 3) := zdL_law_728.2.2.2.2.2.2.2.2.2.2.2.2.2.2.2.1
theorem dL_law_756 : decode cL_law 756 = .ok (.if_icmp .eq 61, 3) := zdL_law_728.2.2.2.2.2.2.2.2.2.2.2.2.2.2.2.2.1
theorem dL_law_759 : decode cL_law 759 = .ok (.iconst 0, 1) := zdL_law_728.2.2.2.2.2.2.2.2.2.2.2.2.2.2.2.2.2.1
theorem dL_law_760 : decode cL_law 760 = .ok (.ireturn, 1) := zdL_law_728.2.2.2.2.2.2.2.2.2.2.2.2.2.2.2.2.2.2.1
theorem dL_law_761 : decode cL_law 761 = .ok (.aload_n 1, 1) := zdL_law_728.2.2.2.2.2.2.2.2.2.2.2.2.2.2.2.2.2.2.2.1
theorem dL_law_762 : decode cL_law 762 = .ok (.aload_n 0, 1) := zdL_law_728.2.2.2.2.2.2.2.2.2.2.2.2.2.2.2.2.2.2.2.2.1
theorem dL_law_763 : decode cL_law 763 = .ok (.iload 4, 2) := zdL_law_728.2.2.2.2.2.2.2.2.2.2.2.2.2.2.2.2.2.2.2.2.2.1
theorem dL_law_765 : decode cL_law 765 = .ok (.iconst 1, 1) := zdL_law_728.2.2.2.2.2.2.2.2.2.2.2.2.2.2.2.2.2.2.2.2.2.2.1
theorem dL_law_766 : decode cL_law 766 = .ok (.iadd, 1) := zdL_law_728.2.2.2.2.2.2.2.2.2.2.2.2.2.2.2.2.2.2.2.2.2.2.2.1
theorem dL_law_767 : decode cL_law 767 = .ok (.iaload, 1) := zdL_law_728.2.2.2.2.2.2.2.2.2.2.2.2.2.2.2.2.2.2.2.2.2.2.2.2.1
theorem dL_law_768 : decode cL_law 768 = .ok (.aload_n 3, 1) := zdL_law_728.2.2.2.2.2.2.2.2.2.2.2.2.2.2.2.2.2.2.2.2.2.2.2.2.2.1
theorem dL_law_769 : decode cL_law 769 = .ok (.invokestatic 105, 3) := zdL_law_728.2.2.2.2.2.2.2.2.2.2.2.2.2.2.2.2.2.2.2.2.2.2.2.2.2.2.1
theorem dL_law_772 : decode cL_law 772 = .ok (.istore 5, 2) := zdL_law_728.2.2.2.2.2.2.2.2.2.2.2.2.2.2.2.2.2.2.2.2.2.2.2.2.2.2.2.1
theorem dL_law_774 : decode cL_law 774 = .ok (.aload_n 2, 1) := zdL_law_728.2.2.2.2.2.2.2.2.2.2.2.2.2.2.2.2.2.2.2.2.2.2.2.2.2.2.2.2.1
theorem dL_law_775 : decode cL_law 775 = .ok (.aload_n 0, 1) := zdL_law_728.2.2.2.2.2.2.2.2.2.2.2.2.2.2.2.2.2.2.2.2.2.2.2.2.2.2.2.2.2.1
set_option maxRecDepth 20000 in
theorem zdL_law_776 : dAll cL_law [(776, .iload 4, 2), (778, .iconst 1, 1), (779, .iadd, 1), (780, .iaload, 1), (781, .invokevirtual 107, 3), (784, .istore 6, 2), (786, .aload_n 2, 1), (787, .invokevirtual 63, 3), (790, .iload 5, 2), (792, .if_icmp .eq 5, 3), (795, .iconst 0, 1), (796, .ireturn, 1), (797, .iload 5, 2), (799, .ifCond .ne 15, 3), (802, .aload_n 3, 1), (803, .iconst 0, 1), (804, .laload, 1), (805, .iload 6, 2), (807, .i2l, 1), (808, .lcmp, 1), (809, .ifCond .eq 5, 3), (812, .iconst 0, 1), (813, .ireturn, 1), (814, .goto 3, 3), (817, .iinc 4 5, 3), (820, .goto (-797), 3), (823, .iconst 1, 1), (824, .ireturn, 1)] := dAll_of (by decide +kernel)
theorem dL_law_776 : decode cL_law 776 = .ok (.iload 4, 2) := zdL_law_776.1
theorem dL_law_778 : decode cL_law 778 = .ok (.iconst 1, 1) := zdL_law_776.2.1
theorem dL_law_779 : decode cL_law 779 = .ok (.iadd, 1) := zdL_law_776.2.2.1
theorem dL_law_780 : decode cL_law 780 = .ok (.iaload, 1) := zdL_law_776.2.2.2.1
theorem dL_law_781 : decode cL_law 781 = .ok (.invokevirtual 107, 3) := zdL_law_776.2.2.2.2.1
theorem dL_law_784 : decode cL_law 784 = .ok (.istore 6, 2) := zdL_law_776.2.2.2.2.2.1
theorem dL_law_786 : decode cL_law 786 = .ok (.aload_n 2, 1) := zdL_law_776.2.2.2.2.2.2.1
theorem dL_law_787 : decode cL_law 787 = .ok (.invokevirtual 63, 3) := zdL_law_776.2.2.2.2.2.2.2.1
theorem dL_law_790 : decode cL_law 790 = .ok (.iload 5, 2) := zdL_law_776.2.2.2.2.2.2.2.2.1
theorem dL_law_792 : decode cL_law 792 = .ok (.if_icmp .eq 5, 3) := zdL_law_776.2.2.2.2.2.2.2.2.2.1
theorem dL_law_795 : decode cL_law 795 = .ok (.iconst 0, 1) := zdL_law_776.2.2.2.2.2.2.2.2.2.2.1
theorem dL_law_796 : decode cL_law 796 = .ok (.ireturn, 1) := zdL_law_776.2.2.2.2.2.2.2.2.2.2.2.1
theorem dL_law_797 : decode cL_law 797 = .ok (.iload 5, 2) := zdL_law_776.2.2.2.2.2.2.2.2.2.2.2.2.1
theorem dL_law_799 : decode cL_law 799 = .ok (.ifCond .ne 15, 3) := zdL_law_776.2.2.2.2.2.2.2.2.2.2.2.2.2.1
theorem dL_law_802 : decode cL_law 802 = .ok (.aload_n 3, 1) := zdL_law_776.2.2.2.2.2.2.2.2.2.2.2.2.2.2.1
theorem dL_law_803 : decode cL_law 803 = .ok (.iconst 0, 1) := zdL_law_776.2.2.2.2.2.2.2.2.2.2.2.2.2.2.2.1
theorem dL_law_804 : decode cL_law 804 = .ok (.laload, 1) := zdL_law_776.2.2.2.2.2.2.2.2.2.2.2.2.2.2.2.2.1
theorem dL_law_805 : decode cL_law 805 = .ok (.iload 6, 2) := zdL_law_776.2.2.2.2.2.2.2.2.2.2.2.2.2.2.2.2.2.1
theorem dL_law_807 : decode cL_law 807 = .ok (.i2l, 1) := zdL_law_776.2.2.2.2.2.2.2.2.2.2.2.2.2.2.2.2.2.2.1
theorem dL_law_808 : decode cL_law 808 = .ok (.lcmp, 1) := zdL_law_776.2.2.2.2.2.2.2.2.2.2.2.2.2.2.2.2.2.2.2.1
theorem dL_law_809 : decode cL_law 809 = .ok (.ifCond .eq 5, 3) := zdL_law_776.2.2.2.2.2.2.2.2.2.2.2.2.2.2.2.2.2.2.2.2.1
theorem dL_law_812 : decode cL_law 812 = .ok (.iconst 0, 1) := zdL_law_776.2.2.2.2.2.2.2.2.2.2.2.2.2.2.2.2.2.2.2.2.2.1
theorem dL_law_813 : decode cL_law 813 = .ok (.ireturn, 1) := zdL_law_776.2.2.2.2.2.2.2.2.2.2.2.2.2.2.2.2.2.2.2.2.2.2.1
theorem dL_law_814 : decode cL_law 814 = .ok (.goto 3, 3) := zdL_law_776.2.2.2.2.2.2.2.2.2.2.2.2.2.2.2.2.2.2.2.2.2.2.2.1
theorem dL_law_817 : decode cL_law 817 = .ok (.iinc 4 5, 3) := zdL_law_776.2.2.2.2.2.2.2.2.2.2.2.2.2.2.2.2.2.2.2.2.2.2.2.2.1
theorem dL_law_820 : decode cL_law 820 = .ok (.goto (-797), 3) := zdL_law_776.2.2.2.2.2.2.2.2.2.2.2.2.2.2.2.2.2.2.2.2.2.2.2.2.2.1
theorem dL_law_823 : decode cL_law 823 = .ok (.iconst 1, 1) := zdL_law_776.2.2.2.2.2.2.2.2.2.2.2.2.2.2.2.2.2.2.2.2.2.2.2.2.2.2.1
theorem dL_law_824 : decode cL_law 824 = .ok (.ireturn, 1) := zdL_law_776.2.2.2.2.2.2.2.2.2.2.2.2.2.2.2.2.2.2.2.2.2.2.2.2.2.2.2.1
