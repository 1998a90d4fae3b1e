/-! 67.a.rows -/
section
set_option maxRecDepth 100000 in
theorem dA410_cL_law : kDec cL_law [(476, .aload_n 1, 1), (477, .aload_n 0, 1), (478, .iload 4, 2), (480, .iconst 1, 1), (481, .iadd, 1), (482, .iaload, 1), (483, .aload_n 0, 1), (484, .iload 4, 2), (486, .iconst 2, 1), (487, .iadd, 1), (488, .iaload, 1), (489, .invokevirtual 60, 3), (492, .pop, 1), (493, .aload_n 2, 1), (494, .aload_n 0, 1), (495, .iload 4, 2), (497, .iconst 1, 1), (498, .iadd, 1), (499, .iaload, 1), (500, .aload_n 0, 1), (501, .iload 4, 2), (503, .iconst 2, 1), (504, .iadd, 1), (505, .iaload, 1)] = true := by decide +kernel
theorem dL_law_476 : decode cL_law 476 = .ok (.aload_n 1, 1) := kDec_at dA410_cL_law 0 rfl
theorem dL_law_477 : decode cL_law 477 = .ok (.aload_n 0, 1) := kDec_at dA410_cL_law 1 rfl
theorem dL_law_478 : decode cL_law 478 = .ok (.iload 4, 2) := kDec_at dA410_cL_law 2 rfl
theorem dL_law_480 : decode cL_law 480 = .ok (.iconst 1, 1) := kDec_at dA410_cL_law 3 rfl
theorem dL_law_481 : decode cL_law 481 = .ok (.iadd, 1) := kDec_at dA410_cL_law 4 rfl
theorem dL_law_482 : decode cL_law 482 = .ok (.iaload, 1) := kDec_at dA410_cL_law 5 rfl
theorem dL_law_483 : decode cL_law 483 = .ok (.aload_n 0, 1) := kDec_at dA410_cL_law 6 rfl
theorem dL_law_484 : decode cL_law 484 = .ok (.iload 4, 2) := kDec_at dA410_cL_law 7 rfl
theorem dL_law_486 : decode cL_law 486 = .ok (.iconst 2, 1) := kDec_at dA410_cL_law 8 rfl
theorem dL_law_487 : decode cL_law 487 = .ok (.iadd, 1) := kDec_at dA410_cL_law 9 rfl
theorem dL_law_488 : decode cL_law 488 = .ok (.iaload, 1) := kDec_at dA410_cL_law 10 rfl
theorem dL_law_489 : decode cL_law 489 = .ok (.invokevirtual 60, 3) := kDec_at dA410_cL_law 11 rfl
theorem dL_law_492 : decode cL_law 492 = .ok (.pop, 1) := kDec_at dA410_cL_law 12 rfl
theorem dL_law_493 : decode cL_law 493 = .ok (.aload_n 2, 1) := kDec_at dA410_cL_law 13 rfl
theorem dL_law_494 : decode cL_law 494 = .ok (.aload_n 0, 1) := kDec_at dA410_cL_law 14 rfl
theorem dL_law_495 : decode cL_law 495 = .ok (.iload 4, 2) := kDec_at dA410_cL_law 15 rfl
theorem dL_law_497 : decode cL_law 497 = .ok (.iconst 1, 1) := kDec_at dA410_cL_law 16 rfl
theorem dL_law_498 : decode cL_law 498 = .ok (.iadd, 1) := kDec_at dA410_cL_law 17 rfl
theorem dL_law_499 : decode cL_law 499 = .ok (.iaload, 1) := kDec_at dA410_cL_law 18 rfl
theorem dL_law_500 : decode cL_law 500 = .ok (.aload_n 0, 1) := kDec_at dA410_cL_law 19 rfl
theorem dL_law_501 : decode cL_law 501 = .ok (.iload 4, 2) := kDec_at dA410_cL_law 20 rfl
theorem dL_law_503 : decode cL_law 503 = .ok (.iconst 2, 1) := kDec_at dA410_cL_law 21 rfl
theorem dL_law_504 : decode cL_law 504 = .ok (.iadd, 1) := kDec_at dA410_cL_law 22 rfl
theorem dL_law_505 : decode cL_law 505 = .ok (.iaload, 1) := kDec_at dA410_cL_law 23 rfl
set_option maxRecDepth 100000 in
theorem dA411_cL_law : kDec cL_law [(506, .invokevirtual 64, 3), (509, .pop, 1), (510, .goto 512, 3), (513, .aload_n 1, 1), (514, .invokevirtual 65, 3), (517, .pop, 1), (518, .aload_n 2, 1), (519, .invokevirtual 68, 3), (522, .pop, 1), (523, .goto 499, 3), (526, .aload_n 1, 1), (527, .aload_n 0, 1), (528, .iload 4, 2), (530, .iconst 1, 1), (531, .iadd, 1), (532, .iaload, 1), (533, .aload_n 0, 1), (534, .iload 4, 2), (536, .iconst 2, 1), (537, .iadd, 1), (538, .iaload, 1), (539, .invokevirtual 69, 3), (542, .pop, 1), (543, .aload_n 2, 1)] = true := by decide +kernel
theorem dL_law_506 : decode cL_law 506 = .ok (.invokevirtual 64, 3) := kDec_at dA411_cL_law 0 rfl
theorem dL_law_509 : decode cL_law 509 = .ok (.pop, 1) := kDec_at dA411_cL_law 1 rfl
theorem dL_law_510 : decode cL_law 510 = .ok (.goto 512, 3) := kDec_at dA411_cL_law 2 rfl
theorem dL_law_513 : decode cL_law 513 = .ok (.aload_n 1, 1) := kDec_at dA411_cL_law 3 rfl
theorem dL_law_514 : decode cL_law 514 = .ok (.invokevirtual 65, 3) := kDec_at dA411_cL_law 4 rfl
theorem dL_law_517 : decode cL_law 517 = .ok (.pop, 1) := kDec_at dA411_cL_law 5 rfl
theorem dL_law_518 : decode cL_law 518 = .ok (.aload_n 2, 1) := kDec_at dA411_cL_law 6 rfl
theorem dL_law_519 : decode cL_law 519 = .ok (.invokevirtual 68, 3) := kDec_at dA411_cL_law 7 rfl
theorem dL_law_522 : decode cL_law 522 = .ok (.pop, 1) := kDec_at dA411_cL_law 8 rfl
theorem dL_law_523 : decode cL_law 523 = .ok (.goto 499, 3) := kDec_at dA411_cL_law 9 rfl
theorem dL_law_526 : decode cL_law 526 = .ok (.aload_n 1, 1) := kDec_at dA411_cL_law 10 rfl
theorem dL_law_527 : decode cL_law 527 = .ok (.aload_n 0, 1) := kDec_at dA411_cL_law 11 rfl
theorem dL_law_528 : decode cL_law 528 = .ok (.iload 4, 2) := kDec_at dA411_cL_law 12 rfl
theorem dL_law_530 : decode cL_law 530 = .ok (.iconst 1, 1) := kDec_at dA411_cL_law 13 rfl
theorem dL_law_531 : decode cL_law 531 = .ok (.iadd, 1) := kDec_at dA411_cL_law 14 rfl
theorem dL_law_532 : decode cL_law 532 = .ok (.iaload, 1) := kDec_at dA411_cL_law 15 rfl
theorem dL_law_533 : decode cL_law 533 = .ok (.aload_n 0, 1) := kDec_at dA411_cL_law 16 rfl
theorem dL_law_534 : decode cL_law 534 = .ok (.iload 4, 2) := kDec_at dA411_cL_law 17 rfl
theorem dL_law_536 : decode cL_law 536 = .ok (.iconst 2, 1) := kDec_at dA411_cL_law 18 rfl
theorem dL_law_537 : decode cL_law 537 = .ok (.iadd, 1) := kDec_at dA411_cL_law 19 rfl
theorem dL_law_538 : decode cL_law 538 = .ok (.iaload, 1) := kDec_at dA411_cL_law 20 rfl
theorem dL_law_539 : decode cL_law 539 = .ok (.invokevirtual 69, 3) := kDec_at dA411_cL_law 21 rfl
theorem dL_law_542 : decode cL_law 542 = .ok (.pop, 1) := kDec_at dA411_cL_law 22 rfl
theorem dL_law_543 : decode cL_law 543 = .ok (.aload_n 2, 1) := kDec_at dA411_cL_law 23 rfl
set_option maxRecDepth 100000 in
theorem dA412_cL_law : kDec cL_law [(544, .aload_n 0, 1), (545, .iload 4, 2), (547, .iconst 1, 1), (548, .iadd, 1), (549, .iaload, 1), (550, .aload_n 0, 1), (551, .iload 4, 2), (553, .iconst 2, 1), (554, .iadd, 1), (555, .iaload, 1), (556, .invokevirtual 72, 3), (559, .pop, 1), (560, .goto 462, 3), (563, .aload_n 1, 1), (564, .aload_n 0, 1), (565, .iload 4, 2), (567, .iconst 1, 1), (568, .iadd, 1), (569, .iaload, 1), (570, .aload_n 0, 1), (571, .iload 4, 2), (573, .iconst 2, 1), (574, .iadd, 1), (575, .iaload, 1)] = true := by decide +kernel
theorem dL_law_544 : decode cL_law 544 = .ok (.aload_n 0, 1) := kDec_at dA412_cL_law 0 rfl
theorem dL_law_545 : decode cL_law 545 = .ok (.iload 4, 2) := kDec_at dA412_cL_law 1 rfl
theorem dL_law_547 : decode cL_law 547 = .ok (.iconst 1, 1) := kDec_at dA412_cL_law 2 rfl
theorem dL_law_548 : decode cL_law 548 = .ok (.iadd, 1) := kDec_at dA412_cL_law 3 rfl
theorem dL_law_549 : decode cL_law 549 = .ok (.iaload, 1) := kDec_at dA412_cL_law 4 rfl
theorem dL_law_550 : decode cL_law 550 = .ok (.aload_n 0, 1) := kDec_at dA412_cL_law 5 rfl
theorem dL_law_551 : decode cL_law 551 = .ok (.iload 4, 2) := kDec_at dA412_cL_law 6 rfl
theorem dL_law_553 : decode cL_law 553 = .ok (.iconst 2, 1) := kDec_at dA412_cL_law 7 rfl
theorem dL_law_554 : decode cL_law 554 = .ok (.iadd, 1) := kDec_at dA412_cL_law 8 rfl
theorem dL_law_555 : decode cL_law 555 = .ok (.iaload, 1) := kDec_at dA412_cL_law 9 rfl
theorem dL_law_556 : decode cL_law 556 = .ok (.invokevirtual 72, 3) := kDec_at dA412_cL_law 10 rfl
theorem dL_law_559 : decode cL_law 559 = .ok (.pop, 1) := kDec_at dA412_cL_law 11 rfl
theorem dL_law_560 : decode cL_law 560 = .ok (.goto 462, 3) := kDec_at dA412_cL_law 12 rfl
theorem dL_law_563 : decode cL_law 563 = .ok (.aload_n 1, 1) := kDec_at dA412_cL_law 13 rfl
theorem dL_law_564 : decode cL_law 564 = .ok (.aload_n 0, 1) := kDec_at dA412_cL_law 14 rfl
theorem dL_law_565 : decode cL_law 565 = .ok (.iload 4, 2) := kDec_at dA412_cL_law 15 rfl
theorem dL_law_567 : decode cL_law 567 = .ok (.iconst 1, 1) := kDec_at dA412_cL_law 16 rfl
theorem dL_law_568 : decode cL_law 568 = .ok (.iadd, 1) := kDec_at dA412_cL_law 17 rfl
theorem dL_law_569 : decode cL_law 569 = .ok (.iaload, 1) := kDec_at dA412_cL_law 18 rfl
theorem dL_law_570 : decode cL_law 570 = .ok (.aload_n 0, 1) := kDec_at dA412_cL_law 19 rfl
theorem dL_law_571 : decode cL_law 571 = .ok (.iload 4, 2) := kDec_at dA412_cL_law 20 rfl
theorem dL_law_573 : decode cL_law 573 = .ok (.iconst 2, 1) := kDec_at dA412_cL_law 21 rfl
theorem dL_law_574 : decode cL_law 574 = .ok (.iadd, 1) := kDec_at dA412_cL_law 22 rfl
theorem dL_law_575 : decode cL_law 575 = .ok (.iaload, 1) := kDec_at dA412_cL_law 23 rfl
set_option maxRecDepth 100000 in
theorem dA413_cL_law : kDec cL_law [(576, .invokevirtual 73, 3), (579, .pop, 1), (580, .aload_n 2, 1), (581, .aload_n 0, 1), (582, .iload 4, 2), (584, .iconst 1, 1), (585, .iadd, 1), (586, .iaload, 1), (587, .aload_n 0, 1), (588, .iload 4, 2), (590, .iconst 2, 1), (591, .iadd, 1), (592, .iaload, 1), (593, .invokevirtual 76, 3), (596, .pop, 1), (597, .goto 425, 3), (600, .aload_n 1, 1), (601, .aload_n 0, 1), (602, .iload 4, 2), (604, .iconst 1, 1), (605, .iadd, 1), (606, .iaload, 1), (607, .aload_n 0, 1), (608, .iload 4, 2)] = true := by decide +kernel
theorem dL_law_576 : decode cL_law 576 = .ok (.invokevirtual 73, 3) := kDec_at dA413_cL_law 0 rfl
theorem dL_law_579 : decode cL_law 579 = .ok (.pop, 1) := kDec_at dA413_cL_law 1 rfl
theorem dL_law_580 : decode cL_law 580 = .ok (.aload_n 2, 1) := kDec_at dA413_cL_law 2 rfl
theorem dL_law_581 : decode cL_law 581 = .ok (.aload_n 0, 1) := kDec_at dA413_cL_law 3 rfl
theorem dL_law_582 : decode cL_law 582 = .ok (.iload 4, 2) := kDec_at dA413_cL_law 4 rfl
theorem dL_law_584 : decode cL_law 584 = .ok (.iconst 1, 1) := kDec_at dA413_cL_law 5 rfl
theorem dL_law_585 : decode cL_law 585 = .ok (.iadd, 1) := kDec_at dA413_cL_law 6 rfl
theorem dL_law_586 : decode cL_law 586 = .ok (.iaload, 1) := kDec_at dA413_cL_law 7 rfl
theorem dL_law_587 : decode cL_law 587 = .ok (.aload_n 0, 1) := kDec_at dA413_cL_law 8 rfl
theorem dL_law_588 : decode cL_law 588 = .ok (.iload 4, 2) := kDec_at dA413_cL_law 9 rfl
theorem dL_law_590 : decode cL_law 590 = .ok (.iconst 2, 1) := kDec_at dA413_cL_law 10 rfl
theorem dL_law_591 : decode cL_law 591 = .ok (.iadd, 1) := kDec_at dA413_cL_law 11 rfl
theorem dL_law_592 : decode cL_law 592 = .ok (.iaload, 1) := kDec_at dA413_cL_law 12 rfl
theorem dL_law_593 : decode cL_law 593 = .ok (.invokevirtual 76, 3) := kDec_at dA413_cL_law 13 rfl
theorem dL_law_596 : decode cL_law 596 = .ok (.pop, 1) := kDec_at dA413_cL_law 14 rfl
theorem dL_law_597 : decode cL_law 597 = .ok (.goto 425, 3) := kDec_at dA413_cL_law 15 rfl
theorem dL_law_600 : decode cL_law 600 = .ok (.aload_n 1, 1) := kDec_at dA413_cL_law 16 rfl
theorem dL_law_601 : decode cL_law 601 = .ok (.aload_n 0, 1) := kDec_at dA413_cL_law 17 rfl
theorem dL_law_602 : decode cL_law 602 = .ok (.iload 4, 2) := kDec_at dA413_cL_law 18 rfl
theorem dL_law_604 : decode cL_law 604 = .ok (.iconst 1, 1) := kDec_at dA413_cL_law 19 rfl
theorem dL_law_605 : decode cL_law 605 = .ok (.iadd, 1) := kDec_at dA413_cL_law 20 rfl
theorem dL_law_606 : decode cL_law 606 = .ok (.iaload, 1) := kDec_at dA413_cL_law 21 rfl
theorem dL_law_607 : decode cL_law 607 = .ok (.aload_n 0, 1) := kDec_at dA413_cL_law 22 rfl
theorem dL_law_608 : decode cL_law 608 = .ok (.iload 4, 2) := kDec_at dA413_cL_law 23 rfl
set_option maxRecDepth 100000 in
theorem dA414_cL_law : kDec cL_law [(610, .iconst 2, 1), (611, .iadd, 1), (612, .iaload, 1), (613, .invokevirtual 77, 3), (616, .pop, 1), (617, .aload_n 2, 1), (618, .aload_n 0, 1), (619, .iload 4, 2), (621, .iconst 1, 1), (622, .iadd, 1), (623, .iaload, 1), (624, .aload_n 0, 1), (625, .iload 4, 2), (627, .iconst 2, 1), (628, .iadd, 1), (629, .iaload, 1), (630, .invokevirtual 80, 3), (633, .pop, 1), (634, .goto 388, 3), (637, .aload_n 1, 1), (638, .aload_n 0, 1), (639, .iload 4, 2), (641, .iconst 1, 1), (642, .iadd, 1)] = true := by decide +kernel
theorem dL_law_610 : decode cL_law 610 = .ok (.iconst 2, 1) := kDec_at dA414_cL_law 0 rfl
theorem dL_law_611 : decode cL_law 611 = .ok (.iadd, 1) := kDec_at dA414_cL_law 1 rfl
theorem dL_law_612 : decode cL_law 612 = .ok (.iaload, 1) := kDec_at dA414_cL_law 2 rfl
theorem dL_law_613 : decode cL_law 613 = .ok (.invokevirtual 77, 3) := kDec_at dA414_cL_law 3 rfl
theorem dL_law_616 : decode cL_law 616 = .ok (.pop, 1) := kDec_at dA414_cL_law 4 rfl
theorem dL_law_617 : decode cL_law 617 = .ok (.aload_n 2, 1) := kDec_at dA414_cL_law 5 rfl
theorem dL_law_618 : decode cL_law 618 = .ok (.aload_n 0, 1) := kDec_at dA414_cL_law 6 rfl
theorem dL_law_619 : decode cL_law 619 = .ok (.iload 4, 2) := kDec_at dA414_cL_law 7 rfl
theorem dL_law_621 : decode cL_law 621 = .ok (.iconst 1, 1) := kDec_at dA414_cL_law 8 rfl
theorem dL_law_622 : decode cL_law 622 = .ok (.iadd, 1) := kDec_at dA414_cL_law 9 rfl
theorem dL_law_623 : decode cL_law 623 = .ok (.iaload, 1) := kDec_at dA414_cL_law 10 rfl
theorem dL_law_624 : decode cL_law 624 = .ok (.aload_n 0, 1) := kDec_at dA414_cL_law 11 rfl
theorem dL_law_625 : decode cL_law 625 = .ok (.iload 4, 2) := kDec_at dA414_cL_law 12 rfl
theorem dL_law_627 : decode cL_law 627 = .ok (.iconst 2, 1) := kDec_at dA414_cL_law 13 rfl
theorem dL_law_628 : decode cL_law 628 = .ok (.iadd, 1) := kDec_at dA414_cL_law 14 rfl
theorem dL_law_629 : decode cL_law 629 = .ok (.iaload, 1) := kDec_at dA414_cL_law 15 rfl
theorem dL_law_630 : decode cL_law 630 = .ok (.invokevirtual 80, 3) := kDec_at dA414_cL_law 16 rfl
theorem dL_law_633 : decode cL_law 633 = .ok (.pop, 1) := kDec_at dA414_cL_law 17 rfl
theorem dL_law_634 : decode cL_law 634 = .ok (.goto 388, 3) := kDec_at dA414_cL_law 18 rfl
theorem dL_law_637 : decode cL_law 637 = .ok (.aload_n 1, 1) := kDec_at dA414_cL_law 19 rfl
theorem dL_law_638 : decode cL_law 638 = .ok (.aload_n 0, 1) := kDec_at dA414_cL_law 20 rfl
theorem dL_law_639 : decode cL_law 639 = .ok (.iload 4, 2) := kDec_at dA414_cL_law 21 rfl
theorem dL_law_641 : decode cL_law 641 = .ok (.iconst 1, 1) := kDec_at dA414_cL_law 22 rfl
theorem dL_law_642 : decode cL_law 642 = .ok (.iadd, 1) := kDec_at dA414_cL_law 23 rfl
set_option maxRecDepth 100000 in
theorem dA415_cL_law : kDec cL_law [(643, .iaload, 1), (644, .aload_n 0, 1), (645, .iload 4, 2), (647, .iconst 2, 1), (648, .iadd, 1), (649, .iaload, 1), (650, .invokevirtual 81, 3), (653, .pop, 1), (654, .aload_n 2, 1), (655, .aload_n 0, 1), (656, .iload 4, 2), (658, .iconst 1, 1), (659, .iadd, 1), (660, .iaload, 1), (661, .aload_n 0, 1), (662, .iload 4, 2), (664, .iconst 2, 1), (665, .iadd, 1), (666, .iaload, 1), (667, .invokevirtual 84, 3), (670, .pop, 1), (671, .goto 351, 3), (674, .aload_n 1, 1), (675, .invokevirtual 85, 3)] = true := by decide +kernel
theorem dL_law_643 : decode cL_law 643 = .ok (.iaload, 1) := kDec_at dA415_cL_law 0 rfl
theorem dL_law_644 : decode cL_law 644 = .ok (.aload_n 0, 1) := kDec_at dA415_cL_law 1 rfl
theorem dL_law_645 : decode cL_law 645 = .ok (.iload 4, 2) := kDec_at dA415_cL_law 2 rfl
theorem dL_law_647 : decode cL_law 647 = .ok (.iconst 2, 1) := kDec_at dA415_cL_law 3 rfl
theorem dL_law_648 : decode cL_law 648 = .ok (.iadd, 1) := kDec_at dA415_cL_law 4 rfl
theorem dL_law_649 : decode cL_law 649 = .ok (.iaload, 1) := kDec_at dA415_cL_law 5 rfl
theorem dL_law_650 : decode cL_law 650 = .ok (.invokevirtual 81, 3) := kDec_at dA415_cL_law 6 rfl
theorem dL_law_653 : decode cL_law 653 = .ok (.pop, 1) := kDec_at dA415_cL_law 7 rfl
theorem dL_law_654 : decode cL_law 654 = .ok (.aload_n 2, 1) := kDec_at dA415_cL_law 8 rfl
theorem dL_law_655 : decode cL_law 655 = .ok (.aload_n 0, 1) := kDec_at dA415_cL_law 9 rfl
theorem dL_law_656 : decode cL_law 656 = .ok (.iload 4, 2) := kDec_at dA415_cL_law 10 rfl
theorem dL_law_658 : decode cL_law 658 = .ok (.iconst 1, 1) := kDec_at dA415_cL_law 11 rfl
theorem dL_law_659 : decode cL_law 659 = .ok (.iadd, 1) := kDec_at dA415_cL_law 12 rfl
theorem dL_law_660 : decode cL_law 660 = .ok (.iaload, 1) := kDec_at dA415_cL_law 13 rfl
theorem dL_law_661 : decode cL_law 661 = .ok (.aload_n 0, 1) := kDec_at dA415_cL_law 14 rfl
theorem dL_law_662 : decode cL_law 662 = .ok (.iload 4, 2) := kDec_at dA415_cL_law 15 rfl
theorem dL_law_664 : decode cL_law 664 = .ok (.iconst 2, 1) := kDec_at dA415_cL_law 16 rfl
theorem dL_law_665 : decode cL_law 665 = .ok (.iadd, 1) := kDec_at dA415_cL_law 17 rfl
theorem dL_law_666 : decode cL_law 666 = .ok (.iaload, 1) := kDec_at dA415_cL_law 18 rfl
theorem dL_law_667 : decode cL_law 667 = .ok (.invokevirtual 84, 3) := kDec_at dA415_cL_law 19 rfl
theorem dL_law_670 : decode cL_law 670 = .ok (.pop, 1) := kDec_at dA415_cL_law 20 rfl
theorem dL_law_671 : decode cL_law 671 = .ok (.goto 351, 3) := kDec_at dA415_cL_law 21 rfl
theorem dL_law_674 : decode cL_law 674 = .ok (.aload_n 1, 1) := kDec_at dA415_cL_law 22 rfl
theorem dL_law_675 : decode cL_law 675 = .ok (.invokevirtual 85, 3) := kDec_at dA415_cL_law 23 rfl
set_option maxRecDepth 100000 in
theorem dA416_cL_law : kDec cL_law [(678, .pop, 1), (679, .aload_n 2, 1), (680, .invokevirtual 88, 3), (683, .pop, 1), (684, .goto 338, 3)] = true := by decide +kernel
theorem dL_law_678 : decode cL_law 678 = .ok (.pop, 1) := kDec_at dA416_cL_law 0 rfl
theorem dL_law_679 : decode cL_law 679 = .ok (.aload_n 2, 1) := kDec_at dA416_cL_law 1 rfl
theorem dL_law_680 : decode cL_law 680 = .ok (.invokevirtual 88, 3) := kDec_at dA416_cL_law 2 rfl
theorem dL_law_683 : decode cL_law 683 = .ok (.pop, 1) := kDec_at dA416_cL_law 3 rfl
theorem dL_law_684 : decode cL_law 684 = .ok (.goto 338, 3) := kDec_at dA416_cL_law 4 rfl

end

/-! 67.law -/
section
set_option maxHeartbeats 40000000 in
set_option maxRecDepth 100000 in
theorem law_byteOf {p : Program} {l : Launch} {e : Env} {s : State} {m : MethodId} {below : List Frame} {meth : Method} {c : Code} {dC : Nat → ClassId} {dI : Nat → Nat → Nat} {cI cS cJ : ClassId} {A : Nat → Prop} {b L : Nat} {xs : Nat → Int32} (C0 : lw_At p s m meth c b L xs) (hAd : A = fun q : Nat => s.heap.size ≤ q) (hK3 : va_K (dC, dI) vwCl [(cI, .int), (cS, .short), (cJ, .long)] s) {oX nT aT nL aL nM aM oC o4 a41 a42 a43 o5 a51 a52 a53 oP nB aB oH h1 h2 oK k1 k2 oG g1 g2 oR n1 a1 n2 a2 n3 a3 r1 r2 r3 r4 r5 r6 oQ oE nq aq np ap nv av q1 q2 q3 q4 oW nw aw o7 o8 o9 w1 w2 w3 w4 w5 w6 w7 oM mT mS mX mL mB mD m1 m2 mR x1 x2 x3 mH mY mE mW mO y1 y2 y3 y4 mZ oJ : Nat} {fa : Int32} {lT : Int32} {lL : Int32} {lM : Int32} {l4 : Int32} {l5 : Int32} {ft : Int32} {lB : Int32} {lH : Int32} {lK : Int32} {gn : Int32} {lG : Int32} {lR : Int32} {l1 : Int32} {l2 : Int32} {l3 : Int32} {pr : Int32} {reE : Int32} {laE : Int32} {suE : Int32} {leE : Int32} {lq : Int32} {lp : Int32} {lv : Int32} {ke : Int32} {tl : Int32} {fsh : Int32} {wi : Int32} {ri : Int32} {fm : Int32} {lm : Int32} {lw : Int32} {re7 : Int32} {la7 : Int32} {su7 : Int32} {le7 : Int32} {re8 : Int32} {la8 : Int32} {su8 : Int32} {le8 : Int32} {re9 : Int32} {la9 : Int32} {su9 : Int32} {le9 : Int32} {zt : Int32} {zp : Int32} {zf : Int32} {zh : Int32} {zr : Int32} {zc : Int32} {zy : Int32} {za : Int32} {zb : Int32} {zs : Int32} {zq : Int32} {zw : Int32} {ze : Int32} {zn : Int32} {zm : Int32} {zl : Int32} {zk : Int32} {zd : Int32} {fT : Nat → Int32} {fL : Nat → Int32} {fM : Nat → Int32} {f41 : Nat → Int32} {f42 : Nat → Int32} {f43 : Nat → Int32} {f51 : Nat → Int32} {f52 : Nat → Int32} {f53 : Nat → Int32} {fB : Nat → Int32} {fH1 : Nat → Int32} {fH2 : Nat → Int32} {fK1 : Nat → Int32} {fK2 : Nat → Int32} {fG1 : Nat → Int32} {fG2 : Nat → Int32} {f1 : Nat → Int32} {f2 : Nat → Int32} {f3 : Nat → Int32} {fR1 : Nat → Int32} {fR2 : Nat → Int32} {fR3 : Nat → Int32} {fR4 : Nat → Int32} {fR5 : Nat → Int32} {fR6 : Nat → Int32} {fq : Nat → Int32} {fp : Nat → Int32} {fv : Nat → Int32} {fQ1 : Nat → Int32} {fQ2 : Nat → Int32} {fQ3 : Nat → Int32} {fQ4 : Nat → Int32} {fw : Nat → Int32} {fW1 : Nat → Int32} {fW2 : Nat → Int32} {fW3 : Nat → Int32} {fW4 : Nat → Int32} {fW5 : Nat → Int32} {fW6 : Nat → Int32} {fW7 : Nat → Int32} {eT : Nat → Int32} {eS : Nat → Int32} {eX : Nat → Int32} {eL : Nat → Int32} {eB : Nat → Int32} {eD : Nat → Int32} {e1 : Nat → Int32} {e2 : Nat → Int32} {eR : Nat → Int32} {ec1 : Nat → Int32} {ec2 : Nat → Int32} {ec3 : Nat → Int32} {eH : Nat → Int32} {eY : Nat → Int32} {eE : Nat → Int32} {eW : Nat → Int32} {eO : Nat → Int32} {er1 : Nat → Int32} {er2 : Nat → Int32} {er3 : Nat → Int32} {er4 : Nat → Int32} {eZ : Nat → Int32} {fJ : Nat → Int64} {H : Heap} {locs : List Loc} {ls : Array Slot} {i : Int32} {nc : Nat} (hn : nc ≤ 511) (hi : 0 ≤ i.toInt ∧ i.toInt + 5 < (L : Int)) (hL : L ≤ 3072) (hI : INV nc lT lL lM l4 l5 lB lH lK gn lG lR l1 l2 l3 lq lp lv ke fsh wi ri fm lm lw zt zp zf zh zr zc zy za zb zs zq zn zm zk fT fL f41 f42 f43 f51 f52 f53 fH1 fH2 fK1 fK2 fG1 fG2 fW4 fW5 fW6 fW7 eT eS eX eL eB eD e1 e2 ec1 ec2 ec3 eH eY eE eW eO eZ) (hP : va_P (dC, dI) vwCl (WLD cI cS cJ oX nT aT nL aL nM aM oC o4 a41 a42 a43 o5 a51 a52 a53 oP nB aB oH h1 h2 oK k1 k2 oG g1 g2 oR n1 a1 n2 a2 n3 a3 r1 r2 r3 r4 r5 r6 oQ oE nq aq np ap nv av q1 q2 q3 q4 oW nw aw o7 o8 o9 w1 w2 w3 w4 w5 w6 w7 oM mT mS mX mL mB mD m1 m2 mR x1 x2 x3 mH mY mE mW mO y1 y2 y3 y4 mZ oJ fa lT lL lM l4 l5 ft lB lH lK gn lG lR l1 l2 l3 pr reE laE suE leE lq lp lv ke tl fsh wi ri fm lm lw re7 la7 su7 le7 re8 la8 su8 le8 re9 la9 su9 le9 zt zp zf zh zr zc zy za zb zs zq zw ze zn zm zl zk zd fT fL fM f41 f42 f43 f51 f52 f53 fB fH1 fH2 fK1 fK2 fG1 fG2 f1 f2 f3 fR1 fR2 fR3 fR4 fR5 fR6 fq fp fv fQ1 fQ2 fQ3 fQ4 fw fW1 fW2 fW3 fW4 fW5 fW6 fW7 eT eS eX eL eB eD e1 e2 eR ec1 ec2 ec3 eH eY eE eW eO er1 er2 er3 er4 eZ fJ) H) (hD : va_D A (WLD cI cS cJ oX nT aT nL aL nM aM oC o4 a41 a42 a43 o5 a51 a52 a53 oP nB aB oH h1 h2 oK k1 k2 oG g1 g2 oR n1 a1 n2 a2 n3 a3 r1 r2 r3 r4 r5 r6 oQ oE nq aq np ap nv av q1 q2 q3 q4 oW nw aw o7 o8 o9 w1 w2 w3 w4 w5 w6 w7 oM mT mS mX mL mB mD m1 m2 mR x1 x2 x3 mH mY mE mW mO y1 y2 y3 y4 mZ oJ fa lT lL lM l4 l5 ft lB lH lK gn lG lR l1 l2 l3 pr reE laE suE leE lq lp lv ke tl fsh wi ri fm lm lw re7 la7 su7 le7 re8 la8 su8 le8 re9 la9 su9 le9 zt zp zf zh zr zc zy za zb zs zq zw ze zn zm zl zk zd fT fL fM f41 f42 f43 f51 f52 f53 fB fH1 fH2 fK1 fK2 fG1 fG2 f1 f2 f3 fR1 fR2 fR3 fR4 fR5 fR6 fq fp fv fQ1 fQ2 fQ3 fQ4 fw fW1 fW2 fW3 fW4 fW5 fW6 fW7 eT eS eX eL eB eD e1 e2 eR ec1 ec2 ec3 eH eY eE eW eO er1 er2 er3 er4 eZ fJ)) (hS : va_S A s.heap H locs) (hl : lv_has ls 7 [(0, .ref b), (1, .ref oX), (2, .ref oM), (3, .ref oJ), (4, .int i)]) (kk : KK p l e s m below meth c dC dI cI cS cJ A b oX nT aT nL aL nM aM oC o4 a41 a42 a43 o5 a51 a52 a53 oP nB aB oH h1 h2 oK k1 k2 oG g1 g2 oR n1 a1 n2 a2 n3 a3 r1 r2 r3 r4 r5 r6 oQ oE nq aq np ap nv av q1 q2 q3 q4 oW nw aw o7 o8 o9 w1 w2 w3 w4 w5 w6 w7 oM mT mS mX mL mB mD m1 m2 mR x1 x2 x3 mH mY mE mW mO y1 y2 y3 y4 mZ oJ i nc) : W p l e room_1 s m #[Value.ref b] below meth c H locs (90 + nc) (172225 + 6 * nc) (lw_Z below #[Value.ref b] s) (F0 m 476 ls []) := by
  refine And.elim (fun hx hBC_0 => ?_) C0
  refine And.elim (fun hb hBC_1 => ?_) hBC_0
  refine And.elim (fun hr hBC_2 => ?_) hBC_1
  refine And.elim (fun hml hBC_3 => ?_) hBC_2
  refine And.elim (fun hown hBC_4 => ?_) hBC_3
  refine And.elim (fun hts0 hBC_5 => ?_) hBC_4
  refine And.elim (fun hX hBC_6 => ?_) hBC_5
  refine And.elim (fun hbl hBC_7 => ?_) hBC_6
  refine And.elim (fun hlocks hBC_8 => ?_) hBC_7
  have hgv := hBC_8
  clear hBC_0 hBC_1 hBC_2 hBC_3 hBC_4 hBC_5 hBC_6 hBC_7 hBC_8
  refine And.elim (fun g_lT hBI_0 => ?_) hI
  refine And.elim (fun g_lL hBI_1 => ?_) hBI_0
  refine And.elim (fun g_lM hBI_2 => ?_) hBI_1
  refine And.elim (fun g_lB hBI_3 => ?_) hBI_2
  refine And.elim (fun g_lH hBI_4 => ?_) hBI_3
  refine And.elim (fun g_lK hBI_5 => ?_) hBI_4
  refine And.elim (fun g_gn hBI_6 => ?_) hBI_5
  refine And.elim (fun g_lG hBI_7 => ?_) hBI_6
  refine And.elim (fun g_lR hBI_8 => ?_) hBI_7
  refine And.elim (fun g_l1 hBI_9 => ?_) hBI_8
  refine And.elim (fun g_l2 hBI_10 => ?_) hBI_9
  refine And.elim (fun g_l3 hBI_11 => ?_) hBI_10
  refine And.elim (fun g_lq hBI_12 => ?_) hBI_11
  refine And.elim (fun g_lp hBI_13 => ?_) hBI_12
  refine And.elim (fun g_lv hBI_14 => ?_) hBI_13
  refine And.elim (fun g_ke hBI_15 => ?_) hBI_14
  refine And.elim (fun g_fsh hBI_16 => ?_) hBI_15
  refine And.elim (fun g_fm hBI_17 => ?_) hBI_16
  refine And.elim (fun g_lm hBI_18 => ?_) hBI_17
  refine And.elim (fun g_lw hBI_19 => ?_) hBI_18
  refine And.elim (fun g_zt hBI_20 => ?_) hBI_19
  refine And.elim (fun g_zp hBI_21 => ?_) hBI_20
  refine And.elim (fun g_zf hBI_22 => ?_) hBI_21
  refine And.elim (fun g_zh hBI_23 => ?_) hBI_22
  refine And.elim (fun g_zr hBI_24 => ?_) hBI_23
  refine And.elim (fun g_zc hBI_25 => ?_) hBI_24
  refine And.elim (fun g_zy hBI_26 => ?_) hBI_25
  refine And.elim (fun g_za hBI_27 => ?_) hBI_26
  refine And.elim (fun g_zb hBI_28 => ?_) hBI_27
  refine And.elim (fun g_zs hBI_29 => ?_) hBI_28
  refine And.elim (fun g_zq hBI_30 => ?_) hBI_29
  refine And.elim (fun g_zn hBI_31 => ?_) hBI_30
  refine And.elim (fun g_zm hBI_32 => ?_) hBI_31
  refine And.elim (fun g_zk hBI_33 => ?_) hBI_32
  refine And.elim (fun g_fG2 hBI_34 => ?_) hBI_33
  refine And.elim (fun g_eS hBI_35 => ?_) hBI_34
  refine And.elim (fun g_eX hBI_36 => ?_) hBI_35
  refine And.elim (fun g_eL hBI_37 => ?_) hBI_36
  refine And.elim (fun g_eB hBI_38 => ?_) hBI_37
  refine And.elim (fun g_e1 hBI_39 => ?_) hBI_38
  refine And.elim (fun g_e2 hBI_40 => ?_) hBI_39
  refine And.elim (fun g_eY hBI_41 => ?_) hBI_40
  refine And.elim (fun g_eE hBI_42 => ?_) hBI_41
  refine And.elim (fun g_eW hBI_43 => ?_) hBI_42
  refine And.elim (fun g_eO hBI_44 => ?_) hBI_43
  refine And.elim (fun g_eZ hBI_45 => ?_) hBI_44
  refine And.elim (fun hzn hBI_46 => ?_) hBI_45
  refine And.elim (fun hrel hBI_47 => ?_) hBI_46
  refine And.elim (fun hrc hBI_48 => ?_) hBI_47
  refine And.elim (fun hr4 hBI_49 => ?_) hBI_48
  refine And.elim (fun hr5 hBI_50 => ?_) hBI_49
  refine And.elim (fun hb4 hBI_51 => ?_) hBI_50
  refine And.elim (fun hb5 hBI_52 => ?_) hBI_51
  refine And.elim (fun hlz hBI_53 => ?_) hBI_52
  refine And.elim (fun hH hBI_54 => ?_) hBI_53
  refine And.elim (fun hHe hBI_55 => ?_) hBI_54
  refine And.elim (fun hKz hBI_56 => ?_) hBI_55
  refine And.elim (fun hT hBI_57 => ?_) hBI_56
  refine And.elim (fun ho hBI_58 => ?_) hBI_57
  refine And.elim (fun hal hBI_59 => ?_) hBI_58
  refine And.elim (fun hCV hBI_60 => ?_) hBI_59
  refine And.elim (fun hVk hBI_61 => ?_) hBI_60
  refine And.elim (fun hVr hBI_62 => ?_) hBI_61
  refine And.elim (fun hTX hBI_63 => ?_) hBI_62
  refine And.elim (fun hCH hBI_64 => ?_) hBI_63
  refine And.elim (fun hvc hBI_65 => ?_) hBI_64
  refine And.elim (fun hfr hBI_66 => ?_) hBI_65
  refine And.elim (fun hfx hBI_67 => ?_) hBI_66
  have hfs := hBI_67
  clear hI hBI_0 hBI_1 hBI_2 hBI_3 hBI_4 hBI_5 hBI_6 hBI_7 hBI_8 hBI_9 hBI_10 hBI_11 hBI_12 hBI_13 hBI_14 hBI_15 hBI_16 hBI_17 hBI_18 hBI_19 hBI_20 hBI_21 hBI_22 hBI_23 hBI_24 hBI_25 hBI_26 hBI_27 hBI_28 hBI_29 hBI_30 hBI_31 hBI_32 hBI_33 hBI_34 hBI_35 hBI_36 hBI_37 hBI_38 hBI_39 hBI_40 hBI_41 hBI_42 hBI_43 hBI_44 hBI_45 hBI_46 hBI_47 hBI_48 hBI_49 hBI_50 hBI_51 hBI_52 hBI_53 hBI_54 hBI_55 hBI_56 hBI_57 hBI_58 hBI_59 hBI_60 hBI_61 hBI_62 hBI_63 hBI_64 hBI_65 hBI_66 hBI_67
  have hK : va_K (dC, dI) vwCl [(cI, .int), (cS, .short)] s := hK3.sub [0, 1] rfl
  have hown : s.vm.findClass RL = some m.cls := hown
  have hts := hts0
  have hcf := k_cf hx hb hml hown hts
  have hi9 : 0 ≤ i.toInt ∧ i.toInt ≤ 3066 := by omega
  have hzs : zs.toInt ≤ 1000000 := by omega
  have hA : ∀ q : Nat, s.heap.size ≤ q → A q := fun q h => by rw [hAd]; exact h
  have hbA : ¬ A b := by rw [hAd]; exact Nat.not_le.mpr hbl
  have hP : va_P (dC, dI) vwCl [(oX, .inr (11, [.ref nT, .ref nL, .ref nM, .ref oC, .ref oP, .ref oH, .ref oK, .ref oG, .ref oR, .ref oQ, .ref oW, .int fa])), (nT, .inr (5, [.ref aT, .int lT])), (aT, .inl (cI, 900, .inl fT)), (nL, .inr (5, [.ref aL, .int lL])), (aL, .inl (cI, 300, .inl fL)), (nM, .inr (5, [.ref aM, .int lM])), (aM, .inl (cI, 300, .inl fM)), (oC, .inr (2, [.ref o4, .ref o5])), (o4, .inr (10, [.ref a41, .ref a42, .ref a43, .int l4])), (a41, .inl (cI, 256, .inl f41)), (a42, .inl (cI, 512, .inl f42)), (a43, .inl (cI, 512, .inl f43)), (o5, .inr (10, [.ref a51, .ref a52, .ref a53, .int l5])), (a51, .inl (cI, 256, .inl f51)), (a52, .inl (cI, 512, .inl f52)), (a53, .inl (cI, 512, .inl f53)), (oP, .inr (7, [.ref oC, .ref nB, .int ft])), (nB, .inr (5, [.ref aB, .int lB])), (aB, .inl (cI, 2400, .inl fB)), (oH, .inr (4, [.ref oP, .ref h1, .ref h2, .int lH])), (h1, .inl (cI, 6, .inl fH1)), (h2, .inl (cI, 6, .inl fH2)), (oK, .inr (3, [.ref k1, .ref k2, .int lK])), (k1, .inl (cI, 1024, .inl fK1)), (k2, .inl (cI, 1024, .inl fK2)), (oG, .inr (0, [.ref g1, .ref g2, .int gn, .int lG])), (g1, .inl (cI, 6000, .inl fG1)), (g2, .inl (cI, 20, .inl fG2)), (oR, .inr (9, [.ref oH, .ref oK, .ref n1, .ref n2, .ref n3, .ref r1, .ref r2, .ref r3, .ref r4, .ref r5, .ref r6, .int lR])), (n1, .inr (5, [.ref a1, .int l1])), (a1, .inl (cI, 300, .inl f1)), (n2, .inr (5, [.ref a2, .int l2])), (a2, .inl (cI, 300, .inl f2)), (n3, .inr (5, [.ref a3, .int l3])), (a3, .inl (cI, 300, .inl f3)), (r1, .inl (cI, 258, .inl fR1)), (r2, .inl (cI, 258, .inl fR2)), (r3, .inl (cI, 774, .inl fR3)), (r4, .inl (cI, 258, .inl fR4)), (r5, .inl (cI, 258, .inl fR5)), (r6, .inl (cI, 774, .inl fR6)), (oQ, .inr (6, [.ref oC, .ref oH, .ref oK, .ref oE, .ref nq, .ref np, .ref nv, .ref q1, .ref q2, .ref q3, .ref q4, .int pr])), (oE, .inr (8, [.ref oC, .ref oK, .int reE, .int laE, .int suE, .int leE])), (nq, .inr (5, [.ref aq, .int lq])), (aq, .inl (cI, 480, .inl fq)), (np, .inr (5, [.ref ap, .int lp])), (ap, .inl (cI, 300, .inl fp)), (nv, .inr (5, [.ref av, .int lv])), (av, .inl (cI, 300, .inl fv)), (q1, .inl (cI, 61, .inl fQ1)), (q2, .inl (cI, 61, .inl fQ2)), (q3, .inl (cI, 61, .inl fQ3)), (q4, .inl (cI, 61, .inl fQ4)), (oW, .inr (1, [.ref oC, .ref oK, .ref nw, .ref w1, .ref w2, .ref w3, .ref o7, .ref o8, .ref o9, .ref w4, .ref w5, .ref w6, .ref w7, .int ke, .int tl, .int fsh, .int wi, .int ri, .int fm, .int lm])), (nw, .inr (5, [.ref aw, .int lw])), (aw, .inl (cI, 800, .inl fw)), (o7, .inr (8, [.ref oC, .ref oK, .int re7, .int la7, .int su7, .int le7])), (o8, .inr (8, [.ref oC, .ref oK, .int re8, .int la8, .int su8, .int le8])), (o9, .inr (8, [.ref oC, .ref oK, .int re9, .int la9, .int su9, .int le9])), (w1, .inl (cI, 801, .inl fW1)), (w2, .inl (cI, 801, .inl fW2)), (w3, .inl (cI, 801, .inl fW3)), (w4, .inl (cI, 200, .inl fW4)), (w5, .inl (cI, 200, .inl fW5)), (w6, .inl (cI, 200, .inl fW6)), (w7, .inl (cI, 200, .inl fW7)), (oM, .inr (12, [.ref mT, .int zt, .ref mS, .ref mX, .int zp, .int zf, .ref mL, .ref mB, .ref mD, .ref m1, .ref m2, .int zh, .ref mR, .int zr, .ref x1, .ref x2, .ref x3, .int zc, .ref mH, .int zy, .int za, .int zb, .int zs, .int zq, .int zw, .int ze, .ref mY, .int zn, .ref mE, .int zm, .int zl, .ref mW, .int zk, .ref mO, .int zd, .ref y1, .ref y2, .ref y3, .ref y4, .ref mZ])), (mT, .inl (cI, 900, .inl eT)), (mS, .inl (cI, 21, .inl eS)), (mX, .inl (cI, 6300, .inl eX)), (mL, .inl (cI, 512, .inl eL)), (mB, .inl (cS, 131072, .inl eB)), (mD, .inl (cI, 2, .inl eD)), (m1, .inl (cI, 6, .inl e1)), (m2, .inl (cI, 6, .inl e2)), (mR, .inl (cI, 1548, .inl eR)), (x1, .inl (cI, 300, .inl ec1)), (x2, .inl (cI, 300, .inl ec2)), (x3, .inl (cI, 300, .inl ec3)), (mH, .inl (cI, 800, .inl eH)), (mY, .inl (cI, 2600, .inl eY)), (mE, .inl (cI, 2600, .inl eE)), (mW, .inl (cI, 300, .inl eW)), (mO, .inl (cI, 300, .inl eO)), (y1, .inl (cI, 61, .inl er1)), (y2, .inl (cI, 61, .inl er2)), (y3, .inl (cI, 61, .inl er3)), (y4, .inl (cI, 61, .inl er4)), (mZ, .inl (cI, 600, .inl eZ)), (oJ, .inl (cJ, 1, .inr (.inl fJ)))] H := hP
  have hD : va_D A [(oX, .inr (11, [.ref nT, .ref nL, .ref nM, .ref oC, .ref oP, .ref oH, .ref oK, .ref oG, .ref oR, .ref oQ, .ref oW, .int fa])), (nT, .inr (5, [.ref aT, .int lT])), (aT, .inl (cI, 900, .inl fT)), (nL, .inr (5, [.ref aL, .int lL])), (aL, .inl (cI, 300, .inl fL)), (nM, .inr (5, [.ref aM, .int lM])), (aM, .inl (cI, 300, .inl fM)), (oC, .inr (2, [.ref o4, .ref o5])), (o4, .inr (10, [.ref a41, .ref a42, .ref a43, .int l4])), (a41, .inl (cI, 256, .inl f41)), (a42, .inl (cI, 512, .inl f42)), (a43, .inl (cI, 512, .inl f43)), (o5, .inr (10, [.ref a51, .ref a52, .ref a53, .int l5])), (a51, .inl (cI, 256, .inl f51)), (a52, .inl (cI, 512, .inl f52)), (a53, .inl (cI, 512, .inl f53)), (oP, .inr (7, [.ref oC, .ref nB, .int ft])), (nB, .inr (5, [.ref aB, .int lB])), (aB, .inl (cI, 2400, .inl fB)), (oH, .inr (4, [.ref oP, .ref h1, .ref h2, .int lH])), (h1, .inl (cI, 6, .inl fH1)), (h2, .inl (cI, 6, .inl fH2)), (oK, .inr (3, [.ref k1, .ref k2, .int lK])), (k1, .inl (cI, 1024, .inl fK1)), (k2, .inl (cI, 1024, .inl fK2)), (oG, .inr (0, [.ref g1, .ref g2, .int gn, .int lG])), (g1, .inl (cI, 6000, .inl fG1)), (g2, .inl (cI, 20, .inl fG2)), (oR, .inr (9, [.ref oH, .ref oK, .ref n1, .ref n2, .ref n3, .ref r1, .ref r2, .ref r3, .ref r4, .ref r5, .ref r6, .int lR])), (n1, .inr (5, [.ref a1, .int l1])), (a1, .inl (cI, 300, .inl f1)), (n2, .inr (5, [.ref a2, .int l2])), (a2, .inl (cI, 300, .inl f2)), (n3, .inr (5, [.ref a3, .int l3])), (a3, .inl (cI, 300, .inl f3)), (r1, .inl (cI, 258, .inl fR1)), (r2, .inl (cI, 258, .inl fR2)), (r3, .inl (cI, 774, .inl fR3)), (r4, .inl (cI, 258, .inl fR4)), (r5, .inl (cI, 258, .inl fR5)), (r6, .inl (cI, 774, .inl fR6)), (oQ, .inr (6, [.ref oC, .ref oH, .ref oK, .ref oE, .ref nq, .ref np, .ref nv, .ref q1, .ref q2, .ref q3, .ref q4, .int pr])), (oE, .inr (8, [.ref oC, .ref oK, .int reE, .int laE, .int suE, .int leE])), (nq, .inr (5, [.ref aq, .int lq])), (aq, .inl (cI, 480, .inl fq)), (np, .inr (5, [.ref ap, .int lp])), (ap, .inl (cI, 300, .inl fp)), (nv, .inr (5, [.ref av, .int lv])), (av, .inl (cI, 300, .inl fv)), (q1, .inl (cI, 61, .inl fQ1)), (q2, .inl (cI, 61, .inl fQ2)), (q3, .inl (cI, 61, .inl fQ3)), (q4, .inl (cI, 61, .inl fQ4)), (oW, .inr (1, [.ref oC, .ref oK, .ref nw, .ref w1, .ref w2, .ref w3, .ref o7, .ref o8, .ref o9, .ref w4, .ref w5, .ref w6, .ref w7, .int ke, .int tl, .int fsh, .int wi, .int ri, .int fm, .int lm])), (nw, .inr (5, [.ref aw, .int lw])), (aw, .inl (cI, 800, .inl fw)), (o7, .inr (8, [.ref oC, .ref oK, .int re7, .int la7, .int su7, .int le7])), (o8, .inr (8, [.ref oC, .ref oK, .int re8, .int la8, .int su8, .int le8])), (o9, .inr (8, [.ref oC, .ref oK, .int re9, .int la9, .int su9, .int le9])), (w1, .inl (cI, 801, .inl fW1)), (w2, .inl (cI, 801, .inl fW2)), (w3, .inl (cI, 801, .inl fW3)), (w4, .inl (cI, 200, .inl fW4)), (w5, .inl (cI, 200, .inl fW5)), (w6, .inl (cI, 200, .inl fW6)), (w7, .inl (cI, 200, .inl fW7)), (oM, .inr (12, [.ref mT, .int zt, .ref mS, .ref mX, .int zp, .int zf, .ref mL, .ref mB, .ref mD, .ref m1, .ref m2, .int zh, .ref mR, .int zr, .ref x1, .ref x2, .ref x3, .int zc, .ref mH, .int zy, .int za, .int zb, .int zs, .int zq, .int zw, .int ze, .ref mY, .int zn, .ref mE, .int zm, .int zl, .ref mW, .int zk, .ref mO, .int zd, .ref y1, .ref y2, .ref y3, .ref y4, .ref mZ])), (mT, .inl (cI, 900, .inl eT)), (mS, .inl (cI, 21, .inl eS)), (mX, .inl (cI, 6300, .inl eX)), (mL, .inl (cI, 512, .inl eL)), (mB, .inl (cS, 131072, .inl eB)), (mD, .inl (cI, 2, .inl eD)), (m1, .inl (cI, 6, .inl e1)), (m2, .inl (cI, 6, .inl e2)), (mR, .inl (cI, 1548, .inl eR)), (x1, .inl (cI, 300, .inl ec1)), (x2, .inl (cI, 300, .inl ec2)), (x3, .inl (cI, 300, .inl ec3)), (mH, .inl (cI, 800, .inl eH)), (mY, .inl (cI, 2600, .inl eY)), (mE, .inl (cI, 2600, .inl eE)), (mW, .inl (cI, 300, .inl eW)), (mO, .inl (cI, 300, .inl eO)), (y1, .inl (cI, 61, .inl er1)), (y2, .inl (cI, 61, .inl er2)), (y3, .inl (cI, 61, .inl er3)), (y4, .inl (cI, 61, .inl er4)), (mZ, .inl (cI, 600, .inl eZ)), (oJ, .inl (cJ, 1, .inr (.inl fJ)))] := hD
  replace g_lT := hid g_lT
  replace g_lM := hid g_lM
  replace g_lB := hid g_lB
  replace g_lR := hid g_lR
  replace g_l1 := hid g_l1
  replace g_l2 := hid g_l2
  replace g_l3 := hid g_l3
  replace g_lq := hid g_lq
  replace g_lp := hid g_lp
  replace g_lv := hid g_lv
  replace g_fm := hid g_fm
  replace g_lm := hid g_lm
  replace g_lw := hid g_lw
  replace g_zt := hid g_zt
  replace g_zr := hid g_zr
  replace g_zn := hid g_zn
  replace g_zm := hid g_zm
  replace g_zk := hid g_zk
  refine lv_aload_n hx hb dL_law_476 rfl (lv_at hl 1 rfl) ?_
  refine lv_aload_n hx hb dL_law_477 rfl (lv_at hl 0 rfl) ?_
  refine lv_iload hx hb dL_law_478 (lv_at hl 4 rfl) ?_
  refine lv_iconst (v := 1) hx hb dL_law_480 (by decide) ?_
  refine lv_iadd hx hb dL_law_481 ?_
  refine lv_topi (fun x_1 ex_1 => ?_)
  have tx_1 : x_1.toInt = i.toInt + 1 := v_addR (l2 := 1) (h2 := 1) ex_1 hi9 (by decide) (by decide) (by decide)
  refine va_sld hx hb hX hbl hbA hS (v_in (v_sld5 tx_1 hi (by decide))) dL_law_482 ?_
  refine lv_topi (fun x_2 ex_2 => ?_)
  refine lv_aload_n hx hb dL_law_483 rfl (lv_at hl 0 rfl) ?_
  refine lv_iload hx hb dL_law_484 (lv_at hl 4 rfl) ?_
  refine lv_iconst (v := 2) hx hb dL_law_486 (by decide) ?_
  refine lv_iadd hx hb dL_law_487 ?_
  refine lv_topi (fun x_3 ex_3 => ?_)
  have tx_3 : x_3.toInt = i.toInt + 2 := v_addR (l2 := 2) (h2 := 2) ex_3 hi9 (by decide) (by decide) (by decide)
  refine va_sld hx hb hX hbl hbA hS (v_in (v_sld5 tx_3 hi (by decide))) dL_law_488 ?_
  refine lv_topi (fun x_4 ex_4 => ?_)
  refine kV_i (rest := []) (q0 := 0) (ci := 11) hcf (f_X11_byteOf l dC dI cI cS H.size oX nT nL nM oC oP oH oK oG oR oQ oW aL nB aB o4 o5 a41 a42 a43 a51 a52 a53 fa lL fL ft lB fB l4 f42 f43 l5 f52 f53 x_2 x_4 (g_lL) (g_lB) (TX_p hTX) (hr4.1) (occ_511 hr4.2.1) (hr5.1) (occ_511 hr5.2.1)) kc_X11_byteOf gL_law_X11_byteOf rfl rfl rfl ⟨Nat.le_of_ble_eq_true rfl, Nat.le_of_ble_eq_true rfl⟩ kX_t hK hP hD hS hA ([0, 1, 2, 10, 11, 12, 3, 4, 5, 6, 7, 8, 9].filterMap (fun j => (posT mk_16 0)[j]?)) (posF mk_16 0) (kCp (ws := [(oX, .inr (11, [.ref nT, .ref nL, .ref nM, .ref oC, .ref oP, .ref oH, .ref oK, .ref oG, .ref oR, .ref oQ, .ref oW, .int fa])), (nL, .inr (5, [.ref aL, .int lL])), (aL, .inl (cI, 300, .inl fL)), (oC, .inr (2, [.ref o4, .ref o5])), (o4, .inr (10, [.ref a41, .ref a42, .ref a43, .int l4])), (a42, .inl (cI, 512, .inl f42)), (a43, .inl (cI, 512, .inl f43)), (o5, .inr (10, [.ref a51, .ref a52, .ref a53, .int l5])), (a52, .inl (cI, 512, .inl f52)), (a53, .inl (cI, 512, .inl f53)), (oP, .inr (7, [.ref oC, .ref nB, .int ft])), (nB, .inr (5, [.ref aB, .int lB])), (aB, .inl (cI, 2400, .inl fB))]) (kC_of mk_16 rfl rfl) rfl) (by decide +kernel) rfl rfl rfl hl rfl (Nat.le_of_ble_eq_true rfl) dL_law_489 ⟨kfit1 hn (Nat.le_of_ble_eq_true rfl), ksix1 hn (Nat.le_of_ble_eq_true rfl)⟩ (fun r_5 H locs hB hJ hSn => ?_)
  refine Exists.elim hB (fun fa_5 hB5_0 => ?_)
  refine Exists.elim hB5_0 (fun ft_5 hB5_1 => ?_)
  refine Exists.elim hB5_1 (fun lB_5 hB5_2 => ?_)
  refine Exists.elim hB5_2 (fun fB_5 hB5_3 => ?_)
  refine And.elim (fun hPD9 hB5_4 => ?_) hB5_3
  refine And.elim (fun hf5_0 hB5_5 => ?_) hB5_4
  have hf5_1 := hB5_5
  clear hB hB5_0 hB5_1 hB5_2 hB5_3 hB5_4 hB5_5
  obtain ⟨hPn, hDn⟩ := kJm (m := mk_16) hJ rfl hPD9.1 hPD9.2 [0, 1, 2, 6, 7, 8, 9, 10, 11, 12, 3, 4, 5] (by decide +kernel) (ws := [(oX, .inr (11, [.ref nT, .ref nL, .ref nM, .ref oC, .ref oP, .ref oH, .ref oK, .ref oG, .ref oR, .ref oQ, .ref oW, .int fa_5])), (nL, .inr (5, [.ref aL, .int lL])), (aL, .inl (cI, 300, .inl fL)), (oC, .inr (2, [.ref o4, .ref o5])), (o4, .inr (10, [.ref a41, .ref a42, .ref a43, .int l4])), (a42, .inl (cI, 512, .inl f42)), (a43, .inl (cI, 512, .inl f43)), (o5, .inr (10, [.ref a51, .ref a52, .ref a53, .int l5])), (a52, .inl (cI, 512, .inl f52)), (a53, .inl (cI, 512, .inl f53)), (oP, .inr (7, [.ref oC, .ref nB, .int ft_5])), (nB, .inr (5, [.ref aB, .int lB_5])), (aB, .inl (cI, 2400, .inl fB_5))]) rfl (wn := [(oX, .inr (11, [.ref nT, .ref nL, .ref nM, .ref oC, .ref oP, .ref oH, .ref oK, .ref oG, .ref oR, .ref oQ, .ref oW, .int fa_5])), (nT, .inr (5, [.ref aT, .int lT])), (aT, .inl (cI, 900, .inl fT)), (nL, .inr (5, [.ref aL, .int lL])), (aL, .inl (cI, 300, .inl fL)), (nM, .inr (5, [.ref aM, .int lM])), (aM, .inl (cI, 300, .inl fM)), (oC, .inr (2, [.ref o4, .ref o5])), (o4, .inr (10, [.ref a41, .ref a42, .ref a43, .int l4])), (a41, .inl (cI, 256, .inl f41)), (a42, .inl (cI, 512, .inl f42)), (a43, .inl (cI, 512, .inl f43)), (o5, .inr (10, [.ref a51, .ref a52, .ref a53, .int l5])), (a51, .inl (cI, 256, .inl f51)), (a52, .inl (cI, 512, .inl f52)), (a53, .inl (cI, 512, .inl f53)), (oP, .inr (7, [.ref oC, .ref nB, .int ft_5])), (nB, .inr (5, [.ref aB, .int lB_5])), (aB, .inl (cI, 2400, .inl fB_5)), (oH, .inr (4, [.ref oP, .ref h1, .ref h2, .int lH])), (h1, .inl (cI, 6, .inl fH1)), (h2, .inl (cI, 6, .inl fH2)), (oK, .inr (3, [.ref k1, .ref k2, .int lK])), (k1, .inl (cI, 1024, .inl fK1)), (k2, .inl (cI, 1024, .inl fK2)), (oG, .inr (0, [.ref g1, .ref g2, .int gn, .int lG])), (g1, .inl (cI, 6000, .inl fG1)), (g2, .inl (cI, 20, .inl fG2)), (oR, .inr (9, [.ref oH, .ref oK, .ref n1, .ref n2, .ref n3, .ref r1, .ref r2, .ref r3, .ref r4, .ref r5, .ref r6, .int lR])), (n1, .inr (5, [.ref a1, .int l1])), (a1, .inl (cI, 300, .inl f1)), (n2, .inr (5, [.ref a2, .int l2])), (a2, .inl (cI, 300, .inl f2)), (n3, .inr (5, [.ref a3, .int l3])), (a3, .inl (cI, 300, .inl f3)), (r1, .inl (cI, 258, .inl fR1)), (r2, .inl (cI, 258, .inl fR2)), (r3, .inl (cI, 774, .inl fR3)), (r4, .inl (cI, 258, .inl fR4)), (r5, .inl (cI, 258, .inl fR5)), (r6, .inl (cI, 774, .inl fR6)), (oQ, .inr (6, [.ref oC, .ref oH, .ref oK, .ref oE, .ref nq, .ref np, .ref nv, .ref q1, .ref q2, .ref q3, .ref q4, .int pr])), (oE, .inr (8, [.ref oC, .ref oK, .int reE, .int laE, .int suE, .int leE])), (nq, .inr (5, [.ref aq, .int lq])), (aq, .inl (cI, 480, .inl fq)), (np, .inr (5, [.ref ap, .int lp])), (ap, .inl (cI, 300, .inl fp)), (nv, .inr (5, [.ref av, .int lv])), (av, .inl (cI, 300, .inl fv)), (q1, .inl (cI, 61, .inl fQ1)), (q2, .inl (cI, 61, .inl fQ2)), (q3, .inl (cI, 61, .inl fQ3)), (q4, .inl (cI, 61, .inl fQ4)), (oW, .inr (1, [.ref oC, .ref oK, .ref nw, .ref w1, .ref w2, .ref w3, .ref o7, .ref o8, .ref o9, .ref w4, .ref w5, .ref w6, .ref w7, .int ke, .int tl, .int fsh, .int wi, .int ri, .int fm, .int lm])), (nw, .inr (5, [.ref aw, .int lw])), (aw, .inl (cI, 800, .inl fw)), (o7, .inr (8, [.ref oC, .ref oK, .int re7, .int la7, .int su7, .int le7])), (o8, .inr (8, [.ref oC, .ref oK, .int re8, .int la8, .int su8, .int le8])), (o9, .inr (8, [.ref oC, .ref oK, .int re9, .int la9, .int su9, .int le9])), (w1, .inl (cI, 801, .inl fW1)), (w2, .inl (cI, 801, .inl fW2)), (w3, .inl (cI, 801, .inl fW3)), (w4, .inl (cI, 200, .inl fW4)), (w5, .inl (cI, 200, .inl fW5)), (w6, .inl (cI, 200, .inl fW6)), (w7, .inl (cI, 200, .inl fW7)), (oM, .inr (12, [.ref mT, .int zt, .ref mS, .ref mX, .int zp, .int zf, .ref mL, .ref mB, .ref mD, .ref m1, .ref m2, .int zh, .ref mR, .int zr, .ref x1, .ref x2, .ref x3, .int zc, .ref mH, .int zy, .int za, .int zb, .int zs, .int zq, .int zw, .int ze, .ref mY, .int zn, .ref mE, .int zm, .int zl, .ref mW, .int zk, .ref mO, .int zd, .ref y1, .ref y2, .ref y3, .ref y4, .ref mZ])), (mT, .inl (cI, 900, .inl eT)), (mS, .inl (cI, 21, .inl eS)), (mX, .inl (cI, 6300, .inl eX)), (mL, .inl (cI, 512, .inl eL)), (mB, .inl (cS, 131072, .inl eB)), (mD, .inl (cI, 2, .inl eD)), (m1, .inl (cI, 6, .inl e1)), (m2, .inl (cI, 6, .inl e2)), (mR, .inl (cI, 1548, .inl eR)), (x1, .inl (cI, 300, .inl ec1)), (x2, .inl (cI, 300, .inl ec2)), (x3, .inl (cI, 300, .inl ec3)), (mH, .inl (cI, 800, .inl eH)), (mY, .inl (cI, 2600, .inl eY)), (mE, .inl (cI, 2600, .inl eE)), (mW, .inl (cI, 300, .inl eW)), (mO, .inl (cI, 300, .inl eO)), (y1, .inl (cI, 61, .inl er1)), (y2, .inl (cI, 61, .inl er2)), (y3, .inl (cI, 61, .inl er3)), (y4, .inl (cI, 61, .inl er4)), (mZ, .inl (cI, 600, .inl eZ)), (oJ, .inl (cJ, 1, .inr (.inl fJ)))]) rfl
  clear hP hD hS hJ hPD9
  have hP := hPn
  have hD := hDn
  have hS := hSn
  clear hPn hDn hSn
  refine lv_pop hx hb dL_law_492 rfl ?_
  refine lv_aload_n hx hb dL_law_493 rfl (lv_at hl 2 rfl) ?_
  refine lv_aload_n hx hb dL_law_494 rfl (lv_at hl 0 rfl) ?_
  refine lv_iload hx hb dL_law_495 (lv_at hl 4 rfl) ?_
  refine lv_iconst (v := 1) hx hb dL_law_497 (by decide) ?_
  refine lv_iadd hx hb dL_law_498 ?_
  refine lv_topi (fun x_6 ex_6 => ?_)
  have tx_6 : x_6.toInt = i.toInt + 1 := v_addR (l2 := 1) (h2 := 1) ex_6 hi9 (by decide) (by decide) (by decide)
  refine va_sld hx hb hX hbl hbA hS (v_in (v_sld5 tx_6 hi (by decide))) dL_law_499 ?_
  refine lv_topi (fun x_7 ex_7 => ?_)
  have es_7 : x_7 = x_2 := by rw [ex_7, ex_2, ex_6, ex_1]
  rw [es_7]
  refine lv_aload_n hx hb dL_law_500 rfl (lv_at hl 0 rfl) ?_
  refine lv_iload hx hb dL_law_501 (lv_at hl 4 rfl) ?_
  refine lv_iconst (v := 2) hx hb dL_law_503 (by decide) ?_
  refine lv_iadd hx hb dL_law_504 ?_
  refine lv_topi (fun x_8 ex_8 => ?_)
  have tx_8 : x_8.toInt = i.toInt + 2 := v_addR (l2 := 2) (h2 := 2) ex_8 hi9 (by decide) (by decide) (by decide)
  refine va_sld hx hb hX hbl hbA hS (v_in (v_sld5 tx_8 hi (by decide))) dL_law_505 ?_
  refine lv_topi (fun x_9 ex_9 => ?_)
  have es_9 : x_9 = x_4 := by rw [ex_9, ex_4, ex_8, ex_3]
  rw [es_9]
  refine kV_i (rest := []) (q0 := 0) (ci := 12) hcf (f_X12_byteOf l dC dI cI cS H.size oM mT mS mX mL mB mD m1 m2 mR x1 x2 x3 mH mY mE mW mO y1 y2 y3 y4 mZ zt zp zf zh zr zc zy za zb zs zq zw ze zn zm zl zk zd eY eB eS eX x_2 x_4 (g_zt) (g_zp) (g_zf) (g_zh) (g_zr) (g_zc) (g_zy) (g_za) (g_zb) (g_zs) (g_zq) (g_zn) (g_zm) (g_zk) (g_eY) (g_eB) (g_eS) (g_eX) (by omega)) kc_X12_byteOf gL_law_X12_byteOf rfl rfl rfl ⟨Nat.le_of_ble_eq_true rfl, Nat.le_of_ble_eq_true rfl⟩ kX_t hK hP hD hS hA ([0, 4, 3, 1, 2].filterMap (fun j => (posT mk_17 0)[j]?)) (posF mk_17 0) (kCp (ws := [(oM, .inr (12, [.ref mT, .int zt, .ref mS, .ref mX, .int zp, .int zf, .ref mL, .ref mB, .ref mD, .ref m1, .ref m2, .int zh, .ref mR, .int zr, .ref x1, .ref x2, .ref x3, .int zc, .ref mH, .int zy, .int za, .int zb, .int zs, .int zq, .int zw, .int ze, .ref mY, .int zn, .ref mE, .int zm, .int zl, .ref mW, .int zk, .ref mO, .int zd, .ref y1, .ref y2, .ref y3, .ref y4, .ref mZ])), (mS, .inl (cI, 21, .inl eS)), (mX, .inl (cI, 6300, .inl eX)), (mB, .inl (cS, 131072, .inl eB)), (mY, .inl (cI, 2600, .inl eY))]) (kC_of mk_17 rfl rfl) rfl) (by decide +kernel) rfl rfl rfl hl rfl (Nat.le_of_ble_eq_true rfl) dL_law_506 ⟨kfit2 hn (Nat.le_of_ble_eq_true rfl), ksix2 hn (Nat.le_of_ble_eq_true rfl)⟩ (fun r_10 H locs hB hJ hSn => ?_)
  refine Exists.elim hB (fun ze_10 hB10_0 => ?_)
  refine Exists.elim hB10_0 (fun zw_10 hB10_1 => ?_)
  refine Exists.elim hB10_1 (fun zn_10 hB10_2 => ?_)
  refine Exists.elim hB10_2 (fun eY_10 hB10_3 => ?_)
  refine Exists.elim hB10_3 (fun zl_10 hB10_4 => ?_)
  refine And.elim (fun hPD9 hB10_5 => ?_) hB10_4
  refine And.elim (fun hf10_0 hB10_6 => ?_) hB10_5
  refine And.elim (fun hf10_1 hB10_7 => ?_) hB10_6
  have hf10_2 := hB10_7
  clear hB hB10_0 hB10_1 hB10_2 hB10_3 hB10_4 hB10_5 hB10_6 hB10_7
  obtain ⟨hPn, hDn⟩ := kJm (m := mk_17) hJ rfl hPD9.1 hPD9.2 [0, 3, 4, 2, 1] (by decide +kernel) (ws := [(oM, .inr (12, [.ref mT, .int zt, .ref mS, .ref mX, .int zp, .int zf, .ref mL, .ref mB, .ref mD, .ref m1, .ref m2, .int zh, .ref mR, .int zr, .ref x1, .ref x2, .ref x3, .int zc, .ref mH, .int zy, .int za, .int zb, .int zs, .int zq, .int zw_10, .int ze_10, .ref mY, .int zn_10, .ref mE, .int zm, .int zl_10, .ref mW, .int zk, .ref mO, .int zd, .ref y1, .ref y2, .ref y3, .ref y4, .ref mZ])), (mS, .inl (cI, 21, .inl eS)), (mX, .inl (cI, 6300, .inl eX)), (mB, .inl (cS, 131072, .inl eB)), (mY, .inl (cI, 2600, .inl eY_10))]) rfl (wn := [(oX, .inr (11, [.ref nT, .ref nL, .ref nM, .ref oC, .ref oP, .ref oH, .ref oK, .ref oG, .ref oR, .ref oQ, .ref oW, .int fa_5])), (nT, .inr (5, [.ref aT, .int lT])), (aT, .inl (cI, 900, .inl fT)), (nL, .inr (5, [.ref aL, .int lL])), (aL, .inl (cI, 300, .inl fL)), (nM, .inr (5, [.ref aM, .int lM])), (aM, .inl (cI, 300, .inl fM)), (oC, .inr (2, [.ref o4, .ref o5])), (o4, .inr (10, [.ref a41, .ref a42, .ref a43, .int l4])), (a41, .inl (cI, 256, .inl f41)), (a42, .inl (cI, 512, .inl f42)), (a43, .inl (cI, 512, .inl f43)), (o5, .inr (10, [.ref a51, .ref a52, .ref a53, .int l5])), (a51, .inl (cI, 256, .inl f51)), (a52, .inl (cI, 512, .inl f52)), (a53, .inl (cI, 512, .inl f53)), (oP, .inr (7, [.ref oC, .ref nB, .int ft_5])), (nB, .inr (5, [.ref aB, .int lB_5])), (aB, .inl (cI, 2400, .inl fB_5)), (oH, .inr (4, [.ref oP, .ref h1, .ref h2, .int lH])), (h1, .inl (cI, 6, .inl fH1)), (h2, .inl (cI, 6, .inl fH2)), (oK, .inr (3, [.ref k1, .ref k2, .int lK])), (k1, .inl (cI, 1024, .inl fK1)), (k2, .inl (cI, 1024, .inl fK2)), (oG, .inr (0, [.ref g1, .ref g2, .int gn, .int lG])), (g1, .inl (cI, 6000, .inl fG1)), (g2, .inl (cI, 20, .inl fG2)), (oR, .inr (9, [.ref oH, .ref oK, .ref n1, .ref n2, .ref n3, .ref r1, .ref r2, .ref r3, .ref r4, .ref r5, .ref r6, .int lR])), (n1, .inr (5, [.ref a1, .int l1])), (a1, .inl (cI, 300, .inl f1)), (n2, .inr (5, [.ref a2, .int l2])), (a2, .inl (cI, 300, .inl f2)), (n3, .inr (5, [.ref a3, .int l3])), (a3, .inl (cI, 300, .inl f3)), (r1, .inl (cI, 258, .inl fR1)), (r2, .inl (cI, 258, .inl fR2)), (r3, .inl (cI, 774, .inl fR3)), (r4, .inl (cI, 258, .inl fR4)), (r5, .inl (cI, 258, .inl fR5)), (r6, .inl (cI, 774, .inl fR6)), (oQ, .inr (6, [.ref oC, .ref oH, .ref oK, .ref oE, .ref nq, .ref np, .ref nv, .ref q1, .ref q2, .ref q3, .ref q4, .int pr])), (oE, .inr (8, [.ref oC, .ref oK, .int reE, .int laE, .int suE, .int leE])), (nq, .inr (5, [.ref aq, .int lq])), (aq, .inl (cI, 480, .inl fq)), (np, .inr (5, [.ref ap, .int lp])), (ap, .inl (cI, 300, .inl fp)), (nv, .inr (5, [.ref av, .int lv])), (av, .inl (cI, 300, .inl fv)), (q1, .inl (cI, 61, .inl fQ1)), (q2, .inl (cI, 61, .inl fQ2)), (q3, .inl (cI, 61, .inl fQ3)), (q4, .inl (cI, 61, .inl fQ4)), (oW, .inr (1, [.ref oC, .ref oK, .ref nw, .ref w1, .ref w2, .ref w3, .ref o7, .ref o8, .ref o9, .ref w4, .ref w5, .ref w6, .ref w7, .int ke, .int tl, .int fsh, .int wi, .int ri, .int fm, .int lm])), (nw, .inr (5, [.ref aw, .int lw])), (aw, .inl (cI, 800, .inl fw)), (o7, .inr (8, [.ref oC, .ref oK, .int re7, .int la7, .int su7, .int le7])), (o8, .inr (8, [.ref oC, .ref oK, .int re8, .int la8, .int su8, .int le8])), (o9, .inr (8, [.ref oC, .ref oK, .int re9, .int la9, .int su9, .int le9])), (w1, .inl (cI, 801, .inl fW1)), (w2, .inl (cI, 801, .inl fW2)), (w3, .inl (cI, 801, .inl fW3)), (w4, .inl (cI, 200, .inl fW4)), (w5, .inl (cI, 200, .inl fW5)), (w6, .inl (cI, 200, .inl fW6)), (w7, .inl (cI, 200, .inl fW7)), (oM, .inr (12, [.ref mT, .int zt, .ref mS, .ref mX, .int zp, .int zf, .ref mL, .ref mB, .ref mD, .ref m1, .ref m2, .int zh, .ref mR, .int zr, .ref x1, .ref x2, .ref x3, .int zc, .ref mH, .int zy, .int za, .int zb, .int zs, .int zq, .int zw_10, .int ze_10, .ref mY, .int zn_10, .ref mE, .int zm, .int zl_10, .ref mW, .int zk, .ref mO, .int zd, .ref y1, .ref y2, .ref y3, .ref y4, .ref mZ])), (mT, .inl (cI, 900, .inl eT)), (mS, .inl (cI, 21, .inl eS)), (mX, .inl (cI, 6300, .inl eX)), (mL, .inl (cI, 512, .inl eL)), (mB, .inl (cS, 131072, .inl eB)), (mD, .inl (cI, 2, .inl eD)), (m1, .inl (cI, 6, .inl e1)), (m2, .inl (cI, 6, .inl e2)), (mR, .inl (cI, 1548, .inl eR)), (x1, .inl (cI, 300, .inl ec1)), (x2, .inl (cI, 300, .inl ec2)), (x3, .inl (cI, 300, .inl ec3)), (mH, .inl (cI, 800, .inl eH)), (mY, .inl (cI, 2600, .inl eY_10)), (mE, .inl (cI, 2600, .inl eE)), (mW, .inl (cI, 300, .inl eW)), (mO, .inl (cI, 300, .inl eO)), (y1, .inl (cI, 61, .inl er1)), (y2, .inl (cI, 61, .inl er2)), (y3, .inl (cI, 61, .inl er3)), (y4, .inl (cI, 61, .inl er4)), (mZ, .inl (cI, 600, .inl eZ)), (oJ, .inl (cJ, 1, .inr (.inl fJ)))]) rfl
  clear hP hD hS hJ hPD9
  have hP := hPn
  have hD := hDn
  have hS := hSn
  clear hPn hDn hSn
  refine lv_pop hx hb dL_law_509 rfl ?_
  refine lv_goto (tgt := 1022) hx hb dL_law_510 (by decide) ?_
  refine W.widen (k := 90 + (nc + 1)) (n := 172225 + 6 * (nc + 1)) (by omega) (by omega) ?_
  exact kk fa_5 lT lL lM l4 l5 ft_5 lB_5 lH lK gn lG lR l1 l2 l3 pr reE laE suE leE lq lp lv ke tl fsh wi ri fm lm lw re7 la7 su7 le7 re8 la8 su8 le8 re9 la9 su9 le9 zt zp zf zh zr zc zy za zb zs zq zw_10 ze_10 zn_10 zm zl_10 zk zd fT fL fM f41 f42 f43 f51 f52 f53 fB_5 fH1 fH2 fK1 fK2 fG1 fG2 f1 f2 f3 fR1 fR2 fR3 fR4 fR5 fR6 fq fp fv fQ1 fQ2 fQ3 fQ4 fw fW1 fW2 fW3 fW4 fW5 fW6 fW7 eT eS eX eL eB eD e1 e2 eR ec1 ec2 ec3 eH eY_10 eE eW eO er1 er2 er3 er4 eZ fJ _ _ _ ⟨g_lT, g_lL, g_lM, hf5_0, g_lH, g_lK, g_gn, g_lG, g_lR, g_l1, g_l2, g_l3, g_lq, g_lp, g_lv, g_ke, g_fsh, g_fm, g_lm, g_lw, g_zt, g_zp, g_zf, g_zh, g_zr, g_zc, g_zy, g_za, g_zb, g_zs, g_zq, hf10_0, g_zm, g_zk, g_fG2, g_eS, g_eX, g_eL, g_eB, g_e1, g_e2, hf10_1, g_eE, g_eW, g_eO, g_eZ, by omega, hrel, hrc, hr4, hr5, hb4, hb5, hlz, hH, hHe, hKz, hT, ho, hal, hCV, hVk, hVr, hTX, hCH, hvc, hfr, hfx, hfs⟩ hP hD hS (lv_sub hl [0, 1, 2, 3, 4] rfl)

set_option maxHeartbeats 40000000 in
set_option maxRecDepth 100000 in
theorem law_where {p : Program} {l : Launch} {e : Env} {s : State} {m : MethodId} {below : List Frame} {meth : Method} {c : Code} {dC : Nat → ClassId} {dI : Nat → Nat → Nat} {cI cS cJ : ClassId} {A : Nat → Prop} {b L : Nat} {xs : Nat → Int32} (C0 : lw_At p s m meth c b L xs) (hAd : A = fun q : Nat => s.heap.size ≤ q) (hK3 : va_K (dC, dI) vwCl [(cI, .int), (cS, .short), (cJ, .long)] s) {oX nT aT nL aL nM aM oC o4 a41 a42 a43 o5 a51 a52 a53 oP nB aB oH h1 h2 oK k1 k2 oG g1 g2 oR n1 a1 n2 a2 n3 a3 r1 r2 r3 r4 r5 r6 oQ oE nq aq np ap nv av q1 q2 q3 q4 oW nw aw o7 o8 o9 w1 w2 w3 w4 w5 w6 w7 oM mT mS mX mL mB mD m1 m2 mR x1 x2 x3 mH mY mE mW mO y1 y2 y3 y4 mZ oJ : Nat} {fa : Int32} {lT : Int32} {lL : Int32} {lM : Int32} {l4 : Int32} {l5 : Int32} {ft : Int32} {lB : Int32} {lH : Int32} {lK : Int32} {gn : Int32} {lG : Int32} {lR : Int32} {l1 : Int32} {l2 : Int32} {l3 : Int32} {pr : Int32} {reE : Int32} {laE : Int32} {suE : Int32} {leE : Int32} {lq : Int32} {lp : Int32} {lv : Int32} {ke : Int32} {tl : Int32} {fsh : Int32} {wi : Int32} {ri : Int32} {fm : Int32} {lm : Int32} {lw : Int32} {re7 : Int32} {la7 : Int32} {su7 : Int32} {le7 : Int32} {re8 : Int32} {la8 : Int32} {su8 : Int32} {le8 : Int32} {re9 : Int32} {la9 : Int32} {su9 : Int32} {le9 : Int32} {zt : Int32} {zp : Int32} {zf : Int32} {zh : Int32} {zr : Int32} {zc : Int32} {zy : Int32} {za : Int32} {zb : Int32} {zs : Int32} {zq : Int32} {zw : Int32} {ze : Int32} {zn : Int32} {zm : Int32} {zl : Int32} {zk : Int32} {zd : Int32} {fT : Nat → Int32} {fL : Nat → Int32} {fM : Nat → Int32} {f41 : Nat → Int32} {f42 : Nat → Int32} {f43 : Nat → Int32} {f51 : Nat → Int32} {f52 : Nat → Int32} {f53 : Nat → Int32} {fB : Nat → Int32} {fH1 : Nat → Int32} {fH2 : Nat → Int32} {fK1 : Nat → Int32} {fK2 : Nat → Int32} {fG1 : Nat → Int32} {fG2 : Nat → Int32} {f1 : Nat → Int32} {f2 : Nat → Int32} {f3 : Nat → Int32} {fR1 : Nat → Int32} {fR2 : Nat → Int32} {fR3 : Nat → Int32} {fR4 : Nat → Int32} {fR5 : Nat → Int32} {fR6 : Nat → Int32} {fq : Nat → Int32} {fp : Nat → Int32} {fv : Nat → Int32} {fQ1 : Nat → Int32} {fQ2 : Nat → Int32} {fQ3 : Nat → Int32} {fQ4 : Nat → Int32} {fw : Nat → Int32} {fW1 : Nat → Int32} {fW2 : Nat → Int32} {fW3 : Nat → Int32} {fW4 : Nat → Int32} {fW5 : Nat → Int32} {fW6 : Nat → Int32} {fW7 : Nat → Int32} {eT : Nat → Int32} {eS : Nat → Int32} {eX : Nat → Int32} {eL : Nat → Int32} {eB : Nat → Int32} {eD : Nat → Int32} {e1 : Nat → Int32} {e2 : Nat → Int32} {eR : Nat → Int32} {ec1 : Nat → Int32} {ec2 : Nat → Int32} {ec3 : Nat → Int32} {eH : Nat → Int32} {eY : Nat → Int32} {eE : Nat → Int32} {eW : Nat → Int32} {eO : Nat → Int32} {er1 : Nat → Int32} {er2 : Nat → Int32} {er3 : Nat → Int32} {er4 : Nat → Int32} {eZ : Nat → Int32} {fJ : Nat → Int64} {H : Heap} {locs : List Loc} {ls : Array Slot} {i : Int32} {nc : Nat} (hn : nc ≤ 511) (hi : 0 ≤ i.toInt ∧ i.toInt + 5 < (L : Int)) (hL : L ≤ 3072) (hI : INV nc lT lL lM l4 l5 lB lH lK gn lG lR l1 l2 l3 lq lp lv ke fsh wi ri fm lm lw zt zp zf zh zr zc zy za zb zs zq zn zm zk fT fL f41 f42 f43 f51 f52 f53 fH1 fH2 fK1 fK2 fG1 fG2 fW4 fW5 fW6 fW7 eT eS eX eL eB eD e1 e2 ec1 ec2 ec3 eH eY eE eW eO eZ) (hP : va_P (dC, dI) vwCl (WLD cI cS cJ oX nT aT nL aL nM aM oC o4 a41 a42 a43 o5 a51 a52 a53 oP nB aB oH h1 h2 oK k1 k2 oG g1 g2 oR n1 a1 n2 a2 n3 a3 r1 r2 r3 r4 r5 r6 oQ oE nq aq np ap nv av q1 q2 q3 q4 oW nw aw o7 o8 o9 w1 w2 w3 w4 w5 w6 w7 oM mT mS mX mL mB mD m1 m2 mR x1 x2 x3 mH mY mE mW mO y1 y2 y3 y4 mZ oJ fa lT lL lM l4 l5 ft lB lH lK gn lG lR l1 l2 l3 pr reE laE suE leE lq lp lv ke tl fsh wi ri fm lm lw re7 la7 su7 le7 re8 la8 su8 le8 re9 la9 su9 le9 zt zp zf zh zr zc zy za zb zs zq zw ze zn zm zl zk zd fT fL fM f41 f42 f43 f51 f52 f53 fB fH1 fH2 fK1 fK2 fG1 fG2 f1 f2 f3 fR1 fR2 fR3 fR4 fR5 fR6 fq fp fv fQ1 fQ2 fQ3 fQ4 fw fW1 fW2 fW3 fW4 fW5 fW6 fW7 eT eS eX eL eB eD e1 e2 eR ec1 ec2 ec3 eH eY eE eW eO er1 er2 er3 er4 eZ fJ) H) (hD : va_D A (WLD cI cS cJ oX nT aT nL aL nM aM oC o4 a41 a42 a43 o5 a51 a52 a53 oP nB aB oH h1 h2 oK k1 k2 oG g1 g2 oR n1 a1 n2 a2 n3 a3 r1 r2 r3 r4 r5 r6 oQ oE nq aq np ap nv av q1 q2 q3 q4 oW nw aw o7 o8 o9 w1 w2 w3 w4 w5 w6 w7 oM mT mS mX mL mB mD m1 m2 mR x1 x2 x3 mH mY mE mW mO y1 y2 y3 y4 mZ oJ fa lT lL lM l4 l5 ft lB lH lK gn lG lR l1 l2 l3 pr reE laE suE leE lq lp lv ke tl fsh wi ri fm lm lw re7 la7 su7 le7 re8 la8 su8 le8 re9 la9 su9 le9 zt zp zf zh zr zc zy za zb zs zq zw ze zn zm zl zk zd fT fL fM f41 f42 f43 f51 f52 f53 fB fH1 fH2 fK1 fK2 fG1 fG2 f1 f2 f3 fR1 fR2 fR3 fR4 fR5 fR6 fq fp fv fQ1 fQ2 fQ3 fQ4 fw fW1 fW2 fW3 fW4 fW5 fW6 fW7 eT eS eX eL eB eD e1 e2 eR ec1 ec2 ec3 eH eY eE eW eO er1 er2 er3 er4 eZ fJ)) (hS : va_S A s.heap H locs) (hl : lv_has ls 7 [(0, .ref b), (1, .ref oX), (2, .ref oM), (3, .ref oJ), (4, .int i)]) (kk : KK p l e s m below meth c dC dI cI cS cJ A b oX nT aT nL aL nM aM oC o4 a41 a42 a43 o5 a51 a52 a53 oP nB aB oH h1 h2 oK k1 k2 oG g1 g2 oR n1 a1 n2 a2 n3 a3 r1 r2 r3 r4 r5 r6 oQ oE nq aq np ap nv av q1 q2 q3 q4 oW nw aw o7 o8 o9 w1 w2 w3 w4 w5 w6 w7 oM mT mS mX mL mB mD m1 m2 mR x1 x2 x3 mH mY mE mW mO y1 y2 y3 y4 mZ oJ i nc) : W p l e room_1 s m #[Value.ref b] below meth c H locs (90 + nc) (172225 + 6 * nc) (lw_Z below #[Value.ref b] s) (F0 m 513 ls []) := by
  refine And.elim (fun hx hBC_0 => ?_) C0
  refine And.elim (fun hb hBC_1 => ?_) hBC_0
  refine And.elim (fun hr hBC_2 => ?_) hBC_1
  refine And.elim (fun hml hBC_3 => ?_) hBC_2
  refine And.elim (fun hown hBC_4 => ?_) hBC_3
  refine And.elim (fun hts0 hBC_5 => ?_) hBC_4
  refine And.elim (fun hX hBC_6 => ?_) hBC_5
  refine And.elim (fun hbl hBC_7 => ?_) hBC_6
  refine And.elim (fun hlocks hBC_8 => ?_) hBC_7
  have hgv := hBC_8
  clear hBC_0 hBC_1 hBC_2 hBC_3 hBC_4 hBC_5 hBC_6 hBC_7 hBC_8
  refine And.elim (fun g_lT hBI_0 => ?_) hI
  refine And.elim (fun g_lL hBI_1 => ?_) hBI_0
  refine And.elim (fun g_lM hBI_2 => ?_) hBI_1
  refine And.elim (fun g_lB hBI_3 => ?_) hBI_2
  refine And.elim (fun g_lH hBI_4 => ?_) hBI_3
  refine And.elim (fun g_lK hBI_5 => ?_) hBI_4
  refine And.elim (fun g_gn hBI_6 => ?_) hBI_5
  refine And.elim (fun g_lG hBI_7 => ?_) hBI_6
  refine And.elim (fun g_lR hBI_8 => ?_) hBI_7
  refine And.elim (fun g_l1 hBI_9 => ?_) hBI_8
  refine And.elim (fun g_l2 hBI_10 => ?_) hBI_9
  refine And.elim (fun g_l3 hBI_11 => ?_) hBI_10
  refine And.elim (fun g_lq hBI_12 => ?_) hBI_11
  refine And.elim (fun g_lp hBI_13 => ?_) hBI_12
  refine And.elim (fun g_lv hBI_14 => ?_) hBI_13
  refine And.elim (fun g_ke hBI_15 => ?_) hBI_14
  refine And.elim (fun g_fsh hBI_16 => ?_) hBI_15
  refine And.elim (fun g_fm hBI_17 => ?_) hBI_16
  refine And.elim (fun g_lm hBI_18 => ?_) hBI_17
  refine And.elim (fun g_lw hBI_19 => ?_) hBI_18
  refine And.elim (fun g_zt hBI_20 => ?_) hBI_19
  refine And.elim (fun g_zp hBI_21 => ?_) hBI_20
  refine And.elim (fun g_zf hBI_22 => ?_) hBI_21
  refine And.elim (fun g_zh hBI_23 => ?_) hBI_22
  refine And.elim (fun g_zr hBI_24 => ?_) hBI_23
  refine And.elim (fun g_zc hBI_25 => ?_) hBI_24
  refine And.elim (fun g_zy hBI_26 => ?_) hBI_25
  refine And.elim (fun g_za hBI_27 => ?_) hBI_26
  refine And.elim (fun g_zb hBI_28 => ?_) hBI_27
  refine And.elim (fun g_zs hBI_29 => ?_) hBI_28
  refine And.elim (fun g_zq hBI_30 => ?_) hBI_29
  refine And.elim (fun g_zn hBI_31 => ?_) hBI_30
  refine And.elim (fun g_zm hBI_32 => ?_) hBI_31
  refine And.elim (fun g_zk hBI_33 => ?_) hBI_32
  refine And.elim (fun g_fG2 hBI_34 => ?_) hBI_33
  refine And.elim (fun g_eS hBI_35 => ?_) hBI_34
  refine And.elim (fun g_eX hBI_36 => ?_) hBI_35
  refine And.elim (fun g_eL hBI_37 => ?_) hBI_36
  refine And.elim (fun g_eB hBI_38 => ?_) hBI_37
  refine And.elim (fun g_e1 hBI_39 => ?_) hBI_38
  refine And.elim (fun g_e2 hBI_40 => ?_) hBI_39
  refine And.elim (fun g_eY hBI_41 => ?_) hBI_40
  refine And.elim (fun g_eE hBI_42 => ?_) hBI_41
  refine And.elim (fun g_eW hBI_43 => ?_) hBI_42
  refine And.elim (fun g_eO hBI_44 => ?_) hBI_43
  refine And.elim (fun g_eZ hBI_45 => ?_) hBI_44
  refine And.elim (fun hzn hBI_46 => ?_) hBI_45
  refine And.elim (fun hrel hBI_47 => ?_) hBI_46
  refine And.elim (fun hrc hBI_48 => ?_) hBI_47
  refine And.elim (fun hr4 hBI_49 => ?_) hBI_48
  refine And.elim (fun hr5 hBI_50 => ?_) hBI_49
  refine And.elim (fun hb4 hBI_51 => ?_) hBI_50
  refine And.elim (fun hb5 hBI_52 => ?_) hBI_51
  refine And.elim (fun hlz hBI_53 => ?_) hBI_52
  refine And.elim (fun hH hBI_54 => ?_) hBI_53
  refine And.elim (fun hHe hBI_55 => ?_) hBI_54
  refine And.elim (fun hKz hBI_56 => ?_) hBI_55
  refine And.elim (fun hT hBI_57 => ?_) hBI_56
  refine And.elim (fun ho hBI_58 => ?_) hBI_57
  refine And.elim (fun hal hBI_59 => ?_) hBI_58
  refine And.elim (fun hCV hBI_60 => ?_) hBI_59
  refine And.elim (fun hVk hBI_61 => ?_) hBI_60
  refine And.elim (fun hVr hBI_62 => ?_) hBI_61
  refine And.elim (fun hTX hBI_63 => ?_) hBI_62
  refine And.elim (fun hCH hBI_64 => ?_) hBI_63
  refine And.elim (fun hvc hBI_65 => ?_) hBI_64
  refine And.elim (fun hfr hBI_66 => ?_) hBI_65
  refine And.elim (fun hfx hBI_67 => ?_) hBI_66
  have hfs := hBI_67
  clear hI hBI_0 hBI_1 hBI_2 hBI_3 hBI_4 hBI_5 hBI_6 hBI_7 hBI_8 hBI_9 hBI_10 hBI_11 hBI_12 hBI_13 hBI_14 hBI_15 hBI_16 hBI_17 hBI_18 hBI_19 hBI_20 hBI_21 hBI_22 hBI_23 hBI_24 hBI_25 hBI_26 hBI_27 hBI_28 hBI_29 hBI_30 hBI_31 hBI_32 hBI_33 hBI_34 hBI_35 hBI_36 hBI_37 hBI_38 hBI_39 hBI_40 hBI_41 hBI_42 hBI_43 hBI_44 hBI_45 hBI_46 hBI_47 hBI_48 hBI_49 hBI_50 hBI_51 hBI_52 hBI_53 hBI_54 hBI_55 hBI_56 hBI_57 hBI_58 hBI_59 hBI_60 hBI_61 hBI_62 hBI_63 hBI_64 hBI_65 hBI_66 hBI_67
  have hK : va_K (dC, dI) vwCl [(cI, .int), (cS, .short)] s := hK3.sub [0, 1] rfl
  have hown : s.vm.findClass RL = some m.cls := hown
  have hts := hts0
  have hcf := k_cf hx hb hml hown hts
  have hi9 : 0 ≤ i.toInt ∧ i.toInt ≤ 3066 := by omega
  have hzs : zs.toInt ≤ 1000000 := by omega
  have hA : ∀ q : Nat, s.heap.size ≤ q → A q := fun q h => by rw [hAd]; exact h
  have hbA : ¬ A b := by rw [hAd]; exact Nat.not_le.mpr hbl
  have hP : va_P (dC, dI) vwCl [(oX, .inr (11, [.ref nT, .ref nL, .ref nM, .ref oC, .ref oP, .ref oH, .ref oK, .ref oG, .ref oR, .ref oQ, .ref oW, .int fa])), (nT, .inr (5, [.ref aT, .int lT])), (aT, .inl (cI, 900, .inl fT)), (nL, .inr (5, [.ref aL, .int lL])), (aL, .inl (cI, 300, .inl fL)), (nM, .inr (5, [.ref aM, .int lM])), (aM, .inl (cI, 300, .inl fM)), (oC, .inr (2, [.ref o4, .ref o5])), (o4, .inr (10, [.ref a41, .ref a42, .ref a43, .int l4])), (a41, .inl (cI, 256, .inl f41)), (a42, .inl (cI, 512, .inl f42)), (a43, .inl (cI, 512, .inl f43)), (o5, .inr (10, [.ref a51, .ref a52, .ref a53, .int l5])), (a51, .inl (cI, 256, .inl f51)), (a52, .inl (cI, 512, .inl f52)), (a53, .inl (cI, 512, .inl f53)), (oP, .inr (7, [.ref oC, .ref nB, .int ft])), (nB, .inr (5, [.ref aB, .int lB])), (aB, .inl (cI, 2400, .inl fB)), (oH, .inr (4, [.ref oP, .ref h1, .ref h2, .int lH])), (h1, .inl (cI, 6, .inl fH1)), (h2, .inl (cI, 6, .inl fH2)), (oK, .inr (3, [.ref k1, .ref k2, .int lK])), (k1, .inl (cI, 1024, .inl fK1)), (k2, .inl (cI, 1024, .inl fK2)), (oG, .inr (0, [.ref g1, .ref g2, .int gn, .int lG])), (g1, .inl (cI, 6000, .inl fG1)), (g2, .inl (cI, 20, .inl fG2)), (oR, .inr (9, [.ref oH, .ref oK, .ref n1, .ref n2, .ref n3, .ref r1, .ref r2, .ref r3, .ref r4, .ref r5, .ref r6, .int lR])), (n1, .inr (5, [.ref a1, .int l1])), (a1, .inl (cI, 300, .inl f1)), (n2, .inr (5, [.ref a2, .int l2])), (a2, .inl (cI, 300, .inl f2)), (n3, .inr (5, [.ref a3, .int l3])), (a3, .inl (cI, 300, .inl f3)), (r1, .inl (cI, 258, .inl fR1)), (r2, .inl (cI, 258, .inl fR2)), (r3, .inl (cI, 774, .inl fR3)), (r4, .inl (cI, 258, .inl fR4)), (r5, .inl (cI, 258, .inl fR5)), (r6, .inl (cI, 774, .inl fR6)), (oQ, .inr (6, [.ref oC, .ref oH, .ref oK, .ref oE, .ref nq, .ref np, .ref nv, .ref q1, .ref q2, .ref q3, .ref q4, .int pr])), (oE, .inr (8, [.ref oC, .ref oK, .int reE, .int laE, .int suE, .int leE])), (nq, .inr (5, [.ref aq, .int lq])), (aq, .inl (cI, 480, .inl fq)), (np, .inr (5, [.ref ap, .int lp])), (ap, .inl (cI, 300, .inl fp)), (nv, .inr (5, [.ref av, .int lv])), (av, .inl (cI, 300, .inl fv)), (q1, .inl (cI, 61, .inl fQ1)), (q2, .inl (cI, 61, .inl fQ2)), (q3, .inl (cI, 61, .inl fQ3)), (q4, .inl (cI, 61, .inl fQ4)), (oW, .inr (1, [.ref oC, .ref oK, .ref nw, .ref w1, .ref w2, .ref w3, .ref o7, .ref o8, .ref o9, .ref w4, .ref w5, .ref w6, .ref w7, .int ke, .int tl, .int fsh, .int wi, .int ri, .int fm, .int lm])), (nw, .inr (5, [.ref aw, .int lw])), (aw, .inl (cI, 800, .inl fw)), (o7, .inr (8, [.ref oC, .ref oK, .int re7, .int la7, .int su7, .int le7])), (o8, .inr (8, [.ref oC, .ref oK, .int re8, .int la8, .int su8, .int le8])), (o9, .inr (8, [.ref oC, .ref oK, .int re9, .int la9, .int su9, .int le9])), (w1, .inl (cI, 801, .inl fW1)), (w2, .inl (cI, 801, .inl fW2)), (w3, .inl (cI, 801, .inl fW3)), (w4, .inl (cI, 200, .inl fW4)), (w5, .inl (cI, 200, .inl fW5)), (w6, .inl (cI, 200, .inl fW6)), (w7, .inl (cI, 200, .inl fW7)), (oM, .inr (12, [.ref mT, .int zt, .ref mS, .ref mX, .int zp, .int zf, .ref mL, .ref mB, .ref mD, .ref m1, .ref m2, .int zh, .ref mR, .int zr, .ref x1, .ref x2, .ref x3, .int zc, .ref mH, .int zy, .int za, .int zb, .int zs, .int zq, .int zw, .int ze, .ref mY, .int zn, .ref mE, .int zm, .int zl, .ref mW, .int zk, .ref mO, .int zd, .ref y1, .ref y2, .ref y3, .ref y4, .ref mZ])), (mT, .inl (cI, 900, .inl eT)), (mS, .inl (cI, 21, .inl eS)), (mX, .inl (cI, 6300, .inl eX)), (mL, .inl (cI, 512, .inl eL)), (mB, .inl (cS, 131072, .inl eB)), (mD, .inl (cI, 2, .inl eD)), (m1, .inl (cI, 6, .inl e1)), (m2, .inl (cI, 6, .inl e2)), (mR, .inl (cI, 1548, .inl eR)), (x1, .inl (cI, 300, .inl ec1)), (x2, .inl (cI, 300, .inl ec2)), (x3, .inl (cI, 300, .inl ec3)), (mH, .inl (cI, 800, .inl eH)), (mY, .inl (cI, 2600, .inl eY)), (mE, .inl (cI, 2600, .inl eE)), (mW, .inl (cI, 300, .inl eW)), (mO, .inl (cI, 300, .inl eO)), (y1, .inl (cI, 61, .inl er1)), (y2, .inl (cI, 61, .inl er2)), (y3, .inl (cI, 61, .inl er3)), (y4, .inl (cI, 61, .inl er4)), (mZ, .inl (cI, 600, .inl eZ)), (oJ, .inl (cJ, 1, .inr (.inl fJ)))] H := hP
  have hD : va_D A [(oX, .inr (11, [.ref nT, .ref nL, .ref nM, .ref oC, .ref oP, .ref oH, .ref oK, .ref oG, .ref oR, .ref oQ, .ref oW, .int fa])), (nT, .inr (5, [.ref aT, .int lT])), (aT, .inl (cI, 900, .inl fT)), (nL, .inr (5, [.ref aL, .int lL])), (aL, .inl (cI, 300, .inl fL)), (nM, .inr (5, [.ref aM, .int lM])), (aM, .inl (cI, 300, .inl fM)), (oC, .inr (2, [.ref o4, .ref o5])), (o4, .inr (10, [.ref a41, .ref a42, .ref a43, .int l4])), (a41, .inl (cI, 256, .inl f41)), (a42, .inl (cI, 512, .inl f42)), (a43, .inl (cI, 512, .inl f43)), (o5, .inr (10, [.ref a51, .ref a52, .ref a53, .int l5])), (a51, .inl (cI, 256, .inl f51)), (a52, .inl (cI, 512, .inl f52)), (a53, .inl (cI, 512, .inl f53)), (oP, .inr (7, [.ref oC, .ref nB, .int ft])), (nB, .inr (5, [.ref aB, .int lB])), (aB, .inl (cI, 2400, .inl fB)), (oH, .inr (4, [.ref oP, .ref h1, .ref h2, .int lH])), (h1, .inl (cI, 6, .inl fH1)), (h2, .inl (cI, 6, .inl fH2)), (oK, .inr (3, [.ref k1, .ref k2, .int lK])), (k1, .inl (cI, 1024, .inl fK1)), (k2, .inl (cI, 1024, .inl fK2)), (oG, .inr (0, [.ref g1, .ref g2, .int gn, .int lG])), (g1, .inl (cI, 6000, .inl fG1)), (g2, .inl (cI, 20, .inl fG2)), (oR, .inr (9, [.ref oH, .ref oK, .ref n1, .ref n2, .ref n3, .ref r1, .ref r2, .ref r3, .ref r4, .ref r5, .ref r6, .int lR])), (n1, .inr (5, [.ref a1, .int l1])), (a1, .inl (cI, 300, .inl f1)), (n2, .inr (5, [.ref a2, .int l2])), (a2, .inl (cI, 300, .inl f2)), (n3, .inr (5, [.ref a3, .int l3])), (a3, .inl (cI, 300, .inl f3)), (r1, .inl (cI, 258, .inl fR1)), (r2, .inl (cI, 258, .inl fR2)), (r3, .inl (cI, 774, .inl fR3)), (r4, .inl (cI, 258, .inl fR4)), (r5, .inl (cI, 258, .inl fR5)), (r6, .inl (cI, 774, .inl fR6)), (oQ, .inr (6, [.ref oC, .ref oH, .ref oK, .ref oE, .ref nq, .ref np, .ref nv, .ref q1, .ref q2, .ref q3, .ref q4, .int pr])), (oE, .inr (8, [.ref oC, .ref oK, .int reE, .int laE, .int suE, .int leE])), (nq, .inr (5, [.ref aq, .int lq])), (aq, .inl (cI, 480, .inl fq)), (np, .inr (5, [.ref ap, .int lp])), (ap, .inl (cI, 300, .inl fp)), (nv, .inr (5, [.ref av, .int lv])), (av, .inl (cI, 300, .inl fv)), (q1, .inl (cI, 61, .inl fQ1)), (q2, .inl (cI, 61, .inl fQ2)), (q3, .inl (cI, 61, .inl fQ3)), (q4, .inl (cI, 61, .inl fQ4)), (oW, .inr (1, [.ref oC, .ref oK, .ref nw, .ref w1, .ref w2, .ref w3, .ref o7, .ref o8, .ref o9, .ref w4, .ref w5, .ref w6, .ref w7, .int ke, .int tl, .int fsh, .int wi, .int ri, .int fm, .int lm])), (nw, .inr (5, [.ref aw, .int lw])), (aw, .inl (cI, 800, .inl fw)), (o7, .inr (8, [.ref oC, .ref oK, .int re7, .int la7, .int su7, .int le7])), (o8, .inr (8, [.ref oC, .ref oK, .int re8, .int la8, .int su8, .int le8])), (o9, .inr (8, [.ref oC, .ref oK, .int re9, .int la9, .int su9, .int le9])), (w1, .inl (cI, 801, .inl fW1)), (w2, .inl (cI, 801, .inl fW2)), (w3, .inl (cI, 801, .inl fW3)), (w4, .inl (cI, 200, .inl fW4)), (w5, .inl (cI, 200, .inl fW5)), (w6, .inl (cI, 200, .inl fW6)), (w7, .inl (cI, 200, .inl fW7)), (oM, .inr (12, [.ref mT, .int zt, .ref mS, .ref mX, .int zp, .int zf, .ref mL, .ref mB, .ref mD, .ref m1, .ref m2, .int zh, .ref mR, .int zr, .ref x1, .ref x2, .ref x3, .int zc, .ref mH, .int zy, .int za, .int zb, .int zs, .int zq, .int zw, .int ze, .ref mY, .int zn, .ref mE, .int zm, .int zl, .ref mW, .int zk, .ref mO, .int zd, .ref y1, .ref y2, .ref y3, .ref y4, .ref mZ])), (mT, .inl (cI, 900, .inl eT)), (mS, .inl (cI, 21, .inl eS)), (mX, .inl (cI, 6300, .inl eX)), (mL, .inl (cI, 512, .inl eL)), (mB, .inl (cS, 131072, .inl eB)), (mD, .inl (cI, 2, .inl eD)), (m1, .inl (cI, 6, .inl e1)), (m2, .inl (cI, 6, .inl e2)), (mR, .inl (cI, 1548, .inl eR)), (x1, .inl (cI, 300, .inl ec1)), (x2, .inl (cI, 300, .inl ec2)), (x3, .inl (cI, 300, .inl ec3)), (mH, .inl (cI, 800, .inl eH)), (mY, .inl (cI, 2600, .inl eY)), (mE, .inl (cI, 2600, .inl eE)), (mW, .inl (cI, 300, .inl eW)), (mO, .inl (cI, 300, .inl eO)), (y1, .inl (cI, 61, .inl er1)), (y2, .inl (cI, 61, .inl er2)), (y3, .inl (cI, 61, .inl er3)), (y4, .inl (cI, 61, .inl er4)), (mZ, .inl (cI, 600, .inl eZ)), (oJ, .inl (cJ, 1, .inr (.inl fJ)))] := hD
  replace g_lT := hid g_lT
  replace g_lM := hid g_lM
  replace g_lB := hid g_lB
  replace g_lR := hid g_lR
  replace g_l1 := hid g_l1
  replace g_l2 := hid g_l2
  replace g_l3 := hid g_l3
  replace g_lq := hid g_lq
  replace g_lp := hid g_lp
  replace g_lv := hid g_lv
  replace g_fm := hid g_fm
  replace g_lm := hid g_lm
  replace g_lw := hid g_lw
  replace g_zt := hid g_zt
  replace g_zr := hid g_zr
  replace g_zn := hid g_zn
  replace g_zm := hid g_zm
  replace g_zk := hid g_zk
  refine lv_aload_n hx hb dL_law_513 rfl (lv_at hl 1 rfl) ?_
  refine kV_i (rest := []) (q0 := 0) (ci := 11) hcf (x_where l dC dI cI cS H.size oX nT nL nM oC oP oH oK oG oR oQ oW fa ) kc_X11_where gL_law_X11_where rfl rfl rfl ⟨Nat.le_of_ble_eq_true rfl, Nat.le_of_ble_eq_true rfl⟩ kX_t hK hP hD hS hA (posT mk_18 0) (posF mk_18 0) (kC_of mk_18 rfl rfl) (by decide +kernel) rfl rfl rfl hl rfl (Nat.le_of_ble_eq_true rfl) dL_law_514 ⟨kfit1 hn (Nat.le_of_ble_eq_true rfl), ksix1 hn (Nat.le_of_ble_eq_true rfl)⟩ (fun r_1 H locs hB hJ hSn => ?_)
  refine And.elim (fun hPD9 hB1_0 => ?_) hB
  have hf1_0 := hB1_0
  clear hB hB1_0
  obtain ⟨hPn, hDn⟩ := kJi (m := mk_18) hJ rfl hPD9.1 hPD9.2 (wn := [(oX, .inr (11, [.ref nT, .ref nL, .ref nM, .ref oC, .ref oP, .ref oH, .ref oK, .ref oG, .ref oR, .ref oQ, .ref oW, .int fa])), (nT, .inr (5, [.ref aT, .int lT])), (aT, .inl (cI, 900, .inl fT)), (nL, .inr (5, [.ref aL, .int lL])), (aL, .inl (cI, 300, .inl fL)), (nM, .inr (5, [.ref aM, .int lM])), (aM, .inl (cI, 300, .inl fM)), (oC, .inr (2, [.ref o4, .ref o5])), (o4, .inr (10, [.ref a41, .ref a42, .ref a43, .int l4])), (a41, .inl (cI, 256, .inl f41)), (a42, .inl (cI, 512, .inl f42)), (a43, .inl (cI, 512, .inl f43)), (o5, .inr (10, [.ref a51, .ref a52, .ref a53, .int l5])), (a51, .inl (cI, 256, .inl f51)), (a52, .inl (cI, 512, .inl f52)), (a53, .inl (cI, 512, .inl f53)), (oP, .inr (7, [.ref oC, .ref nB, .int ft])), (nB, .inr (5, [.ref aB, .int lB])), (aB, .inl (cI, 2400, .inl fB)), (oH, .inr (4, [.ref oP, .ref h1, .ref h2, .int lH])), (h1, .inl (cI, 6, .inl fH1)), (h2, .inl (cI, 6, .inl fH2)), (oK, .inr (3, [.ref k1, .ref k2, .int lK])), (k1, .inl (cI, 1024, .inl fK1)), (k2, .inl (cI, 1024, .inl fK2)), (oG, .inr (0, [.ref g1, .ref g2, .int gn, .int lG])), (g1, .inl (cI, 6000, .inl fG1)), (g2, .inl (cI, 20, .inl fG2)), (oR, .inr (9, [.ref oH, .ref oK, .ref n1, .ref n2, .ref n3, .ref r1, .ref r2, .ref r3, .ref r4, .ref r5, .ref r6, .int lR])), (n1, .inr (5, [.ref a1, .int l1])), (a1, .inl (cI, 300, .inl f1)), (n2, .inr (5, [.ref a2, .int l2])), (a2, .inl (cI, 300, .inl f2)), (n3, .inr (5, [.ref a3, .int l3])), (a3, .inl (cI, 300, .inl f3)), (r1, .inl (cI, 258, .inl fR1)), (r2, .inl (cI, 258, .inl fR2)), (r3, .inl (cI, 774, .inl fR3)), (r4, .inl (cI, 258, .inl fR4)), (r5, .inl (cI, 258, .inl fR5)), (r6, .inl (cI, 774, .inl fR6)), (oQ, .inr (6, [.ref oC, .ref oH, .ref oK, .ref oE, .ref nq, .ref np, .ref nv, .ref q1, .ref q2, .ref q3, .ref q4, .int pr])), (oE, .inr (8, [.ref oC, .ref oK, .int reE, .int laE, .int suE, .int leE])), (nq, .inr (5, [.ref aq, .int lq])), (aq, .inl (cI, 480, .inl fq)), (np, .inr (5, [.ref ap, .int lp])), (ap, .inl (cI, 300, .inl fp)), (nv, .inr (5, [.ref av, .int lv])), (av, .inl (cI, 300, .inl fv)), (q1, .inl (cI, 61, .inl fQ1)), (q2, .inl (cI, 61, .inl fQ2)), (q3, .inl (cI, 61, .inl fQ3)), (q4, .inl (cI, 61, .inl fQ4)), (oW, .inr (1, [.ref oC, .ref oK, .ref nw, .ref w1, .ref w2, .ref w3, .ref o7, .ref o8, .ref o9, .ref w4, .ref w5, .ref w6, .ref w7, .int ke, .int tl, .int fsh, .int wi, .int ri, .int fm, .int lm])), (nw, .inr (5, [.ref aw, .int lw])), (aw, .inl (cI, 800, .inl fw)), (o7, .inr (8, [.ref oC, .ref oK, .int re7, .int la7, .int su7, .int le7])), (o8, .inr (8, [.ref oC, .ref oK, .int re8, .int la8, .int su8, .int le8])), (o9, .inr (8, [.ref oC, .ref oK, .int re9, .int la9, .int su9, .int le9])), (w1, .inl (cI, 801, .inl fW1)), (w2, .inl (cI, 801, .inl fW2)), (w3, .inl (cI, 801, .inl fW3)), (w4, .inl (cI, 200, .inl fW4)), (w5, .inl (cI, 200, .inl fW5)), (w6, .inl (cI, 200, .inl fW6)), (w7, .inl (cI, 200, .inl fW7)), (oM, .inr (12, [.ref mT, .int zt, .ref mS, .ref mX, .int zp, .int zf, .ref mL, .ref mB, .ref mD, .ref m1, .ref m2, .int zh, .ref mR, .int zr, .ref x1, .ref x2, .ref x3, .int zc, .ref mH, .int zy, .int za, .int zb, .int zs, .int zq, .int zw, .int ze, .ref mY, .int zn, .ref mE, .int zm, .int zl, .ref mW, .int zk, .ref mO, .int zd, .ref y1, .ref y2, .ref y3, .ref y4, .ref mZ])), (mT, .inl (cI, 900, .inl eT)), (mS, .inl (cI, 21, .inl eS)), (mX, .inl (cI, 6300, .inl eX)), (mL, .inl (cI, 512, .inl eL)), (mB, .inl (cS, 131072, .inl eB)), (mD, .inl (cI, 2, .inl eD)), (m1, .inl (cI, 6, .inl e1)), (m2, .inl (cI, 6, .inl e2)), (mR, .inl (cI, 1548, .inl eR)), (x1, .inl (cI, 300, .inl ec1)), (x2, .inl (cI, 300, .inl ec2)), (x3, .inl (cI, 300, .inl ec3)), (mH, .inl (cI, 800, .inl eH)), (mY, .inl (cI, 2600, .inl eY)), (mE, .inl (cI, 2600, .inl eE)), (mW, .inl (cI, 300, .inl eW)), (mO, .inl (cI, 300, .inl eO)), (y1, .inl (cI, 61, .inl er1)), (y2, .inl (cI, 61, .inl er2)), (y3, .inl (cI, 61, .inl er3)), (y4, .inl (cI, 61, .inl er4)), (mZ, .inl (cI, 600, .inl eZ)), (oJ, .inl (cJ, 1, .inr (.inl fJ)))]) rfl
  clear hP hD hS hJ hPD9
  have hP := hPn
  have hD := hDn
  have hS := hSn
  clear hPn hDn hSn
  rw [hf1_0]
  refine lv_pop hx hb dL_law_517 rfl ?_
  refine lv_aload_n hx hb dL_law_518 rfl (lv_at hl 2 rfl) ?_
  refine kV_i (rest := []) (q0 := 0) (ci := 12) hcf (y_where l dC dI cI cS H.size oM mT mS mX mL mB mD m1 m2 mR x1 x2 x3 mH mY mE mW mO y1 y2 y3 y4 mZ zt zp zf zh zr zc zy za zb zs zq zw ze zn zm zl zk zd (g_zt) (g_zp) (g_zf) (g_zh) (g_zr) (g_zc) (g_zy) (g_za) (g_zb) (g_zs) (g_zq) (g_zn) (g_zm) (g_zk) (by omega)) kc_X12_where gL_law_X12_where rfl rfl rfl ⟨Nat.le_of_ble_eq_true rfl, Nat.le_of_ble_eq_true rfl⟩ kX_t hK hP hD hS hA (posT mk_3 0) (posF mk_3 0) (kC_of mk_3 rfl rfl) (by decide +kernel) rfl rfl rfl hl rfl (Nat.le_of_ble_eq_true rfl) dL_law_519 ⟨kfit2 hn (Nat.le_of_ble_eq_true rfl), ksix2 hn (Nat.le_of_ble_eq_true rfl)⟩ (fun r_2 H locs hB hJ hSn => ?_)
  refine Exists.elim hB (fun ze_2 hB2_0 => ?_)
  refine And.elim (fun hPD9 hB2_1 => ?_) hB2_0
  have hf2_0 := hB2_1
  clear hB hB2_0 hB2_1
  obtain ⟨hPn, hDn⟩ := kJi (m := mk_3) hJ rfl hPD9.1 hPD9.2 (wn := [(oX, .inr (11, [.ref nT, .ref nL, .ref nM, .ref oC, .ref oP, .ref oH, .ref oK, .ref oG, .ref oR, .ref oQ, .ref oW, .int fa])), (nT, .inr (5, [.ref aT, .int lT])), (aT, .inl (cI, 900, .inl fT)), (nL, .inr (5, [.ref aL, .int lL])), (aL, .inl (cI, 300, .inl fL)), (nM, .inr (5, [.ref aM, .int lM])), (aM, .inl (cI, 300, .inl fM)), (oC, .inr (2, [.ref o4, .ref o5])), (o4, .inr (10, [.ref a41, .ref a42, .ref a43, .int l4])), (a41, .inl (cI, 256, .inl f41)), (a42, .inl (cI, 512, .inl f42)), (a43, .inl (cI, 512, .inl f43)), (o5, .inr (10, [.ref a51, .ref a52, .ref a53, .int l5])), (a51, .inl (cI, 256, .inl f51)), (a52, .inl (cI, 512, .inl f52)), (a53, .inl (cI, 512, .inl f53)), (oP, .inr (7, [.ref oC, .ref nB, .int ft])), (nB, .inr (5, [.ref aB, .int lB])), (aB, .inl (cI, 2400, .inl fB)), (oH, .inr (4, [.ref oP, .ref h1, .ref h2, .int lH])), (h1, .inl (cI, 6, .inl fH1)), (h2, .inl (cI, 6, .inl fH2)), (oK, .inr (3, [.ref k1, .ref k2, .int lK])), (k1, .inl (cI, 1024, .inl fK1)), (k2, .inl (cI, 1024, .inl fK2)), (oG, .inr (0, [.ref g1, .ref g2, .int gn, .int lG])), (g1, .inl (cI, 6000, .inl fG1)), (g2, .inl (cI, 20, .inl fG2)), (oR, .inr (9, [.ref oH, .ref oK, .ref n1, .ref n2, .ref n3, .ref r1, .ref r2, .ref r3, .ref r4, .ref r5, .ref r6, .int lR])), (n1, .inr (5, [.ref a1, .int l1])), (a1, .inl (cI, 300, .inl f1)), (n2, .inr (5, [.ref a2, .int l2])), (a2, .inl (cI, 300, .inl f2)), (n3, .inr (5, [.ref a3, .int l3])), (a3, .inl (cI, 300, .inl f3)), (r1, .inl (cI, 258, .inl fR1)), (r2, .inl (cI, 258, .inl fR2)), (r3, .inl (cI, 774, .inl fR3)), (r4, .inl (cI, 258, .inl fR4)), (r5, .inl (cI, 258, .inl fR5)), (r6, .inl (cI, 774, .inl fR6)), (oQ, .inr (6, [.ref oC, .ref oH, .ref oK, .ref oE, .ref nq, .ref np, .ref nv, .ref q1, .ref q2, .ref q3, .ref q4, .int pr])), (oE, .inr (8, [.ref oC, .ref oK, .int reE, .int laE, .int suE, .int leE])), (nq, .inr (5, [.ref aq, .int lq])), (aq, .inl (cI, 480, .inl fq)), (np, .inr (5, [.ref ap, .int lp])), (ap, .inl (cI, 300, .inl fp)), (nv, .inr (5, [.ref av, .int lv])), (av, .inl (cI, 300, .inl fv)), (q1, .inl (cI, 61, .inl fQ1)), (q2, .inl (cI, 61, .inl fQ2)), (q3, .inl (cI, 61, .inl fQ3)), (q4, .inl (cI, 61, .inl fQ4)), (oW, .inr (1, [.ref oC, .ref oK, .ref nw, .ref w1, .ref w2, .ref w3, .ref o7, .ref o8, .ref o9, .ref w4, .ref w5, .ref w6, .ref w7, .int ke, .int tl, .int fsh, .int wi, .int ri, .int fm, .int lm])), (nw, .inr (5, [.ref aw, .int lw])), (aw, .inl (cI, 800, .inl fw)), (o7, .inr (8, [.ref oC, .ref oK, .int re7, .int la7, .int su7, .int le7])), (o8, .inr (8, [.ref oC, .ref oK, .int re8, .int la8, .int su8, .int le8])), (o9, .inr (8, [.ref oC, .ref oK, .int re9, .int la9, .int su9, .int le9])), (w1, .inl (cI, 801, .inl fW1)), (w2, .inl (cI, 801, .inl fW2)), (w3, .inl (cI, 801, .inl fW3)), (w4, .inl (cI, 200, .inl fW4)), (w5, .inl (cI, 200, .inl fW5)), (w6, .inl (cI, 200, .inl fW6)), (w7, .inl (cI, 200, .inl fW7)), (oM, .inr (12, [.ref mT, .int zt, .ref mS, .ref mX, .int zp, .int zf, .ref mL, .ref mB, .ref mD, .ref m1, .ref m2, .int zh, .ref mR, .int zr, .ref x1, .ref x2, .ref x3, .int zc, .ref mH, .int zy, .int za, .int zb, .int zs, .int zq, .int zw, .int ze_2, .ref mY, .int zn, .ref mE, .int zm, .int zl, .ref mW, .int zk, .ref mO, .int zd, .ref y1, .ref y2, .ref y3, .ref y4, .ref mZ])), (mT, .inl (cI, 900, .inl eT)), (mS, .inl (cI, 21, .inl eS)), (mX, .inl (cI, 6300, .inl eX)), (mL, .inl (cI, 512, .inl eL)), (mB, .inl (cS, 131072, .inl eB)), (mD, .inl (cI, 2, .inl eD)), (m1, .inl (cI, 6, .inl e1)), (m2, .inl (cI, 6, .inl e2)), (mR, .inl (cI, 1548, .inl eR)), (x1, .inl (cI, 300, .inl ec1)), (x2, .inl (cI, 300, .inl ec2)), (x3, .inl (cI, 300, .inl ec3)), (mH, .inl (cI, 800, .inl eH)), (mY, .inl (cI, 2600, .inl eY)), (mE, .inl (cI, 2600, .inl eE)), (mW, .inl (cI, 300, .inl eW)), (mO, .inl (cI, 300, .inl eO)), (y1, .inl (cI, 61, .inl er1)), (y2, .inl (cI, 61, .inl er2)), (y3, .inl (cI, 61, .inl er3)), (y4, .inl (cI, 61, .inl er4)), (mZ, .inl (cI, 600, .inl eZ)), (oJ, .inl (cJ, 1, .inr (.inl fJ)))]) rfl
  clear hP hD hS hJ hPD9
  have hP := hPn
  have hD := hDn
  have hS := hSn
  clear hPn hDn hSn
  rw [hf2_0]
  refine lv_pop hx hb dL_law_522 rfl ?_
  refine lv_goto (tgt := 1022) hx hb dL_law_523 (by decide) ?_
  refine W.widen (k := 90 + (nc + 1)) (n := 172225 + 6 * (nc + 1)) (by omega) (by omega) ?_
  exact kk fa lT lL lM l4 l5 ft lB lH lK gn lG lR l1 l2 l3 pr reE laE suE leE lq lp lv ke tl fsh wi ri fm lm lw re7 la7 su7 le7 re8 la8 su8 le8 re9 la9 su9 le9 zt zp zf zh zr zc zy za zb zs zq zw ze_2 zn zm zl zk zd fT fL fM f41 f42 f43 f51 f52 f53 fB fH1 fH2 fK1 fK2 fG1 fG2 f1 f2 f3 fR1 fR2 fR3 fR4 fR5 fR6 fq fp fv fQ1 fQ2 fQ3 fQ4 fw fW1 fW2 fW3 fW4 fW5 fW6 fW7 eT eS eX eL eB eD e1 e2 eR ec1 ec2 ec3 eH eY eE eW eO er1 er2 er3 er4 eZ fJ _ _ _ ⟨g_lT, g_lL, g_lM, g_lB, g_lH, g_lK, g_gn, g_lG, g_lR, g_l1, g_l2, g_l3, g_lq, g_lp, g_lv, g_ke, g_fsh, g_fm, g_lm, g_lw, g_zt, g_zp, g_zf, g_zh, g_zr, g_zc, g_zy, g_za, g_zb, g_zs, g_zq, g_zn, g_zm, g_zk, g_fG2, g_eS, g_eX, g_eL, g_eB, g_e1, g_e2, g_eY, g_eE, g_eW, g_eO, g_eZ, by omega, hrel, hrc, hr4, hr5, hb4, hb5, hlz, hH, hHe, hKz, hT, ho, hal, hCV, hVk, hVr, hTX, hCH, hvc, hfr, hfx, hfs⟩ hP hD hS (lv_sub hl [0, 1, 2, 3, 4] rfl)

set_option maxHeartbeats 40000000 in
set_option maxRecDepth 100000 in
theorem law_harm {p : Program} {l : Launch} {e : Env} {s : State} {m : MethodId} {below : List Frame} {meth : Method} {c : Code} {dC : Nat → ClassId} {dI : Nat → Nat → Nat} {cI cS cJ : ClassId} {A : Nat → Prop} {b L : Nat} {xs : Nat → Int32} (C0 : lw_At p s m meth c b L xs) (hAd : A = fun q : Nat => s.heap.size ≤ q) (hK3 : va_K (dC, dI) vwCl [(cI, .int), (cS, .short), (cJ, .long)] s) {oX nT aT nL aL nM aM oC o4 a41 a42 a43 o5 a51 a52 a53 oP nB aB oH h1 h2 oK k1 k2 oG g1 g2 oR n1 a1 n2 a2 n3 a3 r1 r2 r3 r4 r5 r6 oQ oE nq aq np ap nv av q1 q2 q3 q4 oW nw aw o7 o8 o9 w1 w2 w3 w4 w5 w6 w7 oM mT mS mX mL mB mD m1 m2 mR x1 x2 x3 mH mY mE mW mO y1 y2 y3 y4 mZ oJ : Nat} {fa : Int32} {lT : Int32} {lL : Int32} {lM : Int32} {l4 : Int32} {l5 : Int32} {ft : Int32} {lB : Int32} {lH : Int32} {lK : Int32} {gn : Int32} {lG : Int32} {lR : Int32} {l1 : Int32} {l2 : Int32} {l3 : Int32} {pr : Int32} {reE : Int32} {laE : Int32} {suE : Int32} {leE : Int32} {lq : Int32} {lp : Int32} {lv : Int32} {ke : Int32} {tl : Int32} {fsh : Int32} {wi : Int32} {ri : Int32} {fm : Int32} {lm : Int32} {lw : Int32} {re7 : Int32} {la7 : Int32} {su7 : Int32} {le7 : Int32} {re8 : Int32} {la8 : Int32} {su8 : Int32} {le8 : Int32} {re9 : Int32} {la9 : Int32} {su9 : Int32} {le9 : Int32} {zt : Int32} {zp : Int32} {zf : Int32} {zh : Int32} {zr : Int32} {zc : Int32} {zy : Int32} {za : Int32} {zb : Int32} {zs : Int32} {zq : Int32} {zw : Int32} {ze : Int32} {zn : Int32} {zm : Int32} {zl : Int32} {zk : Int32} {zd : Int32} {fT : Nat → Int32} {fL : Nat → Int32} {fM : Nat → Int32} {f41 : Nat → Int32} {f42 : Nat → Int32} {f43 : Nat → Int32} {f51 : Nat → Int32} {f52 : Nat → Int32} {f53 : Nat → Int32} {fB : Nat → Int32} {fH1 : Nat → Int32} {fH2 : Nat → Int32} {fK1 : Nat → Int32} {fK2 : Nat → Int32} {fG1 : Nat → Int32} {fG2 : Nat → Int32} {f1 : Nat → Int32} {f2 : Nat → Int32} {f3 : Nat → Int32} {fR1 : Nat → Int32} {fR2 : Nat → Int32} {fR3 : Nat → Int32} {fR4 : Nat → Int32} {fR5 : Nat → Int32} {fR6 : Nat → Int32} {fq : Nat → Int32} {fp : Nat → Int32} {fv : Nat → Int32} {fQ1 : Nat → Int32} {fQ2 : Nat → Int32} {fQ3 : Nat → Int32} {fQ4 : Nat → Int32} {fw : Nat → Int32} {fW1 : Nat → Int32} {fW2 : Nat → Int32} {fW3 : Nat → Int32} {fW4 : Nat → Int32} {fW5 : Nat → Int32} {fW6 : Nat → Int32} {fW7 : Nat → Int32} {eT : Nat → Int32} {eS : Nat → Int32} {eX : Nat → Int32} {eL : Nat → Int32} {eB : Nat → Int32} {eD : Nat → Int32} {e1 : Nat → Int32} {e2 : Nat → Int32} {eR : Nat → Int32} {ec1 : Nat → Int32} {ec2 : Nat → Int32} {ec3 : Nat → Int32} {eH : Nat → Int32} {eY : Nat → Int32} {eE : Nat → Int32} {eW : Nat → Int32} {eO : Nat → Int32} {er1 : Nat → Int32} {er2 : Nat → Int32} {er3 : Nat → Int32} {er4 : Nat → Int32} {eZ : Nat → Int32} {fJ : Nat → Int64} {H : Heap} {locs : List Loc} {ls : Array Slot} {i : Int32} {nc : Nat} (hn : nc ≤ 511) (hi : 0 ≤ i.toInt ∧ i.toInt + 5 < (L : Int)) (hL : L ≤ 3072) (hI : INV nc lT lL lM l4 l5 lB lH lK gn lG lR l1 l2 l3 lq lp lv ke fsh wi ri fm lm lw zt zp zf zh zr zc zy za zb zs zq zn zm zk fT fL f41 f42 f43 f51 f52 f53 fH1 fH2 fK1 fK2 fG1 fG2 fW4 fW5 fW6 fW7 eT eS eX eL eB eD e1 e2 ec1 ec2 ec3 eH eY eE eW eO eZ) (hP : va_P (dC, dI) vwCl (WLD cI cS cJ oX nT aT nL aL nM aM oC o4 a41 a42 a43 o5 a51 a52 a53 oP nB aB oH h1 h2 oK k1 k2 oG g1 g2 oR n1 a1 n2 a2 n3 a3 r1 r2 r3 r4 r5 r6 oQ oE nq aq np ap nv av q1 q2 q3 q4 oW nw aw o7 o8 o9 w1 w2 w3 w4 w5 w6 w7 oM mT mS mX mL mB mD m1 m2 mR x1 x2 x3 mH mY mE mW mO y1 y2 y3 y4 mZ oJ fa lT lL lM l4 l5 ft lB lH lK gn lG lR l1 l2 l3 pr reE laE suE leE lq lp lv ke tl fsh wi ri fm lm lw re7 la7 su7 le7 re8 la8 su8 le8 re9 la9 su9 le9 zt zp zf zh zr zc zy za zb zs zq zw ze zn zm zl zk zd fT fL fM f41 f42 f43 f51 f52 f53 fB fH1 fH2 fK1 fK2 fG1 fG2 f1 f2 f3 fR1 fR2 fR3 fR4 fR5 fR6 fq fp fv fQ1 fQ2 fQ3 fQ4 fw fW1 fW2 fW3 fW4 fW5 fW6 fW7 eT eS eX eL eB eD e1 e2 eR ec1 ec2 ec3 eH eY eE eW eO er1 er2 er3 er4 eZ fJ) H) (hD : va_D A (WLD cI cS cJ oX nT aT nL aL nM aM oC o4 a41 a42 a43 o5 a51 a52 a53 oP nB aB oH h1 h2 oK k1 k2 oG g1 g2 oR n1 a1 n2 a2 n3 a3 r1 r2 r3 r4 r5 r6 oQ oE nq aq np ap nv av q1 q2 q3 q4 oW nw aw o7 o8 o9 w1 w2 w3 w4 w5 w6 w7 oM mT mS mX mL mB mD m1 m2 mR x1 x2 x3 mH mY mE mW mO y1 y2 y3 y4 mZ oJ fa lT lL lM l4 l5 ft lB lH lK gn lG lR l1 l2 l3 pr reE laE suE leE lq lp lv ke tl fsh wi ri fm lm lw re7 la7 su7 le7 re8 la8 su8 le8 re9 la9 su9 le9 zt zp zf zh zr zc zy za zb zs zq zw ze zn zm zl zk zd fT fL fM f41 f42 f43 f51 f52 f53 fB fH1 fH2 fK1 fK2 fG1 fG2 f1 f2 f3 fR1 fR2 fR3 fR4 fR5 fR6 fq fp fv fQ1 fQ2 fQ3 fQ4 fw fW1 fW2 fW3 fW4 fW5 fW6 fW7 eT eS eX eL eB eD e1 e2 eR ec1 ec2 ec3 eH eY eE eW eO er1 er2 er3 er4 eZ fJ)) (hS : va_S A s.heap H locs) (hl : lv_has ls 7 [(0, .ref b), (1, .ref oX), (2, .ref oM), (3, .ref oJ), (4, .int i)]) (kk : KK p l e s m below meth c dC dI cI cS cJ A b oX nT aT nL aL nM aM oC o4 a41 a42 a43 o5 a51 a52 a53 oP nB aB oH h1 h2 oK k1 k2 oG g1 g2 oR n1 a1 n2 a2 n3 a3 r1 r2 r3 r4 r5 r6 oQ oE nq aq np ap nv av q1 q2 q3 q4 oW nw aw o7 o8 o9 w1 w2 w3 w4 w5 w6 w7 oM mT mS mX mL mB mD m1 m2 mR x1 x2 x3 mH mY mE mW mO y1 y2 y3 y4 mZ oJ i nc) : W p l e room_1 s m #[Value.ref b] below meth c H locs (90 + nc) (172225 + 6 * nc) (lw_Z below #[Value.ref b] s) (F0 m 526 ls []) := by
  refine And.elim (fun hx hBC_0 => ?_) C0
  refine And.elim (fun hb hBC_1 => ?_) hBC_0
  refine And.elim (fun hr hBC_2 => ?_) hBC_1
  refine And.elim (fun hml hBC_3 => ?_) hBC_2
  refine And.elim (fun hown hBC_4 => ?_) hBC_3
  refine And.elim (fun hts0 hBC_5 => ?_) hBC_4
  refine And.elim (fun hX hBC_6 => ?_) hBC_5
  refine And.elim (fun hbl hBC_7 => ?_) hBC_6
  refine And.elim (fun hlocks hBC_8 => ?_) hBC_7
  have hgv := hBC_8
  clear hBC_0 hBC_1 hBC_2 hBC_3 hBC_4 hBC_5 hBC_6 hBC_7 hBC_8
  refine And.elim (fun g_lT hBI_0 => ?_) hI
  refine And.elim (fun g_lL hBI_1 => ?_) hBI_0
  refine And.elim (fun g_lM hBI_2 => ?_) hBI_1
  refine And.elim (fun g_lB hBI_3 => ?_) hBI_2
  refine And.elim (fun g_lH hBI_4 => ?_) hBI_3
  refine And.elim (fun g_lK hBI_5 => ?_) hBI_4
  refine And.elim (fun g_gn hBI_6 => ?_) hBI_5
  refine And.elim (fun g_lG hBI_7 => ?_) hBI_6
  refine And.elim (fun g_lR hBI_8 => ?_) hBI_7
  refine And.elim (fun g_l1 hBI_9 => ?_) hBI_8
  refine And.elim (fun g_l2 hBI_10 => ?_) hBI_9
  refine And.elim (fun g_l3 hBI_11 => ?_) hBI_10
  refine And.elim (fun g_lq hBI_12 => ?_) hBI_11
  refine And.elim (fun g_lp hBI_13 => ?_) hBI_12
  refine And.elim (fun g_lv hBI_14 => ?_) hBI_13
  refine And.elim (fun g_ke hBI_15 => ?_) hBI_14
  refine And.elim (fun g_fsh hBI_16 => ?_) hBI_15
  refine And.elim (fun g_fm hBI_17 => ?_) hBI_16
  refine And.elim (fun g_lm hBI_18 => ?_) hBI_17
  refine And.elim (fun g_lw hBI_19 => ?_) hBI_18
  refine And.elim (fun g_zt hBI_20 => ?_) hBI_19
  refine And.elim (fun g_zp hBI_21 => ?_) hBI_20
  refine And.elim (fun g_zf hBI_22 => ?_) hBI_21
  refine And.elim (fun g_zh hBI_23 => ?_) hBI_22
  refine And.elim (fun g_zr hBI_24 => ?_) hBI_23
  refine And.elim (fun g_zc hBI_25 => ?_) hBI_24
  refine And.elim (fun g_zy hBI_26 => ?_) hBI_25
  refine And.elim (fun g_za hBI_27 => ?_) hBI_26
  refine And.elim (fun g_zb hBI_28 => ?_) hBI_27
  refine And.elim (fun g_zs hBI_29 => ?_) hBI_28
  refine And.elim (fun g_zq hBI_30 => ?_) hBI_29
  refine And.elim (fun g_zn hBI_31 => ?_) hBI_30
  refine And.elim (fun g_zm hBI_32 => ?_) hBI_31
  refine And.elim (fun g_zk hBI_33 => ?_) hBI_32
  refine And.elim (fun g_fG2 hBI_34 => ?_) hBI_33
  refine And.elim (fun g_eS hBI_35 => ?_) hBI_34
  refine And.elim (fun g_eX hBI_36 => ?_) hBI_35
  refine And.elim (fun g_eL hBI_37 => ?_) hBI_36
  refine And.elim (fun g_eB hBI_38 => ?_) hBI_37
  refine And.elim (fun g_e1 hBI_39 => ?_) hBI_38
  refine And.elim (fun g_e2 hBI_40 => ?_) hBI_39
  refine And.elim (fun g_eY hBI_41 => ?_) hBI_40
  refine And.elim (fun g_eE hBI_42 => ?_) hBI_41
  refine And.elim (fun g_eW hBI_43 => ?_) hBI_42
  refine And.elim (fun g_eO hBI_44 => ?_) hBI_43
  refine And.elim (fun g_eZ hBI_45 => ?_) hBI_44
  refine And.elim (fun hzn hBI_46 => ?_) hBI_45
  refine And.elim (fun hrel hBI_47 => ?_) hBI_46
  refine And.elim (fun hrc hBI_48 => ?_) hBI_47
  refine And.elim (fun hr4 hBI_49 => ?_) hBI_48
  refine And.elim (fun hr5 hBI_50 => ?_) hBI_49
  refine And.elim (fun hb4 hBI_51 => ?_) hBI_50
  refine And.elim (fun hb5 hBI_52 => ?_) hBI_51
  refine And.elim (fun hlz hBI_53 => ?_) hBI_52
  refine And.elim (fun hH hBI_54 => ?_) hBI_53
  refine And.elim (fun hHe hBI_55 => ?_) hBI_54
  refine And.elim (fun hKz hBI_56 => ?_) hBI_55
  refine And.elim (fun hT hBI_57 => ?_) hBI_56
  refine And.elim (fun ho hBI_58 => ?_) hBI_57
  refine And.elim (fun hal hBI_59 => ?_) hBI_58
  refine And.elim (fun hCV hBI_60 => ?_) hBI_59
  refine And.elim (fun hVk hBI_61 => ?_) hBI_60
  refine And.elim (fun hVr hBI_62 => ?_) hBI_61
  refine And.elim (fun hTX hBI_63 => ?_) hBI_62
  refine And.elim (fun hCH hBI_64 => ?_) hBI_63
  refine And.elim (fun hvc hBI_65 => ?_) hBI_64
  refine And.elim (fun hfr hBI_66 => ?_) hBI_65
  refine And.elim (fun hfx hBI_67 => ?_) hBI_66
  have hfs := hBI_67
  clear hI hBI_0 hBI_1 hBI_2 hBI_3 hBI_4 hBI_5 hBI_6 hBI_7 hBI_8 hBI_9 hBI_10 hBI_11 hBI_12 hBI_13 hBI_14 hBI_15 hBI_16 hBI_17 hBI_18 hBI_19 hBI_20 hBI_21 hBI_22 hBI_23 hBI_24 hBI_25 hBI_26 hBI_27 hBI_28 hBI_29 hBI_30 hBI_31 hBI_32 hBI_33 hBI_34 hBI_35 hBI_36 hBI_37 hBI_38 hBI_39 hBI_40 hBI_41 hBI_42 hBI_43 hBI_44 hBI_45 hBI_46 hBI_47 hBI_48 hBI_49 hBI_50 hBI_51 hBI_52 hBI_53 hBI_54 hBI_55 hBI_56 hBI_57 hBI_58 hBI_59 hBI_60 hBI_61 hBI_62 hBI_63 hBI_64 hBI_65 hBI_66 hBI_67
  have hK : va_K (dC, dI) vwCl [(cI, .int), (cS, .short)] s := hK3.sub [0, 1] rfl
  have hown : s.vm.findClass RL = some m.cls := hown
  have hts := hts0
  have hcf := k_cf hx hb hml hown hts
  have hi9 : 0 ≤ i.toInt ∧ i.toInt ≤ 3066 := by omega
  have hzs : zs.toInt ≤ 1000000 := by omega
  have hA : ∀ q : Nat, s.heap.size ≤ q → A q := fun q h => by rw [hAd]; exact h
  have hbA : ¬ A b := by rw [hAd]; exact Nat.not_le.mpr hbl
  have hP : va_P (dC, dI) vwCl [(oX, .inr (11, [.ref nT, .ref nL, .ref nM, .ref oC, .ref oP, .ref oH, .ref oK, .ref oG, .ref oR, .ref oQ, .ref oW, .int fa])), (nT, .inr (5, [.ref aT, .int lT])), (aT, .inl (cI, 900, .inl fT)), (nL, .inr (5, [.ref aL, .int lL])), (aL, .inl (cI, 300, .inl fL)), (nM, .inr (5, [.ref aM, .int lM])), (aM, .inl (cI, 300, .inl fM)), (oC, .inr (2, [.ref o4, .ref o5])), (o4, .inr (10, [.ref a41, .ref a42, .ref a43, .int l4])), (a41, .inl (cI, 256, .inl f41)), (a42, .inl (cI, 512, .inl f42)), (a43, .inl (cI, 512, .inl f43)), (o5, .inr (10, [.ref a51, .ref a52, .ref a53, .int l5])), (a51, .inl (cI, 256, .inl f51)), (a52, .inl (cI, 512, .inl f52)), (a53, .inl (cI, 512, .inl f53)), (oP, .inr (7, [.ref oC, .ref nB, .int ft])), (nB, .inr (5, [.ref aB, .int lB])), (aB, .inl (cI, 2400, .inl fB)), (oH, .inr (4, [.ref oP, .ref h1, .ref h2, .int lH])), (h1, .inl (cI, 6, .inl fH1)), (h2, .inl (cI, 6, .inl fH2)), (oK, .inr (3, [.ref k1, .ref k2, .int lK])), (k1, .inl (cI, 1024, .inl fK1)), (k2, .inl (cI, 1024, .inl fK2)), (oG, .inr (0, [.ref g1, .ref g2, .int gn, .int lG])), (g1, .inl (cI, 6000, .inl fG1)), (g2, .inl (cI, 20, .inl fG2)), (oR, .inr (9, [.ref oH, .ref oK, .ref n1, .ref n2, .ref n3, .ref r1, .ref r2, .ref r3, .ref r4, .ref r5, .ref r6, .int lR])), (n1, .inr (5, [.ref a1, .int l1])), (a1, .inl (cI, 300, .inl f1)), (n2, .inr (5, [.ref a2, .int l2])), (a2, .inl (cI, 300, .inl f2)), (n3, .inr (5, [.ref a3, .int l3])), (a3, .inl (cI, 300, .inl f3)), (r1, .inl (cI, 258, .inl fR1)), (r2, .inl (cI, 258, .inl fR2)), (r3, .inl (cI, 774, .inl fR3)), (r4, .inl (cI, 258, .inl fR4)), (r5, .inl (cI, 258, .inl fR5)), (r6, .inl (cI, 774, .inl fR6)), (oQ, .inr (6, [.ref oC, .ref oH, .ref oK, .ref oE, .ref nq, .ref np, .ref nv, .ref q1, .ref q2, .ref q3, .ref q4, .int pr])), (oE, .inr (8, [.ref oC, .ref oK, .int reE, .int laE, .int suE, .int leE])), (nq, .inr (5, [.ref aq, .int lq])), (aq, .inl (cI, 480, .inl fq)), (np, .inr (5, [.ref ap, .int lp])), (ap, .inl (cI, 300, .inl fp)), (nv, .inr (5, [.ref av, .int lv])), (av, .inl (cI, 300, .inl fv)), (q1, .inl (cI, 61, .inl fQ1)), (q2, .inl (cI, 61, .inl fQ2)), (q3, .inl (cI, 61, .inl fQ3)), (q4, .inl (cI, 61, .inl fQ4)), (oW, .inr (1, [.ref oC, .ref oK, .ref nw, .ref w1, .ref w2, .ref w3, .ref o7, .ref o8, .ref o9, .ref w4, .ref w5, .ref w6, .ref w7, .int ke, .int tl, .int fsh, .int wi, .int ri, .int fm, .int lm])), (nw, .inr (5, [.ref aw, .int lw])), (aw, .inl (cI, 800, .inl fw)), (o7, .inr (8, [.ref oC, .ref oK, .int re7, .int la7, .int su7, .int le7])), (o8, .inr (8, [.ref oC, .ref oK, .int re8, .int la8, .int su8, .int le8])), (o9, .inr (8, [.ref oC, .ref oK, .int re9, .int la9, .int su9, .int le9])), (w1, .inl (cI, 801, .inl fW1)), (w2, .inl (cI, 801, .inl fW2)), (w3, .inl (cI, 801, .inl fW3)), (w4, .inl (cI, 200, .inl fW4)), (w5, .inl (cI, 200, .inl fW5)), (w6, .inl (cI, 200, .inl fW6)), (w7, .inl (cI, 200, .inl fW7)), (oM, .inr (12, [.ref mT, .int zt, .ref mS, .ref mX, .int zp, .int zf, .ref mL, .ref mB, .ref mD, .ref m1, .ref m2, .int zh, .ref mR, .int zr, .ref x1, .ref x2, .ref x3, .int zc, .ref mH, .int zy, .int za, .int zb, .int zs, .int zq, .int zw, .int ze, .ref mY, .int zn, .ref mE, .int zm, .int zl, .ref mW, .int zk, .ref mO, .int zd, .ref y1, .ref y2, .ref y3, .ref y4, .ref mZ])), (mT, .inl (cI, 900, .inl eT)), (mS, .inl (cI, 21, .inl eS)), (mX, .inl (cI, 6300, .inl eX)), (mL, .inl (cI, 512, .inl eL)), (mB, .inl (cS, 131072, .inl eB)), (mD, .inl (cI, 2, .inl eD)), (m1, .inl (cI, 6, .inl e1)), (m2, .inl (cI, 6, .inl e2)), (mR, .inl (cI, 1548, .inl eR)), (x1, .inl (cI, 300, .inl ec1)), (x2, .inl (cI, 300, .inl ec2)), (x3, .inl (cI, 300, .inl ec3)), (mH, .inl (cI, 800, .inl eH)), (mY, .inl (cI, 2600, .inl eY)), (mE, .inl (cI, 2600, .inl eE)), (mW, .inl (cI, 300, .inl eW)), (mO, .inl (cI, 300, .inl eO)), (y1, .inl (cI, 61, .inl er1)), (y2, .inl (cI, 61, .inl er2)), (y3, .inl (cI, 61, .inl er3)), (y4, .inl (cI, 61, .inl er4)), (mZ, .inl (cI, 600, .inl eZ)), (oJ, .inl (cJ, 1, .inr (.inl fJ)))] H := hP
  have hD : va_D A [(oX, .inr (11, [.ref nT, .ref nL, .ref nM, .ref oC, .ref oP, .ref oH, .ref oK, .ref oG, .ref oR, .ref oQ, .ref oW, .int fa])), (nT, .inr (5, [.ref aT, .int lT])), (aT, .inl (cI, 900, .inl fT)), (nL, .inr (5, [.ref aL, .int lL])), (aL, .inl (cI, 300, .inl fL)), (nM, .inr (5, [.ref aM, .int lM])), (aM, .inl (cI, 300, .inl fM)), (oC, .inr (2, [.ref o4, .ref o5])), (o4, .inr (10, [.ref a41, .ref a42, .ref a43, .int l4])), (a41, .inl (cI, 256, .inl f41)), (a42, .inl (cI, 512, .inl f42)), (a43, .inl (cI, 512, .inl f43)), (o5, .inr (10, [.ref a51, .ref a52, .ref a53, .int l5])), (a51, .inl (cI, 256, .inl f51)), (a52, .inl (cI, 512, .inl f52)), (a53, .inl (cI, 512, .inl f53)), (oP, .inr (7, [.ref oC, .ref nB, .int ft])), (nB, .inr (5, [.ref aB, .int lB])), (aB, .inl (cI, 2400, .inl fB)), (oH, .inr (4, [.ref oP, .ref h1, .ref h2, .int lH])), (h1, .inl (cI, 6, .inl fH1)), (h2, .inl (cI, 6, .inl fH2)), (oK, .inr (3, [.ref k1, .ref k2, .int lK])), (k1, .inl (cI, 1024, .inl fK1)), (k2, .inl (cI, 1024, .inl fK2)), (oG, .inr (0, [.ref g1, .ref g2, .int gn, .int lG])), (g1, .inl (cI, 6000, .inl fG1)), (g2, .inl (cI, 20, .inl fG2)), (oR, .inr (9, [.ref oH, .ref oK, .ref n1, .ref n2, .ref n3, .ref r1, .ref r2, .ref r3, .ref r4, .ref r5, .ref r6, .int lR])), (n1, .inr (5, [.ref a1, .int l1])), (a1, .inl (cI, 300, .inl f1)), (n2, .inr (5, [.ref a2, .int l2])), (a2, .inl (cI, 300, .inl f2)), (n3, .inr (5, [.ref a3, .int l3])), (a3, .inl (cI, 300, .inl f3)), (r1, .inl (cI, 258, .inl fR1)), (r2, .inl (cI, 258, .inl fR2)), (r3, .inl (cI, 774, .inl fR3)), (r4, .inl (cI, 258, .inl fR4)), (r5, .inl (cI, 258, .inl fR5)), (r6, .inl (cI, 774, .inl fR6)), (oQ, .inr (6, [.ref oC, .ref oH, .ref oK, .ref oE, .ref nq, .ref np, .ref nv, .ref q1, .ref q2, .ref q3, .ref q4, .int pr])), (oE, .inr (8, [.ref oC, .ref oK, .int reE, .int laE, .int suE, .int leE])), (nq, .inr (5, [.ref aq, .int lq])), (aq, .inl (cI, 480, .inl fq)), (np, .inr (5, [.ref ap, .int lp])), (ap, .inl (cI, 300, .inl fp)), (nv, .inr (5, [.ref av, .int lv])), (av, .inl (cI, 300, .inl fv)), (q1, .inl (cI, 61, .inl fQ1)), (q2, .inl (cI, 61, .inl fQ2)), (q3, .inl (cI, 61, .inl fQ3)), (q4, .inl (cI, 61, .inl fQ4)), (oW, .inr (1, [.ref oC, .ref oK, .ref nw, .ref w1, .ref w2, .ref w3, .ref o7, .ref o8, .ref o9, .ref w4, .ref w5, .ref w6, .ref w7, .int ke, .int tl, .int fsh, .int wi, .int ri, .int fm, .int lm])), (nw, .inr (5, [.ref aw, .int lw])), (aw, .inl (cI, 800, .inl fw)), (o7, .inr (8, [.ref oC, .ref oK, .int re7, .int la7, .int su7, .int le7])), (o8, .inr (8, [.ref oC, .ref oK, .int re8, .int la8, .int su8, .int le8])), (o9, .inr (8, [.ref oC, .ref oK, .int re9, .int la9, .int su9, .int le9])), (w1, .inl (cI, 801, .inl fW1)), (w2, .inl (cI, 801, .inl fW2)), (w3, .inl (cI, 801, .inl fW3)), (w4, .inl (cI, 200, .inl fW4)), (w5, .inl (cI, 200, .inl fW5)), (w6, .inl (cI, 200, .inl fW6)), (w7, .inl (cI, 200, .inl fW7)), (oM, .inr (12, [.ref mT, .int zt, .ref mS, .ref mX, .int zp, .int zf, .ref mL, .ref mB, .ref mD, .ref m1, .ref m2, .int zh, .ref mR, .int zr, .ref x1, .ref x2, .ref x3, .int zc, .ref mH, .int zy, .int za, .int zb, .int zs, .int zq, .int zw, .int ze, .ref mY, .int zn, .ref mE, .int zm, .int zl, .ref mW, .int zk, .ref mO, .int zd, .ref y1, .ref y2, .ref y3, .ref y4, .ref mZ])), (mT, .inl (cI, 900, .inl eT)), (mS, .inl (cI, 21, .inl eS)), (mX, .inl (cI, 6300, .inl eX)), (mL, .inl (cI, 512, .inl eL)), (mB, .inl (cS, 131072, .inl eB)), (mD, .inl (cI, 2, .inl eD)), (m1, .inl (cI, 6, .inl e1)), (m2, .inl (cI, 6, .inl e2)), (mR, .inl (cI, 1548, .inl eR)), (x1, .inl (cI, 300, .inl ec1)), (x2, .inl (cI, 300, .inl ec2)), (x3, .inl (cI, 300, .inl ec3)), (mH, .inl (cI, 800, .inl eH)), (mY, .inl (cI, 2600, .inl eY)), (mE, .inl (cI, 2600, .inl eE)), (mW, .inl (cI, 300, .inl eW)), (mO, .inl (cI, 300, .inl eO)), (y1, .inl (cI, 61, .inl er1)), (y2, .inl (cI, 61, .inl er2)), (y3, .inl (cI, 61, .inl er3)), (y4, .inl (cI, 61, .inl er4)), (mZ, .inl (cI, 600, .inl eZ)), (oJ, .inl (cJ, 1, .inr (.inl fJ)))] := hD
  have hN52 : va_Nw (.methodLinkNest RX2 52 yX11_isLetter "TextMender") s := va_Nw.of rfl (hts0 _ q_3_4)
  replace g_lT := hid g_lT
  replace g_lM := hid g_lM
  replace g_lB := hid g_lB
  replace g_lR := hid g_lR
  replace g_l1 := hid g_l1
  replace g_l2 := hid g_l2
  replace g_l3 := hid g_l3
  replace g_lq := hid g_lq
  replace g_lp := hid g_lp
  replace g_lv := hid g_lv
  replace g_fm := hid g_fm
  replace g_lm := hid g_lm
  replace g_lw := hid g_lw
  replace g_zt := hid g_zt
  replace g_zr := hid g_zr
  replace g_zn := hid g_zn
  replace g_zm := hid g_zm
  replace g_zk := hid g_zk
  refine lv_aload_n hx hb dL_law_526 rfl (lv_at hl 1 rfl) ?_
  refine lv_aload_n hx hb dL_law_527 rfl (lv_at hl 0 rfl) ?_
  refine lv_iload hx hb dL_law_528 (lv_at hl 4 rfl) ?_
  refine lv_iconst (v := 1) hx hb dL_law_530 (by decide) ?_
  refine lv_iadd hx hb dL_law_531 ?_
  refine lv_topi (fun x_1 ex_1 => ?_)
  have tx_1 : x_1.toInt = i.toInt + 1 := v_addR (l2 := 1) (h2 := 1) ex_1 hi9 (by decide) (by decide) (by decide)
  refine va_sld hx hb hX hbl hbA hS (v_in (v_sld5 tx_1 hi (by decide))) dL_law_532 ?_
  refine lv_topi (fun x_2 ex_2 => ?_)
  refine lv_aload_n hx hb dL_law_533 rfl (lv_at hl 0 rfl) ?_
  refine lv_iload hx hb dL_law_534 (lv_at hl 4 rfl) ?_
  refine lv_iconst (v := 2) hx hb dL_law_536 (by decide) ?_
  refine lv_iadd hx hb dL_law_537 ?_
  refine lv_topi (fun x_3 ex_3 => ?_)
  have tx_3 : x_3.toInt = i.toInt + 2 := v_addR (l2 := 2) (h2 := 2) ex_3 hi9 (by decide) (by decide) (by decide)
  refine va_sld hx hb hX hbl hbA hS (v_in (v_sld5 tx_3 hi (by decide))) dL_law_538 ?_
  refine lv_topi (fun x_4 ex_4 => ?_)
  refine kV_i (rest := []) (q0 := 0) (ci := 11) hcf (f_X11_harm l dC dI cI cS H.size oX nT nL nM oC oP oH oK oG oR oQ oW aL aM nB aB o4 o5 a41 a42 a43 a51 a52 a53 g1 g2 nw w1 w2 w3 o7 o8 o9 w4 w5 w6 w7 fa lL fL lM fM ft lB fB l4 f41 f42 f43 l5 f51 f52 f53 gn lG fG1 fG2 ke tl fsh wi ri fm lm x_2 x_4 (g_lL) (g_lM) (g_lB) (g_gn) (g_lG) (g_fG2) (g_ke) (g_fsh) (g_fm) (g_lm) (TX_p hTX) (hr4.1) (occ_511 hr4.2.1) (hr5.1) (occ_511 hr5.2.1) (TR_r hr4 g_eL) (TR_r hr5 g_eL) (okB_cl hr4 hr5 g_eB)) kc_X11_harm gL_law_X11_harm rfl rfl rfl ⟨Nat.le_of_ble_eq_true rfl, Nat.le_of_ble_eq_true rfl⟩ (kX_1 hN52) hK hP hD hS hA ([0, 1, 2, 3, 4, 14, 15, 16, 5, 6, 7, 8, 9, 10, 11, 12, 13, 17, 18, 19, 20].filterMap (fun j => (posT mk_19 0)[j]?)) (posF mk_19 0) (kCp (ws := [(oX, .inr (11, [.ref nT, .ref nL, .ref nM, .ref oC, .ref oP, .ref oH, .ref oK, .ref oG, .ref oR, .ref oQ, .ref oW, .int fa])), (nL, .inr (5, [.ref aL, .int lL])), (aL, .inl (cI, 300, .inl fL)), (nM, .inr (5, [.ref aM, .int lM])), (aM, .inl (cI, 300, .inl fM)), (oC, .inr (2, [.ref o4, .ref o5])), (o4, .inr (10, [.ref a41, .ref a42, .ref a43, .int l4])), (a41, .inl (cI, 256, .inl f41)), (a42, .inl (cI, 512, .inl f42)), (a43, .inl (cI, 512, .inl f43)), (o5, .inr (10, [.ref a51, .ref a52, .ref a53, .int l5])), (a51, .inl (cI, 256, .inl f51)), (a52, .inl (cI, 512, .inl f52)), (a53, .inl (cI, 512, .inl f53)), (oP, .inr (7, [.ref oC, .ref nB, .int ft])), (nB, .inr (5, [.ref aB, .int lB])), (aB, .inl (cI, 2400, .inl fB)), (oG, .inr (0, [.ref g1, .ref g2, .int gn, .int lG])), (g1, .inl (cI, 6000, .inl fG1)), (g2, .inl (cI, 20, .inl fG2)), (oW, .inr (1, [.ref oC, .ref oK, .ref nw, .ref w1, .ref w2, .ref w3, .ref o7, .ref o8, .ref o9, .ref w4, .ref w5, .ref w6, .ref w7, .int ke, .int tl, .int fsh, .int wi, .int ri, .int fm, .int lm]))]) (kC_of mk_19 rfl rfl) rfl) (by decide +kernel) rfl rfl rfl hl rfl (Nat.le_of_ble_eq_true rfl) dL_law_539 ⟨kfit1 hn (Nat.le_of_ble_eq_true rfl), ksix1 hn (Nat.le_of_ble_eq_true rfl)⟩ (fun r_5 H locs hB hJ hSn => ?_)
  refine Exists.elim hB (fun fa_5 hB5_0 => ?_)
  refine Exists.elim hB5_0 (fun ft_5 hB5_1 => ?_)
  refine Exists.elim hB5_1 (fun lB_5 hB5_2 => ?_)
  refine Exists.elim hB5_2 (fun fB_5 hB5_3 => ?_)
  refine Exists.elim hB5_3 (fun lM_5 hB5_4 => ?_)
  refine Exists.elim hB5_4 (fun fM_5 hB5_5 => ?_)
  refine Exists.elim hB5_5 (fun lL_5 hB5_6 => ?_)
  refine Exists.elim hB5_6 (fun fL_5 hB5_7 => ?_)
  refine Exists.elim hB5_7 (fun fsh_5 hB5_8 => ?_)
  refine Exists.elim hB5_8 (fun gn_5 hB5_9 => ?_)
  refine Exists.elim hB5_9 (fun lG_5 hB5_10 => ?_)
  refine Exists.elim hB5_10 (fun fG1_5 hB5_11 => ?_)
  refine Exists.elim hB5_11 (fun fG2_5 hB5_12 => ?_)
  refine And.elim (fun hPD9 hB5_13 => ?_) hB5_12
  refine And.elim (fun hf5_0 hB5_14 => ?_) hB5_13
  refine And.elim (fun hf5_1 hB5_15 => ?_) hB5_14
  refine And.elim (fun hf5_2 hB5_16 => ?_) hB5_15
  refine And.elim (fun hf5_3 hB5_17 => ?_) hB5_16
  refine And.elim (fun hf5_4 hB5_18 => ?_) hB5_17
  refine And.elim (fun hf5_5 hB5_19 => ?_) hB5_18
  refine And.elim (fun hf5_6 hB5_20 => ?_) hB5_19
  have hf5_7 := hB5_20
  clear hB hB5_0 hB5_1 hB5_2 hB5_3 hB5_4 hB5_5 hB5_6 hB5_7 hB5_8 hB5_9 hB5_10 hB5_11 hB5_12 hB5_13 hB5_14 hB5_15 hB5_16 hB5_17 hB5_18 hB5_19 hB5_20
  obtain ⟨hPn, hDn⟩ := kJm (m := mk_19) hJ rfl hPD9.1 hPD9.2 [0, 1, 2, 3, 4, 8, 9, 10, 11, 12, 13, 14, 15, 16, 5, 6, 7, 17, 18, 19, 20] (by decide +kernel) (ws := [(oX, .inr (11, [.ref nT, .ref nL, .ref nM, .ref oC, .ref oP, .ref oH, .ref oK, .ref oG, .ref oR, .ref oQ, .ref oW, .int fa_5])), (nL, .inr (5, [.ref aL, .int lL_5])), (aL, .inl (cI, 300, .inl fL_5)), (nM, .inr (5, [.ref aM, .int lM_5])), (aM, .inl (cI, 300, .inl fM_5)), (oC, .inr (2, [.ref o4, .ref o5])), (o4, .inr (10, [.ref a41, .ref a42, .ref a43, .int l4])), (a41, .inl (cI, 256, .inl f41)), (a42, .inl (cI, 512, .inl f42)), (a43, .inl (cI, 512, .inl f43)), (o5, .inr (10, [.ref a51, .ref a52, .ref a53, .int l5])), (a51, .inl (cI, 256, .inl f51)), (a52, .inl (cI, 512, .inl f52)), (a53, .inl (cI, 512, .inl f53)), (oP, .inr (7, [.ref oC, .ref nB, .int ft_5])), (nB, .inr (5, [.ref aB, .int lB_5])), (aB, .inl (cI, 2400, .inl fB_5)), (oG, .inr (0, [.ref g1, .ref g2, .int gn_5, .int lG_5])), (g1, .inl (cI, 6000, .inl fG1_5)), (g2, .inl (cI, 20, .inl fG2_5)), (oW, .inr (1, [.ref oC, .ref oK, .ref nw, .ref w1, .ref w2, .ref w3, .ref o7, .ref o8, .ref o9, .ref w4, .ref w5, .ref w6, .ref w7, .int ke, .int tl, .int fsh_5, .int wi, .int ri, .int fm, .int lm]))]) rfl (wn := [(oX, .inr (11, [.ref nT, .ref nL, .ref nM, .ref oC, .ref oP, .ref oH, .ref oK, .ref oG, .ref oR, .ref oQ, .ref oW, .int fa_5])), (nT, .inr (5, [.ref aT, .int lT])), (aT, .inl (cI, 900, .inl fT)), (nL, .inr (5, [.ref aL, .int lL_5])), (aL, .inl (cI, 300, .inl fL_5)), (nM, .inr (5, [.ref aM, .int lM_5])), (aM, .inl (cI, 300, .inl fM_5)), (oC, .inr (2, [.ref o4, .ref o5])), (o4, .inr (10, [.ref a41, .ref a42, .ref a43, .int l4])), (a41, .inl (cI, 256, .inl f41)), (a42, .inl (cI, 512, .inl f42)), (a43, .inl (cI, 512, .inl f43)), (o5, .inr (10, [.ref a51, .ref a52, .ref a53, .int l5])), (a51, .inl (cI, 256, .inl f51)), (a52, .inl (cI, 512, .inl f52)), (a53, .inl (cI, 512, .inl f53)), (oP, .inr (7, [.ref oC, .ref nB, .int ft_5])), (nB, .inr (5, [.ref aB, .int lB_5])), (aB, .inl (cI, 2400, .inl fB_5)), (oH, .inr (4, [.ref oP, .ref h1, .ref h2, .int lH])), (h1, .inl (cI, 6, .inl fH1)), (h2, .inl (cI, 6, .inl fH2)), (oK, .inr (3, [.ref k1, .ref k2, .int lK])), (k1, .inl (cI, 1024, .inl fK1)), (k2, .inl (cI, 1024, .inl fK2)), (oG, .inr (0, [.ref g1, .ref g2, .int gn_5, .int lG_5])), (g1, .inl (cI, 6000, .inl fG1_5)), (g2, .inl (cI, 20, .inl fG2_5)), (oR, .inr (9, [.ref oH, .ref oK, .ref n1, .ref n2, .ref n3, .ref r1, .ref r2, .ref r3, .ref r4, .ref r5, .ref r6, .int lR])), (n1, .inr (5, [.ref a1, .int l1])), (a1, .inl (cI, 300, .inl f1)), (n2, .inr (5, [.ref a2, .int l2])), (a2, .inl (cI, 300, .inl f2)), (n3, .inr (5, [.ref a3, .int l3])), (a3, .inl (cI, 300, .inl f3)), (r1, .inl (cI, 258, .inl fR1)), (r2, .inl (cI, 258, .inl fR2)), (r3, .inl (cI, 774, .inl fR3)), (r4, .inl (cI, 258, .inl fR4)), (r5, .inl (cI, 258, .inl fR5)), (r6, .inl (cI, 774, .inl fR6)), (oQ, .inr (6, [.ref oC, .ref oH, .ref oK, .ref oE, .ref nq, .ref np, .ref nv, .ref q1, .ref q2, .ref q3, .ref q4, .int pr])), (oE, .inr (8, [.ref oC, .ref oK, .int reE, .int laE, .int suE, .int leE])), (nq, .inr (5, [.ref aq, .int lq])), (aq, .inl (cI, 480, .inl fq)), (np, .inr (5, [.ref ap, .int lp])), (ap, .inl (cI, 300, .inl fp)), (nv, .inr (5, [.ref av, .int lv])), (av, .inl (cI, 300, .inl fv)), (q1, .inl (cI, 61, .inl fQ1)), (q2, .inl (cI, 61, .inl fQ2)), (q3, .inl (cI, 61, .inl fQ3)), (q4, .inl (cI, 61, .inl fQ4)), (oW, .inr (1, [.ref oC, .ref oK, .ref nw, .ref w1, .ref w2, .ref w3, .ref o7, .ref o8, .ref o9, .ref w4, .ref w5, .ref w6, .ref w7, .int ke, .int tl, .int fsh_5, .int wi, .int ri, .int fm, .int lm])), (nw, .inr (5, [.ref aw, .int lw])), (aw, .inl (cI, 800, .inl fw)), (o7, .inr (8, [.ref oC, .ref oK, .int re7, .int la7, .int su7, .int le7])), (o8, .inr (8, [.ref oC, .ref oK, .int re8, .int la8, .int su8, .int le8])), (o9, .inr (8, [.ref oC, .ref oK, .int re9, .int la9, .int su9, .int le9])), (w1, .inl (cI, 801, .inl fW1)), (w2, .inl (cI, 801, .inl fW2)), (w3, .inl (cI, 801, .inl fW3)), (w4, .inl (cI, 200, .inl fW4)), (w5, .inl (cI, 200, .inl fW5)), (w6, .inl (cI, 200, .inl fW6)), (w7, .inl (cI, 200, .inl fW7)), (oM, .inr (12, [.ref mT, .int zt, .ref mS, .ref mX, .int zp, .int zf, .ref mL, .ref mB, .ref mD, .ref m1, .ref m2, .int zh, .ref mR, .int zr, .ref x1, .ref x2, .ref x3, .int zc, .ref mH, .int zy, .int za, .int zb, .int zs, .int zq, .int zw, .int ze, .ref mY, .int zn, .ref mE, .int zm, .int zl, .ref mW, .int zk, .ref mO, .int zd, .ref y1, .ref y2, .ref y3, .ref y4, .ref mZ])), (mT, .inl (cI, 900, .inl eT)), (mS, .inl (cI, 21, .inl eS)), (mX, .inl (cI, 6300, .inl eX)), (mL, .inl (cI, 512, .inl eL)), (mB, .inl (cS, 131072, .inl eB)), (mD, .inl (cI, 2, .inl eD)), (m1, .inl (cI, 6, .inl e1)), (m2, .inl (cI, 6, .inl e2)), (mR, .inl (cI, 1548, .inl eR)), (x1, .inl (cI, 300, .inl ec1)), (x2, .inl (cI, 300, .inl ec2)), (x3, .inl (cI, 300, .inl ec3)), (mH, .inl (cI, 800, .inl eH)), (mY, .inl (cI, 2600, .inl eY)), (mE, .inl (cI, 2600, .inl eE)), (mW, .inl (cI, 300, .inl eW)), (mO, .inl (cI, 300, .inl eO)), (y1, .inl (cI, 61, .inl er1)), (y2, .inl (cI, 61, .inl er2)), (y3, .inl (cI, 61, .inl er3)), (y4, .inl (cI, 61, .inl er4)), (mZ, .inl (cI, 600, .inl eZ)), (oJ, .inl (cJ, 1, .inr (.inl fJ)))]) rfl
  clear hP hD hS hJ hPD9
  have hP := hPn
  have hD := hDn
  have hS := hSn
  clear hPn hDn hSn
  refine lv_pop hx hb dL_law_542 rfl ?_
  refine lv_aload_n hx hb dL_law_543 rfl (lv_at hl 2 rfl) ?_
  refine lv_aload_n hx hb dL_law_544 rfl (lv_at hl 0 rfl) ?_
  refine lv_iload hx hb dL_law_545 (lv_at hl 4 rfl) ?_
  refine lv_iconst (v := 1) hx hb dL_law_547 (by decide) ?_
  refine lv_iadd hx hb dL_law_548 ?_
  refine lv_topi (fun x_6 ex_6 => ?_)
  have tx_6 : x_6.toInt = i.toInt + 1 := v_addR (l2 := 1) (h2 := 1) ex_6 hi9 (by decide) (by decide) (by decide)
  refine va_sld hx hb hX hbl hbA hS (v_in (v_sld5 tx_6 hi (by decide))) dL_law_549 ?_
  refine lv_topi (fun x_7 ex_7 => ?_)
  have es_7 : x_7 = x_2 := by rw [ex_7, ex_2, ex_6, ex_1]
  rw [es_7]
  refine lv_aload_n hx hb dL_law_550 rfl (lv_at hl 0 rfl) ?_
  refine lv_iload hx hb dL_law_551 (lv_at hl 4 rfl) ?_
  refine lv_iconst (v := 2) hx hb dL_law_553 (by decide) ?_
  refine lv_iadd hx hb dL_law_554 ?_
  refine lv_topi (fun x_8 ex_8 => ?_)
  have tx_8 : x_8.toInt = i.toInt + 2 := v_addR (l2 := 2) (h2 := 2) ex_8 hi9 (by decide) (by decide) (by decide)
  refine va_sld hx hb hX hbl hbA hS (v_in (v_sld5 tx_8 hi (by decide))) dL_law_555 ?_
  refine lv_topi (fun x_9 ex_9 => ?_)
  have es_9 : x_9 = x_4 := by rw [ex_9, ex_4, ex_8, ex_3]
  rw [es_9]
  refine kV_i (rest := []) (q0 := 0) (ci := 12) hcf (f_X12_harm l dC dI cI cS H.size oM mT mS mX mL mB mD m1 m2 mR x1 x2 x3 mH mY mE mW mO y1 y2 y3 y4 mZ zt zp zf zh zr zc zy za zb zs zq zw ze zn zm zl zk zd eY eB eL eE eS eX x_2 x_4 (g_zt) (g_zp) (g_zf) (g_zh) (g_zr) (g_zc) (g_zy) (g_za) (g_zb) (g_zs) (g_zq) (g_zn) (g_zm) (g_zk) (g_eY) (g_eB) (g_eL) (g_eE) (g_eS) (g_eX) (by omega)) kc_X12_harm gL_law_X12_harm rfl rfl rfl ⟨Nat.le_of_ble_eq_true rfl, Nat.le_of_ble_eq_true rfl⟩ kX_t hK hP hD hS hA ([0, 5, 4, 3, 6, 1, 2].filterMap (fun j => (posT mk_20 0)[j]?)) (posF mk_20 0) (kCp (ws := [(oM, .inr (12, [.ref mT, .int zt, .ref mS, .ref mX, .int zp, .int zf, .ref mL, .ref mB, .ref mD, .ref m1, .ref m2, .int zh, .ref mR, .int zr, .ref x1, .ref x2, .ref x3, .int zc, .ref mH, .int zy, .int za, .int zb, .int zs, .int zq, .int zw, .int ze, .ref mY, .int zn, .ref mE, .int zm, .int zl, .ref mW, .int zk, .ref mO, .int zd, .ref y1, .ref y2, .ref y3, .ref y4, .ref mZ])), (mS, .inl (cI, 21, .inl eS)), (mX, .inl (cI, 6300, .inl eX)), (mL, .inl (cI, 512, .inl eL)), (mB, .inl (cS, 131072, .inl eB)), (mY, .inl (cI, 2600, .inl eY)), (mE, .inl (cI, 2600, .inl eE))]) (kC_of mk_20 rfl rfl) rfl) (by decide +kernel) rfl rfl rfl hl rfl (Nat.le_of_ble_eq_true rfl) dL_law_556 ⟨kfit2 hn (Nat.le_of_ble_eq_true rfl), ksix2 hn (Nat.le_of_ble_eq_true rfl)⟩ (fun r_10 H locs hB hJ hSn => ?_)
  refine Exists.elim hB (fun ze_10 hB10_0 => ?_)
  refine Exists.elim hB10_0 (fun zw_10 hB10_1 => ?_)
  refine Exists.elim hB10_1 (fun zn_10 hB10_2 => ?_)
  refine Exists.elim hB10_2 (fun eY_10 hB10_3 => ?_)
  refine Exists.elim hB10_3 (fun zd_10 hB10_4 => ?_)
  refine Exists.elim hB10_4 (fun zm_10 hB10_5 => ?_)
  refine Exists.elim hB10_5 (fun zl_10 hB10_6 => ?_)
  refine Exists.elim hB10_6 (fun eE_10 hB10_7 => ?_)
  refine Exists.elim hB10_7 (fun zp_10 hB10_8 => ?_)
  refine Exists.elim hB10_8 (fun zf_10 hB10_9 => ?_)
  refine Exists.elim hB10_9 (fun zs_10 hB10_10 => ?_)
  refine Exists.elim hB10_10 (fun eS_10 hB10_11 => ?_)
  refine Exists.elim hB10_11 (fun eX_10 hB10_12 => ?_)
  refine And.elim (fun hPD9 hB10_13 => ?_) hB10_12
  refine And.elim (fun hf10_0 hB10_14 => ?_) hB10_13
  refine And.elim (fun hf10_1 hB10_15 => ?_) hB10_14
  refine And.elim (fun hf10_2 hB10_16 => ?_) hB10_15
  refine And.elim (fun hf10_3 hB10_17 => ?_) hB10_16
  refine And.elim (fun hf10_4 hB10_18 => ?_) hB10_17
  refine And.elim (fun hf10_5 hB10_19 => ?_) hB10_18
  refine And.elim (fun hf10_6 hB10_20 => ?_) hB10_19
  refine And.elim (fun hf10_7 hB10_21 => ?_) hB10_20
  refine And.elim (fun hf10_8 hB10_22 => ?_) hB10_21
  refine And.elim (fun hf10_9 hB10_23 => ?_) hB10_22
  refine And.elim (fun hf10_10 hB10_24 => ?_) hB10_23
  have hf10_11 := hB10_24
  clear hB hB10_0 hB10_1 hB10_2 hB10_3 hB10_4 hB10_5 hB10_6 hB10_7 hB10_8 hB10_9 hB10_10 hB10_11 hB10_12 hB10_13 hB10_14 hB10_15 hB10_16 hB10_17 hB10_18 hB10_19 hB10_20 hB10_21 hB10_22 hB10_23 hB10_24
  obtain ⟨hPn, hDn⟩ := kJm (m := mk_20) hJ rfl hPD9.1 hPD9.2 [0, 5, 6, 3, 2, 1, 4] (by decide +kernel) (ws := [(oM, .inr (12, [.ref mT, .int zt, .ref mS, .ref mX, .int zp_10, .int zf_10, .ref mL, .ref mB, .ref mD, .ref m1, .ref m2, .int zh, .ref mR, .int zr, .ref x1, .ref x2, .ref x3, .int zc, .ref mH, .int zy, .int za, .int zb, .int zs_10, .int zq, .int zw_10, .int ze_10, .ref mY, .int zn_10, .ref mE, .int zm_10, .int zl_10, .ref mW, .int zk, .ref mO, .int zd_10, .ref y1, .ref y2, .ref y3, .ref y4, .ref mZ])), (mS, .inl (cI, 21, .inl eS_10)), (mX, .inl (cI, 6300, .inl eX_10)), (mL, .inl (cI, 512, .inl eL)), (mB, .inl (cS, 131072, .inl eB)), (mY, .inl (cI, 2600, .inl eY_10)), (mE, .inl (cI, 2600, .inl eE_10))]) rfl (wn := [(oX, .inr (11, [.ref nT, .ref nL, .ref nM, .ref oC, .ref oP, .ref oH, .ref oK, .ref oG, .ref oR, .ref oQ, .ref oW, .int fa_5])), (nT, .inr (5, [.ref aT, .int lT])), (aT, .inl (cI, 900, .inl fT)), (nL, .inr (5, [.ref aL, .int lL_5])), (aL, .inl (cI, 300, .inl fL_5)), (nM, .inr (5, [.ref aM, .int lM_5])), (aM, .inl (cI, 300, .inl fM_5)), (oC, .inr (2, [.ref o4, .ref o5])), (o4, .inr (10, [.ref a41, .ref a42, .ref a43, .int l4])), (a41, .inl (cI, 256, .inl f41)), (a42, .inl (cI, 512, .inl f42)), (a43, .inl (cI, 512, .inl f43)), (o5, .inr (10, [.ref a51, .ref a52, .ref a53, .int l5])), (a51, .inl (cI, 256, .inl f51)), (a52, .inl (cI, 512, .inl f52)), (a53, .inl (cI, 512, .inl f53)), (oP, .inr (7, [.ref oC, .ref nB, .int ft_5])), (nB, .inr (5, [.ref aB, .int lB_5])), (aB, .inl (cI, 2400, .inl fB_5)), (oH, .inr (4, [.ref oP, .ref h1, .ref h2, .int lH])), (h1, .inl (cI, 6, .inl fH1)), (h2, .inl (cI, 6, .inl fH2)), (oK, .inr (3, [.ref k1, .ref k2, .int lK])), (k1, .inl (cI, 1024, .inl fK1)), (k2, .inl (cI, 1024, .inl fK2)), (oG, .inr (0, [.ref g1, .ref g2, .int gn_5, .int lG_5])), (g1, .inl (cI, 6000, .inl fG1_5)), (g2, .inl (cI, 20, .inl fG2_5)), (oR, .inr (9, [.ref oH, .ref oK, .ref n1, .ref n2, .ref n3, .ref r1, .ref r2, .ref r3, .ref r4, .ref r5, .ref r6, .int lR])), (n1, .inr (5, [.ref a1, .int l1])), (a1, .inl (cI, 300, .inl f1)), (n2, .inr (5, [.ref a2, .int l2])), (a2, .inl (cI, 300, .inl f2)), (n3, .inr (5, [.ref a3, .int l3])), (a3, .inl (cI, 300, .inl f3)), (r1, .inl (cI, 258, .inl fR1)), (r2, .inl (cI, 258, .inl fR2)), (r3, .inl (cI, 774, .inl fR3)), (r4, .inl (cI, 258, .inl fR4)), (r5, .inl (cI, 258, .inl fR5)), (r6, .inl (cI, 774, .inl fR6)), (oQ, .inr (6, [.ref oC, .ref oH, .ref oK, .ref oE, .ref nq, .ref np, .ref nv, .ref q1, .ref q2, .ref q3, .ref q4, .int pr])), (oE, .inr (8, [.ref oC, .ref oK, .int reE, .int laE, .int suE, .int leE])), (nq, .inr (5, [.ref aq, .int lq])), (aq, .inl (cI, 480, .inl fq)), (np, .inr (5, [.ref ap, .int lp])), (ap, .inl (cI, 300, .inl fp)), (nv, .inr (5, [.ref av, .int lv])), (av, .inl (cI, 300, .inl fv)), (q1, .inl (cI, 61, .inl fQ1)), (q2, .inl (cI, 61, .inl fQ2)), (q3, .inl (cI, 61, .inl fQ3)), (q4, .inl (cI, 61, .inl fQ4)), (oW, .inr (1, [.ref oC, .ref oK, .ref nw, .ref w1, .ref w2, .ref w3, .ref o7, .ref o8, .ref o9, .ref w4, .ref w5, .ref w6, .ref w7, .int ke, .int tl, .int fsh_5, .int wi, .int ri, .int fm, .int lm])), (nw, .inr (5, [.ref aw, .int lw])), (aw, .inl (cI, 800, .inl fw)), (o7, .inr (8, [.ref oC, .ref oK, .int re7, .int la7, .int su7, .int le7])), (o8, .inr (8, [.ref oC, .ref oK, .int re8, .int la8, .int su8, .int le8])), (o9, .inr (8, [.ref oC, .ref oK, .int re9, .int la9, .int su9, .int le9])), (w1, .inl (cI, 801, .inl fW1)), (w2, .inl (cI, 801, .inl fW2)), (w3, .inl (cI, 801, .inl fW3)), (w4, .inl (cI, 200, .inl fW4)), (w5, .inl (cI, 200, .inl fW5)), (w6, .inl (cI, 200, .inl fW6)), (w7, .inl (cI, 200, .inl fW7)), (oM, .inr (12, [.ref mT, .int zt, .ref mS, .ref mX, .int zp_10, .int zf_10, .ref mL, .ref mB, .ref mD, .ref m1, .ref m2, .int zh, .ref mR, .int zr, .ref x1, .ref x2, .ref x3, .int zc, .ref mH, .int zy, .int za, .int zb, .int zs_10, .int zq, .int zw_10, .int ze_10, .ref mY, .int zn_10, .ref mE, .int zm_10, .int zl_10, .ref mW, .int zk, .ref mO, .int zd_10, .ref y1, .ref y2, .ref y3, .ref y4, .ref mZ])), (mT, .inl (cI, 900, .inl eT)), (mS, .inl (cI, 21, .inl eS_10)), (mX, .inl (cI, 6300, .inl eX_10)), (mL, .inl (cI, 512, .inl eL)), (mB, .inl (cS, 131072, .inl eB)), (mD, .inl (cI, 2, .inl eD)), (m1, .inl (cI, 6, .inl e1)), (m2, .inl (cI, 6, .inl e2)), (mR, .inl (cI, 1548, .inl eR)), (x1, .inl (cI, 300, .inl ec1)), (x2, .inl (cI, 300, .inl ec2)), (x3, .inl (cI, 300, .inl ec3)), (mH, .inl (cI, 800, .inl eH)), (mY, .inl (cI, 2600, .inl eY_10)), (mE, .inl (cI, 2600, .inl eE_10)), (mW, .inl (cI, 300, .inl eW)), (mO, .inl (cI, 300, .inl eO)), (y1, .inl (cI, 61, .inl er1)), (y2, .inl (cI, 61, .inl er2)), (y3, .inl (cI, 61, .inl er3)), (y4, .inl (cI, 61, .inl er4)), (mZ, .inl (cI, 600, .inl eZ)), (oJ, .inl (cJ, 1, .inr (.inl fJ)))]) rfl
  clear hP hD hS hJ hPD9
  have hP := hPn
  have hD := hDn
  have hS := hSn
  clear hPn hDn hSn
  refine lv_pop hx hb dL_law_559 rfl ?_
  refine lv_goto (tgt := 1022) hx hb dL_law_560 (by decide) ?_
  have hcg := chg_rel hTX hCH hf5_7 hf10_11 (hm_iff hr4 hr5 (TX_n hTX) (TX_e hTX) (TX_p hTX) g_lL.1 g_eB) (hm_ok hlz (TX_q hTX) (TX_z hTX g_lL.1) (okB_r g_eB)) g_lL.1 g_lL.2 g_gn g_zp g_zf g_fG2
  have hdf : DFr fsh fsh_5 zs zs_10 := hcg.2.2.2
  refine W.widen (k := 90 + (nc + 1)) (n := 172225 + 6 * (nc + 1)) (by omega) (by omega) ?_
  exact kk fa_5 lT lL_5 lM_5 l4 l5 ft_5 lB_5 lH lK gn_5 lG_5 lR l1 l2 l3 pr reE laE suE leE lq lp lv ke tl fsh_5 wi ri fm lm lw re7 la7 su7 le7 re8 la8 su8 le8 re9 la9 su9 le9 zt zp_10 zf_10 zh zr zc zy za zb zs_10 zq zw_10 ze_10 zn_10 zm_10 zl_10 zk zd_10 fT fL_5 fM_5 f41 f42 f43 f51 f52 f53 fB_5 fH1 fH2 fK1 fK2 fG1_5 fG2_5 f1 f2 f3 fR1 fR2 fR3 fR4 fR5 fR6 fq fp fv fQ1 fQ2 fQ3 fQ4 fw fW1 fW2 fW3 fW4 fW5 fW6 fW7 eT eS_10 eX_10 eL eB eD e1 e2 eR ec1 ec2 ec3 eH eY_10 eE_10 eW eO er1 er2 er3 er4 eZ fJ _ _ _ ⟨g_lT, hf5_2, hf5_1, hf5_0, g_lH, g_lK, hf5_4, hf5_5, g_lR, g_l1, g_l2, g_l3, g_lq, g_lp, g_lv, g_ke, hf5_3, g_fm, g_lm, g_lw, g_zt, hf10_4, hf10_5, g_zh, g_zr, g_zc, g_zy, g_za, g_zb, hf10_6, g_zq, hf10_0, hf10_2, g_zk, hf5_6, hf10_7, hf10_8, g_eL, g_eB, g_e1, g_e2, hf10_1, hf10_3, g_eW, g_eO, g_eZ, by omega, hrel, hrc, hr4, hr5, hb4, hb5, hlz, hH, hHe, hKz, hT, ho, hal, hCV, hVk, hVr, hcg.2.1, hcg.2.2.1, hvc, fr_d hfr hdf, fx_d hfx hdf, frs_st hfs hfr hf10_10⟩ hP hD hS (lv_sub hl [0, 1, 2, 3, 4] rfl)

set_option maxHeartbeats 40000000 in
set_option maxRecDepth 100000 in
theorem law_rough {p : Program} {l : Launch} {e : Env} {s : State} {m : MethodId} {below : List Frame} {meth : Method} {c : Code} {dC : Nat → ClassId} {dI : Nat → Nat → Nat} {cI cS cJ : ClassId} {A : Nat → Prop} {b L : Nat} {xs : Nat → Int32} (C0 : lw_At p s m meth c b L xs) (hAd : A = fun q : Nat => s.heap.size ≤ q) (hK3 : va_K (dC, dI) vwCl [(cI, .int), (cS, .short), (cJ, .long)] s) {oX nT aT nL aL nM aM oC o4 a41 a42 a43 o5 a51 a52 a53 oP nB aB oH h1 h2 oK k1 k2 oG g1 g2 oR n1 a1 n2 a2 n3 a3 r1 r2 r3 r4 r5 r6 oQ oE nq aq np ap nv av q1 q2 q3 q4 oW nw aw o7 o8 o9 w1 w2 w3 w4 w5 w6 w7 oM mT mS mX mL mB mD m1 m2 mR x1 x2 x3 mH mY mE mW mO y1 y2 y3 y4 mZ oJ : Nat} {fa : Int32} {lT : Int32} {lL : Int32} {lM : Int32} {l4 : Int32} {l5 : Int32} {ft : Int32} {lB : Int32} {lH : Int32} {lK : Int32} {gn : Int32} {lG : Int32} {lR : Int32} {l1 : Int32} {l2 : Int32} {l3 : Int32} {pr : Int32} {reE : Int32} {laE : Int32} {suE : Int32} {leE : Int32} {lq : Int32} {lp : Int32} {lv : Int32} {ke : Int32} {tl : Int32} {fsh : Int32} {wi : Int32} {ri : Int32} {fm : Int32} {lm : Int32} {lw : Int32} {re7 : Int32} {la7 : Int32} {su7 : Int32} {le7 : Int32} {re8 : Int32} {la8 : Int32} {su8 : Int32} {le8 : Int32} {re9 : Int32} {la9 : Int32} {su9 : Int32} {le9 : Int32} {zt : Int32} {zp : Int32} {zf : Int32} {zh : Int32} {zr : Int32} {zc : Int32} {zy : Int32} {za : Int32} {zb : Int32} {zs : Int32} {zq : Int32} {zw : Int32} {ze : Int32} {zn : Int32} {zm : Int32} {zl : Int32} {zk : Int32} {zd : Int32} {fT : Nat → Int32} {fL : Nat → Int32} {fM : Nat → Int32} {f41 : Nat → Int32} {f42 : Nat → Int32} {f43 : Nat → Int32} {f51 : Nat → Int32} {f52 : Nat → Int32} {f53 : Nat → Int32} {fB : Nat → Int32} {fH1 : Nat → Int32} {fH2 : Nat → Int32} {fK1 : Nat → Int32} {fK2 : Nat → Int32} {fG1 : Nat → Int32} {fG2 : Nat → Int32} {f1 : Nat → Int32} {f2 : Nat → Int32} {f3 : Nat → Int32} {fR1 : Nat → Int32} {fR2 : Nat → Int32} {fR3 : Nat → Int32} {fR4 : Nat → Int32} {fR5 : Nat → Int32} {fR6 : Nat → Int32} {fq : Nat → Int32} {fp : Nat → Int32} {fv : Nat → Int32} {fQ1 : Nat → Int32} {fQ2 : Nat → Int32} {fQ3 : Nat → Int32} {fQ4 : Nat → Int32} {fw : Nat → Int32} {fW1 : Nat → Int32} {fW2 : Nat → Int32} {fW3 : Nat → Int32} {fW4 : Nat → Int32} {fW5 : Nat → Int32} {fW6 : Nat → Int32} {fW7 : Nat → Int32} {eT : Nat → Int32} {eS : Nat → Int32} {eX : Nat → Int32} {eL : Nat → Int32} {eB : Nat → Int32} {eD : Nat → Int32} {e1 : Nat → Int32} {e2 : Nat → Int32} {eR : Nat → Int32} {ec1 : Nat → Int32} {ec2 : Nat → Int32} {ec3 : Nat → Int32} {eH : Nat → Int32} {eY : Nat → Int32} {eE : Nat → Int32} {eW : Nat → Int32} {eO : Nat → Int32} {er1 : Nat → Int32} {er2 : Nat → Int32} {er3 : Nat → Int32} {er4 : Nat → Int32} {eZ : Nat → Int32} {fJ : Nat → Int64} {H : Heap} {locs : List Loc} {ls : Array Slot} {i : Int32} {nc : Nat} (hn : nc ≤ 511) (hi : 0 ≤ i.toInt ∧ i.toInt + 5 < (L : Int)) (hL : L ≤ 3072) (hI : INV nc lT lL lM l4 l5 lB lH lK gn lG lR l1 l2 l3 lq lp lv ke fsh wi ri fm lm lw zt zp zf zh zr zc zy za zb zs zq zn zm zk fT fL f41 f42 f43 f51 f52 f53 fH1 fH2 fK1 fK2 fG1 fG2 fW4 fW5 fW6 fW7 eT eS eX eL eB eD e1 e2 ec1 ec2 ec3 eH eY eE eW eO eZ) (hP : va_P (dC, dI) vwCl (WLD cI cS cJ oX nT aT nL aL nM aM oC o4 a41 a42 a43 o5 a51 a52 a53 oP nB aB oH h1 h2 oK k1 k2 oG g1 g2 oR n1 a1 n2 a2 n3 a3 r1 r2 r3 r4 r5 r6 oQ oE nq aq np ap nv av q1 q2 q3 q4 oW nw aw o7 o8 o9 w1 w2 w3 w4 w5 w6 w7 oM mT mS mX mL mB mD m1 m2 mR x1 x2 x3 mH mY mE mW mO y1 y2 y3 y4 mZ oJ fa lT lL lM l4 l5 ft lB lH lK gn lG lR l1 l2 l3 pr reE laE suE leE lq lp lv ke tl fsh wi ri fm lm lw re7 la7 su7 le7 re8 la8 su8 le8 re9 la9 su9 le9 zt zp zf zh zr zc zy za zb zs zq zw ze zn zm zl zk zd fT fL fM f41 f42 f43 f51 f52 f53 fB fH1 fH2 fK1 fK2 fG1 fG2 f1 f2 f3 fR1 fR2 fR3 fR4 fR5 fR6 fq fp fv fQ1 fQ2 fQ3 fQ4 fw fW1 fW2 fW3 fW4 fW5 fW6 fW7 eT eS eX eL eB eD e1 e2 eR ec1 ec2 ec3 eH eY eE eW eO er1 er2 er3 er4 eZ fJ) H) (hD : va_D A (WLD cI cS cJ oX nT aT nL aL nM aM oC o4 a41 a42 a43 o5 a51 a52 a53 oP nB aB oH h1 h2 oK k1 k2 oG g1 g2 oR n1 a1 n2 a2 n3 a3 r1 r2 r3 r4 r5 r6 oQ oE nq aq np ap nv av q1 q2 q3 q4 oW nw aw o7 o8 o9 w1 w2 w3 w4 w5 w6 w7 oM mT mS mX mL mB mD m1 m2 mR x1 x2 x3 mH mY mE mW mO y1 y2 y3 y4 mZ oJ fa lT lL lM l4 l5 ft lB lH lK gn lG lR l1 l2 l3 pr reE laE suE leE lq lp lv ke tl fsh wi ri fm lm lw re7 la7 su7 le7 re8 la8 su8 le8 re9 la9 su9 le9 zt zp zf zh zr zc zy za zb zs zq zw ze zn zm zl zk zd fT fL fM f41 f42 f43 f51 f52 f53 fB fH1 fH2 fK1 fK2 fG1 fG2 f1 f2 f3 fR1 fR2 fR3 fR4 fR5 fR6 fq fp fv fQ1 fQ2 fQ3 fQ4 fw fW1 fW2 fW3 fW4 fW5 fW6 fW7 eT eS eX eL eB eD e1 e2 eR ec1 ec2 ec3 eH eY eE eW eO er1 er2 er3 er4 eZ fJ)) (hS : va_S A s.heap H locs) (hl : lv_has ls 7 [(0, .ref b), (1, .ref oX), (2, .ref oM), (3, .ref oJ), (4, .int i)]) (kk : KK p l e s m below meth c dC dI cI cS cJ A b oX nT aT nL aL nM aM oC o4 a41 a42 a43 o5 a51 a52 a53 oP nB aB oH h1 h2 oK k1 k2 oG g1 g2 oR n1 a1 n2 a2 n3 a3 r1 r2 r3 r4 r5 r6 oQ oE nq aq np ap nv av q1 q2 q3 q4 oW nw aw o7 o8 o9 w1 w2 w3 w4 w5 w6 w7 oM mT mS mX mL mB mD m1 m2 mR x1 x2 x3 mH mY mE mW mO y1 y2 y3 y4 mZ oJ i nc) : W p l e room_1 s m #[Value.ref b] below meth c H locs (90 + nc) (172225 + 6 * nc) (lw_Z below #[Value.ref b] s) (F0 m 563 ls []) := by
  refine And.elim (fun hx hBC_0 => ?_) C0
  refine And.elim (fun hb hBC_1 => ?_) hBC_0
  refine And.elim (fun hr hBC_2 => ?_) hBC_1
  refine And.elim (fun hml hBC_3 => ?_) hBC_2
  refine And.elim (fun hown hBC_4 => ?_) hBC_3
  refine And.elim (fun hts0 hBC_5 => ?_) hBC_4
  refine And.elim (fun hX hBC_6 => ?_) hBC_5
  refine And.elim (fun hbl hBC_7 => ?_) hBC_6
  refine And.elim (fun hlocks hBC_8 => ?_) hBC_7
  have hgv := hBC_8
  clear hBC_0 hBC_1 hBC_2 hBC_3 hBC_4 hBC_5 hBC_6 hBC_7 hBC_8
  refine And.elim (fun g_lT hBI_0 => ?_) hI
  refine And.elim (fun g_lL hBI_1 => ?_) hBI_0
  refine And.elim (fun g_lM hBI_2 => ?_) hBI_1
  refine And.elim (fun g_lB hBI_3 => ?_) hBI_2
  refine And.elim (fun g_lH hBI_4 => ?_) hBI_3
  refine And.elim (fun g_lK hBI_5 => ?_) hBI_4
  refine And.elim (fun g_gn hBI_6 => ?_) hBI_5
  refine And.elim (fun g_lG hBI_7 => ?_) hBI_6
  refine And.elim (fun g_lR hBI_8 => ?_) hBI_7
  refine And.elim (fun g_l1 hBI_9 => ?_) hBI_8
  refine And.elim (fun g_l2 hBI_10 => ?_) hBI_9
  refine And.elim (fun g_l3 hBI_11 => ?_) hBI_10
  refine And.elim (fun g_lq hBI_12 => ?_) hBI_11
  refine And.elim (fun g_lp hBI_13 => ?_) hBI_12
  refine And.elim (fun g_lv hBI_14 => ?_) hBI_13
  refine And.elim (fun g_ke hBI_15 => ?_) hBI_14
  refine And.elim (fun g_fsh hBI_16 => ?_) hBI_15
  refine And.elim (fun g_fm hBI_17 => ?_) hBI_16
  refine And.elim (fun g_lm hBI_18 => ?_) hBI_17
  refine And.elim (fun g_lw hBI_19 => ?_) hBI_18
  refine And.elim (fun g_zt hBI_20 => ?_) hBI_19
  refine And.elim (fun g_zp hBI_21 => ?_) hBI_20
  refine And.elim (fun g_zf hBI_22 => ?_) hBI_21
  refine And.elim (fun g_zh hBI_23 => ?_) hBI_22
  refine And.elim (fun g_zr hBI_24 => ?_) hBI_23
  refine And.elim (fun g_zc hBI_25 => ?_) hBI_24
  refine And.elim (fun g_zy hBI_26 => ?_) hBI_25
  refine And.elim (fun g_za hBI_27 => ?_) hBI_26
  refine And.elim (fun g_zb hBI_28 => ?_) hBI_27
  refine And.elim (fun g_zs hBI_29 => ?_) hBI_28
  refine And.elim (fun g_zq hBI_30 => ?_) hBI_29
  refine And.elim (fun g_zn hBI_31 => ?_) hBI_30
  refine And.elim (fun g_zm hBI_32 => ?_) hBI_31
  refine And.elim (fun g_zk hBI_33 => ?_) hBI_32
  refine And.elim (fun g_fG2 hBI_34 => ?_) hBI_33
  refine And.elim (fun g_eS hBI_35 => ?_) hBI_34
  refine And.elim (fun g_eX hBI_36 => ?_) hBI_35
  refine And.elim (fun g_eL hBI_37 => ?_) hBI_36
  refine And.elim (fun g_eB hBI_38 => ?_) hBI_37
  refine And.elim (fun g_e1 hBI_39 => ?_) hBI_38
  refine And.elim (fun g_e2 hBI_40 => ?_) hBI_39
  refine And.elim (fun g_eY hBI_41 => ?_) hBI_40
  refine And.elim (fun g_eE hBI_42 => ?_) hBI_41
  refine And.elim (fun g_eW hBI_43 => ?_) hBI_42
  refine And.elim (fun g_eO hBI_44 => ?_) hBI_43
  refine And.elim (fun g_eZ hBI_45 => ?_) hBI_44
  refine And.elim (fun hzn hBI_46 => ?_) hBI_45
  refine And.elim (fun hrel hBI_47 => ?_) hBI_46
  refine And.elim (fun hrc hBI_48 => ?_) hBI_47
  refine And.elim (fun hr4 hBI_49 => ?_) hBI_48
  refine And.elim (fun hr5 hBI_50 => ?_) hBI_49
  refine And.elim (fun hb4 hBI_51 => ?_) hBI_50
  refine And.elim (fun hb5 hBI_52 => ?_) hBI_51
  refine And.elim (fun hlz hBI_53 => ?_) hBI_52
  refine And.elim (fun hH hBI_54 => ?_) hBI_53
  refine And.elim (fun hHe hBI_55 => ?_) hBI_54
  refine And.elim (fun hKz hBI_56 => ?_) hBI_55
  refine And.elim (fun hT hBI_57 => ?_) hBI_56
  refine And.elim (fun ho hBI_58 => ?_) hBI_57
  refine And.elim (fun hal hBI_59 => ?_) hBI_58
  refine And.elim (fun hCV hBI_60 => ?_) hBI_59
  refine And.elim (fun hVk hBI_61 => ?_) hBI_60
  refine And.elim (fun hVr hBI_62 => ?_) hBI_61
  refine And.elim (fun hTX hBI_63 => ?_) hBI_62
  refine And.elim (fun hCH hBI_64 => ?_) hBI_63
  refine And.elim (fun hvc hBI_65 => ?_) hBI_64
  refine And.elim (fun hfr hBI_66 => ?_) hBI_65
  refine And.elim (fun hfx hBI_67 => ?_) hBI_66
  have hfs := hBI_67
  clear hI hBI_0 hBI_1 hBI_2 hBI_3 hBI_4 hBI_5 hBI_6 hBI_7 hBI_8 hBI_9 hBI_10 hBI_11 hBI_12 hBI_13 hBI_14 hBI_15 hBI_16 hBI_17 hBI_18 hBI_19 hBI_20 hBI_21 hBI_22 hBI_23 hBI_24 hBI_25 hBI_26 hBI_27 hBI_28 hBI_29 hBI_30 hBI_31 hBI_32 hBI_33 hBI_34 hBI_35 hBI_36 hBI_37 hBI_38 hBI_39 hBI_40 hBI_41 hBI_42 hBI_43 hBI_44 hBI_45 hBI_46 hBI_47 hBI_48 hBI_49 hBI_50 hBI_51 hBI_52 hBI_53 hBI_54 hBI_55 hBI_56 hBI_57 hBI_58 hBI_59 hBI_60 hBI_61 hBI_62 hBI_63 hBI_64 hBI_65 hBI_66 hBI_67
  have hK : va_K (dC, dI) vwCl [(cI, .int), (cS, .short)] s := hK3.sub [0, 1] rfl
  have hown : s.vm.findClass RL = some m.cls := hown
  have hts := hts0
  have hcf := k_cf hx hb hml hown hts
  have hi9 : 0 ≤ i.toInt ∧ i.toInt ≤ 3066 := by omega
  have hzs : zs.toInt ≤ 1000000 := by omega
  have hA : ∀ q : Nat, s.heap.size ≤ q → A q := fun q h => by rw [hAd]; exact h
  have hbA : ¬ A b := by rw [hAd]; exact Nat.not_le.mpr hbl
  have hP : va_P (dC, dI) vwCl [(oX, .inr (11, [.ref nT, .ref nL, .ref nM, .ref oC, .ref oP, .ref oH, .ref oK, .ref oG, .ref oR, .ref oQ, .ref oW, .int fa])), (nT, .inr (5, [.ref aT, .int lT])), (aT, .inl (cI, 900, .inl fT)), (nL, .inr (5, [.ref aL, .int lL])), (aL, .inl (cI, 300, .inl fL)), (nM, .inr (5, [.ref aM, .int lM])), (aM, .inl (cI, 300, .inl fM)), (oC, .inr (2, [.ref o4, .ref o5])), (o4, .inr (10, [.ref a41, .ref a42, .ref a43, .int l4])), (a41, .inl (cI, 256, .inl f41)), (a42, .inl (cI, 512, .inl f42)), (a43, .inl (cI, 512, .inl f43)), (o5, .inr (10, [.ref a51, .ref a52, .ref a53, .int l5])), (a51, .inl (cI, 256, .inl f51)), (a52, .inl (cI, 512, .inl f52)), (a53, .inl (cI, 512, .inl f53)), (oP, .inr (7, [.ref oC, .ref nB, .int ft])), (nB, .inr (5, [.ref aB, .int lB])), (aB, .inl (cI, 2400, .inl fB)), (oH, .inr (4, [.ref oP, .ref h1, .ref h2, .int lH])), (h1, .inl (cI, 6, .inl fH1)), (h2, .inl (cI, 6, .inl fH2)), (oK, .inr (3, [.ref k1, .ref k2, .int lK])), (k1, .inl (cI, 1024, .inl fK1)), (k2, .inl (cI, 1024, .inl fK2)), (oG, .inr (0, [.ref g1, .ref g2, .int gn, .int lG])), (g1, .inl (cI, 6000, .inl fG1)), (g2, .inl (cI, 20, .inl fG2)), (oR, .inr (9, [.ref oH, .ref oK, .ref n1, .ref n2, .ref n3, .ref r1, .ref r2, .ref r3, .ref r4, .ref r5, .ref r6, .int lR])), (n1, .inr (5, [.ref a1, .int l1])), (a1, .inl (cI, 300, .inl f1)), (n2, .inr (5, [.ref a2, .int l2])), (a2, .inl (cI, 300, .inl f2)), (n3, .inr (5, [.ref a3, .int l3])), (a3, .inl (cI, 300, .inl f3)), (r1, .inl (cI, 258, .inl fR1)), (r2, .inl (cI, 258, .inl fR2)), (r3, .inl (cI, 774, .inl fR3)), (r4, .inl (cI, 258, .inl fR4)), (r5, .inl (cI, 258, .inl fR5)), (r6, .inl (cI, 774, .inl fR6)), (oQ, .inr (6, [.ref oC, .ref oH, .ref oK, .ref oE, .ref nq, .ref np, .ref nv, .ref q1, .ref q2, .ref q3, .ref q4, .int pr])), (oE, .inr (8, [.ref oC, .ref oK, .int reE, .int laE, .int suE, .int leE])), (nq, .inr (5, [.ref aq, .int lq])), (aq, .inl (cI, 480, .inl fq)), (np, .inr (5, [.ref ap, .int lp])), (ap, .inl (cI, 300, .inl fp)), (nv, .inr (5, [.ref av, .int lv])), (av, .inl (cI, 300, .inl fv)), (q1, .inl (cI, 61, .inl fQ1)), (q2, .inl (cI, 61, .inl fQ2)), (q3, .inl (cI, 61, .inl fQ3)), (q4, .inl (cI, 61, .inl fQ4)), (oW, .inr (1, [.ref oC, .ref oK, .ref nw, .ref w1, .ref w2, .ref w3, .ref o7, .ref o8, .ref o9, .ref w4, .ref w5, .ref w6, .ref w7, .int ke, .int tl, .int fsh, .int wi, .int ri, .int fm, .int lm])), (nw, .inr (5, [.ref aw, .int lw])), (aw, .inl (cI, 800, .inl fw)), (o7, .inr (8, [.ref oC, .ref oK, .int re7, .int la7, .int su7, .int le7])), (o8, .inr (8, [.ref oC, .ref oK, .int re8, .int la8, .int su8, .int le8])), (o9, .inr (8, [.ref oC, .ref oK, .int re9, .int la9, .int su9, .int le9])), (w1, .inl (cI, 801, .inl fW1)), (w2, .inl (cI, 801, .inl fW2)), (w3, .inl (cI, 801, .inl fW3)), (w4, .inl (cI, 200, .inl fW4)), (w5, .inl (cI, 200, .inl fW5)), (w6, .inl (cI, 200, .inl fW6)), (w7, .inl (cI, 200, .inl fW7)), (oM, .inr (12, [.ref mT, .int zt, .ref mS, .ref mX, .int zp, .int zf, .ref mL, .ref mB, .ref mD, .ref m1, .ref m2, .int zh, .ref mR, .int zr, .ref x1, .ref x2, .ref x3, .int zc, .ref mH, .int zy, .int za, .int zb, .int zs, .int zq, .int zw, .int ze, .ref mY, .int zn, .ref mE, .int zm, .int zl, .ref mW, .int zk, .ref mO, .int zd, .ref y1, .ref y2, .ref y3, .ref y4, .ref mZ])), (mT, .inl (cI, 900, .inl eT)), (mS, .inl (cI, 21, .inl eS)), (mX, .inl (cI, 6300, .inl eX)), (mL, .inl (cI, 512, .inl eL)), (mB, .inl (cS, 131072, .inl eB)), (mD, .inl (cI, 2, .inl eD)), (m1, .inl (cI, 6, .inl e1)), (m2, .inl (cI, 6, .inl e2)), (mR, .inl (cI, 1548, .inl eR)), (x1, .inl (cI, 300, .inl ec1)), (x2, .inl (cI, 300, .inl ec2)), (x3, .inl (cI, 300, .inl ec3)), (mH, .inl (cI, 800, .inl eH)), (mY, .inl (cI, 2600, .inl eY)), (mE, .inl (cI, 2600, .inl eE)), (mW, .inl (cI, 300, .inl eW)), (mO, .inl (cI, 300, .inl eO)), (y1, .inl (cI, 61, .inl er1)), (y2, .inl (cI, 61, .inl er2)), (y3, .inl (cI, 61, .inl er3)), (y4, .inl (cI, 61, .inl er4)), (mZ, .inl (cI, 600, .inl eZ)), (oJ, .inl (cJ, 1, .inr (.inl fJ)))] H := hP
  have hD : va_D A [(oX, .inr (11, [.ref nT, .ref nL, .ref nM, .ref oC, .ref oP, .ref oH, .ref oK, .ref oG, .ref oR, .ref oQ, .ref oW, .int fa])), (nT, .inr (5, [.ref aT, .int lT])), (aT, .inl (cI, 900, .inl fT)), (nL, .inr (5, [.ref aL, .int lL])), (aL, .inl (cI, 300, .inl fL)), (nM, .inr (5, [.ref aM, .int lM])), (aM, .inl (cI, 300, .inl fM)), (oC, .inr (2, [.ref o4, .ref o5])), (o4, .inr (10, [.ref a41, .ref a42, .ref a43, .int l4])), (a41, .inl (cI, 256, .inl f41)), (a42, .inl (cI, 512, .inl f42)), (a43, .inl (cI, 512, .inl f43)), (o5, .inr (10, [.ref a51, .ref a52, .ref a53, .int l5])), (a51, .inl (cI, 256, .inl f51)), (a52, .inl (cI, 512, .inl f52)), (a53, .inl (cI, 512, .inl f53)), (oP, .inr (7, [.ref oC, .ref nB, .int ft])), (nB, .inr (5, [.ref aB, .int lB])), (aB, .inl (cI, 2400, .inl fB)), (oH, .inr (4, [.ref oP, .ref h1, .ref h2, .int lH])), (h1, .inl (cI, 6, .inl fH1)), (h2, .inl (cI, 6, .inl fH2)), (oK, .inr (3, [.ref k1, .ref k2, .int lK])), (k1, .inl (cI, 1024, .inl fK1)), (k2, .inl (cI, 1024, .inl fK2)), (oG, .inr (0, [.ref g1, .ref g2, .int gn, .int lG])), (g1, .inl (cI, 6000, .inl fG1)), (g2, .inl (cI, 20, .inl fG2)), (oR, .inr (9, [.ref oH, .ref oK, .ref n1, .ref n2, .ref n3, .ref r1, .ref r2, .ref r3, .ref r4, .ref r5, .ref r6, .int lR])), (n1, .inr (5, [.ref a1, .int l1])), (a1, .inl (cI, 300, .inl f1)), (n2, .inr (5, [.ref a2, .int l2])), (a2, .inl (cI, 300, .inl f2)), (n3, .inr (5, [.ref a3, .int l3])), (a3, .inl (cI, 300, .inl f3)), (r1, .inl (cI, 258, .inl fR1)), (r2, .inl (cI, 258, .inl fR2)), (r3, .inl (cI, 774, .inl fR3)), (r4, .inl (cI, 258, .inl fR4)), (r5, .inl (cI, 258, .inl fR5)), (r6, .inl (cI, 774, .inl fR6)), (oQ, .inr (6, [.ref oC, .ref oH, .ref oK, .ref oE, .ref nq, .ref np, .ref nv, .ref q1, .ref q2, .ref q3, .ref q4, .int pr])), (oE, .inr (8, [.ref oC, .ref oK, .int reE, .int laE, .int suE, .int leE])), (nq, .inr (5, [.ref aq, .int lq])), (aq, .inl (cI, 480, .inl fq)), (np, .inr (5, [.ref ap, .int lp])), (ap, .inl (cI, 300, .inl fp)), (nv, .inr (5, [.ref av, .int lv])), (av, .inl (cI, 300, .inl fv)), (q1, .inl (cI, 61, .inl fQ1)), (q2, .inl (cI, 61, .inl fQ2)), (q3, .inl (cI, 61, .inl fQ3)), (q4, .inl (cI, 61, .inl fQ4)), (oW, .inr (1, [.ref oC, .ref oK, .ref nw, .ref w1, .ref w2, .ref w3, .ref o7, .ref o8, .ref o9, .ref w4, .ref w5, .ref w6, .ref w7, .int ke, .int tl, .int fsh, .int wi, .int ri, .int fm, .int lm])), (nw, .inr (5, [.ref aw, .int lw])), (aw, .inl (cI, 800, .inl fw)), (o7, .inr (8, [.ref oC, .ref oK, .int re7, .int la7, .int su7, .int le7])), (o8, .inr (8, [.ref oC, .ref oK, .int re8, .int la8, .int su8, .int le8])), (o9, .inr (8, [.ref oC, .ref oK, .int re9, .int la9, .int su9, .int le9])), (w1, .inl (cI, 801, .inl fW1)), (w2, .inl (cI, 801, .inl fW2)), (w3, .inl (cI, 801, .inl fW3)), (w4, .inl (cI, 200, .inl fW4)), (w5, .inl (cI, 200, .inl fW5)), (w6, .inl (cI, 200, .inl fW6)), (w7, .inl (cI, 200, .inl fW7)), (oM, .inr (12, [.ref mT, .int zt, .ref mS, .ref mX, .int zp, .int zf, .ref mL, .ref mB, .ref mD, .ref m1, .ref m2, .int zh, .ref mR, .int zr, .ref x1, .ref x2, .ref x3, .int zc, .ref mH, .int zy, .int za, .int zb, .int zs, .int zq, .int zw, .int ze, .ref mY, .int zn, .ref mE, .int zm, .int zl, .ref mW, .int zk, .ref mO, .int zd, .ref y1, .ref y2, .ref y3, .ref y4, .ref mZ])), (mT, .inl (cI, 900, .inl eT)), (mS, .inl (cI, 21, .inl eS)), (mX, .inl (cI, 6300, .inl eX)), (mL, .inl (cI, 512, .inl eL)), (mB, .inl (cS, 131072, .inl eB)), (mD, .inl (cI, 2, .inl eD)), (m1, .inl (cI, 6, .inl e1)), (m2, .inl (cI, 6, .inl e2)), (mR, .inl (cI, 1548, .inl eR)), (x1, .inl (cI, 300, .inl ec1)), (x2, .inl (cI, 300, .inl ec2)), (x3, .inl (cI, 300, .inl ec3)), (mH, .inl (cI, 800, .inl eH)), (mY, .inl (cI, 2600, .inl eY)), (mE, .inl (cI, 2600, .inl eE)), (mW, .inl (cI, 300, .inl eW)), (mO, .inl (cI, 300, .inl eO)), (y1, .inl (cI, 61, .inl er1)), (y2, .inl (cI, 61, .inl er2)), (y3, .inl (cI, 61, .inl er3)), (y4, .inl (cI, 61, .inl er4)), (mZ, .inl (cI, 600, .inl eZ)), (oJ, .inl (cJ, 1, .inr (.inl fJ)))] := hD
  have hN52 : va_Nw (.methodLinkNest RX2 52 yX11_isLetter "TextMender") s := va_Nw.of rfl (hts0 _ q_3_4)
  replace g_lT := hid g_lT
  replace g_lM := hid g_lM
  replace g_lB := hid g_lB
  replace g_lR := hid g_lR
  replace g_l1 := hid g_l1
  replace g_l2 := hid g_l2
  replace g_l3 := hid g_l3
  replace g_lq := hid g_lq
  replace g_lp := hid g_lp
  replace g_lv := hid g_lv
  replace g_fm := hid g_fm
  replace g_lm := hid g_lm
  replace g_lw := hid g_lw
  replace g_zt := hid g_zt
  replace g_zr := hid g_zr
  replace g_zn := hid g_zn
  replace g_zm := hid g_zm
  replace g_zk := hid g_zk
  refine lv_aload_n hx hb dL_law_563 rfl (lv_at hl 1 rfl) ?_
  refine lv_aload_n hx hb dL_law_564 rfl (lv_at hl 0 rfl) ?_
  refine lv_iload hx hb dL_law_565 (lv_at hl 4 rfl) ?_
  refine lv_iconst (v := 1) hx hb dL_law_567 (by decide) ?_
  refine lv_iadd hx hb dL_law_568 ?_
  refine lv_topi (fun x_1 ex_1 => ?_)
  have tx_1 : x_1.toInt = i.toInt + 1 := v_addR (l2 := 1) (h2 := 1) ex_1 hi9 (by decide) (by decide) (by decide)
  refine va_sld hx hb hX hbl hbA hS (v_in (v_sld5 tx_1 hi (by decide))) dL_law_569 ?_
  refine lv_topi (fun x_2 ex_2 => ?_)
  refine lv_aload_n hx hb dL_law_570 rfl (lv_at hl 0 rfl) ?_
  refine lv_iload hx hb dL_law_571 (lv_at hl 4 rfl) ?_
  refine lv_iconst (v := 2) hx hb dL_law_573 (by decide) ?_
  refine lv_iadd hx hb dL_law_574 ?_
  refine lv_topi (fun x_3 ex_3 => ?_)
  have tx_3 : x_3.toInt = i.toInt + 2 := v_addR (l2 := 2) (h2 := 2) ex_3 hi9 (by decide) (by decide) (by decide)
  refine va_sld hx hb hX hbl hbA hS (v_in (v_sld5 tx_3 hi (by decide))) dL_law_575 ?_
  refine lv_topi (fun x_4 ex_4 => ?_)
  refine kV_i (rest := []) (q0 := 0) (ci := 11) hcf (f_X11_rough l dC dI cI cS H.size oX nT nL nM oC oP oH oK oG oR oQ oW aL aM nB aB o4 o5 a41 a42 a43 a51 a52 a53 g1 g2 nw w1 w2 w3 o7 o8 o9 w4 w5 w6 w7 fa lL fL lM fM ft lB fB l4 f41 f42 f43 l5 f51 f52 f53 gn lG fG1 fG2 ke tl fsh wi ri fm lm x_2 x_4 (g_lL) (g_lM) (g_lB) (g_gn) (g_lG) (g_fG2) (g_ke) (g_fsh) (g_fm) (g_lm) (TX_p hTX) (hr4.1) (occ_511 hr4.2.1) (hr5.1) (occ_511 hr5.2.1) (TR_r hr4 g_eL) (TR_r hr5 g_eL) (okB_cl hr4 hr5 g_eB)) kc_X11_rough gL_law_X11_rough rfl rfl rfl ⟨Nat.le_of_ble_eq_true rfl, Nat.le_of_ble_eq_true rfl⟩ (kX_1 hN52) hK hP hD hS hA ([0, 1, 2, 3, 4, 14, 15, 16, 5, 6, 7, 8, 9, 10, 11, 12, 13, 17, 18, 19, 20].filterMap (fun j => (posT mk_19 0)[j]?)) (posF mk_19 0) (kCp (ws := [(oX, .inr (11, [.ref nT, .ref nL, .ref nM, .ref oC, .ref oP, .ref oH, .ref oK, .ref oG, .ref oR, .ref oQ, .ref oW, .int fa])), (nL, .inr (5, [.ref aL, .int lL])), (aL, .inl (cI, 300, .inl fL)), (nM, .inr (5, [.ref aM, .int lM])), (aM, .inl (cI, 300, .inl fM)), (oC, .inr (2, [.ref o4, .ref o5])), (o4, .inr (10, [.ref a41, .ref a42, .ref a43, .int l4])), (a41, .inl (cI, 256, .inl f41)), (a42, .inl (cI, 512, .inl f42)), (a43, .inl (cI, 512, .inl f43)), (o5, .inr (10, [.ref a51, .ref a52, .ref a53, .int l5])), (a51, .inl (cI, 256, .inl f51)), (a52, .inl (cI, 512, .inl f52)), (a53, .inl (cI, 512, .inl f53)), (oP, .inr (7, [.ref oC, .ref nB, .int ft])), (nB, .inr (5, [.ref aB, .int lB])), (aB, .inl (cI, 2400, .inl fB)), (oG, .inr (0, [.ref g1, .ref g2, .int gn, .int lG])), (g1, .inl (cI, 6000, .inl fG1)), (g2, .inl (cI, 20, .inl fG2)), (oW, .inr (1, [.ref oC, .ref oK, .ref nw, .ref w1, .ref w2, .ref w3, .ref o7, .ref o8, .ref o9, .ref w4, .ref w5, .ref w6, .ref w7, .int ke, .int tl, .int fsh, .int wi, .int ri, .int fm, .int lm]))]) (kC_of mk_19 rfl rfl) rfl) (by decide +kernel) rfl rfl rfl hl rfl (Nat.le_of_ble_eq_true rfl) dL_law_576 ⟨kfit1 hn (Nat.le_of_ble_eq_true rfl), ksix1 hn (Nat.le_of_ble_eq_true rfl)⟩ (fun r_5 H locs hB hJ hSn => ?_)
  refine Exists.elim hB (fun fa_5 hB5_0 => ?_)
  refine Exists.elim hB5_0 (fun ft_5 hB5_1 => ?_)
  refine Exists.elim hB5_1 (fun lB_5 hB5_2 => ?_)
  refine Exists.elim hB5_2 (fun fB_5 hB5_3 => ?_)
  refine Exists.elim hB5_3 (fun lM_5 hB5_4 => ?_)
  refine Exists.elim hB5_4 (fun fM_5 hB5_5 => ?_)
  refine Exists.elim hB5_5 (fun lL_5 hB5_6 => ?_)
  refine Exists.elim hB5_6 (fun fL_5 hB5_7 => ?_)
  refine Exists.elim hB5_7 (fun fsh_5 hB5_8 => ?_)
  refine Exists.elim hB5_8 (fun gn_5 hB5_9 => ?_)
  refine Exists.elim hB5_9 (fun lG_5 hB5_10 => ?_)
  refine Exists.elim hB5_10 (fun fG1_5 hB5_11 => ?_)
  refine Exists.elim hB5_11 (fun fG2_5 hB5_12 => ?_)
  refine And.elim (fun hPD9 hB5_13 => ?_) hB5_12
  refine And.elim (fun hf5_0 hB5_14 => ?_) hB5_13
  refine And.elim (fun hf5_1 hB5_15 => ?_) hB5_14
  refine And.elim (fun hf5_2 hB5_16 => ?_) hB5_15
  refine And.elim (fun hf5_3 hB5_17 => ?_) hB5_16
  refine And.elim (fun hf5_4 hB5_18 => ?_) hB5_17
  refine And.elim (fun hf5_5 hB5_19 => ?_) hB5_18
  refine And.elim (fun hf5_6 hB5_20 => ?_) hB5_19
  have hf5_7 := hB5_20
  clear hB hB5_0 hB5_1 hB5_2 hB5_3 hB5_4 hB5_5 hB5_6 hB5_7 hB5_8 hB5_9 hB5_10 hB5_11 hB5_12 hB5_13 hB5_14 hB5_15 hB5_16 hB5_17 hB5_18 hB5_19 hB5_20
  obtain ⟨hPn, hDn⟩ := kJm (m := mk_19) hJ rfl hPD9.1 hPD9.2 [0, 1, 2, 3, 4, 8, 9, 10, 11, 12, 13, 14, 15, 16, 5, 6, 7, 17, 18, 19, 20] (by decide +kernel) (ws := [(oX, .inr (11, [.ref nT, .ref nL, .ref nM, .ref oC, .ref oP, .ref oH, .ref oK, .ref oG, .ref oR, .ref oQ, .ref oW, .int fa_5])), (nL, .inr (5, [.ref aL, .int lL_5])), (aL, .inl (cI, 300, .inl fL_5)), (nM, .inr (5, [.ref aM, .int lM_5])), (aM, .inl (cI, 300, .inl fM_5)), (oC, .inr (2, [.ref o4, .ref o5])), (o4, .inr (10, [.ref a41, .ref a42, .ref a43, .int l4])), (a41, .inl (cI, 256, .inl f41)), (a42, .inl (cI, 512, .inl f42)), (a43, .inl (cI, 512, .inl f43)), (o5, .inr (10, [.ref a51, .ref a52, .ref a53, .int l5])), (a51, .inl (cI, 256, .inl f51)), (a52, .inl (cI, 512, .inl f52)), (a53, .inl (cI, 512, .inl f53)), (oP, .inr (7, [.ref oC, .ref nB, .int ft_5])), (nB, .inr (5, [.ref aB, .int lB_5])), (aB, .inl (cI, 2400, .inl fB_5)), (oG, .inr (0, [.ref g1, .ref g2, .int gn_5, .int lG_5])), (g1, .inl (cI, 6000, .inl fG1_5)), (g2, .inl (cI, 20, .inl fG2_5)), (oW, .inr (1, [.ref oC, .ref oK, .ref nw, .ref w1, .ref w2, .ref w3, .ref o7, .ref o8, .ref o9, .ref w4, .ref w5, .ref w6, .ref w7, .int ke, .int tl, .int fsh_5, .int wi, .int ri, .int fm, .int lm]))]) rfl (wn := [(oX, .inr (11, [.ref nT, .ref nL, .ref nM, .ref oC, .ref oP, .ref oH, .ref oK, .ref oG, .ref oR, .ref oQ, .ref oW, .int fa_5])), (nT, .inr (5, [.ref aT, .int lT])), (aT, .inl (cI, 900, .inl fT)), (nL, .inr (5, [.ref aL, .int lL_5])), (aL, .inl (cI, 300, .inl fL_5)), (nM, .inr (5, [.ref aM, .int lM_5])), (aM, .inl (cI, 300, .inl fM_5)), (oC, .inr (2, [.ref o4, .ref o5])), (o4, .inr (10, [.ref a41, .ref a42, .ref a43, .int l4])), (a41, .inl (cI, 256, .inl f41)), (a42, .inl (cI, 512, .inl f42)), (a43, .inl (cI, 512, .inl f43)), (o5, .inr (10, [.ref a51, .ref a52, .ref a53, .int l5])), (a51, .inl (cI, 256, .inl f51)), (a52, .inl (cI, 512, .inl f52)), (a53, .inl (cI, 512, .inl f53)), (oP, .inr (7, [.ref oC, .ref nB, .int ft_5])), (nB, .inr (5, [.ref aB, .int lB_5])), (aB, .inl (cI, 2400, .inl fB_5)), (oH, .inr (4, [.ref oP, .ref h1, .ref h2, .int lH])), (h1, .inl (cI, 6, .inl fH1)), (h2, .inl (cI, 6, .inl fH2)), (oK, .inr (3, [.ref k1, .ref k2, .int lK])), (k1, .inl (cI, 1024, .inl fK1)), (k2, .inl (cI, 1024, .inl fK2)), (oG, .inr (0, [.ref g1, .ref g2, .int gn_5, .int lG_5])), (g1, .inl (cI, 6000, .inl fG1_5)), (g2, .inl (cI, 20, .inl fG2_5)), (oR, .inr (9, [.ref oH, .ref oK, .ref n1, .ref n2, .ref n3, .ref r1, .ref r2, .ref r3, .ref r4, .ref r5, .ref r6, .int lR])), (n1, .inr (5, [.ref a1, .int l1])), (a1, .inl (cI, 300, .inl f1)), (n2, .inr (5, [.ref a2, .int l2])), (a2, .inl (cI, 300, .inl f2)), (n3, .inr (5, [.ref a3, .int l3])), (a3, .inl (cI, 300, .inl f3)), (r1, .inl (cI, 258, .inl fR1)), (r2, .inl (cI, 258, .inl fR2)), (r3, .inl (cI, 774, .inl fR3)), (r4, .inl (cI, 258, .inl fR4)), (r5, .inl (cI, 258, .inl fR5)), (r6, .inl (cI, 774, .inl fR6)), (oQ, .inr (6, [.ref oC, .ref oH, .ref oK, .ref oE, .ref nq, .ref np, .ref nv, .ref q1, .ref q2, .ref q3, .ref q4, .int pr])), (oE, .inr (8, [.ref oC, .ref oK, .int reE, .int laE, .int suE, .int leE])), (nq, .inr (5, [.ref aq, .int lq])), (aq, .inl (cI, 480, .inl fq)), (np, .inr (5, [.ref ap, .int lp])), (ap, .inl (cI, 300, .inl fp)), (nv, .inr (5, [.ref av, .int lv])), (av, .inl (cI, 300, .inl fv)), (q1, .inl (cI, 61, .inl fQ1)), (q2, .inl (cI, 61, .inl fQ2)), (q3, .inl (cI, 61, .inl fQ3)), (q4, .inl (cI, 61, .inl fQ4)), (oW, .inr (1, [.ref oC, .ref oK, .ref nw, .ref w1, .ref w2, .ref w3, .ref o7, .ref o8, .ref o9, .ref w4, .ref w5, .ref w6, .ref w7, .int ke, .int tl, .int fsh_5, .int wi, .int ri, .int fm, .int lm])), (nw, .inr (5, [.ref aw, .int lw])), (aw, .inl (cI, 800, .inl fw)), (o7, .inr (8, [.ref oC, .ref oK, .int re7, .int la7, .int su7, .int le7])), (o8, .inr (8, [.ref oC, .ref oK, .int re8, .int la8, .int su8, .int le8])), (o9, .inr (8, [.ref oC, .ref oK, .int re9, .int la9, .int su9, .int le9])), (w1, .inl (cI, 801, .inl fW1)), (w2, .inl (cI, 801, .inl fW2)), (w3, .inl (cI, 801, .inl fW3)), (w4, .inl (cI, 200, .inl fW4)), (w5, .inl (cI, 200, .inl fW5)), (w6, .inl (cI, 200, .inl fW6)), (w7, .inl (cI, 200, .inl fW7)), (oM, .inr (12, [.ref mT, .int zt, .ref mS, .ref mX, .int zp, .int zf, .ref mL, .ref mB, .ref mD, .ref m1, .ref m2, .int zh, .ref mR, .int zr, .ref x1, .ref x2, .ref x3, .int zc, .ref mH, .int zy, .int za, .int zb, .int zs, .int zq, .int zw, .int ze, .ref mY, .int zn, .ref mE, .int zm, .int zl, .ref mW, .int zk, .ref mO, .int zd, .ref y1, .ref y2, .ref y3, .ref y4, .ref mZ])), (mT, .inl (cI, 900, .inl eT)), (mS, .inl (cI, 21, .inl eS)), (mX, .inl (cI, 6300, .inl eX)), (mL, .inl (cI, 512, .inl eL)), (mB, .inl (cS, 131072, .inl eB)), (mD, .inl (cI, 2, .inl eD)), (m1, .inl (cI, 6, .inl e1)), (m2, .inl (cI, 6, .inl e2)), (mR, .inl (cI, 1548, .inl eR)), (x1, .inl (cI, 300, .inl ec1)), (x2, .inl (cI, 300, .inl ec2)), (x3, .inl (cI, 300, .inl ec3)), (mH, .inl (cI, 800, .inl eH)), (mY, .inl (cI, 2600, .inl eY)), (mE, .inl (cI, 2600, .inl eE)), (mW, .inl (cI, 300, .inl eW)), (mO, .inl (cI, 300, .inl eO)), (y1, .inl (cI, 61, .inl er1)), (y2, .inl (cI, 61, .inl er2)), (y3, .inl (cI, 61, .inl er3)), (y4, .inl (cI, 61, .inl er4)), (mZ, .inl (cI, 600, .inl eZ)), (oJ, .inl (cJ, 1, .inr (.inl fJ)))]) rfl
  clear hP hD hS hJ hPD9
  have hP := hPn
  have hD := hDn
  have hS := hSn
  clear hPn hDn hSn
  refine lv_pop hx hb dL_law_579 rfl ?_
  refine lv_aload_n hx hb dL_law_580 rfl (lv_at hl 2 rfl) ?_
  refine lv_aload_n hx hb dL_law_581 rfl (lv_at hl 0 rfl) ?_
  refine lv_iload hx hb dL_law_582 (lv_at hl 4 rfl) ?_
  refine lv_iconst (v := 1) hx hb dL_law_584 (by decide) ?_
  refine lv_iadd hx hb dL_law_585 ?_
  refine lv_topi (fun x_6 ex_6 => ?_)
  have tx_6 : x_6.toInt = i.toInt + 1 := v_addR (l2 := 1) (h2 := 1) ex_6 hi9 (by decide) (by decide) (by decide)
  refine va_sld hx hb hX hbl hbA hS (v_in (v_sld5 tx_6 hi (by decide))) dL_law_586 ?_
  refine lv_topi (fun x_7 ex_7 => ?_)
  have es_7 : x_7 = x_2 := by rw [ex_7, ex_2, ex_6, ex_1]
  rw [es_7]
  refine lv_aload_n hx hb dL_law_587 rfl (lv_at hl 0 rfl) ?_
  refine lv_iload hx hb dL_law_588 (lv_at hl 4 rfl) ?_
  refine lv_iconst (v := 2) hx hb dL_law_590 (by decide) ?_
  refine lv_iadd hx hb dL_law_591 ?_
  refine lv_topi (fun x_8 ex_8 => ?_)
  have tx_8 : x_8.toInt = i.toInt + 2 := v_addR (l2 := 2) (h2 := 2) ex_8 hi9 (by decide) (by decide) (by decide)
  refine va_sld hx hb hX hbl hbA hS (v_in (v_sld5 tx_8 hi (by decide))) dL_law_592 ?_
  refine lv_topi (fun x_9 ex_9 => ?_)
  have es_9 : x_9 = x_4 := by rw [ex_9, ex_4, ex_8, ex_3]
  rw [es_9]
  refine kV_i (rest := []) (q0 := 0) (ci := 12) hcf (f_X12_rough l dC dI cI cS H.size oM mT mS mX mL mB mD m1 m2 mR x1 x2 x3 mH mY mE mW mO y1 y2 y3 y4 mZ zt zp zf zh zr zc zy za zb zs zq zw ze zn zm zl zk zd eY eB eL eE eS eX x_2 x_4 (g_zt) (g_zp) (g_zf) (g_zh) (g_zr) (g_zc) (g_zy) (g_za) (g_zb) (g_zs) (g_zq) (g_zn) (g_zm) (g_zk) (g_eY) (g_eB) (g_eL) (g_eE) (g_eS) (g_eX) (by omega)) kc_X12_rough gL_law_X12_rough rfl rfl rfl ⟨Nat.le_of_ble_eq_true rfl, Nat.le_of_ble_eq_true rfl⟩ kX_t hK hP hD hS hA ([0, 5, 4, 3, 6, 1, 2].filterMap (fun j => (posT mk_20 0)[j]?)) (posF mk_20 0) (kCp (ws := [(oM, .inr (12, [.ref mT, .int zt, .ref mS, .ref mX, .int zp, .int zf, .ref mL, .ref mB, .ref mD, .ref m1, .ref m2, .int zh, .ref mR, .int zr, .ref x1, .ref x2, .ref x3, .int zc, .ref mH, .int zy, .int za, .int zb, .int zs, .int zq, .int zw, .int ze, .ref mY, .int zn, .ref mE, .int zm, .int zl, .ref mW, .int zk, .ref mO, .int zd, .ref y1, .ref y2, .ref y3, .ref y4, .ref mZ])), (mS, .inl (cI, 21, .inl eS)), (mX, .inl (cI, 6300, .inl eX)), (mL, .inl (cI, 512, .inl eL)), (mB, .inl (cS, 131072, .inl eB)), (mY, .inl (cI, 2600, .inl eY)), (mE, .inl (cI, 2600, .inl eE))]) (kC_of mk_20 rfl rfl) rfl) (by decide +kernel) rfl rfl rfl hl rfl (Nat.le_of_ble_eq_true rfl) dL_law_593 ⟨kfit2 hn (Nat.le_of_ble_eq_true rfl), ksix2 hn (Nat.le_of_ble_eq_true rfl)⟩ (fun r_10 H locs hB hJ hSn => ?_)
  refine Exists.elim hB (fun ze_10 hB10_0 => ?_)
  refine Exists.elim hB10_0 (fun zw_10 hB10_1 => ?_)
  refine Exists.elim hB10_1 (fun zn_10 hB10_2 => ?_)
  refine Exists.elim hB10_2 (fun eY_10 hB10_3 => ?_)
  refine Exists.elim hB10_3 (fun zd_10 hB10_4 => ?_)
  refine Exists.elim hB10_4 (fun zm_10 hB10_5 => ?_)
  refine Exists.elim hB10_5 (fun zl_10 hB10_6 => ?_)
  refine Exists.elim hB10_6 (fun eE_10 hB10_7 => ?_)
  refine Exists.elim hB10_7 (fun zp_10 hB10_8 => ?_)
  refine Exists.elim hB10_8 (fun zf_10 hB10_9 => ?_)
  refine Exists.elim hB10_9 (fun zs_10 hB10_10 => ?_)
  refine Exists.elim hB10_10 (fun eS_10 hB10_11 => ?_)
  refine Exists.elim hB10_11 (fun eX_10 hB10_12 => ?_)
  refine And.elim (fun hPD9 hB10_13 => ?_) hB10_12
  refine And.elim (fun hf10_0 hB10_14 => ?_) hB10_13
  refine And.elim (fun hf10_1 hB10_15 => ?_) hB10_14
  refine And.elim (fun hf10_2 hB10_16 => ?_) hB10_15
  refine And.elim (fun hf10_3 hB10_17 => ?_) hB10_16
  refine And.elim (fun hf10_4 hB10_18 => ?_) hB10_17
  refine And.elim (fun hf10_5 hB10_19 => ?_) hB10_18
  refine And.elim (fun hf10_6 hB10_20 => ?_) hB10_19
  refine And.elim (fun hf10_7 hB10_21 => ?_) hB10_20
  refine And.elim (fun hf10_8 hB10_22 => ?_) hB10_21
  refine And.elim (fun hf10_9 hB10_23 => ?_) hB10_22
  refine And.elim (fun hf10_10 hB10_24 => ?_) hB10_23
  have hf10_11 := hB10_24
  clear hB hB10_0 hB10_1 hB10_2 hB10_3 hB10_4 hB10_5 hB10_6 hB10_7 hB10_8 hB10_9 hB10_10 hB10_11 hB10_12 hB10_13 hB10_14 hB10_15 hB10_16 hB10_17 hB10_18 hB10_19 hB10_20 hB10_21 hB10_22 hB10_23 hB10_24
  obtain ⟨hPn, hDn⟩ := kJm (m := mk_20) hJ rfl hPD9.1 hPD9.2 [0, 5, 6, 3, 2, 1, 4] (by decide +kernel) (ws := [(oM, .inr (12, [.ref mT, .int zt, .ref mS, .ref mX, .int zp_10, .int zf_10, .ref mL, .ref mB, .ref mD, .ref m1, .ref m2, .int zh, .ref mR, .int zr, .ref x1, .ref x2, .ref x3, .int zc, .ref mH, .int zy, .int za, .int zb, .int zs_10, .int zq, .int zw_10, .int ze_10, .ref mY, .int zn_10, .ref mE, .int zm_10, .int zl_10, .ref mW, .int zk, .ref mO, .int zd_10, .ref y1, .ref y2, .ref y3, .ref y4, .ref mZ])), (mS, .inl (cI, 21, .inl eS_10)), (mX, .inl (cI, 6300, .inl eX_10)), (mL, .inl (cI, 512, .inl eL)), (mB, .inl (cS, 131072, .inl eB)), (mY, .inl (cI, 2600, .inl eY_10)), (mE, .inl (cI, 2600, .inl eE_10))]) rfl (wn := [(oX, .inr (11, [.ref nT, .ref nL, .ref nM, .ref oC, .ref oP, .ref oH, .ref oK, .ref oG, .ref oR, .ref oQ, .ref oW, .int fa_5])), (nT, .inr (5, [.ref aT, .int lT])), (aT, .inl (cI, 900, .inl fT)), (nL, .inr (5, [.ref aL, .int lL_5])), (aL, .inl (cI, 300, .inl fL_5)), (nM, .inr (5, [.ref aM, .int lM_5])), (aM, .inl (cI, 300, .inl fM_5)), (oC, .inr (2, [.ref o4, .ref o5])), (o4, .inr (10, [.ref a41, .ref a42, .ref a43, .int l4])), (a41, .inl (cI, 256, .inl f41)), (a42, .inl (cI, 512, .inl f42)), (a43, .inl (cI, 512, .inl f43)), (o5, .inr (10, [.ref a51, .ref a52, .ref a53, .int l5])), (a51, .inl (cI, 256, .inl f51)), (a52, .inl (cI, 512, .inl f52)), (a53, .inl (cI, 512, .inl f53)), (oP, .inr (7, [.ref oC, .ref nB, .int ft_5])), (nB, .inr (5, [.ref aB, .int lB_5])), (aB, .inl (cI, 2400, .inl fB_5)), (oH, .inr (4, [.ref oP, .ref h1, .ref h2, .int lH])), (h1, .inl (cI, 6, .inl fH1)), (h2, .inl (cI, 6, .inl fH2)), (oK, .inr (3, [.ref k1, .ref k2, .int lK])), (k1, .inl (cI, 1024, .inl fK1)), (k2, .inl (cI, 1024, .inl fK2)), (oG, .inr (0, [.ref g1, .ref g2, .int gn_5, .int lG_5])), (g1, .inl (cI, 6000, .inl fG1_5)), (g2, .inl (cI, 20, .inl fG2_5)), (oR, .inr (9, [.ref oH, .ref oK, .ref n1, .ref n2, .ref n3, .ref r1, .ref r2, .ref r3, .ref r4, .ref r5, .ref r6, .int lR])), (n1, .inr (5, [.ref a1, .int l1])), (a1, .inl (cI, 300, .inl f1)), (n2, .inr (5, [.ref a2, .int l2])), (a2, .inl (cI, 300, .inl f2)), (n3, .inr (5, [.ref a3, .int l3])), (a3, .inl (cI, 300, .inl f3)), (r1, .inl (cI, 258, .inl fR1)), (r2, .inl (cI, 258, .inl fR2)), (r3, .inl (cI, 774, .inl fR3)), (r4, .inl (cI, 258, .inl fR4)), (r5, .inl (cI, 258, .inl fR5)), (r6, .inl (cI, 774, .inl fR6)), (oQ, .inr (6, [.ref oC, .ref oH, .ref oK, .ref oE, .ref nq, .ref np, .ref nv, .ref q1, .ref q2, .ref q3, .ref q4, .int pr])), (oE, .inr (8, [.ref oC, .ref oK, .int reE, .int laE, .int suE, .int leE])), (nq, .inr (5, [.ref aq, .int lq])), (aq, .inl (cI, 480, .inl fq)), (np, .inr (5, [.ref ap, .int lp])), (ap, .inl (cI, 300, .inl fp)), (nv, .inr (5, [.ref av, .int lv])), (av, .inl (cI, 300, .inl fv)), (q1, .inl (cI, 61, .inl fQ1)), (q2, .inl (cI, 61, .inl fQ2)), (q3, .inl (cI, 61, .inl fQ3)), (q4, .inl (cI, 61, .inl fQ4)), (oW, .inr (1, [.ref oC, .ref oK, .ref nw, .ref w1, .ref w2, .ref w3, .ref o7, .ref o8, .ref o9, .ref w4, .ref w5, .ref w6, .ref w7, .int ke, .int tl, .int fsh_5, .int wi, .int ri, .int fm, .int lm])), (nw, .inr (5, [.ref aw, .int lw])), (aw, .inl (cI, 800, .inl fw)), (o7, .inr (8, [.ref oC, .ref oK, .int re7, .int la7, .int su7, .int le7])), (o8, .inr (8, [.ref oC, .ref oK, .int re8, .int la8, .int su8, .int le8])), (o9, .inr (8, [.ref oC, .ref oK, .int re9, .int la9, .int su9, .int le9])), (w1, .inl (cI, 801, .inl fW1)), (w2, .inl (cI, 801, .inl fW2)), (w3, .inl (cI, 801, .inl fW3)), (w4, .inl (cI, 200, .inl fW4)), (w5, .inl (cI, 200, .inl fW5)), (w6, .inl (cI, 200, .inl fW6)), (w7, .inl (cI, 200, .inl fW7)), (oM, .inr (12, [.ref mT, .int zt, .ref mS, .ref mX, .int zp_10, .int zf_10, .ref mL, .ref mB, .ref mD, .ref m1, .ref m2, .int zh, .ref mR, .int zr, .ref x1, .ref x2, .ref x3, .int zc, .ref mH, .int zy, .int za, .int zb, .int zs_10, .int zq, .int zw_10, .int ze_10, .ref mY, .int zn_10, .ref mE, .int zm_10, .int zl_10, .ref mW, .int zk, .ref mO, .int zd_10, .ref y1, .ref y2, .ref y3, .ref y4, .ref mZ])), (mT, .inl (cI, 900, .inl eT)), (mS, .inl (cI, 21, .inl eS_10)), (mX, .inl (cI, 6300, .inl eX_10)), (mL, .inl (cI, 512, .inl eL)), (mB, .inl (cS, 131072, .inl eB)), (mD, .inl (cI, 2, .inl eD)), (m1, .inl (cI, 6, .inl e1)), (m2, .inl (cI, 6, .inl e2)), (mR, .inl (cI, 1548, .inl eR)), (x1, .inl (cI, 300, .inl ec1)), (x2, .inl (cI, 300, .inl ec2)), (x3, .inl (cI, 300, .inl ec3)), (mH, .inl (cI, 800, .inl eH)), (mY, .inl (cI, 2600, .inl eY_10)), (mE, .inl (cI, 2600, .inl eE_10)), (mW, .inl (cI, 300, .inl eW)), (mO, .inl (cI, 300, .inl eO)), (y1, .inl (cI, 61, .inl er1)), (y2, .inl (cI, 61, .inl er2)), (y3, .inl (cI, 61, .inl er3)), (y4, .inl (cI, 61, .inl er4)), (mZ, .inl (cI, 600, .inl eZ)), (oJ, .inl (cJ, 1, .inr (.inl fJ)))]) rfl
  clear hP hD hS hJ hPD9
  have hP := hPn
  have hD := hDn
  have hS := hSn
  clear hPn hDn hSn
  refine lv_pop hx hb dL_law_596 rfl ?_
  refine lv_goto (tgt := 1022) hx hb dL_law_597 (by decide) ?_
  have hcg := chg_rel hTX hCH hf5_7 hf10_11 (rg_iff hr4 hr5 (TX_n hTX) (TX_e hTX) (TX_p hTX) g_lL.1 g_eB) (rg_ok hlz (TX_q hTX) (TX_z hTX g_lL.1) (okB_r g_eB)) g_lL.1 g_lL.2 g_gn g_zp g_zf g_fG2
  have hdf : DFr fsh fsh_5 zs zs_10 := hcg.2.2.2
  refine W.widen (k := 90 + (nc + 1)) (n := 172225 + 6 * (nc + 1)) (by omega) (by omega) ?_
  exact kk fa_5 lT lL_5 lM_5 l4 l5 ft_5 lB_5 lH lK gn_5 lG_5 lR l1 l2 l3 pr reE laE suE leE lq lp lv ke tl fsh_5 wi ri fm lm lw re7 la7 su7 le7 re8 la8 su8 le8 re9 la9 su9 le9 zt zp_10 zf_10 zh zr zc zy za zb zs_10 zq zw_10 ze_10 zn_10 zm_10 zl_10 zk zd_10 fT fL_5 fM_5 f41 f42 f43 f51 f52 f53 fB_5 fH1 fH2 fK1 fK2 fG1_5 fG2_5 f1 f2 f3 fR1 fR2 fR3 fR4 fR5 fR6 fq fp fv fQ1 fQ2 fQ3 fQ4 fw fW1 fW2 fW3 fW4 fW5 fW6 fW7 eT eS_10 eX_10 eL eB eD e1 e2 eR ec1 ec2 ec3 eH eY_10 eE_10 eW eO er1 er2 er3 er4 eZ fJ _ _ _ ⟨g_lT, hf5_2, hf5_1, hf5_0, g_lH, g_lK, hf5_4, hf5_5, g_lR, g_l1, g_l2, g_l3, g_lq, g_lp, g_lv, g_ke, hf5_3, g_fm, g_lm, g_lw, g_zt, hf10_4, hf10_5, g_zh, g_zr, g_zc, g_zy, g_za, g_zb, hf10_6, g_zq, hf10_0, hf10_2, g_zk, hf5_6, hf10_7, hf10_8, g_eL, g_eB, g_e1, g_e2, hf10_1, hf10_3, g_eW, g_eO, g_eZ, by omega, hrel, hrc, hr4, hr5, hb4, hb5, hlz, hH, hHe, hKz, hT, ho, hal, hCV, hVk, hVr, hcg.2.1, hcg.2.2.1, hvc, fr_d hfr hdf, fx_d hfx hdf, frs_st hfs hfr hf10_10⟩ hP hD hS (lv_sub hl [0, 1, 2, 3, 4] rfl)

set_option maxHeartbeats 40000000 in
set_option maxRecDepth 100000 in
theorem law_undo {p : Program} {l : Launch} {e : Env} {s : State} {m : MethodId} {below : List Frame} {meth : Method} {c : Code} {dC : Nat → ClassId} {dI : Nat → Nat → Nat} {cI cS cJ : ClassId} {A : Nat → Prop} {b L : Nat} {xs : Nat → Int32} (C0 : lw_At p s m meth c b L xs) (hAd : A = fun q : Nat => s.heap.size ≤ q) (hK3 : va_K (dC, dI) vwCl [(cI, .int), (cS, .short), (cJ, .long)] s) {oX nT aT nL aL nM aM oC o4 a41 a42 a43 o5 a51 a52 a53 oP nB aB oH h1 h2 oK k1 k2 oG g1 g2 oR n1 a1 n2 a2 n3 a3 r1 r2 r3 r4 r5 r6 oQ oE nq aq np ap nv av q1 q2 q3 q4 oW nw aw o7 o8 o9 w1 w2 w3 w4 w5 w6 w7 oM mT mS mX mL mB mD m1 m2 mR x1 x2 x3 mH mY mE mW mO y1 y2 y3 y4 mZ oJ : Nat} {fa : Int32} {lT : Int32} {lL : Int32} {lM : Int32} {l4 : Int32} {l5 : Int32} {ft : Int32} {lB : Int32} {lH : Int32} {lK : Int32} {gn : Int32} {lG : Int32} {lR : Int32} {l1 : Int32} {l2 : Int32} {l3 : Int32} {pr : Int32} {reE : Int32} {laE : Int32} {suE : Int32} {leE : Int32} {lq : Int32} {lp : Int32} {lv : Int32} {ke : Int32} {tl : Int32} {fsh : Int32} {wi : Int32} {ri : Int32} {fm : Int32} {lm : Int32} {lw : Int32} {re7 : Int32} {la7 : Int32} {su7 : Int32} {le7 : Int32} {re8 : Int32} {la8 : Int32} {su8 : Int32} {le8 : Int32} {re9 : Int32} {la9 : Int32} {su9 : Int32} {le9 : Int32} {zt : Int32} {zp : Int32} {zf : Int32} {zh : Int32} {zr : Int32} {zc : Int32} {zy : Int32} {za : Int32} {zb : Int32} {zs : Int32} {zq : Int32} {zw : Int32} {ze : Int32} {zn : Int32} {zm : Int32} {zl : Int32} {zk : Int32} {zd : Int32} {fT : Nat → Int32} {fL : Nat → Int32} {fM : Nat → Int32} {f41 : Nat → Int32} {f42 : Nat → Int32} {f43 : Nat → Int32} {f51 : Nat → Int32} {f52 : Nat → Int32} {f53 : Nat → Int32} {fB : Nat → Int32} {fH1 : Nat → Int32} {fH2 : Nat → Int32} {fK1 : Nat → Int32} {fK2 : Nat → Int32} {fG1 : Nat → Int32} {fG2 : Nat → Int32} {f1 : Nat → Int32} {f2 : Nat → Int32} {f3 : Nat → Int32} {fR1 : Nat → Int32} {fR2 : Nat → Int32} {fR3 : Nat → Int32} {fR4 : Nat → Int32} {fR5 : Nat → Int32} {fR6 : Nat → Int32} {fq : Nat → Int32} {fp : Nat → Int32} {fv : Nat → Int32} {fQ1 : Nat → Int32} {fQ2 : Nat → Int32} {fQ3 : Nat → Int32} {fQ4 : Nat → Int32} {fw : Nat → Int32} {fW1 : Nat → Int32} {fW2 : Nat → Int32} {fW3 : Nat → Int32} {fW4 : Nat → Int32} {fW5 : Nat → Int32} {fW6 : Nat → Int32} {fW7 : Nat → Int32} {eT : Nat → Int32} {eS : Nat → Int32} {eX : Nat → Int32} {eL : Nat → Int32} {eB : Nat → Int32} {eD : Nat → Int32} {e1 : Nat → Int32} {e2 : Nat → Int32} {eR : Nat → Int32} {ec1 : Nat → Int32} {ec2 : Nat → Int32} {ec3 : Nat → Int32} {eH : Nat → Int32} {eY : Nat → Int32} {eE : Nat → Int32} {eW : Nat → Int32} {eO : Nat → Int32} {er1 : Nat → Int32} {er2 : Nat → Int32} {er3 : Nat → Int32} {er4 : Nat → Int32} {eZ : Nat → Int32} {fJ : Nat → Int64} {H : Heap} {locs : List Loc} {ls : Array Slot} {i : Int32} {nc : Nat} (hn : nc ≤ 511) (hi : 0 ≤ i.toInt ∧ i.toInt + 5 < (L : Int)) (hL : L ≤ 3072) (hI : INV nc lT lL lM l4 l5 lB lH lK gn lG lR l1 l2 l3 lq lp lv ke fsh wi ri fm lm lw zt zp zf zh zr zc zy za zb zs zq zn zm zk fT fL f41 f42 f43 f51 f52 f53 fH1 fH2 fK1 fK2 fG1 fG2 fW4 fW5 fW6 fW7 eT eS eX eL eB eD e1 e2 ec1 ec2 ec3 eH eY eE eW eO eZ) (hP : va_P (dC, dI) vwCl (WLD cI cS cJ oX nT aT nL aL nM aM oC o4 a41 a42 a43 o5 a51 a52 a53 oP nB aB oH h1 h2 oK k1 k2 oG g1 g2 oR n1 a1 n2 a2 n3 a3 r1 r2 r3 r4 r5 r6 oQ oE nq aq np ap nv av q1 q2 q3 q4 oW nw aw o7 o8 o9 w1 w2 w3 w4 w5 w6 w7 oM mT mS mX mL mB mD m1 m2 mR x1 x2 x3 mH mY mE mW mO y1 y2 y3 y4 mZ oJ fa lT lL lM l4 l5 ft lB lH lK gn lG lR l1 l2 l3 pr reE laE suE leE lq lp lv ke tl fsh wi ri fm lm lw re7 la7 su7 le7 re8 la8 su8 le8 re9 la9 su9 le9 zt zp zf zh zr zc zy za zb zs zq zw ze zn zm zl zk zd fT fL fM f41 f42 f43 f51 f52 f53 fB fH1 fH2 fK1 fK2 fG1 fG2 f1 f2 f3 fR1 fR2 fR3 fR4 fR5 fR6 fq fp fv fQ1 fQ2 fQ3 fQ4 fw fW1 fW2 fW3 fW4 fW5 fW6 fW7 eT eS eX eL eB eD e1 e2 eR ec1 ec2 ec3 eH eY eE eW eO er1 er2 er3 er4 eZ fJ) H) (hD : va_D A (WLD cI cS cJ oX nT aT nL aL nM aM oC o4 a41 a42 a43 o5 a51 a52 a53 oP nB aB oH h1 h2 oK k1 k2 oG g1 g2 oR n1 a1 n2 a2 n3 a3 r1 r2 r3 r4 r5 r6 oQ oE nq aq np ap nv av q1 q2 q3 q4 oW nw aw o7 o8 o9 w1 w2 w3 w4 w5 w6 w7 oM mT mS mX mL mB mD m1 m2 mR x1 x2 x3 mH mY mE mW mO y1 y2 y3 y4 mZ oJ fa lT lL lM l4 l5 ft lB lH lK gn lG lR l1 l2 l3 pr reE laE suE leE lq lp lv ke tl fsh wi ri fm lm lw re7 la7 su7 le7 re8 la8 su8 le8 re9 la9 su9 le9 zt zp zf zh zr zc zy za zb zs zq zw ze zn zm zl zk zd fT fL fM f41 f42 f43 f51 f52 f53 fB fH1 fH2 fK1 fK2 fG1 fG2 f1 f2 f3 fR1 fR2 fR3 fR4 fR5 fR6 fq fp fv fQ1 fQ2 fQ3 fQ4 fw fW1 fW2 fW3 fW4 fW5 fW6 fW7 eT eS eX eL eB eD e1 e2 eR ec1 ec2 ec3 eH eY eE eW eO er1 er2 er3 er4 eZ fJ)) (hS : va_S A s.heap H locs) (hl : lv_has ls 7 [(0, .ref b), (1, .ref oX), (2, .ref oM), (3, .ref oJ), (4, .int i)]) (kk : KK p l e s m below meth c dC dI cI cS cJ A b oX nT aT nL aL nM aM oC o4 a41 a42 a43 o5 a51 a52 a53 oP nB aB oH h1 h2 oK k1 k2 oG g1 g2 oR n1 a1 n2 a2 n3 a3 r1 r2 r3 r4 r5 r6 oQ oE nq aq np ap nv av q1 q2 q3 q4 oW nw aw o7 o8 o9 w1 w2 w3 w4 w5 w6 w7 oM mT mS mX mL mB mD m1 m2 mR x1 x2 x3 mH mY mE mW mO y1 y2 y3 y4 mZ oJ i nc) : W p l e room_1 s m #[Value.ref b] below meth c H locs (90 + nc) (172225 + 6 * nc) (lw_Z below #[Value.ref b] s) (F0 m 600 ls []) := by
  refine And.elim (fun hx hBC_0 => ?_) C0
  refine And.elim (fun hb hBC_1 => ?_) hBC_0
  refine And.elim (fun hr hBC_2 => ?_) hBC_1
  refine And.elim (fun hml hBC_3 => ?_) hBC_2
  refine And.elim (fun hown hBC_4 => ?_) hBC_3
  refine And.elim (fun hts0 hBC_5 => ?_) hBC_4
  refine And.elim (fun hX hBC_6 => ?_) hBC_5
  refine And.elim (fun hbl hBC_7 => ?_) hBC_6
  refine And.elim (fun hlocks hBC_8 => ?_) hBC_7
  have hgv := hBC_8
  clear hBC_0 hBC_1 hBC_2 hBC_3 hBC_4 hBC_5 hBC_6 hBC_7 hBC_8
  refine And.elim (fun g_lT hBI_0 => ?_) hI
  refine And.elim (fun g_lL hBI_1 => ?_) hBI_0
  refine And.elim (fun g_lM hBI_2 => ?_) hBI_1
  refine And.elim (fun g_lB hBI_3 => ?_) hBI_2
  refine And.elim (fun g_lH hBI_4 => ?_) hBI_3
  refine And.elim (fun g_lK hBI_5 => ?_) hBI_4
  refine And.elim (fun g_gn hBI_6 => ?_) hBI_5
  refine And.elim (fun g_lG hBI_7 => ?_) hBI_6
  refine And.elim (fun g_lR hBI_8 => ?_) hBI_7
  refine And.elim (fun g_l1 hBI_9 => ?_) hBI_8
  refine And.elim (fun g_l2 hBI_10 => ?_) hBI_9
  refine And.elim (fun g_l3 hBI_11 => ?_) hBI_10
  refine And.elim (fun g_lq hBI_12 => ?_) hBI_11
  refine And.elim (fun g_lp hBI_13 => ?_) hBI_12
  refine And.elim (fun g_lv hBI_14 => ?_) hBI_13
  refine And.elim (fun g_ke hBI_15 => ?_) hBI_14
  refine And.elim (fun g_fsh hBI_16 => ?_) hBI_15
  refine And.elim (fun g_fm hBI_17 => ?_) hBI_16
  refine And.elim (fun g_lm hBI_18 => ?_) hBI_17
  refine And.elim (fun g_lw hBI_19 => ?_) hBI_18
  refine And.elim (fun g_zt hBI_20 => ?_) hBI_19
  refine And.elim (fun g_zp hBI_21 => ?_) hBI_20
  refine And.elim (fun g_zf hBI_22 => ?_) hBI_21
  refine And.elim (fun g_zh hBI_23 => ?_) hBI_22
  refine And.elim (fun g_zr hBI_24 => ?_) hBI_23
  refine And.elim (fun g_zc hBI_25 => ?_) hBI_24
  refine And.elim (fun g_zy hBI_26 => ?_) hBI_25
  refine And.elim (fun g_za hBI_27 => ?_) hBI_26
  refine And.elim (fun g_zb hBI_28 => ?_) hBI_27
  refine And.elim (fun g_zs hBI_29 => ?_) hBI_28
  refine And.elim (fun g_zq hBI_30 => ?_) hBI_29
  refine And.elim (fun g_zn hBI_31 => ?_) hBI_30
  refine And.elim (fun g_zm hBI_32 => ?_) hBI_31
  refine And.elim (fun g_zk hBI_33 => ?_) hBI_32
  refine And.elim (fun g_fG2 hBI_34 => ?_) hBI_33
  refine And.elim (fun g_eS hBI_35 => ?_) hBI_34
  refine And.elim (fun g_eX hBI_36 => ?_) hBI_35
  refine And.elim (fun g_eL hBI_37 => ?_) hBI_36
  refine And.elim (fun g_eB hBI_38 => ?_) hBI_37
  refine And.elim (fun g_e1 hBI_39 => ?_) hBI_38
  refine And.elim (fun g_e2 hBI_40 => ?_) hBI_39
  refine And.elim (fun g_eY hBI_41 => ?_) hBI_40
  refine And.elim (fun g_eE hBI_42 => ?_) hBI_41
  refine And.elim (fun g_eW hBI_43 => ?_) hBI_42
  refine And.elim (fun g_eO hBI_44 => ?_) hBI_43
  refine And.elim (fun g_eZ hBI_45 => ?_) hBI_44
  refine And.elim (fun hzn hBI_46 => ?_) hBI_45
  refine And.elim (fun hrel hBI_47 => ?_) hBI_46
  refine And.elim (fun hrc hBI_48 => ?_) hBI_47
  refine And.elim (fun hr4 hBI_49 => ?_) hBI_48
  refine And.elim (fun hr5 hBI_50 => ?_) hBI_49
  refine And.elim (fun hb4 hBI_51 => ?_) hBI_50
  refine And.elim (fun hb5 hBI_52 => ?_) hBI_51
  refine And.elim (fun hlz hBI_53 => ?_) hBI_52
  refine And.elim (fun hH hBI_54 => ?_) hBI_53
  refine And.elim (fun hHe hBI_55 => ?_) hBI_54
  refine And.elim (fun hKz hBI_56 => ?_) hBI_55
  refine And.elim (fun hT hBI_57 => ?_) hBI_56
  refine And.elim (fun ho hBI_58 => ?_) hBI_57
  refine And.elim (fun hal hBI_59 => ?_) hBI_58
  refine And.elim (fun hCV hBI_60 => ?_) hBI_59
  refine And.elim (fun hVk hBI_61 => ?_) hBI_60
  refine And.elim (fun hVr hBI_62 => ?_) hBI_61
  refine And.elim (fun hTX hBI_63 => ?_) hBI_62
  refine And.elim (fun hCH hBI_64 => ?_) hBI_63
  refine And.elim (fun hvc hBI_65 => ?_) hBI_64
  refine And.elim (fun hfr hBI_66 => ?_) hBI_65
  refine And.elim (fun hfx hBI_67 => ?_) hBI_66
  have hfs := hBI_67
  clear hI hBI_0 hBI_1 hBI_2 hBI_3 hBI_4 hBI_5 hBI_6 hBI_7 hBI_8 hBI_9 hBI_10 hBI_11 hBI_12 hBI_13 hBI_14 hBI_15 hBI_16 hBI_17 hBI_18 hBI_19 hBI_20 hBI_21 hBI_22 hBI_23 hBI_24 hBI_25 hBI_26 hBI_27 hBI_28 hBI_29 hBI_30 hBI_31 hBI_32 hBI_33 hBI_34 hBI_35 hBI_36 hBI_37 hBI_38 hBI_39 hBI_40 hBI_41 hBI_42 hBI_43 hBI_44 hBI_45 hBI_46 hBI_47 hBI_48 hBI_49 hBI_50 hBI_51 hBI_52 hBI_53 hBI_54 hBI_55 hBI_56 hBI_57 hBI_58 hBI_59 hBI_60 hBI_61 hBI_62 hBI_63 hBI_64 hBI_65 hBI_66 hBI_67
  have hK : va_K (dC, dI) vwCl [(cI, .int), (cS, .short)] s := hK3.sub [0, 1] rfl
  have hown : s.vm.findClass RL = some m.cls := hown
  have hts := hts0
  have hcf := k_cf hx hb hml hown hts
  have hi9 : 0 ≤ i.toInt ∧ i.toInt ≤ 3066 := by omega
  have hzs : zs.toInt ≤ 1000000 := by omega
  have hA : ∀ q : Nat, s.heap.size ≤ q → A q := fun q h => by rw [hAd]; exact h
  have hbA : ¬ A b := by rw [hAd]; exact Nat.not_le.mpr hbl
  have hP : va_P (dC, dI) vwCl [(oX, .inr (11, [.ref nT, .ref nL, .ref nM, .ref oC, .ref oP, .ref oH, .ref oK, .ref oG, .ref oR, .ref oQ, .ref oW, .int fa])), (nT, .inr (5, [.ref aT, .int lT])), (aT, .inl (cI, 900, .inl fT)), (nL, .inr (5, [.ref aL, .int lL])), (aL, .inl (cI, 300, .inl fL)), (nM, .inr (5, [.ref aM, .int lM])), (aM, .inl (cI, 300, .inl fM)), (oC, .inr (2, [.ref o4, .ref o5])), (o4, .inr (10, [.ref a41, .ref a42, .ref a43, .int l4])), (a41, .inl (cI, 256, .inl f41)), (a42, .inl (cI, 512, .inl f42)), (a43, .inl (cI, 512, .inl f43)), (o5, .inr (10, [.ref a51, .ref a52, .ref a53, .int l5])), (a51, .inl (cI, 256, .inl f51)), (a52, .inl (cI, 512, .inl f52)), (a53, .inl (cI, 512, .inl f53)), (oP, .inr (7, [.ref oC, .ref nB, .int ft])), (nB, .inr (5, [.ref aB, .int lB])), (aB, .inl (cI, 2400, .inl fB)), (oH, .inr (4, [.ref oP, .ref h1, .ref h2, .int lH])), (h1, .inl (cI, 6, .inl fH1)), (h2, .inl (cI, 6, .inl fH2)), (oK, .inr (3, [.ref k1, .ref k2, .int lK])), (k1, .inl (cI, 1024, .inl fK1)), (k2, .inl (cI, 1024, .inl fK2)), (oG, .inr (0, [.ref g1, .ref g2, .int gn, .int lG])), (g1, .inl (cI, 6000, .inl fG1)), (g2, .inl (cI, 20, .inl fG2)), (oR, .inr (9, [.ref oH, .ref oK, .ref n1, .ref n2, .ref n3, .ref r1, .ref r2, .ref r3, .ref r4, .ref r5, .ref r6, .int lR])), (n1, .inr (5, [.ref a1, .int l1])), (a1, .inl (cI, 300, .inl f1)), (n2, .inr (5, [.ref a2, .int l2])), (a2, .inl (cI, 300, .inl f2)), (n3, .inr (5, [.ref a3, .int l3])), (a3, .inl (cI, 300, .inl f3)), (r1, .inl (cI, 258, .inl fR1)), (r2, .inl (cI, 258, .inl fR2)), (r3, .inl (cI, 774, .inl fR3)), (r4, .inl (cI, 258, .inl fR4)), (r5, .inl (cI, 258, .inl fR5)), (r6, .inl (cI, 774, .inl fR6)), (oQ, .inr (6, [.ref oC, .ref oH, .ref oK, .ref oE, .ref nq, .ref np, .ref nv, .ref q1, .ref q2, .ref q3, .ref q4, .int pr])), (oE, .inr (8, [.ref oC, .ref oK, .int reE, .int laE, .int suE, .int leE])), (nq, .inr (5, [.ref aq, .int lq])), (aq, .inl (cI, 480, .inl fq)), (np, .inr (5, [.ref ap, .int lp])), (ap, .inl (cI, 300, .inl fp)), (nv, .inr (5, [.ref av, .int lv])), (av, .inl (cI, 300, .inl fv)), (q1, .inl (cI, 61, .inl fQ1)), (q2, .inl (cI, 61, .inl fQ2)), (q3, .inl (cI, 61, .inl fQ3)), (q4, .inl (cI, 61, .inl fQ4)), (oW, .inr (1, [.ref oC, .ref oK, .ref nw, .ref w1, .ref w2, .ref w3, .ref o7, .ref o8, .ref o9, .ref w4, .ref w5, .ref w6, .ref w7, .int ke, .int tl, .int fsh, .int wi, .int ri, .int fm, .int lm])), (nw, .inr (5, [.ref aw, .int lw])), (aw, .inl (cI, 800, .inl fw)), (o7, .inr (8, [.ref oC, .ref oK, .int re7, .int la7, .int su7, .int le7])), (o8, .inr (8, [.ref oC, .ref oK, .int re8, .int la8, .int su8, .int le8])), (o9, .inr (8, [.ref oC, .ref oK, .int re9, .int la9, .int su9, .int le9])), (w1, .inl (cI, 801, .inl fW1)), (w2, .inl (cI, 801, .inl fW2)), (w3, .inl (cI, 801, .inl fW3)), (w4, .inl (cI, 200, .inl fW4)), (w5, .inl (cI, 200, .inl fW5)), (w6, .inl (cI, 200, .inl fW6)), (w7, .inl (cI, 200, .inl fW7)), (oM, .inr (12, [.ref mT, .int zt, .ref mS, .ref mX, .int zp, .int zf, .ref mL, .ref mB, .ref mD, .ref m1, .ref m2, .int zh, .ref mR, .int zr, .ref x1, .ref x2, .ref x3, .int zc, .ref mH, .int zy, .int za, .int zb, .int zs, .int zq, .int zw, .int ze, .ref mY, .int zn, .ref mE, .int zm, .int zl, .ref mW, .int zk, .ref mO, .int zd, .ref y1, .ref y2, .ref y3, .ref y4, .ref mZ])), (mT, .inl (cI, 900, .inl eT)), (mS, .inl (cI, 21, .inl eS)), (mX, .inl (cI, 6300, .inl eX)), (mL, .inl (cI, 512, .inl eL)), (mB, .inl (cS, 131072, .inl eB)), (mD, .inl (cI, 2, .inl eD)), (m1, .inl (cI, 6, .inl e1)), (m2, .inl (cI, 6, .inl e2)), (mR, .inl (cI, 1548, .inl eR)), (x1, .inl (cI, 300, .inl ec1)), (x2, .inl (cI, 300, .inl ec2)), (x3, .inl (cI, 300, .inl ec3)), (mH, .inl (cI, 800, .inl eH)), (mY, .inl (cI, 2600, .inl eY)), (mE, .inl (cI, 2600, .inl eE)), (mW, .inl (cI, 300, .inl eW)), (mO, .inl (cI, 300, .inl eO)), (y1, .inl (cI, 61, .inl er1)), (y2, .inl (cI, 61, .inl er2)), (y3, .inl (cI, 61, .inl er3)), (y4, .inl (cI, 61, .inl er4)), (mZ, .inl (cI, 600, .inl eZ)), (oJ, .inl (cJ, 1, .inr (.inl fJ)))] H := hP
  have hD : va_D A [(oX, .inr (11, [.ref nT, .ref nL, .ref nM, .ref oC, .ref oP, .ref oH, .ref oK, .ref oG, .ref oR, .ref oQ, .ref oW, .int fa])), (nT, .inr (5, [.ref aT, .int lT])), (aT, .inl (cI, 900, .inl fT)), (nL, .inr (5, [.ref aL, .int lL])), (aL, .inl (cI, 300, .inl fL)), (nM, .inr (5, [.ref aM, .int lM])), (aM, .inl (cI, 300, .inl fM)), (oC, .inr (2, [.ref o4, .ref o5])), (o4, .inr (10, [.ref a41, .ref a42, .ref a43, .int l4])), (a41, .inl (cI, 256, .inl f41)), (a42, .inl (cI, 512, .inl f42)), (a43, .inl (cI, 512, .inl f43)), (o5, .inr (10, [.ref a51, .ref a52, .ref a53, .int l5])), (a51, .inl (cI, 256, .inl f51)), (a52, .inl (cI, 512, .inl f52)), (a53, .inl (cI, 512, .inl f53)), (oP, .inr (7, [.ref oC, .ref nB, .int ft])), (nB, .inr (5, [.ref aB, .int lB])), (aB, .inl (cI, 2400, .inl fB)), (oH, .inr (4, [.ref oP, .ref h1, .ref h2, .int lH])), (h1, .inl (cI, 6, .inl fH1)), (h2, .inl (cI, 6, .inl fH2)), (oK, .inr (3, [.ref k1, .ref k2, .int lK])), (k1, .inl (cI, 1024, .inl fK1)), (k2, .inl (cI, 1024, .inl fK2)), (oG, .inr (0, [.ref g1, .ref g2, .int gn, .int lG])), (g1, .inl (cI, 6000, .inl fG1)), (g2, .inl (cI, 20, .inl fG2)), (oR, .inr (9, [.ref oH, .ref oK, .ref n1, .ref n2, .ref n3, .ref r1, .ref r2, .ref r3, .ref r4, .ref r5, .ref r6, .int lR])), (n1, .inr (5, [.ref a1, .int l1])), (a1, .inl (cI, 300, .inl f1)), (n2, .inr (5, [.ref a2, .int l2])), (a2, .inl (cI, 300, .inl f2)), (n3, .inr (5, [.ref a3, .int l3])), (a3, .inl (cI, 300, .inl f3)), (r1, .inl (cI, 258, .inl fR1)), (r2, .inl (cI, 258, .inl fR2)), (r3, .inl (cI, 774, .inl fR3)), (r4, .inl (cI, 258, .inl fR4)), (r5, .inl (cI, 258, .inl fR5)), (r6, .inl (cI, 774, .inl fR6)), (oQ, .inr (6, [.ref oC, .ref oH, .ref oK, .ref oE, .ref nq, .ref np, .ref nv, .ref q1, .ref q2, .ref q3, .ref q4, .int pr])), (oE, .inr (8, [.ref oC, .ref oK, .int reE, .int laE, .int suE, .int leE])), (nq, .inr (5, [.ref aq, .int lq])), (aq, .inl (cI, 480, .inl fq)), (np, .inr (5, [.ref ap, .int lp])), (ap, .inl (cI, 300, .inl fp)), (nv, .inr (5, [.ref av, .int lv])), (av, .inl (cI, 300, .inl fv)), (q1, .inl (cI, 61, .inl fQ1)), (q2, .inl (cI, 61, .inl fQ2)), (q3, .inl (cI, 61, .inl fQ3)), (q4, .inl (cI, 61, .inl fQ4)), (oW, .inr (1, [.ref oC, .ref oK, .ref nw, .ref w1, .ref w2, .ref w3, .ref o7, .ref o8, .ref o9, .ref w4, .ref w5, .ref w6, .ref w7, .int ke, .int tl, .int fsh, .int wi, .int ri, .int fm, .int lm])), (nw, .inr (5, [.ref aw, .int lw])), (aw, .inl (cI, 800, .inl fw)), (o7, .inr (8, [.ref oC, .ref oK, .int re7, .int la7, .int su7, .int le7])), (o8, .inr (8, [.ref oC, .ref oK, .int re8, .int la8, .int su8, .int le8])), (o9, .inr (8, [.ref oC, .ref oK, .int re9, .int la9, .int su9, .int le9])), (w1, .inl (cI, 801, .inl fW1)), (w2, .inl (cI, 801, .inl fW2)), (w3, .inl (cI, 801, .inl fW3)), (w4, .inl (cI, 200, .inl fW4)), (w5, .inl (cI, 200, .inl fW5)), (w6, .inl (cI, 200, .inl fW6)), (w7, .inl (cI, 200, .inl fW7)), (oM, .inr (12, [.ref mT, .int zt, .ref mS, .ref mX, .int zp, .int zf, .ref mL, .ref mB, .ref mD, .ref m1, .ref m2, .int zh, .ref mR, .int zr, .ref x1, .ref x2, .ref x3, .int zc, .ref mH, .int zy, .int za, .int zb, .int zs, .int zq, .int zw, .int ze, .ref mY, .int zn, .ref mE, .int zm, .int zl, .ref mW, .int zk, .ref mO, .int zd, .ref y1, .ref y2, .ref y3, .ref y4, .ref mZ])), (mT, .inl (cI, 900, .inl eT)), (mS, .inl (cI, 21, .inl eS)), (mX, .inl (cI, 6300, .inl eX)), (mL, .inl (cI, 512, .inl eL)), (mB, .inl (cS, 131072, .inl eB)), (mD, .inl (cI, 2, .inl eD)), (m1, .inl (cI, 6, .inl e1)), (m2, .inl (cI, 6, .inl e2)), (mR, .inl (cI, 1548, .inl eR)), (x1, .inl (cI, 300, .inl ec1)), (x2, .inl (cI, 300, .inl ec2)), (x3, .inl (cI, 300, .inl ec3)), (mH, .inl (cI, 800, .inl eH)), (mY, .inl (cI, 2600, .inl eY)), (mE, .inl (cI, 2600, .inl eE)), (mW, .inl (cI, 300, .inl eW)), (mO, .inl (cI, 300, .inl eO)), (y1, .inl (cI, 61, .inl er1)), (y2, .inl (cI, 61, .inl er2)), (y3, .inl (cI, 61, .inl er3)), (y4, .inl (cI, 61, .inl er4)), (mZ, .inl (cI, 600, .inl eZ)), (oJ, .inl (cJ, 1, .inr (.inl fJ)))] := hD
  have hN52 : va_Nw (.methodLinkNest RX2 52 yX11_isLetter "TextMender") s := va_Nw.of rfl (hts0 _ q_3_4)
  replace g_lT := hid g_lT
  replace g_lM := hid g_lM
  replace g_lB := hid g_lB
  replace g_lR := hid g_lR
  replace g_l1 := hid g_l1
  replace g_l2 := hid g_l2
  replace g_l3 := hid g_l3
  replace g_lq := hid g_lq
  replace g_lp := hid g_lp
  replace g_lv := hid g_lv
  replace g_fm := hid g_fm
  replace g_lm := hid g_lm
  replace g_lw := hid g_lw
  replace g_zt := hid g_zt
  replace g_zr := hid g_zr
  replace g_zn := hid g_zn
  replace g_zm := hid g_zm
  replace g_zk := hid g_zk
  refine lv_aload_n hx hb dL_law_600 rfl (lv_at hl 1 rfl) ?_
  refine lv_aload_n hx hb dL_law_601 rfl (lv_at hl 0 rfl) ?_
  refine lv_iload hx hb dL_law_602 (lv_at hl 4 rfl) ?_
  refine lv_iconst (v := 1) hx hb dL_law_604 (by decide) ?_
  refine lv_iadd hx hb dL_law_605 ?_
  refine lv_topi (fun x_1 ex_1 => ?_)
  have tx_1 : x_1.toInt = i.toInt + 1 := v_addR (l2 := 1) (h2 := 1) ex_1 hi9 (by decide) (by decide) (by decide)
  refine va_sld hx hb hX hbl hbA hS (v_in (v_sld5 tx_1 hi (by decide))) dL_law_606 ?_
  refine lv_topi (fun x_2 ex_2 => ?_)
  refine lv_aload_n hx hb dL_law_607 rfl (lv_at hl 0 rfl) ?_
  refine lv_iload hx hb dL_law_608 (lv_at hl 4 rfl) ?_
  refine lv_iconst (v := 2) hx hb dL_law_610 (by decide) ?_
  refine lv_iadd hx hb dL_law_611 ?_
  refine lv_topi (fun x_3 ex_3 => ?_)
  have tx_3 : x_3.toInt = i.toInt + 2 := v_addR (l2 := 2) (h2 := 2) ex_3 hi9 (by decide) (by decide) (by decide)
  refine va_sld hx hb hX hbl hbA hS (v_in (v_sld5 tx_3 hi (by decide))) dL_law_612 ?_
  refine lv_topi (fun x_4 ex_4 => ?_)
  refine kV_i (rest := []) (q0 := 0) (ci := 11) hcf (f_X11_undo l dC dI cI cS H.size oX nT nL nM oC oP oH oK oG oR oQ oW aL aM nB aB o4 o5 a41 a42 a43 a51 a52 a53 g1 g2 nw w1 w2 w3 o7 o8 o9 w4 w5 w6 w7 fa lL fL lM fM ft lB fB l4 f41 f42 f43 l5 f51 f52 f53 gn lG fG1 fG2 ke tl fsh wi ri fm lm x_2 x_4 (g_lL) (g_lM) (g_lB) (g_gn) (g_lG) (g_fG2) (g_ke) (g_fsh) (g_fm) (g_lm) (TX_p hTX) (hr4.1) (occ_511 hr4.2.1) (hr5.1) (occ_511 hr5.2.1) (TR_r hr4 g_eL) (TR_r hr5 g_eL) (okB_cl hr4 hr5 g_eB)) kc_X11_undo gL_law_X11_undo rfl rfl rfl ⟨Nat.le_of_ble_eq_true rfl, Nat.le_of_ble_eq_true rfl⟩ (kX_1 hN52) hK hP hD hS hA ([0, 1, 2, 3, 4, 14, 15, 16, 5, 6, 7, 8, 9, 10, 11, 12, 13, 17, 18, 19, 20].filterMap (fun j => (posT mk_19 0)[j]?)) (posF mk_19 0) (kCp (ws := [(oX, .inr (11, [.ref nT, .ref nL, .ref nM, .ref oC, .ref oP, .ref oH, .ref oK, .ref oG, .ref oR, .ref oQ, .ref oW, .int fa])), (nL, .inr (5, [.ref aL, .int lL])), (aL, .inl (cI, 300, .inl fL)), (nM, .inr (5, [.ref aM, .int lM])), (aM, .inl (cI, 300, .inl fM)), (oC, .inr (2, [.ref o4, .ref o5])), (o4, .inr (10, [.ref a41, .ref a42, .ref a43, .int l4])), (a41, .inl (cI, 256, .inl f41)), (a42, .inl (cI, 512, .inl f42)), (a43, .inl (cI, 512, .inl f43)), (o5, .inr (10, [.ref a51, .ref a52, .ref a53, .int l5])), (a51, .inl (cI, 256, .inl f51)), (a52, .inl (cI, 512, .inl f52)), (a53, .inl (cI, 512, .inl f53)), (oP, .inr (7, [.ref oC, .ref nB, .int ft])), (nB, .inr (5, [.ref aB, .int lB])), (aB, .inl (cI, 2400, .inl fB)), (oG, .inr (0, [.ref g1, .ref g2, .int gn, .int lG])), (g1, .inl (cI, 6000, .inl fG1)), (g2, .inl (cI, 20, .inl fG2)), (oW, .inr (1, [.ref oC, .ref oK, .ref nw, .ref w1, .ref w2, .ref w3, .ref o7, .ref o8, .ref o9, .ref w4, .ref w5, .ref w6, .ref w7, .int ke, .int tl, .int fsh, .int wi, .int ri, .int fm, .int lm]))]) (kC_of mk_19 rfl rfl) rfl) (by decide +kernel) rfl rfl rfl hl rfl (Nat.le_of_ble_eq_true rfl) dL_law_613 ⟨kfit1 hn (Nat.le_of_ble_eq_true rfl), ksix1 hn (Nat.le_of_ble_eq_true rfl)⟩ (fun r_5 H locs hB hJ hSn => ?_)
  refine Exists.elim hB (fun fa_5 hB5_0 => ?_)
  refine Exists.elim hB5_0 (fun ft_5 hB5_1 => ?_)
  refine Exists.elim hB5_1 (fun lB_5 hB5_2 => ?_)
  refine Exists.elim hB5_2 (fun fB_5 hB5_3 => ?_)
  refine Exists.elim hB5_3 (fun lM_5 hB5_4 => ?_)
  refine Exists.elim hB5_4 (fun fM_5 hB5_5 => ?_)
  refine Exists.elim hB5_5 (fun lL_5 hB5_6 => ?_)
  refine Exists.elim hB5_6 (fun fL_5 hB5_7 => ?_)
  refine Exists.elim hB5_7 (fun fsh_5 hB5_8 => ?_)
  refine Exists.elim hB5_8 (fun gn_5 hB5_9 => ?_)
  refine Exists.elim hB5_9 (fun lG_5 hB5_10 => ?_)
  refine Exists.elim hB5_10 (fun fG1_5 hB5_11 => ?_)
  refine Exists.elim hB5_11 (fun fG2_5 hB5_12 => ?_)
  refine And.elim (fun hPD9 hB5_13 => ?_) hB5_12
  refine And.elim (fun hf5_0 hB5_14 => ?_) hB5_13
  refine And.elim (fun hf5_1 hB5_15 => ?_) hB5_14
  refine And.elim (fun hf5_2 hB5_16 => ?_) hB5_15
  refine And.elim (fun hf5_3 hB5_17 => ?_) hB5_16
  refine And.elim (fun hf5_4 hB5_18 => ?_) hB5_17
  refine And.elim (fun hf5_5 hB5_19 => ?_) hB5_18
  refine And.elim (fun hf5_6 hB5_20 => ?_) hB5_19
  have hf5_7 := hB5_20
  clear hB hB5_0 hB5_1 hB5_2 hB5_3 hB5_4 hB5_5 hB5_6 hB5_7 hB5_8 hB5_9 hB5_10 hB5_11 hB5_12 hB5_13 hB5_14 hB5_15 hB5_16 hB5_17 hB5_18 hB5_19 hB5_20
  obtain ⟨hPn, hDn⟩ := kJm (m := mk_19) hJ rfl hPD9.1 hPD9.2 [0, 1, 2, 3, 4, 8, 9, 10, 11, 12, 13, 14, 15, 16, 5, 6, 7, 17, 18, 19, 20] (by decide +kernel) (ws := [(oX, .inr (11, [.ref nT, .ref nL, .ref nM, .ref oC, .ref oP, .ref oH, .ref oK, .ref oG, .ref oR, .ref oQ, .ref oW, .int fa_5])), (nL, .inr (5, [.ref aL, .int lL_5])), (aL, .inl (cI, 300, .inl fL_5)), (nM, .inr (5, [.ref aM, .int lM_5])), (aM, .inl (cI, 300, .inl fM_5)), (oC, .inr (2, [.ref o4, .ref o5])), (o4, .inr (10, [.ref a41, .ref a42, .ref a43, .int l4])), (a41, .inl (cI, 256, .inl f41)), (a42, .inl (cI, 512, .inl f42)), (a43, .inl (cI, 512, .inl f43)), (o5, .inr (10, [.ref a51, .ref a52, .ref a53, .int l5])), (a51, .inl (cI, 256, .inl f51)), (a52, .inl (cI, 512, .inl f52)), (a53, .inl (cI, 512, .inl f53)), (oP, .inr (7, [.ref oC, .ref nB, .int ft_5])), (nB, .inr (5, [.ref aB, .int lB_5])), (aB, .inl (cI, 2400, .inl fB_5)), (oG, .inr (0, [.ref g1, .ref g2, .int gn_5, .int lG_5])), (g1, .inl (cI, 6000, .inl fG1_5)), (g2, .inl (cI, 20, .inl fG2_5)), (oW, .inr (1, [.ref oC, .ref oK, .ref nw, .ref w1, .ref w2, .ref w3, .ref o7, .ref o8, .ref o9, .ref w4, .ref w5, .ref w6, .ref w7, .int ke, .int tl, .int fsh_5, .int wi, .int ri, .int fm, .int lm]))]) rfl (wn := [(oX, .inr (11, [.ref nT, .ref nL, .ref nM, .ref oC, .ref oP, .ref oH, .ref oK, .ref oG, .ref oR, .ref oQ, .ref oW, .int fa_5])), (nT, .inr (5, [.ref aT, .int lT])), (aT, .inl (cI, 900, .inl fT)), (nL, .inr (5, [.ref aL, .int lL_5])), (aL, .inl (cI, 300, .inl fL_5)), (nM, .inr (5, [.ref aM, .int lM_5])), (aM, .inl (cI, 300, .inl fM_5)), (oC, .inr (2, [.ref o4, .ref o5])), (o4, .inr (10, [.ref a41, .ref a42, .ref a43, .int l4])), (a41, .inl (cI, 256, .inl f41)), (a42, .inl (cI, 512, .inl f42)), (a43, .inl (cI, 512, .inl f43)), (o5, .inr (10, [.ref a51, .ref a52, .ref a53, .int l5])), (a51, .inl (cI, 256, .inl f51)), (a52, .inl (cI, 512, .inl f52)), (a53, .inl (cI, 512, .inl f53)), (oP, .inr (7, [.ref oC, .ref nB, .int ft_5])), (nB, .inr (5, [.ref aB, .int lB_5])), (aB, .inl (cI, 2400, .inl fB_5)), (oH, .inr (4, [.ref oP, .ref h1, .ref h2, .int lH])), (h1, .inl (cI, 6, .inl fH1)), (h2, .inl (cI, 6, .inl fH2)), (oK, .inr (3, [.ref k1, .ref k2, .int lK])), (k1, .inl (cI, 1024, .inl fK1)), (k2, .inl (cI, 1024, .inl fK2)), (oG, .inr (0, [.ref g1, .ref g2, .int gn_5, .int lG_5])), (g1, .inl (cI, 6000, .inl fG1_5)), (g2, .inl (cI, 20, .inl fG2_5)), (oR, .inr (9, [.ref oH, .ref oK, .ref n1, .ref n2, .ref n3, .ref r1, .ref r2, .ref r3, .ref r4, .ref r5, .ref r6, .int lR])), (n1, .inr (5, [.ref a1, .int l1])), (a1, .inl (cI, 300, .inl f1)), (n2, .inr (5, [.ref a2, .int l2])), (a2, .inl (cI, 300, .inl f2)), (n3, .inr (5, [.ref a3, .int l3])), (a3, .inl (cI, 300, .inl f3)), (r1, .inl (cI, 258, .inl fR1)), (r2, .inl (cI, 258, .inl fR2)), (r3, .inl (cI, 774, .inl fR3)), (r4, .inl (cI, 258, .inl fR4)), (r5, .inl (cI, 258, .inl fR5)), (r6, .inl (cI, 774, .inl fR6)), (oQ, .inr (6, [.ref oC, .ref oH, .ref oK, .ref oE, .ref nq, .ref np, .ref nv, .ref q1, .ref q2, .ref q3, .ref q4, .int pr])), (oE, .inr (8, [.ref oC, .ref oK, .int reE, .int laE, .int suE, .int leE])), (nq, .inr (5, [.ref aq, .int lq])), (aq, .inl (cI, 480, .inl fq)), (np, .inr (5, [.ref ap, .int lp])), (ap, .inl (cI, 300, .inl fp)), (nv, .inr (5, [.ref av, .int lv])), (av, .inl (cI, 300, .inl fv)), (q1, .inl (cI, 61, .inl fQ1)), (q2, .inl (cI, 61, .inl fQ2)), (q3, .inl (cI, 61, .inl fQ3)), (q4, .inl (cI, 61, .inl fQ4)), (oW, .inr (1, [.ref oC, .ref oK, .ref nw, .ref w1, .ref w2, .ref w3, .ref o7, .ref o8, .ref o9, .ref w4, .ref w5, .ref w6, .ref w7, .int ke, .int tl, .int fsh_5, .int wi, .int ri, .int fm, .int lm])), (nw, .inr (5, [.ref aw, .int lw])), (aw, .inl (cI, 800, .inl fw)), (o7, .inr (8, [.ref oC, .ref oK, .int re7, .int la7, .int su7, .int le7])), (o8, .inr (8, [.ref oC, .ref oK, .int re8, .int la8, .int su8, .int le8])), (o9, .inr (8, [.ref oC, .ref oK, .int re9, .int la9, .int su9, .int le9])), (w1, .inl (cI, 801, .inl fW1)), (w2, .inl (cI, 801, .inl fW2)), (w3, .inl (cI, 801, .inl fW3)), (w4, .inl (cI, 200, .inl fW4)), (w5, .inl (cI, 200, .inl fW5)), (w6, .inl (cI, 200, .inl fW6)), (w7, .inl (cI, 200, .inl fW7)), (oM, .inr (12, [.ref mT, .int zt, .ref mS, .ref mX, .int zp, .int zf, .ref mL, .ref mB, .ref mD, .ref m1, .ref m2, .int zh, .ref mR, .int zr, .ref x1, .ref x2, .ref x3, .int zc, .ref mH, .int zy, .int za, .int zb, .int zs, .int zq, .int zw, .int ze, .ref mY, .int zn, .ref mE, .int zm, .int zl, .ref mW, .int zk, .ref mO, .int zd, .ref y1, .ref y2, .ref y3, .ref y4, .ref mZ])), (mT, .inl (cI, 900, .inl eT)), (mS, .inl (cI, 21, .inl eS)), (mX, .inl (cI, 6300, .inl eX)), (mL, .inl (cI, 512, .inl eL)), (mB, .inl (cS, 131072, .inl eB)), (mD, .inl (cI, 2, .inl eD)), (m1, .inl (cI, 6, .inl e1)), (m2, .inl (cI, 6, .inl e2)), (mR, .inl (cI, 1548, .inl eR)), (x1, .inl (cI, 300, .inl ec1)), (x2, .inl (cI, 300, .inl ec2)), (x3, .inl (cI, 300, .inl ec3)), (mH, .inl (cI, 800, .inl eH)), (mY, .inl (cI, 2600, .inl eY)), (mE, .inl (cI, 2600, .inl eE)), (mW, .inl (cI, 300, .inl eW)), (mO, .inl (cI, 300, .inl eO)), (y1, .inl (cI, 61, .inl er1)), (y2, .inl (cI, 61, .inl er2)), (y3, .inl (cI, 61, .inl er3)), (y4, .inl (cI, 61, .inl er4)), (mZ, .inl (cI, 600, .inl eZ)), (oJ, .inl (cJ, 1, .inr (.inl fJ)))]) rfl
  clear hP hD hS hJ hPD9
  have hP := hPn
  have hD := hDn
  have hS := hSn
  clear hPn hDn hSn
  refine lv_pop hx hb dL_law_616 rfl ?_
  refine lv_aload_n hx hb dL_law_617 rfl (lv_at hl 2 rfl) ?_
  refine lv_aload_n hx hb dL_law_618 rfl (lv_at hl 0 rfl) ?_
  refine lv_iload hx hb dL_law_619 (lv_at hl 4 rfl) ?_
  refine lv_iconst (v := 1) hx hb dL_law_621 (by decide) ?_
  refine lv_iadd hx hb dL_law_622 ?_
  refine lv_topi (fun x_6 ex_6 => ?_)
  have tx_6 : x_6.toInt = i.toInt + 1 := v_addR (l2 := 1) (h2 := 1) ex_6 hi9 (by decide) (by decide) (by decide)
  refine va_sld hx hb hX hbl hbA hS (v_in (v_sld5 tx_6 hi (by decide))) dL_law_623 ?_
  refine lv_topi (fun x_7 ex_7 => ?_)
  have es_7 : x_7 = x_2 := by rw [ex_7, ex_2, ex_6, ex_1]
  rw [es_7]
  refine lv_aload_n hx hb dL_law_624 rfl (lv_at hl 0 rfl) ?_
  refine lv_iload hx hb dL_law_625 (lv_at hl 4 rfl) ?_
  refine lv_iconst (v := 2) hx hb dL_law_627 (by decide) ?_
  refine lv_iadd hx hb dL_law_628 ?_
  refine lv_topi (fun x_8 ex_8 => ?_)
  have tx_8 : x_8.toInt = i.toInt + 2 := v_addR (l2 := 2) (h2 := 2) ex_8 hi9 (by decide) (by decide) (by decide)
  refine va_sld hx hb hX hbl hbA hS (v_in (v_sld5 tx_8 hi (by decide))) dL_law_629 ?_
  refine lv_topi (fun x_9 ex_9 => ?_)
  have es_9 : x_9 = x_4 := by rw [ex_9, ex_4, ex_8, ex_3]
  rw [es_9]
  refine kV_i (rest := []) (q0 := 0) (ci := 12) hcf (f_X12_undo l dC dI cI cS H.size oM mT mS mX mL mB mD m1 m2 mR x1 x2 x3 mH mY mE mW mO y1 y2 y3 y4 mZ zt zp zf zh zr zc zy za zb zs zq zw ze zn zm zl zk zd eY eB eL eE eW eO eS eX x_2 x_4 (g_zt) (g_zp) (g_zf) (g_zh) (g_zr) (g_zc) (g_zy) (g_za) (g_zb) (g_zs) (g_zq) (g_zn) (g_zm) (g_zk) (g_eY) (g_eB) (g_eL) (g_eE) (g_eW) (g_eO) (g_eS) (g_eX) (TX_l hTX) (LBr_of hb4 hb5) (by omega)) kc_X12_undo gL_law_X12_undo rfl rfl rfl ⟨Nat.le_of_ble_eq_true rfl, Nat.le_of_ble_eq_true rfl⟩ kX_t hK hP hD hS hA ([0, 5, 4, 3, 6, 7, 8, 1, 2].filterMap (fun j => (posT mk_21 0)[j]?)) (posF mk_21 0) (kCp (ws := [(oM, .inr (12, [.ref mT, .int zt, .ref mS, .ref mX, .int zp, .int zf, .ref mL, .ref mB, .ref mD, .ref m1, .ref m2, .int zh, .ref mR, .int zr, .ref x1, .ref x2, .ref x3, .int zc, .ref mH, .int zy, .int za, .int zb, .int zs, .int zq, .int zw, .int ze, .ref mY, .int zn, .ref mE, .int zm, .int zl, .ref mW, .int zk, .ref mO, .int zd, .ref y1, .ref y2, .ref y3, .ref y4, .ref mZ])), (mS, .inl (cI, 21, .inl eS)), (mX, .inl (cI, 6300, .inl eX)), (mL, .inl (cI, 512, .inl eL)), (mB, .inl (cS, 131072, .inl eB)), (mY, .inl (cI, 2600, .inl eY)), (mE, .inl (cI, 2600, .inl eE)), (mW, .inl (cI, 300, .inl eW)), (mO, .inl (cI, 300, .inl eO))]) (kC_of mk_21 rfl rfl) rfl) (by decide +kernel) rfl rfl rfl hl rfl (Nat.le_of_ble_eq_true rfl) dL_law_630 ⟨kfit2 hn (Nat.le_of_ble_eq_true rfl), ksix2 hn (Nat.le_of_ble_eq_true rfl)⟩ (fun r_10 H locs hB hJ hSn => ?_)
  refine Exists.elim hB (fun ze_10 hB10_0 => ?_)
  refine Exists.elim hB10_0 (fun zw_10 hB10_1 => ?_)
  refine Exists.elim hB10_1 (fun zk_10 hB10_2 => ?_)
  refine Exists.elim hB10_2 (fun eW_10 hB10_3 => ?_)
  refine Exists.elim hB10_3 (fun eO_10 hB10_4 => ?_)
  refine Exists.elim hB10_4 (fun zn_10 hB10_5 => ?_)
  refine Exists.elim hB10_5 (fun eY_10 hB10_6 => ?_)
  refine Exists.elim hB10_6 (fun zd_10 hB10_7 => ?_)
  refine Exists.elim hB10_7 (fun zm_10 hB10_8 => ?_)
  refine Exists.elim hB10_8 (fun zl_10 hB10_9 => ?_)
  refine Exists.elim hB10_9 (fun eE_10 hB10_10 => ?_)
  refine Exists.elim hB10_10 (fun zp_10 hB10_11 => ?_)
  refine Exists.elim hB10_11 (fun zf_10 hB10_12 => ?_)
  refine Exists.elim hB10_12 (fun zs_10 hB10_13 => ?_)
  refine Exists.elim hB10_13 (fun eS_10 hB10_14 => ?_)
  refine Exists.elim hB10_14 (fun eX_10 hB10_15 => ?_)
  refine And.elim (fun hPD9 hB10_16 => ?_) hB10_15
  refine And.elim (fun hf10_0 hB10_17 => ?_) hB10_16
  refine And.elim (fun hf10_1 hB10_18 => ?_) hB10_17
  refine And.elim (fun hf10_2 hB10_19 => ?_) hB10_18
  refine And.elim (fun hf10_3 hB10_20 => ?_) hB10_19
  refine And.elim (fun hf10_4 hB10_21 => ?_) hB10_20
  refine And.elim (fun hf10_5 hB10_22 => ?_) hB10_21
  refine And.elim (fun hf10_6 hB10_23 => ?_) hB10_22
  refine And.elim (fun hf10_7 hB10_24 => ?_) hB10_23
  refine And.elim (fun hf10_8 hB10_25 => ?_) hB10_24
  refine And.elim (fun hf10_9 hB10_26 => ?_) hB10_25
  refine And.elim (fun hf10_10 hB10_27 => ?_) hB10_26
  refine And.elim (fun hf10_11 hB10_28 => ?_) hB10_27
  refine And.elim (fun hf10_12 hB10_29 => ?_) hB10_28
  refine And.elim (fun hf10_13 hB10_30 => ?_) hB10_29
  have hf10_14 := hB10_30
  clear hB hB10_0 hB10_1 hB10_2 hB10_3 hB10_4 hB10_5 hB10_6 hB10_7 hB10_8 hB10_9 hB10_10 hB10_11 hB10_12 hB10_13 hB10_14 hB10_15 hB10_16 hB10_17 hB10_18 hB10_19 hB10_20 hB10_21 hB10_22 hB10_23 hB10_24 hB10_25 hB10_26 hB10_27 hB10_28 hB10_29 hB10_30
  obtain ⟨hPn, hDn⟩ := kJm (m := mk_21) hJ rfl hPD9.1 hPD9.2 [0, 7, 8, 3, 2, 1, 4, 5, 6] (by decide +kernel) (ws := [(oM, .inr (12, [.ref mT, .int zt, .ref mS, .ref mX, .int zp_10, .int zf_10, .ref mL, .ref mB, .ref mD, .ref m1, .ref m2, .int zh, .ref mR, .int zr, .ref x1, .ref x2, .ref x3, .int zc, .ref mH, .int zy, .int za, .int zb, .int zs_10, .int zq, .int zw_10, .int ze_10, .ref mY, .int zn_10, .ref mE, .int zm_10, .int zl_10, .ref mW, .int zk_10, .ref mO, .int zd_10, .ref y1, .ref y2, .ref y3, .ref y4, .ref mZ])), (mS, .inl (cI, 21, .inl eS_10)), (mX, .inl (cI, 6300, .inl eX_10)), (mL, .inl (cI, 512, .inl eL)), (mB, .inl (cS, 131072, .inl eB)), (mY, .inl (cI, 2600, .inl eY_10)), (mE, .inl (cI, 2600, .inl eE_10)), (mW, .inl (cI, 300, .inl eW_10)), (mO, .inl (cI, 300, .inl eO_10))]) rfl (wn := [(oX, .inr (11, [.ref nT, .ref nL, .ref nM, .ref oC, .ref oP, .ref oH, .ref oK, .ref oG, .ref oR, .ref oQ, .ref oW, .int fa_5])), (nT, .inr (5, [.ref aT, .int lT])), (aT, .inl (cI, 900, .inl fT)), (nL, .inr (5, [.ref aL, .int lL_5])), (aL, .inl (cI, 300, .inl fL_5)), (nM, .inr (5, [.ref aM, .int lM_5])), (aM, .inl (cI, 300, .inl fM_5)), (oC, .inr (2, [.ref o4, .ref o5])), (o4, .inr (10, [.ref a41, .ref a42, .ref a43, .int l4])), (a41, .inl (cI, 256, .inl f41)), (a42, .inl (cI, 512, .inl f42)), (a43, .inl (cI, 512, .inl f43)), (o5, .inr (10, [.ref a51, .ref a52, .ref a53, .int l5])), (a51, .inl (cI, 256, .inl f51)), (a52, .inl (cI, 512, .inl f52)), (a53, .inl (cI, 512, .inl f53)), (oP, .inr (7, [.ref oC, .ref nB, .int ft_5])), (nB, .inr (5, [.ref aB, .int lB_5])), (aB, .inl (cI, 2400, .inl fB_5)), (oH, .inr (4, [.ref oP, .ref h1, .ref h2, .int lH])), (h1, .inl (cI, 6, .inl fH1)), (h2, .inl (cI, 6, .inl fH2)), (oK, .inr (3, [.ref k1, .ref k2, .int lK])), (k1, .inl (cI, 1024, .inl fK1)), (k2, .inl (cI, 1024, .inl fK2)), (oG, .inr (0, [.ref g1, .ref g2, .int gn_5, .int lG_5])), (g1, .inl (cI, 6000, .inl fG1_5)), (g2, .inl (cI, 20, .inl fG2_5)), (oR, .inr (9, [.ref oH, .ref oK, .ref n1, .ref n2, .ref n3, .ref r1, .ref r2, .ref r3, .ref r4, .ref r5, .ref r6, .int lR])), (n1, .inr (5, [.ref a1, .int l1])), (a1, .inl (cI, 300, .inl f1)), (n2, .inr (5, [.ref a2, .int l2])), (a2, .inl (cI, 300, .inl f2)), (n3, .inr (5, [.ref a3, .int l3])), (a3, .inl (cI, 300, .inl f3)), (r1, .inl (cI, 258, .inl fR1)), (r2, .inl (cI, 258, .inl fR2)), (r3, .inl (cI, 774, .inl fR3)), (r4, .inl (cI, 258, .inl fR4)), (r5, .inl (cI, 258, .inl fR5)), (r6, .inl (cI, 774, .inl fR6)), (oQ, .inr (6, [.ref oC, .ref oH, .ref oK, .ref oE, .ref nq, .ref np, .ref nv, .ref q1, .ref q2, .ref q3, .ref q4, .int pr])), (oE, .inr (8, [.ref oC, .ref oK, .int reE, .int laE, .int suE, .int leE])), (nq, .inr (5, [.ref aq, .int lq])), (aq, .inl (cI, 480, .inl fq)), (np, .inr (5, [.ref ap, .int lp])), (ap, .inl (cI, 300, .inl fp)), (nv, .inr (5, [.ref av, .int lv])), (av, .inl (cI, 300, .inl fv)), (q1, .inl (cI, 61, .inl fQ1)), (q2, .inl (cI, 61, .inl fQ2)), (q3, .inl (cI, 61, .inl fQ3)), (q4, .inl (cI, 61, .inl fQ4)), (oW, .inr (1, [.ref oC, .ref oK, .ref nw, .ref w1, .ref w2, .ref w3, .ref o7, .ref o8, .ref o9, .ref w4, .ref w5, .ref w6, .ref w7, .int ke, .int tl, .int fsh_5, .int wi, .int ri, .int fm, .int lm])), (nw, .inr (5, [.ref aw, .int lw])), (aw, .inl (cI, 800, .inl fw)), (o7, .inr (8, [.ref oC, .ref oK, .int re7, .int la7, .int su7, .int le7])), (o8, .inr (8, [.ref oC, .ref oK, .int re8, .int la8, .int su8, .int le8])), (o9, .inr (8, [.ref oC, .ref oK, .int re9, .int la9, .int su9, .int le9])), (w1, .inl (cI, 801, .inl fW1)), (w2, .inl (cI, 801, .inl fW2)), (w3, .inl (cI, 801, .inl fW3)), (w4, .inl (cI, 200, .inl fW4)), (w5, .inl (cI, 200, .inl fW5)), (w6, .inl (cI, 200, .inl fW6)), (w7, .inl (cI, 200, .inl fW7)), (oM, .inr (12, [.ref mT, .int zt, .ref mS, .ref mX, .int zp_10, .int zf_10, .ref mL, .ref mB, .ref mD, .ref m1, .ref m2, .int zh, .ref mR, .int zr, .ref x1, .ref x2, .ref x3, .int zc, .ref mH, .int zy, .int za, .int zb, .int zs_10, .int zq, .int zw_10, .int ze_10, .ref mY, .int zn_10, .ref mE, .int zm_10, .int zl_10, .ref mW, .int zk_10, .ref mO, .int zd_10, .ref y1, .ref y2, .ref y3, .ref y4, .ref mZ])), (mT, .inl (cI, 900, .inl eT)), (mS, .inl (cI, 21, .inl eS_10)), (mX, .inl (cI, 6300, .inl eX_10)), (mL, .inl (cI, 512, .inl eL)), (mB, .inl (cS, 131072, .inl eB)), (mD, .inl (cI, 2, .inl eD)), (m1, .inl (cI, 6, .inl e1)), (m2, .inl (cI, 6, .inl e2)), (mR, .inl (cI, 1548, .inl eR)), (x1, .inl (cI, 300, .inl ec1)), (x2, .inl (cI, 300, .inl ec2)), (x3, .inl (cI, 300, .inl ec3)), (mH, .inl (cI, 800, .inl eH)), (mY, .inl (cI, 2600, .inl eY_10)), (mE, .inl (cI, 2600, .inl eE_10)), (mW, .inl (cI, 300, .inl eW_10)), (mO, .inl (cI, 300, .inl eO_10)), (y1, .inl (cI, 61, .inl er1)), (y2, .inl (cI, 61, .inl er2)), (y3, .inl (cI, 61, .inl er3)), (y4, .inl (cI, 61, .inl er4)), (mZ, .inl (cI, 600, .inl eZ)), (oJ, .inl (cJ, 1, .inr (.inl fJ)))]) rfl
  clear hP hD hS hJ hPD9
  have hP := hPn
  have hD := hDn
  have hS := hSn
  clear hPn hDn hSn
  refine lv_pop hx hb dL_law_633 rfl ?_
  refine lv_goto (tgt := 1022) hx hb dL_law_634 (by decide) ?_
  have hcg := chg_rel hTX hCH hf5_7 hf10_14 (hm_iff hr4 hr5 (TX_n hTX) (TX_e hTX) (TX_p hTX) g_lL.1 g_eB) (hm_ok hlz (TX_q hTX) (TX_z hTX g_lL.1) (okB_r g_eB)) g_lL.1 g_lL.2 g_gn g_zp g_zf g_fG2
  have hdf : DFr fsh fsh_5 zs zs_10 := hcg.2.2.2
  refine W.widen (k := 90 + (nc + 1)) (n := 172225 + 6 * (nc + 1)) (by omega) (by omega) ?_
  exact kk fa_5 lT lL_5 lM_5 l4 l5 ft_5 lB_5 lH lK gn_5 lG_5 lR l1 l2 l3 pr reE laE suE leE lq lp lv ke tl fsh_5 wi ri fm lm lw re7 la7 su7 le7 re8 la8 su8 le8 re9 la9 su9 le9 zt zp_10 zf_10 zh zr zc zy za zb zs_10 zq zw_10 ze_10 zn_10 zm_10 zl_10 zk_10 zd_10 fT fL_5 fM_5 f41 f42 f43 f51 f52 f53 fB_5 fH1 fH2 fK1 fK2 fG1_5 fG2_5 f1 f2 f3 fR1 fR2 fR3 fR4 fR5 fR6 fq fp fv fQ1 fQ2 fQ3 fQ4 fw fW1 fW2 fW3 fW4 fW5 fW6 fW7 eT eS_10 eX_10 eL eB eD e1 e2 eR ec1 ec2 ec3 eH eY_10 eE_10 eW_10 eO_10 er1 er2 er3 er4 eZ fJ _ _ _ ⟨g_lT, hf5_2, hf5_1, hf5_0, g_lH, g_lK, hf5_4, hf5_5, g_lR, g_l1, g_l2, g_l3, g_lq, g_lp, g_lv, g_ke, hf5_3, g_fm, g_lm, g_lw, g_zt, hf10_7, hf10_8, g_zh, g_zr, g_zc, g_zy, g_za, g_zb, hf10_9, g_zq, hf10_3, hf10_5, hf10_0, hf5_6, hf10_10, hf10_11, g_eL, g_eB, g_e1, g_e2, hf10_4, hf10_6, hf10_1, hf10_2, g_eZ, by omega, hrel, hrc, hr4, hr5, hb4, hb5, hlz, hH, hHe, hKz, hT, ho, hal, hCV, hVk, hVr, hcg.2.1, hcg.2.2.1, hvc, fr_d hfr hdf, fx_d hfx hdf, frs_st hfs hfr hf10_13⟩ hP hD hS (lv_sub hl [0, 1, 2, 3, 4] rfl)

set_option maxHeartbeats 40000000 in
set_option maxRecDepth 100000 in
theorem law_safe {p : Program} {l : Launch} {e : Env} {s : State} {m : MethodId} {below : List Frame} {meth : Method} {c : Code} {dC : Nat → ClassId} {dI : Nat → Nat → Nat} {cI cS cJ : ClassId} {A : Nat → Prop} {b L : Nat} {xs : Nat → Int32} (C0 : lw_At p s m meth c b L xs) (hAd : A = fun q : Nat => s.heap.size ≤ q) (hK3 : va_K (dC, dI) vwCl [(cI, .int), (cS, .short), (cJ, .long)] s) {oX nT aT nL aL nM aM oC o4 a41 a42 a43 o5 a51 a52 a53 oP nB aB oH h1 h2 oK k1 k2 oG g1 g2 oR n1 a1 n2 a2 n3 a3 r1 r2 r3 r4 r5 r6 oQ oE nq aq np ap nv av q1 q2 q3 q4 oW nw aw o7 o8 o9 w1 w2 w3 w4 w5 w6 w7 oM mT mS mX mL mB mD m1 m2 mR x1 x2 x3 mH mY mE mW mO y1 y2 y3 y4 mZ oJ : Nat} {fa : Int32} {lT : Int32} {lL : Int32} {lM : Int32} {l4 : Int32} {l5 : Int32} {ft : Int32} {lB : Int32} {lH : Int32} {lK : Int32} {gn : Int32} {lG : Int32} {lR : Int32} {l1 : Int32} {l2 : Int32} {l3 : Int32} {pr : Int32} {reE : Int32} {laE : Int32} {suE : Int32} {leE : Int32} {lq : Int32} {lp : Int32} {lv : Int32} {ke : Int32} {tl : Int32} {fsh : Int32} {wi : Int32} {ri : Int32} {fm : Int32} {lm : Int32} {lw : Int32} {re7 : Int32} {la7 : Int32} {su7 : Int32} {le7 : Int32} {re8 : Int32} {la8 : Int32} {su8 : Int32} {le8 : Int32} {re9 : Int32} {la9 : Int32} {su9 : Int32} {le9 : Int32} {zt : Int32} {zp : Int32} {zf : Int32} {zh : Int32} {zr : Int32} {zc : Int32} {zy : Int32} {za : Int32} {zb : Int32} {zs : Int32} {zq : Int32} {zw : Int32} {ze : Int32} {zn : Int32} {zm : Int32} {zl : Int32} {zk : Int32} {zd : Int32} {fT : Nat → Int32} {fL : Nat → Int32} {fM : Nat → Int32} {f41 : Nat → Int32} {f42 : Nat → Int32} {f43 : Nat → Int32} {f51 : Nat → Int32} {f52 : Nat → Int32} {f53 : Nat → Int32} {fB : Nat → Int32} {fH1 : Nat → Int32} {fH2 : Nat → Int32} {fK1 : Nat → Int32} {fK2 : Nat → Int32} {fG1 : Nat → Int32} {fG2 : Nat → Int32} {f1 : Nat → Int32} {f2 : Nat → Int32} {f3 : Nat → Int32} {fR1 : Nat → Int32} {fR2 : Nat → Int32} {fR3 : Nat → Int32} {fR4 : Nat → Int32} {fR5 : Nat → Int32} {fR6 : Nat → Int32} {fq : Nat → Int32} {fp : Nat → Int32} {fv : Nat → Int32} {fQ1 : Nat → Int32} {fQ2 : Nat → Int32} {fQ3 : Nat → Int32} {fQ4 : Nat → Int32} {fw : Nat → Int32} {fW1 : Nat → Int32} {fW2 : Nat → Int32} {fW3 : Nat → Int32} {fW4 : Nat → Int32} {fW5 : Nat → Int32} {fW6 : Nat → Int32} {fW7 : Nat → Int32} {eT : Nat → Int32} {eS : Nat → Int32} {eX : Nat → Int32} {eL : Nat → Int32} {eB : Nat → Int32} {eD : Nat → Int32} {e1 : Nat → Int32} {e2 : Nat → Int32} {eR : Nat → Int32} {ec1 : Nat → Int32} {ec2 : Nat → Int32} {ec3 : Nat → Int32} {eH : Nat → Int32} {eY : Nat → Int32} {eE : Nat → Int32} {eW : Nat → Int32} {eO : Nat → Int32} {er1 : Nat → Int32} {er2 : Nat → Int32} {er3 : Nat → Int32} {er4 : Nat → Int32} {eZ : Nat → Int32} {fJ : Nat → Int64} {H : Heap} {locs : List Loc} {ls : Array Slot} {i : Int32} {nc : Nat} (hn : nc ≤ 511) (hi : 0 ≤ i.toInt ∧ i.toInt + 5 < (L : Int)) (hL : L ≤ 3072) (hI : INV nc lT lL lM l4 l5 lB lH lK gn lG lR l1 l2 l3 lq lp lv ke fsh wi ri fm lm lw zt zp zf zh zr zc zy za zb zs zq zn zm zk fT fL f41 f42 f43 f51 f52 f53 fH1 fH2 fK1 fK2 fG1 fG2 fW4 fW5 fW6 fW7 eT eS eX eL eB eD e1 e2 ec1 ec2 ec3 eH eY eE eW eO eZ) (hP : va_P (dC, dI) vwCl (WLD cI cS cJ oX nT aT nL aL nM aM oC o4 a41 a42 a43 o5 a51 a52 a53 oP nB aB oH h1 h2 oK k1 k2 oG g1 g2 oR n1 a1 n2 a2 n3 a3 r1 r2 r3 r4 r5 r6 oQ oE nq aq np ap nv av q1 q2 q3 q4 oW nw aw o7 o8 o9 w1 w2 w3 w4 w5 w6 w7 oM mT mS mX mL mB mD m1 m2 mR x1 x2 x3 mH mY mE mW mO y1 y2 y3 y4 mZ oJ fa lT lL lM l4 l5 ft lB lH lK gn lG lR l1 l2 l3 pr reE laE suE leE lq lp lv ke tl fsh wi ri fm lm lw re7 la7 su7 le7 re8 la8 su8 le8 re9 la9 su9 le9 zt zp zf zh zr zc zy za zb zs zq zw ze zn zm zl zk zd fT fL fM f41 f42 f43 f51 f52 f53 fB fH1 fH2 fK1 fK2 fG1 fG2 f1 f2 f3 fR1 fR2 fR3 fR4 fR5 fR6 fq fp fv fQ1 fQ2 fQ3 fQ4 fw fW1 fW2 fW3 fW4 fW5 fW6 fW7 eT eS eX eL eB eD e1 e2 eR ec1 ec2 ec3 eH eY eE eW eO er1 er2 er3 er4 eZ fJ) H) (hD : va_D A (WLD cI cS cJ oX nT aT nL aL nM aM oC o4 a41 a42 a43 o5 a51 a52 a53 oP nB aB oH h1 h2 oK k1 k2 oG g1 g2 oR n1 a1 n2 a2 n3 a3 r1 r2 r3 r4 r5 r6 oQ oE nq aq np ap nv av q1 q2 q3 q4 oW nw aw o7 o8 o9 w1 w2 w3 w4 w5 w6 w7 oM mT mS mX mL mB mD m1 m2 mR x1 x2 x3 mH mY mE mW mO y1 y2 y3 y4 mZ oJ fa lT lL lM l4 l5 ft lB lH lK gn lG lR l1 l2 l3 pr reE laE suE leE lq lp lv ke tl fsh wi ri fm lm lw re7 la7 su7 le7 re8 la8 su8 le8 re9 la9 su9 le9 zt zp zf zh zr zc zy za zb zs zq zw ze zn zm zl zk zd fT fL fM f41 f42 f43 f51 f52 f53 fB fH1 fH2 fK1 fK2 fG1 fG2 f1 f2 f3 fR1 fR2 fR3 fR4 fR5 fR6 fq fp fv fQ1 fQ2 fQ3 fQ4 fw fW1 fW2 fW3 fW4 fW5 fW6 fW7 eT eS eX eL eB eD e1 e2 eR ec1 ec2 ec3 eH eY eE eW eO er1 er2 er3 er4 eZ fJ)) (hS : va_S A s.heap H locs) (hl : lv_has ls 7 [(0, .ref b), (1, .ref oX), (2, .ref oM), (3, .ref oJ), (4, .int i)]) (kk : KK p l e s m below meth c dC dI cI cS cJ A b oX nT aT nL aL nM aM oC o4 a41 a42 a43 o5 a51 a52 a53 oP nB aB oH h1 h2 oK k1 k2 oG g1 g2 oR n1 a1 n2 a2 n3 a3 r1 r2 r3 r4 r5 r6 oQ oE nq aq np ap nv av q1 q2 q3 q4 oW nw aw o7 o8 o9 w1 w2 w3 w4 w5 w6 w7 oM mT mS mX mL mB mD m1 m2 mR x1 x2 x3 mH mY mE mW mO y1 y2 y3 y4 mZ oJ i nc) : W p l e room_1 s m #[Value.ref b] below meth c H locs (90 + nc) (172225 + 6 * nc) (lw_Z below #[Value.ref b] s) (F0 m 637 ls []) := by
  refine And.elim (fun hx hBC_0 => ?_) C0
  refine And.elim (fun hb hBC_1 => ?_) hBC_0
  refine And.elim (fun hr hBC_2 => ?_) hBC_1
  refine And.elim (fun hml hBC_3 => ?_) hBC_2
  refine And.elim (fun hown hBC_4 => ?_) hBC_3
  refine And.elim (fun hts0 hBC_5 => ?_) hBC_4
  refine And.elim (fun hX hBC_6 => ?_) hBC_5
  refine And.elim (fun hbl hBC_7 => ?_) hBC_6
  refine And.elim (fun hlocks hBC_8 => ?_) hBC_7
  have hgv := hBC_8
  clear hBC_0 hBC_1 hBC_2 hBC_3 hBC_4 hBC_5 hBC_6 hBC_7 hBC_8
  refine And.elim (fun g_lT hBI_0 => ?_) hI
  refine And.elim (fun g_lL hBI_1 => ?_) hBI_0
  refine And.elim (fun g_lM hBI_2 => ?_) hBI_1
  refine And.elim (fun g_lB hBI_3 => ?_) hBI_2
  refine And.elim (fun g_lH hBI_4 => ?_) hBI_3
  refine And.elim (fun g_lK hBI_5 => ?_) hBI_4
  refine And.elim (fun g_gn hBI_6 => ?_) hBI_5
  refine And.elim (fun g_lG hBI_7 => ?_) hBI_6
  refine And.elim (fun g_lR hBI_8 => ?_) hBI_7
  refine And.elim (fun g_l1 hBI_9 => ?_) hBI_8
  refine And.elim (fun g_l2 hBI_10 => ?_) hBI_9
  refine And.elim (fun g_l3 hBI_11 => ?_) hBI_10
  refine And.elim (fun g_lq hBI_12 => ?_) hBI_11
  refine And.elim (fun g_lp hBI_13 => ?_) hBI_12
  refine And.elim (fun g_lv hBI_14 => ?_) hBI_13
  refine And.elim (fun g_ke hBI_15 => ?_) hBI_14
  refine And.elim (fun g_fsh hBI_16 => ?_) hBI_15
  refine And.elim (fun g_fm hBI_17 => ?_) hBI_16
  refine And.elim (fun g_lm hBI_18 => ?_) hBI_17
  refine And.elim (fun g_lw hBI_19 => ?_) hBI_18
  refine And.elim (fun g_zt hBI_20 => ?_) hBI_19
  refine And.elim (fun g_zp hBI_21 => ?_) hBI_20
  refine And.elim (fun g_zf hBI_22 => ?_) hBI_21
  refine And.elim (fun g_zh hBI_23 => ?_) hBI_22
  refine And.elim (fun g_zr hBI_24 => ?_) hBI_23
  refine And.elim (fun g_zc hBI_25 => ?_) hBI_24
  refine And.elim (fun g_zy hBI_26 => ?_) hBI_25
  refine And.elim (fun g_za hBI_27 => ?_) hBI_26
  refine And.elim (fun g_zb hBI_28 => ?_) hBI_27
  refine And.elim (fun g_zs hBI_29 => ?_) hBI_28
  refine And.elim (fun g_zq hBI_30 => ?_) hBI_29
  refine And.elim (fun g_zn hBI_31 => ?_) hBI_30
  refine And.elim (fun g_zm hBI_32 => ?_) hBI_31
  refine And.elim (fun g_zk hBI_33 => ?_) hBI_32
  refine And.elim (fun g_fG2 hBI_34 => ?_) hBI_33
  refine And.elim (fun g_eS hBI_35 => ?_) hBI_34
  refine And.elim (fun g_eX hBI_36 => ?_) hBI_35
  refine And.elim (fun g_eL hBI_37 => ?_) hBI_36
  refine And.elim (fun g_eB hBI_38 => ?_) hBI_37
  refine And.elim (fun g_e1 hBI_39 => ?_) hBI_38
  refine And.elim (fun g_e2 hBI_40 => ?_) hBI_39
  refine And.elim (fun g_eY hBI_41 => ?_) hBI_40
  refine And.elim (fun g_eE hBI_42 => ?_) hBI_41
  refine And.elim (fun g_eW hBI_43 => ?_) hBI_42
  refine And.elim (fun g_eO hBI_44 => ?_) hBI_43
  refine And.elim (fun g_eZ hBI_45 => ?_) hBI_44
  refine And.elim (fun hzn hBI_46 => ?_) hBI_45
  refine And.elim (fun hrel hBI_47 => ?_) hBI_46
  refine And.elim (fun hrc hBI_48 => ?_) hBI_47
  refine And.elim (fun hr4 hBI_49 => ?_) hBI_48
  refine And.elim (fun hr5 hBI_50 => ?_) hBI_49
  refine And.elim (fun hb4 hBI_51 => ?_) hBI_50
  refine And.elim (fun hb5 hBI_52 => ?_) hBI_51
  refine And.elim (fun hlz hBI_53 => ?_) hBI_52
  refine And.elim (fun hH hBI_54 => ?_) hBI_53
  refine And.elim (fun hHe hBI_55 => ?_) hBI_54
  refine And.elim (fun hKz hBI_56 => ?_) hBI_55
  refine And.elim (fun hT hBI_57 => ?_) hBI_56
  refine And.elim (fun ho hBI_58 => ?_) hBI_57
  refine And.elim (fun hal hBI_59 => ?_) hBI_58
  refine And.elim (fun hCV hBI_60 => ?_) hBI_59
  refine And.elim (fun hVk hBI_61 => ?_) hBI_60
  refine And.elim (fun hVr hBI_62 => ?_) hBI_61
  refine And.elim (fun hTX hBI_63 => ?_) hBI_62
  refine And.elim (fun hCH hBI_64 => ?_) hBI_63
  refine And.elim (fun hvc hBI_65 => ?_) hBI_64
  refine And.elim (fun hfr hBI_66 => ?_) hBI_65
  refine And.elim (fun hfx hBI_67 => ?_) hBI_66
  have hfs := hBI_67
  clear hI hBI_0 hBI_1 hBI_2 hBI_3 hBI_4 hBI_5 hBI_6 hBI_7 hBI_8 hBI_9 hBI_10 hBI_11 hBI_12 hBI_13 hBI_14 hBI_15 hBI_16 hBI_17 hBI_18 hBI_19 hBI_20 hBI_21 hBI_22 hBI_23 hBI_24 hBI_25 hBI_26 hBI_27 hBI_28 hBI_29 hBI_30 hBI_31 hBI_32 hBI_33 hBI_34 hBI_35 hBI_36 hBI_37 hBI_38 hBI_39 hBI_40 hBI_41 hBI_42 hBI_43 hBI_44 hBI_45 hBI_46 hBI_47 hBI_48 hBI_49 hBI_50 hBI_51 hBI_52 hBI_53 hBI_54 hBI_55 hBI_56 hBI_57 hBI_58 hBI_59 hBI_60 hBI_61 hBI_62 hBI_63 hBI_64 hBI_65 hBI_66 hBI_67
  have hK : va_K (dC, dI) vwCl [(cI, .int), (cS, .short)] s := hK3.sub [0, 1] rfl
  have hown : s.vm.findClass RL = some m.cls := hown
  have hts := hts0
  have hcf := k_cf hx hb hml hown hts
  have hi9 : 0 ≤ i.toInt ∧ i.toInt ≤ 3066 := by omega
  have hzs : zs.toInt ≤ 1000000 := by omega
  have hA : ∀ q : Nat, s.heap.size ≤ q → A q := fun q h => by rw [hAd]; exact h
  have hbA : ¬ A b := by rw [hAd]; exact Nat.not_le.mpr hbl
  have hP : va_P (dC, dI) vwCl [(oX, .inr (11, [.ref nT, .ref nL, .ref nM, .ref oC, .ref oP, .ref oH, .ref oK, .ref oG, .ref oR, .ref oQ, .ref oW, .int fa])), (nT, .inr (5, [.ref aT, .int lT])), (aT, .inl (cI, 900, .inl fT)), (nL, .inr (5, [.ref aL, .int lL])), (aL, .inl (cI, 300, .inl fL)), (nM, .inr (5, [.ref aM, .int lM])), (aM, .inl (cI, 300, .inl fM)), (oC, .inr (2, [.ref o4, .ref o5])), (o4, .inr (10, [.ref a41, .ref a42, .ref a43, .int l4])), (a41, .inl (cI, 256, .inl f41)), (a42, .inl (cI, 512, .inl f42)), (a43, .inl (cI, 512, .inl f43)), (o5, .inr (10, [.ref a51, .ref a52, .ref a53, .int l5])), (a51, .inl (cI, 256, .inl f51)), (a52, .inl (cI, 512, .inl f52)), (a53, .inl (cI, 512, .inl f53)), (oP, .inr (7, [.ref oC, .ref nB, .int ft])), (nB, .inr (5, [.ref aB, .int lB])), (aB, .inl (cI, 2400, .inl fB)), (oH, .inr (4, [.ref oP, .ref h1, .ref h2, .int lH])), (h1, .inl (cI, 6, .inl fH1)), (h2, .inl (cI, 6, .inl fH2)), (oK, .inr (3, [.ref k1, .ref k2, .int lK])), (k1, .inl (cI, 1024, .inl fK1)), (k2, .inl (cI, 1024, .inl fK2)), (oG, .inr (0, [.ref g1, .ref g2, .int gn, .int lG])), (g1, .inl (cI, 6000, .inl fG1)), (g2, .inl (cI, 20, .inl fG2)), (oR, .inr (9, [.ref oH, .ref oK, .ref n1, .ref n2, .ref n3, .ref r1, .ref r2, .ref r3, .ref r4, .ref r5, .ref r6, .int lR])), (n1, .inr (5, [.ref a1, .int l1])), (a1, .inl (cI, 300, .inl f1)), (n2, .inr (5, [.ref a2, .int l2])), (a2, .inl (cI, 300, .inl f2)), (n3, .inr (5, [.ref a3, .int l3])), (a3, .inl (cI, 300, .inl f3)), (r1, .inl (cI, 258, .inl fR1)), (r2, .inl (cI, 258, .inl fR2)), (r3, .inl (cI, 774, .inl fR3)), (r4, .inl (cI, 258, .inl fR4)), (r5, .inl (cI, 258, .inl fR5)), (r6, .inl (cI, 774, .inl fR6)), (oQ, .inr (6, [.ref oC, .ref oH, .ref oK, .ref oE, .ref nq, .ref np, .ref nv, .ref q1, .ref q2, .ref q3, .ref q4, .int pr])), (oE, .inr (8, [.ref oC, .ref oK, .int reE, .int laE, .int suE, .int leE])), (nq, .inr (5, [.ref aq, .int lq])), (aq, .inl (cI, 480, .inl fq)), (np, .inr (5, [.ref ap, .int lp])), (ap, .inl (cI, 300, .inl fp)), (nv, .inr (5, [.ref av, .int lv])), (av, .inl (cI, 300, .inl fv)), (q1, .inl (cI, 61, .inl fQ1)), (q2, .inl (cI, 61, .inl fQ2)), (q3, .inl (cI, 61, .inl fQ3)), (q4, .inl (cI, 61, .inl fQ4)), (oW, .inr (1, [.ref oC, .ref oK, .ref nw, .ref w1, .ref w2, .ref w3, .ref o7, .ref o8, .ref o9, .ref w4, .ref w5, .ref w6, .ref w7, .int ke, .int tl, .int fsh, .int wi, .int ri, .int fm, .int lm])), (nw, .inr (5, [.ref aw, .int lw])), (aw, .inl (cI, 800, .inl fw)), (o7, .inr (8, [.ref oC, .ref oK, .int re7, .int la7, .int su7, .int le7])), (o8, .inr (8, [.ref oC, .ref oK, .int re8, .int la8, .int su8, .int le8])), (o9, .inr (8, [.ref oC, .ref oK, .int re9, .int la9, .int su9, .int le9])), (w1, .inl (cI, 801, .inl fW1)), (w2, .inl (cI, 801, .inl fW2)), (w3, .inl (cI, 801, .inl fW3)), (w4, .inl (cI, 200, .inl fW4)), (w5, .inl (cI, 200, .inl fW5)), (w6, .inl (cI, 200, .inl fW6)), (w7, .inl (cI, 200, .inl fW7)), (oM, .inr (12, [.ref mT, .int zt, .ref mS, .ref mX, .int zp, .int zf, .ref mL, .ref mB, .ref mD, .ref m1, .ref m2, .int zh, .ref mR, .int zr, .ref x1, .ref x2, .ref x3, .int zc, .ref mH, .int zy, .int za, .int zb, .int zs, .int zq, .int zw, .int ze, .ref mY, .int zn, .ref mE, .int zm, .int zl, .ref mW, .int zk, .ref mO, .int zd, .ref y1, .ref y2, .ref y3, .ref y4, .ref mZ])), (mT, .inl (cI, 900, .inl eT)), (mS, .inl (cI, 21, .inl eS)), (mX, .inl (cI, 6300, .inl eX)), (mL, .inl (cI, 512, .inl eL)), (mB, .inl (cS, 131072, .inl eB)), (mD, .inl (cI, 2, .inl eD)), (m1, .inl (cI, 6, .inl e1)), (m2, .inl (cI, 6, .inl e2)), (mR, .inl (cI, 1548, .inl eR)), (x1, .inl (cI, 300, .inl ec1)), (x2, .inl (cI, 300, .inl ec2)), (x3, .inl (cI, 300, .inl ec3)), (mH, .inl (cI, 800, .inl eH)), (mY, .inl (cI, 2600, .inl eY)), (mE, .inl (cI, 2600, .inl eE)), (mW, .inl (cI, 300, .inl eW)), (mO, .inl (cI, 300, .inl eO)), (y1, .inl (cI, 61, .inl er1)), (y2, .inl (cI, 61, .inl er2)), (y3, .inl (cI, 61, .inl er3)), (y4, .inl (cI, 61, .inl er4)), (mZ, .inl (cI, 600, .inl eZ)), (oJ, .inl (cJ, 1, .inr (.inl fJ)))] H := hP
  have hD : va_D A [(oX, .inr (11, [.ref nT, .ref nL, .ref nM, .ref oC, .ref oP, .ref oH, .ref oK, .ref oG, .ref oR, .ref oQ, .ref oW, .int fa])), (nT, .inr (5, [.ref aT, .int lT])), (aT, .inl (cI, 900, .inl fT)), (nL, .inr (5, [.ref aL, .int lL])), (aL, .inl (cI, 300, .inl fL)), (nM, .inr (5, [.ref aM, .int lM])), (aM, .inl (cI, 300, .inl fM)), (oC, .inr (2, [.ref o4, .ref o5])), (o4, .inr (10, [.ref a41, .ref a42, .ref a43, .int l4])), (a41, .inl (cI, 256, .inl f41)), (a42, .inl (cI, 512, .inl f42)), (a43, .inl (cI, 512, .inl f43)), (o5, .inr (10, [.ref a51, .ref a52, .ref a53, .int l5])), (a51, .inl (cI, 256, .inl f51)), (a52, .inl (cI, 512, .inl f52)), (a53, .inl (cI, 512, .inl f53)), (oP, .inr (7, [.ref oC, .ref nB, .int ft])), (nB, .inr (5, [.ref aB, .int lB])), (aB, .inl (cI, 2400, .inl fB)), (oH, .inr (4, [.ref oP, .ref h1, .ref h2, .int lH])), (h1, .inl (cI, 6, .inl fH1)), (h2, .inl (cI, 6, .inl fH2)), (oK, .inr (3, [.ref k1, .ref k2, .int lK])), (k1, .inl (cI, 1024, .inl fK1)), (k2, .inl (cI, 1024, .inl fK2)), (oG, .inr (0, [.ref g1, .ref g2, .int gn, .int lG])), (g1, .inl (cI, 6000, .inl fG1)), (g2, .inl (cI, 20, .inl fG2)), (oR, .inr (9, [.ref oH, .ref oK, .ref n1, .ref n2, .ref n3, .ref r1, .ref r2, .ref r3, .ref r4, .ref r5, .ref r6, .int lR])), (n1, .inr (5, [.ref a1, .int l1])), (a1, .inl (cI, 300, .inl f1)), (n2, .inr (5, [.ref a2, .int l2])), (a2, .inl (cI, 300, .inl f2)), (n3, .inr (5, [.ref a3, .int l3])), (a3, .inl (cI, 300, .inl f3)), (r1, .inl (cI, 258, .inl fR1)), (r2, .inl (cI, 258, .inl fR2)), (r3, .inl (cI, 774, .inl fR3)), (r4, .inl (cI, 258, .inl fR4)), (r5, .inl (cI, 258, .inl fR5)), (r6, .inl (cI, 774, .inl fR6)), (oQ, .inr (6, [.ref oC, .ref oH, .ref oK, .ref oE, .ref nq, .ref np, .ref nv, .ref q1, .ref q2, .ref q3, .ref q4, .int pr])), (oE, .inr (8, [.ref oC, .ref oK, .int reE, .int laE, .int suE, .int leE])), (nq, .inr (5, [.ref aq, .int lq])), (aq, .inl (cI, 480, .inl fq)), (np, .inr (5, [.ref ap, .int lp])), (ap, .inl (cI, 300, .inl fp)), (nv, .inr (5, [.ref av, .int lv])), (av, .inl (cI, 300, .inl fv)), (q1, .inl (cI, 61, .inl fQ1)), (q2, .inl (cI, 61, .inl fQ2)), (q3, .inl (cI, 61, .inl fQ3)), (q4, .inl (cI, 61, .inl fQ4)), (oW, .inr (1, [.ref oC, .ref oK, .ref nw, .ref w1, .ref w2, .ref w3, .ref o7, .ref o8, .ref o9, .ref w4, .ref w5, .ref w6, .ref w7, .int ke, .int tl, .int fsh, .int wi, .int ri, .int fm, .int lm])), (nw, .inr (5, [.ref aw, .int lw])), (aw, .inl (cI, 800, .inl fw)), (o7, .inr (8, [.ref oC, .ref oK, .int re7, .int la7, .int su7, .int le7])), (o8, .inr (8, [.ref oC, .ref oK, .int re8, .int la8, .int su8, .int le8])), (o9, .inr (8, [.ref oC, .ref oK, .int re9, .int la9, .int su9, .int le9])), (w1, .inl (cI, 801, .inl fW1)), (w2, .inl (cI, 801, .inl fW2)), (w3, .inl (cI, 801, .inl fW3)), (w4, .inl (cI, 200, .inl fW4)), (w5, .inl (cI, 200, .inl fW5)), (w6, .inl (cI, 200, .inl fW6)), (w7, .inl (cI, 200, .inl fW7)), (oM, .inr (12, [.ref mT, .int zt, .ref mS, .ref mX, .int zp, .int zf, .ref mL, .ref mB, .ref mD, .ref m1, .ref m2, .int zh, .ref mR, .int zr, .ref x1, .ref x2, .ref x3, .int zc, .ref mH, .int zy, .int za, .int zb, .int zs, .int zq, .int zw, .int ze, .ref mY, .int zn, .ref mE, .int zm, .int zl, .ref mW, .int zk, .ref mO, .int zd, .ref y1, .ref y2, .ref y3, .ref y4, .ref mZ])), (mT, .inl (cI, 900, .inl eT)), (mS, .inl (cI, 21, .inl eS)), (mX, .inl (cI, 6300, .inl eX)), (mL, .inl (cI, 512, .inl eL)), (mB, .inl (cS, 131072, .inl eB)), (mD, .inl (cI, 2, .inl eD)), (m1, .inl (cI, 6, .inl e1)), (m2, .inl (cI, 6, .inl e2)), (mR, .inl (cI, 1548, .inl eR)), (x1, .inl (cI, 300, .inl ec1)), (x2, .inl (cI, 300, .inl ec2)), (x3, .inl (cI, 300, .inl ec3)), (mH, .inl (cI, 800, .inl eH)), (mY, .inl (cI, 2600, .inl eY)), (mE, .inl (cI, 2600, .inl eE)), (mW, .inl (cI, 300, .inl eW)), (mO, .inl (cI, 300, .inl eO)), (y1, .inl (cI, 61, .inl er1)), (y2, .inl (cI, 61, .inl er2)), (y3, .inl (cI, 61, .inl er3)), (y4, .inl (cI, 61, .inl er4)), (mZ, .inl (cI, 600, .inl eZ)), (oJ, .inl (cJ, 1, .inr (.inl fJ)))] := hD
  replace g_lT := hid g_lT
  replace g_lM := hid g_lM
  replace g_lB := hid g_lB
  replace g_lR := hid g_lR
  replace g_l1 := hid g_l1
  replace g_l2 := hid g_l2
  replace g_l3 := hid g_l3
  replace g_lq := hid g_lq
  replace g_lp := hid g_lp
  replace g_lv := hid g_lv
  replace g_fm := hid g_fm
  replace g_lm := hid g_lm
  replace g_lw := hid g_lw
  replace g_zt := hid g_zt
  replace g_zr := hid g_zr
  replace g_zn := hid g_zn
  replace g_zm := hid g_zm
  replace g_zk := hid g_zk
  refine lv_aload_n hx hb dL_law_637 rfl (lv_at hl 1 rfl) ?_
  refine lv_aload_n hx hb dL_law_638 rfl (lv_at hl 0 rfl) ?_
  refine lv_iload hx hb dL_law_639 (lv_at hl 4 rfl) ?_
  refine lv_iconst (v := 1) hx hb dL_law_641 (by decide) ?_
  refine lv_iadd hx hb dL_law_642 ?_
  refine lv_topi (fun x_1 ex_1 => ?_)
  have tx_1 : x_1.toInt = i.toInt + 1 := v_addR (l2 := 1) (h2 := 1) ex_1 hi9 (by decide) (by decide) (by decide)
  refine va_sld hx hb hX hbl hbA hS (v_in (v_sld5 tx_1 hi (by decide))) dL_law_643 ?_
  refine lv_topi (fun x_2 ex_2 => ?_)
  refine lv_aload_n hx hb dL_law_644 rfl (lv_at hl 0 rfl) ?_
  refine lv_iload hx hb dL_law_645 (lv_at hl 4 rfl) ?_
  refine lv_iconst (v := 2) hx hb dL_law_647 (by decide) ?_
  refine lv_iadd hx hb dL_law_648 ?_
  refine lv_topi (fun x_3 ex_3 => ?_)
  have tx_3 : x_3.toInt = i.toInt + 2 := v_addR (l2 := 2) (h2 := 2) ex_3 hi9 (by decide) (by decide) (by decide)
  refine va_sld hx hb hX hbl hbA hS (v_in (v_sld5 tx_3 hi (by decide))) dL_law_649 ?_
  refine lv_topi (fun x_4 ex_4 => ?_)
  refine kV_i (rest := []) (q0 := 0) (ci := 11) hcf (x_safe l dC dI cI cS H.size oX nT nL nM oC oP oH oK oG oR oQ oW o4 o5 a41 a42 a43 a51 a52 a53 fa l4 f41 l5 f51 x_2 x_4 ) kc_X11_safe gL_law_X11_safe rfl rfl rfl ⟨Nat.le_of_ble_eq_true rfl, Nat.le_of_ble_eq_true rfl⟩ kX_t hK hP hD hS hA (posT mk_22 0) (posF mk_22 0) (kC_of mk_22 rfl rfl) (by decide +kernel) rfl rfl rfl hl rfl (Nat.le_of_ble_eq_true rfl) dL_law_650 ⟨kfit1 hn (Nat.le_of_ble_eq_true rfl), ksix1 hn (Nat.le_of_ble_eq_true rfl)⟩ (fun r_5 H locs hB hJ hSn => ?_)
  refine Exists.elim hB (fun fa_5 hB5_0 => ?_)
  have hPD9 := hB5_0
  clear hB hB5_0
  obtain ⟨hPn, hDn⟩ := kJi (m := mk_22) hJ rfl hPD9.1 hPD9.2 (wn := [(oX, .inr (11, [.ref nT, .ref nL, .ref nM, .ref oC, .ref oP, .ref oH, .ref oK, .ref oG, .ref oR, .ref oQ, .ref oW, .int fa_5])), (nT, .inr (5, [.ref aT, .int lT])), (aT, .inl (cI, 900, .inl fT)), (nL, .inr (5, [.ref aL, .int lL])), (aL, .inl (cI, 300, .inl fL)), (nM, .inr (5, [.ref aM, .int lM])), (aM, .inl (cI, 300, .inl fM)), (oC, .inr (2, [.ref o4, .ref o5])), (o4, .inr (10, [.ref a41, .ref a42, .ref a43, .int l4])), (a41, .inl (cI, 256, .inl f41)), (a42, .inl (cI, 512, .inl f42)), (a43, .inl (cI, 512, .inl f43)), (o5, .inr (10, [.ref a51, .ref a52, .ref a53, .int l5])), (a51, .inl (cI, 256, .inl f51)), (a52, .inl (cI, 512, .inl f52)), (a53, .inl (cI, 512, .inl f53)), (oP, .inr (7, [.ref oC, .ref nB, .int ft])), (nB, .inr (5, [.ref aB, .int lB])), (aB, .inl (cI, 2400, .inl fB)), (oH, .inr (4, [.ref oP, .ref h1, .ref h2, .int lH])), (h1, .inl (cI, 6, .inl fH1)), (h2, .inl (cI, 6, .inl fH2)), (oK, .inr (3, [.ref k1, .ref k2, .int lK])), (k1, .inl (cI, 1024, .inl fK1)), (k2, .inl (cI, 1024, .inl fK2)), (oG, .inr (0, [.ref g1, .ref g2, .int gn, .int lG])), (g1, .inl (cI, 6000, .inl fG1)), (g2, .inl (cI, 20, .inl fG2)), (oR, .inr (9, [.ref oH, .ref oK, .ref n1, .ref n2, .ref n3, .ref r1, .ref r2, .ref r3, .ref r4, .ref r5, .ref r6, .int lR])), (n1, .inr (5, [.ref a1, .int l1])), (a1, .inl (cI, 300, .inl f1)), (n2, .inr (5, [.ref a2, .int l2])), (a2, .inl (cI, 300, .inl f2)), (n3, .inr (5, [.ref a3, .int l3])), (a3, .inl (cI, 300, .inl f3)), (r1, .inl (cI, 258, .inl fR1)), (r2, .inl (cI, 258, .inl fR2)), (r3, .inl (cI, 774, .inl fR3)), (r4, .inl (cI, 258, .inl fR4)), (r5, .inl (cI, 258, .inl fR5)), (r6, .inl (cI, 774, .inl fR6)), (oQ, .inr (6, [.ref oC, .ref oH, .ref oK, .ref oE, .ref nq, .ref np, .ref nv, .ref q1, .ref q2, .ref q3, .ref q4, .int pr])), (oE, .inr (8, [.ref oC, .ref oK, .int reE, .int laE, .int suE, .int leE])), (nq, .inr (5, [.ref aq, .int lq])), (aq, .inl (cI, 480, .inl fq)), (np, .inr (5, [.ref ap, .int lp])), (ap, .inl (cI, 300, .inl fp)), (nv, .inr (5, [.ref av, .int lv])), (av, .inl (cI, 300, .inl fv)), (q1, .inl (cI, 61, .inl fQ1)), (q2, .inl (cI, 61, .inl fQ2)), (q3, .inl (cI, 61, .inl fQ3)), (q4, .inl (cI, 61, .inl fQ4)), (oW, .inr (1, [.ref oC, .ref oK, .ref nw, .ref w1, .ref w2, .ref w3, .ref o7, .ref o8, .ref o9, .ref w4, .ref w5, .ref w6, .ref w7, .int ke, .int tl, .int fsh, .int wi, .int ri, .int fm, .int lm])), (nw, .inr (5, [.ref aw, .int lw])), (aw, .inl (cI, 800, .inl fw)), (o7, .inr (8, [.ref oC, .ref oK, .int re7, .int la7, .int su7, .int le7])), (o8, .inr (8, [.ref oC, .ref oK, .int re8, .int la8, .int su8, .int le8])), (o9, .inr (8, [.ref oC, .ref oK, .int re9, .int la9, .int su9, .int le9])), (w1, .inl (cI, 801, .inl fW1)), (w2, .inl (cI, 801, .inl fW2)), (w3, .inl (cI, 801, .inl fW3)), (w4, .inl (cI, 200, .inl fW4)), (w5, .inl (cI, 200, .inl fW5)), (w6, .inl (cI, 200, .inl fW6)), (w7, .inl (cI, 200, .inl fW7)), (oM, .inr (12, [.ref mT, .int zt, .ref mS, .ref mX, .int zp, .int zf, .ref mL, .ref mB, .ref mD, .ref m1, .ref m2, .int zh, .ref mR, .int zr, .ref x1, .ref x2, .ref x3, .int zc, .ref mH, .int zy, .int za, .int zb, .int zs, .int zq, .int zw, .int ze, .ref mY, .int zn, .ref mE, .int zm, .int zl, .ref mW, .int zk, .ref mO, .int zd, .ref y1, .ref y2, .ref y3, .ref y4, .ref mZ])), (mT, .inl (cI, 900, .inl eT)), (mS, .inl (cI, 21, .inl eS)), (mX, .inl (cI, 6300, .inl eX)), (mL, .inl (cI, 512, .inl eL)), (mB, .inl (cS, 131072, .inl eB)), (mD, .inl (cI, 2, .inl eD)), (m1, .inl (cI, 6, .inl e1)), (m2, .inl (cI, 6, .inl e2)), (mR, .inl (cI, 1548, .inl eR)), (x1, .inl (cI, 300, .inl ec1)), (x2, .inl (cI, 300, .inl ec2)), (x3, .inl (cI, 300, .inl ec3)), (mH, .inl (cI, 800, .inl eH)), (mY, .inl (cI, 2600, .inl eY)), (mE, .inl (cI, 2600, .inl eE)), (mW, .inl (cI, 300, .inl eW)), (mO, .inl (cI, 300, .inl eO)), (y1, .inl (cI, 61, .inl er1)), (y2, .inl (cI, 61, .inl er2)), (y3, .inl (cI, 61, .inl er3)), (y4, .inl (cI, 61, .inl er4)), (mZ, .inl (cI, 600, .inl eZ)), (oJ, .inl (cJ, 1, .inr (.inl fJ)))]) rfl
  clear hP hD hS hJ hPD9
  have hP := hPn
  have hD := hDn
  have hS := hSn
  clear hPn hDn hSn
  refine lv_pop hx hb dL_law_653 rfl ?_
  refine lv_aload_n hx hb dL_law_654 rfl (lv_at hl 2 rfl) ?_
  refine lv_aload_n hx hb dL_law_655 rfl (lv_at hl 0 rfl) ?_
  refine lv_iload hx hb dL_law_656 (lv_at hl 4 rfl) ?_
  refine lv_iconst (v := 1) hx hb dL_law_658 (by decide) ?_
  refine lv_iadd hx hb dL_law_659 ?_
  refine lv_topi (fun x_6 ex_6 => ?_)
  have tx_6 : x_6.toInt = i.toInt + 1 := v_addR (l2 := 1) (h2 := 1) ex_6 hi9 (by decide) (by decide) (by decide)
  refine va_sld hx hb hX hbl hbA hS (v_in (v_sld5 tx_6 hi (by decide))) dL_law_660 ?_
  refine lv_topi (fun x_7 ex_7 => ?_)
  have es_7 : x_7 = x_2 := by rw [ex_7, ex_2, ex_6, ex_1]
  rw [es_7]
  refine lv_aload_n hx hb dL_law_661 rfl (lv_at hl 0 rfl) ?_
  refine lv_iload hx hb dL_law_662 (lv_at hl 4 rfl) ?_
  refine lv_iconst (v := 2) hx hb dL_law_664 (by decide) ?_
  refine lv_iadd hx hb dL_law_665 ?_
  refine lv_topi (fun x_8 ex_8 => ?_)
  have tx_8 : x_8.toInt = i.toInt + 2 := v_addR (l2 := 2) (h2 := 2) ex_8 hi9 (by decide) (by decide) (by decide)
  refine va_sld hx hb hX hbl hbA hS (v_in (v_sld5 tx_8 hi (by decide))) dL_law_666 ?_
  refine lv_topi (fun x_9 ex_9 => ?_)
  have es_9 : x_9 = x_4 := by rw [ex_9, ex_4, ex_8, ex_3]
  rw [es_9]
  refine kV_i (rest := []) (q0 := 0) (ci := 12) hcf (y_safe l dC dI cI cS H.size oM mT mS mX mL mB mD m1 m2 mR x1 x2 x3 mH mY mE mW mO y1 y2 y3 y4 mZ zt zp zf zh zr zc zy za zb zs zq zw ze zn zm zl zk zd eL x_2 x_4 (g_zt) (g_zp) (g_zf) (g_zh) (g_zr) (g_zc) (g_zy) (g_za) (g_zb) (g_zs) (g_zq) (g_zn) (g_zm) (g_zk) (g_eL) (by omega)) kc_X12_safe gL_law_X12_safe rfl rfl rfl ⟨Nat.le_of_ble_eq_true rfl, Nat.le_of_ble_eq_true rfl⟩ kX_t hK hP hD hS hA (posT mk_23 0) (posF mk_23 0) (kC_of mk_23 rfl rfl) (by decide +kernel) rfl rfl rfl hl rfl (Nat.le_of_ble_eq_true rfl) dL_law_667 ⟨kfit2 hn (Nat.le_of_ble_eq_true rfl), ksix2 hn (Nat.le_of_ble_eq_true rfl)⟩ (fun r_10 H locs hB hJ hSn => ?_)
  refine Exists.elim hB (fun ze_10 hB10_0 => ?_)
  refine Exists.elim hB10_0 (fun zw_10 hB10_1 => ?_)
  have hPD9 := hB10_1
  clear hB hB10_0 hB10_1
  obtain ⟨hPn, hDn⟩ := kJi (m := mk_23) hJ rfl hPD9.1 hPD9.2 (wn := [(oX, .inr (11, [.ref nT, .ref nL, .ref nM, .ref oC, .ref oP, .ref oH, .ref oK, .ref oG, .ref oR, .ref oQ, .ref oW, .int fa_5])), (nT, .inr (5, [.ref aT, .int lT])), (aT, .inl (cI, 900, .inl fT)), (nL, .inr (5, [.ref aL, .int lL])), (aL, .inl (cI, 300, .inl fL)), (nM, .inr (5, [.ref aM, .int lM])), (aM, .inl (cI, 300, .inl fM)), (oC, .inr (2, [.ref o4, .ref o5])), (o4, .inr (10, [.ref a41, .ref a42, .ref a43, .int l4])), (a41, .inl (cI, 256, .inl f41)), (a42, .inl (cI, 512, .inl f42)), (a43, .inl (cI, 512, .inl f43)), (o5, .inr (10, [.ref a51, .ref a52, .ref a53, .int l5])), (a51, .inl (cI, 256, .inl f51)), (a52, .inl (cI, 512, .inl f52)), (a53, .inl (cI, 512, .inl f53)), (oP, .inr (7, [.ref oC, .ref nB, .int ft])), (nB, .inr (5, [.ref aB, .int lB])), (aB, .inl (cI, 2400, .inl fB)), (oH, .inr (4, [.ref oP, .ref h1, .ref h2, .int lH])), (h1, .inl (cI, 6, .inl fH1)), (h2, .inl (cI, 6, .inl fH2)), (oK, .inr (3, [.ref k1, .ref k2, .int lK])), (k1, .inl (cI, 1024, .inl fK1)), (k2, .inl (cI, 1024, .inl fK2)), (oG, .inr (0, [.ref g1, .ref g2, .int gn, .int lG])), (g1, .inl (cI, 6000, .inl fG1)), (g2, .inl (cI, 20, .inl fG2)), (oR, .inr (9, [.ref oH, .ref oK, .ref n1, .ref n2, .ref n3, .ref r1, .ref r2, .ref r3, .ref r4, .ref r5, .ref r6, .int lR])), (n1, .inr (5, [.ref a1, .int l1])), (a1, .inl (cI, 300, .inl f1)), (n2, .inr (5, [.ref a2, .int l2])), (a2, .inl (cI, 300, .inl f2)), (n3, .inr (5, [.ref a3, .int l3])), (a3, .inl (cI, 300, .inl f3)), (r1, .inl (cI, 258, .inl fR1)), (r2, .inl (cI, 258, .inl fR2)), (r3, .inl (cI, 774, .inl fR3)), (r4, .inl (cI, 258, .inl fR4)), (r5, .inl (cI, 258, .inl fR5)), (r6, .inl (cI, 774, .inl fR6)), (oQ, .inr (6, [.ref oC, .ref oH, .ref oK, .ref oE, .ref nq, .ref np, .ref nv, .ref q1, .ref q2, .ref q3, .ref q4, .int pr])), (oE, .inr (8, [.ref oC, .ref oK, .int reE, .int laE, .int suE, .int leE])), (nq, .inr (5, [.ref aq, .int lq])), (aq, .inl (cI, 480, .inl fq)), (np, .inr (5, [.ref ap, .int lp])), (ap, .inl (cI, 300, .inl fp)), (nv, .inr (5, [.ref av, .int lv])), (av, .inl (cI, 300, .inl fv)), (q1, .inl (cI, 61, .inl fQ1)), (q2, .inl (cI, 61, .inl fQ2)), (q3, .inl (cI, 61, .inl fQ3)), (q4, .inl (cI, 61, .inl fQ4)), (oW, .inr (1, [.ref oC, .ref oK, .ref nw, .ref w1, .ref w2, .ref w3, .ref o7, .ref o8, .ref o9, .ref w4, .ref w5, .ref w6, .ref w7, .int ke, .int tl, .int fsh, .int wi, .int ri, .int fm, .int lm])), (nw, .inr (5, [.ref aw, .int lw])), (aw, .inl (cI, 800, .inl fw)), (o7, .inr (8, [.ref oC, .ref oK, .int re7, .int la7, .int su7, .int le7])), (o8, .inr (8, [.ref oC, .ref oK, .int re8, .int la8, .int su8, .int le8])), (o9, .inr (8, [.ref oC, .ref oK, .int re9, .int la9, .int su9, .int le9])), (w1, .inl (cI, 801, .inl fW1)), (w2, .inl (cI, 801, .inl fW2)), (w3, .inl (cI, 801, .inl fW3)), (w4, .inl (cI, 200, .inl fW4)), (w5, .inl (cI, 200, .inl fW5)), (w6, .inl (cI, 200, .inl fW6)), (w7, .inl (cI, 200, .inl fW7)), (oM, .inr (12, [.ref mT, .int zt, .ref mS, .ref mX, .int zp, .int zf, .ref mL, .ref mB, .ref mD, .ref m1, .ref m2, .int zh, .ref mR, .int zr, .ref x1, .ref x2, .ref x3, .int zc, .ref mH, .int zy, .int za, .int zb, .int zs, .int zq, .int zw_10, .int ze_10, .ref mY, .int zn, .ref mE, .int zm, .int zl, .ref mW, .int zk, .ref mO, .int zd, .ref y1, .ref y2, .ref y3, .ref y4, .ref mZ])), (mT, .inl (cI, 900, .inl eT)), (mS, .inl (cI, 21, .inl eS)), (mX, .inl (cI, 6300, .inl eX)), (mL, .inl (cI, 512, .inl eL)), (mB, .inl (cS, 131072, .inl eB)), (mD, .inl (cI, 2, .inl eD)), (m1, .inl (cI, 6, .inl e1)), (m2, .inl (cI, 6, .inl e2)), (mR, .inl (cI, 1548, .inl eR)), (x1, .inl (cI, 300, .inl ec1)), (x2, .inl (cI, 300, .inl ec2)), (x3, .inl (cI, 300, .inl ec3)), (mH, .inl (cI, 800, .inl eH)), (mY, .inl (cI, 2600, .inl eY)), (mE, .inl (cI, 2600, .inl eE)), (mW, .inl (cI, 300, .inl eW)), (mO, .inl (cI, 300, .inl eO)), (y1, .inl (cI, 61, .inl er1)), (y2, .inl (cI, 61, .inl er2)), (y3, .inl (cI, 61, .inl er3)), (y4, .inl (cI, 61, .inl er4)), (mZ, .inl (cI, 600, .inl eZ)), (oJ, .inl (cJ, 1, .inr (.inl fJ)))]) rfl
  clear hP hD hS hJ hPD9
  have hP := hPn
  have hD := hDn
  have hS := hSn
  clear hPn hDn hSn
  refine lv_pop hx hb dL_law_670 rfl ?_
  refine lv_goto (tgt := 1022) hx hb dL_law_671 (by decide) ?_
  refine W.widen (k := 90 + (nc + 1)) (n := 172225 + 6 * (nc + 1)) (by omega) (by omega) ?_
  exact kk fa_5 lT lL lM l4 l5 ft lB lH lK gn lG lR l1 l2 l3 pr reE laE suE leE lq lp lv ke tl fsh wi ri fm lm lw re7 la7 su7 le7 re8 la8 su8 le8 re9 la9 su9 le9 zt zp zf zh zr zc zy za zb zs zq zw_10 ze_10 zn zm zl zk zd fT fL fM f41 f42 f43 f51 f52 f53 fB fH1 fH2 fK1 fK2 fG1 fG2 f1 f2 f3 fR1 fR2 fR3 fR4 fR5 fR6 fq fp fv fQ1 fQ2 fQ3 fQ4 fw fW1 fW2 fW3 fW4 fW5 fW6 fW7 eT eS eX eL eB eD e1 e2 eR ec1 ec2 ec3 eH eY eE eW eO er1 er2 er3 er4 eZ fJ _ _ _ ⟨g_lT, g_lL, g_lM, g_lB, g_lH, g_lK, g_gn, g_lG, g_lR, g_l1, g_l2, g_l3, g_lq, g_lp, g_lv, g_ke, g_fsh, g_fm, g_lm, g_lw, g_zt, g_zp, g_zf, g_zh, g_zr, g_zc, g_zy, g_za, g_zb, g_zs, g_zq, g_zn, g_zm, g_zk, g_fG2, g_eS, g_eX, g_eL, g_eB, g_e1, g_e2, g_eY, g_eE, g_eW, g_eO, g_eZ, by omega, hrel, hrc, hr4, hr5, hb4, hb5, hlz, hH, hHe, hKz, hT, ho, hal, hCV, hVk, hVr, hTX, hCH, hvc, hfr, hfx, hfs⟩ hP hD hS (lv_sub hl [0, 1, 2, 3, 4] rfl)

set_option maxHeartbeats 40000000 in
set_option maxRecDepth 100000 in
theorem law_back {p : Program} {l : Launch} {e : Env} {s : State} {m : MethodId} {below : List Frame} {meth : Method} {c : Code} {dC : Nat → ClassId} {dI : Nat → Nat → Nat} {cI cS cJ : ClassId} {A : Nat → Prop} {b L : Nat} {xs : Nat → Int32} (C0 : lw_At p s m meth c b L xs) (hAd : A = fun q : Nat => s.heap.size ≤ q) (hK3 : va_K (dC, dI) vwCl [(cI, .int), (cS, .short), (cJ, .long)] s) {oX nT aT nL aL nM aM oC o4 a41 a42 a43 o5 a51 a52 a53 oP nB aB oH h1 h2 oK k1 k2 oG g1 g2 oR n1 a1 n2 a2 n3 a3 r1 r2 r3 r4 r5 r6 oQ oE nq aq np ap nv av q1 q2 q3 q4 oW nw aw o7 o8 o9 w1 w2 w3 w4 w5 w6 w7 oM mT mS mX mL mB mD m1 m2 mR x1 x2 x3 mH mY mE mW mO y1 y2 y3 y4 mZ oJ : Nat} {fa : Int32} {lT : Int32} {lL : Int32} {lM : Int32} {l4 : Int32} {l5 : Int32} {ft : Int32} {lB : Int32} {lH : Int32} {lK : Int32} {gn : Int32} {lG : Int32} {lR : Int32} {l1 : Int32} {l2 : Int32} {l3 : Int32} {pr : Int32} {reE : Int32} {laE : Int32} {suE : Int32} {leE : Int32} {lq : Int32} {lp : Int32} {lv : Int32} {ke : Int32} {tl : Int32} {fsh : Int32} {wi : Int32} {ri : Int32} {fm : Int32} {lm : Int32} {lw : Int32} {re7 : Int32} {la7 : Int32} {su7 : Int32} {le7 : Int32} {re8 : Int32} {la8 : Int32} {su8 : Int32} {le8 : Int32} {re9 : Int32} {la9 : Int32} {su9 : Int32} {le9 : Int32} {zt : Int32} {zp : Int32} {zf : Int32} {zh : Int32} {zr : Int32} {zc : Int32} {zy : Int32} {za : Int32} {zb : Int32} {zs : Int32} {zq : Int32} {zw : Int32} {ze : Int32} {zn : Int32} {zm : Int32} {zl : Int32} {zk : Int32} {zd : Int32} {fT : Nat → Int32} {fL : Nat → Int32} {fM : Nat → Int32} {f41 : Nat → Int32} {f42 : Nat → Int32} {f43 : Nat → Int32} {f51 : Nat → Int32} {f52 : Nat → Int32} {f53 : Nat → Int32} {fB : Nat → Int32} {fH1 : Nat → Int32} {fH2 : Nat → Int32} {fK1 : Nat → Int32} {fK2 : Nat → Int32} {fG1 : Nat → Int32} {fG2 : Nat → Int32} {f1 : Nat → Int32} {f2 : Nat → Int32} {f3 : Nat → Int32} {fR1 : Nat → Int32} {fR2 : Nat → Int32} {fR3 : Nat → Int32} {fR4 : Nat → Int32} {fR5 : Nat → Int32} {fR6 : Nat → Int32} {fq : Nat → Int32} {fp : Nat → Int32} {fv : Nat → Int32} {fQ1 : Nat → Int32} {fQ2 : Nat → Int32} {fQ3 : Nat → Int32} {fQ4 : Nat → Int32} {fw : Nat → Int32} {fW1 : Nat → Int32} {fW2 : Nat → Int32} {fW3 : Nat → Int32} {fW4 : Nat → Int32} {fW5 : Nat → Int32} {fW6 : Nat → Int32} {fW7 : Nat → Int32} {eT : Nat → Int32} {eS : Nat → Int32} {eX : Nat → Int32} {eL : Nat → Int32} {eB : Nat → Int32} {eD : Nat → Int32} {e1 : Nat → Int32} {e2 : Nat → Int32} {eR : Nat → Int32} {ec1 : Nat → Int32} {ec2 : Nat → Int32} {ec3 : Nat → Int32} {eH : Nat → Int32} {eY : Nat → Int32} {eE : Nat → Int32} {eW : Nat → Int32} {eO : Nat → Int32} {er1 : Nat → Int32} {er2 : Nat → Int32} {er3 : Nat → Int32} {er4 : Nat → Int32} {eZ : Nat → Int32} {fJ : Nat → Int64} {H : Heap} {locs : List Loc} {ls : Array Slot} {i : Int32} {nc : Nat} (hn : nc ≤ 511) (hi : 0 ≤ i.toInt ∧ i.toInt + 5 < (L : Int)) (hL : L ≤ 3072) (hI : INV nc lT lL lM l4 l5 lB lH lK gn lG lR l1 l2 l3 lq lp lv ke fsh wi ri fm lm lw zt zp zf zh zr zc zy za zb zs zq zn zm zk fT fL f41 f42 f43 f51 f52 f53 fH1 fH2 fK1 fK2 fG1 fG2 fW4 fW5 fW6 fW7 eT eS eX eL eB eD e1 e2 ec1 ec2 ec3 eH eY eE eW eO eZ) (hP : va_P (dC, dI) vwCl (WLD cI cS cJ oX nT aT nL aL nM aM oC o4 a41 a42 a43 o5 a51 a52 a53 oP nB aB oH h1 h2 oK k1 k2 oG g1 g2 oR n1 a1 n2 a2 n3 a3 r1 r2 r3 r4 r5 r6 oQ oE nq aq np ap nv av q1 q2 q3 q4 oW nw aw o7 o8 o9 w1 w2 w3 w4 w5 w6 w7 oM mT mS mX mL mB mD m1 m2 mR x1 x2 x3 mH mY mE mW mO y1 y2 y3 y4 mZ oJ fa lT lL lM l4 l5 ft lB lH lK gn lG lR l1 l2 l3 pr reE laE suE leE lq lp lv ke tl fsh wi ri fm lm lw re7 la7 su7 le7 re8 la8 su8 le8 re9 la9 su9 le9 zt zp zf zh zr zc zy za zb zs zq zw ze zn zm zl zk zd fT fL fM f41 f42 f43 f51 f52 f53 fB fH1 fH2 fK1 fK2 fG1 fG2 f1 f2 f3 fR1 fR2 fR3 fR4 fR5 fR6 fq fp fv fQ1 fQ2 fQ3 fQ4 fw fW1 fW2 fW3 fW4 fW5 fW6 fW7 eT eS eX eL eB eD e1 e2 eR ec1 ec2 ec3 eH eY eE eW eO er1 er2 er3 er4 eZ fJ) H) (hD : va_D A (WLD cI cS cJ oX nT aT nL aL nM aM oC o4 a41 a42 a43 o5 a51 a52 a53 oP nB aB oH h1 h2 oK k1 k2 oG g1 g2 oR n1 a1 n2 a2 n3 a3 r1 r2 r3 r4 r5 r6 oQ oE nq aq np ap nv av q1 q2 q3 q4 oW nw aw o7 o8 o9 w1 w2 w3 w4 w5 w6 w7 oM mT mS mX mL mB mD m1 m2 mR x1 x2 x3 mH mY mE mW mO y1 y2 y3 y4 mZ oJ fa lT lL lM l4 l5 ft lB lH lK gn lG lR l1 l2 l3 pr reE laE suE leE lq lp lv ke tl fsh wi ri fm lm lw re7 la7 su7 le7 re8 la8 su8 le8 re9 la9 su9 le9 zt zp zf zh zr zc zy za zb zs zq zw ze zn zm zl zk zd fT fL fM f41 f42 f43 f51 f52 f53 fB fH1 fH2 fK1 fK2 fG1 fG2 f1 f2 f3 fR1 fR2 fR3 fR4 fR5 fR6 fq fp fv fQ1 fQ2 fQ3 fQ4 fw fW1 fW2 fW3 fW4 fW5 fW6 fW7 eT eS eX eL eB eD e1 e2 eR ec1 ec2 ec3 eH eY eE eW eO er1 er2 er3 er4 eZ fJ)) (hS : va_S A s.heap H locs) (hl : lv_has ls 7 [(0, .ref b), (1, .ref oX), (2, .ref oM), (3, .ref oJ), (4, .int i)]) (kk : KK p l e s m below meth c dC dI cI cS cJ A b oX nT aT nL aL nM aM oC o4 a41 a42 a43 o5 a51 a52 a53 oP nB aB oH h1 h2 oK k1 k2 oG g1 g2 oR n1 a1 n2 a2 n3 a3 r1 r2 r3 r4 r5 r6 oQ oE nq aq np ap nv av q1 q2 q3 q4 oW nw aw o7 o8 o9 w1 w2 w3 w4 w5 w6 w7 oM mT mS mX mL mB mD m1 m2 mR x1 x2 x3 mH mY mE mW mO y1 y2 y3 y4 mZ oJ i nc) : W p l e room_1 s m #[Value.ref b] below meth c H locs (90 + nc) (172225 + 6 * nc) (lw_Z below #[Value.ref b] s) (F0 m 674 ls []) := by
  refine And.elim (fun hx hBC_0 => ?_) C0
  refine And.elim (fun hb hBC_1 => ?_) hBC_0
  refine And.elim (fun hr hBC_2 => ?_) hBC_1
  refine And.elim (fun hml hBC_3 => ?_) hBC_2
  refine And.elim (fun hown hBC_4 => ?_) hBC_3
  refine And.elim (fun hts0 hBC_5 => ?_) hBC_4
  refine And.elim (fun hX hBC_6 => ?_) hBC_5
  refine And.elim (fun hbl hBC_7 => ?_) hBC_6
  refine And.elim (fun hlocks hBC_8 => ?_) hBC_7
  have hgv := hBC_8
  clear hBC_0 hBC_1 hBC_2 hBC_3 hBC_4 hBC_5 hBC_6 hBC_7 hBC_8
  refine And.elim (fun g_lT hBI_0 => ?_) hI
  refine And.elim (fun g_lL hBI_1 => ?_) hBI_0
  refine And.elim (fun g_lM hBI_2 => ?_) hBI_1
  refine And.elim (fun g_lB hBI_3 => ?_) hBI_2
  refine And.elim (fun g_lH hBI_4 => ?_) hBI_3
  refine And.elim (fun g_lK hBI_5 => ?_) hBI_4
  refine And.elim (fun g_gn hBI_6 => ?_) hBI_5
  refine And.elim (fun g_lG hBI_7 => ?_) hBI_6
  refine And.elim (fun g_lR hBI_8 => ?_) hBI_7
  refine And.elim (fun g_l1 hBI_9 => ?_) hBI_8
  refine And.elim (fun g_l2 hBI_10 => ?_) hBI_9
  refine And.elim (fun g_l3 hBI_11 => ?_) hBI_10
  refine And.elim (fun g_lq hBI_12 => ?_) hBI_11
  refine And.elim (fun g_lp hBI_13 => ?_) hBI_12
  refine And.elim (fun g_lv hBI_14 => ?_) hBI_13
  refine And.elim (fun g_ke hBI_15 => ?_) hBI_14
  refine And.elim (fun g_fsh hBI_16 => ?_) hBI_15
  refine And.elim (fun g_fm hBI_17 => ?_) hBI_16
  refine And.elim (fun g_lm hBI_18 => ?_) hBI_17
  refine And.elim (fun g_lw hBI_19 => ?_) hBI_18
  refine And.elim (fun g_zt hBI_20 => ?_) hBI_19
  refine And.elim (fun g_zp hBI_21 => ?_) hBI_20
  refine And.elim (fun g_zf hBI_22 => ?_) hBI_21
  refine And.elim (fun g_zh hBI_23 => ?_) hBI_22
  refine And.elim (fun g_zr hBI_24 => ?_) hBI_23
  refine And.elim (fun g_zc hBI_25 => ?_) hBI_24
  refine And.elim (fun g_zy hBI_26 => ?_) hBI_25
  refine And.elim (fun g_za hBI_27 => ?_) hBI_26
  refine And.elim (fun g_zb hBI_28 => ?_) hBI_27
  refine And.elim (fun g_zs hBI_29 => ?_) hBI_28
  refine And.elim (fun g_zq hBI_30 => ?_) hBI_29
  refine And.elim (fun g_zn hBI_31 => ?_) hBI_30
  refine And.elim (fun g_zm hBI_32 => ?_) hBI_31
  refine And.elim (fun g_zk hBI_33 => ?_) hBI_32
  refine And.elim (fun g_fG2 hBI_34 => ?_) hBI_33
  refine And.elim (fun g_eS hBI_35 => ?_) hBI_34
  refine And.elim (fun g_eX hBI_36 => ?_) hBI_35
  refine And.elim (fun g_eL hBI_37 => ?_) hBI_36
  refine And.elim (fun g_eB hBI_38 => ?_) hBI_37
  refine And.elim (fun g_e1 hBI_39 => ?_) hBI_38
  refine And.elim (fun g_e2 hBI_40 => ?_) hBI_39
  refine And.elim (fun g_eY hBI_41 => ?_) hBI_40
  refine And.elim (fun g_eE hBI_42 => ?_) hBI_41
  refine And.elim (fun g_eW hBI_43 => ?_) hBI_42
  refine And.elim (fun g_eO hBI_44 => ?_) hBI_43
  refine And.elim (fun g_eZ hBI_45 => ?_) hBI_44
  refine And.elim (fun hzn hBI_46 => ?_) hBI_45
  refine And.elim (fun hrel hBI_47 => ?_) hBI_46
  refine And.elim (fun hrc hBI_48 => ?_) hBI_47
  refine And.elim (fun hr4 hBI_49 => ?_) hBI_48
  refine And.elim (fun hr5 hBI_50 => ?_) hBI_49
  refine And.elim (fun hb4 hBI_51 => ?_) hBI_50
  refine And.elim (fun hb5 hBI_52 => ?_) hBI_51
  refine And.elim (fun hlz hBI_53 => ?_) hBI_52
  refine And.elim (fun hH hBI_54 => ?_) hBI_53
  refine And.elim (fun hHe hBI_55 => ?_) hBI_54
  refine And.elim (fun hKz hBI_56 => ?_) hBI_55
  refine And.elim (fun hT hBI_57 => ?_) hBI_56
  refine And.elim (fun ho hBI_58 => ?_) hBI_57
  refine And.elim (fun hal hBI_59 => ?_) hBI_58
  refine And.elim (fun hCV hBI_60 => ?_) hBI_59
  refine And.elim (fun hVk hBI_61 => ?_) hBI_60
  refine And.elim (fun hVr hBI_62 => ?_) hBI_61
  refine And.elim (fun hTX hBI_63 => ?_) hBI_62
  refine And.elim (fun hCH hBI_64 => ?_) hBI_63
  refine And.elim (fun hvc hBI_65 => ?_) hBI_64
  refine And.elim (fun hfr hBI_66 => ?_) hBI_65
  refine And.elim (fun hfx hBI_67 => ?_) hBI_66
  have hfs := hBI_67
  clear hI hBI_0 hBI_1 hBI_2 hBI_3 hBI_4 hBI_5 hBI_6 hBI_7 hBI_8 hBI_9 hBI_10 hBI_11 hBI_12 hBI_13 hBI_14 hBI_15 hBI_16 hBI_17 hBI_18 hBI_19 hBI_20 hBI_21 hBI_22 hBI_23 hBI_24 hBI_25 hBI_26 hBI_27 hBI_28 hBI_29 hBI_30 hBI_31 hBI_32 hBI_33 hBI_34 hBI_35 hBI_36 hBI_37 hBI_38 hBI_39 hBI_40 hBI_41 hBI_42 hBI_43 hBI_44 hBI_45 hBI_46 hBI_47 hBI_48 hBI_49 hBI_50 hBI_51 hBI_52 hBI_53 hBI_54 hBI_55 hBI_56 hBI_57 hBI_58 hBI_59 hBI_60 hBI_61 hBI_62 hBI_63 hBI_64 hBI_65 hBI_66 hBI_67
  have hK : va_K (dC, dI) vwCl [(cI, .int), (cS, .short)] s := hK3.sub [0, 1] rfl
  have hown : s.vm.findClass RL = some m.cls := hown
  have hts := hts0
  have hcf := k_cf hx hb hml hown hts
  have hi9 : 0 ≤ i.toInt ∧ i.toInt ≤ 3066 := by omega
  have hzs : zs.toInt ≤ 1000000 := by omega
  have hA : ∀ q : Nat, s.heap.size ≤ q → A q := fun q h => by rw [hAd]; exact h
  have hbA : ¬ A b := by rw [hAd]; exact Nat.not_le.mpr hbl
  have hP : va_P (dC, dI) vwCl [(oX, .inr (11, [.ref nT, .ref nL, .ref nM, .ref oC, .ref oP, .ref oH, .ref oK, .ref oG, .ref oR, .ref oQ, .ref oW, .int fa])), (nT, .inr (5, [.ref aT, .int lT])), (aT, .inl (cI, 900, .inl fT)), (nL, .inr (5, [.ref aL, .int lL])), (aL, .inl (cI, 300, .inl fL)), (nM, .inr (5, [.ref aM, .int lM])), (aM, .inl (cI, 300, .inl fM)), (oC, .inr (2, [.ref o4, .ref o5])), (o4, .inr (10, [.ref a41, .ref a42, .ref a43, .int l4])), (a41, .inl (cI, 256, .inl f41)), (a42, .inl (cI, 512, .inl f42)), (a43, .inl (cI, 512, .inl f43)), (o5, .inr (10, [.ref a51, .ref a52, .ref a53, .int l5])), (a51, .inl (cI, 256, .inl f51)), (a52, .inl (cI, 512, .inl f52)), (a53, .inl (cI, 512, .inl f53)), (oP, .inr (7, [.ref oC, .ref nB, .int ft])), (nB, .inr (5, [.ref aB, .int lB])), (aB, .inl (cI, 2400, .inl fB)), (oH, .inr (4, [.ref oP, .ref h1, .ref h2, .int lH])), (h1, .inl (cI, 6, .inl fH1)), (h2, .inl (cI, 6, .inl fH2)), (oK, .inr (3, [.ref k1, .ref k2, .int lK])), (k1, .inl (cI, 1024, .inl fK1)), (k2, .inl (cI, 1024, .inl fK2)), (oG, .inr (0, [.ref g1, .ref g2, .int gn, .int lG])), (g1, .inl (cI, 6000, .inl fG1)), (g2, .inl (cI, 20, .inl fG2)), (oR, .inr (9, [.ref oH, .ref oK, .ref n1, .ref n2, .ref n3, .ref r1, .ref r2, .ref r3, .ref r4, .ref r5, .ref r6, .int lR])), (n1, .inr (5, [.ref a1, .int l1])), (a1, .inl (cI, 300, .inl f1)), (n2, .inr (5, [.ref a2, .int l2])), (a2, .inl (cI, 300, .inl f2)), (n3, .inr (5, [.ref a3, .int l3])), (a3, .inl (cI, 300, .inl f3)), (r1, .inl (cI, 258, .inl fR1)), (r2, .inl (cI, 258, .inl fR2)), (r3, .inl (cI, 774, .inl fR3)), (r4, .inl (cI, 258, .inl fR4)), (r5, .inl (cI, 258, .inl fR5)), (r6, .inl (cI, 774, .inl fR6)), (oQ, .inr (6, [.ref oC, .ref oH, .ref oK, .ref oE, .ref nq, .ref np, .ref nv, .ref q1, .ref q2, .ref q3, .ref q4, .int pr])), (oE, .inr (8, [.ref oC, .ref oK, .int reE, .int laE, .int suE, .int leE])), (nq, .inr (5, [.ref aq, .int lq])), (aq, .inl (cI, 480, .inl fq)), (np, .inr (5, [.ref ap, .int lp])), (ap, .inl (cI, 300, .inl fp)), (nv, .inr (5, [.ref av, .int lv])), (av, .inl (cI, 300, .inl fv)), (q1, .inl (cI, 61, .inl fQ1)), (q2, .inl (cI, 61, .inl fQ2)), (q3, .inl (cI, 61, .inl fQ3)), (q4, .inl (cI, 61, .inl fQ4)), (oW, .inr (1, [.ref oC, .ref oK, .ref nw, .ref w1, .ref w2, .ref w3, .ref o7, .ref o8, .ref o9, .ref w4, .ref w5, .ref w6, .ref w7, .int ke, .int tl, .int fsh, .int wi, .int ri, .int fm, .int lm])), (nw, .inr (5, [.ref aw, .int lw])), (aw, .inl (cI, 800, .inl fw)), (o7, .inr (8, [.ref oC, .ref oK, .int re7, .int la7, .int su7, .int le7])), (o8, .inr (8, [.ref oC, .ref oK, .int re8, .int la8, .int su8, .int le8])), (o9, .inr (8, [.ref oC, .ref oK, .int re9, .int la9, .int su9, .int le9])), (w1, .inl (cI, 801, .inl fW1)), (w2, .inl (cI, 801, .inl fW2)), (w3, .inl (cI, 801, .inl fW3)), (w4, .inl (cI, 200, .inl fW4)), (w5, .inl (cI, 200, .inl fW5)), (w6, .inl (cI, 200, .inl fW6)), (w7, .inl (cI, 200, .inl fW7)), (oM, .inr (12, [.ref mT, .int zt, .ref mS, .ref mX, .int zp, .int zf, .ref mL, .ref mB, .ref mD, .ref m1, .ref m2, .int zh, .ref mR, .int zr, .ref x1, .ref x2, .ref x3, .int zc, .ref mH, .int zy, .int za, .int zb, .int zs, .int zq, .int zw, .int ze, .ref mY, .int zn, .ref mE, .int zm, .int zl, .ref mW, .int zk, .ref mO, .int zd, .ref y1, .ref y2, .ref y3, .ref y4, .ref mZ])), (mT, .inl (cI, 900, .inl eT)), (mS, .inl (cI, 21, .inl eS)), (mX, .inl (cI, 6300, .inl eX)), (mL, .inl (cI, 512, .inl eL)), (mB, .inl (cS, 131072, .inl eB)), (mD, .inl (cI, 2, .inl eD)), (m1, .inl (cI, 6, .inl e1)), (m2, .inl (cI, 6, .inl e2)), (mR, .inl (cI, 1548, .inl eR)), (x1, .inl (cI, 300, .inl ec1)), (x2, .inl (cI, 300, .inl ec2)), (x3, .inl (cI, 300, .inl ec3)), (mH, .inl (cI, 800, .inl eH)), (mY, .inl (cI, 2600, .inl eY)), (mE, .inl (cI, 2600, .inl eE)), (mW, .inl (cI, 300, .inl eW)), (mO, .inl (cI, 300, .inl eO)), (y1, .inl (cI, 61, .inl er1)), (y2, .inl (cI, 61, .inl er2)), (y3, .inl (cI, 61, .inl er3)), (y4, .inl (cI, 61, .inl er4)), (mZ, .inl (cI, 600, .inl eZ)), (oJ, .inl (cJ, 1, .inr (.inl fJ)))] H := hP
  have hD : va_D A [(oX, .inr (11, [.ref nT, .ref nL, .ref nM, .ref oC, .ref oP, .ref oH, .ref oK, .ref oG, .ref oR, .ref oQ, .ref oW, .int fa])), (nT, .inr (5, [.ref aT, .int lT])), (aT, .inl (cI, 900, .inl fT)), (nL, .inr (5, [.ref aL, .int lL])), (aL, .inl (cI, 300, .inl fL)), (nM, .inr (5, [.ref aM, .int lM])), (aM, .inl (cI, 300, .inl fM)), (oC, .inr (2, [.ref o4, .ref o5])), (o4, .inr (10, [.ref a41, .ref a42, .ref a43, .int l4])), (a41, .inl (cI, 256, .inl f41)), (a42, .inl (cI, 512, .inl f42)), (a43, .inl (cI, 512, .inl f43)), (o5, .inr (10, [.ref a51, .ref a52, .ref a53, .int l5])), (a51, .inl (cI, 256, .inl f51)), (a52, .inl (cI, 512, .inl f52)), (a53, .inl (cI, 512, .inl f53)), (oP, .inr (7, [.ref oC, .ref nB, .int ft])), (nB, .inr (5, [.ref aB, .int lB])), (aB, .inl (cI, 2400, .inl fB)), (oH, .inr (4, [.ref oP, .ref h1, .ref h2, .int lH])), (h1, .inl (cI, 6, .inl fH1)), (h2, .inl (cI, 6, .inl fH2)), (oK, .inr (3, [.ref k1, .ref k2, .int lK])), (k1, .inl (cI, 1024, .inl fK1)), (k2, .inl (cI, 1024, .inl fK2)), (oG, .inr (0, [.ref g1, .ref g2, .int gn, .int lG])), (g1, .inl (cI, 6000, .inl fG1)), (g2, .inl (cI, 20, .inl fG2)), (oR, .inr (9, [.ref oH, .ref oK, .ref n1, .ref n2, .ref n3, .ref r1, .ref r2, .ref r3, .ref r4, .ref r5, .ref r6, .int lR])), (n1, .inr (5, [.ref a1, .int l1])), (a1, .inl (cI, 300, .inl f1)), (n2, .inr (5, [.ref a2, .int l2])), (a2, .inl (cI, 300, .inl f2)), (n3, .inr (5, [.ref a3, .int l3])), (a3, .inl (cI, 300, .inl f3)), (r1, .inl (cI, 258, .inl fR1)), (r2, .inl (cI, 258, .inl fR2)), (r3, .inl (cI, 774, .inl fR3)), (r4, .inl (cI, 258, .inl fR4)), (r5, .inl (cI, 258, .inl fR5)), (r6, .inl (cI, 774, .inl fR6)), (oQ, .inr (6, [.ref oC, .ref oH, .ref oK, .ref oE, .ref nq, .ref np, .ref nv, .ref q1, .ref q2, .ref q3, .ref q4, .int pr])), (oE, .inr (8, [.ref oC, .ref oK, .int reE, .int laE, .int suE, .int leE])), (nq, .inr (5, [.ref aq, .int lq])), (aq, .inl (cI, 480, .inl fq)), (np, .inr (5, [.ref ap, .int lp])), (ap, .inl (cI, 300, .inl fp)), (nv, .inr (5, [.ref av, .int lv])), (av, .inl (cI, 300, .inl fv)), (q1, .inl (cI, 61, .inl fQ1)), (q2, .inl (cI, 61, .inl fQ2)), (q3, .inl (cI, 61, .inl fQ3)), (q4, .inl (cI, 61, .inl fQ4)), (oW, .inr (1, [.ref oC, .ref oK, .ref nw, .ref w1, .ref w2, .ref w3, .ref o7, .ref o8, .ref o9, .ref w4, .ref w5, .ref w6, .ref w7, .int ke, .int tl, .int fsh, .int wi, .int ri, .int fm, .int lm])), (nw, .inr (5, [.ref aw, .int lw])), (aw, .inl (cI, 800, .inl fw)), (o7, .inr (8, [.ref oC, .ref oK, .int re7, .int la7, .int su7, .int le7])), (o8, .inr (8, [.ref oC, .ref oK, .int re8, .int la8, .int su8, .int le8])), (o9, .inr (8, [.ref oC, .ref oK, .int re9, .int la9, .int su9, .int le9])), (w1, .inl (cI, 801, .inl fW1)), (w2, .inl (cI, 801, .inl fW2)), (w3, .inl (cI, 801, .inl fW3)), (w4, .inl (cI, 200, .inl fW4)), (w5, .inl (cI, 200, .inl fW5)), (w6, .inl (cI, 200, .inl fW6)), (w7, .inl (cI, 200, .inl fW7)), (oM, .inr (12, [.ref mT, .int zt, .ref mS, .ref mX, .int zp, .int zf, .ref mL, .ref mB, .ref mD, .ref m1, .ref m2, .int zh, .ref mR, .int zr, .ref x1, .ref x2, .ref x3, .int zc, .ref mH, .int zy, .int za, .int zb, .int zs, .int zq, .int zw, .int ze, .ref mY, .int zn, .ref mE, .int zm, .int zl, .ref mW, .int zk, .ref mO, .int zd, .ref y1, .ref y2, .ref y3, .ref y4, .ref mZ])), (mT, .inl (cI, 900, .inl eT)), (mS, .inl (cI, 21, .inl eS)), (mX, .inl (cI, 6300, .inl eX)), (mL, .inl (cI, 512, .inl eL)), (mB, .inl (cS, 131072, .inl eB)), (mD, .inl (cI, 2, .inl eD)), (m1, .inl (cI, 6, .inl e1)), (m2, .inl (cI, 6, .inl e2)), (mR, .inl (cI, 1548, .inl eR)), (x1, .inl (cI, 300, .inl ec1)), (x2, .inl (cI, 300, .inl ec2)), (x3, .inl (cI, 300, .inl ec3)), (mH, .inl (cI, 800, .inl eH)), (mY, .inl (cI, 2600, .inl eY)), (mE, .inl (cI, 2600, .inl eE)), (mW, .inl (cI, 300, .inl eW)), (mO, .inl (cI, 300, .inl eO)), (y1, .inl (cI, 61, .inl er1)), (y2, .inl (cI, 61, .inl er2)), (y3, .inl (cI, 61, .inl er3)), (y4, .inl (cI, 61, .inl er4)), (mZ, .inl (cI, 600, .inl eZ)), (oJ, .inl (cJ, 1, .inr (.inl fJ)))] := hD
  replace g_lT := hid g_lT
  replace g_lM := hid g_lM
  replace g_lB := hid g_lB
  replace g_lR := hid g_lR
  replace g_l1 := hid g_l1
  replace g_l2 := hid g_l2
  replace g_l3 := hid g_l3
  replace g_lq := hid g_lq
  replace g_lp := hid g_lp
  replace g_lv := hid g_lv
  replace g_fm := hid g_fm
  replace g_lm := hid g_lm
  replace g_lw := hid g_lw
  replace g_zt := hid g_zt
  replace g_zr := hid g_zr
  replace g_zn := hid g_zn
  replace g_zm := hid g_zm
  replace g_zk := hid g_zk
  refine lv_aload_n hx hb dL_law_674 rfl (lv_at hl 1 rfl) ?_
  refine kV_i (rest := []) (q0 := 0) (ci := 11) hcf (f_X11_back l dC dI cI cS H.size oX nT nL nM oC oP oH oK oG oR oQ oW aL g1 g2 nw w1 w2 w3 o7 o8 o9 w4 w5 w6 w7 fa lL fL gn lG fG1 fG2 ke tl fsh wi ri fm lm (g_lL) (g_gn) (g_lG) (g_fG2) (g_ke) (g_fsh) (g_fm) (g_lm)) kc_X11_back gL_law_X11_back rfl rfl rfl ⟨Nat.le_of_ble_eq_true rfl, Nat.le_of_ble_eq_true rfl⟩ kX_t hK hP hD hS hA (posT mk_24 0) (posF mk_24 0) (kC_of mk_24 rfl rfl) (by decide +kernel) rfl rfl rfl hl rfl (Nat.le_of_ble_eq_true rfl) dL_law_675 ⟨kfit1 hn (Nat.le_of_ble_eq_true rfl), ksix1 hn (Nat.le_of_ble_eq_true rfl)⟩ (fun r_1 H locs hB hJ hSn => ?_)
  refine Exists.elim hB (fun lL_1 hB1_0 => ?_)
  refine Exists.elim hB1_0 (fun fL_1 hB1_1 => ?_)
  refine Exists.elim hB1_1 (fun fsh_1 hB1_2 => ?_)
  refine Exists.elim hB1_2 (fun gn_1 hB1_3 => ?_)
  refine Exists.elim hB1_3 (fun lG_1 hB1_4 => ?_)
  refine And.elim (fun hPD9 hB1_5 => ?_) hB1_4
  refine And.elim (fun hf1_0 hB1_6 => ?_) hB1_5
  refine And.elim (fun hf1_1 hB1_7 => ?_) hB1_6
  refine And.elim (fun hf1_2 hB1_8 => ?_) hB1_7
  refine And.elim (fun hf1_3 hB1_9 => ?_) hB1_8
  refine And.elim (fun hf1_4 hB1_10 => ?_) hB1_9
  have hf1_5 := hB1_10
  clear hB hB1_0 hB1_1 hB1_2 hB1_3 hB1_4 hB1_5 hB1_6 hB1_7 hB1_8 hB1_9 hB1_10
  obtain ⟨hPn, hDn⟩ := kJi (m := mk_24) hJ rfl hPD9.1 hPD9.2 (wn := [(oX, .inr (11, [.ref nT, .ref nL, .ref nM, .ref oC, .ref oP, .ref oH, .ref oK, .ref oG, .ref oR, .ref oQ, .ref oW, .int fa])), (nT, .inr (5, [.ref aT, .int lT])), (aT, .inl (cI, 900, .inl fT)), (nL, .inr (5, [.ref aL, .int lL_1])), (aL, .inl (cI, 300, .inl fL_1)), (nM, .inr (5, [.ref aM, .int lM])), (aM, .inl (cI, 300, .inl fM)), (oC, .inr (2, [.ref o4, .ref o5])), (o4, .inr (10, [.ref a41, .ref a42, .ref a43, .int l4])), (a41, .inl (cI, 256, .inl f41)), (a42, .inl (cI, 512, .inl f42)), (a43, .inl (cI, 512, .inl f43)), (o5, .inr (10, [.ref a51, .ref a52, .ref a53, .int l5])), (a51, .inl (cI, 256, .inl f51)), (a52, .inl (cI, 512, .inl f52)), (a53, .inl (cI, 512, .inl f53)), (oP, .inr (7, [.ref oC, .ref nB, .int ft])), (nB, .inr (5, [.ref aB, .int lB])), (aB, .inl (cI, 2400, .inl fB)), (oH, .inr (4, [.ref oP, .ref h1, .ref h2, .int lH])), (h1, .inl (cI, 6, .inl fH1)), (h2, .inl (cI, 6, .inl fH2)), (oK, .inr (3, [.ref k1, .ref k2, .int lK])), (k1, .inl (cI, 1024, .inl fK1)), (k2, .inl (cI, 1024, .inl fK2)), (oG, .inr (0, [.ref g1, .ref g2, .int gn_1, .int lG_1])), (g1, .inl (cI, 6000, .inl fG1)), (g2, .inl (cI, 20, .inl fG2)), (oR, .inr (9, [.ref oH, .ref oK, .ref n1, .ref n2, .ref n3, .ref r1, .ref r2, .ref r3, .ref r4, .ref r5, .ref r6, .int lR])), (n1, .inr (5, [.ref a1, .int l1])), (a1, .inl (cI, 300, .inl f1)), (n2, .inr (5, [.ref a2, .int l2])), (a2, .inl (cI, 300, .inl f2)), (n3, .inr (5, [.ref a3, .int l3])), (a3, .inl (cI, 300, .inl f3)), (r1, .inl (cI, 258, .inl fR1)), (r2, .inl (cI, 258, .inl fR2)), (r3, .inl (cI, 774, .inl fR3)), (r4, .inl (cI, 258, .inl fR4)), (r5, .inl (cI, 258, .inl fR5)), (r6, .inl (cI, 774, .inl fR6)), (oQ, .inr (6, [.ref oC, .ref oH, .ref oK, .ref oE, .ref nq, .ref np, .ref nv, .ref q1, .ref q2, .ref q3, .ref q4, .int pr])), (oE, .inr (8, [.ref oC, .ref oK, .int reE, .int laE, .int suE, .int leE])), (nq, .inr (5, [.ref aq, .int lq])), (aq, .inl (cI, 480, .inl fq)), (np, .inr (5, [.ref ap, .int lp])), (ap, .inl (cI, 300, .inl fp)), (nv, .inr (5, [.ref av, .int lv])), (av, .inl (cI, 300, .inl fv)), (q1, .inl (cI, 61, .inl fQ1)), (q2, .inl (cI, 61, .inl fQ2)), (q3, .inl (cI, 61, .inl fQ3)), (q4, .inl (cI, 61, .inl fQ4)), (oW, .inr (1, [.ref oC, .ref oK, .ref nw, .ref w1, .ref w2, .ref w3, .ref o7, .ref o8, .ref o9, .ref w4, .ref w5, .ref w6, .ref w7, .int ke, .int tl, .int fsh_1, .int wi, .int ri, .int fm, .int lm])), (nw, .inr (5, [.ref aw, .int lw])), (aw, .inl (cI, 800, .inl fw)), (o7, .inr (8, [.ref oC, .ref oK, .int re7, .int la7, .int su7, .int le7])), (o8, .inr (8, [.ref oC, .ref oK, .int re8, .int la8, .int su8, .int le8])), (o9, .inr (8, [.ref oC, .ref oK, .int re9, .int la9, .int su9, .int le9])), (w1, .inl (cI, 801, .inl fW1)), (w2, .inl (cI, 801, .inl fW2)), (w3, .inl (cI, 801, .inl fW3)), (w4, .inl (cI, 200, .inl fW4)), (w5, .inl (cI, 200, .inl fW5)), (w6, .inl (cI, 200, .inl fW6)), (w7, .inl (cI, 200, .inl fW7)), (oM, .inr (12, [.ref mT, .int zt, .ref mS, .ref mX, .int zp, .int zf, .ref mL, .ref mB, .ref mD, .ref m1, .ref m2, .int zh, .ref mR, .int zr, .ref x1, .ref x2, .ref x3, .int zc, .ref mH, .int zy, .int za, .int zb, .int zs, .int zq, .int zw, .int ze, .ref mY, .int zn, .ref mE, .int zm, .int zl, .ref mW, .int zk, .ref mO, .int zd, .ref y1, .ref y2, .ref y3, .ref y4, .ref mZ])), (mT, .inl (cI, 900, .inl eT)), (mS, .inl (cI, 21, .inl eS)), (mX, .inl (cI, 6300, .inl eX)), (mL, .inl (cI, 512, .inl eL)), (mB, .inl (cS, 131072, .inl eB)), (mD, .inl (cI, 2, .inl eD)), (m1, .inl (cI, 6, .inl e1)), (m2, .inl (cI, 6, .inl e2)), (mR, .inl (cI, 1548, .inl eR)), (x1, .inl (cI, 300, .inl ec1)), (x2, .inl (cI, 300, .inl ec2)), (x3, .inl (cI, 300, .inl ec3)), (mH, .inl (cI, 800, .inl eH)), (mY, .inl (cI, 2600, .inl eY)), (mE, .inl (cI, 2600, .inl eE)), (mW, .inl (cI, 300, .inl eW)), (mO, .inl (cI, 300, .inl eO)), (y1, .inl (cI, 61, .inl er1)), (y2, .inl (cI, 61, .inl er2)), (y3, .inl (cI, 61, .inl er3)), (y4, .inl (cI, 61, .inl er4)), (mZ, .inl (cI, 600, .inl eZ)), (oJ, .inl (cJ, 1, .inr (.inl fJ)))]) rfl
  clear hP hD hS hJ hPD9
  have hP := hPn
  have hD := hDn
  have hS := hSn
  clear hPn hDn hSn
  refine lv_pop hx hb dL_law_678 rfl ?_
  refine lv_aload_n hx hb dL_law_679 rfl (lv_at hl 2 rfl) ?_
  refine kV_i (rest := []) (q0 := 0) (ci := 12) hcf (f_X12_back l dC dI cI cS H.size oM mT mS mX mL mB mD m1 m2 mR x1 x2 x3 mH mY mE mW mO y1 y2 y3 y4 mZ zt zp zf zh zr zc zy za zb zs zq zw ze zn zm zl zk zd eS eX (g_zt) (g_zp) (g_zf) (g_zh) (g_zr) (g_zc) (g_zy) (g_za) (g_zb) (g_zs) (g_zq) (g_zn) (g_zm) (g_zk) (g_eS) (g_eX) (by omega)) kc_X12_back gL_law_X12_back rfl rfl rfl ⟨Nat.le_of_ble_eq_true rfl, Nat.le_of_ble_eq_true rfl⟩ kX_t hK hP hD hS hA (posT mk_25 0) (posF mk_25 0) (kC_of mk_25 rfl rfl) (by decide +kernel) rfl rfl rfl hl rfl (Nat.le_of_ble_eq_true rfl) dL_law_680 ⟨kfit2 hn (Nat.le_of_ble_eq_true rfl), ksix2 hn (Nat.le_of_ble_eq_true rfl)⟩ (fun r_2 H locs hB hJ hSn => ?_)
  refine Exists.elim hB (fun ze_2 hB2_0 => ?_)
  refine Exists.elim hB2_0 (fun zp_2 hB2_1 => ?_)
  refine Exists.elim hB2_1 (fun eS_2 hB2_2 => ?_)
  refine Exists.elim hB2_2 (fun eX_2 hB2_3 => ?_)
  refine Exists.elim hB2_3 (fun zs_2 hB2_4 => ?_)
  refine And.elim (fun hPD9 hB2_5 => ?_) hB2_4
  refine And.elim (fun hf2_0 hB2_6 => ?_) hB2_5
  refine And.elim (fun hf2_1 hB2_7 => ?_) hB2_6
  refine And.elim (fun hf2_2 hB2_8 => ?_) hB2_7
  refine And.elim (fun hf2_3 hB2_9 => ?_) hB2_8
  refine And.elim (fun hf2_4 hB2_10 => ?_) hB2_9
  refine And.elim (fun hf2_5 hB2_11 => ?_) hB2_10
  refine And.elim (fun hf2_6 hB2_12 => ?_) hB2_11
  have hf2_7 := hB2_12
  clear hB hB2_0 hB2_1 hB2_2 hB2_3 hB2_4 hB2_5 hB2_6 hB2_7 hB2_8 hB2_9 hB2_10 hB2_11 hB2_12
  obtain ⟨hPn, hDn⟩ := kJi (m := mk_25) hJ rfl hPD9.1 hPD9.2 (wn := [(oX, .inr (11, [.ref nT, .ref nL, .ref nM, .ref oC, .ref oP, .ref oH, .ref oK, .ref oG, .ref oR, .ref oQ, .ref oW, .int fa])), (nT, .inr (5, [.ref aT, .int lT])), (aT, .inl (cI, 900, .inl fT)), (nL, .inr (5, [.ref aL, .int lL_1])), (aL, .inl (cI, 300, .inl fL_1)), (nM, .inr (5, [.ref aM, .int lM])), (aM, .inl (cI, 300, .inl fM)), (oC, .inr (2, [.ref o4, .ref o5])), (o4, .inr (10, [.ref a41, .ref a42, .ref a43, .int l4])), (a41, .inl (cI, 256, .inl f41)), (a42, .inl (cI, 512, .inl f42)), (a43, .inl (cI, 512, .inl f43)), (o5, .inr (10, [.ref a51, .ref a52, .ref a53, .int l5])), (a51, .inl (cI, 256, .inl f51)), (a52, .inl (cI, 512, .inl f52)), (a53, .inl (cI, 512, .inl f53)), (oP, .inr (7, [.ref oC, .ref nB, .int ft])), (nB, .inr (5, [.ref aB, .int lB])), (aB, .inl (cI, 2400, .inl fB)), (oH, .inr (4, [.ref oP, .ref h1, .ref h2, .int lH])), (h1, .inl (cI, 6, .inl fH1)), (h2, .inl (cI, 6, .inl fH2)), (oK, .inr (3, [.ref k1, .ref k2, .int lK])), (k1, .inl (cI, 1024, .inl fK1)), (k2, .inl (cI, 1024, .inl fK2)), (oG, .inr (0, [.ref g1, .ref g2, .int gn_1, .int lG_1])), (g1, .inl (cI, 6000, .inl fG1)), (g2, .inl (cI, 20, .inl fG2)), (oR, .inr (9, [.ref oH, .ref oK, .ref n1, .ref n2, .ref n3, .ref r1, .ref r2, .ref r3, .ref r4, .ref r5, .ref r6, .int lR])), (n1, .inr (5, [.ref a1, .int l1])), (a1, .inl (cI, 300, .inl f1)), (n2, .inr (5, [.ref a2, .int l2])), (a2, .inl (cI, 300, .inl f2)), (n3, .inr (5, [.ref a3, .int l3])), (a3, .inl (cI, 300, .inl f3)), (r1, .inl (cI, 258, .inl fR1)), (r2, .inl (cI, 258, .inl fR2)), (r3, .inl (cI, 774, .inl fR3)), (r4, .inl (cI, 258, .inl fR4)), (r5, .inl (cI, 258, .inl fR5)), (r6, .inl (cI, 774, .inl fR6)), (oQ, .inr (6, [.ref oC, .ref oH, .ref oK, .ref oE, .ref nq, .ref np, .ref nv, .ref q1, .ref q2, .ref q3, .ref q4, .int pr])), (oE, .inr (8, [.ref oC, .ref oK, .int reE, .int laE, .int suE, .int leE])), (nq, .inr (5, [.ref aq, .int lq])), (aq, .inl (cI, 480, .inl fq)), (np, .inr (5, [.ref ap, .int lp])), (ap, .inl (cI, 300, .inl fp)), (nv, .inr (5, [.ref av, .int lv])), (av, .inl (cI, 300, .inl fv)), (q1, .inl (cI, 61, .inl fQ1)), (q2, .inl (cI, 61, .inl fQ2)), (q3, .inl (cI, 61, .inl fQ3)), (q4, .inl (cI, 61, .inl fQ4)), (oW, .inr (1, [.ref oC, .ref oK, .ref nw, .ref w1, .ref w2, .ref w3, .ref o7, .ref o8, .ref o9, .ref w4, .ref w5, .ref w6, .ref w7, .int ke, .int tl, .int fsh_1, .int wi, .int ri, .int fm, .int lm])), (nw, .inr (5, [.ref aw, .int lw])), (aw, .inl (cI, 800, .inl fw)), (o7, .inr (8, [.ref oC, .ref oK, .int re7, .int la7, .int su7, .int le7])), (o8, .inr (8, [.ref oC, .ref oK, .int re8, .int la8, .int su8, .int le8])), (o9, .inr (8, [.ref oC, .ref oK, .int re9, .int la9, .int su9, .int le9])), (w1, .inl (cI, 801, .inl fW1)), (w2, .inl (cI, 801, .inl fW2)), (w3, .inl (cI, 801, .inl fW3)), (w4, .inl (cI, 200, .inl fW4)), (w5, .inl (cI, 200, .inl fW5)), (w6, .inl (cI, 200, .inl fW6)), (w7, .inl (cI, 200, .inl fW7)), (oM, .inr (12, [.ref mT, .int zt, .ref mS, .ref mX, .int zp_2, .int zf, .ref mL, .ref mB, .ref mD, .ref m1, .ref m2, .int zh, .ref mR, .int zr, .ref x1, .ref x2, .ref x3, .int zc, .ref mH, .int zy, .int za, .int zb, .int zs_2, .int zq, .int zw, .int ze_2, .ref mY, .int zn, .ref mE, .int zm, .int zl, .ref mW, .int zk, .ref mO, .int zd, .ref y1, .ref y2, .ref y3, .ref y4, .ref mZ])), (mT, .inl (cI, 900, .inl eT)), (mS, .inl (cI, 21, .inl eS_2)), (mX, .inl (cI, 6300, .inl eX_2)), (mL, .inl (cI, 512, .inl eL)), (mB, .inl (cS, 131072, .inl eB)), (mD, .inl (cI, 2, .inl eD)), (m1, .inl (cI, 6, .inl e1)), (m2, .inl (cI, 6, .inl e2)), (mR, .inl (cI, 1548, .inl eR)), (x1, .inl (cI, 300, .inl ec1)), (x2, .inl (cI, 300, .inl ec2)), (x3, .inl (cI, 300, .inl ec3)), (mH, .inl (cI, 800, .inl eH)), (mY, .inl (cI, 2600, .inl eY)), (mE, .inl (cI, 2600, .inl eE)), (mW, .inl (cI, 300, .inl eW)), (mO, .inl (cI, 300, .inl eO)), (y1, .inl (cI, 61, .inl er1)), (y2, .inl (cI, 61, .inl er2)), (y3, .inl (cI, 61, .inl er3)), (y4, .inl (cI, 61, .inl er4)), (mZ, .inl (cI, 600, .inl eZ)), (oJ, .inl (cJ, 1, .inr (.inl fJ)))]) rfl
  clear hP hD hS hJ hPD9
  have hP := hPn
  have hD := hDn
  have hS := hSn
  clear hPn hDn hSn
  refine lv_pop hx hb dL_law_683 rfl ?_
  refine lv_goto (tgt := 1022) hx hb dL_law_684 (by decide) ?_
  have hcg := e_bk hTX hCH hf1_4 hf2_6 g_gn g_zp g_zf g_fG2
  have hdf : DFr fsh fsh_1 zs zs_2 := d_fs hf1_5 hf2_7 hcg.1
  refine W.widen (k := 90 + (nc + 1)) (n := 172225 + 6 * (nc + 1)) (by omega) (by omega) ?_
  exact kk fa lT lL_1 lM l4 l5 ft lB lH lK gn_1 lG_1 lR l1 l2 l3 pr reE laE suE leE lq lp lv ke tl fsh_1 wi ri fm lm lw re7 la7 su7 le7 re8 la8 su8 le8 re9 la9 su9 le9 zt zp_2 zf zh zr zc zy za zb zs_2 zq zw ze_2 zn zm zl zk zd fT fL_1 fM f41 f42 f43 f51 f52 f53 fB fH1 fH2 fK1 fK2 fG1 fG2 f1 f2 f3 fR1 fR2 fR3 fR4 fR5 fR6 fq fp fv fQ1 fQ2 fQ3 fQ4 fw fW1 fW2 fW3 fW4 fW5 fW6 fW7 eT eS_2 eX_2 eL eB eD e1 e2 eR ec1 ec2 ec3 eH eY eE eW eO er1 er2 er3 er4 eZ fJ _ _ _ ⟨g_lT, hf1_0, g_lM, g_lB, g_lH, g_lK, hf1_2, hf1_3, g_lR, g_l1, g_l2, g_l3, g_lq, g_lp, g_lv, g_ke, hf1_1, g_fm, g_lm, g_lw, g_zt, hf2_0, g_zf, g_zh, g_zr, g_zc, g_zy, g_za, g_zb, hf2_3, g_zq, g_zn, g_zm, g_zk, g_fG2, hf2_1, hf2_2, g_eL, g_eB, g_e1, g_e2, g_eY, g_eE, g_eW, g_eO, g_eZ, by omega, hrel, hrc, hr4, hr5, hb4, hb5, hlz, hH, hHe, hKz, hT, ho, hal, hCV, hVk, hVr, hcg.2.1, hcg.2.2, hvc, fr_d hfr hdf, fx_d hfx hdf, frs_st hfs hfr hf2_5⟩ hP hD hS (lv_sub hl [0, 1, 2, 3, 4] rfl)

end
