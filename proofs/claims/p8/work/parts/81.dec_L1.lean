theorem dL_law_506_b : (decode cL_law 506 = .ok (.iadd, 1)) ∧ (decode cL_law 507 = .ok (.iaload, 1)) ∧ (decode cL_law 508 = .ok (.aload_n 0, 1)) ∧ (decode cL_law 509 = .ok (.iload_n 3, 1)) ∧ (decode cL_law 510 = .ok (.iconst 3, 1)) ∧ (decode cL_law 511 = .ok (.iadd, 1)) ∧ (decode cL_law 512 = .ok (.iaload, 1)) ∧ (decode cL_law 513 = .ok (.invokevirtual 45, 3)) := by decide +kernel
theorem dL_law_506 : decode cL_law 506 = .ok (.iadd, 1) := dL_law_506_b.1
theorem dL_law_507 : decode cL_law 507 = .ok (.iaload, 1) := dL_law_506_b.2.1
theorem dL_law_508 : decode cL_law 508 = .ok (.aload_n 0, 1) := dL_law_506_b.2.2.1
theorem dL_law_509 : decode cL_law 509 = .ok (.iload_n 3, 1) := dL_law_506_b.2.2.2.1
theorem dL_law_510 : decode cL_law 510 = .ok (.iconst 3, 1) := dL_law_506_b.2.2.2.2.1
theorem dL_law_511 : decode cL_law 511 = .ok (.iadd, 1) := dL_law_506_b.2.2.2.2.2.1
theorem dL_law_512 : decode cL_law 512 = .ok (.iaload, 1) := dL_law_506_b.2.2.2.2.2.2.1
theorem dL_law_513 : decode cL_law 513 = .ok (.invokevirtual 45, 3) := dL_law_506_b.2.2.2.2.2.2.2
theorem dL_law_516_b : (decode cL_law 516 = .ok (.lcmp, 1)) ∧ (decode cL_law 517 = .ok (.ifCond .eq 907, 3)) ∧ (decode cL_law 520 = .ok (.iconst 0, 1)) ∧ (decode cL_law 521 = .ok (.ireturn, 1)) ∧ (decode cL_law 522 = .ok (.aload_n 1, 1)) ∧ (decode cL_law 523 = .ok (.aload_n 0, 1)) ∧ (decode cL_law 524 = .ok (.iload_n 3, 1)) ∧ (decode cL_law 525 = .ok (.iconst 1, 1)) := by decide +kernel
theorem dL_law_516 : decode cL_law 516 = .ok (.lcmp, 1) := dL_law_516_b.1
theorem dL_law_517 : decode cL_law 517 = .ok (.ifCond .eq 907, 3) := dL_law_516_b.2.1
theorem dL_law_520 : decode cL_law 520 = .ok (.iconst 0, 1) := dL_law_516_b.2.2.1
theorem dL_law_521 : decode cL_law 521 = .ok (.ireturn, 1) := dL_law_516_b.2.2.2.1
theorem dL_law_522 : decode cL_law 522 = .ok (.aload_n 1, 1) := dL_law_516_b.2.2.2.2.1
theorem dL_law_523 : decode cL_law 523 = .ok (.aload_n 0, 1) := dL_law_516_b.2.2.2.2.2.1
theorem dL_law_524 : decode cL_law 524 = .ok (.iload_n 3, 1) := dL_law_516_b.2.2.2.2.2.2.1
theorem dL_law_525 : decode cL_law 525 = .ok (.iconst 1, 1) := dL_law_516_b.2.2.2.2.2.2.2
theorem dL_law_526_b : (decode cL_law 526 = .ok (.iadd, 1)) ∧ (decode cL_law 527 = .ok (.iaload, 1)) ∧ (decode cL_law 528 = .ok (.invokevirtual 46, 3)) ∧ (decode cL_law 531 = .ok (.pop, 1)) ∧ (decode cL_law 532 = .ok (.aload_n 2, 1)) ∧ (decode cL_law 533 = .ok (.aload_n 0, 1)) ∧ (decode cL_law 534 = .ok (.iload_n 3, 1)) ∧ (decode cL_law 535 = .ok (.iconst 1, 1)) := by decide +kernel
theorem dL_law_526 : decode cL_law 526 = .ok (.iadd, 1) := dL_law_526_b.1
theorem dL_law_527 : decode cL_law 527 = .ok (.iaload, 1) := dL_law_526_b.2.1
theorem dL_law_528 : decode cL_law 528 = .ok (.invokevirtual 46, 3) := dL_law_526_b.2.2.1
theorem dL_law_531 : decode cL_law 531 = .ok (.pop, 1) := dL_law_526_b.2.2.2.1
theorem dL_law_532 : decode cL_law 532 = .ok (.aload_n 2, 1) := dL_law_526_b.2.2.2.2.1
theorem dL_law_533 : decode cL_law 533 = .ok (.aload_n 0, 1) := dL_law_526_b.2.2.2.2.2.1
theorem dL_law_534 : decode cL_law 534 = .ok (.iload_n 3, 1) := dL_law_526_b.2.2.2.2.2.2.1
theorem dL_law_535 : decode cL_law 535 = .ok (.iconst 1, 1) := dL_law_526_b.2.2.2.2.2.2.2
theorem dL_law_536_b : (decode cL_law 536 = .ok (.iadd, 1)) ∧ (decode cL_law 537 = .ok (.iaload, 1)) ∧ (decode cL_law 538 = .ok (.invokevirtual 49, 3)) ∧ (decode cL_law 541 = .ok (.pop, 1)) ∧ (decode cL_law 542 = .ok (.goto 882, 3)) ∧ (decode cL_law 545 = .ok (.aload_n 1, 1)) ∧ (decode cL_law 546 = .ok (.invokevirtual 50, 3)) ∧ (decode cL_law 549 = .ok (.pop, 1)) := by decide +kernel
theorem dL_law_536 : decode cL_law 536 = .ok (.iadd, 1) := dL_law_536_b.1
theorem dL_law_537 : decode cL_law 537 = .ok (.iaload, 1) := dL_law_536_b.2.1
theorem dL_law_538 : decode cL_law 538 = .ok (.invokevirtual 49, 3) := dL_law_536_b.2.2.1
theorem dL_law_541 : decode cL_law 541 = .ok (.pop, 1) := dL_law_536_b.2.2.2.1
theorem dL_law_542 : decode cL_law 542 = .ok (.goto 882, 3) := dL_law_536_b.2.2.2.2.1
theorem dL_law_545 : decode cL_law 545 = .ok (.aload_n 1, 1) := dL_law_536_b.2.2.2.2.2.1
theorem dL_law_546 : decode cL_law 546 = .ok (.invokevirtual 50, 3) := dL_law_536_b.2.2.2.2.2.2.1
theorem dL_law_549 : decode cL_law 549 = .ok (.pop, 1) := dL_law_536_b.2.2.2.2.2.2.2
theorem dL_law_550_b : (decode cL_law 550 = .ok (.aload_n 2, 1)) ∧ (decode cL_law 551 = .ok (.invokevirtual 54, 3)) ∧ (decode cL_law 554 = .ok (.pop, 1)) ∧ (decode cL_law 555 = .ok (.goto 869, 3)) ∧ (decode cL_law 558 = .ok (.aload_n 1, 1)) ∧ (decode cL_law 559 = .ok (.aload_n 0, 1)) ∧ (decode cL_law 560 = .ok (.iload_n 3, 1)) ∧ (decode cL_law 561 = .ok (.iconst 1, 1)) := by decide +kernel
theorem dL_law_550 : decode cL_law 550 = .ok (.aload_n 2, 1) := dL_law_550_b.1
theorem dL_law_551 : decode cL_law 551 = .ok (.invokevirtual 54, 3) := dL_law_550_b.2.1
theorem dL_law_554 : decode cL_law 554 = .ok (.pop, 1) := dL_law_550_b.2.2.1
theorem dL_law_555 : decode cL_law 555 = .ok (.goto 869, 3) := dL_law_550_b.2.2.2.1
theorem dL_law_558 : decode cL_law 558 = .ok (.aload_n 1, 1) := dL_law_550_b.2.2.2.2.1
theorem dL_law_559 : decode cL_law 559 = .ok (.aload_n 0, 1) := dL_law_550_b.2.2.2.2.2.1
theorem dL_law_560 : decode cL_law 560 = .ok (.iload_n 3, 1) := dL_law_550_b.2.2.2.2.2.2.1
theorem dL_law_561 : decode cL_law 561 = .ok (.iconst 1, 1) := dL_law_550_b.2.2.2.2.2.2.2
theorem dL_law_562_b : (decode cL_law 562 = .ok (.iadd, 1)) ∧ (decode cL_law 563 = .ok (.iaload, 1)) ∧ (decode cL_law 564 = .ok (.aload_n 0, 1)) ∧ (decode cL_law 565 = .ok (.iload_n 3, 1)) ∧ (decode cL_law 566 = .ok (.iconst 2, 1)) ∧ (decode cL_law 567 = .ok (.iadd, 1)) ∧ (decode cL_law 568 = .ok (.iaload, 1)) ∧ (decode cL_law 569 = .ok (.aload_n 0, 1)) := by decide +kernel
theorem dL_law_562 : decode cL_law 562 = .ok (.iadd, 1) := dL_law_562_b.1
theorem dL_law_563 : decode cL_law 563 = .ok (.iaload, 1) := dL_law_562_b.2.1
theorem dL_law_564 : decode cL_law 564 = .ok (.aload_n 0, 1) := dL_law_562_b.2.2.1
theorem dL_law_565 : decode cL_law 565 = .ok (.iload_n 3, 1) := dL_law_562_b.2.2.2.1
theorem dL_law_566 : decode cL_law 566 = .ok (.iconst 2, 1) := dL_law_562_b.2.2.2.2.1
theorem dL_law_567 : decode cL_law 567 = .ok (.iadd, 1) := dL_law_562_b.2.2.2.2.2.1
theorem dL_law_568 : decode cL_law 568 = .ok (.iaload, 1) := dL_law_562_b.2.2.2.2.2.2.1
theorem dL_law_569 : decode cL_law 569 = .ok (.aload_n 0, 1) := dL_law_562_b.2.2.2.2.2.2.2
theorem dL_law_570_b : (decode cL_law 570 = .ok (.iload_n 3, 1)) ∧ (decode cL_law 571 = .ok (.iconst 3, 1)) ∧ (decode cL_law 572 = .ok (.iadd, 1)) ∧ (decode cL_law 573 = .ok (.iaload, 1)) ∧ (decode cL_law 574 = .ok (.aload_n 0, 1)) ∧ (decode cL_law 575 = .ok (.iload_n 3, 1)) ∧ (decode cL_law 576 = .ok (.iconst 4, 1)) ∧ (decode cL_law 577 = .ok (.iadd, 1)) := by decide +kernel
theorem dL_law_570 : decode cL_law 570 = .ok (.iload_n 3, 1) := dL_law_570_b.1
theorem dL_law_571 : decode cL_law 571 = .ok (.iconst 3, 1) := dL_law_570_b.2.1
theorem dL_law_572 : decode cL_law 572 = .ok (.iadd, 1) := dL_law_570_b.2.2.1
theorem dL_law_573 : decode cL_law 573 = .ok (.iaload, 1) := dL_law_570_b.2.2.2.1
theorem dL_law_574 : decode cL_law 574 = .ok (.aload_n 0, 1) := dL_law_570_b.2.2.2.2.1
theorem dL_law_575 : decode cL_law 575 = .ok (.iload_n 3, 1) := dL_law_570_b.2.2.2.2.2.1
theorem dL_law_576 : decode cL_law 576 = .ok (.iconst 4, 1) := dL_law_570_b.2.2.2.2.2.2.1
theorem dL_law_577 : decode cL_law 577 = .ok (.iadd, 1) := dL_law_570_b.2.2.2.2.2.2.2
theorem dL_law_578_b : (decode cL_law 578 = .ok (.iaload, 1)) ∧ (decode cL_law 579 = .ok (.invokevirtual 55, 3)) ∧ (decode cL_law 582 = .ok (.pop, 1)) ∧ (decode cL_law 583 = .ok (.aload_n 2, 1)) ∧ (decode cL_law 584 = .ok (.aload_n 0, 1)) ∧ (decode cL_law 585 = .ok (.iload_n 3, 1)) ∧ (decode cL_law 586 = .ok (.iconst 1, 1)) ∧ (decode cL_law 587 = .ok (.iadd, 1)) := by decide +kernel
theorem dL_law_578 : decode cL_law 578 = .ok (.iaload, 1) := dL_law_578_b.1
theorem dL_law_579 : decode cL_law 579 = .ok (.invokevirtual 55, 3) := dL_law_578_b.2.1
theorem dL_law_582 : decode cL_law 582 = .ok (.pop, 1) := dL_law_578_b.2.2.1
theorem dL_law_583 : decode cL_law 583 = .ok (.aload_n 2, 1) := dL_law_578_b.2.2.2.1
theorem dL_law_584 : decode cL_law 584 = .ok (.aload_n 0, 1) := dL_law_578_b.2.2.2.2.1
theorem dL_law_585 : decode cL_law 585 = .ok (.iload_n 3, 1) := dL_law_578_b.2.2.2.2.2.1
theorem dL_law_586 : decode cL_law 586 = .ok (.iconst 1, 1) := dL_law_578_b.2.2.2.2.2.2.1
theorem dL_law_587 : decode cL_law 587 = .ok (.iadd, 1) := dL_law_578_b.2.2.2.2.2.2.2
theorem dL_law_588_b : (decode cL_law 588 = .ok (.iaload, 1)) ∧ (decode cL_law 589 = .ok (.aload_n 0, 1)) ∧ (decode cL_law 590 = .ok (.iload_n 3, 1)) ∧ (decode cL_law 591 = .ok (.iconst 2, 1)) ∧ (decode cL_law 592 = .ok (.iadd, 1)) ∧ (decode cL_law 593 = .ok (.iaload, 1)) ∧ (decode cL_law 594 = .ok (.aload_n 0, 1)) ∧ (decode cL_law 595 = .ok (.iload_n 3, 1)) := by decide +kernel
theorem dL_law_588 : decode cL_law 588 = .ok (.iaload, 1) := dL_law_588_b.1
theorem dL_law_589 : decode cL_law 589 = .ok (.aload_n 0, 1) := dL_law_588_b.2.1
theorem dL_law_590 : decode cL_law 590 = .ok (.iload_n 3, 1) := dL_law_588_b.2.2.1
theorem dL_law_591 : decode cL_law 591 = .ok (.iconst 2, 1) := dL_law_588_b.2.2.2.1
theorem dL_law_592 : decode cL_law 592 = .ok (.iadd, 1) := dL_law_588_b.2.2.2.2.1
theorem dL_law_593 : decode cL_law 593 = .ok (.iaload, 1) := dL_law_588_b.2.2.2.2.2.1
theorem dL_law_594 : decode cL_law 594 = .ok (.aload_n 0, 1) := dL_law_588_b.2.2.2.2.2.2.1
theorem dL_law_595 : decode cL_law 595 = .ok (.iload_n 3, 1) := dL_law_588_b.2.2.2.2.2.2.2
theorem dL_law_596_b : (decode cL_law 596 = .ok (.iconst 3, 1)) ∧ (decode cL_law 597 = .ok (.iadd, 1)) ∧ (decode cL_law 598 = .ok (.iaload, 1)) ∧ (decode cL_law 599 = .ok (.aload_n 0, 1)) ∧ (decode cL_law 600 = .ok (.iload_n 3, 1)) ∧ (decode cL_law 601 = .ok (.iconst 4, 1)) ∧ (decode cL_law 602 = .ok (.iadd, 1)) ∧ (decode cL_law 603 = .ok (.iaload, 1)) := by decide +kernel
theorem dL_law_596 : decode cL_law 596 = .ok (.iconst 3, 1) := dL_law_596_b.1
theorem dL_law_597 : decode cL_law 597 = .ok (.iadd, 1) := dL_law_596_b.2.1
theorem dL_law_598 : decode cL_law 598 = .ok (.iaload, 1) := dL_law_596_b.2.2.1
theorem dL_law_599 : decode cL_law 599 = .ok (.aload_n 0, 1) := dL_law_596_b.2.2.2.1
theorem dL_law_600 : decode cL_law 600 = .ok (.iload_n 3, 1) := dL_law_596_b.2.2.2.2.1
theorem dL_law_601 : decode cL_law 601 = .ok (.iconst 4, 1) := dL_law_596_b.2.2.2.2.2.1
theorem dL_law_602 : decode cL_law 602 = .ok (.iadd, 1) := dL_law_596_b.2.2.2.2.2.2.1
theorem dL_law_603 : decode cL_law 603 = .ok (.iaload, 1) := dL_law_596_b.2.2.2.2.2.2.2
theorem dL_law_604_b : (decode cL_law 604 = .ok (.invokevirtual 58, 3)) ∧ (decode cL_law 607 = .ok (.pop, 1)) ∧ (decode cL_law 608 = .ok (.goto 816, 3)) ∧ (decode cL_law 611 = .ok (.aload_n 1, 1)) ∧ (decode cL_law 612 = .ok (.aload_n 0, 1)) ∧ (decode cL_law 613 = .ok (.iload_n 3, 1)) ∧ (decode cL_law 614 = .ok (.iconst 1, 1)) ∧ (decode cL_law 615 = .ok (.iadd, 1)) := by decide +kernel
theorem dL_law_604 : decode cL_law 604 = .ok (.invokevirtual 58, 3) := dL_law_604_b.1
theorem dL_law_607 : decode cL_law 607 = .ok (.pop, 1) := dL_law_604_b.2.1
theorem dL_law_608 : decode cL_law 608 = .ok (.goto 816, 3) := dL_law_604_b.2.2.1
theorem dL_law_611 : decode cL_law 611 = .ok (.aload_n 1, 1) := dL_law_604_b.2.2.2.1
theorem dL_law_612 : decode cL_law 612 = .ok (.aload_n 0, 1) := dL_law_604_b.2.2.2.2.1
theorem dL_law_613 : decode cL_law 613 = .ok (.iload_n 3, 1) := dL_law_604_b.2.2.2.2.2.1
theorem dL_law_614 : decode cL_law 614 = .ok (.iconst 1, 1) := dL_law_604_b.2.2.2.2.2.2.1
theorem dL_law_615 : decode cL_law 615 = .ok (.iadd, 1) := dL_law_604_b.2.2.2.2.2.2.2
theorem dL_law_616_b : (decode cL_law 616 = .ok (.iaload, 1)) ∧ (decode cL_law 617 = .ok (.aload_n 0, 1)) ∧ (decode cL_law 618 = .ok (.iload_n 3, 1)) ∧ (decode cL_law 619 = .ok (.iconst 2, 1)) ∧ (decode cL_law 620 = .ok (.iadd, 1)) ∧ (decode cL_law 621 = .ok (.iaload, 1)) ∧ (decode cL_law 622 = .ok (.ifCond .eq 7, 3)) ∧ (decode cL_law 625 = .ok (.iconst 1, 1)) := by decide +kernel
theorem dL_law_616 : decode cL_law 616 = .ok (.iaload, 1) := dL_law_616_b.1
theorem dL_law_617 : decode cL_law 617 = .ok (.aload_n 0, 1) := dL_law_616_b.2.1
theorem dL_law_618 : decode cL_law 618 = .ok (.iload_n 3, 1) := dL_law_616_b.2.2.1
theorem dL_law_619 : decode cL_law 619 = .ok (.iconst 2, 1) := dL_law_616_b.2.2.2.1
theorem dL_law_620 : decode cL_law 620 = .ok (.iadd, 1) := dL_law_616_b.2.2.2.2.1
theorem dL_law_621 : decode cL_law 621 = .ok (.iaload, 1) := dL_law_616_b.2.2.2.2.2.1
theorem dL_law_622 : decode cL_law 622 = .ok (.ifCond .eq 7, 3) := dL_law_616_b.2.2.2.2.2.2.1
theorem dL_law_625 : decode cL_law 625 = .ok (.iconst 1, 1) := dL_law_616_b.2.2.2.2.2.2.2
theorem dL_law_626_b : (decode cL_law 626 = .ok (.goto 4, 3)) ∧ (decode cL_law 629 = .ok (.iconst 0, 1)) ∧ (decode cL_law 630 = .ok (.invokevirtual 59, 3)) ∧ (decode cL_law 633 = .ok (.pop, 1)) ∧ (decode cL_law 634 = .ok (.aload_n 2, 1)) ∧ (decode cL_law 635 = .ok (.aload_n 0, 1)) ∧ (decode cL_law 636 = .ok (.iload_n 3, 1)) ∧ (decode cL_law 637 = .ok (.iconst 1, 1)) := by decide +kernel
theorem dL_law_626 : decode cL_law 626 = .ok (.goto 4, 3) := dL_law_626_b.1
theorem dL_law_629 : decode cL_law 629 = .ok (.iconst 0, 1) := dL_law_626_b.2.1
theorem dL_law_630 : decode cL_law 630 = .ok (.invokevirtual 59, 3) := dL_law_626_b.2.2.1
theorem dL_law_633 : decode cL_law 633 = .ok (.pop, 1) := dL_law_626_b.2.2.2.1
theorem dL_law_634 : decode cL_law 634 = .ok (.aload_n 2, 1) := dL_law_626_b.2.2.2.2.1
theorem dL_law_635 : decode cL_law 635 = .ok (.aload_n 0, 1) := dL_law_626_b.2.2.2.2.2.1
theorem dL_law_636 : decode cL_law 636 = .ok (.iload_n 3, 1) := dL_law_626_b.2.2.2.2.2.2.1
theorem dL_law_637 : decode cL_law 637 = .ok (.iconst 1, 1) := dL_law_626_b.2.2.2.2.2.2.2
theorem dL_law_638_b : (decode cL_law 638 = .ok (.iadd, 1)) ∧ (decode cL_law 639 = .ok (.iaload, 1)) ∧ (decode cL_law 640 = .ok (.aload_n 0, 1)) ∧ (decode cL_law 641 = .ok (.iload_n 3, 1)) ∧ (decode cL_law 642 = .ok (.iconst 2, 1)) ∧ (decode cL_law 643 = .ok (.iadd, 1)) ∧ (decode cL_law 644 = .ok (.iaload, 1)) ∧ (decode cL_law 645 = .ok (.ifCond .eq 7, 3)) := by decide +kernel
theorem dL_law_638 : decode cL_law 638 = .ok (.iadd, 1) := dL_law_638_b.1
theorem dL_law_639 : decode cL_law 639 = .ok (.iaload, 1) := dL_law_638_b.2.1
theorem dL_law_640 : decode cL_law 640 = .ok (.aload_n 0, 1) := dL_law_638_b.2.2.1
theorem dL_law_641 : decode cL_law 641 = .ok (.iload_n 3, 1) := dL_law_638_b.2.2.2.1
theorem dL_law_642 : decode cL_law 642 = .ok (.iconst 2, 1) := dL_law_638_b.2.2.2.2.1
theorem dL_law_643 : decode cL_law 643 = .ok (.iadd, 1) := dL_law_638_b.2.2.2.2.2.1
theorem dL_law_644 : decode cL_law 644 = .ok (.iaload, 1) := dL_law_638_b.2.2.2.2.2.2.1
theorem dL_law_645 : decode cL_law 645 = .ok (.ifCond .eq 7, 3) := dL_law_638_b.2.2.2.2.2.2.2
theorem dL_law_648_b : (decode cL_law 648 = .ok (.iconst 1, 1)) ∧ (decode cL_law 649 = .ok (.goto 4, 3)) ∧ (decode cL_law 652 = .ok (.iconst 0, 1)) ∧ (decode cL_law 653 = .ok (.invokevirtual 63, 3)) ∧ (decode cL_law 656 = .ok (.pop, 1)) ∧ (decode cL_law 657 = .ok (.goto 767, 3)) ∧ (decode cL_law 660 = .ok (.aload_n 1, 1)) ∧ (decode cL_law 661 = .ok (.aload_n 0, 1)) := by decide +kernel
theorem dL_law_648 : decode cL_law 648 = .ok (.iconst 1, 1) := dL_law_648_b.1
theorem dL_law_649 : decode cL_law 649 = .ok (.goto 4, 3) := dL_law_648_b.2.1
theorem dL_law_652 : decode cL_law 652 = .ok (.iconst 0, 1) := dL_law_648_b.2.2.1
theorem dL_law_653 : decode cL_law 653 = .ok (.invokevirtual 63, 3) := dL_law_648_b.2.2.2.1
theorem dL_law_656 : decode cL_law 656 = .ok (.pop, 1) := dL_law_648_b.2.2.2.2.1
theorem dL_law_657 : decode cL_law 657 = .ok (.goto 767, 3) := dL_law_648_b.2.2.2.2.2.1
theorem dL_law_660 : decode cL_law 660 = .ok (.aload_n 1, 1) := dL_law_648_b.2.2.2.2.2.2.1
theorem dL_law_661 : decode cL_law 661 = .ok (.aload_n 0, 1) := dL_law_648_b.2.2.2.2.2.2.2
theorem dL_law_662_b : (decode cL_law 662 = .ok (.iload_n 3, 1)) ∧ (decode cL_law 663 = .ok (.iconst 1, 1)) ∧ (decode cL_law 664 = .ok (.iadd, 1)) ∧ (decode cL_law 665 = .ok (.iaload, 1)) ∧ (decode cL_law 666 = .ok (.invokevirtual 64, 3)) ∧ (decode cL_law 669 = .ok (.pop, 1)) ∧ (decode cL_law 670 = .ok (.aload_n 2, 1)) ∧ (decode cL_law 671 = .ok (.aload_n 0, 1)) := by decide +kernel
theorem dL_law_662 : decode cL_law 662 = .ok (.iload_n 3, 1) := dL_law_662_b.1
theorem dL_law_663 : decode cL_law 663 = .ok (.iconst 1, 1) := dL_law_662_b.2.1
theorem dL_law_664 : decode cL_law 664 = .ok (.iadd, 1) := dL_law_662_b.2.2.1
theorem dL_law_665 : decode cL_law 665 = .ok (.iaload, 1) := dL_law_662_b.2.2.2.1
theorem dL_law_666 : decode cL_law 666 = .ok (.invokevirtual 64, 3) := dL_law_662_b.2.2.2.2.1
theorem dL_law_669 : decode cL_law 669 = .ok (.pop, 1) := dL_law_662_b.2.2.2.2.2.1
theorem dL_law_670 : decode cL_law 670 = .ok (.aload_n 2, 1) := dL_law_662_b.2.2.2.2.2.2.1
theorem dL_law_671 : decode cL_law 671 = .ok (.aload_n 0, 1) := dL_law_662_b.2.2.2.2.2.2.2
theorem dL_law_672_b : (decode cL_law 672 = .ok (.iload_n 3, 1)) ∧ (decode cL_law 673 = .ok (.iconst 1, 1)) ∧ (decode cL_law 674 = .ok (.iadd, 1)) ∧ (decode cL_law 675 = .ok (.iaload, 1)) ∧ (decode cL_law 676 = .ok (.invokevirtual 67, 3)) ∧ (decode cL_law 679 = .ok (.pop, 1)) ∧ (decode cL_law 680 = .ok (.goto 744, 3)) ∧ (decode cL_law 683 = .ok (.aload_n 1, 1)) := by decide +kernel
theorem dL_law_672 : decode cL_law 672 = .ok (.iload_n 3, 1) := dL_law_672_b.1
theorem dL_law_673 : decode cL_law 673 = .ok (.iconst 1, 1) := dL_law_672_b.2.1
theorem dL_law_674 : decode cL_law 674 = .ok (.iadd, 1) := dL_law_672_b.2.2.1
theorem dL_law_675 : decode cL_law 675 = .ok (.iaload, 1) := dL_law_672_b.2.2.2.1
theorem dL_law_676 : decode cL_law 676 = .ok (.invokevirtual 67, 3) := dL_law_672_b.2.2.2.2.1
theorem dL_law_679 : decode cL_law 679 = .ok (.pop, 1) := dL_law_672_b.2.2.2.2.2.1
theorem dL_law_680 : decode cL_law 680 = .ok (.goto 744, 3) := dL_law_672_b.2.2.2.2.2.2.1
theorem dL_law_683 : decode cL_law 683 = .ok (.aload_n 1, 1) := dL_law_672_b.2.2.2.2.2.2.2
theorem dL_law_684_b : (decode cL_law 684 = .ok (.invokevirtual 68, 3)) ∧ (decode cL_law 687 = .ok (.pop, 1)) ∧ (decode cL_law 688 = .ok (.aload_n 2, 1)) ∧ (decode cL_law 689 = .ok (.invokevirtual 71, 3)) ∧ (decode cL_law 692 = .ok (.pop, 1)) ∧ (decode cL_law 693 = .ok (.goto 731, 3)) ∧ (decode cL_law 696 = .ok (.aload_n 1, 1)) ∧ (decode cL_law 697 = .ok (.aload_n 0, 1)) := by decide +kernel
theorem dL_law_684 : decode cL_law 684 = .ok (.invokevirtual 68, 3) := dL_law_684_b.1
theorem dL_law_687 : decode cL_law 687 = .ok (.pop, 1) := dL_law_684_b.2.1
theorem dL_law_688 : decode cL_law 688 = .ok (.aload_n 2, 1) := dL_law_684_b.2.2.1
theorem dL_law_689 : decode cL_law 689 = .ok (.invokevirtual 71, 3) := dL_law_684_b.2.2.2.1
theorem dL_law_692 : decode cL_law 692 = .ok (.pop, 1) := dL_law_684_b.2.2.2.2.1
theorem dL_law_693 : decode cL_law 693 = .ok (.goto 731, 3) := dL_law_684_b.2.2.2.2.2.1
theorem dL_law_696 : decode cL_law 696 = .ok (.aload_n 1, 1) := dL_law_684_b.2.2.2.2.2.2.1
theorem dL_law_697 : decode cL_law 697 = .ok (.aload_n 0, 1) := dL_law_684_b.2.2.2.2.2.2.2
theorem dL_law_698_b : (decode cL_law 698 = .ok (.iload_n 3, 1)) ∧ (decode cL_law 699 = .ok (.iconst 1, 1)) ∧ (decode cL_law 700 = .ok (.iadd, 1)) ∧ (decode cL_law 701 = .ok (.iaload, 1)) ∧ (decode cL_law 702 = .ok (.aload_n 0, 1)) ∧ (decode cL_law 703 = .ok (.iload_n 3, 1)) ∧ (decode cL_law 704 = .ok (.iconst 2, 1)) ∧ (decode cL_law 705 = .ok (.iadd, 1)) := by decide +kernel
theorem dL_law_698 : decode cL_law 698 = .ok (.iload_n 3, 1) := dL_law_698_b.1
theorem dL_law_699 : decode cL_law 699 = .ok (.iconst 1, 1) := dL_law_698_b.2.1
theorem dL_law_700 : decode cL_law 700 = .ok (.iadd, 1) := dL_law_698_b.2.2.1
theorem dL_law_701 : decode cL_law 701 = .ok (.iaload, 1) := dL_law_698_b.2.2.2.1
theorem dL_law_702 : decode cL_law 702 = .ok (.aload_n 0, 1) := dL_law_698_b.2.2.2.2.1
theorem dL_law_703 : decode cL_law 703 = .ok (.iload_n 3, 1) := dL_law_698_b.2.2.2.2.2.1
theorem dL_law_704 : decode cL_law 704 = .ok (.iconst 2, 1) := dL_law_698_b.2.2.2.2.2.2.1
theorem dL_law_705 : decode cL_law 705 = .ok (.iadd, 1) := dL_law_698_b.2.2.2.2.2.2.2
theorem dL_law_706_b : (decode cL_law 706 = .ok (.iaload, 1)) ∧ (decode cL_law 707 = .ok (.aload_n 0, 1)) ∧ (decode cL_law 708 = .ok (.iload_n 3, 1)) ∧ (decode cL_law 709 = .ok (.iconst 3, 1)) ∧ (decode cL_law 710 = .ok (.iadd, 1)) ∧ (decode cL_law 711 = .ok (.iaload, 1)) ∧ (decode cL_law 712 = .ok (.aload_n 0, 1)) ∧ (decode cL_law 713 = .ok (.iload_n 3, 1)) := by decide +kernel
theorem dL_law_706 : decode cL_law 706 = .ok (.iaload, 1) := dL_law_706_b.1
theorem dL_law_707 : decode cL_law 707 = .ok (.aload_n 0, 1) := dL_law_706_b.2.1
theorem dL_law_708 : decode cL_law 708 = .ok (.iload_n 3, 1) := dL_law_706_b.2.2.1
theorem dL_law_709 : decode cL_law 709 = .ok (.iconst 3, 1) := dL_law_706_b.2.2.2.1
theorem dL_law_710 : decode cL_law 710 = .ok (.iadd, 1) := dL_law_706_b.2.2.2.2.1
theorem dL_law_711 : decode cL_law 711 = .ok (.iaload, 1) := dL_law_706_b.2.2.2.2.2.1
theorem dL_law_712 : decode cL_law 712 = .ok (.aload_n 0, 1) := dL_law_706_b.2.2.2.2.2.2.1
theorem dL_law_713 : decode cL_law 713 = .ok (.iload_n 3, 1) := dL_law_706_b.2.2.2.2.2.2.2
theorem dL_law_714_b : (decode cL_law 714 = .ok (.iconst 4, 1)) ∧ (decode cL_law 715 = .ok (.iadd, 1)) ∧ (decode cL_law 716 = .ok (.iaload, 1)) ∧ (decode cL_law 717 = .ok (.aload_n 0, 1)) ∧ (decode cL_law 718 = .ok (.iload_n 3, 1)) ∧ (decode cL_law 719 = .ok (.iconst 5, 1)) ∧ (decode cL_law 720 = .ok (.iadd, 1)) ∧ (decode cL_law 721 = .ok (.iaload, 1)) := by decide +kernel
theorem dL_law_714 : decode cL_law 714 = .ok (.iconst 4, 1) := dL_law_714_b.1
theorem dL_law_715 : decode cL_law 715 = .ok (.iadd, 1) := dL_law_714_b.2.1
theorem dL_law_716 : decode cL_law 716 = .ok (.iaload, 1) := dL_law_714_b.2.2.1
theorem dL_law_717 : decode cL_law 717 = .ok (.aload_n 0, 1) := dL_law_714_b.2.2.2.1
theorem dL_law_718 : decode cL_law 718 = .ok (.iload_n 3, 1) := dL_law_714_b.2.2.2.2.1
theorem dL_law_719 : decode cL_law 719 = .ok (.iconst 5, 1) := dL_law_714_b.2.2.2.2.2.1
theorem dL_law_720 : decode cL_law 720 = .ok (.iadd, 1) := dL_law_714_b.2.2.2.2.2.2.1
theorem dL_law_721 : decode cL_law 721 = .ok (.iaload, 1) := dL_law_714_b.2.2.2.2.2.2.2
theorem dL_law_722_b : (decode cL_law 722 = .ok (.invokevirtual 72, 3)) ∧ (decode cL_law 725 = .ok (.pop, 1)) ∧ (decode cL_law 726 = .ok (.aload_n 2, 1)) ∧ (decode cL_law 727 = .ok (.aload_n 0, 1)) ∧ (decode cL_law 728 = .ok (.iload_n 3, 1)) ∧ (decode cL_law 729 = .ok (.iconst 1, 1)) ∧ (decode cL_law 730 = .ok (.iadd, 1)) ∧ (decode cL_law 731 = .ok (.iaload, 1)) := by decide +kernel
theorem dL_law_722 : decode cL_law 722 = .ok (.invokevirtual 72, 3) := dL_law_722_b.1
theorem dL_law_725 : decode cL_law 725 = .ok (.pop, 1) := dL_law_722_b.2.1
theorem dL_law_726 : decode cL_law 726 = .ok (.aload_n 2, 1) := dL_law_722_b.2.2.1
theorem dL_law_727 : decode cL_law 727 = .ok (.aload_n 0, 1) := dL_law_722_b.2.2.2.1
theorem dL_law_728 : decode cL_law 728 = .ok (.iload_n 3, 1) := dL_law_722_b.2.2.2.2.1
theorem dL_law_729 : decode cL_law 729 = .ok (.iconst 1, 1) := dL_law_722_b.2.2.2.2.2.1
theorem dL_law_730 : decode cL_law 730 = .ok (.iadd, 1) := dL_law_722_b.2.2.2.2.2.2.1
theorem dL_law_731 : decode cL_law 731 = .ok (.iaload, 1) := dL_law_722_b.2.2.2.2.2.2.2
theorem dL_law_732_b : (decode cL_law 732 = .ok (.aload_n 0, 1)) ∧ (decode cL_law 733 = .ok (.iload_n 3, 1)) ∧ (decode cL_law 734 = .ok (.iconst 2, 1)) ∧ (decode cL_law 735 = .ok (.iadd, 1)) ∧ (decode cL_law 736 = .ok (.iaload, 1)) ∧ (decode cL_law 737 = .ok (.aload_n 0, 1)) ∧ (decode cL_law 738 = .ok (.iload_n 3, 1)) ∧ (decode cL_law 739 = .ok (.iconst 3, 1)) := by decide +kernel
theorem dL_law_732 : decode cL_law 732 = .ok (.aload_n 0, 1) := dL_law_732_b.1
theorem dL_law_733 : decode cL_law 733 = .ok (.iload_n 3, 1) := dL_law_732_b.2.1
theorem dL_law_734 : decode cL_law 734 = .ok (.iconst 2, 1) := dL_law_732_b.2.2.1
theorem dL_law_735 : decode cL_law 735 = .ok (.iadd, 1) := dL_law_732_b.2.2.2.1
theorem dL_law_736 : decode cL_law 736 = .ok (.iaload, 1) := dL_law_732_b.2.2.2.2.1
theorem dL_law_737 : decode cL_law 737 = .ok (.aload_n 0, 1) := dL_law_732_b.2.2.2.2.2.1
theorem dL_law_738 : decode cL_law 738 = .ok (.iload_n 3, 1) := dL_law_732_b.2.2.2.2.2.2.1
theorem dL_law_739 : decode cL_law 739 = .ok (.iconst 3, 1) := dL_law_732_b.2.2.2.2.2.2.2
theorem dL_law_740_b : (decode cL_law 740 = .ok (.iadd, 1)) ∧ (decode cL_law 741 = .ok (.iaload, 1)) ∧ (decode cL_law 742 = .ok (.aload_n 0, 1)) ∧ (decode cL_law 743 = .ok (.iload_n 3, 1)) ∧ (decode cL_law 744 = .ok (.iconst 4, 1)) ∧ (decode cL_law 745 = .ok (.iadd, 1)) ∧ (decode cL_law 746 = .ok (.iaload, 1)) ∧ (decode cL_law 747 = .ok (.aload_n 0, 1)) := by decide +kernel
theorem dL_law_740 : decode cL_law 740 = .ok (.iadd, 1) := dL_law_740_b.1
theorem dL_law_741 : decode cL_law 741 = .ok (.iaload, 1) := dL_law_740_b.2.1
theorem dL_law_742 : decode cL_law 742 = .ok (.aload_n 0, 1) := dL_law_740_b.2.2.1
theorem dL_law_743 : decode cL_law 743 = .ok (.iload_n 3, 1) := dL_law_740_b.2.2.2.1
theorem dL_law_744 : decode cL_law 744 = .ok (.iconst 4, 1) := dL_law_740_b.2.2.2.2.1
theorem dL_law_745 : decode cL_law 745 = .ok (.iadd, 1) := dL_law_740_b.2.2.2.2.2.1
theorem dL_law_746 : decode cL_law 746 = .ok (.iaload, 1) := dL_law_740_b.2.2.2.2.2.2.1
theorem dL_law_747 : decode cL_law 747 = .ok (.aload_n 0, 1) := dL_law_740_b.2.2.2.2.2.2.2
theorem dL_law_748_b : (decode cL_law 748 = .ok (.iload_n 3, 1)) ∧ (decode cL_law 749 = .ok (.iconst 5, 1)) ∧ (decode cL_law 750 = .ok (.iadd, 1)) ∧ (decode cL_law 751 = .ok (.iaload, 1)) ∧ (decode cL_law 752 = .ok (.invokevirtual 76, 3)) ∧ (decode cL_law 755 = .ok (.pop, 1)) ∧ (decode cL_law 756 = .ok (.goto 668, 3)) ∧ (decode cL_law 759 = .ok (.aload_n 1, 1)) := by decide +kernel
theorem dL_law_748 : decode cL_law 748 = .ok (.iload_n 3, 1) := dL_law_748_b.1
theorem dL_law_749 : decode cL_law 749 = .ok (.iconst 5, 1) := dL_law_748_b.2.1
theorem dL_law_750 : decode cL_law 750 = .ok (.iadd, 1) := dL_law_748_b.2.2.1
theorem dL_law_751 : decode cL_law 751 = .ok (.iaload, 1) := dL_law_748_b.2.2.2.1
theorem dL_law_752 : decode cL_law 752 = .ok (.invokevirtual 76, 3) := dL_law_748_b.2.2.2.2.1
theorem dL_law_755 : decode cL_law 755 = .ok (.pop, 1) := dL_law_748_b.2.2.2.2.2.1
theorem dL_law_756 : decode cL_law 756 = .ok (.goto 668, 3) := dL_law_748_b.2.2.2.2.2.2.1
theorem dL_law_759 : decode cL_law 759 = .ok (.aload_n 1, 1) := dL_law_748_b.2.2.2.2.2.2.2
theorem dL_law_760_b : (decode cL_law 760 = .ok (.aload_n 0, 1)) ∧ (decode cL_law 761 = .ok (.iload_n 3, 1)) ∧ (decode cL_law 762 = .ok (.iconst 1, 1)) ∧ (decode cL_law 763 = .ok (.iadd, 1)) ∧ (decode cL_law 764 = .ok (.iaload, 1)) ∧ (decode cL_law 765 = .ok (.aload_n 0, 1)) ∧ (decode cL_law 766 = .ok (.iload_n 3, 1)) ∧ (decode cL_law 767 = .ok (.iconst 2, 1)) := by decide +kernel
theorem dL_law_760 : decode cL_law 760 = .ok (.aload_n 0, 1) := dL_law_760_b.1
theorem dL_law_761 : decode cL_law 761 = .ok (.iload_n 3, 1) := dL_law_760_b.2.1
theorem dL_law_762 : decode cL_law 762 = .ok (.iconst 1, 1) := dL_law_760_b.2.2.1
theorem dL_law_763 : decode cL_law 763 = .ok (.iadd, 1) := dL_law_760_b.2.2.2.1
theorem dL_law_764 : decode cL_law 764 = .ok (.iaload, 1) := dL_law_760_b.2.2.2.2.1
theorem dL_law_765 : decode cL_law 765 = .ok (.aload_n 0, 1) := dL_law_760_b.2.2.2.2.2.1
theorem dL_law_766 : decode cL_law 766 = .ok (.iload_n 3, 1) := dL_law_760_b.2.2.2.2.2.2.1
theorem dL_law_767 : decode cL_law 767 = .ok (.iconst 2, 1) := dL_law_760_b.2.2.2.2.2.2.2
theorem dL_law_768_b : (decode cL_law 768 = .ok (.iadd, 1)) ∧ (decode cL_law 769 = .ok (.iaload, 1)) ∧ (decode cL_law 770 = .ok (.invokevirtual 77, 3)) ∧ (decode cL_law 773 = .ok (.pop2, 1)) ∧ (decode cL_law 774 = .ok (.aload_n 2, 1)) ∧ (decode cL_law 775 = .ok (.aload_n 0, 1)) ∧ (decode cL_law 776 = .ok (.iload_n 3, 1)) ∧ (decode cL_law 777 = .ok (.iconst 1, 1)) := by decide +kernel
theorem dL_law_768 : decode cL_law 768 = .ok (.iadd, 1) := dL_law_768_b.1
theorem dL_law_769 : decode cL_law 769 = .ok (.iaload, 1) := dL_law_768_b.2.1
theorem dL_law_770 : decode cL_law 770 = .ok (.invokevirtual 77, 3) := dL_law_768_b.2.2.1
theorem dL_law_773 : decode cL_law 773 = .ok (.pop2, 1) := dL_law_768_b.2.2.2.1
theorem dL_law_774 : decode cL_law 774 = .ok (.aload_n 2, 1) := dL_law_768_b.2.2.2.2.1
theorem dL_law_775 : decode cL_law 775 = .ok (.aload_n 0, 1) := dL_law_768_b.2.2.2.2.2.1
theorem dL_law_776 : decode cL_law 776 = .ok (.iload_n 3, 1) := dL_law_768_b.2.2.2.2.2.2.1
theorem dL_law_777 : decode cL_law 777 = .ok (.iconst 1, 1) := dL_law_768_b.2.2.2.2.2.2.2
theorem dL_law_778_b : (decode cL_law 778 = .ok (.iadd, 1)) ∧ (decode cL_law 779 = .ok (.iaload, 1)) ∧ (decode cL_law 780 = .ok (.aload_n 0, 1)) ∧ (decode cL_law 781 = .ok (.iload_n 3, 1)) ∧ (decode cL_law 782 = .ok (.iconst 2, 1)) ∧ (decode cL_law 783 = .ok (.iadd, 1)) ∧ (decode cL_law 784 = .ok (.iaload, 1)) ∧ (decode cL_law 785 = .ok (.invokevirtual 81, 3)) := by decide +kernel
theorem dL_law_778 : decode cL_law 778 = .ok (.iadd, 1) := dL_law_778_b.1
theorem dL_law_779 : decode cL_law 779 = .ok (.iaload, 1) := dL_law_778_b.2.1
theorem dL_law_780 : decode cL_law 780 = .ok (.aload_n 0, 1) := dL_law_778_b.2.2.1
theorem dL_law_781 : decode cL_law 781 = .ok (.iload_n 3, 1) := dL_law_778_b.2.2.2.1
theorem dL_law_782 : decode cL_law 782 = .ok (.iconst 2, 1) := dL_law_778_b.2.2.2.2.1
theorem dL_law_783 : decode cL_law 783 = .ok (.iadd, 1) := dL_law_778_b.2.2.2.2.2.1
theorem dL_law_784 : decode cL_law 784 = .ok (.iaload, 1) := dL_law_778_b.2.2.2.2.2.2.1
theorem dL_law_785 : decode cL_law 785 = .ok (.invokevirtual 81, 3) := dL_law_778_b.2.2.2.2.2.2.2
theorem dL_law_788_b : (decode cL_law 788 = .ok (.pop2, 1)) ∧ (decode cL_law 789 = .ok (.goto 635, 3)) ∧ (decode cL_law 792 = .ok (.aload_n 1, 1)) ∧ (decode cL_law 793 = .ok (.aload_n 0, 1)) ∧ (decode cL_law 794 = .ok (.iload_n 3, 1)) ∧ (decode cL_law 795 = .ok (.iconst 1, 1)) ∧ (decode cL_law 796 = .ok (.iadd, 1)) ∧ (decode cL_law 797 = .ok (.iaload, 1)) := by decide +kernel
theorem dL_law_788 : decode cL_law 788 = .ok (.pop2, 1) := dL_law_788_b.1
theorem dL_law_789 : decode cL_law 789 = .ok (.goto 635, 3) := dL_law_788_b.2.1
theorem dL_law_792 : decode cL_law 792 = .ok (.aload_n 1, 1) := dL_law_788_b.2.2.1
theorem dL_law_793 : decode cL_law 793 = .ok (.aload_n 0, 1) := dL_law_788_b.2.2.2.1
theorem dL_law_794 : decode cL_law 794 = .ok (.iload_n 3, 1) := dL_law_788_b.2.2.2.2.1
theorem dL_law_795 : decode cL_law 795 = .ok (.iconst 1, 1) := dL_law_788_b.2.2.2.2.2.1
theorem dL_law_796 : decode cL_law 796 = .ok (.iadd, 1) := dL_law_788_b.2.2.2.2.2.2.1
theorem dL_law_797 : decode cL_law 797 = .ok (.iaload, 1) := dL_law_788_b.2.2.2.2.2.2.2
theorem dL_law_798_b : (decode cL_law 798 = .ok (.invokevirtual 82, 3)) ∧ (decode cL_law 801 = .ok (.pop, 1)) ∧ (decode cL_law 802 = .ok (.aload_n 2, 1)) ∧ (decode cL_law 803 = .ok (.aload_n 0, 1)) ∧ (decode cL_law 804 = .ok (.iload_n 3, 1)) ∧ (decode cL_law 805 = .ok (.iconst 1, 1)) ∧ (decode cL_law 806 = .ok (.iadd, 1)) ∧ (decode cL_law 807 = .ok (.iaload, 1)) := by decide +kernel
theorem dL_law_798 : decode cL_law 798 = .ok (.invokevirtual 82, 3) := dL_law_798_b.1
theorem dL_law_801 : decode cL_law 801 = .ok (.pop, 1) := dL_law_798_b.2.1
theorem dL_law_802 : decode cL_law 802 = .ok (.aload_n 2, 1) := dL_law_798_b.2.2.1
theorem dL_law_803 : decode cL_law 803 = .ok (.aload_n 0, 1) := dL_law_798_b.2.2.2.1
theorem dL_law_804 : decode cL_law 804 = .ok (.iload_n 3, 1) := dL_law_798_b.2.2.2.2.1
theorem dL_law_805 : decode cL_law 805 = .ok (.iconst 1, 1) := dL_law_798_b.2.2.2.2.2.1
theorem dL_law_806 : decode cL_law 806 = .ok (.iadd, 1) := dL_law_798_b.2.2.2.2.2.2.1
theorem dL_law_807 : decode cL_law 807 = .ok (.iaload, 1) := dL_law_798_b.2.2.2.2.2.2.2
theorem dL_law_808_b : (decode cL_law 808 = .ok (.invokevirtual 85, 3)) ∧ (decode cL_law 811 = .ok (.pop, 1)) ∧ (decode cL_law 812 = .ok (.goto 612, 3)) ∧ (decode cL_law 815 = .ok (.aload_n 1, 1)) ∧ (decode cL_law 816 = .ok (.aload_n 0, 1)) ∧ (decode cL_law 817 = .ok (.iload_n 3, 1)) ∧ (decode cL_law 818 = .ok (.iconst 1, 1)) ∧ (decode cL_law 819 = .ok (.iadd, 1)) := by decide +kernel
theorem dL_law_808 : decode cL_law 808 = .ok (.invokevirtual 85, 3) := dL_law_808_b.1
theorem dL_law_811 : decode cL_law 811 = .ok (.pop, 1) := dL_law_808_b.2.1
theorem dL_law_812 : decode cL_law 812 = .ok (.goto 612, 3) := dL_law_808_b.2.2.1
theorem dL_law_815 : decode cL_law 815 = .ok (.aload_n 1, 1) := dL_law_808_b.2.2.2.1
theorem dL_law_816 : decode cL_law 816 = .ok (.aload_n 0, 1) := dL_law_808_b.2.2.2.2.1
theorem dL_law_817 : decode cL_law 817 = .ok (.iload_n 3, 1) := dL_law_808_b.2.2.2.2.2.1
theorem dL_law_818 : decode cL_law 818 = .ok (.iconst 1, 1) := dL_law_808_b.2.2.2.2.2.2.1
theorem dL_law_819 : decode cL_law 819 = .ok (.iadd, 1) := dL_law_808_b.2.2.2.2.2.2.2
theorem dL_law_820_b : (decode cL_law 820 = .ok (.iaload, 1)) ∧ (decode cL_law 821 = .ok (.invokevirtual 86, 3)) ∧ (decode cL_law 824 = .ok (.pop, 1)) ∧ (decode cL_law 825 = .ok (.aload_n 2, 1)) ∧ (decode cL_law 826 = .ok (.aload_n 0, 1)) ∧ (decode cL_law 827 = .ok (.iload_n 3, 1)) ∧ (decode cL_law 828 = .ok (.iconst 1, 1)) ∧ (decode cL_law 829 = .ok (.iadd, 1)) := by decide +kernel
theorem dL_law_820 : decode cL_law 820 = .ok (.iaload, 1) := dL_law_820_b.1
theorem dL_law_821 : decode cL_law 821 = .ok (.invokevirtual 86, 3) := dL_law_820_b.2.1
theorem dL_law_824 : decode cL_law 824 = .ok (.pop, 1) := dL_law_820_b.2.2.1
theorem dL_law_825 : decode cL_law 825 = .ok (.aload_n 2, 1) := dL_law_820_b.2.2.2.1
theorem dL_law_826 : decode cL_law 826 = .ok (.aload_n 0, 1) := dL_law_820_b.2.2.2.2.1
theorem dL_law_827 : decode cL_law 827 = .ok (.iload_n 3, 1) := dL_law_820_b.2.2.2.2.2.1
theorem dL_law_828 : decode cL_law 828 = .ok (.iconst 1, 1) := dL_law_820_b.2.2.2.2.2.2.1
theorem dL_law_829 : decode cL_law 829 = .ok (.iadd, 1) := dL_law_820_b.2.2.2.2.2.2.2
theorem dL_law_830_b : (decode cL_law 830 = .ok (.iaload, 1)) ∧ (decode cL_law 831 = .ok (.invokevirtual 89, 3)) ∧ (decode cL_law 834 = .ok (.pop, 1)) ∧ (decode cL_law 835 = .ok (.goto 589, 3)) ∧ (decode cL_law 838 = .ok (.aload_n 1, 1)) ∧ (decode cL_law 839 = .ok (.aload_n 0, 1)) ∧ (decode cL_law 840 = .ok (.iload_n 3, 1)) ∧ (decode cL_law 841 = .ok (.iconst 1, 1)) := by decide +kernel
theorem dL_law_830 : decode cL_law 830 = .ok (.iaload, 1) := dL_law_830_b.1
theorem dL_law_831 : decode cL_law 831 = .ok (.invokevirtual 89, 3) := dL_law_830_b.2.1
theorem dL_law_834 : decode cL_law 834 = .ok (.pop, 1) := dL_law_830_b.2.2.1
theorem dL_law_835 : decode cL_law 835 = .ok (.goto 589, 3) := dL_law_830_b.2.2.2.1
theorem dL_law_838 : decode cL_law 838 = .ok (.aload_n 1, 1) := dL_law_830_b.2.2.2.2.1
theorem dL_law_839 : decode cL_law 839 = .ok (.aload_n 0, 1) := dL_law_830_b.2.2.2.2.2.1
theorem dL_law_840 : decode cL_law 840 = .ok (.iload_n 3, 1) := dL_law_830_b.2.2.2.2.2.2.1
theorem dL_law_841 : decode cL_law 841 = .ok (.iconst 1, 1) := dL_law_830_b.2.2.2.2.2.2.2
theorem dL_law_842_b : (decode cL_law 842 = .ok (.iadd, 1)) ∧ (decode cL_law 843 = .ok (.iaload, 1)) ∧ (decode cL_law 844 = .ok (.aload_n 0, 1)) ∧ (decode cL_law 845 = .ok (.iload_n 3, 1)) ∧ (decode cL_law 846 = .ok (.iconst 2, 1)) ∧ (decode cL_law 847 = .ok (.iadd, 1)) ∧ (decode cL_law 848 = .ok (.iaload, 1)) ∧ (decode cL_law 849 = .ok (.invokevirtual 90, 3)) := by decide +kernel
theorem dL_law_842 : decode cL_law 842 = .ok (.iadd, 1) := dL_law_842_b.1
theorem dL_law_843 : decode cL_law 843 = .ok (.iaload, 1) := dL_law_842_b.2.1
theorem dL_law_844 : decode cL_law 844 = .ok (.aload_n 0, 1) := dL_law_842_b.2.2.1
theorem dL_law_845 : decode cL_law 845 = .ok (.iload_n 3, 1) := dL_law_842_b.2.2.2.1
theorem dL_law_846 : decode cL_law 846 = .ok (.iconst 2, 1) := dL_law_842_b.2.2.2.2.1
theorem dL_law_847 : decode cL_law 847 = .ok (.iadd, 1) := dL_law_842_b.2.2.2.2.2.1
theorem dL_law_848 : decode cL_law 848 = .ok (.iaload, 1) := dL_law_842_b.2.2.2.2.2.2.1
theorem dL_law_849 : decode cL_law 849 = .ok (.invokevirtual 90, 3) := dL_law_842_b.2.2.2.2.2.2.2
theorem dL_law_852_b : (decode cL_law 852 = .ok (.pop, 1)) ∧ (decode cL_law 853 = .ok (.aload_n 2, 1)) ∧ (decode cL_law 854 = .ok (.aload_n 0, 1)) ∧ (decode cL_law 855 = .ok (.iload_n 3, 1)) ∧ (decode cL_law 856 = .ok (.iconst 1, 1)) ∧ (decode cL_law 857 = .ok (.iadd, 1)) ∧ (decode cL_law 858 = .ok (.iaload, 1)) ∧ (decode cL_law 859 = .ok (.aload_n 0, 1)) := by decide +kernel
theorem dL_law_852 : decode cL_law 852 = .ok (.pop, 1) := dL_law_852_b.1
theorem dL_law_853 : decode cL_law 853 = .ok (.aload_n 2, 1) := dL_law_852_b.2.1
theorem dL_law_854 : decode cL_law 854 = .ok (.aload_n 0, 1) := dL_law_852_b.2.2.1
theorem dL_law_855 : decode cL_law 855 = .ok (.iload_n 3, 1) := dL_law_852_b.2.2.2.1
theorem dL_law_856 : decode cL_law 856 = .ok (.iconst 1, 1) := dL_law_852_b.2.2.2.2.1
theorem dL_law_857 : decode cL_law 857 = .ok (.iadd, 1) := dL_law_852_b.2.2.2.2.2.1
theorem dL_law_858 : decode cL_law 858 = .ok (.iaload, 1) := dL_law_852_b.2.2.2.2.2.2.1
theorem dL_law_859 : decode cL_law 859 = .ok (.aload_n 0, 1) := dL_law_852_b.2.2.2.2.2.2.2
theorem dL_law_860_b : (decode cL_law 860 = .ok (.iload_n 3, 1)) ∧ (decode cL_law 861 = .ok (.iconst 2, 1)) ∧ (decode cL_law 862 = .ok (.iadd, 1)) ∧ (decode cL_law 863 = .ok (.iaload, 1)) ∧ (decode cL_law 864 = .ok (.invokevirtual 94, 3)) ∧ (decode cL_law 867 = .ok (.pop, 1)) ∧ (decode cL_law 868 = .ok (.goto 556, 3)) ∧ (decode cL_law 871 = .ok (.aload_n 1, 1)) := by decide +kernel
theorem dL_law_860 : decode cL_law 860 = .ok (.iload_n 3, 1) := dL_law_860_b.1
theorem dL_law_861 : decode cL_law 861 = .ok (.iconst 2, 1) := dL_law_860_b.2.1
theorem dL_law_862 : decode cL_law 862 = .ok (.iadd, 1) := dL_law_860_b.2.2.1
theorem dL_law_863 : decode cL_law 863 = .ok (.iaload, 1) := dL_law_860_b.2.2.2.1
theorem dL_law_864 : decode cL_law 864 = .ok (.invokevirtual 94, 3) := dL_law_860_b.2.2.2.2.1
theorem dL_law_867 : decode cL_law 867 = .ok (.pop, 1) := dL_law_860_b.2.2.2.2.2.1
theorem dL_law_868 : decode cL_law 868 = .ok (.goto 556, 3) := dL_law_860_b.2.2.2.2.2.2.1
theorem dL_law_871 : decode cL_law 871 = .ok (.aload_n 1, 1) := dL_law_860_b.2.2.2.2.2.2.2
theorem dL_law_872_b : (decode cL_law 872 = .ok (.aload_n 0, 1)) ∧ (decode cL_law 873 = .ok (.iload_n 3, 1)) ∧ (decode cL_law 874 = .ok (.iconst 1, 1)) ∧ (decode cL_law 875 = .ok (.iadd, 1)) ∧ (decode cL_law 876 = .ok (.iaload, 1)) ∧ (decode cL_law 877 = .ok (.aload_n 0, 1)) ∧ (decode cL_law 878 = .ok (.iload_n 3, 1)) ∧ (decode cL_law 879 = .ok (.iconst 2, 1)) := by decide +kernel
theorem dL_law_872 : decode cL_law 872 = .ok (.aload_n 0, 1) := dL_law_872_b.1
theorem dL_law_873 : decode cL_law 873 = .ok (.iload_n 3, 1) := dL_law_872_b.2.1
theorem dL_law_874 : decode cL_law 874 = .ok (.iconst 1, 1) := dL_law_872_b.2.2.1
theorem dL_law_875 : decode cL_law 875 = .ok (.iadd, 1) := dL_law_872_b.2.2.2.1
theorem dL_law_876 : decode cL_law 876 = .ok (.iaload, 1) := dL_law_872_b.2.2.2.2.1
theorem dL_law_877 : decode cL_law 877 = .ok (.aload_n 0, 1) := dL_law_872_b.2.2.2.2.2.1
theorem dL_law_878 : decode cL_law 878 = .ok (.iload_n 3, 1) := dL_law_872_b.2.2.2.2.2.2.1
theorem dL_law_879 : decode cL_law 879 = .ok (.iconst 2, 1) := dL_law_872_b.2.2.2.2.2.2.2
theorem dL_law_880_b : (decode cL_law 880 = .ok (.iadd, 1)) ∧ (decode cL_law 881 = .ok (.iaload, 1)) ∧ (decode cL_law 882 = .ok (.ifCond .eq 7, 3)) ∧ (decode cL_law 885 = .ok (.iconst 1, 1)) := by decide +kernel
theorem dL_law_880 : decode cL_law 880 = .ok (.iadd, 1) := dL_law_880_b.1
theorem dL_law_881 : decode cL_law 881 = .ok (.iaload, 1) := dL_law_880_b.2.1
theorem dL_law_882 : decode cL_law 882 = .ok (.ifCond .eq 7, 3) := dL_law_880_b.2.2.1
theorem dL_law_885 : decode cL_law 885 = .ok (.iconst 1, 1) := dL_law_880_b.2.2.2
